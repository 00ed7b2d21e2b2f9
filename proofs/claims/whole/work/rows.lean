section
-- ===== PART A: goes FIRST, ahead of the names: the tables' words, and 'selects' of the private methods out of them =====
/-- a private method of a class that the tables say can be made, by its rows of tables_1 -/
def lw_okq (q : MethodName × Nat) : Prop := (q.1.cls ≠ "java/lang/invoke/MethodHandle" ∧ q.1.cls ≠ "java/lang/invoke/VarHandle") ∧ Cond.instantiable q.1.cls q.2 ∈ tables_1 ∧ Cond.privateMethod q.1 ∈ tables_1 ∧ Cond.instanceMethod q.1 ∈ tables_1
theorem lw_p0 : lw_okq (⟨"ThanksOwed$Page", "fits", "(I)Z"⟩, 2) := ⟨⟨by decide +kernel, by decide +kernel⟩, List.mem_of_getElem? (i := 25) (by decide +kernel), List.mem_of_getElem? (i := 255) (by decide +kernel), List.mem_of_getElem? (i := 256) (by decide +kernel)⟩
theorem lw_p1 : lw_okq (⟨"ThanksOwed$Town", "passPairWeek", "(II)I"⟩, 8) := ⟨⟨by decide +kernel, by decide +kernel⟩, List.mem_of_getElem? (i := 42) (by decide +kernel), List.mem_of_getElem? (i := 387) (by decide +kernel), List.mem_of_getElem? (i := 388) (by decide +kernel)⟩
theorem lw_p2 : lw_okq (⟨"ThanksOwed", "foreseeRuin", "()V"⟩, 13) := ⟨⟨by decide +kernel, by decide +kernel⟩, List.mem_of_getElem? (i := 17) (by decide +kernel), List.mem_of_getElem? (i := 429) (by decide +kernel), List.mem_of_getElem? (i := 430) (by decide +kernel)⟩
theorem lw_p3 : lw_okq (⟨"ThanksOwed", "noteRuined", "(I)V"⟩, 13) := ⟨⟨by decide +kernel, by decide +kernel⟩, List.mem_of_getElem? (i := 17) (by decide +kernel), List.mem_of_getElem? (i := 444) (by decide +kernel), List.mem_of_getElem? (i := 445) (by decide +kernel)⟩
theorem lw_p4 : lw_okq (⟨"ThanksOwed$Settlement", "mostWithoutOne", "(II)I"⟩, 2) := ⟨⟨by decide +kernel, by decide +kernel⟩, List.mem_of_getElem? (i := 153) (by decide +kernel), List.mem_of_getElem? (i := 462) (by decide +kernel), List.mem_of_getElem? (i := 463) (by decide +kernel)⟩
theorem lw_p5 : lw_okq (⟨"ThanksOwed$RingSearch", "extend", "(LThanksOwed$Town;III)V"⟩, 4) := ⟨⟨by decide +kernel, by decide +kernel⟩, List.mem_of_getElem? (i := 134) (by decide +kernel), List.mem_of_getElem? (i := 479) (by decide +kernel), List.mem_of_getElem? (i := 480) (by decide +kernel)⟩
theorem lw_p6 : lw_okq (⟨"ThanksOwed$RingSearch", "close", "(II)V"⟩, 4) := ⟨⟨by decide +kernel, by decide +kernel⟩, List.mem_of_getElem? (i := 134) (by decide +kernel), List.mem_of_getElem? (i := 485) (by decide +kernel), List.mem_of_getElem? (i := 486) (by decide +kernel)⟩
theorem lw_p7 : lw_okq (⟨"ThanksOwed$RingSearch", "isInRow", "(II)Z"⟩, 4) := ⟨⟨by decide +kernel, by decide +kernel⟩, List.mem_of_getElem? (i := 134) (by decide +kernel), List.mem_of_getElem? (i := 490) (by decide +kernel), List.mem_of_getElem? (i := 491) (by decide +kernel)⟩
theorem lw_p8 : lw_okq (⟨"ThanksOwed$Acceptance", "owedBehind", "(LThanksOwed$Town;LThanksOwed$Offers;III)I"⟩, 2) := ⟨⟨by decide +kernel, by decide +kernel⟩, List.mem_of_getElem? (i := 166) (by decide +kernel), List.mem_of_getElem? (i := 527) (by decide +kernel), List.mem_of_getElem? (i := 528) (by decide +kernel)⟩
theorem lw_p9 : lw_okq (⟨"ThanksOwed$Acceptance", "weigh", "(II)V"⟩, 2) := ⟨⟨by decide +kernel, by decide +kernel⟩, List.mem_of_getElem? (i := 166) (by decide +kernel), List.mem_of_getElem? (i := 545) (by decide +kernel), List.mem_of_getElem? (i := 546) (by decide +kernel)⟩
theorem lw_p10 : lw_okq (⟨"ThanksOwed", "digestPerson", "(JI)J"⟩, 13) := ⟨⟨by decide +kernel, by decide +kernel⟩, List.mem_of_getElem? (i := 17) (by decide +kernel), List.mem_of_getElem? (i := 613) (by decide +kernel), List.mem_of_getElem? (i := 614) (by decide +kernel)⟩
theorem lw_p11 : lw_okq (⟨"ThanksOwedModel", "faultNow", "()I"⟩, 36) := ⟨⟨by decide +kernel, by decide +kernel⟩, List.mem_of_getElem? (i := 621) (by decide +kernel), List.mem_of_getElem? (i := 752) (by decide +kernel), List.mem_of_getElem? (i := 753) (by decide +kernel)⟩
theorem lw_p12 : lw_okq (⟨"ThanksOwedModel", "isGood", "(I)Z"⟩, 36) := ⟨⟨by decide +kernel, by decide +kernel⟩, List.mem_of_getElem? (i := 621) (by decide +kernel), List.mem_of_getElem? (i := 756) (by decide +kernel), List.mem_of_getElem? (i := 757) (by decide +kernel)⟩
theorem lw_p13 : lw_okq (⟨"ThanksOwedModel", "clearPair", "(I)V"⟩, 36) := ⟨⟨by decide +kernel, by decide +kernel⟩, List.mem_of_getElem? (i := 621) (by decide +kernel), List.mem_of_getElem? (i := 768) (by decide +kernel), List.mem_of_getElem? (i := 769) (by decide +kernel)⟩
theorem lw_p14 : lw_okq (⟨"ThanksOwedModel", "isPerson", "(I)Z"⟩, 36) := ⟨⟨by decide +kernel, by decide +kernel⟩, List.mem_of_getElem? (i := 621) (by decide +kernel), List.mem_of_getElem? (i := 776) (by decide +kernel), List.mem_of_getElem? (i := 777) (by decide +kernel)⟩
theorem lw_p15 : lw_okq (⟨"ThanksOwedModel", "personNow", "(II)I"⟩, 36) := ⟨⟨by decide +kernel, by decide +kernel⟩, List.mem_of_getElem? (i := 621) (by decide +kernel), List.mem_of_getElem? (i := 780) (by decide +kernel), List.mem_of_getElem? (i := 781) (by decide +kernel)⟩
def lw_privs_1 : List (MethodName × Nat) := [(⟨"ThanksOwed$Page", "fits", "(I)Z"⟩, 2), (⟨"ThanksOwed$Town", "passPairWeek", "(II)I"⟩, 8), (⟨"ThanksOwed", "foreseeRuin", "()V"⟩, 13), (⟨"ThanksOwed", "noteRuined", "(I)V"⟩, 13), (⟨"ThanksOwed$Settlement", "mostWithoutOne", "(II)I"⟩, 2), (⟨"ThanksOwed$RingSearch", "extend", "(LThanksOwed$Town;III)V"⟩, 4), (⟨"ThanksOwed$RingSearch", "close", "(II)V"⟩, 4), (⟨"ThanksOwed$RingSearch", "isInRow", "(II)Z"⟩, 4), (⟨"ThanksOwed$Acceptance", "owedBehind", "(LThanksOwed$Town;LThanksOwed$Offers;III)I"⟩, 2), (⟨"ThanksOwed$Acceptance", "weigh", "(II)V"⟩, 2), (⟨"ThanksOwed", "digestPerson", "(JI)J"⟩, 13), (⟨"ThanksOwedModel", "faultNow", "()I"⟩, 36), (⟨"ThanksOwedModel", "isGood", "(I)Z"⟩, 36), (⟨"ThanksOwedModel", "clearPair", "(I)V"⟩, 36), (⟨"ThanksOwedModel", "isPerson", "(I)Z"⟩, 36), (⟨"ThanksOwedModel", "personNow", "(II)I"⟩, 36)]
theorem lw_r1 : ∀ q ∈ lw_privs_1, lw_okq q := List.forall_mem_cons.mpr ⟨lw_p0, List.forall_mem_cons.mpr ⟨lw_p1, List.forall_mem_cons.mpr ⟨lw_p2, List.forall_mem_cons.mpr ⟨lw_p3, List.forall_mem_cons.mpr ⟨lw_p4, List.forall_mem_cons.mpr ⟨lw_p5, List.forall_mem_cons.mpr ⟨lw_p6, List.forall_mem_cons.mpr ⟨lw_p7, List.forall_mem_cons.mpr ⟨lw_p8, List.forall_mem_cons.mpr ⟨lw_p9, List.forall_mem_cons.mpr ⟨lw_p10, List.forall_mem_cons.mpr ⟨lw_p11, List.forall_mem_cons.mpr ⟨lw_p12, List.forall_mem_cons.mpr ⟨lw_p13, List.forall_mem_cons.mpr ⟨lw_p14, List.forall_mem_cons.mpr ⟨lw_p15, fun _ h => absurd h List.not_mem_nil⟩⟩⟩⟩⟩⟩⟩⟩⟩⟩⟩⟩⟩⟩⟩⟩
theorem lw_p16 : lw_okq (⟨"ThanksOwedModel", "owesAll", "(II)I"⟩, 36) := ⟨⟨by decide +kernel, by decide +kernel⟩, List.mem_of_getElem? (i := 621) (by decide +kernel), List.mem_of_getElem? (i := 784) (by decide +kernel), List.mem_of_getElem? (i := 785) (by decide +kernel)⟩
theorem lw_p17 : lw_okq (⟨"ThanksOwedModel", "owedBy", "(II)I"⟩, 36) := ⟨⟨by decide +kernel, by decide +kernel⟩, List.mem_of_getElem? (i := 621) (by decide +kernel), List.mem_of_getElem? (i := 788) (by decide +kernel), List.mem_of_getElem? (i := 789) (by decide +kernel)⟩
theorem lw_p18 : lw_okq (⟨"ThanksOwedModel", "net", "(II)I"⟩, 36) := ⟨⟨by decide +kernel, by decide +kernel⟩, List.mem_of_getElem? (i := 621) (by decide +kernel), List.mem_of_getElem? (i := 792) (by decide +kernel), List.mem_of_getElem? (i := 793) (by decide +kernel)⟩
theorem lw_p19 : lw_okq (⟨"ThanksOwedModel", "areTwo", "(II)Z"⟩, 36) := ⟨⟨by decide +kernel, by decide +kernel⟩, List.mem_of_getElem? (i := 621) (by decide +kernel), List.mem_of_getElem? (i := 804) (by decide +kernel), List.mem_of_getElem? (i := 805) (by decide +kernel)⟩
theorem lw_p20 : lw_okq (⟨"ThanksOwedModel", "betweenNow", "(III)I"⟩, 36) := ⟨⟨by decide +kernel, by decide +kernel⟩, List.mem_of_getElem? (i := 621) (by decide +kernel), List.mem_of_getElem? (i := 808) (by decide +kernel), List.mem_of_getElem? (i := 809) (by decide +kernel)⟩
theorem lw_p21 : lw_okq (⟨"ThanksOwedModel", "neverThanks", "(I)Z"⟩, 36) := ⟨⟨by decide +kernel, by decide +kernel⟩, List.mem_of_getElem? (i := 621) (by decide +kernel), List.mem_of_getElem? (i := 816) (by decide +kernel), List.mem_of_getElem? (i := 817) (by decide +kernel)⟩
theorem lw_p22 : lw_okq (⟨"ThanksOwedModel", "thank", "(IIII)V"⟩, 36) := ⟨⟨by decide +kernel, by decide +kernel⟩, List.mem_of_getElem? (i := 621) (by decide +kernel), List.mem_of_getElem? (i := 820) (by decide +kernel), List.mem_of_getElem? (i := 821) (by decide +kernel)⟩
theorem lw_p23 : lw_okq (⟨"ThanksOwedModel", "grunt", "(III)V"⟩, 36) := ⟨⟨by decide +kernel, by decide +kernel⟩, List.mem_of_getElem? (i := 621) (by decide +kernel), List.mem_of_getElem? (i := 830) (by decide +kernel), List.mem_of_getElem? (i := 831) (by decide +kernel)⟩
theorem lw_p24 : lw_okq (⟨"ThanksOwedModel", "goWeek", "(I)I"⟩, 36) := ⟨⟨by decide +kernel, by decide +kernel⟩, List.mem_of_getElem? (i := 621) (by decide +kernel), List.mem_of_getElem? (i := 838) (by decide +kernel), List.mem_of_getElem? (i := 839) (by decide +kernel)⟩
theorem lw_p25 : lw_okq (⟨"ThanksOwedModel", "grows", "(III)I"⟩, 36) := ⟨⟨by decide +kernel, by decide +kernel⟩, List.mem_of_getElem? (i := 621) (by decide +kernel), List.mem_of_getElem? (i := 842) (by decide +kernel), List.mem_of_getElem? (i := 843) (by decide +kernel)⟩
theorem lw_p26 : lw_okq (⟨"ThanksOwedModel", "ruinNow", "(I)I"⟩, 36) := ⟨⟨by decide +kernel, by decide +kernel⟩, List.mem_of_getElem? (i := 621) (by decide +kernel), List.mem_of_getElem? (i := 870) (by decide +kernel), List.mem_of_getElem? (i := 871) (by decide +kernel)⟩
theorem lw_p27 : lw_okq (⟨"ThanksOwedModel", "copy", "()V"⟩, 36) := ⟨⟨by decide +kernel, by decide +kernel⟩, List.mem_of_getElem? (i := 621) (by decide +kernel), List.mem_of_getElem? (i := 874) (by decide +kernel), List.mem_of_getElem? (i := 875) (by decide +kernel)⟩
theorem lw_p28 : lw_okq (⟨"ThanksOwedModel", "settlingNow", "()I"⟩, 36) := ⟨⟨by decide +kernel, by decide +kernel⟩, List.mem_of_getElem? (i := 621) (by decide +kernel), List.mem_of_getElem? (i := 882) (by decide +kernel), List.mem_of_getElem? (i := 883) (by decide +kernel)⟩
theorem lw_p29 : lw_okq (⟨"ThanksOwedModel", "layGroups", "(II)V"⟩, 36) := ⟨⟨by decide +kernel, by decide +kernel⟩, List.mem_of_getElem? (i := 621) (by decide +kernel), List.mem_of_getElem? (i := 886) (by decide +kernel), List.mem_of_getElem? (i := 887) (by decide +kernel)⟩
theorem lw_p30 : lw_okq (⟨"ThanksOwedModel", "bestRingNow", "(I)I"⟩, 36) := ⟨⟨by decide +kernel, by decide +kernel⟩, List.mem_of_getElem? (i := 621) (by decide +kernel), List.mem_of_getElem? (i := 897) (by decide +kernel), List.mem_of_getElem? (i := 898) (by decide +kernel)⟩
theorem lw_p31 : lw_okq (⟨"ThanksOwedModel", "ringBy", "(II)I"⟩, 36) := ⟨⟨by decide +kernel, by decide +kernel⟩, List.mem_of_getElem? (i := 621) (by decide +kernel), List.mem_of_getElem? (i := 901) (by decide +kernel), List.mem_of_getElem? (i := 902) (by decide +kernel)⟩
def lw_privs_2 : List (MethodName × Nat) := [(⟨"ThanksOwedModel", "owesAll", "(II)I"⟩, 36), (⟨"ThanksOwedModel", "owedBy", "(II)I"⟩, 36), (⟨"ThanksOwedModel", "net", "(II)I"⟩, 36), (⟨"ThanksOwedModel", "areTwo", "(II)Z"⟩, 36), (⟨"ThanksOwedModel", "betweenNow", "(III)I"⟩, 36), (⟨"ThanksOwedModel", "neverThanks", "(I)Z"⟩, 36), (⟨"ThanksOwedModel", "thank", "(IIII)V"⟩, 36), (⟨"ThanksOwedModel", "grunt", "(III)V"⟩, 36), (⟨"ThanksOwedModel", "goWeek", "(I)I"⟩, 36), (⟨"ThanksOwedModel", "grows", "(III)I"⟩, 36), (⟨"ThanksOwedModel", "ruinNow", "(I)I"⟩, 36), (⟨"ThanksOwedModel", "copy", "()V"⟩, 36), (⟨"ThanksOwedModel", "settlingNow", "()I"⟩, 36), (⟨"ThanksOwedModel", "layGroups", "(II)V"⟩, 36), (⟨"ThanksOwedModel", "bestRingNow", "(I)I"⟩, 36), (⟨"ThanksOwedModel", "ringBy", "(II)I"⟩, 36)]
theorem lw_r2 : ∀ q ∈ lw_privs_2, lw_okq q := List.forall_mem_cons.mpr ⟨lw_p16, List.forall_mem_cons.mpr ⟨lw_p17, List.forall_mem_cons.mpr ⟨lw_p18, List.forall_mem_cons.mpr ⟨lw_p19, List.forall_mem_cons.mpr ⟨lw_p20, List.forall_mem_cons.mpr ⟨lw_p21, List.forall_mem_cons.mpr ⟨lw_p22, List.forall_mem_cons.mpr ⟨lw_p23, List.forall_mem_cons.mpr ⟨lw_p24, List.forall_mem_cons.mpr ⟨lw_p25, List.forall_mem_cons.mpr ⟨lw_p26, List.forall_mem_cons.mpr ⟨lw_p27, List.forall_mem_cons.mpr ⟨lw_p28, List.forall_mem_cons.mpr ⟨lw_p29, List.forall_mem_cons.mpr ⟨lw_p30, List.forall_mem_cons.mpr ⟨lw_p31, fun _ h => absurd h List.not_mem_nil⟩⟩⟩⟩⟩⟩⟩⟩⟩⟩⟩⟩⟩⟩⟩⟩
theorem lw_p32 : lw_okq (⟨"ThanksOwedModel", "acceptNow", "(IIII)I"⟩, 36) := ⟨⟨by decide +kernel, by decide +kernel⟩, List.mem_of_getElem? (i := 621) (by decide +kernel), List.mem_of_getElem? (i := 918) (by decide +kernel), List.mem_of_getElem? (i := 919) (by decide +kernel)⟩
theorem lw_p33 : lw_okq (⟨"ThanksOwedModel", "owesBy", "(IIII)I"⟩, 36) := ⟨⟨by decide +kernel, by decide +kernel⟩, List.mem_of_getElem? (i := 621) (by decide +kernel), List.mem_of_getElem? (i := 922) (by decide +kernel), List.mem_of_getElem? (i := 923) (by decide +kernel)⟩
theorem lw_p34 : lw_okq (⟨"ThanksOwedModel", "grownNow", "(IIIII)I"⟩, 36) := ⟨⟨by decide +kernel, by decide +kernel⟩, List.mem_of_getElem? (i := 621) (by decide +kernel), List.mem_of_getElem? (i := 930) (by decide +kernel), List.mem_of_getElem? (i := 931) (by decide +kernel)⟩
theorem lw_p35 : lw_okq (⟨"ThanksOwedModel", "yearsNow", "(III)I"⟩, 36) := ⟨⟨by decide +kernel, by decide +kernel⟩, List.mem_of_getElem? (i := 621) (by decide +kernel), List.mem_of_getElem? (i := 938) (by decide +kernel), List.mem_of_getElem? (i := 939) (by decide +kernel)⟩
theorem lw_p36 : lw_okq (⟨"ThanksOwedModel", "goYear", "()V"⟩, 36) := ⟨⟨by decide +kernel, by decide +kernel⟩, List.mem_of_getElem? (i := 621) (by decide +kernel), List.mem_of_getElem? (i := 942) (by decide +kernel), List.mem_of_getElem? (i := 943) (by decide +kernel)⟩
theorem lw_p37 : lw_okq (⟨"ThanksOwedModel", "draw", "(I)I"⟩, 36) := ⟨⟨by decide +kernel, by decide +kernel⟩, List.mem_of_getElem? (i := 621) (by decide +kernel), List.mem_of_getElem? (i := 946) (by decide +kernel), List.mem_of_getElem? (i := 947) (by decide +kernel)⟩
theorem lw_p38 : lw_okq (⟨"ThanksOwedModel", "howMany", "(I)I"⟩, 36) := ⟨⟨by decide +kernel, by decide +kernel⟩, List.mem_of_getElem? (i := 621) (by decide +kernel), List.mem_of_getElem? (i := 966) (by decide +kernel), List.mem_of_getElem? (i := 967) (by decide +kernel)⟩
theorem lw_p39 : lw_okq (⟨"ThanksOwedModel", "ruinedMany", "()I"⟩, 36) := ⟨⟨by decide +kernel, by decide +kernel⟩, List.mem_of_getElem? (i := 621) (by decide +kernel), List.mem_of_getElem? (i := 970) (by decide +kernel), List.mem_of_getElem? (i := 971) (by decide +kernel)⟩
theorem lw_p40 : lw_okq (⟨"ThanksOwedModel", "owedAll", "()I"⟩, 36) := ⟨⟨by decide +kernel, by decide +kernel⟩, List.mem_of_getElem? (i := 621) (by decide +kernel), List.mem_of_getElem? (i := 974) (by decide +kernel), List.mem_of_getElem? (i := 975) (by decide +kernel)⟩
theorem lw_p41 : lw_okq (⟨"ThanksOwedModel", "mixPerson", "(I)V"⟩, 36) := ⟨⟨by decide +kernel, by decide +kernel⟩, List.mem_of_getElem? (i := 621) (by decide +kernel), List.mem_of_getElem? (i := 983) (by decide +kernel), List.mem_of_getElem? (i := 984) (by decide +kernel)⟩
theorem lw_p42 : lw_okq (⟨"ThanksOwedModel", "mix", "(J)V"⟩, 36) := ⟨⟨by decide +kernel, by decide +kernel⟩, List.mem_of_getElem? (i := 621) (by decide +kernel), List.mem_of_getElem? (i := 987) (by decide +kernel), List.mem_of_getElem? (i := 988) (by decide +kernel)⟩
def lw_privs_3 : List (MethodName × Nat) := [(⟨"ThanksOwedModel", "acceptNow", "(IIII)I"⟩, 36), (⟨"ThanksOwedModel", "owesBy", "(IIII)I"⟩, 36), (⟨"ThanksOwedModel", "grownNow", "(IIIII)I"⟩, 36), (⟨"ThanksOwedModel", "yearsNow", "(III)I"⟩, 36), (⟨"ThanksOwedModel", "goYear", "()V"⟩, 36), (⟨"ThanksOwedModel", "draw", "(I)I"⟩, 36), (⟨"ThanksOwedModel", "howMany", "(I)I"⟩, 36), (⟨"ThanksOwedModel", "ruinedMany", "()I"⟩, 36), (⟨"ThanksOwedModel", "owedAll", "()I"⟩, 36), (⟨"ThanksOwedModel", "mixPerson", "(I)V"⟩, 36), (⟨"ThanksOwedModel", "mix", "(J)V"⟩, 36)]
theorem lw_r3 : ∀ q ∈ lw_privs_3, lw_okq q := List.forall_mem_cons.mpr ⟨lw_p32, List.forall_mem_cons.mpr ⟨lw_p33, List.forall_mem_cons.mpr ⟨lw_p34, List.forall_mem_cons.mpr ⟨lw_p35, List.forall_mem_cons.mpr ⟨lw_p36, List.forall_mem_cons.mpr ⟨lw_p37, List.forall_mem_cons.mpr ⟨lw_p38, List.forall_mem_cons.mpr ⟨lw_p39, List.forall_mem_cons.mpr ⟨lw_p40, List.forall_mem_cons.mpr ⟨lw_p41, List.forall_mem_cons.mpr ⟨lw_p42, fun _ h => absurd h List.not_mem_nil⟩⟩⟩⟩⟩⟩⟩⟩⟩⟩⟩
def lw_privs : List (MethodName × Nat) := lw_privs_1 ++ (lw_privs_2 ++ (lw_privs_3))
def lw_tbl : List Cond := k2_sels lw_privs ++ tables_1
theorem lw_privs_ok : ∀ q ∈ lw_privs, lw_okq q := by
  show ∀ q ∈ lw_privs_1 ++ (lw_privs_2 ++ (lw_privs_3)), lw_okq q
  exact List.forall_mem_append.mpr ⟨lw_r1, List.forall_mem_append.mpr ⟨lw_r2, lw_r3⟩⟩

def RX0 : String := "ThanksOwed$Acceptance"
def TX0 : u_T := fun k => match k with
  | 0 => ("ThanksOwed$Acceptance", "bits", "I", false)
  | _ => ("ThanksOwed$Acceptance", "owed", "I", false)
def tyX0 : Nat → FieldType := fun k => match k with
  | 0 => .int
  | _ => .int
abbrev wsX00 : List Cond := u_ws RX0 TX0 2
theorem nmX0 : ∀ a, a < 2 → ∀ b, b < 2 → a ≠ b → (TX0 a).2.1 ≠ (TX0 b).2.1 := by decide +kernel
theorem tyX0_ok : ∀ k, k < 2 → parseFieldDescriptor (TX0 k).2.2.1 = some (tyX0 k) := by decide +kernel
abbrev cX0_init : ByteArray := prog_2_method_1_code
def yX0_init : MethodName := ⟨RX0, "<init>", "()V"⟩
abbrev cX0_search : ByteArray := prog_2_method_2_code
def yX0_search : MethodName := ⟨RX0, "search", "(LThanksOwed$Town;LThanksOwed$Offers;III)V"⟩
abbrev cX0_weigh : ByteArray := prog_2_method_3_code
def yX0_weigh : MethodName := ⟨RX0, "weigh", "(II)V"⟩
abbrev cX0_owedBehind : ByteArray := prog_2_method_4_code
def yX0_owedBehind : MethodName := ⟨RX0, "owedBehind", "(LThanksOwed$Town;LThanksOwed$Offers;III)I"⟩
def RX1 : String := "ThanksOwed$Draws"
def TX1 : u_T := fun k => match k with
  | _ => ("ThanksOwed$Draws", "seed", "I", false)
def tyX1 : Nat → FieldType := fun k => match k with
  | _ => .int
abbrev wsX10 : List Cond := u_ws RX1 TX1 1
theorem nmX1 : ∀ a, a < 1 → ∀ b, b < 1 → a ≠ b → (TX1 a).2.1 ≠ (TX1 b).2.1 := by decide +kernel
theorem tyX1_ok : ∀ k, k < 1 → parseFieldDescriptor (TX1 k).2.2.1 = some (tyX1 k) := by decide +kernel
abbrev cX1_init : ByteArray := prog_3_method_1_code
def yX1_init : MethodName := ⟨RX1, "<init>", "()V"⟩
abbrev cX1_next : ByteArray := prog_3_method_2_code
def yX1_next : MethodName := ⟨RX1, "next", "(I)I"⟩
def RX2 : String := "ThanksOwed$Kind"
def TX2 : u_T := fun k => match k with
  | _ => ("", "", "", false)
def tyX2 : Nat → FieldType := fun k => match k with
  | _ => .int
abbrev wsX20 : List Cond := u_ws RX2 TX2 0
theorem nmX2 : ∀ a, a < 0 → ∀ b, b < 0 → a ≠ b → (TX2 a).2.1 ≠ (TX2 b).2.1 := by decide +kernel
theorem tyX2_ok : ∀ k, k < 0 → parseFieldDescriptor (TX2 k).2.2.1 = some (tyX2 k) := by decide +kernel
abbrev cX2_isA : ByteArray := prog_4_method_4_code
def yX2_isA : MethodName := ⟨RX2, "isA", "(LThanksOwed$Kind;)Z"⟩
def RX3 : String := "ThanksOwed$Law"
def TX3 : u_T := fun k => match k with
  | 0 => ("ThanksOwed$Law", "rate", "I", false)
  | 1 => ("ThanksOwed$Law", "up", "Z", false)
  | 2 => ("ThanksOwed$Law", "free", "I", false)
  | _ => ("ThanksOwed$Law", "sulk", "I", false)
def tyX3 : Nat → FieldType := fun k => match k with
  | 0 => .int
  | 1 => .boolean
  | 2 => .int
  | _ => .int
abbrev wsX30 : List Cond := u_ws RX3 TX3 4
theorem nmX3 : ∀ a, a < 4 → ∀ b, b < 4 → a ≠ b → (TX3 a).2.1 ≠ (TX3 b).2.1 := by decide +kernel
theorem tyX3_ok : ∀ k, k < 4 → parseFieldDescriptor (TX3 k).2.2.1 = some (tyX3 k) := by decide +kernel
abbrev cX3_init : ByteArray := prog_5_method_1_code
def yX3_init : MethodName := ⟨RX3, "<init>", "()V"⟩
abbrev cX3_readFrom : ByteArray := prog_5_method_2_code
def yX3_readFrom : MethodName := ⟨RX3, "readFrom", "(LThanksOwed$Page;)V"⟩
abbrev cX3_copyFrom : ByteArray := prog_5_method_3_code
def yX3_copyFrom : MethodName := ⟨RX3, "copyFrom", "(LThanksOwed$Law;)V"⟩
abbrev cX3_tenths : ByteArray := prog_5_method_4_code
def yX3_tenths : MethodName := ⟨RX3, "tenths", "(LThanksOwed$Kind;LThanksOwed$Kind;)I"⟩
abbrev cX3_owedNextWeek : ByteArray := prog_5_method_5_code
def yX3_owedNextWeek : MethodName := ⟨RX3, "owedNextWeek", "(II)I"⟩
abbrev cX3_owedAfter : ByteArray := prog_5_method_6_code
def yX3_owedAfter : MethodName := ⟨RX3, "owedAfter", "(IIII)I"⟩
def RX4 : String := "ThanksOwed$Offers"
def TX4 : u_T := fun k => match k with
  | 0 => ("ThanksOwed$Offers", "from", "[I", true)
  | 1 => ("ThanksOwed$Offers", "to", "[I", true)
  | 2 => ("ThanksOwed$Offers", "sizes", "[I", true)
  | _ => ("ThanksOwed$Offers", "count", "I", false)
def tyX4 : Nat → FieldType := fun k => match k with
  | 0 => .array .int
  | 1 => .array .int
  | 2 => .array .int
  | _ => .int
abbrev wsX40 : List Cond := u_ws RX4 TX4 4
theorem nmX4 : ∀ a, a < 4 → ∀ b, b < 4 → a ≠ b → (TX4 a).2.1 ≠ (TX4 b).2.1 := by decide +kernel
theorem tyX4_ok : ∀ k, k < 4 → parseFieldDescriptor (TX4 k).2.2.1 = some (tyX4 k) := by decide +kernel
abbrev cX4_init : ByteArray := prog_6_method_1_code
def yX4_init : MethodName := ⟨RX4, "<init>", "()V"⟩
abbrev cX4_copyFrom : ByteArray := prog_6_method_2_code
def yX4_copyFrom : MethodName := ⟨RX4, "copyFrom", "(LThanksOwed$Offers;)V"⟩
abbrev cX4_put : ByteArray := prog_6_method_3_code
def yX4_put : MethodName := ⟨RX4, "put", "(III)V"⟩
abbrev cX4_bitsFor : ByteArray := prog_6_method_4_code
def yX4_bitsFor : MethodName := ⟨RX4, "bitsFor", "(I)I"⟩
abbrev cX4_sizeOf : ByteArray := prog_6_method_5_code
def yX4_sizeOf : MethodName := ⟨RX4, "sizeOf", "(I)I"⟩
abbrev cX4_sizeFrom : ByteArray := prog_6_method_6_code
def yX4_sizeFrom : MethodName := ⟨RX4, "sizeFrom", "(II)I"⟩
def RX5 : String := "ThanksOwed$Page"
def TX5 : u_T := fun k => match k with
  | 0 => ("ThanksOwed$Page", "codes", "[I", true)
  | _ => ("ThanksOwed$Page", "length", "I", false)
def tyX5 : Nat → FieldType := fun k => match k with
  | 0 => .array .int
  | _ => .int
abbrev wsX50 : List Cond := u_ws RX5 TX5 2
theorem nmX5 : ∀ a, a < 2 → ∀ b, b < 2 → a ≠ b → (TX5 a).2.1 ≠ (TX5 b).2.1 := by decide +kernel
theorem tyX5_ok : ∀ k, k < 2 → parseFieldDescriptor (TX5 k).2.2.1 = some (tyX5 k) := by decide +kernel
abbrev cX5_init : ByteArray := prog_7_method_1_code
def yX5_init : MethodName := ⟨RX5, "<init>", "()V"⟩
abbrev cX5_put : ByteArray := prog_7_method_2_code
def yX5_put : MethodName := ⟨RX5, "put", "(I)V"⟩
abbrev cX5_firstFault : ByteArray := prog_7_method_3_code
def yX5_firstFault : MethodName := ⟨RX5, "firstFault", "()I"⟩
abbrev cX5_isLaw : ByteArray := prog_7_method_4_code
def yX5_isLaw : MethodName := ⟨RX5, "isLaw", "()Z"⟩
abbrev cX5_digit : ByteArray := prog_7_method_5_code
def yX5_digit : MethodName := ⟨RX5, "digit", "(I)I"⟩
abbrev cX5_fits : ByteArray := prog_7_method_6_code
def yX5_fits : MethodName := ⟨RX5, "fits", "(I)Z"⟩
def RX6 : String := "ThanksOwed$RingSearch"
def TX6 : u_T := fun k => match k with
  | 0 => ("ThanksOwed$RingSearch", "row", "[I", true)
  | 1 => ("ThanksOwed$RingSearch", "best", "[I", true)
  | 2 => ("ThanksOwed$RingSearch", "bestLength", "I", false)
  | _ => ("ThanksOwed$RingSearch", "bestTotal", "I", false)
def tyX6 : Nat → FieldType := fun k => match k with
  | 0 => .array .int
  | 1 => .array .int
  | 2 => .int
  | _ => .int
abbrev wsX60 : List Cond := u_ws RX6 TX6 4
theorem nmX6 : ∀ a, a < 4 → ∀ b, b < 4 → a ≠ b → (TX6 a).2.1 ≠ (TX6 b).2.1 := by decide +kernel
theorem tyX6_ok : ∀ k, k < 4 → parseFieldDescriptor (TX6 k).2.2.1 = some (tyX6 k) := by decide +kernel
abbrev cX6_init : ByteArray := prog_8_method_1_code
def yX6_init : MethodName := ⟨RX6, "<init>", "()V"⟩
abbrev cX6_search : ByteArray := prog_8_method_2_code
def yX6_search : MethodName := ⟨RX6, "search", "(LThanksOwed$Town;)V"⟩
abbrev cX6_tell : ByteArray := prog_8_method_3_code
def yX6_tell : MethodName := ⟨RX6, "tell", "(I)I"⟩
abbrev cX6_extend : ByteArray := prog_8_method_4_code
def yX6_extend : MethodName := ⟨RX6, "extend", "(LThanksOwed$Town;III)V"⟩
abbrev cX6_isInRow : ByteArray := prog_8_method_5_code
def yX6_isInRow : MethodName := ⟨RX6, "isInRow", "(II)Z"⟩
abbrev cX6_close : ByteArray := prog_8_method_6_code
def yX6_close : MethodName := ⟨RX6, "close", "(II)V"⟩
def RX7 : String := "ThanksOwed$Settlement"
def TX7 : u_T := fun k => match k with
  | 0 => ("ThanksOwed$Settlement", "sums", "[I", true)
  | _ => ("ThanksOwed$Settlement", "evenGroups", "[I", true)
def tyX7 : Nat → FieldType := fun k => match k with
  | 0 => .array .int
  | _ => .array .int
abbrev wsX70 : List Cond := u_ws RX7 TX7 2
theorem nmX7 : ∀ a, a < 2 → ∀ b, b < 2 → a ≠ b → (TX7 a).2.1 ≠ (TX7 b).2.1 := by decide +kernel
theorem tyX7_ok : ∀ k, k < 2 → parseFieldDescriptor (TX7 k).2.2.1 = some (tyX7 k) := by decide +kernel
abbrev cX7_init : ByteArray := prog_9_method_1_code
def yX7_init : MethodName := ⟨RX7, "<init>", "()V"⟩
abbrev cX7_fewestPayments : ByteArray := prog_9_method_2_code
def yX7_fewestPayments : MethodName := ⟨RX7, "fewestPayments", "(LThanksOwed$Town;)I"⟩
abbrev cX7_mostWithoutOne : ByteArray := prog_9_method_3_code
def yX7_mostWithoutOne : MethodName := ⟨RX7, "mostWithoutOne", "(II)I"⟩
def RX8 : String := "ThanksOwed$Town"
def TX8 : u_T := fun k => match k with
  | 0 => ("ThanksOwed$Town", "law", "LThanksOwed$Law;", true)
  | 1 => ("ThanksOwed$Town", "kinds", "[I", true)
  | 2 => ("ThanksOwed$Town", "wealth", "[I", true)
  | 3 => ("ThanksOwed$Town", "owes", "[I", true)
  | 4 => ("ThanksOwed$Town", "free", "[I", true)
  | 5 => ("ThanksOwed$Town", "offended", "[I", true)
  | 6 => ("ThanksOwed$Town", "people", "I", false)
  | _ => ("ThanksOwed$Town", "weeks", "I", false)
def tyX8 : Nat → FieldType := fun k => match k with
  | 0 => .object "ThanksOwed$Law"
  | 1 => .array .int
  | 2 => .array .int
  | 3 => .array .int
  | 4 => .array .int
  | 5 => .array .int
  | 6 => .int
  | _ => .int
abbrev wsX80 : List Cond := u_ws RX8 TX8 8
theorem nmX8 : ∀ a, a < 8 → ∀ b, b < 8 → a ≠ b → (TX8 a).2.1 ≠ (TX8 b).2.1 := by decide +kernel
theorem tyX8_ok : ∀ k, k < 8 → parseFieldDescriptor (TX8 k).2.2.1 = some (tyX8 k) := by decide +kernel
abbrev cX8_init : ByteArray := prog_10_method_1_code
def yX8_init : MethodName := ⟨RX8, "<init>", "()V"⟩
abbrev cX8_copyFrom : ByteArray := prog_10_method_2_code
def yX8_copyFrom : MethodName := ⟨RX8, "copyFrom", "(LThanksOwed$Town;)V"⟩
abbrev cX8_welcome : ByteArray := prog_10_method_3_code
def yX8_welcome : MethodName := ⟨RX8, "welcome", "(II)I"⟩
abbrev cX8_has : ByteArray := prog_10_method_4_code
def yX8_has : MethodName := ⟨RX8, "has", "(I)Z"⟩
abbrev cX8_hasBoth : ByteArray := prog_10_method_5_code
def yX8_hasBoth : MethodName := ⟨RX8, "hasBoth", "(II)Z"⟩
abbrev cX8_kindOf : ByteArray := prog_10_method_6_code
def yX8_kindOf : MethodName := ⟨RX8, "kindOf", "(I)LThanksOwed$Kind;"⟩
abbrev cX8_owedBy : ByteArray := prog_10_method_7_code
def yX8_owedBy : MethodName := ⟨RX8, "owedBy", "(I)I"⟩
abbrev cX8_owedTo : ByteArray := prog_10_method_8_code
def yX8_owedTo : MethodName := ⟨RX8, "owedTo", "(I)I"⟩
abbrev cX8_net : ByteArray := prog_10_method_9_code
def yX8_net : MethodName := ⟨RX8, "net", "(I)I"⟩
abbrev cX8_isRuined : ByteArray := prog_10_method_10_code
def yX8_isRuined : MethodName := ⟨RX8, "isRuined", "(I)Z"⟩
abbrev cX8_ruinedOnes : ByteArray := prog_10_method_11_code
def yX8_ruinedOnes : MethodName := ⟨RX8, "ruinedOnes", "()I"⟩
abbrev cX8_allOwed : ByteArray := prog_10_method_12_code
def yX8_allOwed : MethodName := ⟨RX8, "allOwed", "()I"⟩
abbrev cX8_isOffended : ByteArray := prog_10_method_13_code
def yX8_isOffended : MethodName := ⟨RX8, "isOffended", "(II)Z"⟩
abbrev cX8_thank : ByteArray := prog_10_method_14_code
def yX8_thank : MethodName := ⟨RX8, "thank", "(III)V"⟩
abbrev cX8_grunt : ByteArray := prog_10_method_15_code
def yX8_grunt : MethodName := ⟨RX8, "grunt", "(II)V"⟩
abbrev cX8_passWeek : ByteArray := prog_10_method_16_code
def yX8_passWeek : MethodName := ⟨RX8, "passWeek", "()I"⟩
abbrev cX8_passPairWeek : ByteArray := prog_10_method_17_code
def yX8_passPairWeek : MethodName := ⟨RX8, "passPairWeek", "(II)I"⟩
abbrev cX8_shareOut : ByteArray := prog_10_method_18_code
def yX8_shareOut : MethodName := ⟨RX8, "shareOut", "(II)I"⟩
abbrev cX8_liveWeek : ByteArray := prog_10_method_19_code
def yX8_liveWeek : MethodName := ⟨RX8, "liveWeek", "(LThanksOwed$Draws;)V"⟩
def RX9 : String := "ThanksOwed"
def TX9 : u_T := fun k => match k with
  | 0 => ("ThanksOwed", "page", "LThanksOwed$Page;", true)
  | 1 => ("ThanksOwed", "town", "LThanksOwed$Town;", true)
  | 2 => ("ThanksOwed", "offers", "LThanksOwed$Offers;", true)
  | 3 => ("ThanksOwed", "keptTown", "LThanksOwed$Town;", true)
  | 4 => ("ThanksOwed", "keptOffers", "LThanksOwed$Offers;", true)
  | 5 => ("ThanksOwed", "wouldBe", "LThanksOwed$Town;", true)
  | 6 => ("ThanksOwed", "rings", "LThanksOwed$RingSearch;", true)
  | 7 => ("ThanksOwed", "settlement", "LThanksOwed$Settlement;", true)
  | 8 => ("ThanksOwed", "acceptance", "LThanksOwed$Acceptance;", true)
  | 9 => ("ThanksOwed", "draws", "LThanksOwed$Draws;", true)
  | 10 => ("ThanksOwed", "ruinWeeks", "[I", true)
  | 11 => ("ThanksOwed", "imageKept", "Z", false)
  | _ => ("ThanksOwed", "lawsRead", "I", false)
def tyX9 : Nat → FieldType := fun k => match k with
  | 0 => .object "ThanksOwed$Page"
  | 1 => .object "ThanksOwed$Town"
  | 2 => .object "ThanksOwed$Offers"
  | 3 => .object "ThanksOwed$Town"
  | 4 => .object "ThanksOwed$Offers"
  | 5 => .object "ThanksOwed$Town"
  | 6 => .object "ThanksOwed$RingSearch"
  | 7 => .object "ThanksOwed$Settlement"
  | 8 => .object "ThanksOwed$Acceptance"
  | 9 => .object "ThanksOwed$Draws"
  | 10 => .array .int
  | 11 => .boolean
  | _ => .int
abbrev wsX90 : List Cond := u_ws RX9 TX9 13
theorem nmX9 : ∀ a, a < 13 → ∀ b, b < 13 → a ≠ b → (TX9 a).2.1 ≠ (TX9 b).2.1 := by decide +kernel
theorem tyX9_ok : ∀ k, k < 13 → parseFieldDescriptor (TX9 k).2.2.1 = some (tyX9 k) := by decide +kernel
abbrev cX9_init : ByteArray := prog_1_method_1_code
def yX9_init : MethodName := ⟨RX9, "<init>", "()V"⟩
abbrev cX9_letter : ByteArray := prog_1_method_2_code
def yX9_letter : MethodName := ⟨RX9, "letter", "(I)I"⟩
abbrev cX9_blank : ByteArray := prog_1_method_3_code
def yX9_blank : MethodName := ⟨RX9, "blank", "()I"⟩
abbrev cX9_fault : ByteArray := prog_1_method_4_code
def yX9_fault : MethodName := ⟨RX9, "fault", "()I"⟩
abbrev cX9_law : ByteArray := prog_1_method_5_code
def yX9_law : MethodName := ⟨RX9, "law", "()I"⟩
abbrev cX9_person : ByteArray := prog_1_method_6_code
def yX9_person : MethodName := ⟨RX9, "person", "(II)I"⟩
abbrev cX9_about : ByteArray := prog_1_method_7_code
def yX9_about : MethodName := ⟨RX9, "about", "(II)I"⟩
abbrev cX9_as : ByteArray := prog_1_method_8_code
def yX9_as : MethodName := ⟨RX9, "as", "(II)I"⟩
abbrev cX9_between : ByteArray := prog_1_method_9_code
def yX9_between : MethodName := ⟨RX9, "between", "(III)I"⟩
abbrev cX9_favour : ByteArray := prog_1_method_10_code
def yX9_favour : MethodName := ⟨RX9, "favour", "(IIIZ)I"⟩
abbrev cX9_week : ByteArray := prog_1_method_11_code
def yX9_week : MethodName := ⟨RX9, "week", "()I"⟩
abbrev cX9_pay : ByteArray := prog_1_method_12_code
def yX9_pay : MethodName := ⟨RX9, "pay", "(III)I"⟩
abbrev cX9_setOff : ByteArray := prog_1_method_13_code
def yX9_setOff : MethodName := ⟨RX9, "setOff", "(II)I"⟩
abbrev cX9_ring : ByteArray := prog_1_method_14_code
def yX9_ring : MethodName := ⟨RX9, "ring", "(III)I"⟩
abbrev cX9_forgive : ByteArray := prog_1_method_15_code
def yX9_forgive : MethodName := ⟨RX9, "forgive", "(II)I"⟩
abbrev cX9_bankrupt : ByteArray := prog_1_method_16_code
def yX9_bankrupt : MethodName := ⟨RX9, "bankrupt", "(I)I"⟩
abbrev cX9_ruin : ByteArray := prog_1_method_17_code
def yX9_ruin : MethodName := ⟨RX9, "ruin", "(I)I"⟩
abbrev cX9_settling : ByteArray := prog_1_method_18_code
def yX9_settling : MethodName := ⟨RX9, "settling", "()I"⟩
abbrev cX9_bestRing : ByteArray := prog_1_method_19_code
def yX9_bestRing : MethodName := ⟨RX9, "bestRing", "(I)I"⟩
abbrev cX9_offer : ByteArray := prog_1_method_20_code
def yX9_offer : MethodName := ⟨RX9, "offer", "(III)I"⟩
abbrev cX9_forget : ByteArray := prog_1_method_21_code
def yX9_forget : MethodName := ⟨RX9, "forget", "()I"⟩
abbrev cX9_accept : ByteArray := prog_1_method_22_code
def yX9_accept : MethodName := ⟨RX9, "accept", "(IIII)I"⟩
abbrev cX9_grown : ByteArray := prog_1_method_23_code
def yX9_grown : MethodName := ⟨RX9, "grown", "(IIIII)I"⟩
abbrev cX9_years : ByteArray := prog_1_method_24_code
def yX9_years : MethodName := ⟨RX9, "years", "(III)I"⟩
abbrev cX9_image : ByteArray := prog_1_method_25_code
def yX9_image : MethodName := ⟨RX9, "image", "()I"⟩
abbrev cX9_restore : ByteArray := prog_1_method_26_code
def yX9_restore : MethodName := ⟨RX9, "restore", "()I"⟩
abbrev cX9_count : ByteArray := prog_1_method_27_code
def yX9_count : MethodName := ⟨RX9, "count", "(I)I"⟩
abbrev cX9_digest : ByteArray := prog_1_method_28_code
def yX9_digest : MethodName := ⟨RX9, "digest", "()J"⟩
abbrev cX9_digestPerson : ByteArray := prog_1_method_29_code
def yX9_digestPerson : MethodName := ⟨RX9, "digestPerson", "(JI)J"⟩
abbrev cX9_foreseeRuin : ByteArray := prog_1_method_30_code
def yX9_foreseeRuin : MethodName := ⟨RX9, "foreseeRuin", "()V"⟩
abbrev cX9_noteRuined : ByteArray := prog_1_method_31_code
def yX9_noteRuined : MethodName := ⟨RX9, "noteRuined", "(I)V"⟩
abbrev cX9_within : ByteArray := prog_1_method_32_code
def yX9_within : MethodName := ⟨RX9, "within", "(III)Z"⟩
abbrev cX9_isKind : ByteArray := prog_1_method_33_code
def yX9_isKind : MethodName := ⟨RX9, "isKind", "(I)Z"⟩
abbrev cX9_isSize : ByteArray := prog_1_method_34_code
def yX9_isSize : MethodName := ⟨RX9, "isSize", "(I)Z"⟩
abbrev cX9_oneIf : ByteArray := prog_1_method_35_code
def yX9_oneIf : MethodName := ⟨RX9, "oneIf", "(Z)I"⟩
abbrev cX9_isAmong : ByteArray := prog_1_method_36_code
def yX9_isAmong : MethodName := ⟨RX9, "isAmong", "(II)Z"⟩
abbrev cX9_pairOf : ByteArray := prog_1_method_37_code
def yX9_pairOf : MethodName := ⟨RX9, "pairOf", "(II)I"⟩
def RX10 : String := "ThanksOwedModel"
def TX10 : u_T := fun k => match k with
  | 0 => ("ThanksOwedModel", "reads", "I", false)
  | 1 => ("ThanksOwedModel", "rate", "I", false)
  | 2 => ("ThanksOwedModel", "up", "I", false)
  | 3 => ("ThanksOwedModel", "free", "I", false)
  | 4 => ("ThanksOwedModel", "sulk", "I", false)
  | 5 => ("ThanksOwedModel", "people", "I", false)
  | 6 => ("ThanksOwedModel", "kindOf", "[I", true)
  | 7 => ("ThanksOwedModel", "wealthOf", "[I", true)
  | 8 => ("ThanksOwedModel", "owesOf", "[I", true)
  | 9 => ("ThanksOwedModel", "freeOf", "[I", true)
  | 10 => ("ThanksOwedModel", "offendedOf", "[I", true)
  | 11 => ("ThanksOwedModel", "weeks", "I", false)
  | 12 => ("ThanksOwedModel", "offers", "I", false)
  | 13 => ("ThanksOwedModel", "offerFrom", "[I", true)
  | 14 => ("ThanksOwedModel", "offerTo", "[I", true)
  | 15 => ("ThanksOwedModel", "offerSize", "[I", true)
  | 16 => ("ThanksOwedModel", "pageLength", "I", false)
  | 17 => ("ThanksOwedModel", "page", "[B", true)
  | 18 => ("ThanksOwedModel", "sumOf", "[I", true)
  | 19 => ("ThanksOwedModel", "groupsOf", "[I", true)
  | 20 => ("ThanksOwedModel", "row", "[I", true)
  | 21 => ("ThanksOwedModel", "seedNow", "J", false)
  | 22 => ("ThanksOwedModel", "isKept", "Z", false)
  | 23 => ("ThanksOwedModel", "keptRate", "I", false)
  | 24 => ("ThanksOwedModel", "keptUp", "I", false)
  | 25 => ("ThanksOwedModel", "keptFree", "I", false)
  | 26 => ("ThanksOwedModel", "keptSulk", "I", false)
  | 27 => ("ThanksOwedModel", "keptPeople", "I", false)
  | 28 => ("ThanksOwedModel", "keptWeeks", "I", false)
  | 29 => ("ThanksOwedModel", "keptOffers", "I", false)
  | 30 => ("ThanksOwedModel", "keptWealth", "[I", true)
  | 31 => ("ThanksOwedModel", "keptOwes", "[I", true)
  | 32 => ("ThanksOwedModel", "keptFreeOf", "[I", true)
  | 33 => ("ThanksOwedModel", "keptOffended", "[I", true)
  | 34 => ("ThanksOwedModel", "keptOffer", "[I", true)
  | _ => ("ThanksOwedModel", "h", "J", false)
def tyX10 : Nat → FieldType := fun k => match k with
  | 0 => .int
  | 1 => .int
  | 2 => .int
  | 3 => .int
  | 4 => .int
  | 5 => .int
  | 6 => .array .int
  | 7 => .array .int
  | 8 => .array .int
  | 9 => .array .int
  | 10 => .array .int
  | 11 => .int
  | 12 => .int
  | 13 => .array .int
  | 14 => .array .int
  | 15 => .array .int
  | 16 => .int
  | 17 => .array .byte
  | 18 => .array .int
  | 19 => .array .int
  | 20 => .array .int
  | 21 => .long
  | 22 => .boolean
  | 23 => .int
  | 24 => .int
  | 25 => .int
  | 26 => .int
  | 27 => .int
  | 28 => .int
  | 29 => .int
  | 30 => .array .int
  | 31 => .array .int
  | 32 => .array .int
  | 33 => .array .int
  | 34 => .array .int
  | _ => .long
abbrev wsX100 : List Cond := u_ws RX10 TX10 36
theorem nmX10 : ∀ a, a < 36 → ∀ b, b < 36 → a ≠ b → (TX10 a).2.1 ≠ (TX10 b).2.1 := by decide +kernel
theorem tyX10_ok : ∀ k, k < 36 → parseFieldDescriptor (TX10 k).2.2.1 = some (tyX10 k) := by decide +kernel
abbrev cX10_init : ByteArray := prog_12_method_1_code
def yX10_init : MethodName := ⟨RX10, "<init>", "()V"⟩
abbrev cX10_within : ByteArray := prog_12_method_3_code
def yX10_within : MethodName := ⟨RX10, "within", "(III)Z"⟩
abbrev cX10_size : ByteArray := prog_12_method_4_code
def yX10_size : MethodName := ⟨RX10, "size", "(I)I"⟩
abbrev cX10_less : ByteArray := prog_12_method_5_code
def yX10_less : MethodName := ⟨RX10, "less", "(II)I"⟩
abbrev cX10_more : ByteArray := prog_12_method_6_code
def yX10_more : MethodName := ⟨RX10, "more", "(II)I"⟩
abbrev cX10_letter : ByteArray := prog_12_method_7_code
def yX10_letter : MethodName := ⟨RX10, "letter", "(I)I"⟩
abbrev cX10_blank : ByteArray := prog_12_method_8_code
def yX10_blank : MethodName := ⟨RX10, "blank", "()I"⟩
abbrev cX10_isGood : ByteArray := prog_12_method_9_code
def yX10_isGood : MethodName := ⟨RX10, "isGood", "(I)Z"⟩
abbrev cX10_faultNow : ByteArray := prog_12_method_10_code
def yX10_faultNow : MethodName := ⟨RX10, "faultNow", "()I"⟩
abbrev cX10_fault : ByteArray := prog_12_method_11_code
def yX10_fault : MethodName := ⟨RX10, "fault", "()I"⟩
abbrev cX10_law : ByteArray := prog_12_method_12_code
def yX10_law : MethodName := ⟨RX10, "law", "()I"⟩
abbrev cX10_isPerson : ByteArray := prog_12_method_13_code
def yX10_isPerson : MethodName := ⟨RX10, "isPerson", "(I)Z"⟩
abbrev cX10_areTwo : ByteArray := prog_12_method_14_code
def yX10_areTwo : MethodName := ⟨RX10, "areTwo", "(II)Z"⟩
abbrev cX10_person : ByteArray := prog_12_method_15_code
def yX10_person : MethodName := ⟨RX10, "person", "(II)I"⟩
abbrev cX10_clearPair : ByteArray := prog_12_method_16_code
def yX10_clearPair : MethodName := ⟨RX10, "clearPair", "(I)V"⟩
abbrev cX10_owesAll : ByteArray := prog_12_method_17_code
def yX10_owesAll : MethodName := ⟨RX10, "owesAll", "(II)I"⟩
abbrev cX10_owedBy : ByteArray := prog_12_method_18_code
def yX10_owedBy : MethodName := ⟨RX10, "owedBy", "(II)I"⟩
abbrev cX10_net : ByteArray := prog_12_method_19_code
def yX10_net : MethodName := ⟨RX10, "net", "(II)I"⟩
abbrev cX10_personNow : ByteArray := prog_12_method_20_code
def yX10_personNow : MethodName := ⟨RX10, "personNow", "(II)I"⟩
abbrev cX10_about : ByteArray := prog_12_method_21_code
def yX10_about : MethodName := ⟨RX10, "about", "(II)I"⟩
abbrev cX10_as : ByteArray := prog_12_method_22_code
def yX10_as : MethodName := ⟨RX10, "as", "(II)I"⟩
abbrev cX10_betweenNow : ByteArray := prog_12_method_23_code
def yX10_betweenNow : MethodName := ⟨RX10, "betweenNow", "(III)I"⟩
abbrev cX10_between : ByteArray := prog_12_method_24_code
def yX10_between : MethodName := ⟨RX10, "between", "(III)I"⟩
abbrev cX10_neverThanks : ByteArray := prog_12_method_25_code
def yX10_neverThanks : MethodName := ⟨RX10, "neverThanks", "(I)Z"⟩
abbrev cX10_thank : ByteArray := prog_12_method_26_code
def yX10_thank : MethodName := ⟨RX10, "thank", "(IIII)V"⟩
abbrev cX10_grunt : ByteArray := prog_12_method_27_code
def yX10_grunt : MethodName := ⟨RX10, "grunt", "(III)V"⟩
abbrev cX10_favour : ByteArray := prog_12_method_28_code
def yX10_favour : MethodName := ⟨RX10, "favour", "(IIIZ)I"⟩
abbrev cX10_grows : ByteArray := prog_12_method_29_code
def yX10_grows : MethodName := ⟨RX10, "grows", "(III)I"⟩
abbrev cX10_goWeek : ByteArray := prog_12_method_30_code
def yX10_goWeek : MethodName := ⟨RX10, "goWeek", "(I)I"⟩
abbrev cX10_week : ByteArray := prog_12_method_31_code
def yX10_week : MethodName := ⟨RX10, "week", "()I"⟩
abbrev cX10_pay : ByteArray := prog_12_method_32_code
def yX10_pay : MethodName := ⟨RX10, "pay", "(III)I"⟩
abbrev cX10_setOff : ByteArray := prog_12_method_33_code
def yX10_setOff : MethodName := ⟨RX10, "setOff", "(II)I"⟩
abbrev cX10_ring : ByteArray := prog_12_method_34_code
def yX10_ring : MethodName := ⟨RX10, "ring", "(III)I"⟩
abbrev cX10_forgive : ByteArray := prog_12_method_35_code
def yX10_forgive : MethodName := ⟨RX10, "forgive", "(II)I"⟩
abbrev cX10_bankrupt : ByteArray := prog_12_method_36_code
def yX10_bankrupt : MethodName := ⟨RX10, "bankrupt", "(I)I"⟩
abbrev cX10_copy : ByteArray := prog_12_method_37_code
def yX10_copy : MethodName := ⟨RX10, "copy", "()V"⟩
abbrev cX10_ruinNow : ByteArray := prog_12_method_38_code
def yX10_ruinNow : MethodName := ⟨RX10, "ruinNow", "(I)I"⟩
abbrev cX10_ruin : ByteArray := prog_12_method_39_code
def yX10_ruin : MethodName := ⟨RX10, "ruin", "(I)I"⟩
abbrev cX10_settlingNow : ByteArray := prog_12_method_40_code
def yX10_settlingNow : MethodName := ⟨RX10, "settlingNow", "()I"⟩
abbrev cX10_layGroups : ByteArray := prog_12_method_41_code
def yX10_layGroups : MethodName := ⟨RX10, "layGroups", "(II)V"⟩
abbrev cX10_settling : ByteArray := prog_12_method_42_code
def yX10_settling : MethodName := ⟨RX10, "settling", "()I"⟩
abbrev cX10_ringBy : ByteArray := prog_12_method_43_code
def yX10_ringBy : MethodName := ⟨RX10, "ringBy", "(II)I"⟩
abbrev cX10_bestRingNow : ByteArray := prog_12_method_44_code
def yX10_bestRingNow : MethodName := ⟨RX10, "bestRingNow", "(I)I"⟩
abbrev cX10_bestRing : ByteArray := prog_12_method_45_code
def yX10_bestRing : MethodName := ⟨RX10, "bestRing", "(I)I"⟩
abbrev cX10_offer : ByteArray := prog_12_method_46_code
def yX10_offer : MethodName := ⟨RX10, "offer", "(III)I"⟩
abbrev cX10_forget : ByteArray := prog_12_method_47_code
def yX10_forget : MethodName := ⟨RX10, "forget", "()I"⟩
abbrev cX10_owesBy : ByteArray := prog_12_method_48_code
def yX10_owesBy : MethodName := ⟨RX10, "owesBy", "(IIII)I"⟩
abbrev cX10_acceptNow : ByteArray := prog_12_method_49_code
def yX10_acceptNow : MethodName := ⟨RX10, "acceptNow", "(IIII)I"⟩
abbrev cX10_accept : ByteArray := prog_12_method_50_code
def yX10_accept : MethodName := ⟨RX10, "accept", "(IIII)I"⟩
abbrev cX10_grownNow : ByteArray := prog_12_method_51_code
def yX10_grownNow : MethodName := ⟨RX10, "grownNow", "(IIIII)I"⟩
abbrev cX10_grown : ByteArray := prog_12_method_52_code
def yX10_grown : MethodName := ⟨RX10, "grown", "(IIIII)I"⟩
abbrev cX10_draw : ByteArray := prog_12_method_53_code
def yX10_draw : MethodName := ⟨RX10, "draw", "(I)I"⟩
abbrev cX10_goYear : ByteArray := prog_12_method_54_code
def yX10_goYear : MethodName := ⟨RX10, "goYear", "()V"⟩
abbrev cX10_yearsNow : ByteArray := prog_12_method_55_code
def yX10_yearsNow : MethodName := ⟨RX10, "yearsNow", "(III)I"⟩
abbrev cX10_years : ByteArray := prog_12_method_56_code
def yX10_years : MethodName := ⟨RX10, "years", "(III)I"⟩
abbrev cX10_image : ByteArray := prog_12_method_57_code
def yX10_image : MethodName := ⟨RX10, "image", "()I"⟩
abbrev cX10_restore : ByteArray := prog_12_method_58_code
def yX10_restore : MethodName := ⟨RX10, "restore", "()I"⟩
abbrev cX10_owedAll : ByteArray := prog_12_method_59_code
def yX10_owedAll : MethodName := ⟨RX10, "owedAll", "()I"⟩
abbrev cX10_ruinedMany : ByteArray := prog_12_method_60_code
def yX10_ruinedMany : MethodName := ⟨RX10, "ruinedMany", "()I"⟩
abbrev cX10_howMany : ByteArray := prog_12_method_61_code
def yX10_howMany : MethodName := ⟨RX10, "howMany", "(I)I"⟩
abbrev cX10_count : ByteArray := prog_12_method_62_code
def yX10_count : MethodName := ⟨RX10, "count", "(I)I"⟩
abbrev cX10_mix : ByteArray := prog_12_method_63_code
def yX10_mix : MethodName := ⟨RX10, "mix", "(J)V"⟩
abbrev cX10_mixPerson : ByteArray := prog_12_method_64_code
def yX10_mixPerson : MethodName := ⟨RX10, "mixPerson", "(I)V"⟩
abbrev cX10_digest : ByteArray := prog_12_method_65_code
def yX10_digest : MethodName := ⟨RX10, "digest", "()J"⟩
def RJx29ce0 : String := "java/lang/Enum"
def RJ6 : String := "java/lang/Integer"
abbrev cJ6_numberOfTrailingZeros_0f7a4 : ByteArray := prog_14_method_48_code
def yJ6_numberOfTrailingZeros_0f7a4 : MethodName := ⟨RJ6, "numberOfTrailingZeros", "(I)I"⟩
abbrev cJ6_bitCount_0f7a4 : ByteArray := prog_14_method_49_code
def yJ6_bitCount_0f7a4 : MethodName := ⟨RJ6, "bitCount", "(I)I"⟩
def RJ9 : String := "java/lang/Math"
abbrev cJ9_max_7cf53 : ByteArray := prog_15_method_65_code
def yJ9_max_7cf53 : MethodName := ⟨RJ9, "max", "(II)I"⟩
abbrev cJ9_min_7cf53 : ByteArray := prog_15_method_69_code
def yJ9_min_7cf53 : MethodName := ⟨RJ9, "min", "(II)I"⟩
def RJ10 : String := "java/lang/System"
def RL : String := "ThanksOwedLaw"
abbrev cL_law : ByteArray := code
def yL_law : MethodName := ⟨RL, "law", "([I)Z"⟩
abbrev vwCl : List vw_C := [(RX0, TX0, 2), (RX1, TX1, 1), (RX3, TX3, 4), (RX4, TX4, 4), (RX5, TX5, 2), (RX6, TX6, 4), (RX7, TX7, 2), (RX8, TX8, 8), (RX9, TX9, 13), (RX10, TX10, 36)]
end
section
theorem dX0_init_0 : decode cX0_init 0 = .ok (.aload_n 0, 1) := by decide +kernel
theorem dX0_init_1 : decode cX0_init 1 = .ok (.invokespecial 3, 3) := by decide +kernel
theorem dX0_init_4 : decode cX0_init 4 = .ok (.return_, 1) := by decide +kernel
theorem dX0_search_0 : decode cX0_search 0 = .ok (.aload_n 0, 1) := by decide +kernel
theorem dX0_search_1 : decode cX0_search 1 = .ok (.iconst (-1), 1) := by decide +kernel
theorem dX0_search_2 : decode cX0_search 2 = .ok (.putfield 9, 3) := by decide +kernel
theorem dX0_search_5 : decode cX0_search 5 = .ok (.aload_n 0, 1) := by decide +kernel
theorem dX0_search_6 : decode cX0_search 6 = .ok (.iconst (-1), 1) := by decide +kernel
theorem dX0_search_7 : decode cX0_search 7 = .ok (.putfield 15, 3) := by decide +kernel
theorem dX0_search_10 : decode cX0_search 10 = .ok (.aload_n 2, 1) := by decide +kernel
theorem dX0_search_11 : decode cX0_search 11 = .ok (.iload_n 3, 1) := by decide +kernel
theorem dX0_search_12 : decode cX0_search 12 = .ok (.invokevirtual 18, 3) := by decide +kernel
theorem dX0_search_15 : decode cX0_search 15 = .ok (.istore 6, 2) := by decide +kernel
theorem dX0_search_17 : decode cX0_search 17 = .ok (.iconst 1, 1) := by decide +kernel
theorem dX0_search_18 : decode cX0_search 18 = .ok (.istore 7, 2) := by decide +kernel
theorem dX0_search_20 : decode cX0_search 20 = .ok (.iload 7, 2) := by decide +kernel
theorem dX0_search_22 : decode cX0_search 22 = .ok (.iload 6, 2) := by decide +kernel
theorem dX0_search_24 : decode cX0_search 24 = .ok (.if_icmp .gt 47, 3) := by decide +kernel
theorem dX0_search_27 : decode cX0_search 27 = .ok (.iload 7, 2) := by decide +kernel
theorem dX0_search_29 : decode cX0_search 29 = .ok (.iload 6, 2) := by decide +kernel
theorem dX0_search_31 : decode cX0_search 31 = .ok (.iand, 1) := by decide +kernel
theorem dX0_search_32 : decode cX0_search 32 = .ok (.iload 7, 2) := by decide +kernel
theorem dX0_search_34 : decode cX0_search 34 = .ok (.if_icmp .ne 31, 3) := by decide +kernel
theorem dX0_search_37 : decode cX0_search 37 = .ok (.aload_n 2, 1) := by decide +kernel
theorem dX0_search_38 : decode cX0_search 38 = .ok (.iload 7, 2) := by decide +kernel
theorem dX0_search_40 : decode cX0_search 40 = .ok (.invokevirtual 24, 3) := by decide +kernel
theorem dX0_search_43 : decode cX0_search 43 = .ok (.iload 4, 2) := by decide +kernel
theorem dX0_search_45 : decode cX0_search 45 = .ok (.if_icmp .lt 20, 3) := by decide +kernel
theorem dX0_search_48 : decode cX0_search 48 = .ok (.aload_n 0, 1) := by decide +kernel
theorem dX0_search_49 : decode cX0_search 49 = .ok (.iload 7, 2) := by decide +kernel
theorem dX0_search_51 : decode cX0_search 51 = .ok (.aload_n 0, 1) := by decide +kernel
theorem dX0_search_52 : decode cX0_search 52 = .ok (.aload_n 1, 1) := by decide +kernel
theorem dX0_search_53 : decode cX0_search 53 = .ok (.aload_n 2, 1) := by decide +kernel
theorem dX0_search_54 : decode cX0_search 54 = .ok (.iload_n 3, 1) := by decide +kernel
theorem dX0_search_55 : decode cX0_search 55 = .ok (.iload 7, 2) := by decide +kernel
theorem dX0_search_57 : decode cX0_search 57 = .ok (.iload 5, 2) := by decide +kernel
theorem dX0_search_59 : decode cX0_search 59 = .ok (.invokevirtual 27, 3) := by decide +kernel
theorem dX0_search_62 : decode cX0_search 62 = .ok (.invokevirtual 31, 3) := by decide +kernel
theorem dX0_search_65 : decode cX0_search 65 = .ok (.iinc 7 1, 3) := by decide +kernel
theorem dX0_search_68 : decode cX0_search 68 = .ok (.goto (-48), 3) := by decide +kernel
theorem dX0_search_71 : decode cX0_search 71 = .ok (.return_, 1) := by decide +kernel
theorem dX0_weigh_0 : decode cX0_weigh 0 = .ok (.aload_n 0, 1) := by decide +kernel
theorem dX0_weigh_1 : decode cX0_weigh 1 = .ok (.getfield 9, 3) := by decide +kernel
theorem dX0_weigh_4 : decode cX0_weigh 4 = .ok (.iconst (-1), 1) := by decide +kernel
theorem dX0_weigh_5 : decode cX0_weigh 5 = .ok (.if_icmp .eq 33, 3) := by decide +kernel
theorem dX0_weigh_8 : decode cX0_weigh 8 = .ok (.iload_n 2, 1) := by decide +kernel
theorem dX0_weigh_9 : decode cX0_weigh 9 = .ok (.aload_n 0, 1) := by decide +kernel
theorem dX0_weigh_10 : decode cX0_weigh 10 = .ok (.getfield 15, 3) := by decide +kernel
theorem dX0_weigh_13 : decode cX0_weigh 13 = .ok (.if_icmp .lt 25, 3) := by decide +kernel
theorem dX0_weigh_16 : decode cX0_weigh 16 = .ok (.iload_n 2, 1) := by decide +kernel
theorem dX0_weigh_17 : decode cX0_weigh 17 = .ok (.aload_n 0, 1) := by decide +kernel
theorem dX0_weigh_18 : decode cX0_weigh 18 = .ok (.getfield 15, 3) := by decide +kernel
theorem dX0_weigh_21 : decode cX0_weigh 21 = .ok (.if_icmp .ne 27, 3) := by decide +kernel
theorem dX0_weigh_24 : decode cX0_weigh 24 = .ok (.iload_n 1, 1) := by decide +kernel
theorem dX0_weigh_25 : decode cX0_weigh 25 = .ok (.invokestatic 35, 3) := by decide +kernel
theorem dX0_weigh_28 : decode cX0_weigh 28 = .ok (.aload_n 0, 1) := by decide +kernel
theorem dX0_weigh_29 : decode cX0_weigh 29 = .ok (.getfield 9, 3) := by decide +kernel
theorem dX0_weigh_32 : decode cX0_weigh 32 = .ok (.invokestatic 35, 3) := by decide +kernel
theorem dX0_weigh_35 : decode cX0_weigh 35 = .ok (.if_icmp .ge 13, 3) := by decide +kernel
theorem dX0_weigh_38 : decode cX0_weigh 38 = .ok (.aload_n 0, 1) := by decide +kernel
theorem dX0_weigh_39 : decode cX0_weigh 39 = .ok (.iload_n 1, 1) := by decide +kernel
theorem dX0_weigh_40 : decode cX0_weigh 40 = .ok (.putfield 9, 3) := by decide +kernel
theorem dX0_weigh_43 : decode cX0_weigh 43 = .ok (.aload_n 0, 1) := by decide +kernel
theorem dX0_weigh_44 : decode cX0_weigh 44 = .ok (.iload_n 2, 1) := by decide +kernel
theorem dX0_weigh_45 : decode cX0_weigh 45 = .ok (.putfield 15, 3) := by decide +kernel
theorem dX0_weigh_48 : decode cX0_weigh 48 = .ok (.return_, 1) := by decide +kernel
theorem dX0_owedBehind_0 : decode cX0_owedBehind 0 = .ok (.iconst 0, 1) := by decide +kernel
theorem dX0_owedBehind_1 : decode cX0_owedBehind 1 = .ok (.istore 6, 2) := by decide +kernel
theorem dX0_owedBehind_3 : decode cX0_owedBehind 3 = .ok (.iconst 0, 1) := by decide +kernel
theorem dX0_owedBehind_4 : decode cX0_owedBehind 4 = .ok (.istore 7, 2) := by decide +kernel
theorem dX0_owedBehind_6 : decode cX0_owedBehind 6 = .ok (.iload 7, 2) := by decide +kernel
theorem dX0_owedBehind_8 : decode cX0_owedBehind 8 = .ok (.aload_n 1, 1) := by decide +kernel
theorem dX0_owedBehind_9 : decode cX0_owedBehind 9 = .ok (.getfield 40, 3) := by decide +kernel
theorem dX0_owedBehind_12 : decode cX0_owedBehind 12 = .ok (.if_icmp .ge 119, 3) := by decide +kernel
theorem dX0_owedBehind_15 : decode cX0_owedBehind 15 = .ok (.iload_n 3, 1) := by decide +kernel
theorem dX0_owedBehind_16 : decode cX0_owedBehind 16 = .ok (.iload 7, 2) := by decide +kernel
theorem dX0_owedBehind_18 : decode cX0_owedBehind 18 = .ok (.invokestatic 45, 3) := by decide +kernel
theorem dX0_owedBehind_21 : decode cX0_owedBehind 21 = .ok (.istore 8, 2) := by decide +kernel
theorem dX0_owedBehind_23 : decode cX0_owedBehind 23 = .ok (.aload_n 2, 1) := by decide +kernel
theorem dX0_owedBehind_24 : decode cX0_owedBehind 24 = .ok (.iload 7, 2) := by decide +kernel
theorem dX0_owedBehind_26 : decode cX0_owedBehind 26 = .ok (.iload 4, 2) := by decide +kernel
theorem dX0_owedBehind_28 : decode cX0_owedBehind 28 = .ok (.invokevirtual 49, 3) := by decide +kernel
theorem dX0_owedBehind_31 : decode cX0_owedBehind 31 = .ok (.istore 9, 2) := by decide +kernel
theorem dX0_owedBehind_33 : decode cX0_owedBehind 33 = .ok (.sipush 9999, 3) := by decide +kernel
theorem dX0_owedBehind_36 : decode cX0_owedBehind 36 = .ok (.aload_n 1, 1) := by decide +kernel
theorem dX0_owedBehind_37 : decode cX0_owedBehind 37 = .ok (.getfield 52, 3) := by decide +kernel
theorem dX0_owedBehind_40 : decode cX0_owedBehind 40 = .ok (.iload 8, 2) := by decide +kernel
theorem dX0_owedBehind_42 : decode cX0_owedBehind 42 = .ok (.iaload, 1) := by decide +kernel
theorem dX0_owedBehind_43 : decode cX0_owedBehind 43 = .ok (.iload 9, 2) := by decide +kernel
theorem dX0_owedBehind_45 : decode cX0_owedBehind 45 = .ok (.iadd, 1) := by decide +kernel
theorem dX0_owedBehind_46 : decode cX0_owedBehind 46 = .ok (.invokestatic 56, 3) := by decide +kernel
theorem dX0_owedBehind_49 : decode cX0_owedBehind 49 = .ok (.istore 10, 2) := by decide +kernel
theorem dX0_owedBehind_51 : decode cX0_owedBehind 51 = .ok (.iload 9, 2) := by decide +kernel
theorem dX0_owedBehind_53 : decode cX0_owedBehind 53 = .ok (.ifCond .le 23, 3) := by decide +kernel
theorem dX0_owedBehind_56 : decode cX0_owedBehind 56 = .ok (.aload_n 1, 1) := by decide +kernel
theorem dX0_owedBehind_57 : decode cX0_owedBehind 57 = .ok (.getfield 61, 3) := by decide +kernel
theorem dX0_owedBehind_60 : decode cX0_owedBehind 60 = .ok (.iload 8, 2) := by decide +kernel
theorem dX0_owedBehind_62 : decode cX0_owedBehind 62 = .ok (.iaload, 1) := by decide +kernel
theorem dX0_owedBehind_63 : decode cX0_owedBehind 63 = .ok (.aload_n 1, 1) := by decide +kernel
theorem dX0_owedBehind_64 : decode cX0_owedBehind 64 = .ok (.getfield 64, 3) := by decide +kernel
theorem dX0_owedBehind_67 : decode cX0_owedBehind 67 = .ok (.getfield 68, 3) := by decide +kernel
theorem dX0_owedBehind_70 : decode cX0_owedBehind 70 = .ok (.invokestatic 72, 3) := by decide +kernel
theorem dX0_owedBehind_73 : decode cX0_owedBehind 73 = .ok (.goto 10, 3) := by decide +kernel
theorem dX0_owedBehind_76 : decode cX0_owedBehind 76 = .ok (.aload_n 1, 1) := by decide +kernel
theorem dX0_owedBehind_77 : decode cX0_owedBehind 77 = .ok (.getfield 61, 3) := by decide +kernel
theorem dX0_owedBehind_80 : decode cX0_owedBehind 80 = .ok (.iload 8, 2) := by decide +kernel
theorem dX0_owedBehind_82 : decode cX0_owedBehind 82 = .ok (.iaload, 1) := by decide +kernel
theorem dX0_owedBehind_83 : decode cX0_owedBehind 83 = .ok (.istore 11, 2) := by decide +kernel
theorem dX0_owedBehind_85 : decode cX0_owedBehind 85 = .ok (.aload_n 1, 1) := by decide +kernel
theorem dX0_owedBehind_86 : decode cX0_owedBehind 86 = .ok (.getfield 64, 3) := by decide +kernel
theorem dX0_owedBehind_89 : decode cX0_owedBehind 89 = .ok (.aload_n 1, 1) := by decide +kernel
theorem dX0_owedBehind_90 : decode cX0_owedBehind 90 = .ok (.iload_n 3, 1) := by decide +kernel
theorem dX0_owedBehind_91 : decode cX0_owedBehind 91 = .ok (.invokevirtual 75, 3) := by decide +kernel
theorem dX0_owedBehind_94 : decode cX0_owedBehind 94 = .ok (.aload_n 1, 1) := by decide +kernel
theorem dX0_owedBehind_95 : decode cX0_owedBehind 95 = .ok (.iload 7, 2) := by decide +kernel
theorem dX0_owedBehind_97 : decode cX0_owedBehind 97 = .ok (.invokevirtual 75, 3) := by decide +kernel
theorem dX0_owedBehind_100 : decode cX0_owedBehind 100 = .ok (.invokevirtual 79, 3) := by decide +kernel
theorem dX0_owedBehind_103 : decode cX0_owedBehind 103 = .ok (.istore 12, 2) := by decide +kernel
theorem dX0_owedBehind_105 : decode cX0_owedBehind 105 = .ok (.iload 6, 2) := by decide +kernel
theorem dX0_owedBehind_107 : decode cX0_owedBehind 107 = .ok (.aload_n 1, 1) := by decide +kernel
theorem dX0_owedBehind_108 : decode cX0_owedBehind 108 = .ok (.getfield 64, 3) := by decide +kernel
theorem dX0_owedBehind_111 : decode cX0_owedBehind 111 = .ok (.iload 10, 2) := by decide +kernel
theorem dX0_owedBehind_113 : decode cX0_owedBehind 113 = .ok (.iload 11, 2) := by decide +kernel
theorem dX0_owedBehind_115 : decode cX0_owedBehind 115 = .ok (.iload 5, 2) := by decide +kernel
theorem dX0_owedBehind_117 : decode cX0_owedBehind 117 = .ok (.iload 12, 2) := by decide +kernel
theorem dX0_owedBehind_119 : decode cX0_owedBehind 119 = .ok (.invokevirtual 83, 3) := by decide +kernel
theorem dX0_owedBehind_122 : decode cX0_owedBehind 122 = .ok (.iadd, 1) := by decide +kernel
theorem dX0_owedBehind_123 : decode cX0_owedBehind 123 = .ok (.istore 6, 2) := by decide +kernel
theorem dX0_owedBehind_125 : decode cX0_owedBehind 125 = .ok (.iinc 7 1, 3) := by decide +kernel
theorem dX0_owedBehind_128 : decode cX0_owedBehind 128 = .ok (.goto (-122), 3) := by decide +kernel
theorem dX0_owedBehind_131 : decode cX0_owedBehind 131 = .ok (.iload 6, 2) := by decide +kernel
theorem dX0_owedBehind_133 : decode cX0_owedBehind 133 = .ok (.ireturn, 1) := by decide +kernel
theorem dX1_init_0 : decode cX1_init 0 = .ok (.aload_n 0, 1) := by decide +kernel
theorem dX1_init_1 : decode cX1_init 1 = .ok (.invokespecial 1, 3) := by decide +kernel
theorem dX1_init_4 : decode cX1_init 4 = .ok (.return_, 1) := by decide +kernel
theorem dX1_next_0 : decode cX1_next 0 = .ok (.iload_n 1, 1) := by decide +kernel
theorem dX1_next_1 : decode cX1_next 1 = .ok (.iconst 1, 1) := by decide +kernel
theorem dX1_next_2 : decode cX1_next 2 = .ok (.if_icmp .ge 5, 3) := by decide +kernel
theorem dX1_next_5 : decode cX1_next 5 = .ok (.iconst 0, 1) := by decide +kernel
theorem dX1_next_6 : decode cX1_next 6 = .ok (.ireturn, 1) := by decide +kernel
theorem dX1_next_7 : decode cX1_next 7 = .ok (.aload_n 0, 1) := by decide +kernel
theorem dX1_next_8 : decode cX1_next 8 = .ok (.ldc2_w 7, 3) := by decide +kernel
theorem dX1_next_11 : decode cX1_next 11 = .ok (.aload_n 0, 1) := by decide +kernel
theorem dX1_next_12 : decode cX1_next 12 = .ok (.getfield 9, 3) := by decide +kernel
theorem dX1_next_15 : decode cX1_next 15 = .ok (.i2l, 1) := by decide +kernel
theorem dX1_next_16 : decode cX1_next 16 = .ok (.lmul, 1) := by decide +kernel
theorem dX1_next_17 : decode cX1_next 17 = .ok (.ldc2_w 15, 3) := by decide +kernel
theorem dX1_next_20 : decode cX1_next 20 = .ok (.ladd, 1) := by decide +kernel
theorem dX1_next_21 : decode cX1_next 21 = .ok (.ldc2_w 17, 3) := by decide +kernel
theorem dX1_next_24 : decode cX1_next 24 = .ok (.land, 1) := by decide +kernel
theorem dX1_next_25 : decode cX1_next 25 = .ok (.l2i, 1) := by decide +kernel
theorem dX1_next_26 : decode cX1_next 26 = .ok (.putfield 9, 3) := by decide +kernel
theorem dX1_next_29 : decode cX1_next 29 = .ok (.aload_n 0, 1) := by decide +kernel
theorem dX1_next_30 : decode cX1_next 30 = .ok (.getfield 9, 3) := by decide +kernel
theorem dX1_next_33 : decode cX1_next 33 = .ok (.ldc 19, 2) := by decide +kernel
theorem dX1_next_35 : decode cX1_next 35 = .ok (.idiv, 1) := by decide +kernel
theorem dX1_next_36 : decode cX1_next 36 = .ok (.iload_n 1, 1) := by decide +kernel
theorem dX1_next_37 : decode cX1_next 37 = .ok (.irem, 1) := by decide +kernel
theorem dX1_next_38 : decode cX1_next 38 = .ok (.ireturn, 1) := by decide +kernel
theorem dX2_isA_0 : decode cX2_isA 0 = .ok (.aload_n 1, 1) := by decide +kernel
theorem dX2_isA_1 : decode cX2_isA 1 = .ok (.aload_n 0, 1) := by decide +kernel
theorem dX2_isA_2 : decode cX2_isA 2 = .ok (.if_acmp .eq 24, 3) := by decide +kernel
theorem dX2_isA_5 : decode cX2_isA 5 = .ok (.aload_n 1, 1) := by decide +kernel
theorem dX2_isA_6 : decode cX2_isA 6 = .ok (.getstatic 3, 3) := by decide +kernel
theorem dX2_isA_9 : decode cX2_isA 9 = .ok (.if_acmp .eq 17, 3) := by decide +kernel
theorem dX2_isA_12 : decode cX2_isA 12 = .ok (.aload_n 0, 1) := by decide +kernel
theorem dX2_isA_13 : decode cX2_isA 13 = .ok (.getstatic 16, 3) := by decide +kernel
theorem dX2_isA_16 : decode cX2_isA 16 = .ok (.if_acmp .ne 14, 3) := by decide +kernel
theorem dX2_isA_19 : decode cX2_isA 19 = .ok (.aload_n 1, 1) := by decide +kernel
theorem dX2_isA_20 : decode cX2_isA 20 = .ok (.getstatic 13, 3) := by decide +kernel
theorem dX2_isA_23 : decode cX2_isA 23 = .ok (.if_acmp .ne 7, 3) := by decide +kernel
theorem dX2_isA_26 : decode cX2_isA 26 = .ok (.iconst 1, 1) := by decide +kernel
theorem dX2_isA_27 : decode cX2_isA 27 = .ok (.goto 4, 3) := by decide +kernel
theorem dX2_isA_30 : decode cX2_isA 30 = .ok (.iconst 0, 1) := by decide +kernel
theorem dX2_isA_31 : decode cX2_isA 31 = .ok (.ireturn, 1) := by decide +kernel
theorem dX3_init_0 : decode cX3_init 0 = .ok (.aload_n 0, 1) := by decide +kernel
theorem dX3_init_1 : decode cX3_init 1 = .ok (.invokespecial 3, 3) := by decide +kernel
theorem dX3_init_4 : decode cX3_init 4 = .ok (.aload_n 0, 1) := by decide +kernel
theorem dX3_init_5 : decode cX3_init 5 = .ok (.iconst 1, 1) := by decide +kernel
theorem dX3_init_6 : decode cX3_init 6 = .ok (.putfield 9, 3) := by decide +kernel
theorem dX3_init_9 : decode cX3_init 9 = .ok (.aload_n 0, 1) := by decide +kernel
theorem dX3_init_10 : decode cX3_init 10 = .ok (.iconst 1, 1) := by decide +kernel
theorem dX3_init_11 : decode cX3_init 11 = .ok (.putfield 15, 3) := by decide +kernel
theorem dX3_init_14 : decode cX3_init 14 = .ok (.return_, 1) := by decide +kernel
theorem dX3_readFrom_0 : decode cX3_readFrom 0 = .ok (.aload_n 0, 1) := by decide +kernel
theorem dX3_readFrom_1 : decode cX3_readFrom 1 = .ok (.aload_n 1, 1) := by decide +kernel
theorem dX3_readFrom_2 : decode cX3_readFrom 2 = .ok (.iconst 0, 1) := by decide +kernel
theorem dX3_readFrom_3 : decode cX3_readFrom 3 = .ok (.invokevirtual 19, 3) := by decide +kernel
theorem dX3_readFrom_6 : decode cX3_readFrom 6 = .ok (.putfield 9, 3) := by decide +kernel
theorem dX3_readFrom_9 : decode cX3_readFrom 9 = .ok (.aload_n 0, 1) := by decide +kernel
theorem dX3_readFrom_10 : decode cX3_readFrom 10 = .ok (.aload_n 1, 1) := by decide +kernel
theorem dX3_readFrom_11 : decode cX3_readFrom 11 = .ok (.getfield 25, 3) := by decide +kernel
theorem dX3_readFrom_14 : decode cX3_readFrom 14 = .ok (.iconst 1, 1) := by decide +kernel
theorem dX3_readFrom_15 : decode cX3_readFrom 15 = .ok (.iaload, 1) := by decide +kernel
theorem dX3_readFrom_16 : decode cX3_readFrom 16 = .ok (.bipush 117, 2) := by decide +kernel
theorem dX3_readFrom_18 : decode cX3_readFrom 18 = .ok (.if_icmp .ne 7, 3) := by decide +kernel
theorem dX3_readFrom_21 : decode cX3_readFrom 21 = .ok (.iconst 1, 1) := by decide +kernel
theorem dX3_readFrom_22 : decode cX3_readFrom 22 = .ok (.goto 4, 3) := by decide +kernel
theorem dX3_readFrom_25 : decode cX3_readFrom 25 = .ok (.iconst 0, 1) := by decide +kernel
theorem dX3_readFrom_26 : decode cX3_readFrom 26 = .ok (.putfield 15, 3) := by decide +kernel
theorem dX3_readFrom_29 : decode cX3_readFrom 29 = .ok (.aload_n 0, 1) := by decide +kernel
theorem dX3_readFrom_30 : decode cX3_readFrom 30 = .ok (.aload_n 1, 1) := by decide +kernel
theorem dX3_readFrom_31 : decode cX3_readFrom 31 = .ok (.iconst 2, 1) := by decide +kernel
theorem dX3_readFrom_32 : decode cX3_readFrom 32 = .ok (.invokevirtual 19, 3) := by decide +kernel
theorem dX3_readFrom_35 : decode cX3_readFrom 35 = .ok (.putfield 29, 3) := by decide +kernel
theorem dX3_readFrom_38 : decode cX3_readFrom 38 = .ok (.aload_n 0, 1) := by decide +kernel
theorem dX3_readFrom_39 : decode cX3_readFrom 39 = .ok (.aload_n 1, 1) := by decide +kernel
theorem dX3_readFrom_40 : decode cX3_readFrom 40 = .ok (.iconst 3, 1) := by decide +kernel
theorem dX3_readFrom_41 : decode cX3_readFrom 41 = .ok (.invokevirtual 19, 3) := by decide +kernel
theorem dX3_readFrom_44 : decode cX3_readFrom 44 = .ok (.putfield 32, 3) := by decide +kernel
theorem dX3_readFrom_47 : decode cX3_readFrom 47 = .ok (.return_, 1) := by decide +kernel
theorem dX3_copyFrom_0 : decode cX3_copyFrom 0 = .ok (.aload_n 0, 1) := by decide +kernel
theorem dX3_copyFrom_1 : decode cX3_copyFrom 1 = .ok (.aload_n 1, 1) := by decide +kernel
theorem dX3_copyFrom_2 : decode cX3_copyFrom 2 = .ok (.getfield 9, 3) := by decide +kernel
theorem dX3_copyFrom_5 : decode cX3_copyFrom 5 = .ok (.putfield 9, 3) := by decide +kernel
theorem dX3_copyFrom_8 : decode cX3_copyFrom 8 = .ok (.aload_n 0, 1) := by decide +kernel
theorem dX3_copyFrom_9 : decode cX3_copyFrom 9 = .ok (.aload_n 1, 1) := by decide +kernel
theorem dX3_copyFrom_10 : decode cX3_copyFrom 10 = .ok (.getfield 15, 3) := by decide +kernel
theorem dX3_copyFrom_13 : decode cX3_copyFrom 13 = .ok (.putfield 15, 3) := by decide +kernel
theorem dX3_copyFrom_16 : decode cX3_copyFrom 16 = .ok (.aload_n 0, 1) := by decide +kernel
theorem dX3_copyFrom_17 : decode cX3_copyFrom 17 = .ok (.aload_n 1, 1) := by decide +kernel
theorem dX3_copyFrom_18 : decode cX3_copyFrom 18 = .ok (.getfield 29, 3) := by decide +kernel
theorem dX3_copyFrom_21 : decode cX3_copyFrom 21 = .ok (.putfield 29, 3) := by decide +kernel
theorem dX3_copyFrom_24 : decode cX3_copyFrom 24 = .ok (.aload_n 0, 1) := by decide +kernel
theorem dX3_copyFrom_25 : decode cX3_copyFrom 25 = .ok (.aload_n 1, 1) := by decide +kernel
theorem dX3_copyFrom_26 : decode cX3_copyFrom 26 = .ok (.getfield 32, 3) := by decide +kernel
theorem dX3_copyFrom_29 : decode cX3_copyFrom 29 = .ok (.putfield 32, 3) := by decide +kernel
theorem dX3_copyFrom_32 : decode cX3_copyFrom 32 = .ok (.return_, 1) := by decide +kernel
theorem dX3_tenths_0 : decode cX3_tenths 0 = .ok (.aload_n 0, 1) := by decide +kernel
theorem dX3_tenths_1 : decode cX3_tenths 1 = .ok (.getfield 9, 3) := by decide +kernel
theorem dX3_tenths_4 : decode cX3_tenths 4 = .ok (.aload_n 1, 1) := by decide +kernel
theorem dX3_tenths_5 : decode cX3_tenths 5 = .ok (.getfield 35, 3) := by decide +kernel
theorem dX3_tenths_8 : decode cX3_tenths 8 = .ok (.imul, 1) := by decide +kernel
theorem dX3_tenths_9 : decode cX3_tenths 9 = .ok (.aload_n 2, 1) := by decide +kernel
theorem dX3_tenths_10 : decode cX3_tenths 10 = .ok (.getfield 40, 3) := by decide +kernel
theorem dX3_tenths_13 : decode cX3_tenths 13 = .ok (.imul, 1) := by decide +kernel
theorem dX3_tenths_14 : decode cX3_tenths 14 = .ok (.ireturn, 1) := by decide +kernel
theorem dX3_owedNextWeek_0 : decode cX3_owedNextWeek 0 = .ok (.iload_n 1, 1) := by decide +kernel
theorem dX3_owedNextWeek_1 : decode cX3_owedNextWeek 1 = .ok (.iload_n 2, 1) := by decide +kernel
theorem dX3_owedNextWeek_2 : decode cX3_owedNextWeek 2 = .ok (.imul, 1) := by decide +kernel
theorem dX3_owedNextWeek_3 : decode cX3_owedNextWeek 3 = .ok (.istore_n 3, 1) := by decide +kernel
theorem dX3_owedNextWeek_4 : decode cX3_owedNextWeek 4 = .ok (.aload_n 0, 1) := by decide +kernel
theorem dX3_owedNextWeek_5 : decode cX3_owedNextWeek 5 = .ok (.getfield 15, 3) := by decide +kernel
theorem dX3_owedNextWeek_8 : decode cX3_owedNextWeek 8 = .ok (.ifCond .eq 13, 3) := by decide +kernel
theorem dX3_owedNextWeek_11 : decode cX3_owedNextWeek 11 = .ok (.iload_n 3, 1) := by decide +kernel
theorem dX3_owedNextWeek_12 : decode cX3_owedNextWeek 12 = .ok (.bipush 9, 2) := by decide +kernel
theorem dX3_owedNextWeek_14 : decode cX3_owedNextWeek 14 = .ok (.iadd, 1) := by decide +kernel
theorem dX3_owedNextWeek_15 : decode cX3_owedNextWeek 15 = .ok (.bipush 10, 2) := by decide +kernel
theorem dX3_owedNextWeek_17 : decode cX3_owedNextWeek 17 = .ok (.idiv, 1) := by decide +kernel
theorem dX3_owedNextWeek_18 : decode cX3_owedNextWeek 18 = .ok (.goto 7, 3) := by decide +kernel
theorem dX3_owedNextWeek_21 : decode cX3_owedNextWeek 21 = .ok (.iload_n 3, 1) := by decide +kernel
theorem dX3_owedNextWeek_22 : decode cX3_owedNextWeek 22 = .ok (.bipush 10, 2) := by decide +kernel
theorem dX3_owedNextWeek_24 : decode cX3_owedNextWeek 24 = .ok (.idiv, 1) := by decide +kernel
theorem dX3_owedNextWeek_25 : decode cX3_owedNextWeek 25 = .ok (.istore 4, 2) := by decide +kernel
theorem dX3_owedNextWeek_27 : decode cX3_owedNextWeek 27 = .ok (.sipush 9999, 3) := by decide +kernel
theorem dX3_owedNextWeek_30 : decode cX3_owedNextWeek 30 = .ok (.iload_n 1, 1) := by decide +kernel
theorem dX3_owedNextWeek_31 : decode cX3_owedNextWeek 31 = .ok (.iload 4, 2) := by decide +kernel
theorem dX3_owedNextWeek_33 : decode cX3_owedNextWeek 33 = .ok (.iadd, 1) := by decide +kernel
theorem dX3_owedNextWeek_34 : decode cX3_owedNextWeek 34 = .ok (.invokestatic 43, 3) := by decide +kernel
theorem dX3_owedNextWeek_37 : decode cX3_owedNextWeek 37 = .ok (.ireturn, 1) := by decide +kernel
theorem dX3_owedAfter_0 : decode cX3_owedAfter 0 = .ok (.iload_n 1, 1) := by decide +kernel
theorem dX3_owedAfter_1 : decode cX3_owedAfter 1 = .ok (.istore 5, 2) := by decide +kernel
theorem dX3_owedAfter_3 : decode cX3_owedAfter 3 = .ok (.iload_n 2, 1) := by decide +kernel
theorem dX3_owedAfter_4 : decode cX3_owedAfter 4 = .ok (.istore 6, 2) := by decide +kernel
theorem dX3_owedAfter_6 : decode cX3_owedAfter 6 = .ok (.iload 6, 2) := by decide +kernel
theorem dX3_owedAfter_8 : decode cX3_owedAfter 8 = .ok (.iload_n 3, 1) := by decide +kernel
theorem dX3_owedAfter_9 : decode cX3_owedAfter 9 = .ok (.if_icmp .ge 33, 3) := by decide +kernel
theorem dX3_owedAfter_12 : decode cX3_owedAfter 12 = .ok (.aload_n 0, 1) := by decide +kernel
theorem dX3_owedAfter_13 : decode cX3_owedAfter 13 = .ok (.iload 5, 2) := by decide +kernel
theorem dX3_owedAfter_15 : decode cX3_owedAfter 15 = .ok (.iload 4, 2) := by decide +kernel
theorem dX3_owedAfter_17 : decode cX3_owedAfter 17 = .ok (.invokevirtual 49, 3) := by decide +kernel
theorem dX3_owedAfter_20 : decode cX3_owedAfter 20 = .ok (.istore 7, 2) := by decide +kernel
theorem dX3_owedAfter_22 : decode cX3_owedAfter 22 = .ok (.iload 7, 2) := by decide +kernel
theorem dX3_owedAfter_24 : decode cX3_owedAfter 24 = .ok (.iload 5, 2) := by decide +kernel
theorem dX3_owedAfter_26 : decode cX3_owedAfter 26 = .ok (.if_icmp .ne 6, 3) := by decide +kernel
theorem dX3_owedAfter_29 : decode cX3_owedAfter 29 = .ok (.iload 5, 2) := by decide +kernel
theorem dX3_owedAfter_31 : decode cX3_owedAfter 31 = .ok (.ireturn, 1) := by decide +kernel
theorem dX3_owedAfter_32 : decode cX3_owedAfter 32 = .ok (.iload 7, 2) := by decide +kernel
theorem dX3_owedAfter_34 : decode cX3_owedAfter 34 = .ok (.istore 5, 2) := by decide +kernel
theorem dX3_owedAfter_36 : decode cX3_owedAfter 36 = .ok (.iinc 6 1, 3) := by decide +kernel
theorem dX3_owedAfter_39 : decode cX3_owedAfter 39 = .ok (.goto (-33), 3) := by decide +kernel
theorem dX3_owedAfter_42 : decode cX3_owedAfter 42 = .ok (.iload 5, 2) := by decide +kernel
theorem dX3_owedAfter_44 : decode cX3_owedAfter 44 = .ok (.ireturn, 1) := by decide +kernel
theorem dX4_init_0 : decode cX4_init 0 = .ok (.aload_n 0, 1) := by decide +kernel
theorem dX4_init_1 : decode cX4_init 1 = .ok (.invokespecial 3, 3) := by decide +kernel
theorem dX4_init_4 : decode cX4_init 4 = .ok (.aload_n 0, 1) := by decide +kernel
theorem dX4_init_5 : decode cX4_init 5 = .ok (.bipush 6, 2) := by decide +kernel
theorem dX4_init_7 : decode cX4_init 7 = .ok (.newarray .int, 2) := by decide +kernel
theorem dX4_init_9 : decode cX4_init 9 = .ok (.putfield 9, 3) := by decide +kernel
theorem dX4_init_12 : decode cX4_init 12 = .ok (.aload_n 0, 1) := by decide +kernel
theorem dX4_init_13 : decode cX4_init 13 = .ok (.bipush 6, 2) := by decide +kernel
theorem dX4_init_15 : decode cX4_init 15 = .ok (.newarray .int, 2) := by decide +kernel
theorem dX4_init_17 : decode cX4_init 17 = .ok (.putfield 15, 3) := by decide +kernel
theorem dX4_init_20 : decode cX4_init 20 = .ok (.aload_n 0, 1) := by decide +kernel
theorem dX4_init_21 : decode cX4_init 21 = .ok (.bipush 6, 2) := by decide +kernel
theorem dX4_init_23 : decode cX4_init 23 = .ok (.newarray .int, 2) := by decide +kernel
theorem dX4_init_25 : decode cX4_init 25 = .ok (.putfield 18, 3) := by decide +kernel
theorem dX4_init_28 : decode cX4_init 28 = .ok (.return_, 1) := by decide +kernel
theorem dX4_copyFrom_0 : decode cX4_copyFrom 0 = .ok (.aload_n 1, 1) := by decide +kernel
theorem dX4_copyFrom_1 : decode cX4_copyFrom 1 = .ok (.getfield 9, 3) := by decide +kernel
theorem dX4_copyFrom_4 : decode cX4_copyFrom 4 = .ok (.iconst 0, 1) := by decide +kernel
theorem dX4_copyFrom_5 : decode cX4_copyFrom 5 = .ok (.aload_n 0, 1) := by decide +kernel
theorem dX4_copyFrom_6 : decode cX4_copyFrom 6 = .ok (.getfield 9, 3) := by decide +kernel
theorem dX4_copyFrom_9 : decode cX4_copyFrom 9 = .ok (.iconst 0, 1) := by decide +kernel
theorem dX4_copyFrom_10 : decode cX4_copyFrom 10 = .ok (.bipush 6, 2) := by decide +kernel
theorem dX4_copyFrom_12 : decode cX4_copyFrom 12 = .ok (.invokestatic 21, 3) := by decide +kernel
theorem dX4_copyFrom_15 : decode cX4_copyFrom 15 = .ok (.aload_n 1, 1) := by decide +kernel
theorem dX4_copyFrom_16 : decode cX4_copyFrom 16 = .ok (.getfield 15, 3) := by decide +kernel
theorem dX4_copyFrom_19 : decode cX4_copyFrom 19 = .ok (.iconst 0, 1) := by decide +kernel
theorem dX4_copyFrom_20 : decode cX4_copyFrom 20 = .ok (.aload_n 0, 1) := by decide +kernel
theorem dX4_copyFrom_21 : decode cX4_copyFrom 21 = .ok (.getfield 15, 3) := by decide +kernel
theorem dX4_copyFrom_24 : decode cX4_copyFrom 24 = .ok (.iconst 0, 1) := by decide +kernel
theorem dX4_copyFrom_25 : decode cX4_copyFrom 25 = .ok (.bipush 6, 2) := by decide +kernel
theorem dX4_copyFrom_27 : decode cX4_copyFrom 27 = .ok (.invokestatic 21, 3) := by decide +kernel
theorem dX4_copyFrom_30 : decode cX4_copyFrom 30 = .ok (.aload_n 1, 1) := by decide +kernel
theorem dX4_copyFrom_31 : decode cX4_copyFrom 31 = .ok (.getfield 18, 3) := by decide +kernel
theorem dX4_copyFrom_34 : decode cX4_copyFrom 34 = .ok (.iconst 0, 1) := by decide +kernel
theorem dX4_copyFrom_35 : decode cX4_copyFrom 35 = .ok (.aload_n 0, 1) := by decide +kernel
theorem dX4_copyFrom_36 : decode cX4_copyFrom 36 = .ok (.getfield 18, 3) := by decide +kernel
theorem dX4_copyFrom_39 : decode cX4_copyFrom 39 = .ok (.iconst 0, 1) := by decide +kernel
theorem dX4_copyFrom_40 : decode cX4_copyFrom 40 = .ok (.bipush 6, 2) := by decide +kernel
theorem dX4_copyFrom_42 : decode cX4_copyFrom 42 = .ok (.invokestatic 21, 3) := by decide +kernel
theorem dX4_copyFrom_45 : decode cX4_copyFrom 45 = .ok (.aload_n 0, 1) := by decide +kernel
theorem dX4_copyFrom_46 : decode cX4_copyFrom 46 = .ok (.aload_n 1, 1) := by decide +kernel
theorem dX4_copyFrom_47 : decode cX4_copyFrom 47 = .ok (.getfield 27, 3) := by decide +kernel
theorem dX4_copyFrom_50 : decode cX4_copyFrom 50 = .ok (.putfield 27, 3) := by decide +kernel
theorem dX4_copyFrom_53 : decode cX4_copyFrom 53 = .ok (.return_, 1) := by decide +kernel
theorem dX4_put_0 : decode cX4_put 0 = .ok (.aload_n 0, 1) := by decide +kernel
theorem dX4_put_1 : decode cX4_put 1 = .ok (.getfield 27, 3) := by decide +kernel
theorem dX4_put_4 : decode cX4_put 4 = .ok (.bipush 6, 2) := by decide +kernel
theorem dX4_put_6 : decode cX4_put 6 = .ok (.if_icmp .ge 43, 3) := by decide +kernel
theorem dX4_put_9 : decode cX4_put 9 = .ok (.aload_n 0, 1) := by decide +kernel
theorem dX4_put_10 : decode cX4_put 10 = .ok (.getfield 9, 3) := by decide +kernel
theorem dX4_put_13 : decode cX4_put 13 = .ok (.aload_n 0, 1) := by decide +kernel
theorem dX4_put_14 : decode cX4_put 14 = .ok (.getfield 27, 3) := by decide +kernel
theorem dX4_put_17 : decode cX4_put 17 = .ok (.iload_n 1, 1) := by decide +kernel
theorem dX4_put_18 : decode cX4_put 18 = .ok (.iastore, 1) := by decide +kernel
theorem dX4_put_19 : decode cX4_put 19 = .ok (.aload_n 0, 1) := by decide +kernel
theorem dX4_put_20 : decode cX4_put 20 = .ok (.getfield 15, 3) := by decide +kernel
theorem dX4_put_23 : decode cX4_put 23 = .ok (.aload_n 0, 1) := by decide +kernel
theorem dX4_put_24 : decode cX4_put 24 = .ok (.getfield 27, 3) := by decide +kernel
theorem dX4_put_27 : decode cX4_put 27 = .ok (.iload_n 2, 1) := by decide +kernel
theorem dX4_put_28 : decode cX4_put 28 = .ok (.iastore, 1) := by decide +kernel
theorem dX4_put_29 : decode cX4_put 29 = .ok (.aload_n 0, 1) := by decide +kernel
theorem dX4_put_30 : decode cX4_put 30 = .ok (.getfield 18, 3) := by decide +kernel
theorem dX4_put_33 : decode cX4_put 33 = .ok (.aload_n 0, 1) := by decide +kernel
theorem dX4_put_34 : decode cX4_put 34 = .ok (.getfield 27, 3) := by decide +kernel
theorem dX4_put_37 : decode cX4_put 37 = .ok (.iload_n 3, 1) := by decide +kernel
theorem dX4_put_38 : decode cX4_put 38 = .ok (.iastore, 1) := by decide +kernel
theorem dX4_put_39 : decode cX4_put 39 = .ok (.aload_n 0, 1) := by decide +kernel
theorem dX4_put_40 : decode cX4_put 40 = .ok (.dup, 1) := by decide +kernel
theorem dX4_put_41 : decode cX4_put 41 = .ok (.getfield 27, 3) := by decide +kernel
theorem dX4_put_44 : decode cX4_put 44 = .ok (.iconst 1, 1) := by decide +kernel
theorem dX4_put_45 : decode cX4_put 45 = .ok (.iadd, 1) := by decide +kernel
theorem dX4_put_46 : decode cX4_put 46 = .ok (.putfield 27, 3) := by decide +kernel
theorem dX4_put_49 : decode cX4_put 49 = .ok (.return_, 1) := by decide +kernel
theorem dX4_bitsFor_0 : decode cX4_bitsFor 0 = .ok (.iconst 0, 1) := by decide +kernel
theorem dX4_bitsFor_1 : decode cX4_bitsFor 1 = .ok (.istore_n 2, 1) := by decide +kernel
theorem dX4_bitsFor_2 : decode cX4_bitsFor 2 = .ok (.iconst 0, 1) := by decide +kernel
theorem dX4_bitsFor_3 : decode cX4_bitsFor 3 = .ok (.istore_n 3, 1) := by decide +kernel
theorem dX4_bitsFor_4 : decode cX4_bitsFor 4 = .ok (.iload_n 3, 1) := by decide +kernel
theorem dX4_bitsFor_5 : decode cX4_bitsFor 5 = .ok (.aload_n 0, 1) := by decide +kernel
theorem dX4_bitsFor_6 : decode cX4_bitsFor 6 = .ok (.getfield 27, 3) := by decide +kernel
theorem dX4_bitsFor_9 : decode cX4_bitsFor 9 = .ok (.if_icmp .ge 25, 3) := by decide +kernel
theorem dX4_bitsFor_12 : decode cX4_bitsFor 12 = .ok (.aload_n 0, 1) := by decide +kernel
theorem dX4_bitsFor_13 : decode cX4_bitsFor 13 = .ok (.getfield 15, 3) := by decide +kernel
theorem dX4_bitsFor_16 : decode cX4_bitsFor 16 = .ok (.iload_n 3, 1) := by decide +kernel
theorem dX4_bitsFor_17 : decode cX4_bitsFor 17 = .ok (.iaload, 1) := by decide +kernel
theorem dX4_bitsFor_18 : decode cX4_bitsFor 18 = .ok (.iload_n 1, 1) := by decide +kernel
theorem dX4_bitsFor_19 : decode cX4_bitsFor 19 = .ok (.if_icmp .ne 9, 3) := by decide +kernel
theorem dX4_bitsFor_22 : decode cX4_bitsFor 22 = .ok (.iload_n 2, 1) := by decide +kernel
theorem dX4_bitsFor_23 : decode cX4_bitsFor 23 = .ok (.iconst 1, 1) := by decide +kernel
theorem dX4_bitsFor_24 : decode cX4_bitsFor 24 = .ok (.iload_n 3, 1) := by decide +kernel
theorem dX4_bitsFor_25 : decode cX4_bitsFor 25 = .ok (.ishl, 1) := by decide +kernel
theorem dX4_bitsFor_26 : decode cX4_bitsFor 26 = .ok (.ior, 1) := by decide +kernel
theorem dX4_bitsFor_27 : decode cX4_bitsFor 27 = .ok (.istore_n 2, 1) := by decide +kernel
theorem dX4_bitsFor_28 : decode cX4_bitsFor 28 = .ok (.iinc 3 1, 3) := by decide +kernel
theorem dX4_bitsFor_31 : decode cX4_bitsFor 31 = .ok (.goto (-27), 3) := by decide +kernel
theorem dX4_bitsFor_34 : decode cX4_bitsFor 34 = .ok (.iload_n 2, 1) := by decide +kernel
theorem dX4_bitsFor_35 : decode cX4_bitsFor 35 = .ok (.ireturn, 1) := by decide +kernel
theorem dX4_sizeOf_0 : decode cX4_sizeOf 0 = .ok (.iconst 0, 1) := by decide +kernel
theorem dX4_sizeOf_1 : decode cX4_sizeOf 1 = .ok (.istore_n 2, 1) := by decide +kernel
theorem dX4_sizeOf_2 : decode cX4_sizeOf 2 = .ok (.iconst 0, 1) := by decide +kernel
theorem dX4_sizeOf_3 : decode cX4_sizeOf 3 = .ok (.istore_n 3, 1) := by decide +kernel
theorem dX4_sizeOf_4 : decode cX4_sizeOf 4 = .ok (.iload_n 3, 1) := by decide +kernel
theorem dX4_sizeOf_5 : decode cX4_sizeOf 5 = .ok (.aload_n 0, 1) := by decide +kernel
theorem dX4_sizeOf_6 : decode cX4_sizeOf 6 = .ok (.getfield 27, 3) := by decide +kernel
theorem dX4_sizeOf_9 : decode cX4_sizeOf 9 = .ok (.if_icmp .ge 26, 3) := by decide +kernel
theorem dX4_sizeOf_12 : decode cX4_sizeOf 12 = .ok (.iload_n 3, 1) := by decide +kernel
theorem dX4_sizeOf_13 : decode cX4_sizeOf 13 = .ok (.iload_n 1, 1) := by decide +kernel
theorem dX4_sizeOf_14 : decode cX4_sizeOf 14 = .ok (.invokestatic 31, 3) := by decide +kernel
theorem dX4_sizeOf_17 : decode cX4_sizeOf 17 = .ok (.ifCond .eq 12, 3) := by decide +kernel
theorem dX4_sizeOf_20 : decode cX4_sizeOf 20 = .ok (.iload_n 2, 1) := by decide +kernel
theorem dX4_sizeOf_21 : decode cX4_sizeOf 21 = .ok (.aload_n 0, 1) := by decide +kernel
theorem dX4_sizeOf_22 : decode cX4_sizeOf 22 = .ok (.getfield 18, 3) := by decide +kernel
theorem dX4_sizeOf_25 : decode cX4_sizeOf 25 = .ok (.iload_n 3, 1) := by decide +kernel
theorem dX4_sizeOf_26 : decode cX4_sizeOf 26 = .ok (.iaload, 1) := by decide +kernel
theorem dX4_sizeOf_27 : decode cX4_sizeOf 27 = .ok (.iadd, 1) := by decide +kernel
theorem dX4_sizeOf_28 : decode cX4_sizeOf 28 = .ok (.istore_n 2, 1) := by decide +kernel
theorem dX4_sizeOf_29 : decode cX4_sizeOf 29 = .ok (.iinc 3 1, 3) := by decide +kernel
theorem dX4_sizeOf_32 : decode cX4_sizeOf 32 = .ok (.goto (-28), 3) := by decide +kernel
theorem dX4_sizeOf_35 : decode cX4_sizeOf 35 = .ok (.iload_n 2, 1) := by decide +kernel
theorem dX4_sizeOf_36 : decode cX4_sizeOf 36 = .ok (.ireturn, 1) := by decide +kernel
theorem dX4_sizeFrom_0 : decode cX4_sizeFrom 0 = .ok (.iconst 0, 1) := by decide +kernel
theorem dX4_sizeFrom_1 : decode cX4_sizeFrom 1 = .ok (.istore_n 3, 1) := by decide +kernel
theorem dX4_sizeFrom_2 : decode cX4_sizeFrom 2 = .ok (.iconst 0, 1) := by decide +kernel
theorem dX4_sizeFrom_3 : decode cX4_sizeFrom 3 = .ok (.istore 4, 2) := by decide +kernel
theorem dX4_sizeFrom_5 : decode cX4_sizeFrom 5 = .ok (.iload 4, 2) := by decide +kernel
theorem dX4_sizeFrom_7 : decode cX4_sizeFrom 7 = .ok (.aload_n 0, 1) := by decide +kernel
theorem dX4_sizeFrom_8 : decode cX4_sizeFrom 8 = .ok (.getfield 27, 3) := by decide +kernel
theorem dX4_sizeFrom_11 : decode cX4_sizeFrom 11 = .ok (.if_icmp .ge 39, 3) := by decide +kernel
theorem dX4_sizeFrom_14 : decode cX4_sizeFrom 14 = .ok (.iload 4, 2) := by decide +kernel
theorem dX4_sizeFrom_16 : decode cX4_sizeFrom 16 = .ok (.iload_n 2, 1) := by decide +kernel
theorem dX4_sizeFrom_17 : decode cX4_sizeFrom 17 = .ok (.invokestatic 31, 3) := by decide +kernel
theorem dX4_sizeFrom_20 : decode cX4_sizeFrom 20 = .ok (.ifCond .eq 24, 3) := by decide +kernel
theorem dX4_sizeFrom_23 : decode cX4_sizeFrom 23 = .ok (.aload_n 0, 1) := by decide +kernel
theorem dX4_sizeFrom_24 : decode cX4_sizeFrom 24 = .ok (.getfield 9, 3) := by decide +kernel
theorem dX4_sizeFrom_27 : decode cX4_sizeFrom 27 = .ok (.iload 4, 2) := by decide +kernel
theorem dX4_sizeFrom_29 : decode cX4_sizeFrom 29 = .ok (.iaload, 1) := by decide +kernel
theorem dX4_sizeFrom_30 : decode cX4_sizeFrom 30 = .ok (.iload_n 1, 1) := by decide +kernel
theorem dX4_sizeFrom_31 : decode cX4_sizeFrom 31 = .ok (.if_icmp .ne 13, 3) := by decide +kernel
theorem dX4_sizeFrom_34 : decode cX4_sizeFrom 34 = .ok (.iload_n 3, 1) := by decide +kernel
theorem dX4_sizeFrom_35 : decode cX4_sizeFrom 35 = .ok (.aload_n 0, 1) := by decide +kernel
theorem dX4_sizeFrom_36 : decode cX4_sizeFrom 36 = .ok (.getfield 18, 3) := by decide +kernel
theorem dX4_sizeFrom_39 : decode cX4_sizeFrom 39 = .ok (.iload 4, 2) := by decide +kernel
theorem dX4_sizeFrom_41 : decode cX4_sizeFrom 41 = .ok (.iaload, 1) := by decide +kernel
theorem dX4_sizeFrom_42 : decode cX4_sizeFrom 42 = .ok (.iadd, 1) := by decide +kernel
theorem dX4_sizeFrom_43 : decode cX4_sizeFrom 43 = .ok (.istore_n 3, 1) := by decide +kernel
theorem dX4_sizeFrom_44 : decode cX4_sizeFrom 44 = .ok (.iinc 4 1, 3) := by decide +kernel
theorem dX4_sizeFrom_47 : decode cX4_sizeFrom 47 = .ok (.goto (-42), 3) := by decide +kernel
theorem dX4_sizeFrom_50 : decode cX4_sizeFrom 50 = .ok (.iload_n 3, 1) := by decide +kernel
theorem dX4_sizeFrom_51 : decode cX4_sizeFrom 51 = .ok (.ireturn, 1) := by decide +kernel
theorem dX5_init_0 : decode cX5_init 0 = .ok (.aload_n 0, 1) := by decide +kernel
theorem dX5_init_1 : decode cX5_init 1 = .ok (.invokespecial 3, 3) := by decide +kernel
theorem dX5_init_4 : decode cX5_init 4 = .ok (.aload_n 0, 1) := by decide +kernel
theorem dX5_init_5 : decode cX5_init 5 = .ok (.bipush 6, 2) := by decide +kernel
theorem dX5_init_7 : decode cX5_init 7 = .ok (.newarray .int, 2) := by decide +kernel
theorem dX5_init_9 : decode cX5_init 9 = .ok (.putfield 9, 3) := by decide +kernel
theorem dX5_init_12 : decode cX5_init 12 = .ok (.return_, 1) := by decide +kernel
theorem dX5_put_0 : decode cX5_put 0 = .ok (.aload_n 0, 1) := by decide +kernel
theorem dX5_put_1 : decode cX5_put 1 = .ok (.getfield 15, 3) := by decide +kernel
theorem dX5_put_4 : decode cX5_put 4 = .ok (.bipush 6, 2) := by decide +kernel
theorem dX5_put_6 : decode cX5_put 6 = .ok (.if_icmp .ge 23, 3) := by decide +kernel
theorem dX5_put_9 : decode cX5_put 9 = .ok (.aload_n 0, 1) := by decide +kernel
theorem dX5_put_10 : decode cX5_put 10 = .ok (.getfield 9, 3) := by decide +kernel
theorem dX5_put_13 : decode cX5_put 13 = .ok (.aload_n 0, 1) := by decide +kernel
theorem dX5_put_14 : decode cX5_put 14 = .ok (.getfield 15, 3) := by decide +kernel
theorem dX5_put_17 : decode cX5_put 17 = .ok (.iload_n 1, 1) := by decide +kernel
theorem dX5_put_18 : decode cX5_put 18 = .ok (.iastore, 1) := by decide +kernel
theorem dX5_put_19 : decode cX5_put 19 = .ok (.aload_n 0, 1) := by decide +kernel
theorem dX5_put_20 : decode cX5_put 20 = .ok (.dup, 1) := by decide +kernel
theorem dX5_put_21 : decode cX5_put 21 = .ok (.getfield 15, 3) := by decide +kernel
theorem dX5_put_24 : decode cX5_put 24 = .ok (.iconst 1, 1) := by decide +kernel
theorem dX5_put_25 : decode cX5_put 25 = .ok (.iadd, 1) := by decide +kernel
theorem dX5_put_26 : decode cX5_put 26 = .ok (.putfield 15, 3) := by decide +kernel
theorem dX5_put_29 : decode cX5_put 29 = .ok (.return_, 1) := by decide +kernel
theorem dX5_firstFault_0 : decode cX5_firstFault 0 = .ok (.iconst 0, 1) := by decide +kernel
theorem dX5_firstFault_1 : decode cX5_firstFault 1 = .ok (.istore_n 1, 1) := by decide +kernel
theorem dX5_firstFault_2 : decode cX5_firstFault 2 = .ok (.iload_n 1, 1) := by decide +kernel
theorem dX5_firstFault_3 : decode cX5_firstFault 3 = .ok (.aload_n 0, 1) := by decide +kernel
theorem dX5_firstFault_4 : decode cX5_firstFault 4 = .ok (.getfield 15, 3) := by decide +kernel
theorem dX5_firstFault_7 : decode cX5_firstFault 7 = .ok (.if_icmp .ge 19, 3) := by decide +kernel
theorem dX5_firstFault_10 : decode cX5_firstFault 10 = .ok (.aload_n 0, 1) := by decide +kernel
theorem dX5_firstFault_11 : decode cX5_firstFault 11 = .ok (.iload_n 1, 1) := by decide +kernel
theorem dX5_firstFault_12 : decode cX5_firstFault 12 = .ok (.invokevirtual 19, 3) := by decide +kernel
theorem dX5_firstFault_15 : decode cX5_firstFault 15 = .ok (.ifCond .ne 5, 3) := by decide +kernel
theorem dX5_firstFault_18 : decode cX5_firstFault 18 = .ok (.iload_n 1, 1) := by decide +kernel
theorem dX5_firstFault_19 : decode cX5_firstFault 19 = .ok (.ireturn, 1) := by decide +kernel
theorem dX5_firstFault_20 : decode cX5_firstFault 20 = .ok (.iinc 1 1, 3) := by decide +kernel
theorem dX5_firstFault_23 : decode cX5_firstFault 23 = .ok (.goto (-21), 3) := by decide +kernel
theorem dX5_firstFault_26 : decode cX5_firstFault 26 = .ok (.aload_n 0, 1) := by decide +kernel
theorem dX5_firstFault_27 : decode cX5_firstFault 27 = .ok (.getfield 15, 3) := by decide +kernel
theorem dX5_firstFault_30 : decode cX5_firstFault 30 = .ok (.ireturn, 1) := by decide +kernel
theorem dX5_isLaw_0 : decode cX5_isLaw 0 = .ok (.aload_n 0, 1) := by decide +kernel
theorem dX5_isLaw_1 : decode cX5_isLaw 1 = .ok (.getfield 15, 3) := by decide +kernel
theorem dX5_isLaw_4 : decode cX5_isLaw 4 = .ok (.iconst 4, 1) := by decide +kernel
theorem dX5_isLaw_5 : decode cX5_isLaw 5 = .ok (.if_icmp .ne 15, 3) := by decide +kernel
theorem dX5_isLaw_8 : decode cX5_isLaw 8 = .ok (.aload_n 0, 1) := by decide +kernel
theorem dX5_isLaw_9 : decode cX5_isLaw 9 = .ok (.invokevirtual 23, 3) := by decide +kernel
theorem dX5_isLaw_12 : decode cX5_isLaw 12 = .ok (.iconst 4, 1) := by decide +kernel
theorem dX5_isLaw_13 : decode cX5_isLaw 13 = .ok (.if_icmp .ne 7, 3) := by decide +kernel
theorem dX5_isLaw_16 : decode cX5_isLaw 16 = .ok (.iconst 1, 1) := by decide +kernel
theorem dX5_isLaw_17 : decode cX5_isLaw 17 = .ok (.goto 4, 3) := by decide +kernel
theorem dX5_isLaw_20 : decode cX5_isLaw 20 = .ok (.iconst 0, 1) := by decide +kernel
theorem dX5_isLaw_21 : decode cX5_isLaw 21 = .ok (.ireturn, 1) := by decide +kernel
theorem dX5_digit_0 : decode cX5_digit 0 = .ok (.aload_n 0, 1) := by decide +kernel
theorem dX5_digit_1 : decode cX5_digit 1 = .ok (.getfield 9, 3) := by decide +kernel
theorem dX5_digit_4 : decode cX5_digit 4 = .ok (.iload_n 1, 1) := by decide +kernel
theorem dX5_digit_5 : decode cX5_digit 5 = .ok (.iaload, 1) := by decide +kernel
theorem dX5_digit_6 : decode cX5_digit 6 = .ok (.bipush 48, 2) := by decide +kernel
theorem dX5_digit_8 : decode cX5_digit 8 = .ok (.isub, 1) := by decide +kernel
theorem dX5_digit_9 : decode cX5_digit 9 = .ok (.ireturn, 1) := by decide +kernel
theorem dX5_fits_0 : decode cX5_fits 0 = .ok (.iload_n 1, 1) := by decide +kernel
theorem dX5_fits_1 : decode cX5_fits 1 = .ok (.iconst 4, 1) := by decide +kernel
theorem dX5_fits_2 : decode cX5_fits 2 = .ok (.if_icmp .lt 5, 3) := by decide +kernel
theorem dX5_fits_5 : decode cX5_fits 5 = .ok (.iconst 0, 1) := by decide +kernel
theorem dX5_fits_6 : decode cX5_fits 6 = .ok (.ireturn, 1) := by decide +kernel
theorem dX5_fits_7 : decode cX5_fits 7 = .ok (.iload_n 1, 1) := by decide +kernel
theorem dX5_fits_8 : decode cX5_fits 8 = .ok (.iconst 1, 1) := by decide +kernel
theorem dX5_fits_9 : decode cX5_fits 9 = .ok (.if_icmp .ne 31, 3) := by decide +kernel
theorem dX5_fits_12 : decode cX5_fits 12 = .ok (.aload_n 0, 1) := by decide +kernel
theorem dX5_fits_13 : decode cX5_fits 13 = .ok (.getfield 9, 3) := by decide +kernel
theorem dX5_fits_16 : decode cX5_fits 16 = .ok (.iload_n 1, 1) := by decide +kernel
theorem dX5_fits_17 : decode cX5_fits 17 = .ok (.iaload, 1) := by decide +kernel
theorem dX5_fits_18 : decode cX5_fits 18 = .ok (.bipush 117, 2) := by decide +kernel
theorem dX5_fits_20 : decode cX5_fits 20 = .ok (.if_icmp .eq 14, 3) := by decide +kernel
theorem dX5_fits_23 : decode cX5_fits 23 = .ok (.aload_n 0, 1) := by decide +kernel
theorem dX5_fits_24 : decode cX5_fits 24 = .ok (.getfield 9, 3) := by decide +kernel
theorem dX5_fits_27 : decode cX5_fits 27 = .ok (.iload_n 1, 1) := by decide +kernel
theorem dX5_fits_28 : decode cX5_fits 28 = .ok (.iaload, 1) := by decide +kernel
theorem dX5_fits_29 : decode cX5_fits 29 = .ok (.bipush 100, 2) := by decide +kernel
theorem dX5_fits_31 : decode cX5_fits 31 = .ok (.if_icmp .ne 7, 3) := by decide +kernel
theorem dX5_fits_34 : decode cX5_fits 34 = .ok (.iconst 1, 1) := by decide +kernel
theorem dX5_fits_35 : decode cX5_fits 35 = .ok (.goto 4, 3) := by decide +kernel
theorem dX5_fits_38 : decode cX5_fits 38 = .ok (.iconst 0, 1) := by decide +kernel
theorem dX5_fits_39 : decode cX5_fits 39 = .ok (.ireturn, 1) := by decide +kernel
theorem dX5_fits_40 : decode cX5_fits 40 = .ok (.aload_n 0, 1) := by decide +kernel
theorem dX5_fits_41 : decode cX5_fits 41 = .ok (.iload_n 1, 1) := by decide +kernel
theorem dX5_fits_42 : decode cX5_fits 42 = .ok (.invokevirtual 27, 3) := by decide +kernel
theorem dX5_fits_45 : decode cX5_fits 45 = .ok (.iconst 0, 1) := by decide +kernel
theorem dX5_fits_46 : decode cX5_fits 46 = .ok (.bipush 9, 2) := by decide +kernel
theorem dX5_fits_48 : decode cX5_fits 48 = .ok (.invokestatic 31, 3) := by decide +kernel
theorem dX5_fits_51 : decode cX5_fits 51 = .ok (.ireturn, 1) := by decide +kernel
theorem dX6_init_0 : decode cX6_init 0 = .ok (.aload_n 0, 1) := by decide +kernel
theorem dX6_init_1 : decode cX6_init 1 = .ok (.invokespecial 3, 3) := by decide +kernel
theorem dX6_init_4 : decode cX6_init 4 = .ok (.aload_n 0, 1) := by decide +kernel
theorem dX6_init_5 : decode cX6_init 5 = .ok (.iconst 4, 1) := by decide +kernel
theorem dX6_init_6 : decode cX6_init 6 = .ok (.newarray .int, 2) := by decide +kernel
theorem dX6_init_8 : decode cX6_init 8 = .ok (.putfield 9, 3) := by decide +kernel
theorem dX6_init_11 : decode cX6_init 11 = .ok (.aload_n 0, 1) := by decide +kernel
theorem dX6_init_12 : decode cX6_init 12 = .ok (.iconst 4, 1) := by decide +kernel
theorem dX6_init_13 : decode cX6_init 13 = .ok (.newarray .int, 2) := by decide +kernel
theorem dX6_init_15 : decode cX6_init 15 = .ok (.putfield 15, 3) := by decide +kernel
theorem dX6_init_18 : decode cX6_init 18 = .ok (.return_, 1) := by decide +kernel
theorem dX6_search_0 : decode cX6_search 0 = .ok (.aload_n 0, 1) := by decide +kernel
theorem dX6_search_1 : decode cX6_search 1 = .ok (.iconst 0, 1) := by decide +kernel
theorem dX6_search_2 : decode cX6_search 2 = .ok (.putfield 18, 3) := by decide +kernel
theorem dX6_search_5 : decode cX6_search 5 = .ok (.aload_n 0, 1) := by decide +kernel
theorem dX6_search_6 : decode cX6_search 6 = .ok (.iconst 0, 1) := by decide +kernel
theorem dX6_search_7 : decode cX6_search 7 = .ok (.putfield 22, 3) := by decide +kernel
theorem dX6_search_10 : decode cX6_search 10 = .ok (.iconst 2, 1) := by decide +kernel
theorem dX6_search_11 : decode cX6_search 11 = .ok (.istore_n 2, 1) := by decide +kernel
theorem dX6_search_12 : decode cX6_search 12 = .ok (.iload_n 2, 1) := by decide +kernel
theorem dX6_search_13 : decode cX6_search 13 = .ok (.iconst 4, 1) := by decide +kernel
theorem dX6_search_14 : decode cX6_search 14 = .ok (.if_icmp .gt 42, 3) := by decide +kernel
theorem dX6_search_17 : decode cX6_search 17 = .ok (.iconst 0, 1) := by decide +kernel
theorem dX6_search_18 : decode cX6_search 18 = .ok (.istore_n 3, 1) := by decide +kernel
theorem dX6_search_19 : decode cX6_search 19 = .ok (.iload_n 3, 1) := by decide +kernel
theorem dX6_search_20 : decode cX6_search 20 = .ok (.aload_n 1, 1) := by decide +kernel
theorem dX6_search_21 : decode cX6_search 21 = .ok (.getfield 25, 3) := by decide +kernel
theorem dX6_search_24 : decode cX6_search 24 = .ok (.if_icmp .ge 26, 3) := by decide +kernel
theorem dX6_search_27 : decode cX6_search 27 = .ok (.aload_n 0, 1) := by decide +kernel
theorem dX6_search_28 : decode cX6_search 28 = .ok (.getfield 9, 3) := by decide +kernel
theorem dX6_search_31 : decode cX6_search 31 = .ok (.iconst 0, 1) := by decide +kernel
theorem dX6_search_32 : decode cX6_search 32 = .ok (.iload_n 3, 1) := by decide +kernel
theorem dX6_search_33 : decode cX6_search 33 = .ok (.iastore, 1) := by decide +kernel
theorem dX6_search_34 : decode cX6_search 34 = .ok (.aload_n 0, 1) := by decide +kernel
theorem dX6_search_35 : decode cX6_search 35 = .ok (.aload_n 1, 1) := by decide +kernel
theorem dX6_search_36 : decode cX6_search 36 = .ok (.iconst 1, 1) := by decide +kernel
theorem dX6_search_37 : decode cX6_search 37 = .ok (.iload_n 2, 1) := by decide +kernel
theorem dX6_search_38 : decode cX6_search 38 = .ok (.sipush 9999, 3) := by decide +kernel
theorem dX6_search_41 : decode cX6_search 41 = .ok (.invokevirtual 30, 3) := by decide +kernel
theorem dX6_search_44 : decode cX6_search 44 = .ok (.iinc 3 1, 3) := by decide +kernel
theorem dX6_search_47 : decode cX6_search 47 = .ok (.goto (-28), 3) := by decide +kernel
theorem dX6_search_50 : decode cX6_search 50 = .ok (.iinc 2 1, 3) := by decide +kernel
theorem dX6_search_53 : decode cX6_search 53 = .ok (.goto (-41), 3) := by decide +kernel
theorem dX6_search_56 : decode cX6_search 56 = .ok (.return_, 1) := by decide +kernel
theorem dX6_tell_0 : decode cX6_tell 0 = .ok (.iload_n 1, 1) := by decide +kernel
theorem dX6_tell_1 : decode cX6_tell 1 = .ok (.ifCond .ne 8, 3) := by decide +kernel
theorem dX6_tell_4 : decode cX6_tell 4 = .ok (.aload_n 0, 1) := by decide +kernel
theorem dX6_tell_5 : decode cX6_tell 5 = .ok (.getfield 22, 3) := by decide +kernel
theorem dX6_tell_8 : decode cX6_tell 8 = .ok (.ireturn, 1) := by decide +kernel
theorem dX6_tell_9 : decode cX6_tell 9 = .ok (.iload_n 1, 1) := by decide +kernel
theorem dX6_tell_10 : decode cX6_tell 10 = .ok (.iconst 1, 1) := by decide +kernel
theorem dX6_tell_11 : decode cX6_tell 11 = .ok (.if_icmp .ne 8, 3) := by decide +kernel
theorem dX6_tell_14 : decode cX6_tell 14 = .ok (.aload_n 0, 1) := by decide +kernel
theorem dX6_tell_15 : decode cX6_tell 15 = .ok (.getfield 18, 3) := by decide +kernel
theorem dX6_tell_18 : decode cX6_tell 18 = .ok (.ireturn, 1) := by decide +kernel
theorem dX6_tell_19 : decode cX6_tell 19 = .ok (.iload_n 1, 1) := by decide +kernel
theorem dX6_tell_20 : decode cX6_tell 20 = .ok (.bipush 10, 2) := by decide +kernel
theorem dX6_tell_22 : decode cX6_tell 22 = .ok (.isub, 1) := by decide +kernel
theorem dX6_tell_23 : decode cX6_tell 23 = .ok (.istore_n 2, 1) := by decide +kernel
theorem dX6_tell_24 : decode cX6_tell 24 = .ok (.iload_n 2, 1) := by decide +kernel
theorem dX6_tell_25 : decode cX6_tell 25 = .ok (.ifCond .lt 20, 3) := by decide +kernel
theorem dX6_tell_28 : decode cX6_tell 28 = .ok (.iload_n 2, 1) := by decide +kernel
theorem dX6_tell_29 : decode cX6_tell 29 = .ok (.aload_n 0, 1) := by decide +kernel
theorem dX6_tell_30 : decode cX6_tell 30 = .ok (.getfield 18, 3) := by decide +kernel
theorem dX6_tell_33 : decode cX6_tell 33 = .ok (.if_icmp .ge 12, 3) := by decide +kernel
theorem dX6_tell_36 : decode cX6_tell 36 = .ok (.aload_n 0, 1) := by decide +kernel
theorem dX6_tell_37 : decode cX6_tell 37 = .ok (.getfield 15, 3) := by decide +kernel
theorem dX6_tell_40 : decode cX6_tell 40 = .ok (.iload_n 2, 1) := by decide +kernel
theorem dX6_tell_41 : decode cX6_tell 41 = .ok (.iaload, 1) := by decide +kernel
theorem dX6_tell_42 : decode cX6_tell 42 = .ok (.goto 4, 3) := by decide +kernel
theorem dX6_tell_45 : decode cX6_tell 45 = .ok (.iconst (-1), 1) := by decide +kernel
theorem dX6_tell_46 : decode cX6_tell 46 = .ok (.ireturn, 1) := by decide +kernel
theorem dX6_extend_0 : decode cX6_extend 0 = .ok (.aload_n 0, 1) := by decide +kernel
theorem dX6_extend_1 : decode cX6_extend 1 = .ok (.getfield 9, 3) := by decide +kernel
theorem dX6_extend_4 : decode cX6_extend 4 = .ok (.iload_n 2, 1) := by decide +kernel
theorem dX6_extend_5 : decode cX6_extend 5 = .ok (.iconst 1, 1) := by decide +kernel
theorem dX6_extend_6 : decode cX6_extend 6 = .ok (.isub, 1) := by decide +kernel
theorem dX6_extend_7 : decode cX6_extend 7 = .ok (.iaload, 1) := by decide +kernel
theorem dX6_extend_8 : decode cX6_extend 8 = .ok (.istore 5, 2) := by decide +kernel
theorem dX6_extend_10 : decode cX6_extend 10 = .ok (.iload_n 2, 1) := by decide +kernel
theorem dX6_extend_11 : decode cX6_extend 11 = .ok (.iload_n 3, 1) := by decide +kernel
theorem dX6_extend_12 : decode cX6_extend 12 = .ok (.if_icmp .lt 30, 3) := by decide +kernel
theorem dX6_extend_15 : decode cX6_extend 15 = .ok (.aload_n 0, 1) := by decide +kernel
theorem dX6_extend_16 : decode cX6_extend 16 = .ok (.iload_n 3, 1) := by decide +kernel
theorem dX6_extend_17 : decode cX6_extend 17 = .ok (.iload 4, 2) := by decide +kernel
theorem dX6_extend_19 : decode cX6_extend 19 = .ok (.aload_n 1, 1) := by decide +kernel
theorem dX6_extend_20 : decode cX6_extend 20 = .ok (.getfield 34, 3) := by decide +kernel
theorem dX6_extend_23 : decode cX6_extend 23 = .ok (.iload 5, 2) := by decide +kernel
theorem dX6_extend_25 : decode cX6_extend 25 = .ok (.aload_n 0, 1) := by decide +kernel
theorem dX6_extend_26 : decode cX6_extend 26 = .ok (.getfield 9, 3) := by decide +kernel
theorem dX6_extend_29 : decode cX6_extend 29 = .ok (.iconst 0, 1) := by decide +kernel
theorem dX6_extend_30 : decode cX6_extend 30 = .ok (.iaload, 1) := by decide +kernel
theorem dX6_extend_31 : decode cX6_extend 31 = .ok (.invokestatic 37, 3) := by decide +kernel
theorem dX6_extend_34 : decode cX6_extend 34 = .ok (.iaload, 1) := by decide +kernel
theorem dX6_extend_35 : decode cX6_extend 35 = .ok (.invokestatic 41, 3) := by decide +kernel
theorem dX6_extend_38 : decode cX6_extend 38 = .ok (.invokevirtual 46, 3) := by decide +kernel
theorem dX6_extend_41 : decode cX6_extend 41 = .ok (.return_, 1) := by decide +kernel
theorem dX6_extend_42 : decode cX6_extend 42 = .ok (.aload_n 0, 1) := by decide +kernel
theorem dX6_extend_43 : decode cX6_extend 43 = .ok (.getfield 9, 3) := by decide +kernel
theorem dX6_extend_46 : decode cX6_extend 46 = .ok (.iconst 0, 1) := by decide +kernel
theorem dX6_extend_47 : decode cX6_extend 47 = .ok (.iaload, 1) := by decide +kernel
theorem dX6_extend_48 : decode cX6_extend 48 = .ok (.iconst 1, 1) := by decide +kernel
theorem dX6_extend_49 : decode cX6_extend 49 = .ok (.iadd, 1) := by decide +kernel
theorem dX6_extend_50 : decode cX6_extend 50 = .ok (.istore 6, 2) := by decide +kernel
theorem dX6_extend_52 : decode cX6_extend 52 = .ok (.iload 6, 2) := by decide +kernel
theorem dX6_extend_54 : decode cX6_extend 54 = .ok (.aload_n 1, 1) := by decide +kernel
theorem dX6_extend_55 : decode cX6_extend 55 = .ok (.getfield 25, 3) := by decide +kernel
theorem dX6_extend_58 : decode cX6_extend 58 = .ok (.if_icmp .ge 68, 3) := by decide +kernel
theorem dX6_extend_61 : decode cX6_extend 61 = .ok (.iload 4, 2) := by decide +kernel
theorem dX6_extend_63 : decode cX6_extend 63 = .ok (.aload_n 1, 1) := by decide +kernel
theorem dX6_extend_64 : decode cX6_extend 64 = .ok (.getfield 34, 3) := by decide +kernel
theorem dX6_extend_67 : decode cX6_extend 67 = .ok (.iload 5, 2) := by decide +kernel
theorem dX6_extend_69 : decode cX6_extend 69 = .ok (.iload 6, 2) := by decide +kernel
theorem dX6_extend_71 : decode cX6_extend 71 = .ok (.invokestatic 37, 3) := by decide +kernel
theorem dX6_extend_74 : decode cX6_extend 74 = .ok (.iaload, 1) := by decide +kernel
theorem dX6_extend_75 : decode cX6_extend 75 = .ok (.invokestatic 41, 3) := by decide +kernel
theorem dX6_extend_78 : decode cX6_extend 78 = .ok (.istore 7, 2) := by decide +kernel
theorem dX6_extend_80 : decode cX6_extend 80 = .ok (.iload 7, 2) := by decide +kernel
theorem dX6_extend_82 : decode cX6_extend 82 = .ok (.iload_n 3, 1) := by decide +kernel
theorem dX6_extend_83 : decode cX6_extend 83 = .ok (.imul, 1) := by decide +kernel
theorem dX6_extend_84 : decode cX6_extend 84 = .ok (.aload_n 0, 1) := by decide +kernel
theorem dX6_extend_85 : decode cX6_extend 85 = .ok (.getfield 22, 3) := by decide +kernel
theorem dX6_extend_88 : decode cX6_extend 88 = .ok (.if_icmp .le 32, 3) := by decide +kernel
theorem dX6_extend_91 : decode cX6_extend 91 = .ok (.aload_n 0, 1) := by decide +kernel
theorem dX6_extend_92 : decode cX6_extend 92 = .ok (.iload 6, 2) := by decide +kernel
theorem dX6_extend_94 : decode cX6_extend 94 = .ok (.iload_n 2, 1) := by decide +kernel
theorem dX6_extend_95 : decode cX6_extend 95 = .ok (.invokevirtual 50, 3) := by decide +kernel
theorem dX6_extend_98 : decode cX6_extend 98 = .ok (.ifCond .ne 22, 3) := by decide +kernel
theorem dX6_extend_101 : decode cX6_extend 101 = .ok (.aload_n 0, 1) := by decide +kernel
theorem dX6_extend_102 : decode cX6_extend 102 = .ok (.getfield 9, 3) := by decide +kernel
theorem dX6_extend_105 : decode cX6_extend 105 = .ok (.iload_n 2, 1) := by decide +kernel
theorem dX6_extend_106 : decode cX6_extend 106 = .ok (.iload 6, 2) := by decide +kernel
theorem dX6_extend_108 : decode cX6_extend 108 = .ok (.iastore, 1) := by decide +kernel
theorem dX6_extend_109 : decode cX6_extend 109 = .ok (.aload_n 0, 1) := by decide +kernel
theorem dX6_extend_110 : decode cX6_extend 110 = .ok (.aload_n 1, 1) := by decide +kernel
theorem dX6_extend_111 : decode cX6_extend 111 = .ok (.iload_n 2, 1) := by decide +kernel
theorem dX6_extend_112 : decode cX6_extend 112 = .ok (.iconst 1, 1) := by decide +kernel
theorem dX6_extend_113 : decode cX6_extend 113 = .ok (.iadd, 1) := by decide +kernel
theorem dX6_extend_114 : decode cX6_extend 114 = .ok (.iload_n 3, 1) := by decide +kernel
theorem dX6_extend_115 : decode cX6_extend 115 = .ok (.iload 7, 2) := by decide +kernel
theorem dX6_extend_117 : decode cX6_extend 117 = .ok (.invokevirtual 30, 3) := by decide +kernel
theorem dX6_extend_120 : decode cX6_extend 120 = .ok (.iinc 6 1, 3) := by decide +kernel
theorem dX6_extend_123 : decode cX6_extend 123 = .ok (.goto (-71), 3) := by decide +kernel
theorem dX6_extend_126 : decode cX6_extend 126 = .ok (.return_, 1) := by decide +kernel
theorem dX6_isInRow_0 : decode cX6_isInRow 0 = .ok (.iconst 0, 1) := by decide +kernel
theorem dX6_isInRow_1 : decode cX6_isInRow 1 = .ok (.istore_n 3, 1) := by decide +kernel
theorem dX6_isInRow_2 : decode cX6_isInRow 2 = .ok (.iload_n 3, 1) := by decide +kernel
theorem dX6_isInRow_3 : decode cX6_isInRow 3 = .ok (.iload_n 2, 1) := by decide +kernel
theorem dX6_isInRow_4 : decode cX6_isInRow 4 = .ok (.if_icmp .ge 21, 3) := by decide +kernel
theorem dX6_isInRow_7 : decode cX6_isInRow 7 = .ok (.aload_n 0, 1) := by decide +kernel
theorem dX6_isInRow_8 : decode cX6_isInRow 8 = .ok (.getfield 9, 3) := by decide +kernel
theorem dX6_isInRow_11 : decode cX6_isInRow 11 = .ok (.iload_n 3, 1) := by decide +kernel
theorem dX6_isInRow_12 : decode cX6_isInRow 12 = .ok (.iaload, 1) := by decide +kernel
theorem dX6_isInRow_13 : decode cX6_isInRow 13 = .ok (.iload_n 1, 1) := by decide +kernel
theorem dX6_isInRow_14 : decode cX6_isInRow 14 = .ok (.if_icmp .ne 5, 3) := by decide +kernel
theorem dX6_isInRow_17 : decode cX6_isInRow 17 = .ok (.iconst 1, 1) := by decide +kernel
theorem dX6_isInRow_18 : decode cX6_isInRow 18 = .ok (.ireturn, 1) := by decide +kernel
theorem dX6_isInRow_19 : decode cX6_isInRow 19 = .ok (.iinc 3 1, 3) := by decide +kernel
theorem dX6_isInRow_22 : decode cX6_isInRow 22 = .ok (.goto (-20), 3) := by decide +kernel
theorem dX6_isInRow_25 : decode cX6_isInRow 25 = .ok (.iconst 0, 1) := by decide +kernel
theorem dX6_isInRow_26 : decode cX6_isInRow 26 = .ok (.ireturn, 1) := by decide +kernel
theorem dX6_close_0 : decode cX6_close 0 = .ok (.iload_n 2, 1) := by decide +kernel
theorem dX6_close_1 : decode cX6_close 1 = .ok (.iload_n 1, 1) := by decide +kernel
theorem dX6_close_2 : decode cX6_close 2 = .ok (.imul, 1) := by decide +kernel
theorem dX6_close_3 : decode cX6_close 3 = .ok (.aload_n 0, 1) := by decide +kernel
theorem dX6_close_4 : decode cX6_close 4 = .ok (.getfield 22, 3) := by decide +kernel
theorem dX6_close_7 : decode cX6_close 7 = .ok (.if_icmp .le 29, 3) := by decide +kernel
theorem dX6_close_10 : decode cX6_close 10 = .ok (.aload_n 0, 1) := by decide +kernel
theorem dX6_close_11 : decode cX6_close 11 = .ok (.iload_n 2, 1) := by decide +kernel
theorem dX6_close_12 : decode cX6_close 12 = .ok (.iload_n 1, 1) := by decide +kernel
theorem dX6_close_13 : decode cX6_close 13 = .ok (.imul, 1) := by decide +kernel
theorem dX6_close_14 : decode cX6_close 14 = .ok (.putfield 22, 3) := by decide +kernel
theorem dX6_close_17 : decode cX6_close 17 = .ok (.aload_n 0, 1) := by decide +kernel
theorem dX6_close_18 : decode cX6_close 18 = .ok (.iload_n 1, 1) := by decide +kernel
theorem dX6_close_19 : decode cX6_close 19 = .ok (.putfield 18, 3) := by decide +kernel
theorem dX6_close_22 : decode cX6_close 22 = .ok (.aload_n 0, 1) := by decide +kernel
theorem dX6_close_23 : decode cX6_close 23 = .ok (.getfield 9, 3) := by decide +kernel
theorem dX6_close_26 : decode cX6_close 26 = .ok (.iconst 0, 1) := by decide +kernel
theorem dX6_close_27 : decode cX6_close 27 = .ok (.aload_n 0, 1) := by decide +kernel
theorem dX6_close_28 : decode cX6_close 28 = .ok (.getfield 15, 3) := by decide +kernel
theorem dX6_close_31 : decode cX6_close 31 = .ok (.iconst 0, 1) := by decide +kernel
theorem dX6_close_32 : decode cX6_close 32 = .ok (.iload_n 1, 1) := by decide +kernel
theorem dX6_close_33 : decode cX6_close 33 = .ok (.invokestatic 54, 3) := by decide +kernel
theorem dX6_close_36 : decode cX6_close 36 = .ok (.return_, 1) := by decide +kernel
theorem dX7_init_0 : decode cX7_init 0 = .ok (.aload_n 0, 1) := by decide +kernel
theorem dX7_init_1 : decode cX7_init 1 = .ok (.invokespecial 3, 3) := by decide +kernel
theorem dX7_init_4 : decode cX7_init 4 = .ok (.aload_n 0, 1) := by decide +kernel
theorem dX7_init_5 : decode cX7_init 5 = .ok (.bipush 32, 2) := by decide +kernel
theorem dX7_init_7 : decode cX7_init 7 = .ok (.newarray .int, 2) := by decide +kernel
theorem dX7_init_9 : decode cX7_init 9 = .ok (.putfield 9, 3) := by decide +kernel
theorem dX7_init_12 : decode cX7_init 12 = .ok (.aload_n 0, 1) := by decide +kernel
theorem dX7_init_13 : decode cX7_init 13 = .ok (.bipush 32, 2) := by decide +kernel
theorem dX7_init_15 : decode cX7_init 15 = .ok (.newarray .int, 2) := by decide +kernel
theorem dX7_init_17 : decode cX7_init 17 = .ok (.putfield 15, 3) := by decide +kernel
theorem dX7_init_20 : decode cX7_init 20 = .ok (.return_, 1) := by decide +kernel
theorem dX7_fewestPayments_0 : decode cX7_fewestPayments 0 = .ok (.iconst 1, 1) := by decide +kernel
theorem dX7_fewestPayments_1 : decode cX7_fewestPayments 1 = .ok (.aload_n 1, 1) := by decide +kernel
theorem dX7_fewestPayments_2 : decode cX7_fewestPayments 2 = .ok (.getfield 18, 3) := by decide +kernel
theorem dX7_fewestPayments_5 : decode cX7_fewestPayments 5 = .ok (.ishl, 1) := by decide +kernel
theorem dX7_fewestPayments_6 : decode cX7_fewestPayments 6 = .ok (.istore_n 2, 1) := by decide +kernel
theorem dX7_fewestPayments_7 : decode cX7_fewestPayments 7 = .ok (.iconst 1, 1) := by decide +kernel
theorem dX7_fewestPayments_8 : decode cX7_fewestPayments 8 = .ok (.istore_n 3, 1) := by decide +kernel
theorem dX7_fewestPayments_9 : decode cX7_fewestPayments 9 = .ok (.iload_n 3, 1) := by decide +kernel
theorem dX7_fewestPayments_10 : decode cX7_fewestPayments 10 = .ok (.iload_n 2, 1) := by decide +kernel
theorem dX7_fewestPayments_11 : decode cX7_fewestPayments 11 = .ok (.if_icmp .ge 78, 3) := by decide +kernel
theorem dX7_fewestPayments_14 : decode cX7_fewestPayments 14 = .ok (.iload_n 3, 1) := by decide +kernel
theorem dX7_fewestPayments_15 : decode cX7_fewestPayments 15 = .ok (.invokestatic 24, 3) := by decide +kernel
theorem dX7_fewestPayments_18 : decode cX7_fewestPayments 18 = .ok (.istore 4, 2) := by decide +kernel
theorem dX7_fewestPayments_20 : decode cX7_fewestPayments 20 = .ok (.aload_n 0, 1) := by decide +kernel
theorem dX7_fewestPayments_21 : decode cX7_fewestPayments 21 = .ok (.getfield 9, 3) := by decide +kernel
theorem dX7_fewestPayments_24 : decode cX7_fewestPayments 24 = .ok (.iload_n 3, 1) := by decide +kernel
theorem dX7_fewestPayments_25 : decode cX7_fewestPayments 25 = .ok (.aload_n 0, 1) := by decide +kernel
theorem dX7_fewestPayments_26 : decode cX7_fewestPayments 26 = .ok (.getfield 9, 3) := by decide +kernel
theorem dX7_fewestPayments_29 : decode cX7_fewestPayments 29 = .ok (.iload_n 3, 1) := by decide +kernel
theorem dX7_fewestPayments_30 : decode cX7_fewestPayments 30 = .ok (.iload_n 3, 1) := by decide +kernel
theorem dX7_fewestPayments_31 : decode cX7_fewestPayments 31 = .ok (.iconst 1, 1) := by decide +kernel
theorem dX7_fewestPayments_32 : decode cX7_fewestPayments 32 = .ok (.isub, 1) := by decide +kernel
theorem dX7_fewestPayments_33 : decode cX7_fewestPayments 33 = .ok (.iand, 1) := by decide +kernel
theorem dX7_fewestPayments_34 : decode cX7_fewestPayments 34 = .ok (.iaload, 1) := by decide +kernel
theorem dX7_fewestPayments_35 : decode cX7_fewestPayments 35 = .ok (.aload_n 1, 1) := by decide +kernel
theorem dX7_fewestPayments_36 : decode cX7_fewestPayments 36 = .ok (.iload 4, 2) := by decide +kernel
theorem dX7_fewestPayments_38 : decode cX7_fewestPayments 38 = .ok (.invokevirtual 30, 3) := by decide +kernel
theorem dX7_fewestPayments_41 : decode cX7_fewestPayments 41 = .ok (.iadd, 1) := by decide +kernel
theorem dX7_fewestPayments_42 : decode cX7_fewestPayments 42 = .ok (.aload_n 1, 1) := by decide +kernel
theorem dX7_fewestPayments_43 : decode cX7_fewestPayments 43 = .ok (.iload 4, 2) := by decide +kernel
theorem dX7_fewestPayments_45 : decode cX7_fewestPayments 45 = .ok (.invokevirtual 33, 3) := by decide +kernel
theorem dX7_fewestPayments_48 : decode cX7_fewestPayments 48 = .ok (.isub, 1) := by decide +kernel
theorem dX7_fewestPayments_49 : decode cX7_fewestPayments 49 = .ok (.iastore, 1) := by decide +kernel
theorem dX7_fewestPayments_50 : decode cX7_fewestPayments 50 = .ok (.aload_n 0, 1) := by decide +kernel
theorem dX7_fewestPayments_51 : decode cX7_fewestPayments 51 = .ok (.getfield 15, 3) := by decide +kernel
theorem dX7_fewestPayments_54 : decode cX7_fewestPayments 54 = .ok (.iload_n 3, 1) := by decide +kernel
theorem dX7_fewestPayments_55 : decode cX7_fewestPayments 55 = .ok (.aload_n 0, 1) := by decide +kernel
theorem dX7_fewestPayments_56 : decode cX7_fewestPayments 56 = .ok (.iload_n 3, 1) := by decide +kernel
theorem dX7_fewestPayments_57 : decode cX7_fewestPayments 57 = .ok (.aload_n 1, 1) := by decide +kernel
theorem dX7_fewestPayments_58 : decode cX7_fewestPayments 58 = .ok (.getfield 18, 3) := by decide +kernel
theorem dX7_fewestPayments_61 : decode cX7_fewestPayments 61 = .ok (.invokevirtual 36, 3) := by decide +kernel
theorem dX7_fewestPayments_64 : decode cX7_fewestPayments 64 = .ok (.aload_n 0, 1) := by decide +kernel
theorem dX7_fewestPayments_65 : decode cX7_fewestPayments 65 = .ok (.getfield 9, 3) := by decide +kernel
theorem dX7_fewestPayments_68 : decode cX7_fewestPayments 68 = .ok (.iload_n 3, 1) := by decide +kernel
theorem dX7_fewestPayments_69 : decode cX7_fewestPayments 69 = .ok (.iaload, 1) := by decide +kernel
theorem dX7_fewestPayments_70 : decode cX7_fewestPayments 70 = .ok (.ifCond .ne 7, 3) := by decide +kernel
theorem dX7_fewestPayments_73 : decode cX7_fewestPayments 73 = .ok (.iconst 1, 1) := by decide +kernel
theorem dX7_fewestPayments_74 : decode cX7_fewestPayments 74 = .ok (.goto 4, 3) := by decide +kernel
theorem dX7_fewestPayments_77 : decode cX7_fewestPayments 77 = .ok (.iconst 0, 1) := by decide +kernel
theorem dX7_fewestPayments_78 : decode cX7_fewestPayments 78 = .ok (.invokestatic 40, 3) := by decide +kernel
theorem dX7_fewestPayments_81 : decode cX7_fewestPayments 81 = .ok (.iadd, 1) := by decide +kernel
theorem dX7_fewestPayments_82 : decode cX7_fewestPayments 82 = .ok (.iastore, 1) := by decide +kernel
theorem dX7_fewestPayments_83 : decode cX7_fewestPayments 83 = .ok (.iinc 3 1, 3) := by decide +kernel
theorem dX7_fewestPayments_86 : decode cX7_fewestPayments 86 = .ok (.goto (-77), 3) := by decide +kernel
theorem dX7_fewestPayments_89 : decode cX7_fewestPayments 89 = .ok (.aload_n 1, 1) := by decide +kernel
theorem dX7_fewestPayments_90 : decode cX7_fewestPayments 90 = .ok (.getfield 18, 3) := by decide +kernel
theorem dX7_fewestPayments_93 : decode cX7_fewestPayments 93 = .ok (.aload_n 0, 1) := by decide +kernel
theorem dX7_fewestPayments_94 : decode cX7_fewestPayments 94 = .ok (.getfield 15, 3) := by decide +kernel
theorem dX7_fewestPayments_97 : decode cX7_fewestPayments 97 = .ok (.iload_n 2, 1) := by decide +kernel
theorem dX7_fewestPayments_98 : decode cX7_fewestPayments 98 = .ok (.iconst 1, 1) := by decide +kernel
theorem dX7_fewestPayments_99 : decode cX7_fewestPayments 99 = .ok (.isub, 1) := by decide +kernel
theorem dX7_fewestPayments_100 : decode cX7_fewestPayments 100 = .ok (.iaload, 1) := by decide +kernel
theorem dX7_fewestPayments_101 : decode cX7_fewestPayments 101 = .ok (.isub, 1) := by decide +kernel
theorem dX7_fewestPayments_102 : decode cX7_fewestPayments 102 = .ok (.ireturn, 1) := by decide +kernel
theorem dX7_mostWithoutOne_0 : decode cX7_mostWithoutOne 0 = .ok (.iconst 0, 1) := by decide +kernel
theorem dX7_mostWithoutOne_1 : decode cX7_mostWithoutOne 1 = .ok (.istore_n 3, 1) := by decide +kernel
theorem dX7_mostWithoutOne_2 : decode cX7_mostWithoutOne 2 = .ok (.iconst 0, 1) := by decide +kernel
theorem dX7_mostWithoutOne_3 : decode cX7_mostWithoutOne 3 = .ok (.istore 4, 2) := by decide +kernel
theorem dX7_mostWithoutOne_5 : decode cX7_mostWithoutOne 5 = .ok (.iload 4, 2) := by decide +kernel
theorem dX7_mostWithoutOne_7 : decode cX7_mostWithoutOne 7 = .ok (.iload_n 2, 1) := by decide +kernel
theorem dX7_mostWithoutOne_8 : decode cX7_mostWithoutOne 8 = .ok (.if_icmp .ge 34, 3) := by decide +kernel
theorem dX7_mostWithoutOne_11 : decode cX7_mostWithoutOne 11 = .ok (.iload 4, 2) := by decide +kernel
theorem dX7_mostWithoutOne_13 : decode cX7_mostWithoutOne 13 = .ok (.iload_n 1, 1) := by decide +kernel
theorem dX7_mostWithoutOne_14 : decode cX7_mostWithoutOne 14 = .ok (.invokestatic 44, 3) := by decide +kernel
theorem dX7_mostWithoutOne_17 : decode cX7_mostWithoutOne 17 = .ok (.ifCond .eq 19, 3) := by decide +kernel
theorem dX7_mostWithoutOne_20 : decode cX7_mostWithoutOne 20 = .ok (.iload_n 3, 1) := by decide +kernel
theorem dX7_mostWithoutOne_21 : decode cX7_mostWithoutOne 21 = .ok (.aload_n 0, 1) := by decide +kernel
theorem dX7_mostWithoutOne_22 : decode cX7_mostWithoutOne 22 = .ok (.getfield 15, 3) := by decide +kernel
theorem dX7_mostWithoutOne_25 : decode cX7_mostWithoutOne 25 = .ok (.iload_n 1, 1) := by decide +kernel
theorem dX7_mostWithoutOne_26 : decode cX7_mostWithoutOne 26 = .ok (.iconst 1, 1) := by decide +kernel
theorem dX7_mostWithoutOne_27 : decode cX7_mostWithoutOne 27 = .ok (.iload 4, 2) := by decide +kernel
theorem dX7_mostWithoutOne_29 : decode cX7_mostWithoutOne 29 = .ok (.ishl, 1) := by decide +kernel
theorem dX7_mostWithoutOne_30 : decode cX7_mostWithoutOne 30 = .ok (.ixor, 1) := by decide +kernel
theorem dX7_mostWithoutOne_31 : decode cX7_mostWithoutOne 31 = .ok (.iaload, 1) := by decide +kernel
theorem dX7_mostWithoutOne_32 : decode cX7_mostWithoutOne 32 = .ok (.invokestatic 48, 3) := by decide +kernel
theorem dX7_mostWithoutOne_35 : decode cX7_mostWithoutOne 35 = .ok (.istore_n 3, 1) := by decide +kernel
theorem dX7_mostWithoutOne_36 : decode cX7_mostWithoutOne 36 = .ok (.iinc 4 1, 3) := by decide +kernel
theorem dX7_mostWithoutOne_39 : decode cX7_mostWithoutOne 39 = .ok (.goto (-34), 3) := by decide +kernel
theorem dX7_mostWithoutOne_42 : decode cX7_mostWithoutOne 42 = .ok (.iload_n 3, 1) := by decide +kernel
theorem dX7_mostWithoutOne_43 : decode cX7_mostWithoutOne 43 = .ok (.ireturn, 1) := by decide +kernel
theorem dX8_init_0 : decode cX8_init 0 = .ok (.aload_n 0, 1) := by decide +kernel
theorem dX8_init_1 : decode cX8_init 1 = .ok (.invokespecial 3, 3) := by decide +kernel
theorem dX8_init_4 : decode cX8_init 4 = .ok (.aload_n 0, 1) := by decide +kernel
theorem dX8_init_5 : decode cX8_init 5 = .ok (.new 9, 3) := by decide +kernel
theorem dX8_init_8 : decode cX8_init 8 = .ok (.dup, 1) := by decide +kernel
theorem dX8_init_9 : decode cX8_init 9 = .ok (.invokespecial 11, 3) := by decide +kernel
theorem dX8_init_12 : decode cX8_init 12 = .ok (.putfield 12, 3) := by decide +kernel
theorem dX8_init_15 : decode cX8_init 15 = .ok (.aload_n 0, 1) := by decide +kernel
theorem dX8_init_16 : decode cX8_init 16 = .ok (.iconst 5, 1) := by decide +kernel
theorem dX8_init_17 : decode cX8_init 17 = .ok (.newarray .int, 2) := by decide +kernel
theorem dX8_init_19 : decode cX8_init 19 = .ok (.putfield 18, 3) := by decide +kernel
theorem dX8_init_22 : decode cX8_init 22 = .ok (.aload_n 0, 1) := by decide +kernel
theorem dX8_init_23 : decode cX8_init 23 = .ok (.iconst 5, 1) := by decide +kernel
theorem dX8_init_24 : decode cX8_init 24 = .ok (.newarray .int, 2) := by decide +kernel
theorem dX8_init_26 : decode cX8_init 26 = .ok (.putfield 22, 3) := by decide +kernel
theorem dX8_init_29 : decode cX8_init 29 = .ok (.aload_n 0, 1) := by decide +kernel
theorem dX8_init_30 : decode cX8_init 30 = .ok (.bipush 25, 2) := by decide +kernel
theorem dX8_init_32 : decode cX8_init 32 = .ok (.newarray .int, 2) := by decide +kernel
theorem dX8_init_34 : decode cX8_init 34 = .ok (.putfield 25, 3) := by decide +kernel
theorem dX8_init_37 : decode cX8_init 37 = .ok (.aload_n 0, 1) := by decide +kernel
theorem dX8_init_38 : decode cX8_init 38 = .ok (.bipush 25, 2) := by decide +kernel
theorem dX8_init_40 : decode cX8_init 40 = .ok (.newarray .int, 2) := by decide +kernel
theorem dX8_init_42 : decode cX8_init 42 = .ok (.putfield 28, 3) := by decide +kernel
theorem dX8_init_45 : decode cX8_init 45 = .ok (.aload_n 0, 1) := by decide +kernel
theorem dX8_init_46 : decode cX8_init 46 = .ok (.bipush 25, 2) := by decide +kernel
theorem dX8_init_48 : decode cX8_init 48 = .ok (.newarray .int, 2) := by decide +kernel
theorem dX8_init_50 : decode cX8_init 50 = .ok (.putfield 31, 3) := by decide +kernel
theorem dX8_init_53 : decode cX8_init 53 = .ok (.return_, 1) := by decide +kernel
theorem dX8_copyFrom_0 : decode cX8_copyFrom 0 = .ok (.aload_n 0, 1) := by decide +kernel
theorem dX8_copyFrom_1 : decode cX8_copyFrom 1 = .ok (.getfield 12, 3) := by decide +kernel
theorem dX8_copyFrom_4 : decode cX8_copyFrom 4 = .ok (.aload_n 1, 1) := by decide +kernel
theorem dX8_copyFrom_5 : decode cX8_copyFrom 5 = .ok (.getfield 12, 3) := by decide +kernel
theorem dX8_copyFrom_8 : decode cX8_copyFrom 8 = .ok (.invokevirtual 34, 3) := by decide +kernel
theorem dX8_copyFrom_11 : decode cX8_copyFrom 11 = .ok (.aload_n 1, 1) := by decide +kernel
theorem dX8_copyFrom_12 : decode cX8_copyFrom 12 = .ok (.getfield 18, 3) := by decide +kernel
theorem dX8_copyFrom_15 : decode cX8_copyFrom 15 = .ok (.iconst 0, 1) := by decide +kernel
theorem dX8_copyFrom_16 : decode cX8_copyFrom 16 = .ok (.aload_n 0, 1) := by decide +kernel
theorem dX8_copyFrom_17 : decode cX8_copyFrom 17 = .ok (.getfield 18, 3) := by decide +kernel
theorem dX8_copyFrom_20 : decode cX8_copyFrom 20 = .ok (.iconst 0, 1) := by decide +kernel
theorem dX8_copyFrom_21 : decode cX8_copyFrom 21 = .ok (.iconst 5, 1) := by decide +kernel
theorem dX8_copyFrom_22 : decode cX8_copyFrom 22 = .ok (.invokestatic 38, 3) := by decide +kernel
theorem dX8_copyFrom_25 : decode cX8_copyFrom 25 = .ok (.aload_n 1, 1) := by decide +kernel
theorem dX8_copyFrom_26 : decode cX8_copyFrom 26 = .ok (.getfield 22, 3) := by decide +kernel
theorem dX8_copyFrom_29 : decode cX8_copyFrom 29 = .ok (.iconst 0, 1) := by decide +kernel
theorem dX8_copyFrom_30 : decode cX8_copyFrom 30 = .ok (.aload_n 0, 1) := by decide +kernel
theorem dX8_copyFrom_31 : decode cX8_copyFrom 31 = .ok (.getfield 22, 3) := by decide +kernel
theorem dX8_copyFrom_34 : decode cX8_copyFrom 34 = .ok (.iconst 0, 1) := by decide +kernel
theorem dX8_copyFrom_35 : decode cX8_copyFrom 35 = .ok (.iconst 5, 1) := by decide +kernel
theorem dX8_copyFrom_36 : decode cX8_copyFrom 36 = .ok (.invokestatic 38, 3) := by decide +kernel
theorem dX8_copyFrom_39 : decode cX8_copyFrom 39 = .ok (.aload_n 1, 1) := by decide +kernel
theorem dX8_copyFrom_40 : decode cX8_copyFrom 40 = .ok (.getfield 25, 3) := by decide +kernel
theorem dX8_copyFrom_43 : decode cX8_copyFrom 43 = .ok (.iconst 0, 1) := by decide +kernel
theorem dX8_copyFrom_44 : decode cX8_copyFrom 44 = .ok (.aload_n 0, 1) := by decide +kernel
theorem dX8_copyFrom_45 : decode cX8_copyFrom 45 = .ok (.getfield 25, 3) := by decide +kernel
theorem dX8_copyFrom_48 : decode cX8_copyFrom 48 = .ok (.iconst 0, 1) := by decide +kernel
theorem dX8_copyFrom_49 : decode cX8_copyFrom 49 = .ok (.bipush 25, 2) := by decide +kernel
theorem dX8_copyFrom_51 : decode cX8_copyFrom 51 = .ok (.invokestatic 38, 3) := by decide +kernel
theorem dX8_copyFrom_54 : decode cX8_copyFrom 54 = .ok (.aload_n 1, 1) := by decide +kernel
theorem dX8_copyFrom_55 : decode cX8_copyFrom 55 = .ok (.getfield 28, 3) := by decide +kernel
theorem dX8_copyFrom_58 : decode cX8_copyFrom 58 = .ok (.iconst 0, 1) := by decide +kernel
theorem dX8_copyFrom_59 : decode cX8_copyFrom 59 = .ok (.aload_n 0, 1) := by decide +kernel
theorem dX8_copyFrom_60 : decode cX8_copyFrom 60 = .ok (.getfield 28, 3) := by decide +kernel
theorem dX8_copyFrom_63 : decode cX8_copyFrom 63 = .ok (.iconst 0, 1) := by decide +kernel
theorem dX8_copyFrom_64 : decode cX8_copyFrom 64 = .ok (.bipush 25, 2) := by decide +kernel
theorem dX8_copyFrom_66 : decode cX8_copyFrom 66 = .ok (.invokestatic 38, 3) := by decide +kernel
theorem dX8_copyFrom_69 : decode cX8_copyFrom 69 = .ok (.aload_n 1, 1) := by decide +kernel
theorem dX8_copyFrom_70 : decode cX8_copyFrom 70 = .ok (.getfield 31, 3) := by decide +kernel
theorem dX8_copyFrom_73 : decode cX8_copyFrom 73 = .ok (.iconst 0, 1) := by decide +kernel
theorem dX8_copyFrom_74 : decode cX8_copyFrom 74 = .ok (.aload_n 0, 1) := by decide +kernel
theorem dX8_copyFrom_75 : decode cX8_copyFrom 75 = .ok (.getfield 31, 3) := by decide +kernel
theorem dX8_copyFrom_78 : decode cX8_copyFrom 78 = .ok (.iconst 0, 1) := by decide +kernel
theorem dX8_copyFrom_79 : decode cX8_copyFrom 79 = .ok (.bipush 25, 2) := by decide +kernel
theorem dX8_copyFrom_81 : decode cX8_copyFrom 81 = .ok (.invokestatic 38, 3) := by decide +kernel
theorem dX8_copyFrom_84 : decode cX8_copyFrom 84 = .ok (.aload_n 0, 1) := by decide +kernel
theorem dX8_copyFrom_85 : decode cX8_copyFrom 85 = .ok (.aload_n 1, 1) := by decide +kernel
theorem dX8_copyFrom_86 : decode cX8_copyFrom 86 = .ok (.getfield 44, 3) := by decide +kernel
theorem dX8_copyFrom_89 : decode cX8_copyFrom 89 = .ok (.putfield 44, 3) := by decide +kernel
theorem dX8_copyFrom_92 : decode cX8_copyFrom 92 = .ok (.aload_n 0, 1) := by decide +kernel
theorem dX8_copyFrom_93 : decode cX8_copyFrom 93 = .ok (.aload_n 1, 1) := by decide +kernel
theorem dX8_copyFrom_94 : decode cX8_copyFrom 94 = .ok (.getfield 48, 3) := by decide +kernel
theorem dX8_copyFrom_97 : decode cX8_copyFrom 97 = .ok (.putfield 48, 3) := by decide +kernel
theorem dX8_copyFrom_100 : decode cX8_copyFrom 100 = .ok (.return_, 1) := by decide +kernel
theorem dX8_welcome_0 : decode cX8_welcome 0 = .ok (.aload_n 0, 1) := by decide +kernel
theorem dX8_welcome_1 : decode cX8_welcome 1 = .ok (.getfield 44, 3) := by decide +kernel
theorem dX8_welcome_4 : decode cX8_welcome 4 = .ok (.iconst 5, 1) := by decide +kernel
theorem dX8_welcome_5 : decode cX8_welcome 5 = .ok (.if_icmp .lt 6, 3) := by decide +kernel
theorem dX8_welcome_8 : decode cX8_welcome 8 = .ok (.bipush (-104), 2) := by decide +kernel
theorem dX8_welcome_10 : decode cX8_welcome 10 = .ok (.ireturn, 1) := by decide +kernel
theorem dX8_welcome_11 : decode cX8_welcome 11 = .ok (.aload_n 0, 1) := by decide +kernel
theorem dX8_welcome_12 : decode cX8_welcome 12 = .ok (.getfield 18, 3) := by decide +kernel
theorem dX8_welcome_15 : decode cX8_welcome 15 = .ok (.aload_n 0, 1) := by decide +kernel
theorem dX8_welcome_16 : decode cX8_welcome 16 = .ok (.getfield 44, 3) := by decide +kernel
theorem dX8_welcome_19 : decode cX8_welcome 19 = .ok (.iload_n 1, 1) := by decide +kernel
theorem dX8_welcome_20 : decode cX8_welcome 20 = .ok (.iastore, 1) := by decide +kernel
theorem dX8_welcome_21 : decode cX8_welcome 21 = .ok (.aload_n 0, 1) := by decide +kernel
theorem dX8_welcome_22 : decode cX8_welcome 22 = .ok (.getfield 22, 3) := by decide +kernel
theorem dX8_welcome_25 : decode cX8_welcome 25 = .ok (.aload_n 0, 1) := by decide +kernel
theorem dX8_welcome_26 : decode cX8_welcome 26 = .ok (.getfield 44, 3) := by decide +kernel
theorem dX8_welcome_29 : decode cX8_welcome 29 = .ok (.iload_n 2, 1) := by decide +kernel
theorem dX8_welcome_30 : decode cX8_welcome 30 = .ok (.iastore, 1) := by decide +kernel
theorem dX8_welcome_31 : decode cX8_welcome 31 = .ok (.aload_n 0, 1) := by decide +kernel
theorem dX8_welcome_32 : decode cX8_welcome 32 = .ok (.dup, 1) := by decide +kernel
theorem dX8_welcome_33 : decode cX8_welcome 33 = .ok (.getfield 44, 3) := by decide +kernel
theorem dX8_welcome_36 : decode cX8_welcome 36 = .ok (.iconst 1, 1) := by decide +kernel
theorem dX8_welcome_37 : decode cX8_welcome 37 = .ok (.iadd, 1) := by decide +kernel
theorem dX8_welcome_38 : decode cX8_welcome 38 = .ok (.putfield 44, 3) := by decide +kernel
theorem dX8_welcome_41 : decode cX8_welcome 41 = .ok (.aload_n 0, 1) := by decide +kernel
theorem dX8_welcome_42 : decode cX8_welcome 42 = .ok (.getfield 44, 3) := by decide +kernel
theorem dX8_welcome_45 : decode cX8_welcome 45 = .ok (.iconst 1, 1) := by decide +kernel
theorem dX8_welcome_46 : decode cX8_welcome 46 = .ok (.isub, 1) := by decide +kernel
theorem dX8_welcome_47 : decode cX8_welcome 47 = .ok (.ireturn, 1) := by decide +kernel
theorem dX8_has_0 : decode cX8_has 0 = .ok (.iload_n 1, 1) := by decide +kernel
theorem dX8_has_1 : decode cX8_has 1 = .ok (.ifCond .lt 15, 3) := by decide +kernel
theorem dX8_has_4 : decode cX8_has 4 = .ok (.iload_n 1, 1) := by decide +kernel
theorem dX8_has_5 : decode cX8_has 5 = .ok (.aload_n 0, 1) := by decide +kernel
theorem dX8_has_6 : decode cX8_has 6 = .ok (.getfield 44, 3) := by decide +kernel
theorem dX8_has_9 : decode cX8_has 9 = .ok (.if_icmp .ge 7, 3) := by decide +kernel
theorem dX8_has_12 : decode cX8_has 12 = .ok (.iconst 1, 1) := by decide +kernel
theorem dX8_has_13 : decode cX8_has 13 = .ok (.goto 4, 3) := by decide +kernel
theorem dX8_has_16 : decode cX8_has 16 = .ok (.iconst 0, 1) := by decide +kernel
theorem dX8_has_17 : decode cX8_has 17 = .ok (.ireturn, 1) := by decide +kernel
theorem dX8_hasBoth_0 : decode cX8_hasBoth 0 = .ok (.aload_n 0, 1) := by decide +kernel
theorem dX8_hasBoth_1 : decode cX8_hasBoth 1 = .ok (.iload_n 1, 1) := by decide +kernel
theorem dX8_hasBoth_2 : decode cX8_hasBoth 2 = .ok (.invokevirtual 51, 3) := by decide +kernel
theorem dX8_hasBoth_5 : decode cX8_hasBoth 5 = .ok (.ifCond .eq 20, 3) := by decide +kernel
theorem dX8_hasBoth_8 : decode cX8_hasBoth 8 = .ok (.aload_n 0, 1) := by decide +kernel
theorem dX8_hasBoth_9 : decode cX8_hasBoth 9 = .ok (.iload_n 2, 1) := by decide +kernel
theorem dX8_hasBoth_10 : decode cX8_hasBoth 10 = .ok (.invokevirtual 51, 3) := by decide +kernel
theorem dX8_hasBoth_13 : decode cX8_hasBoth 13 = .ok (.ifCond .eq 12, 3) := by decide +kernel
theorem dX8_hasBoth_16 : decode cX8_hasBoth 16 = .ok (.iload_n 1, 1) := by decide +kernel
theorem dX8_hasBoth_17 : decode cX8_hasBoth 17 = .ok (.iload_n 2, 1) := by decide +kernel
theorem dX8_hasBoth_18 : decode cX8_hasBoth 18 = .ok (.if_icmp .eq 7, 3) := by decide +kernel
theorem dX8_hasBoth_21 : decode cX8_hasBoth 21 = .ok (.iconst 1, 1) := by decide +kernel
theorem dX8_hasBoth_22 : decode cX8_hasBoth 22 = .ok (.goto 4, 3) := by decide +kernel
theorem dX8_hasBoth_25 : decode cX8_hasBoth 25 = .ok (.iconst 0, 1) := by decide +kernel
theorem dX8_hasBoth_26 : decode cX8_hasBoth 26 = .ok (.ireturn, 1) := by decide +kernel
theorem dX8_kindOf_0 : decode cX8_kindOf 0 = .ok (.getstatic 55, 3) := by decide +kernel
theorem dX8_kindOf_3 : decode cX8_kindOf 3 = .ok (.aload_n 0, 1) := by decide +kernel
theorem dX8_kindOf_4 : decode cX8_kindOf 4 = .ok (.getfield 18, 3) := by decide +kernel
theorem dX8_kindOf_7 : decode cX8_kindOf 7 = .ok (.iload_n 1, 1) := by decide +kernel
theorem dX8_kindOf_8 : decode cX8_kindOf 8 = .ok (.iaload, 1) := by decide +kernel
theorem dX8_kindOf_9 : decode cX8_kindOf 9 = .ok (.aaload, 1) := by decide +kernel
theorem dX8_kindOf_10 : decode cX8_kindOf 10 = .ok (.areturn, 1) := by decide +kernel
theorem dX8_owedBy_0 : decode cX8_owedBy 0 = .ok (.iconst 0, 1) := by decide +kernel
theorem dX8_owedBy_1 : decode cX8_owedBy 1 = .ok (.istore_n 2, 1) := by decide +kernel
theorem dX8_owedBy_2 : decode cX8_owedBy 2 = .ok (.iconst 0, 1) := by decide +kernel
theorem dX8_owedBy_3 : decode cX8_owedBy 3 = .ok (.istore_n 3, 1) := by decide +kernel
theorem dX8_owedBy_4 : decode cX8_owedBy 4 = .ok (.iload_n 3, 1) := by decide +kernel
theorem dX8_owedBy_5 : decode cX8_owedBy 5 = .ok (.aload_n 0, 1) := by decide +kernel
theorem dX8_owedBy_6 : decode cX8_owedBy 6 = .ok (.getfield 44, 3) := by decide +kernel
theorem dX8_owedBy_9 : decode cX8_owedBy 9 = .ok (.if_icmp .ge 22, 3) := by decide +kernel
theorem dX8_owedBy_12 : decode cX8_owedBy 12 = .ok (.iload_n 2, 1) := by decide +kernel
theorem dX8_owedBy_13 : decode cX8_owedBy 13 = .ok (.aload_n 0, 1) := by decide +kernel
theorem dX8_owedBy_14 : decode cX8_owedBy 14 = .ok (.getfield 25, 3) := by decide +kernel
theorem dX8_owedBy_17 : decode cX8_owedBy 17 = .ok (.iload_n 1, 1) := by decide +kernel
theorem dX8_owedBy_18 : decode cX8_owedBy 18 = .ok (.iload_n 3, 1) := by decide +kernel
theorem dX8_owedBy_19 : decode cX8_owedBy 19 = .ok (.invokestatic 59, 3) := by decide +kernel
theorem dX8_owedBy_22 : decode cX8_owedBy 22 = .ok (.iaload, 1) := by decide +kernel
theorem dX8_owedBy_23 : decode cX8_owedBy 23 = .ok (.iadd, 1) := by decide +kernel
theorem dX8_owedBy_24 : decode cX8_owedBy 24 = .ok (.istore_n 2, 1) := by decide +kernel
theorem dX8_owedBy_25 : decode cX8_owedBy 25 = .ok (.iinc 3 1, 3) := by decide +kernel
theorem dX8_owedBy_28 : decode cX8_owedBy 28 = .ok (.goto (-24), 3) := by decide +kernel
theorem dX8_owedBy_31 : decode cX8_owedBy 31 = .ok (.iload_n 2, 1) := by decide +kernel
theorem dX8_owedBy_32 : decode cX8_owedBy 32 = .ok (.ireturn, 1) := by decide +kernel
theorem dX8_owedTo_0 : decode cX8_owedTo 0 = .ok (.iconst 0, 1) := by decide +kernel
theorem dX8_owedTo_1 : decode cX8_owedTo 1 = .ok (.istore_n 2, 1) := by decide +kernel
theorem dX8_owedTo_2 : decode cX8_owedTo 2 = .ok (.iconst 0, 1) := by decide +kernel
theorem dX8_owedTo_3 : decode cX8_owedTo 3 = .ok (.istore_n 3, 1) := by decide +kernel
theorem dX8_owedTo_4 : decode cX8_owedTo 4 = .ok (.iload_n 3, 1) := by decide +kernel
theorem dX8_owedTo_5 : decode cX8_owedTo 5 = .ok (.aload_n 0, 1) := by decide +kernel
theorem dX8_owedTo_6 : decode cX8_owedTo 6 = .ok (.getfield 44, 3) := by decide +kernel
theorem dX8_owedTo_9 : decode cX8_owedTo 9 = .ok (.if_icmp .ge 22, 3) := by decide +kernel
theorem dX8_owedTo_12 : decode cX8_owedTo 12 = .ok (.iload_n 2, 1) := by decide +kernel
theorem dX8_owedTo_13 : decode cX8_owedTo 13 = .ok (.aload_n 0, 1) := by decide +kernel
theorem dX8_owedTo_14 : decode cX8_owedTo 14 = .ok (.getfield 25, 3) := by decide +kernel
theorem dX8_owedTo_17 : decode cX8_owedTo 17 = .ok (.iload_n 3, 1) := by decide +kernel
theorem dX8_owedTo_18 : decode cX8_owedTo 18 = .ok (.iload_n 1, 1) := by decide +kernel
theorem dX8_owedTo_19 : decode cX8_owedTo 19 = .ok (.invokestatic 59, 3) := by decide +kernel
theorem dX8_owedTo_22 : decode cX8_owedTo 22 = .ok (.iaload, 1) := by decide +kernel
theorem dX8_owedTo_23 : decode cX8_owedTo 23 = .ok (.iadd, 1) := by decide +kernel
theorem dX8_owedTo_24 : decode cX8_owedTo 24 = .ok (.istore_n 2, 1) := by decide +kernel
theorem dX8_owedTo_25 : decode cX8_owedTo 25 = .ok (.iinc 3 1, 3) := by decide +kernel
theorem dX8_owedTo_28 : decode cX8_owedTo 28 = .ok (.goto (-24), 3) := by decide +kernel
theorem dX8_owedTo_31 : decode cX8_owedTo 31 = .ok (.iload_n 2, 1) := by decide +kernel
theorem dX8_owedTo_32 : decode cX8_owedTo 32 = .ok (.ireturn, 1) := by decide +kernel
theorem dX8_net_0 : decode cX8_net 0 = .ok (.aload_n 0, 1) := by decide +kernel
theorem dX8_net_1 : decode cX8_net 1 = .ok (.getfield 22, 3) := by decide +kernel
theorem dX8_net_4 : decode cX8_net 4 = .ok (.iload_n 1, 1) := by decide +kernel
theorem dX8_net_5 : decode cX8_net 5 = .ok (.iaload, 1) := by decide +kernel
theorem dX8_net_6 : decode cX8_net 6 = .ok (.aload_n 0, 1) := by decide +kernel
theorem dX8_net_7 : decode cX8_net 7 = .ok (.iload_n 1, 1) := by decide +kernel
theorem dX8_net_8 : decode cX8_net 8 = .ok (.invokevirtual 63, 3) := by decide +kernel
theorem dX8_net_11 : decode cX8_net 11 = .ok (.iadd, 1) := by decide +kernel
theorem dX8_net_12 : decode cX8_net 12 = .ok (.aload_n 0, 1) := by decide +kernel
theorem dX8_net_13 : decode cX8_net 13 = .ok (.iload_n 1, 1) := by decide +kernel
theorem dX8_net_14 : decode cX8_net 14 = .ok (.invokevirtual 67, 3) := by decide +kernel
theorem dX8_net_17 : decode cX8_net 17 = .ok (.isub, 1) := by decide +kernel
theorem dX8_net_18 : decode cX8_net 18 = .ok (.ireturn, 1) := by decide +kernel
theorem dX8_isRuined_0 : decode cX8_isRuined 0 = .ok (.aload_n 0, 1) := by decide +kernel
theorem dX8_isRuined_1 : decode cX8_isRuined 1 = .ok (.iload_n 1, 1) := by decide +kernel
theorem dX8_isRuined_2 : decode cX8_isRuined 2 = .ok (.invokevirtual 70, 3) := by decide +kernel
theorem dX8_isRuined_5 : decode cX8_isRuined 5 = .ok (.ifCond .ge 7, 3) := by decide +kernel
theorem dX8_isRuined_8 : decode cX8_isRuined 8 = .ok (.iconst 1, 1) := by decide +kernel
theorem dX8_isRuined_9 : decode cX8_isRuined 9 = .ok (.goto 4, 3) := by decide +kernel
theorem dX8_isRuined_12 : decode cX8_isRuined 12 = .ok (.iconst 0, 1) := by decide +kernel
theorem dX8_isRuined_13 : decode cX8_isRuined 13 = .ok (.ireturn, 1) := by decide +kernel
theorem dX8_ruinedOnes_0 : decode cX8_ruinedOnes 0 = .ok (.iconst 0, 1) := by decide +kernel
theorem dX8_ruinedOnes_1 : decode cX8_ruinedOnes 1 = .ok (.istore_n 1, 1) := by decide +kernel
theorem dX8_ruinedOnes_2 : decode cX8_ruinedOnes 2 = .ok (.iconst 0, 1) := by decide +kernel
theorem dX8_ruinedOnes_3 : decode cX8_ruinedOnes 3 = .ok (.istore_n 2, 1) := by decide +kernel
theorem dX8_ruinedOnes_4 : decode cX8_ruinedOnes 4 = .ok (.iload_n 2, 1) := by decide +kernel
theorem dX8_ruinedOnes_5 : decode cX8_ruinedOnes 5 = .ok (.aload_n 0, 1) := by decide +kernel
theorem dX8_ruinedOnes_6 : decode cX8_ruinedOnes 6 = .ok (.getfield 44, 3) := by decide +kernel
theorem dX8_ruinedOnes_9 : decode cX8_ruinedOnes 9 = .ok (.if_icmp .ge 20, 3) := by decide +kernel
theorem dX8_ruinedOnes_12 : decode cX8_ruinedOnes 12 = .ok (.iload_n 1, 1) := by decide +kernel
theorem dX8_ruinedOnes_13 : decode cX8_ruinedOnes 13 = .ok (.aload_n 0, 1) := by decide +kernel
theorem dX8_ruinedOnes_14 : decode cX8_ruinedOnes 14 = .ok (.iload_n 2, 1) := by decide +kernel
theorem dX8_ruinedOnes_15 : decode cX8_ruinedOnes 15 = .ok (.invokevirtual 73, 3) := by decide +kernel
theorem dX8_ruinedOnes_18 : decode cX8_ruinedOnes 18 = .ok (.invokestatic 76, 3) := by decide +kernel
theorem dX8_ruinedOnes_21 : decode cX8_ruinedOnes 21 = .ok (.iadd, 1) := by decide +kernel
theorem dX8_ruinedOnes_22 : decode cX8_ruinedOnes 22 = .ok (.istore_n 1, 1) := by decide +kernel
theorem dX8_ruinedOnes_23 : decode cX8_ruinedOnes 23 = .ok (.iinc 2 1, 3) := by decide +kernel
theorem dX8_ruinedOnes_26 : decode cX8_ruinedOnes 26 = .ok (.goto (-22), 3) := by decide +kernel
theorem dX8_ruinedOnes_29 : decode cX8_ruinedOnes 29 = .ok (.iload_n 1, 1) := by decide +kernel
theorem dX8_ruinedOnes_30 : decode cX8_ruinedOnes 30 = .ok (.ireturn, 1) := by decide +kernel
theorem dX8_allOwed_0 : decode cX8_allOwed 0 = .ok (.iconst 0, 1) := by decide +kernel
theorem dX8_allOwed_1 : decode cX8_allOwed 1 = .ok (.istore_n 1, 1) := by decide +kernel
theorem dX8_allOwed_2 : decode cX8_allOwed 2 = .ok (.iconst 0, 1) := by decide +kernel
theorem dX8_allOwed_3 : decode cX8_allOwed 3 = .ok (.istore_n 2, 1) := by decide +kernel
theorem dX8_allOwed_4 : decode cX8_allOwed 4 = .ok (.iload_n 2, 1) := by decide +kernel
theorem dX8_allOwed_5 : decode cX8_allOwed 5 = .ok (.aload_n 0, 1) := by decide +kernel
theorem dX8_allOwed_6 : decode cX8_allOwed 6 = .ok (.getfield 44, 3) := by decide +kernel
theorem dX8_allOwed_9 : decode cX8_allOwed 9 = .ok (.if_icmp .ge 17, 3) := by decide +kernel
theorem dX8_allOwed_12 : decode cX8_allOwed 12 = .ok (.iload_n 1, 1) := by decide +kernel
theorem dX8_allOwed_13 : decode cX8_allOwed 13 = .ok (.aload_n 0, 1) := by decide +kernel
theorem dX8_allOwed_14 : decode cX8_allOwed 14 = .ok (.iload_n 2, 1) := by decide +kernel
theorem dX8_allOwed_15 : decode cX8_allOwed 15 = .ok (.invokevirtual 67, 3) := by decide +kernel
theorem dX8_allOwed_18 : decode cX8_allOwed 18 = .ok (.iadd, 1) := by decide +kernel
theorem dX8_allOwed_19 : decode cX8_allOwed 19 = .ok (.istore_n 1, 1) := by decide +kernel
theorem dX8_allOwed_20 : decode cX8_allOwed 20 = .ok (.iinc 2 1, 3) := by decide +kernel
theorem dX8_allOwed_23 : decode cX8_allOwed 23 = .ok (.goto (-19), 3) := by decide +kernel
theorem dX8_allOwed_26 : decode cX8_allOwed 26 = .ok (.iload_n 1, 1) := by decide +kernel
theorem dX8_allOwed_27 : decode cX8_allOwed 27 = .ok (.ireturn, 1) := by decide +kernel
theorem dX8_isOffended_0 : decode cX8_isOffended 0 = .ok (.aload_n 0, 1) := by decide +kernel
theorem dX8_isOffended_1 : decode cX8_isOffended 1 = .ok (.getfield 31, 3) := by decide +kernel
theorem dX8_isOffended_4 : decode cX8_isOffended 4 = .ok (.iload_n 1, 1) := by decide +kernel
theorem dX8_isOffended_5 : decode cX8_isOffended 5 = .ok (.iload_n 2, 1) := by decide +kernel
theorem dX8_isOffended_6 : decode cX8_isOffended 6 = .ok (.invokestatic 59, 3) := by decide +kernel
theorem dX8_isOffended_9 : decode cX8_isOffended 9 = .ok (.iaload, 1) := by decide +kernel
theorem dX8_isOffended_10 : decode cX8_isOffended 10 = .ok (.ifCond .le 7, 3) := by decide +kernel
theorem dX8_isOffended_13 : decode cX8_isOffended 13 = .ok (.iconst 1, 1) := by decide +kernel
theorem dX8_isOffended_14 : decode cX8_isOffended 14 = .ok (.goto 4, 3) := by decide +kernel
theorem dX8_isOffended_17 : decode cX8_isOffended 17 = .ok (.iconst 0, 1) := by decide +kernel
theorem dX8_isOffended_18 : decode cX8_isOffended 18 = .ok (.ireturn, 1) := by decide +kernel
theorem dX8_thank_0 : decode cX8_thank 0 = .ok (.iload_n 2, 1) := by decide +kernel
theorem dX8_thank_1 : decode cX8_thank 1 = .ok (.iload_n 1, 1) := by decide +kernel
theorem dX8_thank_2 : decode cX8_thank 2 = .ok (.invokestatic 59, 3) := by decide +kernel
theorem dX8_thank_5 : decode cX8_thank 5 = .ok (.istore 4, 2) := by decide +kernel
theorem dX8_thank_7 : decode cX8_thank 7 = .ok (.aload_n 0, 1) := by decide +kernel
theorem dX8_thank_8 : decode cX8_thank 8 = .ok (.getfield 25, 3) := by decide +kernel
theorem dX8_thank_11 : decode cX8_thank 11 = .ok (.iload 4, 2) := by decide +kernel
theorem dX8_thank_13 : decode cX8_thank 13 = .ok (.sipush 9999, 3) := by decide +kernel
theorem dX8_thank_16 : decode cX8_thank 16 = .ok (.aload_n 0, 1) := by decide +kernel
theorem dX8_thank_17 : decode cX8_thank 17 = .ok (.getfield 25, 3) := by decide +kernel
theorem dX8_thank_20 : decode cX8_thank 20 = .ok (.iload 4, 2) := by decide +kernel
theorem dX8_thank_22 : decode cX8_thank 22 = .ok (.iaload, 1) := by decide +kernel
theorem dX8_thank_23 : decode cX8_thank 23 = .ok (.iload_n 3, 1) := by decide +kernel
theorem dX8_thank_24 : decode cX8_thank 24 = .ok (.iadd, 1) := by decide +kernel
theorem dX8_thank_25 : decode cX8_thank 25 = .ok (.invokestatic 80, 3) := by decide +kernel
theorem dX8_thank_28 : decode cX8_thank 28 = .ok (.iastore, 1) := by decide +kernel
theorem dX8_thank_29 : decode cX8_thank 29 = .ok (.aload_n 0, 1) := by decide +kernel
theorem dX8_thank_30 : decode cX8_thank 30 = .ok (.getfield 28, 3) := by decide +kernel
theorem dX8_thank_33 : decode cX8_thank 33 = .ok (.iload 4, 2) := by decide +kernel
theorem dX8_thank_35 : decode cX8_thank 35 = .ok (.aload_n 0, 1) := by decide +kernel
theorem dX8_thank_36 : decode cX8_thank 36 = .ok (.getfield 28, 3) := by decide +kernel
theorem dX8_thank_39 : decode cX8_thank 39 = .ok (.iload 4, 2) := by decide +kernel
theorem dX8_thank_41 : decode cX8_thank 41 = .ok (.iaload, 1) := by decide +kernel
theorem dX8_thank_42 : decode cX8_thank 42 = .ok (.aload_n 0, 1) := by decide +kernel
theorem dX8_thank_43 : decode cX8_thank 43 = .ok (.getfield 12, 3) := by decide +kernel
theorem dX8_thank_46 : decode cX8_thank 46 = .ok (.getfield 85, 3) := by decide +kernel
theorem dX8_thank_49 : decode cX8_thank 49 = .ok (.invokestatic 87, 3) := by decide +kernel
theorem dX8_thank_52 : decode cX8_thank 52 = .ok (.iastore, 1) := by decide +kernel
theorem dX8_thank_53 : decode cX8_thank 53 = .ok (.return_, 1) := by decide +kernel
theorem dX8_grunt_0 : decode cX8_grunt 0 = .ok (.aload_n 0, 1) := by decide +kernel
theorem dX8_grunt_1 : decode cX8_grunt 1 = .ok (.iload_n 1, 1) := by decide +kernel
theorem dX8_grunt_2 : decode cX8_grunt 2 = .ok (.invokevirtual 90, 3) := by decide +kernel
theorem dX8_grunt_5 : decode cX8_grunt 5 = .ok (.getfield 94, 3) := by decide +kernel
theorem dX8_grunt_8 : decode cX8_grunt 8 = .ok (.ifCond .eq 31, 3) := by decide +kernel
theorem dX8_grunt_11 : decode cX8_grunt 11 = .ok (.iload_n 1, 1) := by decide +kernel
theorem dX8_grunt_12 : decode cX8_grunt 12 = .ok (.iload_n 2, 1) := by decide +kernel
theorem dX8_grunt_13 : decode cX8_grunt 13 = .ok (.invokestatic 59, 3) := by decide +kernel
theorem dX8_grunt_16 : decode cX8_grunt 16 = .ok (.istore_n 3, 1) := by decide +kernel
theorem dX8_grunt_17 : decode cX8_grunt 17 = .ok (.aload_n 0, 1) := by decide +kernel
theorem dX8_grunt_18 : decode cX8_grunt 18 = .ok (.getfield 31, 3) := by decide +kernel
theorem dX8_grunt_21 : decode cX8_grunt 21 = .ok (.iload_n 3, 1) := by decide +kernel
theorem dX8_grunt_22 : decode cX8_grunt 22 = .ok (.aload_n 0, 1) := by decide +kernel
theorem dX8_grunt_23 : decode cX8_grunt 23 = .ok (.getfield 31, 3) := by decide +kernel
theorem dX8_grunt_26 : decode cX8_grunt 26 = .ok (.iload_n 3, 1) := by decide +kernel
theorem dX8_grunt_27 : decode cX8_grunt 27 = .ok (.iaload, 1) := by decide +kernel
theorem dX8_grunt_28 : decode cX8_grunt 28 = .ok (.aload_n 0, 1) := by decide +kernel
theorem dX8_grunt_29 : decode cX8_grunt 29 = .ok (.getfield 12, 3) := by decide +kernel
theorem dX8_grunt_32 : decode cX8_grunt 32 = .ok (.getfield 100, 3) := by decide +kernel
theorem dX8_grunt_35 : decode cX8_grunt 35 = .ok (.invokestatic 87, 3) := by decide +kernel
theorem dX8_grunt_38 : decode cX8_grunt 38 = .ok (.iastore, 1) := by decide +kernel
theorem dX8_grunt_39 : decode cX8_grunt 39 = .ok (.return_, 1) := by decide +kernel
theorem dX8_passWeek_0 : decode cX8_passWeek 0 = .ok (.iconst 0, 1) := by decide +kernel
theorem dX8_passWeek_1 : decode cX8_passWeek 1 = .ok (.istore_n 1, 1) := by decide +kernel
theorem dX8_passWeek_2 : decode cX8_passWeek 2 = .ok (.iconst 0, 1) := by decide +kernel
theorem dX8_passWeek_3 : decode cX8_passWeek 3 = .ok (.istore_n 2, 1) := by decide +kernel
theorem dX8_passWeek_4 : decode cX8_passWeek 4 = .ok (.iload_n 2, 1) := by decide +kernel
theorem dX8_passWeek_5 : decode cX8_passWeek 5 = .ok (.aload_n 0, 1) := by decide +kernel
theorem dX8_passWeek_6 : decode cX8_passWeek 6 = .ok (.getfield 44, 3) := by decide +kernel
theorem dX8_passWeek_9 : decode cX8_passWeek 9 = .ok (.if_icmp .ge 34, 3) := by decide +kernel
theorem dX8_passWeek_12 : decode cX8_passWeek 12 = .ok (.iconst 0, 1) := by decide +kernel
theorem dX8_passWeek_13 : decode cX8_passWeek 13 = .ok (.istore_n 3, 1) := by decide +kernel
theorem dX8_passWeek_14 : decode cX8_passWeek 14 = .ok (.iload_n 3, 1) := by decide +kernel
theorem dX8_passWeek_15 : decode cX8_passWeek 15 = .ok (.aload_n 0, 1) := by decide +kernel
theorem dX8_passWeek_16 : decode cX8_passWeek 16 = .ok (.getfield 44, 3) := by decide +kernel
theorem dX8_passWeek_19 : decode cX8_passWeek 19 = .ok (.if_icmp .ge 18, 3) := by decide +kernel
theorem dX8_passWeek_22 : decode cX8_passWeek 22 = .ok (.iload_n 1, 1) := by decide +kernel
theorem dX8_passWeek_23 : decode cX8_passWeek 23 = .ok (.aload_n 0, 1) := by decide +kernel
theorem dX8_passWeek_24 : decode cX8_passWeek 24 = .ok (.iload_n 2, 1) := by decide +kernel
theorem dX8_passWeek_25 : decode cX8_passWeek 25 = .ok (.iload_n 3, 1) := by decide +kernel
theorem dX8_passWeek_26 : decode cX8_passWeek 26 = .ok (.invokevirtual 103, 3) := by decide +kernel
theorem dX8_passWeek_29 : decode cX8_passWeek 29 = .ok (.iadd, 1) := by decide +kernel
theorem dX8_passWeek_30 : decode cX8_passWeek 30 = .ok (.istore_n 1, 1) := by decide +kernel
theorem dX8_passWeek_31 : decode cX8_passWeek 31 = .ok (.iinc 3 1, 3) := by decide +kernel
theorem dX8_passWeek_34 : decode cX8_passWeek 34 = .ok (.goto (-20), 3) := by decide +kernel
theorem dX8_passWeek_37 : decode cX8_passWeek 37 = .ok (.iinc 2 1, 3) := by decide +kernel
theorem dX8_passWeek_40 : decode cX8_passWeek 40 = .ok (.goto (-36), 3) := by decide +kernel
theorem dX8_passWeek_43 : decode cX8_passWeek 43 = .ok (.aload_n 0, 1) := by decide +kernel
theorem dX8_passWeek_44 : decode cX8_passWeek 44 = .ok (.dup, 1) := by decide +kernel
theorem dX8_passWeek_45 : decode cX8_passWeek 45 = .ok (.getfield 48, 3) := by decide +kernel
theorem dX8_passWeek_48 : decode cX8_passWeek 48 = .ok (.iconst 1, 1) := by decide +kernel
theorem dX8_passWeek_49 : decode cX8_passWeek 49 = .ok (.iadd, 1) := by decide +kernel
theorem dX8_passWeek_50 : decode cX8_passWeek 50 = .ok (.putfield 48, 3) := by decide +kernel
theorem dX8_passWeek_53 : decode cX8_passWeek 53 = .ok (.iload_n 1, 1) := by decide +kernel
theorem dX8_passWeek_54 : decode cX8_passWeek 54 = .ok (.ireturn, 1) := by decide +kernel
theorem dX8_passPairWeek_0 : decode cX8_passPairWeek 0 = .ok (.iload_n 1, 1) := by decide +kernel
theorem dX8_passPairWeek_1 : decode cX8_passPairWeek 1 = .ok (.iload_n 2, 1) := by decide +kernel
theorem dX8_passPairWeek_2 : decode cX8_passPairWeek 2 = .ok (.invokestatic 59, 3) := by decide +kernel
theorem dX8_passPairWeek_5 : decode cX8_passPairWeek 5 = .ok (.istore_n 3, 1) := by decide +kernel
theorem dX8_passPairWeek_6 : decode cX8_passPairWeek 6 = .ok (.aload_n 0, 1) := by decide +kernel
theorem dX8_passPairWeek_7 : decode cX8_passPairWeek 7 = .ok (.getfield 25, 3) := by decide +kernel
theorem dX8_passPairWeek_10 : decode cX8_passPairWeek 10 = .ok (.iload_n 3, 1) := by decide +kernel
theorem dX8_passPairWeek_11 : decode cX8_passPairWeek 11 = .ok (.iaload, 1) := by decide +kernel
theorem dX8_passPairWeek_12 : decode cX8_passPairWeek 12 = .ok (.istore 4, 2) := by decide +kernel
theorem dX8_passPairWeek_14 : decode cX8_passPairWeek 14 = .ok (.aload_n 0, 1) := by decide +kernel
theorem dX8_passPairWeek_15 : decode cX8_passPairWeek 15 = .ok (.getfield 28, 3) := by decide +kernel
theorem dX8_passPairWeek_18 : decode cX8_passPairWeek 18 = .ok (.iload_n 3, 1) := by decide +kernel
theorem dX8_passPairWeek_19 : decode cX8_passPairWeek 19 = .ok (.iaload, 1) := by decide +kernel
theorem dX8_passPairWeek_20 : decode cX8_passPairWeek 20 = .ok (.ifCond .ne 40, 3) := by decide +kernel
theorem dX8_passPairWeek_23 : decode cX8_passPairWeek 23 = .ok (.iload 4, 2) := by decide +kernel
theorem dX8_passPairWeek_25 : decode cX8_passPairWeek 25 = .ok (.ifCond .le 35, 3) := by decide +kernel
theorem dX8_passPairWeek_28 : decode cX8_passPairWeek 28 = .ok (.aload_n 0, 1) := by decide +kernel
theorem dX8_passPairWeek_29 : decode cX8_passPairWeek 29 = .ok (.getfield 25, 3) := by decide +kernel
theorem dX8_passPairWeek_32 : decode cX8_passPairWeek 32 = .ok (.iload_n 3, 1) := by decide +kernel
theorem dX8_passPairWeek_33 : decode cX8_passPairWeek 33 = .ok (.aload_n 0, 1) := by decide +kernel
theorem dX8_passPairWeek_34 : decode cX8_passPairWeek 34 = .ok (.getfield 12, 3) := by decide +kernel
theorem dX8_passPairWeek_37 : decode cX8_passPairWeek 37 = .ok (.iload 4, 2) := by decide +kernel
theorem dX8_passPairWeek_39 : decode cX8_passPairWeek 39 = .ok (.aload_n 0, 1) := by decide +kernel
theorem dX8_passPairWeek_40 : decode cX8_passPairWeek 40 = .ok (.getfield 12, 3) := by decide +kernel
theorem dX8_passPairWeek_43 : decode cX8_passPairWeek 43 = .ok (.aload_n 0, 1) := by decide +kernel
theorem dX8_passPairWeek_44 : decode cX8_passPairWeek 44 = .ok (.iload_n 1, 1) := by decide +kernel
theorem dX8_passPairWeek_45 : decode cX8_passPairWeek 45 = .ok (.invokevirtual 90, 3) := by decide +kernel
theorem dX8_passPairWeek_48 : decode cX8_passPairWeek 48 = .ok (.aload_n 0, 1) := by decide +kernel
theorem dX8_passPairWeek_49 : decode cX8_passPairWeek 49 = .ok (.iload_n 2, 1) := by decide +kernel
theorem dX8_passPairWeek_50 : decode cX8_passPairWeek 50 = .ok (.invokevirtual 90, 3) := by decide +kernel
theorem dX8_passPairWeek_53 : decode cX8_passPairWeek 53 = .ok (.invokevirtual 106, 3) := by decide +kernel
theorem dX8_passPairWeek_56 : decode cX8_passPairWeek 56 = .ok (.invokevirtual 110, 3) := by decide +kernel
theorem dX8_passPairWeek_59 : decode cX8_passPairWeek 59 = .ok (.iastore, 1) := by decide +kernel
theorem dX8_passPairWeek_60 : decode cX8_passPairWeek 60 = .ok (.aload_n 0, 1) := by decide +kernel
theorem dX8_passPairWeek_61 : decode cX8_passPairWeek 61 = .ok (.getfield 28, 3) := by decide +kernel
theorem dX8_passPairWeek_64 : decode cX8_passPairWeek 64 = .ok (.iload_n 3, 1) := by decide +kernel
theorem dX8_passPairWeek_65 : decode cX8_passPairWeek 65 = .ok (.iconst 0, 1) := by decide +kernel
theorem dX8_passPairWeek_66 : decode cX8_passPairWeek 66 = .ok (.aload_n 0, 1) := by decide +kernel
theorem dX8_passPairWeek_67 : decode cX8_passPairWeek 67 = .ok (.getfield 28, 3) := by decide +kernel
theorem dX8_passPairWeek_70 : decode cX8_passPairWeek 70 = .ok (.iload_n 3, 1) := by decide +kernel
theorem dX8_passPairWeek_71 : decode cX8_passPairWeek 71 = .ok (.iaload, 1) := by decide +kernel
theorem dX8_passPairWeek_72 : decode cX8_passPairWeek 72 = .ok (.iconst 1, 1) := by decide +kernel
theorem dX8_passPairWeek_73 : decode cX8_passPairWeek 73 = .ok (.isub, 1) := by decide +kernel
theorem dX8_passPairWeek_74 : decode cX8_passPairWeek 74 = .ok (.invokestatic 87, 3) := by decide +kernel
theorem dX8_passPairWeek_77 : decode cX8_passPairWeek 77 = .ok (.iastore, 1) := by decide +kernel
theorem dX8_passPairWeek_78 : decode cX8_passPairWeek 78 = .ok (.aload_n 0, 1) := by decide +kernel
theorem dX8_passPairWeek_79 : decode cX8_passPairWeek 79 = .ok (.getfield 31, 3) := by decide +kernel
theorem dX8_passPairWeek_82 : decode cX8_passPairWeek 82 = .ok (.iload_n 3, 1) := by decide +kernel
theorem dX8_passPairWeek_83 : decode cX8_passPairWeek 83 = .ok (.iconst 0, 1) := by decide +kernel
theorem dX8_passPairWeek_84 : decode cX8_passPairWeek 84 = .ok (.aload_n 0, 1) := by decide +kernel
theorem dX8_passPairWeek_85 : decode cX8_passPairWeek 85 = .ok (.getfield 31, 3) := by decide +kernel
theorem dX8_passPairWeek_88 : decode cX8_passPairWeek 88 = .ok (.iload_n 3, 1) := by decide +kernel
theorem dX8_passPairWeek_89 : decode cX8_passPairWeek 89 = .ok (.iaload, 1) := by decide +kernel
theorem dX8_passPairWeek_90 : decode cX8_passPairWeek 90 = .ok (.iconst 1, 1) := by decide +kernel
theorem dX8_passPairWeek_91 : decode cX8_passPairWeek 91 = .ok (.isub, 1) := by decide +kernel
theorem dX8_passPairWeek_92 : decode cX8_passPairWeek 92 = .ok (.invokestatic 87, 3) := by decide +kernel
theorem dX8_passPairWeek_95 : decode cX8_passPairWeek 95 = .ok (.iastore, 1) := by decide +kernel
theorem dX8_passPairWeek_96 : decode cX8_passPairWeek 96 = .ok (.aload_n 0, 1) := by decide +kernel
theorem dX8_passPairWeek_97 : decode cX8_passPairWeek 97 = .ok (.getfield 25, 3) := by decide +kernel
theorem dX8_passPairWeek_100 : decode cX8_passPairWeek 100 = .ok (.iload_n 3, 1) := by decide +kernel
theorem dX8_passPairWeek_101 : decode cX8_passPairWeek 101 = .ok (.iaload, 1) := by decide +kernel
theorem dX8_passPairWeek_102 : decode cX8_passPairWeek 102 = .ok (.iload 4, 2) := by decide +kernel
theorem dX8_passPairWeek_104 : decode cX8_passPairWeek 104 = .ok (.isub, 1) := by decide +kernel
theorem dX8_passPairWeek_105 : decode cX8_passPairWeek 105 = .ok (.ireturn, 1) := by decide +kernel
theorem dX8_shareOut_0 : decode cX8_shareOut 0 = .ok (.aload_n 0, 1) := by decide +kernel
theorem dX8_shareOut_1 : decode cX8_shareOut 1 = .ok (.getfield 22, 3) := by decide +kernel
theorem dX8_shareOut_4 : decode cX8_shareOut 4 = .ok (.iload_n 1, 1) := by decide +kernel
theorem dX8_shareOut_5 : decode cX8_shareOut 5 = .ok (.iaload, 1) := by decide +kernel
theorem dX8_shareOut_6 : decode cX8_shareOut 6 = .ok (.istore_n 3, 1) := by decide +kernel
theorem dX8_shareOut_7 : decode cX8_shareOut 7 = .ok (.iconst 0, 1) := by decide +kernel
theorem dX8_shareOut_8 : decode cX8_shareOut 8 = .ok (.istore 4, 2) := by decide +kernel
theorem dX8_shareOut_10 : decode cX8_shareOut 10 = .ok (.iconst 0, 1) := by decide +kernel
theorem dX8_shareOut_11 : decode cX8_shareOut 11 = .ok (.istore 5, 2) := by decide +kernel
theorem dX8_shareOut_13 : decode cX8_shareOut 13 = .ok (.iload 5, 2) := by decide +kernel
theorem dX8_shareOut_15 : decode cX8_shareOut 15 = .ok (.aload_n 0, 1) := by decide +kernel
theorem dX8_shareOut_16 : decode cX8_shareOut 16 = .ok (.getfield 44, 3) := by decide +kernel
theorem dX8_shareOut_19 : decode cX8_shareOut 19 = .ok (.if_icmp .ge 92, 3) := by decide +kernel
theorem dX8_shareOut_22 : decode cX8_shareOut 22 = .ok (.iload_n 1, 1) := by decide +kernel
theorem dX8_shareOut_23 : decode cX8_shareOut 23 = .ok (.iload 5, 2) := by decide +kernel
theorem dX8_shareOut_25 : decode cX8_shareOut 25 = .ok (.invokestatic 59, 3) := by decide +kernel
theorem dX8_shareOut_28 : decode cX8_shareOut 28 = .ok (.istore 6, 2) := by decide +kernel
theorem dX8_shareOut_30 : decode cX8_shareOut 30 = .ok (.aload_n 0, 1) := by decide +kernel
theorem dX8_shareOut_31 : decode cX8_shareOut 31 = .ok (.getfield 25, 3) := by decide +kernel
theorem dX8_shareOut_34 : decode cX8_shareOut 34 = .ok (.iload 6, 2) := by decide +kernel
theorem dX8_shareOut_36 : decode cX8_shareOut 36 = .ok (.iaload, 1) := by decide +kernel
theorem dX8_shareOut_37 : decode cX8_shareOut 37 = .ok (.ifCond .le 68, 3) := by decide +kernel
theorem dX8_shareOut_40 : decode cX8_shareOut 40 = .ok (.iload_n 2, 1) := by decide +kernel
theorem dX8_shareOut_41 : decode cX8_shareOut 41 = .ok (.ifCond .le 64, 3) := by decide +kernel
theorem dX8_shareOut_44 : decode cX8_shareOut 44 = .ok (.aload_n 0, 1) := by decide +kernel
theorem dX8_shareOut_45 : decode cX8_shareOut 45 = .ok (.getfield 25, 3) := by decide +kernel
theorem dX8_shareOut_48 : decode cX8_shareOut 48 = .ok (.iload 6, 2) := by decide +kernel
theorem dX8_shareOut_50 : decode cX8_shareOut 50 = .ok (.iaload, 1) := by decide +kernel
theorem dX8_shareOut_51 : decode cX8_shareOut 51 = .ok (.iload_n 3, 1) := by decide +kernel
theorem dX8_shareOut_52 : decode cX8_shareOut 52 = .ok (.aload_n 0, 1) := by decide +kernel
theorem dX8_shareOut_53 : decode cX8_shareOut 53 = .ok (.getfield 25, 3) := by decide +kernel
theorem dX8_shareOut_56 : decode cX8_shareOut 56 = .ok (.iload 6, 2) := by decide +kernel
theorem dX8_shareOut_58 : decode cX8_shareOut 58 = .ok (.iaload, 1) := by decide +kernel
theorem dX8_shareOut_59 : decode cX8_shareOut 59 = .ok (.imul, 1) := by decide +kernel
theorem dX8_shareOut_60 : decode cX8_shareOut 60 = .ok (.iload_n 2, 1) := by decide +kernel
theorem dX8_shareOut_61 : decode cX8_shareOut 61 = .ok (.idiv, 1) := by decide +kernel
theorem dX8_shareOut_62 : decode cX8_shareOut 62 = .ok (.invokestatic 80, 3) := by decide +kernel
theorem dX8_shareOut_65 : decode cX8_shareOut 65 = .ok (.istore 7, 2) := by decide +kernel
theorem dX8_shareOut_67 : decode cX8_shareOut 67 = .ok (.aload_n 0, 1) := by decide +kernel
theorem dX8_shareOut_68 : decode cX8_shareOut 68 = .ok (.getfield 22, 3) := by decide +kernel
theorem dX8_shareOut_71 : decode cX8_shareOut 71 = .ok (.iload 5, 2) := by decide +kernel
theorem dX8_shareOut_73 : decode cX8_shareOut 73 = .ok (.sipush 999, 3) := by decide +kernel
theorem dX8_shareOut_76 : decode cX8_shareOut 76 = .ok (.aload_n 0, 1) := by decide +kernel
theorem dX8_shareOut_77 : decode cX8_shareOut 77 = .ok (.getfield 22, 3) := by decide +kernel
theorem dX8_shareOut_80 : decode cX8_shareOut 80 = .ok (.iload 5, 2) := by decide +kernel
theorem dX8_shareOut_82 : decode cX8_shareOut 82 = .ok (.iaload, 1) := by decide +kernel
theorem dX8_shareOut_83 : decode cX8_shareOut 83 = .ok (.iload 7, 2) := by decide +kernel
theorem dX8_shareOut_85 : decode cX8_shareOut 85 = .ok (.iadd, 1) := by decide +kernel
theorem dX8_shareOut_86 : decode cX8_shareOut 86 = .ok (.invokestatic 80, 3) := by decide +kernel
theorem dX8_shareOut_89 : decode cX8_shareOut 89 = .ok (.iastore, 1) := by decide +kernel
theorem dX8_shareOut_90 : decode cX8_shareOut 90 = .ok (.iload 4, 2) := by decide +kernel
theorem dX8_shareOut_92 : decode cX8_shareOut 92 = .ok (.iload 7, 2) := by decide +kernel
theorem dX8_shareOut_94 : decode cX8_shareOut 94 = .ok (.iadd, 1) := by decide +kernel
theorem dX8_shareOut_95 : decode cX8_shareOut 95 = .ok (.istore 4, 2) := by decide +kernel
theorem dX8_shareOut_97 : decode cX8_shareOut 97 = .ok (.aload_n 0, 1) := by decide +kernel
theorem dX8_shareOut_98 : decode cX8_shareOut 98 = .ok (.getfield 25, 3) := by decide +kernel
theorem dX8_shareOut_101 : decode cX8_shareOut 101 = .ok (.iload 6, 2) := by decide +kernel
theorem dX8_shareOut_103 : decode cX8_shareOut 103 = .ok (.iconst 0, 1) := by decide +kernel
theorem dX8_shareOut_104 : decode cX8_shareOut 104 = .ok (.iastore, 1) := by decide +kernel
theorem dX8_shareOut_105 : decode cX8_shareOut 105 = .ok (.iinc 5 1, 3) := by decide +kernel
theorem dX8_shareOut_108 : decode cX8_shareOut 108 = .ok (.goto (-95), 3) := by decide +kernel
theorem dX8_shareOut_111 : decode cX8_shareOut 111 = .ok (.aload_n 0, 1) := by decide +kernel
theorem dX8_shareOut_112 : decode cX8_shareOut 112 = .ok (.getfield 22, 3) := by decide +kernel
theorem dX8_shareOut_115 : decode cX8_shareOut 115 = .ok (.iload_n 1, 1) := by decide +kernel
theorem dX8_shareOut_116 : decode cX8_shareOut 116 = .ok (.iload_n 3, 1) := by decide +kernel
theorem dX8_shareOut_117 : decode cX8_shareOut 117 = .ok (.iload 4, 2) := by decide +kernel
theorem dX8_shareOut_119 : decode cX8_shareOut 119 = .ok (.isub, 1) := by decide +kernel
theorem dX8_shareOut_120 : decode cX8_shareOut 120 = .ok (.iastore, 1) := by decide +kernel
theorem dX8_shareOut_121 : decode cX8_shareOut 121 = .ok (.iload 4, 2) := by decide +kernel
theorem dX8_shareOut_123 : decode cX8_shareOut 123 = .ok (.ireturn, 1) := by decide +kernel
theorem dX8_liveWeek_0 : decode cX8_liveWeek 0 = .ok (.aload_n 1, 1) := by decide +kernel
theorem dX8_liveWeek_1 : decode cX8_liveWeek 1 = .ok (.aload_n 0, 1) := by decide +kernel
theorem dX8_liveWeek_2 : decode cX8_liveWeek 2 = .ok (.getfield 44, 3) := by decide +kernel
theorem dX8_liveWeek_5 : decode cX8_liveWeek 5 = .ok (.invokevirtual 113, 3) := by decide +kernel
theorem dX8_liveWeek_8 : decode cX8_liveWeek 8 = .ok (.istore_n 2, 1) := by decide +kernel
theorem dX8_liveWeek_9 : decode cX8_liveWeek 9 = .ok (.aload_n 1, 1) := by decide +kernel
theorem dX8_liveWeek_10 : decode cX8_liveWeek 10 = .ok (.aload_n 0, 1) := by decide +kernel
theorem dX8_liveWeek_11 : decode cX8_liveWeek 11 = .ok (.getfield 44, 3) := by decide +kernel
theorem dX8_liveWeek_14 : decode cX8_liveWeek 14 = .ok (.invokevirtual 113, 3) := by decide +kernel
theorem dX8_liveWeek_17 : decode cX8_liveWeek 17 = .ok (.istore_n 3, 1) := by decide +kernel
theorem dX8_liveWeek_18 : decode cX8_liveWeek 18 = .ok (.aload_n 1, 1) := by decide +kernel
theorem dX8_liveWeek_19 : decode cX8_liveWeek 19 = .ok (.bipush 9, 2) := by decide +kernel
theorem dX8_liveWeek_21 : decode cX8_liveWeek 21 = .ok (.invokevirtual 113, 3) := by decide +kernel
theorem dX8_liveWeek_24 : decode cX8_liveWeek 24 = .ok (.iconst 1, 1) := by decide +kernel
theorem dX8_liveWeek_25 : decode cX8_liveWeek 25 = .ok (.iadd, 1) := by decide +kernel
theorem dX8_liveWeek_26 : decode cX8_liveWeek 26 = .ok (.istore 4, 2) := by decide +kernel
theorem dX8_liveWeek_28 : decode cX8_liveWeek 28 = .ok (.iload_n 2, 1) := by decide +kernel
theorem dX8_liveWeek_29 : decode cX8_liveWeek 29 = .ok (.iload_n 3, 1) := by decide +kernel
theorem dX8_liveWeek_30 : decode cX8_liveWeek 30 = .ok (.if_icmp .eq 49, 3) := by decide +kernel
theorem dX8_liveWeek_33 : decode cX8_liveWeek 33 = .ok (.aload_n 0, 1) := by decide +kernel
theorem dX8_liveWeek_34 : decode cX8_liveWeek 34 = .ok (.iload_n 2, 1) := by decide +kernel
theorem dX8_liveWeek_35 : decode cX8_liveWeek 35 = .ok (.iload_n 3, 1) := by decide +kernel
theorem dX8_liveWeek_36 : decode cX8_liveWeek 36 = .ok (.invokevirtual 118, 3) := by decide +kernel
theorem dX8_liveWeek_39 : decode cX8_liveWeek 39 = .ok (.ifCond .ne 40, 3) := by decide +kernel
theorem dX8_liveWeek_42 : decode cX8_liveWeek 42 = .ok (.aload_n 0, 1) := by decide +kernel
theorem dX8_liveWeek_43 : decode cX8_liveWeek 43 = .ok (.iload_n 3, 1) := by decide +kernel
theorem dX8_liveWeek_44 : decode cX8_liveWeek 44 = .ok (.invokevirtual 90, 3) := by decide +kernel
theorem dX8_liveWeek_47 : decode cX8_liveWeek 47 = .ok (.getfield 122, 3) := by decide +kernel
theorem dX8_liveWeek_50 : decode cX8_liveWeek 50 = .ok (.ifCond .eq 23, 3) := by decide +kernel
theorem dX8_liveWeek_53 : decode cX8_liveWeek 53 = .ok (.aload_n 1, 1) := by decide +kernel
theorem dX8_liveWeek_54 : decode cX8_liveWeek 54 = .ok (.iconst 2, 1) := by decide +kernel
theorem dX8_liveWeek_55 : decode cX8_liveWeek 55 = .ok (.invokevirtual 113, 3) := by decide +kernel
theorem dX8_liveWeek_58 : decode cX8_liveWeek 58 = .ok (.iconst 1, 1) := by decide +kernel
theorem dX8_liveWeek_59 : decode cX8_liveWeek 59 = .ok (.if_icmp .ne 14, 3) := by decide +kernel
theorem dX8_liveWeek_62 : decode cX8_liveWeek 62 = .ok (.aload_n 0, 1) := by decide +kernel
theorem dX8_liveWeek_63 : decode cX8_liveWeek 63 = .ok (.iload_n 2, 1) := by decide +kernel
theorem dX8_liveWeek_64 : decode cX8_liveWeek 64 = .ok (.iload_n 3, 1) := by decide +kernel
theorem dX8_liveWeek_65 : decode cX8_liveWeek 65 = .ok (.iload 4, 2) := by decide +kernel
theorem dX8_liveWeek_67 : decode cX8_liveWeek 67 = .ok (.invokevirtual 125, 3) := by decide +kernel
theorem dX8_liveWeek_70 : decode cX8_liveWeek 70 = .ok (.goto 9, 3) := by decide +kernel
theorem dX8_liveWeek_73 : decode cX8_liveWeek 73 = .ok (.aload_n 0, 1) := by decide +kernel
theorem dX8_liveWeek_74 : decode cX8_liveWeek 74 = .ok (.iload_n 2, 1) := by decide +kernel
theorem dX8_liveWeek_75 : decode cX8_liveWeek 75 = .ok (.iload_n 3, 1) := by decide +kernel
theorem dX8_liveWeek_76 : decode cX8_liveWeek 76 = .ok (.invokevirtual 129, 3) := by decide +kernel
theorem dX8_liveWeek_79 : decode cX8_liveWeek 79 = .ok (.aload_n 0, 1) := by decide +kernel
theorem dX8_liveWeek_80 : decode cX8_liveWeek 80 = .ok (.invokevirtual 133, 3) := by decide +kernel
theorem dX8_liveWeek_83 : decode cX8_liveWeek 83 = .ok (.pop, 1) := by decide +kernel
theorem dX8_liveWeek_84 : decode cX8_liveWeek 84 = .ok (.return_, 1) := by decide +kernel
theorem dX9_init_0 : decode cX9_init 0 = .ok (.aload_n 0, 1) := by decide +kernel
theorem dX9_init_1 : decode cX9_init 1 = .ok (.invokespecial 3, 3) := by decide +kernel
theorem dX9_init_4 : decode cX9_init 4 = .ok (.aload_n 0, 1) := by decide +kernel
theorem dX9_init_5 : decode cX9_init 5 = .ok (.new 9, 3) := by decide +kernel
theorem dX9_init_8 : decode cX9_init 8 = .ok (.dup, 1) := by decide +kernel
theorem dX9_init_9 : decode cX9_init 9 = .ok (.invokespecial 11, 3) := by decide +kernel
theorem dX9_init_12 : decode cX9_init 12 = .ok (.putfield 12, 3) := by decide +kernel
theorem dX9_init_15 : decode cX9_init 15 = .ok (.aload_n 0, 1) := by decide +kernel
theorem dX9_init_16 : decode cX9_init 16 = .ok (.new 16, 3) := by decide +kernel
theorem dX9_init_19 : decode cX9_init 19 = .ok (.dup, 1) := by decide +kernel
theorem dX9_init_20 : decode cX9_init 20 = .ok (.invokespecial 18, 3) := by decide +kernel
theorem dX9_init_23 : decode cX9_init 23 = .ok (.putfield 19, 3) := by decide +kernel
theorem dX9_init_26 : decode cX9_init 26 = .ok (.aload_n 0, 1) := by decide +kernel
theorem dX9_init_27 : decode cX9_init 27 = .ok (.new 23, 3) := by decide +kernel
theorem dX9_init_30 : decode cX9_init 30 = .ok (.dup, 1) := by decide +kernel
theorem dX9_init_31 : decode cX9_init 31 = .ok (.invokespecial 25, 3) := by decide +kernel
theorem dX9_init_34 : decode cX9_init 34 = .ok (.putfield 26, 3) := by decide +kernel
theorem dX9_init_37 : decode cX9_init 37 = .ok (.aload_n 0, 1) := by decide +kernel
theorem dX9_init_38 : decode cX9_init 38 = .ok (.new 16, 3) := by decide +kernel
theorem dX9_init_41 : decode cX9_init 41 = .ok (.dup, 1) := by decide +kernel
theorem dX9_init_42 : decode cX9_init 42 = .ok (.invokespecial 18, 3) := by decide +kernel
theorem dX9_init_45 : decode cX9_init 45 = .ok (.putfield 30, 3) := by decide +kernel
theorem dX9_init_48 : decode cX9_init 48 = .ok (.aload_n 0, 1) := by decide +kernel
theorem dX9_init_49 : decode cX9_init 49 = .ok (.new 23, 3) := by decide +kernel
theorem dX9_init_52 : decode cX9_init 52 = .ok (.dup, 1) := by decide +kernel
theorem dX9_init_53 : decode cX9_init 53 = .ok (.invokespecial 25, 3) := by decide +kernel
theorem dX9_init_56 : decode cX9_init 56 = .ok (.putfield 33, 3) := by decide +kernel
theorem dX9_init_59 : decode cX9_init 59 = .ok (.aload_n 0, 1) := by decide +kernel
theorem dX9_init_60 : decode cX9_init 60 = .ok (.new 16, 3) := by decide +kernel
theorem dX9_init_63 : decode cX9_init 63 = .ok (.dup, 1) := by decide +kernel
theorem dX9_init_64 : decode cX9_init 64 = .ok (.invokespecial 18, 3) := by decide +kernel
theorem dX9_init_67 : decode cX9_init 67 = .ok (.putfield 36, 3) := by decide +kernel
theorem dX9_init_70 : decode cX9_init 70 = .ok (.aload_n 0, 1) := by decide +kernel
theorem dX9_init_71 : decode cX9_init 71 = .ok (.new 39, 3) := by decide +kernel
theorem dX9_init_74 : decode cX9_init 74 = .ok (.dup, 1) := by decide +kernel
theorem dX9_init_75 : decode cX9_init 75 = .ok (.invokespecial 41, 3) := by decide +kernel
theorem dX9_init_78 : decode cX9_init 78 = .ok (.putfield 42, 3) := by decide +kernel
theorem dX9_init_81 : decode cX9_init 81 = .ok (.aload_n 0, 1) := by decide +kernel
theorem dX9_init_82 : decode cX9_init 82 = .ok (.new 46, 3) := by decide +kernel
theorem dX9_init_85 : decode cX9_init 85 = .ok (.dup, 1) := by decide +kernel
theorem dX9_init_86 : decode cX9_init 86 = .ok (.invokespecial 48, 3) := by decide +kernel
theorem dX9_init_89 : decode cX9_init 89 = .ok (.putfield 49, 3) := by decide +kernel
theorem dX9_init_92 : decode cX9_init 92 = .ok (.aload_n 0, 1) := by decide +kernel
theorem dX9_init_93 : decode cX9_init 93 = .ok (.new 53, 3) := by decide +kernel
theorem dX9_init_96 : decode cX9_init 96 = .ok (.dup, 1) := by decide +kernel
theorem dX9_init_97 : decode cX9_init 97 = .ok (.invokespecial 55, 3) := by decide +kernel
theorem dX9_init_100 : decode cX9_init 100 = .ok (.putfield 56, 3) := by decide +kernel
theorem dX9_init_103 : decode cX9_init 103 = .ok (.aload_n 0, 1) := by decide +kernel
theorem dX9_init_104 : decode cX9_init 104 = .ok (.new 60, 3) := by decide +kernel
theorem dX9_init_107 : decode cX9_init 107 = .ok (.dup, 1) := by decide +kernel
theorem dX9_init_108 : decode cX9_init 108 = .ok (.invokespecial 62, 3) := by decide +kernel
theorem dX9_init_111 : decode cX9_init 111 = .ok (.putfield 63, 3) := by decide +kernel
theorem dX9_init_114 : decode cX9_init 114 = .ok (.aload_n 0, 1) := by decide +kernel
theorem dX9_init_115 : decode cX9_init 115 = .ok (.iconst 5, 1) := by decide +kernel
theorem dX9_init_116 : decode cX9_init 116 = .ok (.newarray .int, 2) := by decide +kernel
theorem dX9_init_118 : decode cX9_init 118 = .ok (.putfield 67, 3) := by decide +kernel
theorem dX9_init_121 : decode cX9_init 121 = .ok (.return_, 1) := by decide +kernel
theorem dX9_letter_0 : decode cX9_letter 0 = .ok (.iload_n 1, 1) := by decide +kernel
theorem dX9_letter_1 : decode cX9_letter 1 = .ok (.bipush 32, 2) := by decide +kernel
theorem dX9_letter_3 : decode cX9_letter 3 = .ok (.bipush 126, 2) := by decide +kernel
theorem dX9_letter_5 : decode cX9_letter 5 = .ok (.invokestatic 71, 3) := by decide +kernel
theorem dX9_letter_8 : decode cX9_letter 8 = .ok (.ifCond .ne 6, 3) := by decide +kernel
theorem dX9_letter_11 : decode cX9_letter 11 = .ok (.bipush (-102), 2) := by decide +kernel
theorem dX9_letter_13 : decode cX9_letter 13 = .ok (.ireturn, 1) := by decide +kernel
theorem dX9_letter_14 : decode cX9_letter 14 = .ok (.aload_n 0, 1) := by decide +kernel
theorem dX9_letter_15 : decode cX9_letter 15 = .ok (.getfield 12, 3) := by decide +kernel
theorem dX9_letter_18 : decode cX9_letter 18 = .ok (.getfield 75, 3) := by decide +kernel
theorem dX9_letter_21 : decode cX9_letter 21 = .ok (.bipush 6, 2) := by decide +kernel
theorem dX9_letter_23 : decode cX9_letter 23 = .ok (.if_icmp .lt 6, 3) := by decide +kernel
theorem dX9_letter_26 : decode cX9_letter 26 = .ok (.bipush (-104), 2) := by decide +kernel
theorem dX9_letter_28 : decode cX9_letter 28 = .ok (.ireturn, 1) := by decide +kernel
theorem dX9_letter_29 : decode cX9_letter 29 = .ok (.aload_n 0, 1) := by decide +kernel
theorem dX9_letter_30 : decode cX9_letter 30 = .ok (.getfield 12, 3) := by decide +kernel
theorem dX9_letter_33 : decode cX9_letter 33 = .ok (.iload_n 1, 1) := by decide +kernel
theorem dX9_letter_34 : decode cX9_letter 34 = .ok (.invokevirtual 79, 3) := by decide +kernel
theorem dX9_letter_37 : decode cX9_letter 37 = .ok (.aload_n 0, 1) := by decide +kernel
theorem dX9_letter_38 : decode cX9_letter 38 = .ok (.getfield 12, 3) := by decide +kernel
theorem dX9_letter_41 : decode cX9_letter 41 = .ok (.getfield 75, 3) := by decide +kernel
theorem dX9_letter_44 : decode cX9_letter 44 = .ok (.ireturn, 1) := by decide +kernel
theorem dX9_blank_0 : decode cX9_blank 0 = .ok (.aload_n 0, 1) := by decide +kernel
theorem dX9_blank_1 : decode cX9_blank 1 = .ok (.getfield 12, 3) := by decide +kernel
theorem dX9_blank_4 : decode cX9_blank 4 = .ok (.getfield 75, 3) := by decide +kernel
theorem dX9_blank_7 : decode cX9_blank 7 = .ok (.istore_n 1, 1) := by decide +kernel
theorem dX9_blank_8 : decode cX9_blank 8 = .ok (.aload_n 0, 1) := by decide +kernel
theorem dX9_blank_9 : decode cX9_blank 9 = .ok (.getfield 12, 3) := by decide +kernel
theorem dX9_blank_12 : decode cX9_blank 12 = .ok (.iconst 0, 1) := by decide +kernel
theorem dX9_blank_13 : decode cX9_blank 13 = .ok (.putfield 75, 3) := by decide +kernel
theorem dX9_blank_16 : decode cX9_blank 16 = .ok (.iload_n 1, 1) := by decide +kernel
theorem dX9_blank_17 : decode cX9_blank 17 = .ok (.ireturn, 1) := by decide +kernel
theorem dX9_fault_0 : decode cX9_fault 0 = .ok (.aload_n 0, 1) := by decide +kernel
theorem dX9_fault_1 : decode cX9_fault 1 = .ok (.getfield 12, 3) := by decide +kernel
theorem dX9_fault_4 : decode cX9_fault 4 = .ok (.invokevirtual 83, 3) := by decide +kernel
theorem dX9_fault_7 : decode cX9_fault 7 = .ok (.ireturn, 1) := by decide +kernel
theorem dX9_law_0 : decode cX9_law 0 = .ok (.aload_n 0, 1) := by decide +kernel
theorem dX9_law_1 : decode cX9_law 1 = .ok (.getfield 12, 3) := by decide +kernel
theorem dX9_law_4 : decode cX9_law 4 = .ok (.invokevirtual 87, 3) := by decide +kernel
theorem dX9_law_7 : decode cX9_law 7 = .ok (.ifCond .ne 6, 3) := by decide +kernel
theorem dX9_law_10 : decode cX9_law 10 = .ok (.bipush (-103), 2) := by decide +kernel
theorem dX9_law_12 : decode cX9_law 12 = .ok (.ireturn, 1) := by decide +kernel
theorem dX9_law_13 : decode cX9_law 13 = .ok (.aload_n 0, 1) := by decide +kernel
theorem dX9_law_14 : decode cX9_law 14 = .ok (.getfield 19, 3) := by decide +kernel
theorem dX9_law_17 : decode cX9_law 17 = .ok (.getfield 91, 3) := by decide +kernel
theorem dX9_law_20 : decode cX9_law 20 = .ok (.aload_n 0, 1) := by decide +kernel
theorem dX9_law_21 : decode cX9_law 21 = .ok (.getfield 12, 3) := by decide +kernel
theorem dX9_law_24 : decode cX9_law 24 = .ok (.invokevirtual 95, 3) := by decide +kernel
theorem dX9_law_27 : decode cX9_law 27 = .ok (.aload_n 0, 1) := by decide +kernel
theorem dX9_law_28 : decode cX9_law 28 = .ok (.getfield 12, 3) := by decide +kernel
theorem dX9_law_31 : decode cX9_law 31 = .ok (.iconst 0, 1) := by decide +kernel
theorem dX9_law_32 : decode cX9_law 32 = .ok (.putfield 75, 3) := by decide +kernel
theorem dX9_law_35 : decode cX9_law 35 = .ok (.aload_n 0, 1) := by decide +kernel
theorem dX9_law_36 : decode cX9_law 36 = .ok (.dup, 1) := by decide +kernel
theorem dX9_law_37 : decode cX9_law 37 = .ok (.getfield 101, 3) := by decide +kernel
theorem dX9_law_40 : decode cX9_law 40 = .ok (.iconst 1, 1) := by decide +kernel
theorem dX9_law_41 : decode cX9_law 41 = .ok (.iadd, 1) := by decide +kernel
theorem dX9_law_42 : decode cX9_law 42 = .ok (.putfield 101, 3) := by decide +kernel
theorem dX9_law_45 : decode cX9_law 45 = .ok (.aload_n 0, 1) := by decide +kernel
theorem dX9_law_46 : decode cX9_law 46 = .ok (.getfield 101, 3) := by decide +kernel
theorem dX9_law_49 : decode cX9_law 49 = .ok (.ireturn, 1) := by decide +kernel
theorem dX9_person_0 : decode cX9_person 0 = .ok (.iload_n 1, 1) := by decide +kernel
theorem dX9_person_1 : decode cX9_person 1 = .ok (.invokestatic 104, 3) := by decide +kernel
theorem dX9_person_4 : decode cX9_person 4 = .ok (.ifCond .eq 13, 3) := by decide +kernel
theorem dX9_person_7 : decode cX9_person 7 = .ok (.iload_n 2, 1) := by decide +kernel
theorem dX9_person_8 : decode cX9_person 8 = .ok (.iconst 0, 1) := by decide +kernel
theorem dX9_person_9 : decode cX9_person 9 = .ok (.bipush 99, 2) := by decide +kernel
theorem dX9_person_11 : decode cX9_person 11 = .ok (.invokestatic 71, 3) := by decide +kernel
theorem dX9_person_14 : decode cX9_person 14 = .ok (.ifCond .ne 6, 3) := by decide +kernel
theorem dX9_person_17 : decode cX9_person 17 = .ok (.bipush (-102), 2) := by decide +kernel
theorem dX9_person_19 : decode cX9_person 19 = .ok (.ireturn, 1) := by decide +kernel
theorem dX9_person_20 : decode cX9_person 20 = .ok (.aload_n 0, 1) := by decide +kernel
theorem dX9_person_21 : decode cX9_person 21 = .ok (.getfield 19, 3) := by decide +kernel
theorem dX9_person_24 : decode cX9_person 24 = .ok (.getfield 108, 3) := by decide +kernel
theorem dX9_person_27 : decode cX9_person 27 = .ok (.iconst 5, 1) := by decide +kernel
theorem dX9_person_28 : decode cX9_person 28 = .ok (.if_icmp .lt 6, 3) := by decide +kernel
theorem dX9_person_31 : decode cX9_person 31 = .ok (.bipush (-104), 2) := by decide +kernel
theorem dX9_person_33 : decode cX9_person 33 = .ok (.ireturn, 1) := by decide +kernel
theorem dX9_person_34 : decode cX9_person 34 = .ok (.aload_n 0, 1) := by decide +kernel
theorem dX9_person_35 : decode cX9_person 35 = .ok (.getfield 19, 3) := by decide +kernel
theorem dX9_person_38 : decode cX9_person 38 = .ok (.iload_n 1, 1) := by decide +kernel
theorem dX9_person_39 : decode cX9_person 39 = .ok (.iload_n 2, 1) := by decide +kernel
theorem dX9_person_40 : decode cX9_person 40 = .ok (.invokevirtual 111, 3) := by decide +kernel
theorem dX9_person_43 : decode cX9_person 43 = .ok (.ireturn, 1) := by decide +kernel
theorem dX9_about_0 : decode cX9_about 0 = .ok (.aload_n 0, 1) := by decide +kernel
theorem dX9_about_1 : decode cX9_about 1 = .ok (.getfield 19, 3) := by decide +kernel
theorem dX9_about_4 : decode cX9_about 4 = .ok (.iload_n 1, 1) := by decide +kernel
theorem dX9_about_5 : decode cX9_about 5 = .ok (.invokevirtual 115, 3) := by decide +kernel
theorem dX9_about_8 : decode cX9_about 8 = .ok (.ifCond .ne 6, 3) := by decide +kernel
theorem dX9_about_11 : decode cX9_about 11 = .ok (.bipush (-101), 2) := by decide +kernel
theorem dX9_about_13 : decode cX9_about 13 = .ok (.ireturn, 1) := by decide +kernel
theorem dX9_about_14 : decode cX9_about 14 = .ok (.iload_n 2, 1) := by decide +kernel
theorem dX9_about_15 : decode cX9_about 15 = .ok (.tableswitch 96 0 5 #[37, 47, 57, 66, 75, 84], 37) := by decide +kernel
theorem dX9_about_52 : decode cX9_about 52 = .ok (.aload_n 0, 1) := by decide +kernel
theorem dX9_about_53 : decode cX9_about 53 = .ok (.getfield 19, 3) := by decide +kernel
theorem dX9_about_56 : decode cX9_about 56 = .ok (.getfield 118, 3) := by decide +kernel
theorem dX9_about_59 : decode cX9_about 59 = .ok (.iload_n 1, 1) := by decide +kernel
theorem dX9_about_60 : decode cX9_about 60 = .ok (.iaload, 1) := by decide +kernel
theorem dX9_about_61 : decode cX9_about 61 = .ok (.ireturn, 1) := by decide +kernel
theorem dX9_about_62 : decode cX9_about 62 = .ok (.aload_n 0, 1) := by decide +kernel
theorem dX9_about_63 : decode cX9_about 63 = .ok (.getfield 19, 3) := by decide +kernel
theorem dX9_about_66 : decode cX9_about 66 = .ok (.getfield 121, 3) := by decide +kernel
theorem dX9_about_69 : decode cX9_about 69 = .ok (.iload_n 1, 1) := by decide +kernel
theorem dX9_about_70 : decode cX9_about 70 = .ok (.iaload, 1) := by decide +kernel
theorem dX9_about_71 : decode cX9_about 71 = .ok (.ireturn, 1) := by decide +kernel
theorem dX9_about_72 : decode cX9_about 72 = .ok (.aload_n 0, 1) := by decide +kernel
theorem dX9_about_73 : decode cX9_about 73 = .ok (.getfield 19, 3) := by decide +kernel
theorem dX9_about_76 : decode cX9_about 76 = .ok (.iload_n 1, 1) := by decide +kernel
theorem dX9_about_77 : decode cX9_about 77 = .ok (.invokevirtual 124, 3) := by decide +kernel
theorem dX9_about_80 : decode cX9_about 80 = .ok (.ireturn, 1) := by decide +kernel
theorem dX9_about_81 : decode cX9_about 81 = .ok (.aload_n 0, 1) := by decide +kernel
theorem dX9_about_82 : decode cX9_about 82 = .ok (.getfield 19, 3) := by decide +kernel
theorem dX9_about_85 : decode cX9_about 85 = .ok (.iload_n 1, 1) := by decide +kernel
theorem dX9_about_86 : decode cX9_about 86 = .ok (.invokevirtual 128, 3) := by decide +kernel
theorem dX9_about_89 : decode cX9_about 89 = .ok (.ireturn, 1) := by decide +kernel
theorem dX9_about_90 : decode cX9_about 90 = .ok (.aload_n 0, 1) := by decide +kernel
theorem dX9_about_91 : decode cX9_about 91 = .ok (.getfield 19, 3) := by decide +kernel
theorem dX9_about_94 : decode cX9_about 94 = .ok (.iload_n 1, 1) := by decide +kernel
theorem dX9_about_95 : decode cX9_about 95 = .ok (.invokevirtual 131, 3) := by decide +kernel
theorem dX9_about_98 : decode cX9_about 98 = .ok (.ireturn, 1) := by decide +kernel
theorem dX9_about_99 : decode cX9_about 99 = .ok (.aload_n 0, 1) := by decide +kernel
theorem dX9_about_100 : decode cX9_about 100 = .ok (.getfield 19, 3) := by decide +kernel
theorem dX9_about_103 : decode cX9_about 103 = .ok (.iload_n 1, 1) := by decide +kernel
theorem dX9_about_104 : decode cX9_about 104 = .ok (.invokevirtual 134, 3) := by decide +kernel
theorem dX9_about_107 : decode cX9_about 107 = .ok (.invokestatic 137, 3) := by decide +kernel
theorem dX9_about_110 : decode cX9_about 110 = .ok (.ireturn, 1) := by decide +kernel
theorem dX9_about_111 : decode cX9_about 111 = .ok (.bipush (-102), 2) := by decide +kernel
theorem dX9_about_113 : decode cX9_about 113 = .ok (.ireturn, 1) := by decide +kernel
theorem dX9_as_0 : decode cX9_as 0 = .ok (.aload_n 0, 1) := by decide +kernel
theorem dX9_as_1 : decode cX9_as 1 = .ok (.getfield 19, 3) := by decide +kernel
theorem dX9_as_4 : decode cX9_as 4 = .ok (.iload_n 1, 1) := by decide +kernel
theorem dX9_as_5 : decode cX9_as 5 = .ok (.invokevirtual 115, 3) := by decide +kernel
theorem dX9_as_8 : decode cX9_as 8 = .ok (.ifCond .ne 6, 3) := by decide +kernel
theorem dX9_as_11 : decode cX9_as 11 = .ok (.bipush (-101), 2) := by decide +kernel
theorem dX9_as_13 : decode cX9_as 13 = .ok (.ireturn, 1) := by decide +kernel
theorem dX9_as_14 : decode cX9_as 14 = .ok (.iload_n 2, 1) := by decide +kernel
theorem dX9_as_15 : decode cX9_as 15 = .ok (.invokestatic 104, 3) := by decide +kernel
theorem dX9_as_18 : decode cX9_as 18 = .ok (.ifCond .ne 6, 3) := by decide +kernel
theorem dX9_as_21 : decode cX9_as 21 = .ok (.bipush (-102), 2) := by decide +kernel
theorem dX9_as_23 : decode cX9_as 23 = .ok (.ireturn, 1) := by decide +kernel
theorem dX9_as_24 : decode cX9_as 24 = .ok (.aload_n 0, 1) := by decide +kernel
theorem dX9_as_25 : decode cX9_as 25 = .ok (.getfield 19, 3) := by decide +kernel
theorem dX9_as_28 : decode cX9_as 28 = .ok (.iload_n 1, 1) := by decide +kernel
theorem dX9_as_29 : decode cX9_as 29 = .ok (.invokevirtual 141, 3) := by decide +kernel
theorem dX9_as_32 : decode cX9_as 32 = .ok (.getstatic 145, 3) := by decide +kernel
theorem dX9_as_35 : decode cX9_as 35 = .ok (.iload_n 2, 1) := by decide +kernel
theorem dX9_as_36 : decode cX9_as 36 = .ok (.aaload, 1) := by decide +kernel
theorem dX9_as_37 : decode cX9_as 37 = .ok (.invokevirtual 149, 3) := by decide +kernel
theorem dX9_as_40 : decode cX9_as 40 = .ok (.ifCond .eq 7, 3) := by decide +kernel
theorem dX9_as_43 : decode cX9_as 43 = .ok (.iload_n 1, 1) := by decide +kernel
theorem dX9_as_44 : decode cX9_as 44 = .ok (.goto 4, 3) := by decide +kernel
theorem dX9_as_47 : decode cX9_as 47 = .ok (.iconst (-1), 1) := by decide +kernel
theorem dX9_as_48 : decode cX9_as 48 = .ok (.ireturn, 1) := by decide +kernel
theorem dX9_between_0 : decode cX9_between 0 = .ok (.aload_n 0, 1) := by decide +kernel
theorem dX9_between_1 : decode cX9_between 1 = .ok (.getfield 19, 3) := by decide +kernel
theorem dX9_between_4 : decode cX9_between 4 = .ok (.iload_n 1, 1) := by decide +kernel
theorem dX9_between_5 : decode cX9_between 5 = .ok (.iload_n 2, 1) := by decide +kernel
theorem dX9_between_6 : decode cX9_between 6 = .ok (.invokevirtual 155, 3) := by decide +kernel
theorem dX9_between_9 : decode cX9_between 9 = .ok (.ifCond .ne 6, 3) := by decide +kernel
theorem dX9_between_12 : decode cX9_between 12 = .ok (.bipush (-101), 2) := by decide +kernel
theorem dX9_between_14 : decode cX9_between 14 = .ok (.ireturn, 1) := by decide +kernel
theorem dX9_between_15 : decode cX9_between 15 = .ok (.iload_n 1, 1) := by decide +kernel
theorem dX9_between_16 : decode cX9_between 16 = .ok (.iload_n 2, 1) := by decide +kernel
theorem dX9_between_17 : decode cX9_between 17 = .ok (.invokestatic 159, 3) := by decide +kernel
theorem dX9_between_20 : decode cX9_between 20 = .ok (.istore 4, 2) := by decide +kernel
theorem dX9_between_22 : decode cX9_between 22 = .ok (.iload_n 3, 1) := by decide +kernel
theorem dX9_between_23 : decode cX9_between 23 = .ok (.tableswitch 58 0 2 #[25, 36, 47], 25) := by decide +kernel
theorem dX9_between_48 : decode cX9_between 48 = .ok (.aload_n 0, 1) := by decide +kernel
theorem dX9_between_49 : decode cX9_between 49 = .ok (.getfield 19, 3) := by decide +kernel
theorem dX9_between_52 : decode cX9_between 52 = .ok (.getfield 162, 3) := by decide +kernel
theorem dX9_between_55 : decode cX9_between 55 = .ok (.iload 4, 2) := by decide +kernel
theorem dX9_between_57 : decode cX9_between 57 = .ok (.iaload, 1) := by decide +kernel
theorem dX9_between_58 : decode cX9_between 58 = .ok (.ireturn, 1) := by decide +kernel
theorem dX9_between_59 : decode cX9_between 59 = .ok (.aload_n 0, 1) := by decide +kernel
theorem dX9_between_60 : decode cX9_between 60 = .ok (.getfield 19, 3) := by decide +kernel
theorem dX9_between_63 : decode cX9_between 63 = .ok (.getfield 165, 3) := by decide +kernel
theorem dX9_between_66 : decode cX9_between 66 = .ok (.iload 4, 2) := by decide +kernel
theorem dX9_between_68 : decode cX9_between 68 = .ok (.iaload, 1) := by decide +kernel
theorem dX9_between_69 : decode cX9_between 69 = .ok (.ireturn, 1) := by decide +kernel
theorem dX9_between_70 : decode cX9_between 70 = .ok (.aload_n 0, 1) := by decide +kernel
theorem dX9_between_71 : decode cX9_between 71 = .ok (.getfield 19, 3) := by decide +kernel
theorem dX9_between_74 : decode cX9_between 74 = .ok (.getfield 168, 3) := by decide +kernel
theorem dX9_between_77 : decode cX9_between 77 = .ok (.iload 4, 2) := by decide +kernel
theorem dX9_between_79 : decode cX9_between 79 = .ok (.iaload, 1) := by decide +kernel
theorem dX9_between_80 : decode cX9_between 80 = .ok (.ireturn, 1) := by decide +kernel
theorem dX9_between_81 : decode cX9_between 81 = .ok (.bipush (-102), 2) := by decide +kernel
theorem dX9_between_83 : decode cX9_between 83 = .ok (.ireturn, 1) := by decide +kernel
theorem dX9_favour_0 : decode cX9_favour 0 = .ok (.aload_n 0, 1) := by decide +kernel
theorem dX9_favour_1 : decode cX9_favour 1 = .ok (.getfield 19, 3) := by decide +kernel
theorem dX9_favour_4 : decode cX9_favour 4 = .ok (.iload_n 1, 1) := by decide +kernel
theorem dX9_favour_5 : decode cX9_favour 5 = .ok (.iload_n 2, 1) := by decide +kernel
theorem dX9_favour_6 : decode cX9_favour 6 = .ok (.invokevirtual 155, 3) := by decide +kernel
theorem dX9_favour_9 : decode cX9_favour 9 = .ok (.ifCond .ne 6, 3) := by decide +kernel
theorem dX9_favour_12 : decode cX9_favour 12 = .ok (.bipush (-101), 2) := by decide +kernel
theorem dX9_favour_14 : decode cX9_favour 14 = .ok (.ireturn, 1) := by decide +kernel
theorem dX9_favour_15 : decode cX9_favour 15 = .ok (.iload_n 3, 1) := by decide +kernel
theorem dX9_favour_16 : decode cX9_favour 16 = .ok (.invokestatic 171, 3) := by decide +kernel
theorem dX9_favour_19 : decode cX9_favour 19 = .ok (.ifCond .ne 6, 3) := by decide +kernel
theorem dX9_favour_22 : decode cX9_favour 22 = .ok (.bipush (-102), 2) := by decide +kernel
theorem dX9_favour_24 : decode cX9_favour 24 = .ok (.ireturn, 1) := by decide +kernel
theorem dX9_favour_25 : decode cX9_favour 25 = .ok (.aload_n 0, 1) := by decide +kernel
theorem dX9_favour_26 : decode cX9_favour 26 = .ok (.getfield 19, 3) := by decide +kernel
theorem dX9_favour_29 : decode cX9_favour 29 = .ok (.iload_n 1, 1) := by decide +kernel
theorem dX9_favour_30 : decode cX9_favour 30 = .ok (.iload_n 2, 1) := by decide +kernel
theorem dX9_favour_31 : decode cX9_favour 31 = .ok (.invokevirtual 174, 3) := by decide +kernel
theorem dX9_favour_34 : decode cX9_favour 34 = .ok (.ifCond .ne 22, 3) := by decide +kernel
theorem dX9_favour_37 : decode cX9_favour 37 = .ok (.iload 4, 2) := by decide +kernel
theorem dX9_favour_39 : decode cX9_favour 39 = .ok (.ifCond .eq 20, 3) := by decide +kernel
theorem dX9_favour_42 : decode cX9_favour 42 = .ok (.aload_n 0, 1) := by decide +kernel
theorem dX9_favour_43 : decode cX9_favour 43 = .ok (.getfield 19, 3) := by decide +kernel
theorem dX9_favour_46 : decode cX9_favour 46 = .ok (.iload_n 2, 1) := by decide +kernel
theorem dX9_favour_47 : decode cX9_favour 47 = .ok (.invokevirtual 141, 3) := by decide +kernel
theorem dX9_favour_50 : decode cX9_favour 50 = .ok (.getfield 177, 3) := by decide +kernel
theorem dX9_favour_53 : decode cX9_favour 53 = .ok (.ifCond .ne 6, 3) := by decide +kernel
theorem dX9_favour_56 : decode cX9_favour 56 = .ok (.bipush (-103), 2) := by decide +kernel
theorem dX9_favour_58 : decode cX9_favour 58 = .ok (.ireturn, 1) := by decide +kernel
theorem dX9_favour_59 : decode cX9_favour 59 = .ok (.iload 4, 2) := by decide +kernel
theorem dX9_favour_61 : decode cX9_favour 61 = .ok (.ifCond .eq 16, 3) := by decide +kernel
theorem dX9_favour_64 : decode cX9_favour 64 = .ok (.aload_n 0, 1) := by decide +kernel
theorem dX9_favour_65 : decode cX9_favour 65 = .ok (.getfield 19, 3) := by decide +kernel
theorem dX9_favour_68 : decode cX9_favour 68 = .ok (.iload_n 1, 1) := by decide +kernel
theorem dX9_favour_69 : decode cX9_favour 69 = .ok (.iload_n 2, 1) := by decide +kernel
theorem dX9_favour_70 : decode cX9_favour 70 = .ok (.iload_n 3, 1) := by decide +kernel
theorem dX9_favour_71 : decode cX9_favour 71 = .ok (.invokevirtual 181, 3) := by decide +kernel
theorem dX9_favour_74 : decode cX9_favour 74 = .ok (.goto 12, 3) := by decide +kernel
theorem dX9_favour_77 : decode cX9_favour 77 = .ok (.aload_n 0, 1) := by decide +kernel
theorem dX9_favour_78 : decode cX9_favour 78 = .ok (.getfield 19, 3) := by decide +kernel
theorem dX9_favour_81 : decode cX9_favour 81 = .ok (.iload_n 1, 1) := by decide +kernel
theorem dX9_favour_82 : decode cX9_favour 82 = .ok (.iload_n 2, 1) := by decide +kernel
theorem dX9_favour_83 : decode cX9_favour 83 = .ok (.invokevirtual 185, 3) := by decide +kernel
theorem dX9_favour_86 : decode cX9_favour 86 = .ok (.aload_n 0, 1) := by decide +kernel
theorem dX9_favour_87 : decode cX9_favour 87 = .ok (.getfield 19, 3) := by decide +kernel
theorem dX9_favour_90 : decode cX9_favour 90 = .ok (.getfield 162, 3) := by decide +kernel
theorem dX9_favour_93 : decode cX9_favour 93 = .ok (.iload_n 2, 1) := by decide +kernel
theorem dX9_favour_94 : decode cX9_favour 94 = .ok (.iload_n 1, 1) := by decide +kernel
theorem dX9_favour_95 : decode cX9_favour 95 = .ok (.invokestatic 159, 3) := by decide +kernel
theorem dX9_favour_98 : decode cX9_favour 98 = .ok (.iaload, 1) := by decide +kernel
theorem dX9_favour_99 : decode cX9_favour 99 = .ok (.ireturn, 1) := by decide +kernel
theorem dX9_week_0 : decode cX9_week 0 = .ok (.aload_n 0, 1) := by decide +kernel
theorem dX9_week_1 : decode cX9_week 1 = .ok (.getfield 19, 3) := by decide +kernel
theorem dX9_week_4 : decode cX9_week 4 = .ok (.invokevirtual 189, 3) := by decide +kernel
theorem dX9_week_7 : decode cX9_week 7 = .ok (.ireturn, 1) := by decide +kernel
theorem dX9_pay_0 : decode cX9_pay 0 = .ok (.aload_n 0, 1) := by decide +kernel
theorem dX9_pay_1 : decode cX9_pay 1 = .ok (.getfield 19, 3) := by decide +kernel
theorem dX9_pay_4 : decode cX9_pay 4 = .ok (.iload_n 1, 1) := by decide +kernel
theorem dX9_pay_5 : decode cX9_pay 5 = .ok (.iload_n 2, 1) := by decide +kernel
theorem dX9_pay_6 : decode cX9_pay 6 = .ok (.invokevirtual 155, 3) := by decide +kernel
theorem dX9_pay_9 : decode cX9_pay 9 = .ok (.ifCond .ne 6, 3) := by decide +kernel
theorem dX9_pay_12 : decode cX9_pay 12 = .ok (.bipush (-101), 2) := by decide +kernel
theorem dX9_pay_14 : decode cX9_pay 14 = .ok (.ireturn, 1) := by decide +kernel
theorem dX9_pay_15 : decode cX9_pay 15 = .ok (.iload_n 3, 1) := by decide +kernel
theorem dX9_pay_16 : decode cX9_pay 16 = .ok (.iconst 1, 1) := by decide +kernel
theorem dX9_pay_17 : decode cX9_pay 17 = .ok (.sipush 999, 3) := by decide +kernel
theorem dX9_pay_20 : decode cX9_pay 20 = .ok (.invokestatic 71, 3) := by decide +kernel
theorem dX9_pay_23 : decode cX9_pay 23 = .ok (.ifCond .ne 6, 3) := by decide +kernel
theorem dX9_pay_26 : decode cX9_pay 26 = .ok (.bipush (-102), 2) := by decide +kernel
theorem dX9_pay_28 : decode cX9_pay 28 = .ok (.ireturn, 1) := by decide +kernel
theorem dX9_pay_29 : decode cX9_pay 29 = .ok (.iload_n 1, 1) := by decide +kernel
theorem dX9_pay_30 : decode cX9_pay 30 = .ok (.iload_n 2, 1) := by decide +kernel
theorem dX9_pay_31 : decode cX9_pay 31 = .ok (.invokestatic 159, 3) := by decide +kernel
theorem dX9_pay_34 : decode cX9_pay 34 = .ok (.istore 4, 2) := by decide +kernel
theorem dX9_pay_36 : decode cX9_pay 36 = .ok (.aload_n 0, 1) := by decide +kernel
theorem dX9_pay_37 : decode cX9_pay 37 = .ok (.getfield 19, 3) := by decide +kernel
theorem dX9_pay_40 : decode cX9_pay 40 = .ok (.getfield 121, 3) := by decide +kernel
theorem dX9_pay_43 : decode cX9_pay 43 = .ok (.iload_n 1, 1) := by decide +kernel
theorem dX9_pay_44 : decode cX9_pay 44 = .ok (.iaload, 1) := by decide +kernel
theorem dX9_pay_45 : decode cX9_pay 45 = .ok (.iload_n 3, 1) := by decide +kernel
theorem dX9_pay_46 : decode cX9_pay 46 = .ok (.if_icmp .lt 34, 3) := by decide +kernel
theorem dX9_pay_49 : decode cX9_pay 49 = .ok (.aload_n 0, 1) := by decide +kernel
theorem dX9_pay_50 : decode cX9_pay 50 = .ok (.getfield 19, 3) := by decide +kernel
theorem dX9_pay_53 : decode cX9_pay 53 = .ok (.getfield 162, 3) := by decide +kernel
theorem dX9_pay_56 : decode cX9_pay 56 = .ok (.iload 4, 2) := by decide +kernel
theorem dX9_pay_58 : decode cX9_pay 58 = .ok (.iaload, 1) := by decide +kernel
theorem dX9_pay_59 : decode cX9_pay 59 = .ok (.iload_n 3, 1) := by decide +kernel
theorem dX9_pay_60 : decode cX9_pay 60 = .ok (.if_icmp .lt 20, 3) := by decide +kernel
theorem dX9_pay_63 : decode cX9_pay 63 = .ok (.aload_n 0, 1) := by decide +kernel
theorem dX9_pay_64 : decode cX9_pay 64 = .ok (.getfield 19, 3) := by decide +kernel
theorem dX9_pay_67 : decode cX9_pay 67 = .ok (.getfield 121, 3) := by decide +kernel
theorem dX9_pay_70 : decode cX9_pay 70 = .ok (.iload_n 2, 1) := by decide +kernel
theorem dX9_pay_71 : decode cX9_pay 71 = .ok (.iaload, 1) := by decide +kernel
theorem dX9_pay_72 : decode cX9_pay 72 = .ok (.iload_n 3, 1) := by decide +kernel
theorem dX9_pay_73 : decode cX9_pay 73 = .ok (.iadd, 1) := by decide +kernel
theorem dX9_pay_74 : decode cX9_pay 74 = .ok (.sipush 999, 3) := by decide +kernel
theorem dX9_pay_77 : decode cX9_pay 77 = .ok (.if_icmp .le 6, 3) := by decide +kernel
theorem dX9_pay_80 : decode cX9_pay 80 = .ok (.bipush (-103), 2) := by decide +kernel
theorem dX9_pay_82 : decode cX9_pay 82 = .ok (.ireturn, 1) := by decide +kernel
theorem dX9_pay_83 : decode cX9_pay 83 = .ok (.aload_n 0, 1) := by decide +kernel
theorem dX9_pay_84 : decode cX9_pay 84 = .ok (.getfield 19, 3) := by decide +kernel
theorem dX9_pay_87 : decode cX9_pay 87 = .ok (.getfield 121, 3) := by decide +kernel
theorem dX9_pay_90 : decode cX9_pay 90 = .ok (.iload_n 1, 1) := by decide +kernel
theorem dX9_pay_91 : decode cX9_pay 91 = .ok (.dup2, 1) := by decide +kernel
theorem dX9_pay_92 : decode cX9_pay 92 = .ok (.iaload, 1) := by decide +kernel
theorem dX9_pay_93 : decode cX9_pay 93 = .ok (.iload_n 3, 1) := by decide +kernel
theorem dX9_pay_94 : decode cX9_pay 94 = .ok (.isub, 1) := by decide +kernel
theorem dX9_pay_95 : decode cX9_pay 95 = .ok (.iastore, 1) := by decide +kernel
theorem dX9_pay_96 : decode cX9_pay 96 = .ok (.aload_n 0, 1) := by decide +kernel
theorem dX9_pay_97 : decode cX9_pay 97 = .ok (.getfield 19, 3) := by decide +kernel
theorem dX9_pay_100 : decode cX9_pay 100 = .ok (.getfield 121, 3) := by decide +kernel
theorem dX9_pay_103 : decode cX9_pay 103 = .ok (.iload_n 2, 1) := by decide +kernel
theorem dX9_pay_104 : decode cX9_pay 104 = .ok (.dup2, 1) := by decide +kernel
theorem dX9_pay_105 : decode cX9_pay 105 = .ok (.iaload, 1) := by decide +kernel
theorem dX9_pay_106 : decode cX9_pay 106 = .ok (.iload_n 3, 1) := by decide +kernel
theorem dX9_pay_107 : decode cX9_pay 107 = .ok (.iadd, 1) := by decide +kernel
theorem dX9_pay_108 : decode cX9_pay 108 = .ok (.iastore, 1) := by decide +kernel
theorem dX9_pay_109 : decode cX9_pay 109 = .ok (.aload_n 0, 1) := by decide +kernel
theorem dX9_pay_110 : decode cX9_pay 110 = .ok (.getfield 19, 3) := by decide +kernel
theorem dX9_pay_113 : decode cX9_pay 113 = .ok (.getfield 162, 3) := by decide +kernel
theorem dX9_pay_116 : decode cX9_pay 116 = .ok (.iload 4, 2) := by decide +kernel
theorem dX9_pay_118 : decode cX9_pay 118 = .ok (.dup2, 1) := by decide +kernel
theorem dX9_pay_119 : decode cX9_pay 119 = .ok (.iaload, 1) := by decide +kernel
theorem dX9_pay_120 : decode cX9_pay 120 = .ok (.iload_n 3, 1) := by decide +kernel
theorem dX9_pay_121 : decode cX9_pay 121 = .ok (.isub, 1) := by decide +kernel
theorem dX9_pay_122 : decode cX9_pay 122 = .ok (.iastore, 1) := by decide +kernel
theorem dX9_pay_123 : decode cX9_pay 123 = .ok (.aload_n 0, 1) := by decide +kernel
theorem dX9_pay_124 : decode cX9_pay 124 = .ok (.getfield 19, 3) := by decide +kernel
theorem dX9_pay_127 : decode cX9_pay 127 = .ok (.getfield 162, 3) := by decide +kernel
theorem dX9_pay_130 : decode cX9_pay 130 = .ok (.iload 4, 2) := by decide +kernel
theorem dX9_pay_132 : decode cX9_pay 132 = .ok (.iaload, 1) := by decide +kernel
theorem dX9_pay_133 : decode cX9_pay 133 = .ok (.ireturn, 1) := by decide +kernel
theorem dX9_setOff_0 : decode cX9_setOff 0 = .ok (.aload_n 0, 1) := by decide +kernel
theorem dX9_setOff_1 : decode cX9_setOff 1 = .ok (.getfield 19, 3) := by decide +kernel
theorem dX9_setOff_4 : decode cX9_setOff 4 = .ok (.iload_n 1, 1) := by decide +kernel
theorem dX9_setOff_5 : decode cX9_setOff 5 = .ok (.iload_n 2, 1) := by decide +kernel
theorem dX9_setOff_6 : decode cX9_setOff 6 = .ok (.invokevirtual 155, 3) := by decide +kernel
theorem dX9_setOff_9 : decode cX9_setOff 9 = .ok (.ifCond .ne 6, 3) := by decide +kernel
theorem dX9_setOff_12 : decode cX9_setOff 12 = .ok (.bipush (-101), 2) := by decide +kernel
theorem dX9_setOff_14 : decode cX9_setOff 14 = .ok (.ireturn, 1) := by decide +kernel
theorem dX9_setOff_15 : decode cX9_setOff 15 = .ok (.iload_n 1, 1) := by decide +kernel
theorem dX9_setOff_16 : decode cX9_setOff 16 = .ok (.iload_n 2, 1) := by decide +kernel
theorem dX9_setOff_17 : decode cX9_setOff 17 = .ok (.invokestatic 159, 3) := by decide +kernel
theorem dX9_setOff_20 : decode cX9_setOff 20 = .ok (.istore_n 3, 1) := by decide +kernel
theorem dX9_setOff_21 : decode cX9_setOff 21 = .ok (.iload_n 2, 1) := by decide +kernel
theorem dX9_setOff_22 : decode cX9_setOff 22 = .ok (.iload_n 1, 1) := by decide +kernel
theorem dX9_setOff_23 : decode cX9_setOff 23 = .ok (.invokestatic 159, 3) := by decide +kernel
theorem dX9_setOff_26 : decode cX9_setOff 26 = .ok (.istore 4, 2) := by decide +kernel
theorem dX9_setOff_28 : decode cX9_setOff 28 = .ok (.aload_n 0, 1) := by decide +kernel
theorem dX9_setOff_29 : decode cX9_setOff 29 = .ok (.getfield 19, 3) := by decide +kernel
theorem dX9_setOff_32 : decode cX9_setOff 32 = .ok (.getfield 162, 3) := by decide +kernel
theorem dX9_setOff_35 : decode cX9_setOff 35 = .ok (.iload_n 3, 1) := by decide +kernel
theorem dX9_setOff_36 : decode cX9_setOff 36 = .ok (.iaload, 1) := by decide +kernel
theorem dX9_setOff_37 : decode cX9_setOff 37 = .ok (.aload_n 0, 1) := by decide +kernel
theorem dX9_setOff_38 : decode cX9_setOff 38 = .ok (.getfield 19, 3) := by decide +kernel
theorem dX9_setOff_41 : decode cX9_setOff 41 = .ok (.getfield 162, 3) := by decide +kernel
theorem dX9_setOff_44 : decode cX9_setOff 44 = .ok (.iload 4, 2) := by decide +kernel
theorem dX9_setOff_46 : decode cX9_setOff 46 = .ok (.iaload, 1) := by decide +kernel
theorem dX9_setOff_47 : decode cX9_setOff 47 = .ok (.invokestatic 192, 3) := by decide +kernel
theorem dX9_setOff_50 : decode cX9_setOff 50 = .ok (.istore 5, 2) := by decide +kernel
theorem dX9_setOff_52 : decode cX9_setOff 52 = .ok (.aload_n 0, 1) := by decide +kernel
theorem dX9_setOff_53 : decode cX9_setOff 53 = .ok (.getfield 19, 3) := by decide +kernel
theorem dX9_setOff_56 : decode cX9_setOff 56 = .ok (.getfield 162, 3) := by decide +kernel
theorem dX9_setOff_59 : decode cX9_setOff 59 = .ok (.iload_n 3, 1) := by decide +kernel
theorem dX9_setOff_60 : decode cX9_setOff 60 = .ok (.dup2, 1) := by decide +kernel
theorem dX9_setOff_61 : decode cX9_setOff 61 = .ok (.iaload, 1) := by decide +kernel
theorem dX9_setOff_62 : decode cX9_setOff 62 = .ok (.iload 5, 2) := by decide +kernel
theorem dX9_setOff_64 : decode cX9_setOff 64 = .ok (.isub, 1) := by decide +kernel
theorem dX9_setOff_65 : decode cX9_setOff 65 = .ok (.iastore, 1) := by decide +kernel
theorem dX9_setOff_66 : decode cX9_setOff 66 = .ok (.aload_n 0, 1) := by decide +kernel
theorem dX9_setOff_67 : decode cX9_setOff 67 = .ok (.getfield 19, 3) := by decide +kernel
theorem dX9_setOff_70 : decode cX9_setOff 70 = .ok (.getfield 162, 3) := by decide +kernel
theorem dX9_setOff_73 : decode cX9_setOff 73 = .ok (.iload 4, 2) := by decide +kernel
theorem dX9_setOff_75 : decode cX9_setOff 75 = .ok (.dup2, 1) := by decide +kernel
theorem dX9_setOff_76 : decode cX9_setOff 76 = .ok (.iaload, 1) := by decide +kernel
theorem dX9_setOff_77 : decode cX9_setOff 77 = .ok (.iload 5, 2) := by decide +kernel
theorem dX9_setOff_79 : decode cX9_setOff 79 = .ok (.isub, 1) := by decide +kernel
theorem dX9_setOff_80 : decode cX9_setOff 80 = .ok (.iastore, 1) := by decide +kernel
theorem dX9_setOff_81 : decode cX9_setOff 81 = .ok (.iload 5, 2) := by decide +kernel
theorem dX9_setOff_83 : decode cX9_setOff 83 = .ok (.ireturn, 1) := by decide +kernel
theorem dX9_ring_0 : decode cX9_ring 0 = .ok (.aload_n 0, 1) := by decide +kernel
theorem dX9_ring_1 : decode cX9_ring 1 = .ok (.getfield 19, 3) := by decide +kernel
theorem dX9_ring_4 : decode cX9_ring 4 = .ok (.iload_n 1, 1) := by decide +kernel
theorem dX9_ring_5 : decode cX9_ring 5 = .ok (.iload_n 2, 1) := by decide +kernel
theorem dX9_ring_6 : decode cX9_ring 6 = .ok (.invokevirtual 155, 3) := by decide +kernel
theorem dX9_ring_9 : decode cX9_ring 9 = .ok (.ifCond .eq 20, 3) := by decide +kernel
theorem dX9_ring_12 : decode cX9_ring 12 = .ok (.aload_n 0, 1) := by decide +kernel
theorem dX9_ring_13 : decode cX9_ring 13 = .ok (.getfield 19, 3) := by decide +kernel
theorem dX9_ring_16 : decode cX9_ring 16 = .ok (.iload_n 2, 1) := by decide +kernel
theorem dX9_ring_17 : decode cX9_ring 17 = .ok (.iload_n 3, 1) := by decide +kernel
theorem dX9_ring_18 : decode cX9_ring 18 = .ok (.invokevirtual 155, 3) := by decide +kernel
theorem dX9_ring_21 : decode cX9_ring 21 = .ok (.ifCond .eq 8, 3) := by decide +kernel
theorem dX9_ring_24 : decode cX9_ring 24 = .ok (.iload_n 1, 1) := by decide +kernel
theorem dX9_ring_25 : decode cX9_ring 25 = .ok (.iload_n 3, 1) := by decide +kernel
theorem dX9_ring_26 : decode cX9_ring 26 = .ok (.if_icmp .ne 6, 3) := by decide +kernel
theorem dX9_ring_29 : decode cX9_ring 29 = .ok (.bipush (-101), 2) := by decide +kernel
theorem dX9_ring_31 : decode cX9_ring 31 = .ok (.ireturn, 1) := by decide +kernel
theorem dX9_ring_32 : decode cX9_ring 32 = .ok (.iload_n 1, 1) := by decide +kernel
theorem dX9_ring_33 : decode cX9_ring 33 = .ok (.iload_n 2, 1) := by decide +kernel
theorem dX9_ring_34 : decode cX9_ring 34 = .ok (.invokestatic 159, 3) := by decide +kernel
theorem dX9_ring_37 : decode cX9_ring 37 = .ok (.istore 4, 2) := by decide +kernel
theorem dX9_ring_39 : decode cX9_ring 39 = .ok (.iload_n 2, 1) := by decide +kernel
theorem dX9_ring_40 : decode cX9_ring 40 = .ok (.iload_n 3, 1) := by decide +kernel
theorem dX9_ring_41 : decode cX9_ring 41 = .ok (.invokestatic 159, 3) := by decide +kernel
theorem dX9_ring_44 : decode cX9_ring 44 = .ok (.istore 5, 2) := by decide +kernel
theorem dX9_ring_46 : decode cX9_ring 46 = .ok (.iload_n 3, 1) := by decide +kernel
theorem dX9_ring_47 : decode cX9_ring 47 = .ok (.iload_n 1, 1) := by decide +kernel
theorem dX9_ring_48 : decode cX9_ring 48 = .ok (.invokestatic 159, 3) := by decide +kernel
theorem dX9_ring_51 : decode cX9_ring 51 = .ok (.istore 6, 2) := by decide +kernel
theorem dX9_ring_53 : decode cX9_ring 53 = .ok (.aload_n 0, 1) := by decide +kernel
theorem dX9_ring_54 : decode cX9_ring 54 = .ok (.getfield 19, 3) := by decide +kernel
theorem dX9_ring_57 : decode cX9_ring 57 = .ok (.getfield 162, 3) := by decide +kernel
theorem dX9_ring_60 : decode cX9_ring 60 = .ok (.iload 4, 2) := by decide +kernel
theorem dX9_ring_62 : decode cX9_ring 62 = .ok (.iaload, 1) := by decide +kernel
theorem dX9_ring_63 : decode cX9_ring 63 = .ok (.aload_n 0, 1) := by decide +kernel
theorem dX9_ring_64 : decode cX9_ring 64 = .ok (.getfield 19, 3) := by decide +kernel
theorem dX9_ring_67 : decode cX9_ring 67 = .ok (.getfield 162, 3) := by decide +kernel
theorem dX9_ring_70 : decode cX9_ring 70 = .ok (.iload 5, 2) := by decide +kernel
theorem dX9_ring_72 : decode cX9_ring 72 = .ok (.iaload, 1) := by decide +kernel
theorem dX9_ring_73 : decode cX9_ring 73 = .ok (.aload_n 0, 1) := by decide +kernel
theorem dX9_ring_74 : decode cX9_ring 74 = .ok (.getfield 19, 3) := by decide +kernel
theorem dX9_ring_77 : decode cX9_ring 77 = .ok (.getfield 162, 3) := by decide +kernel
theorem dX9_ring_80 : decode cX9_ring 80 = .ok (.iload 6, 2) := by decide +kernel
theorem dX9_ring_82 : decode cX9_ring 82 = .ok (.iaload, 1) := by decide +kernel
theorem dX9_ring_83 : decode cX9_ring 83 = .ok (.invokestatic 192, 3) := by decide +kernel
theorem dX9_ring_86 : decode cX9_ring 86 = .ok (.invokestatic 192, 3) := by decide +kernel
theorem dX9_ring_89 : decode cX9_ring 89 = .ok (.istore 7, 2) := by decide +kernel
theorem dX9_ring_91 : decode cX9_ring 91 = .ok (.aload_n 0, 1) := by decide +kernel
theorem dX9_ring_92 : decode cX9_ring 92 = .ok (.getfield 19, 3) := by decide +kernel
theorem dX9_ring_95 : decode cX9_ring 95 = .ok (.getfield 162, 3) := by decide +kernel
theorem dX9_ring_98 : decode cX9_ring 98 = .ok (.iload 4, 2) := by decide +kernel
theorem dX9_ring_100 : decode cX9_ring 100 = .ok (.dup2, 1) := by decide +kernel
theorem dX9_ring_101 : decode cX9_ring 101 = .ok (.iaload, 1) := by decide +kernel
theorem dX9_ring_102 : decode cX9_ring 102 = .ok (.iload 7, 2) := by decide +kernel
theorem dX9_ring_104 : decode cX9_ring 104 = .ok (.isub, 1) := by decide +kernel
theorem dX9_ring_105 : decode cX9_ring 105 = .ok (.iastore, 1) := by decide +kernel
theorem dX9_ring_106 : decode cX9_ring 106 = .ok (.aload_n 0, 1) := by decide +kernel
theorem dX9_ring_107 : decode cX9_ring 107 = .ok (.getfield 19, 3) := by decide +kernel
theorem dX9_ring_110 : decode cX9_ring 110 = .ok (.getfield 162, 3) := by decide +kernel
theorem dX9_ring_113 : decode cX9_ring 113 = .ok (.iload 5, 2) := by decide +kernel
theorem dX9_ring_115 : decode cX9_ring 115 = .ok (.dup2, 1) := by decide +kernel
theorem dX9_ring_116 : decode cX9_ring 116 = .ok (.iaload, 1) := by decide +kernel
theorem dX9_ring_117 : decode cX9_ring 117 = .ok (.iload 7, 2) := by decide +kernel
theorem dX9_ring_119 : decode cX9_ring 119 = .ok (.isub, 1) := by decide +kernel
theorem dX9_ring_120 : decode cX9_ring 120 = .ok (.iastore, 1) := by decide +kernel
theorem dX9_ring_121 : decode cX9_ring 121 = .ok (.aload_n 0, 1) := by decide +kernel
theorem dX9_ring_122 : decode cX9_ring 122 = .ok (.getfield 19, 3) := by decide +kernel
theorem dX9_ring_125 : decode cX9_ring 125 = .ok (.getfield 162, 3) := by decide +kernel
theorem dX9_ring_128 : decode cX9_ring 128 = .ok (.iload 6, 2) := by decide +kernel
theorem dX9_ring_130 : decode cX9_ring 130 = .ok (.dup2, 1) := by decide +kernel
theorem dX9_ring_131 : decode cX9_ring 131 = .ok (.iaload, 1) := by decide +kernel
theorem dX9_ring_132 : decode cX9_ring 132 = .ok (.iload 7, 2) := by decide +kernel
theorem dX9_ring_134 : decode cX9_ring 134 = .ok (.isub, 1) := by decide +kernel
theorem dX9_ring_135 : decode cX9_ring 135 = .ok (.iastore, 1) := by decide +kernel
theorem dX9_ring_136 : decode cX9_ring 136 = .ok (.iload 7, 2) := by decide +kernel
theorem dX9_ring_138 : decode cX9_ring 138 = .ok (.ireturn, 1) := by decide +kernel
theorem dX9_forgive_0 : decode cX9_forgive 0 = .ok (.aload_n 0, 1) := by decide +kernel
theorem dX9_forgive_1 : decode cX9_forgive 1 = .ok (.getfield 19, 3) := by decide +kernel
theorem dX9_forgive_4 : decode cX9_forgive 4 = .ok (.iload_n 1, 1) := by decide +kernel
theorem dX9_forgive_5 : decode cX9_forgive 5 = .ok (.iload_n 2, 1) := by decide +kernel
theorem dX9_forgive_6 : decode cX9_forgive 6 = .ok (.invokevirtual 155, 3) := by decide +kernel
theorem dX9_forgive_9 : decode cX9_forgive 9 = .ok (.ifCond .ne 6, 3) := by decide +kernel
theorem dX9_forgive_12 : decode cX9_forgive 12 = .ok (.bipush (-101), 2) := by decide +kernel
theorem dX9_forgive_14 : decode cX9_forgive 14 = .ok (.ireturn, 1) := by decide +kernel
theorem dX9_forgive_15 : decode cX9_forgive 15 = .ok (.iload_n 2, 1) := by decide +kernel
theorem dX9_forgive_16 : decode cX9_forgive 16 = .ok (.iload_n 1, 1) := by decide +kernel
theorem dX9_forgive_17 : decode cX9_forgive 17 = .ok (.invokestatic 159, 3) := by decide +kernel
theorem dX9_forgive_20 : decode cX9_forgive 20 = .ok (.istore_n 3, 1) := by decide +kernel
theorem dX9_forgive_21 : decode cX9_forgive 21 = .ok (.aload_n 0, 1) := by decide +kernel
theorem dX9_forgive_22 : decode cX9_forgive 22 = .ok (.getfield 19, 3) := by decide +kernel
theorem dX9_forgive_25 : decode cX9_forgive 25 = .ok (.getfield 162, 3) := by decide +kernel
theorem dX9_forgive_28 : decode cX9_forgive 28 = .ok (.iload_n 3, 1) := by decide +kernel
theorem dX9_forgive_29 : decode cX9_forgive 29 = .ok (.iaload, 1) := by decide +kernel
theorem dX9_forgive_30 : decode cX9_forgive 30 = .ok (.istore 4, 2) := by decide +kernel
theorem dX9_forgive_32 : decode cX9_forgive 32 = .ok (.aload_n 0, 1) := by decide +kernel
theorem dX9_forgive_33 : decode cX9_forgive 33 = .ok (.getfield 19, 3) := by decide +kernel
theorem dX9_forgive_36 : decode cX9_forgive 36 = .ok (.getfield 162, 3) := by decide +kernel
theorem dX9_forgive_39 : decode cX9_forgive 39 = .ok (.iload_n 3, 1) := by decide +kernel
theorem dX9_forgive_40 : decode cX9_forgive 40 = .ok (.iconst 0, 1) := by decide +kernel
theorem dX9_forgive_41 : decode cX9_forgive 41 = .ok (.iastore, 1) := by decide +kernel
theorem dX9_forgive_42 : decode cX9_forgive 42 = .ok (.iload 4, 2) := by decide +kernel
theorem dX9_forgive_44 : decode cX9_forgive 44 = .ok (.ireturn, 1) := by decide +kernel
theorem dX9_bankrupt_0 : decode cX9_bankrupt 0 = .ok (.aload_n 0, 1) := by decide +kernel
theorem dX9_bankrupt_1 : decode cX9_bankrupt 1 = .ok (.getfield 19, 3) := by decide +kernel
theorem dX9_bankrupt_4 : decode cX9_bankrupt 4 = .ok (.iload_n 1, 1) := by decide +kernel
theorem dX9_bankrupt_5 : decode cX9_bankrupt 5 = .ok (.invokevirtual 115, 3) := by decide +kernel
theorem dX9_bankrupt_8 : decode cX9_bankrupt 8 = .ok (.ifCond .ne 6, 3) := by decide +kernel
theorem dX9_bankrupt_11 : decode cX9_bankrupt 11 = .ok (.bipush (-101), 2) := by decide +kernel
theorem dX9_bankrupt_13 : decode cX9_bankrupt 13 = .ok (.ireturn, 1) := by decide +kernel
theorem dX9_bankrupt_14 : decode cX9_bankrupt 14 = .ok (.aload_n 0, 1) := by decide +kernel
theorem dX9_bankrupt_15 : decode cX9_bankrupt 15 = .ok (.getfield 19, 3) := by decide +kernel
theorem dX9_bankrupt_18 : decode cX9_bankrupt 18 = .ok (.iload_n 1, 1) := by decide +kernel
theorem dX9_bankrupt_19 : decode cX9_bankrupt 19 = .ok (.invokevirtual 124, 3) := by decide +kernel
theorem dX9_bankrupt_22 : decode cX9_bankrupt 22 = .ok (.istore_n 2, 1) := by decide +kernel
theorem dX9_bankrupt_23 : decode cX9_bankrupt 23 = .ok (.iload_n 2, 1) := by decide +kernel
theorem dX9_bankrupt_24 : decode cX9_bankrupt 24 = .ok (.ifCond .gt 6, 3) := by decide +kernel
theorem dX9_bankrupt_27 : decode cX9_bankrupt 27 = .ok (.bipush (-103), 2) := by decide +kernel
theorem dX9_bankrupt_29 : decode cX9_bankrupt 29 = .ok (.ireturn, 1) := by decide +kernel
theorem dX9_bankrupt_30 : decode cX9_bankrupt 30 = .ok (.aload_n 0, 1) := by decide +kernel
theorem dX9_bankrupt_31 : decode cX9_bankrupt 31 = .ok (.getfield 19, 3) := by decide +kernel
theorem dX9_bankrupt_34 : decode cX9_bankrupt 34 = .ok (.iload_n 1, 1) := by decide +kernel
theorem dX9_bankrupt_35 : decode cX9_bankrupt 35 = .ok (.iload_n 2, 1) := by decide +kernel
theorem dX9_bankrupt_36 : decode cX9_bankrupt 36 = .ok (.invokevirtual 197, 3) := by decide +kernel
theorem dX9_bankrupt_39 : decode cX9_bankrupt 39 = .ok (.ireturn, 1) := by decide +kernel
theorem dX9_ruin_0 : decode cX9_ruin 0 = .ok (.aload_n 0, 1) := by decide +kernel
theorem dX9_ruin_1 : decode cX9_ruin 1 = .ok (.getfield 19, 3) := by decide +kernel
theorem dX9_ruin_4 : decode cX9_ruin 4 = .ok (.iload_n 1, 1) := by decide +kernel
theorem dX9_ruin_5 : decode cX9_ruin 5 = .ok (.invokevirtual 115, 3) := by decide +kernel
theorem dX9_ruin_8 : decode cX9_ruin 8 = .ok (.ifCond .ne 6, 3) := by decide +kernel
theorem dX9_ruin_11 : decode cX9_ruin 11 = .ok (.bipush (-101), 2) := by decide +kernel
theorem dX9_ruin_13 : decode cX9_ruin 13 = .ok (.ireturn, 1) := by decide +kernel
theorem dX9_ruin_14 : decode cX9_ruin 14 = .ok (.aload_n 0, 1) := by decide +kernel
theorem dX9_ruin_15 : decode cX9_ruin 15 = .ok (.invokevirtual 200, 3) := by decide +kernel
theorem dX9_ruin_18 : decode cX9_ruin 18 = .ok (.aload_n 0, 1) := by decide +kernel
theorem dX9_ruin_19 : decode cX9_ruin 19 = .ok (.getfield 67, 3) := by decide +kernel
theorem dX9_ruin_22 : decode cX9_ruin 22 = .ok (.iload_n 1, 1) := by decide +kernel
theorem dX9_ruin_23 : decode cX9_ruin 23 = .ok (.iaload, 1) := by decide +kernel
theorem dX9_ruin_24 : decode cX9_ruin 24 = .ok (.ireturn, 1) := by decide +kernel
theorem dX9_settling_0 : decode cX9_settling 0 = .ok (.aload_n 0, 1) := by decide +kernel
theorem dX9_settling_1 : decode cX9_settling 1 = .ok (.getfield 49, 3) := by decide +kernel
theorem dX9_settling_4 : decode cX9_settling 4 = .ok (.aload_n 0, 1) := by decide +kernel
theorem dX9_settling_5 : decode cX9_settling 5 = .ok (.getfield 19, 3) := by decide +kernel
theorem dX9_settling_8 : decode cX9_settling 8 = .ok (.invokevirtual 203, 3) := by decide +kernel
theorem dX9_settling_11 : decode cX9_settling 11 = .ok (.ireturn, 1) := by decide +kernel
theorem dX9_bestRing_0 : decode cX9_bestRing 0 = .ok (.iload_n 1, 1) := by decide +kernel
theorem dX9_bestRing_1 : decode cX9_bestRing 1 = .ok (.ifCond .eq 22, 3) := by decide +kernel
theorem dX9_bestRing_4 : decode cX9_bestRing 4 = .ok (.iload_n 1, 1) := by decide +kernel
theorem dX9_bestRing_5 : decode cX9_bestRing 5 = .ok (.iconst 1, 1) := by decide +kernel
theorem dX9_bestRing_6 : decode cX9_bestRing 6 = .ok (.if_icmp .eq 17, 3) := by decide +kernel
theorem dX9_bestRing_9 : decode cX9_bestRing 9 = .ok (.iload_n 1, 1) := by decide +kernel
theorem dX9_bestRing_10 : decode cX9_bestRing 10 = .ok (.bipush 10, 2) := by decide +kernel
theorem dX9_bestRing_12 : decode cX9_bestRing 12 = .ok (.bipush 13, 2) := by decide +kernel
theorem dX9_bestRing_14 : decode cX9_bestRing 14 = .ok (.invokestatic 71, 3) := by decide +kernel
theorem dX9_bestRing_17 : decode cX9_bestRing 17 = .ok (.ifCond .ne 6, 3) := by decide +kernel
theorem dX9_bestRing_20 : decode cX9_bestRing 20 = .ok (.bipush (-102), 2) := by decide +kernel
theorem dX9_bestRing_22 : decode cX9_bestRing 22 = .ok (.ireturn, 1) := by decide +kernel
theorem dX9_bestRing_23 : decode cX9_bestRing 23 = .ok (.aload_n 0, 1) := by decide +kernel
theorem dX9_bestRing_24 : decode cX9_bestRing 24 = .ok (.getfield 42, 3) := by decide +kernel
theorem dX9_bestRing_27 : decode cX9_bestRing 27 = .ok (.aload_n 0, 1) := by decide +kernel
theorem dX9_bestRing_28 : decode cX9_bestRing 28 = .ok (.getfield 19, 3) := by decide +kernel
theorem dX9_bestRing_31 : decode cX9_bestRing 31 = .ok (.invokevirtual 207, 3) := by decide +kernel
theorem dX9_bestRing_34 : decode cX9_bestRing 34 = .ok (.aload_n 0, 1) := by decide +kernel
theorem dX9_bestRing_35 : decode cX9_bestRing 35 = .ok (.getfield 42, 3) := by decide +kernel
theorem dX9_bestRing_38 : decode cX9_bestRing 38 = .ok (.iload_n 1, 1) := by decide +kernel
theorem dX9_bestRing_39 : decode cX9_bestRing 39 = .ok (.invokevirtual 211, 3) := by decide +kernel
theorem dX9_bestRing_42 : decode cX9_bestRing 42 = .ok (.ireturn, 1) := by decide +kernel
theorem dX9_offer_0 : decode cX9_offer 0 = .ok (.aload_n 0, 1) := by decide +kernel
theorem dX9_offer_1 : decode cX9_offer 1 = .ok (.getfield 19, 3) := by decide +kernel
theorem dX9_offer_4 : decode cX9_offer 4 = .ok (.iload_n 1, 1) := by decide +kernel
theorem dX9_offer_5 : decode cX9_offer 5 = .ok (.iload_n 2, 1) := by decide +kernel
theorem dX9_offer_6 : decode cX9_offer 6 = .ok (.invokevirtual 155, 3) := by decide +kernel
theorem dX9_offer_9 : decode cX9_offer 9 = .ok (.ifCond .ne 6, 3) := by decide +kernel
theorem dX9_offer_12 : decode cX9_offer 12 = .ok (.bipush (-101), 2) := by decide +kernel
theorem dX9_offer_14 : decode cX9_offer 14 = .ok (.ireturn, 1) := by decide +kernel
theorem dX9_offer_15 : decode cX9_offer 15 = .ok (.iload_n 3, 1) := by decide +kernel
theorem dX9_offer_16 : decode cX9_offer 16 = .ok (.invokestatic 171, 3) := by decide +kernel
theorem dX9_offer_19 : decode cX9_offer 19 = .ok (.ifCond .ne 6, 3) := by decide +kernel
theorem dX9_offer_22 : decode cX9_offer 22 = .ok (.bipush (-102), 2) := by decide +kernel
theorem dX9_offer_24 : decode cX9_offer 24 = .ok (.ireturn, 1) := by decide +kernel
theorem dX9_offer_25 : decode cX9_offer 25 = .ok (.aload_n 0, 1) := by decide +kernel
theorem dX9_offer_26 : decode cX9_offer 26 = .ok (.getfield 26, 3) := by decide +kernel
theorem dX9_offer_29 : decode cX9_offer 29 = .ok (.getfield 214, 3) := by decide +kernel
theorem dX9_offer_32 : decode cX9_offer 32 = .ok (.bipush 6, 2) := by decide +kernel
theorem dX9_offer_34 : decode cX9_offer 34 = .ok (.if_icmp .lt 6, 3) := by decide +kernel
theorem dX9_offer_37 : decode cX9_offer 37 = .ok (.bipush (-104), 2) := by decide +kernel
theorem dX9_offer_39 : decode cX9_offer 39 = .ok (.ireturn, 1) := by decide +kernel
theorem dX9_offer_40 : decode cX9_offer 40 = .ok (.aload_n 0, 1) := by decide +kernel
theorem dX9_offer_41 : decode cX9_offer 41 = .ok (.getfield 26, 3) := by decide +kernel
theorem dX9_offer_44 : decode cX9_offer 44 = .ok (.iload_n 1, 1) := by decide +kernel
theorem dX9_offer_45 : decode cX9_offer 45 = .ok (.iload_n 2, 1) := by decide +kernel
theorem dX9_offer_46 : decode cX9_offer 46 = .ok (.iload_n 3, 1) := by decide +kernel
theorem dX9_offer_47 : decode cX9_offer 47 = .ok (.invokevirtual 217, 3) := by decide +kernel
theorem dX9_offer_50 : decode cX9_offer 50 = .ok (.aload_n 0, 1) := by decide +kernel
theorem dX9_offer_51 : decode cX9_offer 51 = .ok (.getfield 26, 3) := by decide +kernel
theorem dX9_offer_54 : decode cX9_offer 54 = .ok (.getfield 214, 3) := by decide +kernel
theorem dX9_offer_57 : decode cX9_offer 57 = .ok (.ireturn, 1) := by decide +kernel
theorem dX9_forget_0 : decode cX9_forget 0 = .ok (.aload_n 0, 1) := by decide +kernel
theorem dX9_forget_1 : decode cX9_forget 1 = .ok (.getfield 26, 3) := by decide +kernel
theorem dX9_forget_4 : decode cX9_forget 4 = .ok (.getfield 214, 3) := by decide +kernel
theorem dX9_forget_7 : decode cX9_forget 7 = .ok (.istore_n 1, 1) := by decide +kernel
theorem dX9_forget_8 : decode cX9_forget 8 = .ok (.aload_n 0, 1) := by decide +kernel
theorem dX9_forget_9 : decode cX9_forget 9 = .ok (.getfield 26, 3) := by decide +kernel
theorem dX9_forget_12 : decode cX9_forget 12 = .ok (.iconst 0, 1) := by decide +kernel
theorem dX9_forget_13 : decode cX9_forget 13 = .ok (.putfield 214, 3) := by decide +kernel
theorem dX9_forget_16 : decode cX9_forget 16 = .ok (.iload_n 1, 1) := by decide +kernel
theorem dX9_forget_17 : decode cX9_forget 17 = .ok (.ireturn, 1) := by decide +kernel
theorem dX9_accept_0 : decode cX9_accept 0 = .ok (.aload_n 0, 1) := by decide +kernel
theorem dX9_accept_1 : decode cX9_accept 1 = .ok (.getfield 19, 3) := by decide +kernel
theorem dX9_accept_4 : decode cX9_accept 4 = .ok (.iload_n 1, 1) := by decide +kernel
theorem dX9_accept_5 : decode cX9_accept 5 = .ok (.invokevirtual 115, 3) := by decide +kernel
theorem dX9_accept_8 : decode cX9_accept 8 = .ok (.ifCond .ne 6, 3) := by decide +kernel
theorem dX9_accept_11 : decode cX9_accept 11 = .ok (.bipush (-101), 2) := by decide +kernel
theorem dX9_accept_13 : decode cX9_accept 13 = .ok (.ireturn, 1) := by decide +kernel
theorem dX9_accept_14 : decode cX9_accept 14 = .ok (.iload_n 2, 1) := by decide +kernel
theorem dX9_accept_15 : decode cX9_accept 15 = .ok (.iconst 1, 1) := by decide +kernel
theorem dX9_accept_16 : decode cX9_accept 16 = .ok (.sipush 500, 3) := by decide +kernel
theorem dX9_accept_19 : decode cX9_accept 19 = .ok (.invokestatic 71, 3) := by decide +kernel
theorem dX9_accept_22 : decode cX9_accept 22 = .ok (.ifCond .eq 23, 3) := by decide +kernel
theorem dX9_accept_25 : decode cX9_accept 25 = .ok (.iload_n 3, 1) := by decide +kernel
theorem dX9_accept_26 : decode cX9_accept 26 = .ok (.iconst 0, 1) := by decide +kernel
theorem dX9_accept_27 : decode cX9_accept 27 = .ok (.bipush 20, 2) := by decide +kernel
theorem dX9_accept_29 : decode cX9_accept 29 = .ok (.invokestatic 71, 3) := by decide +kernel
theorem dX9_accept_32 : decode cX9_accept 32 = .ok (.ifCond .eq 13, 3) := by decide +kernel
theorem dX9_accept_35 : decode cX9_accept 35 = .ok (.iload 4, 2) := by decide +kernel
theorem dX9_accept_37 : decode cX9_accept 37 = .ok (.iconst 0, 1) := by decide +kernel
theorem dX9_accept_38 : decode cX9_accept 38 = .ok (.iconst 1, 1) := by decide +kernel
theorem dX9_accept_39 : decode cX9_accept 39 = .ok (.invokestatic 71, 3) := by decide +kernel
theorem dX9_accept_42 : decode cX9_accept 42 = .ok (.ifCond .ne 6, 3) := by decide +kernel
theorem dX9_accept_45 : decode cX9_accept 45 = .ok (.bipush (-102), 2) := by decide +kernel
theorem dX9_accept_47 : decode cX9_accept 47 = .ok (.ireturn, 1) := by decide +kernel
theorem dX9_accept_48 : decode cX9_accept 48 = .ok (.aload_n 0, 1) := by decide +kernel
theorem dX9_accept_49 : decode cX9_accept 49 = .ok (.getfield 56, 3) := by decide +kernel
theorem dX9_accept_52 : decode cX9_accept 52 = .ok (.aload_n 0, 1) := by decide +kernel
theorem dX9_accept_53 : decode cX9_accept 53 = .ok (.getfield 19, 3) := by decide +kernel
theorem dX9_accept_56 : decode cX9_accept 56 = .ok (.aload_n 0, 1) := by decide +kernel
theorem dX9_accept_57 : decode cX9_accept 57 = .ok (.getfield 26, 3) := by decide +kernel
theorem dX9_accept_60 : decode cX9_accept 60 = .ok (.iload_n 1, 1) := by decide +kernel
theorem dX9_accept_61 : decode cX9_accept 61 = .ok (.iload_n 2, 1) := by decide +kernel
theorem dX9_accept_62 : decode cX9_accept 62 = .ok (.iload_n 3, 1) := by decide +kernel
theorem dX9_accept_63 : decode cX9_accept 63 = .ok (.invokevirtual 219, 3) := by decide +kernel
theorem dX9_accept_66 : decode cX9_accept 66 = .ok (.iload 4, 2) := by decide +kernel
theorem dX9_accept_68 : decode cX9_accept 68 = .ok (.ifCond .ne 13, 3) := by decide +kernel
theorem dX9_accept_71 : decode cX9_accept 71 = .ok (.aload_n 0, 1) := by decide +kernel
theorem dX9_accept_72 : decode cX9_accept 72 = .ok (.getfield 56, 3) := by decide +kernel
theorem dX9_accept_75 : decode cX9_accept 75 = .ok (.getfield 222, 3) := by decide +kernel
theorem dX9_accept_78 : decode cX9_accept 78 = .ok (.goto 10, 3) := by decide +kernel
theorem dX9_accept_81 : decode cX9_accept 81 = .ok (.aload_n 0, 1) := by decide +kernel
theorem dX9_accept_82 : decode cX9_accept 82 = .ok (.getfield 56, 3) := by decide +kernel
theorem dX9_accept_85 : decode cX9_accept 85 = .ok (.getfield 225, 3) := by decide +kernel
theorem dX9_accept_88 : decode cX9_accept 88 = .ok (.ireturn, 1) := by decide +kernel
theorem dX9_grown_0 : decode cX9_grown 0 = .ok (.iload_n 1, 1) := by decide +kernel
theorem dX9_grown_1 : decode cX9_grown 1 = .ok (.iconst 0, 1) := by decide +kernel
theorem dX9_grown_2 : decode cX9_grown 2 = .ok (.sipush 9999, 3) := by decide +kernel
theorem dX9_grown_5 : decode cX9_grown 5 = .ok (.invokestatic 71, 3) := by decide +kernel
theorem dX9_grown_8 : decode cX9_grown 8 = .ok (.ifCond .eq 38, 3) := by decide +kernel
theorem dX9_grown_11 : decode cX9_grown 11 = .ok (.iload_n 2, 1) := by decide +kernel
theorem dX9_grown_12 : decode cX9_grown 12 = .ok (.iconst 0, 1) := by decide +kernel
theorem dX9_grown_13 : decode cX9_grown 13 = .ok (.bipush 40, 2) := by decide +kernel
theorem dX9_grown_15 : decode cX9_grown 15 = .ok (.invokestatic 71, 3) := by decide +kernel
theorem dX9_grown_18 : decode cX9_grown 18 = .ok (.ifCond .eq 28, 3) := by decide +kernel
theorem dX9_grown_21 : decode cX9_grown 21 = .ok (.iload_n 3, 1) := by decide +kernel
theorem dX9_grown_22 : decode cX9_grown 22 = .ok (.invokestatic 104, 3) := by decide +kernel
theorem dX9_grown_25 : decode cX9_grown 25 = .ok (.ifCond .eq 21, 3) := by decide +kernel
theorem dX9_grown_28 : decode cX9_grown 28 = .ok (.iload 4, 2) := by decide +kernel
theorem dX9_grown_30 : decode cX9_grown 30 = .ok (.invokestatic 104, 3) := by decide +kernel
theorem dX9_grown_33 : decode cX9_grown 33 = .ok (.ifCond .eq 13, 3) := by decide +kernel
theorem dX9_grown_36 : decode cX9_grown 36 = .ok (.iload 5, 2) := by decide +kernel
theorem dX9_grown_38 : decode cX9_grown 38 = .ok (.iconst 0, 1) := by decide +kernel
theorem dX9_grown_39 : decode cX9_grown 39 = .ok (.iconst 1, 1) := by decide +kernel
theorem dX9_grown_40 : decode cX9_grown 40 = .ok (.invokestatic 71, 3) := by decide +kernel
theorem dX9_grown_43 : decode cX9_grown 43 = .ok (.ifCond .ne 6, 3) := by decide +kernel
theorem dX9_grown_46 : decode cX9_grown 46 = .ok (.bipush (-102), 2) := by decide +kernel
theorem dX9_grown_48 : decode cX9_grown 48 = .ok (.ireturn, 1) := by decide +kernel
theorem dX9_grown_49 : decode cX9_grown 49 = .ok (.aload_n 0, 1) := by decide +kernel
theorem dX9_grown_50 : decode cX9_grown 50 = .ok (.getfield 19, 3) := by decide +kernel
theorem dX9_grown_53 : decode cX9_grown 53 = .ok (.getfield 91, 3) := by decide +kernel
theorem dX9_grown_56 : decode cX9_grown 56 = .ok (.getstatic 145, 3) := by decide +kernel
theorem dX9_grown_59 : decode cX9_grown 59 = .ok (.iload_n 3, 1) := by decide +kernel
theorem dX9_grown_60 : decode cX9_grown 60 = .ok (.aaload, 1) := by decide +kernel
theorem dX9_grown_61 : decode cX9_grown 61 = .ok (.getstatic 145, 3) := by decide +kernel
theorem dX9_grown_64 : decode cX9_grown 64 = .ok (.iload 4, 2) := by decide +kernel
theorem dX9_grown_66 : decode cX9_grown 66 = .ok (.aaload, 1) := by decide +kernel
theorem dX9_grown_67 : decode cX9_grown 67 = .ok (.invokevirtual 228, 3) := by decide +kernel
theorem dX9_grown_70 : decode cX9_grown 70 = .ok (.istore 6, 2) := by decide +kernel
theorem dX9_grown_72 : decode cX9_grown 72 = .ok (.iconst 0, 1) := by decide +kernel
theorem dX9_grown_73 : decode cX9_grown 73 = .ok (.istore 7, 2) := by decide +kernel
theorem dX9_grown_75 : decode cX9_grown 75 = .ok (.iconst (-1), 1) := by decide +kernel
theorem dX9_grown_76 : decode cX9_grown 76 = .ok (.istore 8, 2) := by decide +kernel
theorem dX9_grown_78 : decode cX9_grown 78 = .ok (.bipush 99, 2) := by decide +kernel
theorem dX9_grown_80 : decode cX9_grown 80 = .ok (.istore 9, 2) := by decide +kernel
theorem dX9_grown_82 : decode cX9_grown 82 = .ok (.iload 9, 2) := by decide +kernel
theorem dX9_grown_84 : decode cX9_grown 84 = .ok (.iconst 1, 1) := by decide +kernel
theorem dX9_grown_85 : decode cX9_grown 85 = .ok (.if_icmp .lt 45, 3) := by decide +kernel
theorem dX9_grown_88 : decode cX9_grown 88 = .ok (.aload_n 0, 1) := by decide +kernel
theorem dX9_grown_89 : decode cX9_grown 89 = .ok (.getfield 19, 3) := by decide +kernel
theorem dX9_grown_92 : decode cX9_grown 92 = .ok (.getfield 91, 3) := by decide +kernel
theorem dX9_grown_95 : decode cX9_grown 95 = .ok (.iload 9, 2) := by decide +kernel
theorem dX9_grown_97 : decode cX9_grown 97 = .ok (.aload_n 0, 1) := by decide +kernel
theorem dX9_grown_98 : decode cX9_grown 98 = .ok (.getfield 19, 3) := by decide +kernel
theorem dX9_grown_101 : decode cX9_grown 101 = .ok (.getfield 91, 3) := by decide +kernel
theorem dX9_grown_104 : decode cX9_grown 104 = .ok (.getfield 232, 3) := by decide +kernel
theorem dX9_grown_107 : decode cX9_grown 107 = .ok (.iload_n 2, 1) := by decide +kernel
theorem dX9_grown_108 : decode cX9_grown 108 = .ok (.iload 6, 2) := by decide +kernel
theorem dX9_grown_110 : decode cX9_grown 110 = .ok (.invokevirtual 234, 3) := by decide +kernel
theorem dX9_grown_113 : decode cX9_grown 113 = .ok (.iload_n 1, 1) := by decide +kernel
theorem dX9_grown_114 : decode cX9_grown 114 = .ok (.if_icmp .ne 10, 3) := by decide +kernel
theorem dX9_grown_117 : decode cX9_grown 117 = .ok (.iinc 7 1, 3) := by decide +kernel
theorem dX9_grown_120 : decode cX9_grown 120 = .ok (.iload 9, 2) := by decide +kernel
theorem dX9_grown_122 : decode cX9_grown 122 = .ok (.istore 8, 2) := by decide +kernel
theorem dX9_grown_124 : decode cX9_grown 124 = .ok (.iinc 9 (-1), 3) := by decide +kernel
theorem dX9_grown_127 : decode cX9_grown 127 = .ok (.goto (-45), 3) := by decide +kernel
theorem dX9_grown_130 : decode cX9_grown 130 = .ok (.iload 5, 2) := by decide +kernel
theorem dX9_grown_132 : decode cX9_grown 132 = .ok (.ifCond .ne 8, 3) := by decide +kernel
theorem dX9_grown_135 : decode cX9_grown 135 = .ok (.iload 7, 2) := by decide +kernel
theorem dX9_grown_137 : decode cX9_grown 137 = .ok (.goto 5, 3) := by decide +kernel
theorem dX9_grown_140 : decode cX9_grown 140 = .ok (.iload 8, 2) := by decide +kernel
theorem dX9_grown_142 : decode cX9_grown 142 = .ok (.ireturn, 1) := by decide +kernel
theorem dX9_years_0 : decode cX9_years 0 = .ok (.iload_n 1, 1) := by decide +kernel
theorem dX9_years_1 : decode cX9_years 1 = .ok (.iconst 1, 1) := by decide +kernel
theorem dX9_years_2 : decode cX9_years 2 = .ok (.bipush 60, 2) := by decide +kernel
theorem dX9_years_4 : decode cX9_years 4 = .ok (.invokestatic 71, 3) := by decide +kernel
theorem dX9_years_7 : decode cX9_years 7 = .ok (.ifCond .eq 16, 3) := by decide +kernel
theorem dX9_years_10 : decode cX9_years 10 = .ok (.iload_n 2, 1) := by decide +kernel
theorem dX9_years_11 : decode cX9_years 11 = .ok (.ifCond .lt 12, 3) := by decide +kernel
theorem dX9_years_14 : decode cX9_years 14 = .ok (.iload_n 3, 1) := by decide +kernel
theorem dX9_years_15 : decode cX9_years 15 = .ok (.iconst 0, 1) := by decide +kernel
theorem dX9_years_16 : decode cX9_years 16 = .ok (.iconst 2, 1) := by decide +kernel
theorem dX9_years_17 : decode cX9_years 17 = .ok (.invokestatic 71, 3) := by decide +kernel
theorem dX9_years_20 : decode cX9_years 20 = .ok (.ifCond .ne 6, 3) := by decide +kernel
theorem dX9_years_23 : decode cX9_years 23 = .ok (.bipush (-102), 2) := by decide +kernel
theorem dX9_years_25 : decode cX9_years 25 = .ok (.ireturn, 1) := by decide +kernel
theorem dX9_years_26 : decode cX9_years 26 = .ok (.aload_n 0, 1) := by decide +kernel
theorem dX9_years_27 : decode cX9_years 27 = .ok (.getfield 19, 3) := by decide +kernel
theorem dX9_years_30 : decode cX9_years 30 = .ok (.getfield 108, 3) := by decide +kernel
theorem dX9_years_33 : decode cX9_years 33 = .ok (.ifCond .ne 6, 3) := by decide +kernel
theorem dX9_years_36 : decode cX9_years 36 = .ok (.bipush (-103), 2) := by decide +kernel
theorem dX9_years_38 : decode cX9_years 38 = .ok (.ireturn, 1) := by decide +kernel
theorem dX9_years_39 : decode cX9_years 39 = .ok (.aload_n 0, 1) := by decide +kernel
theorem dX9_years_40 : decode cX9_years 40 = .ok (.getfield 63, 3) := by decide +kernel
theorem dX9_years_43 : decode cX9_years 43 = .ok (.iload_n 2, 1) := by decide +kernel
theorem dX9_years_44 : decode cX9_years 44 = .ok (.putfield 238, 3) := by decide +kernel
theorem dX9_years_47 : decode cX9_years 47 = .ok (.aload_n 0, 1) := by decide +kernel
theorem dX9_years_48 : decode cX9_years 48 = .ok (.getfield 36, 3) := by decide +kernel
theorem dX9_years_51 : decode cX9_years 51 = .ok (.aload_n 0, 1) := by decide +kernel
theorem dX9_years_52 : decode cX9_years 52 = .ok (.getfield 19, 3) := by decide +kernel
theorem dX9_years_55 : decode cX9_years 55 = .ok (.invokevirtual 241, 3) := by decide +kernel
theorem dX9_years_58 : decode cX9_years 58 = .ok (.iconst 0, 1) := by decide +kernel
theorem dX9_years_59 : decode cX9_years 59 = .ok (.istore 4, 2) := by decide +kernel
theorem dX9_years_61 : decode cX9_years 61 = .ok (.iload 4, 2) := by decide +kernel
theorem dX9_years_63 : decode cX9_years 63 = .ok (.iload_n 1, 1) := by decide +kernel
theorem dX9_years_64 : decode cX9_years 64 = .ok (.if_icmp .ge 20, 3) := by decide +kernel
theorem dX9_years_67 : decode cX9_years 67 = .ok (.aload_n 0, 1) := by decide +kernel
theorem dX9_years_68 : decode cX9_years 68 = .ok (.getfield 36, 3) := by decide +kernel
theorem dX9_years_71 : decode cX9_years 71 = .ok (.aload_n 0, 1) := by decide +kernel
theorem dX9_years_72 : decode cX9_years 72 = .ok (.getfield 63, 3) := by decide +kernel
theorem dX9_years_75 : decode cX9_years 75 = .ok (.invokevirtual 244, 3) := by decide +kernel
theorem dX9_years_78 : decode cX9_years 78 = .ok (.iinc 4 1, 3) := by decide +kernel
theorem dX9_years_81 : decode cX9_years 81 = .ok (.goto (-20), 3) := by decide +kernel
theorem dX9_years_84 : decode cX9_years 84 = .ok (.iload_n 3, 1) := by decide +kernel
theorem dX9_years_85 : decode cX9_years 85 = .ok (.lookupswitch 43 #[(0, 27), (1, 35)], 27) := by decide +kernel
theorem dX9_years_112 : decode cX9_years 112 = .ok (.aload_n 0, 1) := by decide +kernel
theorem dX9_years_113 : decode cX9_years 113 = .ok (.getfield 36, 3) := by decide +kernel
theorem dX9_years_116 : decode cX9_years 116 = .ok (.invokevirtual 248, 3) := by decide +kernel
theorem dX9_years_119 : decode cX9_years 119 = .ok (.ireturn, 1) := by decide +kernel
theorem dX9_years_120 : decode cX9_years 120 = .ok (.aload_n 0, 1) := by decide +kernel
theorem dX9_years_121 : decode cX9_years 121 = .ok (.getfield 36, 3) := by decide +kernel
theorem dX9_years_124 : decode cX9_years 124 = .ok (.invokevirtual 251, 3) := by decide +kernel
theorem dX9_years_127 : decode cX9_years 127 = .ok (.ireturn, 1) := by decide +kernel
theorem dX9_years_128 : decode cX9_years 128 = .ok (.aload_n 0, 1) := by decide +kernel
theorem dX9_years_129 : decode cX9_years 129 = .ok (.getfield 63, 3) := by decide +kernel
theorem dX9_years_132 : decode cX9_years 132 = .ok (.getfield 238, 3) := by decide +kernel
theorem dX9_years_135 : decode cX9_years 135 = .ok (.ireturn, 1) := by decide +kernel
theorem dX9_image_0 : decode cX9_image 0 = .ok (.aload_n 0, 1) := by decide +kernel
theorem dX9_image_1 : decode cX9_image 1 = .ok (.getfield 30, 3) := by decide +kernel
theorem dX9_image_4 : decode cX9_image 4 = .ok (.aload_n 0, 1) := by decide +kernel
theorem dX9_image_5 : decode cX9_image 5 = .ok (.getfield 19, 3) := by decide +kernel
theorem dX9_image_8 : decode cX9_image 8 = .ok (.invokevirtual 241, 3) := by decide +kernel
theorem dX9_image_11 : decode cX9_image 11 = .ok (.aload_n 0, 1) := by decide +kernel
theorem dX9_image_12 : decode cX9_image 12 = .ok (.getfield 33, 3) := by decide +kernel
theorem dX9_image_15 : decode cX9_image 15 = .ok (.aload_n 0, 1) := by decide +kernel
theorem dX9_image_16 : decode cX9_image 16 = .ok (.getfield 26, 3) := by decide +kernel
theorem dX9_image_19 : decode cX9_image 19 = .ok (.invokevirtual 254, 3) := by decide +kernel
theorem dX9_image_22 : decode cX9_image 22 = .ok (.aload_n 0, 1) := by decide +kernel
theorem dX9_image_23 : decode cX9_image 23 = .ok (.iconst 1, 1) := by decide +kernel
theorem dX9_image_24 : decode cX9_image 24 = .ok (.putfield 257, 3) := by decide +kernel
theorem dX9_image_27 : decode cX9_image 27 = .ok (.aload_n 0, 1) := by decide +kernel
theorem dX9_image_28 : decode cX9_image 28 = .ok (.getfield 19, 3) := by decide +kernel
theorem dX9_image_31 : decode cX9_image 31 = .ok (.getfield 260, 3) := by decide +kernel
theorem dX9_image_34 : decode cX9_image 34 = .ok (.ireturn, 1) := by decide +kernel
theorem dX9_restore_0 : decode cX9_restore 0 = .ok (.aload_n 0, 1) := by decide +kernel
theorem dX9_restore_1 : decode cX9_restore 1 = .ok (.getfield 257, 3) := by decide +kernel
theorem dX9_restore_4 : decode cX9_restore 4 = .ok (.ifCond .ne 6, 3) := by decide +kernel
theorem dX9_restore_7 : decode cX9_restore 7 = .ok (.bipush (-103), 2) := by decide +kernel
theorem dX9_restore_9 : decode cX9_restore 9 = .ok (.ireturn, 1) := by decide +kernel
theorem dX9_restore_10 : decode cX9_restore 10 = .ok (.aload_n 0, 1) := by decide +kernel
theorem dX9_restore_11 : decode cX9_restore 11 = .ok (.getfield 19, 3) := by decide +kernel
theorem dX9_restore_14 : decode cX9_restore 14 = .ok (.aload_n 0, 1) := by decide +kernel
theorem dX9_restore_15 : decode cX9_restore 15 = .ok (.getfield 30, 3) := by decide +kernel
theorem dX9_restore_18 : decode cX9_restore 18 = .ok (.invokevirtual 241, 3) := by decide +kernel
theorem dX9_restore_21 : decode cX9_restore 21 = .ok (.aload_n 0, 1) := by decide +kernel
theorem dX9_restore_22 : decode cX9_restore 22 = .ok (.getfield 26, 3) := by decide +kernel
theorem dX9_restore_25 : decode cX9_restore 25 = .ok (.aload_n 0, 1) := by decide +kernel
theorem dX9_restore_26 : decode cX9_restore 26 = .ok (.getfield 33, 3) := by decide +kernel
theorem dX9_restore_29 : decode cX9_restore 29 = .ok (.invokevirtual 254, 3) := by decide +kernel
theorem dX9_restore_32 : decode cX9_restore 32 = .ok (.aload_n 0, 1) := by decide +kernel
theorem dX9_restore_33 : decode cX9_restore 33 = .ok (.getfield 19, 3) := by decide +kernel
theorem dX9_restore_36 : decode cX9_restore 36 = .ok (.getfield 260, 3) := by decide +kernel
theorem dX9_restore_39 : decode cX9_restore 39 = .ok (.ireturn, 1) := by decide +kernel
theorem dX9_count_0 : decode cX9_count 0 = .ok (.iload_n 1, 1) := by decide +kernel
theorem dX9_count_1 : decode cX9_count 1 = .ok (.tableswitch 159 0 10 #[59, 70, 84, 95, 106, 114, 122, 130, 138, 146, 154], 59) := by decide +kernel
theorem dX9_count_60 : decode cX9_count 60 = .ok (.aload_n 0, 1) := by decide +kernel
theorem dX9_count_61 : decode cX9_count 61 = .ok (.getfield 19, 3) := by decide +kernel
theorem dX9_count_64 : decode cX9_count 64 = .ok (.getfield 91, 3) := by decide +kernel
theorem dX9_count_67 : decode cX9_count 67 = .ok (.getfield 263, 3) := by decide +kernel
theorem dX9_count_70 : decode cX9_count 70 = .ok (.ireturn, 1) := by decide +kernel
theorem dX9_count_71 : decode cX9_count 71 = .ok (.aload_n 0, 1) := by decide +kernel
theorem dX9_count_72 : decode cX9_count 72 = .ok (.getfield 19, 3) := by decide +kernel
theorem dX9_count_75 : decode cX9_count 75 = .ok (.getfield 91, 3) := by decide +kernel
theorem dX9_count_78 : decode cX9_count 78 = .ok (.getfield 266, 3) := by decide +kernel
theorem dX9_count_81 : decode cX9_count 81 = .ok (.invokestatic 137, 3) := by decide +kernel
theorem dX9_count_84 : decode cX9_count 84 = .ok (.ireturn, 1) := by decide +kernel
theorem dX9_count_85 : decode cX9_count 85 = .ok (.aload_n 0, 1) := by decide +kernel
theorem dX9_count_86 : decode cX9_count 86 = .ok (.getfield 19, 3) := by decide +kernel
theorem dX9_count_89 : decode cX9_count 89 = .ok (.getfield 91, 3) := by decide +kernel
theorem dX9_count_92 : decode cX9_count 92 = .ok (.getfield 232, 3) := by decide +kernel
theorem dX9_count_95 : decode cX9_count 95 = .ok (.ireturn, 1) := by decide +kernel
theorem dX9_count_96 : decode cX9_count 96 = .ok (.aload_n 0, 1) := by decide +kernel
theorem dX9_count_97 : decode cX9_count 97 = .ok (.getfield 19, 3) := by decide +kernel
theorem dX9_count_100 : decode cX9_count 100 = .ok (.getfield 91, 3) := by decide +kernel
theorem dX9_count_103 : decode cX9_count 103 = .ok (.getfield 269, 3) := by decide +kernel
theorem dX9_count_106 : decode cX9_count 106 = .ok (.ireturn, 1) := by decide +kernel
theorem dX9_count_107 : decode cX9_count 107 = .ok (.aload_n 0, 1) := by decide +kernel
theorem dX9_count_108 : decode cX9_count 108 = .ok (.getfield 19, 3) := by decide +kernel
theorem dX9_count_111 : decode cX9_count 111 = .ok (.getfield 108, 3) := by decide +kernel
theorem dX9_count_114 : decode cX9_count 114 = .ok (.ireturn, 1) := by decide +kernel
theorem dX9_count_115 : decode cX9_count 115 = .ok (.aload_n 0, 1) := by decide +kernel
theorem dX9_count_116 : decode cX9_count 116 = .ok (.getfield 19, 3) := by decide +kernel
theorem dX9_count_119 : decode cX9_count 119 = .ok (.invokevirtual 251, 3) := by decide +kernel
theorem dX9_count_122 : decode cX9_count 122 = .ok (.ireturn, 1) := by decide +kernel
theorem dX9_count_123 : decode cX9_count 123 = .ok (.aload_n 0, 1) := by decide +kernel
theorem dX9_count_124 : decode cX9_count 124 = .ok (.getfield 19, 3) := by decide +kernel
theorem dX9_count_127 : decode cX9_count 127 = .ok (.getfield 260, 3) := by decide +kernel
theorem dX9_count_130 : decode cX9_count 130 = .ok (.ireturn, 1) := by decide +kernel
theorem dX9_count_131 : decode cX9_count 131 = .ok (.aload_n 0, 1) := by decide +kernel
theorem dX9_count_132 : decode cX9_count 132 = .ok (.getfield 26, 3) := by decide +kernel
theorem dX9_count_135 : decode cX9_count 135 = .ok (.getfield 214, 3) := by decide +kernel
theorem dX9_count_138 : decode cX9_count 138 = .ok (.ireturn, 1) := by decide +kernel
theorem dX9_count_139 : decode cX9_count 139 = .ok (.aload_n 0, 1) := by decide +kernel
theorem dX9_count_140 : decode cX9_count 140 = .ok (.getfield 19, 3) := by decide +kernel
theorem dX9_count_143 : decode cX9_count 143 = .ok (.invokevirtual 248, 3) := by decide +kernel
theorem dX9_count_146 : decode cX9_count 146 = .ok (.ireturn, 1) := by decide +kernel
theorem dX9_count_147 : decode cX9_count 147 = .ok (.aload_n 0, 1) := by decide +kernel
theorem dX9_count_148 : decode cX9_count 148 = .ok (.getfield 12, 3) := by decide +kernel
theorem dX9_count_151 : decode cX9_count 151 = .ok (.getfield 75, 3) := by decide +kernel
theorem dX9_count_154 : decode cX9_count 154 = .ok (.ireturn, 1) := by decide +kernel
theorem dX9_count_155 : decode cX9_count 155 = .ok (.aload_n 0, 1) := by decide +kernel
theorem dX9_count_156 : decode cX9_count 156 = .ok (.getfield 101, 3) := by decide +kernel
theorem dX9_count_159 : decode cX9_count 159 = .ok (.ireturn, 1) := by decide +kernel
theorem dX9_count_160 : decode cX9_count 160 = .ok (.bipush (-102), 2) := by decide +kernel
theorem dX9_count_162 : decode cX9_count 162 = .ok (.ireturn, 1) := by decide +kernel
theorem dX9_digest_0 : decode cX9_digest 0 = .ok (.ldc2_w 272, 3) := by decide +kernel
theorem dX9_digest_3 : decode cX9_digest 3 = .ok (.lstore_n 1, 1) := by decide +kernel
theorem dX9_digest_4 : decode cX9_digest 4 = .ok (.aload_n 0, 1) := by decide +kernel
theorem dX9_digest_5 : decode cX9_digest 5 = .ok (.invokevirtual 200, 3) := by decide +kernel
theorem dX9_digest_8 : decode cX9_digest 8 = .ok (.iconst 0, 1) := by decide +kernel
theorem dX9_digest_9 : decode cX9_digest 9 = .ok (.istore_n 3, 1) := by decide +kernel
theorem dX9_digest_10 : decode cX9_digest 10 = .ok (.iload_n 3, 1) := by decide +kernel
theorem dX9_digest_11 : decode cX9_digest 11 = .ok (.aload_n 0, 1) := by decide +kernel
theorem dX9_digest_12 : decode cX9_digest 12 = .ok (.getfield 19, 3) := by decide +kernel
theorem dX9_digest_15 : decode cX9_digest 15 = .ok (.getfield 108, 3) := by decide +kernel
theorem dX9_digest_18 : decode cX9_digest 18 = .ok (.if_icmp .ge 16, 3) := by decide +kernel
theorem dX9_digest_21 : decode cX9_digest 21 = .ok (.aload_n 0, 1) := by decide +kernel
theorem dX9_digest_22 : decode cX9_digest 22 = .ok (.lload_n 1, 1) := by decide +kernel
theorem dX9_digest_23 : decode cX9_digest 23 = .ok (.iload_n 3, 1) := by decide +kernel
theorem dX9_digest_24 : decode cX9_digest 24 = .ok (.invokevirtual 274, 3) := by decide +kernel
theorem dX9_digest_27 : decode cX9_digest 27 = .ok (.lstore_n 1, 1) := by decide +kernel
theorem dX9_digest_28 : decode cX9_digest 28 = .ok (.iinc 3 1, 3) := by decide +kernel
theorem dX9_digest_31 : decode cX9_digest 31 = .ok (.goto (-21), 3) := by decide +kernel
theorem dX9_digest_34 : decode cX9_digest 34 = .ok (.ldc2_w 278, 3) := by decide +kernel
theorem dX9_digest_37 : decode cX9_digest 37 = .ok (.lload_n 1, 1) := by decide +kernel
theorem dX9_digest_38 : decode cX9_digest 38 = .ok (.lmul, 1) := by decide +kernel
theorem dX9_digest_39 : decode cX9_digest 39 = .ok (.aload_n 0, 1) := by decide +kernel
theorem dX9_digest_40 : decode cX9_digest 40 = .ok (.getfield 49, 3) := by decide +kernel
theorem dX9_digest_43 : decode cX9_digest 43 = .ok (.aload_n 0, 1) := by decide +kernel
theorem dX9_digest_44 : decode cX9_digest 44 = .ok (.getfield 19, 3) := by decide +kernel
theorem dX9_digest_47 : decode cX9_digest 47 = .ok (.invokevirtual 203, 3) := by decide +kernel
theorem dX9_digest_50 : decode cX9_digest 50 = .ok (.i2l, 1) := by decide +kernel
theorem dX9_digest_51 : decode cX9_digest 51 = .ok (.ladd, 1) := by decide +kernel
theorem dX9_digest_52 : decode cX9_digest 52 = .ok (.lstore_n 1, 1) := by decide +kernel
theorem dX9_digest_53 : decode cX9_digest 53 = .ok (.aload_n 0, 1) := by decide +kernel
theorem dX9_digest_54 : decode cX9_digest 54 = .ok (.getfield 42, 3) := by decide +kernel
theorem dX9_digest_57 : decode cX9_digest 57 = .ok (.aload_n 0, 1) := by decide +kernel
theorem dX9_digest_58 : decode cX9_digest 58 = .ok (.getfield 19, 3) := by decide +kernel
theorem dX9_digest_61 : decode cX9_digest 61 = .ok (.invokevirtual 207, 3) := by decide +kernel
theorem dX9_digest_64 : decode cX9_digest 64 = .ok (.ldc2_w 278, 3) := by decide +kernel
theorem dX9_digest_67 : decode cX9_digest 67 = .ok (.lload_n 1, 1) := by decide +kernel
theorem dX9_digest_68 : decode cX9_digest 68 = .ok (.lmul, 1) := by decide +kernel
theorem dX9_digest_69 : decode cX9_digest 69 = .ok (.aload_n 0, 1) := by decide +kernel
theorem dX9_digest_70 : decode cX9_digest 70 = .ok (.getfield 42, 3) := by decide +kernel
theorem dX9_digest_73 : decode cX9_digest 73 = .ok (.iconst 0, 1) := by decide +kernel
theorem dX9_digest_74 : decode cX9_digest 74 = .ok (.invokevirtual 211, 3) := by decide +kernel
theorem dX9_digest_77 : decode cX9_digest 77 = .ok (.i2l, 1) := by decide +kernel
theorem dX9_digest_78 : decode cX9_digest 78 = .ok (.ladd, 1) := by decide +kernel
theorem dX9_digest_79 : decode cX9_digest 79 = .ok (.lstore_n 1, 1) := by decide +kernel
theorem dX9_digest_80 : decode cX9_digest 80 = .ok (.ldc2_w 278, 3) := by decide +kernel
theorem dX9_digest_83 : decode cX9_digest 83 = .ok (.lload_n 1, 1) := by decide +kernel
theorem dX9_digest_84 : decode cX9_digest 84 = .ok (.lmul, 1) := by decide +kernel
theorem dX9_digest_85 : decode cX9_digest 85 = .ok (.aload_n 0, 1) := by decide +kernel
theorem dX9_digest_86 : decode cX9_digest 86 = .ok (.getfield 42, 3) := by decide +kernel
theorem dX9_digest_89 : decode cX9_digest 89 = .ok (.iconst 1, 1) := by decide +kernel
theorem dX9_digest_90 : decode cX9_digest 90 = .ok (.invokevirtual 211, 3) := by decide +kernel
theorem dX9_digest_93 : decode cX9_digest 93 = .ok (.i2l, 1) := by decide +kernel
theorem dX9_digest_94 : decode cX9_digest 94 = .ok (.ladd, 1) := by decide +kernel
theorem dX9_digest_95 : decode cX9_digest 95 = .ok (.lstore_n 1, 1) := by decide +kernel
theorem dX9_digest_96 : decode cX9_digest 96 = .ok (.iconst 0, 1) := by decide +kernel
theorem dX9_digest_97 : decode cX9_digest 97 = .ok (.istore_n 3, 1) := by decide +kernel
theorem dX9_digest_98 : decode cX9_digest 98 = .ok (.iload_n 3, 1) := by decide +kernel
theorem dX9_digest_99 : decode cX9_digest 99 = .ok (.iconst 4, 1) := by decide +kernel
theorem dX9_digest_100 : decode cX9_digest 100 = .ok (.if_icmp .ge 28, 3) := by decide +kernel
theorem dX9_digest_103 : decode cX9_digest 103 = .ok (.ldc2_w 278, 3) := by decide +kernel
theorem dX9_digest_106 : decode cX9_digest 106 = .ok (.lload_n 1, 1) := by decide +kernel
theorem dX9_digest_107 : decode cX9_digest 107 = .ok (.lmul, 1) := by decide +kernel
theorem dX9_digest_108 : decode cX9_digest 108 = .ok (.aload_n 0, 1) := by decide +kernel
theorem dX9_digest_109 : decode cX9_digest 109 = .ok (.getfield 42, 3) := by decide +kernel
theorem dX9_digest_112 : decode cX9_digest 112 = .ok (.bipush 10, 2) := by decide +kernel
theorem dX9_digest_114 : decode cX9_digest 114 = .ok (.iload_n 3, 1) := by decide +kernel
theorem dX9_digest_115 : decode cX9_digest 115 = .ok (.iadd, 1) := by decide +kernel
theorem dX9_digest_116 : decode cX9_digest 116 = .ok (.invokevirtual 211, 3) := by decide +kernel
theorem dX9_digest_119 : decode cX9_digest 119 = .ok (.i2l, 1) := by decide +kernel
theorem dX9_digest_120 : decode cX9_digest 120 = .ok (.ladd, 1) := by decide +kernel
theorem dX9_digest_121 : decode cX9_digest 121 = .ok (.lstore_n 1, 1) := by decide +kernel
theorem dX9_digest_122 : decode cX9_digest 122 = .ok (.iinc 3 1, 3) := by decide +kernel
theorem dX9_digest_125 : decode cX9_digest 125 = .ok (.goto (-27), 3) := by decide +kernel
theorem dX9_digest_128 : decode cX9_digest 128 = .ok (.iconst 0, 1) := by decide +kernel
theorem dX9_digest_129 : decode cX9_digest 129 = .ok (.istore_n 3, 1) := by decide +kernel
theorem dX9_digest_130 : decode cX9_digest 130 = .ok (.iload_n 3, 1) := by decide +kernel
theorem dX9_digest_131 : decode cX9_digest 131 = .ok (.aload_n 0, 1) := by decide +kernel
theorem dX9_digest_132 : decode cX9_digest 132 = .ok (.getfield 12, 3) := by decide +kernel
theorem dX9_digest_135 : decode cX9_digest 135 = .ok (.getfield 75, 3) := by decide +kernel
theorem dX9_digest_138 : decode cX9_digest 138 = .ok (.if_icmp .ge 26, 3) := by decide +kernel
theorem dX9_digest_141 : decode cX9_digest 141 = .ok (.ldc2_w 278, 3) := by decide +kernel
theorem dX9_digest_144 : decode cX9_digest 144 = .ok (.lload_n 1, 1) := by decide +kernel
theorem dX9_digest_145 : decode cX9_digest 145 = .ok (.lmul, 1) := by decide +kernel
theorem dX9_digest_146 : decode cX9_digest 146 = .ok (.aload_n 0, 1) := by decide +kernel
theorem dX9_digest_147 : decode cX9_digest 147 = .ok (.getfield 12, 3) := by decide +kernel
theorem dX9_digest_150 : decode cX9_digest 150 = .ok (.getfield 280, 3) := by decide +kernel
theorem dX9_digest_153 : decode cX9_digest 153 = .ok (.iload_n 3, 1) := by decide +kernel
theorem dX9_digest_154 : decode cX9_digest 154 = .ok (.iaload, 1) := by decide +kernel
theorem dX9_digest_155 : decode cX9_digest 155 = .ok (.i2l, 1) := by decide +kernel
theorem dX9_digest_156 : decode cX9_digest 156 = .ok (.ladd, 1) := by decide +kernel
theorem dX9_digest_157 : decode cX9_digest 157 = .ok (.lstore_n 1, 1) := by decide +kernel
theorem dX9_digest_158 : decode cX9_digest 158 = .ok (.iinc 3 1, 3) := by decide +kernel
theorem dX9_digest_161 : decode cX9_digest 161 = .ok (.goto (-31), 3) := by decide +kernel
theorem dX9_digest_164 : decode cX9_digest 164 = .ok (.iconst 0, 1) := by decide +kernel
theorem dX9_digest_165 : decode cX9_digest 165 = .ok (.istore_n 3, 1) := by decide +kernel
theorem dX9_digest_166 : decode cX9_digest 166 = .ok (.iload_n 3, 1) := by decide +kernel
theorem dX9_digest_167 : decode cX9_digest 167 = .ok (.bipush 10, 2) := by decide +kernel
theorem dX9_digest_169 : decode cX9_digest 169 = .ok (.if_icmp .gt 22, 3) := by decide +kernel
theorem dX9_digest_172 : decode cX9_digest 172 = .ok (.ldc2_w 278, 3) := by decide +kernel
theorem dX9_digest_175 : decode cX9_digest 175 = .ok (.lload_n 1, 1) := by decide +kernel
theorem dX9_digest_176 : decode cX9_digest 176 = .ok (.lmul, 1) := by decide +kernel
theorem dX9_digest_177 : decode cX9_digest 177 = .ok (.aload_n 0, 1) := by decide +kernel
theorem dX9_digest_178 : decode cX9_digest 178 = .ok (.iload_n 3, 1) := by decide +kernel
theorem dX9_digest_179 : decode cX9_digest 179 = .ok (.invokevirtual 283, 3) := by decide +kernel
theorem dX9_digest_182 : decode cX9_digest 182 = .ok (.i2l, 1) := by decide +kernel
theorem dX9_digest_183 : decode cX9_digest 183 = .ok (.ladd, 1) := by decide +kernel
theorem dX9_digest_184 : decode cX9_digest 184 = .ok (.lstore_n 1, 1) := by decide +kernel
theorem dX9_digest_185 : decode cX9_digest 185 = .ok (.iinc 3 1, 3) := by decide +kernel
theorem dX9_digest_188 : decode cX9_digest 188 = .ok (.goto (-22), 3) := by decide +kernel
theorem dX9_digest_191 : decode cX9_digest 191 = .ok (.lload_n 1, 1) := by decide +kernel
theorem dX9_digest_192 : decode cX9_digest 192 = .ok (.lreturn, 1) := by decide +kernel
theorem dX9_digestPerson_0 : decode cX9_digestPerson 0 = .ok (.lload_n 1, 1) := by decide +kernel
theorem dX9_digestPerson_1 : decode cX9_digestPerson 1 = .ok (.lstore 4, 2) := by decide +kernel
theorem dX9_digestPerson_3 : decode cX9_digestPerson 3 = .ok (.iconst 0, 1) := by decide +kernel
theorem dX9_digestPerson_4 : decode cX9_digestPerson 4 = .ok (.istore 6, 2) := by decide +kernel
theorem dX9_digestPerson_6 : decode cX9_digestPerson 6 = .ok (.iload 6, 2) := by decide +kernel
theorem dX9_digestPerson_8 : decode cX9_digestPerson 8 = .ok (.iconst 5, 1) := by decide +kernel
theorem dX9_digestPerson_9 : decode cX9_digestPerson 9 = .ok (.if_icmp .gt 26, 3) := by decide +kernel
theorem dX9_digestPerson_12 : decode cX9_digestPerson 12 = .ok (.ldc2_w 278, 3) := by decide +kernel
theorem dX9_digestPerson_15 : decode cX9_digestPerson 15 = .ok (.lload 4, 2) := by decide +kernel
theorem dX9_digestPerson_17 : decode cX9_digestPerson 17 = .ok (.lmul, 1) := by decide +kernel
theorem dX9_digestPerson_18 : decode cX9_digestPerson 18 = .ok (.aload_n 0, 1) := by decide +kernel
theorem dX9_digestPerson_19 : decode cX9_digestPerson 19 = .ok (.iload_n 3, 1) := by decide +kernel
theorem dX9_digestPerson_20 : decode cX9_digestPerson 20 = .ok (.iload 6, 2) := by decide +kernel
theorem dX9_digestPerson_22 : decode cX9_digestPerson 22 = .ok (.invokevirtual 285, 3) := by decide +kernel
theorem dX9_digestPerson_25 : decode cX9_digestPerson 25 = .ok (.i2l, 1) := by decide +kernel
theorem dX9_digestPerson_26 : decode cX9_digestPerson 26 = .ok (.ladd, 1) := by decide +kernel
theorem dX9_digestPerson_27 : decode cX9_digestPerson 27 = .ok (.lstore 4, 2) := by decide +kernel
theorem dX9_digestPerson_29 : decode cX9_digestPerson 29 = .ok (.iinc 6 1, 3) := by decide +kernel
theorem dX9_digestPerson_32 : decode cX9_digestPerson 32 = .ok (.goto (-26), 3) := by decide +kernel
theorem dX9_digestPerson_35 : decode cX9_digestPerson 35 = .ok (.ldc2_w 278, 3) := by decide +kernel
theorem dX9_digestPerson_38 : decode cX9_digestPerson 38 = .ok (.lload 4, 2) := by decide +kernel
theorem dX9_digestPerson_40 : decode cX9_digestPerson 40 = .ok (.lmul, 1) := by decide +kernel
theorem dX9_digestPerson_41 : decode cX9_digestPerson 41 = .ok (.aload_n 0, 1) := by decide +kernel
theorem dX9_digestPerson_42 : decode cX9_digestPerson 42 = .ok (.getfield 67, 3) := by decide +kernel
theorem dX9_digestPerson_45 : decode cX9_digestPerson 45 = .ok (.iload_n 3, 1) := by decide +kernel
theorem dX9_digestPerson_46 : decode cX9_digestPerson 46 = .ok (.iaload, 1) := by decide +kernel
theorem dX9_digestPerson_47 : decode cX9_digestPerson 47 = .ok (.i2l, 1) := by decide +kernel
theorem dX9_digestPerson_48 : decode cX9_digestPerson 48 = .ok (.ladd, 1) := by decide +kernel
theorem dX9_digestPerson_49 : decode cX9_digestPerson 49 = .ok (.lstore 4, 2) := by decide +kernel
theorem dX9_digestPerson_51 : decode cX9_digestPerson 51 = .ok (.iconst 0, 1) := by decide +kernel
theorem dX9_digestPerson_52 : decode cX9_digestPerson 52 = .ok (.istore 6, 2) := by decide +kernel
theorem dX9_digestPerson_54 : decode cX9_digestPerson 54 = .ok (.iload 6, 2) := by decide +kernel
theorem dX9_digestPerson_56 : decode cX9_digestPerson 56 = .ok (.aload_n 0, 1) := by decide +kernel
theorem dX9_digestPerson_57 : decode cX9_digestPerson 57 = .ok (.getfield 19, 3) := by decide +kernel
theorem dX9_digestPerson_60 : decode cX9_digestPerson 60 = .ok (.getfield 108, 3) := by decide +kernel
theorem dX9_digestPerson_63 : decode cX9_digestPerson 63 = .ok (.if_icmp .ge 52, 3) := by decide +kernel
theorem dX9_digestPerson_66 : decode cX9_digestPerson 66 = .ok (.iload 6, 2) := by decide +kernel
theorem dX9_digestPerson_68 : decode cX9_digestPerson 68 = .ok (.iload_n 3, 1) := by decide +kernel
theorem dX9_digestPerson_69 : decode cX9_digestPerson 69 = .ok (.if_icmp .ne 6, 3) := by decide +kernel
theorem dX9_digestPerson_72 : decode cX9_digestPerson 72 = .ok (.goto 37, 3) := by decide +kernel
theorem dX9_digestPerson_75 : decode cX9_digestPerson 75 = .ok (.iconst 0, 1) := by decide +kernel
theorem dX9_digestPerson_76 : decode cX9_digestPerson 76 = .ok (.istore 7, 2) := by decide +kernel
theorem dX9_digestPerson_78 : decode cX9_digestPerson 78 = .ok (.iload 7, 2) := by decide +kernel
theorem dX9_digestPerson_80 : decode cX9_digestPerson 80 = .ok (.iconst 2, 1) := by decide +kernel
theorem dX9_digestPerson_81 : decode cX9_digestPerson 81 = .ok (.if_icmp .gt 28, 3) := by decide +kernel
theorem dX9_digestPerson_84 : decode cX9_digestPerson 84 = .ok (.ldc2_w 278, 3) := by decide +kernel
theorem dX9_digestPerson_87 : decode cX9_digestPerson 87 = .ok (.lload 4, 2) := by decide +kernel
theorem dX9_digestPerson_89 : decode cX9_digestPerson 89 = .ok (.lmul, 1) := by decide +kernel
theorem dX9_digestPerson_90 : decode cX9_digestPerson 90 = .ok (.aload_n 0, 1) := by decide +kernel
theorem dX9_digestPerson_91 : decode cX9_digestPerson 91 = .ok (.iload_n 3, 1) := by decide +kernel
theorem dX9_digestPerson_92 : decode cX9_digestPerson 92 = .ok (.iload 6, 2) := by decide +kernel
theorem dX9_digestPerson_94 : decode cX9_digestPerson 94 = .ok (.iload 7, 2) := by decide +kernel
theorem dX9_digestPerson_96 : decode cX9_digestPerson 96 = .ok (.invokevirtual 288, 3) := by decide +kernel
theorem dX9_digestPerson_99 : decode cX9_digestPerson 99 = .ok (.i2l, 1) := by decide +kernel
theorem dX9_digestPerson_100 : decode cX9_digestPerson 100 = .ok (.ladd, 1) := by decide +kernel
theorem dX9_digestPerson_101 : decode cX9_digestPerson 101 = .ok (.lstore 4, 2) := by decide +kernel
theorem dX9_digestPerson_103 : decode cX9_digestPerson 103 = .ok (.iinc 7 1, 3) := by decide +kernel
theorem dX9_digestPerson_106 : decode cX9_digestPerson 106 = .ok (.goto (-28), 3) := by decide +kernel
theorem dX9_digestPerson_109 : decode cX9_digestPerson 109 = .ok (.iinc 6 1, 3) := by decide +kernel
theorem dX9_digestPerson_112 : decode cX9_digestPerson 112 = .ok (.goto (-58), 3) := by decide +kernel
theorem dX9_digestPerson_115 : decode cX9_digestPerson 115 = .ok (.lload 4, 2) := by decide +kernel
theorem dX9_digestPerson_117 : decode cX9_digestPerson 117 = .ok (.lreturn, 1) := by decide +kernel
theorem dX9_foreseeRuin_0 : decode cX9_foreseeRuin 0 = .ok (.aload_n 0, 1) := by decide +kernel
theorem dX9_foreseeRuin_1 : decode cX9_foreseeRuin 1 = .ok (.getfield 36, 3) := by decide +kernel
theorem dX9_foreseeRuin_4 : decode cX9_foreseeRuin 4 = .ok (.aload_n 0, 1) := by decide +kernel
theorem dX9_foreseeRuin_5 : decode cX9_foreseeRuin 5 = .ok (.getfield 19, 3) := by decide +kernel
theorem dX9_foreseeRuin_8 : decode cX9_foreseeRuin 8 = .ok (.invokevirtual 241, 3) := by decide +kernel
theorem dX9_foreseeRuin_11 : decode cX9_foreseeRuin 11 = .ok (.iconst 0, 1) := by decide +kernel
theorem dX9_foreseeRuin_12 : decode cX9_foreseeRuin 12 = .ok (.istore_n 1, 1) := by decide +kernel
theorem dX9_foreseeRuin_13 : decode cX9_foreseeRuin 13 = .ok (.iload_n 1, 1) := by decide +kernel
theorem dX9_foreseeRuin_14 : decode cX9_foreseeRuin 14 = .ok (.iconst 5, 1) := by decide +kernel
theorem dX9_foreseeRuin_15 : decode cX9_foreseeRuin 15 = .ok (.if_icmp .ge 16, 3) := by decide +kernel
theorem dX9_foreseeRuin_18 : decode cX9_foreseeRuin 18 = .ok (.aload_n 0, 1) := by decide +kernel
theorem dX9_foreseeRuin_19 : decode cX9_foreseeRuin 19 = .ok (.getfield 67, 3) := by decide +kernel
theorem dX9_foreseeRuin_22 : decode cX9_foreseeRuin 22 = .ok (.iload_n 1, 1) := by decide +kernel
theorem dX9_foreseeRuin_23 : decode cX9_foreseeRuin 23 = .ok (.iconst (-1), 1) := by decide +kernel
theorem dX9_foreseeRuin_24 : decode cX9_foreseeRuin 24 = .ok (.iastore, 1) := by decide +kernel
theorem dX9_foreseeRuin_25 : decode cX9_foreseeRuin 25 = .ok (.iinc 1 1, 3) := by decide +kernel
theorem dX9_foreseeRuin_28 : decode cX9_foreseeRuin 28 = .ok (.goto (-15), 3) := by decide +kernel
theorem dX9_foreseeRuin_31 : decode cX9_foreseeRuin 31 = .ok (.aload_n 0, 1) := by decide +kernel
theorem dX9_foreseeRuin_32 : decode cX9_foreseeRuin 32 = .ok (.iconst 0, 1) := by decide +kernel
theorem dX9_foreseeRuin_33 : decode cX9_foreseeRuin 33 = .ok (.invokevirtual 292, 3) := by decide +kernel
theorem dX9_foreseeRuin_36 : decode cX9_foreseeRuin 36 = .ok (.iconst 1, 1) := by decide +kernel
theorem dX9_foreseeRuin_37 : decode cX9_foreseeRuin 37 = .ok (.istore_n 1, 1) := by decide +kernel
theorem dX9_foreseeRuin_38 : decode cX9_foreseeRuin 38 = .ok (.iload_n 1, 1) := by decide +kernel
theorem dX9_foreseeRuin_39 : decode cX9_foreseeRuin 39 = .ok (.bipush 40, 2) := by decide +kernel
theorem dX9_foreseeRuin_41 : decode cX9_foreseeRuin 41 = .ok (.if_icmp .gt 22, 3) := by decide +kernel
theorem dX9_foreseeRuin_44 : decode cX9_foreseeRuin 44 = .ok (.aload_n 0, 1) := by decide +kernel
theorem dX9_foreseeRuin_45 : decode cX9_foreseeRuin 45 = .ok (.getfield 36, 3) := by decide +kernel
theorem dX9_foreseeRuin_48 : decode cX9_foreseeRuin 48 = .ok (.invokevirtual 189, 3) := by decide +kernel
theorem dX9_foreseeRuin_51 : decode cX9_foreseeRuin 51 = .ok (.pop, 1) := by decide +kernel
theorem dX9_foreseeRuin_52 : decode cX9_foreseeRuin 52 = .ok (.aload_n 0, 1) := by decide +kernel
theorem dX9_foreseeRuin_53 : decode cX9_foreseeRuin 53 = .ok (.iload_n 1, 1) := by decide +kernel
theorem dX9_foreseeRuin_54 : decode cX9_foreseeRuin 54 = .ok (.invokevirtual 292, 3) := by decide +kernel
theorem dX9_foreseeRuin_57 : decode cX9_foreseeRuin 57 = .ok (.iinc 1 1, 3) := by decide +kernel
theorem dX9_foreseeRuin_60 : decode cX9_foreseeRuin 60 = .ok (.goto (-22), 3) := by decide +kernel
theorem dX9_foreseeRuin_63 : decode cX9_foreseeRuin 63 = .ok (.return_, 1) := by decide +kernel
theorem dX9_noteRuined_0 : decode cX9_noteRuined 0 = .ok (.iconst 0, 1) := by decide +kernel
theorem dX9_noteRuined_1 : decode cX9_noteRuined 1 = .ok (.istore_n 2, 1) := by decide +kernel
theorem dX9_noteRuined_2 : decode cX9_noteRuined 2 = .ok (.iload_n 2, 1) := by decide +kernel
theorem dX9_noteRuined_3 : decode cX9_noteRuined 3 = .ok (.aload_n 0, 1) := by decide +kernel
theorem dX9_noteRuined_4 : decode cX9_noteRuined 4 = .ok (.getfield 36, 3) := by decide +kernel
theorem dX9_noteRuined_7 : decode cX9_noteRuined 7 = .ok (.getfield 108, 3) := by decide +kernel
theorem dX9_noteRuined_10 : decode cX9_noteRuined 10 = .ok (.if_icmp .ge 37, 3) := by decide +kernel
theorem dX9_noteRuined_13 : decode cX9_noteRuined 13 = .ok (.aload_n 0, 1) := by decide +kernel
theorem dX9_noteRuined_14 : decode cX9_noteRuined 14 = .ok (.getfield 67, 3) := by decide +kernel
theorem dX9_noteRuined_17 : decode cX9_noteRuined 17 = .ok (.iload_n 2, 1) := by decide +kernel
theorem dX9_noteRuined_18 : decode cX9_noteRuined 18 = .ok (.iaload, 1) := by decide +kernel
theorem dX9_noteRuined_19 : decode cX9_noteRuined 19 = .ok (.iconst (-1), 1) := by decide +kernel
theorem dX9_noteRuined_20 : decode cX9_noteRuined 20 = .ok (.if_icmp .ne 21, 3) := by decide +kernel
theorem dX9_noteRuined_23 : decode cX9_noteRuined 23 = .ok (.aload_n 0, 1) := by decide +kernel
theorem dX9_noteRuined_24 : decode cX9_noteRuined 24 = .ok (.getfield 36, 3) := by decide +kernel
theorem dX9_noteRuined_27 : decode cX9_noteRuined 27 = .ok (.iload_n 2, 1) := by decide +kernel
theorem dX9_noteRuined_28 : decode cX9_noteRuined 28 = .ok (.invokevirtual 134, 3) := by decide +kernel
theorem dX9_noteRuined_31 : decode cX9_noteRuined 31 = .ok (.ifCond .eq 10, 3) := by decide +kernel
theorem dX9_noteRuined_34 : decode cX9_noteRuined 34 = .ok (.aload_n 0, 1) := by decide +kernel
theorem dX9_noteRuined_35 : decode cX9_noteRuined 35 = .ok (.getfield 67, 3) := by decide +kernel
theorem dX9_noteRuined_38 : decode cX9_noteRuined 38 = .ok (.iload_n 2, 1) := by decide +kernel
theorem dX9_noteRuined_39 : decode cX9_noteRuined 39 = .ok (.iload_n 1, 1) := by decide +kernel
theorem dX9_noteRuined_40 : decode cX9_noteRuined 40 = .ok (.iastore, 1) := by decide +kernel
theorem dX9_noteRuined_41 : decode cX9_noteRuined 41 = .ok (.iinc 2 1, 3) := by decide +kernel
theorem dX9_noteRuined_44 : decode cX9_noteRuined 44 = .ok (.goto (-42), 3) := by decide +kernel
theorem dX9_noteRuined_47 : decode cX9_noteRuined 47 = .ok (.return_, 1) := by decide +kernel
theorem dX9_within_0 : decode cX9_within 0 = .ok (.iload_n 0, 1) := by decide +kernel
theorem dX9_within_1 : decode cX9_within 1 = .ok (.iload_n 1, 1) := by decide +kernel
theorem dX9_within_2 : decode cX9_within 2 = .ok (.if_icmp .lt 12, 3) := by decide +kernel
theorem dX9_within_5 : decode cX9_within 5 = .ok (.iload_n 0, 1) := by decide +kernel
theorem dX9_within_6 : decode cX9_within 6 = .ok (.iload_n 2, 1) := by decide +kernel
theorem dX9_within_7 : decode cX9_within 7 = .ok (.if_icmp .gt 7, 3) := by decide +kernel
theorem dX9_within_10 : decode cX9_within 10 = .ok (.iconst 1, 1) := by decide +kernel
theorem dX9_within_11 : decode cX9_within 11 = .ok (.goto 4, 3) := by decide +kernel
theorem dX9_within_14 : decode cX9_within 14 = .ok (.iconst 0, 1) := by decide +kernel
theorem dX9_within_15 : decode cX9_within 15 = .ok (.ireturn, 1) := by decide +kernel
theorem dX9_isKind_0 : decode cX9_isKind 0 = .ok (.iload_n 0, 1) := by decide +kernel
theorem dX9_isKind_1 : decode cX9_isKind 1 = .ok (.iconst 0, 1) := by decide +kernel
theorem dX9_isKind_2 : decode cX9_isKind 2 = .ok (.getstatic 145, 3) := by decide +kernel
theorem dX9_isKind_5 : decode cX9_isKind 5 = .ok (.arraylength, 1) := by decide +kernel
theorem dX9_isKind_6 : decode cX9_isKind 6 = .ok (.iconst 1, 1) := by decide +kernel
theorem dX9_isKind_7 : decode cX9_isKind 7 = .ok (.isub, 1) := by decide +kernel
theorem dX9_isKind_8 : decode cX9_isKind 8 = .ok (.invokestatic 71, 3) := by decide +kernel
theorem dX9_isKind_11 : decode cX9_isKind 11 = .ok (.ireturn, 1) := by decide +kernel
theorem dX9_isSize_0 : decode cX9_isSize 0 = .ok (.iload_n 0, 1) := by decide +kernel
theorem dX9_isSize_1 : decode cX9_isSize 1 = .ok (.iconst 1, 1) := by decide +kernel
theorem dX9_isSize_2 : decode cX9_isSize 2 = .ok (.bipush 99, 2) := by decide +kernel
theorem dX9_isSize_4 : decode cX9_isSize 4 = .ok (.invokestatic 71, 3) := by decide +kernel
theorem dX9_isSize_7 : decode cX9_isSize 7 = .ok (.ireturn, 1) := by decide +kernel
theorem dX9_oneIf_0 : decode cX9_oneIf 0 = .ok (.iload_n 0, 1) := by decide +kernel
theorem dX9_oneIf_1 : decode cX9_oneIf 1 = .ok (.ifCond .eq 7, 3) := by decide +kernel
theorem dX9_oneIf_4 : decode cX9_oneIf 4 = .ok (.iconst 1, 1) := by decide +kernel
theorem dX9_oneIf_5 : decode cX9_oneIf 5 = .ok (.goto 4, 3) := by decide +kernel
theorem dX9_oneIf_8 : decode cX9_oneIf 8 = .ok (.iconst 0, 1) := by decide +kernel
theorem dX9_oneIf_9 : decode cX9_oneIf 9 = .ok (.ireturn, 1) := by decide +kernel
theorem dX9_isAmong_0 : decode cX9_isAmong 0 = .ok (.iload_n 1, 1) := by decide +kernel
theorem dX9_isAmong_1 : decode cX9_isAmong 1 = .ok (.iload_n 0, 1) := by decide +kernel
theorem dX9_isAmong_2 : decode cX9_isAmong 2 = .ok (.ishr, 1) := by decide +kernel
theorem dX9_isAmong_3 : decode cX9_isAmong 3 = .ok (.iconst 1, 1) := by decide +kernel
theorem dX9_isAmong_4 : decode cX9_isAmong 4 = .ok (.iand, 1) := by decide +kernel
theorem dX9_isAmong_5 : decode cX9_isAmong 5 = .ok (.iconst 1, 1) := by decide +kernel
theorem dX9_isAmong_6 : decode cX9_isAmong 6 = .ok (.if_icmp .ne 7, 3) := by decide +kernel
theorem dX9_isAmong_9 : decode cX9_isAmong 9 = .ok (.iconst 1, 1) := by decide +kernel
theorem dX9_isAmong_10 : decode cX9_isAmong 10 = .ok (.goto 4, 3) := by decide +kernel
theorem dX9_isAmong_13 : decode cX9_isAmong 13 = .ok (.iconst 0, 1) := by decide +kernel
theorem dX9_isAmong_14 : decode cX9_isAmong 14 = .ok (.ireturn, 1) := by decide +kernel
theorem dX9_pairOf_0 : decode cX9_pairOf 0 = .ok (.iload_n 0, 1) := by decide +kernel
theorem dX9_pairOf_1 : decode cX9_pairOf 1 = .ok (.iconst 5, 1) := by decide +kernel
theorem dX9_pairOf_2 : decode cX9_pairOf 2 = .ok (.imul, 1) := by decide +kernel
theorem dX9_pairOf_3 : decode cX9_pairOf 3 = .ok (.iload_n 1, 1) := by decide +kernel
theorem dX9_pairOf_4 : decode cX9_pairOf 4 = .ok (.iadd, 1) := by decide +kernel
theorem dX9_pairOf_5 : decode cX9_pairOf 5 = .ok (.ireturn, 1) := by decide +kernel
theorem dX10_init_0 : decode cX10_init 0 = .ok (.aload_n 0, 1) := by decide +kernel
theorem dX10_init_1 : decode cX10_init 1 = .ok (.invokespecial 1, 3) := by decide +kernel
theorem dX10_init_4 : decode cX10_init 4 = .ok (.aload_n 0, 1) := by decide +kernel
theorem dX10_init_5 : decode cX10_init 5 = .ok (.iconst 1, 1) := by decide +kernel
theorem dX10_init_6 : decode cX10_init 6 = .ok (.putfield 7, 3) := by decide +kernel
theorem dX10_init_9 : decode cX10_init 9 = .ok (.aload_n 0, 1) := by decide +kernel
theorem dX10_init_10 : decode cX10_init 10 = .ok (.iconst 1, 1) := by decide +kernel
theorem dX10_init_11 : decode cX10_init 11 = .ok (.putfield 13, 3) := by decide +kernel
theorem dX10_init_14 : decode cX10_init 14 = .ok (.aload_n 0, 1) := by decide +kernel
theorem dX10_init_15 : decode cX10_init 15 = .ok (.iconst 5, 1) := by decide +kernel
theorem dX10_init_16 : decode cX10_init 16 = .ok (.newarray .int, 2) := by decide +kernel
theorem dX10_init_18 : decode cX10_init 18 = .ok (.putfield 16, 3) := by decide +kernel
theorem dX10_init_21 : decode cX10_init 21 = .ok (.aload_n 0, 1) := by decide +kernel
theorem dX10_init_22 : decode cX10_init 22 = .ok (.bipush 10, 2) := by decide +kernel
theorem dX10_init_24 : decode cX10_init 24 = .ok (.newarray .int, 2) := by decide +kernel
theorem dX10_init_26 : decode cX10_init 26 = .ok (.putfield 20, 3) := by decide +kernel
theorem dX10_init_29 : decode cX10_init 29 = .ok (.aload_n 0, 1) := by decide +kernel
theorem dX10_init_30 : decode cX10_init 30 = .ok (.bipush 50, 2) := by decide +kernel
theorem dX10_init_32 : decode cX10_init 32 = .ok (.newarray .int, 2) := by decide +kernel
theorem dX10_init_34 : decode cX10_init 34 = .ok (.putfield 23, 3) := by decide +kernel
theorem dX10_init_37 : decode cX10_init 37 = .ok (.aload_n 0, 1) := by decide +kernel
theorem dX10_init_38 : decode cX10_init 38 = .ok (.bipush 50, 2) := by decide +kernel
theorem dX10_init_40 : decode cX10_init 40 = .ok (.newarray .int, 2) := by decide +kernel
theorem dX10_init_42 : decode cX10_init 42 = .ok (.putfield 26, 3) := by decide +kernel
theorem dX10_init_45 : decode cX10_init 45 = .ok (.aload_n 0, 1) := by decide +kernel
theorem dX10_init_46 : decode cX10_init 46 = .ok (.bipush 50, 2) := by decide +kernel
theorem dX10_init_48 : decode cX10_init 48 = .ok (.newarray .int, 2) := by decide +kernel
theorem dX10_init_50 : decode cX10_init 50 = .ok (.putfield 29, 3) := by decide +kernel
theorem dX10_init_53 : decode cX10_init 53 = .ok (.aload_n 0, 1) := by decide +kernel
theorem dX10_init_54 : decode cX10_init 54 = .ok (.bipush 6, 2) := by decide +kernel
theorem dX10_init_56 : decode cX10_init 56 = .ok (.newarray .int, 2) := by decide +kernel
theorem dX10_init_58 : decode cX10_init 58 = .ok (.putfield 32, 3) := by decide +kernel
theorem dX10_init_61 : decode cX10_init 61 = .ok (.aload_n 0, 1) := by decide +kernel
theorem dX10_init_62 : decode cX10_init 62 = .ok (.bipush 6, 2) := by decide +kernel
theorem dX10_init_64 : decode cX10_init 64 = .ok (.newarray .int, 2) := by decide +kernel
theorem dX10_init_66 : decode cX10_init 66 = .ok (.putfield 35, 3) := by decide +kernel
theorem dX10_init_69 : decode cX10_init 69 = .ok (.aload_n 0, 1) := by decide +kernel
theorem dX10_init_70 : decode cX10_init 70 = .ok (.bipush 6, 2) := by decide +kernel
theorem dX10_init_72 : decode cX10_init 72 = .ok (.newarray .int, 2) := by decide +kernel
theorem dX10_init_74 : decode cX10_init 74 = .ok (.putfield 38, 3) := by decide +kernel
theorem dX10_init_77 : decode cX10_init 77 = .ok (.aload_n 0, 1) := by decide +kernel
theorem dX10_init_78 : decode cX10_init 78 = .ok (.bipush 6, 2) := by decide +kernel
theorem dX10_init_80 : decode cX10_init 80 = .ok (.newarray .byte, 2) := by decide +kernel
theorem dX10_init_82 : decode cX10_init 82 = .ok (.putfield 41, 3) := by decide +kernel
theorem dX10_init_85 : decode cX10_init 85 = .ok (.aload_n 0, 1) := by decide +kernel
theorem dX10_init_86 : decode cX10_init 86 = .ok (.bipush 32, 2) := by decide +kernel
theorem dX10_init_88 : decode cX10_init 88 = .ok (.newarray .int, 2) := by decide +kernel
theorem dX10_init_90 : decode cX10_init 90 = .ok (.putfield 45, 3) := by decide +kernel
theorem dX10_init_93 : decode cX10_init 93 = .ok (.aload_n 0, 1) := by decide +kernel
theorem dX10_init_94 : decode cX10_init 94 = .ok (.bipush 32, 2) := by decide +kernel
theorem dX10_init_96 : decode cX10_init 96 = .ok (.newarray .int, 2) := by decide +kernel
theorem dX10_init_98 : decode cX10_init 98 = .ok (.putfield 48, 3) := by decide +kernel
theorem dX10_init_101 : decode cX10_init 101 = .ok (.aload_n 0, 1) := by decide +kernel
theorem dX10_init_102 : decode cX10_init 102 = .ok (.iconst 4, 1) := by decide +kernel
theorem dX10_init_103 : decode cX10_init 103 = .ok (.newarray .int, 2) := by decide +kernel
theorem dX10_init_105 : decode cX10_init 105 = .ok (.putfield 51, 3) := by decide +kernel
theorem dX10_init_108 : decode cX10_init 108 = .ok (.aload_n 0, 1) := by decide +kernel
theorem dX10_init_109 : decode cX10_init 109 = .ok (.iconst 5, 1) := by decide +kernel
theorem dX10_init_110 : decode cX10_init 110 = .ok (.newarray .int, 2) := by decide +kernel
theorem dX10_init_112 : decode cX10_init 112 = .ok (.putfield 54, 3) := by decide +kernel
theorem dX10_init_115 : decode cX10_init 115 = .ok (.aload_n 0, 1) := by decide +kernel
theorem dX10_init_116 : decode cX10_init 116 = .ok (.bipush 25, 2) := by decide +kernel
theorem dX10_init_118 : decode cX10_init 118 = .ok (.newarray .int, 2) := by decide +kernel
theorem dX10_init_120 : decode cX10_init 120 = .ok (.putfield 57, 3) := by decide +kernel
theorem dX10_init_123 : decode cX10_init 123 = .ok (.aload_n 0, 1) := by decide +kernel
theorem dX10_init_124 : decode cX10_init 124 = .ok (.bipush 25, 2) := by decide +kernel
theorem dX10_init_126 : decode cX10_init 126 = .ok (.newarray .int, 2) := by decide +kernel
theorem dX10_init_128 : decode cX10_init 128 = .ok (.putfield 60, 3) := by decide +kernel
theorem dX10_init_131 : decode cX10_init 131 = .ok (.aload_n 0, 1) := by decide +kernel
theorem dX10_init_132 : decode cX10_init 132 = .ok (.bipush 25, 2) := by decide +kernel
theorem dX10_init_134 : decode cX10_init 134 = .ok (.newarray .int, 2) := by decide +kernel
theorem dX10_init_136 : decode cX10_init 136 = .ok (.putfield 63, 3) := by decide +kernel
theorem dX10_init_139 : decode cX10_init 139 = .ok (.aload_n 0, 1) := by decide +kernel
theorem dX10_init_140 : decode cX10_init 140 = .ok (.bipush 18, 2) := by decide +kernel
theorem dX10_init_142 : decode cX10_init 142 = .ok (.newarray .int, 2) := by decide +kernel
theorem dX10_init_144 : decode cX10_init 144 = .ok (.putfield 66, 3) := by decide +kernel
theorem dX10_init_147 : decode cX10_init 147 = .ok (.return_, 1) := by decide +kernel
theorem dX10_within_0 : decode cX10_within 0 = .ok (.iload_n 0, 1) := by decide +kernel
theorem dX10_within_1 : decode cX10_within 1 = .ok (.iload_n 1, 1) := by decide +kernel
theorem dX10_within_2 : decode cX10_within 2 = .ok (.if_icmp .lt 12, 3) := by decide +kernel
theorem dX10_within_5 : decode cX10_within 5 = .ok (.iload_n 0, 1) := by decide +kernel
theorem dX10_within_6 : decode cX10_within 6 = .ok (.iload_n 2, 1) := by decide +kernel
theorem dX10_within_7 : decode cX10_within 7 = .ok (.if_icmp .gt 7, 3) := by decide +kernel
theorem dX10_within_10 : decode cX10_within 10 = .ok (.iconst 1, 1) := by decide +kernel
theorem dX10_within_11 : decode cX10_within 11 = .ok (.goto 4, 3) := by decide +kernel
theorem dX10_within_14 : decode cX10_within 14 = .ok (.iconst 0, 1) := by decide +kernel
theorem dX10_within_15 : decode cX10_within 15 = .ok (.ireturn, 1) := by decide +kernel
theorem dX10_size_0 : decode cX10_size 0 = .ok (.iconst 0, 1) := by decide +kernel
theorem dX10_size_1 : decode cX10_size 1 = .ok (.istore_n 1, 1) := by decide +kernel
theorem dX10_size_2 : decode cX10_size 2 = .ok (.iconst 0, 1) := by decide +kernel
theorem dX10_size_3 : decode cX10_size 3 = .ok (.istore_n 2, 1) := by decide +kernel
theorem dX10_size_4 : decode cX10_size 4 = .ok (.iload_n 2, 1) := by decide +kernel
theorem dX10_size_5 : decode cX10_size 5 = .ok (.bipush 6, 2) := by decide +kernel
theorem dX10_size_7 : decode cX10_size 7 = .ok (.if_icmp .ge 17, 3) := by decide +kernel
theorem dX10_size_10 : decode cX10_size 10 = .ok (.iload_n 1, 1) := by decide +kernel
theorem dX10_size_11 : decode cX10_size 11 = .ok (.iload_n 0, 1) := by decide +kernel
theorem dX10_size_12 : decode cX10_size 12 = .ok (.iload_n 2, 1) := by decide +kernel
theorem dX10_size_13 : decode cX10_size 13 = .ok (.ishr, 1) := by decide +kernel
theorem dX10_size_14 : decode cX10_size 14 = .ok (.iconst 1, 1) := by decide +kernel
theorem dX10_size_15 : decode cX10_size 15 = .ok (.iand, 1) := by decide +kernel
theorem dX10_size_16 : decode cX10_size 16 = .ok (.iadd, 1) := by decide +kernel
theorem dX10_size_17 : decode cX10_size 17 = .ok (.istore_n 1, 1) := by decide +kernel
theorem dX10_size_18 : decode cX10_size 18 = .ok (.iinc 2 1, 3) := by decide +kernel
theorem dX10_size_21 : decode cX10_size 21 = .ok (.goto (-17), 3) := by decide +kernel
theorem dX10_size_24 : decode cX10_size 24 = .ok (.iload_n 1, 1) := by decide +kernel
theorem dX10_size_25 : decode cX10_size 25 = .ok (.ireturn, 1) := by decide +kernel
theorem dX10_less_0 : decode cX10_less 0 = .ok (.iload_n 0, 1) := by decide +kernel
theorem dX10_less_1 : decode cX10_less 1 = .ok (.iload_n 1, 1) := by decide +kernel
theorem dX10_less_2 : decode cX10_less 2 = .ok (.if_icmp .ge 7, 3) := by decide +kernel
theorem dX10_less_5 : decode cX10_less 5 = .ok (.iload_n 0, 1) := by decide +kernel
theorem dX10_less_6 : decode cX10_less 6 = .ok (.goto 4, 3) := by decide +kernel
theorem dX10_less_9 : decode cX10_less 9 = .ok (.iload_n 1, 1) := by decide +kernel
theorem dX10_less_10 : decode cX10_less 10 = .ok (.ireturn, 1) := by decide +kernel
theorem dX10_more_0 : decode cX10_more 0 = .ok (.iload_n 0, 1) := by decide +kernel
theorem dX10_more_1 : decode cX10_more 1 = .ok (.iload_n 1, 1) := by decide +kernel
theorem dX10_more_2 : decode cX10_more 2 = .ok (.if_icmp .le 7, 3) := by decide +kernel
theorem dX10_more_5 : decode cX10_more 5 = .ok (.iload_n 0, 1) := by decide +kernel
theorem dX10_more_6 : decode cX10_more 6 = .ok (.goto 4, 3) := by decide +kernel
theorem dX10_more_9 : decode cX10_more 9 = .ok (.iload_n 1, 1) := by decide +kernel
theorem dX10_more_10 : decode cX10_more 10 = .ok (.ireturn, 1) := by decide +kernel
theorem dX10_letter_0 : decode cX10_letter 0 = .ok (.iload_n 1, 1) := by decide +kernel
theorem dX10_letter_1 : decode cX10_letter 1 = .ok (.bipush 32, 2) := by decide +kernel
theorem dX10_letter_3 : decode cX10_letter 3 = .ok (.bipush 126, 2) := by decide +kernel
theorem dX10_letter_5 : decode cX10_letter 5 = .ok (.invokestatic 69, 3) := by decide +kernel
theorem dX10_letter_8 : decode cX10_letter 8 = .ok (.ifCond .ne 6, 3) := by decide +kernel
theorem dX10_letter_11 : decode cX10_letter 11 = .ok (.bipush (-102), 2) := by decide +kernel
theorem dX10_letter_13 : decode cX10_letter 13 = .ok (.ireturn, 1) := by decide +kernel
theorem dX10_letter_14 : decode cX10_letter 14 = .ok (.aload_n 0, 1) := by decide +kernel
theorem dX10_letter_15 : decode cX10_letter 15 = .ok (.getfield 73, 3) := by decide +kernel
theorem dX10_letter_18 : decode cX10_letter 18 = .ok (.bipush 6, 2) := by decide +kernel
theorem dX10_letter_20 : decode cX10_letter 20 = .ok (.if_icmp .ne 6, 3) := by decide +kernel
theorem dX10_letter_23 : decode cX10_letter 23 = .ok (.bipush (-104), 2) := by decide +kernel
theorem dX10_letter_25 : decode cX10_letter 25 = .ok (.ireturn, 1) := by decide +kernel
theorem dX10_letter_26 : decode cX10_letter 26 = .ok (.aload_n 0, 1) := by decide +kernel
theorem dX10_letter_27 : decode cX10_letter 27 = .ok (.getfield 41, 3) := by decide +kernel
theorem dX10_letter_30 : decode cX10_letter 30 = .ok (.aload_n 0, 1) := by decide +kernel
theorem dX10_letter_31 : decode cX10_letter 31 = .ok (.getfield 73, 3) := by decide +kernel
theorem dX10_letter_34 : decode cX10_letter 34 = .ok (.iload_n 1, 1) := by decide +kernel
theorem dX10_letter_35 : decode cX10_letter 35 = .ok (.i2b, 1) := by decide +kernel
theorem dX10_letter_36 : decode cX10_letter 36 = .ok (.bastore, 1) := by decide +kernel
theorem dX10_letter_37 : decode cX10_letter 37 = .ok (.aload_n 0, 1) := by decide +kernel
theorem dX10_letter_38 : decode cX10_letter 38 = .ok (.dup, 1) := by decide +kernel
theorem dX10_letter_39 : decode cX10_letter 39 = .ok (.getfield 73, 3) := by decide +kernel
theorem dX10_letter_42 : decode cX10_letter 42 = .ok (.iconst 1, 1) := by decide +kernel
theorem dX10_letter_43 : decode cX10_letter 43 = .ok (.iadd, 1) := by decide +kernel
theorem dX10_letter_44 : decode cX10_letter 44 = .ok (.putfield 73, 3) := by decide +kernel
theorem dX10_letter_47 : decode cX10_letter 47 = .ok (.aload_n 0, 1) := by decide +kernel
theorem dX10_letter_48 : decode cX10_letter 48 = .ok (.getfield 73, 3) := by decide +kernel
theorem dX10_letter_51 : decode cX10_letter 51 = .ok (.ireturn, 1) := by decide +kernel
theorem dX10_blank_0 : decode cX10_blank 0 = .ok (.aload_n 0, 1) := by decide +kernel
theorem dX10_blank_1 : decode cX10_blank 1 = .ok (.getfield 73, 3) := by decide +kernel
theorem dX10_blank_4 : decode cX10_blank 4 = .ok (.istore_n 1, 1) := by decide +kernel
theorem dX10_blank_5 : decode cX10_blank 5 = .ok (.aload_n 0, 1) := by decide +kernel
theorem dX10_blank_6 : decode cX10_blank 6 = .ok (.iconst 0, 1) := by decide +kernel
theorem dX10_blank_7 : decode cX10_blank 7 = .ok (.putfield 73, 3) := by decide +kernel
theorem dX10_blank_10 : decode cX10_blank 10 = .ok (.iload_n 1, 1) := by decide +kernel
theorem dX10_blank_11 : decode cX10_blank 11 = .ok (.ireturn, 1) := by decide +kernel
theorem dX10_isGood_0 : decode cX10_isGood 0 = .ok (.iload_n 1, 1) := by decide +kernel
theorem dX10_isGood_1 : decode cX10_isGood 1 = .ok (.iconst 1, 1) := by decide +kernel
theorem dX10_isGood_2 : decode cX10_isGood 2 = .ok (.if_icmp .ne 33, 3) := by decide +kernel
theorem dX10_isGood_5 : decode cX10_isGood 5 = .ok (.aload_n 0, 1) := by decide +kernel
theorem dX10_isGood_6 : decode cX10_isGood 6 = .ok (.getfield 41, 3) := by decide +kernel
theorem dX10_isGood_9 : decode cX10_isGood 9 = .ok (.iconst 1, 1) := by decide +kernel
theorem dX10_isGood_10 : decode cX10_isGood 10 = .ok (.baload, 1) := by decide +kernel
theorem dX10_isGood_11 : decode cX10_isGood 11 = .ok (.bipush 117, 2) := by decide +kernel
theorem dX10_isGood_13 : decode cX10_isGood 13 = .ok (.if_icmp .eq 14, 3) := by decide +kernel
theorem dX10_isGood_16 : decode cX10_isGood 16 = .ok (.aload_n 0, 1) := by decide +kernel
theorem dX10_isGood_17 : decode cX10_isGood 17 = .ok (.getfield 41, 3) := by decide +kernel
theorem dX10_isGood_20 : decode cX10_isGood 20 = .ok (.iconst 1, 1) := by decide +kernel
theorem dX10_isGood_21 : decode cX10_isGood 21 = .ok (.baload, 1) := by decide +kernel
theorem dX10_isGood_22 : decode cX10_isGood 22 = .ok (.bipush 100, 2) := by decide +kernel
theorem dX10_isGood_24 : decode cX10_isGood 24 = .ok (.if_icmp .ne 7, 3) := by decide +kernel
theorem dX10_isGood_27 : decode cX10_isGood 27 = .ok (.iconst 1, 1) := by decide +kernel
theorem dX10_isGood_28 : decode cX10_isGood 28 = .ok (.goto 35, 3) := by decide +kernel
theorem dX10_isGood_31 : decode cX10_isGood 31 = .ok (.iconst 0, 1) := by decide +kernel
theorem dX10_isGood_32 : decode cX10_isGood 32 = .ok (.goto 31, 3) := by decide +kernel
theorem dX10_isGood_35 : decode cX10_isGood 35 = .ok (.iload_n 1, 1) := by decide +kernel
theorem dX10_isGood_36 : decode cX10_isGood 36 = .ok (.iconst 4, 1) := by decide +kernel
theorem dX10_isGood_37 : decode cX10_isGood 37 = .ok (.if_icmp .ge 25, 3) := by decide +kernel
theorem dX10_isGood_40 : decode cX10_isGood 40 = .ok (.aload_n 0, 1) := by decide +kernel
theorem dX10_isGood_41 : decode cX10_isGood 41 = .ok (.getfield 41, 3) := by decide +kernel
theorem dX10_isGood_44 : decode cX10_isGood 44 = .ok (.iload_n 1, 1) := by decide +kernel
theorem dX10_isGood_45 : decode cX10_isGood 45 = .ok (.baload, 1) := by decide +kernel
theorem dX10_isGood_46 : decode cX10_isGood 46 = .ok (.bipush 48, 2) := by decide +kernel
theorem dX10_isGood_48 : decode cX10_isGood 48 = .ok (.isub, 1) := by decide +kernel
theorem dX10_isGood_49 : decode cX10_isGood 49 = .ok (.iconst 0, 1) := by decide +kernel
theorem dX10_isGood_50 : decode cX10_isGood 50 = .ok (.bipush 9, 2) := by decide +kernel
theorem dX10_isGood_52 : decode cX10_isGood 52 = .ok (.invokestatic 69, 3) := by decide +kernel
theorem dX10_isGood_55 : decode cX10_isGood 55 = .ok (.ifCond .eq 7, 3) := by decide +kernel
theorem dX10_isGood_58 : decode cX10_isGood 58 = .ok (.iconst 1, 1) := by decide +kernel
theorem dX10_isGood_59 : decode cX10_isGood 59 = .ok (.goto 4, 3) := by decide +kernel
theorem dX10_isGood_62 : decode cX10_isGood 62 = .ok (.iconst 0, 1) := by decide +kernel
theorem dX10_isGood_63 : decode cX10_isGood 63 = .ok (.ireturn, 1) := by decide +kernel
theorem dX10_faultNow_0 : decode cX10_faultNow 0 = .ok (.iconst 0, 1) := by decide +kernel
theorem dX10_faultNow_1 : decode cX10_faultNow 1 = .ok (.istore_n 1, 1) := by decide +kernel
theorem dX10_faultNow_2 : decode cX10_faultNow 2 = .ok (.iload_n 1, 1) := by decide +kernel
theorem dX10_faultNow_3 : decode cX10_faultNow 3 = .ok (.aload_n 0, 1) := by decide +kernel
theorem dX10_faultNow_4 : decode cX10_faultNow 4 = .ok (.getfield 73, 3) := by decide +kernel
theorem dX10_faultNow_7 : decode cX10_faultNow 7 = .ok (.if_icmp .ge 17, 3) := by decide +kernel
theorem dX10_faultNow_10 : decode cX10_faultNow 10 = .ok (.aload_n 0, 1) := by decide +kernel
theorem dX10_faultNow_11 : decode cX10_faultNow 11 = .ok (.iload_n 1, 1) := by decide +kernel
theorem dX10_faultNow_12 : decode cX10_faultNow 12 = .ok (.invokevirtual 76, 3) := by decide +kernel
theorem dX10_faultNow_15 : decode cX10_faultNow 15 = .ok (.ifCond .eq 9, 3) := by decide +kernel
theorem dX10_faultNow_18 : decode cX10_faultNow 18 = .ok (.iinc 1 1, 3) := by decide +kernel
theorem dX10_faultNow_21 : decode cX10_faultNow 21 = .ok (.goto (-19), 3) := by decide +kernel
theorem dX10_faultNow_24 : decode cX10_faultNow 24 = .ok (.iload_n 1, 1) := by decide +kernel
theorem dX10_faultNow_25 : decode cX10_faultNow 25 = .ok (.ireturn, 1) := by decide +kernel
theorem dX10_fault_0 : decode cX10_fault 0 = .ok (.aload_n 0, 1) := by decide +kernel
theorem dX10_fault_1 : decode cX10_fault 1 = .ok (.invokevirtual 80, 3) := by decide +kernel
theorem dX10_fault_4 : decode cX10_fault 4 = .ok (.ireturn, 1) := by decide +kernel
theorem dX10_law_0 : decode cX10_law 0 = .ok (.aload_n 0, 1) := by decide +kernel
theorem dX10_law_1 : decode cX10_law 1 = .ok (.invokevirtual 80, 3) := by decide +kernel
theorem dX10_law_4 : decode cX10_law 4 = .ok (.aload_n 0, 1) := by decide +kernel
theorem dX10_law_5 : decode cX10_law 5 = .ok (.getfield 73, 3) := by decide +kernel
theorem dX10_law_8 : decode cX10_law 8 = .ok (.if_icmp .ne 11, 3) := by decide +kernel
theorem dX10_law_11 : decode cX10_law 11 = .ok (.aload_n 0, 1) := by decide +kernel
theorem dX10_law_12 : decode cX10_law 12 = .ok (.getfield 73, 3) := by decide +kernel
theorem dX10_law_15 : decode cX10_law 15 = .ok (.iconst 4, 1) := by decide +kernel
theorem dX10_law_16 : decode cX10_law 16 = .ok (.if_icmp .eq 6, 3) := by decide +kernel
theorem dX10_law_19 : decode cX10_law 19 = .ok (.bipush (-103), 2) := by decide +kernel
theorem dX10_law_21 : decode cX10_law 21 = .ok (.ireturn, 1) := by decide +kernel
theorem dX10_law_22 : decode cX10_law 22 = .ok (.aload_n 0, 1) := by decide +kernel
theorem dX10_law_23 : decode cX10_law 23 = .ok (.aload_n 0, 1) := by decide +kernel
theorem dX10_law_24 : decode cX10_law 24 = .ok (.getfield 41, 3) := by decide +kernel
theorem dX10_law_27 : decode cX10_law 27 = .ok (.iconst 0, 1) := by decide +kernel
theorem dX10_law_28 : decode cX10_law 28 = .ok (.baload, 1) := by decide +kernel
theorem dX10_law_29 : decode cX10_law 29 = .ok (.bipush 48, 2) := by decide +kernel
theorem dX10_law_31 : decode cX10_law 31 = .ok (.isub, 1) := by decide +kernel
theorem dX10_law_32 : decode cX10_law 32 = .ok (.putfield 7, 3) := by decide +kernel
theorem dX10_law_35 : decode cX10_law 35 = .ok (.aload_n 0, 1) := by decide +kernel
theorem dX10_law_36 : decode cX10_law 36 = .ok (.aload_n 0, 1) := by decide +kernel
theorem dX10_law_37 : decode cX10_law 37 = .ok (.getfield 41, 3) := by decide +kernel
theorem dX10_law_40 : decode cX10_law 40 = .ok (.iconst 1, 1) := by decide +kernel
theorem dX10_law_41 : decode cX10_law 41 = .ok (.baload, 1) := by decide +kernel
theorem dX10_law_42 : decode cX10_law 42 = .ok (.bipush 117, 2) := by decide +kernel
theorem dX10_law_44 : decode cX10_law 44 = .ok (.if_icmp .ne 7, 3) := by decide +kernel
theorem dX10_law_47 : decode cX10_law 47 = .ok (.iconst 1, 1) := by decide +kernel
theorem dX10_law_48 : decode cX10_law 48 = .ok (.goto 4, 3) := by decide +kernel
theorem dX10_law_51 : decode cX10_law 51 = .ok (.iconst 0, 1) := by decide +kernel
theorem dX10_law_52 : decode cX10_law 52 = .ok (.putfield 13, 3) := by decide +kernel
theorem dX10_law_55 : decode cX10_law 55 = .ok (.aload_n 0, 1) := by decide +kernel
theorem dX10_law_56 : decode cX10_law 56 = .ok (.aload_n 0, 1) := by decide +kernel
theorem dX10_law_57 : decode cX10_law 57 = .ok (.getfield 41, 3) := by decide +kernel
theorem dX10_law_60 : decode cX10_law 60 = .ok (.iconst 2, 1) := by decide +kernel
theorem dX10_law_61 : decode cX10_law 61 = .ok (.baload, 1) := by decide +kernel
theorem dX10_law_62 : decode cX10_law 62 = .ok (.bipush 48, 2) := by decide +kernel
theorem dX10_law_64 : decode cX10_law 64 = .ok (.isub, 1) := by decide +kernel
theorem dX10_law_65 : decode cX10_law 65 = .ok (.putfield 84, 3) := by decide +kernel
theorem dX10_law_68 : decode cX10_law 68 = .ok (.aload_n 0, 1) := by decide +kernel
theorem dX10_law_69 : decode cX10_law 69 = .ok (.aload_n 0, 1) := by decide +kernel
theorem dX10_law_70 : decode cX10_law 70 = .ok (.getfield 41, 3) := by decide +kernel
theorem dX10_law_73 : decode cX10_law 73 = .ok (.iconst 3, 1) := by decide +kernel
theorem dX10_law_74 : decode cX10_law 74 = .ok (.baload, 1) := by decide +kernel
theorem dX10_law_75 : decode cX10_law 75 = .ok (.bipush 48, 2) := by decide +kernel
theorem dX10_law_77 : decode cX10_law 77 = .ok (.isub, 1) := by decide +kernel
theorem dX10_law_78 : decode cX10_law 78 = .ok (.putfield 87, 3) := by decide +kernel
theorem dX10_law_81 : decode cX10_law 81 = .ok (.aload_n 0, 1) := by decide +kernel
theorem dX10_law_82 : decode cX10_law 82 = .ok (.dup, 1) := by decide +kernel
theorem dX10_law_83 : decode cX10_law 83 = .ok (.getfield 90, 3) := by decide +kernel
theorem dX10_law_86 : decode cX10_law 86 = .ok (.iconst 1, 1) := by decide +kernel
theorem dX10_law_87 : decode cX10_law 87 = .ok (.iadd, 1) := by decide +kernel
theorem dX10_law_88 : decode cX10_law 88 = .ok (.putfield 90, 3) := by decide +kernel
theorem dX10_law_91 : decode cX10_law 91 = .ok (.aload_n 0, 1) := by decide +kernel
theorem dX10_law_92 : decode cX10_law 92 = .ok (.iconst 0, 1) := by decide +kernel
theorem dX10_law_93 : decode cX10_law 93 = .ok (.putfield 73, 3) := by decide +kernel
theorem dX10_law_96 : decode cX10_law 96 = .ok (.aload_n 0, 1) := by decide +kernel
theorem dX10_law_97 : decode cX10_law 97 = .ok (.getfield 90, 3) := by decide +kernel
theorem dX10_law_100 : decode cX10_law 100 = .ok (.ireturn, 1) := by decide +kernel
theorem dX10_isPerson_0 : decode cX10_isPerson 0 = .ok (.iload_n 1, 1) := by decide +kernel
theorem dX10_isPerson_1 : decode cX10_isPerson 1 = .ok (.iconst 0, 1) := by decide +kernel
theorem dX10_isPerson_2 : decode cX10_isPerson 2 = .ok (.aload_n 0, 1) := by decide +kernel
theorem dX10_isPerson_3 : decode cX10_isPerson 3 = .ok (.getfield 93, 3) := by decide +kernel
theorem dX10_isPerson_6 : decode cX10_isPerson 6 = .ok (.iconst 1, 1) := by decide +kernel
theorem dX10_isPerson_7 : decode cX10_isPerson 7 = .ok (.isub, 1) := by decide +kernel
theorem dX10_isPerson_8 : decode cX10_isPerson 8 = .ok (.invokestatic 69, 3) := by decide +kernel
theorem dX10_isPerson_11 : decode cX10_isPerson 11 = .ok (.ireturn, 1) := by decide +kernel
theorem dX10_areTwo_0 : decode cX10_areTwo 0 = .ok (.aload_n 0, 1) := by decide +kernel
theorem dX10_areTwo_1 : decode cX10_areTwo 1 = .ok (.iload_n 1, 1) := by decide +kernel
theorem dX10_areTwo_2 : decode cX10_areTwo 2 = .ok (.invokevirtual 96, 3) := by decide +kernel
theorem dX10_areTwo_5 : decode cX10_areTwo 5 = .ok (.ifCond .eq 20, 3) := by decide +kernel
theorem dX10_areTwo_8 : decode cX10_areTwo 8 = .ok (.aload_n 0, 1) := by decide +kernel
theorem dX10_areTwo_9 : decode cX10_areTwo 9 = .ok (.iload_n 2, 1) := by decide +kernel
theorem dX10_areTwo_10 : decode cX10_areTwo 10 = .ok (.invokevirtual 96, 3) := by decide +kernel
theorem dX10_areTwo_13 : decode cX10_areTwo 13 = .ok (.ifCond .eq 12, 3) := by decide +kernel
theorem dX10_areTwo_16 : decode cX10_areTwo 16 = .ok (.iload_n 1, 1) := by decide +kernel
theorem dX10_areTwo_17 : decode cX10_areTwo 17 = .ok (.iload_n 2, 1) := by decide +kernel
theorem dX10_areTwo_18 : decode cX10_areTwo 18 = .ok (.if_icmp .eq 7, 3) := by decide +kernel
theorem dX10_areTwo_21 : decode cX10_areTwo 21 = .ok (.iconst 1, 1) := by decide +kernel
theorem dX10_areTwo_22 : decode cX10_areTwo 22 = .ok (.goto 4, 3) := by decide +kernel
theorem dX10_areTwo_25 : decode cX10_areTwo 25 = .ok (.iconst 0, 1) := by decide +kernel
theorem dX10_areTwo_26 : decode cX10_areTwo 26 = .ok (.ireturn, 1) := by decide +kernel
theorem dX10_person_0 : decode cX10_person 0 = .ok (.iload_n 1, 1) := by decide +kernel
theorem dX10_person_1 : decode cX10_person 1 = .ok (.iconst 0, 1) := by decide +kernel
theorem dX10_person_2 : decode cX10_person 2 = .ok (.iconst 4, 1) := by decide +kernel
theorem dX10_person_3 : decode cX10_person 3 = .ok (.invokestatic 69, 3) := by decide +kernel
theorem dX10_person_6 : decode cX10_person 6 = .ok (.ifCond .eq 13, 3) := by decide +kernel
theorem dX10_person_9 : decode cX10_person 9 = .ok (.iload_n 2, 1) := by decide +kernel
theorem dX10_person_10 : decode cX10_person 10 = .ok (.iconst 0, 1) := by decide +kernel
theorem dX10_person_11 : decode cX10_person 11 = .ok (.bipush 99, 2) := by decide +kernel
theorem dX10_person_13 : decode cX10_person 13 = .ok (.invokestatic 69, 3) := by decide +kernel
theorem dX10_person_16 : decode cX10_person 16 = .ok (.ifCond .ne 6, 3) := by decide +kernel
theorem dX10_person_19 : decode cX10_person 19 = .ok (.bipush (-102), 2) := by decide +kernel
theorem dX10_person_21 : decode cX10_person 21 = .ok (.ireturn, 1) := by decide +kernel
theorem dX10_person_22 : decode cX10_person 22 = .ok (.aload_n 0, 1) := by decide +kernel
theorem dX10_person_23 : decode cX10_person 23 = .ok (.getfield 93, 3) := by decide +kernel
theorem dX10_person_26 : decode cX10_person 26 = .ok (.iconst 5, 1) := by decide +kernel
theorem dX10_person_27 : decode cX10_person 27 = .ok (.if_icmp .ne 6, 3) := by decide +kernel
theorem dX10_person_30 : decode cX10_person 30 = .ok (.bipush (-104), 2) := by decide +kernel
theorem dX10_person_32 : decode cX10_person 32 = .ok (.ireturn, 1) := by decide +kernel
theorem dX10_person_33 : decode cX10_person 33 = .ok (.aload_n 0, 1) := by decide +kernel
theorem dX10_person_34 : decode cX10_person 34 = .ok (.getfield 16, 3) := by decide +kernel
theorem dX10_person_37 : decode cX10_person 37 = .ok (.aload_n 0, 1) := by decide +kernel
theorem dX10_person_38 : decode cX10_person 38 = .ok (.getfield 93, 3) := by decide +kernel
theorem dX10_person_41 : decode cX10_person 41 = .ok (.iload_n 1, 1) := by decide +kernel
theorem dX10_person_42 : decode cX10_person 42 = .ok (.iastore, 1) := by decide +kernel
theorem dX10_person_43 : decode cX10_person 43 = .ok (.aload_n 0, 1) := by decide +kernel
theorem dX10_person_44 : decode cX10_person 44 = .ok (.getfield 20, 3) := by decide +kernel
theorem dX10_person_47 : decode cX10_person 47 = .ok (.aload_n 0, 1) := by decide +kernel
theorem dX10_person_48 : decode cX10_person 48 = .ok (.getfield 93, 3) := by decide +kernel
theorem dX10_person_51 : decode cX10_person 51 = .ok (.iload_n 2, 1) := by decide +kernel
theorem dX10_person_52 : decode cX10_person 52 = .ok (.iastore, 1) := by decide +kernel
theorem dX10_person_53 : decode cX10_person 53 = .ok (.iconst 0, 1) := by decide +kernel
theorem dX10_person_54 : decode cX10_person 54 = .ok (.istore_n 3, 1) := by decide +kernel
theorem dX10_person_55 : decode cX10_person 55 = .ok (.iload_n 3, 1) := by decide +kernel
theorem dX10_person_56 : decode cX10_person 56 = .ok (.iconst 5, 1) := by decide +kernel
theorem dX10_person_57 : decode cX10_person 57 = .ok (.if_icmp .ge 33, 3) := by decide +kernel
theorem dX10_person_60 : decode cX10_person 60 = .ok (.aload_n 0, 1) := by decide +kernel
theorem dX10_person_61 : decode cX10_person 61 = .ok (.iconst 5, 1) := by decide +kernel
theorem dX10_person_62 : decode cX10_person 62 = .ok (.aload_n 0, 1) := by decide +kernel
theorem dX10_person_63 : decode cX10_person 63 = .ok (.getfield 93, 3) := by decide +kernel
theorem dX10_person_66 : decode cX10_person 66 = .ok (.imul, 1) := by decide +kernel
theorem dX10_person_67 : decode cX10_person 67 = .ok (.iload_n 3, 1) := by decide +kernel
theorem dX10_person_68 : decode cX10_person 68 = .ok (.iadd, 1) := by decide +kernel
theorem dX10_person_69 : decode cX10_person 69 = .ok (.invokevirtual 99, 3) := by decide +kernel
theorem dX10_person_72 : decode cX10_person 72 = .ok (.aload_n 0, 1) := by decide +kernel
theorem dX10_person_73 : decode cX10_person 73 = .ok (.iconst 5, 1) := by decide +kernel
theorem dX10_person_74 : decode cX10_person 74 = .ok (.iload_n 3, 1) := by decide +kernel
theorem dX10_person_75 : decode cX10_person 75 = .ok (.imul, 1) := by decide +kernel
theorem dX10_person_76 : decode cX10_person 76 = .ok (.aload_n 0, 1) := by decide +kernel
theorem dX10_person_77 : decode cX10_person 77 = .ok (.getfield 93, 3) := by decide +kernel
theorem dX10_person_80 : decode cX10_person 80 = .ok (.iadd, 1) := by decide +kernel
theorem dX10_person_81 : decode cX10_person 81 = .ok (.invokevirtual 99, 3) := by decide +kernel
theorem dX10_person_84 : decode cX10_person 84 = .ok (.iinc 3 1, 3) := by decide +kernel
theorem dX10_person_87 : decode cX10_person 87 = .ok (.goto (-32), 3) := by decide +kernel
theorem dX10_person_90 : decode cX10_person 90 = .ok (.aload_n 0, 1) := by decide +kernel
theorem dX10_person_91 : decode cX10_person 91 = .ok (.dup, 1) := by decide +kernel
theorem dX10_person_92 : decode cX10_person 92 = .ok (.getfield 93, 3) := by decide +kernel
theorem dX10_person_95 : decode cX10_person 95 = .ok (.iconst 1, 1) := by decide +kernel
theorem dX10_person_96 : decode cX10_person 96 = .ok (.iadd, 1) := by decide +kernel
theorem dX10_person_97 : decode cX10_person 97 = .ok (.putfield 93, 3) := by decide +kernel
theorem dX10_person_100 : decode cX10_person 100 = .ok (.aload_n 0, 1) := by decide +kernel
theorem dX10_person_101 : decode cX10_person 101 = .ok (.getfield 93, 3) := by decide +kernel
theorem dX10_person_104 : decode cX10_person 104 = .ok (.iconst 1, 1) := by decide +kernel
theorem dX10_person_105 : decode cX10_person 105 = .ok (.isub, 1) := by decide +kernel
theorem dX10_person_106 : decode cX10_person 106 = .ok (.ireturn, 1) := by decide +kernel
theorem dX10_clearPair_0 : decode cX10_clearPair 0 = .ok (.aload_n 0, 1) := by decide +kernel
theorem dX10_clearPair_1 : decode cX10_clearPair 1 = .ok (.getfield 23, 3) := by decide +kernel
theorem dX10_clearPair_4 : decode cX10_clearPair 4 = .ok (.iload_n 1, 1) := by decide +kernel
theorem dX10_clearPair_5 : decode cX10_clearPair 5 = .ok (.iconst 0, 1) := by decide +kernel
theorem dX10_clearPair_6 : decode cX10_clearPair 6 = .ok (.iastore, 1) := by decide +kernel
theorem dX10_clearPair_7 : decode cX10_clearPair 7 = .ok (.aload_n 0, 1) := by decide +kernel
theorem dX10_clearPair_8 : decode cX10_clearPair 8 = .ok (.getfield 26, 3) := by decide +kernel
theorem dX10_clearPair_11 : decode cX10_clearPair 11 = .ok (.iload_n 1, 1) := by decide +kernel
theorem dX10_clearPair_12 : decode cX10_clearPair 12 = .ok (.iconst 0, 1) := by decide +kernel
theorem dX10_clearPair_13 : decode cX10_clearPair 13 = .ok (.iastore, 1) := by decide +kernel
theorem dX10_clearPair_14 : decode cX10_clearPair 14 = .ok (.aload_n 0, 1) := by decide +kernel
theorem dX10_clearPair_15 : decode cX10_clearPair 15 = .ok (.getfield 29, 3) := by decide +kernel
theorem dX10_clearPair_18 : decode cX10_clearPair 18 = .ok (.iload_n 1, 1) := by decide +kernel
theorem dX10_clearPair_19 : decode cX10_clearPair 19 = .ok (.iconst 0, 1) := by decide +kernel
theorem dX10_clearPair_20 : decode cX10_clearPair 20 = .ok (.iastore, 1) := by decide +kernel
theorem dX10_clearPair_21 : decode cX10_clearPair 21 = .ok (.return_, 1) := by decide +kernel
theorem dX10_owesAll_0 : decode cX10_owesAll 0 = .ok (.iconst 0, 1) := by decide +kernel
theorem dX10_owesAll_1 : decode cX10_owesAll 1 = .ok (.istore_n 3, 1) := by decide +kernel
theorem dX10_owesAll_2 : decode cX10_owesAll 2 = .ok (.iconst 0, 1) := by decide +kernel
theorem dX10_owesAll_3 : decode cX10_owesAll 3 = .ok (.istore 4, 2) := by decide +kernel
theorem dX10_owesAll_5 : decode cX10_owesAll 5 = .ok (.iload 4, 2) := by decide +kernel
theorem dX10_owesAll_7 : decode cX10_owesAll 7 = .ok (.aload_n 0, 1) := by decide +kernel
theorem dX10_owesAll_8 : decode cX10_owesAll 8 = .ok (.getfield 93, 3) := by decide +kernel
theorem dX10_owesAll_11 : decode cX10_owesAll 11 = .ok (.if_icmp .ge 25, 3) := by decide +kernel
theorem dX10_owesAll_14 : decode cX10_owesAll 14 = .ok (.iload_n 3, 1) := by decide +kernel
theorem dX10_owesAll_15 : decode cX10_owesAll 15 = .ok (.aload_n 0, 1) := by decide +kernel
theorem dX10_owesAll_16 : decode cX10_owesAll 16 = .ok (.getfield 23, 3) := by decide +kernel
theorem dX10_owesAll_19 : decode cX10_owesAll 19 = .ok (.iload_n 1, 1) := by decide +kernel
theorem dX10_owesAll_20 : decode cX10_owesAll 20 = .ok (.iconst 5, 1) := by decide +kernel
theorem dX10_owesAll_21 : decode cX10_owesAll 21 = .ok (.iload_n 2, 1) := by decide +kernel
theorem dX10_owesAll_22 : decode cX10_owesAll 22 = .ok (.imul, 1) := by decide +kernel
theorem dX10_owesAll_23 : decode cX10_owesAll 23 = .ok (.iadd, 1) := by decide +kernel
theorem dX10_owesAll_24 : decode cX10_owesAll 24 = .ok (.iload 4, 2) := by decide +kernel
theorem dX10_owesAll_26 : decode cX10_owesAll 26 = .ok (.iadd, 1) := by decide +kernel
theorem dX10_owesAll_27 : decode cX10_owesAll 27 = .ok (.iaload, 1) := by decide +kernel
theorem dX10_owesAll_28 : decode cX10_owesAll 28 = .ok (.iadd, 1) := by decide +kernel
theorem dX10_owesAll_29 : decode cX10_owesAll 29 = .ok (.istore_n 3, 1) := by decide +kernel
theorem dX10_owesAll_30 : decode cX10_owesAll 30 = .ok (.iinc 4 1, 3) := by decide +kernel
theorem dX10_owesAll_33 : decode cX10_owesAll 33 = .ok (.goto (-28), 3) := by decide +kernel
theorem dX10_owesAll_36 : decode cX10_owesAll 36 = .ok (.iload_n 3, 1) := by decide +kernel
theorem dX10_owesAll_37 : decode cX10_owesAll 37 = .ok (.ireturn, 1) := by decide +kernel
theorem dX10_owedBy_0 : decode cX10_owedBy 0 = .ok (.iconst 0, 1) := by decide +kernel
theorem dX10_owedBy_1 : decode cX10_owedBy 1 = .ok (.istore_n 3, 1) := by decide +kernel
theorem dX10_owedBy_2 : decode cX10_owedBy 2 = .ok (.iconst 0, 1) := by decide +kernel
theorem dX10_owedBy_3 : decode cX10_owedBy 3 = .ok (.istore 4, 2) := by decide +kernel
theorem dX10_owedBy_5 : decode cX10_owedBy 5 = .ok (.iload 4, 2) := by decide +kernel
theorem dX10_owedBy_7 : decode cX10_owedBy 7 = .ok (.aload_n 0, 1) := by decide +kernel
theorem dX10_owedBy_8 : decode cX10_owedBy 8 = .ok (.getfield 93, 3) := by decide +kernel
theorem dX10_owedBy_11 : decode cX10_owedBy 11 = .ok (.if_icmp .ge 25, 3) := by decide +kernel
theorem dX10_owedBy_14 : decode cX10_owedBy 14 = .ok (.iload_n 3, 1) := by decide +kernel
theorem dX10_owedBy_15 : decode cX10_owedBy 15 = .ok (.aload_n 0, 1) := by decide +kernel
theorem dX10_owedBy_16 : decode cX10_owedBy 16 = .ok (.getfield 23, 3) := by decide +kernel
theorem dX10_owedBy_19 : decode cX10_owedBy 19 = .ok (.iload_n 1, 1) := by decide +kernel
theorem dX10_owedBy_20 : decode cX10_owedBy 20 = .ok (.iconst 5, 1) := by decide +kernel
theorem dX10_owedBy_21 : decode cX10_owedBy 21 = .ok (.iload 4, 2) := by decide +kernel
theorem dX10_owedBy_23 : decode cX10_owedBy 23 = .ok (.imul, 1) := by decide +kernel
theorem dX10_owedBy_24 : decode cX10_owedBy 24 = .ok (.iadd, 1) := by decide +kernel
theorem dX10_owedBy_25 : decode cX10_owedBy 25 = .ok (.iload_n 2, 1) := by decide +kernel
theorem dX10_owedBy_26 : decode cX10_owedBy 26 = .ok (.iadd, 1) := by decide +kernel
theorem dX10_owedBy_27 : decode cX10_owedBy 27 = .ok (.iaload, 1) := by decide +kernel
theorem dX10_owedBy_28 : decode cX10_owedBy 28 = .ok (.iadd, 1) := by decide +kernel
theorem dX10_owedBy_29 : decode cX10_owedBy 29 = .ok (.istore_n 3, 1) := by decide +kernel
theorem dX10_owedBy_30 : decode cX10_owedBy 30 = .ok (.iinc 4 1, 3) := by decide +kernel
theorem dX10_owedBy_33 : decode cX10_owedBy 33 = .ok (.goto (-28), 3) := by decide +kernel
theorem dX10_owedBy_36 : decode cX10_owedBy 36 = .ok (.iload_n 3, 1) := by decide +kernel
theorem dX10_owedBy_37 : decode cX10_owedBy 37 = .ok (.ireturn, 1) := by decide +kernel
theorem dX10_net_0 : decode cX10_net 0 = .ok (.aload_n 0, 1) := by decide +kernel
theorem dX10_net_1 : decode cX10_net 1 = .ok (.getfield 20, 3) := by decide +kernel
theorem dX10_net_4 : decode cX10_net 4 = .ok (.iconst 5, 1) := by decide +kernel
theorem dX10_net_5 : decode cX10_net 5 = .ok (.iload_n 1, 1) := by decide +kernel
theorem dX10_net_6 : decode cX10_net 6 = .ok (.imul, 1) := by decide +kernel
theorem dX10_net_7 : decode cX10_net 7 = .ok (.iload_n 2, 1) := by decide +kernel
theorem dX10_net_8 : decode cX10_net 8 = .ok (.iadd, 1) := by decide +kernel
theorem dX10_net_9 : decode cX10_net 9 = .ok (.iaload, 1) := by decide +kernel
theorem dX10_net_10 : decode cX10_net 10 = .ok (.aload_n 0, 1) := by decide +kernel
theorem dX10_net_11 : decode cX10_net 11 = .ok (.bipush 25, 2) := by decide +kernel
theorem dX10_net_13 : decode cX10_net 13 = .ok (.iload_n 1, 1) := by decide +kernel
theorem dX10_net_14 : decode cX10_net 14 = .ok (.imul, 1) := by decide +kernel
theorem dX10_net_15 : decode cX10_net 15 = .ok (.iload_n 2, 1) := by decide +kernel
theorem dX10_net_16 : decode cX10_net 16 = .ok (.invokevirtual 103, 3) := by decide +kernel
theorem dX10_net_19 : decode cX10_net 19 = .ok (.iadd, 1) := by decide +kernel
theorem dX10_net_20 : decode cX10_net 20 = .ok (.aload_n 0, 1) := by decide +kernel
theorem dX10_net_21 : decode cX10_net 21 = .ok (.bipush 25, 2) := by decide +kernel
theorem dX10_net_23 : decode cX10_net 23 = .ok (.iload_n 1, 1) := by decide +kernel
theorem dX10_net_24 : decode cX10_net 24 = .ok (.imul, 1) := by decide +kernel
theorem dX10_net_25 : decode cX10_net 25 = .ok (.iload_n 2, 1) := by decide +kernel
theorem dX10_net_26 : decode cX10_net 26 = .ok (.invokevirtual 107, 3) := by decide +kernel
theorem dX10_net_29 : decode cX10_net 29 = .ok (.isub, 1) := by decide +kernel
theorem dX10_net_30 : decode cX10_net 30 = .ok (.ireturn, 1) := by decide +kernel
theorem dX10_personNow_0 : decode cX10_personNow 0 = .ok (.iload_n 2, 1) := by decide +kernel
theorem dX10_personNow_1 : decode cX10_personNow 1 = .ok (.tableswitch 70 0 4 #[35, 42, 49, 56, 63], 35) := by decide +kernel
theorem dX10_personNow_36 : decode cX10_personNow 36 = .ok (.aload_n 0, 1) := by decide +kernel
theorem dX10_personNow_37 : decode cX10_personNow 37 = .ok (.getfield 16, 3) := by decide +kernel
theorem dX10_personNow_40 : decode cX10_personNow 40 = .ok (.iload_n 1, 1) := by decide +kernel
theorem dX10_personNow_41 : decode cX10_personNow 41 = .ok (.iaload, 1) := by decide +kernel
theorem dX10_personNow_42 : decode cX10_personNow 42 = .ok (.ireturn, 1) := by decide +kernel
theorem dX10_personNow_43 : decode cX10_personNow 43 = .ok (.aload_n 0, 1) := by decide +kernel
theorem dX10_personNow_44 : decode cX10_personNow 44 = .ok (.getfield 20, 3) := by decide +kernel
theorem dX10_personNow_47 : decode cX10_personNow 47 = .ok (.iload_n 1, 1) := by decide +kernel
theorem dX10_personNow_48 : decode cX10_personNow 48 = .ok (.iaload, 1) := by decide +kernel
theorem dX10_personNow_49 : decode cX10_personNow 49 = .ok (.ireturn, 1) := by decide +kernel
theorem dX10_personNow_50 : decode cX10_personNow 50 = .ok (.aload_n 0, 1) := by decide +kernel
theorem dX10_personNow_51 : decode cX10_personNow 51 = .ok (.iconst 0, 1) := by decide +kernel
theorem dX10_personNow_52 : decode cX10_personNow 52 = .ok (.iload_n 1, 1) := by decide +kernel
theorem dX10_personNow_53 : decode cX10_personNow 53 = .ok (.invokevirtual 107, 3) := by decide +kernel
theorem dX10_personNow_56 : decode cX10_personNow 56 = .ok (.ireturn, 1) := by decide +kernel
theorem dX10_personNow_57 : decode cX10_personNow 57 = .ok (.aload_n 0, 1) := by decide +kernel
theorem dX10_personNow_58 : decode cX10_personNow 58 = .ok (.iconst 0, 1) := by decide +kernel
theorem dX10_personNow_59 : decode cX10_personNow 59 = .ok (.iload_n 1, 1) := by decide +kernel
theorem dX10_personNow_60 : decode cX10_personNow 60 = .ok (.invokevirtual 103, 3) := by decide +kernel
theorem dX10_personNow_63 : decode cX10_personNow 63 = .ok (.ireturn, 1) := by decide +kernel
theorem dX10_personNow_64 : decode cX10_personNow 64 = .ok (.aload_n 0, 1) := by decide +kernel
theorem dX10_personNow_65 : decode cX10_personNow 65 = .ok (.iconst 0, 1) := by decide +kernel
theorem dX10_personNow_66 : decode cX10_personNow 66 = .ok (.iload_n 1, 1) := by decide +kernel
theorem dX10_personNow_67 : decode cX10_personNow 67 = .ok (.invokevirtual 110, 3) := by decide +kernel
theorem dX10_personNow_70 : decode cX10_personNow 70 = .ok (.ireturn, 1) := by decide +kernel
theorem dX10_personNow_71 : decode cX10_personNow 71 = .ok (.aload_n 0, 1) := by decide +kernel
theorem dX10_personNow_72 : decode cX10_personNow 72 = .ok (.iconst 0, 1) := by decide +kernel
theorem dX10_personNow_73 : decode cX10_personNow 73 = .ok (.iload_n 1, 1) := by decide +kernel
theorem dX10_personNow_74 : decode cX10_personNow 74 = .ok (.invokevirtual 110, 3) := by decide +kernel
theorem dX10_personNow_77 : decode cX10_personNow 77 = .ok (.ifCond .ge 7, 3) := by decide +kernel
theorem dX10_personNow_80 : decode cX10_personNow 80 = .ok (.iconst 1, 1) := by decide +kernel
theorem dX10_personNow_81 : decode cX10_personNow 81 = .ok (.goto 4, 3) := by decide +kernel
theorem dX10_personNow_84 : decode cX10_personNow 84 = .ok (.iconst 0, 1) := by decide +kernel
theorem dX10_personNow_85 : decode cX10_personNow 85 = .ok (.ireturn, 1) := by decide +kernel
theorem dX10_about_0 : decode cX10_about 0 = .ok (.aload_n 0, 1) := by decide +kernel
theorem dX10_about_1 : decode cX10_about 1 = .ok (.iload_n 1, 1) := by decide +kernel
theorem dX10_about_2 : decode cX10_about 2 = .ok (.invokevirtual 96, 3) := by decide +kernel
theorem dX10_about_5 : decode cX10_about 5 = .ok (.ifCond .ne 8, 3) := by decide +kernel
theorem dX10_about_8 : decode cX10_about 8 = .ok (.bipush (-101), 2) := by decide +kernel
theorem dX10_about_10 : decode cX10_about 10 = .ok (.goto 23, 3) := by decide +kernel
theorem dX10_about_13 : decode cX10_about 13 = .ok (.iload_n 2, 1) := by decide +kernel
theorem dX10_about_14 : decode cX10_about 14 = .ok (.iconst 0, 1) := by decide +kernel
theorem dX10_about_15 : decode cX10_about 15 = .ok (.iconst 5, 1) := by decide +kernel
theorem dX10_about_16 : decode cX10_about 16 = .ok (.invokestatic 69, 3) := by decide +kernel
theorem dX10_about_19 : decode cX10_about 19 = .ok (.ifCond .eq 12, 3) := by decide +kernel
theorem dX10_about_22 : decode cX10_about 22 = .ok (.aload_n 0, 1) := by decide +kernel
theorem dX10_about_23 : decode cX10_about 23 = .ok (.iload_n 1, 1) := by decide +kernel
theorem dX10_about_24 : decode cX10_about 24 = .ok (.iload_n 2, 1) := by decide +kernel
theorem dX10_about_25 : decode cX10_about 25 = .ok (.invokevirtual 113, 3) := by decide +kernel
theorem dX10_about_28 : decode cX10_about 28 = .ok (.goto 5, 3) := by decide +kernel
theorem dX10_about_31 : decode cX10_about 31 = .ok (.bipush (-102), 2) := by decide +kernel
theorem dX10_about_33 : decode cX10_about 33 = .ok (.ireturn, 1) := by decide +kernel
theorem dX10_as_0 : decode cX10_as 0 = .ok (.aload_n 0, 1) := by decide +kernel
theorem dX10_as_1 : decode cX10_as 1 = .ok (.iload_n 1, 1) := by decide +kernel
theorem dX10_as_2 : decode cX10_as 2 = .ok (.invokevirtual 96, 3) := by decide +kernel
theorem dX10_as_5 : decode cX10_as 5 = .ok (.ifCond .ne 6, 3) := by decide +kernel
theorem dX10_as_8 : decode cX10_as 8 = .ok (.bipush (-101), 2) := by decide +kernel
theorem dX10_as_10 : decode cX10_as 10 = .ok (.ireturn, 1) := by decide +kernel
theorem dX10_as_11 : decode cX10_as 11 = .ok (.iload_n 2, 1) := by decide +kernel
theorem dX10_as_12 : decode cX10_as 12 = .ok (.iconst 0, 1) := by decide +kernel
theorem dX10_as_13 : decode cX10_as 13 = .ok (.iconst 4, 1) := by decide +kernel
theorem dX10_as_14 : decode cX10_as 14 = .ok (.invokestatic 69, 3) := by decide +kernel
theorem dX10_as_17 : decode cX10_as 17 = .ok (.ifCond .ne 6, 3) := by decide +kernel
theorem dX10_as_20 : decode cX10_as 20 = .ok (.bipush (-102), 2) := by decide +kernel
theorem dX10_as_22 : decode cX10_as 22 = .ok (.ireturn, 1) := by decide +kernel
theorem dX10_as_23 : decode cX10_as 23 = .ok (.aload_n 0, 1) := by decide +kernel
theorem dX10_as_24 : decode cX10_as 24 = .ok (.getfield 16, 3) := by decide +kernel
theorem dX10_as_27 : decode cX10_as 27 = .ok (.iload_n 1, 1) := by decide +kernel
theorem dX10_as_28 : decode cX10_as 28 = .ok (.iaload, 1) := by decide +kernel
theorem dX10_as_29 : decode cX10_as 29 = .ok (.istore_n 3, 1) := by decide +kernel
theorem dX10_as_30 : decode cX10_as 30 = .ok (.iload_n 2, 1) := by decide +kernel
theorem dX10_as_31 : decode cX10_as 31 = .ok (.ifCond .eq 18, 3) := by decide +kernel
theorem dX10_as_34 : decode cX10_as 34 = .ok (.iload_n 3, 1) := by decide +kernel
theorem dX10_as_35 : decode cX10_as 35 = .ok (.iload_n 2, 1) := by decide +kernel
theorem dX10_as_36 : decode cX10_as 36 = .ok (.if_icmp .eq 13, 3) := by decide +kernel
theorem dX10_as_39 : decode cX10_as 39 = .ok (.iload_n 2, 1) := by decide +kernel
theorem dX10_as_40 : decode cX10_as 40 = .ok (.iconst 3, 1) := by decide +kernel
theorem dX10_as_41 : decode cX10_as 41 = .ok (.if_icmp .ne 12, 3) := by decide +kernel
theorem dX10_as_44 : decode cX10_as 44 = .ok (.iload_n 3, 1) := by decide +kernel
theorem dX10_as_45 : decode cX10_as 45 = .ok (.iconst 4, 1) := by decide +kernel
theorem dX10_as_46 : decode cX10_as 46 = .ok (.if_icmp .ne 7, 3) := by decide +kernel
theorem dX10_as_49 : decode cX10_as 49 = .ok (.iload_n 1, 1) := by decide +kernel
theorem dX10_as_50 : decode cX10_as 50 = .ok (.goto 4, 3) := by decide +kernel
theorem dX10_as_53 : decode cX10_as 53 = .ok (.iconst (-1), 1) := by decide +kernel
theorem dX10_as_54 : decode cX10_as 54 = .ok (.ireturn, 1) := by decide +kernel
theorem dX10_betweenNow_0 : decode cX10_betweenNow 0 = .ok (.iconst 5, 1) := by decide +kernel
theorem dX10_betweenNow_1 : decode cX10_betweenNow 1 = .ok (.iload_n 1, 1) := by decide +kernel
theorem dX10_betweenNow_2 : decode cX10_betweenNow 2 = .ok (.imul, 1) := by decide +kernel
theorem dX10_betweenNow_3 : decode cX10_betweenNow 3 = .ok (.iload_n 2, 1) := by decide +kernel
theorem dX10_betweenNow_4 : decode cX10_betweenNow 4 = .ok (.iadd, 1) := by decide +kernel
theorem dX10_betweenNow_5 : decode cX10_betweenNow 5 = .ok (.istore 4, 2) := by decide +kernel
theorem dX10_betweenNow_7 : decode cX10_betweenNow 7 = .ok (.iload_n 3, 1) := by decide +kernel
theorem dX10_betweenNow_8 : decode cX10_betweenNow 8 = .ok (.ifCond .ne 13, 3) := by decide +kernel
theorem dX10_betweenNow_11 : decode cX10_betweenNow 11 = .ok (.aload_n 0, 1) := by decide +kernel
theorem dX10_betweenNow_12 : decode cX10_betweenNow 12 = .ok (.getfield 23, 3) := by decide +kernel
theorem dX10_betweenNow_15 : decode cX10_betweenNow 15 = .ok (.iload 4, 2) := by decide +kernel
theorem dX10_betweenNow_17 : decode cX10_betweenNow 17 = .ok (.iaload, 1) := by decide +kernel
theorem dX10_betweenNow_18 : decode cX10_betweenNow 18 = .ok (.goto 25, 3) := by decide +kernel
theorem dX10_betweenNow_21 : decode cX10_betweenNow 21 = .ok (.iload_n 3, 1) := by decide +kernel
theorem dX10_betweenNow_22 : decode cX10_betweenNow 22 = .ok (.iconst 1, 1) := by decide +kernel
theorem dX10_betweenNow_23 : decode cX10_betweenNow 23 = .ok (.if_icmp .ne 13, 3) := by decide +kernel
theorem dX10_betweenNow_26 : decode cX10_betweenNow 26 = .ok (.aload_n 0, 1) := by decide +kernel
theorem dX10_betweenNow_27 : decode cX10_betweenNow 27 = .ok (.getfield 26, 3) := by decide +kernel
theorem dX10_betweenNow_30 : decode cX10_betweenNow 30 = .ok (.iload 4, 2) := by decide +kernel
theorem dX10_betweenNow_32 : decode cX10_betweenNow 32 = .ok (.iaload, 1) := by decide +kernel
theorem dX10_betweenNow_33 : decode cX10_betweenNow 33 = .ok (.goto 10, 3) := by decide +kernel
theorem dX10_betweenNow_36 : decode cX10_betweenNow 36 = .ok (.aload_n 0, 1) := by decide +kernel
theorem dX10_betweenNow_37 : decode cX10_betweenNow 37 = .ok (.getfield 29, 3) := by decide +kernel
theorem dX10_betweenNow_40 : decode cX10_betweenNow 40 = .ok (.iload 4, 2) := by decide +kernel
theorem dX10_betweenNow_42 : decode cX10_betweenNow 42 = .ok (.iaload, 1) := by decide +kernel
theorem dX10_betweenNow_43 : decode cX10_betweenNow 43 = .ok (.ireturn, 1) := by decide +kernel
theorem dX10_between_0 : decode cX10_between 0 = .ok (.aload_n 0, 1) := by decide +kernel
theorem dX10_between_1 : decode cX10_between 1 = .ok (.iload_n 1, 1) := by decide +kernel
theorem dX10_between_2 : decode cX10_between 2 = .ok (.iload_n 2, 1) := by decide +kernel
theorem dX10_between_3 : decode cX10_between 3 = .ok (.invokevirtual 116, 3) := by decide +kernel
theorem dX10_between_6 : decode cX10_between 6 = .ok (.ifCond .ne 6, 3) := by decide +kernel
theorem dX10_between_9 : decode cX10_between 9 = .ok (.bipush (-101), 2) := by decide +kernel
theorem dX10_between_11 : decode cX10_between 11 = .ok (.ireturn, 1) := by decide +kernel
theorem dX10_between_12 : decode cX10_between 12 = .ok (.iload_n 3, 1) := by decide +kernel
theorem dX10_between_13 : decode cX10_between 13 = .ok (.iconst 0, 1) := by decide +kernel
theorem dX10_between_14 : decode cX10_between 14 = .ok (.iconst 2, 1) := by decide +kernel
theorem dX10_between_15 : decode cX10_between 15 = .ok (.invokestatic 69, 3) := by decide +kernel
theorem dX10_between_18 : decode cX10_between 18 = .ok (.ifCond .eq 13, 3) := by decide +kernel
theorem dX10_between_21 : decode cX10_between 21 = .ok (.aload_n 0, 1) := by decide +kernel
theorem dX10_between_22 : decode cX10_between 22 = .ok (.iload_n 1, 1) := by decide +kernel
theorem dX10_between_23 : decode cX10_between 23 = .ok (.iload_n 2, 1) := by decide +kernel
theorem dX10_between_24 : decode cX10_between 24 = .ok (.iload_n 3, 1) := by decide +kernel
theorem dX10_between_25 : decode cX10_between 25 = .ok (.invokevirtual 120, 3) := by decide +kernel
theorem dX10_between_28 : decode cX10_between 28 = .ok (.goto 5, 3) := by decide +kernel
theorem dX10_between_31 : decode cX10_between 31 = .ok (.bipush (-102), 2) := by decide +kernel
theorem dX10_between_33 : decode cX10_between 33 = .ok (.ireturn, 1) := by decide +kernel
theorem dX10_neverThanks_0 : decode cX10_neverThanks 0 = .ok (.aload_n 0, 1) := by decide +kernel
theorem dX10_neverThanks_1 : decode cX10_neverThanks 1 = .ok (.getfield 16, 3) := by decide +kernel
theorem dX10_neverThanks_4 : decode cX10_neverThanks 4 = .ok (.iload_n 1, 1) := by decide +kernel
theorem dX10_neverThanks_5 : decode cX10_neverThanks 5 = .ok (.iaload, 1) := by decide +kernel
theorem dX10_neverThanks_6 : decode cX10_neverThanks 6 = .ok (.iconst 3, 1) := by decide +kernel
theorem dX10_neverThanks_7 : decode cX10_neverThanks 7 = .ok (.if_icmp .eq 13, 3) := by decide +kernel
theorem dX10_neverThanks_10 : decode cX10_neverThanks 10 = .ok (.aload_n 0, 1) := by decide +kernel
theorem dX10_neverThanks_11 : decode cX10_neverThanks 11 = .ok (.getfield 16, 3) := by decide +kernel
theorem dX10_neverThanks_14 : decode cX10_neverThanks 14 = .ok (.iload_n 1, 1) := by decide +kernel
theorem dX10_neverThanks_15 : decode cX10_neverThanks 15 = .ok (.iaload, 1) := by decide +kernel
theorem dX10_neverThanks_16 : decode cX10_neverThanks 16 = .ok (.iconst 4, 1) := by decide +kernel
theorem dX10_neverThanks_17 : decode cX10_neverThanks 17 = .ok (.if_icmp .ne 7, 3) := by decide +kernel
theorem dX10_neverThanks_20 : decode cX10_neverThanks 20 = .ok (.iconst 1, 1) := by decide +kernel
theorem dX10_neverThanks_21 : decode cX10_neverThanks 21 = .ok (.goto 4, 3) := by decide +kernel
theorem dX10_neverThanks_24 : decode cX10_neverThanks 24 = .ok (.iconst 0, 1) := by decide +kernel
theorem dX10_neverThanks_25 : decode cX10_neverThanks 25 = .ok (.ireturn, 1) := by decide +kernel
theorem dX10_thank_0 : decode cX10_thank 0 = .ok (.iload_n 1, 1) := by decide +kernel
theorem dX10_thank_1 : decode cX10_thank 1 = .ok (.iconst 5, 1) := by decide +kernel
theorem dX10_thank_2 : decode cX10_thank 2 = .ok (.iload_n 2, 1) := by decide +kernel
theorem dX10_thank_3 : decode cX10_thank 3 = .ok (.imul, 1) := by decide +kernel
theorem dX10_thank_4 : decode cX10_thank 4 = .ok (.iadd, 1) := by decide +kernel
theorem dX10_thank_5 : decode cX10_thank 5 = .ok (.iload_n 3, 1) := by decide +kernel
theorem dX10_thank_6 : decode cX10_thank 6 = .ok (.iadd, 1) := by decide +kernel
theorem dX10_thank_7 : decode cX10_thank 7 = .ok (.istore 5, 2) := by decide +kernel
theorem dX10_thank_9 : decode cX10_thank 9 = .ok (.aload_n 0, 1) := by decide +kernel
theorem dX10_thank_10 : decode cX10_thank 10 = .ok (.getfield 23, 3) := by decide +kernel
theorem dX10_thank_13 : decode cX10_thank 13 = .ok (.iload 5, 2) := by decide +kernel
theorem dX10_thank_15 : decode cX10_thank 15 = .ok (.aload_n 0, 1) := by decide +kernel
theorem dX10_thank_16 : decode cX10_thank 16 = .ok (.getfield 23, 3) := by decide +kernel
theorem dX10_thank_19 : decode cX10_thank 19 = .ok (.iload 5, 2) := by decide +kernel
theorem dX10_thank_21 : decode cX10_thank 21 = .ok (.iaload, 1) := by decide +kernel
theorem dX10_thank_22 : decode cX10_thank 22 = .ok (.iload 4, 2) := by decide +kernel
theorem dX10_thank_24 : decode cX10_thank 24 = .ok (.iadd, 1) := by decide +kernel
theorem dX10_thank_25 : decode cX10_thank 25 = .ok (.sipush 9999, 3) := by decide +kernel
theorem dX10_thank_28 : decode cX10_thank 28 = .ok (.invokestatic 124, 3) := by decide +kernel
theorem dX10_thank_31 : decode cX10_thank 31 = .ok (.iastore, 1) := by decide +kernel
theorem dX10_thank_32 : decode cX10_thank 32 = .ok (.aload_n 0, 1) := by decide +kernel
theorem dX10_thank_33 : decode cX10_thank 33 = .ok (.getfield 26, 3) := by decide +kernel
theorem dX10_thank_36 : decode cX10_thank 36 = .ok (.iload 5, 2) := by decide +kernel
theorem dX10_thank_38 : decode cX10_thank 38 = .ok (.aload_n 0, 1) := by decide +kernel
theorem dX10_thank_39 : decode cX10_thank 39 = .ok (.getfield 26, 3) := by decide +kernel
theorem dX10_thank_42 : decode cX10_thank 42 = .ok (.iload 5, 2) := by decide +kernel
theorem dX10_thank_44 : decode cX10_thank 44 = .ok (.iaload, 1) := by decide +kernel
theorem dX10_thank_45 : decode cX10_thank 45 = .ok (.aload_n 0, 1) := by decide +kernel
theorem dX10_thank_46 : decode cX10_thank 46 = .ok (.getfield 84, 3) := by decide +kernel
theorem dX10_thank_49 : decode cX10_thank 49 = .ok (.invokestatic 127, 3) := by decide +kernel
theorem dX10_thank_52 : decode cX10_thank 52 = .ok (.iastore, 1) := by decide +kernel
theorem dX10_thank_53 : decode cX10_thank 53 = .ok (.return_, 1) := by decide +kernel
theorem dX10_grunt_0 : decode cX10_grunt 0 = .ok (.iload_n 1, 1) := by decide +kernel
theorem dX10_grunt_1 : decode cX10_grunt 1 = .ok (.iconst 5, 1) := by decide +kernel
theorem dX10_grunt_2 : decode cX10_grunt 2 = .ok (.iload_n 3, 1) := by decide +kernel
theorem dX10_grunt_3 : decode cX10_grunt 3 = .ok (.imul, 1) := by decide +kernel
theorem dX10_grunt_4 : decode cX10_grunt 4 = .ok (.iadd, 1) := by decide +kernel
theorem dX10_grunt_5 : decode cX10_grunt 5 = .ok (.iload_n 2, 1) := by decide +kernel
theorem dX10_grunt_6 : decode cX10_grunt 6 = .ok (.iadd, 1) := by decide +kernel
theorem dX10_grunt_7 : decode cX10_grunt 7 = .ok (.istore 4, 2) := by decide +kernel
theorem dX10_grunt_9 : decode cX10_grunt 9 = .ok (.aload_n 0, 1) := by decide +kernel
theorem dX10_grunt_10 : decode cX10_grunt 10 = .ok (.getfield 29, 3) := by decide +kernel
theorem dX10_grunt_13 : decode cX10_grunt 13 = .ok (.iload 4, 2) := by decide +kernel
theorem dX10_grunt_15 : decode cX10_grunt 15 = .ok (.aload_n 0, 1) := by decide +kernel
theorem dX10_grunt_16 : decode cX10_grunt 16 = .ok (.getfield 16, 3) := by decide +kernel
theorem dX10_grunt_19 : decode cX10_grunt 19 = .ok (.iload_n 3, 1) := by decide +kernel
theorem dX10_grunt_20 : decode cX10_grunt 20 = .ok (.iaload, 1) := by decide +kernel
theorem dX10_grunt_21 : decode cX10_grunt 21 = .ok (.iconst 4, 1) := by decide +kernel
theorem dX10_grunt_22 : decode cX10_grunt 22 = .ok (.if_icmp .ne 13, 3) := by decide +kernel
theorem dX10_grunt_25 : decode cX10_grunt 25 = .ok (.aload_n 0, 1) := by decide +kernel
theorem dX10_grunt_26 : decode cX10_grunt 26 = .ok (.getfield 29, 3) := by decide +kernel
theorem dX10_grunt_29 : decode cX10_grunt 29 = .ok (.iload 4, 2) := by decide +kernel
theorem dX10_grunt_31 : decode cX10_grunt 31 = .ok (.iaload, 1) := by decide +kernel
theorem dX10_grunt_32 : decode cX10_grunt 32 = .ok (.goto 17, 3) := by decide +kernel
theorem dX10_grunt_35 : decode cX10_grunt 35 = .ok (.aload_n 0, 1) := by decide +kernel
theorem dX10_grunt_36 : decode cX10_grunt 36 = .ok (.getfield 29, 3) := by decide +kernel
theorem dX10_grunt_39 : decode cX10_grunt 39 = .ok (.iload 4, 2) := by decide +kernel
theorem dX10_grunt_41 : decode cX10_grunt 41 = .ok (.iaload, 1) := by decide +kernel
theorem dX10_grunt_42 : decode cX10_grunt 42 = .ok (.aload_n 0, 1) := by decide +kernel
theorem dX10_grunt_43 : decode cX10_grunt 43 = .ok (.getfield 87, 3) := by decide +kernel
theorem dX10_grunt_46 : decode cX10_grunt 46 = .ok (.invokestatic 127, 3) := by decide +kernel
theorem dX10_grunt_49 : decode cX10_grunt 49 = .ok (.iastore, 1) := by decide +kernel
theorem dX10_grunt_50 : decode cX10_grunt 50 = .ok (.return_, 1) := by decide +kernel
theorem dX10_favour_0 : decode cX10_favour 0 = .ok (.aload_n 0, 1) := by decide +kernel
theorem dX10_favour_1 : decode cX10_favour 1 = .ok (.iload_n 1, 1) := by decide +kernel
theorem dX10_favour_2 : decode cX10_favour 2 = .ok (.iload_n 2, 1) := by decide +kernel
theorem dX10_favour_3 : decode cX10_favour 3 = .ok (.invokevirtual 116, 3) := by decide +kernel
theorem dX10_favour_6 : decode cX10_favour 6 = .ok (.ifCond .ne 6, 3) := by decide +kernel
theorem dX10_favour_9 : decode cX10_favour 9 = .ok (.bipush (-101), 2) := by decide +kernel
theorem dX10_favour_11 : decode cX10_favour 11 = .ok (.ireturn, 1) := by decide +kernel
theorem dX10_favour_12 : decode cX10_favour 12 = .ok (.iload_n 3, 1) := by decide +kernel
theorem dX10_favour_13 : decode cX10_favour 13 = .ok (.iconst 1, 1) := by decide +kernel
theorem dX10_favour_14 : decode cX10_favour 14 = .ok (.bipush 99, 2) := by decide +kernel
theorem dX10_favour_16 : decode cX10_favour 16 = .ok (.invokestatic 69, 3) := by decide +kernel
theorem dX10_favour_19 : decode cX10_favour 19 = .ok (.ifCond .ne 6, 3) := by decide +kernel
theorem dX10_favour_22 : decode cX10_favour 22 = .ok (.bipush (-102), 2) := by decide +kernel
theorem dX10_favour_24 : decode cX10_favour 24 = .ok (.ireturn, 1) := by decide +kernel
theorem dX10_favour_25 : decode cX10_favour 25 = .ok (.aload_n 0, 1) := by decide +kernel
theorem dX10_favour_26 : decode cX10_favour 26 = .ok (.getfield 29, 3) := by decide +kernel
theorem dX10_favour_29 : decode cX10_favour 29 = .ok (.iconst 5, 1) := by decide +kernel
theorem dX10_favour_30 : decode cX10_favour 30 = .ok (.iload_n 1, 1) := by decide +kernel
theorem dX10_favour_31 : decode cX10_favour 31 = .ok (.imul, 1) := by decide +kernel
theorem dX10_favour_32 : decode cX10_favour 32 = .ok (.iload_n 2, 1) := by decide +kernel
theorem dX10_favour_33 : decode cX10_favour 33 = .ok (.iadd, 1) := by decide +kernel
theorem dX10_favour_34 : decode cX10_favour 34 = .ok (.iaload, 1) := by decide +kernel
theorem dX10_favour_35 : decode cX10_favour 35 = .ok (.ifCond .gt 16, 3) := by decide +kernel
theorem dX10_favour_38 : decode cX10_favour 38 = .ok (.iload 4, 2) := by decide +kernel
theorem dX10_favour_40 : decode cX10_favour 40 = .ok (.ifCond .eq 14, 3) := by decide +kernel
theorem dX10_favour_43 : decode cX10_favour 43 = .ok (.aload_n 0, 1) := by decide +kernel
theorem dX10_favour_44 : decode cX10_favour 44 = .ok (.iload_n 2, 1) := by decide +kernel
theorem dX10_favour_45 : decode cX10_favour 45 = .ok (.invokevirtual 130, 3) := by decide +kernel
theorem dX10_favour_48 : decode cX10_favour 48 = .ok (.ifCond .eq 6, 3) := by decide +kernel
theorem dX10_favour_51 : decode cX10_favour 51 = .ok (.bipush (-103), 2) := by decide +kernel
theorem dX10_favour_53 : decode cX10_favour 53 = .ok (.ireturn, 1) := by decide +kernel
theorem dX10_favour_54 : decode cX10_favour 54 = .ok (.iload 4, 2) := by decide +kernel
theorem dX10_favour_56 : decode cX10_favour 56 = .ok (.ifCond .eq 14, 3) := by decide +kernel
theorem dX10_favour_59 : decode cX10_favour 59 = .ok (.aload_n 0, 1) := by decide +kernel
theorem dX10_favour_60 : decode cX10_favour 60 = .ok (.iconst 0, 1) := by decide +kernel
theorem dX10_favour_61 : decode cX10_favour 61 = .ok (.iload_n 2, 1) := by decide +kernel
theorem dX10_favour_62 : decode cX10_favour 62 = .ok (.iload_n 1, 1) := by decide +kernel
theorem dX10_favour_63 : decode cX10_favour 63 = .ok (.iload_n 3, 1) := by decide +kernel
theorem dX10_favour_64 : decode cX10_favour 64 = .ok (.invokevirtual 133, 3) := by decide +kernel
theorem dX10_favour_67 : decode cX10_favour 67 = .ok (.goto 10, 3) := by decide +kernel
theorem dX10_favour_70 : decode cX10_favour 70 = .ok (.aload_n 0, 1) := by decide +kernel
theorem dX10_favour_71 : decode cX10_favour 71 = .ok (.iconst 0, 1) := by decide +kernel
theorem dX10_favour_72 : decode cX10_favour 72 = .ok (.iload_n 2, 1) := by decide +kernel
theorem dX10_favour_73 : decode cX10_favour 73 = .ok (.iload_n 1, 1) := by decide +kernel
theorem dX10_favour_74 : decode cX10_favour 74 = .ok (.invokevirtual 137, 3) := by decide +kernel
theorem dX10_favour_77 : decode cX10_favour 77 = .ok (.aload_n 0, 1) := by decide +kernel
theorem dX10_favour_78 : decode cX10_favour 78 = .ok (.getfield 23, 3) := by decide +kernel
theorem dX10_favour_81 : decode cX10_favour 81 = .ok (.iconst 5, 1) := by decide +kernel
theorem dX10_favour_82 : decode cX10_favour 82 = .ok (.iload_n 2, 1) := by decide +kernel
theorem dX10_favour_83 : decode cX10_favour 83 = .ok (.imul, 1) := by decide +kernel
theorem dX10_favour_84 : decode cX10_favour 84 = .ok (.iload_n 1, 1) := by decide +kernel
theorem dX10_favour_85 : decode cX10_favour 85 = .ok (.iadd, 1) := by decide +kernel
theorem dX10_favour_86 : decode cX10_favour 86 = .ok (.iaload, 1) := by decide +kernel
theorem dX10_favour_87 : decode cX10_favour 87 = .ok (.ireturn, 1) := by decide +kernel
theorem dX10_grows_0 : decode cX10_grows 0 = .ok (.iload_n 2, 1) := by decide +kernel
theorem dX10_grows_1 : decode cX10_grows 1 = .ok (.iconst 1, 1) := by decide +kernel
theorem dX10_grows_2 : decode cX10_grows 2 = .ok (.if_icmp .eq 8, 3) := by decide +kernel
theorem dX10_grows_5 : decode cX10_grows 5 = .ok (.iload_n 3, 1) := by decide +kernel
theorem dX10_grows_6 : decode cX10_grows 6 = .ok (.iconst 4, 1) := by decide +kernel
theorem dX10_grows_7 : decode cX10_grows 7 = .ok (.if_icmp .ne 5, 3) := by decide +kernel
theorem dX10_grows_10 : decode cX10_grows 10 = .ok (.iconst 0, 1) := by decide +kernel
theorem dX10_grows_11 : decode cX10_grows 11 = .ok (.ireturn, 1) := by decide +kernel
theorem dX10_grows_12 : decode cX10_grows 12 = .ok (.iload_n 1, 1) := by decide +kernel
theorem dX10_grows_13 : decode cX10_grows 13 = .ok (.aload_n 0, 1) := by decide +kernel
theorem dX10_grows_14 : decode cX10_grows 14 = .ok (.getfield 7, 3) := by decide +kernel
theorem dX10_grows_17 : decode cX10_grows 17 = .ok (.imul, 1) := by decide +kernel
theorem dX10_grows_18 : decode cX10_grows 18 = .ok (.iload_n 3, 1) := by decide +kernel
theorem dX10_grows_19 : decode cX10_grows 19 = .ok (.iconst 2, 1) := by decide +kernel
theorem dX10_grows_20 : decode cX10_grows 20 = .ok (.if_icmp .ne 7, 3) := by decide +kernel
theorem dX10_grows_23 : decode cX10_grows 23 = .ok (.iconst 2, 1) := by decide +kernel
theorem dX10_grows_24 : decode cX10_grows 24 = .ok (.goto 4, 3) := by decide +kernel
theorem dX10_grows_27 : decode cX10_grows 27 = .ok (.iconst 1, 1) := by decide +kernel
theorem dX10_grows_28 : decode cX10_grows 28 = .ok (.imul, 1) := by decide +kernel
theorem dX10_grows_29 : decode cX10_grows 29 = .ok (.istore 4, 2) := by decide +kernel
theorem dX10_grows_31 : decode cX10_grows 31 = .ok (.iload 4, 2) := by decide +kernel
theorem dX10_grows_33 : decode cX10_grows 33 = .ok (.bipush 10, 2) := by decide +kernel
theorem dX10_grows_35 : decode cX10_grows 35 = .ok (.idiv, 1) := by decide +kernel
theorem dX10_grows_36 : decode cX10_grows 36 = .ok (.aload_n 0, 1) := by decide +kernel
theorem dX10_grows_37 : decode cX10_grows 37 = .ok (.getfield 13, 3) := by decide +kernel
theorem dX10_grows_40 : decode cX10_grows 40 = .ok (.iconst 1, 1) := by decide +kernel
theorem dX10_grows_41 : decode cX10_grows 41 = .ok (.if_icmp .ne 15, 3) := by decide +kernel
theorem dX10_grows_44 : decode cX10_grows 44 = .ok (.iload 4, 2) := by decide +kernel
theorem dX10_grows_46 : decode cX10_grows 46 = .ok (.bipush 10, 2) := by decide +kernel
theorem dX10_grows_48 : decode cX10_grows 48 = .ok (.irem, 1) := by decide +kernel
theorem dX10_grows_49 : decode cX10_grows 49 = .ok (.ifCond .le 7, 3) := by decide +kernel
theorem dX10_grows_52 : decode cX10_grows 52 = .ok (.iconst 1, 1) := by decide +kernel
theorem dX10_grows_53 : decode cX10_grows 53 = .ok (.goto 4, 3) := by decide +kernel
theorem dX10_grows_56 : decode cX10_grows 56 = .ok (.iconst 0, 1) := by decide +kernel
theorem dX10_grows_57 : decode cX10_grows 57 = .ok (.iadd, 1) := by decide +kernel
theorem dX10_grows_58 : decode cX10_grows 58 = .ok (.istore 5, 2) := by decide +kernel
theorem dX10_grows_60 : decode cX10_grows 60 = .ok (.iload_n 1, 1) := by decide +kernel
theorem dX10_grows_61 : decode cX10_grows 61 = .ok (.iload 5, 2) := by decide +kernel
theorem dX10_grows_63 : decode cX10_grows 63 = .ok (.iadd, 1) := by decide +kernel
theorem dX10_grows_64 : decode cX10_grows 64 = .ok (.sipush 9999, 3) := by decide +kernel
theorem dX10_grows_67 : decode cX10_grows 67 = .ok (.invokestatic 124, 3) := by decide +kernel
theorem dX10_grows_70 : decode cX10_grows 70 = .ok (.iload_n 1, 1) := by decide +kernel
theorem dX10_grows_71 : decode cX10_grows 71 = .ok (.isub, 1) := by decide +kernel
theorem dX10_grows_72 : decode cX10_grows 72 = .ok (.ireturn, 1) := by decide +kernel
theorem dX10_goWeek_0 : decode cX10_goWeek 0 = .ok (.iconst 0, 1) := by decide +kernel
theorem dX10_goWeek_1 : decode cX10_goWeek 1 = .ok (.istore_n 2, 1) := by decide +kernel
theorem dX10_goWeek_2 : decode cX10_goWeek 2 = .ok (.iconst 0, 1) := by decide +kernel
theorem dX10_goWeek_3 : decode cX10_goWeek 3 = .ok (.istore_n 3, 1) := by decide +kernel
theorem dX10_goWeek_4 : decode cX10_goWeek 4 = .ok (.iload_n 3, 1) := by decide +kernel
theorem dX10_goWeek_5 : decode cX10_goWeek 5 = .ok (.aload_n 0, 1) := by decide +kernel
theorem dX10_goWeek_6 : decode cX10_goWeek 6 = .ok (.getfield 93, 3) := by decide +kernel
theorem dX10_goWeek_9 : decode cX10_goWeek 9 = .ok (.if_icmp .ge 144, 3) := by decide +kernel
theorem dX10_goWeek_12 : decode cX10_goWeek 12 = .ok (.iconst 0, 1) := by decide +kernel
theorem dX10_goWeek_13 : decode cX10_goWeek 13 = .ok (.istore 4, 2) := by decide +kernel
theorem dX10_goWeek_15 : decode cX10_goWeek 15 = .ok (.iload 4, 2) := by decide +kernel
theorem dX10_goWeek_17 : decode cX10_goWeek 17 = .ok (.aload_n 0, 1) := by decide +kernel
theorem dX10_goWeek_18 : decode cX10_goWeek 18 = .ok (.getfield 93, 3) := by decide +kernel
theorem dX10_goWeek_21 : decode cX10_goWeek 21 = .ok (.if_icmp .ge 126, 3) := by decide +kernel
theorem dX10_goWeek_24 : decode cX10_goWeek 24 = .ok (.iload_n 1, 1) := by decide +kernel
theorem dX10_goWeek_25 : decode cX10_goWeek 25 = .ok (.iconst 5, 1) := by decide +kernel
theorem dX10_goWeek_26 : decode cX10_goWeek 26 = .ok (.iload_n 3, 1) := by decide +kernel
theorem dX10_goWeek_27 : decode cX10_goWeek 27 = .ok (.imul, 1) := by decide +kernel
theorem dX10_goWeek_28 : decode cX10_goWeek 28 = .ok (.iadd, 1) := by decide +kernel
theorem dX10_goWeek_29 : decode cX10_goWeek 29 = .ok (.iload 4, 2) := by decide +kernel
theorem dX10_goWeek_31 : decode cX10_goWeek 31 = .ok (.iadd, 1) := by decide +kernel
theorem dX10_goWeek_32 : decode cX10_goWeek 32 = .ok (.istore 5, 2) := by decide +kernel
theorem dX10_goWeek_34 : decode cX10_goWeek 34 = .ok (.aload_n 0, 1) := by decide +kernel
theorem dX10_goWeek_35 : decode cX10_goWeek 35 = .ok (.getfield 26, 3) := by decide +kernel
theorem dX10_goWeek_38 : decode cX10_goWeek 38 = .ok (.iload 5, 2) := by decide +kernel
theorem dX10_goWeek_40 : decode cX10_goWeek 40 = .ok (.iaload, 1) := by decide +kernel
theorem dX10_goWeek_41 : decode cX10_goWeek 41 = .ok (.ifCond .le 7, 3) := by decide +kernel
theorem dX10_goWeek_44 : decode cX10_goWeek 44 = .ok (.iconst 0, 1) := by decide +kernel
theorem dX10_goWeek_45 : decode cX10_goWeek 45 = .ok (.goto 27, 3) := by decide +kernel
theorem dX10_goWeek_48 : decode cX10_goWeek 48 = .ok (.aload_n 0, 1) := by decide +kernel
theorem dX10_goWeek_49 : decode cX10_goWeek 49 = .ok (.aload_n 0, 1) := by decide +kernel
theorem dX10_goWeek_50 : decode cX10_goWeek 50 = .ok (.getfield 23, 3) := by decide +kernel
theorem dX10_goWeek_53 : decode cX10_goWeek 53 = .ok (.iload 5, 2) := by decide +kernel
theorem dX10_goWeek_55 : decode cX10_goWeek 55 = .ok (.iaload, 1) := by decide +kernel
theorem dX10_goWeek_56 : decode cX10_goWeek 56 = .ok (.aload_n 0, 1) := by decide +kernel
theorem dX10_goWeek_57 : decode cX10_goWeek 57 = .ok (.getfield 16, 3) := by decide +kernel
theorem dX10_goWeek_60 : decode cX10_goWeek 60 = .ok (.iload_n 3, 1) := by decide +kernel
theorem dX10_goWeek_61 : decode cX10_goWeek 61 = .ok (.iaload, 1) := by decide +kernel
theorem dX10_goWeek_62 : decode cX10_goWeek 62 = .ok (.aload_n 0, 1) := by decide +kernel
theorem dX10_goWeek_63 : decode cX10_goWeek 63 = .ok (.getfield 16, 3) := by decide +kernel
theorem dX10_goWeek_66 : decode cX10_goWeek 66 = .ok (.iload 4, 2) := by decide +kernel
theorem dX10_goWeek_68 : decode cX10_goWeek 68 = .ok (.iaload, 1) := by decide +kernel
theorem dX10_goWeek_69 : decode cX10_goWeek 69 = .ok (.invokevirtual 141, 3) := by decide +kernel
theorem dX10_goWeek_72 : decode cX10_goWeek 72 = .ok (.istore 6, 2) := by decide +kernel
theorem dX10_goWeek_74 : decode cX10_goWeek 74 = .ok (.aload_n 0, 1) := by decide +kernel
theorem dX10_goWeek_75 : decode cX10_goWeek 75 = .ok (.getfield 23, 3) := by decide +kernel
theorem dX10_goWeek_78 : decode cX10_goWeek 78 = .ok (.iload 5, 2) := by decide +kernel
theorem dX10_goWeek_80 : decode cX10_goWeek 80 = .ok (.dup2, 1) := by decide +kernel
theorem dX10_goWeek_81 : decode cX10_goWeek 81 = .ok (.iaload, 1) := by decide +kernel
theorem dX10_goWeek_82 : decode cX10_goWeek 82 = .ok (.iload 6, 2) := by decide +kernel
theorem dX10_goWeek_84 : decode cX10_goWeek 84 = .ok (.iadd, 1) := by decide +kernel
theorem dX10_goWeek_85 : decode cX10_goWeek 85 = .ok (.iastore, 1) := by decide +kernel
theorem dX10_goWeek_86 : decode cX10_goWeek 86 = .ok (.iload_n 2, 1) := by decide +kernel
theorem dX10_goWeek_87 : decode cX10_goWeek 87 = .ok (.iload 6, 2) := by decide +kernel
theorem dX10_goWeek_89 : decode cX10_goWeek 89 = .ok (.iadd, 1) := by decide +kernel
theorem dX10_goWeek_90 : decode cX10_goWeek 90 = .ok (.istore_n 2, 1) := by decide +kernel
theorem dX10_goWeek_91 : decode cX10_goWeek 91 = .ok (.aload_n 0, 1) := by decide +kernel
theorem dX10_goWeek_92 : decode cX10_goWeek 92 = .ok (.getfield 26, 3) := by decide +kernel
theorem dX10_goWeek_95 : decode cX10_goWeek 95 = .ok (.iload 5, 2) := by decide +kernel
theorem dX10_goWeek_97 : decode cX10_goWeek 97 = .ok (.dup2, 1) := by decide +kernel
theorem dX10_goWeek_98 : decode cX10_goWeek 98 = .ok (.iaload, 1) := by decide +kernel
theorem dX10_goWeek_99 : decode cX10_goWeek 99 = .ok (.aload_n 0, 1) := by decide +kernel
theorem dX10_goWeek_100 : decode cX10_goWeek 100 = .ok (.getfield 26, 3) := by decide +kernel
theorem dX10_goWeek_103 : decode cX10_goWeek 103 = .ok (.iload 5, 2) := by decide +kernel
theorem dX10_goWeek_105 : decode cX10_goWeek 105 = .ok (.iaload, 1) := by decide +kernel
theorem dX10_goWeek_106 : decode cX10_goWeek 106 = .ok (.ifCond .le 7, 3) := by decide +kernel
theorem dX10_goWeek_109 : decode cX10_goWeek 109 = .ok (.iconst 1, 1) := by decide +kernel
theorem dX10_goWeek_110 : decode cX10_goWeek 110 = .ok (.goto 4, 3) := by decide +kernel
theorem dX10_goWeek_113 : decode cX10_goWeek 113 = .ok (.iconst 0, 1) := by decide +kernel
theorem dX10_goWeek_114 : decode cX10_goWeek 114 = .ok (.isub, 1) := by decide +kernel
theorem dX10_goWeek_115 : decode cX10_goWeek 115 = .ok (.iastore, 1) := by decide +kernel
theorem dX10_goWeek_116 : decode cX10_goWeek 116 = .ok (.aload_n 0, 1) := by decide +kernel
theorem dX10_goWeek_117 : decode cX10_goWeek 117 = .ok (.getfield 29, 3) := by decide +kernel
theorem dX10_goWeek_120 : decode cX10_goWeek 120 = .ok (.iload 5, 2) := by decide +kernel
theorem dX10_goWeek_122 : decode cX10_goWeek 122 = .ok (.dup2, 1) := by decide +kernel
theorem dX10_goWeek_123 : decode cX10_goWeek 123 = .ok (.iaload, 1) := by decide +kernel
theorem dX10_goWeek_124 : decode cX10_goWeek 124 = .ok (.aload_n 0, 1) := by decide +kernel
theorem dX10_goWeek_125 : decode cX10_goWeek 125 = .ok (.getfield 29, 3) := by decide +kernel
theorem dX10_goWeek_128 : decode cX10_goWeek 128 = .ok (.iload 5, 2) := by decide +kernel
theorem dX10_goWeek_130 : decode cX10_goWeek 130 = .ok (.iaload, 1) := by decide +kernel
theorem dX10_goWeek_131 : decode cX10_goWeek 131 = .ok (.ifCond .le 7, 3) := by decide +kernel
theorem dX10_goWeek_134 : decode cX10_goWeek 134 = .ok (.iconst 1, 1) := by decide +kernel
theorem dX10_goWeek_135 : decode cX10_goWeek 135 = .ok (.goto 4, 3) := by decide +kernel
theorem dX10_goWeek_138 : decode cX10_goWeek 138 = .ok (.iconst 0, 1) := by decide +kernel
theorem dX10_goWeek_139 : decode cX10_goWeek 139 = .ok (.isub, 1) := by decide +kernel
theorem dX10_goWeek_140 : decode cX10_goWeek 140 = .ok (.iastore, 1) := by decide +kernel
theorem dX10_goWeek_141 : decode cX10_goWeek 141 = .ok (.iinc 4 1, 3) := by decide +kernel
theorem dX10_goWeek_144 : decode cX10_goWeek 144 = .ok (.goto (-129), 3) := by decide +kernel
theorem dX10_goWeek_147 : decode cX10_goWeek 147 = .ok (.iinc 3 1, 3) := by decide +kernel
theorem dX10_goWeek_150 : decode cX10_goWeek 150 = .ok (.goto (-146), 3) := by decide +kernel
theorem dX10_goWeek_153 : decode cX10_goWeek 153 = .ok (.iload_n 2, 1) := by decide +kernel
theorem dX10_goWeek_154 : decode cX10_goWeek 154 = .ok (.ireturn, 1) := by decide +kernel
theorem dX10_week_0 : decode cX10_week 0 = .ok (.aload_n 0, 1) := by decide +kernel
theorem dX10_week_1 : decode cX10_week 1 = .ok (.dup, 1) := by decide +kernel
theorem dX10_week_2 : decode cX10_week 2 = .ok (.getfield 144, 3) := by decide +kernel
theorem dX10_week_5 : decode cX10_week 5 = .ok (.iconst 1, 1) := by decide +kernel
theorem dX10_week_6 : decode cX10_week 6 = .ok (.iadd, 1) := by decide +kernel
theorem dX10_week_7 : decode cX10_week 7 = .ok (.putfield 144, 3) := by decide +kernel
theorem dX10_week_10 : decode cX10_week 10 = .ok (.aload_n 0, 1) := by decide +kernel
theorem dX10_week_11 : decode cX10_week 11 = .ok (.iconst 0, 1) := by decide +kernel
theorem dX10_week_12 : decode cX10_week 12 = .ok (.invokevirtual 147, 3) := by decide +kernel
theorem dX10_week_15 : decode cX10_week 15 = .ok (.ireturn, 1) := by decide +kernel
theorem dX10_pay_0 : decode cX10_pay 0 = .ok (.aload_n 0, 1) := by decide +kernel
theorem dX10_pay_1 : decode cX10_pay 1 = .ok (.iload_n 2, 1) := by decide +kernel
theorem dX10_pay_2 : decode cX10_pay 2 = .ok (.iload_n 1, 1) := by decide +kernel
theorem dX10_pay_3 : decode cX10_pay 3 = .ok (.invokevirtual 116, 3) := by decide +kernel
theorem dX10_pay_6 : decode cX10_pay 6 = .ok (.ifCond .ne 6, 3) := by decide +kernel
theorem dX10_pay_9 : decode cX10_pay 9 = .ok (.bipush (-101), 2) := by decide +kernel
theorem dX10_pay_11 : decode cX10_pay 11 = .ok (.ireturn, 1) := by decide +kernel
theorem dX10_pay_12 : decode cX10_pay 12 = .ok (.iload_n 3, 1) := by decide +kernel
theorem dX10_pay_13 : decode cX10_pay 13 = .ok (.iconst 1, 1) := by decide +kernel
theorem dX10_pay_14 : decode cX10_pay 14 = .ok (.sipush 999, 3) := by decide +kernel
theorem dX10_pay_17 : decode cX10_pay 17 = .ok (.invokestatic 69, 3) := by decide +kernel
theorem dX10_pay_20 : decode cX10_pay 20 = .ok (.ifCond .ne 6, 3) := by decide +kernel
theorem dX10_pay_23 : decode cX10_pay 23 = .ok (.bipush (-102), 2) := by decide +kernel
theorem dX10_pay_25 : decode cX10_pay 25 = .ok (.ireturn, 1) := by decide +kernel
theorem dX10_pay_26 : decode cX10_pay 26 = .ok (.iconst 5, 1) := by decide +kernel
theorem dX10_pay_27 : decode cX10_pay 27 = .ok (.iload_n 1, 1) := by decide +kernel
theorem dX10_pay_28 : decode cX10_pay 28 = .ok (.imul, 1) := by decide +kernel
theorem dX10_pay_29 : decode cX10_pay 29 = .ok (.iload_n 2, 1) := by decide +kernel
theorem dX10_pay_30 : decode cX10_pay 30 = .ok (.iadd, 1) := by decide +kernel
theorem dX10_pay_31 : decode cX10_pay 31 = .ok (.istore 4, 2) := by decide +kernel
theorem dX10_pay_33 : decode cX10_pay 33 = .ok (.aload_n 0, 1) := by decide +kernel
theorem dX10_pay_34 : decode cX10_pay 34 = .ok (.getfield 20, 3) := by decide +kernel
theorem dX10_pay_37 : decode cX10_pay 37 = .ok (.iload_n 1, 1) := by decide +kernel
theorem dX10_pay_38 : decode cX10_pay 38 = .ok (.iaload, 1) := by decide +kernel
theorem dX10_pay_39 : decode cX10_pay 39 = .ok (.iload_n 3, 1) := by decide +kernel
theorem dX10_pay_40 : decode cX10_pay 40 = .ok (.if_icmp .lt 28, 3) := by decide +kernel
theorem dX10_pay_43 : decode cX10_pay 43 = .ok (.aload_n 0, 1) := by decide +kernel
theorem dX10_pay_44 : decode cX10_pay 44 = .ok (.getfield 23, 3) := by decide +kernel
theorem dX10_pay_47 : decode cX10_pay 47 = .ok (.iload 4, 2) := by decide +kernel
theorem dX10_pay_49 : decode cX10_pay 49 = .ok (.iaload, 1) := by decide +kernel
theorem dX10_pay_50 : decode cX10_pay 50 = .ok (.iload_n 3, 1) := by decide +kernel
theorem dX10_pay_51 : decode cX10_pay 51 = .ok (.if_icmp .lt 17, 3) := by decide +kernel
theorem dX10_pay_54 : decode cX10_pay 54 = .ok (.aload_n 0, 1) := by decide +kernel
theorem dX10_pay_55 : decode cX10_pay 55 = .ok (.getfield 20, 3) := by decide +kernel
theorem dX10_pay_58 : decode cX10_pay 58 = .ok (.iload_n 2, 1) := by decide +kernel
theorem dX10_pay_59 : decode cX10_pay 59 = .ok (.iaload, 1) := by decide +kernel
theorem dX10_pay_60 : decode cX10_pay 60 = .ok (.iload_n 3, 1) := by decide +kernel
theorem dX10_pay_61 : decode cX10_pay 61 = .ok (.iadd, 1) := by decide +kernel
theorem dX10_pay_62 : decode cX10_pay 62 = .ok (.sipush 999, 3) := by decide +kernel
theorem dX10_pay_65 : decode cX10_pay 65 = .ok (.if_icmp .le 6, 3) := by decide +kernel
theorem dX10_pay_68 : decode cX10_pay 68 = .ok (.bipush (-103), 2) := by decide +kernel
theorem dX10_pay_70 : decode cX10_pay 70 = .ok (.ireturn, 1) := by decide +kernel
theorem dX10_pay_71 : decode cX10_pay 71 = .ok (.aload_n 0, 1) := by decide +kernel
theorem dX10_pay_72 : decode cX10_pay 72 = .ok (.getfield 20, 3) := by decide +kernel
theorem dX10_pay_75 : decode cX10_pay 75 = .ok (.iload_n 1, 1) := by decide +kernel
theorem dX10_pay_76 : decode cX10_pay 76 = .ok (.dup2, 1) := by decide +kernel
theorem dX10_pay_77 : decode cX10_pay 77 = .ok (.iaload, 1) := by decide +kernel
theorem dX10_pay_78 : decode cX10_pay 78 = .ok (.iload_n 3, 1) := by decide +kernel
theorem dX10_pay_79 : decode cX10_pay 79 = .ok (.isub, 1) := by decide +kernel
theorem dX10_pay_80 : decode cX10_pay 80 = .ok (.iastore, 1) := by decide +kernel
theorem dX10_pay_81 : decode cX10_pay 81 = .ok (.aload_n 0, 1) := by decide +kernel
theorem dX10_pay_82 : decode cX10_pay 82 = .ok (.getfield 20, 3) := by decide +kernel
theorem dX10_pay_85 : decode cX10_pay 85 = .ok (.iload_n 2, 1) := by decide +kernel
theorem dX10_pay_86 : decode cX10_pay 86 = .ok (.dup2, 1) := by decide +kernel
theorem dX10_pay_87 : decode cX10_pay 87 = .ok (.iaload, 1) := by decide +kernel
theorem dX10_pay_88 : decode cX10_pay 88 = .ok (.iload_n 3, 1) := by decide +kernel
theorem dX10_pay_89 : decode cX10_pay 89 = .ok (.iadd, 1) := by decide +kernel
theorem dX10_pay_90 : decode cX10_pay 90 = .ok (.iastore, 1) := by decide +kernel
theorem dX10_pay_91 : decode cX10_pay 91 = .ok (.aload_n 0, 1) := by decide +kernel
theorem dX10_pay_92 : decode cX10_pay 92 = .ok (.getfield 23, 3) := by decide +kernel
theorem dX10_pay_95 : decode cX10_pay 95 = .ok (.iload 4, 2) := by decide +kernel
theorem dX10_pay_97 : decode cX10_pay 97 = .ok (.dup2, 1) := by decide +kernel
theorem dX10_pay_98 : decode cX10_pay 98 = .ok (.iaload, 1) := by decide +kernel
theorem dX10_pay_99 : decode cX10_pay 99 = .ok (.iload_n 3, 1) := by decide +kernel
theorem dX10_pay_100 : decode cX10_pay 100 = .ok (.isub, 1) := by decide +kernel
theorem dX10_pay_101 : decode cX10_pay 101 = .ok (.iastore, 1) := by decide +kernel
theorem dX10_pay_102 : decode cX10_pay 102 = .ok (.aload_n 0, 1) := by decide +kernel
theorem dX10_pay_103 : decode cX10_pay 103 = .ok (.getfield 23, 3) := by decide +kernel
theorem dX10_pay_106 : decode cX10_pay 106 = .ok (.iload 4, 2) := by decide +kernel
theorem dX10_pay_108 : decode cX10_pay 108 = .ok (.iaload, 1) := by decide +kernel
theorem dX10_pay_109 : decode cX10_pay 109 = .ok (.ireturn, 1) := by decide +kernel
theorem dX10_setOff_0 : decode cX10_setOff 0 = .ok (.aload_n 0, 1) := by decide +kernel
theorem dX10_setOff_1 : decode cX10_setOff 1 = .ok (.iload_n 1, 1) := by decide +kernel
theorem dX10_setOff_2 : decode cX10_setOff 2 = .ok (.iload_n 2, 1) := by decide +kernel
theorem dX10_setOff_3 : decode cX10_setOff 3 = .ok (.invokevirtual 116, 3) := by decide +kernel
theorem dX10_setOff_6 : decode cX10_setOff 6 = .ok (.ifCond .ne 6, 3) := by decide +kernel
theorem dX10_setOff_9 : decode cX10_setOff 9 = .ok (.bipush (-101), 2) := by decide +kernel
theorem dX10_setOff_11 : decode cX10_setOff 11 = .ok (.ireturn, 1) := by decide +kernel
theorem dX10_setOff_12 : decode cX10_setOff 12 = .ok (.aload_n 0, 1) := by decide +kernel
theorem dX10_setOff_13 : decode cX10_setOff 13 = .ok (.getfield 23, 3) := by decide +kernel
theorem dX10_setOff_16 : decode cX10_setOff 16 = .ok (.iconst 5, 1) := by decide +kernel
theorem dX10_setOff_17 : decode cX10_setOff 17 = .ok (.iload_n 1, 1) := by decide +kernel
theorem dX10_setOff_18 : decode cX10_setOff 18 = .ok (.imul, 1) := by decide +kernel
theorem dX10_setOff_19 : decode cX10_setOff 19 = .ok (.iload_n 2, 1) := by decide +kernel
theorem dX10_setOff_20 : decode cX10_setOff 20 = .ok (.iadd, 1) := by decide +kernel
theorem dX10_setOff_21 : decode cX10_setOff 21 = .ok (.iaload, 1) := by decide +kernel
theorem dX10_setOff_22 : decode cX10_setOff 22 = .ok (.aload_n 0, 1) := by decide +kernel
theorem dX10_setOff_23 : decode cX10_setOff 23 = .ok (.getfield 23, 3) := by decide +kernel
theorem dX10_setOff_26 : decode cX10_setOff 26 = .ok (.iconst 5, 1) := by decide +kernel
theorem dX10_setOff_27 : decode cX10_setOff 27 = .ok (.iload_n 2, 1) := by decide +kernel
theorem dX10_setOff_28 : decode cX10_setOff 28 = .ok (.imul, 1) := by decide +kernel
theorem dX10_setOff_29 : decode cX10_setOff 29 = .ok (.iload_n 1, 1) := by decide +kernel
theorem dX10_setOff_30 : decode cX10_setOff 30 = .ok (.iadd, 1) := by decide +kernel
theorem dX10_setOff_31 : decode cX10_setOff 31 = .ok (.iaload, 1) := by decide +kernel
theorem dX10_setOff_32 : decode cX10_setOff 32 = .ok (.invokestatic 124, 3) := by decide +kernel
theorem dX10_setOff_35 : decode cX10_setOff 35 = .ok (.istore_n 3, 1) := by decide +kernel
theorem dX10_setOff_36 : decode cX10_setOff 36 = .ok (.aload_n 0, 1) := by decide +kernel
theorem dX10_setOff_37 : decode cX10_setOff 37 = .ok (.getfield 23, 3) := by decide +kernel
theorem dX10_setOff_40 : decode cX10_setOff 40 = .ok (.iconst 5, 1) := by decide +kernel
theorem dX10_setOff_41 : decode cX10_setOff 41 = .ok (.iload_n 1, 1) := by decide +kernel
theorem dX10_setOff_42 : decode cX10_setOff 42 = .ok (.imul, 1) := by decide +kernel
theorem dX10_setOff_43 : decode cX10_setOff 43 = .ok (.iload_n 2, 1) := by decide +kernel
theorem dX10_setOff_44 : decode cX10_setOff 44 = .ok (.iadd, 1) := by decide +kernel
theorem dX10_setOff_45 : decode cX10_setOff 45 = .ok (.dup2, 1) := by decide +kernel
theorem dX10_setOff_46 : decode cX10_setOff 46 = .ok (.iaload, 1) := by decide +kernel
theorem dX10_setOff_47 : decode cX10_setOff 47 = .ok (.iload_n 3, 1) := by decide +kernel
theorem dX10_setOff_48 : decode cX10_setOff 48 = .ok (.isub, 1) := by decide +kernel
theorem dX10_setOff_49 : decode cX10_setOff 49 = .ok (.iastore, 1) := by decide +kernel
theorem dX10_setOff_50 : decode cX10_setOff 50 = .ok (.aload_n 0, 1) := by decide +kernel
theorem dX10_setOff_51 : decode cX10_setOff 51 = .ok (.getfield 23, 3) := by decide +kernel
theorem dX10_setOff_54 : decode cX10_setOff 54 = .ok (.iconst 5, 1) := by decide +kernel
theorem dX10_setOff_55 : decode cX10_setOff 55 = .ok (.iload_n 2, 1) := by decide +kernel
theorem dX10_setOff_56 : decode cX10_setOff 56 = .ok (.imul, 1) := by decide +kernel
theorem dX10_setOff_57 : decode cX10_setOff 57 = .ok (.iload_n 1, 1) := by decide +kernel
theorem dX10_setOff_58 : decode cX10_setOff 58 = .ok (.iadd, 1) := by decide +kernel
theorem dX10_setOff_59 : decode cX10_setOff 59 = .ok (.dup2, 1) := by decide +kernel
theorem dX10_setOff_60 : decode cX10_setOff 60 = .ok (.iaload, 1) := by decide +kernel
theorem dX10_setOff_61 : decode cX10_setOff 61 = .ok (.iload_n 3, 1) := by decide +kernel
theorem dX10_setOff_62 : decode cX10_setOff 62 = .ok (.isub, 1) := by decide +kernel
theorem dX10_setOff_63 : decode cX10_setOff 63 = .ok (.iastore, 1) := by decide +kernel
theorem dX10_setOff_64 : decode cX10_setOff 64 = .ok (.iload_n 3, 1) := by decide +kernel
theorem dX10_setOff_65 : decode cX10_setOff 65 = .ok (.ireturn, 1) := by decide +kernel
theorem dX10_ring_0 : decode cX10_ring 0 = .ok (.aload_n 0, 1) := by decide +kernel
theorem dX10_ring_1 : decode cX10_ring 1 = .ok (.iload_n 1, 1) := by decide +kernel
theorem dX10_ring_2 : decode cX10_ring 2 = .ok (.iload_n 2, 1) := by decide +kernel
theorem dX10_ring_3 : decode cX10_ring 3 = .ok (.invokevirtual 116, 3) := by decide +kernel
theorem dX10_ring_6 : decode cX10_ring 6 = .ok (.ifCond .eq 21, 3) := by decide +kernel
theorem dX10_ring_9 : decode cX10_ring 9 = .ok (.aload_n 0, 1) := by decide +kernel
theorem dX10_ring_10 : decode cX10_ring 10 = .ok (.iload_n 2, 1) := by decide +kernel
theorem dX10_ring_11 : decode cX10_ring 11 = .ok (.iload_n 3, 1) := by decide +kernel
theorem dX10_ring_12 : decode cX10_ring 12 = .ok (.invokevirtual 116, 3) := by decide +kernel
theorem dX10_ring_15 : decode cX10_ring 15 = .ok (.ifCond .eq 12, 3) := by decide +kernel
theorem dX10_ring_18 : decode cX10_ring 18 = .ok (.aload_n 0, 1) := by decide +kernel
theorem dX10_ring_19 : decode cX10_ring 19 = .ok (.iload_n 1, 1) := by decide +kernel
theorem dX10_ring_20 : decode cX10_ring 20 = .ok (.iload_n 3, 1) := by decide +kernel
theorem dX10_ring_21 : decode cX10_ring 21 = .ok (.invokevirtual 116, 3) := by decide +kernel
theorem dX10_ring_24 : decode cX10_ring 24 = .ok (.ifCond .ne 6, 3) := by decide +kernel
theorem dX10_ring_27 : decode cX10_ring 27 = .ok (.bipush (-101), 2) := by decide +kernel
theorem dX10_ring_29 : decode cX10_ring 29 = .ok (.ireturn, 1) := by decide +kernel
theorem dX10_ring_30 : decode cX10_ring 30 = .ok (.aload_n 0, 1) := by decide +kernel
theorem dX10_ring_31 : decode cX10_ring 31 = .ok (.getfield 23, 3) := by decide +kernel
theorem dX10_ring_34 : decode cX10_ring 34 = .ok (.iconst 5, 1) := by decide +kernel
theorem dX10_ring_35 : decode cX10_ring 35 = .ok (.iload_n 1, 1) := by decide +kernel
theorem dX10_ring_36 : decode cX10_ring 36 = .ok (.imul, 1) := by decide +kernel
theorem dX10_ring_37 : decode cX10_ring 37 = .ok (.iload_n 2, 1) := by decide +kernel
theorem dX10_ring_38 : decode cX10_ring 38 = .ok (.iadd, 1) := by decide +kernel
theorem dX10_ring_39 : decode cX10_ring 39 = .ok (.iaload, 1) := by decide +kernel
theorem dX10_ring_40 : decode cX10_ring 40 = .ok (.aload_n 0, 1) := by decide +kernel
theorem dX10_ring_41 : decode cX10_ring 41 = .ok (.getfield 23, 3) := by decide +kernel
theorem dX10_ring_44 : decode cX10_ring 44 = .ok (.iconst 5, 1) := by decide +kernel
theorem dX10_ring_45 : decode cX10_ring 45 = .ok (.iload_n 2, 1) := by decide +kernel
theorem dX10_ring_46 : decode cX10_ring 46 = .ok (.imul, 1) := by decide +kernel
theorem dX10_ring_47 : decode cX10_ring 47 = .ok (.iload_n 3, 1) := by decide +kernel
theorem dX10_ring_48 : decode cX10_ring 48 = .ok (.iadd, 1) := by decide +kernel
theorem dX10_ring_49 : decode cX10_ring 49 = .ok (.iaload, 1) := by decide +kernel
theorem dX10_ring_50 : decode cX10_ring 50 = .ok (.invokestatic 124, 3) := by decide +kernel
theorem dX10_ring_53 : decode cX10_ring 53 = .ok (.aload_n 0, 1) := by decide +kernel
theorem dX10_ring_54 : decode cX10_ring 54 = .ok (.getfield 23, 3) := by decide +kernel
theorem dX10_ring_57 : decode cX10_ring 57 = .ok (.iconst 5, 1) := by decide +kernel
theorem dX10_ring_58 : decode cX10_ring 58 = .ok (.iload_n 3, 1) := by decide +kernel
theorem dX10_ring_59 : decode cX10_ring 59 = .ok (.imul, 1) := by decide +kernel
theorem dX10_ring_60 : decode cX10_ring 60 = .ok (.iload_n 1, 1) := by decide +kernel
theorem dX10_ring_61 : decode cX10_ring 61 = .ok (.iadd, 1) := by decide +kernel
theorem dX10_ring_62 : decode cX10_ring 62 = .ok (.iaload, 1) := by decide +kernel
theorem dX10_ring_63 : decode cX10_ring 63 = .ok (.invokestatic 124, 3) := by decide +kernel
theorem dX10_ring_66 : decode cX10_ring 66 = .ok (.istore 4, 2) := by decide +kernel
theorem dX10_ring_68 : decode cX10_ring 68 = .ok (.aload_n 0, 1) := by decide +kernel
theorem dX10_ring_69 : decode cX10_ring 69 = .ok (.getfield 23, 3) := by decide +kernel
theorem dX10_ring_72 : decode cX10_ring 72 = .ok (.iconst 5, 1) := by decide +kernel
theorem dX10_ring_73 : decode cX10_ring 73 = .ok (.iload_n 1, 1) := by decide +kernel
theorem dX10_ring_74 : decode cX10_ring 74 = .ok (.imul, 1) := by decide +kernel
theorem dX10_ring_75 : decode cX10_ring 75 = .ok (.iload_n 2, 1) := by decide +kernel
theorem dX10_ring_76 : decode cX10_ring 76 = .ok (.iadd, 1) := by decide +kernel
theorem dX10_ring_77 : decode cX10_ring 77 = .ok (.dup2, 1) := by decide +kernel
theorem dX10_ring_78 : decode cX10_ring 78 = .ok (.iaload, 1) := by decide +kernel
theorem dX10_ring_79 : decode cX10_ring 79 = .ok (.iload 4, 2) := by decide +kernel
theorem dX10_ring_81 : decode cX10_ring 81 = .ok (.isub, 1) := by decide +kernel
theorem dX10_ring_82 : decode cX10_ring 82 = .ok (.iastore, 1) := by decide +kernel
theorem dX10_ring_83 : decode cX10_ring 83 = .ok (.aload_n 0, 1) := by decide +kernel
theorem dX10_ring_84 : decode cX10_ring 84 = .ok (.getfield 23, 3) := by decide +kernel
theorem dX10_ring_87 : decode cX10_ring 87 = .ok (.iconst 5, 1) := by decide +kernel
theorem dX10_ring_88 : decode cX10_ring 88 = .ok (.iload_n 2, 1) := by decide +kernel
theorem dX10_ring_89 : decode cX10_ring 89 = .ok (.imul, 1) := by decide +kernel
theorem dX10_ring_90 : decode cX10_ring 90 = .ok (.iload_n 3, 1) := by decide +kernel
theorem dX10_ring_91 : decode cX10_ring 91 = .ok (.iadd, 1) := by decide +kernel
theorem dX10_ring_92 : decode cX10_ring 92 = .ok (.dup2, 1) := by decide +kernel
theorem dX10_ring_93 : decode cX10_ring 93 = .ok (.iaload, 1) := by decide +kernel
theorem dX10_ring_94 : decode cX10_ring 94 = .ok (.iload 4, 2) := by decide +kernel
theorem dX10_ring_96 : decode cX10_ring 96 = .ok (.isub, 1) := by decide +kernel
theorem dX10_ring_97 : decode cX10_ring 97 = .ok (.iastore, 1) := by decide +kernel
theorem dX10_ring_98 : decode cX10_ring 98 = .ok (.aload_n 0, 1) := by decide +kernel
theorem dX10_ring_99 : decode cX10_ring 99 = .ok (.getfield 23, 3) := by decide +kernel
theorem dX10_ring_102 : decode cX10_ring 102 = .ok (.iconst 5, 1) := by decide +kernel
theorem dX10_ring_103 : decode cX10_ring 103 = .ok (.iload_n 3, 1) := by decide +kernel
theorem dX10_ring_104 : decode cX10_ring 104 = .ok (.imul, 1) := by decide +kernel
theorem dX10_ring_105 : decode cX10_ring 105 = .ok (.iload_n 1, 1) := by decide +kernel
theorem dX10_ring_106 : decode cX10_ring 106 = .ok (.iadd, 1) := by decide +kernel
theorem dX10_ring_107 : decode cX10_ring 107 = .ok (.dup2, 1) := by decide +kernel
theorem dX10_ring_108 : decode cX10_ring 108 = .ok (.iaload, 1) := by decide +kernel
theorem dX10_ring_109 : decode cX10_ring 109 = .ok (.iload 4, 2) := by decide +kernel
theorem dX10_ring_111 : decode cX10_ring 111 = .ok (.isub, 1) := by decide +kernel
theorem dX10_ring_112 : decode cX10_ring 112 = .ok (.iastore, 1) := by decide +kernel
theorem dX10_ring_113 : decode cX10_ring 113 = .ok (.iload 4, 2) := by decide +kernel
theorem dX10_ring_115 : decode cX10_ring 115 = .ok (.ireturn, 1) := by decide +kernel
theorem dX10_forgive_0 : decode cX10_forgive 0 = .ok (.aload_n 0, 1) := by decide +kernel
theorem dX10_forgive_1 : decode cX10_forgive 1 = .ok (.iload_n 1, 1) := by decide +kernel
theorem dX10_forgive_2 : decode cX10_forgive 2 = .ok (.iload_n 2, 1) := by decide +kernel
theorem dX10_forgive_3 : decode cX10_forgive 3 = .ok (.invokevirtual 116, 3) := by decide +kernel
theorem dX10_forgive_6 : decode cX10_forgive 6 = .ok (.ifCond .ne 6, 3) := by decide +kernel
theorem dX10_forgive_9 : decode cX10_forgive 9 = .ok (.bipush (-101), 2) := by decide +kernel
theorem dX10_forgive_11 : decode cX10_forgive 11 = .ok (.ireturn, 1) := by decide +kernel
theorem dX10_forgive_12 : decode cX10_forgive 12 = .ok (.aload_n 0, 1) := by decide +kernel
theorem dX10_forgive_13 : decode cX10_forgive 13 = .ok (.getfield 23, 3) := by decide +kernel
theorem dX10_forgive_16 : decode cX10_forgive 16 = .ok (.iconst 5, 1) := by decide +kernel
theorem dX10_forgive_17 : decode cX10_forgive 17 = .ok (.iload_n 2, 1) := by decide +kernel
theorem dX10_forgive_18 : decode cX10_forgive 18 = .ok (.imul, 1) := by decide +kernel
theorem dX10_forgive_19 : decode cX10_forgive 19 = .ok (.iload_n 1, 1) := by decide +kernel
theorem dX10_forgive_20 : decode cX10_forgive 20 = .ok (.iadd, 1) := by decide +kernel
theorem dX10_forgive_21 : decode cX10_forgive 21 = .ok (.iaload, 1) := by decide +kernel
theorem dX10_forgive_22 : decode cX10_forgive 22 = .ok (.istore_n 3, 1) := by decide +kernel
theorem dX10_forgive_23 : decode cX10_forgive 23 = .ok (.aload_n 0, 1) := by decide +kernel
theorem dX10_forgive_24 : decode cX10_forgive 24 = .ok (.getfield 23, 3) := by decide +kernel
theorem dX10_forgive_27 : decode cX10_forgive 27 = .ok (.iconst 5, 1) := by decide +kernel
theorem dX10_forgive_28 : decode cX10_forgive 28 = .ok (.iload_n 2, 1) := by decide +kernel
theorem dX10_forgive_29 : decode cX10_forgive 29 = .ok (.imul, 1) := by decide +kernel
theorem dX10_forgive_30 : decode cX10_forgive 30 = .ok (.iload_n 1, 1) := by decide +kernel
theorem dX10_forgive_31 : decode cX10_forgive 31 = .ok (.iadd, 1) := by decide +kernel
theorem dX10_forgive_32 : decode cX10_forgive 32 = .ok (.iconst 0, 1) := by decide +kernel
theorem dX10_forgive_33 : decode cX10_forgive 33 = .ok (.iastore, 1) := by decide +kernel
theorem dX10_forgive_34 : decode cX10_forgive 34 = .ok (.iload_n 3, 1) := by decide +kernel
theorem dX10_forgive_35 : decode cX10_forgive 35 = .ok (.ireturn, 1) := by decide +kernel
theorem dX10_bankrupt_0 : decode cX10_bankrupt 0 = .ok (.aload_n 0, 1) := by decide +kernel
theorem dX10_bankrupt_1 : decode cX10_bankrupt 1 = .ok (.iload_n 1, 1) := by decide +kernel
theorem dX10_bankrupt_2 : decode cX10_bankrupt 2 = .ok (.invokevirtual 96, 3) := by decide +kernel
theorem dX10_bankrupt_5 : decode cX10_bankrupt 5 = .ok (.ifCond .ne 6, 3) := by decide +kernel
theorem dX10_bankrupt_8 : decode cX10_bankrupt 8 = .ok (.bipush (-101), 2) := by decide +kernel
theorem dX10_bankrupt_10 : decode cX10_bankrupt 10 = .ok (.ireturn, 1) := by decide +kernel
theorem dX10_bankrupt_11 : decode cX10_bankrupt 11 = .ok (.aload_n 0, 1) := by decide +kernel
theorem dX10_bankrupt_12 : decode cX10_bankrupt 12 = .ok (.iconst 0, 1) := by decide +kernel
theorem dX10_bankrupt_13 : decode cX10_bankrupt 13 = .ok (.iload_n 1, 1) := by decide +kernel
theorem dX10_bankrupt_14 : decode cX10_bankrupt 14 = .ok (.invokevirtual 107, 3) := by decide +kernel
theorem dX10_bankrupt_17 : decode cX10_bankrupt 17 = .ok (.istore_n 2, 1) := by decide +kernel
theorem dX10_bankrupt_18 : decode cX10_bankrupt 18 = .ok (.iload_n 2, 1) := by decide +kernel
theorem dX10_bankrupt_19 : decode cX10_bankrupt 19 = .ok (.ifCond .ne 6, 3) := by decide +kernel
theorem dX10_bankrupt_22 : decode cX10_bankrupt 22 = .ok (.bipush (-103), 2) := by decide +kernel
theorem dX10_bankrupt_24 : decode cX10_bankrupt 24 = .ok (.ireturn, 1) := by decide +kernel
theorem dX10_bankrupt_25 : decode cX10_bankrupt 25 = .ok (.aload_n 0, 1) := by decide +kernel
theorem dX10_bankrupt_26 : decode cX10_bankrupt 26 = .ok (.getfield 20, 3) := by decide +kernel
theorem dX10_bankrupt_29 : decode cX10_bankrupt 29 = .ok (.iload_n 1, 1) := by decide +kernel
theorem dX10_bankrupt_30 : decode cX10_bankrupt 30 = .ok (.iaload, 1) := by decide +kernel
theorem dX10_bankrupt_31 : decode cX10_bankrupt 31 = .ok (.istore_n 3, 1) := by decide +kernel
theorem dX10_bankrupt_32 : decode cX10_bankrupt 32 = .ok (.iconst 0, 1) := by decide +kernel
theorem dX10_bankrupt_33 : decode cX10_bankrupt 33 = .ok (.istore 4, 2) := by decide +kernel
theorem dX10_bankrupt_35 : decode cX10_bankrupt 35 = .ok (.iconst 0, 1) := by decide +kernel
theorem dX10_bankrupt_36 : decode cX10_bankrupt 36 = .ok (.istore 5, 2) := by decide +kernel
theorem dX10_bankrupt_38 : decode cX10_bankrupt 38 = .ok (.iload 5, 2) := by decide +kernel
theorem dX10_bankrupt_40 : decode cX10_bankrupt 40 = .ok (.aload_n 0, 1) := by decide +kernel
theorem dX10_bankrupt_41 : decode cX10_bankrupt 41 = .ok (.getfield 93, 3) := by decide +kernel
theorem dX10_bankrupt_44 : decode cX10_bankrupt 44 = .ok (.if_icmp .ge 94, 3) := by decide +kernel
theorem dX10_bankrupt_47 : decode cX10_bankrupt 47 = .ok (.iconst 5, 1) := by decide +kernel
theorem dX10_bankrupt_48 : decode cX10_bankrupt 48 = .ok (.iload_n 1, 1) := by decide +kernel
theorem dX10_bankrupt_49 : decode cX10_bankrupt 49 = .ok (.imul, 1) := by decide +kernel
theorem dX10_bankrupt_50 : decode cX10_bankrupt 50 = .ok (.iload 5, 2) := by decide +kernel
theorem dX10_bankrupt_52 : decode cX10_bankrupt 52 = .ok (.iadd, 1) := by decide +kernel
theorem dX10_bankrupt_53 : decode cX10_bankrupt 53 = .ok (.istore 6, 2) := by decide +kernel
theorem dX10_bankrupt_55 : decode cX10_bankrupt 55 = .ok (.iload_n 3, 1) := by decide +kernel
theorem dX10_bankrupt_56 : decode cX10_bankrupt 56 = .ok (.aload_n 0, 1) := by decide +kernel
theorem dX10_bankrupt_57 : decode cX10_bankrupt 57 = .ok (.getfield 23, 3) := by decide +kernel
theorem dX10_bankrupt_60 : decode cX10_bankrupt 60 = .ok (.iload 6, 2) := by decide +kernel
theorem dX10_bankrupt_62 : decode cX10_bankrupt 62 = .ok (.iaload, 1) := by decide +kernel
theorem dX10_bankrupt_63 : decode cX10_bankrupt 63 = .ok (.imul, 1) := by decide +kernel
theorem dX10_bankrupt_64 : decode cX10_bankrupt 64 = .ok (.iload_n 2, 1) := by decide +kernel
theorem dX10_bankrupt_65 : decode cX10_bankrupt 65 = .ok (.idiv, 1) := by decide +kernel
theorem dX10_bankrupt_66 : decode cX10_bankrupt 66 = .ok (.aload_n 0, 1) := by decide +kernel
theorem dX10_bankrupt_67 : decode cX10_bankrupt 67 = .ok (.getfield 23, 3) := by decide +kernel
theorem dX10_bankrupt_70 : decode cX10_bankrupt 70 = .ok (.iload 6, 2) := by decide +kernel
theorem dX10_bankrupt_72 : decode cX10_bankrupt 72 = .ok (.iaload, 1) := by decide +kernel
theorem dX10_bankrupt_73 : decode cX10_bankrupt 73 = .ok (.invokestatic 124, 3) := by decide +kernel
theorem dX10_bankrupt_76 : decode cX10_bankrupt 76 = .ok (.istore 7, 2) := by decide +kernel
theorem dX10_bankrupt_78 : decode cX10_bankrupt 78 = .ok (.iload 4, 2) := by decide +kernel
theorem dX10_bankrupt_80 : decode cX10_bankrupt 80 = .ok (.iload 7, 2) := by decide +kernel
theorem dX10_bankrupt_82 : decode cX10_bankrupt 82 = .ok (.iadd, 1) := by decide +kernel
theorem dX10_bankrupt_83 : decode cX10_bankrupt 83 = .ok (.istore 4, 2) := by decide +kernel
theorem dX10_bankrupt_85 : decode cX10_bankrupt 85 = .ok (.aload_n 0, 1) := by decide +kernel
theorem dX10_bankrupt_86 : decode cX10_bankrupt 86 = .ok (.getfield 20, 3) := by decide +kernel
theorem dX10_bankrupt_89 : decode cX10_bankrupt 89 = .ok (.iload 5, 2) := by decide +kernel
theorem dX10_bankrupt_91 : decode cX10_bankrupt 91 = .ok (.iload 5, 2) := by decide +kernel
theorem dX10_bankrupt_93 : decode cX10_bankrupt 93 = .ok (.iload_n 1, 1) := by decide +kernel
theorem dX10_bankrupt_94 : decode cX10_bankrupt 94 = .ok (.if_icmp .ne 13, 3) := by decide +kernel
theorem dX10_bankrupt_97 : decode cX10_bankrupt 97 = .ok (.aload_n 0, 1) := by decide +kernel
theorem dX10_bankrupt_98 : decode cX10_bankrupt 98 = .ok (.getfield 20, 3) := by decide +kernel
theorem dX10_bankrupt_101 : decode cX10_bankrupt 101 = .ok (.iload 5, 2) := by decide +kernel
theorem dX10_bankrupt_103 : decode cX10_bankrupt 103 = .ok (.iaload, 1) := by decide +kernel
theorem dX10_bankrupt_104 : decode cX10_bankrupt 104 = .ok (.goto 19, 3) := by decide +kernel
theorem dX10_bankrupt_107 : decode cX10_bankrupt 107 = .ok (.aload_n 0, 1) := by decide +kernel
theorem dX10_bankrupt_108 : decode cX10_bankrupt 108 = .ok (.getfield 20, 3) := by decide +kernel
theorem dX10_bankrupt_111 : decode cX10_bankrupt 111 = .ok (.iload 5, 2) := by decide +kernel
theorem dX10_bankrupt_113 : decode cX10_bankrupt 113 = .ok (.iaload, 1) := by decide +kernel
theorem dX10_bankrupt_114 : decode cX10_bankrupt 114 = .ok (.iload 7, 2) := by decide +kernel
theorem dX10_bankrupt_116 : decode cX10_bankrupt 116 = .ok (.iadd, 1) := by decide +kernel
theorem dX10_bankrupt_117 : decode cX10_bankrupt 117 = .ok (.sipush 999, 3) := by decide +kernel
theorem dX10_bankrupt_120 : decode cX10_bankrupt 120 = .ok (.invokestatic 124, 3) := by decide +kernel
theorem dX10_bankrupt_123 : decode cX10_bankrupt 123 = .ok (.iastore, 1) := by decide +kernel
theorem dX10_bankrupt_124 : decode cX10_bankrupt 124 = .ok (.aload_n 0, 1) := by decide +kernel
theorem dX10_bankrupt_125 : decode cX10_bankrupt 125 = .ok (.getfield 23, 3) := by decide +kernel
theorem dX10_bankrupt_128 : decode cX10_bankrupt 128 = .ok (.iload 6, 2) := by decide +kernel
theorem dX10_bankrupt_130 : decode cX10_bankrupt 130 = .ok (.iconst 0, 1) := by decide +kernel
theorem dX10_bankrupt_131 : decode cX10_bankrupt 131 = .ok (.iastore, 1) := by decide +kernel
theorem dX10_bankrupt_132 : decode cX10_bankrupt 132 = .ok (.iinc 5 1, 3) := by decide +kernel
theorem dX10_bankrupt_135 : decode cX10_bankrupt 135 = .ok (.goto (-97), 3) := by decide +kernel
theorem dX10_bankrupt_138 : decode cX10_bankrupt 138 = .ok (.aload_n 0, 1) := by decide +kernel
theorem dX10_bankrupt_139 : decode cX10_bankrupt 139 = .ok (.getfield 20, 3) := by decide +kernel
theorem dX10_bankrupt_142 : decode cX10_bankrupt 142 = .ok (.iload_n 1, 1) := by decide +kernel
theorem dX10_bankrupt_143 : decode cX10_bankrupt 143 = .ok (.iload_n 3, 1) := by decide +kernel
theorem dX10_bankrupt_144 : decode cX10_bankrupt 144 = .ok (.iload 4, 2) := by decide +kernel
theorem dX10_bankrupt_146 : decode cX10_bankrupt 146 = .ok (.isub, 1) := by decide +kernel
theorem dX10_bankrupt_147 : decode cX10_bankrupt 147 = .ok (.iastore, 1) := by decide +kernel
theorem dX10_bankrupt_148 : decode cX10_bankrupt 148 = .ok (.iload 4, 2) := by decide +kernel
theorem dX10_bankrupt_150 : decode cX10_bankrupt 150 = .ok (.ireturn, 1) := by decide +kernel
theorem dX10_copy_0 : decode cX10_copy 0 = .ok (.iconst 0, 1) := by decide +kernel
theorem dX10_copy_1 : decode cX10_copy 1 = .ok (.istore_n 1, 1) := by decide +kernel
theorem dX10_copy_2 : decode cX10_copy 2 = .ok (.iload_n 1, 1) := by decide +kernel
theorem dX10_copy_3 : decode cX10_copy 3 = .ok (.iconst 5, 1) := by decide +kernel
theorem dX10_copy_4 : decode cX10_copy 4 = .ok (.if_icmp .ge 23, 3) := by decide +kernel
theorem dX10_copy_7 : decode cX10_copy 7 = .ok (.aload_n 0, 1) := by decide +kernel
theorem dX10_copy_8 : decode cX10_copy 8 = .ok (.getfield 20, 3) := by decide +kernel
theorem dX10_copy_11 : decode cX10_copy 11 = .ok (.iconst 5, 1) := by decide +kernel
theorem dX10_copy_12 : decode cX10_copy 12 = .ok (.iload_n 1, 1) := by decide +kernel
theorem dX10_copy_13 : decode cX10_copy 13 = .ok (.iadd, 1) := by decide +kernel
theorem dX10_copy_14 : decode cX10_copy 14 = .ok (.aload_n 0, 1) := by decide +kernel
theorem dX10_copy_15 : decode cX10_copy 15 = .ok (.getfield 20, 3) := by decide +kernel
theorem dX10_copy_18 : decode cX10_copy 18 = .ok (.iload_n 1, 1) := by decide +kernel
theorem dX10_copy_19 : decode cX10_copy 19 = .ok (.iaload, 1) := by decide +kernel
theorem dX10_copy_20 : decode cX10_copy 20 = .ok (.iastore, 1) := by decide +kernel
theorem dX10_copy_21 : decode cX10_copy 21 = .ok (.iinc 1 1, 3) := by decide +kernel
theorem dX10_copy_24 : decode cX10_copy 24 = .ok (.goto (-22), 3) := by decide +kernel
theorem dX10_copy_27 : decode cX10_copy 27 = .ok (.iconst 0, 1) := by decide +kernel
theorem dX10_copy_28 : decode cX10_copy 28 = .ok (.istore_n 1, 1) := by decide +kernel
theorem dX10_copy_29 : decode cX10_copy 29 = .ok (.iload_n 1, 1) := by decide +kernel
theorem dX10_copy_30 : decode cX10_copy 30 = .ok (.bipush 25, 2) := by decide +kernel
theorem dX10_copy_32 : decode cX10_copy 32 = .ok (.if_icmp .ge 54, 3) := by decide +kernel
theorem dX10_copy_35 : decode cX10_copy 35 = .ok (.aload_n 0, 1) := by decide +kernel
theorem dX10_copy_36 : decode cX10_copy 36 = .ok (.getfield 23, 3) := by decide +kernel
theorem dX10_copy_39 : decode cX10_copy 39 = .ok (.bipush 25, 2) := by decide +kernel
theorem dX10_copy_41 : decode cX10_copy 41 = .ok (.iload_n 1, 1) := by decide +kernel
theorem dX10_copy_42 : decode cX10_copy 42 = .ok (.iadd, 1) := by decide +kernel
theorem dX10_copy_43 : decode cX10_copy 43 = .ok (.aload_n 0, 1) := by decide +kernel
theorem dX10_copy_44 : decode cX10_copy 44 = .ok (.getfield 23, 3) := by decide +kernel
theorem dX10_copy_47 : decode cX10_copy 47 = .ok (.iload_n 1, 1) := by decide +kernel
theorem dX10_copy_48 : decode cX10_copy 48 = .ok (.iaload, 1) := by decide +kernel
theorem dX10_copy_49 : decode cX10_copy 49 = .ok (.iastore, 1) := by decide +kernel
theorem dX10_copy_50 : decode cX10_copy 50 = .ok (.aload_n 0, 1) := by decide +kernel
theorem dX10_copy_51 : decode cX10_copy 51 = .ok (.getfield 26, 3) := by decide +kernel
theorem dX10_copy_54 : decode cX10_copy 54 = .ok (.bipush 25, 2) := by decide +kernel
theorem dX10_copy_56 : decode cX10_copy 56 = .ok (.iload_n 1, 1) := by decide +kernel
theorem dX10_copy_57 : decode cX10_copy 57 = .ok (.iadd, 1) := by decide +kernel
theorem dX10_copy_58 : decode cX10_copy 58 = .ok (.aload_n 0, 1) := by decide +kernel
theorem dX10_copy_59 : decode cX10_copy 59 = .ok (.getfield 26, 3) := by decide +kernel
theorem dX10_copy_62 : decode cX10_copy 62 = .ok (.iload_n 1, 1) := by decide +kernel
theorem dX10_copy_63 : decode cX10_copy 63 = .ok (.iaload, 1) := by decide +kernel
theorem dX10_copy_64 : decode cX10_copy 64 = .ok (.iastore, 1) := by decide +kernel
theorem dX10_copy_65 : decode cX10_copy 65 = .ok (.aload_n 0, 1) := by decide +kernel
theorem dX10_copy_66 : decode cX10_copy 66 = .ok (.getfield 29, 3) := by decide +kernel
theorem dX10_copy_69 : decode cX10_copy 69 = .ok (.bipush 25, 2) := by decide +kernel
theorem dX10_copy_71 : decode cX10_copy 71 = .ok (.iload_n 1, 1) := by decide +kernel
theorem dX10_copy_72 : decode cX10_copy 72 = .ok (.iadd, 1) := by decide +kernel
theorem dX10_copy_73 : decode cX10_copy 73 = .ok (.aload_n 0, 1) := by decide +kernel
theorem dX10_copy_74 : decode cX10_copy 74 = .ok (.getfield 29, 3) := by decide +kernel
theorem dX10_copy_77 : decode cX10_copy 77 = .ok (.iload_n 1, 1) := by decide +kernel
theorem dX10_copy_78 : decode cX10_copy 78 = .ok (.iaload, 1) := by decide +kernel
theorem dX10_copy_79 : decode cX10_copy 79 = .ok (.iastore, 1) := by decide +kernel
theorem dX10_copy_80 : decode cX10_copy 80 = .ok (.iinc 1 1, 3) := by decide +kernel
theorem dX10_copy_83 : decode cX10_copy 83 = .ok (.goto (-54), 3) := by decide +kernel
theorem dX10_copy_86 : decode cX10_copy 86 = .ok (.return_, 1) := by decide +kernel
theorem dX10_ruinNow_0 : decode cX10_ruinNow 0 = .ok (.aload_n 0, 1) := by decide +kernel
theorem dX10_ruinNow_1 : decode cX10_ruinNow 1 = .ok (.invokevirtual 151, 3) := by decide +kernel
theorem dX10_ruinNow_4 : decode cX10_ruinNow 4 = .ok (.iconst 0, 1) := by decide +kernel
theorem dX10_ruinNow_5 : decode cX10_ruinNow 5 = .ok (.istore_n 2, 1) := by decide +kernel
theorem dX10_ruinNow_6 : decode cX10_ruinNow 6 = .ok (.iload_n 2, 1) := by decide +kernel
theorem dX10_ruinNow_7 : decode cX10_ruinNow 7 = .ok (.bipush 40, 2) := by decide +kernel
theorem dX10_ruinNow_9 : decode cX10_ruinNow 9 = .ok (.if_icmp .gt 27, 3) := by decide +kernel
theorem dX10_ruinNow_12 : decode cX10_ruinNow 12 = .ok (.aload_n 0, 1) := by decide +kernel
theorem dX10_ruinNow_13 : decode cX10_ruinNow 13 = .ok (.iconst 1, 1) := by decide +kernel
theorem dX10_ruinNow_14 : decode cX10_ruinNow 14 = .ok (.iload_n 1, 1) := by decide +kernel
theorem dX10_ruinNow_15 : decode cX10_ruinNow 15 = .ok (.invokevirtual 110, 3) := by decide +kernel
theorem dX10_ruinNow_18 : decode cX10_ruinNow 18 = .ok (.ifCond .ge 5, 3) := by decide +kernel
theorem dX10_ruinNow_21 : decode cX10_ruinNow 21 = .ok (.iload_n 2, 1) := by decide +kernel
theorem dX10_ruinNow_22 : decode cX10_ruinNow 22 = .ok (.ireturn, 1) := by decide +kernel
theorem dX10_ruinNow_23 : decode cX10_ruinNow 23 = .ok (.aload_n 0, 1) := by decide +kernel
theorem dX10_ruinNow_24 : decode cX10_ruinNow 24 = .ok (.bipush 25, 2) := by decide +kernel
theorem dX10_ruinNow_26 : decode cX10_ruinNow 26 = .ok (.invokevirtual 147, 3) := by decide +kernel
theorem dX10_ruinNow_29 : decode cX10_ruinNow 29 = .ok (.pop, 1) := by decide +kernel
theorem dX10_ruinNow_30 : decode cX10_ruinNow 30 = .ok (.iinc 2 1, 3) := by decide +kernel
theorem dX10_ruinNow_33 : decode cX10_ruinNow 33 = .ok (.goto (-27), 3) := by decide +kernel
theorem dX10_ruinNow_36 : decode cX10_ruinNow 36 = .ok (.iconst (-1), 1) := by decide +kernel
theorem dX10_ruinNow_37 : decode cX10_ruinNow 37 = .ok (.ireturn, 1) := by decide +kernel
theorem dX10_ruin_0 : decode cX10_ruin 0 = .ok (.aload_n 0, 1) := by decide +kernel
theorem dX10_ruin_1 : decode cX10_ruin 1 = .ok (.iload_n 1, 1) := by decide +kernel
theorem dX10_ruin_2 : decode cX10_ruin 2 = .ok (.invokevirtual 96, 3) := by decide +kernel
theorem dX10_ruin_5 : decode cX10_ruin 5 = .ok (.ifCond .eq 11, 3) := by decide +kernel
theorem dX10_ruin_8 : decode cX10_ruin 8 = .ok (.aload_n 0, 1) := by decide +kernel
theorem dX10_ruin_9 : decode cX10_ruin 9 = .ok (.iload_n 1, 1) := by decide +kernel
theorem dX10_ruin_10 : decode cX10_ruin 10 = .ok (.invokevirtual 154, 3) := by decide +kernel
theorem dX10_ruin_13 : decode cX10_ruin 13 = .ok (.goto 5, 3) := by decide +kernel
theorem dX10_ruin_16 : decode cX10_ruin 16 = .ok (.bipush (-101), 2) := by decide +kernel
theorem dX10_ruin_18 : decode cX10_ruin 18 = .ok (.ireturn, 1) := by decide +kernel
theorem dX10_settlingNow_0 : decode cX10_settlingNow 0 = .ok (.iconst 0, 1) := by decide +kernel
theorem dX10_settlingNow_1 : decode cX10_settlingNow 1 = .ok (.istore_n 1, 1) := by decide +kernel
theorem dX10_settlingNow_2 : decode cX10_settlingNow 2 = .ok (.iconst 0, 1) := by decide +kernel
theorem dX10_settlingNow_3 : decode cX10_settlingNow 3 = .ok (.istore_n 2, 1) := by decide +kernel
theorem dX10_settlingNow_4 : decode cX10_settlingNow 4 = .ok (.iload_n 2, 1) := by decide +kernel
theorem dX10_settlingNow_5 : decode cX10_settlingNow 5 = .ok (.aload_n 0, 1) := by decide +kernel
theorem dX10_settlingNow_6 : decode cX10_settlingNow 6 = .ok (.getfield 93, 3) := by decide +kernel
theorem dX10_settlingNow_9 : decode cX10_settlingNow 9 = .ok (.if_icmp .ge 34, 3) := by decide +kernel
theorem dX10_settlingNow_12 : decode cX10_settlingNow 12 = .ok (.iload_n 1, 1) := by decide +kernel
theorem dX10_settlingNow_13 : decode cX10_settlingNow 13 = .ok (.aload_n 0, 1) := by decide +kernel
theorem dX10_settlingNow_14 : decode cX10_settlingNow 14 = .ok (.iconst 0, 1) := by decide +kernel
theorem dX10_settlingNow_15 : decode cX10_settlingNow 15 = .ok (.iload_n 2, 1) := by decide +kernel
theorem dX10_settlingNow_16 : decode cX10_settlingNow 16 = .ok (.invokevirtual 107, 3) := by decide +kernel
theorem dX10_settlingNow_19 : decode cX10_settlingNow 19 = .ok (.aload_n 0, 1) := by decide +kernel
theorem dX10_settlingNow_20 : decode cX10_settlingNow 20 = .ok (.iconst 0, 1) := by decide +kernel
theorem dX10_settlingNow_21 : decode cX10_settlingNow 21 = .ok (.iload_n 2, 1) := by decide +kernel
theorem dX10_settlingNow_22 : decode cX10_settlingNow 22 = .ok (.invokevirtual 103, 3) := by decide +kernel
theorem dX10_settlingNow_25 : decode cX10_settlingNow 25 = .ok (.if_icmp .ne 7, 3) := by decide +kernel
theorem dX10_settlingNow_28 : decode cX10_settlingNow 28 = .ok (.iconst 0, 1) := by decide +kernel
theorem dX10_settlingNow_29 : decode cX10_settlingNow 29 = .ok (.goto 6, 3) := by decide +kernel
theorem dX10_settlingNow_32 : decode cX10_settlingNow 32 = .ok (.iconst 1, 1) := by decide +kernel
theorem dX10_settlingNow_33 : decode cX10_settlingNow 33 = .ok (.iload_n 2, 1) := by decide +kernel
theorem dX10_settlingNow_34 : decode cX10_settlingNow 34 = .ok (.ishl, 1) := by decide +kernel
theorem dX10_settlingNow_35 : decode cX10_settlingNow 35 = .ok (.iadd, 1) := by decide +kernel
theorem dX10_settlingNow_36 : decode cX10_settlingNow 36 = .ok (.istore_n 1, 1) := by decide +kernel
theorem dX10_settlingNow_37 : decode cX10_settlingNow 37 = .ok (.iinc 2 1, 3) := by decide +kernel
theorem dX10_settlingNow_40 : decode cX10_settlingNow 40 = .ok (.goto (-36), 3) := by decide +kernel
theorem dX10_settlingNow_43 : decode cX10_settlingNow 43 = .ok (.iconst 0, 1) := by decide +kernel
theorem dX10_settlingNow_44 : decode cX10_settlingNow 44 = .ok (.istore_n 2, 1) := by decide +kernel
theorem dX10_settlingNow_45 : decode cX10_settlingNow 45 = .ok (.iload_n 2, 1) := by decide +kernel
theorem dX10_settlingNow_46 : decode cX10_settlingNow 46 = .ok (.iconst 1, 1) := by decide +kernel
theorem dX10_settlingNow_47 : decode cX10_settlingNow 47 = .ok (.aload_n 0, 1) := by decide +kernel
theorem dX10_settlingNow_48 : decode cX10_settlingNow 48 = .ok (.getfield 93, 3) := by decide +kernel
theorem dX10_settlingNow_51 : decode cX10_settlingNow 51 = .ok (.ishl, 1) := by decide +kernel
theorem dX10_settlingNow_52 : decode cX10_settlingNow 52 = .ok (.if_icmp .ge 74, 3) := by decide +kernel
theorem dX10_settlingNow_55 : decode cX10_settlingNow 55 = .ok (.aload_n 0, 1) := by decide +kernel
theorem dX10_settlingNow_56 : decode cX10_settlingNow 56 = .ok (.getfield 45, 3) := by decide +kernel
theorem dX10_settlingNow_59 : decode cX10_settlingNow 59 = .ok (.iload_n 2, 1) := by decide +kernel
theorem dX10_settlingNow_60 : decode cX10_settlingNow 60 = .ok (.iconst 0, 1) := by decide +kernel
theorem dX10_settlingNow_61 : decode cX10_settlingNow 61 = .ok (.iastore, 1) := by decide +kernel
theorem dX10_settlingNow_62 : decode cX10_settlingNow 62 = .ok (.aload_n 0, 1) := by decide +kernel
theorem dX10_settlingNow_63 : decode cX10_settlingNow 63 = .ok (.getfield 48, 3) := by decide +kernel
theorem dX10_settlingNow_66 : decode cX10_settlingNow 66 = .ok (.iload_n 2, 1) := by decide +kernel
theorem dX10_settlingNow_67 : decode cX10_settlingNow 67 = .ok (.iconst 0, 1) := by decide +kernel
theorem dX10_settlingNow_68 : decode cX10_settlingNow 68 = .ok (.iastore, 1) := by decide +kernel
theorem dX10_settlingNow_69 : decode cX10_settlingNow 69 = .ok (.iconst 0, 1) := by decide +kernel
theorem dX10_settlingNow_70 : decode cX10_settlingNow 70 = .ok (.istore_n 3, 1) := by decide +kernel
theorem dX10_settlingNow_71 : decode cX10_settlingNow 71 = .ok (.iload_n 3, 1) := by decide +kernel
theorem dX10_settlingNow_72 : decode cX10_settlingNow 72 = .ok (.aload_n 0, 1) := by decide +kernel
theorem dX10_settlingNow_73 : decode cX10_settlingNow 73 = .ok (.getfield 93, 3) := by decide +kernel
theorem dX10_settlingNow_76 : decode cX10_settlingNow 76 = .ok (.if_icmp .ge 44, 3) := by decide +kernel
theorem dX10_settlingNow_79 : decode cX10_settlingNow 79 = .ok (.aload_n 0, 1) := by decide +kernel
theorem dX10_settlingNow_80 : decode cX10_settlingNow 80 = .ok (.getfield 45, 3) := by decide +kernel
theorem dX10_settlingNow_83 : decode cX10_settlingNow 83 = .ok (.iload_n 2, 1) := by decide +kernel
theorem dX10_settlingNow_84 : decode cX10_settlingNow 84 = .ok (.dup2, 1) := by decide +kernel
theorem dX10_settlingNow_85 : decode cX10_settlingNow 85 = .ok (.iaload, 1) := by decide +kernel
theorem dX10_settlingNow_86 : decode cX10_settlingNow 86 = .ok (.iload_n 2, 1) := by decide +kernel
theorem dX10_settlingNow_87 : decode cX10_settlingNow 87 = .ok (.iload_n 3, 1) := by decide +kernel
theorem dX10_settlingNow_88 : decode cX10_settlingNow 88 = .ok (.ishr, 1) := by decide +kernel
theorem dX10_settlingNow_89 : decode cX10_settlingNow 89 = .ok (.iconst 1, 1) := by decide +kernel
theorem dX10_settlingNow_90 : decode cX10_settlingNow 90 = .ok (.iand, 1) := by decide +kernel
theorem dX10_settlingNow_91 : decode cX10_settlingNow 91 = .ok (.iconst 1, 1) := by decide +kernel
theorem dX10_settlingNow_92 : decode cX10_settlingNow 92 = .ok (.if_icmp .ne 19, 3) := by decide +kernel
theorem dX10_settlingNow_95 : decode cX10_settlingNow 95 = .ok (.aload_n 0, 1) := by decide +kernel
theorem dX10_settlingNow_96 : decode cX10_settlingNow 96 = .ok (.iconst 0, 1) := by decide +kernel
theorem dX10_settlingNow_97 : decode cX10_settlingNow 97 = .ok (.iload_n 3, 1) := by decide +kernel
theorem dX10_settlingNow_98 : decode cX10_settlingNow 98 = .ok (.invokevirtual 107, 3) := by decide +kernel
theorem dX10_settlingNow_101 : decode cX10_settlingNow 101 = .ok (.aload_n 0, 1) := by decide +kernel
theorem dX10_settlingNow_102 : decode cX10_settlingNow 102 = .ok (.iconst 0, 1) := by decide +kernel
theorem dX10_settlingNow_103 : decode cX10_settlingNow 103 = .ok (.iload_n 3, 1) := by decide +kernel
theorem dX10_settlingNow_104 : decode cX10_settlingNow 104 = .ok (.invokevirtual 103, 3) := by decide +kernel
theorem dX10_settlingNow_107 : decode cX10_settlingNow 107 = .ok (.isub, 1) := by decide +kernel
theorem dX10_settlingNow_108 : decode cX10_settlingNow 108 = .ok (.goto 4, 3) := by decide +kernel
theorem dX10_settlingNow_111 : decode cX10_settlingNow 111 = .ok (.iconst 0, 1) := by decide +kernel
theorem dX10_settlingNow_112 : decode cX10_settlingNow 112 = .ok (.iadd, 1) := by decide +kernel
theorem dX10_settlingNow_113 : decode cX10_settlingNow 113 = .ok (.iastore, 1) := by decide +kernel
theorem dX10_settlingNow_114 : decode cX10_settlingNow 114 = .ok (.iinc 3 1, 3) := by decide +kernel
theorem dX10_settlingNow_117 : decode cX10_settlingNow 117 = .ok (.goto (-46), 3) := by decide +kernel
theorem dX10_settlingNow_120 : decode cX10_settlingNow 120 = .ok (.iinc 2 1, 3) := by decide +kernel
theorem dX10_settlingNow_123 : decode cX10_settlingNow 123 = .ok (.goto (-78), 3) := by decide +kernel
theorem dX10_settlingNow_126 : decode cX10_settlingNow 126 = .ok (.iconst 1, 1) := by decide +kernel
theorem dX10_settlingNow_127 : decode cX10_settlingNow 127 = .ok (.istore_n 2, 1) := by decide +kernel
theorem dX10_settlingNow_128 : decode cX10_settlingNow 128 = .ok (.iload_n 2, 1) := by decide +kernel
theorem dX10_settlingNow_129 : decode cX10_settlingNow 129 = .ok (.iconst 1, 1) := by decide +kernel
theorem dX10_settlingNow_130 : decode cX10_settlingNow 130 = .ok (.aload_n 0, 1) := by decide +kernel
theorem dX10_settlingNow_131 : decode cX10_settlingNow 131 = .ok (.getfield 93, 3) := by decide +kernel
theorem dX10_settlingNow_134 : decode cX10_settlingNow 134 = .ok (.ishl, 1) := by decide +kernel
theorem dX10_settlingNow_135 : decode cX10_settlingNow 135 = .ok (.if_icmp .ge 15, 3) := by decide +kernel
theorem dX10_settlingNow_138 : decode cX10_settlingNow 138 = .ok (.aload_n 0, 1) := by decide +kernel
theorem dX10_settlingNow_139 : decode cX10_settlingNow 139 = .ok (.iload_n 2, 1) := by decide +kernel
theorem dX10_settlingNow_140 : decode cX10_settlingNow 140 = .ok (.iload_n 1, 1) := by decide +kernel
theorem dX10_settlingNow_141 : decode cX10_settlingNow 141 = .ok (.invokevirtual 157, 3) := by decide +kernel
theorem dX10_settlingNow_144 : decode cX10_settlingNow 144 = .ok (.iinc 2 1, 3) := by decide +kernel
theorem dX10_settlingNow_147 : decode cX10_settlingNow 147 = .ok (.goto (-19), 3) := by decide +kernel
theorem dX10_settlingNow_150 : decode cX10_settlingNow 150 = .ok (.iload_n 1, 1) := by decide +kernel
theorem dX10_settlingNow_151 : decode cX10_settlingNow 151 = .ok (.invokestatic 161, 3) := by decide +kernel
theorem dX10_settlingNow_154 : decode cX10_settlingNow 154 = .ok (.aload_n 0, 1) := by decide +kernel
theorem dX10_settlingNow_155 : decode cX10_settlingNow 155 = .ok (.getfield 48, 3) := by decide +kernel
theorem dX10_settlingNow_158 : decode cX10_settlingNow 158 = .ok (.iload_n 1, 1) := by decide +kernel
theorem dX10_settlingNow_159 : decode cX10_settlingNow 159 = .ok (.iaload, 1) := by decide +kernel
theorem dX10_settlingNow_160 : decode cX10_settlingNow 160 = .ok (.isub, 1) := by decide +kernel
theorem dX10_settlingNow_161 : decode cX10_settlingNow 161 = .ok (.ireturn, 1) := by decide +kernel
theorem dX10_layGroups_0 : decode cX10_layGroups 0 = .ok (.iconst 1, 1) := by decide +kernel
theorem dX10_layGroups_1 : decode cX10_layGroups 1 = .ok (.istore_n 3, 1) := by decide +kernel
theorem dX10_layGroups_2 : decode cX10_layGroups 2 = .ok (.iload_n 3, 1) := by decide +kernel
theorem dX10_layGroups_3 : decode cX10_layGroups 3 = .ok (.iload_n 1, 1) := by decide +kernel
theorem dX10_layGroups_4 : decode cX10_layGroups 4 = .ok (.if_icmp .gt 82, 3) := by decide +kernel
theorem dX10_layGroups_7 : decode cX10_layGroups 7 = .ok (.iload_n 3, 1) := by decide +kernel
theorem dX10_layGroups_8 : decode cX10_layGroups 8 = .ok (.iload_n 1, 1) := by decide +kernel
theorem dX10_layGroups_9 : decode cX10_layGroups 9 = .ok (.iconst (-1), 1) := by decide +kernel
theorem dX10_layGroups_10 : decode cX10_layGroups 10 = .ok (.ixor, 1) := by decide +kernel
theorem dX10_layGroups_11 : decode cX10_layGroups 11 = .ok (.iand, 1) := by decide +kernel
theorem dX10_layGroups_12 : decode cX10_layGroups 12 = .ok (.ifCond .ne 24, 3) := by decide +kernel
theorem dX10_layGroups_15 : decode cX10_layGroups 15 = .ok (.iload_n 3, 1) := by decide +kernel
theorem dX10_layGroups_16 : decode cX10_layGroups 16 = .ok (.iload_n 2, 1) := by decide +kernel
theorem dX10_layGroups_17 : decode cX10_layGroups 17 = .ok (.iconst (-1), 1) := by decide +kernel
theorem dX10_layGroups_18 : decode cX10_layGroups 18 = .ok (.ixor, 1) := by decide +kernel
theorem dX10_layGroups_19 : decode cX10_layGroups 19 = .ok (.iand, 1) := by decide +kernel
theorem dX10_layGroups_20 : decode cX10_layGroups 20 = .ok (.ifCond .ne 16, 3) := by decide +kernel
theorem dX10_layGroups_23 : decode cX10_layGroups 23 = .ok (.aload_n 0, 1) := by decide +kernel
theorem dX10_layGroups_24 : decode cX10_layGroups 24 = .ok (.getfield 45, 3) := by decide +kernel
theorem dX10_layGroups_27 : decode cX10_layGroups 27 = .ok (.iload_n 3, 1) := by decide +kernel
theorem dX10_layGroups_28 : decode cX10_layGroups 28 = .ok (.iaload, 1) := by decide +kernel
theorem dX10_layGroups_29 : decode cX10_layGroups 29 = .ok (.ifCond .ne 7, 3) := by decide +kernel
theorem dX10_layGroups_32 : decode cX10_layGroups 32 = .ok (.iconst 1, 1) := by decide +kernel
theorem dX10_layGroups_33 : decode cX10_layGroups 33 = .ok (.goto 4, 3) := by decide +kernel
theorem dX10_layGroups_36 : decode cX10_layGroups 36 = .ok (.iconst 0, 1) := by decide +kernel
theorem dX10_layGroups_37 : decode cX10_layGroups 37 = .ok (.istore 4, 2) := by decide +kernel
theorem dX10_layGroups_39 : decode cX10_layGroups 39 = .ok (.aload_n 0, 1) := by decide +kernel
theorem dX10_layGroups_40 : decode cX10_layGroups 40 = .ok (.getfield 48, 3) := by decide +kernel
theorem dX10_layGroups_43 : decode cX10_layGroups 43 = .ok (.iload_n 1, 1) := by decide +kernel
theorem dX10_layGroups_44 : decode cX10_layGroups 44 = .ok (.iload 4, 2) := by decide +kernel
theorem dX10_layGroups_46 : decode cX10_layGroups 46 = .ok (.ifCond .eq 27, 3) := by decide +kernel
theorem dX10_layGroups_49 : decode cX10_layGroups 49 = .ok (.aload_n 0, 1) := by decide +kernel
theorem dX10_layGroups_50 : decode cX10_layGroups 50 = .ok (.getfield 48, 3) := by decide +kernel
theorem dX10_layGroups_53 : decode cX10_layGroups 53 = .ok (.iload_n 1, 1) := by decide +kernel
theorem dX10_layGroups_54 : decode cX10_layGroups 54 = .ok (.iaload, 1) := by decide +kernel
theorem dX10_layGroups_55 : decode cX10_layGroups 55 = .ok (.aload_n 0, 1) := by decide +kernel
theorem dX10_layGroups_56 : decode cX10_layGroups 56 = .ok (.getfield 48, 3) := by decide +kernel
theorem dX10_layGroups_59 : decode cX10_layGroups 59 = .ok (.iload_n 1, 1) := by decide +kernel
theorem dX10_layGroups_60 : decode cX10_layGroups 60 = .ok (.iload_n 3, 1) := by decide +kernel
theorem dX10_layGroups_61 : decode cX10_layGroups 61 = .ok (.iconst (-1), 1) := by decide +kernel
theorem dX10_layGroups_62 : decode cX10_layGroups 62 = .ok (.ixor, 1) := by decide +kernel
theorem dX10_layGroups_63 : decode cX10_layGroups 63 = .ok (.iand, 1) := by decide +kernel
theorem dX10_layGroups_64 : decode cX10_layGroups 64 = .ok (.iaload, 1) := by decide +kernel
theorem dX10_layGroups_65 : decode cX10_layGroups 65 = .ok (.iconst 1, 1) := by decide +kernel
theorem dX10_layGroups_66 : decode cX10_layGroups 66 = .ok (.iadd, 1) := by decide +kernel
theorem dX10_layGroups_67 : decode cX10_layGroups 67 = .ok (.invokestatic 127, 3) := by decide +kernel
theorem dX10_layGroups_70 : decode cX10_layGroups 70 = .ok (.goto 9, 3) := by decide +kernel
theorem dX10_layGroups_73 : decode cX10_layGroups 73 = .ok (.aload_n 0, 1) := by decide +kernel
theorem dX10_layGroups_74 : decode cX10_layGroups 74 = .ok (.getfield 48, 3) := by decide +kernel
theorem dX10_layGroups_77 : decode cX10_layGroups 77 = .ok (.iload_n 1, 1) := by decide +kernel
theorem dX10_layGroups_78 : decode cX10_layGroups 78 = .ok (.iaload, 1) := by decide +kernel
theorem dX10_layGroups_79 : decode cX10_layGroups 79 = .ok (.iastore, 1) := by decide +kernel
theorem dX10_layGroups_80 : decode cX10_layGroups 80 = .ok (.iinc 3 1, 3) := by decide +kernel
theorem dX10_layGroups_83 : decode cX10_layGroups 83 = .ok (.goto (-81), 3) := by decide +kernel
theorem dX10_layGroups_86 : decode cX10_layGroups 86 = .ok (.return_, 1) := by decide +kernel
theorem dX10_settling_0 : decode cX10_settling 0 = .ok (.aload_n 0, 1) := by decide +kernel
theorem dX10_settling_1 : decode cX10_settling 1 = .ok (.invokevirtual 164, 3) := by decide +kernel
theorem dX10_settling_4 : decode cX10_settling 4 = .ok (.ireturn, 1) := by decide +kernel
theorem dX10_ringBy_0 : decode cX10_ringBy 0 = .ok (.iload_n 1, 1) := by decide +kernel
theorem dX10_ringBy_1 : decode cX10_ringBy 1 = .ok (.istore_n 3, 1) := by decide +kernel
theorem dX10_ringBy_2 : decode cX10_ringBy 2 = .ok (.iload_n 2, 1) := by decide +kernel
theorem dX10_ringBy_3 : decode cX10_ringBy 3 = .ok (.iconst 1, 1) := by decide +kernel
theorem dX10_ringBy_4 : decode cX10_ringBy 4 = .ok (.isub, 1) := by decide +kernel
theorem dX10_ringBy_5 : decode cX10_ringBy 5 = .ok (.istore 4, 2) := by decide +kernel
theorem dX10_ringBy_7 : decode cX10_ringBy 7 = .ok (.iload 4, 2) := by decide +kernel
theorem dX10_ringBy_9 : decode cX10_ringBy 9 = .ok (.ifCond .lt 23, 3) := by decide +kernel
theorem dX10_ringBy_12 : decode cX10_ringBy 12 = .ok (.aload_n 0, 1) := by decide +kernel
theorem dX10_ringBy_13 : decode cX10_ringBy 13 = .ok (.getfield 51, 3) := by decide +kernel
theorem dX10_ringBy_16 : decode cX10_ringBy 16 = .ok (.iload 4, 2) := by decide +kernel
theorem dX10_ringBy_18 : decode cX10_ringBy 18 = .ok (.iload_n 3, 1) := by decide +kernel
theorem dX10_ringBy_19 : decode cX10_ringBy 19 = .ok (.iconst 5, 1) := by decide +kernel
theorem dX10_ringBy_20 : decode cX10_ringBy 20 = .ok (.irem, 1) := by decide +kernel
theorem dX10_ringBy_21 : decode cX10_ringBy 21 = .ok (.iastore, 1) := by decide +kernel
theorem dX10_ringBy_22 : decode cX10_ringBy 22 = .ok (.iload_n 3, 1) := by decide +kernel
theorem dX10_ringBy_23 : decode cX10_ringBy 23 = .ok (.iconst 5, 1) := by decide +kernel
theorem dX10_ringBy_24 : decode cX10_ringBy 24 = .ok (.idiv, 1) := by decide +kernel
theorem dX10_ringBy_25 : decode cX10_ringBy 25 = .ok (.istore_n 3, 1) := by decide +kernel
theorem dX10_ringBy_26 : decode cX10_ringBy 26 = .ok (.iinc 4 (-1), 3) := by decide +kernel
theorem dX10_ringBy_29 : decode cX10_ringBy 29 = .ok (.goto (-22), 3) := by decide +kernel
theorem dX10_ringBy_32 : decode cX10_ringBy 32 = .ok (.iconst 1, 1) := by decide +kernel
theorem dX10_ringBy_33 : decode cX10_ringBy 33 = .ok (.istore 4, 2) := by decide +kernel
theorem dX10_ringBy_35 : decode cX10_ringBy 35 = .ok (.iconst 0, 1) := by decide +kernel
theorem dX10_ringBy_36 : decode cX10_ringBy 36 = .ok (.istore 5, 2) := by decide +kernel
theorem dX10_ringBy_38 : decode cX10_ringBy 38 = .ok (.iconst 0, 1) := by decide +kernel
theorem dX10_ringBy_39 : decode cX10_ringBy 39 = .ok (.istore 6, 2) := by decide +kernel
theorem dX10_ringBy_41 : decode cX10_ringBy 41 = .ok (.iload 6, 2) := by decide +kernel
theorem dX10_ringBy_43 : decode cX10_ringBy 43 = .ok (.iload_n 2, 1) := by decide +kernel
theorem dX10_ringBy_44 : decode cX10_ringBy 44 = .ok (.if_icmp .ge 80, 3) := by decide +kernel
theorem dX10_ringBy_47 : decode cX10_ringBy 47 = .ok (.iload 4, 2) := by decide +kernel
theorem dX10_ringBy_49 : decode cX10_ringBy 49 = .ok (.ifCond .eq 52, 3) := by decide +kernel
theorem dX10_ringBy_52 : decode cX10_ringBy 52 = .ok (.aload_n 0, 1) := by decide +kernel
theorem dX10_ringBy_53 : decode cX10_ringBy 53 = .ok (.getfield 51, 3) := by decide +kernel
theorem dX10_ringBy_56 : decode cX10_ringBy 56 = .ok (.iload 6, 2) := by decide +kernel
theorem dX10_ringBy_58 : decode cX10_ringBy 58 = .ok (.iaload, 1) := by decide +kernel
theorem dX10_ringBy_59 : decode cX10_ringBy 59 = .ok (.aload_n 0, 1) := by decide +kernel
theorem dX10_ringBy_60 : decode cX10_ringBy 60 = .ok (.getfield 93, 3) := by decide +kernel
theorem dX10_ringBy_63 : decode cX10_ringBy 63 = .ok (.if_icmp .ge 38, 3) := by decide +kernel
theorem dX10_ringBy_66 : decode cX10_ringBy 66 = .ok (.iload 5, 2) := by decide +kernel
theorem dX10_ringBy_68 : decode cX10_ringBy 68 = .ok (.aload_n 0, 1) := by decide +kernel
theorem dX10_ringBy_69 : decode cX10_ringBy 69 = .ok (.getfield 51, 3) := by decide +kernel
theorem dX10_ringBy_72 : decode cX10_ringBy 72 = .ok (.iload 6, 2) := by decide +kernel
theorem dX10_ringBy_74 : decode cX10_ringBy 74 = .ok (.iaload, 1) := by decide +kernel
theorem dX10_ringBy_75 : decode cX10_ringBy 75 = .ok (.ishr, 1) := by decide +kernel
theorem dX10_ringBy_76 : decode cX10_ringBy 76 = .ok (.iconst 1, 1) := by decide +kernel
theorem dX10_ringBy_77 : decode cX10_ringBy 77 = .ok (.iand, 1) := by decide +kernel
theorem dX10_ringBy_78 : decode cX10_ringBy 78 = .ok (.ifCond .ne 23, 3) := by decide +kernel
theorem dX10_ringBy_81 : decode cX10_ringBy 81 = .ok (.aload_n 0, 1) := by decide +kernel
theorem dX10_ringBy_82 : decode cX10_ringBy 82 = .ok (.getfield 51, 3) := by decide +kernel
theorem dX10_ringBy_85 : decode cX10_ringBy 85 = .ok (.iload 6, 2) := by decide +kernel
theorem dX10_ringBy_87 : decode cX10_ringBy 87 = .ok (.iaload, 1) := by decide +kernel
theorem dX10_ringBy_88 : decode cX10_ringBy 88 = .ok (.aload_n 0, 1) := by decide +kernel
theorem dX10_ringBy_89 : decode cX10_ringBy 89 = .ok (.getfield 51, 3) := by decide +kernel
theorem dX10_ringBy_92 : decode cX10_ringBy 92 = .ok (.iconst 0, 1) := by decide +kernel
theorem dX10_ringBy_93 : decode cX10_ringBy 93 = .ok (.iaload, 1) := by decide +kernel
theorem dX10_ringBy_94 : decode cX10_ringBy 94 = .ok (.if_icmp .lt 7, 3) := by decide +kernel
theorem dX10_ringBy_97 : decode cX10_ringBy 97 = .ok (.iconst 1, 1) := by decide +kernel
theorem dX10_ringBy_98 : decode cX10_ringBy 98 = .ok (.goto 4, 3) := by decide +kernel
theorem dX10_ringBy_101 : decode cX10_ringBy 101 = .ok (.iconst 0, 1) := by decide +kernel
theorem dX10_ringBy_102 : decode cX10_ringBy 102 = .ok (.istore 4, 2) := by decide +kernel
theorem dX10_ringBy_104 : decode cX10_ringBy 104 = .ok (.iload 5, 2) := by decide +kernel
theorem dX10_ringBy_106 : decode cX10_ringBy 106 = .ok (.iconst 1, 1) := by decide +kernel
theorem dX10_ringBy_107 : decode cX10_ringBy 107 = .ok (.aload_n 0, 1) := by decide +kernel
theorem dX10_ringBy_108 : decode cX10_ringBy 108 = .ok (.getfield 51, 3) := by decide +kernel
theorem dX10_ringBy_111 : decode cX10_ringBy 111 = .ok (.iload 6, 2) := by decide +kernel
theorem dX10_ringBy_113 : decode cX10_ringBy 113 = .ok (.iaload, 1) := by decide +kernel
theorem dX10_ringBy_114 : decode cX10_ringBy 114 = .ok (.ishl, 1) := by decide +kernel
theorem dX10_ringBy_115 : decode cX10_ringBy 115 = .ok (.ior, 1) := by decide +kernel
theorem dX10_ringBy_116 : decode cX10_ringBy 116 = .ok (.istore 5, 2) := by decide +kernel
theorem dX10_ringBy_118 : decode cX10_ringBy 118 = .ok (.iinc 6 1, 3) := by decide +kernel
theorem dX10_ringBy_121 : decode cX10_ringBy 121 = .ok (.goto (-80), 3) := by decide +kernel
theorem dX10_ringBy_124 : decode cX10_ringBy 124 = .ok (.ldc 167, 2) := by decide +kernel
theorem dX10_ringBy_126 : decode cX10_ringBy 126 = .ok (.istore 6, 2) := by decide +kernel
theorem dX10_ringBy_128 : decode cX10_ringBy 128 = .ok (.iconst 0, 1) := by decide +kernel
theorem dX10_ringBy_129 : decode cX10_ringBy 129 = .ok (.istore 7, 2) := by decide +kernel
theorem dX10_ringBy_131 : decode cX10_ringBy 131 = .ok (.iload 7, 2) := by decide +kernel
theorem dX10_ringBy_133 : decode cX10_ringBy 133 = .ok (.iload_n 2, 1) := by decide +kernel
theorem dX10_ringBy_134 : decode cX10_ringBy 134 = .ok (.if_icmp .ge 47, 3) := by decide +kernel
theorem dX10_ringBy_137 : decode cX10_ringBy 137 = .ok (.iload 4, 2) := by decide +kernel
theorem dX10_ringBy_139 : decode cX10_ringBy 139 = .ok (.ifCond .eq 42, 3) := by decide +kernel
theorem dX10_ringBy_142 : decode cX10_ringBy 142 = .ok (.iload 6, 2) := by decide +kernel
theorem dX10_ringBy_144 : decode cX10_ringBy 144 = .ok (.aload_n 0, 1) := by decide +kernel
theorem dX10_ringBy_145 : decode cX10_ringBy 145 = .ok (.getfield 23, 3) := by decide +kernel
theorem dX10_ringBy_148 : decode cX10_ringBy 148 = .ok (.iconst 5, 1) := by decide +kernel
theorem dX10_ringBy_149 : decode cX10_ringBy 149 = .ok (.aload_n 0, 1) := by decide +kernel
theorem dX10_ringBy_150 : decode cX10_ringBy 150 = .ok (.getfield 51, 3) := by decide +kernel
theorem dX10_ringBy_153 : decode cX10_ringBy 153 = .ok (.iload 7, 2) := by decide +kernel
theorem dX10_ringBy_155 : decode cX10_ringBy 155 = .ok (.iaload, 1) := by decide +kernel
theorem dX10_ringBy_156 : decode cX10_ringBy 156 = .ok (.imul, 1) := by decide +kernel
theorem dX10_ringBy_157 : decode cX10_ringBy 157 = .ok (.aload_n 0, 1) := by decide +kernel
theorem dX10_ringBy_158 : decode cX10_ringBy 158 = .ok (.getfield 51, 3) := by decide +kernel
theorem dX10_ringBy_161 : decode cX10_ringBy 161 = .ok (.iload 7, 2) := by decide +kernel
theorem dX10_ringBy_163 : decode cX10_ringBy 163 = .ok (.iconst 1, 1) := by decide +kernel
theorem dX10_ringBy_164 : decode cX10_ringBy 164 = .ok (.iadd, 1) := by decide +kernel
theorem dX10_ringBy_165 : decode cX10_ringBy 165 = .ok (.iload_n 2, 1) := by decide +kernel
theorem dX10_ringBy_166 : decode cX10_ringBy 166 = .ok (.irem, 1) := by decide +kernel
theorem dX10_ringBy_167 : decode cX10_ringBy 167 = .ok (.iaload, 1) := by decide +kernel
theorem dX10_ringBy_168 : decode cX10_ringBy 168 = .ok (.iadd, 1) := by decide +kernel
theorem dX10_ringBy_169 : decode cX10_ringBy 169 = .ok (.iaload, 1) := by decide +kernel
theorem dX10_ringBy_170 : decode cX10_ringBy 170 = .ok (.invokestatic 124, 3) := by decide +kernel
theorem dX10_ringBy_173 : decode cX10_ringBy 173 = .ok (.istore 6, 2) := by decide +kernel
theorem dX10_ringBy_175 : decode cX10_ringBy 175 = .ok (.iinc 7 1, 3) := by decide +kernel
theorem dX10_ringBy_178 : decode cX10_ringBy 178 = .ok (.goto (-47), 3) := by decide +kernel
theorem dX10_ringBy_181 : decode cX10_ringBy 181 = .ok (.iload 4, 2) := by decide +kernel
theorem dX10_ringBy_183 : decode cX10_ringBy 183 = .ok (.ifCond .eq 8, 3) := by decide +kernel
theorem dX10_ringBy_186 : decode cX10_ringBy 186 = .ok (.iload 6, 2) := by decide +kernel
theorem dX10_ringBy_188 : decode cX10_ringBy 188 = .ok (.goto 4, 3) := by decide +kernel
theorem dX10_ringBy_191 : decode cX10_ringBy 191 = .ok (.iconst 0, 1) := by decide +kernel
theorem dX10_ringBy_192 : decode cX10_ringBy 192 = .ok (.ireturn, 1) := by decide +kernel
theorem dX10_bestRingNow_0 : decode cX10_bestRingNow 0 = .ok (.iconst 0, 1) := by decide +kernel
theorem dX10_bestRingNow_1 : decode cX10_bestRingNow 1 = .ok (.istore_n 2, 1) := by decide +kernel
theorem dX10_bestRingNow_2 : decode cX10_bestRingNow 2 = .ok (.iconst (-1), 1) := by decide +kernel
theorem dX10_bestRingNow_3 : decode cX10_bestRingNow 3 = .ok (.istore_n 3, 1) := by decide +kernel
theorem dX10_bestRingNow_4 : decode cX10_bestRingNow 4 = .ok (.iconst 0, 1) := by decide +kernel
theorem dX10_bestRingNow_5 : decode cX10_bestRingNow 5 = .ok (.istore 4, 2) := by decide +kernel
theorem dX10_bestRingNow_7 : decode cX10_bestRingNow 7 = .ok (.iconst 5, 1) := by decide +kernel
theorem dX10_bestRingNow_8 : decode cX10_bestRingNow 8 = .ok (.istore 5, 2) := by decide +kernel
theorem dX10_bestRingNow_10 : decode cX10_bestRingNow 10 = .ok (.iconst 2, 1) := by decide +kernel
theorem dX10_bestRingNow_11 : decode cX10_bestRingNow 11 = .ok (.istore 6, 2) := by decide +kernel
theorem dX10_bestRingNow_13 : decode cX10_bestRingNow 13 = .ok (.iload 6, 2) := by decide +kernel
theorem dX10_bestRingNow_15 : decode cX10_bestRingNow 15 = .ok (.iconst 4, 1) := by decide +kernel
theorem dX10_bestRingNow_16 : decode cX10_bestRingNow 16 = .ok (.if_icmp .gt 79, 3) := by decide +kernel
theorem dX10_bestRingNow_19 : decode cX10_bestRingNow 19 = .ok (.iload 5, 2) := by decide +kernel
theorem dX10_bestRingNow_21 : decode cX10_bestRingNow 21 = .ok (.iconst 5, 1) := by decide +kernel
theorem dX10_bestRingNow_22 : decode cX10_bestRingNow 22 = .ok (.imul, 1) := by decide +kernel
theorem dX10_bestRingNow_23 : decode cX10_bestRingNow 23 = .ok (.istore 5, 2) := by decide +kernel
theorem dX10_bestRingNow_25 : decode cX10_bestRingNow 25 = .ok (.iconst 0, 1) := by decide +kernel
theorem dX10_bestRingNow_26 : decode cX10_bestRingNow 26 = .ok (.istore 7, 2) := by decide +kernel
theorem dX10_bestRingNow_28 : decode cX10_bestRingNow 28 = .ok (.iload 7, 2) := by decide +kernel
theorem dX10_bestRingNow_30 : decode cX10_bestRingNow 30 = .ok (.iload 5, 2) := by decide +kernel
theorem dX10_bestRingNow_32 : decode cX10_bestRingNow 32 = .ok (.if_icmp .ge 57, 3) := by decide +kernel
theorem dX10_bestRingNow_35 : decode cX10_bestRingNow 35 = .ok (.iload 6, 2) := by decide +kernel
theorem dX10_bestRingNow_37 : decode cX10_bestRingNow 37 = .ok (.aload_n 0, 1) := by decide +kernel
theorem dX10_bestRingNow_38 : decode cX10_bestRingNow 38 = .ok (.iload 7, 2) := by decide +kernel
theorem dX10_bestRingNow_40 : decode cX10_bestRingNow 40 = .ok (.iload 6, 2) := by decide +kernel
theorem dX10_bestRingNow_42 : decode cX10_bestRingNow 42 = .ok (.invokevirtual 168, 3) := by decide +kernel
theorem dX10_bestRingNow_45 : decode cX10_bestRingNow 45 = .ok (.imul, 1) := by decide +kernel
theorem dX10_bestRingNow_46 : decode cX10_bestRingNow 46 = .ok (.istore 8, 2) := by decide +kernel
theorem dX10_bestRingNow_48 : decode cX10_bestRingNow 48 = .ok (.iload 8, 2) := by decide +kernel
theorem dX10_bestRingNow_50 : decode cX10_bestRingNow 50 = .ok (.iload_n 2, 1) := by decide +kernel
theorem dX10_bestRingNow_51 : decode cX10_bestRingNow 51 = .ok (.if_icmp .le 8, 3) := by decide +kernel
theorem dX10_bestRingNow_54 : decode cX10_bestRingNow 54 = .ok (.iload 7, 2) := by decide +kernel
theorem dX10_bestRingNow_56 : decode cX10_bestRingNow 56 = .ok (.goto 4, 3) := by decide +kernel
theorem dX10_bestRingNow_59 : decode cX10_bestRingNow 59 = .ok (.iload_n 3, 1) := by decide +kernel
theorem dX10_bestRingNow_60 : decode cX10_bestRingNow 60 = .ok (.istore_n 3, 1) := by decide +kernel
theorem dX10_bestRingNow_61 : decode cX10_bestRingNow 61 = .ok (.iload 8, 2) := by decide +kernel
theorem dX10_bestRingNow_63 : decode cX10_bestRingNow 63 = .ok (.iload_n 2, 1) := by decide +kernel
theorem dX10_bestRingNow_64 : decode cX10_bestRingNow 64 = .ok (.if_icmp .le 8, 3) := by decide +kernel
theorem dX10_bestRingNow_67 : decode cX10_bestRingNow 67 = .ok (.iload 6, 2) := by decide +kernel
theorem dX10_bestRingNow_69 : decode cX10_bestRingNow 69 = .ok (.goto 5, 3) := by decide +kernel
theorem dX10_bestRingNow_72 : decode cX10_bestRingNow 72 = .ok (.iload 4, 2) := by decide +kernel
theorem dX10_bestRingNow_74 : decode cX10_bestRingNow 74 = .ok (.istore 4, 2) := by decide +kernel
theorem dX10_bestRingNow_76 : decode cX10_bestRingNow 76 = .ok (.iload_n 2, 1) := by decide +kernel
theorem dX10_bestRingNow_77 : decode cX10_bestRingNow 77 = .ok (.iload 8, 2) := by decide +kernel
theorem dX10_bestRingNow_79 : decode cX10_bestRingNow 79 = .ok (.invokestatic 127, 3) := by decide +kernel
theorem dX10_bestRingNow_82 : decode cX10_bestRingNow 82 = .ok (.istore_n 2, 1) := by decide +kernel
theorem dX10_bestRingNow_83 : decode cX10_bestRingNow 83 = .ok (.iinc 7 1, 3) := by decide +kernel
theorem dX10_bestRingNow_86 : decode cX10_bestRingNow 86 = .ok (.goto (-58), 3) := by decide +kernel
theorem dX10_bestRingNow_89 : decode cX10_bestRingNow 89 = .ok (.iinc 6 1, 3) := by decide +kernel
theorem dX10_bestRingNow_92 : decode cX10_bestRingNow 92 = .ok (.goto (-79), 3) := by decide +kernel
theorem dX10_bestRingNow_95 : decode cX10_bestRingNow 95 = .ok (.iload_n 1, 1) := by decide +kernel
theorem dX10_bestRingNow_96 : decode cX10_bestRingNow 96 = .ok (.iconst 2, 1) := by decide +kernel
theorem dX10_bestRingNow_97 : decode cX10_bestRingNow 97 = .ok (.if_icmp .ge 14, 3) := by decide +kernel
theorem dX10_bestRingNow_100 : decode cX10_bestRingNow 100 = .ok (.iload_n 1, 1) := by decide +kernel
theorem dX10_bestRingNow_101 : decode cX10_bestRingNow 101 = .ok (.ifCond .ne 7, 3) := by decide +kernel
theorem dX10_bestRingNow_104 : decode cX10_bestRingNow 104 = .ok (.iload_n 2, 1) := by decide +kernel
theorem dX10_bestRingNow_105 : decode cX10_bestRingNow 105 = .ok (.goto 5, 3) := by decide +kernel
theorem dX10_bestRingNow_108 : decode cX10_bestRingNow 108 = .ok (.iload 4, 2) := by decide +kernel
theorem dX10_bestRingNow_110 : decode cX10_bestRingNow 110 = .ok (.ireturn, 1) := by decide +kernel
theorem dX10_bestRingNow_111 : decode cX10_bestRingNow 111 = .ok (.iload_n 1, 1) := by decide +kernel
theorem dX10_bestRingNow_112 : decode cX10_bestRingNow 112 = .ok (.bipush 10, 2) := by decide +kernel
theorem dX10_bestRingNow_114 : decode cX10_bestRingNow 114 = .ok (.isub, 1) := by decide +kernel
theorem dX10_bestRingNow_115 : decode cX10_bestRingNow 115 = .ok (.iload 4, 2) := by decide +kernel
theorem dX10_bestRingNow_117 : decode cX10_bestRingNow 117 = .ok (.if_icmp .lt 5, 3) := by decide +kernel
theorem dX10_bestRingNow_120 : decode cX10_bestRingNow 120 = .ok (.iconst (-1), 1) := by decide +kernel
theorem dX10_bestRingNow_121 : decode cX10_bestRingNow 121 = .ok (.ireturn, 1) := by decide +kernel
theorem dX10_bestRingNow_122 : decode cX10_bestRingNow 122 = .ok (.aload_n 0, 1) := by decide +kernel
theorem dX10_bestRingNow_123 : decode cX10_bestRingNow 123 = .ok (.iload_n 3, 1) := by decide +kernel
theorem dX10_bestRingNow_124 : decode cX10_bestRingNow 124 = .ok (.iload 4, 2) := by decide +kernel
theorem dX10_bestRingNow_126 : decode cX10_bestRingNow 126 = .ok (.invokevirtual 168, 3) := by decide +kernel
theorem dX10_bestRingNow_129 : decode cX10_bestRingNow 129 = .ok (.pop, 1) := by decide +kernel
theorem dX10_bestRingNow_130 : decode cX10_bestRingNow 130 = .ok (.aload_n 0, 1) := by decide +kernel
theorem dX10_bestRingNow_131 : decode cX10_bestRingNow 131 = .ok (.getfield 51, 3) := by decide +kernel
theorem dX10_bestRingNow_134 : decode cX10_bestRingNow 134 = .ok (.iload_n 1, 1) := by decide +kernel
theorem dX10_bestRingNow_135 : decode cX10_bestRingNow 135 = .ok (.bipush 10, 2) := by decide +kernel
theorem dX10_bestRingNow_137 : decode cX10_bestRingNow 137 = .ok (.isub, 1) := by decide +kernel
theorem dX10_bestRingNow_138 : decode cX10_bestRingNow 138 = .ok (.iaload, 1) := by decide +kernel
theorem dX10_bestRingNow_139 : decode cX10_bestRingNow 139 = .ok (.ireturn, 1) := by decide +kernel
theorem dX10_bestRing_0 : decode cX10_bestRing 0 = .ok (.iload_n 1, 1) := by decide +kernel
theorem dX10_bestRing_1 : decode cX10_bestRing 1 = .ok (.iconst 0, 1) := by decide +kernel
theorem dX10_bestRing_2 : decode cX10_bestRing 2 = .ok (.iconst 1, 1) := by decide +kernel
theorem dX10_bestRing_3 : decode cX10_bestRing 3 = .ok (.invokestatic 69, 3) := by decide +kernel
theorem dX10_bestRing_6 : decode cX10_bestRing 6 = .ok (.ifCond .ne 14, 3) := by decide +kernel
theorem dX10_bestRing_9 : decode cX10_bestRing 9 = .ok (.iload_n 1, 1) := by decide +kernel
theorem dX10_bestRing_10 : decode cX10_bestRing 10 = .ok (.bipush 10, 2) := by decide +kernel
theorem dX10_bestRing_12 : decode cX10_bestRing 12 = .ok (.bipush 13, 2) := by decide +kernel
theorem dX10_bestRing_14 : decode cX10_bestRing 14 = .ok (.invokestatic 69, 3) := by decide +kernel
theorem dX10_bestRing_17 : decode cX10_bestRing 17 = .ok (.ifCond .eq 11, 3) := by decide +kernel
theorem dX10_bestRing_20 : decode cX10_bestRing 20 = .ok (.aload_n 0, 1) := by decide +kernel
theorem dX10_bestRing_21 : decode cX10_bestRing 21 = .ok (.iload_n 1, 1) := by decide +kernel
theorem dX10_bestRing_22 : decode cX10_bestRing 22 = .ok (.invokevirtual 171, 3) := by decide +kernel
theorem dX10_bestRing_25 : decode cX10_bestRing 25 = .ok (.goto 5, 3) := by decide +kernel
theorem dX10_bestRing_28 : decode cX10_bestRing 28 = .ok (.bipush (-102), 2) := by decide +kernel
theorem dX10_bestRing_30 : decode cX10_bestRing 30 = .ok (.ireturn, 1) := by decide +kernel
theorem dX10_offer_0 : decode cX10_offer 0 = .ok (.aload_n 0, 1) := by decide +kernel
theorem dX10_offer_1 : decode cX10_offer 1 = .ok (.iload_n 1, 1) := by decide +kernel
theorem dX10_offer_2 : decode cX10_offer 2 = .ok (.iload_n 2, 1) := by decide +kernel
theorem dX10_offer_3 : decode cX10_offer 3 = .ok (.invokevirtual 116, 3) := by decide +kernel
theorem dX10_offer_6 : decode cX10_offer 6 = .ok (.ifCond .ne 6, 3) := by decide +kernel
theorem dX10_offer_9 : decode cX10_offer 9 = .ok (.bipush (-101), 2) := by decide +kernel
theorem dX10_offer_11 : decode cX10_offer 11 = .ok (.ireturn, 1) := by decide +kernel
theorem dX10_offer_12 : decode cX10_offer 12 = .ok (.iload_n 3, 1) := by decide +kernel
theorem dX10_offer_13 : decode cX10_offer 13 = .ok (.iconst 1, 1) := by decide +kernel
theorem dX10_offer_14 : decode cX10_offer 14 = .ok (.bipush 99, 2) := by decide +kernel
theorem dX10_offer_16 : decode cX10_offer 16 = .ok (.invokestatic 69, 3) := by decide +kernel
theorem dX10_offer_19 : decode cX10_offer 19 = .ok (.ifCond .ne 6, 3) := by decide +kernel
theorem dX10_offer_22 : decode cX10_offer 22 = .ok (.bipush (-102), 2) := by decide +kernel
theorem dX10_offer_24 : decode cX10_offer 24 = .ok (.ireturn, 1) := by decide +kernel
theorem dX10_offer_25 : decode cX10_offer 25 = .ok (.aload_n 0, 1) := by decide +kernel
theorem dX10_offer_26 : decode cX10_offer 26 = .ok (.getfield 174, 3) := by decide +kernel
theorem dX10_offer_29 : decode cX10_offer 29 = .ok (.bipush 6, 2) := by decide +kernel
theorem dX10_offer_31 : decode cX10_offer 31 = .ok (.if_icmp .ne 6, 3) := by decide +kernel
theorem dX10_offer_34 : decode cX10_offer 34 = .ok (.bipush (-104), 2) := by decide +kernel
theorem dX10_offer_36 : decode cX10_offer 36 = .ok (.ireturn, 1) := by decide +kernel
theorem dX10_offer_37 : decode cX10_offer 37 = .ok (.aload_n 0, 1) := by decide +kernel
theorem dX10_offer_38 : decode cX10_offer 38 = .ok (.getfield 32, 3) := by decide +kernel
theorem dX10_offer_41 : decode cX10_offer 41 = .ok (.aload_n 0, 1) := by decide +kernel
theorem dX10_offer_42 : decode cX10_offer 42 = .ok (.getfield 174, 3) := by decide +kernel
theorem dX10_offer_45 : decode cX10_offer 45 = .ok (.iload_n 1, 1) := by decide +kernel
theorem dX10_offer_46 : decode cX10_offer 46 = .ok (.iastore, 1) := by decide +kernel
theorem dX10_offer_47 : decode cX10_offer 47 = .ok (.aload_n 0, 1) := by decide +kernel
theorem dX10_offer_48 : decode cX10_offer 48 = .ok (.getfield 35, 3) := by decide +kernel
theorem dX10_offer_51 : decode cX10_offer 51 = .ok (.aload_n 0, 1) := by decide +kernel
theorem dX10_offer_52 : decode cX10_offer 52 = .ok (.getfield 174, 3) := by decide +kernel
theorem dX10_offer_55 : decode cX10_offer 55 = .ok (.iload_n 2, 1) := by decide +kernel
theorem dX10_offer_56 : decode cX10_offer 56 = .ok (.iastore, 1) := by decide +kernel
theorem dX10_offer_57 : decode cX10_offer 57 = .ok (.aload_n 0, 1) := by decide +kernel
theorem dX10_offer_58 : decode cX10_offer 58 = .ok (.getfield 38, 3) := by decide +kernel
theorem dX10_offer_61 : decode cX10_offer 61 = .ok (.aload_n 0, 1) := by decide +kernel
theorem dX10_offer_62 : decode cX10_offer 62 = .ok (.getfield 174, 3) := by decide +kernel
theorem dX10_offer_65 : decode cX10_offer 65 = .ok (.iload_n 3, 1) := by decide +kernel
theorem dX10_offer_66 : decode cX10_offer 66 = .ok (.iastore, 1) := by decide +kernel
theorem dX10_offer_67 : decode cX10_offer 67 = .ok (.aload_n 0, 1) := by decide +kernel
theorem dX10_offer_68 : decode cX10_offer 68 = .ok (.dup, 1) := by decide +kernel
theorem dX10_offer_69 : decode cX10_offer 69 = .ok (.getfield 174, 3) := by decide +kernel
theorem dX10_offer_72 : decode cX10_offer 72 = .ok (.iconst 1, 1) := by decide +kernel
theorem dX10_offer_73 : decode cX10_offer 73 = .ok (.iadd, 1) := by decide +kernel
theorem dX10_offer_74 : decode cX10_offer 74 = .ok (.putfield 174, 3) := by decide +kernel
theorem dX10_offer_77 : decode cX10_offer 77 = .ok (.aload_n 0, 1) := by decide +kernel
theorem dX10_offer_78 : decode cX10_offer 78 = .ok (.getfield 174, 3) := by decide +kernel
theorem dX10_offer_81 : decode cX10_offer 81 = .ok (.ireturn, 1) := by decide +kernel
theorem dX10_forget_0 : decode cX10_forget 0 = .ok (.aload_n 0, 1) := by decide +kernel
theorem dX10_forget_1 : decode cX10_forget 1 = .ok (.getfield 174, 3) := by decide +kernel
theorem dX10_forget_4 : decode cX10_forget 4 = .ok (.istore_n 1, 1) := by decide +kernel
theorem dX10_forget_5 : decode cX10_forget 5 = .ok (.aload_n 0, 1) := by decide +kernel
theorem dX10_forget_6 : decode cX10_forget 6 = .ok (.iconst 0, 1) := by decide +kernel
theorem dX10_forget_7 : decode cX10_forget 7 = .ok (.putfield 174, 3) := by decide +kernel
theorem dX10_forget_10 : decode cX10_forget 10 = .ok (.iload_n 1, 1) := by decide +kernel
theorem dX10_forget_11 : decode cX10_forget 11 = .ok (.ireturn, 1) := by decide +kernel
theorem dX10_owesBy_0 : decode cX10_owesBy 0 = .ok (.aload_n 0, 1) := by decide +kernel
theorem dX10_owesBy_1 : decode cX10_owesBy 1 = .ok (.invokevirtual 151, 3) := by decide +kernel
theorem dX10_owesBy_4 : decode cX10_owesBy 4 = .ok (.iconst 0, 1) := by decide +kernel
theorem dX10_owesBy_5 : decode cX10_owesBy 5 = .ok (.istore 5, 2) := by decide +kernel
theorem dX10_owesBy_7 : decode cX10_owesBy 7 = .ok (.iconst 1, 1) := by decide +kernel
theorem dX10_owesBy_8 : decode cX10_owesBy 8 = .ok (.istore 6, 2) := by decide +kernel
theorem dX10_owesBy_10 : decode cX10_owesBy 10 = .ok (.iconst 0, 1) := by decide +kernel
theorem dX10_owesBy_11 : decode cX10_owesBy 11 = .ok (.istore 7, 2) := by decide +kernel
theorem dX10_owesBy_13 : decode cX10_owesBy 13 = .ok (.iload 7, 2) := by decide +kernel
theorem dX10_owesBy_15 : decode cX10_owesBy 15 = .ok (.aload_n 0, 1) := by decide +kernel
theorem dX10_owesBy_16 : decode cX10_owesBy 16 = .ok (.getfield 174, 3) := by decide +kernel
theorem dX10_owesBy_19 : decode cX10_owesBy 19 = .ok (.if_icmp .ge 81, 3) := by decide +kernel
theorem dX10_owesBy_22 : decode cX10_owesBy 22 = .ok (.iload_n 2, 1) := by decide +kernel
theorem dX10_owesBy_23 : decode cX10_owesBy 23 = .ok (.iload 7, 2) := by decide +kernel
theorem dX10_owesBy_25 : decode cX10_owesBy 25 = .ok (.ishr, 1) := by decide +kernel
theorem dX10_owesBy_26 : decode cX10_owesBy 26 = .ok (.iconst 1, 1) := by decide +kernel
theorem dX10_owesBy_27 : decode cX10_owesBy 27 = .ok (.iand, 1) := by decide +kernel
theorem dX10_owesBy_28 : decode cX10_owesBy 28 = .ok (.iconst 1, 1) := by decide +kernel
theorem dX10_owesBy_29 : decode cX10_owesBy 29 = .ok (.if_icmp .ne 65, 3) := by decide +kernel
theorem dX10_owesBy_32 : decode cX10_owesBy 32 = .ok (.iload 6, 2) := by decide +kernel
theorem dX10_owesBy_34 : decode cX10_owesBy 34 = .ok (.ifCond .eq 18, 3) := by decide +kernel
theorem dX10_owesBy_37 : decode cX10_owesBy 37 = .ok (.aload_n 0, 1) := by decide +kernel
theorem dX10_owesBy_38 : decode cX10_owesBy 38 = .ok (.getfield 35, 3) := by decide +kernel
theorem dX10_owesBy_41 : decode cX10_owesBy 41 = .ok (.iload 7, 2) := by decide +kernel
theorem dX10_owesBy_43 : decode cX10_owesBy 43 = .ok (.iaload, 1) := by decide +kernel
theorem dX10_owesBy_44 : decode cX10_owesBy 44 = .ok (.iload_n 1, 1) := by decide +kernel
theorem dX10_owesBy_45 : decode cX10_owesBy 45 = .ok (.if_icmp .ne 7, 3) := by decide +kernel
theorem dX10_owesBy_48 : decode cX10_owesBy 48 = .ok (.iconst 1, 1) := by decide +kernel
theorem dX10_owesBy_49 : decode cX10_owesBy 49 = .ok (.goto 4, 3) := by decide +kernel
theorem dX10_owesBy_52 : decode cX10_owesBy 52 = .ok (.iconst 0, 1) := by decide +kernel
theorem dX10_owesBy_53 : decode cX10_owesBy 53 = .ok (.istore 6, 2) := by decide +kernel
theorem dX10_owesBy_55 : decode cX10_owesBy 55 = .ok (.iload 5, 2) := by decide +kernel
theorem dX10_owesBy_57 : decode cX10_owesBy 57 = .ok (.aload_n 0, 1) := by decide +kernel
theorem dX10_owesBy_58 : decode cX10_owesBy 58 = .ok (.getfield 38, 3) := by decide +kernel
theorem dX10_owesBy_61 : decode cX10_owesBy 61 = .ok (.iload 7, 2) := by decide +kernel
theorem dX10_owesBy_63 : decode cX10_owesBy 63 = .ok (.iaload, 1) := by decide +kernel
theorem dX10_owesBy_64 : decode cX10_owesBy 64 = .ok (.iadd, 1) := by decide +kernel
theorem dX10_owesBy_65 : decode cX10_owesBy 65 = .ok (.istore 5, 2) := by decide +kernel
theorem dX10_owesBy_67 : decode cX10_owesBy 67 = .ok (.aload_n 0, 1) := by decide +kernel
theorem dX10_owesBy_68 : decode cX10_owesBy 68 = .ok (.bipush 25, 2) := by decide +kernel
theorem dX10_owesBy_70 : decode cX10_owesBy 70 = .ok (.aload_n 0, 1) := by decide +kernel
theorem dX10_owesBy_71 : decode cX10_owesBy 71 = .ok (.getfield 35, 3) := by decide +kernel
theorem dX10_owesBy_74 : decode cX10_owesBy 74 = .ok (.iload 7, 2) := by decide +kernel
theorem dX10_owesBy_76 : decode cX10_owesBy 76 = .ok (.iaload, 1) := by decide +kernel
theorem dX10_owesBy_77 : decode cX10_owesBy 77 = .ok (.aload_n 0, 1) := by decide +kernel
theorem dX10_owesBy_78 : decode cX10_owesBy 78 = .ok (.getfield 32, 3) := by decide +kernel
theorem dX10_owesBy_81 : decode cX10_owesBy 81 = .ok (.iload 7, 2) := by decide +kernel
theorem dX10_owesBy_83 : decode cX10_owesBy 83 = .ok (.iaload, 1) := by decide +kernel
theorem dX10_owesBy_84 : decode cX10_owesBy 84 = .ok (.aload_n 0, 1) := by decide +kernel
theorem dX10_owesBy_85 : decode cX10_owesBy 85 = .ok (.getfield 38, 3) := by decide +kernel
theorem dX10_owesBy_88 : decode cX10_owesBy 88 = .ok (.iload 7, 2) := by decide +kernel
theorem dX10_owesBy_90 : decode cX10_owesBy 90 = .ok (.iaload, 1) := by decide +kernel
theorem dX10_owesBy_91 : decode cX10_owesBy 91 = .ok (.invokevirtual 133, 3) := by decide +kernel
theorem dX10_owesBy_94 : decode cX10_owesBy 94 = .ok (.iinc 7 1, 3) := by decide +kernel
theorem dX10_owesBy_97 : decode cX10_owesBy 97 = .ok (.goto (-84), 3) := by decide +kernel
theorem dX10_owesBy_100 : decode cX10_owesBy 100 = .ok (.iload 6, 2) := by decide +kernel
theorem dX10_owesBy_102 : decode cX10_owesBy 102 = .ok (.ifCond .eq 9, 3) := by decide +kernel
theorem dX10_owesBy_105 : decode cX10_owesBy 105 = .ok (.iload 5, 2) := by decide +kernel
theorem dX10_owesBy_107 : decode cX10_owesBy 107 = .ok (.iload_n 3, 1) := by decide +kernel
theorem dX10_owesBy_108 : decode cX10_owesBy 108 = .ok (.if_icmp .ge 6, 3) := by decide +kernel
theorem dX10_owesBy_111 : decode cX10_owesBy 111 = .ok (.ldc 167, 2) := by decide +kernel
theorem dX10_owesBy_113 : decode cX10_owesBy 113 = .ok (.ireturn, 1) := by decide +kernel
theorem dX10_owesBy_114 : decode cX10_owesBy 114 = .ok (.iconst 0, 1) := by decide +kernel
theorem dX10_owesBy_115 : decode cX10_owesBy 115 = .ok (.istore 7, 2) := by decide +kernel
theorem dX10_owesBy_117 : decode cX10_owesBy 117 = .ok (.iload 7, 2) := by decide +kernel
theorem dX10_owesBy_119 : decode cX10_owesBy 119 = .ok (.iload 4, 2) := by decide +kernel
theorem dX10_owesBy_121 : decode cX10_owesBy 121 = .ok (.if_icmp .ge 16, 3) := by decide +kernel
theorem dX10_owesBy_124 : decode cX10_owesBy 124 = .ok (.aload_n 0, 1) := by decide +kernel
theorem dX10_owesBy_125 : decode cX10_owesBy 125 = .ok (.bipush 25, 2) := by decide +kernel
theorem dX10_owesBy_127 : decode cX10_owesBy 127 = .ok (.invokevirtual 147, 3) := by decide +kernel
theorem dX10_owesBy_130 : decode cX10_owesBy 130 = .ok (.pop, 1) := by decide +kernel
theorem dX10_owesBy_131 : decode cX10_owesBy 131 = .ok (.iinc 7 1, 3) := by decide +kernel
theorem dX10_owesBy_134 : decode cX10_owesBy 134 = .ok (.goto (-17), 3) := by decide +kernel
theorem dX10_owesBy_137 : decode cX10_owesBy 137 = .ok (.aload_n 0, 1) := by decide +kernel
theorem dX10_owesBy_138 : decode cX10_owesBy 138 = .ok (.bipush 25, 2) := by decide +kernel
theorem dX10_owesBy_140 : decode cX10_owesBy 140 = .ok (.iload_n 1, 1) := by decide +kernel
theorem dX10_owesBy_141 : decode cX10_owesBy 141 = .ok (.invokevirtual 107, 3) := by decide +kernel
theorem dX10_owesBy_144 : decode cX10_owesBy 144 = .ok (.ireturn, 1) := by decide +kernel
theorem dX10_acceptNow_0 : decode cX10_acceptNow 0 = .ok (.iconst (-1), 1) := by decide +kernel
theorem dX10_acceptNow_1 : decode cX10_acceptNow 1 = .ok (.istore 5, 2) := by decide +kernel
theorem dX10_acceptNow_3 : decode cX10_acceptNow 3 = .ok (.ldc 167, 2) := by decide +kernel
theorem dX10_acceptNow_5 : decode cX10_acceptNow 5 = .ok (.istore 6, 2) := by decide +kernel
theorem dX10_acceptNow_7 : decode cX10_acceptNow 7 = .ok (.iconst 0, 1) := by decide +kernel
theorem dX10_acceptNow_8 : decode cX10_acceptNow 8 = .ok (.istore 7, 2) := by decide +kernel
theorem dX10_acceptNow_10 : decode cX10_acceptNow 10 = .ok (.iload 7, 2) := by decide +kernel
theorem dX10_acceptNow_12 : decode cX10_acceptNow 12 = .ok (.iconst 1, 1) := by decide +kernel
theorem dX10_acceptNow_13 : decode cX10_acceptNow 13 = .ok (.aload_n 0, 1) := by decide +kernel
theorem dX10_acceptNow_14 : decode cX10_acceptNow 14 = .ok (.getfield 174, 3) := by decide +kernel
theorem dX10_acceptNow_17 : decode cX10_acceptNow 17 = .ok (.ishl, 1) := by decide +kernel
theorem dX10_acceptNow_18 : decode cX10_acceptNow 18 = .ok (.if_icmp .ge 83, 3) := by decide +kernel
theorem dX10_acceptNow_21 : decode cX10_acceptNow 21 = .ok (.aload_n 0, 1) := by decide +kernel
theorem dX10_acceptNow_22 : decode cX10_acceptNow 22 = .ok (.iload_n 1, 1) := by decide +kernel
theorem dX10_acceptNow_23 : decode cX10_acceptNow 23 = .ok (.iload 7, 2) := by decide +kernel
theorem dX10_acceptNow_25 : decode cX10_acceptNow 25 = .ok (.iload_n 2, 1) := by decide +kernel
theorem dX10_acceptNow_26 : decode cX10_acceptNow 26 = .ok (.iload_n 3, 1) := by decide +kernel
theorem dX10_acceptNow_27 : decode cX10_acceptNow 27 = .ok (.invokevirtual 177, 3) := by decide +kernel
theorem dX10_acceptNow_30 : decode cX10_acceptNow 30 = .ok (.istore 8, 2) := by decide +kernel
theorem dX10_acceptNow_32 : decode cX10_acceptNow 32 = .ok (.iload 8, 2) := by decide +kernel
theorem dX10_acceptNow_34 : decode cX10_acceptNow 34 = .ok (.iload 6, 2) := by decide +kernel
theorem dX10_acceptNow_36 : decode cX10_acceptNow 36 = .ok (.if_icmp .ne 26, 3) := by decide +kernel
theorem dX10_acceptNow_39 : decode cX10_acceptNow 39 = .ok (.iload 5, 2) := by decide +kernel
theorem dX10_acceptNow_41 : decode cX10_acceptNow 41 = .ok (.iconst (-1), 1) := by decide +kernel
theorem dX10_acceptNow_42 : decode cX10_acceptNow 42 = .ok (.if_icmp .eq 20, 3) := by decide +kernel
theorem dX10_acceptNow_45 : decode cX10_acceptNow 45 = .ok (.iload 7, 2) := by decide +kernel
theorem dX10_acceptNow_47 : decode cX10_acceptNow 47 = .ok (.invokestatic 161, 3) := by decide +kernel
theorem dX10_acceptNow_50 : decode cX10_acceptNow 50 = .ok (.iload 5, 2) := by decide +kernel
theorem dX10_acceptNow_52 : decode cX10_acceptNow 52 = .ok (.invokestatic 161, 3) := by decide +kernel
theorem dX10_acceptNow_55 : decode cX10_acceptNow 55 = .ok (.if_icmp .ge 7, 3) := by decide +kernel
theorem dX10_acceptNow_58 : decode cX10_acceptNow 58 = .ok (.iconst 1, 1) := by decide +kernel
theorem dX10_acceptNow_59 : decode cX10_acceptNow 59 = .ok (.goto 4, 3) := by decide +kernel
theorem dX10_acceptNow_62 : decode cX10_acceptNow 62 = .ok (.iconst 0, 1) := by decide +kernel
theorem dX10_acceptNow_63 : decode cX10_acceptNow 63 = .ok (.istore 9, 2) := by decide +kernel
theorem dX10_acceptNow_65 : decode cX10_acceptNow 65 = .ok (.iload 8, 2) := by decide +kernel
theorem dX10_acceptNow_67 : decode cX10_acceptNow 67 = .ok (.iload 6, 2) := by decide +kernel
theorem dX10_acceptNow_69 : decode cX10_acceptNow 69 = .ok (.if_icmp .lt 8, 3) := by decide +kernel
theorem dX10_acceptNow_72 : decode cX10_acceptNow 72 = .ok (.iload 9, 2) := by decide +kernel
theorem dX10_acceptNow_74 : decode cX10_acceptNow 74 = .ok (.ifCond .eq 8, 3) := by decide +kernel
theorem dX10_acceptNow_77 : decode cX10_acceptNow 77 = .ok (.iload 7, 2) := by decide +kernel
theorem dX10_acceptNow_79 : decode cX10_acceptNow 79 = .ok (.goto 5, 3) := by decide +kernel
theorem dX10_acceptNow_82 : decode cX10_acceptNow 82 = .ok (.iload 5, 2) := by decide +kernel
theorem dX10_acceptNow_84 : decode cX10_acceptNow 84 = .ok (.istore 5, 2) := by decide +kernel
theorem dX10_acceptNow_86 : decode cX10_acceptNow 86 = .ok (.iload 6, 2) := by decide +kernel
theorem dX10_acceptNow_88 : decode cX10_acceptNow 88 = .ok (.iload 8, 2) := by decide +kernel
theorem dX10_acceptNow_90 : decode cX10_acceptNow 90 = .ok (.invokestatic 124, 3) := by decide +kernel
theorem dX10_acceptNow_93 : decode cX10_acceptNow 93 = .ok (.istore 6, 2) := by decide +kernel
theorem dX10_acceptNow_95 : decode cX10_acceptNow 95 = .ok (.iinc 7 1, 3) := by decide +kernel
theorem dX10_acceptNow_98 : decode cX10_acceptNow 98 = .ok (.goto (-88), 3) := by decide +kernel
theorem dX10_acceptNow_101 : decode cX10_acceptNow 101 = .ok (.iload 5, 2) := by decide +kernel
theorem dX10_acceptNow_103 : decode cX10_acceptNow 103 = .ok (.iconst (-1), 1) := by decide +kernel
theorem dX10_acceptNow_104 : decode cX10_acceptNow 104 = .ok (.if_icmp .eq 8, 3) := by decide +kernel
theorem dX10_acceptNow_107 : decode cX10_acceptNow 107 = .ok (.iload 4, 2) := by decide +kernel
theorem dX10_acceptNow_109 : decode cX10_acceptNow 109 = .ok (.ifCond .ne 8, 3) := by decide +kernel
theorem dX10_acceptNow_112 : decode cX10_acceptNow 112 = .ok (.iload 5, 2) := by decide +kernel
theorem dX10_acceptNow_114 : decode cX10_acceptNow 114 = .ok (.goto 5, 3) := by decide +kernel
theorem dX10_acceptNow_117 : decode cX10_acceptNow 117 = .ok (.iload 6, 2) := by decide +kernel
theorem dX10_acceptNow_119 : decode cX10_acceptNow 119 = .ok (.ireturn, 1) := by decide +kernel
theorem dX10_accept_0 : decode cX10_accept 0 = .ok (.aload_n 0, 1) := by decide +kernel
theorem dX10_accept_1 : decode cX10_accept 1 = .ok (.iload_n 1, 1) := by decide +kernel
theorem dX10_accept_2 : decode cX10_accept 2 = .ok (.invokevirtual 96, 3) := by decide +kernel
theorem dX10_accept_5 : decode cX10_accept 5 = .ok (.ifCond .ne 6, 3) := by decide +kernel
theorem dX10_accept_8 : decode cX10_accept 8 = .ok (.bipush (-101), 2) := by decide +kernel
theorem dX10_accept_10 : decode cX10_accept 10 = .ok (.ireturn, 1) := by decide +kernel
theorem dX10_accept_11 : decode cX10_accept 11 = .ok (.iload_n 2, 1) := by decide +kernel
theorem dX10_accept_12 : decode cX10_accept 12 = .ok (.iconst 1, 1) := by decide +kernel
theorem dX10_accept_13 : decode cX10_accept 13 = .ok (.sipush 500, 3) := by decide +kernel
theorem dX10_accept_16 : decode cX10_accept 16 = .ok (.invokestatic 69, 3) := by decide +kernel
theorem dX10_accept_19 : decode cX10_accept 19 = .ok (.ifCond .eq 35, 3) := by decide +kernel
theorem dX10_accept_22 : decode cX10_accept 22 = .ok (.iload_n 3, 1) := by decide +kernel
theorem dX10_accept_23 : decode cX10_accept 23 = .ok (.iconst 0, 1) := by decide +kernel
theorem dX10_accept_24 : decode cX10_accept 24 = .ok (.bipush 20, 2) := by decide +kernel
theorem dX10_accept_26 : decode cX10_accept 26 = .ok (.invokestatic 69, 3) := by decide +kernel
theorem dX10_accept_29 : decode cX10_accept 29 = .ok (.ifCond .eq 25, 3) := by decide +kernel
theorem dX10_accept_32 : decode cX10_accept 32 = .ok (.iload 4, 2) := by decide +kernel
theorem dX10_accept_34 : decode cX10_accept 34 = .ok (.iconst 0, 1) := by decide +kernel
theorem dX10_accept_35 : decode cX10_accept 35 = .ok (.iconst 1, 1) := by decide +kernel
theorem dX10_accept_36 : decode cX10_accept 36 = .ok (.invokestatic 69, 3) := by decide +kernel
theorem dX10_accept_39 : decode cX10_accept 39 = .ok (.ifCond .eq 15, 3) := by decide +kernel
theorem dX10_accept_42 : decode cX10_accept 42 = .ok (.aload_n 0, 1) := by decide +kernel
theorem dX10_accept_43 : decode cX10_accept 43 = .ok (.iload_n 1, 1) := by decide +kernel
theorem dX10_accept_44 : decode cX10_accept 44 = .ok (.iload_n 2, 1) := by decide +kernel
theorem dX10_accept_45 : decode cX10_accept 45 = .ok (.iload_n 3, 1) := by decide +kernel
theorem dX10_accept_46 : decode cX10_accept 46 = .ok (.iload 4, 2) := by decide +kernel
theorem dX10_accept_48 : decode cX10_accept 48 = .ok (.invokevirtual 181, 3) := by decide +kernel
theorem dX10_accept_51 : decode cX10_accept 51 = .ok (.goto 5, 3) := by decide +kernel
theorem dX10_accept_54 : decode cX10_accept 54 = .ok (.bipush (-102), 2) := by decide +kernel
theorem dX10_accept_56 : decode cX10_accept 56 = .ok (.ireturn, 1) := by decide +kernel
theorem dX10_grownNow_0 : decode cX10_grownNow 0 = .ok (.iconst 0, 1) := by decide +kernel
theorem dX10_grownNow_1 : decode cX10_grownNow 1 = .ok (.istore 6, 2) := by decide +kernel
theorem dX10_grownNow_3 : decode cX10_grownNow 3 = .ok (.iconst (-1), 1) := by decide +kernel
theorem dX10_grownNow_4 : decode cX10_grownNow 4 = .ok (.istore 7, 2) := by decide +kernel
theorem dX10_grownNow_6 : decode cX10_grownNow 6 = .ok (.bipush 99, 2) := by decide +kernel
theorem dX10_grownNow_8 : decode cX10_grownNow 8 = .ok (.istore 8, 2) := by decide +kernel
theorem dX10_grownNow_10 : decode cX10_grownNow 10 = .ok (.iload 8, 2) := by decide +kernel
theorem dX10_grownNow_12 : decode cX10_grownNow 12 = .ok (.iconst 1, 1) := by decide +kernel
theorem dX10_grownNow_13 : decode cX10_grownNow 13 = .ok (.if_icmp .lt 76, 3) := by decide +kernel
theorem dX10_grownNow_16 : decode cX10_grownNow 16 = .ok (.iload 8, 2) := by decide +kernel
theorem dX10_grownNow_18 : decode cX10_grownNow 18 = .ok (.istore 9, 2) := by decide +kernel
theorem dX10_grownNow_20 : decode cX10_grownNow 20 = .ok (.aload_n 0, 1) := by decide +kernel
theorem dX10_grownNow_21 : decode cX10_grownNow 21 = .ok (.getfield 84, 3) := by decide +kernel
theorem dX10_grownNow_24 : decode cX10_grownNow 24 = .ok (.istore 10, 2) := by decide +kernel
theorem dX10_grownNow_26 : decode cX10_grownNow 26 = .ok (.iload 10, 2) := by decide +kernel
theorem dX10_grownNow_28 : decode cX10_grownNow 28 = .ok (.iload_n 2, 1) := by decide +kernel
theorem dX10_grownNow_29 : decode cX10_grownNow 29 = .ok (.if_icmp .ge 23, 3) := by decide +kernel
theorem dX10_grownNow_32 : decode cX10_grownNow 32 = .ok (.iload 9, 2) := by decide +kernel
theorem dX10_grownNow_34 : decode cX10_grownNow 34 = .ok (.aload_n 0, 1) := by decide +kernel
theorem dX10_grownNow_35 : decode cX10_grownNow 35 = .ok (.iload 9, 2) := by decide +kernel
theorem dX10_grownNow_37 : decode cX10_grownNow 37 = .ok (.iload_n 3, 1) := by decide +kernel
theorem dX10_grownNow_38 : decode cX10_grownNow 38 = .ok (.iload 4, 2) := by decide +kernel
theorem dX10_grownNow_40 : decode cX10_grownNow 40 = .ok (.invokevirtual 141, 3) := by decide +kernel
theorem dX10_grownNow_43 : decode cX10_grownNow 43 = .ok (.iadd, 1) := by decide +kernel
theorem dX10_grownNow_44 : decode cX10_grownNow 44 = .ok (.istore 9, 2) := by decide +kernel
theorem dX10_grownNow_46 : decode cX10_grownNow 46 = .ok (.iinc 10 1, 3) := by decide +kernel
theorem dX10_grownNow_49 : decode cX10_grownNow 49 = .ok (.goto (-23), 3) := by decide +kernel
theorem dX10_grownNow_52 : decode cX10_grownNow 52 = .ok (.iload 6, 2) := by decide +kernel
theorem dX10_grownNow_54 : decode cX10_grownNow 54 = .ok (.iload 9, 2) := by decide +kernel
theorem dX10_grownNow_56 : decode cX10_grownNow 56 = .ok (.iload_n 1, 1) := by decide +kernel
theorem dX10_grownNow_57 : decode cX10_grownNow 57 = .ok (.if_icmp .ne 7, 3) := by decide +kernel
theorem dX10_grownNow_60 : decode cX10_grownNow 60 = .ok (.iconst 1, 1) := by decide +kernel
theorem dX10_grownNow_61 : decode cX10_grownNow 61 = .ok (.goto 4, 3) := by decide +kernel
theorem dX10_grownNow_64 : decode cX10_grownNow 64 = .ok (.iconst 0, 1) := by decide +kernel
theorem dX10_grownNow_65 : decode cX10_grownNow 65 = .ok (.iadd, 1) := by decide +kernel
theorem dX10_grownNow_66 : decode cX10_grownNow 66 = .ok (.istore 6, 2) := by decide +kernel
theorem dX10_grownNow_68 : decode cX10_grownNow 68 = .ok (.iload 9, 2) := by decide +kernel
theorem dX10_grownNow_70 : decode cX10_grownNow 70 = .ok (.iload_n 1, 1) := by decide +kernel
theorem dX10_grownNow_71 : decode cX10_grownNow 71 = .ok (.if_icmp .ne 8, 3) := by decide +kernel
theorem dX10_grownNow_74 : decode cX10_grownNow 74 = .ok (.iload 8, 2) := by decide +kernel
theorem dX10_grownNow_76 : decode cX10_grownNow 76 = .ok (.goto 5, 3) := by decide +kernel
theorem dX10_grownNow_79 : decode cX10_grownNow 79 = .ok (.iload 7, 2) := by decide +kernel
theorem dX10_grownNow_81 : decode cX10_grownNow 81 = .ok (.istore 7, 2) := by decide +kernel
theorem dX10_grownNow_83 : decode cX10_grownNow 83 = .ok (.iinc 8 (-1), 3) := by decide +kernel
theorem dX10_grownNow_86 : decode cX10_grownNow 86 = .ok (.goto (-76), 3) := by decide +kernel
theorem dX10_grownNow_89 : decode cX10_grownNow 89 = .ok (.iload 5, 2) := by decide +kernel
theorem dX10_grownNow_91 : decode cX10_grownNow 91 = .ok (.ifCond .ne 8, 3) := by decide +kernel
theorem dX10_grownNow_94 : decode cX10_grownNow 94 = .ok (.iload 6, 2) := by decide +kernel
theorem dX10_grownNow_96 : decode cX10_grownNow 96 = .ok (.goto 5, 3) := by decide +kernel
theorem dX10_grownNow_99 : decode cX10_grownNow 99 = .ok (.iload 7, 2) := by decide +kernel
theorem dX10_grownNow_101 : decode cX10_grownNow 101 = .ok (.ireturn, 1) := by decide +kernel
theorem dX10_grown_0 : decode cX10_grown 0 = .ok (.iload_n 1, 1) := by decide +kernel
theorem dX10_grown_1 : decode cX10_grown 1 = .ok (.iconst 0, 1) := by decide +kernel
theorem dX10_grown_2 : decode cX10_grown 2 = .ok (.sipush 9999, 3) := by decide +kernel
theorem dX10_grown_5 : decode cX10_grown 5 = .ok (.invokestatic 69, 3) := by decide +kernel
theorem dX10_grown_8 : decode cX10_grown 8 = .ok (.ifCond .eq 42, 3) := by decide +kernel
theorem dX10_grown_11 : decode cX10_grown 11 = .ok (.iload_n 2, 1) := by decide +kernel
theorem dX10_grown_12 : decode cX10_grown 12 = .ok (.iconst 0, 1) := by decide +kernel
theorem dX10_grown_13 : decode cX10_grown 13 = .ok (.bipush 40, 2) := by decide +kernel
theorem dX10_grown_15 : decode cX10_grown 15 = .ok (.invokestatic 69, 3) := by decide +kernel
theorem dX10_grown_18 : decode cX10_grown 18 = .ok (.ifCond .eq 32, 3) := by decide +kernel
theorem dX10_grown_21 : decode cX10_grown 21 = .ok (.iload_n 3, 1) := by decide +kernel
theorem dX10_grown_22 : decode cX10_grown 22 = .ok (.iconst 0, 1) := by decide +kernel
theorem dX10_grown_23 : decode cX10_grown 23 = .ok (.iconst 4, 1) := by decide +kernel
theorem dX10_grown_24 : decode cX10_grown 24 = .ok (.invokestatic 69, 3) := by decide +kernel
theorem dX10_grown_27 : decode cX10_grown 27 = .ok (.ifCond .eq 23, 3) := by decide +kernel
theorem dX10_grown_30 : decode cX10_grown 30 = .ok (.iload 4, 2) := by decide +kernel
theorem dX10_grown_32 : decode cX10_grown 32 = .ok (.iconst 0, 1) := by decide +kernel
theorem dX10_grown_33 : decode cX10_grown 33 = .ok (.iconst 4, 1) := by decide +kernel
theorem dX10_grown_34 : decode cX10_grown 34 = .ok (.invokestatic 69, 3) := by decide +kernel
theorem dX10_grown_37 : decode cX10_grown 37 = .ok (.ifCond .eq 13, 3) := by decide +kernel
theorem dX10_grown_40 : decode cX10_grown 40 = .ok (.iload 5, 2) := by decide +kernel
theorem dX10_grown_42 : decode cX10_grown 42 = .ok (.iconst 0, 1) := by decide +kernel
theorem dX10_grown_43 : decode cX10_grown 43 = .ok (.iconst 1, 1) := by decide +kernel
theorem dX10_grown_44 : decode cX10_grown 44 = .ok (.invokestatic 69, 3) := by decide +kernel
theorem dX10_grown_47 : decode cX10_grown 47 = .ok (.ifCond .ne 6, 3) := by decide +kernel
theorem dX10_grown_50 : decode cX10_grown 50 = .ok (.bipush (-102), 2) := by decide +kernel
theorem dX10_grown_52 : decode cX10_grown 52 = .ok (.ireturn, 1) := by decide +kernel
theorem dX10_grown_53 : decode cX10_grown 53 = .ok (.aload_n 0, 1) := by decide +kernel
theorem dX10_grown_54 : decode cX10_grown 54 = .ok (.iload_n 1, 1) := by decide +kernel
theorem dX10_grown_55 : decode cX10_grown 55 = .ok (.iload_n 2, 1) := by decide +kernel
theorem dX10_grown_56 : decode cX10_grown 56 = .ok (.iload_n 3, 1) := by decide +kernel
theorem dX10_grown_57 : decode cX10_grown 57 = .ok (.iload 4, 2) := by decide +kernel
theorem dX10_grown_59 : decode cX10_grown 59 = .ok (.iload 5, 2) := by decide +kernel
theorem dX10_grown_61 : decode cX10_grown 61 = .ok (.invokevirtual 184, 3) := by decide +kernel
theorem dX10_grown_64 : decode cX10_grown 64 = .ok (.ireturn, 1) := by decide +kernel
theorem dX10_draw_0 : decode cX10_draw 0 = .ok (.aload_n 0, 1) := by decide +kernel
theorem dX10_draw_1 : decode cX10_draw 1 = .ok (.ldc2_w 188, 3) := by decide +kernel
theorem dX10_draw_4 : decode cX10_draw 4 = .ok (.aload_n 0, 1) := by decide +kernel
theorem dX10_draw_5 : decode cX10_draw 5 = .ok (.getfield 190, 3) := by decide +kernel
theorem dX10_draw_8 : decode cX10_draw 8 = .ok (.lmul, 1) := by decide +kernel
theorem dX10_draw_9 : decode cX10_draw 9 = .ok (.ldc2_w 194, 3) := by decide +kernel
theorem dX10_draw_12 : decode cX10_draw 12 = .ok (.ladd, 1) := by decide +kernel
theorem dX10_draw_13 : decode cX10_draw 13 = .ok (.ldc2_w 196, 3) := by decide +kernel
theorem dX10_draw_16 : decode cX10_draw 16 = .ok (.land, 1) := by decide +kernel
theorem dX10_draw_17 : decode cX10_draw 17 = .ok (.putfield 190, 3) := by decide +kernel
theorem dX10_draw_20 : decode cX10_draw 20 = .ok (.aload_n 0, 1) := by decide +kernel
theorem dX10_draw_21 : decode cX10_draw 21 = .ok (.getfield 190, 3) := by decide +kernel
theorem dX10_draw_24 : decode cX10_draw 24 = .ok (.ldc2_w 198, 3) := by decide +kernel
theorem dX10_draw_27 : decode cX10_draw 27 = .ok (.ldiv, 1) := by decide +kernel
theorem dX10_draw_28 : decode cX10_draw 28 = .ok (.iload_n 1, 1) := by decide +kernel
theorem dX10_draw_29 : decode cX10_draw 29 = .ok (.i2l, 1) := by decide +kernel
theorem dX10_draw_30 : decode cX10_draw 30 = .ok (.lrem, 1) := by decide +kernel
theorem dX10_draw_31 : decode cX10_draw 31 = .ok (.l2i, 1) := by decide +kernel
theorem dX10_draw_32 : decode cX10_draw 32 = .ok (.ireturn, 1) := by decide +kernel
theorem dX10_goYear_0 : decode cX10_goYear 0 = .ok (.aload_n 0, 1) := by decide +kernel
theorem dX10_goYear_1 : decode cX10_goYear 1 = .ok (.aload_n 0, 1) := by decide +kernel
theorem dX10_goYear_2 : decode cX10_goYear 2 = .ok (.getfield 93, 3) := by decide +kernel
theorem dX10_goYear_5 : decode cX10_goYear 5 = .ok (.invokevirtual 200, 3) := by decide +kernel
theorem dX10_goYear_8 : decode cX10_goYear 8 = .ok (.istore_n 1, 1) := by decide +kernel
theorem dX10_goYear_9 : decode cX10_goYear 9 = .ok (.aload_n 0, 1) := by decide +kernel
theorem dX10_goYear_10 : decode cX10_goYear 10 = .ok (.aload_n 0, 1) := by decide +kernel
theorem dX10_goYear_11 : decode cX10_goYear 11 = .ok (.getfield 93, 3) := by decide +kernel
theorem dX10_goYear_14 : decode cX10_goYear 14 = .ok (.invokevirtual 200, 3) := by decide +kernel
theorem dX10_goYear_17 : decode cX10_goYear 17 = .ok (.istore_n 2, 1) := by decide +kernel
theorem dX10_goYear_18 : decode cX10_goYear 18 = .ok (.iconst 1, 1) := by decide +kernel
theorem dX10_goYear_19 : decode cX10_goYear 19 = .ok (.aload_n 0, 1) := by decide +kernel
theorem dX10_goYear_20 : decode cX10_goYear 20 = .ok (.bipush 9, 2) := by decide +kernel
theorem dX10_goYear_22 : decode cX10_goYear 22 = .ok (.invokevirtual 200, 3) := by decide +kernel
theorem dX10_goYear_25 : decode cX10_goYear 25 = .ok (.iadd, 1) := by decide +kernel
theorem dX10_goYear_26 : decode cX10_goYear 26 = .ok (.istore_n 3, 1) := by decide +kernel
theorem dX10_goYear_27 : decode cX10_goYear 27 = .ok (.iload_n 1, 1) := by decide +kernel
theorem dX10_goYear_28 : decode cX10_goYear 28 = .ok (.iload_n 2, 1) := by decide +kernel
theorem dX10_goYear_29 : decode cX10_goYear 29 = .ok (.if_icmp .eq 68, 3) := by decide +kernel
theorem dX10_goYear_32 : decode cX10_goYear 32 = .ok (.aload_n 0, 1) := by decide +kernel
theorem dX10_goYear_33 : decode cX10_goYear 33 = .ok (.getfield 29, 3) := by decide +kernel
theorem dX10_goYear_36 : decode cX10_goYear 36 = .ok (.bipush 25, 2) := by decide +kernel
theorem dX10_goYear_38 : decode cX10_goYear 38 = .ok (.iconst 5, 1) := by decide +kernel
theorem dX10_goYear_39 : decode cX10_goYear 39 = .ok (.iload_n 1, 1) := by decide +kernel
theorem dX10_goYear_40 : decode cX10_goYear 40 = .ok (.imul, 1) := by decide +kernel
theorem dX10_goYear_41 : decode cX10_goYear 41 = .ok (.iadd, 1) := by decide +kernel
theorem dX10_goYear_42 : decode cX10_goYear 42 = .ok (.iload_n 2, 1) := by decide +kernel
theorem dX10_goYear_43 : decode cX10_goYear 43 = .ok (.iadd, 1) := by decide +kernel
theorem dX10_goYear_44 : decode cX10_goYear 44 = .ok (.iaload, 1) := by decide +kernel
theorem dX10_goYear_45 : decode cX10_goYear 45 = .ok (.ifCond .ne 52, 3) := by decide +kernel
theorem dX10_goYear_48 : decode cX10_goYear 48 = .ok (.aload_n 0, 1) := by decide +kernel
theorem dX10_goYear_49 : decode cX10_goYear 49 = .ok (.iload_n 2, 1) := by decide +kernel
theorem dX10_goYear_50 : decode cX10_goYear 50 = .ok (.invokevirtual 130, 3) := by decide +kernel
theorem dX10_goYear_53 : decode cX10_goYear 53 = .ok (.ifCond .ne 16, 3) := by decide +kernel
theorem dX10_goYear_56 : decode cX10_goYear 56 = .ok (.aload_n 0, 1) := by decide +kernel
theorem dX10_goYear_57 : decode cX10_goYear 57 = .ok (.iconst 2, 1) := by decide +kernel
theorem dX10_goYear_58 : decode cX10_goYear 58 = .ok (.invokevirtual 200, 3) := by decide +kernel
theorem dX10_goYear_61 : decode cX10_goYear 61 = .ok (.iconst 1, 1) := by decide +kernel
theorem dX10_goYear_62 : decode cX10_goYear 62 = .ok (.if_icmp .ne 7, 3) := by decide +kernel
theorem dX10_goYear_65 : decode cX10_goYear 65 = .ok (.iconst 1, 1) := by decide +kernel
theorem dX10_goYear_66 : decode cX10_goYear 66 = .ok (.goto 4, 3) := by decide +kernel
theorem dX10_goYear_69 : decode cX10_goYear 69 = .ok (.iconst 0, 1) := by decide +kernel
theorem dX10_goYear_70 : decode cX10_goYear 70 = .ok (.istore 4, 2) := by decide +kernel
theorem dX10_goYear_72 : decode cX10_goYear 72 = .ok (.iload 4, 2) := by decide +kernel
theorem dX10_goYear_74 : decode cX10_goYear 74 = .ok (.ifCond .eq 15, 3) := by decide +kernel
theorem dX10_goYear_77 : decode cX10_goYear 77 = .ok (.aload_n 0, 1) := by decide +kernel
theorem dX10_goYear_78 : decode cX10_goYear 78 = .ok (.bipush 25, 2) := by decide +kernel
theorem dX10_goYear_80 : decode cX10_goYear 80 = .ok (.iload_n 2, 1) := by decide +kernel
theorem dX10_goYear_81 : decode cX10_goYear 81 = .ok (.iload_n 1, 1) := by decide +kernel
theorem dX10_goYear_82 : decode cX10_goYear 82 = .ok (.iload_n 3, 1) := by decide +kernel
theorem dX10_goYear_83 : decode cX10_goYear 83 = .ok (.invokevirtual 133, 3) := by decide +kernel
theorem dX10_goYear_86 : decode cX10_goYear 86 = .ok (.goto 11, 3) := by decide +kernel
theorem dX10_goYear_89 : decode cX10_goYear 89 = .ok (.aload_n 0, 1) := by decide +kernel
theorem dX10_goYear_90 : decode cX10_goYear 90 = .ok (.bipush 25, 2) := by decide +kernel
theorem dX10_goYear_92 : decode cX10_goYear 92 = .ok (.iload_n 2, 1) := by decide +kernel
theorem dX10_goYear_93 : decode cX10_goYear 93 = .ok (.iload_n 1, 1) := by decide +kernel
theorem dX10_goYear_94 : decode cX10_goYear 94 = .ok (.invokevirtual 137, 3) := by decide +kernel
theorem dX10_goYear_97 : decode cX10_goYear 97 = .ok (.aload_n 0, 1) := by decide +kernel
theorem dX10_goYear_98 : decode cX10_goYear 98 = .ok (.bipush 25, 2) := by decide +kernel
theorem dX10_goYear_100 : decode cX10_goYear 100 = .ok (.invokevirtual 147, 3) := by decide +kernel
theorem dX10_goYear_103 : decode cX10_goYear 103 = .ok (.pop, 1) := by decide +kernel
theorem dX10_goYear_104 : decode cX10_goYear 104 = .ok (.return_, 1) := by decide +kernel
theorem dX10_yearsNow_0 : decode cX10_yearsNow 0 = .ok (.aload_n 0, 1) := by decide +kernel
theorem dX10_yearsNow_1 : decode cX10_yearsNow 1 = .ok (.invokevirtual 151, 3) := by decide +kernel
theorem dX10_yearsNow_4 : decode cX10_yearsNow 4 = .ok (.aload_n 0, 1) := by decide +kernel
theorem dX10_yearsNow_5 : decode cX10_yearsNow 5 = .ok (.iload_n 2, 1) := by decide +kernel
theorem dX10_yearsNow_6 : decode cX10_yearsNow 6 = .ok (.i2l, 1) := by decide +kernel
theorem dX10_yearsNow_7 : decode cX10_yearsNow 7 = .ok (.putfield 190, 3) := by decide +kernel
theorem dX10_yearsNow_10 : decode cX10_yearsNow 10 = .ok (.iconst 0, 1) := by decide +kernel
theorem dX10_yearsNow_11 : decode cX10_yearsNow 11 = .ok (.istore 4, 2) := by decide +kernel
theorem dX10_yearsNow_13 : decode cX10_yearsNow 13 = .ok (.iload 4, 2) := by decide +kernel
theorem dX10_yearsNow_15 : decode cX10_yearsNow 15 = .ok (.iload_n 1, 1) := by decide +kernel
theorem dX10_yearsNow_16 : decode cX10_yearsNow 16 = .ok (.if_icmp .ge 13, 3) := by decide +kernel
theorem dX10_yearsNow_19 : decode cX10_yearsNow 19 = .ok (.aload_n 0, 1) := by decide +kernel
theorem dX10_yearsNow_20 : decode cX10_yearsNow 20 = .ok (.invokevirtual 203, 3) := by decide +kernel
theorem dX10_yearsNow_23 : decode cX10_yearsNow 23 = .ok (.iinc 4 1, 3) := by decide +kernel
theorem dX10_yearsNow_26 : decode cX10_yearsNow 26 = .ok (.goto (-13), 3) := by decide +kernel
theorem dX10_yearsNow_29 : decode cX10_yearsNow 29 = .ok (.iconst 0, 1) := by decide +kernel
theorem dX10_yearsNow_30 : decode cX10_yearsNow 30 = .ok (.istore 4, 2) := by decide +kernel
theorem dX10_yearsNow_32 : decode cX10_yearsNow 32 = .ok (.iconst 0, 1) := by decide +kernel
theorem dX10_yearsNow_33 : decode cX10_yearsNow 33 = .ok (.istore 5, 2) := by decide +kernel
theorem dX10_yearsNow_35 : decode cX10_yearsNow 35 = .ok (.iconst 0, 1) := by decide +kernel
theorem dX10_yearsNow_36 : decode cX10_yearsNow 36 = .ok (.istore 6, 2) := by decide +kernel
theorem dX10_yearsNow_38 : decode cX10_yearsNow 38 = .ok (.iload 6, 2) := by decide +kernel
theorem dX10_yearsNow_40 : decode cX10_yearsNow 40 = .ok (.aload_n 0, 1) := by decide +kernel
theorem dX10_yearsNow_41 : decode cX10_yearsNow 41 = .ok (.getfield 93, 3) := by decide +kernel
theorem dX10_yearsNow_44 : decode cX10_yearsNow 44 = .ok (.if_icmp .ge 42, 3) := by decide +kernel
theorem dX10_yearsNow_47 : decode cX10_yearsNow 47 = .ok (.iload 4, 2) := by decide +kernel
theorem dX10_yearsNow_49 : decode cX10_yearsNow 49 = .ok (.aload_n 0, 1) := by decide +kernel
theorem dX10_yearsNow_50 : decode cX10_yearsNow 50 = .ok (.bipush 25, 2) := by decide +kernel
theorem dX10_yearsNow_52 : decode cX10_yearsNow 52 = .ok (.iload 6, 2) := by decide +kernel
theorem dX10_yearsNow_54 : decode cX10_yearsNow 54 = .ok (.invokevirtual 107, 3) := by decide +kernel
theorem dX10_yearsNow_57 : decode cX10_yearsNow 57 = .ok (.iadd, 1) := by decide +kernel
theorem dX10_yearsNow_58 : decode cX10_yearsNow 58 = .ok (.istore 4, 2) := by decide +kernel
theorem dX10_yearsNow_60 : decode cX10_yearsNow 60 = .ok (.iload 5, 2) := by decide +kernel
theorem dX10_yearsNow_62 : decode cX10_yearsNow 62 = .ok (.aload_n 0, 1) := by decide +kernel
theorem dX10_yearsNow_63 : decode cX10_yearsNow 63 = .ok (.iconst 1, 1) := by decide +kernel
theorem dX10_yearsNow_64 : decode cX10_yearsNow 64 = .ok (.iload 6, 2) := by decide +kernel
theorem dX10_yearsNow_66 : decode cX10_yearsNow 66 = .ok (.invokevirtual 110, 3) := by decide +kernel
theorem dX10_yearsNow_69 : decode cX10_yearsNow 69 = .ok (.ifCond .ge 7, 3) := by decide +kernel
theorem dX10_yearsNow_72 : decode cX10_yearsNow 72 = .ok (.iconst 1, 1) := by decide +kernel
theorem dX10_yearsNow_73 : decode cX10_yearsNow 73 = .ok (.goto 4, 3) := by decide +kernel
theorem dX10_yearsNow_76 : decode cX10_yearsNow 76 = .ok (.iconst 0, 1) := by decide +kernel
theorem dX10_yearsNow_77 : decode cX10_yearsNow 77 = .ok (.iadd, 1) := by decide +kernel
theorem dX10_yearsNow_78 : decode cX10_yearsNow 78 = .ok (.istore 5, 2) := by decide +kernel
theorem dX10_yearsNow_80 : decode cX10_yearsNow 80 = .ok (.iinc 6 1, 3) := by decide +kernel
theorem dX10_yearsNow_83 : decode cX10_yearsNow 83 = .ok (.goto (-45), 3) := by decide +kernel
theorem dX10_yearsNow_86 : decode cX10_yearsNow 86 = .ok (.iload_n 3, 1) := by decide +kernel
theorem dX10_yearsNow_87 : decode cX10_yearsNow 87 = .ok (.ifCond .ne 8, 3) := by decide +kernel
theorem dX10_yearsNow_90 : decode cX10_yearsNow 90 = .ok (.iload 4, 2) := by decide +kernel
theorem dX10_yearsNow_92 : decode cX10_yearsNow 92 = .ok (.goto 18, 3) := by decide +kernel
theorem dX10_yearsNow_95 : decode cX10_yearsNow 95 = .ok (.iload_n 3, 1) := by decide +kernel
theorem dX10_yearsNow_96 : decode cX10_yearsNow 96 = .ok (.iconst 1, 1) := by decide +kernel
theorem dX10_yearsNow_97 : decode cX10_yearsNow 97 = .ok (.if_icmp .ne 8, 3) := by decide +kernel
theorem dX10_yearsNow_100 : decode cX10_yearsNow 100 = .ok (.iload 5, 2) := by decide +kernel
theorem dX10_yearsNow_102 : decode cX10_yearsNow 102 = .ok (.goto 8, 3) := by decide +kernel
theorem dX10_yearsNow_105 : decode cX10_yearsNow 105 = .ok (.aload_n 0, 1) := by decide +kernel
theorem dX10_yearsNow_106 : decode cX10_yearsNow 106 = .ok (.getfield 190, 3) := by decide +kernel
theorem dX10_yearsNow_109 : decode cX10_yearsNow 109 = .ok (.l2i, 1) := by decide +kernel
theorem dX10_yearsNow_110 : decode cX10_yearsNow 110 = .ok (.ireturn, 1) := by decide +kernel
theorem dX10_years_0 : decode cX10_years 0 = .ok (.iload_n 1, 1) := by decide +kernel
theorem dX10_years_1 : decode cX10_years 1 = .ok (.iconst 1, 1) := by decide +kernel
theorem dX10_years_2 : decode cX10_years 2 = .ok (.bipush 60, 2) := by decide +kernel
theorem dX10_years_4 : decode cX10_years 4 = .ok (.invokestatic 69, 3) := by decide +kernel
theorem dX10_years_7 : decode cX10_years 7 = .ok (.ifCond .eq 16, 3) := by decide +kernel
theorem dX10_years_10 : decode cX10_years 10 = .ok (.iload_n 2, 1) := by decide +kernel
theorem dX10_years_11 : decode cX10_years 11 = .ok (.ifCond .lt 12, 3) := by decide +kernel
theorem dX10_years_14 : decode cX10_years 14 = .ok (.iload_n 3, 1) := by decide +kernel
theorem dX10_years_15 : decode cX10_years 15 = .ok (.iconst 0, 1) := by decide +kernel
theorem dX10_years_16 : decode cX10_years 16 = .ok (.iconst 2, 1) := by decide +kernel
theorem dX10_years_17 : decode cX10_years 17 = .ok (.invokestatic 69, 3) := by decide +kernel
theorem dX10_years_20 : decode cX10_years 20 = .ok (.ifCond .ne 6, 3) := by decide +kernel
theorem dX10_years_23 : decode cX10_years 23 = .ok (.bipush (-102), 2) := by decide +kernel
theorem dX10_years_25 : decode cX10_years 25 = .ok (.ireturn, 1) := by decide +kernel
theorem dX10_years_26 : decode cX10_years 26 = .ok (.aload_n 0, 1) := by decide +kernel
theorem dX10_years_27 : decode cX10_years 27 = .ok (.getfield 93, 3) := by decide +kernel
theorem dX10_years_30 : decode cX10_years 30 = .ok (.ifCond .ne 8, 3) := by decide +kernel
theorem dX10_years_33 : decode cX10_years 33 = .ok (.bipush (-103), 2) := by decide +kernel
theorem dX10_years_35 : decode cX10_years 35 = .ok (.goto 10, 3) := by decide +kernel
theorem dX10_years_38 : decode cX10_years 38 = .ok (.aload_n 0, 1) := by decide +kernel
theorem dX10_years_39 : decode cX10_years 39 = .ok (.iload_n 1, 1) := by decide +kernel
theorem dX10_years_40 : decode cX10_years 40 = .ok (.iload_n 2, 1) := by decide +kernel
theorem dX10_years_41 : decode cX10_years 41 = .ok (.iload_n 3, 1) := by decide +kernel
theorem dX10_years_42 : decode cX10_years 42 = .ok (.invokevirtual 206, 3) := by decide +kernel
theorem dX10_years_45 : decode cX10_years 45 = .ok (.ireturn, 1) := by decide +kernel
theorem dX10_image_0 : decode cX10_image 0 = .ok (.aload_n 0, 1) := by decide +kernel
theorem dX10_image_1 : decode cX10_image 1 = .ok (.iconst 1, 1) := by decide +kernel
theorem dX10_image_2 : decode cX10_image 2 = .ok (.putfield 209, 3) := by decide +kernel
theorem dX10_image_5 : decode cX10_image 5 = .ok (.aload_n 0, 1) := by decide +kernel
theorem dX10_image_6 : decode cX10_image 6 = .ok (.aload_n 0, 1) := by decide +kernel
theorem dX10_image_7 : decode cX10_image 7 = .ok (.getfield 7, 3) := by decide +kernel
theorem dX10_image_10 : decode cX10_image 10 = .ok (.putfield 213, 3) := by decide +kernel
theorem dX10_image_13 : decode cX10_image 13 = .ok (.aload_n 0, 1) := by decide +kernel
theorem dX10_image_14 : decode cX10_image 14 = .ok (.aload_n 0, 1) := by decide +kernel
theorem dX10_image_15 : decode cX10_image 15 = .ok (.getfield 13, 3) := by decide +kernel
theorem dX10_image_18 : decode cX10_image 18 = .ok (.putfield 216, 3) := by decide +kernel
theorem dX10_image_21 : decode cX10_image 21 = .ok (.aload_n 0, 1) := by decide +kernel
theorem dX10_image_22 : decode cX10_image 22 = .ok (.aload_n 0, 1) := by decide +kernel
theorem dX10_image_23 : decode cX10_image 23 = .ok (.getfield 84, 3) := by decide +kernel
theorem dX10_image_26 : decode cX10_image 26 = .ok (.putfield 219, 3) := by decide +kernel
theorem dX10_image_29 : decode cX10_image 29 = .ok (.aload_n 0, 1) := by decide +kernel
theorem dX10_image_30 : decode cX10_image 30 = .ok (.aload_n 0, 1) := by decide +kernel
theorem dX10_image_31 : decode cX10_image 31 = .ok (.getfield 87, 3) := by decide +kernel
theorem dX10_image_34 : decode cX10_image 34 = .ok (.putfield 222, 3) := by decide +kernel
theorem dX10_image_37 : decode cX10_image 37 = .ok (.aload_n 0, 1) := by decide +kernel
theorem dX10_image_38 : decode cX10_image 38 = .ok (.aload_n 0, 1) := by decide +kernel
theorem dX10_image_39 : decode cX10_image 39 = .ok (.getfield 93, 3) := by decide +kernel
theorem dX10_image_42 : decode cX10_image 42 = .ok (.putfield 225, 3) := by decide +kernel
theorem dX10_image_45 : decode cX10_image 45 = .ok (.aload_n 0, 1) := by decide +kernel
theorem dX10_image_46 : decode cX10_image 46 = .ok (.aload_n 0, 1) := by decide +kernel
theorem dX10_image_47 : decode cX10_image 47 = .ok (.getfield 144, 3) := by decide +kernel
theorem dX10_image_50 : decode cX10_image 50 = .ok (.putfield 228, 3) := by decide +kernel
theorem dX10_image_53 : decode cX10_image 53 = .ok (.aload_n 0, 1) := by decide +kernel
theorem dX10_image_54 : decode cX10_image 54 = .ok (.aload_n 0, 1) := by decide +kernel
theorem dX10_image_55 : decode cX10_image 55 = .ok (.getfield 174, 3) := by decide +kernel
theorem dX10_image_58 : decode cX10_image 58 = .ok (.putfield 231, 3) := by decide +kernel
theorem dX10_image_61 : decode cX10_image 61 = .ok (.iconst 0, 1) := by decide +kernel
theorem dX10_image_62 : decode cX10_image 62 = .ok (.istore_n 1, 1) := by decide +kernel
theorem dX10_image_63 : decode cX10_image 63 = .ok (.iload_n 1, 1) := by decide +kernel
theorem dX10_image_64 : decode cX10_image 64 = .ok (.iconst 5, 1) := by decide +kernel
theorem dX10_image_65 : decode cX10_image 65 = .ok (.if_icmp .ge 21, 3) := by decide +kernel
theorem dX10_image_68 : decode cX10_image 68 = .ok (.aload_n 0, 1) := by decide +kernel
theorem dX10_image_69 : decode cX10_image 69 = .ok (.getfield 54, 3) := by decide +kernel
theorem dX10_image_72 : decode cX10_image 72 = .ok (.iload_n 1, 1) := by decide +kernel
theorem dX10_image_73 : decode cX10_image 73 = .ok (.aload_n 0, 1) := by decide +kernel
theorem dX10_image_74 : decode cX10_image 74 = .ok (.getfield 20, 3) := by decide +kernel
theorem dX10_image_77 : decode cX10_image 77 = .ok (.iload_n 1, 1) := by decide +kernel
theorem dX10_image_78 : decode cX10_image 78 = .ok (.iaload, 1) := by decide +kernel
theorem dX10_image_79 : decode cX10_image 79 = .ok (.iastore, 1) := by decide +kernel
theorem dX10_image_80 : decode cX10_image 80 = .ok (.iinc 1 1, 3) := by decide +kernel
theorem dX10_image_83 : decode cX10_image 83 = .ok (.goto (-20), 3) := by decide +kernel
theorem dX10_image_86 : decode cX10_image 86 = .ok (.iconst 0, 1) := by decide +kernel
theorem dX10_image_87 : decode cX10_image 87 = .ok (.istore_n 1, 1) := by decide +kernel
theorem dX10_image_88 : decode cX10_image 88 = .ok (.iload_n 1, 1) := by decide +kernel
theorem dX10_image_89 : decode cX10_image 89 = .ok (.bipush 25, 2) := by decide +kernel
theorem dX10_image_91 : decode cX10_image 91 = .ok (.if_icmp .ge 45, 3) := by decide +kernel
theorem dX10_image_94 : decode cX10_image 94 = .ok (.aload_n 0, 1) := by decide +kernel
theorem dX10_image_95 : decode cX10_image 95 = .ok (.getfield 57, 3) := by decide +kernel
theorem dX10_image_98 : decode cX10_image 98 = .ok (.iload_n 1, 1) := by decide +kernel
theorem dX10_image_99 : decode cX10_image 99 = .ok (.aload_n 0, 1) := by decide +kernel
theorem dX10_image_100 : decode cX10_image 100 = .ok (.getfield 23, 3) := by decide +kernel
theorem dX10_image_103 : decode cX10_image 103 = .ok (.iload_n 1, 1) := by decide +kernel
theorem dX10_image_104 : decode cX10_image 104 = .ok (.iaload, 1) := by decide +kernel
theorem dX10_image_105 : decode cX10_image 105 = .ok (.iastore, 1) := by decide +kernel
theorem dX10_image_106 : decode cX10_image 106 = .ok (.aload_n 0, 1) := by decide +kernel
theorem dX10_image_107 : decode cX10_image 107 = .ok (.getfield 60, 3) := by decide +kernel
theorem dX10_image_110 : decode cX10_image 110 = .ok (.iload_n 1, 1) := by decide +kernel
theorem dX10_image_111 : decode cX10_image 111 = .ok (.aload_n 0, 1) := by decide +kernel
theorem dX10_image_112 : decode cX10_image 112 = .ok (.getfield 26, 3) := by decide +kernel
theorem dX10_image_115 : decode cX10_image 115 = .ok (.iload_n 1, 1) := by decide +kernel
theorem dX10_image_116 : decode cX10_image 116 = .ok (.iaload, 1) := by decide +kernel
theorem dX10_image_117 : decode cX10_image 117 = .ok (.iastore, 1) := by decide +kernel
theorem dX10_image_118 : decode cX10_image 118 = .ok (.aload_n 0, 1) := by decide +kernel
theorem dX10_image_119 : decode cX10_image 119 = .ok (.getfield 63, 3) := by decide +kernel
theorem dX10_image_122 : decode cX10_image 122 = .ok (.iload_n 1, 1) := by decide +kernel
theorem dX10_image_123 : decode cX10_image 123 = .ok (.aload_n 0, 1) := by decide +kernel
theorem dX10_image_124 : decode cX10_image 124 = .ok (.getfield 29, 3) := by decide +kernel
theorem dX10_image_127 : decode cX10_image 127 = .ok (.iload_n 1, 1) := by decide +kernel
theorem dX10_image_128 : decode cX10_image 128 = .ok (.iaload, 1) := by decide +kernel
theorem dX10_image_129 : decode cX10_image 129 = .ok (.iastore, 1) := by decide +kernel
theorem dX10_image_130 : decode cX10_image 130 = .ok (.iinc 1 1, 3) := by decide +kernel
theorem dX10_image_133 : decode cX10_image 133 = .ok (.goto (-45), 3) := by decide +kernel
theorem dX10_image_136 : decode cX10_image 136 = .ok (.iconst 0, 1) := by decide +kernel
theorem dX10_image_137 : decode cX10_image 137 = .ok (.istore_n 1, 1) := by decide +kernel
theorem dX10_image_138 : decode cX10_image 138 = .ok (.iload_n 1, 1) := by decide +kernel
theorem dX10_image_139 : decode cX10_image 139 = .ok (.bipush 6, 2) := by decide +kernel
theorem dX10_image_141 : decode cX10_image 141 = .ok (.if_icmp .ge 55, 3) := by decide +kernel
theorem dX10_image_144 : decode cX10_image 144 = .ok (.aload_n 0, 1) := by decide +kernel
theorem dX10_image_145 : decode cX10_image 145 = .ok (.getfield 66, 3) := by decide +kernel
theorem dX10_image_148 : decode cX10_image 148 = .ok (.iconst 3, 1) := by decide +kernel
theorem dX10_image_149 : decode cX10_image 149 = .ok (.iload_n 1, 1) := by decide +kernel
theorem dX10_image_150 : decode cX10_image 150 = .ok (.imul, 1) := by decide +kernel
theorem dX10_image_151 : decode cX10_image 151 = .ok (.aload_n 0, 1) := by decide +kernel
theorem dX10_image_152 : decode cX10_image 152 = .ok (.getfield 32, 3) := by decide +kernel
theorem dX10_image_155 : decode cX10_image 155 = .ok (.iload_n 1, 1) := by decide +kernel
theorem dX10_image_156 : decode cX10_image 156 = .ok (.iaload, 1) := by decide +kernel
theorem dX10_image_157 : decode cX10_image 157 = .ok (.iastore, 1) := by decide +kernel
theorem dX10_image_158 : decode cX10_image 158 = .ok (.aload_n 0, 1) := by decide +kernel
theorem dX10_image_159 : decode cX10_image 159 = .ok (.getfield 66, 3) := by decide +kernel
theorem dX10_image_162 : decode cX10_image 162 = .ok (.iconst 3, 1) := by decide +kernel
theorem dX10_image_163 : decode cX10_image 163 = .ok (.iload_n 1, 1) := by decide +kernel
theorem dX10_image_164 : decode cX10_image 164 = .ok (.imul, 1) := by decide +kernel
theorem dX10_image_165 : decode cX10_image 165 = .ok (.iconst 1, 1) := by decide +kernel
theorem dX10_image_166 : decode cX10_image 166 = .ok (.iadd, 1) := by decide +kernel
theorem dX10_image_167 : decode cX10_image 167 = .ok (.aload_n 0, 1) := by decide +kernel
theorem dX10_image_168 : decode cX10_image 168 = .ok (.getfield 35, 3) := by decide +kernel
theorem dX10_image_171 : decode cX10_image 171 = .ok (.iload_n 1, 1) := by decide +kernel
theorem dX10_image_172 : decode cX10_image 172 = .ok (.iaload, 1) := by decide +kernel
theorem dX10_image_173 : decode cX10_image 173 = .ok (.iastore, 1) := by decide +kernel
theorem dX10_image_174 : decode cX10_image 174 = .ok (.aload_n 0, 1) := by decide +kernel
theorem dX10_image_175 : decode cX10_image 175 = .ok (.getfield 66, 3) := by decide +kernel
theorem dX10_image_178 : decode cX10_image 178 = .ok (.iconst 3, 1) := by decide +kernel
theorem dX10_image_179 : decode cX10_image 179 = .ok (.iload_n 1, 1) := by decide +kernel
theorem dX10_image_180 : decode cX10_image 180 = .ok (.imul, 1) := by decide +kernel
theorem dX10_image_181 : decode cX10_image 181 = .ok (.iconst 2, 1) := by decide +kernel
theorem dX10_image_182 : decode cX10_image 182 = .ok (.iadd, 1) := by decide +kernel
theorem dX10_image_183 : decode cX10_image 183 = .ok (.aload_n 0, 1) := by decide +kernel
theorem dX10_image_184 : decode cX10_image 184 = .ok (.getfield 38, 3) := by decide +kernel
theorem dX10_image_187 : decode cX10_image 187 = .ok (.iload_n 1, 1) := by decide +kernel
theorem dX10_image_188 : decode cX10_image 188 = .ok (.iaload, 1) := by decide +kernel
theorem dX10_image_189 : decode cX10_image 189 = .ok (.iastore, 1) := by decide +kernel
theorem dX10_image_190 : decode cX10_image 190 = .ok (.iinc 1 1, 3) := by decide +kernel
theorem dX10_image_193 : decode cX10_image 193 = .ok (.goto (-55), 3) := by decide +kernel
theorem dX10_image_196 : decode cX10_image 196 = .ok (.aload_n 0, 1) := by decide +kernel
theorem dX10_image_197 : decode cX10_image 197 = .ok (.getfield 144, 3) := by decide +kernel
theorem dX10_image_200 : decode cX10_image 200 = .ok (.ireturn, 1) := by decide +kernel
theorem dX10_restore_0 : decode cX10_restore 0 = .ok (.aload_n 0, 1) := by decide +kernel
theorem dX10_restore_1 : decode cX10_restore 1 = .ok (.getfield 209, 3) := by decide +kernel
theorem dX10_restore_4 : decode cX10_restore 4 = .ok (.ifCond .ne 6, 3) := by decide +kernel
theorem dX10_restore_7 : decode cX10_restore 7 = .ok (.bipush (-103), 2) := by decide +kernel
theorem dX10_restore_9 : decode cX10_restore 9 = .ok (.ireturn, 1) := by decide +kernel
theorem dX10_restore_10 : decode cX10_restore 10 = .ok (.aload_n 0, 1) := by decide +kernel
theorem dX10_restore_11 : decode cX10_restore 11 = .ok (.aload_n 0, 1) := by decide +kernel
theorem dX10_restore_12 : decode cX10_restore 12 = .ok (.getfield 213, 3) := by decide +kernel
theorem dX10_restore_15 : decode cX10_restore 15 = .ok (.putfield 7, 3) := by decide +kernel
theorem dX10_restore_18 : decode cX10_restore 18 = .ok (.aload_n 0, 1) := by decide +kernel
theorem dX10_restore_19 : decode cX10_restore 19 = .ok (.aload_n 0, 1) := by decide +kernel
theorem dX10_restore_20 : decode cX10_restore 20 = .ok (.getfield 216, 3) := by decide +kernel
theorem dX10_restore_23 : decode cX10_restore 23 = .ok (.putfield 13, 3) := by decide +kernel
theorem dX10_restore_26 : decode cX10_restore 26 = .ok (.aload_n 0, 1) := by decide +kernel
theorem dX10_restore_27 : decode cX10_restore 27 = .ok (.aload_n 0, 1) := by decide +kernel
theorem dX10_restore_28 : decode cX10_restore 28 = .ok (.getfield 219, 3) := by decide +kernel
theorem dX10_restore_31 : decode cX10_restore 31 = .ok (.putfield 84, 3) := by decide +kernel
theorem dX10_restore_34 : decode cX10_restore 34 = .ok (.aload_n 0, 1) := by decide +kernel
theorem dX10_restore_35 : decode cX10_restore 35 = .ok (.aload_n 0, 1) := by decide +kernel
theorem dX10_restore_36 : decode cX10_restore 36 = .ok (.getfield 222, 3) := by decide +kernel
theorem dX10_restore_39 : decode cX10_restore 39 = .ok (.putfield 87, 3) := by decide +kernel
theorem dX10_restore_42 : decode cX10_restore 42 = .ok (.aload_n 0, 1) := by decide +kernel
theorem dX10_restore_43 : decode cX10_restore 43 = .ok (.aload_n 0, 1) := by decide +kernel
theorem dX10_restore_44 : decode cX10_restore 44 = .ok (.getfield 225, 3) := by decide +kernel
theorem dX10_restore_47 : decode cX10_restore 47 = .ok (.putfield 93, 3) := by decide +kernel
theorem dX10_restore_50 : decode cX10_restore 50 = .ok (.aload_n 0, 1) := by decide +kernel
theorem dX10_restore_51 : decode cX10_restore 51 = .ok (.aload_n 0, 1) := by decide +kernel
theorem dX10_restore_52 : decode cX10_restore 52 = .ok (.getfield 228, 3) := by decide +kernel
theorem dX10_restore_55 : decode cX10_restore 55 = .ok (.putfield 144, 3) := by decide +kernel
theorem dX10_restore_58 : decode cX10_restore 58 = .ok (.aload_n 0, 1) := by decide +kernel
theorem dX10_restore_59 : decode cX10_restore 59 = .ok (.aload_n 0, 1) := by decide +kernel
theorem dX10_restore_60 : decode cX10_restore 60 = .ok (.getfield 231, 3) := by decide +kernel
theorem dX10_restore_63 : decode cX10_restore 63 = .ok (.putfield 174, 3) := by decide +kernel
theorem dX10_restore_66 : decode cX10_restore 66 = .ok (.iconst 0, 1) := by decide +kernel
theorem dX10_restore_67 : decode cX10_restore 67 = .ok (.istore_n 1, 1) := by decide +kernel
theorem dX10_restore_68 : decode cX10_restore 68 = .ok (.iload_n 1, 1) := by decide +kernel
theorem dX10_restore_69 : decode cX10_restore 69 = .ok (.iconst 5, 1) := by decide +kernel
theorem dX10_restore_70 : decode cX10_restore 70 = .ok (.if_icmp .ge 21, 3) := by decide +kernel
theorem dX10_restore_73 : decode cX10_restore 73 = .ok (.aload_n 0, 1) := by decide +kernel
theorem dX10_restore_74 : decode cX10_restore 74 = .ok (.getfield 20, 3) := by decide +kernel
theorem dX10_restore_77 : decode cX10_restore 77 = .ok (.iload_n 1, 1) := by decide +kernel
theorem dX10_restore_78 : decode cX10_restore 78 = .ok (.aload_n 0, 1) := by decide +kernel
theorem dX10_restore_79 : decode cX10_restore 79 = .ok (.getfield 54, 3) := by decide +kernel
theorem dX10_restore_82 : decode cX10_restore 82 = .ok (.iload_n 1, 1) := by decide +kernel
theorem dX10_restore_83 : decode cX10_restore 83 = .ok (.iaload, 1) := by decide +kernel
theorem dX10_restore_84 : decode cX10_restore 84 = .ok (.iastore, 1) := by decide +kernel
theorem dX10_restore_85 : decode cX10_restore 85 = .ok (.iinc 1 1, 3) := by decide +kernel
theorem dX10_restore_88 : decode cX10_restore 88 = .ok (.goto (-20), 3) := by decide +kernel
theorem dX10_restore_91 : decode cX10_restore 91 = .ok (.iconst 0, 1) := by decide +kernel
theorem dX10_restore_92 : decode cX10_restore 92 = .ok (.istore_n 1, 1) := by decide +kernel
theorem dX10_restore_93 : decode cX10_restore 93 = .ok (.iload_n 1, 1) := by decide +kernel
theorem dX10_restore_94 : decode cX10_restore 94 = .ok (.bipush 25, 2) := by decide +kernel
theorem dX10_restore_96 : decode cX10_restore 96 = .ok (.if_icmp .ge 45, 3) := by decide +kernel
theorem dX10_restore_99 : decode cX10_restore 99 = .ok (.aload_n 0, 1) := by decide +kernel
theorem dX10_restore_100 : decode cX10_restore 100 = .ok (.getfield 23, 3) := by decide +kernel
theorem dX10_restore_103 : decode cX10_restore 103 = .ok (.iload_n 1, 1) := by decide +kernel
theorem dX10_restore_104 : decode cX10_restore 104 = .ok (.aload_n 0, 1) := by decide +kernel
theorem dX10_restore_105 : decode cX10_restore 105 = .ok (.getfield 57, 3) := by decide +kernel
theorem dX10_restore_108 : decode cX10_restore 108 = .ok (.iload_n 1, 1) := by decide +kernel
theorem dX10_restore_109 : decode cX10_restore 109 = .ok (.iaload, 1) := by decide +kernel
theorem dX10_restore_110 : decode cX10_restore 110 = .ok (.iastore, 1) := by decide +kernel
theorem dX10_restore_111 : decode cX10_restore 111 = .ok (.aload_n 0, 1) := by decide +kernel
theorem dX10_restore_112 : decode cX10_restore 112 = .ok (.getfield 26, 3) := by decide +kernel
theorem dX10_restore_115 : decode cX10_restore 115 = .ok (.iload_n 1, 1) := by decide +kernel
theorem dX10_restore_116 : decode cX10_restore 116 = .ok (.aload_n 0, 1) := by decide +kernel
theorem dX10_restore_117 : decode cX10_restore 117 = .ok (.getfield 60, 3) := by decide +kernel
theorem dX10_restore_120 : decode cX10_restore 120 = .ok (.iload_n 1, 1) := by decide +kernel
theorem dX10_restore_121 : decode cX10_restore 121 = .ok (.iaload, 1) := by decide +kernel
theorem dX10_restore_122 : decode cX10_restore 122 = .ok (.iastore, 1) := by decide +kernel
theorem dX10_restore_123 : decode cX10_restore 123 = .ok (.aload_n 0, 1) := by decide +kernel
theorem dX10_restore_124 : decode cX10_restore 124 = .ok (.getfield 29, 3) := by decide +kernel
theorem dX10_restore_127 : decode cX10_restore 127 = .ok (.iload_n 1, 1) := by decide +kernel
theorem dX10_restore_128 : decode cX10_restore 128 = .ok (.aload_n 0, 1) := by decide +kernel
theorem dX10_restore_129 : decode cX10_restore 129 = .ok (.getfield 63, 3) := by decide +kernel
theorem dX10_restore_132 : decode cX10_restore 132 = .ok (.iload_n 1, 1) := by decide +kernel
theorem dX10_restore_133 : decode cX10_restore 133 = .ok (.iaload, 1) := by decide +kernel
theorem dX10_restore_134 : decode cX10_restore 134 = .ok (.iastore, 1) := by decide +kernel
theorem dX10_restore_135 : decode cX10_restore 135 = .ok (.iinc 1 1, 3) := by decide +kernel
theorem dX10_restore_138 : decode cX10_restore 138 = .ok (.goto (-45), 3) := by decide +kernel
theorem dX10_restore_141 : decode cX10_restore 141 = .ok (.iconst 0, 1) := by decide +kernel
theorem dX10_restore_142 : decode cX10_restore 142 = .ok (.istore_n 1, 1) := by decide +kernel
theorem dX10_restore_143 : decode cX10_restore 143 = .ok (.iload_n 1, 1) := by decide +kernel
theorem dX10_restore_144 : decode cX10_restore 144 = .ok (.bipush 6, 2) := by decide +kernel
theorem dX10_restore_146 : decode cX10_restore 146 = .ok (.if_icmp .ge 55, 3) := by decide +kernel
theorem dX10_restore_149 : decode cX10_restore 149 = .ok (.aload_n 0, 1) := by decide +kernel
theorem dX10_restore_150 : decode cX10_restore 150 = .ok (.getfield 32, 3) := by decide +kernel
theorem dX10_restore_153 : decode cX10_restore 153 = .ok (.iload_n 1, 1) := by decide +kernel
theorem dX10_restore_154 : decode cX10_restore 154 = .ok (.aload_n 0, 1) := by decide +kernel
theorem dX10_restore_155 : decode cX10_restore 155 = .ok (.getfield 66, 3) := by decide +kernel
theorem dX10_restore_158 : decode cX10_restore 158 = .ok (.iconst 3, 1) := by decide +kernel
theorem dX10_restore_159 : decode cX10_restore 159 = .ok (.iload_n 1, 1) := by decide +kernel
theorem dX10_restore_160 : decode cX10_restore 160 = .ok (.imul, 1) := by decide +kernel
theorem dX10_restore_161 : decode cX10_restore 161 = .ok (.iaload, 1) := by decide +kernel
theorem dX10_restore_162 : decode cX10_restore 162 = .ok (.iastore, 1) := by decide +kernel
theorem dX10_restore_163 : decode cX10_restore 163 = .ok (.aload_n 0, 1) := by decide +kernel
theorem dX10_restore_164 : decode cX10_restore 164 = .ok (.getfield 35, 3) := by decide +kernel
theorem dX10_restore_167 : decode cX10_restore 167 = .ok (.iload_n 1, 1) := by decide +kernel
theorem dX10_restore_168 : decode cX10_restore 168 = .ok (.aload_n 0, 1) := by decide +kernel
theorem dX10_restore_169 : decode cX10_restore 169 = .ok (.getfield 66, 3) := by decide +kernel
theorem dX10_restore_172 : decode cX10_restore 172 = .ok (.iconst 3, 1) := by decide +kernel
theorem dX10_restore_173 : decode cX10_restore 173 = .ok (.iload_n 1, 1) := by decide +kernel
theorem dX10_restore_174 : decode cX10_restore 174 = .ok (.imul, 1) := by decide +kernel
theorem dX10_restore_175 : decode cX10_restore 175 = .ok (.iconst 1, 1) := by decide +kernel
theorem dX10_restore_176 : decode cX10_restore 176 = .ok (.iadd, 1) := by decide +kernel
theorem dX10_restore_177 : decode cX10_restore 177 = .ok (.iaload, 1) := by decide +kernel
theorem dX10_restore_178 : decode cX10_restore 178 = .ok (.iastore, 1) := by decide +kernel
theorem dX10_restore_179 : decode cX10_restore 179 = .ok (.aload_n 0, 1) := by decide +kernel
theorem dX10_restore_180 : decode cX10_restore 180 = .ok (.getfield 38, 3) := by decide +kernel
theorem dX10_restore_183 : decode cX10_restore 183 = .ok (.iload_n 1, 1) := by decide +kernel
theorem dX10_restore_184 : decode cX10_restore 184 = .ok (.aload_n 0, 1) := by decide +kernel
theorem dX10_restore_185 : decode cX10_restore 185 = .ok (.getfield 66, 3) := by decide +kernel
theorem dX10_restore_188 : decode cX10_restore 188 = .ok (.iconst 3, 1) := by decide +kernel
theorem dX10_restore_189 : decode cX10_restore 189 = .ok (.iload_n 1, 1) := by decide +kernel
theorem dX10_restore_190 : decode cX10_restore 190 = .ok (.imul, 1) := by decide +kernel
theorem dX10_restore_191 : decode cX10_restore 191 = .ok (.iconst 2, 1) := by decide +kernel
theorem dX10_restore_192 : decode cX10_restore 192 = .ok (.iadd, 1) := by decide +kernel
theorem dX10_restore_193 : decode cX10_restore 193 = .ok (.iaload, 1) := by decide +kernel
theorem dX10_restore_194 : decode cX10_restore 194 = .ok (.iastore, 1) := by decide +kernel
theorem dX10_restore_195 : decode cX10_restore 195 = .ok (.iinc 1 1, 3) := by decide +kernel
theorem dX10_restore_198 : decode cX10_restore 198 = .ok (.goto (-55), 3) := by decide +kernel
theorem dX10_restore_201 : decode cX10_restore 201 = .ok (.aload_n 0, 1) := by decide +kernel
theorem dX10_restore_202 : decode cX10_restore 202 = .ok (.getfield 144, 3) := by decide +kernel
theorem dX10_restore_205 : decode cX10_restore 205 = .ok (.ireturn, 1) := by decide +kernel
theorem dX10_owedAll_0 : decode cX10_owedAll 0 = .ok (.iconst 0, 1) := by decide +kernel
theorem dX10_owedAll_1 : decode cX10_owedAll 1 = .ok (.istore_n 1, 1) := by decide +kernel
theorem dX10_owedAll_2 : decode cX10_owedAll 2 = .ok (.iconst 0, 1) := by decide +kernel
theorem dX10_owedAll_3 : decode cX10_owedAll 3 = .ok (.istore_n 2, 1) := by decide +kernel
theorem dX10_owedAll_4 : decode cX10_owedAll 4 = .ok (.iload_n 2, 1) := by decide +kernel
theorem dX10_owedAll_5 : decode cX10_owedAll 5 = .ok (.aload_n 0, 1) := by decide +kernel
theorem dX10_owedAll_6 : decode cX10_owedAll 6 = .ok (.getfield 93, 3) := by decide +kernel
theorem dX10_owedAll_9 : decode cX10_owedAll 9 = .ok (.if_icmp .ge 18, 3) := by decide +kernel
theorem dX10_owedAll_12 : decode cX10_owedAll 12 = .ok (.iload_n 1, 1) := by decide +kernel
theorem dX10_owedAll_13 : decode cX10_owedAll 13 = .ok (.aload_n 0, 1) := by decide +kernel
theorem dX10_owedAll_14 : decode cX10_owedAll 14 = .ok (.iconst 0, 1) := by decide +kernel
theorem dX10_owedAll_15 : decode cX10_owedAll 15 = .ok (.iload_n 2, 1) := by decide +kernel
theorem dX10_owedAll_16 : decode cX10_owedAll 16 = .ok (.invokevirtual 107, 3) := by decide +kernel
theorem dX10_owedAll_19 : decode cX10_owedAll 19 = .ok (.iadd, 1) := by decide +kernel
theorem dX10_owedAll_20 : decode cX10_owedAll 20 = .ok (.istore_n 1, 1) := by decide +kernel
theorem dX10_owedAll_21 : decode cX10_owedAll 21 = .ok (.iinc 2 1, 3) := by decide +kernel
theorem dX10_owedAll_24 : decode cX10_owedAll 24 = .ok (.goto (-20), 3) := by decide +kernel
theorem dX10_owedAll_27 : decode cX10_owedAll 27 = .ok (.iload_n 1, 1) := by decide +kernel
theorem dX10_owedAll_28 : decode cX10_owedAll 28 = .ok (.ireturn, 1) := by decide +kernel
theorem dX10_ruinedMany_0 : decode cX10_ruinedMany 0 = .ok (.iconst 0, 1) := by decide +kernel
theorem dX10_ruinedMany_1 : decode cX10_ruinedMany 1 = .ok (.istore_n 1, 1) := by decide +kernel
theorem dX10_ruinedMany_2 : decode cX10_ruinedMany 2 = .ok (.iconst 0, 1) := by decide +kernel
theorem dX10_ruinedMany_3 : decode cX10_ruinedMany 3 = .ok (.istore_n 2, 1) := by decide +kernel
theorem dX10_ruinedMany_4 : decode cX10_ruinedMany 4 = .ok (.iload_n 2, 1) := by decide +kernel
theorem dX10_ruinedMany_5 : decode cX10_ruinedMany 5 = .ok (.aload_n 0, 1) := by decide +kernel
theorem dX10_ruinedMany_6 : decode cX10_ruinedMany 6 = .ok (.getfield 93, 3) := by decide +kernel
theorem dX10_ruinedMany_9 : decode cX10_ruinedMany 9 = .ok (.if_icmp .ge 26, 3) := by decide +kernel
theorem dX10_ruinedMany_12 : decode cX10_ruinedMany 12 = .ok (.iload_n 1, 1) := by decide +kernel
theorem dX10_ruinedMany_13 : decode cX10_ruinedMany 13 = .ok (.aload_n 0, 1) := by decide +kernel
theorem dX10_ruinedMany_14 : decode cX10_ruinedMany 14 = .ok (.iconst 0, 1) := by decide +kernel
theorem dX10_ruinedMany_15 : decode cX10_ruinedMany 15 = .ok (.iload_n 2, 1) := by decide +kernel
theorem dX10_ruinedMany_16 : decode cX10_ruinedMany 16 = .ok (.invokevirtual 110, 3) := by decide +kernel
theorem dX10_ruinedMany_19 : decode cX10_ruinedMany 19 = .ok (.ifCond .ge 7, 3) := by decide +kernel
theorem dX10_ruinedMany_22 : decode cX10_ruinedMany 22 = .ok (.iconst 1, 1) := by decide +kernel
theorem dX10_ruinedMany_23 : decode cX10_ruinedMany 23 = .ok (.goto 4, 3) := by decide +kernel
theorem dX10_ruinedMany_26 : decode cX10_ruinedMany 26 = .ok (.iconst 0, 1) := by decide +kernel
theorem dX10_ruinedMany_27 : decode cX10_ruinedMany 27 = .ok (.iadd, 1) := by decide +kernel
theorem dX10_ruinedMany_28 : decode cX10_ruinedMany 28 = .ok (.istore_n 1, 1) := by decide +kernel
theorem dX10_ruinedMany_29 : decode cX10_ruinedMany 29 = .ok (.iinc 2 1, 3) := by decide +kernel
theorem dX10_ruinedMany_32 : decode cX10_ruinedMany 32 = .ok (.goto (-28), 3) := by decide +kernel
theorem dX10_ruinedMany_35 : decode cX10_ruinedMany 35 = .ok (.iload_n 1, 1) := by decide +kernel
theorem dX10_ruinedMany_36 : decode cX10_ruinedMany 36 = .ok (.ireturn, 1) := by decide +kernel
theorem dX10_howMany_0 : decode cX10_howMany 0 = .ok (.iload_n 1, 1) := by decide +kernel
theorem dX10_howMany_1 : decode cX10_howMany 1 = .ok (.tableswitch 114 0 10 #[59, 64, 69, 74, 79, 84, 89, 94, 99, 104, 109], 59) := by decide +kernel
theorem dX10_howMany_60 : decode cX10_howMany 60 = .ok (.aload_n 0, 1) := by decide +kernel
theorem dX10_howMany_61 : decode cX10_howMany 61 = .ok (.getfield 7, 3) := by decide +kernel
theorem dX10_howMany_64 : decode cX10_howMany 64 = .ok (.ireturn, 1) := by decide +kernel
theorem dX10_howMany_65 : decode cX10_howMany 65 = .ok (.aload_n 0, 1) := by decide +kernel
theorem dX10_howMany_66 : decode cX10_howMany 66 = .ok (.getfield 13, 3) := by decide +kernel
theorem dX10_howMany_69 : decode cX10_howMany 69 = .ok (.ireturn, 1) := by decide +kernel
theorem dX10_howMany_70 : decode cX10_howMany 70 = .ok (.aload_n 0, 1) := by decide +kernel
theorem dX10_howMany_71 : decode cX10_howMany 71 = .ok (.getfield 84, 3) := by decide +kernel
theorem dX10_howMany_74 : decode cX10_howMany 74 = .ok (.ireturn, 1) := by decide +kernel
theorem dX10_howMany_75 : decode cX10_howMany 75 = .ok (.aload_n 0, 1) := by decide +kernel
theorem dX10_howMany_76 : decode cX10_howMany 76 = .ok (.getfield 87, 3) := by decide +kernel
theorem dX10_howMany_79 : decode cX10_howMany 79 = .ok (.ireturn, 1) := by decide +kernel
theorem dX10_howMany_80 : decode cX10_howMany 80 = .ok (.aload_n 0, 1) := by decide +kernel
theorem dX10_howMany_81 : decode cX10_howMany 81 = .ok (.getfield 93, 3) := by decide +kernel
theorem dX10_howMany_84 : decode cX10_howMany 84 = .ok (.ireturn, 1) := by decide +kernel
theorem dX10_howMany_85 : decode cX10_howMany 85 = .ok (.aload_n 0, 1) := by decide +kernel
theorem dX10_howMany_86 : decode cX10_howMany 86 = .ok (.invokevirtual 234, 3) := by decide +kernel
theorem dX10_howMany_89 : decode cX10_howMany 89 = .ok (.ireturn, 1) := by decide +kernel
theorem dX10_howMany_90 : decode cX10_howMany 90 = .ok (.aload_n 0, 1) := by decide +kernel
theorem dX10_howMany_91 : decode cX10_howMany 91 = .ok (.getfield 144, 3) := by decide +kernel
theorem dX10_howMany_94 : decode cX10_howMany 94 = .ok (.ireturn, 1) := by decide +kernel
theorem dX10_howMany_95 : decode cX10_howMany 95 = .ok (.aload_n 0, 1) := by decide +kernel
theorem dX10_howMany_96 : decode cX10_howMany 96 = .ok (.getfield 174, 3) := by decide +kernel
theorem dX10_howMany_99 : decode cX10_howMany 99 = .ok (.ireturn, 1) := by decide +kernel
theorem dX10_howMany_100 : decode cX10_howMany 100 = .ok (.aload_n 0, 1) := by decide +kernel
theorem dX10_howMany_101 : decode cX10_howMany 101 = .ok (.invokevirtual 237, 3) := by decide +kernel
theorem dX10_howMany_104 : decode cX10_howMany 104 = .ok (.ireturn, 1) := by decide +kernel
theorem dX10_howMany_105 : decode cX10_howMany 105 = .ok (.aload_n 0, 1) := by decide +kernel
theorem dX10_howMany_106 : decode cX10_howMany 106 = .ok (.getfield 73, 3) := by decide +kernel
theorem dX10_howMany_109 : decode cX10_howMany 109 = .ok (.ireturn, 1) := by decide +kernel
theorem dX10_howMany_110 : decode cX10_howMany 110 = .ok (.aload_n 0, 1) := by decide +kernel
theorem dX10_howMany_111 : decode cX10_howMany 111 = .ok (.getfield 90, 3) := by decide +kernel
theorem dX10_howMany_114 : decode cX10_howMany 114 = .ok (.ireturn, 1) := by decide +kernel
theorem dX10_howMany_115 : decode cX10_howMany 115 = .ok (.bipush (-102), 2) := by decide +kernel
theorem dX10_howMany_117 : decode cX10_howMany 117 = .ok (.ireturn, 1) := by decide +kernel
theorem dX10_count_0 : decode cX10_count 0 = .ok (.aload_n 0, 1) := by decide +kernel
theorem dX10_count_1 : decode cX10_count 1 = .ok (.iload_n 1, 1) := by decide +kernel
theorem dX10_count_2 : decode cX10_count 2 = .ok (.invokevirtual 240, 3) := by decide +kernel
theorem dX10_count_5 : decode cX10_count 5 = .ok (.ireturn, 1) := by decide +kernel
theorem dX10_mix_0 : decode cX10_mix 0 = .ok (.aload_n 0, 1) := by decide +kernel
theorem dX10_mix_1 : decode cX10_mix 1 = .ok (.ldc2_w 243, 3) := by decide +kernel
theorem dX10_mix_4 : decode cX10_mix 4 = .ok (.aload_n 0, 1) := by decide +kernel
theorem dX10_mix_5 : decode cX10_mix 5 = .ok (.getfield 245, 3) := by decide +kernel
theorem dX10_mix_8 : decode cX10_mix 8 = .ok (.lmul, 1) := by decide +kernel
theorem dX10_mix_9 : decode cX10_mix 9 = .ok (.lload_n 1, 1) := by decide +kernel
theorem dX10_mix_10 : decode cX10_mix 10 = .ok (.ladd, 1) := by decide +kernel
theorem dX10_mix_11 : decode cX10_mix 11 = .ok (.putfield 245, 3) := by decide +kernel
theorem dX10_mix_14 : decode cX10_mix 14 = .ok (.return_, 1) := by decide +kernel
theorem dX10_mixPerson_0 : decode cX10_mixPerson 0 = .ok (.iconst 0, 1) := by decide +kernel
theorem dX10_mixPerson_1 : decode cX10_mixPerson 1 = .ok (.istore_n 2, 1) := by decide +kernel
theorem dX10_mixPerson_2 : decode cX10_mixPerson 2 = .ok (.iload_n 2, 1) := by decide +kernel
theorem dX10_mixPerson_3 : decode cX10_mixPerson 3 = .ok (.bipush 6, 2) := by decide +kernel
theorem dX10_mixPerson_5 : decode cX10_mixPerson 5 = .ok (.if_icmp .ge 20, 3) := by decide +kernel
theorem dX10_mixPerson_8 : decode cX10_mixPerson 8 = .ok (.aload_n 0, 1) := by decide +kernel
theorem dX10_mixPerson_9 : decode cX10_mixPerson 9 = .ok (.aload_n 0, 1) := by decide +kernel
theorem dX10_mixPerson_10 : decode cX10_mixPerson 10 = .ok (.iload_n 1, 1) := by decide +kernel
theorem dX10_mixPerson_11 : decode cX10_mixPerson 11 = .ok (.iload_n 2, 1) := by decide +kernel
theorem dX10_mixPerson_12 : decode cX10_mixPerson 12 = .ok (.invokevirtual 113, 3) := by decide +kernel
theorem dX10_mixPerson_15 : decode cX10_mixPerson 15 = .ok (.i2l, 1) := by decide +kernel
theorem dX10_mixPerson_16 : decode cX10_mixPerson 16 = .ok (.invokevirtual 248, 3) := by decide +kernel
theorem dX10_mixPerson_19 : decode cX10_mixPerson 19 = .ok (.iinc 2 1, 3) := by decide +kernel
theorem dX10_mixPerson_22 : decode cX10_mixPerson 22 = .ok (.goto (-20), 3) := by decide +kernel
theorem dX10_mixPerson_25 : decode cX10_mixPerson 25 = .ok (.aload_n 0, 1) := by decide +kernel
theorem dX10_mixPerson_26 : decode cX10_mixPerson 26 = .ok (.aload_n 0, 1) := by decide +kernel
theorem dX10_mixPerson_27 : decode cX10_mixPerson 27 = .ok (.iload_n 1, 1) := by decide +kernel
theorem dX10_mixPerson_28 : decode cX10_mixPerson 28 = .ok (.invokevirtual 154, 3) := by decide +kernel
theorem dX10_mixPerson_31 : decode cX10_mixPerson 31 = .ok (.i2l, 1) := by decide +kernel
theorem dX10_mixPerson_32 : decode cX10_mixPerson 32 = .ok (.invokevirtual 248, 3) := by decide +kernel
theorem dX10_mixPerson_35 : decode cX10_mixPerson 35 = .ok (.iconst 0, 1) := by decide +kernel
theorem dX10_mixPerson_36 : decode cX10_mixPerson 36 = .ok (.istore_n 2, 1) := by decide +kernel
theorem dX10_mixPerson_37 : decode cX10_mixPerson 37 = .ok (.iload_n 2, 1) := by decide +kernel
theorem dX10_mixPerson_38 : decode cX10_mixPerson 38 = .ok (.aload_n 0, 1) := by decide +kernel
theorem dX10_mixPerson_39 : decode cX10_mixPerson 39 = .ok (.getfield 93, 3) := by decide +kernel
theorem dX10_mixPerson_42 : decode cX10_mixPerson 42 = .ok (.if_icmp .ge 39, 3) := by decide +kernel
theorem dX10_mixPerson_45 : decode cX10_mixPerson 45 = .ok (.iconst 0, 1) := by decide +kernel
theorem dX10_mixPerson_46 : decode cX10_mixPerson 46 = .ok (.istore_n 3, 1) := by decide +kernel
theorem dX10_mixPerson_47 : decode cX10_mixPerson 47 = .ok (.iload_n 3, 1) := by decide +kernel
theorem dX10_mixPerson_48 : decode cX10_mixPerson 48 = .ok (.iconst 3, 1) := by decide +kernel
theorem dX10_mixPerson_49 : decode cX10_mixPerson 49 = .ok (.if_icmp .ge 26, 3) := by decide +kernel
theorem dX10_mixPerson_52 : decode cX10_mixPerson 52 = .ok (.iload_n 1, 1) := by decide +kernel
theorem dX10_mixPerson_53 : decode cX10_mixPerson 53 = .ok (.iload_n 2, 1) := by decide +kernel
theorem dX10_mixPerson_54 : decode cX10_mixPerson 54 = .ok (.if_icmp .eq 21, 3) := by decide +kernel
theorem dX10_mixPerson_57 : decode cX10_mixPerson 57 = .ok (.aload_n 0, 1) := by decide +kernel
theorem dX10_mixPerson_58 : decode cX10_mixPerson 58 = .ok (.aload_n 0, 1) := by decide +kernel
theorem dX10_mixPerson_59 : decode cX10_mixPerson 59 = .ok (.iload_n 1, 1) := by decide +kernel
theorem dX10_mixPerson_60 : decode cX10_mixPerson 60 = .ok (.iload_n 2, 1) := by decide +kernel
theorem dX10_mixPerson_61 : decode cX10_mixPerson 61 = .ok (.iload_n 3, 1) := by decide +kernel
theorem dX10_mixPerson_62 : decode cX10_mixPerson 62 = .ok (.invokevirtual 120, 3) := by decide +kernel
theorem dX10_mixPerson_65 : decode cX10_mixPerson 65 = .ok (.i2l, 1) := by decide +kernel
theorem dX10_mixPerson_66 : decode cX10_mixPerson 66 = .ok (.invokevirtual 248, 3) := by decide +kernel
theorem dX10_mixPerson_69 : decode cX10_mixPerson 69 = .ok (.iinc 3 1, 3) := by decide +kernel
theorem dX10_mixPerson_72 : decode cX10_mixPerson 72 = .ok (.goto (-25), 3) := by decide +kernel
theorem dX10_mixPerson_75 : decode cX10_mixPerson 75 = .ok (.iinc 2 1, 3) := by decide +kernel
theorem dX10_mixPerson_78 : decode cX10_mixPerson 78 = .ok (.goto (-41), 3) := by decide +kernel
theorem dX10_mixPerson_81 : decode cX10_mixPerson 81 = .ok (.return_, 1) := by decide +kernel
theorem dX10_digest_0 : decode cX10_digest 0 = .ok (.aload_n 0, 1) := by decide +kernel
theorem dX10_digest_1 : decode cX10_digest 1 = .ok (.ldc2_w 252, 3) := by decide +kernel
theorem dX10_digest_4 : decode cX10_digest 4 = .ok (.putfield 245, 3) := by decide +kernel
theorem dX10_digest_7 : decode cX10_digest 7 = .ok (.iconst 0, 1) := by decide +kernel
theorem dX10_digest_8 : decode cX10_digest 8 = .ok (.istore_n 1, 1) := by decide +kernel
theorem dX10_digest_9 : decode cX10_digest 9 = .ok (.iload_n 1, 1) := by decide +kernel
theorem dX10_digest_10 : decode cX10_digest 10 = .ok (.aload_n 0, 1) := by decide +kernel
theorem dX10_digest_11 : decode cX10_digest 11 = .ok (.getfield 93, 3) := by decide +kernel
theorem dX10_digest_14 : decode cX10_digest 14 = .ok (.if_icmp .ge 14, 3) := by decide +kernel
theorem dX10_digest_17 : decode cX10_digest 17 = .ok (.aload_n 0, 1) := by decide +kernel
theorem dX10_digest_18 : decode cX10_digest 18 = .ok (.iload_n 1, 1) := by decide +kernel
theorem dX10_digest_19 : decode cX10_digest 19 = .ok (.invokevirtual 254, 3) := by decide +kernel
theorem dX10_digest_22 : decode cX10_digest 22 = .ok (.iinc 1 1, 3) := by decide +kernel
theorem dX10_digest_25 : decode cX10_digest 25 = .ok (.goto (-16), 3) := by decide +kernel
theorem dX10_digest_28 : decode cX10_digest 28 = .ok (.aload_n 0, 1) := by decide +kernel
theorem dX10_digest_29 : decode cX10_digest 29 = .ok (.aload_n 0, 1) := by decide +kernel
theorem dX10_digest_30 : decode cX10_digest 30 = .ok (.invokevirtual 164, 3) := by decide +kernel
theorem dX10_digest_33 : decode cX10_digest 33 = .ok (.i2l, 1) := by decide +kernel
theorem dX10_digest_34 : decode cX10_digest 34 = .ok (.invokevirtual 248, 3) := by decide +kernel
theorem dX10_digest_37 : decode cX10_digest 37 = .ok (.aload_n 0, 1) := by decide +kernel
theorem dX10_digest_38 : decode cX10_digest 38 = .ok (.aload_n 0, 1) := by decide +kernel
theorem dX10_digest_39 : decode cX10_digest 39 = .ok (.iconst 0, 1) := by decide +kernel
theorem dX10_digest_40 : decode cX10_digest 40 = .ok (.invokevirtual 171, 3) := by decide +kernel
theorem dX10_digest_43 : decode cX10_digest 43 = .ok (.i2l, 1) := by decide +kernel
theorem dX10_digest_44 : decode cX10_digest 44 = .ok (.invokevirtual 248, 3) := by decide +kernel
theorem dX10_digest_47 : decode cX10_digest 47 = .ok (.aload_n 0, 1) := by decide +kernel
theorem dX10_digest_48 : decode cX10_digest 48 = .ok (.aload_n 0, 1) := by decide +kernel
theorem dX10_digest_49 : decode cX10_digest 49 = .ok (.iconst 1, 1) := by decide +kernel
theorem dX10_digest_50 : decode cX10_digest 50 = .ok (.invokevirtual 171, 3) := by decide +kernel
theorem dX10_digest_53 : decode cX10_digest 53 = .ok (.i2l, 1) := by decide +kernel
theorem dX10_digest_54 : decode cX10_digest 54 = .ok (.invokevirtual 248, 3) := by decide +kernel
theorem dX10_digest_57 : decode cX10_digest 57 = .ok (.bipush 10, 2) := by decide +kernel
theorem dX10_digest_59 : decode cX10_digest 59 = .ok (.istore_n 1, 1) := by decide +kernel
theorem dX10_digest_60 : decode cX10_digest 60 = .ok (.iload_n 1, 1) := by decide +kernel
theorem dX10_digest_61 : decode cX10_digest 61 = .ok (.bipush 14, 2) := by decide +kernel
theorem dX10_digest_63 : decode cX10_digest 63 = .ok (.if_icmp .ge 19, 3) := by decide +kernel
theorem dX10_digest_66 : decode cX10_digest 66 = .ok (.aload_n 0, 1) := by decide +kernel
theorem dX10_digest_67 : decode cX10_digest 67 = .ok (.aload_n 0, 1) := by decide +kernel
theorem dX10_digest_68 : decode cX10_digest 68 = .ok (.iload_n 1, 1) := by decide +kernel
theorem dX10_digest_69 : decode cX10_digest 69 = .ok (.invokevirtual 171, 3) := by decide +kernel
theorem dX10_digest_72 : decode cX10_digest 72 = .ok (.i2l, 1) := by decide +kernel
theorem dX10_digest_73 : decode cX10_digest 73 = .ok (.invokevirtual 248, 3) := by decide +kernel
theorem dX10_digest_76 : decode cX10_digest 76 = .ok (.iinc 1 1, 3) := by decide +kernel
theorem dX10_digest_79 : decode cX10_digest 79 = .ok (.goto (-19), 3) := by decide +kernel
theorem dX10_digest_82 : decode cX10_digest 82 = .ok (.iconst 0, 1) := by decide +kernel
theorem dX10_digest_83 : decode cX10_digest 83 = .ok (.istore_n 1, 1) := by decide +kernel
theorem dX10_digest_84 : decode cX10_digest 84 = .ok (.iload_n 1, 1) := by decide +kernel
theorem dX10_digest_85 : decode cX10_digest 85 = .ok (.aload_n 0, 1) := by decide +kernel
theorem dX10_digest_86 : decode cX10_digest 86 = .ok (.getfield 73, 3) := by decide +kernel
theorem dX10_digest_89 : decode cX10_digest 89 = .ok (.if_icmp .ge 20, 3) := by decide +kernel
theorem dX10_digest_92 : decode cX10_digest 92 = .ok (.aload_n 0, 1) := by decide +kernel
theorem dX10_digest_93 : decode cX10_digest 93 = .ok (.aload_n 0, 1) := by decide +kernel
theorem dX10_digest_94 : decode cX10_digest 94 = .ok (.getfield 41, 3) := by decide +kernel
theorem dX10_digest_97 : decode cX10_digest 97 = .ok (.iload_n 1, 1) := by decide +kernel
theorem dX10_digest_98 : decode cX10_digest 98 = .ok (.baload, 1) := by decide +kernel
theorem dX10_digest_99 : decode cX10_digest 99 = .ok (.i2l, 1) := by decide +kernel
theorem dX10_digest_100 : decode cX10_digest 100 = .ok (.invokevirtual 248, 3) := by decide +kernel
theorem dX10_digest_103 : decode cX10_digest 103 = .ok (.iinc 1 1, 3) := by decide +kernel
theorem dX10_digest_106 : decode cX10_digest 106 = .ok (.goto (-22), 3) := by decide +kernel
theorem dX10_digest_109 : decode cX10_digest 109 = .ok (.iconst 0, 1) := by decide +kernel
theorem dX10_digest_110 : decode cX10_digest 110 = .ok (.istore_n 1, 1) := by decide +kernel
theorem dX10_digest_111 : decode cX10_digest 111 = .ok (.iload_n 1, 1) := by decide +kernel
theorem dX10_digest_112 : decode cX10_digest 112 = .ok (.bipush 11, 2) := by decide +kernel
theorem dX10_digest_114 : decode cX10_digest 114 = .ok (.if_icmp .ge 19, 3) := by decide +kernel
theorem dX10_digest_117 : decode cX10_digest 117 = .ok (.aload_n 0, 1) := by decide +kernel
theorem dX10_digest_118 : decode cX10_digest 118 = .ok (.aload_n 0, 1) := by decide +kernel
theorem dX10_digest_119 : decode cX10_digest 119 = .ok (.iload_n 1, 1) := by decide +kernel
theorem dX10_digest_120 : decode cX10_digest 120 = .ok (.invokevirtual 240, 3) := by decide +kernel
theorem dX10_digest_123 : decode cX10_digest 123 = .ok (.i2l, 1) := by decide +kernel
theorem dX10_digest_124 : decode cX10_digest 124 = .ok (.invokevirtual 248, 3) := by decide +kernel
theorem dX10_digest_127 : decode cX10_digest 127 = .ok (.iinc 1 1, 3) := by decide +kernel
theorem dX10_digest_130 : decode cX10_digest 130 = .ok (.goto (-19), 3) := by decide +kernel
theorem dX10_digest_133 : decode cX10_digest 133 = .ok (.aload_n 0, 1) := by decide +kernel
theorem dX10_digest_134 : decode cX10_digest 134 = .ok (.getfield 245, 3) := by decide +kernel
theorem dX10_digest_137 : decode cX10_digest 137 = .ok (.lreturn, 1) := by decide +kernel
theorem dJ6_numberOfTrailingZeros_0f7a4_0 : decode cJ6_numberOfTrailingZeros_0f7a4 0 = .ok (.iload_n 0, 1) := by decide +kernel
theorem dJ6_numberOfTrailingZeros_0f7a4_1 : decode cJ6_numberOfTrailingZeros_0f7a4 1 = .ok (.iconst (-1), 1) := by decide +kernel
theorem dJ6_numberOfTrailingZeros_0f7a4_2 : decode cJ6_numberOfTrailingZeros_0f7a4 2 = .ok (.ixor, 1) := by decide +kernel
theorem dJ6_numberOfTrailingZeros_0f7a4_3 : decode cJ6_numberOfTrailingZeros_0f7a4 3 = .ok (.iload_n 0, 1) := by decide +kernel
theorem dJ6_numberOfTrailingZeros_0f7a4_4 : decode cJ6_numberOfTrailingZeros_0f7a4 4 = .ok (.iconst 1, 1) := by decide +kernel
theorem dJ6_numberOfTrailingZeros_0f7a4_5 : decode cJ6_numberOfTrailingZeros_0f7a4 5 = .ok (.isub, 1) := by decide +kernel
theorem dJ6_numberOfTrailingZeros_0f7a4_6 : decode cJ6_numberOfTrailingZeros_0f7a4 6 = .ok (.iand, 1) := by decide +kernel
theorem dJ6_numberOfTrailingZeros_0f7a4_7 : decode cJ6_numberOfTrailingZeros_0f7a4 7 = .ok (.istore_n 0, 1) := by decide +kernel
theorem dJ6_numberOfTrailingZeros_0f7a4_8 : decode cJ6_numberOfTrailingZeros_0f7a4 8 = .ok (.iload_n 0, 1) := by decide +kernel
theorem dJ6_numberOfTrailingZeros_0f7a4_9 : decode cJ6_numberOfTrailingZeros_0f7a4 9 = .ok (.ifCond .gt 8, 3) := by decide +kernel
theorem dJ6_numberOfTrailingZeros_0f7a4_12 : decode cJ6_numberOfTrailingZeros_0f7a4 12 = .ok (.iload_n 0, 1) := by decide +kernel
theorem dJ6_numberOfTrailingZeros_0f7a4_13 : decode cJ6_numberOfTrailingZeros_0f7a4 13 = .ok (.bipush 32, 2) := by decide +kernel
theorem dJ6_numberOfTrailingZeros_0f7a4_15 : decode cJ6_numberOfTrailingZeros_0f7a4 15 = .ok (.iand, 1) := by decide +kernel
theorem dJ6_numberOfTrailingZeros_0f7a4_16 : decode cJ6_numberOfTrailingZeros_0f7a4 16 = .ok (.ireturn, 1) := by decide +kernel
theorem dJ6_numberOfTrailingZeros_0f7a4_17 : decode cJ6_numberOfTrailingZeros_0f7a4 17 = .ok (.iconst 1, 1) := by decide +kernel
theorem dJ6_numberOfTrailingZeros_0f7a4_18 : decode cJ6_numberOfTrailingZeros_0f7a4 18 = .ok (.istore_n 1, 1) := by decide +kernel
theorem dJ6_numberOfTrailingZeros_0f7a4_19 : decode cJ6_numberOfTrailingZeros_0f7a4 19 = .ok (.iload_n 0, 1) := by decide +kernel
theorem dJ6_numberOfTrailingZeros_0f7a4_20 : decode cJ6_numberOfTrailingZeros_0f7a4 20 = .ok (.ldc_w 264, 3) := by decide +kernel
theorem dJ6_numberOfTrailingZeros_0f7a4_23 : decode cJ6_numberOfTrailingZeros_0f7a4 23 = .ok (.if_icmp .le 11, 3) := by decide +kernel
theorem dJ6_numberOfTrailingZeros_0f7a4_26 : decode cJ6_numberOfTrailingZeros_0f7a4 26 = .ok (.iinc 1 16, 3) := by decide +kernel
theorem dJ6_numberOfTrailingZeros_0f7a4_29 : decode cJ6_numberOfTrailingZeros_0f7a4 29 = .ok (.iload_n 0, 1) := by decide +kernel
theorem dJ6_numberOfTrailingZeros_0f7a4_30 : decode cJ6_numberOfTrailingZeros_0f7a4 30 = .ok (.bipush 16, 2) := by decide +kernel
theorem dJ6_numberOfTrailingZeros_0f7a4_32 : decode cJ6_numberOfTrailingZeros_0f7a4 32 = .ok (.iushr, 1) := by decide +kernel
theorem dJ6_numberOfTrailingZeros_0f7a4_33 : decode cJ6_numberOfTrailingZeros_0f7a4 33 = .ok (.istore_n 0, 1) := by decide +kernel
theorem dJ6_numberOfTrailingZeros_0f7a4_34 : decode cJ6_numberOfTrailingZeros_0f7a4 34 = .ok (.iload_n 0, 1) := by decide +kernel
theorem dJ6_numberOfTrailingZeros_0f7a4_35 : decode cJ6_numberOfTrailingZeros_0f7a4 35 = .ok (.sipush 256, 3) := by decide +kernel
theorem dJ6_numberOfTrailingZeros_0f7a4_38 : decode cJ6_numberOfTrailingZeros_0f7a4 38 = .ok (.if_icmp .le 11, 3) := by decide +kernel
theorem dJ6_numberOfTrailingZeros_0f7a4_41 : decode cJ6_numberOfTrailingZeros_0f7a4 41 = .ok (.iinc 1 8, 3) := by decide +kernel
theorem dJ6_numberOfTrailingZeros_0f7a4_44 : decode cJ6_numberOfTrailingZeros_0f7a4 44 = .ok (.iload_n 0, 1) := by decide +kernel
theorem dJ6_numberOfTrailingZeros_0f7a4_45 : decode cJ6_numberOfTrailingZeros_0f7a4 45 = .ok (.bipush 8, 2) := by decide +kernel
theorem dJ6_numberOfTrailingZeros_0f7a4_47 : decode cJ6_numberOfTrailingZeros_0f7a4 47 = .ok (.iushr, 1) := by decide +kernel
theorem dJ6_numberOfTrailingZeros_0f7a4_48 : decode cJ6_numberOfTrailingZeros_0f7a4 48 = .ok (.istore_n 0, 1) := by decide +kernel
theorem dJ6_numberOfTrailingZeros_0f7a4_49 : decode cJ6_numberOfTrailingZeros_0f7a4 49 = .ok (.iload_n 0, 1) := by decide +kernel
theorem dJ6_numberOfTrailingZeros_0f7a4_50 : decode cJ6_numberOfTrailingZeros_0f7a4 50 = .ok (.bipush 16, 2) := by decide +kernel
theorem dJ6_numberOfTrailingZeros_0f7a4_52 : decode cJ6_numberOfTrailingZeros_0f7a4 52 = .ok (.if_icmp .le 10, 3) := by decide +kernel
theorem dJ6_numberOfTrailingZeros_0f7a4_55 : decode cJ6_numberOfTrailingZeros_0f7a4 55 = .ok (.iinc 1 4, 3) := by decide +kernel
theorem dJ6_numberOfTrailingZeros_0f7a4_58 : decode cJ6_numberOfTrailingZeros_0f7a4 58 = .ok (.iload_n 0, 1) := by decide +kernel
theorem dJ6_numberOfTrailingZeros_0f7a4_59 : decode cJ6_numberOfTrailingZeros_0f7a4 59 = .ok (.iconst 4, 1) := by decide +kernel
theorem dJ6_numberOfTrailingZeros_0f7a4_60 : decode cJ6_numberOfTrailingZeros_0f7a4 60 = .ok (.iushr, 1) := by decide +kernel
theorem dJ6_numberOfTrailingZeros_0f7a4_61 : decode cJ6_numberOfTrailingZeros_0f7a4 61 = .ok (.istore_n 0, 1) := by decide +kernel
theorem dJ6_numberOfTrailingZeros_0f7a4_62 : decode cJ6_numberOfTrailingZeros_0f7a4 62 = .ok (.iload_n 0, 1) := by decide +kernel
theorem dJ6_numberOfTrailingZeros_0f7a4_63 : decode cJ6_numberOfTrailingZeros_0f7a4 63 = .ok (.iconst 4, 1) := by decide +kernel
theorem dJ6_numberOfTrailingZeros_0f7a4_64 : decode cJ6_numberOfTrailingZeros_0f7a4 64 = .ok (.if_icmp .le 10, 3) := by decide +kernel
theorem dJ6_numberOfTrailingZeros_0f7a4_67 : decode cJ6_numberOfTrailingZeros_0f7a4 67 = .ok (.iinc 1 2, 3) := by decide +kernel
theorem dJ6_numberOfTrailingZeros_0f7a4_70 : decode cJ6_numberOfTrailingZeros_0f7a4 70 = .ok (.iload_n 0, 1) := by decide +kernel
theorem dJ6_numberOfTrailingZeros_0f7a4_71 : decode cJ6_numberOfTrailingZeros_0f7a4 71 = .ok (.iconst 2, 1) := by decide +kernel
theorem dJ6_numberOfTrailingZeros_0f7a4_72 : decode cJ6_numberOfTrailingZeros_0f7a4 72 = .ok (.iushr, 1) := by decide +kernel
theorem dJ6_numberOfTrailingZeros_0f7a4_73 : decode cJ6_numberOfTrailingZeros_0f7a4 73 = .ok (.istore_n 0, 1) := by decide +kernel
theorem dJ6_numberOfTrailingZeros_0f7a4_74 : decode cJ6_numberOfTrailingZeros_0f7a4 74 = .ok (.iload_n 1, 1) := by decide +kernel
theorem dJ6_numberOfTrailingZeros_0f7a4_75 : decode cJ6_numberOfTrailingZeros_0f7a4 75 = .ok (.iload_n 0, 1) := by decide +kernel
theorem dJ6_numberOfTrailingZeros_0f7a4_76 : decode cJ6_numberOfTrailingZeros_0f7a4 76 = .ok (.iconst 1, 1) := by decide +kernel
theorem dJ6_numberOfTrailingZeros_0f7a4_77 : decode cJ6_numberOfTrailingZeros_0f7a4 77 = .ok (.iushr, 1) := by decide +kernel
theorem dJ6_numberOfTrailingZeros_0f7a4_78 : decode cJ6_numberOfTrailingZeros_0f7a4 78 = .ok (.iadd, 1) := by decide +kernel
theorem dJ6_numberOfTrailingZeros_0f7a4_79 : decode cJ6_numberOfTrailingZeros_0f7a4 79 = .ok (.ireturn, 1) := by decide +kernel
theorem dJ6_bitCount_0f7a4_0 : decode cJ6_bitCount_0f7a4 0 = .ok (.iload_n 0, 1) := by decide +kernel
theorem dJ6_bitCount_0f7a4_1 : decode cJ6_bitCount_0f7a4 1 = .ok (.iload_n 0, 1) := by decide +kernel
theorem dJ6_bitCount_0f7a4_2 : decode cJ6_bitCount_0f7a4 2 = .ok (.iconst 1, 1) := by decide +kernel
theorem dJ6_bitCount_0f7a4_3 : decode cJ6_bitCount_0f7a4 3 = .ok (.iushr, 1) := by decide +kernel
theorem dJ6_bitCount_0f7a4_4 : decode cJ6_bitCount_0f7a4 4 = .ok (.ldc_w 265, 3) := by decide +kernel
theorem dJ6_bitCount_0f7a4_7 : decode cJ6_bitCount_0f7a4 7 = .ok (.iand, 1) := by decide +kernel
theorem dJ6_bitCount_0f7a4_8 : decode cJ6_bitCount_0f7a4 8 = .ok (.isub, 1) := by decide +kernel
theorem dJ6_bitCount_0f7a4_9 : decode cJ6_bitCount_0f7a4 9 = .ok (.istore_n 0, 1) := by decide +kernel
theorem dJ6_bitCount_0f7a4_10 : decode cJ6_bitCount_0f7a4 10 = .ok (.iload_n 0, 1) := by decide +kernel
theorem dJ6_bitCount_0f7a4_11 : decode cJ6_bitCount_0f7a4 11 = .ok (.ldc_w 266, 3) := by decide +kernel
theorem dJ6_bitCount_0f7a4_14 : decode cJ6_bitCount_0f7a4 14 = .ok (.iand, 1) := by decide +kernel
theorem dJ6_bitCount_0f7a4_15 : decode cJ6_bitCount_0f7a4 15 = .ok (.iload_n 0, 1) := by decide +kernel
theorem dJ6_bitCount_0f7a4_16 : decode cJ6_bitCount_0f7a4 16 = .ok (.iconst 2, 1) := by decide +kernel
theorem dJ6_bitCount_0f7a4_17 : decode cJ6_bitCount_0f7a4 17 = .ok (.iushr, 1) := by decide +kernel
theorem dJ6_bitCount_0f7a4_18 : decode cJ6_bitCount_0f7a4 18 = .ok (.ldc_w 266, 3) := by decide +kernel
theorem dJ6_bitCount_0f7a4_21 : decode cJ6_bitCount_0f7a4 21 = .ok (.iand, 1) := by decide +kernel
theorem dJ6_bitCount_0f7a4_22 : decode cJ6_bitCount_0f7a4 22 = .ok (.iadd, 1) := by decide +kernel
theorem dJ6_bitCount_0f7a4_23 : decode cJ6_bitCount_0f7a4 23 = .ok (.istore_n 0, 1) := by decide +kernel
theorem dJ6_bitCount_0f7a4_24 : decode cJ6_bitCount_0f7a4 24 = .ok (.iload_n 0, 1) := by decide +kernel
theorem dJ6_bitCount_0f7a4_25 : decode cJ6_bitCount_0f7a4 25 = .ok (.iload_n 0, 1) := by decide +kernel
theorem dJ6_bitCount_0f7a4_26 : decode cJ6_bitCount_0f7a4 26 = .ok (.iconst 4, 1) := by decide +kernel
theorem dJ6_bitCount_0f7a4_27 : decode cJ6_bitCount_0f7a4 27 = .ok (.iushr, 1) := by decide +kernel
theorem dJ6_bitCount_0f7a4_28 : decode cJ6_bitCount_0f7a4 28 = .ok (.iadd, 1) := by decide +kernel
theorem dJ6_bitCount_0f7a4_29 : decode cJ6_bitCount_0f7a4 29 = .ok (.ldc_w 267, 3) := by decide +kernel
theorem dJ6_bitCount_0f7a4_32 : decode cJ6_bitCount_0f7a4 32 = .ok (.iand, 1) := by decide +kernel
theorem dJ6_bitCount_0f7a4_33 : decode cJ6_bitCount_0f7a4 33 = .ok (.istore_n 0, 1) := by decide +kernel
theorem dJ6_bitCount_0f7a4_34 : decode cJ6_bitCount_0f7a4 34 = .ok (.iload_n 0, 1) := by decide +kernel
theorem dJ6_bitCount_0f7a4_35 : decode cJ6_bitCount_0f7a4 35 = .ok (.iload_n 0, 1) := by decide +kernel
theorem dJ6_bitCount_0f7a4_36 : decode cJ6_bitCount_0f7a4 36 = .ok (.bipush 8, 2) := by decide +kernel
theorem dJ6_bitCount_0f7a4_38 : decode cJ6_bitCount_0f7a4 38 = .ok (.iushr, 1) := by decide +kernel
theorem dJ6_bitCount_0f7a4_39 : decode cJ6_bitCount_0f7a4 39 = .ok (.iadd, 1) := by decide +kernel
theorem dJ6_bitCount_0f7a4_40 : decode cJ6_bitCount_0f7a4 40 = .ok (.istore_n 0, 1) := by decide +kernel
theorem dJ6_bitCount_0f7a4_41 : decode cJ6_bitCount_0f7a4 41 = .ok (.iload_n 0, 1) := by decide +kernel
theorem dJ6_bitCount_0f7a4_42 : decode cJ6_bitCount_0f7a4 42 = .ok (.iload_n 0, 1) := by decide +kernel
theorem dJ6_bitCount_0f7a4_43 : decode cJ6_bitCount_0f7a4 43 = .ok (.bipush 16, 2) := by decide +kernel
theorem dJ6_bitCount_0f7a4_45 : decode cJ6_bitCount_0f7a4 45 = .ok (.iushr, 1) := by decide +kernel
theorem dJ6_bitCount_0f7a4_46 : decode cJ6_bitCount_0f7a4 46 = .ok (.iadd, 1) := by decide +kernel
theorem dJ6_bitCount_0f7a4_47 : decode cJ6_bitCount_0f7a4 47 = .ok (.istore_n 0, 1) := by decide +kernel
theorem dJ6_bitCount_0f7a4_48 : decode cJ6_bitCount_0f7a4 48 = .ok (.iload_n 0, 1) := by decide +kernel
theorem dJ6_bitCount_0f7a4_49 : decode cJ6_bitCount_0f7a4 49 = .ok (.bipush 63, 2) := by decide +kernel
theorem dJ6_bitCount_0f7a4_51 : decode cJ6_bitCount_0f7a4 51 = .ok (.iand, 1) := by decide +kernel
theorem dJ6_bitCount_0f7a4_52 : decode cJ6_bitCount_0f7a4 52 = .ok (.ireturn, 1) := by decide +kernel
theorem dJ9_max_7cf53_0 : decode cJ9_max_7cf53 0 = .ok (.iload_n 0, 1) := by decide +kernel
theorem dJ9_max_7cf53_1 : decode cJ9_max_7cf53 1 = .ok (.iload_n 1, 1) := by decide +kernel
theorem dJ9_max_7cf53_2 : decode cJ9_max_7cf53 2 = .ok (.if_icmp .lt 7, 3) := by decide +kernel
theorem dJ9_max_7cf53_5 : decode cJ9_max_7cf53 5 = .ok (.iload_n 0, 1) := by decide +kernel
theorem dJ9_max_7cf53_6 : decode cJ9_max_7cf53 6 = .ok (.goto 4, 3) := by decide +kernel
theorem dJ9_max_7cf53_9 : decode cJ9_max_7cf53 9 = .ok (.iload_n 1, 1) := by decide +kernel
theorem dJ9_max_7cf53_10 : decode cJ9_max_7cf53 10 = .ok (.ireturn, 1) := by decide +kernel
theorem dJ9_min_7cf53_0 : decode cJ9_min_7cf53 0 = .ok (.iload_n 0, 1) := by decide +kernel
theorem dJ9_min_7cf53_1 : decode cJ9_min_7cf53 1 = .ok (.iload_n 1, 1) := by decide +kernel
theorem dJ9_min_7cf53_2 : decode cJ9_min_7cf53 2 = .ok (.if_icmp .gt 7, 3) := by decide +kernel
theorem dJ9_min_7cf53_5 : decode cJ9_min_7cf53 5 = .ok (.iload_n 0, 1) := by decide +kernel
theorem dJ9_min_7cf53_6 : decode cJ9_min_7cf53 6 = .ok (.goto 4, 3) := by decide +kernel
theorem dJ9_min_7cf53_9 : decode cJ9_min_7cf53 9 = .ok (.iload_n 1, 1) := by decide +kernel
theorem dJ9_min_7cf53_10 : decode cJ9_min_7cf53 10 = .ok (.ireturn, 1) := by decide +kernel
theorem dL_law_0 : decode cL_law 0 = .ok (.new 7, 3) := by decide +kernel
theorem dL_law_3 : decode cL_law 3 = .ok (.dup, 1) := by decide +kernel
theorem dL_law_4 : decode cL_law 4 = .ok (.invokespecial 9, 3) := by decide +kernel
theorem dL_law_7 : decode cL_law 7 = .ok (.astore_n 1, 1) := by decide +kernel
theorem dL_law_8 : decode cL_law 8 = .ok (.new 10, 3) := by decide +kernel
theorem dL_law_11 : decode cL_law 11 = .ok (.dup, 1) := by decide +kernel
theorem dL_law_12 : decode cL_law 12 = .ok (.invokespecial 12, 3) := by decide +kernel
theorem dL_law_15 : decode cL_law 15 = .ok (.astore_n 2, 1) := by decide +kernel
theorem dL_law_16 : decode cL_law 16 = .ok (.iconst 0, 1) := by decide +kernel
theorem dL_law_17 : decode cL_law 17 = .ok (.istore_n 3, 1) := by decide +kernel
theorem dL_law_18 : decode cL_law 18 = .ok (.iload_n 3, 1) := by decide +kernel
theorem dL_law_19 : decode cL_law 19 = .ok (.aload_n 0, 1) := by decide +kernel
theorem dL_law_20 : decode cL_law 20 = .ok (.arraylength, 1) := by decide +kernel
theorem dL_law_21 : decode cL_law 21 = .ok (.bipush 6, 2) := by decide +kernel
theorem dL_law_23 : decode cL_law 23 = .ok (.isub, 1) := by decide +kernel
theorem dL_law_24 : decode cL_law 24 = .ok (.if_icmp .gt 936, 3) := by decide +kernel
theorem dL_law_27 : decode cL_law 27 = .ok (.aload_n 0, 1) := by decide +kernel
theorem dL_law_28 : decode cL_law 28 = .ok (.iload_n 3, 1) := by decide +kernel
theorem dL_law_29 : decode cL_law 29 = .ok (.iaload, 1) := by decide +kernel
theorem dL_law_30 : decode cL_law 30 = .ok (.bipush 31, 2) := by decide +kernel
theorem dL_law_32 : decode cL_law 32 = .ok (.iand, 1) := by decide +kernel
theorem dL_law_33 : decode cL_law 33 = .ok (.tableswitch 921 0 26 #[123, 146, 159, 172, 185, 218, 251, 284, 327, 396, 409, 452, 485, 528, 561, 584, 607, 620, 643, 686, 699, 752, 815, 858, 871, 884, 907], 123) := by decide +kernel
theorem dL_law_156 : decode cL_law 156 = .ok (.aload_n 1, 1) := by decide +kernel
theorem dL_law_157 : decode cL_law 157 = .ok (.aload_n 0, 1) := by decide +kernel
theorem dL_law_158 : decode cL_law 158 = .ok (.iload_n 3, 1) := by decide +kernel
theorem dL_law_159 : decode cL_law 159 = .ok (.iconst 1, 1) := by decide +kernel
theorem dL_law_160 : decode cL_law 160 = .ok (.iadd, 1) := by decide +kernel
theorem dL_law_161 : decode cL_law 161 = .ok (.iaload, 1) := by decide +kernel
theorem dL_law_162 : decode cL_law 162 = .ok (.invokevirtual 13, 3) := by decide +kernel
theorem dL_law_165 : decode cL_law 165 = .ok (.aload_n 2, 1) := by decide +kernel
theorem dL_law_166 : decode cL_law 166 = .ok (.aload_n 0, 1) := by decide +kernel
theorem dL_law_167 : decode cL_law 167 = .ok (.iload_n 3, 1) := by decide +kernel
theorem dL_law_168 : decode cL_law 168 = .ok (.iconst 1, 1) := by decide +kernel
theorem dL_law_169 : decode cL_law 169 = .ok (.iadd, 1) := by decide +kernel
theorem dL_law_170 : decode cL_law 170 = .ok (.iaload, 1) := by decide +kernel
theorem dL_law_171 : decode cL_law 171 = .ok (.invokevirtual 17, 3) := by decide +kernel
theorem dL_law_174 : decode cL_law 174 = .ok (.if_icmp .eq 780, 3) := by decide +kernel
theorem dL_law_177 : decode cL_law 177 = .ok (.iconst 0, 1) := by decide +kernel
theorem dL_law_178 : decode cL_law 178 = .ok (.ireturn, 1) := by decide +kernel
theorem dL_law_179 : decode cL_law 179 = .ok (.aload_n 1, 1) := by decide +kernel
theorem dL_law_180 : decode cL_law 180 = .ok (.invokevirtual 18, 3) := by decide +kernel
theorem dL_law_183 : decode cL_law 183 = .ok (.aload_n 2, 1) := by decide +kernel
theorem dL_law_184 : decode cL_law 184 = .ok (.invokevirtual 22, 3) := by decide +kernel
theorem dL_law_187 : decode cL_law 187 = .ok (.if_icmp .eq 767, 3) := by decide +kernel
theorem dL_law_190 : decode cL_law 190 = .ok (.iconst 0, 1) := by decide +kernel
theorem dL_law_191 : decode cL_law 191 = .ok (.ireturn, 1) := by decide +kernel
theorem dL_law_192 : decode cL_law 192 = .ok (.aload_n 1, 1) := by decide +kernel
theorem dL_law_193 : decode cL_law 193 = .ok (.invokevirtual 23, 3) := by decide +kernel
theorem dL_law_196 : decode cL_law 196 = .ok (.aload_n 2, 1) := by decide +kernel
theorem dL_law_197 : decode cL_law 197 = .ok (.invokevirtual 26, 3) := by decide +kernel
theorem dL_law_200 : decode cL_law 200 = .ok (.if_icmp .eq 754, 3) := by decide +kernel
theorem dL_law_203 : decode cL_law 203 = .ok (.iconst 0, 1) := by decide +kernel
theorem dL_law_204 : decode cL_law 204 = .ok (.ireturn, 1) := by decide +kernel
theorem dL_law_205 : decode cL_law 205 = .ok (.aload_n 1, 1) := by decide +kernel
theorem dL_law_206 : decode cL_law 206 = .ok (.invokevirtual 27, 3) := by decide +kernel
theorem dL_law_209 : decode cL_law 209 = .ok (.aload_n 2, 1) := by decide +kernel
theorem dL_law_210 : decode cL_law 210 = .ok (.invokevirtual 30, 3) := by decide +kernel
theorem dL_law_213 : decode cL_law 213 = .ok (.if_icmp .eq 741, 3) := by decide +kernel
theorem dL_law_216 : decode cL_law 216 = .ok (.iconst 0, 1) := by decide +kernel
theorem dL_law_217 : decode cL_law 217 = .ok (.ireturn, 1) := by decide +kernel
theorem dL_law_218 : decode cL_law 218 = .ok (.aload_n 1, 1) := by decide +kernel
theorem dL_law_219 : decode cL_law 219 = .ok (.aload_n 0, 1) := by decide +kernel
theorem dL_law_220 : decode cL_law 220 = .ok (.iload_n 3, 1) := by decide +kernel
theorem dL_law_221 : decode cL_law 221 = .ok (.iconst 1, 1) := by decide +kernel
theorem dL_law_222 : decode cL_law 222 = .ok (.iadd, 1) := by decide +kernel
theorem dL_law_223 : decode cL_law 223 = .ok (.iaload, 1) := by decide +kernel
theorem dL_law_224 : decode cL_law 224 = .ok (.aload_n 0, 1) := by decide +kernel
theorem dL_law_225 : decode cL_law 225 = .ok (.iload_n 3, 1) := by decide +kernel
theorem dL_law_226 : decode cL_law 226 = .ok (.iconst 2, 1) := by decide +kernel
theorem dL_law_227 : decode cL_law 227 = .ok (.iadd, 1) := by decide +kernel
theorem dL_law_228 : decode cL_law 228 = .ok (.iaload, 1) := by decide +kernel
theorem dL_law_229 : decode cL_law 229 = .ok (.invokevirtual 31, 3) := by decide +kernel
theorem dL_law_232 : decode cL_law 232 = .ok (.aload_n 2, 1) := by decide +kernel
theorem dL_law_233 : decode cL_law 233 = .ok (.aload_n 0, 1) := by decide +kernel
theorem dL_law_234 : decode cL_law 234 = .ok (.iload_n 3, 1) := by decide +kernel
theorem dL_law_235 : decode cL_law 235 = .ok (.iconst 1, 1) := by decide +kernel
theorem dL_law_236 : decode cL_law 236 = .ok (.iadd, 1) := by decide +kernel
theorem dL_law_237 : decode cL_law 237 = .ok (.iaload, 1) := by decide +kernel
theorem dL_law_238 : decode cL_law 238 = .ok (.aload_n 0, 1) := by decide +kernel
theorem dL_law_239 : decode cL_law 239 = .ok (.iload_n 3, 1) := by decide +kernel
theorem dL_law_240 : decode cL_law 240 = .ok (.iconst 2, 1) := by decide +kernel
theorem dL_law_241 : decode cL_law 241 = .ok (.iadd, 1) := by decide +kernel
theorem dL_law_242 : decode cL_law 242 = .ok (.iaload, 1) := by decide +kernel
theorem dL_law_243 : decode cL_law 243 = .ok (.invokevirtual 35, 3) := by decide +kernel
theorem dL_law_246 : decode cL_law 246 = .ok (.if_icmp .eq 708, 3) := by decide +kernel
theorem dL_law_249 : decode cL_law 249 = .ok (.iconst 0, 1) := by decide +kernel
theorem dL_law_250 : decode cL_law 250 = .ok (.ireturn, 1) := by decide +kernel
theorem dL_law_251 : decode cL_law 251 = .ok (.aload_n 1, 1) := by decide +kernel
theorem dL_law_252 : decode cL_law 252 = .ok (.aload_n 0, 1) := by decide +kernel
theorem dL_law_253 : decode cL_law 253 = .ok (.iload_n 3, 1) := by decide +kernel
theorem dL_law_254 : decode cL_law 254 = .ok (.iconst 1, 1) := by decide +kernel
theorem dL_law_255 : decode cL_law 255 = .ok (.iadd, 1) := by decide +kernel
theorem dL_law_256 : decode cL_law 256 = .ok (.iaload, 1) := by decide +kernel
theorem dL_law_257 : decode cL_law 257 = .ok (.aload_n 0, 1) := by decide +kernel
theorem dL_law_258 : decode cL_law 258 = .ok (.iload_n 3, 1) := by decide +kernel
theorem dL_law_259 : decode cL_law 259 = .ok (.iconst 2, 1) := by decide +kernel
theorem dL_law_260 : decode cL_law 260 = .ok (.iadd, 1) := by decide +kernel
theorem dL_law_261 : decode cL_law 261 = .ok (.iaload, 1) := by decide +kernel
theorem dL_law_262 : decode cL_law 262 = .ok (.invokevirtual 36, 3) := by decide +kernel
theorem dL_law_265 : decode cL_law 265 = .ok (.aload_n 2, 1) := by decide +kernel
theorem dL_law_266 : decode cL_law 266 = .ok (.aload_n 0, 1) := by decide +kernel
theorem dL_law_267 : decode cL_law 267 = .ok (.iload_n 3, 1) := by decide +kernel
theorem dL_law_268 : decode cL_law 268 = .ok (.iconst 1, 1) := by decide +kernel
theorem dL_law_269 : decode cL_law 269 = .ok (.iadd, 1) := by decide +kernel
theorem dL_law_270 : decode cL_law 270 = .ok (.iaload, 1) := by decide +kernel
theorem dL_law_271 : decode cL_law 271 = .ok (.aload_n 0, 1) := by decide +kernel
theorem dL_law_272 : decode cL_law 272 = .ok (.iload_n 3, 1) := by decide +kernel
theorem dL_law_273 : decode cL_law 273 = .ok (.iconst 2, 1) := by decide +kernel
theorem dL_law_274 : decode cL_law 274 = .ok (.iadd, 1) := by decide +kernel
theorem dL_law_275 : decode cL_law 275 = .ok (.iaload, 1) := by decide +kernel
theorem dL_law_276 : decode cL_law 276 = .ok (.invokevirtual 39, 3) := by decide +kernel
theorem dL_law_279 : decode cL_law 279 = .ok (.if_icmp .eq 675, 3) := by decide +kernel
theorem dL_law_282 : decode cL_law 282 = .ok (.iconst 0, 1) := by decide +kernel
theorem dL_law_283 : decode cL_law 283 = .ok (.ireturn, 1) := by decide +kernel
theorem dL_law_284 : decode cL_law 284 = .ok (.aload_n 1, 1) := by decide +kernel
theorem dL_law_285 : decode cL_law 285 = .ok (.aload_n 0, 1) := by decide +kernel
theorem dL_law_286 : decode cL_law 286 = .ok (.iload_n 3, 1) := by decide +kernel
theorem dL_law_287 : decode cL_law 287 = .ok (.iconst 1, 1) := by decide +kernel
theorem dL_law_288 : decode cL_law 288 = .ok (.iadd, 1) := by decide +kernel
theorem dL_law_289 : decode cL_law 289 = .ok (.iaload, 1) := by decide +kernel
theorem dL_law_290 : decode cL_law 290 = .ok (.aload_n 0, 1) := by decide +kernel
theorem dL_law_291 : decode cL_law 291 = .ok (.iload_n 3, 1) := by decide +kernel
theorem dL_law_292 : decode cL_law 292 = .ok (.iconst 2, 1) := by decide +kernel
theorem dL_law_293 : decode cL_law 293 = .ok (.iadd, 1) := by decide +kernel
theorem dL_law_294 : decode cL_law 294 = .ok (.iaload, 1) := by decide +kernel
theorem dL_law_295 : decode cL_law 295 = .ok (.invokevirtual 40, 3) := by decide +kernel
theorem dL_law_298 : decode cL_law 298 = .ok (.aload_n 2, 1) := by decide +kernel
theorem dL_law_299 : decode cL_law 299 = .ok (.aload_n 0, 1) := by decide +kernel
theorem dL_law_300 : decode cL_law 300 = .ok (.iload_n 3, 1) := by decide +kernel
theorem dL_law_301 : decode cL_law 301 = .ok (.iconst 1, 1) := by decide +kernel
theorem dL_law_302 : decode cL_law 302 = .ok (.iadd, 1) := by decide +kernel
theorem dL_law_303 : decode cL_law 303 = .ok (.iaload, 1) := by decide +kernel
theorem dL_law_304 : decode cL_law 304 = .ok (.aload_n 0, 1) := by decide +kernel
theorem dL_law_305 : decode cL_law 305 = .ok (.iload_n 3, 1) := by decide +kernel
theorem dL_law_306 : decode cL_law 306 = .ok (.iconst 2, 1) := by decide +kernel
theorem dL_law_307 : decode cL_law 307 = .ok (.iadd, 1) := by decide +kernel
theorem dL_law_308 : decode cL_law 308 = .ok (.iaload, 1) := by decide +kernel
theorem dL_law_309 : decode cL_law 309 = .ok (.invokevirtual 43, 3) := by decide +kernel
theorem dL_law_312 : decode cL_law 312 = .ok (.if_icmp .eq 642, 3) := by decide +kernel
theorem dL_law_315 : decode cL_law 315 = .ok (.iconst 0, 1) := by decide +kernel
theorem dL_law_316 : decode cL_law 316 = .ok (.ireturn, 1) := by decide +kernel
theorem dL_law_317 : decode cL_law 317 = .ok (.aload_n 1, 1) := by decide +kernel
theorem dL_law_318 : decode cL_law 318 = .ok (.aload_n 0, 1) := by decide +kernel
theorem dL_law_319 : decode cL_law 319 = .ok (.iload_n 3, 1) := by decide +kernel
theorem dL_law_320 : decode cL_law 320 = .ok (.iconst 1, 1) := by decide +kernel
theorem dL_law_321 : decode cL_law 321 = .ok (.iadd, 1) := by decide +kernel
theorem dL_law_322 : decode cL_law 322 = .ok (.iaload, 1) := by decide +kernel
theorem dL_law_323 : decode cL_law 323 = .ok (.aload_n 0, 1) := by decide +kernel
theorem dL_law_324 : decode cL_law 324 = .ok (.iload_n 3, 1) := by decide +kernel
theorem dL_law_325 : decode cL_law 325 = .ok (.iconst 2, 1) := by decide +kernel
theorem dL_law_326 : decode cL_law 326 = .ok (.iadd, 1) := by decide +kernel
theorem dL_law_327 : decode cL_law 327 = .ok (.iaload, 1) := by decide +kernel
theorem dL_law_328 : decode cL_law 328 = .ok (.aload_n 0, 1) := by decide +kernel
theorem dL_law_329 : decode cL_law 329 = .ok (.iload_n 3, 1) := by decide +kernel
theorem dL_law_330 : decode cL_law 330 = .ok (.iconst 3, 1) := by decide +kernel
theorem dL_law_331 : decode cL_law 331 = .ok (.iadd, 1) := by decide +kernel
theorem dL_law_332 : decode cL_law 332 = .ok (.iaload, 1) := by decide +kernel
theorem dL_law_333 : decode cL_law 333 = .ok (.invokevirtual 44, 3) := by decide +kernel
theorem dL_law_336 : decode cL_law 336 = .ok (.aload_n 2, 1) := by decide +kernel
theorem dL_law_337 : decode cL_law 337 = .ok (.aload_n 0, 1) := by decide +kernel
theorem dL_law_338 : decode cL_law 338 = .ok (.iload_n 3, 1) := by decide +kernel
theorem dL_law_339 : decode cL_law 339 = .ok (.iconst 1, 1) := by decide +kernel
theorem dL_law_340 : decode cL_law 340 = .ok (.iadd, 1) := by decide +kernel
theorem dL_law_341 : decode cL_law 341 = .ok (.iaload, 1) := by decide +kernel
theorem dL_law_342 : decode cL_law 342 = .ok (.aload_n 0, 1) := by decide +kernel
theorem dL_law_343 : decode cL_law 343 = .ok (.iload_n 3, 1) := by decide +kernel
theorem dL_law_344 : decode cL_law 344 = .ok (.iconst 2, 1) := by decide +kernel
theorem dL_law_345 : decode cL_law 345 = .ok (.iadd, 1) := by decide +kernel
theorem dL_law_346 : decode cL_law 346 = .ok (.iaload, 1) := by decide +kernel
theorem dL_law_347 : decode cL_law 347 = .ok (.aload_n 0, 1) := by decide +kernel
theorem dL_law_348 : decode cL_law 348 = .ok (.iload_n 3, 1) := by decide +kernel
theorem dL_law_349 : decode cL_law 349 = .ok (.iconst 3, 1) := by decide +kernel
theorem dL_law_350 : decode cL_law 350 = .ok (.iadd, 1) := by decide +kernel
theorem dL_law_351 : decode cL_law 351 = .ok (.iaload, 1) := by decide +kernel
theorem dL_law_352 : decode cL_law 352 = .ok (.invokevirtual 48, 3) := by decide +kernel
theorem dL_law_355 : decode cL_law 355 = .ok (.if_icmp .eq 599, 3) := by decide +kernel
theorem dL_law_358 : decode cL_law 358 = .ok (.iconst 0, 1) := by decide +kernel
theorem dL_law_359 : decode cL_law 359 = .ok (.ireturn, 1) := by decide +kernel
theorem dL_law_360 : decode cL_law 360 = .ok (.aload_n 1, 1) := by decide +kernel
theorem dL_law_361 : decode cL_law 361 = .ok (.aload_n 0, 1) := by decide +kernel
theorem dL_law_362 : decode cL_law 362 = .ok (.iload_n 3, 1) := by decide +kernel
theorem dL_law_363 : decode cL_law 363 = .ok (.iconst 1, 1) := by decide +kernel
theorem dL_law_364 : decode cL_law 364 = .ok (.iadd, 1) := by decide +kernel
theorem dL_law_365 : decode cL_law 365 = .ok (.iaload, 1) := by decide +kernel
theorem dL_law_366 : decode cL_law 366 = .ok (.aload_n 0, 1) := by decide +kernel
theorem dL_law_367 : decode cL_law 367 = .ok (.iload_n 3, 1) := by decide +kernel
theorem dL_law_368 : decode cL_law 368 = .ok (.iconst 2, 1) := by decide +kernel
theorem dL_law_369 : decode cL_law 369 = .ok (.iadd, 1) := by decide +kernel
theorem dL_law_370 : decode cL_law 370 = .ok (.iaload, 1) := by decide +kernel
theorem dL_law_371 : decode cL_law 371 = .ok (.aload_n 0, 1) := by decide +kernel
theorem dL_law_372 : decode cL_law 372 = .ok (.iload_n 3, 1) := by decide +kernel
theorem dL_law_373 : decode cL_law 373 = .ok (.iconst 3, 1) := by decide +kernel
theorem dL_law_374 : decode cL_law 374 = .ok (.iadd, 1) := by decide +kernel
theorem dL_law_375 : decode cL_law 375 = .ok (.iaload, 1) := by decide +kernel
theorem dL_law_376 : decode cL_law 376 = .ok (.aload_n 0, 1) := by decide +kernel
theorem dL_law_377 : decode cL_law 377 = .ok (.iload_n 3, 1) := by decide +kernel
theorem dL_law_378 : decode cL_law 378 = .ok (.iconst 4, 1) := by decide +kernel
theorem dL_law_379 : decode cL_law 379 = .ok (.iadd, 1) := by decide +kernel
theorem dL_law_380 : decode cL_law 380 = .ok (.iaload, 1) := by decide +kernel
theorem dL_law_381 : decode cL_law 381 = .ok (.ifCond .eq 7, 3) := by decide +kernel
theorem dL_law_384 : decode cL_law 384 = .ok (.iconst 1, 1) := by decide +kernel
theorem dL_law_385 : decode cL_law 385 = .ok (.goto 4, 3) := by decide +kernel
theorem dL_law_388 : decode cL_law 388 = .ok (.iconst 0, 1) := by decide +kernel
theorem dL_law_389 : decode cL_law 389 = .ok (.invokevirtual 49, 3) := by decide +kernel
theorem dL_law_392 : decode cL_law 392 = .ok (.aload_n 2, 1) := by decide +kernel
theorem dL_law_393 : decode cL_law 393 = .ok (.aload_n 0, 1) := by decide +kernel
theorem dL_law_394 : decode cL_law 394 = .ok (.iload_n 3, 1) := by decide +kernel
theorem dL_law_395 : decode cL_law 395 = .ok (.iconst 1, 1) := by decide +kernel
theorem dL_law_396 : decode cL_law 396 = .ok (.iadd, 1) := by decide +kernel
theorem dL_law_397 : decode cL_law 397 = .ok (.iaload, 1) := by decide +kernel
theorem dL_law_398 : decode cL_law 398 = .ok (.aload_n 0, 1) := by decide +kernel
theorem dL_law_399 : decode cL_law 399 = .ok (.iload_n 3, 1) := by decide +kernel
theorem dL_law_400 : decode cL_law 400 = .ok (.iconst 2, 1) := by decide +kernel
theorem dL_law_401 : decode cL_law 401 = .ok (.iadd, 1) := by decide +kernel
theorem dL_law_402 : decode cL_law 402 = .ok (.iaload, 1) := by decide +kernel
theorem dL_law_403 : decode cL_law 403 = .ok (.aload_n 0, 1) := by decide +kernel
theorem dL_law_404 : decode cL_law 404 = .ok (.iload_n 3, 1) := by decide +kernel
theorem dL_law_405 : decode cL_law 405 = .ok (.iconst 3, 1) := by decide +kernel
theorem dL_law_406 : decode cL_law 406 = .ok (.iadd, 1) := by decide +kernel
theorem dL_law_407 : decode cL_law 407 = .ok (.iaload, 1) := by decide +kernel
theorem dL_law_408 : decode cL_law 408 = .ok (.aload_n 0, 1) := by decide +kernel
theorem dL_law_409 : decode cL_law 409 = .ok (.iload_n 3, 1) := by decide +kernel
theorem dL_law_410 : decode cL_law 410 = .ok (.iconst 4, 1) := by decide +kernel
theorem dL_law_411 : decode cL_law 411 = .ok (.iadd, 1) := by decide +kernel
theorem dL_law_412 : decode cL_law 412 = .ok (.iaload, 1) := by decide +kernel
theorem dL_law_413 : decode cL_law 413 = .ok (.ifCond .eq 7, 3) := by decide +kernel
theorem dL_law_416 : decode cL_law 416 = .ok (.iconst 1, 1) := by decide +kernel
theorem dL_law_417 : decode cL_law 417 = .ok (.goto 4, 3) := by decide +kernel
theorem dL_law_420 : decode cL_law 420 = .ok (.iconst 0, 1) := by decide +kernel
theorem dL_law_421 : decode cL_law 421 = .ok (.invokevirtual 53, 3) := by decide +kernel
theorem dL_law_424 : decode cL_law 424 = .ok (.if_icmp .eq 530, 3) := by decide +kernel
theorem dL_law_427 : decode cL_law 427 = .ok (.iconst 0, 1) := by decide +kernel
theorem dL_law_428 : decode cL_law 428 = .ok (.ireturn, 1) := by decide +kernel
theorem dL_law_429 : decode cL_law 429 = .ok (.aload_n 1, 1) := by decide +kernel
theorem dL_law_430 : decode cL_law 430 = .ok (.invokevirtual 54, 3) := by decide +kernel
theorem dL_law_433 : decode cL_law 433 = .ok (.aload_n 2, 1) := by decide +kernel
theorem dL_law_434 : decode cL_law 434 = .ok (.invokevirtual 57, 3) := by decide +kernel
theorem dL_law_437 : decode cL_law 437 = .ok (.if_icmp .eq 517, 3) := by decide +kernel
theorem dL_law_440 : decode cL_law 440 = .ok (.iconst 0, 1) := by decide +kernel
theorem dL_law_441 : decode cL_law 441 = .ok (.ireturn, 1) := by decide +kernel
theorem dL_law_442 : decode cL_law 442 = .ok (.aload_n 1, 1) := by decide +kernel
theorem dL_law_443 : decode cL_law 443 = .ok (.aload_n 0, 1) := by decide +kernel
theorem dL_law_444 : decode cL_law 444 = .ok (.iload_n 3, 1) := by decide +kernel
theorem dL_law_445 : decode cL_law 445 = .ok (.iconst 1, 1) := by decide +kernel
theorem dL_law_446 : decode cL_law 446 = .ok (.iadd, 1) := by decide +kernel
theorem dL_law_447 : decode cL_law 447 = .ok (.iaload, 1) := by decide +kernel
theorem dL_law_448 : decode cL_law 448 = .ok (.aload_n 0, 1) := by decide +kernel
theorem dL_law_449 : decode cL_law 449 = .ok (.iload_n 3, 1) := by decide +kernel
theorem dL_law_450 : decode cL_law 450 = .ok (.iconst 2, 1) := by decide +kernel
theorem dL_law_451 : decode cL_law 451 = .ok (.iadd, 1) := by decide +kernel
theorem dL_law_452 : decode cL_law 452 = .ok (.iaload, 1) := by decide +kernel
theorem dL_law_453 : decode cL_law 453 = .ok (.aload_n 0, 1) := by decide +kernel
theorem dL_law_454 : decode cL_law 454 = .ok (.iload_n 3, 1) := by decide +kernel
theorem dL_law_455 : decode cL_law 455 = .ok (.iconst 3, 1) := by decide +kernel
theorem dL_law_456 : decode cL_law 456 = .ok (.iadd, 1) := by decide +kernel
theorem dL_law_457 : decode cL_law 457 = .ok (.iaload, 1) := by decide +kernel
theorem dL_law_458 : decode cL_law 458 = .ok (.invokevirtual 58, 3) := by decide +kernel
theorem dL_law_461 : decode cL_law 461 = .ok (.aload_n 2, 1) := by decide +kernel
theorem dL_law_462 : decode cL_law 462 = .ok (.aload_n 0, 1) := by decide +kernel
theorem dL_law_463 : decode cL_law 463 = .ok (.iload_n 3, 1) := by decide +kernel
theorem dL_law_464 : decode cL_law 464 = .ok (.iconst 1, 1) := by decide +kernel
theorem dL_law_465 : decode cL_law 465 = .ok (.iadd, 1) := by decide +kernel
theorem dL_law_466 : decode cL_law 466 = .ok (.iaload, 1) := by decide +kernel
theorem dL_law_467 : decode cL_law 467 = .ok (.aload_n 0, 1) := by decide +kernel
theorem dL_law_468 : decode cL_law 468 = .ok (.iload_n 3, 1) := by decide +kernel
theorem dL_law_469 : decode cL_law 469 = .ok (.iconst 2, 1) := by decide +kernel
theorem dL_law_470 : decode cL_law 470 = .ok (.iadd, 1) := by decide +kernel
theorem dL_law_471 : decode cL_law 471 = .ok (.iaload, 1) := by decide +kernel
theorem dL_law_472 : decode cL_law 472 = .ok (.aload_n 0, 1) := by decide +kernel
theorem dL_law_473 : decode cL_law 473 = .ok (.iload_n 3, 1) := by decide +kernel
theorem dL_law_474 : decode cL_law 474 = .ok (.iconst 3, 1) := by decide +kernel
theorem dL_law_475 : decode cL_law 475 = .ok (.iadd, 1) := by decide +kernel
theorem dL_law_476 : decode cL_law 476 = .ok (.iaload, 1) := by decide +kernel
theorem dL_law_477 : decode cL_law 477 = .ok (.invokevirtual 61, 3) := by decide +kernel
theorem dL_law_480 : decode cL_law 480 = .ok (.if_icmp .eq 474, 3) := by decide +kernel
theorem dL_law_483 : decode cL_law 483 = .ok (.iconst 0, 1) := by decide +kernel
theorem dL_law_484 : decode cL_law 484 = .ok (.ireturn, 1) := by decide +kernel
theorem dL_law_485 : decode cL_law 485 = .ok (.aload_n 1, 1) := by decide +kernel
theorem dL_law_486 : decode cL_law 486 = .ok (.aload_n 0, 1) := by decide +kernel
theorem dL_law_487 : decode cL_law 487 = .ok (.iload_n 3, 1) := by decide +kernel
theorem dL_law_488 : decode cL_law 488 = .ok (.iconst 1, 1) := by decide +kernel
theorem dL_law_489 : decode cL_law 489 = .ok (.iadd, 1) := by decide +kernel
theorem dL_law_490 : decode cL_law 490 = .ok (.iaload, 1) := by decide +kernel
theorem dL_law_491 : decode cL_law 491 = .ok (.aload_n 0, 1) := by decide +kernel
theorem dL_law_492 : decode cL_law 492 = .ok (.iload_n 3, 1) := by decide +kernel
theorem dL_law_493 : decode cL_law 493 = .ok (.iconst 2, 1) := by decide +kernel
theorem dL_law_494 : decode cL_law 494 = .ok (.iadd, 1) := by decide +kernel
theorem dL_law_495 : decode cL_law 495 = .ok (.iaload, 1) := by decide +kernel
theorem dL_law_496 : decode cL_law 496 = .ok (.invokevirtual 62, 3) := by decide +kernel
theorem dL_law_499 : decode cL_law 499 = .ok (.aload_n 2, 1) := by decide +kernel
theorem dL_law_500 : decode cL_law 500 = .ok (.aload_n 0, 1) := by decide +kernel
theorem dL_law_501 : decode cL_law 501 = .ok (.iload_n 3, 1) := by decide +kernel
theorem dL_law_502 : decode cL_law 502 = .ok (.iconst 1, 1) := by decide +kernel
theorem dL_law_503 : decode cL_law 503 = .ok (.iadd, 1) := by decide +kernel
theorem dL_law_504 : decode cL_law 504 = .ok (.iaload, 1) := by decide +kernel
theorem dL_law_505 : decode cL_law 505 = .ok (.aload_n 0, 1) := by decide +kernel
theorem dL_law_506 : decode cL_law 506 = .ok (.iload_n 3, 1) := by decide +kernel
theorem dL_law_507 : decode cL_law 507 = .ok (.iconst 2, 1) := by decide +kernel
theorem dL_law_508 : decode cL_law 508 = .ok (.iadd, 1) := by decide +kernel
theorem dL_law_509 : decode cL_law 509 = .ok (.iaload, 1) := by decide +kernel
theorem dL_law_510 : decode cL_law 510 = .ok (.invokevirtual 65, 3) := by decide +kernel
theorem dL_law_513 : decode cL_law 513 = .ok (.if_icmp .eq 441, 3) := by decide +kernel
theorem dL_law_516 : decode cL_law 516 = .ok (.iconst 0, 1) := by decide +kernel
theorem dL_law_517 : decode cL_law 517 = .ok (.ireturn, 1) := by decide +kernel
theorem dL_law_518 : decode cL_law 518 = .ok (.aload_n 1, 1) := by decide +kernel
theorem dL_law_519 : decode cL_law 519 = .ok (.aload_n 0, 1) := by decide +kernel
theorem dL_law_520 : decode cL_law 520 = .ok (.iload_n 3, 1) := by decide +kernel
theorem dL_law_521 : decode cL_law 521 = .ok (.iconst 1, 1) := by decide +kernel
theorem dL_law_522 : decode cL_law 522 = .ok (.iadd, 1) := by decide +kernel
theorem dL_law_523 : decode cL_law 523 = .ok (.iaload, 1) := by decide +kernel
theorem dL_law_524 : decode cL_law 524 = .ok (.aload_n 0, 1) := by decide +kernel
theorem dL_law_525 : decode cL_law 525 = .ok (.iload_n 3, 1) := by decide +kernel
theorem dL_law_526 : decode cL_law 526 = .ok (.iconst 2, 1) := by decide +kernel
theorem dL_law_527 : decode cL_law 527 = .ok (.iadd, 1) := by decide +kernel
theorem dL_law_528 : decode cL_law 528 = .ok (.iaload, 1) := by decide +kernel
theorem dL_law_529 : decode cL_law 529 = .ok (.aload_n 0, 1) := by decide +kernel
theorem dL_law_530 : decode cL_law 530 = .ok (.iload_n 3, 1) := by decide +kernel
theorem dL_law_531 : decode cL_law 531 = .ok (.iconst 3, 1) := by decide +kernel
theorem dL_law_532 : decode cL_law 532 = .ok (.iadd, 1) := by decide +kernel
theorem dL_law_533 : decode cL_law 533 = .ok (.iaload, 1) := by decide +kernel
theorem dL_law_534 : decode cL_law 534 = .ok (.invokevirtual 66, 3) := by decide +kernel
theorem dL_law_537 : decode cL_law 537 = .ok (.aload_n 2, 1) := by decide +kernel
theorem dL_law_538 : decode cL_law 538 = .ok (.aload_n 0, 1) := by decide +kernel
theorem dL_law_539 : decode cL_law 539 = .ok (.iload_n 3, 1) := by decide +kernel
theorem dL_law_540 : decode cL_law 540 = .ok (.iconst 1, 1) := by decide +kernel
theorem dL_law_541 : decode cL_law 541 = .ok (.iadd, 1) := by decide +kernel
theorem dL_law_542 : decode cL_law 542 = .ok (.iaload, 1) := by decide +kernel
theorem dL_law_543 : decode cL_law 543 = .ok (.aload_n 0, 1) := by decide +kernel
theorem dL_law_544 : decode cL_law 544 = .ok (.iload_n 3, 1) := by decide +kernel
theorem dL_law_545 : decode cL_law 545 = .ok (.iconst 2, 1) := by decide +kernel
theorem dL_law_546 : decode cL_law 546 = .ok (.iadd, 1) := by decide +kernel
theorem dL_law_547 : decode cL_law 547 = .ok (.iaload, 1) := by decide +kernel
theorem dL_law_548 : decode cL_law 548 = .ok (.aload_n 0, 1) := by decide +kernel
theorem dL_law_549 : decode cL_law 549 = .ok (.iload_n 3, 1) := by decide +kernel
theorem dL_law_550 : decode cL_law 550 = .ok (.iconst 3, 1) := by decide +kernel
theorem dL_law_551 : decode cL_law 551 = .ok (.iadd, 1) := by decide +kernel
theorem dL_law_552 : decode cL_law 552 = .ok (.iaload, 1) := by decide +kernel
theorem dL_law_553 : decode cL_law 553 = .ok (.invokevirtual 69, 3) := by decide +kernel
theorem dL_law_556 : decode cL_law 556 = .ok (.if_icmp .eq 398, 3) := by decide +kernel
theorem dL_law_559 : decode cL_law 559 = .ok (.iconst 0, 1) := by decide +kernel
theorem dL_law_560 : decode cL_law 560 = .ok (.ireturn, 1) := by decide +kernel
theorem dL_law_561 : decode cL_law 561 = .ok (.aload_n 1, 1) := by decide +kernel
theorem dL_law_562 : decode cL_law 562 = .ok (.aload_n 0, 1) := by decide +kernel
theorem dL_law_563 : decode cL_law 563 = .ok (.iload_n 3, 1) := by decide +kernel
theorem dL_law_564 : decode cL_law 564 = .ok (.iconst 1, 1) := by decide +kernel
theorem dL_law_565 : decode cL_law 565 = .ok (.iadd, 1) := by decide +kernel
theorem dL_law_566 : decode cL_law 566 = .ok (.iaload, 1) := by decide +kernel
theorem dL_law_567 : decode cL_law 567 = .ok (.aload_n 0, 1) := by decide +kernel
theorem dL_law_568 : decode cL_law 568 = .ok (.iload_n 3, 1) := by decide +kernel
theorem dL_law_569 : decode cL_law 569 = .ok (.iconst 2, 1) := by decide +kernel
theorem dL_law_570 : decode cL_law 570 = .ok (.iadd, 1) := by decide +kernel
theorem dL_law_571 : decode cL_law 571 = .ok (.iaload, 1) := by decide +kernel
theorem dL_law_572 : decode cL_law 572 = .ok (.invokevirtual 70, 3) := by decide +kernel
theorem dL_law_575 : decode cL_law 575 = .ok (.aload_n 2, 1) := by decide +kernel
theorem dL_law_576 : decode cL_law 576 = .ok (.aload_n 0, 1) := by decide +kernel
theorem dL_law_577 : decode cL_law 577 = .ok (.iload_n 3, 1) := by decide +kernel
theorem dL_law_578 : decode cL_law 578 = .ok (.iconst 1, 1) := by decide +kernel
theorem dL_law_579 : decode cL_law 579 = .ok (.iadd, 1) := by decide +kernel
theorem dL_law_580 : decode cL_law 580 = .ok (.iaload, 1) := by decide +kernel
theorem dL_law_581 : decode cL_law 581 = .ok (.aload_n 0, 1) := by decide +kernel
theorem dL_law_582 : decode cL_law 582 = .ok (.iload_n 3, 1) := by decide +kernel
theorem dL_law_583 : decode cL_law 583 = .ok (.iconst 2, 1) := by decide +kernel
theorem dL_law_584 : decode cL_law 584 = .ok (.iadd, 1) := by decide +kernel
theorem dL_law_585 : decode cL_law 585 = .ok (.iaload, 1) := by decide +kernel
theorem dL_law_586 : decode cL_law 586 = .ok (.invokevirtual 73, 3) := by decide +kernel
theorem dL_law_589 : decode cL_law 589 = .ok (.if_icmp .eq 365, 3) := by decide +kernel
theorem dL_law_592 : decode cL_law 592 = .ok (.iconst 0, 1) := by decide +kernel
theorem dL_law_593 : decode cL_law 593 = .ok (.ireturn, 1) := by decide +kernel
theorem dL_law_594 : decode cL_law 594 = .ok (.aload_n 1, 1) := by decide +kernel
theorem dL_law_595 : decode cL_law 595 = .ok (.aload_n 0, 1) := by decide +kernel
theorem dL_law_596 : decode cL_law 596 = .ok (.iload_n 3, 1) := by decide +kernel
theorem dL_law_597 : decode cL_law 597 = .ok (.iconst 1, 1) := by decide +kernel
theorem dL_law_598 : decode cL_law 598 = .ok (.iadd, 1) := by decide +kernel
theorem dL_law_599 : decode cL_law 599 = .ok (.iaload, 1) := by decide +kernel
theorem dL_law_600 : decode cL_law 600 = .ok (.invokevirtual 74, 3) := by decide +kernel
theorem dL_law_603 : decode cL_law 603 = .ok (.aload_n 2, 1) := by decide +kernel
theorem dL_law_604 : decode cL_law 604 = .ok (.aload_n 0, 1) := by decide +kernel
theorem dL_law_605 : decode cL_law 605 = .ok (.iload_n 3, 1) := by decide +kernel
theorem dL_law_606 : decode cL_law 606 = .ok (.iconst 1, 1) := by decide +kernel
theorem dL_law_607 : decode cL_law 607 = .ok (.iadd, 1) := by decide +kernel
theorem dL_law_608 : decode cL_law 608 = .ok (.iaload, 1) := by decide +kernel
theorem dL_law_609 : decode cL_law 609 = .ok (.invokevirtual 77, 3) := by decide +kernel
theorem dL_law_612 : decode cL_law 612 = .ok (.if_icmp .eq 342, 3) := by decide +kernel
theorem dL_law_615 : decode cL_law 615 = .ok (.iconst 0, 1) := by decide +kernel
theorem dL_law_616 : decode cL_law 616 = .ok (.ireturn, 1) := by decide +kernel
theorem dL_law_617 : decode cL_law 617 = .ok (.aload_n 1, 1) := by decide +kernel
theorem dL_law_618 : decode cL_law 618 = .ok (.aload_n 0, 1) := by decide +kernel
theorem dL_law_619 : decode cL_law 619 = .ok (.iload_n 3, 1) := by decide +kernel
theorem dL_law_620 : decode cL_law 620 = .ok (.iconst 1, 1) := by decide +kernel
theorem dL_law_621 : decode cL_law 621 = .ok (.iadd, 1) := by decide +kernel
theorem dL_law_622 : decode cL_law 622 = .ok (.iaload, 1) := by decide +kernel
theorem dL_law_623 : decode cL_law 623 = .ok (.invokevirtual 78, 3) := by decide +kernel
theorem dL_law_626 : decode cL_law 626 = .ok (.aload_n 2, 1) := by decide +kernel
theorem dL_law_627 : decode cL_law 627 = .ok (.aload_n 0, 1) := by decide +kernel
theorem dL_law_628 : decode cL_law 628 = .ok (.iload_n 3, 1) := by decide +kernel
theorem dL_law_629 : decode cL_law 629 = .ok (.iconst 1, 1) := by decide +kernel
theorem dL_law_630 : decode cL_law 630 = .ok (.iadd, 1) := by decide +kernel
theorem dL_law_631 : decode cL_law 631 = .ok (.iaload, 1) := by decide +kernel
theorem dL_law_632 : decode cL_law 632 = .ok (.invokevirtual 81, 3) := by decide +kernel
theorem dL_law_635 : decode cL_law 635 = .ok (.if_icmp .eq 319, 3) := by decide +kernel
theorem dL_law_638 : decode cL_law 638 = .ok (.iconst 0, 1) := by decide +kernel
theorem dL_law_639 : decode cL_law 639 = .ok (.ireturn, 1) := by decide +kernel
theorem dL_law_640 : decode cL_law 640 = .ok (.aload_n 1, 1) := by decide +kernel
theorem dL_law_641 : decode cL_law 641 = .ok (.invokevirtual 82, 3) := by decide +kernel
theorem dL_law_644 : decode cL_law 644 = .ok (.aload_n 2, 1) := by decide +kernel
theorem dL_law_645 : decode cL_law 645 = .ok (.invokevirtual 85, 3) := by decide +kernel
theorem dL_law_648 : decode cL_law 648 = .ok (.if_icmp .eq 306, 3) := by decide +kernel
theorem dL_law_651 : decode cL_law 651 = .ok (.iconst 0, 1) := by decide +kernel
theorem dL_law_652 : decode cL_law 652 = .ok (.ireturn, 1) := by decide +kernel
theorem dL_law_653 : decode cL_law 653 = .ok (.aload_n 1, 1) := by decide +kernel
theorem dL_law_654 : decode cL_law 654 = .ok (.aload_n 0, 1) := by decide +kernel
theorem dL_law_655 : decode cL_law 655 = .ok (.iload_n 3, 1) := by decide +kernel
theorem dL_law_656 : decode cL_law 656 = .ok (.iconst 1, 1) := by decide +kernel
theorem dL_law_657 : decode cL_law 657 = .ok (.iadd, 1) := by decide +kernel
theorem dL_law_658 : decode cL_law 658 = .ok (.iaload, 1) := by decide +kernel
theorem dL_law_659 : decode cL_law 659 = .ok (.invokevirtual 86, 3) := by decide +kernel
theorem dL_law_662 : decode cL_law 662 = .ok (.aload_n 2, 1) := by decide +kernel
theorem dL_law_663 : decode cL_law 663 = .ok (.aload_n 0, 1) := by decide +kernel
theorem dL_law_664 : decode cL_law 664 = .ok (.iload_n 3, 1) := by decide +kernel
theorem dL_law_665 : decode cL_law 665 = .ok (.iconst 1, 1) := by decide +kernel
theorem dL_law_666 : decode cL_law 666 = .ok (.iadd, 1) := by decide +kernel
theorem dL_law_667 : decode cL_law 667 = .ok (.iaload, 1) := by decide +kernel
theorem dL_law_668 : decode cL_law 668 = .ok (.invokevirtual 89, 3) := by decide +kernel
theorem dL_law_671 : decode cL_law 671 = .ok (.if_icmp .eq 283, 3) := by decide +kernel
theorem dL_law_674 : decode cL_law 674 = .ok (.iconst 0, 1) := by decide +kernel
theorem dL_law_675 : decode cL_law 675 = .ok (.ireturn, 1) := by decide +kernel
theorem dL_law_676 : decode cL_law 676 = .ok (.aload_n 1, 1) := by decide +kernel
theorem dL_law_677 : decode cL_law 677 = .ok (.aload_n 0, 1) := by decide +kernel
theorem dL_law_678 : decode cL_law 678 = .ok (.iload_n 3, 1) := by decide +kernel
theorem dL_law_679 : decode cL_law 679 = .ok (.iconst 1, 1) := by decide +kernel
theorem dL_law_680 : decode cL_law 680 = .ok (.iadd, 1) := by decide +kernel
theorem dL_law_681 : decode cL_law 681 = .ok (.iaload, 1) := by decide +kernel
theorem dL_law_682 : decode cL_law 682 = .ok (.aload_n 0, 1) := by decide +kernel
theorem dL_law_683 : decode cL_law 683 = .ok (.iload_n 3, 1) := by decide +kernel
theorem dL_law_684 : decode cL_law 684 = .ok (.iconst 2, 1) := by decide +kernel
theorem dL_law_685 : decode cL_law 685 = .ok (.iadd, 1) := by decide +kernel
theorem dL_law_686 : decode cL_law 686 = .ok (.iaload, 1) := by decide +kernel
theorem dL_law_687 : decode cL_law 687 = .ok (.aload_n 0, 1) := by decide +kernel
theorem dL_law_688 : decode cL_law 688 = .ok (.iload_n 3, 1) := by decide +kernel
theorem dL_law_689 : decode cL_law 689 = .ok (.iconst 3, 1) := by decide +kernel
theorem dL_law_690 : decode cL_law 690 = .ok (.iadd, 1) := by decide +kernel
theorem dL_law_691 : decode cL_law 691 = .ok (.iaload, 1) := by decide +kernel
theorem dL_law_692 : decode cL_law 692 = .ok (.invokevirtual 90, 3) := by decide +kernel
theorem dL_law_695 : decode cL_law 695 = .ok (.aload_n 2, 1) := by decide +kernel
theorem dL_law_696 : decode cL_law 696 = .ok (.aload_n 0, 1) := by decide +kernel
theorem dL_law_697 : decode cL_law 697 = .ok (.iload_n 3, 1) := by decide +kernel
theorem dL_law_698 : decode cL_law 698 = .ok (.iconst 1, 1) := by decide +kernel
theorem dL_law_699 : decode cL_law 699 = .ok (.iadd, 1) := by decide +kernel
theorem dL_law_700 : decode cL_law 700 = .ok (.iaload, 1) := by decide +kernel
theorem dL_law_701 : decode cL_law 701 = .ok (.aload_n 0, 1) := by decide +kernel
theorem dL_law_702 : decode cL_law 702 = .ok (.iload_n 3, 1) := by decide +kernel
theorem dL_law_703 : decode cL_law 703 = .ok (.iconst 2, 1) := by decide +kernel
theorem dL_law_704 : decode cL_law 704 = .ok (.iadd, 1) := by decide +kernel
theorem dL_law_705 : decode cL_law 705 = .ok (.iaload, 1) := by decide +kernel
theorem dL_law_706 : decode cL_law 706 = .ok (.aload_n 0, 1) := by decide +kernel
theorem dL_law_707 : decode cL_law 707 = .ok (.iload_n 3, 1) := by decide +kernel
theorem dL_law_708 : decode cL_law 708 = .ok (.iconst 3, 1) := by decide +kernel
theorem dL_law_709 : decode cL_law 709 = .ok (.iadd, 1) := by decide +kernel
theorem dL_law_710 : decode cL_law 710 = .ok (.iaload, 1) := by decide +kernel
theorem dL_law_711 : decode cL_law 711 = .ok (.invokevirtual 93, 3) := by decide +kernel
theorem dL_law_714 : decode cL_law 714 = .ok (.if_icmp .eq 240, 3) := by decide +kernel
theorem dL_law_717 : decode cL_law 717 = .ok (.iconst 0, 1) := by decide +kernel
theorem dL_law_718 : decode cL_law 718 = .ok (.ireturn, 1) := by decide +kernel
theorem dL_law_719 : decode cL_law 719 = .ok (.aload_n 1, 1) := by decide +kernel
theorem dL_law_720 : decode cL_law 720 = .ok (.invokevirtual 94, 3) := by decide +kernel
theorem dL_law_723 : decode cL_law 723 = .ok (.aload_n 2, 1) := by decide +kernel
theorem dL_law_724 : decode cL_law 724 = .ok (.invokevirtual 97, 3) := by decide +kernel
theorem dL_law_727 : decode cL_law 727 = .ok (.if_icmp .eq 227, 3) := by decide +kernel
theorem dL_law_730 : decode cL_law 730 = .ok (.iconst 0, 1) := by decide +kernel
theorem dL_law_731 : decode cL_law 731 = .ok (.ireturn, 1) := by decide +kernel
theorem dL_law_732 : decode cL_law 732 = .ok (.aload_n 1, 1) := by decide +kernel
theorem dL_law_733 : decode cL_law 733 = .ok (.aload_n 0, 1) := by decide +kernel
theorem dL_law_734 : decode cL_law 734 = .ok (.iload_n 3, 1) := by decide +kernel
theorem dL_law_735 : decode cL_law 735 = .ok (.iconst 1, 1) := by decide +kernel
theorem dL_law_736 : decode cL_law 736 = .ok (.iadd, 1) := by decide +kernel
theorem dL_law_737 : decode cL_law 737 = .ok (.iaload, 1) := by decide +kernel
theorem dL_law_738 : decode cL_law 738 = .ok (.aload_n 0, 1) := by decide +kernel
theorem dL_law_739 : decode cL_law 739 = .ok (.iload_n 3, 1) := by decide +kernel
theorem dL_law_740 : decode cL_law 740 = .ok (.iconst 2, 1) := by decide +kernel
theorem dL_law_741 : decode cL_law 741 = .ok (.iadd, 1) := by decide +kernel
theorem dL_law_742 : decode cL_law 742 = .ok (.iaload, 1) := by decide +kernel
theorem dL_law_743 : decode cL_law 743 = .ok (.aload_n 0, 1) := by decide +kernel
theorem dL_law_744 : decode cL_law 744 = .ok (.iload_n 3, 1) := by decide +kernel
theorem dL_law_745 : decode cL_law 745 = .ok (.iconst 3, 1) := by decide +kernel
theorem dL_law_746 : decode cL_law 746 = .ok (.iadd, 1) := by decide +kernel
theorem dL_law_747 : decode cL_law 747 = .ok (.iaload, 1) := by decide +kernel
theorem dL_law_748 : decode cL_law 748 = .ok (.aload_n 0, 1) := by decide +kernel
theorem dL_law_749 : decode cL_law 749 = .ok (.iload_n 3, 1) := by decide +kernel
theorem dL_law_750 : decode cL_law 750 = .ok (.iconst 4, 1) := by decide +kernel
theorem dL_law_751 : decode cL_law 751 = .ok (.iadd, 1) := by decide +kernel
theorem dL_law_752 : decode cL_law 752 = .ok (.iaload, 1) := by decide +kernel
theorem dL_law_753 : decode cL_law 753 = .ok (.invokevirtual 98, 3) := by decide +kernel
theorem dL_law_756 : decode cL_law 756 = .ok (.aload_n 2, 1) := by decide +kernel
theorem dL_law_757 : decode cL_law 757 = .ok (.aload_n 0, 1) := by decide +kernel
theorem dL_law_758 : decode cL_law 758 = .ok (.iload_n 3, 1) := by decide +kernel
theorem dL_law_759 : decode cL_law 759 = .ok (.iconst 1, 1) := by decide +kernel
theorem dL_law_760 : decode cL_law 760 = .ok (.iadd, 1) := by decide +kernel
theorem dL_law_761 : decode cL_law 761 = .ok (.iaload, 1) := by decide +kernel
theorem dL_law_762 : decode cL_law 762 = .ok (.aload_n 0, 1) := by decide +kernel
theorem dL_law_763 : decode cL_law 763 = .ok (.iload_n 3, 1) := by decide +kernel
theorem dL_law_764 : decode cL_law 764 = .ok (.iconst 2, 1) := by decide +kernel
theorem dL_law_765 : decode cL_law 765 = .ok (.iadd, 1) := by decide +kernel
theorem dL_law_766 : decode cL_law 766 = .ok (.iaload, 1) := by decide +kernel
theorem dL_law_767 : decode cL_law 767 = .ok (.aload_n 0, 1) := by decide +kernel
theorem dL_law_768 : decode cL_law 768 = .ok (.iload_n 3, 1) := by decide +kernel
theorem dL_law_769 : decode cL_law 769 = .ok (.iconst 3, 1) := by decide +kernel
theorem dL_law_770 : decode cL_law 770 = .ok (.iadd, 1) := by decide +kernel
theorem dL_law_771 : decode cL_law 771 = .ok (.iaload, 1) := by decide +kernel
theorem dL_law_772 : decode cL_law 772 = .ok (.aload_n 0, 1) := by decide +kernel
theorem dL_law_773 : decode cL_law 773 = .ok (.iload_n 3, 1) := by decide +kernel
theorem dL_law_774 : decode cL_law 774 = .ok (.iconst 4, 1) := by decide +kernel
theorem dL_law_775 : decode cL_law 775 = .ok (.iadd, 1) := by decide +kernel
theorem dL_law_776 : decode cL_law 776 = .ok (.iaload, 1) := by decide +kernel
theorem dL_law_777 : decode cL_law 777 = .ok (.invokevirtual 102, 3) := by decide +kernel
theorem dL_law_780 : decode cL_law 780 = .ok (.if_icmp .eq 174, 3) := by decide +kernel
theorem dL_law_783 : decode cL_law 783 = .ok (.iconst 0, 1) := by decide +kernel
theorem dL_law_784 : decode cL_law 784 = .ok (.ireturn, 1) := by decide +kernel
theorem dL_law_785 : decode cL_law 785 = .ok (.aload_n 1, 1) := by decide +kernel
theorem dL_law_786 : decode cL_law 786 = .ok (.aload_n 0, 1) := by decide +kernel
theorem dL_law_787 : decode cL_law 787 = .ok (.iload_n 3, 1) := by decide +kernel
theorem dL_law_788 : decode cL_law 788 = .ok (.iconst 1, 1) := by decide +kernel
theorem dL_law_789 : decode cL_law 789 = .ok (.iadd, 1) := by decide +kernel
theorem dL_law_790 : decode cL_law 790 = .ok (.iaload, 1) := by decide +kernel
theorem dL_law_791 : decode cL_law 791 = .ok (.aload_n 0, 1) := by decide +kernel
theorem dL_law_792 : decode cL_law 792 = .ok (.iload_n 3, 1) := by decide +kernel
theorem dL_law_793 : decode cL_law 793 = .ok (.iconst 2, 1) := by decide +kernel
theorem dL_law_794 : decode cL_law 794 = .ok (.iadd, 1) := by decide +kernel
theorem dL_law_795 : decode cL_law 795 = .ok (.iaload, 1) := by decide +kernel
theorem dL_law_796 : decode cL_law 796 = .ok (.aload_n 0, 1) := by decide +kernel
theorem dL_law_797 : decode cL_law 797 = .ok (.iload_n 3, 1) := by decide +kernel
theorem dL_law_798 : decode cL_law 798 = .ok (.iconst 3, 1) := by decide +kernel
theorem dL_law_799 : decode cL_law 799 = .ok (.iadd, 1) := by decide +kernel
theorem dL_law_800 : decode cL_law 800 = .ok (.iaload, 1) := by decide +kernel
theorem dL_law_801 : decode cL_law 801 = .ok (.aload_n 0, 1) := by decide +kernel
theorem dL_law_802 : decode cL_law 802 = .ok (.iload_n 3, 1) := by decide +kernel
theorem dL_law_803 : decode cL_law 803 = .ok (.iconst 4, 1) := by decide +kernel
theorem dL_law_804 : decode cL_law 804 = .ok (.iadd, 1) := by decide +kernel
theorem dL_law_805 : decode cL_law 805 = .ok (.iaload, 1) := by decide +kernel
theorem dL_law_806 : decode cL_law 806 = .ok (.aload_n 0, 1) := by decide +kernel
theorem dL_law_807 : decode cL_law 807 = .ok (.iload_n 3, 1) := by decide +kernel
theorem dL_law_808 : decode cL_law 808 = .ok (.iconst 5, 1) := by decide +kernel
theorem dL_law_809 : decode cL_law 809 = .ok (.iadd, 1) := by decide +kernel
theorem dL_law_810 : decode cL_law 810 = .ok (.iaload, 1) := by decide +kernel
theorem dL_law_811 : decode cL_law 811 = .ok (.invokevirtual 103, 3) := by decide +kernel
theorem dL_law_814 : decode cL_law 814 = .ok (.aload_n 2, 1) := by decide +kernel
theorem dL_law_815 : decode cL_law 815 = .ok (.aload_n 0, 1) := by decide +kernel
theorem dL_law_816 : decode cL_law 816 = .ok (.iload_n 3, 1) := by decide +kernel
theorem dL_law_817 : decode cL_law 817 = .ok (.iconst 1, 1) := by decide +kernel
theorem dL_law_818 : decode cL_law 818 = .ok (.iadd, 1) := by decide +kernel
theorem dL_law_819 : decode cL_law 819 = .ok (.iaload, 1) := by decide +kernel
theorem dL_law_820 : decode cL_law 820 = .ok (.aload_n 0, 1) := by decide +kernel
theorem dL_law_821 : decode cL_law 821 = .ok (.iload_n 3, 1) := by decide +kernel
theorem dL_law_822 : decode cL_law 822 = .ok (.iconst 2, 1) := by decide +kernel
theorem dL_law_823 : decode cL_law 823 = .ok (.iadd, 1) := by decide +kernel
theorem dL_law_824 : decode cL_law 824 = .ok (.iaload, 1) := by decide +kernel
theorem dL_law_825 : decode cL_law 825 = .ok (.aload_n 0, 1) := by decide +kernel
theorem dL_law_826 : decode cL_law 826 = .ok (.iload_n 3, 1) := by decide +kernel
theorem dL_law_827 : decode cL_law 827 = .ok (.iconst 3, 1) := by decide +kernel
theorem dL_law_828 : decode cL_law 828 = .ok (.iadd, 1) := by decide +kernel
theorem dL_law_829 : decode cL_law 829 = .ok (.iaload, 1) := by decide +kernel
theorem dL_law_830 : decode cL_law 830 = .ok (.aload_n 0, 1) := by decide +kernel
theorem dL_law_831 : decode cL_law 831 = .ok (.iload_n 3, 1) := by decide +kernel
theorem dL_law_832 : decode cL_law 832 = .ok (.iconst 4, 1) := by decide +kernel
theorem dL_law_833 : decode cL_law 833 = .ok (.iadd, 1) := by decide +kernel
theorem dL_law_834 : decode cL_law 834 = .ok (.iaload, 1) := by decide +kernel
theorem dL_law_835 : decode cL_law 835 = .ok (.aload_n 0, 1) := by decide +kernel
theorem dL_law_836 : decode cL_law 836 = .ok (.iload_n 3, 1) := by decide +kernel
theorem dL_law_837 : decode cL_law 837 = .ok (.iconst 5, 1) := by decide +kernel
theorem dL_law_838 : decode cL_law 838 = .ok (.iadd, 1) := by decide +kernel
theorem dL_law_839 : decode cL_law 839 = .ok (.iaload, 1) := by decide +kernel
theorem dL_law_840 : decode cL_law 840 = .ok (.invokevirtual 107, 3) := by decide +kernel
theorem dL_law_843 : decode cL_law 843 = .ok (.if_icmp .eq 111, 3) := by decide +kernel
theorem dL_law_846 : decode cL_law 846 = .ok (.iconst 0, 1) := by decide +kernel
theorem dL_law_847 : decode cL_law 847 = .ok (.ireturn, 1) := by decide +kernel
theorem dL_law_848 : decode cL_law 848 = .ok (.aload_n 1, 1) := by decide +kernel
theorem dL_law_849 : decode cL_law 849 = .ok (.aload_n 0, 1) := by decide +kernel
theorem dL_law_850 : decode cL_law 850 = .ok (.iload_n 3, 1) := by decide +kernel
theorem dL_law_851 : decode cL_law 851 = .ok (.iconst 1, 1) := by decide +kernel
theorem dL_law_852 : decode cL_law 852 = .ok (.iadd, 1) := by decide +kernel
theorem dL_law_853 : decode cL_law 853 = .ok (.iaload, 1) := by decide +kernel
theorem dL_law_854 : decode cL_law 854 = .ok (.aload_n 0, 1) := by decide +kernel
theorem dL_law_855 : decode cL_law 855 = .ok (.iload_n 3, 1) := by decide +kernel
theorem dL_law_856 : decode cL_law 856 = .ok (.iconst 2, 1) := by decide +kernel
theorem dL_law_857 : decode cL_law 857 = .ok (.iadd, 1) := by decide +kernel
theorem dL_law_858 : decode cL_law 858 = .ok (.iaload, 1) := by decide +kernel
theorem dL_law_859 : decode cL_law 859 = .ok (.aload_n 0, 1) := by decide +kernel
theorem dL_law_860 : decode cL_law 860 = .ok (.iload_n 3, 1) := by decide +kernel
theorem dL_law_861 : decode cL_law 861 = .ok (.iconst 3, 1) := by decide +kernel
theorem dL_law_862 : decode cL_law 862 = .ok (.iadd, 1) := by decide +kernel
theorem dL_law_863 : decode cL_law 863 = .ok (.iaload, 1) := by decide +kernel
theorem dL_law_864 : decode cL_law 864 = .ok (.invokevirtual 108, 3) := by decide +kernel
theorem dL_law_867 : decode cL_law 867 = .ok (.aload_n 2, 1) := by decide +kernel
theorem dL_law_868 : decode cL_law 868 = .ok (.aload_n 0, 1) := by decide +kernel
theorem dL_law_869 : decode cL_law 869 = .ok (.iload_n 3, 1) := by decide +kernel
theorem dL_law_870 : decode cL_law 870 = .ok (.iconst 1, 1) := by decide +kernel
theorem dL_law_871 : decode cL_law 871 = .ok (.iadd, 1) := by decide +kernel
theorem dL_law_872 : decode cL_law 872 = .ok (.iaload, 1) := by decide +kernel
theorem dL_law_873 : decode cL_law 873 = .ok (.aload_n 0, 1) := by decide +kernel
theorem dL_law_874 : decode cL_law 874 = .ok (.iload_n 3, 1) := by decide +kernel
theorem dL_law_875 : decode cL_law 875 = .ok (.iconst 2, 1) := by decide +kernel
theorem dL_law_876 : decode cL_law 876 = .ok (.iadd, 1) := by decide +kernel
theorem dL_law_877 : decode cL_law 877 = .ok (.iaload, 1) := by decide +kernel
theorem dL_law_878 : decode cL_law 878 = .ok (.aload_n 0, 1) := by decide +kernel
theorem dL_law_879 : decode cL_law 879 = .ok (.iload_n 3, 1) := by decide +kernel
theorem dL_law_880 : decode cL_law 880 = .ok (.iconst 3, 1) := by decide +kernel
theorem dL_law_881 : decode cL_law 881 = .ok (.iadd, 1) := by decide +kernel
theorem dL_law_882 : decode cL_law 882 = .ok (.iaload, 1) := by decide +kernel
theorem dL_law_883 : decode cL_law 883 = .ok (.invokevirtual 111, 3) := by decide +kernel
theorem dL_law_886 : decode cL_law 886 = .ok (.if_icmp .eq 68, 3) := by decide +kernel
theorem dL_law_889 : decode cL_law 889 = .ok (.iconst 0, 1) := by decide +kernel
theorem dL_law_890 : decode cL_law 890 = .ok (.ireturn, 1) := by decide +kernel
theorem dL_law_891 : decode cL_law 891 = .ok (.aload_n 1, 1) := by decide +kernel
theorem dL_law_892 : decode cL_law 892 = .ok (.invokevirtual 112, 3) := by decide +kernel
theorem dL_law_895 : decode cL_law 895 = .ok (.aload_n 2, 1) := by decide +kernel
theorem dL_law_896 : decode cL_law 896 = .ok (.invokevirtual 115, 3) := by decide +kernel
theorem dL_law_899 : decode cL_law 899 = .ok (.if_icmp .eq 55, 3) := by decide +kernel
theorem dL_law_902 : decode cL_law 902 = .ok (.iconst 0, 1) := by decide +kernel
theorem dL_law_903 : decode cL_law 903 = .ok (.ireturn, 1) := by decide +kernel
theorem dL_law_904 : decode cL_law 904 = .ok (.aload_n 1, 1) := by decide +kernel
theorem dL_law_905 : decode cL_law 905 = .ok (.invokevirtual 116, 3) := by decide +kernel
theorem dL_law_908 : decode cL_law 908 = .ok (.aload_n 2, 1) := by decide +kernel
theorem dL_law_909 : decode cL_law 909 = .ok (.invokevirtual 119, 3) := by decide +kernel
theorem dL_law_912 : decode cL_law 912 = .ok (.if_icmp .eq 42, 3) := by decide +kernel
theorem dL_law_915 : decode cL_law 915 = .ok (.iconst 0, 1) := by decide +kernel
theorem dL_law_916 : decode cL_law 916 = .ok (.ireturn, 1) := by decide +kernel
theorem dL_law_917 : decode cL_law 917 = .ok (.aload_n 1, 1) := by decide +kernel
theorem dL_law_918 : decode cL_law 918 = .ok (.aload_n 0, 1) := by decide +kernel
theorem dL_law_919 : decode cL_law 919 = .ok (.iload_n 3, 1) := by decide +kernel
theorem dL_law_920 : decode cL_law 920 = .ok (.iconst 1, 1) := by decide +kernel
theorem dL_law_921 : decode cL_law 921 = .ok (.iadd, 1) := by decide +kernel
theorem dL_law_922 : decode cL_law 922 = .ok (.iaload, 1) := by decide +kernel
theorem dL_law_923 : decode cL_law 923 = .ok (.invokevirtual 120, 3) := by decide +kernel
theorem dL_law_926 : decode cL_law 926 = .ok (.aload_n 2, 1) := by decide +kernel
theorem dL_law_927 : decode cL_law 927 = .ok (.aload_n 0, 1) := by decide +kernel
theorem dL_law_928 : decode cL_law 928 = .ok (.iload_n 3, 1) := by decide +kernel
theorem dL_law_929 : decode cL_law 929 = .ok (.iconst 1, 1) := by decide +kernel
theorem dL_law_930 : decode cL_law 930 = .ok (.iadd, 1) := by decide +kernel
theorem dL_law_931 : decode cL_law 931 = .ok (.iaload, 1) := by decide +kernel
theorem dL_law_932 : decode cL_law 932 = .ok (.invokevirtual 123, 3) := by decide +kernel
theorem dL_law_935 : decode cL_law 935 = .ok (.if_icmp .eq 19, 3) := by decide +kernel
theorem dL_law_938 : decode cL_law 938 = .ok (.iconst 0, 1) := by decide +kernel
theorem dL_law_939 : decode cL_law 939 = .ok (.ireturn, 1) := by decide +kernel
theorem dL_law_940 : decode cL_law 940 = .ok (.aload_n 1, 1) := by decide +kernel
theorem dL_law_941 : decode cL_law 941 = .ok (.invokevirtual 124, 3) := by decide +kernel
theorem dL_law_944 : decode cL_law 944 = .ok (.aload_n 2, 1) := by decide +kernel
theorem dL_law_945 : decode cL_law 945 = .ok (.invokevirtual 128, 3) := by decide +kernel
theorem dL_law_948 : decode cL_law 948 = .ok (.lcmp, 1) := by decide +kernel
theorem dL_law_949 : decode cL_law 949 = .ok (.ifCond .eq 5, 3) := by decide +kernel
theorem dL_law_952 : decode cL_law 952 = .ok (.iconst 0, 1) := by decide +kernel
theorem dL_law_953 : decode cL_law 953 = .ok (.ireturn, 1) := by decide +kernel
theorem dL_law_954 : decode cL_law 954 = .ok (.iinc 3 6, 3) := by decide +kernel
theorem dL_law_957 : decode cL_law 957 = .ok (.goto (-939), 3) := by decide +kernel
theorem dL_law_960 : decode cL_law 960 = .ok (.iconst 1, 1) := by decide +kernel
theorem dL_law_961 : decode cL_law 961 = .ok (.ireturn, 1) := by decide +kernel
end
section
/-! ===== the tables' words that last, by their places ===== -/
def gw_L : List Cond := lw_tbl.filter goodWord
theorem gw_i {w : Cond} (i : Nat) (h : lw_tbl[i]? = some w) (g : goodWord w = true) : w ∈ gw_L := List.mem_filter.mpr ⟨List.mem_of_getElem? h, g⟩
theorem gw_ok {ws : List Cond} (h : ∀ w ∈ ws, w ∈ gw_L) : GoodIn gw_L ws := fun w hw => ⟨h w hw, good_of_word (List.mem_filter.mp (h w hw)).2⟩
theorem gw_big {w : Cond} (h : w ∈ gw_L) : w ∈ lw_tbl := (List.mem_filter.mp h).1
theorem gq_0 : Cond.selects RX5 yX5_fits yX5_fits ∈ gw_L := gw_i 0 (by decide +kernel) (by decide +kernel)
theorem gq_1 : Cond.selects RX8 yX8_passPairWeek yX8_passPairWeek ∈ gw_L := gw_i 1 (by decide +kernel) (by decide +kernel)
theorem gq_2 : Cond.selects RX9 yX9_foreseeRuin yX9_foreseeRuin ∈ gw_L := gw_i 2 (by decide +kernel) (by decide +kernel)
theorem gq_3 : Cond.selects RX9 yX9_noteRuined yX9_noteRuined ∈ gw_L := gw_i 3 (by decide +kernel) (by decide +kernel)
theorem gq_4 : Cond.selects RX7 yX7_mostWithoutOne yX7_mostWithoutOne ∈ gw_L := gw_i 4 (by decide +kernel) (by decide +kernel)
theorem gq_5 : Cond.selects RX6 yX6_extend yX6_extend ∈ gw_L := gw_i 5 (by decide +kernel) (by decide +kernel)
theorem gq_6 : Cond.selects RX6 yX6_close yX6_close ∈ gw_L := gw_i 6 (by decide +kernel) (by decide +kernel)
theorem gq_7 : Cond.selects RX6 yX6_isInRow yX6_isInRow ∈ gw_L := gw_i 7 (by decide +kernel) (by decide +kernel)
theorem gq_8 : Cond.selects RX0 yX0_owedBehind yX0_owedBehind ∈ gw_L := gw_i 8 (by decide +kernel) (by decide +kernel)
theorem gq_9 : Cond.selects RX0 yX0_weigh yX0_weigh ∈ gw_L := gw_i 9 (by decide +kernel) (by decide +kernel)
theorem gq_10 : Cond.selects RX9 yX9_digestPerson yX9_digestPerson ∈ gw_L := gw_i 10 (by decide +kernel) (by decide +kernel)
theorem gq_11 : Cond.selects RX10 yX10_faultNow yX10_faultNow ∈ gw_L := gw_i 11 (by decide +kernel) (by decide +kernel)
theorem gq_12 : Cond.selects RX10 yX10_isGood yX10_isGood ∈ gw_L := gw_i 12 (by decide +kernel) (by decide +kernel)
theorem gq_13 : Cond.selects RX10 yX10_clearPair yX10_clearPair ∈ gw_L := gw_i 13 (by decide +kernel) (by decide +kernel)
theorem gq_14 : Cond.selects RX10 yX10_isPerson yX10_isPerson ∈ gw_L := gw_i 14 (by decide +kernel) (by decide +kernel)
theorem gq_15 : Cond.selects RX10 yX10_personNow yX10_personNow ∈ gw_L := gw_i 15 (by decide +kernel) (by decide +kernel)
theorem gq_16 : Cond.selects RX10 yX10_owesAll yX10_owesAll ∈ gw_L := gw_i 16 (by decide +kernel) (by decide +kernel)
theorem gq_17 : Cond.selects RX10 yX10_owedBy yX10_owedBy ∈ gw_L := gw_i 17 (by decide +kernel) (by decide +kernel)
theorem gq_18 : Cond.selects RX10 yX10_net yX10_net ∈ gw_L := gw_i 18 (by decide +kernel) (by decide +kernel)
theorem gq_19 : Cond.selects RX10 yX10_areTwo yX10_areTwo ∈ gw_L := gw_i 19 (by decide +kernel) (by decide +kernel)
theorem gq_20 : Cond.selects RX10 yX10_betweenNow yX10_betweenNow ∈ gw_L := gw_i 20 (by decide +kernel) (by decide +kernel)
theorem gq_21 : Cond.selects RX10 yX10_neverThanks yX10_neverThanks ∈ gw_L := gw_i 21 (by decide +kernel) (by decide +kernel)
theorem gq_22 : Cond.selects RX10 yX10_thank yX10_thank ∈ gw_L := gw_i 22 (by decide +kernel) (by decide +kernel)
theorem gq_23 : Cond.selects RX10 yX10_grunt yX10_grunt ∈ gw_L := gw_i 23 (by decide +kernel) (by decide +kernel)
theorem gq_24 : Cond.selects RX10 yX10_goWeek yX10_goWeek ∈ gw_L := gw_i 24 (by decide +kernel) (by decide +kernel)
theorem gq_25 : Cond.selects RX10 yX10_grows yX10_grows ∈ gw_L := gw_i 25 (by decide +kernel) (by decide +kernel)
theorem gq_26 : Cond.selects RX10 yX10_ruinNow yX10_ruinNow ∈ gw_L := gw_i 26 (by decide +kernel) (by decide +kernel)
theorem gq_27 : Cond.selects RX10 yX10_copy yX10_copy ∈ gw_L := gw_i 27 (by decide +kernel) (by decide +kernel)
theorem gq_28 : Cond.selects RX10 yX10_settlingNow yX10_settlingNow ∈ gw_L := gw_i 28 (by decide +kernel) (by decide +kernel)
theorem gq_29 : Cond.selects RX10 yX10_layGroups yX10_layGroups ∈ gw_L := gw_i 29 (by decide +kernel) (by decide +kernel)
theorem gq_30 : Cond.selects RX10 yX10_bestRingNow yX10_bestRingNow ∈ gw_L := gw_i 30 (by decide +kernel) (by decide +kernel)
theorem gq_31 : Cond.selects RX10 yX10_ringBy yX10_ringBy ∈ gw_L := gw_i 31 (by decide +kernel) (by decide +kernel)
theorem gq_32 : Cond.selects RX10 yX10_acceptNow yX10_acceptNow ∈ gw_L := gw_i 32 (by decide +kernel) (by decide +kernel)
theorem gq_33 : Cond.selects RX10 yX10_owesBy yX10_owesBy ∈ gw_L := gw_i 33 (by decide +kernel) (by decide +kernel)
theorem gq_34 : Cond.selects RX10 yX10_grownNow yX10_grownNow ∈ gw_L := gw_i 34 (by decide +kernel) (by decide +kernel)
theorem gq_35 : Cond.selects RX10 yX10_yearsNow yX10_yearsNow ∈ gw_L := gw_i 35 (by decide +kernel) (by decide +kernel)
theorem gq_36 : Cond.selects RX10 yX10_goYear yX10_goYear ∈ gw_L := gw_i 36 (by decide +kernel) (by decide +kernel)
theorem gq_37 : Cond.selects RX10 yX10_draw yX10_draw ∈ gw_L := gw_i 37 (by decide +kernel) (by decide +kernel)
theorem gq_38 : Cond.selects RX10 yX10_howMany yX10_howMany ∈ gw_L := gw_i 38 (by decide +kernel) (by decide +kernel)
theorem gq_39 : Cond.selects RX10 yX10_ruinedMany yX10_ruinedMany ∈ gw_L := gw_i 39 (by decide +kernel) (by decide +kernel)
theorem gq_40 : Cond.selects RX10 yX10_owedAll yX10_owedAll ∈ gw_L := gw_i 40 (by decide +kernel) (by decide +kernel)
theorem gq_41 : Cond.selects RX10 yX10_mixPerson yX10_mixPerson ∈ gw_L := gw_i 41 (by decide +kernel) (by decide +kernel)
theorem gq_42 : Cond.selects RX10 yX10_mix yX10_mix ∈ gw_L := gw_i 42 (by decide +kernel) (by decide +kernel)
theorem gq_43 : Cond.initialized RL ∈ gw_L := gw_i 43 (by decide +kernel) (by decide +kernel)
theorem gq_44 : Cond.initialized RX9 ∈ gw_L := gw_i 44 (by decide +kernel) (by decide +kernel)
theorem gq_45 : Cond.initialized RX5 ∈ gw_L := gw_i 45 (by decide +kernel) (by decide +kernel)
theorem gq_46 : Cond.initialized RX8 ∈ gw_L := gw_i 46 (by decide +kernel) (by decide +kernel)
theorem gq_47 : Cond.initialized RX3 ∈ gw_L := gw_i 47 (by decide +kernel) (by decide +kernel)
theorem gq_48 : Cond.initialized RX4 ∈ gw_L := gw_i 48 (by decide +kernel) (by decide +kernel)
theorem gq_49 : Cond.initialized RX6 ∈ gw_L := gw_i 49 (by decide +kernel) (by decide +kernel)
theorem gq_50 : Cond.initialized RX7 ∈ gw_L := gw_i 50 (by decide +kernel) (by decide +kernel)
theorem gq_51 : Cond.initialized RX0 ∈ gw_L := gw_i 51 (by decide +kernel) (by decide +kernel)
theorem gq_52 : Cond.initialized RX1 ∈ gw_L := gw_i 52 (by decide +kernel) (by decide +kernel)
theorem gq_53 : Cond.initialized RX10 ∈ gw_L := gw_i 53 (by decide +kernel) (by decide +kernel)
theorem gq_54 : Cond.initialized RJx29ce0 ∈ gw_L := gw_i 54 (by decide +kernel) (by decide +kernel)
theorem gq_55 : Cond.initialized RX2 ∈ gw_L := gw_i 55 (by decide +kernel) (by decide +kernel)
theorem gq_56 : Cond.initialized RJ9 ∈ gw_L := gw_i 56 (by decide +kernel) (by decide +kernel)
theorem gq_57 : Cond.initialized RJ10 ∈ gw_L := gw_i 57 (by decide +kernel) (by decide +kernel)
theorem gq_58 : Cond.initialized RJ6 ∈ gw_L := gw_i 58 (by decide +kernel) (by decide +kernel)
theorem gq_59 : Cond.classLink RL 7 RX9 ∈ gw_L := gw_i 59 (by decide +kernel) (by decide +kernel)
theorem gq_60 : Cond.instantiable RX9 13 ∈ gw_L := gw_i 60 (by decide +kernel) (by decide +kernel)
theorem gq_61 : Cond.methodLink RL 9 yX9_init ∈ gw_L := gw_i 61 (by decide +kernel) (by decide +kernel)
theorem gq_62 : Cond.instanceMethod yX9_init ∈ gw_L := gw_i 62 (by decide +kernel) (by decide +kernel)
theorem gq_63 : Cond.code yX9_init cX9_init 1 none ∈ gw_L := gw_i 63 (by decide +kernel) (by decide +kernel)
theorem gq_64 : Cond.methodLink RX9 3 objectInit ∈ gw_L := gw_i 64 (by decide +kernel) (by decide +kernel)
theorem gq_65 : Cond.instanceMethod objectInit ∈ gw_L := gw_i 65 (by decide +kernel) (by decide +kernel)
theorem gq_66 : Cond.code objectInit object_method_1_code 1 (Option.none : Option Jvm.ClassFile.FieldType) ∈ gw_L := gw_i 66 (by decide +kernel) (by decide +kernel)
theorem gq_67 : Cond.classLink RX9 9 RX5 ∈ gw_L := gw_i 67 (by decide +kernel) (by decide +kernel)
theorem gq_68 : Cond.instantiable RX5 2 ∈ gw_L := gw_i 68 (by decide +kernel) (by decide +kernel)
theorem gq_70 : Cond.instanceMethod yX5_init ∈ gw_L := gw_i 70 (by decide +kernel) (by decide +kernel)
theorem gq_71 : Cond.code yX5_init cX5_init 1 none ∈ gw_L := gw_i 71 (by decide +kernel) (by decide +kernel)
theorem gq_72 : Cond.methodLink RX5 3 objectInit ∈ gw_L := gw_i 72 (by decide +kernel) (by decide +kernel)
theorem gq_73 : Cond.fieldLink RX5 9 "ThanksOwed$Page" "codes" "[I" ∈ gw_L := gw_i 73 (by decide +kernel) (by decide +kernel)
theorem gq_74 : Cond.fieldLink RX3 25 "ThanksOwed$Page" "codes" "[I" ∈ gw_L := gw_i 74 (by decide +kernel) (by decide +kernel)
theorem gq_75 : Cond.fieldLink RX9 280 "ThanksOwed$Page" "codes" "[I" ∈ gw_L := gw_i 75 (by decide +kernel) (by decide +kernel)
theorem gq_76 : Cond.fieldLink RX5 15 "ThanksOwed$Page" "length" "I" ∈ gw_L := gw_i 76 (by decide +kernel) (by decide +kernel)
theorem gq_77 : Cond.fieldLink RX9 75 "ThanksOwed$Page" "length" "I" ∈ gw_L := gw_i 77 (by decide +kernel) (by decide +kernel)
theorem gq_78 : Cond.laysFinal RX5 "ThanksOwed$Page" "codes" "[I" ∈ gw_L := gw_i 78 (by decide +kernel) (by decide +kernel)
theorem gq_80 : Cond.lays RX5 "ThanksOwed$Page" "length" "I" ∈ gw_L := gw_i 80 (by decide +kernel) (by decide +kernel)
theorem gq_83 : Cond.arrayClass Jvm.ClassFile.FieldType.int ∈ gw_L := gw_i 83 (by decide +kernel) (by decide +kernel)
theorem gq_84 : Cond.classLink RX9 16 RX8 ∈ gw_L := gw_i 84 (by decide +kernel) (by decide +kernel)
theorem gq_85 : Cond.instantiable RX8 8 ∈ gw_L := gw_i 85 (by decide +kernel) (by decide +kernel)
theorem gq_87 : Cond.instanceMethod yX8_init ∈ gw_L := gw_i 87 (by decide +kernel) (by decide +kernel)
theorem gq_88 : Cond.code yX8_init cX8_init 1 none ∈ gw_L := gw_i 88 (by decide +kernel) (by decide +kernel)
theorem gq_89 : Cond.methodLink RX8 3 objectInit ∈ gw_L := gw_i 89 (by decide +kernel) (by decide +kernel)
theorem gq_90 : Cond.classLink RX8 9 RX3 ∈ gw_L := gw_i 90 (by decide +kernel) (by decide +kernel)
theorem gq_91 : Cond.instantiable RX3 4 ∈ gw_L := gw_i 91 (by decide +kernel) (by decide +kernel)
theorem gq_93 : Cond.instanceMethod yX3_init ∈ gw_L := gw_i 93 (by decide +kernel) (by decide +kernel)
theorem gq_94 : Cond.code yX3_init cX3_init 1 none ∈ gw_L := gw_i 94 (by decide +kernel) (by decide +kernel)
theorem gq_95 : Cond.methodLink RX3 3 objectInit ∈ gw_L := gw_i 95 (by decide +kernel) (by decide +kernel)
theorem gq_96 : Cond.fieldLink RX3 9 "ThanksOwed$Law" "rate" "I" ∈ gw_L := gw_i 96 (by decide +kernel) (by decide +kernel)
theorem gq_97 : Cond.fieldLink RX9 263 "ThanksOwed$Law" "rate" "I" ∈ gw_L := gw_i 97 (by decide +kernel) (by decide +kernel)
theorem gq_98 : Cond.fieldLink RX3 15 "ThanksOwed$Law" "up" "Z" ∈ gw_L := gw_i 98 (by decide +kernel) (by decide +kernel)
theorem gq_99 : Cond.fieldLink RX9 266 "ThanksOwed$Law" "up" "Z" ∈ gw_L := gw_i 99 (by decide +kernel) (by decide +kernel)
theorem gq_100 : Cond.fieldLink RX3 29 "ThanksOwed$Law" "free" "I" ∈ gw_L := gw_i 100 (by decide +kernel) (by decide +kernel)
theorem gq_101 : Cond.fieldLink RX0 68 "ThanksOwed$Law" "free" "I" ∈ gw_L := gw_i 101 (by decide +kernel) (by decide +kernel)
theorem gq_102 : Cond.fieldLink RX8 85 "ThanksOwed$Law" "free" "I" ∈ gw_L := gw_i 102 (by decide +kernel) (by decide +kernel)
theorem gq_103 : Cond.fieldLink RX9 232 "ThanksOwed$Law" "free" "I" ∈ gw_L := gw_i 103 (by decide +kernel) (by decide +kernel)
theorem gq_104 : Cond.fieldLink RX3 32 "ThanksOwed$Law" "sulk" "I" ∈ gw_L := gw_i 104 (by decide +kernel) (by decide +kernel)
theorem gq_105 : Cond.fieldLink RX8 100 "ThanksOwed$Law" "sulk" "I" ∈ gw_L := gw_i 105 (by decide +kernel) (by decide +kernel)
theorem gq_106 : Cond.fieldLink RX9 269 "ThanksOwed$Law" "sulk" "I" ∈ gw_L := gw_i 106 (by decide +kernel) (by decide +kernel)
theorem gq_107 : Cond.lays RX3 "ThanksOwed$Law" "rate" "I" ∈ gw_L := gw_i 107 (by decide +kernel) (by decide +kernel)
theorem gq_109 : Cond.lays RX3 "ThanksOwed$Law" "up" "Z" ∈ gw_L := gw_i 109 (by decide +kernel) (by decide +kernel)
theorem gq_111 : Cond.lays RX3 "ThanksOwed$Law" "free" "I" ∈ gw_L := gw_i 111 (by decide +kernel) (by decide +kernel)
theorem gq_113 : Cond.lays RX3 "ThanksOwed$Law" "sulk" "I" ∈ gw_L := gw_i 113 (by decide +kernel) (by decide +kernel)
theorem gq_116 : Cond.fieldLink RX8 12 "ThanksOwed$Town" "law" "LThanksOwed$Law;" ∈ gw_L := gw_i 116 (by decide +kernel) (by decide +kernel)
theorem gq_117 : Cond.fieldLink RX0 64 "ThanksOwed$Town" "law" "LThanksOwed$Law;" ∈ gw_L := gw_i 117 (by decide +kernel) (by decide +kernel)
theorem gq_118 : Cond.fieldLink RX9 91 "ThanksOwed$Town" "law" "LThanksOwed$Law;" ∈ gw_L := gw_i 118 (by decide +kernel) (by decide +kernel)
theorem gq_119 : Cond.fieldLink RX8 18 "ThanksOwed$Town" "kinds" "[I" ∈ gw_L := gw_i 119 (by decide +kernel) (by decide +kernel)
theorem gq_120 : Cond.fieldLink RX9 118 "ThanksOwed$Town" "kinds" "[I" ∈ gw_L := gw_i 120 (by decide +kernel) (by decide +kernel)
theorem gq_121 : Cond.fieldLink RX8 22 "ThanksOwed$Town" "wealth" "[I" ∈ gw_L := gw_i 121 (by decide +kernel) (by decide +kernel)
theorem gq_122 : Cond.fieldLink RX9 121 "ThanksOwed$Town" "wealth" "[I" ∈ gw_L := gw_i 122 (by decide +kernel) (by decide +kernel)
theorem gq_123 : Cond.fieldLink RX8 25 "ThanksOwed$Town" "owes" "[I" ∈ gw_L := gw_i 123 (by decide +kernel) (by decide +kernel)
theorem gq_124 : Cond.fieldLink RX6 34 "ThanksOwed$Town" "owes" "[I" ∈ gw_L := gw_i 124 (by decide +kernel) (by decide +kernel)
theorem gq_125 : Cond.fieldLink RX0 52 "ThanksOwed$Town" "owes" "[I" ∈ gw_L := gw_i 125 (by decide +kernel) (by decide +kernel)
theorem gq_126 : Cond.fieldLink RX9 162 "ThanksOwed$Town" "owes" "[I" ∈ gw_L := gw_i 126 (by decide +kernel) (by decide +kernel)
theorem gq_127 : Cond.fieldLink RX8 28 "ThanksOwed$Town" "free" "[I" ∈ gw_L := gw_i 127 (by decide +kernel) (by decide +kernel)
theorem gq_128 : Cond.fieldLink RX0 61 "ThanksOwed$Town" "free" "[I" ∈ gw_L := gw_i 128 (by decide +kernel) (by decide +kernel)
theorem gq_129 : Cond.fieldLink RX9 165 "ThanksOwed$Town" "free" "[I" ∈ gw_L := gw_i 129 (by decide +kernel) (by decide +kernel)
theorem gq_130 : Cond.fieldLink RX8 31 "ThanksOwed$Town" "offended" "[I" ∈ gw_L := gw_i 130 (by decide +kernel) (by decide +kernel)
theorem gq_131 : Cond.fieldLink RX9 168 "ThanksOwed$Town" "offended" "[I" ∈ gw_L := gw_i 131 (by decide +kernel) (by decide +kernel)
theorem gq_132 : Cond.fieldLink RX7 18 "ThanksOwed$Town" "people" "I" ∈ gw_L := gw_i 132 (by decide +kernel) (by decide +kernel)
theorem gq_133 : Cond.fieldLink RX6 25 "ThanksOwed$Town" "people" "I" ∈ gw_L := gw_i 133 (by decide +kernel) (by decide +kernel)
theorem gq_134 : Cond.fieldLink RX8 44 "ThanksOwed$Town" "people" "I" ∈ gw_L := gw_i 134 (by decide +kernel) (by decide +kernel)
theorem gq_135 : Cond.fieldLink RX0 40 "ThanksOwed$Town" "people" "I" ∈ gw_L := gw_i 135 (by decide +kernel) (by decide +kernel)
theorem gq_136 : Cond.fieldLink RX9 108 "ThanksOwed$Town" "people" "I" ∈ gw_L := gw_i 136 (by decide +kernel) (by decide +kernel)
theorem gq_137 : Cond.fieldLink RX8 48 "ThanksOwed$Town" "weeks" "I" ∈ gw_L := gw_i 137 (by decide +kernel) (by decide +kernel)
theorem gq_138 : Cond.fieldLink RX9 260 "ThanksOwed$Town" "weeks" "I" ∈ gw_L := gw_i 138 (by decide +kernel) (by decide +kernel)
theorem gq_139 : Cond.laysFinal RX8 "ThanksOwed$Town" "law" "LThanksOwed$Law;" ∈ gw_L := gw_i 139 (by decide +kernel) (by decide +kernel)
theorem gq_141 : Cond.laysFinal RX8 "ThanksOwed$Town" "kinds" "[I" ∈ gw_L := gw_i 141 (by decide +kernel) (by decide +kernel)
theorem gq_143 : Cond.laysFinal RX8 "ThanksOwed$Town" "wealth" "[I" ∈ gw_L := gw_i 143 (by decide +kernel) (by decide +kernel)
theorem gq_145 : Cond.laysFinal RX8 "ThanksOwed$Town" "owes" "[I" ∈ gw_L := gw_i 145 (by decide +kernel) (by decide +kernel)
theorem gq_147 : Cond.laysFinal RX8 "ThanksOwed$Town" "free" "[I" ∈ gw_L := gw_i 147 (by decide +kernel) (by decide +kernel)
theorem gq_149 : Cond.laysFinal RX8 "ThanksOwed$Town" "offended" "[I" ∈ gw_L := gw_i 149 (by decide +kernel) (by decide +kernel)
theorem gq_151 : Cond.lays RX8 "ThanksOwed$Town" "people" "I" ∈ gw_L := gw_i 151 (by decide +kernel) (by decide +kernel)
theorem gq_153 : Cond.lays RX8 "ThanksOwed$Town" "weeks" "I" ∈ gw_L := gw_i 153 (by decide +kernel) (by decide +kernel)
theorem gq_156 : Cond.classLink RX9 23 RX4 ∈ gw_L := gw_i 156 (by decide +kernel) (by decide +kernel)
theorem gq_157 : Cond.instantiable RX4 4 ∈ gw_L := gw_i 157 (by decide +kernel) (by decide +kernel)
theorem gq_159 : Cond.instanceMethod yX4_init ∈ gw_L := gw_i 159 (by decide +kernel) (by decide +kernel)
theorem gq_160 : Cond.code yX4_init cX4_init 1 none ∈ gw_L := gw_i 160 (by decide +kernel) (by decide +kernel)
theorem gq_161 : Cond.methodLink RX4 3 objectInit ∈ gw_L := gw_i 161 (by decide +kernel) (by decide +kernel)
theorem gq_162 : Cond.fieldLink RX4 9 "ThanksOwed$Offers" "from" "[I" ∈ gw_L := gw_i 162 (by decide +kernel) (by decide +kernel)
theorem gq_163 : Cond.fieldLink RX4 15 "ThanksOwed$Offers" "to" "[I" ∈ gw_L := gw_i 163 (by decide +kernel) (by decide +kernel)
theorem gq_164 : Cond.fieldLink RX4 18 "ThanksOwed$Offers" "sizes" "[I" ∈ gw_L := gw_i 164 (by decide +kernel) (by decide +kernel)
theorem gq_165 : Cond.fieldLink RX4 27 "ThanksOwed$Offers" "count" "I" ∈ gw_L := gw_i 165 (by decide +kernel) (by decide +kernel)
theorem gq_166 : Cond.fieldLink RX9 214 "ThanksOwed$Offers" "count" "I" ∈ gw_L := gw_i 166 (by decide +kernel) (by decide +kernel)
theorem gq_167 : Cond.laysFinal RX4 "ThanksOwed$Offers" "from" "[I" ∈ gw_L := gw_i 167 (by decide +kernel) (by decide +kernel)
theorem gq_169 : Cond.laysFinal RX4 "ThanksOwed$Offers" "to" "[I" ∈ gw_L := gw_i 169 (by decide +kernel) (by decide +kernel)
theorem gq_171 : Cond.laysFinal RX4 "ThanksOwed$Offers" "sizes" "[I" ∈ gw_L := gw_i 171 (by decide +kernel) (by decide +kernel)
theorem gq_173 : Cond.lays RX4 "ThanksOwed$Offers" "count" "I" ∈ gw_L := gw_i 173 (by decide +kernel) (by decide +kernel)
theorem gq_176 : Cond.classLink RX9 39 RX6 ∈ gw_L := gw_i 176 (by decide +kernel) (by decide +kernel)
theorem gq_177 : Cond.instantiable RX6 4 ∈ gw_L := gw_i 177 (by decide +kernel) (by decide +kernel)
theorem gq_179 : Cond.instanceMethod yX6_init ∈ gw_L := gw_i 179 (by decide +kernel) (by decide +kernel)
theorem gq_180 : Cond.code yX6_init cX6_init 1 none ∈ gw_L := gw_i 180 (by decide +kernel) (by decide +kernel)
theorem gq_181 : Cond.methodLink RX6 3 objectInit ∈ gw_L := gw_i 181 (by decide +kernel) (by decide +kernel)
theorem gq_182 : Cond.fieldLink RX6 9 "ThanksOwed$RingSearch" "row" "[I" ∈ gw_L := gw_i 182 (by decide +kernel) (by decide +kernel)
theorem gq_183 : Cond.fieldLink RX6 15 "ThanksOwed$RingSearch" "best" "[I" ∈ gw_L := gw_i 183 (by decide +kernel) (by decide +kernel)
theorem gq_184 : Cond.fieldLink RX6 18 "ThanksOwed$RingSearch" "bestLength" "I" ∈ gw_L := gw_i 184 (by decide +kernel) (by decide +kernel)
theorem gq_185 : Cond.fieldLink RX6 22 "ThanksOwed$RingSearch" "bestTotal" "I" ∈ gw_L := gw_i 185 (by decide +kernel) (by decide +kernel)
theorem gq_186 : Cond.laysFinal RX6 "ThanksOwed$RingSearch" "row" "[I" ∈ gw_L := gw_i 186 (by decide +kernel) (by decide +kernel)
theorem gq_188 : Cond.laysFinal RX6 "ThanksOwed$RingSearch" "best" "[I" ∈ gw_L := gw_i 188 (by decide +kernel) (by decide +kernel)
theorem gq_190 : Cond.lays RX6 "ThanksOwed$RingSearch" "bestLength" "I" ∈ gw_L := gw_i 190 (by decide +kernel) (by decide +kernel)
theorem gq_192 : Cond.lays RX6 "ThanksOwed$RingSearch" "bestTotal" "I" ∈ gw_L := gw_i 192 (by decide +kernel) (by decide +kernel)
theorem gq_195 : Cond.classLink RX9 46 RX7 ∈ gw_L := gw_i 195 (by decide +kernel) (by decide +kernel)
theorem gq_196 : Cond.instantiable RX7 2 ∈ gw_L := gw_i 196 (by decide +kernel) (by decide +kernel)
theorem gq_198 : Cond.instanceMethod yX7_init ∈ gw_L := gw_i 198 (by decide +kernel) (by decide +kernel)
theorem gq_199 : Cond.code yX7_init cX7_init 1 none ∈ gw_L := gw_i 199 (by decide +kernel) (by decide +kernel)
theorem gq_200 : Cond.methodLink RX7 3 objectInit ∈ gw_L := gw_i 200 (by decide +kernel) (by decide +kernel)
theorem gq_201 : Cond.fieldLink RX7 9 "ThanksOwed$Settlement" "sums" "[I" ∈ gw_L := gw_i 201 (by decide +kernel) (by decide +kernel)
theorem gq_202 : Cond.fieldLink RX7 15 "ThanksOwed$Settlement" "evenGroups" "[I" ∈ gw_L := gw_i 202 (by decide +kernel) (by decide +kernel)
theorem gq_203 : Cond.laysFinal RX7 "ThanksOwed$Settlement" "sums" "[I" ∈ gw_L := gw_i 203 (by decide +kernel) (by decide +kernel)
theorem gq_205 : Cond.laysFinal RX7 "ThanksOwed$Settlement" "evenGroups" "[I" ∈ gw_L := gw_i 205 (by decide +kernel) (by decide +kernel)
theorem gq_208 : Cond.classLink RX9 53 RX0 ∈ gw_L := gw_i 208 (by decide +kernel) (by decide +kernel)
theorem gq_209 : Cond.instantiable RX0 2 ∈ gw_L := gw_i 209 (by decide +kernel) (by decide +kernel)
theorem gq_211 : Cond.instanceMethod yX0_init ∈ gw_L := gw_i 211 (by decide +kernel) (by decide +kernel)
theorem gq_212 : Cond.code yX0_init cX0_init 1 none ∈ gw_L := gw_i 212 (by decide +kernel) (by decide +kernel)
theorem gq_213 : Cond.methodLink RX0 3 objectInit ∈ gw_L := gw_i 213 (by decide +kernel) (by decide +kernel)
theorem gq_214 : Cond.fieldLink RX0 9 "ThanksOwed$Acceptance" "bits" "I" ∈ gw_L := gw_i 214 (by decide +kernel) (by decide +kernel)
theorem gq_215 : Cond.fieldLink RX9 222 "ThanksOwed$Acceptance" "bits" "I" ∈ gw_L := gw_i 215 (by decide +kernel) (by decide +kernel)
theorem gq_216 : Cond.fieldLink RX0 15 "ThanksOwed$Acceptance" "owed" "I" ∈ gw_L := gw_i 216 (by decide +kernel) (by decide +kernel)
theorem gq_217 : Cond.fieldLink RX9 225 "ThanksOwed$Acceptance" "owed" "I" ∈ gw_L := gw_i 217 (by decide +kernel) (by decide +kernel)
theorem gq_218 : Cond.lays RX0 "ThanksOwed$Acceptance" "bits" "I" ∈ gw_L := gw_i 218 (by decide +kernel) (by decide +kernel)
theorem gq_220 : Cond.lays RX0 "ThanksOwed$Acceptance" "owed" "I" ∈ gw_L := gw_i 220 (by decide +kernel) (by decide +kernel)
theorem gq_223 : Cond.classLink RX9 60 RX1 ∈ gw_L := gw_i 223 (by decide +kernel) (by decide +kernel)
theorem gq_224 : Cond.instantiable RX1 1 ∈ gw_L := gw_i 224 (by decide +kernel) (by decide +kernel)
theorem gq_226 : Cond.instanceMethod yX1_init ∈ gw_L := gw_i 226 (by decide +kernel) (by decide +kernel)
theorem gq_227 : Cond.code yX1_init cX1_init 1 none ∈ gw_L := gw_i 227 (by decide +kernel) (by decide +kernel)
theorem gq_228 : Cond.methodLink RX1 1 objectInit ∈ gw_L := gw_i 228 (by decide +kernel) (by decide +kernel)
theorem gq_229 : Cond.fieldLink RX1 9 "ThanksOwed$Draws" "seed" "I" ∈ gw_L := gw_i 229 (by decide +kernel) (by decide +kernel)
theorem gq_230 : Cond.fieldLink RX9 238 "ThanksOwed$Draws" "seed" "I" ∈ gw_L := gw_i 230 (by decide +kernel) (by decide +kernel)
theorem gq_231 : Cond.lays RX1 "ThanksOwed$Draws" "seed" "I" ∈ gw_L := gw_i 231 (by decide +kernel) (by decide +kernel)
theorem gq_234 : Cond.fieldLink RX9 12 "ThanksOwed" "page" "LThanksOwed$Page;" ∈ gw_L := gw_i 234 (by decide +kernel) (by decide +kernel)
theorem gq_235 : Cond.fieldLink RX9 19 "ThanksOwed" "town" "LThanksOwed$Town;" ∈ gw_L := gw_i 235 (by decide +kernel) (by decide +kernel)
theorem gq_236 : Cond.fieldLink RX9 26 "ThanksOwed" "offers" "LThanksOwed$Offers;" ∈ gw_L := gw_i 236 (by decide +kernel) (by decide +kernel)
theorem gq_237 : Cond.fieldLink RX9 30 "ThanksOwed" "keptTown" "LThanksOwed$Town;" ∈ gw_L := gw_i 237 (by decide +kernel) (by decide +kernel)
theorem gq_238 : Cond.fieldLink RX9 33 "ThanksOwed" "keptOffers" "LThanksOwed$Offers;" ∈ gw_L := gw_i 238 (by decide +kernel) (by decide +kernel)
theorem gq_239 : Cond.fieldLink RX9 36 "ThanksOwed" "wouldBe" "LThanksOwed$Town;" ∈ gw_L := gw_i 239 (by decide +kernel) (by decide +kernel)
theorem gq_240 : Cond.fieldLink RX9 42 "ThanksOwed" "rings" "LThanksOwed$RingSearch;" ∈ gw_L := gw_i 240 (by decide +kernel) (by decide +kernel)
theorem gq_241 : Cond.fieldLink RX9 49 "ThanksOwed" "settlement" "LThanksOwed$Settlement;" ∈ gw_L := gw_i 241 (by decide +kernel) (by decide +kernel)
theorem gq_242 : Cond.fieldLink RX9 56 "ThanksOwed" "acceptance" "LThanksOwed$Acceptance;" ∈ gw_L := gw_i 242 (by decide +kernel) (by decide +kernel)
theorem gq_243 : Cond.fieldLink RX9 63 "ThanksOwed" "draws" "LThanksOwed$Draws;" ∈ gw_L := gw_i 243 (by decide +kernel) (by decide +kernel)
theorem gq_244 : Cond.fieldLink RX9 67 "ThanksOwed" "ruinWeeks" "[I" ∈ gw_L := gw_i 244 (by decide +kernel) (by decide +kernel)
theorem gq_245 : Cond.fieldLink RX9 257 "ThanksOwed" "imageKept" "Z" ∈ gw_L := gw_i 245 (by decide +kernel) (by decide +kernel)
theorem gq_246 : Cond.fieldLink RX9 101 "ThanksOwed" "lawsRead" "I" ∈ gw_L := gw_i 246 (by decide +kernel) (by decide +kernel)
theorem gq_247 : Cond.laysFinal RX9 "ThanksOwed" "page" "LThanksOwed$Page;" ∈ gw_L := gw_i 247 (by decide +kernel) (by decide +kernel)
theorem gq_249 : Cond.laysFinal RX9 "ThanksOwed" "town" "LThanksOwed$Town;" ∈ gw_L := gw_i 249 (by decide +kernel) (by decide +kernel)
theorem gq_251 : Cond.laysFinal RX9 "ThanksOwed" "offers" "LThanksOwed$Offers;" ∈ gw_L := gw_i 251 (by decide +kernel) (by decide +kernel)
theorem gq_253 : Cond.laysFinal RX9 "ThanksOwed" "keptTown" "LThanksOwed$Town;" ∈ gw_L := gw_i 253 (by decide +kernel) (by decide +kernel)
theorem gq_255 : Cond.laysFinal RX9 "ThanksOwed" "keptOffers" "LThanksOwed$Offers;" ∈ gw_L := gw_i 255 (by decide +kernel) (by decide +kernel)
theorem gq_257 : Cond.laysFinal RX9 "ThanksOwed" "wouldBe" "LThanksOwed$Town;" ∈ gw_L := gw_i 257 (by decide +kernel) (by decide +kernel)
theorem gq_259 : Cond.laysFinal RX9 "ThanksOwed" "rings" "LThanksOwed$RingSearch;" ∈ gw_L := gw_i 259 (by decide +kernel) (by decide +kernel)
theorem gq_261 : Cond.laysFinal RX9 "ThanksOwed" "settlement" "LThanksOwed$Settlement;" ∈ gw_L := gw_i 261 (by decide +kernel) (by decide +kernel)
theorem gq_263 : Cond.laysFinal RX9 "ThanksOwed" "acceptance" "LThanksOwed$Acceptance;" ∈ gw_L := gw_i 263 (by decide +kernel) (by decide +kernel)
theorem gq_265 : Cond.laysFinal RX9 "ThanksOwed" "draws" "LThanksOwed$Draws;" ∈ gw_L := gw_i 265 (by decide +kernel) (by decide +kernel)
theorem gq_267 : Cond.laysFinal RX9 "ThanksOwed" "ruinWeeks" "[I" ∈ gw_L := gw_i 267 (by decide +kernel) (by decide +kernel)
theorem gq_269 : Cond.lays RX9 "ThanksOwed" "imageKept" "Z" ∈ gw_L := gw_i 269 (by decide +kernel) (by decide +kernel)
theorem gq_271 : Cond.lays RX9 "ThanksOwed" "lawsRead" "I" ∈ gw_L := gw_i 271 (by decide +kernel) (by decide +kernel)
theorem gq_274 : Cond.methodLink RL 13 yX9_letter ∈ gw_L := gw_i 274 (by decide +kernel) (by decide +kernel)
theorem gq_275 : Cond.instanceMethod yX9_letter ∈ gw_L := gw_i 275 (by decide +kernel) (by decide +kernel)
theorem gq_276 : Cond.selects RX9 yX9_letter yX9_letter ∈ gw_L := gw_i 276 (by decide +kernel) (by decide +kernel)
theorem gq_277 : Cond.code yX9_letter cX9_letter 2 (some .int) ∈ gw_L := gw_i 277 (by decide +kernel) (by decide +kernel)
theorem gq_278 : Cond.methodLink RX9 71 yX9_within ∈ gw_L := gw_i 278 (by decide +kernel) (by decide +kernel)
theorem gq_279 : Cond.static yX9_within ∈ gw_L := gw_i 279 (by decide +kernel) (by decide +kernel)
theorem gq_280 : Cond.code yX9_within cX9_within 3 (some .boolean) ∈ gw_L := gw_i 280 (by decide +kernel) (by decide +kernel)
theorem gq_281 : Cond.methodLink RX9 79 yX5_put ∈ gw_L := gw_i 281 (by decide +kernel) (by decide +kernel)
theorem gq_282 : Cond.instanceMethod yX5_put ∈ gw_L := gw_i 282 (by decide +kernel) (by decide +kernel)
theorem gq_283 : Cond.selects RX5 yX5_put yX5_put ∈ gw_L := gw_i 283 (by decide +kernel) (by decide +kernel)
theorem gq_284 : Cond.code yX5_put cX5_put 2 none ∈ gw_L := gw_i 284 (by decide +kernel) (by decide +kernel)
theorem gq_285 : Cond.methodLink RL 18 yX9_blank ∈ gw_L := gw_i 285 (by decide +kernel) (by decide +kernel)
theorem gq_286 : Cond.instanceMethod yX9_blank ∈ gw_L := gw_i 286 (by decide +kernel) (by decide +kernel)
theorem gq_287 : Cond.selects RX9 yX9_blank yX9_blank ∈ gw_L := gw_i 287 (by decide +kernel) (by decide +kernel)
theorem gq_288 : Cond.code yX9_blank cX9_blank 2 (some .int) ∈ gw_L := gw_i 288 (by decide +kernel) (by decide +kernel)
theorem gq_289 : Cond.methodLink RL 23 yX9_fault ∈ gw_L := gw_i 289 (by decide +kernel) (by decide +kernel)
theorem gq_290 : Cond.instanceMethod yX9_fault ∈ gw_L := gw_i 290 (by decide +kernel) (by decide +kernel)
theorem gq_291 : Cond.selects RX9 yX9_fault yX9_fault ∈ gw_L := gw_i 291 (by decide +kernel) (by decide +kernel)
theorem gq_292 : Cond.code yX9_fault cX9_fault 1 (some .int) ∈ gw_L := gw_i 292 (by decide +kernel) (by decide +kernel)
theorem gq_293 : Cond.methodLink RX9 83 yX5_firstFault ∈ gw_L := gw_i 293 (by decide +kernel) (by decide +kernel)
theorem gq_294 : Cond.instanceMethod yX5_firstFault ∈ gw_L := gw_i 294 (by decide +kernel) (by decide +kernel)
theorem gq_295 : Cond.selects RX5 yX5_firstFault yX5_firstFault ∈ gw_L := gw_i 295 (by decide +kernel) (by decide +kernel)
theorem gq_296 : Cond.code yX5_firstFault cX5_firstFault 2 (some .int) ∈ gw_L := gw_i 296 (by decide +kernel) (by decide +kernel)
theorem gq_297 : Cond.methodLink RX5 19 yX5_fits ∈ gw_L := gw_i 297 (by decide +kernel) (by decide +kernel)
theorem gq_299 : Cond.instanceMethod yX5_fits ∈ gw_L := gw_i 299 (by decide +kernel) (by decide +kernel)
theorem gq_300 : Cond.code yX5_fits cX5_fits 2 (some .boolean) ∈ gw_L := gw_i 300 (by decide +kernel) (by decide +kernel)
theorem gq_301 : Cond.methodLink RX5 27 yX5_digit ∈ gw_L := gw_i 301 (by decide +kernel) (by decide +kernel)
theorem gq_302 : Cond.instanceMethod yX5_digit ∈ gw_L := gw_i 302 (by decide +kernel) (by decide +kernel)
theorem gq_303 : Cond.selects RX5 yX5_digit yX5_digit ∈ gw_L := gw_i 303 (by decide +kernel) (by decide +kernel)
theorem gq_304 : Cond.code yX5_digit cX5_digit 2 (some .int) ∈ gw_L := gw_i 304 (by decide +kernel) (by decide +kernel)
theorem gq_306 : Cond.methodLink RL 27 yX9_law ∈ gw_L := gw_i 306 (by decide +kernel) (by decide +kernel)
theorem gq_307 : Cond.instanceMethod yX9_law ∈ gw_L := gw_i 307 (by decide +kernel) (by decide +kernel)
theorem gq_308 : Cond.selects RX9 yX9_law yX9_law ∈ gw_L := gw_i 308 (by decide +kernel) (by decide +kernel)
theorem gq_309 : Cond.code yX9_law cX9_law 1 (some .int) ∈ gw_L := gw_i 309 (by decide +kernel) (by decide +kernel)
theorem gq_310 : Cond.methodLink RX9 87 yX5_isLaw ∈ gw_L := gw_i 310 (by decide +kernel) (by decide +kernel)
theorem gq_311 : Cond.instanceMethod yX5_isLaw ∈ gw_L := gw_i 311 (by decide +kernel) (by decide +kernel)
theorem gq_312 : Cond.selects RX5 yX5_isLaw yX5_isLaw ∈ gw_L := gw_i 312 (by decide +kernel) (by decide +kernel)
theorem gq_313 : Cond.code yX5_isLaw cX5_isLaw 1 (some .boolean) ∈ gw_L := gw_i 313 (by decide +kernel) (by decide +kernel)
theorem gq_314 : Cond.methodLink RX5 23 yX5_firstFault ∈ gw_L := gw_i 314 (by decide +kernel) (by decide +kernel)
theorem gq_315 : Cond.methodLink RX9 95 yX3_readFrom ∈ gw_L := gw_i 315 (by decide +kernel) (by decide +kernel)
theorem gq_316 : Cond.instanceMethod yX3_readFrom ∈ gw_L := gw_i 316 (by decide +kernel) (by decide +kernel)
theorem gq_317 : Cond.selects RX3 yX3_readFrom yX3_readFrom ∈ gw_L := gw_i 317 (by decide +kernel) (by decide +kernel)
theorem gq_318 : Cond.code yX3_readFrom cX3_readFrom 2 none ∈ gw_L := gw_i 318 (by decide +kernel) (by decide +kernel)
theorem gq_319 : Cond.methodLink RX3 19 yX5_digit ∈ gw_L := gw_i 319 (by decide +kernel) (by decide +kernel)
theorem gq_320 : Cond.methodLink RL 31 yX9_person ∈ gw_L := gw_i 320 (by decide +kernel) (by decide +kernel)
theorem gq_321 : Cond.instanceMethod yX9_person ∈ gw_L := gw_i 321 (by decide +kernel) (by decide +kernel)
theorem gq_322 : Cond.selects RX9 yX9_person yX9_person ∈ gw_L := gw_i 322 (by decide +kernel) (by decide +kernel)
theorem gq_323 : Cond.code yX9_person cX9_person 3 (some .int) ∈ gw_L := gw_i 323 (by decide +kernel) (by decide +kernel)
theorem gq_324 : Cond.methodLink RX9 104 yX9_isKind ∈ gw_L := gw_i 324 (by decide +kernel) (by decide +kernel)
theorem gq_325 : Cond.static yX9_isKind ∈ gw_L := gw_i 325 (by decide +kernel) (by decide +kernel)
theorem gq_326 : Cond.code yX9_isKind cX9_isKind 1 (some .boolean) ∈ gw_L := gw_i 326 (by decide +kernel) (by decide +kernel)
theorem gq_327 : Cond.fieldLink RX9 145 "ThanksOwed" "KINDS" "[LThanksOwed$Kind;" ∈ gw_L := gw_i 327 (by decide +kernel) (by decide +kernel)
theorem gq_329 : Cond.methodLink RX9 111 yX8_welcome ∈ gw_L := gw_i 329 (by decide +kernel) (by decide +kernel)
theorem gq_330 : Cond.instanceMethod yX8_welcome ∈ gw_L := gw_i 330 (by decide +kernel) (by decide +kernel)
theorem gq_331 : Cond.selects RX8 yX8_welcome yX8_welcome ∈ gw_L := gw_i 331 (by decide +kernel) (by decide +kernel)
theorem gq_332 : Cond.code yX8_welcome cX8_welcome 3 (some .int) ∈ gw_L := gw_i 332 (by decide +kernel) (by decide +kernel)
theorem gq_333 : Cond.methodLink RL 36 yX9_about ∈ gw_L := gw_i 333 (by decide +kernel) (by decide +kernel)
theorem gq_334 : Cond.instanceMethod yX9_about ∈ gw_L := gw_i 334 (by decide +kernel) (by decide +kernel)
theorem gq_335 : Cond.selects RX9 yX9_about yX9_about ∈ gw_L := gw_i 335 (by decide +kernel) (by decide +kernel)
theorem gq_336 : Cond.code yX9_about cX9_about 3 (some .int) ∈ gw_L := gw_i 336 (by decide +kernel) (by decide +kernel)
theorem gq_337 : Cond.methodLink RX9 115 yX8_has ∈ gw_L := gw_i 337 (by decide +kernel) (by decide +kernel)
theorem gq_338 : Cond.instanceMethod yX8_has ∈ gw_L := gw_i 338 (by decide +kernel) (by decide +kernel)
theorem gq_339 : Cond.selects RX8 yX8_has yX8_has ∈ gw_L := gw_i 339 (by decide +kernel) (by decide +kernel)
theorem gq_340 : Cond.code yX8_has cX8_has 2 (some .boolean) ∈ gw_L := gw_i 340 (by decide +kernel) (by decide +kernel)
theorem gq_341 : Cond.methodLink RX9 124 yX8_owedBy ∈ gw_L := gw_i 341 (by decide +kernel) (by decide +kernel)
theorem gq_342 : Cond.instanceMethod yX8_owedBy ∈ gw_L := gw_i 342 (by decide +kernel) (by decide +kernel)
theorem gq_343 : Cond.selects RX8 yX8_owedBy yX8_owedBy ∈ gw_L := gw_i 343 (by decide +kernel) (by decide +kernel)
theorem gq_344 : Cond.code yX8_owedBy cX8_owedBy 4 (some .int) ∈ gw_L := gw_i 344 (by decide +kernel) (by decide +kernel)
theorem gq_346 : Cond.static yX9_pairOf ∈ gw_L := gw_i 346 (by decide +kernel) (by decide +kernel)
theorem gq_347 : Cond.code yX9_pairOf cX9_pairOf 2 (some .int) ∈ gw_L := gw_i 347 (by decide +kernel) (by decide +kernel)
theorem gq_348 : Cond.methodLink RX9 128 yX8_owedTo ∈ gw_L := gw_i 348 (by decide +kernel) (by decide +kernel)
theorem gq_349 : Cond.instanceMethod yX8_owedTo ∈ gw_L := gw_i 349 (by decide +kernel) (by decide +kernel)
theorem gq_350 : Cond.selects RX8 yX8_owedTo yX8_owedTo ∈ gw_L := gw_i 350 (by decide +kernel) (by decide +kernel)
theorem gq_351 : Cond.code yX8_owedTo cX8_owedTo 4 (some .int) ∈ gw_L := gw_i 351 (by decide +kernel) (by decide +kernel)
theorem gq_352 : Cond.methodLink RX9 131 yX8_net ∈ gw_L := gw_i 352 (by decide +kernel) (by decide +kernel)
theorem gq_353 : Cond.instanceMethod yX8_net ∈ gw_L := gw_i 353 (by decide +kernel) (by decide +kernel)
theorem gq_354 : Cond.selects RX8 yX8_net yX8_net ∈ gw_L := gw_i 354 (by decide +kernel) (by decide +kernel)
theorem gq_355 : Cond.code yX8_net cX8_net 2 (some .int) ∈ gw_L := gw_i 355 (by decide +kernel) (by decide +kernel)
theorem gq_356 : Cond.methodLink RX8 63 yX8_owedTo ∈ gw_L := gw_i 356 (by decide +kernel) (by decide +kernel)
theorem gq_357 : Cond.methodLink RX8 67 yX8_owedBy ∈ gw_L := gw_i 357 (by decide +kernel) (by decide +kernel)
theorem gq_358 : Cond.methodLink RX9 134 yX8_isRuined ∈ gw_L := gw_i 358 (by decide +kernel) (by decide +kernel)
theorem gq_359 : Cond.instanceMethod yX8_isRuined ∈ gw_L := gw_i 359 (by decide +kernel) (by decide +kernel)
theorem gq_360 : Cond.selects RX8 yX8_isRuined yX8_isRuined ∈ gw_L := gw_i 360 (by decide +kernel) (by decide +kernel)
theorem gq_361 : Cond.code yX8_isRuined cX8_isRuined 2 (some .boolean) ∈ gw_L := gw_i 361 (by decide +kernel) (by decide +kernel)
theorem gq_362 : Cond.methodLink RX8 70 yX8_net ∈ gw_L := gw_i 362 (by decide +kernel) (by decide +kernel)
theorem gq_363 : Cond.methodLink RX9 137 yX9_oneIf ∈ gw_L := gw_i 363 (by decide +kernel) (by decide +kernel)
theorem gq_364 : Cond.static yX9_oneIf ∈ gw_L := gw_i 364 (by decide +kernel) (by decide +kernel)
theorem gq_365 : Cond.code yX9_oneIf cX9_oneIf 1 (some .int) ∈ gw_L := gw_i 365 (by decide +kernel) (by decide +kernel)
theorem gq_366 : Cond.methodLink RL 40 yX9_as ∈ gw_L := gw_i 366 (by decide +kernel) (by decide +kernel)
theorem gq_367 : Cond.instanceMethod yX9_as ∈ gw_L := gw_i 367 (by decide +kernel) (by decide +kernel)
theorem gq_368 : Cond.selects RX9 yX9_as yX9_as ∈ gw_L := gw_i 368 (by decide +kernel) (by decide +kernel)
theorem gq_369 : Cond.code yX9_as cX9_as 3 (some .int) ∈ gw_L := gw_i 369 (by decide +kernel) (by decide +kernel)
theorem gq_370 : Cond.methodLink RX9 141 yX8_kindOf ∈ gw_L := gw_i 370 (by decide +kernel) (by decide +kernel)
theorem gq_371 : Cond.instanceMethod yX8_kindOf ∈ gw_L := gw_i 371 (by decide +kernel) (by decide +kernel)
theorem gq_372 : Cond.selects RX8 yX8_kindOf yX8_kindOf ∈ gw_L := gw_i 372 (by decide +kernel) (by decide +kernel)
theorem gq_373 : Cond.code yX8_kindOf cX8_kindOf 2 (some (.object "ThanksOwed$Kind")) ∈ gw_L := gw_i 373 (by decide +kernel) (by decide +kernel)
theorem gq_375 : Cond.methodLink RX9 149 yX2_isA ∈ gw_L := gw_i 375 (by decide +kernel) (by decide +kernel)
theorem gq_376 : Cond.instanceMethod yX2_isA ∈ gw_L := gw_i 376 (by decide +kernel) (by decide +kernel)
theorem gq_377 : Cond.selects RX2 yX2_isA yX2_isA ∈ gw_L := gw_i 377 (by decide +kernel) (by decide +kernel)
theorem gq_378 : Cond.code yX2_isA cX2_isA 2 (some .boolean) ∈ gw_L := gw_i 378 (by decide +kernel) (by decide +kernel)
theorem gq_379 : Cond.fieldLink RX2 3 "ThanksOwed$Kind" "PERSON" "LThanksOwed$Kind;" ∈ gw_L := gw_i 379 (by decide +kernel) (by decide +kernel)
theorem gq_381 : Cond.fieldLink RX2 16 "ThanksOwed$Kind" "SAINT" "LThanksOwed$Kind;" ∈ gw_L := gw_i 381 (by decide +kernel) (by decide +kernel)
theorem gq_383 : Cond.fieldLink RX2 13 "ThanksOwed$Kind" "GRUNTER" "LThanksOwed$Kind;" ∈ gw_L := gw_i 383 (by decide +kernel) (by decide +kernel)
theorem gq_385 : Cond.methodLink RL 44 yX9_between ∈ gw_L := gw_i 385 (by decide +kernel) (by decide +kernel)
theorem gq_386 : Cond.instanceMethod yX9_between ∈ gw_L := gw_i 386 (by decide +kernel) (by decide +kernel)
theorem gq_387 : Cond.selects RX9 yX9_between yX9_between ∈ gw_L := gw_i 387 (by decide +kernel) (by decide +kernel)
theorem gq_388 : Cond.code yX9_between cX9_between 5 (some .int) ∈ gw_L := gw_i 388 (by decide +kernel) (by decide +kernel)
theorem gq_389 : Cond.methodLink RX9 155 yX8_hasBoth ∈ gw_L := gw_i 389 (by decide +kernel) (by decide +kernel)
theorem gq_390 : Cond.instanceMethod yX8_hasBoth ∈ gw_L := gw_i 390 (by decide +kernel) (by decide +kernel)
theorem gq_391 : Cond.selects RX8 yX8_hasBoth yX8_hasBoth ∈ gw_L := gw_i 391 (by decide +kernel) (by decide +kernel)
theorem gq_392 : Cond.code yX8_hasBoth cX8_hasBoth 3 (some .boolean) ∈ gw_L := gw_i 392 (by decide +kernel) (by decide +kernel)
theorem gq_393 : Cond.methodLink RX8 51 yX8_has ∈ gw_L := gw_i 393 (by decide +kernel) (by decide +kernel)
theorem gq_394 : Cond.methodLink RX9 159 yX9_pairOf ∈ gw_L := gw_i 394 (by decide +kernel) (by decide +kernel)
theorem gq_395 : Cond.methodLink RL 49 yX9_favour ∈ gw_L := gw_i 395 (by decide +kernel) (by decide +kernel)
theorem gq_396 : Cond.instanceMethod yX9_favour ∈ gw_L := gw_i 396 (by decide +kernel) (by decide +kernel)
theorem gq_397 : Cond.selects RX9 yX9_favour yX9_favour ∈ gw_L := gw_i 397 (by decide +kernel) (by decide +kernel)
theorem gq_398 : Cond.code yX9_favour cX9_favour 5 (some .int) ∈ gw_L := gw_i 398 (by decide +kernel) (by decide +kernel)
theorem gq_399 : Cond.methodLink RX9 171 yX9_isSize ∈ gw_L := gw_i 399 (by decide +kernel) (by decide +kernel)
theorem gq_400 : Cond.static yX9_isSize ∈ gw_L := gw_i 400 (by decide +kernel) (by decide +kernel)
theorem gq_401 : Cond.code yX9_isSize cX9_isSize 1 (some .boolean) ∈ gw_L := gw_i 401 (by decide +kernel) (by decide +kernel)
theorem gq_402 : Cond.methodLink RX9 174 yX8_isOffended ∈ gw_L := gw_i 402 (by decide +kernel) (by decide +kernel)
theorem gq_403 : Cond.instanceMethod yX8_isOffended ∈ gw_L := gw_i 403 (by decide +kernel) (by decide +kernel)
theorem gq_404 : Cond.selects RX8 yX8_isOffended yX8_isOffended ∈ gw_L := gw_i 404 (by decide +kernel) (by decide +kernel)
theorem gq_405 : Cond.code yX8_isOffended cX8_isOffended 3 (some .boolean) ∈ gw_L := gw_i 405 (by decide +kernel) (by decide +kernel)
theorem gq_406 : Cond.methodLink RX9 181 yX8_thank ∈ gw_L := gw_i 406 (by decide +kernel) (by decide +kernel)
theorem gq_407 : Cond.instanceMethod yX8_thank ∈ gw_L := gw_i 407 (by decide +kernel) (by decide +kernel)
theorem gq_408 : Cond.selects RX8 yX8_thank yX8_thank ∈ gw_L := gw_i 408 (by decide +kernel) (by decide +kernel)
theorem gq_409 : Cond.code yX8_thank cX8_thank 5 none ∈ gw_L := gw_i 409 (by decide +kernel) (by decide +kernel)
theorem gq_410 : Cond.methodLink RX8 80 yJ9_min_7cf53 ∈ gw_L := gw_i 410 (by decide +kernel) (by decide +kernel)
theorem gq_411 : Cond.static yJ9_min_7cf53 ∈ gw_L := gw_i 411 (by decide +kernel) (by decide +kernel)
theorem gq_412 : Cond.code yJ9_min_7cf53 cJ9_min_7cf53 2 (some .int) ∈ gw_L := gw_i 412 (by decide +kernel) (by decide +kernel)
theorem gq_413 : Cond.methodLink RX8 87 yJ9_max_7cf53 ∈ gw_L := gw_i 413 (by decide +kernel) (by decide +kernel)
theorem gq_414 : Cond.static yJ9_max_7cf53 ∈ gw_L := gw_i 414 (by decide +kernel) (by decide +kernel)
theorem gq_415 : Cond.code yJ9_max_7cf53 cJ9_max_7cf53 2 (some .int) ∈ gw_L := gw_i 415 (by decide +kernel) (by decide +kernel)
theorem gq_416 : Cond.methodLink RX9 185 yX8_grunt ∈ gw_L := gw_i 416 (by decide +kernel) (by decide +kernel)
theorem gq_417 : Cond.instanceMethod yX8_grunt ∈ gw_L := gw_i 417 (by decide +kernel) (by decide +kernel)
theorem gq_418 : Cond.selects RX8 yX8_grunt yX8_grunt ∈ gw_L := gw_i 418 (by decide +kernel) (by decide +kernel)
theorem gq_419 : Cond.code yX8_grunt cX8_grunt 4 none ∈ gw_L := gw_i 419 (by decide +kernel) (by decide +kernel)
theorem gq_420 : Cond.methodLink RX8 90 yX8_kindOf ∈ gw_L := gw_i 420 (by decide +kernel) (by decide +kernel)
theorem gq_421 : Cond.methodLink RL 54 yX9_week ∈ gw_L := gw_i 421 (by decide +kernel) (by decide +kernel)
theorem gq_422 : Cond.instanceMethod yX9_week ∈ gw_L := gw_i 422 (by decide +kernel) (by decide +kernel)
theorem gq_423 : Cond.selects RX9 yX9_week yX9_week ∈ gw_L := gw_i 423 (by decide +kernel) (by decide +kernel)
theorem gq_424 : Cond.code yX9_week cX9_week 1 (some .int) ∈ gw_L := gw_i 424 (by decide +kernel) (by decide +kernel)
theorem gq_425 : Cond.methodLink RX9 189 yX8_passWeek ∈ gw_L := gw_i 425 (by decide +kernel) (by decide +kernel)
theorem gq_426 : Cond.instanceMethod yX8_passWeek ∈ gw_L := gw_i 426 (by decide +kernel) (by decide +kernel)
theorem gq_427 : Cond.selects RX8 yX8_passWeek yX8_passWeek ∈ gw_L := gw_i 427 (by decide +kernel) (by decide +kernel)
theorem gq_428 : Cond.code yX8_passWeek cX8_passWeek 4 (some .int) ∈ gw_L := gw_i 428 (by decide +kernel) (by decide +kernel)
theorem gq_429 : Cond.methodLink RX8 103 yX8_passPairWeek ∈ gw_L := gw_i 429 (by decide +kernel) (by decide +kernel)
theorem gq_431 : Cond.instanceMethod yX8_passPairWeek ∈ gw_L := gw_i 431 (by decide +kernel) (by decide +kernel)
theorem gq_432 : Cond.code yX8_passPairWeek cX8_passPairWeek 5 (some .int) ∈ gw_L := gw_i 432 (by decide +kernel) (by decide +kernel)
theorem gq_433 : Cond.methodLink RX8 106 yX3_tenths ∈ gw_L := gw_i 433 (by decide +kernel) (by decide +kernel)
theorem gq_434 : Cond.instanceMethod yX3_tenths ∈ gw_L := gw_i 434 (by decide +kernel) (by decide +kernel)
theorem gq_435 : Cond.selects RX3 yX3_tenths yX3_tenths ∈ gw_L := gw_i 435 (by decide +kernel) (by decide +kernel)
theorem gq_436 : Cond.code yX3_tenths cX3_tenths 3 (some .int) ∈ gw_L := gw_i 436 (by decide +kernel) (by decide +kernel)
theorem gq_437 : Cond.methodLink RX8 110 yX3_owedNextWeek ∈ gw_L := gw_i 437 (by decide +kernel) (by decide +kernel)
theorem gq_438 : Cond.instanceMethod yX3_owedNextWeek ∈ gw_L := gw_i 438 (by decide +kernel) (by decide +kernel)
theorem gq_439 : Cond.selects RX3 yX3_owedNextWeek yX3_owedNextWeek ∈ gw_L := gw_i 439 (by decide +kernel) (by decide +kernel)
theorem gq_440 : Cond.code yX3_owedNextWeek cX3_owedNextWeek 5 (some .int) ∈ gw_L := gw_i 440 (by decide +kernel) (by decide +kernel)
theorem gq_441 : Cond.methodLink RX3 43 yJ9_min_7cf53 ∈ gw_L := gw_i 441 (by decide +kernel) (by decide +kernel)
theorem gq_442 : Cond.methodLink RL 58 yX9_pay ∈ gw_L := gw_i 442 (by decide +kernel) (by decide +kernel)
theorem gq_443 : Cond.instanceMethod yX9_pay ∈ gw_L := gw_i 443 (by decide +kernel) (by decide +kernel)
theorem gq_444 : Cond.selects RX9 yX9_pay yX9_pay ∈ gw_L := gw_i 444 (by decide +kernel) (by decide +kernel)
theorem gq_445 : Cond.code yX9_pay cX9_pay 5 (some .int) ∈ gw_L := gw_i 445 (by decide +kernel) (by decide +kernel)
theorem gq_446 : Cond.methodLink RL 62 yX9_setOff ∈ gw_L := gw_i 446 (by decide +kernel) (by decide +kernel)
theorem gq_447 : Cond.instanceMethod yX9_setOff ∈ gw_L := gw_i 447 (by decide +kernel) (by decide +kernel)
theorem gq_448 : Cond.selects RX9 yX9_setOff yX9_setOff ∈ gw_L := gw_i 448 (by decide +kernel) (by decide +kernel)
theorem gq_449 : Cond.code yX9_setOff cX9_setOff 6 (some .int) ∈ gw_L := gw_i 449 (by decide +kernel) (by decide +kernel)
theorem gq_450 : Cond.methodLink RX9 192 yJ9_min_7cf53 ∈ gw_L := gw_i 450 (by decide +kernel) (by decide +kernel)
theorem gq_451 : Cond.methodLink RL 66 yX9_ring ∈ gw_L := gw_i 451 (by decide +kernel) (by decide +kernel)
theorem gq_452 : Cond.instanceMethod yX9_ring ∈ gw_L := gw_i 452 (by decide +kernel) (by decide +kernel)
theorem gq_453 : Cond.selects RX9 yX9_ring yX9_ring ∈ gw_L := gw_i 453 (by decide +kernel) (by decide +kernel)
theorem gq_454 : Cond.code yX9_ring cX9_ring 8 (some .int) ∈ gw_L := gw_i 454 (by decide +kernel) (by decide +kernel)
theorem gq_455 : Cond.methodLink RL 70 yX9_forgive ∈ gw_L := gw_i 455 (by decide +kernel) (by decide +kernel)
theorem gq_456 : Cond.instanceMethod yX9_forgive ∈ gw_L := gw_i 456 (by decide +kernel) (by decide +kernel)
theorem gq_457 : Cond.selects RX9 yX9_forgive yX9_forgive ∈ gw_L := gw_i 457 (by decide +kernel) (by decide +kernel)
theorem gq_458 : Cond.code yX9_forgive cX9_forgive 5 (some .int) ∈ gw_L := gw_i 458 (by decide +kernel) (by decide +kernel)
theorem gq_459 : Cond.methodLink RL 74 yX9_bankrupt ∈ gw_L := gw_i 459 (by decide +kernel) (by decide +kernel)
theorem gq_460 : Cond.instanceMethod yX9_bankrupt ∈ gw_L := gw_i 460 (by decide +kernel) (by decide +kernel)
theorem gq_461 : Cond.selects RX9 yX9_bankrupt yX9_bankrupt ∈ gw_L := gw_i 461 (by decide +kernel) (by decide +kernel)
theorem gq_462 : Cond.code yX9_bankrupt cX9_bankrupt 3 (some .int) ∈ gw_L := gw_i 462 (by decide +kernel) (by decide +kernel)
theorem gq_463 : Cond.methodLink RX9 197 yX8_shareOut ∈ gw_L := gw_i 463 (by decide +kernel) (by decide +kernel)
theorem gq_464 : Cond.instanceMethod yX8_shareOut ∈ gw_L := gw_i 464 (by decide +kernel) (by decide +kernel)
theorem gq_465 : Cond.selects RX8 yX8_shareOut yX8_shareOut ∈ gw_L := gw_i 465 (by decide +kernel) (by decide +kernel)
theorem gq_466 : Cond.code yX8_shareOut cX8_shareOut 8 (some .int) ∈ gw_L := gw_i 466 (by decide +kernel) (by decide +kernel)
theorem gq_467 : Cond.methodLink RL 78 yX9_ruin ∈ gw_L := gw_i 467 (by decide +kernel) (by decide +kernel)
theorem gq_468 : Cond.instanceMethod yX9_ruin ∈ gw_L := gw_i 468 (by decide +kernel) (by decide +kernel)
theorem gq_469 : Cond.selects RX9 yX9_ruin yX9_ruin ∈ gw_L := gw_i 469 (by decide +kernel) (by decide +kernel)
theorem gq_470 : Cond.code yX9_ruin cX9_ruin 2 (some .int) ∈ gw_L := gw_i 470 (by decide +kernel) (by decide +kernel)
theorem gq_471 : Cond.methodLink RX9 200 yX9_foreseeRuin ∈ gw_L := gw_i 471 (by decide +kernel) (by decide +kernel)
theorem gq_473 : Cond.instanceMethod yX9_foreseeRuin ∈ gw_L := gw_i 473 (by decide +kernel) (by decide +kernel)
theorem gq_474 : Cond.code yX9_foreseeRuin cX9_foreseeRuin 2 none ∈ gw_L := gw_i 474 (by decide +kernel) (by decide +kernel)
theorem gq_475 : Cond.methodLink RX9 241 yX8_copyFrom ∈ gw_L := gw_i 475 (by decide +kernel) (by decide +kernel)
theorem gq_476 : Cond.instanceMethod yX8_copyFrom ∈ gw_L := gw_i 476 (by decide +kernel) (by decide +kernel)
theorem gq_477 : Cond.selects RX8 yX8_copyFrom yX8_copyFrom ∈ gw_L := gw_i 477 (by decide +kernel) (by decide +kernel)
theorem gq_478 : Cond.code yX8_copyFrom cX8_copyFrom 2 none ∈ gw_L := gw_i 478 (by decide +kernel) (by decide +kernel)
theorem gq_479 : Cond.methodLink RX8 34 yX3_copyFrom ∈ gw_L := gw_i 479 (by decide +kernel) (by decide +kernel)
theorem gq_480 : Cond.instanceMethod yX3_copyFrom ∈ gw_L := gw_i 480 (by decide +kernel) (by decide +kernel)
theorem gq_481 : Cond.selects RX3 yX3_copyFrom yX3_copyFrom ∈ gw_L := gw_i 481 (by decide +kernel) (by decide +kernel)
theorem gq_482 : Cond.code yX3_copyFrom cX3_copyFrom 2 none ∈ gw_L := gw_i 482 (by decide +kernel) (by decide +kernel)
theorem gq_483 : Cond.methodLink RX8 38 arraycopyName ∈ gw_L := gw_i 483 (by decide +kernel) (by decide +kernel)
theorem gq_484 : Cond.static arraycopyName ∈ gw_L := gw_i 484 (by decide +kernel) (by decide +kernel)
theorem gq_485 : Cond.native arraycopyName ∈ gw_L := gw_i 485 (by decide +kernel) (by decide +kernel)
theorem gq_486 : Cond.methodLink RX9 292 yX9_noteRuined ∈ gw_L := gw_i 486 (by decide +kernel) (by decide +kernel)
theorem gq_488 : Cond.instanceMethod yX9_noteRuined ∈ gw_L := gw_i 488 (by decide +kernel) (by decide +kernel)
theorem gq_489 : Cond.code yX9_noteRuined cX9_noteRuined 3 none ∈ gw_L := gw_i 489 (by decide +kernel) (by decide +kernel)
theorem gq_490 : Cond.methodLink RL 82 yX9_settling ∈ gw_L := gw_i 490 (by decide +kernel) (by decide +kernel)
theorem gq_491 : Cond.instanceMethod yX9_settling ∈ gw_L := gw_i 491 (by decide +kernel) (by decide +kernel)
theorem gq_492 : Cond.selects RX9 yX9_settling yX9_settling ∈ gw_L := gw_i 492 (by decide +kernel) (by decide +kernel)
theorem gq_493 : Cond.code yX9_settling cX9_settling 1 (some .int) ∈ gw_L := gw_i 493 (by decide +kernel) (by decide +kernel)
theorem gq_494 : Cond.methodLink RX9 203 yX7_fewestPayments ∈ gw_L := gw_i 494 (by decide +kernel) (by decide +kernel)
theorem gq_495 : Cond.instanceMethod yX7_fewestPayments ∈ gw_L := gw_i 495 (by decide +kernel) (by decide +kernel)
theorem gq_496 : Cond.selects RX7 yX7_fewestPayments yX7_fewestPayments ∈ gw_L := gw_i 496 (by decide +kernel) (by decide +kernel)
theorem gq_497 : Cond.code yX7_fewestPayments cX7_fewestPayments 5 (some .int) ∈ gw_L := gw_i 497 (by decide +kernel) (by decide +kernel)
theorem gq_498 : Cond.methodLink RX7 24 yJ6_numberOfTrailingZeros_0f7a4 ∈ gw_L := gw_i 498 (by decide +kernel) (by decide +kernel)
theorem gq_499 : Cond.static yJ6_numberOfTrailingZeros_0f7a4 ∈ gw_L := gw_i 499 (by decide +kernel) (by decide +kernel)
theorem gq_500 : Cond.code yJ6_numberOfTrailingZeros_0f7a4 cJ6_numberOfTrailingZeros_0f7a4 2 (some .int) ∈ gw_L := gw_i 500 (by decide +kernel) (by decide +kernel)
theorem gq_501 : Cond.constant RJ6 264 (65536 : Int32) ∈ gw_L := gw_i 501 (by decide +kernel) (by decide +kernel)
theorem gq_502 : Cond.methodLink RX7 30 yX8_owedBy ∈ gw_L := gw_i 502 (by decide +kernel) (by decide +kernel)
theorem gq_503 : Cond.methodLink RX7 33 yX8_owedTo ∈ gw_L := gw_i 503 (by decide +kernel) (by decide +kernel)
theorem gq_504 : Cond.methodLink RX7 36 yX7_mostWithoutOne ∈ gw_L := gw_i 504 (by decide +kernel) (by decide +kernel)
theorem gq_506 : Cond.instanceMethod yX7_mostWithoutOne ∈ gw_L := gw_i 506 (by decide +kernel) (by decide +kernel)
theorem gq_507 : Cond.code yX7_mostWithoutOne cX7_mostWithoutOne 5 (some .int) ∈ gw_L := gw_i 507 (by decide +kernel) (by decide +kernel)
theorem gq_509 : Cond.static yX9_isAmong ∈ gw_L := gw_i 509 (by decide +kernel) (by decide +kernel)
theorem gq_510 : Cond.code yX9_isAmong cX9_isAmong 2 (some .boolean) ∈ gw_L := gw_i 510 (by decide +kernel) (by decide +kernel)
theorem gq_511 : Cond.methodLink RX7 48 yJ9_max_7cf53 ∈ gw_L := gw_i 511 (by decide +kernel) (by decide +kernel)
theorem gq_513 : Cond.methodLink RL 86 yX9_bestRing ∈ gw_L := gw_i 513 (by decide +kernel) (by decide +kernel)
theorem gq_514 : Cond.instanceMethod yX9_bestRing ∈ gw_L := gw_i 514 (by decide +kernel) (by decide +kernel)
theorem gq_515 : Cond.selects RX9 yX9_bestRing yX9_bestRing ∈ gw_L := gw_i 515 (by decide +kernel) (by decide +kernel)
theorem gq_516 : Cond.code yX9_bestRing cX9_bestRing 2 (some .int) ∈ gw_L := gw_i 516 (by decide +kernel) (by decide +kernel)
theorem gq_517 : Cond.methodLink RX9 207 yX6_search ∈ gw_L := gw_i 517 (by decide +kernel) (by decide +kernel)
theorem gq_518 : Cond.instanceMethod yX6_search ∈ gw_L := gw_i 518 (by decide +kernel) (by decide +kernel)
theorem gq_519 : Cond.selects RX6 yX6_search yX6_search ∈ gw_L := gw_i 519 (by decide +kernel) (by decide +kernel)
theorem gq_520 : Cond.code yX6_search cX6_search 4 none ∈ gw_L := gw_i 520 (by decide +kernel) (by decide +kernel)
theorem gq_521 : Cond.methodLink RX6 30 yX6_extend ∈ gw_L := gw_i 521 (by decide +kernel) (by decide +kernel)
theorem gq_523 : Cond.instanceMethod yX6_extend ∈ gw_L := gw_i 523 (by decide +kernel) (by decide +kernel)
theorem gq_524 : Cond.code yX6_extend cX6_extend 8 none ∈ gw_L := gw_i 524 (by decide +kernel) (by decide +kernel)
theorem gq_526 : Cond.methodLink RX6 41 yJ9_min_7cf53 ∈ gw_L := gw_i 526 (by decide +kernel) (by decide +kernel)
theorem gq_527 : Cond.methodLink RX6 46 yX6_close ∈ gw_L := gw_i 527 (by decide +kernel) (by decide +kernel)
theorem gq_529 : Cond.instanceMethod yX6_close ∈ gw_L := gw_i 529 (by decide +kernel) (by decide +kernel)
theorem gq_530 : Cond.code yX6_close cX6_close 3 none ∈ gw_L := gw_i 530 (by decide +kernel) (by decide +kernel)
theorem gq_531 : Cond.methodLink RX6 54 arraycopyName ∈ gw_L := gw_i 531 (by decide +kernel) (by decide +kernel)
theorem gq_532 : Cond.methodLink RX6 50 yX6_isInRow ∈ gw_L := gw_i 532 (by decide +kernel) (by decide +kernel)
theorem gq_534 : Cond.instanceMethod yX6_isInRow ∈ gw_L := gw_i 534 (by decide +kernel) (by decide +kernel)
theorem gq_535 : Cond.code yX6_isInRow cX6_isInRow 4 (some .boolean) ∈ gw_L := gw_i 535 (by decide +kernel) (by decide +kernel)
theorem gq_536 : Cond.methodLink RX9 211 yX6_tell ∈ gw_L := gw_i 536 (by decide +kernel) (by decide +kernel)
theorem gq_537 : Cond.instanceMethod yX6_tell ∈ gw_L := gw_i 537 (by decide +kernel) (by decide +kernel)
theorem gq_538 : Cond.selects RX6 yX6_tell yX6_tell ∈ gw_L := gw_i 538 (by decide +kernel) (by decide +kernel)
theorem gq_539 : Cond.code yX6_tell cX6_tell 3 (some .int) ∈ gw_L := gw_i 539 (by decide +kernel) (by decide +kernel)
theorem gq_540 : Cond.methodLink RL 90 yX9_offer ∈ gw_L := gw_i 540 (by decide +kernel) (by decide +kernel)
theorem gq_541 : Cond.instanceMethod yX9_offer ∈ gw_L := gw_i 541 (by decide +kernel) (by decide +kernel)
theorem gq_542 : Cond.selects RX9 yX9_offer yX9_offer ∈ gw_L := gw_i 542 (by decide +kernel) (by decide +kernel)
theorem gq_543 : Cond.code yX9_offer cX9_offer 4 (some .int) ∈ gw_L := gw_i 543 (by decide +kernel) (by decide +kernel)
theorem gq_544 : Cond.methodLink RX9 217 yX4_put ∈ gw_L := gw_i 544 (by decide +kernel) (by decide +kernel)
theorem gq_545 : Cond.instanceMethod yX4_put ∈ gw_L := gw_i 545 (by decide +kernel) (by decide +kernel)
theorem gq_546 : Cond.selects RX4 yX4_put yX4_put ∈ gw_L := gw_i 546 (by decide +kernel) (by decide +kernel)
theorem gq_547 : Cond.code yX4_put cX4_put 4 none ∈ gw_L := gw_i 547 (by decide +kernel) (by decide +kernel)
theorem gq_548 : Cond.methodLink RL 94 yX9_forget ∈ gw_L := gw_i 548 (by decide +kernel) (by decide +kernel)
theorem gq_549 : Cond.instanceMethod yX9_forget ∈ gw_L := gw_i 549 (by decide +kernel) (by decide +kernel)
theorem gq_550 : Cond.selects RX9 yX9_forget yX9_forget ∈ gw_L := gw_i 550 (by decide +kernel) (by decide +kernel)
theorem gq_551 : Cond.code yX9_forget cX9_forget 2 (some .int) ∈ gw_L := gw_i 551 (by decide +kernel) (by decide +kernel)
theorem gq_552 : Cond.methodLink RL 98 yX9_accept ∈ gw_L := gw_i 552 (by decide +kernel) (by decide +kernel)
theorem gq_553 : Cond.instanceMethod yX9_accept ∈ gw_L := gw_i 553 (by decide +kernel) (by decide +kernel)
theorem gq_554 : Cond.selects RX9 yX9_accept yX9_accept ∈ gw_L := gw_i 554 (by decide +kernel) (by decide +kernel)
theorem gq_555 : Cond.code yX9_accept cX9_accept 5 (some .int) ∈ gw_L := gw_i 555 (by decide +kernel) (by decide +kernel)
theorem gq_556 : Cond.methodLink RX9 219 yX0_search ∈ gw_L := gw_i 556 (by decide +kernel) (by decide +kernel)
theorem gq_557 : Cond.instanceMethod yX0_search ∈ gw_L := gw_i 557 (by decide +kernel) (by decide +kernel)
theorem gq_558 : Cond.selects RX0 yX0_search yX0_search ∈ gw_L := gw_i 558 (by decide +kernel) (by decide +kernel)
theorem gq_559 : Cond.code yX0_search cX0_search 8 none ∈ gw_L := gw_i 559 (by decide +kernel) (by decide +kernel)
theorem gq_560 : Cond.methodLink RX0 18 yX4_bitsFor ∈ gw_L := gw_i 560 (by decide +kernel) (by decide +kernel)
theorem gq_561 : Cond.instanceMethod yX4_bitsFor ∈ gw_L := gw_i 561 (by decide +kernel) (by decide +kernel)
theorem gq_562 : Cond.selects RX4 yX4_bitsFor yX4_bitsFor ∈ gw_L := gw_i 562 (by decide +kernel) (by decide +kernel)
theorem gq_563 : Cond.code yX4_bitsFor cX4_bitsFor 4 (some .int) ∈ gw_L := gw_i 563 (by decide +kernel) (by decide +kernel)
theorem gq_564 : Cond.methodLink RX0 24 yX4_sizeOf ∈ gw_L := gw_i 564 (by decide +kernel) (by decide +kernel)
theorem gq_565 : Cond.instanceMethod yX4_sizeOf ∈ gw_L := gw_i 565 (by decide +kernel) (by decide +kernel)
theorem gq_566 : Cond.selects RX4 yX4_sizeOf yX4_sizeOf ∈ gw_L := gw_i 566 (by decide +kernel) (by decide +kernel)
theorem gq_567 : Cond.code yX4_sizeOf cX4_sizeOf 4 (some .int) ∈ gw_L := gw_i 567 (by decide +kernel) (by decide +kernel)
theorem gq_569 : Cond.methodLink RX0 27 yX0_owedBehind ∈ gw_L := gw_i 569 (by decide +kernel) (by decide +kernel)
theorem gq_571 : Cond.instanceMethod yX0_owedBehind ∈ gw_L := gw_i 571 (by decide +kernel) (by decide +kernel)
theorem gq_572 : Cond.code yX0_owedBehind cX0_owedBehind 13 (some .int) ∈ gw_L := gw_i 572 (by decide +kernel) (by decide +kernel)
theorem gq_574 : Cond.methodLink RX0 49 yX4_sizeFrom ∈ gw_L := gw_i 574 (by decide +kernel) (by decide +kernel)
theorem gq_575 : Cond.instanceMethod yX4_sizeFrom ∈ gw_L := gw_i 575 (by decide +kernel) (by decide +kernel)
theorem gq_576 : Cond.selects RX4 yX4_sizeFrom yX4_sizeFrom ∈ gw_L := gw_i 576 (by decide +kernel) (by decide +kernel)
theorem gq_577 : Cond.code yX4_sizeFrom cX4_sizeFrom 5 (some .int) ∈ gw_L := gw_i 577 (by decide +kernel) (by decide +kernel)
theorem gq_578 : Cond.methodLink RX0 56 yJ9_min_7cf53 ∈ gw_L := gw_i 578 (by decide +kernel) (by decide +kernel)
theorem gq_579 : Cond.methodLink RX0 72 yJ9_max_7cf53 ∈ gw_L := gw_i 579 (by decide +kernel) (by decide +kernel)
theorem gq_580 : Cond.methodLink RX0 75 yX8_kindOf ∈ gw_L := gw_i 580 (by decide +kernel) (by decide +kernel)
theorem gq_581 : Cond.methodLink RX0 79 yX3_tenths ∈ gw_L := gw_i 581 (by decide +kernel) (by decide +kernel)
theorem gq_582 : Cond.methodLink RX0 83 yX3_owedAfter ∈ gw_L := gw_i 582 (by decide +kernel) (by decide +kernel)
theorem gq_583 : Cond.instanceMethod yX3_owedAfter ∈ gw_L := gw_i 583 (by decide +kernel) (by decide +kernel)
theorem gq_584 : Cond.selects RX3 yX3_owedAfter yX3_owedAfter ∈ gw_L := gw_i 584 (by decide +kernel) (by decide +kernel)
theorem gq_585 : Cond.code yX3_owedAfter cX3_owedAfter 8 (some .int) ∈ gw_L := gw_i 585 (by decide +kernel) (by decide +kernel)
theorem gq_586 : Cond.methodLink RX3 49 yX3_owedNextWeek ∈ gw_L := gw_i 586 (by decide +kernel) (by decide +kernel)
theorem gq_587 : Cond.methodLink RX0 31 yX0_weigh ∈ gw_L := gw_i 587 (by decide +kernel) (by decide +kernel)
theorem gq_589 : Cond.instanceMethod yX0_weigh ∈ gw_L := gw_i 589 (by decide +kernel) (by decide +kernel)
theorem gq_590 : Cond.code yX0_weigh cX0_weigh 3 none ∈ gw_L := gw_i 590 (by decide +kernel) (by decide +kernel)
theorem gq_591 : Cond.methodLink RX0 35 yJ6_bitCount_0f7a4 ∈ gw_L := gw_i 591 (by decide +kernel) (by decide +kernel)
theorem gq_592 : Cond.static yJ6_bitCount_0f7a4 ∈ gw_L := gw_i 592 (by decide +kernel) (by decide +kernel)
theorem gq_593 : Cond.code yJ6_bitCount_0f7a4 cJ6_bitCount_0f7a4 1 (some .int) ∈ gw_L := gw_i 593 (by decide +kernel) (by decide +kernel)
theorem gq_594 : Cond.constant RJ6 265 (1431655765 : Int32) ∈ gw_L := gw_i 594 (by decide +kernel) (by decide +kernel)
theorem gq_595 : Cond.constant RJ6 266 (858993459 : Int32) ∈ gw_L := gw_i 595 (by decide +kernel) (by decide +kernel)
theorem gq_596 : Cond.constant RJ6 267 (252645135 : Int32) ∈ gw_L := gw_i 596 (by decide +kernel) (by decide +kernel)
theorem gq_597 : Cond.methodLink RL 103 yX9_grown ∈ gw_L := gw_i 597 (by decide +kernel) (by decide +kernel)
theorem gq_598 : Cond.instanceMethod yX9_grown ∈ gw_L := gw_i 598 (by decide +kernel) (by decide +kernel)
theorem gq_599 : Cond.selects RX9 yX9_grown yX9_grown ∈ gw_L := gw_i 599 (by decide +kernel) (by decide +kernel)
theorem gq_600 : Cond.code yX9_grown cX9_grown 10 (some .int) ∈ gw_L := gw_i 600 (by decide +kernel) (by decide +kernel)
theorem gq_601 : Cond.methodLink RX9 228 yX3_tenths ∈ gw_L := gw_i 601 (by decide +kernel) (by decide +kernel)
theorem gq_602 : Cond.methodLink RX9 234 yX3_owedAfter ∈ gw_L := gw_i 602 (by decide +kernel) (by decide +kernel)
theorem gq_603 : Cond.methodLink RL 108 yX9_years ∈ gw_L := gw_i 603 (by decide +kernel) (by decide +kernel)
theorem gq_604 : Cond.instanceMethod yX9_years ∈ gw_L := gw_i 604 (by decide +kernel) (by decide +kernel)
theorem gq_605 : Cond.selects RX9 yX9_years yX9_years ∈ gw_L := gw_i 605 (by decide +kernel) (by decide +kernel)
theorem gq_606 : Cond.code yX9_years cX9_years 5 (some .int) ∈ gw_L := gw_i 606 (by decide +kernel) (by decide +kernel)
theorem gq_607 : Cond.methodLink RX9 244 yX8_liveWeek ∈ gw_L := gw_i 607 (by decide +kernel) (by decide +kernel)
theorem gq_608 : Cond.instanceMethod yX8_liveWeek ∈ gw_L := gw_i 608 (by decide +kernel) (by decide +kernel)
theorem gq_609 : Cond.selects RX8 yX8_liveWeek yX8_liveWeek ∈ gw_L := gw_i 609 (by decide +kernel) (by decide +kernel)
theorem gq_610 : Cond.code yX8_liveWeek cX8_liveWeek 5 none ∈ gw_L := gw_i 610 (by decide +kernel) (by decide +kernel)
theorem gq_611 : Cond.methodLink RX8 113 yX1_next ∈ gw_L := gw_i 611 (by decide +kernel) (by decide +kernel)
theorem gq_612 : Cond.instanceMethod yX1_next ∈ gw_L := gw_i 612 (by decide +kernel) (by decide +kernel)
theorem gq_613 : Cond.selects RX1 yX1_next yX1_next ∈ gw_L := gw_i 613 (by decide +kernel) (by decide +kernel)
theorem gq_614 : Cond.code yX1_next cX1_next 2 (some .int) ∈ gw_L := gw_i 614 (by decide +kernel) (by decide +kernel)
theorem gq_615 : Cond.constantLong RX1 7 (1103515245 : Int64) ∈ gw_L := gw_i 615 (by decide +kernel) (by decide +kernel)
theorem gq_616 : Cond.constantLong RX1 15 (12345 : Int64) ∈ gw_L := gw_i 616 (by decide +kernel) (by decide +kernel)
theorem gq_617 : Cond.constantLong RX1 17 (2147483647 : Int64) ∈ gw_L := gw_i 617 (by decide +kernel) (by decide +kernel)
theorem gq_618 : Cond.constant RX1 19 (65536 : Int32) ∈ gw_L := gw_i 618 (by decide +kernel) (by decide +kernel)
theorem gq_619 : Cond.methodLink RX8 118 yX8_isOffended ∈ gw_L := gw_i 619 (by decide +kernel) (by decide +kernel)
theorem gq_620 : Cond.methodLink RX8 125 yX8_thank ∈ gw_L := gw_i 620 (by decide +kernel) (by decide +kernel)
theorem gq_621 : Cond.methodLink RX8 129 yX8_grunt ∈ gw_L := gw_i 621 (by decide +kernel) (by decide +kernel)
theorem gq_622 : Cond.methodLink RX8 133 yX8_passWeek ∈ gw_L := gw_i 622 (by decide +kernel) (by decide +kernel)
theorem gq_623 : Cond.methodLink RX9 248 yX8_allOwed ∈ gw_L := gw_i 623 (by decide +kernel) (by decide +kernel)
theorem gq_624 : Cond.instanceMethod yX8_allOwed ∈ gw_L := gw_i 624 (by decide +kernel) (by decide +kernel)
theorem gq_625 : Cond.selects RX8 yX8_allOwed yX8_allOwed ∈ gw_L := gw_i 625 (by decide +kernel) (by decide +kernel)
theorem gq_626 : Cond.code yX8_allOwed cX8_allOwed 3 (some .int) ∈ gw_L := gw_i 626 (by decide +kernel) (by decide +kernel)
theorem gq_627 : Cond.methodLink RX9 251 yX8_ruinedOnes ∈ gw_L := gw_i 627 (by decide +kernel) (by decide +kernel)
theorem gq_628 : Cond.instanceMethod yX8_ruinedOnes ∈ gw_L := gw_i 628 (by decide +kernel) (by decide +kernel)
theorem gq_629 : Cond.selects RX8 yX8_ruinedOnes yX8_ruinedOnes ∈ gw_L := gw_i 629 (by decide +kernel) (by decide +kernel)
theorem gq_630 : Cond.code yX8_ruinedOnes cX8_ruinedOnes 3 (some .int) ∈ gw_L := gw_i 630 (by decide +kernel) (by decide +kernel)
theorem gq_631 : Cond.methodLink RX8 73 yX8_isRuined ∈ gw_L := gw_i 631 (by decide +kernel) (by decide +kernel)
theorem gq_633 : Cond.methodLink RL 112 yX9_image ∈ gw_L := gw_i 633 (by decide +kernel) (by decide +kernel)
theorem gq_634 : Cond.instanceMethod yX9_image ∈ gw_L := gw_i 634 (by decide +kernel) (by decide +kernel)
theorem gq_635 : Cond.selects RX9 yX9_image yX9_image ∈ gw_L := gw_i 635 (by decide +kernel) (by decide +kernel)
theorem gq_636 : Cond.code yX9_image cX9_image 1 (some .int) ∈ gw_L := gw_i 636 (by decide +kernel) (by decide +kernel)
theorem gq_637 : Cond.methodLink RX9 254 yX4_copyFrom ∈ gw_L := gw_i 637 (by decide +kernel) (by decide +kernel)
theorem gq_638 : Cond.instanceMethod yX4_copyFrom ∈ gw_L := gw_i 638 (by decide +kernel) (by decide +kernel)
theorem gq_639 : Cond.selects RX4 yX4_copyFrom yX4_copyFrom ∈ gw_L := gw_i 639 (by decide +kernel) (by decide +kernel)
theorem gq_640 : Cond.code yX4_copyFrom cX4_copyFrom 2 none ∈ gw_L := gw_i 640 (by decide +kernel) (by decide +kernel)
theorem gq_641 : Cond.methodLink RX4 21 arraycopyName ∈ gw_L := gw_i 641 (by decide +kernel) (by decide +kernel)
theorem gq_642 : Cond.methodLink RL 116 yX9_restore ∈ gw_L := gw_i 642 (by decide +kernel) (by decide +kernel)
theorem gq_643 : Cond.instanceMethod yX9_restore ∈ gw_L := gw_i 643 (by decide +kernel) (by decide +kernel)
theorem gq_644 : Cond.selects RX9 yX9_restore yX9_restore ∈ gw_L := gw_i 644 (by decide +kernel) (by decide +kernel)
theorem gq_645 : Cond.code yX9_restore cX9_restore 1 (some .int) ∈ gw_L := gw_i 645 (by decide +kernel) (by decide +kernel)
theorem gq_646 : Cond.methodLink RL 120 yX9_count ∈ gw_L := gw_i 646 (by decide +kernel) (by decide +kernel)
theorem gq_647 : Cond.instanceMethod yX9_count ∈ gw_L := gw_i 647 (by decide +kernel) (by decide +kernel)
theorem gq_648 : Cond.selects RX9 yX9_count yX9_count ∈ gw_L := gw_i 648 (by decide +kernel) (by decide +kernel)
theorem gq_649 : Cond.code yX9_count cX9_count 2 (some .int) ∈ gw_L := gw_i 649 (by decide +kernel) (by decide +kernel)
theorem gq_650 : Cond.methodLink RL 124 yX9_digest ∈ gw_L := gw_i 650 (by decide +kernel) (by decide +kernel)
theorem gq_651 : Cond.instanceMethod yX9_digest ∈ gw_L := gw_i 651 (by decide +kernel) (by decide +kernel)
theorem gq_652 : Cond.selects RX9 yX9_digest yX9_digest ∈ gw_L := gw_i 652 (by decide +kernel) (by decide +kernel)
theorem gq_653 : Cond.code yX9_digest cX9_digest 4 (some .long) ∈ gw_L := gw_i 653 (by decide +kernel) (by decide +kernel)
theorem gq_654 : Cond.constantLong RX9 272 (809 : Int64) ∈ gw_L := gw_i 654 (by decide +kernel) (by decide +kernel)
theorem gq_655 : Cond.methodLink RX9 274 yX9_digestPerson ∈ gw_L := gw_i 655 (by decide +kernel) (by decide +kernel)
theorem gq_657 : Cond.instanceMethod yX9_digestPerson ∈ gw_L := gw_i 657 (by decide +kernel) (by decide +kernel)
theorem gq_658 : Cond.code yX9_digestPerson cX9_digestPerson 8 (some .long) ∈ gw_L := gw_i 658 (by decide +kernel) (by decide +kernel)
theorem gq_659 : Cond.constantLong RX9 278 (31 : Int64) ∈ gw_L := gw_i 659 (by decide +kernel) (by decide +kernel)
theorem gq_660 : Cond.methodLink RX9 285 yX9_about ∈ gw_L := gw_i 660 (by decide +kernel) (by decide +kernel)
theorem gq_661 : Cond.methodLink RX9 288 yX9_between ∈ gw_L := gw_i 661 (by decide +kernel) (by decide +kernel)
theorem gq_662 : Cond.methodLink RX9 283 yX9_count ∈ gw_L := gw_i 662 (by decide +kernel) (by decide +kernel)
theorem gq_663 : Cond.classLink RL 10 RX10 ∈ gw_L := gw_i 663 (by decide +kernel) (by decide +kernel)
theorem gq_664 : Cond.instantiable RX10 36 ∈ gw_L := gw_i 664 (by decide +kernel) (by decide +kernel)
theorem gq_665 : Cond.methodLink RL 12 yX10_init ∈ gw_L := gw_i 665 (by decide +kernel) (by decide +kernel)
theorem gq_666 : Cond.instanceMethod yX10_init ∈ gw_L := gw_i 666 (by decide +kernel) (by decide +kernel)
theorem gq_667 : Cond.code yX10_init cX10_init 1 none ∈ gw_L := gw_i 667 (by decide +kernel) (by decide +kernel)
theorem gq_668 : Cond.methodLink RX10 1 objectInit ∈ gw_L := gw_i 668 (by decide +kernel) (by decide +kernel)
theorem gq_669 : Cond.fieldLink RX10 90 "ThanksOwedModel" "reads" "I" ∈ gw_L := gw_i 669 (by decide +kernel) (by decide +kernel)
theorem gq_670 : Cond.fieldLink RX10 7 "ThanksOwedModel" "rate" "I" ∈ gw_L := gw_i 670 (by decide +kernel) (by decide +kernel)
theorem gq_671 : Cond.fieldLink RX10 13 "ThanksOwedModel" "up" "I" ∈ gw_L := gw_i 671 (by decide +kernel) (by decide +kernel)
theorem gq_672 : Cond.fieldLink RX10 84 "ThanksOwedModel" "free" "I" ∈ gw_L := gw_i 672 (by decide +kernel) (by decide +kernel)
theorem gq_673 : Cond.fieldLink RX10 87 "ThanksOwedModel" "sulk" "I" ∈ gw_L := gw_i 673 (by decide +kernel) (by decide +kernel)
theorem gq_674 : Cond.fieldLink RX10 93 "ThanksOwedModel" "people" "I" ∈ gw_L := gw_i 674 (by decide +kernel) (by decide +kernel)
theorem gq_675 : Cond.fieldLink RX10 16 "ThanksOwedModel" "kindOf" "[I" ∈ gw_L := gw_i 675 (by decide +kernel) (by decide +kernel)
theorem gq_676 : Cond.fieldLink RX10 20 "ThanksOwedModel" "wealthOf" "[I" ∈ gw_L := gw_i 676 (by decide +kernel) (by decide +kernel)
theorem gq_677 : Cond.fieldLink RX10 23 "ThanksOwedModel" "owesOf" "[I" ∈ gw_L := gw_i 677 (by decide +kernel) (by decide +kernel)
theorem gq_678 : Cond.fieldLink RX10 26 "ThanksOwedModel" "freeOf" "[I" ∈ gw_L := gw_i 678 (by decide +kernel) (by decide +kernel)
theorem gq_679 : Cond.fieldLink RX10 29 "ThanksOwedModel" "offendedOf" "[I" ∈ gw_L := gw_i 679 (by decide +kernel) (by decide +kernel)
theorem gq_680 : Cond.fieldLink RX10 144 "ThanksOwedModel" "weeks" "I" ∈ gw_L := gw_i 680 (by decide +kernel) (by decide +kernel)
theorem gq_681 : Cond.fieldLink RX10 174 "ThanksOwedModel" "offers" "I" ∈ gw_L := gw_i 681 (by decide +kernel) (by decide +kernel)
theorem gq_682 : Cond.fieldLink RX10 32 "ThanksOwedModel" "offerFrom" "[I" ∈ gw_L := gw_i 682 (by decide +kernel) (by decide +kernel)
theorem gq_683 : Cond.fieldLink RX10 35 "ThanksOwedModel" "offerTo" "[I" ∈ gw_L := gw_i 683 (by decide +kernel) (by decide +kernel)
theorem gq_684 : Cond.fieldLink RX10 38 "ThanksOwedModel" "offerSize" "[I" ∈ gw_L := gw_i 684 (by decide +kernel) (by decide +kernel)
theorem gq_685 : Cond.fieldLink RX10 73 "ThanksOwedModel" "pageLength" "I" ∈ gw_L := gw_i 685 (by decide +kernel) (by decide +kernel)
theorem gq_686 : Cond.fieldLink RX10 41 "ThanksOwedModel" "page" "[B" ∈ gw_L := gw_i 686 (by decide +kernel) (by decide +kernel)
theorem gq_687 : Cond.fieldLink RX10 45 "ThanksOwedModel" "sumOf" "[I" ∈ gw_L := gw_i 687 (by decide +kernel) (by decide +kernel)
theorem gq_688 : Cond.fieldLink RX10 48 "ThanksOwedModel" "groupsOf" "[I" ∈ gw_L := gw_i 688 (by decide +kernel) (by decide +kernel)
theorem gq_689 : Cond.fieldLink RX10 51 "ThanksOwedModel" "row" "[I" ∈ gw_L := gw_i 689 (by decide +kernel) (by decide +kernel)
theorem gq_690 : Cond.fieldLink RX10 190 "ThanksOwedModel" "seedNow" "J" ∈ gw_L := gw_i 690 (by decide +kernel) (by decide +kernel)
theorem gq_691 : Cond.fieldLink RX10 209 "ThanksOwedModel" "isKept" "Z" ∈ gw_L := gw_i 691 (by decide +kernel) (by decide +kernel)
theorem gq_692 : Cond.fieldLink RX10 213 "ThanksOwedModel" "keptRate" "I" ∈ gw_L := gw_i 692 (by decide +kernel) (by decide +kernel)
theorem gq_693 : Cond.fieldLink RX10 216 "ThanksOwedModel" "keptUp" "I" ∈ gw_L := gw_i 693 (by decide +kernel) (by decide +kernel)
theorem gq_694 : Cond.fieldLink RX10 219 "ThanksOwedModel" "keptFree" "I" ∈ gw_L := gw_i 694 (by decide +kernel) (by decide +kernel)
theorem gq_695 : Cond.fieldLink RX10 222 "ThanksOwedModel" "keptSulk" "I" ∈ gw_L := gw_i 695 (by decide +kernel) (by decide +kernel)
theorem gq_696 : Cond.fieldLink RX10 225 "ThanksOwedModel" "keptPeople" "I" ∈ gw_L := gw_i 696 (by decide +kernel) (by decide +kernel)
theorem gq_697 : Cond.fieldLink RX10 228 "ThanksOwedModel" "keptWeeks" "I" ∈ gw_L := gw_i 697 (by decide +kernel) (by decide +kernel)
theorem gq_698 : Cond.fieldLink RX10 231 "ThanksOwedModel" "keptOffers" "I" ∈ gw_L := gw_i 698 (by decide +kernel) (by decide +kernel)
theorem gq_699 : Cond.fieldLink RX10 54 "ThanksOwedModel" "keptWealth" "[I" ∈ gw_L := gw_i 699 (by decide +kernel) (by decide +kernel)
theorem gq_700 : Cond.fieldLink RX10 57 "ThanksOwedModel" "keptOwes" "[I" ∈ gw_L := gw_i 700 (by decide +kernel) (by decide +kernel)
theorem gq_701 : Cond.fieldLink RX10 60 "ThanksOwedModel" "keptFreeOf" "[I" ∈ gw_L := gw_i 701 (by decide +kernel) (by decide +kernel)
theorem gq_702 : Cond.fieldLink RX10 63 "ThanksOwedModel" "keptOffended" "[I" ∈ gw_L := gw_i 702 (by decide +kernel) (by decide +kernel)
theorem gq_703 : Cond.fieldLink RX10 66 "ThanksOwedModel" "keptOffer" "[I" ∈ gw_L := gw_i 703 (by decide +kernel) (by decide +kernel)
theorem gq_704 : Cond.fieldLink RX10 245 "ThanksOwedModel" "h" "J" ∈ gw_L := gw_i 704 (by decide +kernel) (by decide +kernel)
theorem gq_705 : Cond.lays RX10 "ThanksOwedModel" "reads" "I" ∈ gw_L := gw_i 705 (by decide +kernel) (by decide +kernel)
theorem gq_707 : Cond.lays RX10 "ThanksOwedModel" "rate" "I" ∈ gw_L := gw_i 707 (by decide +kernel) (by decide +kernel)
theorem gq_709 : Cond.lays RX10 "ThanksOwedModel" "up" "I" ∈ gw_L := gw_i 709 (by decide +kernel) (by decide +kernel)
theorem gq_711 : Cond.lays RX10 "ThanksOwedModel" "free" "I" ∈ gw_L := gw_i 711 (by decide +kernel) (by decide +kernel)
theorem gq_713 : Cond.lays RX10 "ThanksOwedModel" "sulk" "I" ∈ gw_L := gw_i 713 (by decide +kernel) (by decide +kernel)
theorem gq_715 : Cond.lays RX10 "ThanksOwedModel" "people" "I" ∈ gw_L := gw_i 715 (by decide +kernel) (by decide +kernel)
theorem gq_717 : Cond.laysFinal RX10 "ThanksOwedModel" "kindOf" "[I" ∈ gw_L := gw_i 717 (by decide +kernel) (by decide +kernel)
theorem gq_719 : Cond.laysFinal RX10 "ThanksOwedModel" "wealthOf" "[I" ∈ gw_L := gw_i 719 (by decide +kernel) (by decide +kernel)
theorem gq_721 : Cond.laysFinal RX10 "ThanksOwedModel" "owesOf" "[I" ∈ gw_L := gw_i 721 (by decide +kernel) (by decide +kernel)
theorem gq_723 : Cond.laysFinal RX10 "ThanksOwedModel" "freeOf" "[I" ∈ gw_L := gw_i 723 (by decide +kernel) (by decide +kernel)
theorem gq_725 : Cond.laysFinal RX10 "ThanksOwedModel" "offendedOf" "[I" ∈ gw_L := gw_i 725 (by decide +kernel) (by decide +kernel)
theorem gq_727 : Cond.lays RX10 "ThanksOwedModel" "weeks" "I" ∈ gw_L := gw_i 727 (by decide +kernel) (by decide +kernel)
theorem gq_729 : Cond.lays RX10 "ThanksOwedModel" "offers" "I" ∈ gw_L := gw_i 729 (by decide +kernel) (by decide +kernel)
theorem gq_731 : Cond.laysFinal RX10 "ThanksOwedModel" "offerFrom" "[I" ∈ gw_L := gw_i 731 (by decide +kernel) (by decide +kernel)
theorem gq_733 : Cond.laysFinal RX10 "ThanksOwedModel" "offerTo" "[I" ∈ gw_L := gw_i 733 (by decide +kernel) (by decide +kernel)
theorem gq_735 : Cond.laysFinal RX10 "ThanksOwedModel" "offerSize" "[I" ∈ gw_L := gw_i 735 (by decide +kernel) (by decide +kernel)
theorem gq_737 : Cond.lays RX10 "ThanksOwedModel" "pageLength" "I" ∈ gw_L := gw_i 737 (by decide +kernel) (by decide +kernel)
theorem gq_739 : Cond.laysFinal RX10 "ThanksOwedModel" "page" "[B" ∈ gw_L := gw_i 739 (by decide +kernel) (by decide +kernel)
theorem gq_741 : Cond.laysFinal RX10 "ThanksOwedModel" "sumOf" "[I" ∈ gw_L := gw_i 741 (by decide +kernel) (by decide +kernel)
theorem gq_743 : Cond.laysFinal RX10 "ThanksOwedModel" "groupsOf" "[I" ∈ gw_L := gw_i 743 (by decide +kernel) (by decide +kernel)
theorem gq_745 : Cond.laysFinal RX10 "ThanksOwedModel" "row" "[I" ∈ gw_L := gw_i 745 (by decide +kernel) (by decide +kernel)
theorem gq_747 : Cond.lays RX10 "ThanksOwedModel" "seedNow" "J" ∈ gw_L := gw_i 747 (by decide +kernel) (by decide +kernel)
theorem gq_749 : Cond.lays RX10 "ThanksOwedModel" "isKept" "Z" ∈ gw_L := gw_i 749 (by decide +kernel) (by decide +kernel)
theorem gq_751 : Cond.lays RX10 "ThanksOwedModel" "keptRate" "I" ∈ gw_L := gw_i 751 (by decide +kernel) (by decide +kernel)
theorem gq_753 : Cond.lays RX10 "ThanksOwedModel" "keptUp" "I" ∈ gw_L := gw_i 753 (by decide +kernel) (by decide +kernel)
theorem gq_755 : Cond.lays RX10 "ThanksOwedModel" "keptFree" "I" ∈ gw_L := gw_i 755 (by decide +kernel) (by decide +kernel)
theorem gq_757 : Cond.lays RX10 "ThanksOwedModel" "keptSulk" "I" ∈ gw_L := gw_i 757 (by decide +kernel) (by decide +kernel)
theorem gq_759 : Cond.lays RX10 "ThanksOwedModel" "keptPeople" "I" ∈ gw_L := gw_i 759 (by decide +kernel) (by decide +kernel)
theorem gq_761 : Cond.lays RX10 "ThanksOwedModel" "keptWeeks" "I" ∈ gw_L := gw_i 761 (by decide +kernel) (by decide +kernel)
theorem gq_763 : Cond.lays RX10 "ThanksOwedModel" "keptOffers" "I" ∈ gw_L := gw_i 763 (by decide +kernel) (by decide +kernel)
theorem gq_765 : Cond.laysFinal RX10 "ThanksOwedModel" "keptWealth" "[I" ∈ gw_L := gw_i 765 (by decide +kernel) (by decide +kernel)
theorem gq_767 : Cond.laysFinal RX10 "ThanksOwedModel" "keptOwes" "[I" ∈ gw_L := gw_i 767 (by decide +kernel) (by decide +kernel)
theorem gq_769 : Cond.laysFinal RX10 "ThanksOwedModel" "keptFreeOf" "[I" ∈ gw_L := gw_i 769 (by decide +kernel) (by decide +kernel)
theorem gq_771 : Cond.laysFinal RX10 "ThanksOwedModel" "keptOffended" "[I" ∈ gw_L := gw_i 771 (by decide +kernel) (by decide +kernel)
theorem gq_773 : Cond.laysFinal RX10 "ThanksOwedModel" "keptOffer" "[I" ∈ gw_L := gw_i 773 (by decide +kernel) (by decide +kernel)
theorem gq_775 : Cond.lays RX10 "ThanksOwedModel" "h" "J" ∈ gw_L := gw_i 775 (by decide +kernel) (by decide +kernel)
theorem gq_778 : Cond.arrayClass Jvm.ClassFile.FieldType.byte ∈ gw_L := gw_i 778 (by decide +kernel) (by decide +kernel)
theorem gq_779 : Cond.methodLink RL 17 yX10_letter ∈ gw_L := gw_i 779 (by decide +kernel) (by decide +kernel)
theorem gq_780 : Cond.instanceMethod yX10_letter ∈ gw_L := gw_i 780 (by decide +kernel) (by decide +kernel)
theorem gq_781 : Cond.selects RX10 yX10_letter yX10_letter ∈ gw_L := gw_i 781 (by decide +kernel) (by decide +kernel)
theorem gq_782 : Cond.code yX10_letter cX10_letter 2 (some .int) ∈ gw_L := gw_i 782 (by decide +kernel) (by decide +kernel)
theorem gq_783 : Cond.methodLink RX10 69 yX10_within ∈ gw_L := gw_i 783 (by decide +kernel) (by decide +kernel)
theorem gq_784 : Cond.static yX10_within ∈ gw_L := gw_i 784 (by decide +kernel) (by decide +kernel)
theorem gq_785 : Cond.code yX10_within cX10_within 3 (some .boolean) ∈ gw_L := gw_i 785 (by decide +kernel) (by decide +kernel)
theorem gq_786 : Cond.methodLink RL 22 yX10_blank ∈ gw_L := gw_i 786 (by decide +kernel) (by decide +kernel)
theorem gq_787 : Cond.instanceMethod yX10_blank ∈ gw_L := gw_i 787 (by decide +kernel) (by decide +kernel)
theorem gq_788 : Cond.selects RX10 yX10_blank yX10_blank ∈ gw_L := gw_i 788 (by decide +kernel) (by decide +kernel)
theorem gq_789 : Cond.code yX10_blank cX10_blank 2 (some .int) ∈ gw_L := gw_i 789 (by decide +kernel) (by decide +kernel)
theorem gq_790 : Cond.methodLink RL 26 yX10_fault ∈ gw_L := gw_i 790 (by decide +kernel) (by decide +kernel)
theorem gq_791 : Cond.instanceMethod yX10_fault ∈ gw_L := gw_i 791 (by decide +kernel) (by decide +kernel)
theorem gq_792 : Cond.selects RX10 yX10_fault yX10_fault ∈ gw_L := gw_i 792 (by decide +kernel) (by decide +kernel)
theorem gq_793 : Cond.code yX10_fault cX10_fault 1 (some .int) ∈ gw_L := gw_i 793 (by decide +kernel) (by decide +kernel)
theorem gq_794 : Cond.methodLink RX10 80 yX10_faultNow ∈ gw_L := gw_i 794 (by decide +kernel) (by decide +kernel)
theorem gq_796 : Cond.instanceMethod yX10_faultNow ∈ gw_L := gw_i 796 (by decide +kernel) (by decide +kernel)
theorem gq_797 : Cond.code yX10_faultNow cX10_faultNow 2 (some .int) ∈ gw_L := gw_i 797 (by decide +kernel) (by decide +kernel)
theorem gq_798 : Cond.methodLink RX10 76 yX10_isGood ∈ gw_L := gw_i 798 (by decide +kernel) (by decide +kernel)
theorem gq_800 : Cond.instanceMethod yX10_isGood ∈ gw_L := gw_i 800 (by decide +kernel) (by decide +kernel)
theorem gq_801 : Cond.code yX10_isGood cX10_isGood 2 (some .boolean) ∈ gw_L := gw_i 801 (by decide +kernel) (by decide +kernel)
theorem gq_802 : Cond.methodLink RL 30 yX10_law ∈ gw_L := gw_i 802 (by decide +kernel) (by decide +kernel)
theorem gq_803 : Cond.instanceMethod yX10_law ∈ gw_L := gw_i 803 (by decide +kernel) (by decide +kernel)
theorem gq_804 : Cond.selects RX10 yX10_law yX10_law ∈ gw_L := gw_i 804 (by decide +kernel) (by decide +kernel)
theorem gq_805 : Cond.code yX10_law cX10_law 1 (some .int) ∈ gw_L := gw_i 805 (by decide +kernel) (by decide +kernel)
theorem gq_806 : Cond.methodLink RL 35 yX10_person ∈ gw_L := gw_i 806 (by decide +kernel) (by decide +kernel)
theorem gq_807 : Cond.instanceMethod yX10_person ∈ gw_L := gw_i 807 (by decide +kernel) (by decide +kernel)
theorem gq_808 : Cond.selects RX10 yX10_person yX10_person ∈ gw_L := gw_i 808 (by decide +kernel) (by decide +kernel)
theorem gq_809 : Cond.code yX10_person cX10_person 4 (some .int) ∈ gw_L := gw_i 809 (by decide +kernel) (by decide +kernel)
theorem gq_810 : Cond.methodLink RX10 99 yX10_clearPair ∈ gw_L := gw_i 810 (by decide +kernel) (by decide +kernel)
theorem gq_812 : Cond.instanceMethod yX10_clearPair ∈ gw_L := gw_i 812 (by decide +kernel) (by decide +kernel)
theorem gq_813 : Cond.code yX10_clearPair cX10_clearPair 2 none ∈ gw_L := gw_i 813 (by decide +kernel) (by decide +kernel)
theorem gq_814 : Cond.methodLink RL 39 yX10_about ∈ gw_L := gw_i 814 (by decide +kernel) (by decide +kernel)
theorem gq_815 : Cond.instanceMethod yX10_about ∈ gw_L := gw_i 815 (by decide +kernel) (by decide +kernel)
theorem gq_816 : Cond.selects RX10 yX10_about yX10_about ∈ gw_L := gw_i 816 (by decide +kernel) (by decide +kernel)
theorem gq_817 : Cond.code yX10_about cX10_about 3 (some .int) ∈ gw_L := gw_i 817 (by decide +kernel) (by decide +kernel)
theorem gq_818 : Cond.methodLink RX10 96 yX10_isPerson ∈ gw_L := gw_i 818 (by decide +kernel) (by decide +kernel)
theorem gq_820 : Cond.instanceMethod yX10_isPerson ∈ gw_L := gw_i 820 (by decide +kernel) (by decide +kernel)
theorem gq_821 : Cond.code yX10_isPerson cX10_isPerson 2 (some .boolean) ∈ gw_L := gw_i 821 (by decide +kernel) (by decide +kernel)
theorem gq_822 : Cond.methodLink RX10 113 yX10_personNow ∈ gw_L := gw_i 822 (by decide +kernel) (by decide +kernel)
theorem gq_824 : Cond.instanceMethod yX10_personNow ∈ gw_L := gw_i 824 (by decide +kernel) (by decide +kernel)
theorem gq_825 : Cond.code yX10_personNow cX10_personNow 3 (some .int) ∈ gw_L := gw_i 825 (by decide +kernel) (by decide +kernel)
theorem gq_826 : Cond.methodLink RX10 107 yX10_owesAll ∈ gw_L := gw_i 826 (by decide +kernel) (by decide +kernel)
theorem gq_828 : Cond.instanceMethod yX10_owesAll ∈ gw_L := gw_i 828 (by decide +kernel) (by decide +kernel)
theorem gq_829 : Cond.code yX10_owesAll cX10_owesAll 5 (some .int) ∈ gw_L := gw_i 829 (by decide +kernel) (by decide +kernel)
theorem gq_830 : Cond.methodLink RX10 103 yX10_owedBy ∈ gw_L := gw_i 830 (by decide +kernel) (by decide +kernel)
theorem gq_832 : Cond.instanceMethod yX10_owedBy ∈ gw_L := gw_i 832 (by decide +kernel) (by decide +kernel)
theorem gq_833 : Cond.code yX10_owedBy cX10_owedBy 5 (some .int) ∈ gw_L := gw_i 833 (by decide +kernel) (by decide +kernel)
theorem gq_834 : Cond.methodLink RX10 110 yX10_net ∈ gw_L := gw_i 834 (by decide +kernel) (by decide +kernel)
theorem gq_836 : Cond.instanceMethod yX10_net ∈ gw_L := gw_i 836 (by decide +kernel) (by decide +kernel)
theorem gq_837 : Cond.code yX10_net cX10_net 3 (some .int) ∈ gw_L := gw_i 837 (by decide +kernel) (by decide +kernel)
theorem gq_838 : Cond.methodLink RL 43 yX10_as ∈ gw_L := gw_i 838 (by decide +kernel) (by decide +kernel)
theorem gq_839 : Cond.instanceMethod yX10_as ∈ gw_L := gw_i 839 (by decide +kernel) (by decide +kernel)
theorem gq_840 : Cond.selects RX10 yX10_as yX10_as ∈ gw_L := gw_i 840 (by decide +kernel) (by decide +kernel)
theorem gq_841 : Cond.code yX10_as cX10_as 4 (some .int) ∈ gw_L := gw_i 841 (by decide +kernel) (by decide +kernel)
theorem gq_842 : Cond.methodLink RL 48 yX10_between ∈ gw_L := gw_i 842 (by decide +kernel) (by decide +kernel)
theorem gq_843 : Cond.instanceMethod yX10_between ∈ gw_L := gw_i 843 (by decide +kernel) (by decide +kernel)
theorem gq_844 : Cond.selects RX10 yX10_between yX10_between ∈ gw_L := gw_i 844 (by decide +kernel) (by decide +kernel)
theorem gq_845 : Cond.code yX10_between cX10_between 4 (some .int) ∈ gw_L := gw_i 845 (by decide +kernel) (by decide +kernel)
theorem gq_846 : Cond.methodLink RX10 116 yX10_areTwo ∈ gw_L := gw_i 846 (by decide +kernel) (by decide +kernel)
theorem gq_848 : Cond.instanceMethod yX10_areTwo ∈ gw_L := gw_i 848 (by decide +kernel) (by decide +kernel)
theorem gq_849 : Cond.code yX10_areTwo cX10_areTwo 3 (some .boolean) ∈ gw_L := gw_i 849 (by decide +kernel) (by decide +kernel)
theorem gq_850 : Cond.methodLink RX10 120 yX10_betweenNow ∈ gw_L := gw_i 850 (by decide +kernel) (by decide +kernel)
theorem gq_852 : Cond.instanceMethod yX10_betweenNow ∈ gw_L := gw_i 852 (by decide +kernel) (by decide +kernel)
theorem gq_853 : Cond.code yX10_betweenNow cX10_betweenNow 5 (some .int) ∈ gw_L := gw_i 853 (by decide +kernel) (by decide +kernel)
theorem gq_854 : Cond.methodLink RL 53 yX10_favour ∈ gw_L := gw_i 854 (by decide +kernel) (by decide +kernel)
theorem gq_855 : Cond.instanceMethod yX10_favour ∈ gw_L := gw_i 855 (by decide +kernel) (by decide +kernel)
theorem gq_856 : Cond.selects RX10 yX10_favour yX10_favour ∈ gw_L := gw_i 856 (by decide +kernel) (by decide +kernel)
theorem gq_857 : Cond.code yX10_favour cX10_favour 5 (some .int) ∈ gw_L := gw_i 857 (by decide +kernel) (by decide +kernel)
theorem gq_858 : Cond.methodLink RX10 130 yX10_neverThanks ∈ gw_L := gw_i 858 (by decide +kernel) (by decide +kernel)
theorem gq_860 : Cond.instanceMethod yX10_neverThanks ∈ gw_L := gw_i 860 (by decide +kernel) (by decide +kernel)
theorem gq_861 : Cond.code yX10_neverThanks cX10_neverThanks 2 (some .boolean) ∈ gw_L := gw_i 861 (by decide +kernel) (by decide +kernel)
theorem gq_862 : Cond.methodLink RX10 133 yX10_thank ∈ gw_L := gw_i 862 (by decide +kernel) (by decide +kernel)
theorem gq_864 : Cond.instanceMethod yX10_thank ∈ gw_L := gw_i 864 (by decide +kernel) (by decide +kernel)
theorem gq_865 : Cond.code yX10_thank cX10_thank 6 none ∈ gw_L := gw_i 865 (by decide +kernel) (by decide +kernel)
theorem gq_866 : Cond.methodLink RX10 124 yX10_less ∈ gw_L := gw_i 866 (by decide +kernel) (by decide +kernel)
theorem gq_867 : Cond.static yX10_less ∈ gw_L := gw_i 867 (by decide +kernel) (by decide +kernel)
theorem gq_868 : Cond.code yX10_less cX10_less 2 (some .int) ∈ gw_L := gw_i 868 (by decide +kernel) (by decide +kernel)
theorem gq_869 : Cond.methodLink RX10 127 yX10_more ∈ gw_L := gw_i 869 (by decide +kernel) (by decide +kernel)
theorem gq_870 : Cond.static yX10_more ∈ gw_L := gw_i 870 (by decide +kernel) (by decide +kernel)
theorem gq_871 : Cond.code yX10_more cX10_more 2 (some .int) ∈ gw_L := gw_i 871 (by decide +kernel) (by decide +kernel)
theorem gq_872 : Cond.methodLink RX10 137 yX10_grunt ∈ gw_L := gw_i 872 (by decide +kernel) (by decide +kernel)
theorem gq_874 : Cond.instanceMethod yX10_grunt ∈ gw_L := gw_i 874 (by decide +kernel) (by decide +kernel)
theorem gq_875 : Cond.code yX10_grunt cX10_grunt 5 none ∈ gw_L := gw_i 875 (by decide +kernel) (by decide +kernel)
theorem gq_876 : Cond.methodLink RL 57 yX10_week ∈ gw_L := gw_i 876 (by decide +kernel) (by decide +kernel)
theorem gq_877 : Cond.instanceMethod yX10_week ∈ gw_L := gw_i 877 (by decide +kernel) (by decide +kernel)
theorem gq_878 : Cond.selects RX10 yX10_week yX10_week ∈ gw_L := gw_i 878 (by decide +kernel) (by decide +kernel)
theorem gq_879 : Cond.code yX10_week cX10_week 1 (some .int) ∈ gw_L := gw_i 879 (by decide +kernel) (by decide +kernel)
theorem gq_880 : Cond.methodLink RX10 147 yX10_goWeek ∈ gw_L := gw_i 880 (by decide +kernel) (by decide +kernel)
theorem gq_882 : Cond.instanceMethod yX10_goWeek ∈ gw_L := gw_i 882 (by decide +kernel) (by decide +kernel)
theorem gq_883 : Cond.code yX10_goWeek cX10_goWeek 7 (some .int) ∈ gw_L := gw_i 883 (by decide +kernel) (by decide +kernel)
theorem gq_884 : Cond.methodLink RX10 141 yX10_grows ∈ gw_L := gw_i 884 (by decide +kernel) (by decide +kernel)
theorem gq_886 : Cond.instanceMethod yX10_grows ∈ gw_L := gw_i 886 (by decide +kernel) (by decide +kernel)
theorem gq_887 : Cond.code yX10_grows cX10_grows 6 (some .int) ∈ gw_L := gw_i 887 (by decide +kernel) (by decide +kernel)
theorem gq_888 : Cond.methodLink RL 61 yX10_pay ∈ gw_L := gw_i 888 (by decide +kernel) (by decide +kernel)
theorem gq_889 : Cond.instanceMethod yX10_pay ∈ gw_L := gw_i 889 (by decide +kernel) (by decide +kernel)
theorem gq_890 : Cond.selects RX10 yX10_pay yX10_pay ∈ gw_L := gw_i 890 (by decide +kernel) (by decide +kernel)
theorem gq_891 : Cond.code yX10_pay cX10_pay 5 (some .int) ∈ gw_L := gw_i 891 (by decide +kernel) (by decide +kernel)
theorem gq_892 : Cond.methodLink RL 65 yX10_setOff ∈ gw_L := gw_i 892 (by decide +kernel) (by decide +kernel)
theorem gq_893 : Cond.instanceMethod yX10_setOff ∈ gw_L := gw_i 893 (by decide +kernel) (by decide +kernel)
theorem gq_894 : Cond.selects RX10 yX10_setOff yX10_setOff ∈ gw_L := gw_i 894 (by decide +kernel) (by decide +kernel)
theorem gq_895 : Cond.code yX10_setOff cX10_setOff 4 (some .int) ∈ gw_L := gw_i 895 (by decide +kernel) (by decide +kernel)
theorem gq_896 : Cond.methodLink RL 69 yX10_ring ∈ gw_L := gw_i 896 (by decide +kernel) (by decide +kernel)
theorem gq_897 : Cond.instanceMethod yX10_ring ∈ gw_L := gw_i 897 (by decide +kernel) (by decide +kernel)
theorem gq_898 : Cond.selects RX10 yX10_ring yX10_ring ∈ gw_L := gw_i 898 (by decide +kernel) (by decide +kernel)
theorem gq_899 : Cond.code yX10_ring cX10_ring 5 (some .int) ∈ gw_L := gw_i 899 (by decide +kernel) (by decide +kernel)
theorem gq_900 : Cond.methodLink RL 73 yX10_forgive ∈ gw_L := gw_i 900 (by decide +kernel) (by decide +kernel)
theorem gq_901 : Cond.instanceMethod yX10_forgive ∈ gw_L := gw_i 901 (by decide +kernel) (by decide +kernel)
theorem gq_902 : Cond.selects RX10 yX10_forgive yX10_forgive ∈ gw_L := gw_i 902 (by decide +kernel) (by decide +kernel)
theorem gq_903 : Cond.code yX10_forgive cX10_forgive 4 (some .int) ∈ gw_L := gw_i 903 (by decide +kernel) (by decide +kernel)
theorem gq_904 : Cond.methodLink RL 77 yX10_bankrupt ∈ gw_L := gw_i 904 (by decide +kernel) (by decide +kernel)
theorem gq_905 : Cond.instanceMethod yX10_bankrupt ∈ gw_L := gw_i 905 (by decide +kernel) (by decide +kernel)
theorem gq_906 : Cond.selects RX10 yX10_bankrupt yX10_bankrupt ∈ gw_L := gw_i 906 (by decide +kernel) (by decide +kernel)
theorem gq_907 : Cond.code yX10_bankrupt cX10_bankrupt 8 (some .int) ∈ gw_L := gw_i 907 (by decide +kernel) (by decide +kernel)
theorem gq_908 : Cond.methodLink RL 81 yX10_ruin ∈ gw_L := gw_i 908 (by decide +kernel) (by decide +kernel)
theorem gq_909 : Cond.instanceMethod yX10_ruin ∈ gw_L := gw_i 909 (by decide +kernel) (by decide +kernel)
theorem gq_910 : Cond.selects RX10 yX10_ruin yX10_ruin ∈ gw_L := gw_i 910 (by decide +kernel) (by decide +kernel)
theorem gq_911 : Cond.code yX10_ruin cX10_ruin 2 (some .int) ∈ gw_L := gw_i 911 (by decide +kernel) (by decide +kernel)
theorem gq_912 : Cond.methodLink RX10 154 yX10_ruinNow ∈ gw_L := gw_i 912 (by decide +kernel) (by decide +kernel)
theorem gq_914 : Cond.instanceMethod yX10_ruinNow ∈ gw_L := gw_i 914 (by decide +kernel) (by decide +kernel)
theorem gq_915 : Cond.code yX10_ruinNow cX10_ruinNow 3 (some .int) ∈ gw_L := gw_i 915 (by decide +kernel) (by decide +kernel)
theorem gq_916 : Cond.methodLink RX10 151 yX10_copy ∈ gw_L := gw_i 916 (by decide +kernel) (by decide +kernel)
theorem gq_918 : Cond.instanceMethod yX10_copy ∈ gw_L := gw_i 918 (by decide +kernel) (by decide +kernel)
theorem gq_919 : Cond.code yX10_copy cX10_copy 2 none ∈ gw_L := gw_i 919 (by decide +kernel) (by decide +kernel)
theorem gq_920 : Cond.methodLink RL 85 yX10_settling ∈ gw_L := gw_i 920 (by decide +kernel) (by decide +kernel)
theorem gq_921 : Cond.instanceMethod yX10_settling ∈ gw_L := gw_i 921 (by decide +kernel) (by decide +kernel)
theorem gq_922 : Cond.selects RX10 yX10_settling yX10_settling ∈ gw_L := gw_i 922 (by decide +kernel) (by decide +kernel)
theorem gq_923 : Cond.code yX10_settling cX10_settling 1 (some .int) ∈ gw_L := gw_i 923 (by decide +kernel) (by decide +kernel)
theorem gq_924 : Cond.methodLink RX10 164 yX10_settlingNow ∈ gw_L := gw_i 924 (by decide +kernel) (by decide +kernel)
theorem gq_926 : Cond.instanceMethod yX10_settlingNow ∈ gw_L := gw_i 926 (by decide +kernel) (by decide +kernel)
theorem gq_927 : Cond.code yX10_settlingNow cX10_settlingNow 4 (some .int) ∈ gw_L := gw_i 927 (by decide +kernel) (by decide +kernel)
theorem gq_928 : Cond.methodLink RX10 157 yX10_layGroups ∈ gw_L := gw_i 928 (by decide +kernel) (by decide +kernel)
theorem gq_930 : Cond.instanceMethod yX10_layGroups ∈ gw_L := gw_i 930 (by decide +kernel) (by decide +kernel)
theorem gq_931 : Cond.code yX10_layGroups cX10_layGroups 5 none ∈ gw_L := gw_i 931 (by decide +kernel) (by decide +kernel)
theorem gq_932 : Cond.methodLink RX10 161 yX10_size ∈ gw_L := gw_i 932 (by decide +kernel) (by decide +kernel)
theorem gq_933 : Cond.static yX10_size ∈ gw_L := gw_i 933 (by decide +kernel) (by decide +kernel)
theorem gq_934 : Cond.code yX10_size cX10_size 3 (some .int) ∈ gw_L := gw_i 934 (by decide +kernel) (by decide +kernel)
theorem gq_935 : Cond.methodLink RL 89 yX10_bestRing ∈ gw_L := gw_i 935 (by decide +kernel) (by decide +kernel)
theorem gq_936 : Cond.instanceMethod yX10_bestRing ∈ gw_L := gw_i 936 (by decide +kernel) (by decide +kernel)
theorem gq_937 : Cond.selects RX10 yX10_bestRing yX10_bestRing ∈ gw_L := gw_i 937 (by decide +kernel) (by decide +kernel)
theorem gq_938 : Cond.code yX10_bestRing cX10_bestRing 2 (some .int) ∈ gw_L := gw_i 938 (by decide +kernel) (by decide +kernel)
theorem gq_939 : Cond.methodLink RX10 171 yX10_bestRingNow ∈ gw_L := gw_i 939 (by decide +kernel) (by decide +kernel)
theorem gq_941 : Cond.instanceMethod yX10_bestRingNow ∈ gw_L := gw_i 941 (by decide +kernel) (by decide +kernel)
theorem gq_942 : Cond.code yX10_bestRingNow cX10_bestRingNow 9 (some .int) ∈ gw_L := gw_i 942 (by decide +kernel) (by decide +kernel)
theorem gq_943 : Cond.methodLink RX10 168 yX10_ringBy ∈ gw_L := gw_i 943 (by decide +kernel) (by decide +kernel)
theorem gq_945 : Cond.instanceMethod yX10_ringBy ∈ gw_L := gw_i 945 (by decide +kernel) (by decide +kernel)
theorem gq_946 : Cond.code yX10_ringBy cX10_ringBy 8 (some .int) ∈ gw_L := gw_i 946 (by decide +kernel) (by decide +kernel)
theorem gq_947 : Cond.constant RX10 167 (268435456 : Int32) ∈ gw_L := gw_i 947 (by decide +kernel) (by decide +kernel)
theorem gq_948 : Cond.methodLink RL 93 yX10_offer ∈ gw_L := gw_i 948 (by decide +kernel) (by decide +kernel)
theorem gq_949 : Cond.instanceMethod yX10_offer ∈ gw_L := gw_i 949 (by decide +kernel) (by decide +kernel)
theorem gq_950 : Cond.selects RX10 yX10_offer yX10_offer ∈ gw_L := gw_i 950 (by decide +kernel) (by decide +kernel)
theorem gq_951 : Cond.code yX10_offer cX10_offer 4 (some .int) ∈ gw_L := gw_i 951 (by decide +kernel) (by decide +kernel)
theorem gq_952 : Cond.methodLink RL 97 yX10_forget ∈ gw_L := gw_i 952 (by decide +kernel) (by decide +kernel)
theorem gq_953 : Cond.instanceMethod yX10_forget ∈ gw_L := gw_i 953 (by decide +kernel) (by decide +kernel)
theorem gq_954 : Cond.selects RX10 yX10_forget yX10_forget ∈ gw_L := gw_i 954 (by decide +kernel) (by decide +kernel)
theorem gq_955 : Cond.code yX10_forget cX10_forget 2 (some .int) ∈ gw_L := gw_i 955 (by decide +kernel) (by decide +kernel)
theorem gq_956 : Cond.methodLink RL 102 yX10_accept ∈ gw_L := gw_i 956 (by decide +kernel) (by decide +kernel)
theorem gq_957 : Cond.instanceMethod yX10_accept ∈ gw_L := gw_i 957 (by decide +kernel) (by decide +kernel)
theorem gq_958 : Cond.selects RX10 yX10_accept yX10_accept ∈ gw_L := gw_i 958 (by decide +kernel) (by decide +kernel)
theorem gq_959 : Cond.code yX10_accept cX10_accept 5 (some .int) ∈ gw_L := gw_i 959 (by decide +kernel) (by decide +kernel)
theorem gq_960 : Cond.methodLink RX10 181 yX10_acceptNow ∈ gw_L := gw_i 960 (by decide +kernel) (by decide +kernel)
theorem gq_962 : Cond.instanceMethod yX10_acceptNow ∈ gw_L := gw_i 962 (by decide +kernel) (by decide +kernel)
theorem gq_963 : Cond.code yX10_acceptNow cX10_acceptNow 10 (some .int) ∈ gw_L := gw_i 963 (by decide +kernel) (by decide +kernel)
theorem gq_964 : Cond.methodLink RX10 177 yX10_owesBy ∈ gw_L := gw_i 964 (by decide +kernel) (by decide +kernel)
theorem gq_966 : Cond.instanceMethod yX10_owesBy ∈ gw_L := gw_i 966 (by decide +kernel) (by decide +kernel)
theorem gq_967 : Cond.code yX10_owesBy cX10_owesBy 8 (some .int) ∈ gw_L := gw_i 967 (by decide +kernel) (by decide +kernel)
theorem gq_968 : Cond.methodLink RL 107 yX10_grown ∈ gw_L := gw_i 968 (by decide +kernel) (by decide +kernel)
theorem gq_969 : Cond.instanceMethod yX10_grown ∈ gw_L := gw_i 969 (by decide +kernel) (by decide +kernel)
theorem gq_970 : Cond.selects RX10 yX10_grown yX10_grown ∈ gw_L := gw_i 970 (by decide +kernel) (by decide +kernel)
theorem gq_971 : Cond.code yX10_grown cX10_grown 6 (some .int) ∈ gw_L := gw_i 971 (by decide +kernel) (by decide +kernel)
theorem gq_972 : Cond.methodLink RX10 184 yX10_grownNow ∈ gw_L := gw_i 972 (by decide +kernel) (by decide +kernel)
theorem gq_974 : Cond.instanceMethod yX10_grownNow ∈ gw_L := gw_i 974 (by decide +kernel) (by decide +kernel)
theorem gq_975 : Cond.code yX10_grownNow cX10_grownNow 11 (some .int) ∈ gw_L := gw_i 975 (by decide +kernel) (by decide +kernel)
theorem gq_976 : Cond.methodLink RL 111 yX10_years ∈ gw_L := gw_i 976 (by decide +kernel) (by decide +kernel)
theorem gq_977 : Cond.instanceMethod yX10_years ∈ gw_L := gw_i 977 (by decide +kernel) (by decide +kernel)
theorem gq_978 : Cond.selects RX10 yX10_years yX10_years ∈ gw_L := gw_i 978 (by decide +kernel) (by decide +kernel)
theorem gq_979 : Cond.code yX10_years cX10_years 4 (some .int) ∈ gw_L := gw_i 979 (by decide +kernel) (by decide +kernel)
theorem gq_980 : Cond.methodLink RX10 206 yX10_yearsNow ∈ gw_L := gw_i 980 (by decide +kernel) (by decide +kernel)
theorem gq_982 : Cond.instanceMethod yX10_yearsNow ∈ gw_L := gw_i 982 (by decide +kernel) (by decide +kernel)
theorem gq_983 : Cond.code yX10_yearsNow cX10_yearsNow 7 (some .int) ∈ gw_L := gw_i 983 (by decide +kernel) (by decide +kernel)
theorem gq_984 : Cond.methodLink RX10 203 yX10_goYear ∈ gw_L := gw_i 984 (by decide +kernel) (by decide +kernel)
theorem gq_986 : Cond.instanceMethod yX10_goYear ∈ gw_L := gw_i 986 (by decide +kernel) (by decide +kernel)
theorem gq_987 : Cond.code yX10_goYear cX10_goYear 5 none ∈ gw_L := gw_i 987 (by decide +kernel) (by decide +kernel)
theorem gq_988 : Cond.methodLink RX10 200 yX10_draw ∈ gw_L := gw_i 988 (by decide +kernel) (by decide +kernel)
theorem gq_990 : Cond.instanceMethod yX10_draw ∈ gw_L := gw_i 990 (by decide +kernel) (by decide +kernel)
theorem gq_991 : Cond.code yX10_draw cX10_draw 2 (some .int) ∈ gw_L := gw_i 991 (by decide +kernel) (by decide +kernel)
theorem gq_992 : Cond.constantLong RX10 188 (1103515245 : Int64) ∈ gw_L := gw_i 992 (by decide +kernel) (by decide +kernel)
theorem gq_993 : Cond.constantLong RX10 194 (12345 : Int64) ∈ gw_L := gw_i 993 (by decide +kernel) (by decide +kernel)
theorem gq_994 : Cond.constantLong RX10 196 (2147483647 : Int64) ∈ gw_L := gw_i 994 (by decide +kernel) (by decide +kernel)
theorem gq_995 : Cond.constantLong RX10 198 (65536 : Int64) ∈ gw_L := gw_i 995 (by decide +kernel) (by decide +kernel)
theorem gq_996 : Cond.methodLink RL 115 yX10_image ∈ gw_L := gw_i 996 (by decide +kernel) (by decide +kernel)
theorem gq_997 : Cond.instanceMethod yX10_image ∈ gw_L := gw_i 997 (by decide +kernel) (by decide +kernel)
theorem gq_998 : Cond.selects RX10 yX10_image yX10_image ∈ gw_L := gw_i 998 (by decide +kernel) (by decide +kernel)
theorem gq_999 : Cond.code yX10_image cX10_image 2 (some .int) ∈ gw_L := gw_i 999 (by decide +kernel) (by decide +kernel)
theorem gq_1000 : Cond.methodLink RL 119 yX10_restore ∈ gw_L := gw_i 1000 (by decide +kernel) (by decide +kernel)
theorem gq_1001 : Cond.instanceMethod yX10_restore ∈ gw_L := gw_i 1001 (by decide +kernel) (by decide +kernel)
theorem gq_1002 : Cond.selects RX10 yX10_restore yX10_restore ∈ gw_L := gw_i 1002 (by decide +kernel) (by decide +kernel)
theorem gq_1003 : Cond.code yX10_restore cX10_restore 2 (some .int) ∈ gw_L := gw_i 1003 (by decide +kernel) (by decide +kernel)
theorem gq_1004 : Cond.methodLink RL 123 yX10_count ∈ gw_L := gw_i 1004 (by decide +kernel) (by decide +kernel)
theorem gq_1005 : Cond.instanceMethod yX10_count ∈ gw_L := gw_i 1005 (by decide +kernel) (by decide +kernel)
theorem gq_1006 : Cond.selects RX10 yX10_count yX10_count ∈ gw_L := gw_i 1006 (by decide +kernel) (by decide +kernel)
theorem gq_1007 : Cond.code yX10_count cX10_count 2 (some .int) ∈ gw_L := gw_i 1007 (by decide +kernel) (by decide +kernel)
theorem gq_1008 : Cond.methodLink RX10 240 yX10_howMany ∈ gw_L := gw_i 1008 (by decide +kernel) (by decide +kernel)
theorem gq_1010 : Cond.instanceMethod yX10_howMany ∈ gw_L := gw_i 1010 (by decide +kernel) (by decide +kernel)
theorem gq_1011 : Cond.code yX10_howMany cX10_howMany 2 (some .int) ∈ gw_L := gw_i 1011 (by decide +kernel) (by decide +kernel)
theorem gq_1012 : Cond.methodLink RX10 234 yX10_ruinedMany ∈ gw_L := gw_i 1012 (by decide +kernel) (by decide +kernel)
theorem gq_1014 : Cond.instanceMethod yX10_ruinedMany ∈ gw_L := gw_i 1014 (by decide +kernel) (by decide +kernel)
theorem gq_1015 : Cond.code yX10_ruinedMany cX10_ruinedMany 3 (some .int) ∈ gw_L := gw_i 1015 (by decide +kernel) (by decide +kernel)
theorem gq_1016 : Cond.methodLink RX10 237 yX10_owedAll ∈ gw_L := gw_i 1016 (by decide +kernel) (by decide +kernel)
theorem gq_1018 : Cond.instanceMethod yX10_owedAll ∈ gw_L := gw_i 1018 (by decide +kernel) (by decide +kernel)
theorem gq_1019 : Cond.code yX10_owedAll cX10_owedAll 3 (some .int) ∈ gw_L := gw_i 1019 (by decide +kernel) (by decide +kernel)
theorem gq_1020 : Cond.methodLink RL 128 yX10_digest ∈ gw_L := gw_i 1020 (by decide +kernel) (by decide +kernel)
theorem gq_1021 : Cond.instanceMethod yX10_digest ∈ gw_L := gw_i 1021 (by decide +kernel) (by decide +kernel)
theorem gq_1022 : Cond.selects RX10 yX10_digest yX10_digest ∈ gw_L := gw_i 1022 (by decide +kernel) (by decide +kernel)
theorem gq_1023 : Cond.code yX10_digest cX10_digest 2 (some .long) ∈ gw_L := gw_i 1023 (by decide +kernel) (by decide +kernel)
theorem gq_1024 : Cond.constantLong RX10 252 (809 : Int64) ∈ gw_L := gw_i 1024 (by decide +kernel) (by decide +kernel)
theorem gq_1025 : Cond.methodLink RX10 254 yX10_mixPerson ∈ gw_L := gw_i 1025 (by decide +kernel) (by decide +kernel)
theorem gq_1027 : Cond.instanceMethod yX10_mixPerson ∈ gw_L := gw_i 1027 (by decide +kernel) (by decide +kernel)
theorem gq_1028 : Cond.code yX10_mixPerson cX10_mixPerson 4 none ∈ gw_L := gw_i 1028 (by decide +kernel) (by decide +kernel)
theorem gq_1029 : Cond.methodLink RX10 248 yX10_mix ∈ gw_L := gw_i 1029 (by decide +kernel) (by decide +kernel)
theorem gq_1031 : Cond.instanceMethod yX10_mix ∈ gw_L := gw_i 1031 (by decide +kernel) (by decide +kernel)
theorem gq_1032 : Cond.code yX10_mix cX10_mix 3 none ∈ gw_L := gw_i 1032 (by decide +kernel) (by decide +kernel)
theorem gq_1033 : Cond.constantLong RX10 243 (31 : Int64) ∈ gw_L := gw_i 1033 (by decide +kernel) (by decide +kernel)
theorem gq_1034 : Cond.fieldLink RX9 177 "ThanksOwed$Kind" "thanks" "Z" ∈ gw_L := gw_i 1034 (by decide +kernel) (by decide +kernel)
theorem gq_1035 : Cond.fieldLink RX8 94 "ThanksOwed$Kind" "sulks" "Z" ∈ gw_L := gw_i 1035 (by decide +kernel) (by decide +kernel)
theorem gq_1036 : Cond.fieldLink RX3 35 "ThanksOwed$Kind" "timesAsDebtor" "I" ∈ gw_L := gw_i 1036 (by decide +kernel) (by decide +kernel)
theorem gq_1037 : Cond.fieldLink RX3 40 "ThanksOwed$Kind" "timesAsCreditor" "I" ∈ gw_L := gw_i 1037 (by decide +kernel) (by decide +kernel)
theorem gq_1038 : Cond.fieldLink RX8 122 "ThanksOwed$Kind" "thanks" "Z" ∈ gw_L := gw_i 1038 (by decide +kernel) (by decide +kernel)
theorem gu_X0 : ∀ w ∈ u_ws RX0 TX0 2, w ∈ gw_L := by
  have h : u_ws RX0 TX0 2 = [u_lay RX0 TX0 0, u_lay RX0 TX0 1] := by decide +kernel
  rw [h]
  intro w hw
  simp only [List.mem_cons, List.not_mem_nil, or_false] at hw
  rcases hw with rfl | rfl
  · exact gw_i 218 (by decide +kernel) (by decide +kernel)
  · exact gw_i 220 (by decide +kernel) (by decide +kernel)
theorem gu_X1 : ∀ w ∈ u_ws RX1 TX1 1, w ∈ gw_L := by
  have h : u_ws RX1 TX1 1 = [u_lay RX1 TX1 0] := by decide +kernel
  rw [h]
  intro w hw
  simp only [List.mem_cons, List.not_mem_nil, or_false] at hw
  subst hw; exact gw_i 231 (by decide +kernel) (by decide +kernel)
theorem gu_X3 : ∀ w ∈ u_ws RX3 TX3 4, w ∈ gw_L := by
  have h : u_ws RX3 TX3 4 = [u_lay RX3 TX3 0, u_lay RX3 TX3 1, u_lay RX3 TX3 2, u_lay RX3 TX3 3] := by decide +kernel
  rw [h]
  intro w hw
  simp only [List.mem_cons, List.not_mem_nil, or_false] at hw
  rcases hw with rfl | rfl | rfl | rfl
  · exact gw_i 107 (by decide +kernel) (by decide +kernel)
  · exact gw_i 109 (by decide +kernel) (by decide +kernel)
  · exact gw_i 111 (by decide +kernel) (by decide +kernel)
  · exact gw_i 113 (by decide +kernel) (by decide +kernel)
theorem gu_X4 : ∀ w ∈ u_ws RX4 TX4 4, w ∈ gw_L := by
  have h : u_ws RX4 TX4 4 = [u_lay RX4 TX4 0, u_lay RX4 TX4 1, u_lay RX4 TX4 2, u_lay RX4 TX4 3] := by decide +kernel
  rw [h]
  intro w hw
  simp only [List.mem_cons, List.not_mem_nil, or_false] at hw
  rcases hw with rfl | rfl | rfl | rfl
  · exact gw_i 167 (by decide +kernel) (by decide +kernel)
  · exact gw_i 169 (by decide +kernel) (by decide +kernel)
  · exact gw_i 171 (by decide +kernel) (by decide +kernel)
  · exact gw_i 173 (by decide +kernel) (by decide +kernel)
theorem gu_X5 : ∀ w ∈ u_ws RX5 TX5 2, w ∈ gw_L := by
  have h : u_ws RX5 TX5 2 = [u_lay RX5 TX5 0, u_lay RX5 TX5 1] := by decide +kernel
  rw [h]
  intro w hw
  simp only [List.mem_cons, List.not_mem_nil, or_false] at hw
  rcases hw with rfl | rfl
  · exact gw_i 78 (by decide +kernel) (by decide +kernel)
  · exact gw_i 80 (by decide +kernel) (by decide +kernel)
theorem gu_X6 : ∀ w ∈ u_ws RX6 TX6 4, w ∈ gw_L := by
  have h : u_ws RX6 TX6 4 = [u_lay RX6 TX6 0, u_lay RX6 TX6 1, u_lay RX6 TX6 2, u_lay RX6 TX6 3] := by decide +kernel
  rw [h]
  intro w hw
  simp only [List.mem_cons, List.not_mem_nil, or_false] at hw
  rcases hw with rfl | rfl | rfl | rfl
  · exact gw_i 186 (by decide +kernel) (by decide +kernel)
  · exact gw_i 188 (by decide +kernel) (by decide +kernel)
  · exact gw_i 190 (by decide +kernel) (by decide +kernel)
  · exact gw_i 192 (by decide +kernel) (by decide +kernel)
theorem gu_X7 : ∀ w ∈ u_ws RX7 TX7 2, w ∈ gw_L := by
  have h : u_ws RX7 TX7 2 = [u_lay RX7 TX7 0, u_lay RX7 TX7 1] := by decide +kernel
  rw [h]
  intro w hw
  simp only [List.mem_cons, List.not_mem_nil, or_false] at hw
  rcases hw with rfl | rfl
  · exact gw_i 203 (by decide +kernel) (by decide +kernel)
  · exact gw_i 205 (by decide +kernel) (by decide +kernel)
theorem gu_X8 : ∀ w ∈ u_ws RX8 TX8 8, w ∈ gw_L := by
  have h : u_ws RX8 TX8 8 = [u_lay RX8 TX8 0, u_lay RX8 TX8 1, u_lay RX8 TX8 2, u_lay RX8 TX8 3, u_lay RX8 TX8 4, u_lay RX8 TX8 5, u_lay RX8 TX8 6, u_lay RX8 TX8 7] := by decide +kernel
  rw [h]
  intro w hw
  simp only [List.mem_cons, List.not_mem_nil, or_false] at hw
  rcases hw with rfl | rfl | rfl | rfl | rfl | rfl | rfl | rfl
  · exact gw_i 139 (by decide +kernel) (by decide +kernel)
  · exact gw_i 141 (by decide +kernel) (by decide +kernel)
  · exact gw_i 143 (by decide +kernel) (by decide +kernel)
  · exact gw_i 145 (by decide +kernel) (by decide +kernel)
  · exact gw_i 147 (by decide +kernel) (by decide +kernel)
  · exact gw_i 149 (by decide +kernel) (by decide +kernel)
  · exact gw_i 151 (by decide +kernel) (by decide +kernel)
  · exact gw_i 153 (by decide +kernel) (by decide +kernel)
theorem gu_X9 : ∀ w ∈ u_ws RX9 TX9 13, w ∈ gw_L := by
  have h : u_ws RX9 TX9 13 = [u_lay RX9 TX9 0, u_lay RX9 TX9 1, u_lay RX9 TX9 2, u_lay RX9 TX9 3, u_lay RX9 TX9 4, u_lay RX9 TX9 5, u_lay RX9 TX9 6, u_lay RX9 TX9 7, u_lay RX9 TX9 8, u_lay RX9 TX9 9, u_lay RX9 TX9 10, u_lay RX9 TX9 11, u_lay RX9 TX9 12] := by decide +kernel
  rw [h]
  intro w hw
  simp only [List.mem_cons, List.not_mem_nil, or_false] at hw
  rcases hw with rfl | rfl | rfl | rfl | rfl | rfl | rfl | rfl | rfl | rfl | rfl | rfl | rfl
  · exact gw_i 247 (by decide +kernel) (by decide +kernel)
  · exact gw_i 249 (by decide +kernel) (by decide +kernel)
  · exact gw_i 251 (by decide +kernel) (by decide +kernel)
  · exact gw_i 253 (by decide +kernel) (by decide +kernel)
  · exact gw_i 255 (by decide +kernel) (by decide +kernel)
  · exact gw_i 257 (by decide +kernel) (by decide +kernel)
  · exact gw_i 259 (by decide +kernel) (by decide +kernel)
  · exact gw_i 261 (by decide +kernel) (by decide +kernel)
  · exact gw_i 263 (by decide +kernel) (by decide +kernel)
  · exact gw_i 265 (by decide +kernel) (by decide +kernel)
  · exact gw_i 267 (by decide +kernel) (by decide +kernel)
  · exact gw_i 269 (by decide +kernel) (by decide +kernel)
  · exact gw_i 271 (by decide +kernel) (by decide +kernel)
theorem gu_X10 : ∀ w ∈ u_ws RX10 TX10 36, w ∈ gw_L := by
  have h : u_ws RX10 TX10 36 = [u_lay RX10 TX10 0, u_lay RX10 TX10 1, u_lay RX10 TX10 2, u_lay RX10 TX10 3, u_lay RX10 TX10 4, u_lay RX10 TX10 5, u_lay RX10 TX10 6, u_lay RX10 TX10 7, u_lay RX10 TX10 8, u_lay RX10 TX10 9, u_lay RX10 TX10 10, u_lay RX10 TX10 11, u_lay RX10 TX10 12, u_lay RX10 TX10 13, u_lay RX10 TX10 14, u_lay RX10 TX10 15, u_lay RX10 TX10 16, u_lay RX10 TX10 17, u_lay RX10 TX10 18, u_lay RX10 TX10 19, u_lay RX10 TX10 20, u_lay RX10 TX10 21, u_lay RX10 TX10 22, u_lay RX10 TX10 23, u_lay RX10 TX10 24, u_lay RX10 TX10 25, u_lay RX10 TX10 26, u_lay RX10 TX10 27, u_lay RX10 TX10 28, u_lay RX10 TX10 29, u_lay RX10 TX10 30, u_lay RX10 TX10 31, u_lay RX10 TX10 32, u_lay RX10 TX10 33, u_lay RX10 TX10 34, u_lay RX10 TX10 35] := by decide +kernel
  rw [h]
  intro w hw
  simp only [List.mem_cons, List.not_mem_nil, or_false] at hw
  rcases hw with rfl | rfl | rfl | rfl | rfl | rfl | rfl | rfl | rfl | rfl | rfl | rfl | rfl | rfl | rfl | rfl | rfl | rfl | rfl | rfl | rfl | rfl | rfl | rfl | rfl | rfl | rfl | rfl | rfl | rfl | rfl | rfl | rfl | rfl | rfl | rfl
  · exact gw_i 705 (by decide +kernel) (by decide +kernel)
  · exact gw_i 707 (by decide +kernel) (by decide +kernel)
  · exact gw_i 709 (by decide +kernel) (by decide +kernel)
  · exact gw_i 711 (by decide +kernel) (by decide +kernel)
  · exact gw_i 713 (by decide +kernel) (by decide +kernel)
  · exact gw_i 715 (by decide +kernel) (by decide +kernel)
  · exact gw_i 717 (by decide +kernel) (by decide +kernel)
  · exact gw_i 719 (by decide +kernel) (by decide +kernel)
  · exact gw_i 721 (by decide +kernel) (by decide +kernel)
  · exact gw_i 723 (by decide +kernel) (by decide +kernel)
  · exact gw_i 725 (by decide +kernel) (by decide +kernel)
  · exact gw_i 727 (by decide +kernel) (by decide +kernel)
  · exact gw_i 729 (by decide +kernel) (by decide +kernel)
  · exact gw_i 731 (by decide +kernel) (by decide +kernel)
  · exact gw_i 733 (by decide +kernel) (by decide +kernel)
  · exact gw_i 735 (by decide +kernel) (by decide +kernel)
  · exact gw_i 737 (by decide +kernel) (by decide +kernel)
  · exact gw_i 739 (by decide +kernel) (by decide +kernel)
  · exact gw_i 741 (by decide +kernel) (by decide +kernel)
  · exact gw_i 743 (by decide +kernel) (by decide +kernel)
  · exact gw_i 745 (by decide +kernel) (by decide +kernel)
  · exact gw_i 747 (by decide +kernel) (by decide +kernel)
  · exact gw_i 749 (by decide +kernel) (by decide +kernel)
  · exact gw_i 751 (by decide +kernel) (by decide +kernel)
  · exact gw_i 753 (by decide +kernel) (by decide +kernel)
  · exact gw_i 755 (by decide +kernel) (by decide +kernel)
  · exact gw_i 757 (by decide +kernel) (by decide +kernel)
  · exact gw_i 759 (by decide +kernel) (by decide +kernel)
  · exact gw_i 761 (by decide +kernel) (by decide +kernel)
  · exact gw_i 763 (by decide +kernel) (by decide +kernel)
  · exact gw_i 765 (by decide +kernel) (by decide +kernel)
  · exact gw_i 767 (by decide +kernel) (by decide +kernel)
  · exact gw_i 769 (by decide +kernel) (by decide +kernel)
  · exact gw_i 771 (by decide +kernel) (by decide +kernel)
  · exact gw_i 773 (by decide +kernel) (by decide +kernel)
  · exact gw_i 775 (by decide +kernel) (by decide +kernel)
/-- links to private members of nest mates -/
def gn_L : List (String × Nat × MethodName × String) := [(RX9, 11, yX5_init, "ThanksOwed"), (RX9, 18, yX8_init, "ThanksOwed"), (RX8, 11, yX3_init, "ThanksOwed"), (RX9, 25, yX4_init, "ThanksOwed"), (RX9, 41, yX6_init, "ThanksOwed"), (RX9, 48, yX7_init, "ThanksOwed"), (RX9, 55, yX0_init, "ThanksOwed"), (RX9, 62, yX1_init, "ThanksOwed"), (RX5, 31, yX9_within, "ThanksOwed"), (RX8, 59, yX9_pairOf, "ThanksOwed"), (RX7, 44, yX9_isAmong, "ThanksOwed"), (RX7, 40, yX9_oneIf, "ThanksOwed"), (RX6, 37, yX9_pairOf, "ThanksOwed"), (RX4, 31, yX9_isAmong, "ThanksOwed"), (RX0, 45, yX9_pairOf, "ThanksOwed"), (RX8, 76, yX9_oneIf, "ThanksOwed")]
theorem gn_in : ∀ q ∈ gn_L, Cond.methodLinkNest q.1 q.2.1 q.2.2.1 q.2.2.2 ∈ lw_tbl := by
  intro q hq
  simp only [gn_L, List.mem_cons, List.not_mem_nil, or_false] at hq
  rcases hq with rfl | rfl | rfl | rfl | rfl | rfl | rfl | rfl | rfl | rfl | rfl | rfl | rfl | rfl | rfl | rfl
  · exact List.mem_of_getElem? (i := 69) (by decide +kernel)
  · exact List.mem_of_getElem? (i := 86) (by decide +kernel)
  · exact List.mem_of_getElem? (i := 92) (by decide +kernel)
  · exact List.mem_of_getElem? (i := 158) (by decide +kernel)
  · exact List.mem_of_getElem? (i := 178) (by decide +kernel)
  · exact List.mem_of_getElem? (i := 197) (by decide +kernel)
  · exact List.mem_of_getElem? (i := 210) (by decide +kernel)
  · exact List.mem_of_getElem? (i := 225) (by decide +kernel)
  · exact List.mem_of_getElem? (i := 305) (by decide +kernel)
  · exact List.mem_of_getElem? (i := 345) (by decide +kernel)
  · exact List.mem_of_getElem? (i := 508) (by decide +kernel)
  · exact List.mem_of_getElem? (i := 512) (by decide +kernel)
  · exact List.mem_of_getElem? (i := 525) (by decide +kernel)
  · exact List.mem_of_getElem? (i := 568) (by decide +kernel)
  · exact List.mem_of_getElem? (i := 573) (by decide +kernel)
  · exact List.mem_of_getElem? (i := 632) (by decide +kernel)
theorem gn_f : Cond.fieldLinkNest RX8 55 "ThanksOwed" "KINDS" "[LThanksOwed$Kind;" "ThanksOwed" ∈ lw_tbl := List.mem_of_getElem? (i := 374) (by decide +kernel)
end
section
/-! ===== THE PURE MACHINE: a world is a list of cells, a reference is a cell's number (1000 + i: the constant i of Kind, 1010: KINDS) ===== -/
abbrev ac_T : Type := (Nat × Nat × (Nat → Int32)) ⊕ (Nat × List Value)
def ac_v (ad : Nat → Nat) : Value → Value
  | .ref k => .ref (ad k)
  | v => v
def ac_E (cI cB : ClassId) (ad : Nat → Nat) : ac_T → va_E
  | .inl (t, n, f) => .inl ((if t = 0 then cI else cB), n, .inl f)
  | .inr (ci, fs) => .inr (ci, fs.map (ac_v ad))
def ac_W (cI cB : ClassId) (ad : Nat → Nat) : Nat → List ac_T → va_W
  | _, [] => []
  | k, c :: t => (ad k, ac_E cI cB ad c) :: ac_W cI cB ad (k + 1) t
theorem ac_W_get (cI cB : ClassId) (ad : Nat → Nat) : ∀ (w : List ac_T) (k i : Nat), (ac_W cI cB ad k w)[i]? = (w[i]?).map (fun c => (ad (k + i), ac_E cI cB ad c))
  | [], k, i => by simp [ac_W]
  | c :: t, k, 0 => by simp [ac_W]
  | c :: t, k, i + 1 => by
    simp only [ac_W, List.getElem?_cons_succ]
    rw [ac_W_get cI cB ad t (k + 1) i, show k + 1 + i = k + (i + 1) by omega]
theorem ac_W_at {cI cB : ClassId} {ad : Nat → Nat} {w : List ac_T} {i : Nat} {c : ac_T} (h : w[i]? = some c) : (ac_W cI cB ad 0 w)[i]? = some (ad i, ac_E cI cB ad c) := by
  rw [ac_W_get, h, Nat.zero_add]; rfl
theorem ac_W_setk (cI cB : ClassId) (ad : Nat → Nat) : ∀ (w : List ac_T) (k i : Nat) (c : ac_T), (ac_W cI cB ad k w).set i (ad (k + i), ac_E cI cB ad c) = ac_W cI cB ad k (w.set i c)
  | [], k, i, c => by simp [ac_W]
  | b :: t, k, 0, c => by simp [ac_W]
  | b :: t, k, i + 1, c => by
    simp only [ac_W, List.set_cons_succ]
    rw [← ac_W_setk cI cB ad t (k + 1) i c, show k + 1 + i = k + (i + 1) by omega]
theorem ac_W_set (cI cB : ClassId) (ad : Nat → Nat) (w : List ac_T) (i : Nat) (c : ac_T) : (ac_W cI cB ad 0 w).set i (ad i, ac_E cI cB ad c) = ac_W cI cB ad 0 (w.set i c) := by
  have h := ac_W_setk cI cB ad w 0 i c
  rwa [Nat.zero_add] at h
theorem ac_W_of {cI cB : ClassId} {ad : Nat → Nat} {w : List ac_T} {i : Nat} {q : Nat × va_E} (h : (ac_W cI cB ad 0 w)[i]? = some q) : ∃ c, w[i]? = some c ∧ q = (ad i, ac_E cI cB ad c) := by
  rw [ac_W_get, Nat.zero_add] at h
  cases hc : w[i]? with
  | none => rw [hc] at h; cases h
  | some c => rw [hc] at h; exact ⟨c, rfl, (Option.some.inj h).symm⟩
theorem ac_D {cI cB : ClassId} {ad : Nat → Nat} {A : Nat → Prop} {w w' : List ac_T} (h : va_D A (ac_W cI cB ad 0 w)) (hn : w'.length = w.length) : va_D A (ac_W cI cB ad 0 w') := by
  have key : ∀ (i : Nat) (q : Nat × va_E), (ac_W cI cB ad 0 w')[i]? = some q → ∃ q' : Nat × va_E, (ac_W cI cB ad 0 w)[i]? = some q' ∧ q'.1 = q.1 := by
    intro i q hq
    obtain ⟨c, hc, rfl⟩ := ac_W_of hq
    have hi : i < w.length := by
      have := (List.getElem?_eq_some_iff.mp hc).1
      omega
    exact ⟨_, ac_W_at (List.getElem?_eq_getElem hi), rfl⟩
  refine ⟨fun i j p q hp hq hpq => ?_, fun k q hk => ?_⟩
  · obtain ⟨p', h1, e1⟩ := key i p hp
    obtain ⟨q', h2, e2⟩ := key j q hq
    exact h.1 i j p' q' h1 h2 (by rw [e1, e2, hpq])
  · obtain ⟨q', h1, e1⟩ := key k q hk
    rw [← e1]
    exact h.2 k q' h1
-- locals: a list by place, null: nothing known there
def ac_l (ad : Nat → Nat) : Nat → List Value → List (Nat × Value)
  | _, [] => []
  | k, v :: t => match v with
    | .null => ac_l ad (k + 1) t
    | .int x => (k, .int x) :: ac_l ad (k + 1) t
    | .long x => (k, .long x) :: ac_l ad (k + 1) t
    | .float x => (k, .float x) :: ac_l ad (k + 1) t
    | .double x => (k, .double x) :: ac_l ad (k + 1) t
    | .ref x => (k, .ref (ad x)) :: ac_l ad (k + 1) t
    | .retAddr x => (k, .retAddr x) :: ac_l ad (k + 1) t
theorem ac_l_mem (ad : Nat → Nat) : ∀ (loc : List Value) (k : Nat) (q : Nat × Value), q ∈ ac_l ad k loc ↔ ∃ (j : Nat) (v : Value), loc[j]? = some v ∧ v ≠ .null ∧ q = (k + j, ac_v ad v)
  | [], k, q => by simp [ac_l]
  | v :: t, k, q => by
    have ih := ac_l_mem ad t (k + 1) q
    have key : (∃ (j : Nat) (u : Value), (v :: t)[j]? = some u ∧ u ≠ .null ∧ q = (k + j, ac_v ad u)) ↔ (v ≠ .null ∧ q = (k, ac_v ad v)) ∨ q ∈ ac_l ad (k + 1) t := by
      rw [ih]
      constructor
      · rintro ⟨j, u, h1, h2, h3⟩
        cases j with
        | zero => simp at h1; subst h1; exact Or.inl ⟨h2, h3⟩
        | succ j => exact Or.inr ⟨j, u, by simpa using h1, h2, by rw [h3, show k + 1 + j = k + (j + 1) by omega]⟩
      · rintro (⟨h1, h2⟩ | ⟨j, u, h1, h2, h3⟩)
        · exact ⟨0, v, by simp, h1, by simpa using h2⟩
        · exact ⟨j + 1, u, by simpa using h1, h2, by rw [h3, show k + 1 + j = k + (j + 1) by omega]⟩
    rw [key]
    cases v <;> simp [ac_l, ac_v]
def ac_L (ad : Nat → Nat) (ls : Array Slot) (nL : Nat) (loc : List Value) : Prop := lv_has ls nL (ac_l ad 0 loc)
theorem ac_L.at {ad : Nat → Nat} {ls : Array Slot} {nL : Nat} {loc : List Value} (h : ac_L ad ls nL loc) {j : Nat} {v : Value} (hj : loc[j]? = some v) (hv : v ≠ .null) : ls[j]? = some (.val (ac_v ad v)) := by
  have := h.2.2 (j, ac_v ad v) ((ac_l_mem ad loc 0 _).mpr ⟨j, v, hj, hv, by rw [Nat.zero_add]⟩)
  exact this
theorem ac_v_cat (ad : Nat → Nat) (v : Value) : (ac_v ad v).category = v.category := by cases v <;> rfl
theorem ac_L.st1 {ad : Nat → Nat} {ls ls' : Array Slot} {nL : Nat} {loc : List Value} {i : Nat} {v : Value} (hp : ∀ (k : Nat) (u : Value), k + 1 = i → loc[k]? = some u → u.category = 1)
    (h : lv_has ls' nL ((i, ac_v ad v) :: (ac_l ad 0 loc).filter (fun q => !(q.1 == i) && !(q.1 + 1 == i && q.2.category == 2)))) : ac_L ad ls' nL (loc.set i v) := by
  refine ⟨h.1, h.2.1, fun q hq => h.2.2 q ?_⟩
  obtain ⟨j, u, h1, h2, rfl⟩ := (ac_l_mem ad _ 0 q).mp hq
  rw [Nat.zero_add]
  by_cases hj : j = i
  · subst hj
    rw [List.getElem?_set_self' ] at h1
    cases hl : loc[j]? with
    | none => rw [hl] at h1; cases h1
    | some z => rw [hl] at h1; cases h1; exact List.mem_cons_self
  · rw [List.getElem?_set_ne (fun e => hj e.symm)] at h1
    refine List.mem_cons_of_mem _ (List.mem_filter.mpr ⟨(ac_l_mem ad loc 0 _).mpr ⟨j, u, h1, h2, by rw [Nat.zero_add]⟩, ?_⟩)
    have e1 : (j == i) = false := by simpa using hj
    simp only [e1, Bool.not_false, Bool.true_and, Bool.not_eq_true', Bool.and_eq_false_iff, ac_v_cat]
    by_cases hk : j + 1 = i
    · right
      rw [hp j u hk h1]; rfl
    · left
      simpa using hk
theorem ac_L.st2 {ad : Nat → Nat} {ls' : Array Slot} {nL : Nat} {loc : List Value} {i : Nat} {v : Value} (hp : ∀ (k : Nat) (u : Value), k + 1 = i → loc[k]? = some u → u.category = 1)
    (h : lv_has ls' nL ((i, ac_v ad v) :: (ac_l ad 0 loc).filter (fun q => !(q.1 == i) && (!(q.1 == i + 1) && !(q.1 + 1 == i && q.2.category == 2))))) : ac_L ad ls' nL ((loc.set i v).set (i + 1) .null) := by
  refine ⟨h.1, h.2.1, fun q hq => h.2.2 q ?_⟩
  obtain ⟨j, u, h1, h2, rfl⟩ := (ac_l_mem ad _ 0 q).mp hq
  rw [Nat.zero_add]
  by_cases hj1 : j = i + 1
  · subst hj1
    rw [List.getElem?_set_self'] at h1
    cases hl : (loc.set i v)[i + 1]? with
    | none => rw [hl] at h1; cases h1
    | some z => rw [hl] at h1; cases h1; exact absurd rfl h2
  rw [List.getElem?_set_ne (fun e => hj1 e.symm)] at h1
  by_cases hj : j = i
  · subst hj
    rw [List.getElem?_set_self'] at h1
    cases hl : loc[j]? with
    | none => rw [hl] at h1; cases h1
    | some z => rw [hl] at h1; cases h1; exact List.mem_cons_self
  · rw [List.getElem?_set_ne (fun e => hj e.symm)] at h1
    refine List.mem_cons_of_mem _ (List.mem_filter.mpr ⟨(ac_l_mem ad loc 0 _).mpr ⟨j, u, h1, h2, by rw [Nat.zero_add]⟩, ?_⟩)
    have e1 : (j == i) = false := by simpa using hj
    have e2 : (j == i + 1) = false := by simpa using hj1
    simp only [e1, e2, Bool.not_false, Bool.true_and, Bool.not_eq_true', Bool.and_eq_false_iff, ac_v_cat]
    by_cases hk : j + 1 = i
    · right
      rw [hp j u hk h1]; rfl
    · left
      simpa using hk
-- the constants of Kind
def ac_nm : List String := ["PERSON", "CHILD", "WIDOW", "GRUNTER", "SAINT"]
def ac_F : List (String × String × String × List Int32) := [("ThanksOwed$Kind", "timesAsDebtor", "I", [1, 0, 1, 1, 1]), ("ThanksOwed$Kind", "timesAsCreditor", "I", [1, 1, 2, 1, 0]), ("ThanksOwed$Kind", "thanks", "Z", [1, 1, 1, 0, 0]), ("ThanksOwed$Kind", "sulks", "Z", [1, 1, 1, 1, 0])]
def ac_K (ad : Nat → Nat) (A : Nat → Prop) (U : State) (H : Heap) : Prop := va_En "ThanksOwed$Kind" "LThanksOwed$Kind;" ac_nm ac_F (fun i => ad (1000 + i)) A U H ∧ va_Z "ThanksOwed" "KINDS" "[LThanksOwed$Kind;" (.ref (ad 1010)) A U H ∧ va_T (.object "ThanksOwed$Kind") (ad 1010) 5 (fun j => .ref (ad (1000 + j))) A U H
theorem ac_K.moved {ad : Nat → Nat} {A : Nat → Prop} {u U : State} {H : Heap} (hvm : u.vm.Alike U.vm) (h : ac_K ad A u H) : ac_K ad A U H := ⟨h.1.moved hvm, h.2.1.moved hvm, h.2.2.moved hvm⟩
theorem ac_K.kept {ad : Nat → Nat} {A : Nat → Prop} {U : State} {H H1 : Heap} (h : ac_K ad A U H) (hq : ∀ a : Nat, a < H.size → ¬ A a → H1[a]? = H[a]?) : ac_K ad A U H1 := ⟨h.1.kept hq, h.2.1.kept hq, h.2.2.kept hq⟩
theorem ac_K.narrow {ad : Nat → Nat} {A B : Nat → Prop} {U : State} {H : Heap} (h : ac_K ad A U H) (hAB : ∀ q, B q → A q) : ac_K ad B U H := ⟨h.1.narrow hAB, h.2.1.narrow hAB, h.2.2.narrow hAB⟩
-- the links to nest mates
def ac_N (U : State) : Prop := (∀ q ∈ gn_L, va_Nw (.methodLinkNest q.1 q.2.1 q.2.2.1 q.2.2.2) U) ∧ va_Nw (.fieldLinkNest RX8 55 "ThanksOwed" "KINDS" "[LThanksOwed$Kind;" "ThanksOwed") U
theorem ac_N.warm {s U : State} (hW : s.WarmedH U.vm) (h : ac_N s) : ac_N U := ⟨fun q hq => va_Nw.warmM hW (h.1 q hq), va_Nw.warmF hW h.2⟩
theorem ac_N.same {s U : State} (e : s.vm = U.vm) (h : ac_N s) : ac_N U := ⟨fun q hq => va_Nw.same rfl e (h.1 q hq), va_Nw.same rfl e h.2⟩
abbrev ac_ty (cI cB : ClassId) : List (ClassId × FieldType) := [(cI, .int), (cB, .byte)]
abbrev ac_rm (d : Nat) : Room := { frames := d, cells := 0, slots := 0, locals := 40 * d }
/-- where a method of the worlds stands: what stays the same along its body -/
def ac_C (own : String) (cc : ByteArray) (mL : Nat) (rt : Option FieldType) (p : Program) (s : State) (m : MethodId) (args : Array Value) (meth : Method) (c : Code) (D : va_G) (cI cB : ClassId) (ad : Nat → Nat) (A : Nat → Prop) : Prop :=
  p.tables.exec = Jvm.exec ∧ c.code = cc ∧ meth.sig.returnType = rt ∧ c.maxLocals = mL ∧ s.vm.findClass own = some m.cls ∧ meth.locks = false ∧ (∀ w ∈ gw_L, w.before args s = true) ∧ va_K D vwCl (ac_ty cI cB) s ∧ ac_N s ∧ ac_K ad A s s.heap ∧ ∀ q, s.heap.size ≤ q → A q
/-- how a method of the worlds ends -/
def ac_Q (D : va_G) (cI cB : ClassId) (ad : Nat → Nat) (A : Nat → Prop) (n : Nat) (Po : Option Value → List ac_T → Prop) : Array Value → State → Outcome → State → Prop := fun _ st o t => ∃ (r : Option Value) (w' : List ac_T), o = .returned (r.map (ac_v ad)) ∧ Po r w' ∧ w'.length = n ∧ va_P D vwCl (ac_W cI cB ad 0 w') t.heap ∧ va_F A st t
/-- the pure machine at pc, with locals, stack and world, comes to a return with Po -/
def AW (d : Nat) (own : String) (cc : ByteArray) (mL : Nat) (rt : Option FieldType) (n : Nat) (Po : Option Value → List ac_T → Prop) (pc : Nat) (loc st : List Value) (w : List ac_T) : Prop :=
  ∀ (p : Program) (l : Launch) (e : Env) (s : State) (m : MethodId) (args : Array Value) (below : List Frame) (meth : Method) (c : Code) (D : va_G) (cI cB : ClassId) (ad : Nat → Nat) (A : Nat → Prop), ac_C own cc mL rt p s m args meth c D cI cB ad A →
  ∀ (H : Heap) (locs : List Loc) (ls : Array Slot), w.length = n → va_P D vwCl (ac_W cI cB ad 0 w) H → va_D A (ac_W cI cB ad 0 w) → va_S A s.heap H locs → ac_L ad ls mL loc →
  W p l e (ac_rm d) s m args below meth c H locs 0 0 (MQ below (ac_Q D cI cB ad A n Po) args s 0 0 A) (F0 m pc ls (st.map (ac_v ad)))
/-- a contract of the worlds -/
def AM (d : Nat) (y : MethodName) (cc : ByteArray) (mL : Nat) (rt : Option FieldType) (as : List Value) (w : List ac_T) (Po : Option Value → List ac_T → Prop) : Prop :=
  ∀ (l : Launch) (D : va_G) (cI cB : ClassId) (ad : Nat → Nat) (sz : Nat), Met l y (Cond.code y cc mL rt :: gw_L) (ac_rm d) (va_Pc (as.map (ac_v ad)) (fun U => U.heap.size = sz ∧ va_P D vwCl (ac_W cI cB ad 0 w) U.heap ∧ va_K D vwCl (ac_ty cI cB) U ∧ va_D (fun _ => True) (ac_W cI cB ad 0 w) ∧ ac_N U ∧ ac_K ad (va_A (ac_W cI cB ad 0 w) sz) U U.heap))
    (ac_Q D cI cB ad (va_A (ac_W cI cB ad 0 w) sz) w.length Po) 0 0 (va_A (ac_W cI cB ad 0 w) sz)
def ac_el : List Value → List Value
  | [] => []
  | v :: t => if v.category = 2 then v :: .null :: ac_el t else v :: ac_el t
theorem ac_el_len (ad : Nat → Nat) : ∀ as : List Value, (lg_sl (as.map (ac_v ad))).length = (ac_el as).length
  | [] => rfl
  | v :: t => by
    have ih := ac_el_len ad t
    simp only [lg_sl, List.map_cons, List.flatMap_cons, List.length_append, ac_v_cat, ac_el] at ih ⊢
    by_cases h : v.category = 2
    · simp only [h, if_true, List.length_cons, List.length_nil]; omega
    · simp only [h, if_false, List.length_cons, List.length_nil]; omega
theorem ac_el_args (ad : Nat → Nat) : ∀ (as : List Value) (k : Nat) (q : Nat × Value), (∃ (j : Nat) (v : Value), (ac_el as)[j]? = some v ∧ v ≠ .null ∧ q = (k + j, ac_v ad v)) → q ∈ lv_args k (as.map (ac_v ad))
  | [], k, q => by simp [ac_el]
  | v :: t, k, q => by
    rintro ⟨j, u, h1, h2, rfl⟩
    simp only [List.map_cons, lv_args, ac_v_cat]
    by_cases h : v.category = 2
    · simp only [ac_el, h, if_true] at h1 ⊢
      match j, h1 with
      | 0, h1 => simp at h1; subst h1; exact List.mem_cons_self
      | 1, h1 => simp at h1; exact absurd h1.symm h2
      | j + 2, h1 => exact List.mem_cons_of_mem _ (ac_el_args ad t (k + 2) _ ⟨j, u, by simpa using h1, h2, by rw [show k + 2 + j = k + (j + 2) by omega]⟩)
    · simp only [ac_el, h, if_false] at h1 ⊢
      match j, h1 with
      | 0, h1 => simp at h1; subst h1; exact List.mem_cons_self
      | j + 1, h1 => exact List.mem_cons_of_mem _ (ac_el_args ad t (k + 1) _ ⟨j, u, by simpa using h1, h2, by rw [show k + 1 + j = k + (j + 1) by omega]⟩)
set_option maxHeartbeats 4000000 in
theorem AM.of {d : Nat} {y : MethodName} {cc : ByteArray} {mL : Nat} {rt : Option FieldType} {as : List Value} {w : List ac_T} {Po : Option Value → List ac_T → Prop} {loc : List Value} (hy : plainName y.cls = true) (hlen : (ac_el as).length ≤ mL) (hloc : ac_el as ++ List.replicate (mL - (ac_el as).length) .null = loc)
    (h : AW d y.cls cc mL rt w.length Po 0 loc [] w) : AM d y cc mL rt as w Po := by
  intro l D cI cB ad sz
  refine Met.ofW (cc := cc) (maxL := mL) (ret := rt) hy rfl ?_
  intro p e s m args below meth c s₁ B hml hv
  obtain ⟨rfl, hsz, hP, hK, hD0, hN, hF⟩ := hv
  have hts := atoms_spec (ws := Cond.code y cc mL rt :: gw_L) B.pre
  have hown : s.vm.findClass y.cls = some m.cls := findClass_of_methodNamed B.named
  subst hsz
  have hD := hD0.self (sz := s.heap.size)
  have hl := lv_entry (as.map (ac_v ad)) (n := mL) (by rw [ac_el_len]; exact hlen)
  rw [lg_entry_eq]
  refine h p l e s m _ below meth c D cI cB ad (va_A (ac_W cI cB ad 0 w) s.heap.size) ⟨B.exec, B.bytes, B.returns, hml, hown, B.notSynchronized, fun w hw => hts w (List.mem_cons_of_mem _ hw), hK, hN, hF, fun q hq => Or.inr hq⟩ s.heap [] _ rfl hP hD va_S.rf ⟨hl.1, hl.2.1, fun q hq => hl.2.2 q ?_⟩
  obtain ⟨j, v, h1, h2, rfl⟩ := (ac_l_mem ad loc 0 q).mp hq
  refine ac_el_args ad as 0 _ ⟨j, v, ?_, h2, rfl⟩
  subst hloc
  rw [List.getElem?_append] at h1
  split at h1
  · exact h1
  · rw [List.getElem?_replicate] at h1
    split at h1
    · cases h1; exact absurd rfl h2
    · cases h1
theorem ac_blind {as : List Value} {D : va_G} {cI cB : ClassId} {ad : Nat → Nat} {sz : Nat} {w : List ac_T} : FrameBlind (va_Pc (as.map (ac_v ad)) (fun U => U.heap.size = sz ∧ va_P D vwCl (ac_W cI cB ad 0 w) U.heap ∧ va_K D vwCl (ac_ty cI cB) U ∧ va_D (fun _ => True) (ac_W cI cB ad 0 w) ∧ ac_N U ∧ ac_K ad (va_A (ac_W cI cB ad 0 w) sz) U U.heap)) := by
  intro a U g mk q
  obtain ⟨q0, q1, qP, qK, qD, qN, qF⟩ := q
  exact ⟨q0, q1, qP, va_K.moved (u := U) (U := U.calling g mk a) (Vm.Alike.refl U.vm) qK, qD, qN.same rfl, ac_K.moved (u := U) (U := U.calling g mk a) (Vm.Alike.refl U.vm) qF⟩
section Rows
variable {d : Nat} {own : String} {cc : ByteArray} {mL : Nat} {rt : Option FieldType} {n : Nat} {Po : Option Value → List ac_T → Prop} {pc : Nat} {loc st : List Value} {w : List ac_T}
theorem aw_w {w' : List ac_T} (e : w = w') (k : AW d own cc mL rt n Po pc loc st w') : AW d own cc mL rt n Po pc loc st w := e ▸ k
theorem aw_st {loc' st' : List Value} {w' : List ac_T} (e1 : loc = loc') (e2 : st = st') (e3 : w = w') (k : AW d own cc mL rt n Po pc loc' st' w') : AW d own cc mL rt n Po pc loc st w := by subst e1; subst e2; subst e3; exact k
theorem aw_pc {pc' : Nat} (e : pc = pc') (k : AW d own cc mL rt n Po pc' loc st w) : AW d own cc mL rt n Po pc loc st w := e ▸ k
theorem aw_wk {Po' : Option Value → List ac_T → Prop} (k : AW d own cc mL rt n Po pc loc st w) (h : ∀ r w', Po r w' → Po' r w') : AW d own cc mL rt n Po' pc loc st w := by
  intro p l e s m args below meth c D cI cB ad A C H locs ls hn hP hD hS hl T hT X
  obtain ⟨t, h1, o, h2, h3, ⟨r, w', h4, h5, h6⟩, h7⟩ := k p l e s m args below meth c D cI cB ad A C H locs ls hn hP hD hS hl T hT X
  exact ⟨t, h1, o, h2, h3, ⟨r, w', h4, h _ _ h5, h6⟩, h7⟩
/-- what an array holds behind its end doesn't matter -/
theorem aw_arr {id t N : Nat} {f g : Nat → Int32} (hw : w[id]? = some (.inl (t, N, f))) (hfg : ∀ k, k < N → f k = g k) (k : AW d own cc mL rt n Po pc loc st (w.set id (.inl (t, N, g)))) : AW d own cc mL rt n Po pc loc st w := by
  intro p l e s m args below meth c D cI cB ad A C H locs ls hn hP hD hS hl
  refine k p l e s m args below meth c D cI cB ad A C H locs ls (by rw [List.length_set]; exact hn) ?_ (ac_D hD (by rw [List.length_set])) hS hl
  intro i q hq
  by_cases hi : i = id
  · subst hi
    obtain ⟨c', h1, rfl⟩ := ac_W_of hq
    have hlt : i < w.length := (List.getElem?_eq_some_iff.mp hw).1
    rw [List.getElem?_set_self hlt] at h1
    cases h1
    have h2 : H[ad i]? = some (vp_cell _ (N, .inl f)) := hP i _ (ac_W_at hw)
    show H[ad i]? = some (vp_cell _ (N, .inl g))
    rw [h2, vp_cell_i, vp_cell_i]
    congr 2
    unfold arrV
    congr 2
    funext j
    rw [hfg j.val j.isLt]
  · refine hP i q ?_
    rw [← hq, ac_W_get, ac_W_get, List.getElem?_set_ne (fun e => hi e.symm)]
theorem aw_iconst {z : Int} {v : Int32} (hd : decode cc pc = .ok (.iconst z, 1)) (hv : Int32.ofInt z = v) (k : AW d own cc mL rt n Po (pc + 1) loc (.int v :: st) w) : AW d own cc mL rt n Po (pc) loc (st) w := by
  intro p l e s m args below meth c D cI cB ad A C H locs ls hn hP hD hS hl
  exact lv_iconst C.1 C.2.1  hd hv (k p l e s m args below meth c D cI cB ad A C H locs ls hn hP hD hS hl)
theorem aw_bipush {z : Int} {v : Int32} (hd : decode cc pc = .ok (.bipush z, 2)) (hv : (Int8.ofInt z).toInt32 = v) (k : AW d own cc mL rt n Po (pc + 2) loc (.int v :: st) w) : AW d own cc mL rt n Po (pc) loc (st) w := by
  intro p l e s m args below meth c D cI cB ad A C H locs ls hn hP hD hS hl
  exact lv_bipush C.1 C.2.1  hd hv (k p l e s m args below meth c D cI cB ad A C H locs ls hn hP hD hS hl)
theorem aw_sipush {z : Int} {v : Int32} (hd : decode cc pc = .ok (.sipush z, 3)) (hv : (Int16.ofInt z).toInt32 = v) (k : AW d own cc mL rt n Po (pc + 3) loc (.int v :: st) w) : AW d own cc mL rt n Po (pc) loc (st) w := by
  intro p l e s m args below meth c D cI cB ad A C H locs ls hn hP hD hS hl
  exact lv_sipush C.1 C.2.1  hd hv (k p l e s m args below meth c D cI cB ad A C H locs ls hn hP hD hS hl)
theorem aw_ldc {i : Nat} {v : Int32} (hc : Cond.constant own i v ∈ gw_L) (hd : decode cc pc = .ok (.ldc i, 2)) (k : AW d own cc mL rt n Po (pc + 2) loc (.int v :: st) w) : AW d own cc mL rt n Po (pc) loc (st) w := by
  intro p l e s m args below meth c D cI cB ad A C H locs ls hn hP hD hS hl
  exact lv_ldc C.1 C.2.1 C.2.2.2.2.1 (C.2.2.2.2.2.2.1 _ hc) hd (k p l e s m args below meth c D cI cB ad A C H locs ls hn hP hD hS hl)
theorem aw_ldcw {i : Nat} {v : Int32} (hc : Cond.constant own i v ∈ gw_L) (hd : decode cc pc = .ok (.ldc_w i, 3)) (k : AW d own cc mL rt n Po (pc + 3) loc (.int v :: st) w) : AW d own cc mL rt n Po (pc) loc (st) w := by
  intro p l e s m args below meth c D cI cB ad A C H locs ls hn hP hD hS hl
  exact lv_ldcw C.1 C.2.1 C.2.2.2.2.1 (C.2.2.2.2.2.2.1 _ hc) hd (k p l e s m args below meth c D cI cB ad A C H locs ls hn hP hD hS hl)
theorem aw_ldc2 {i : Nat} {v : Int64} (hc : Cond.constantLong own i v ∈ gw_L) (hd : decode cc pc = .ok (.ldc2_w i, 3)) (k : AW d own cc mL rt n Po (pc + 3) loc (.long v :: st) w) : AW d own cc mL rt n Po (pc) loc (st) w := by
  intro p l e s m args below meth c D cI cB ad A C H locs ls hn hP hD hS hl
  exact lv_ldc2 C.1 C.2.1 C.2.2.2.2.1 (C.2.2.2.2.2.2.1 _ hc) hd (k p l e s m args below meth c D cI cB ad A C H locs ls hn hP hD hS hl)
theorem aw_iadd {x y : Int32} (hd : decode cc pc = .ok (.iadd, 1))  (k : AW d own cc mL rt n Po (pc + 1) loc (.int (x + y) :: st) w) : AW d own cc mL rt n Po (pc) loc (.int y :: .int x :: st) w := by
  intro p l e s m args below meth c D cI cB ad A C H locs ls hn hP hD hS hl
  exact lv_iadd C.1 C.2.1  hd  (k p l e s m args below meth c D cI cB ad A C H locs ls hn hP hD hS hl)
theorem aw_isub {x y : Int32} (hd : decode cc pc = .ok (.isub, 1))  (k : AW d own cc mL rt n Po (pc + 1) loc (.int (x - y) :: st) w) : AW d own cc mL rt n Po (pc) loc (.int y :: .int x :: st) w := by
  intro p l e s m args below meth c D cI cB ad A C H locs ls hn hP hD hS hl
  exact lv_isub C.1 C.2.1  hd  (k p l e s m args below meth c D cI cB ad A C H locs ls hn hP hD hS hl)
theorem aw_imul {x y : Int32} (hd : decode cc pc = .ok (.imul, 1))  (k : AW d own cc mL rt n Po (pc + 1) loc (.int (x * y) :: st) w) : AW d own cc mL rt n Po (pc) loc (.int y :: .int x :: st) w := by
  intro p l e s m args below meth c D cI cB ad A C H locs ls hn hP hD hS hl
  exact lv_imul C.1 C.2.1  hd  (k p l e s m args below meth c D cI cB ad A C H locs ls hn hP hD hS hl)
theorem aw_iand {x y : Int32} (hd : decode cc pc = .ok (.iand, 1))  (k : AW d own cc mL rt n Po (pc + 1) loc (.int (x &&& y) :: st) w) : AW d own cc mL rt n Po (pc) loc (.int y :: .int x :: st) w := by
  intro p l e s m args below meth c D cI cB ad A C H locs ls hn hP hD hS hl
  exact lv_iand C.1 C.2.1  hd  (k p l e s m args below meth c D cI cB ad A C H locs ls hn hP hD hS hl)
theorem aw_ior {x y : Int32} (hd : decode cc pc = .ok (.ior, 1))  (k : AW d own cc mL rt n Po (pc + 1) loc (.int (x ||| y) :: st) w) : AW d own cc mL rt n Po (pc) loc (.int y :: .int x :: st) w := by
  intro p l e s m args below meth c D cI cB ad A C H locs ls hn hP hD hS hl
  exact lv_ior C.1 C.2.1  hd  (k p l e s m args below meth c D cI cB ad A C H locs ls hn hP hD hS hl)
theorem aw_ixor {x y : Int32} (hd : decode cc pc = .ok (.ixor, 1))  (k : AW d own cc mL rt n Po (pc + 1) loc (.int (x ^^^ y) :: st) w) : AW d own cc mL rt n Po (pc) loc (.int y :: .int x :: st) w := by
  intro p l e s m args below meth c D cI cB ad A C H locs ls hn hP hD hS hl
  exact lv_ixor C.1 C.2.1  hd  (k p l e s m args below meth c D cI cB ad A C H locs ls hn hP hD hS hl)
theorem aw_ishl {x y : Int32} (hd : decode cc pc = .ok (.ishl, 1))  (k : AW d own cc mL rt n Po (pc + 1) loc (.int (x <<< (y &&& 31)) :: st) w) : AW d own cc mL rt n Po (pc) loc (.int y :: .int x :: st) w := by
  intro p l e s m args below meth c D cI cB ad A C H locs ls hn hP hD hS hl
  exact lv_ishl C.1 C.2.1  hd  (k p l e s m args below meth c D cI cB ad A C H locs ls hn hP hD hS hl)
theorem aw_ishr {x y : Int32} (hd : decode cc pc = .ok (.ishr, 1))  (k : AW d own cc mL rt n Po (pc + 1) loc (.int (x >>> (y &&& 31)) :: st) w) : AW d own cc mL rt n Po (pc) loc (.int y :: .int x :: st) w := by
  intro p l e s m args below meth c D cI cB ad A C H locs ls hn hP hD hS hl
  exact lv_ishr C.1 C.2.1  hd  (k p l e s m args below meth c D cI cB ad A C H locs ls hn hP hD hS hl)
theorem aw_iushr {x y : Int32} (hd : decode cc pc = .ok (.iushr, 1))  (k : AW d own cc mL rt n Po (pc + 1) loc (.int ((x.toUInt32 >>> (y.toUInt32 &&& Int32.toUInt32 31)).toInt32) :: st) w) : AW d own cc mL rt n Po (pc) loc (.int y :: .int x :: st) w := by
  intro p l e s m args below meth c D cI cB ad A C H locs ls hn hP hD hS hl
  exact lv_iushr C.1 C.2.1  hd rfl (k p l e s m args below meth c D cI cB ad A C H locs ls hn hP hD hS hl)
theorem aw_idiv {x y : Int32} (hd : decode cc pc = .ok (.idiv, 1)) (hne : ¬ y = 0) (k : AW d own cc mL rt n Po (pc + 1) loc (.int (x / y) :: st) w) : AW d own cc mL rt n Po (pc) loc (.int y :: .int x :: st) w := by
  intro p l e s m args below meth c D cI cB ad A C H locs ls hn hP hD hS hl
  exact lv_idiv C.1 C.2.1  hd hne (k p l e s m args below meth c D cI cB ad A C H locs ls hn hP hD hS hl)
theorem aw_irem {x y : Int32} (hd : decode cc pc = .ok (.irem, 1)) (hne : ¬ y = 0) (k : AW d own cc mL rt n Po (pc + 1) loc (.int (x - x / y * y) :: st) w) : AW d own cc mL rt n Po (pc) loc (.int y :: .int x :: st) w := by
  intro p l e s m args below meth c D cI cB ad A C H locs ls hn hP hD hS hl
  exact lv_irem C.1 C.2.1  hd hne (k p l e s m args below meth c D cI cB ad A C H locs ls hn hP hD hS hl)
theorem aw_ladd {x y : Int64} (hd : decode cc pc = .ok (.ladd, 1))  (k : AW d own cc mL rt n Po (pc + 1) loc (.long (x + y) :: st) w) : AW d own cc mL rt n Po (pc) loc (.long y :: .long x :: st) w := by
  intro p l e s m args below meth c D cI cB ad A C H locs ls hn hP hD hS hl
  exact lv_ladd C.1 C.2.1  hd  (k p l e s m args below meth c D cI cB ad A C H locs ls hn hP hD hS hl)
theorem aw_lmul {x y : Int64} (hd : decode cc pc = .ok (.lmul, 1))  (k : AW d own cc mL rt n Po (pc + 1) loc (.long (x * y) :: st) w) : AW d own cc mL rt n Po (pc) loc (.long y :: .long x :: st) w := by
  intro p l e s m args below meth c D cI cB ad A C H locs ls hn hP hD hS hl
  exact lv_lmul C.1 C.2.1  hd  (k p l e s m args below meth c D cI cB ad A C H locs ls hn hP hD hS hl)
theorem aw_land {x y : Int64} (hd : decode cc pc = .ok (.land, 1))  (k : AW d own cc mL rt n Po (pc + 1) loc (.long (x &&& y) :: st) w) : AW d own cc mL rt n Po (pc) loc (.long y :: .long x :: st) w := by
  intro p l e s m args below meth c D cI cB ad A C H locs ls hn hP hD hS hl
  exact lv_land C.1 C.2.1  hd  (k p l e s m args below meth c D cI cB ad A C H locs ls hn hP hD hS hl)
theorem aw_ldiv {x y : Int64} (hd : decode cc pc = .ok (.ldiv, 1)) (hne : ¬ y = 0) (k : AW d own cc mL rt n Po (pc + 1) loc (.long (x / y) :: st) w) : AW d own cc mL rt n Po (pc) loc (.long y :: .long x :: st) w := by
  intro p l e s m args below meth c D cI cB ad A C H locs ls hn hP hD hS hl
  exact lv_ldiv C.1 C.2.1  hd hne (k p l e s m args below meth c D cI cB ad A C H locs ls hn hP hD hS hl)
theorem aw_lrem {x y : Int64} (hd : decode cc pc = .ok (.lrem, 1)) (hne : ¬ y = 0) (k : AW d own cc mL rt n Po (pc + 1) loc (.long (x - x / y * y) :: st) w) : AW d own cc mL rt n Po (pc) loc (.long y :: .long x :: st) w := by
  intro p l e s m args below meth c D cI cB ad A C H locs ls hn hP hD hS hl
  exact lv_lrem C.1 C.2.1  hd hne (k p l e s m args below meth c D cI cB ad A C H locs ls hn hP hD hS hl)
theorem aw_i2l {x : Int32} (hd : decode cc pc = .ok (.i2l, 1))  (k : AW d own cc mL rt n Po (pc + 1) loc (.long x.toInt64 :: st) w) : AW d own cc mL rt n Po (pc) loc (.int x :: st) w := by
  intro p l e s m args below meth c D cI cB ad A C H locs ls hn hP hD hS hl
  exact lv_i2l C.1 C.2.1  hd rfl (k p l e s m args below meth c D cI cB ad A C H locs ls hn hP hD hS hl)
theorem aw_l2i {x : Int64} (hd : decode cc pc = .ok (.l2i, 1))  (k : AW d own cc mL rt n Po (pc + 1) loc (.int x.toInt32 :: st) w) : AW d own cc mL rt n Po (pc) loc (.long x :: st) w := by
  intro p l e s m args below meth c D cI cB ad A C H locs ls hn hP hD hS hl
  exact lv_l2i C.1 C.2.1  hd rfl (k p l e s m args below meth c D cI cB ad A C H locs ls hn hP hD hS hl)
theorem aw_i2b {x : Int32} (hd : decode cc pc = .ok (.i2b, 1))  (k : AW d own cc mL rt n Po (pc + 1) loc (.int x.toInt8.toInt32 :: st) w) : AW d own cc mL rt n Po (pc) loc (.int x :: st) w := by
  intro p l e s m args below meth c D cI cB ad A C H locs ls hn hP hD hS hl
  exact lv_i2b C.1 C.2.1  hd rfl (k p l e s m args below meth c D cI cB ad A C H locs ls hn hP hD hS hl)
theorem aw_dup {v : Value} (hd : decode cc pc = .ok (.dup, 1)) (hv : v.category = 1) (k : AW d own cc mL rt n Po (pc + 1) loc (v :: v :: st) w) : AW d own cc mL rt n Po (pc) loc (v :: st) w := by
  intro p l e s m args below meth c D cI cB ad A C H locs ls hn hP hD hS hl
  exact lv_dup C.1 C.2.1  hd ((ac_v_cat ad v).trans hv) (k p l e s m args below meth c D cI cB ad A C H locs ls hn hP hD hS hl)
theorem aw_pop {v : Value} (hd : decode cc pc = .ok (.pop, 1)) (hv : v.category = 1) (k : AW d own cc mL rt n Po (pc + 1) loc (st) w) : AW d own cc mL rt n Po (pc) loc (v :: st) w := by
  intro p l e s m args below meth c D cI cB ad A C H locs ls hn hP hD hS hl
  exact lv_pop C.1 C.2.1  hd ((ac_v_cat ad v).trans hv) (k p l e s m args below meth c D cI cB ad A C H locs ls hn hP hD hS hl)
theorem aw_dup2 {v u : Value} (hd : decode cc pc = .ok (.dup2, 1)) (hv : v.category = 1) (hu : u.category = 1) (k : AW d own cc mL rt n Po (pc + 1) loc (v :: u :: v :: u :: st) w) : AW d own cc mL rt n Po (pc) loc (v :: u :: st) w := by
  intro p l e s m args below meth c D cI cB ad A C H locs ls hn hP hD hS hl
  exact lv_dup2_11 C.1 C.2.1  hd ((ac_v_cat ad v).trans hv) ((ac_v_cat ad u).trans hu) (k p l e s m args below meth c D cI cB ad A C H locs ls hn hP hD hS hl)
theorem aw_goto {off : Int} (tgt : Nat) (hd : decode cc pc = .ok (.goto off, 3)) (ht : (pc : Int) + off = (tgt : Int)) (k : AW d own cc mL rt n Po (tgt) loc (st) w) : AW d own cc mL rt n Po (pc) loc (st) w := by
  intro p l e s m args below meth c D cI cB ad A C H locs ls hn hP hD hS hl
  exact lv_goto C.1 C.2.1 hd ht (k p l e s m args below meth c D cI cB ad A C H locs ls hn hP hD hS hl)
theorem aw_icmp_eq {off : Int} {x y : Int32} (tgt : Nat) (hd : decode cc pc = .ok (.if_icmp .eq off, 3)) (ht : (pc : Int) + off = (tgt : Int)) (kt : x = y → AW d own cc mL rt n Po (tgt) loc (st) w) (kf : ¬ x = y → AW d own cc mL rt n Po (pc + 3) loc (st) w) : AW d own cc mL rt n Po (pc) loc (.int y :: .int x :: st) w := by
  intro p l e s m args below meth c D cI cB ad A C H locs ls hn hP hD hS hl
  exact lv_icmp_eq C.1 C.2.1 hd ht (fun h => kt h p l e s m args below meth c D cI cB ad A C H locs ls hn hP hD hS hl) (fun h => kf h p l e s m args below meth c D cI cB ad A C H locs ls hn hP hD hS hl)
theorem aw_if_eq {off : Int} {x : Int32} (tgt : Nat) (hd : decode cc pc = .ok (.ifCond .eq off, 3)) (ht : (pc : Int) + off = (tgt : Int)) (kt : x = 0 → AW d own cc mL rt n Po (tgt) loc (st) w) (kf : ¬ x = 0 → AW d own cc mL rt n Po (pc + 3) loc (st) w) : AW d own cc mL rt n Po (pc) loc (.int x :: st) w := by
  intro p l e s m args below meth c D cI cB ad A C H locs ls hn hP hD hS hl
  exact lv_if_eq C.1 C.2.1 hd ht (fun h => kt h p l e s m args below meth c D cI cB ad A C H locs ls hn hP hD hS hl) (fun h => kf h p l e s m args below meth c D cI cB ad A C H locs ls hn hP hD hS hl)
theorem aw_icmp_ne {off : Int} {x y : Int32} (tgt : Nat) (hd : decode cc pc = .ok (.if_icmp .ne off, 3)) (ht : (pc : Int) + off = (tgt : Int)) (kt : ¬ x = y → AW d own cc mL rt n Po (tgt) loc (st) w) (kf : x = y → AW d own cc mL rt n Po (pc + 3) loc (st) w) : AW d own cc mL rt n Po (pc) loc (.int y :: .int x :: st) w := by
  intro p l e s m args below meth c D cI cB ad A C H locs ls hn hP hD hS hl
  exact lv_icmp_ne C.1 C.2.1 hd ht (fun h => kt h p l e s m args below meth c D cI cB ad A C H locs ls hn hP hD hS hl) (fun h => kf h p l e s m args below meth c D cI cB ad A C H locs ls hn hP hD hS hl)
theorem aw_if_ne {off : Int} {x : Int32} (tgt : Nat) (hd : decode cc pc = .ok (.ifCond .ne off, 3)) (ht : (pc : Int) + off = (tgt : Int)) (kt : ¬ x = 0 → AW d own cc mL rt n Po (tgt) loc (st) w) (kf : x = 0 → AW d own cc mL rt n Po (pc + 3) loc (st) w) : AW d own cc mL rt n Po (pc) loc (.int x :: st) w := by
  intro p l e s m args below meth c D cI cB ad A C H locs ls hn hP hD hS hl
  exact lv_if_ne C.1 C.2.1 hd ht (fun h => kt h p l e s m args below meth c D cI cB ad A C H locs ls hn hP hD hS hl) (fun h => kf h p l e s m args below meth c D cI cB ad A C H locs ls hn hP hD hS hl)
theorem aw_icmp_lt {off : Int} {x y : Int32} (tgt : Nat) (hd : decode cc pc = .ok (.if_icmp .lt off, 3)) (ht : (pc : Int) + off = (tgt : Int)) (kt : x < y → AW d own cc mL rt n Po (tgt) loc (st) w) (kf : ¬ x < y → AW d own cc mL rt n Po (pc + 3) loc (st) w) : AW d own cc mL rt n Po (pc) loc (.int y :: .int x :: st) w := by
  intro p l e s m args below meth c D cI cB ad A C H locs ls hn hP hD hS hl
  exact lv_icmp_lt C.1 C.2.1 hd ht (fun h => kt h p l e s m args below meth c D cI cB ad A C H locs ls hn hP hD hS hl) (fun h => kf h p l e s m args below meth c D cI cB ad A C H locs ls hn hP hD hS hl)
theorem aw_if_lt {off : Int} {x : Int32} (tgt : Nat) (hd : decode cc pc = .ok (.ifCond .lt off, 3)) (ht : (pc : Int) + off = (tgt : Int)) (kt : x < 0 → AW d own cc mL rt n Po (tgt) loc (st) w) (kf : ¬ x < 0 → AW d own cc mL rt n Po (pc + 3) loc (st) w) : AW d own cc mL rt n Po (pc) loc (.int x :: st) w := by
  intro p l e s m args below meth c D cI cB ad A C H locs ls hn hP hD hS hl
  exact lv_if_lt C.1 C.2.1 hd ht (fun h => kt h p l e s m args below meth c D cI cB ad A C H locs ls hn hP hD hS hl) (fun h => kf h p l e s m args below meth c D cI cB ad A C H locs ls hn hP hD hS hl)
theorem aw_icmp_ge {off : Int} {x y : Int32} (tgt : Nat) (hd : decode cc pc = .ok (.if_icmp .ge off, 3)) (ht : (pc : Int) + off = (tgt : Int)) (kt : y ≤ x → AW d own cc mL rt n Po (tgt) loc (st) w) (kf : ¬ y ≤ x → AW d own cc mL rt n Po (pc + 3) loc (st) w) : AW d own cc mL rt n Po (pc) loc (.int y :: .int x :: st) w := by
  intro p l e s m args below meth c D cI cB ad A C H locs ls hn hP hD hS hl
  exact lv_icmp_ge C.1 C.2.1 hd ht (fun h => kt h p l e s m args below meth c D cI cB ad A C H locs ls hn hP hD hS hl) (fun h => kf h p l e s m args below meth c D cI cB ad A C H locs ls hn hP hD hS hl)
theorem aw_if_ge {off : Int} {x : Int32} (tgt : Nat) (hd : decode cc pc = .ok (.ifCond .ge off, 3)) (ht : (pc : Int) + off = (tgt : Int)) (kt : 0 ≤ x → AW d own cc mL rt n Po (tgt) loc (st) w) (kf : ¬ 0 ≤ x → AW d own cc mL rt n Po (pc + 3) loc (st) w) : AW d own cc mL rt n Po (pc) loc (.int x :: st) w := by
  intro p l e s m args below meth c D cI cB ad A C H locs ls hn hP hD hS hl
  exact lv_if_ge C.1 C.2.1 hd ht (fun h => kt h p l e s m args below meth c D cI cB ad A C H locs ls hn hP hD hS hl) (fun h => kf h p l e s m args below meth c D cI cB ad A C H locs ls hn hP hD hS hl)
theorem aw_icmp_gt {off : Int} {x y : Int32} (tgt : Nat) (hd : decode cc pc = .ok (.if_icmp .gt off, 3)) (ht : (pc : Int) + off = (tgt : Int)) (kt : y < x → AW d own cc mL rt n Po (tgt) loc (st) w) (kf : ¬ y < x → AW d own cc mL rt n Po (pc + 3) loc (st) w) : AW d own cc mL rt n Po (pc) loc (.int y :: .int x :: st) w := by
  intro p l e s m args below meth c D cI cB ad A C H locs ls hn hP hD hS hl
  exact lv_icmp_gt C.1 C.2.1 hd ht (fun h => kt h p l e s m args below meth c D cI cB ad A C H locs ls hn hP hD hS hl) (fun h => kf h p l e s m args below meth c D cI cB ad A C H locs ls hn hP hD hS hl)
theorem aw_if_gt {off : Int} {x : Int32} (tgt : Nat) (hd : decode cc pc = .ok (.ifCond .gt off, 3)) (ht : (pc : Int) + off = (tgt : Int)) (kt : 0 < x → AW d own cc mL rt n Po (tgt) loc (st) w) (kf : ¬ 0 < x → AW d own cc mL rt n Po (pc + 3) loc (st) w) : AW d own cc mL rt n Po (pc) loc (.int x :: st) w := by
  intro p l e s m args below meth c D cI cB ad A C H locs ls hn hP hD hS hl
  exact lv_if_gt C.1 C.2.1 hd ht (fun h => kt h p l e s m args below meth c D cI cB ad A C H locs ls hn hP hD hS hl) (fun h => kf h p l e s m args below meth c D cI cB ad A C H locs ls hn hP hD hS hl)
theorem aw_icmp_le {off : Int} {x y : Int32} (tgt : Nat) (hd : decode cc pc = .ok (.if_icmp .le off, 3)) (ht : (pc : Int) + off = (tgt : Int)) (kt : x ≤ y → AW d own cc mL rt n Po (tgt) loc (st) w) (kf : ¬ x ≤ y → AW d own cc mL rt n Po (pc + 3) loc (st) w) : AW d own cc mL rt n Po (pc) loc (.int y :: .int x :: st) w := by
  intro p l e s m args below meth c D cI cB ad A C H locs ls hn hP hD hS hl
  exact lv_icmp_le C.1 C.2.1 hd ht (fun h => kt h p l e s m args below meth c D cI cB ad A C H locs ls hn hP hD hS hl) (fun h => kf h p l e s m args below meth c D cI cB ad A C H locs ls hn hP hD hS hl)
theorem aw_if_le {off : Int} {x : Int32} (tgt : Nat) (hd : decode cc pc = .ok (.ifCond .le off, 3)) (ht : (pc : Int) + off = (tgt : Int)) (kt : x ≤ 0 → AW d own cc mL rt n Po (tgt) loc (st) w) (kf : ¬ x ≤ 0 → AW d own cc mL rt n Po (pc + 3) loc (st) w) : AW d own cc mL rt n Po (pc) loc (.int x :: st) w := by
  intro p l e s m args below meth c D cI cB ad A C H locs ls hn hP hD hS hl
  exact lv_if_le C.1 C.2.1 hd ht (fun h => kt h p l e s m args below meth c D cI cB ad A C H locs ls hn hP hD hS hl) (fun h => kf h p l e s m args below meth c D cI cB ad A C H locs ls hn hP hD hS hl)
theorem aw_iload_0 {lx : List Value} {x : Int32} (hd : decode cc pc = .ok (.iload_n 0, 1)) (k : AW d own cc mL rt n Po (pc + 1) (.int x :: lx) (.int x :: st) w) : AW d own cc mL rt n Po (pc) (.int x :: lx) (st) w := by
  intro p l e s m args below meth c D cI cB ad A C H locs ls hn hP hD hS hl
  exact lv_iload_n C.1 C.2.1 hd rfl (hl.at (j := 0) rfl (fun h => by cases h)) (k p l e s m args below meth c D cI cB ad A C H locs ls hn hP hD hS hl)
theorem aw_aload_0 {lx : List Value} {x : Nat} (hd : decode cc pc = .ok (.aload_n 0, 1)) (k : AW d own cc mL rt n Po (pc + 1) (.ref x :: lx) (.ref x :: st) w) : AW d own cc mL rt n Po (pc) (.ref x :: lx) (st) w := by
  intro p l e s m args below meth c D cI cB ad A C H locs ls hn hP hD hS hl
  exact lv_aload_n C.1 C.2.1 hd rfl (hl.at (j := 0) rfl (fun h => by cases h)) (k p l e s m args below meth c D cI cB ad A C H locs ls hn hP hD hS hl)
theorem aw_lload_0 {lx : List Value} {x : Int64} (hd : decode cc pc = .ok (.lload_n 0, 1)) (k : AW d own cc mL rt n Po (pc + 1) (.long x :: lx) (.long x :: st) w) : AW d own cc mL rt n Po (pc) (.long x :: lx) (st) w := by
  intro p l e s m args below meth c D cI cB ad A C H locs ls hn hP hD hS hl
  exact lv_lload_n C.1 C.2.1 hd rfl (hl.at (j := 0) rfl (fun h => by cases h)) (k p l e s m args below meth c D cI cB ad A C H locs ls hn hP hD hS hl)
theorem aw_istore_0 {lx : List Value} {lz : Value} {x : Int32} (hd : decode cc pc = .ok (.istore_n 0, 1)) (hm : 0 < mL) (k : AW d own cc mL rt n Po (pc + 1) (.int x :: lx) (st) w) : AW d own cc mL rt n Po (pc) (lz :: lx) (.int x :: st) w := by
  intro p l e s m args below meth c D cI cB ad A C H locs ls hn hP hD hS hl
  refine lv_istore_n C.1 C.2.1 hd rfl hl hm rfl (fun ls hl2 => ?_)
  have hl3 := ac_L.st1 (ls := ls) (v := .int x) (i := 0) (loc := lz :: lx) ?_ hl2
  · exact k p l e s m args below meth c D cI cB ad A C H locs ls hn hP hD hS hl3
  · intro j u hj hu; omega
theorem aw_astore_0 {lx : List Value} {lz : Value} {x : Nat} (hd : decode cc pc = .ok (.astore_n 0, 1)) (hm : 0 < mL) (k : AW d own cc mL rt n Po (pc + 1) (.ref x :: lx) (st) w) : AW d own cc mL rt n Po (pc) (lz :: lx) (.ref x :: st) w := by
  intro p l e s m args below meth c D cI cB ad A C H locs ls hn hP hD hS hl
  refine lv_astore_n C.1 C.2.1 hd rfl hl hm rfl (fun ls hl2 => ?_)
  have hl3 := ac_L.st1 (ls := ls) (v := .ref x) (i := 0) (loc := lz :: lx) ?_ hl2
  · exact k p l e s m args below meth c D cI cB ad A C H locs ls hn hP hD hS hl3
  · intro j u hj hu; omega
theorem aw_lstore_0 {lx : List Value} {lz ly : Value} {x : Int64} (hd : decode cc pc = .ok (.lstore_n 0, 1)) (hm : 1 < mL) (k : AW d own cc mL rt n Po (pc + 1) (.long x :: .null :: lx) (st) w) : AW d own cc mL rt n Po (pc) (lz :: ly :: lx) (.long x :: st) w := by
  intro p l e s m args below meth c D cI cB ad A C H locs ls hn hP hD hS hl
  refine lv_lstore_n C.1 C.2.1 hd rfl hl hm rfl (fun ls hl2 => ?_)
  have hl3 := ac_L.st2 (v := .long x) (i := 0) (loc := lz :: ly :: lx) ?_ hl2
  · exact k p l e s m args below meth c D cI cB ad A C H locs ls hn hP hD hS hl3
  · intro j u hj hu; omega
theorem aw_iinc_0 {lx : List Value} {x v : Int32} {z : Int} (hd : decode cc pc = .ok (.iinc 0 z, 3)) (hv : x + Int32.ofInt z = v) (hm : 0 < mL) (k : AW d own cc mL rt n Po (pc + 3) (.int v :: lx) (st) w) : AW d own cc mL rt n Po (pc) (.int x :: lx) (st) w := by
  intro p l e s m args below meth c D cI cB ad A C H locs ls hn hP hD hS hl
  obtain ⟨kk, hkk⟩ := List.getElem?_of_mem ((ac_l_mem ad (.int x :: lx) 0 (0, .int x)).mpr ⟨0, .int x, rfl, (fun h => by cases h), rfl⟩)
  refine lv_iinc C.1 C.2.1 hd hl hkk hv hm rfl (fun ls hl2 => ?_)
  have hl3 := ac_L.st1 (ls := ls) (v := .int v) (i := 0) (loc := .int x :: lx) ?_ hl2
  · exact k p l e s m args below meth c D cI cB ad A C H locs ls hn hP hD hS hl3
  · intro j u hj hu; omega
theorem aw_iload_1 {l0 : Value} {lx : List Value} {x : Int32} (hd : decode cc pc = .ok (.iload_n 1, 1)) (k : AW d own cc mL rt n Po (pc + 1) (l0 :: .int x :: lx) (.int x :: st) w) : AW d own cc mL rt n Po (pc) (l0 :: .int x :: lx) (st) w := by
  intro p l e s m args below meth c D cI cB ad A C H locs ls hn hP hD hS hl
  exact lv_iload_n C.1 C.2.1 hd rfl (hl.at (j := 1) rfl (fun h => by cases h)) (k p l e s m args below meth c D cI cB ad A C H locs ls hn hP hD hS hl)
theorem aw_aload_1 {l0 : Value} {lx : List Value} {x : Nat} (hd : decode cc pc = .ok (.aload_n 1, 1)) (k : AW d own cc mL rt n Po (pc + 1) (l0 :: .ref x :: lx) (.ref x :: st) w) : AW d own cc mL rt n Po (pc) (l0 :: .ref x :: lx) (st) w := by
  intro p l e s m args below meth c D cI cB ad A C H locs ls hn hP hD hS hl
  exact lv_aload_n C.1 C.2.1 hd rfl (hl.at (j := 1) rfl (fun h => by cases h)) (k p l e s m args below meth c D cI cB ad A C H locs ls hn hP hD hS hl)
theorem aw_lload_1 {l0 : Value} {lx : List Value} {x : Int64} (hd : decode cc pc = .ok (.lload_n 1, 1)) (k : AW d own cc mL rt n Po (pc + 1) (l0 :: .long x :: lx) (.long x :: st) w) : AW d own cc mL rt n Po (pc) (l0 :: .long x :: lx) (st) w := by
  intro p l e s m args below meth c D cI cB ad A C H locs ls hn hP hD hS hl
  exact lv_lload_n C.1 C.2.1 hd rfl (hl.at (j := 1) rfl (fun h => by cases h)) (k p l e s m args below meth c D cI cB ad A C H locs ls hn hP hD hS hl)
theorem aw_istore_1 {l0 : Value} {lx : List Value} {lz : Value} {x : Int32} (hd : decode cc pc = .ok (.istore_n 1, 1)) (hc : l0.category = 1) (hm : 1 < mL) (k : AW d own cc mL rt n Po (pc + 1) (l0 :: .int x :: lx) (st) w) : AW d own cc mL rt n Po (pc) (l0 :: lz :: lx) (.int x :: st) w := by
  intro p l e s m args below meth c D cI cB ad A C H locs ls hn hP hD hS hl
  refine lv_istore_n C.1 C.2.1 hd rfl hl hm rfl (fun ls hl2 => ?_)
  have hl3 := ac_L.st1 (ls := ls) (v := .int x) (i := 1) (loc := l0 :: lz :: lx) ?_ hl2
  · exact k p l e s m args below meth c D cI cB ad A C H locs ls hn hP hD hS hl3
  · intro j u hj hu
    obtain rfl : j = 0 := by omega
    cases hu; exact hc
theorem aw_astore_1 {l0 : Value} {lx : List Value} {lz : Value} {x : Nat} (hd : decode cc pc = .ok (.astore_n 1, 1)) (hc : l0.category = 1) (hm : 1 < mL) (k : AW d own cc mL rt n Po (pc + 1) (l0 :: .ref x :: lx) (st) w) : AW d own cc mL rt n Po (pc) (l0 :: lz :: lx) (.ref x :: st) w := by
  intro p l e s m args below meth c D cI cB ad A C H locs ls hn hP hD hS hl
  refine lv_astore_n C.1 C.2.1 hd rfl hl hm rfl (fun ls hl2 => ?_)
  have hl3 := ac_L.st1 (ls := ls) (v := .ref x) (i := 1) (loc := l0 :: lz :: lx) ?_ hl2
  · exact k p l e s m args below meth c D cI cB ad A C H locs ls hn hP hD hS hl3
  · intro j u hj hu
    obtain rfl : j = 0 := by omega
    cases hu; exact hc
theorem aw_lstore_1 {l0 : Value} {lx : List Value} {lz ly : Value} {x : Int64} (hd : decode cc pc = .ok (.lstore_n 1, 1)) (hc : l0.category = 1) (hm : 2 < mL) (k : AW d own cc mL rt n Po (pc + 1) (l0 :: .long x :: .null :: lx) (st) w) : AW d own cc mL rt n Po (pc) (l0 :: lz :: ly :: lx) (.long x :: st) w := by
  intro p l e s m args below meth c D cI cB ad A C H locs ls hn hP hD hS hl
  refine lv_lstore_n C.1 C.2.1 hd rfl hl hm rfl (fun ls hl2 => ?_)
  have hl3 := ac_L.st2 (v := .long x) (i := 1) (loc := l0 :: lz :: ly :: lx) ?_ hl2
  · exact k p l e s m args below meth c D cI cB ad A C H locs ls hn hP hD hS hl3
  · intro j u hj hu
    obtain rfl : j = 0 := by omega
    cases hu; exact hc
theorem aw_iinc_1 {l0 : Value} {lx : List Value} {x v : Int32} {z : Int} (hd : decode cc pc = .ok (.iinc 1 z, 3)) (hv : x + Int32.ofInt z = v) (hc : l0.category = 1) (hm : 1 < mL) (k : AW d own cc mL rt n Po (pc + 3) (l0 :: .int v :: lx) (st) w) : AW d own cc mL rt n Po (pc) (l0 :: .int x :: lx) (st) w := by
  intro p l e s m args below meth c D cI cB ad A C H locs ls hn hP hD hS hl
  obtain ⟨kk, hkk⟩ := List.getElem?_of_mem ((ac_l_mem ad (l0 :: .int x :: lx) 0 (1, .int x)).mpr ⟨1, .int x, rfl, (fun h => by cases h), rfl⟩)
  refine lv_iinc C.1 C.2.1 hd hl hkk hv hm rfl (fun ls hl2 => ?_)
  have hl3 := ac_L.st1 (ls := ls) (v := .int v) (i := 1) (loc := l0 :: .int x :: lx) ?_ hl2
  · exact k p l e s m args below meth c D cI cB ad A C H locs ls hn hP hD hS hl3
  · intro j u hj hu
    obtain rfl : j = 0 := by omega
    cases hu; exact hc
theorem aw_iload_2 {l0 l1 : Value} {lx : List Value} {x : Int32} (hd : decode cc pc = .ok (.iload_n 2, 1)) (k : AW d own cc mL rt n Po (pc + 1) (l0 :: l1 :: .int x :: lx) (.int x :: st) w) : AW d own cc mL rt n Po (pc) (l0 :: l1 :: .int x :: lx) (st) w := by
  intro p l e s m args below meth c D cI cB ad A C H locs ls hn hP hD hS hl
  exact lv_iload_n C.1 C.2.1 hd rfl (hl.at (j := 2) rfl (fun h => by cases h)) (k p l e s m args below meth c D cI cB ad A C H locs ls hn hP hD hS hl)
theorem aw_aload_2 {l0 l1 : Value} {lx : List Value} {x : Nat} (hd : decode cc pc = .ok (.aload_n 2, 1)) (k : AW d own cc mL rt n Po (pc + 1) (l0 :: l1 :: .ref x :: lx) (.ref x :: st) w) : AW d own cc mL rt n Po (pc) (l0 :: l1 :: .ref x :: lx) (st) w := by
  intro p l e s m args below meth c D cI cB ad A C H locs ls hn hP hD hS hl
  exact lv_aload_n C.1 C.2.1 hd rfl (hl.at (j := 2) rfl (fun h => by cases h)) (k p l e s m args below meth c D cI cB ad A C H locs ls hn hP hD hS hl)
theorem aw_lload_2 {l0 l1 : Value} {lx : List Value} {x : Int64} (hd : decode cc pc = .ok (.lload_n 2, 1)) (k : AW d own cc mL rt n Po (pc + 1) (l0 :: l1 :: .long x :: lx) (.long x :: st) w) : AW d own cc mL rt n Po (pc) (l0 :: l1 :: .long x :: lx) (st) w := by
  intro p l e s m args below meth c D cI cB ad A C H locs ls hn hP hD hS hl
  exact lv_lload_n C.1 C.2.1 hd rfl (hl.at (j := 2) rfl (fun h => by cases h)) (k p l e s m args below meth c D cI cB ad A C H locs ls hn hP hD hS hl)
theorem aw_istore_2 {l0 l1 : Value} {lx : List Value} {lz : Value} {x : Int32} (hd : decode cc pc = .ok (.istore_n 2, 1)) (hc : l1.category = 1) (hm : 2 < mL) (k : AW d own cc mL rt n Po (pc + 1) (l0 :: l1 :: .int x :: lx) (st) w) : AW d own cc mL rt n Po (pc) (l0 :: l1 :: lz :: lx) (.int x :: st) w := by
  intro p l e s m args below meth c D cI cB ad A C H locs ls hn hP hD hS hl
  refine lv_istore_n C.1 C.2.1 hd rfl hl hm rfl (fun ls hl2 => ?_)
  have hl3 := ac_L.st1 (ls := ls) (v := .int x) (i := 2) (loc := l0 :: l1 :: lz :: lx) ?_ hl2
  · exact k p l e s m args below meth c D cI cB ad A C H locs ls hn hP hD hS hl3
  · intro j u hj hu
    obtain rfl : j = 1 := by omega
    cases hu; exact hc
theorem aw_astore_2 {l0 l1 : Value} {lx : List Value} {lz : Value} {x : Nat} (hd : decode cc pc = .ok (.astore_n 2, 1)) (hc : l1.category = 1) (hm : 2 < mL) (k : AW d own cc mL rt n Po (pc + 1) (l0 :: l1 :: .ref x :: lx) (st) w) : AW d own cc mL rt n Po (pc) (l0 :: l1 :: lz :: lx) (.ref x :: st) w := by
  intro p l e s m args below meth c D cI cB ad A C H locs ls hn hP hD hS hl
  refine lv_astore_n C.1 C.2.1 hd rfl hl hm rfl (fun ls hl2 => ?_)
  have hl3 := ac_L.st1 (ls := ls) (v := .ref x) (i := 2) (loc := l0 :: l1 :: lz :: lx) ?_ hl2
  · exact k p l e s m args below meth c D cI cB ad A C H locs ls hn hP hD hS hl3
  · intro j u hj hu
    obtain rfl : j = 1 := by omega
    cases hu; exact hc
theorem aw_lstore_2 {l0 l1 : Value} {lx : List Value} {lz ly : Value} {x : Int64} (hd : decode cc pc = .ok (.lstore_n 2, 1)) (hc : l1.category = 1) (hm : 3 < mL) (k : AW d own cc mL rt n Po (pc + 1) (l0 :: l1 :: .long x :: .null :: lx) (st) w) : AW d own cc mL rt n Po (pc) (l0 :: l1 :: lz :: ly :: lx) (.long x :: st) w := by
  intro p l e s m args below meth c D cI cB ad A C H locs ls hn hP hD hS hl
  refine lv_lstore_n C.1 C.2.1 hd rfl hl hm rfl (fun ls hl2 => ?_)
  have hl3 := ac_L.st2 (v := .long x) (i := 2) (loc := l0 :: l1 :: lz :: ly :: lx) ?_ hl2
  · exact k p l e s m args below meth c D cI cB ad A C H locs ls hn hP hD hS hl3
  · intro j u hj hu
    obtain rfl : j = 1 := by omega
    cases hu; exact hc
theorem aw_iinc_2 {l0 l1 : Value} {lx : List Value} {x v : Int32} {z : Int} (hd : decode cc pc = .ok (.iinc 2 z, 3)) (hv : x + Int32.ofInt z = v) (hc : l1.category = 1) (hm : 2 < mL) (k : AW d own cc mL rt n Po (pc + 3) (l0 :: l1 :: .int v :: lx) (st) w) : AW d own cc mL rt n Po (pc) (l0 :: l1 :: .int x :: lx) (st) w := by
  intro p l e s m args below meth c D cI cB ad A C H locs ls hn hP hD hS hl
  obtain ⟨kk, hkk⟩ := List.getElem?_of_mem ((ac_l_mem ad (l0 :: l1 :: .int x :: lx) 0 (2, .int x)).mpr ⟨2, .int x, rfl, (fun h => by cases h), rfl⟩)
  refine lv_iinc C.1 C.2.1 hd hl hkk hv hm rfl (fun ls hl2 => ?_)
  have hl3 := ac_L.st1 (ls := ls) (v := .int v) (i := 2) (loc := l0 :: l1 :: .int x :: lx) ?_ hl2
  · exact k p l e s m args below meth c D cI cB ad A C H locs ls hn hP hD hS hl3
  · intro j u hj hu
    obtain rfl : j = 1 := by omega
    cases hu; exact hc
theorem aw_iload_3 {l0 l1 l2 : Value} {lx : List Value} {x : Int32} (hd : decode cc pc = .ok (.iload_n 3, 1)) (k : AW d own cc mL rt n Po (pc + 1) (l0 :: l1 :: l2 :: .int x :: lx) (.int x :: st) w) : AW d own cc mL rt n Po (pc) (l0 :: l1 :: l2 :: .int x :: lx) (st) w := by
  intro p l e s m args below meth c D cI cB ad A C H locs ls hn hP hD hS hl
  exact lv_iload_n C.1 C.2.1 hd rfl (hl.at (j := 3) rfl (fun h => by cases h)) (k p l e s m args below meth c D cI cB ad A C H locs ls hn hP hD hS hl)
theorem aw_aload_3 {l0 l1 l2 : Value} {lx : List Value} {x : Nat} (hd : decode cc pc = .ok (.aload_n 3, 1)) (k : AW d own cc mL rt n Po (pc + 1) (l0 :: l1 :: l2 :: .ref x :: lx) (.ref x :: st) w) : AW d own cc mL rt n Po (pc) (l0 :: l1 :: l2 :: .ref x :: lx) (st) w := by
  intro p l e s m args below meth c D cI cB ad A C H locs ls hn hP hD hS hl
  exact lv_aload_n C.1 C.2.1 hd rfl (hl.at (j := 3) rfl (fun h => by cases h)) (k p l e s m args below meth c D cI cB ad A C H locs ls hn hP hD hS hl)
theorem aw_lload_3 {l0 l1 l2 : Value} {lx : List Value} {x : Int64} (hd : decode cc pc = .ok (.lload_n 3, 1)) (k : AW d own cc mL rt n Po (pc + 1) (l0 :: l1 :: l2 :: .long x :: lx) (.long x :: st) w) : AW d own cc mL rt n Po (pc) (l0 :: l1 :: l2 :: .long x :: lx) (st) w := by
  intro p l e s m args below meth c D cI cB ad A C H locs ls hn hP hD hS hl
  exact lv_lload_n C.1 C.2.1 hd rfl (hl.at (j := 3) rfl (fun h => by cases h)) (k p l e s m args below meth c D cI cB ad A C H locs ls hn hP hD hS hl)
theorem aw_istore_3 {l0 l1 l2 : Value} {lx : List Value} {lz : Value} {x : Int32} (hd : decode cc pc = .ok (.istore_n 3, 1)) (hc : l2.category = 1) (hm : 3 < mL) (k : AW d own cc mL rt n Po (pc + 1) (l0 :: l1 :: l2 :: .int x :: lx) (st) w) : AW d own cc mL rt n Po (pc) (l0 :: l1 :: l2 :: lz :: lx) (.int x :: st) w := by
  intro p l e s m args below meth c D cI cB ad A C H locs ls hn hP hD hS hl
  refine lv_istore_n C.1 C.2.1 hd rfl hl hm rfl (fun ls hl2 => ?_)
  have hl3 := ac_L.st1 (ls := ls) (v := .int x) (i := 3) (loc := l0 :: l1 :: l2 :: lz :: lx) ?_ hl2
  · exact k p l e s m args below meth c D cI cB ad A C H locs ls hn hP hD hS hl3
  · intro j u hj hu
    obtain rfl : j = 2 := by omega
    cases hu; exact hc
theorem aw_astore_3 {l0 l1 l2 : Value} {lx : List Value} {lz : Value} {x : Nat} (hd : decode cc pc = .ok (.astore_n 3, 1)) (hc : l2.category = 1) (hm : 3 < mL) (k : AW d own cc mL rt n Po (pc + 1) (l0 :: l1 :: l2 :: .ref x :: lx) (st) w) : AW d own cc mL rt n Po (pc) (l0 :: l1 :: l2 :: lz :: lx) (.ref x :: st) w := by
  intro p l e s m args below meth c D cI cB ad A C H locs ls hn hP hD hS hl
  refine lv_astore_n C.1 C.2.1 hd rfl hl hm rfl (fun ls hl2 => ?_)
  have hl3 := ac_L.st1 (ls := ls) (v := .ref x) (i := 3) (loc := l0 :: l1 :: l2 :: lz :: lx) ?_ hl2
  · exact k p l e s m args below meth c D cI cB ad A C H locs ls hn hP hD hS hl3
  · intro j u hj hu
    obtain rfl : j = 2 := by omega
    cases hu; exact hc
theorem aw_lstore_3 {l0 l1 l2 : Value} {lx : List Value} {lz ly : Value} {x : Int64} (hd : decode cc pc = .ok (.lstore_n 3, 1)) (hc : l2.category = 1) (hm : 4 < mL) (k : AW d own cc mL rt n Po (pc + 1) (l0 :: l1 :: l2 :: .long x :: .null :: lx) (st) w) : AW d own cc mL rt n Po (pc) (l0 :: l1 :: l2 :: lz :: ly :: lx) (.long x :: st) w := by
  intro p l e s m args below meth c D cI cB ad A C H locs ls hn hP hD hS hl
  refine lv_lstore_n C.1 C.2.1 hd rfl hl hm rfl (fun ls hl2 => ?_)
  have hl3 := ac_L.st2 (v := .long x) (i := 3) (loc := l0 :: l1 :: l2 :: lz :: ly :: lx) ?_ hl2
  · exact k p l e s m args below meth c D cI cB ad A C H locs ls hn hP hD hS hl3
  · intro j u hj hu
    obtain rfl : j = 2 := by omega
    cases hu; exact hc
theorem aw_iinc_3 {l0 l1 l2 : Value} {lx : List Value} {x v : Int32} {z : Int} (hd : decode cc pc = .ok (.iinc 3 z, 3)) (hv : x + Int32.ofInt z = v) (hc : l2.category = 1) (hm : 3 < mL) (k : AW d own cc mL rt n Po (pc + 3) (l0 :: l1 :: l2 :: .int v :: lx) (st) w) : AW d own cc mL rt n Po (pc) (l0 :: l1 :: l2 :: .int x :: lx) (st) w := by
  intro p l e s m args below meth c D cI cB ad A C H locs ls hn hP hD hS hl
  obtain ⟨kk, hkk⟩ := List.getElem?_of_mem ((ac_l_mem ad (l0 :: l1 :: l2 :: .int x :: lx) 0 (3, .int x)).mpr ⟨3, .int x, rfl, (fun h => by cases h), rfl⟩)
  refine lv_iinc C.1 C.2.1 hd hl hkk hv hm rfl (fun ls hl2 => ?_)
  have hl3 := ac_L.st1 (ls := ls) (v := .int v) (i := 3) (loc := l0 :: l1 :: l2 :: .int x :: lx) ?_ hl2
  · exact k p l e s m args below meth c D cI cB ad A C H locs ls hn hP hD hS hl3
  · intro j u hj hu
    obtain rfl : j = 2 := by omega
    cases hu; exact hc
theorem aw_iload_4 {l0 l1 l2 l3 : Value} {lx : List Value} {x : Int32} (hd : decode cc pc = .ok (.iload 4, 2)) (k : AW d own cc mL rt n Po (pc + 2) (l0 :: l1 :: l2 :: l3 :: .int x :: lx) (.int x :: st) w) : AW d own cc mL rt n Po (pc) (l0 :: l1 :: l2 :: l3 :: .int x :: lx) (st) w := by
  intro p l e s m args below meth c D cI cB ad A C H locs ls hn hP hD hS hl
  exact lv_iload C.1 C.2.1 hd (hl.at (j := 4) rfl (fun h => by cases h)) (k p l e s m args below meth c D cI cB ad A C H locs ls hn hP hD hS hl)
theorem aw_aload_4 {l0 l1 l2 l3 : Value} {lx : List Value} {x : Nat} (hd : decode cc pc = .ok (.aload 4, 2)) (k : AW d own cc mL rt n Po (pc + 2) (l0 :: l1 :: l2 :: l3 :: .ref x :: lx) (.ref x :: st) w) : AW d own cc mL rt n Po (pc) (l0 :: l1 :: l2 :: l3 :: .ref x :: lx) (st) w := by
  intro p l e s m args below meth c D cI cB ad A C H locs ls hn hP hD hS hl
  exact lv_aload C.1 C.2.1 hd (hl.at (j := 4) rfl (fun h => by cases h)) (k p l e s m args below meth c D cI cB ad A C H locs ls hn hP hD hS hl)
theorem aw_lload_4 {l0 l1 l2 l3 : Value} {lx : List Value} {x : Int64} (hd : decode cc pc = .ok (.lload 4, 2)) (k : AW d own cc mL rt n Po (pc + 2) (l0 :: l1 :: l2 :: l3 :: .long x :: lx) (.long x :: st) w) : AW d own cc mL rt n Po (pc) (l0 :: l1 :: l2 :: l3 :: .long x :: lx) (st) w := by
  intro p l e s m args below meth c D cI cB ad A C H locs ls hn hP hD hS hl
  exact lv_lload C.1 C.2.1 hd (hl.at (j := 4) rfl (fun h => by cases h)) (k p l e s m args below meth c D cI cB ad A C H locs ls hn hP hD hS hl)
theorem aw_istore_4 {l0 l1 l2 l3 : Value} {lx : List Value} {lz : Value} {x : Int32} (hd : decode cc pc = .ok (.istore 4, 2)) (hc : l3.category = 1) (hm : 4 < mL) (k : AW d own cc mL rt n Po (pc + 2) (l0 :: l1 :: l2 :: l3 :: .int x :: lx) (st) w) : AW d own cc mL rt n Po (pc) (l0 :: l1 :: l2 :: l3 :: lz :: lx) (.int x :: st) w := by
  intro p l e s m args below meth c D cI cB ad A C H locs ls hn hP hD hS hl
  refine lv_istore C.1 C.2.1 hd hl hm rfl (fun ls hl2 => ?_)
  have hl3 := ac_L.st1 (ls := ls) (v := .int x) (i := 4) (loc := l0 :: l1 :: l2 :: l3 :: lz :: lx) ?_ hl2
  · exact k p l e s m args below meth c D cI cB ad A C H locs ls hn hP hD hS hl3
  · intro j u hj hu
    obtain rfl : j = 3 := by omega
    cases hu; exact hc
theorem aw_astore_4 {l0 l1 l2 l3 : Value} {lx : List Value} {lz : Value} {x : Nat} (hd : decode cc pc = .ok (.astore 4, 2)) (hc : l3.category = 1) (hm : 4 < mL) (k : AW d own cc mL rt n Po (pc + 2) (l0 :: l1 :: l2 :: l3 :: .ref x :: lx) (st) w) : AW d own cc mL rt n Po (pc) (l0 :: l1 :: l2 :: l3 :: lz :: lx) (.ref x :: st) w := by
  intro p l e s m args below meth c D cI cB ad A C H locs ls hn hP hD hS hl
  refine lv_astore C.1 C.2.1 hd hl hm rfl (fun ls hl2 => ?_)
  have hl3 := ac_L.st1 (ls := ls) (v := .ref x) (i := 4) (loc := l0 :: l1 :: l2 :: l3 :: lz :: lx) ?_ hl2
  · exact k p l e s m args below meth c D cI cB ad A C H locs ls hn hP hD hS hl3
  · intro j u hj hu
    obtain rfl : j = 3 := by omega
    cases hu; exact hc
theorem aw_lstore_4 {l0 l1 l2 l3 : Value} {lx : List Value} {lz ly : Value} {x : Int64} (hd : decode cc pc = .ok (.lstore 4, 2)) (hc : l3.category = 1) (hm : 5 < mL) (k : AW d own cc mL rt n Po (pc + 2) (l0 :: l1 :: l2 :: l3 :: .long x :: .null :: lx) (st) w) : AW d own cc mL rt n Po (pc) (l0 :: l1 :: l2 :: l3 :: lz :: ly :: lx) (.long x :: st) w := by
  intro p l e s m args below meth c D cI cB ad A C H locs ls hn hP hD hS hl
  refine lv_lstore C.1 C.2.1 hd hl hm rfl (fun ls hl2 => ?_)
  have hl3 := ac_L.st2 (v := .long x) (i := 4) (loc := l0 :: l1 :: l2 :: l3 :: lz :: ly :: lx) ?_ hl2
  · exact k p l e s m args below meth c D cI cB ad A C H locs ls hn hP hD hS hl3
  · intro j u hj hu
    obtain rfl : j = 3 := by omega
    cases hu; exact hc
theorem aw_iinc_4 {l0 l1 l2 l3 : Value} {lx : List Value} {x v : Int32} {z : Int} (hd : decode cc pc = .ok (.iinc 4 z, 3)) (hv : x + Int32.ofInt z = v) (hc : l3.category = 1) (hm : 4 < mL) (k : AW d own cc mL rt n Po (pc + 3) (l0 :: l1 :: l2 :: l3 :: .int v :: lx) (st) w) : AW d own cc mL rt n Po (pc) (l0 :: l1 :: l2 :: l3 :: .int x :: lx) (st) w := by
  intro p l e s m args below meth c D cI cB ad A C H locs ls hn hP hD hS hl
  obtain ⟨kk, hkk⟩ := List.getElem?_of_mem ((ac_l_mem ad (l0 :: l1 :: l2 :: l3 :: .int x :: lx) 0 (4, .int x)).mpr ⟨4, .int x, rfl, (fun h => by cases h), rfl⟩)
  refine lv_iinc C.1 C.2.1 hd hl hkk hv hm rfl (fun ls hl2 => ?_)
  have hl3 := ac_L.st1 (ls := ls) (v := .int v) (i := 4) (loc := l0 :: l1 :: l2 :: l3 :: .int x :: lx) ?_ hl2
  · exact k p l e s m args below meth c D cI cB ad A C H locs ls hn hP hD hS hl3
  · intro j u hj hu
    obtain rfl : j = 3 := by omega
    cases hu; exact hc
theorem aw_iload_5 {l0 l1 l2 l3 l4 : Value} {lx : List Value} {x : Int32} (hd : decode cc pc = .ok (.iload 5, 2)) (k : AW d own cc mL rt n Po (pc + 2) (l0 :: l1 :: l2 :: l3 :: l4 :: .int x :: lx) (.int x :: st) w) : AW d own cc mL rt n Po (pc) (l0 :: l1 :: l2 :: l3 :: l4 :: .int x :: lx) (st) w := by
  intro p l e s m args below meth c D cI cB ad A C H locs ls hn hP hD hS hl
  exact lv_iload C.1 C.2.1 hd (hl.at (j := 5) rfl (fun h => by cases h)) (k p l e s m args below meth c D cI cB ad A C H locs ls hn hP hD hS hl)
theorem aw_aload_5 {l0 l1 l2 l3 l4 : Value} {lx : List Value} {x : Nat} (hd : decode cc pc = .ok (.aload 5, 2)) (k : AW d own cc mL rt n Po (pc + 2) (l0 :: l1 :: l2 :: l3 :: l4 :: .ref x :: lx) (.ref x :: st) w) : AW d own cc mL rt n Po (pc) (l0 :: l1 :: l2 :: l3 :: l4 :: .ref x :: lx) (st) w := by
  intro p l e s m args below meth c D cI cB ad A C H locs ls hn hP hD hS hl
  exact lv_aload C.1 C.2.1 hd (hl.at (j := 5) rfl (fun h => by cases h)) (k p l e s m args below meth c D cI cB ad A C H locs ls hn hP hD hS hl)
theorem aw_lload_5 {l0 l1 l2 l3 l4 : Value} {lx : List Value} {x : Int64} (hd : decode cc pc = .ok (.lload 5, 2)) (k : AW d own cc mL rt n Po (pc + 2) (l0 :: l1 :: l2 :: l3 :: l4 :: .long x :: lx) (.long x :: st) w) : AW d own cc mL rt n Po (pc) (l0 :: l1 :: l2 :: l3 :: l4 :: .long x :: lx) (st) w := by
  intro p l e s m args below meth c D cI cB ad A C H locs ls hn hP hD hS hl
  exact lv_lload C.1 C.2.1 hd (hl.at (j := 5) rfl (fun h => by cases h)) (k p l e s m args below meth c D cI cB ad A C H locs ls hn hP hD hS hl)
theorem aw_istore_5 {l0 l1 l2 l3 l4 : Value} {lx : List Value} {lz : Value} {x : Int32} (hd : decode cc pc = .ok (.istore 5, 2)) (hc : l4.category = 1) (hm : 5 < mL) (k : AW d own cc mL rt n Po (pc + 2) (l0 :: l1 :: l2 :: l3 :: l4 :: .int x :: lx) (st) w) : AW d own cc mL rt n Po (pc) (l0 :: l1 :: l2 :: l3 :: l4 :: lz :: lx) (.int x :: st) w := by
  intro p l e s m args below meth c D cI cB ad A C H locs ls hn hP hD hS hl
  refine lv_istore C.1 C.2.1 hd hl hm rfl (fun ls hl2 => ?_)
  have hl3 := ac_L.st1 (ls := ls) (v := .int x) (i := 5) (loc := l0 :: l1 :: l2 :: l3 :: l4 :: lz :: lx) ?_ hl2
  · exact k p l e s m args below meth c D cI cB ad A C H locs ls hn hP hD hS hl3
  · intro j u hj hu
    obtain rfl : j = 4 := by omega
    cases hu; exact hc
theorem aw_astore_5 {l0 l1 l2 l3 l4 : Value} {lx : List Value} {lz : Value} {x : Nat} (hd : decode cc pc = .ok (.astore 5, 2)) (hc : l4.category = 1) (hm : 5 < mL) (k : AW d own cc mL rt n Po (pc + 2) (l0 :: l1 :: l2 :: l3 :: l4 :: .ref x :: lx) (st) w) : AW d own cc mL rt n Po (pc) (l0 :: l1 :: l2 :: l3 :: l4 :: lz :: lx) (.ref x :: st) w := by
  intro p l e s m args below meth c D cI cB ad A C H locs ls hn hP hD hS hl
  refine lv_astore C.1 C.2.1 hd hl hm rfl (fun ls hl2 => ?_)
  have hl3 := ac_L.st1 (ls := ls) (v := .ref x) (i := 5) (loc := l0 :: l1 :: l2 :: l3 :: l4 :: lz :: lx) ?_ hl2
  · exact k p l e s m args below meth c D cI cB ad A C H locs ls hn hP hD hS hl3
  · intro j u hj hu
    obtain rfl : j = 4 := by omega
    cases hu; exact hc
theorem aw_lstore_5 {l0 l1 l2 l3 l4 : Value} {lx : List Value} {lz ly : Value} {x : Int64} (hd : decode cc pc = .ok (.lstore 5, 2)) (hc : l4.category = 1) (hm : 6 < mL) (k : AW d own cc mL rt n Po (pc + 2) (l0 :: l1 :: l2 :: l3 :: l4 :: .long x :: .null :: lx) (st) w) : AW d own cc mL rt n Po (pc) (l0 :: l1 :: l2 :: l3 :: l4 :: lz :: ly :: lx) (.long x :: st) w := by
  intro p l e s m args below meth c D cI cB ad A C H locs ls hn hP hD hS hl
  refine lv_lstore C.1 C.2.1 hd hl hm rfl (fun ls hl2 => ?_)
  have hl3 := ac_L.st2 (v := .long x) (i := 5) (loc := l0 :: l1 :: l2 :: l3 :: l4 :: lz :: ly :: lx) ?_ hl2
  · exact k p l e s m args below meth c D cI cB ad A C H locs ls hn hP hD hS hl3
  · intro j u hj hu
    obtain rfl : j = 4 := by omega
    cases hu; exact hc
theorem aw_iinc_5 {l0 l1 l2 l3 l4 : Value} {lx : List Value} {x v : Int32} {z : Int} (hd : decode cc pc = .ok (.iinc 5 z, 3)) (hv : x + Int32.ofInt z = v) (hc : l4.category = 1) (hm : 5 < mL) (k : AW d own cc mL rt n Po (pc + 3) (l0 :: l1 :: l2 :: l3 :: l4 :: .int v :: lx) (st) w) : AW d own cc mL rt n Po (pc) (l0 :: l1 :: l2 :: l3 :: l4 :: .int x :: lx) (st) w := by
  intro p l e s m args below meth c D cI cB ad A C H locs ls hn hP hD hS hl
  obtain ⟨kk, hkk⟩ := List.getElem?_of_mem ((ac_l_mem ad (l0 :: l1 :: l2 :: l3 :: l4 :: .int x :: lx) 0 (5, .int x)).mpr ⟨5, .int x, rfl, (fun h => by cases h), rfl⟩)
  refine lv_iinc C.1 C.2.1 hd hl hkk hv hm rfl (fun ls hl2 => ?_)
  have hl3 := ac_L.st1 (ls := ls) (v := .int v) (i := 5) (loc := l0 :: l1 :: l2 :: l3 :: l4 :: .int x :: lx) ?_ hl2
  · exact k p l e s m args below meth c D cI cB ad A C H locs ls hn hP hD hS hl3
  · intro j u hj hu
    obtain rfl : j = 4 := by omega
    cases hu; exact hc
theorem aw_iload_6 {l0 l1 l2 l3 l4 l5 : Value} {lx : List Value} {x : Int32} (hd : decode cc pc = .ok (.iload 6, 2)) (k : AW d own cc mL rt n Po (pc + 2) (l0 :: l1 :: l2 :: l3 :: l4 :: l5 :: .int x :: lx) (.int x :: st) w) : AW d own cc mL rt n Po (pc) (l0 :: l1 :: l2 :: l3 :: l4 :: l5 :: .int x :: lx) (st) w := by
  intro p l e s m args below meth c D cI cB ad A C H locs ls hn hP hD hS hl
  exact lv_iload C.1 C.2.1 hd (hl.at (j := 6) rfl (fun h => by cases h)) (k p l e s m args below meth c D cI cB ad A C H locs ls hn hP hD hS hl)
theorem aw_aload_6 {l0 l1 l2 l3 l4 l5 : Value} {lx : List Value} {x : Nat} (hd : decode cc pc = .ok (.aload 6, 2)) (k : AW d own cc mL rt n Po (pc + 2) (l0 :: l1 :: l2 :: l3 :: l4 :: l5 :: .ref x :: lx) (.ref x :: st) w) : AW d own cc mL rt n Po (pc) (l0 :: l1 :: l2 :: l3 :: l4 :: l5 :: .ref x :: lx) (st) w := by
  intro p l e s m args below meth c D cI cB ad A C H locs ls hn hP hD hS hl
  exact lv_aload C.1 C.2.1 hd (hl.at (j := 6) rfl (fun h => by cases h)) (k p l e s m args below meth c D cI cB ad A C H locs ls hn hP hD hS hl)
theorem aw_lload_6 {l0 l1 l2 l3 l4 l5 : Value} {lx : List Value} {x : Int64} (hd : decode cc pc = .ok (.lload 6, 2)) (k : AW d own cc mL rt n Po (pc + 2) (l0 :: l1 :: l2 :: l3 :: l4 :: l5 :: .long x :: lx) (.long x :: st) w) : AW d own cc mL rt n Po (pc) (l0 :: l1 :: l2 :: l3 :: l4 :: l5 :: .long x :: lx) (st) w := by
  intro p l e s m args below meth c D cI cB ad A C H locs ls hn hP hD hS hl
  exact lv_lload C.1 C.2.1 hd (hl.at (j := 6) rfl (fun h => by cases h)) (k p l e s m args below meth c D cI cB ad A C H locs ls hn hP hD hS hl)
theorem aw_istore_6 {l0 l1 l2 l3 l4 l5 : Value} {lx : List Value} {lz : Value} {x : Int32} (hd : decode cc pc = .ok (.istore 6, 2)) (hc : l5.category = 1) (hm : 6 < mL) (k : AW d own cc mL rt n Po (pc + 2) (l0 :: l1 :: l2 :: l3 :: l4 :: l5 :: .int x :: lx) (st) w) : AW d own cc mL rt n Po (pc) (l0 :: l1 :: l2 :: l3 :: l4 :: l5 :: lz :: lx) (.int x :: st) w := by
  intro p l e s m args below meth c D cI cB ad A C H locs ls hn hP hD hS hl
  refine lv_istore C.1 C.2.1 hd hl hm rfl (fun ls hl2 => ?_)
  have hl3 := ac_L.st1 (ls := ls) (v := .int x) (i := 6) (loc := l0 :: l1 :: l2 :: l3 :: l4 :: l5 :: lz :: lx) ?_ hl2
  · exact k p l e s m args below meth c D cI cB ad A C H locs ls hn hP hD hS hl3
  · intro j u hj hu
    obtain rfl : j = 5 := by omega
    cases hu; exact hc
theorem aw_astore_6 {l0 l1 l2 l3 l4 l5 : Value} {lx : List Value} {lz : Value} {x : Nat} (hd : decode cc pc = .ok (.astore 6, 2)) (hc : l5.category = 1) (hm : 6 < mL) (k : AW d own cc mL rt n Po (pc + 2) (l0 :: l1 :: l2 :: l3 :: l4 :: l5 :: .ref x :: lx) (st) w) : AW d own cc mL rt n Po (pc) (l0 :: l1 :: l2 :: l3 :: l4 :: l5 :: lz :: lx) (.ref x :: st) w := by
  intro p l e s m args below meth c D cI cB ad A C H locs ls hn hP hD hS hl
  refine lv_astore C.1 C.2.1 hd hl hm rfl (fun ls hl2 => ?_)
  have hl3 := ac_L.st1 (ls := ls) (v := .ref x) (i := 6) (loc := l0 :: l1 :: l2 :: l3 :: l4 :: l5 :: lz :: lx) ?_ hl2
  · exact k p l e s m args below meth c D cI cB ad A C H locs ls hn hP hD hS hl3
  · intro j u hj hu
    obtain rfl : j = 5 := by omega
    cases hu; exact hc
theorem aw_lstore_6 {l0 l1 l2 l3 l4 l5 : Value} {lx : List Value} {lz ly : Value} {x : Int64} (hd : decode cc pc = .ok (.lstore 6, 2)) (hc : l5.category = 1) (hm : 7 < mL) (k : AW d own cc mL rt n Po (pc + 2) (l0 :: l1 :: l2 :: l3 :: l4 :: l5 :: .long x :: .null :: lx) (st) w) : AW d own cc mL rt n Po (pc) (l0 :: l1 :: l2 :: l3 :: l4 :: l5 :: lz :: ly :: lx) (.long x :: st) w := by
  intro p l e s m args below meth c D cI cB ad A C H locs ls hn hP hD hS hl
  refine lv_lstore C.1 C.2.1 hd hl hm rfl (fun ls hl2 => ?_)
  have hl3 := ac_L.st2 (v := .long x) (i := 6) (loc := l0 :: l1 :: l2 :: l3 :: l4 :: l5 :: lz :: ly :: lx) ?_ hl2
  · exact k p l e s m args below meth c D cI cB ad A C H locs ls hn hP hD hS hl3
  · intro j u hj hu
    obtain rfl : j = 5 := by omega
    cases hu; exact hc
theorem aw_iinc_6 {l0 l1 l2 l3 l4 l5 : Value} {lx : List Value} {x v : Int32} {z : Int} (hd : decode cc pc = .ok (.iinc 6 z, 3)) (hv : x + Int32.ofInt z = v) (hc : l5.category = 1) (hm : 6 < mL) (k : AW d own cc mL rt n Po (pc + 3) (l0 :: l1 :: l2 :: l3 :: l4 :: l5 :: .int v :: lx) (st) w) : AW d own cc mL rt n Po (pc) (l0 :: l1 :: l2 :: l3 :: l4 :: l5 :: .int x :: lx) (st) w := by
  intro p l e s m args below meth c D cI cB ad A C H locs ls hn hP hD hS hl
  obtain ⟨kk, hkk⟩ := List.getElem?_of_mem ((ac_l_mem ad (l0 :: l1 :: l2 :: l3 :: l4 :: l5 :: .int x :: lx) 0 (6, .int x)).mpr ⟨6, .int x, rfl, (fun h => by cases h), rfl⟩)
  refine lv_iinc C.1 C.2.1 hd hl hkk hv hm rfl (fun ls hl2 => ?_)
  have hl3 := ac_L.st1 (ls := ls) (v := .int v) (i := 6) (loc := l0 :: l1 :: l2 :: l3 :: l4 :: l5 :: .int x :: lx) ?_ hl2
  · exact k p l e s m args below meth c D cI cB ad A C H locs ls hn hP hD hS hl3
  · intro j u hj hu
    obtain rfl : j = 5 := by omega
    cases hu; exact hc
theorem aw_iload_7 {l0 l1 l2 l3 l4 l5 l6 : Value} {lx : List Value} {x : Int32} (hd : decode cc pc = .ok (.iload 7, 2)) (k : AW d own cc mL rt n Po (pc + 2) (l0 :: l1 :: l2 :: l3 :: l4 :: l5 :: l6 :: .int x :: lx) (.int x :: st) w) : AW d own cc mL rt n Po (pc) (l0 :: l1 :: l2 :: l3 :: l4 :: l5 :: l6 :: .int x :: lx) (st) w := by
  intro p l e s m args below meth c D cI cB ad A C H locs ls hn hP hD hS hl
  exact lv_iload C.1 C.2.1 hd (hl.at (j := 7) rfl (fun h => by cases h)) (k p l e s m args below meth c D cI cB ad A C H locs ls hn hP hD hS hl)
theorem aw_aload_7 {l0 l1 l2 l3 l4 l5 l6 : Value} {lx : List Value} {x : Nat} (hd : decode cc pc = .ok (.aload 7, 2)) (k : AW d own cc mL rt n Po (pc + 2) (l0 :: l1 :: l2 :: l3 :: l4 :: l5 :: l6 :: .ref x :: lx) (.ref x :: st) w) : AW d own cc mL rt n Po (pc) (l0 :: l1 :: l2 :: l3 :: l4 :: l5 :: l6 :: .ref x :: lx) (st) w := by
  intro p l e s m args below meth c D cI cB ad A C H locs ls hn hP hD hS hl
  exact lv_aload C.1 C.2.1 hd (hl.at (j := 7) rfl (fun h => by cases h)) (k p l e s m args below meth c D cI cB ad A C H locs ls hn hP hD hS hl)
theorem aw_lload_7 {l0 l1 l2 l3 l4 l5 l6 : Value} {lx : List Value} {x : Int64} (hd : decode cc pc = .ok (.lload 7, 2)) (k : AW d own cc mL rt n Po (pc + 2) (l0 :: l1 :: l2 :: l3 :: l4 :: l5 :: l6 :: .long x :: lx) (.long x :: st) w) : AW d own cc mL rt n Po (pc) (l0 :: l1 :: l2 :: l3 :: l4 :: l5 :: l6 :: .long x :: lx) (st) w := by
  intro p l e s m args below meth c D cI cB ad A C H locs ls hn hP hD hS hl
  exact lv_lload C.1 C.2.1 hd (hl.at (j := 7) rfl (fun h => by cases h)) (k p l e s m args below meth c D cI cB ad A C H locs ls hn hP hD hS hl)
theorem aw_istore_7 {l0 l1 l2 l3 l4 l5 l6 : Value} {lx : List Value} {lz : Value} {x : Int32} (hd : decode cc pc = .ok (.istore 7, 2)) (hc : l6.category = 1) (hm : 7 < mL) (k : AW d own cc mL rt n Po (pc + 2) (l0 :: l1 :: l2 :: l3 :: l4 :: l5 :: l6 :: .int x :: lx) (st) w) : AW d own cc mL rt n Po (pc) (l0 :: l1 :: l2 :: l3 :: l4 :: l5 :: l6 :: lz :: lx) (.int x :: st) w := by
  intro p l e s m args below meth c D cI cB ad A C H locs ls hn hP hD hS hl
  refine lv_istore C.1 C.2.1 hd hl hm rfl (fun ls hl2 => ?_)
  have hl3 := ac_L.st1 (ls := ls) (v := .int x) (i := 7) (loc := l0 :: l1 :: l2 :: l3 :: l4 :: l5 :: l6 :: lz :: lx) ?_ hl2
  · exact k p l e s m args below meth c D cI cB ad A C H locs ls hn hP hD hS hl3
  · intro j u hj hu
    obtain rfl : j = 6 := by omega
    cases hu; exact hc
theorem aw_astore_7 {l0 l1 l2 l3 l4 l5 l6 : Value} {lx : List Value} {lz : Value} {x : Nat} (hd : decode cc pc = .ok (.astore 7, 2)) (hc : l6.category = 1) (hm : 7 < mL) (k : AW d own cc mL rt n Po (pc + 2) (l0 :: l1 :: l2 :: l3 :: l4 :: l5 :: l6 :: .ref x :: lx) (st) w) : AW d own cc mL rt n Po (pc) (l0 :: l1 :: l2 :: l3 :: l4 :: l5 :: l6 :: lz :: lx) (.ref x :: st) w := by
  intro p l e s m args below meth c D cI cB ad A C H locs ls hn hP hD hS hl
  refine lv_astore C.1 C.2.1 hd hl hm rfl (fun ls hl2 => ?_)
  have hl3 := ac_L.st1 (ls := ls) (v := .ref x) (i := 7) (loc := l0 :: l1 :: l2 :: l3 :: l4 :: l5 :: l6 :: lz :: lx) ?_ hl2
  · exact k p l e s m args below meth c D cI cB ad A C H locs ls hn hP hD hS hl3
  · intro j u hj hu
    obtain rfl : j = 6 := by omega
    cases hu; exact hc
theorem aw_lstore_7 {l0 l1 l2 l3 l4 l5 l6 : Value} {lx : List Value} {lz ly : Value} {x : Int64} (hd : decode cc pc = .ok (.lstore 7, 2)) (hc : l6.category = 1) (hm : 8 < mL) (k : AW d own cc mL rt n Po (pc + 2) (l0 :: l1 :: l2 :: l3 :: l4 :: l5 :: l6 :: .long x :: .null :: lx) (st) w) : AW d own cc mL rt n Po (pc) (l0 :: l1 :: l2 :: l3 :: l4 :: l5 :: l6 :: lz :: ly :: lx) (.long x :: st) w := by
  intro p l e s m args below meth c D cI cB ad A C H locs ls hn hP hD hS hl
  refine lv_lstore C.1 C.2.1 hd hl hm rfl (fun ls hl2 => ?_)
  have hl3 := ac_L.st2 (v := .long x) (i := 7) (loc := l0 :: l1 :: l2 :: l3 :: l4 :: l5 :: l6 :: lz :: ly :: lx) ?_ hl2
  · exact k p l e s m args below meth c D cI cB ad A C H locs ls hn hP hD hS hl3
  · intro j u hj hu
    obtain rfl : j = 6 := by omega
    cases hu; exact hc
theorem aw_iinc_7 {l0 l1 l2 l3 l4 l5 l6 : Value} {lx : List Value} {x v : Int32} {z : Int} (hd : decode cc pc = .ok (.iinc 7 z, 3)) (hv : x + Int32.ofInt z = v) (hc : l6.category = 1) (hm : 7 < mL) (k : AW d own cc mL rt n Po (pc + 3) (l0 :: l1 :: l2 :: l3 :: l4 :: l5 :: l6 :: .int v :: lx) (st) w) : AW d own cc mL rt n Po (pc) (l0 :: l1 :: l2 :: l3 :: l4 :: l5 :: l6 :: .int x :: lx) (st) w := by
  intro p l e s m args below meth c D cI cB ad A C H locs ls hn hP hD hS hl
  obtain ⟨kk, hkk⟩ := List.getElem?_of_mem ((ac_l_mem ad (l0 :: l1 :: l2 :: l3 :: l4 :: l5 :: l6 :: .int x :: lx) 0 (7, .int x)).mpr ⟨7, .int x, rfl, (fun h => by cases h), rfl⟩)
  refine lv_iinc C.1 C.2.1 hd hl hkk hv hm rfl (fun ls hl2 => ?_)
  have hl3 := ac_L.st1 (ls := ls) (v := .int v) (i := 7) (loc := l0 :: l1 :: l2 :: l3 :: l4 :: l5 :: l6 :: .int x :: lx) ?_ hl2
  · exact k p l e s m args below meth c D cI cB ad A C H locs ls hn hP hD hS hl3
  · intro j u hj hu
    obtain rfl : j = 6 := by omega
    cases hu; exact hc
theorem aw_iload_8 {l0 l1 l2 l3 l4 l5 l6 l7 : Value} {lx : List Value} {x : Int32} (hd : decode cc pc = .ok (.iload 8, 2)) (k : AW d own cc mL rt n Po (pc + 2) (l0 :: l1 :: l2 :: l3 :: l4 :: l5 :: l6 :: l7 :: .int x :: lx) (.int x :: st) w) : AW d own cc mL rt n Po (pc) (l0 :: l1 :: l2 :: l3 :: l4 :: l5 :: l6 :: l7 :: .int x :: lx) (st) w := by
  intro p l e s m args below meth c D cI cB ad A C H locs ls hn hP hD hS hl
  exact lv_iload C.1 C.2.1 hd (hl.at (j := 8) rfl (fun h => by cases h)) (k p l e s m args below meth c D cI cB ad A C H locs ls hn hP hD hS hl)
theorem aw_aload_8 {l0 l1 l2 l3 l4 l5 l6 l7 : Value} {lx : List Value} {x : Nat} (hd : decode cc pc = .ok (.aload 8, 2)) (k : AW d own cc mL rt n Po (pc + 2) (l0 :: l1 :: l2 :: l3 :: l4 :: l5 :: l6 :: l7 :: .ref x :: lx) (.ref x :: st) w) : AW d own cc mL rt n Po (pc) (l0 :: l1 :: l2 :: l3 :: l4 :: l5 :: l6 :: l7 :: .ref x :: lx) (st) w := by
  intro p l e s m args below meth c D cI cB ad A C H locs ls hn hP hD hS hl
  exact lv_aload C.1 C.2.1 hd (hl.at (j := 8) rfl (fun h => by cases h)) (k p l e s m args below meth c D cI cB ad A C H locs ls hn hP hD hS hl)
theorem aw_lload_8 {l0 l1 l2 l3 l4 l5 l6 l7 : Value} {lx : List Value} {x : Int64} (hd : decode cc pc = .ok (.lload 8, 2)) (k : AW d own cc mL rt n Po (pc + 2) (l0 :: l1 :: l2 :: l3 :: l4 :: l5 :: l6 :: l7 :: .long x :: lx) (.long x :: st) w) : AW d own cc mL rt n Po (pc) (l0 :: l1 :: l2 :: l3 :: l4 :: l5 :: l6 :: l7 :: .long x :: lx) (st) w := by
  intro p l e s m args below meth c D cI cB ad A C H locs ls hn hP hD hS hl
  exact lv_lload C.1 C.2.1 hd (hl.at (j := 8) rfl (fun h => by cases h)) (k p l e s m args below meth c D cI cB ad A C H locs ls hn hP hD hS hl)
theorem aw_istore_8 {l0 l1 l2 l3 l4 l5 l6 l7 : Value} {lx : List Value} {lz : Value} {x : Int32} (hd : decode cc pc = .ok (.istore 8, 2)) (hc : l7.category = 1) (hm : 8 < mL) (k : AW d own cc mL rt n Po (pc + 2) (l0 :: l1 :: l2 :: l3 :: l4 :: l5 :: l6 :: l7 :: .int x :: lx) (st) w) : AW d own cc mL rt n Po (pc) (l0 :: l1 :: l2 :: l3 :: l4 :: l5 :: l6 :: l7 :: lz :: lx) (.int x :: st) w := by
  intro p l e s m args below meth c D cI cB ad A C H locs ls hn hP hD hS hl
  refine lv_istore C.1 C.2.1 hd hl hm rfl (fun ls hl2 => ?_)
  have hl3 := ac_L.st1 (ls := ls) (v := .int x) (i := 8) (loc := l0 :: l1 :: l2 :: l3 :: l4 :: l5 :: l6 :: l7 :: lz :: lx) ?_ hl2
  · exact k p l e s m args below meth c D cI cB ad A C H locs ls hn hP hD hS hl3
  · intro j u hj hu
    obtain rfl : j = 7 := by omega
    cases hu; exact hc
theorem aw_astore_8 {l0 l1 l2 l3 l4 l5 l6 l7 : Value} {lx : List Value} {lz : Value} {x : Nat} (hd : decode cc pc = .ok (.astore 8, 2)) (hc : l7.category = 1) (hm : 8 < mL) (k : AW d own cc mL rt n Po (pc + 2) (l0 :: l1 :: l2 :: l3 :: l4 :: l5 :: l6 :: l7 :: .ref x :: lx) (st) w) : AW d own cc mL rt n Po (pc) (l0 :: l1 :: l2 :: l3 :: l4 :: l5 :: l6 :: l7 :: lz :: lx) (.ref x :: st) w := by
  intro p l e s m args below meth c D cI cB ad A C H locs ls hn hP hD hS hl
  refine lv_astore C.1 C.2.1 hd hl hm rfl (fun ls hl2 => ?_)
  have hl3 := ac_L.st1 (ls := ls) (v := .ref x) (i := 8) (loc := l0 :: l1 :: l2 :: l3 :: l4 :: l5 :: l6 :: l7 :: lz :: lx) ?_ hl2
  · exact k p l e s m args below meth c D cI cB ad A C H locs ls hn hP hD hS hl3
  · intro j u hj hu
    obtain rfl : j = 7 := by omega
    cases hu; exact hc
theorem aw_lstore_8 {l0 l1 l2 l3 l4 l5 l6 l7 : Value} {lx : List Value} {lz ly : Value} {x : Int64} (hd : decode cc pc = .ok (.lstore 8, 2)) (hc : l7.category = 1) (hm : 9 < mL) (k : AW d own cc mL rt n Po (pc + 2) (l0 :: l1 :: l2 :: l3 :: l4 :: l5 :: l6 :: l7 :: .long x :: .null :: lx) (st) w) : AW d own cc mL rt n Po (pc) (l0 :: l1 :: l2 :: l3 :: l4 :: l5 :: l6 :: l7 :: lz :: ly :: lx) (.long x :: st) w := by
  intro p l e s m args below meth c D cI cB ad A C H locs ls hn hP hD hS hl
  refine lv_lstore C.1 C.2.1 hd hl hm rfl (fun ls hl2 => ?_)
  have hl3 := ac_L.st2 (v := .long x) (i := 8) (loc := l0 :: l1 :: l2 :: l3 :: l4 :: l5 :: l6 :: l7 :: lz :: ly :: lx) ?_ hl2
  · exact k p l e s m args below meth c D cI cB ad A C H locs ls hn hP hD hS hl3
  · intro j u hj hu
    obtain rfl : j = 7 := by omega
    cases hu; exact hc
theorem aw_iinc_8 {l0 l1 l2 l3 l4 l5 l6 l7 : Value} {lx : List Value} {x v : Int32} {z : Int} (hd : decode cc pc = .ok (.iinc 8 z, 3)) (hv : x + Int32.ofInt z = v) (hc : l7.category = 1) (hm : 8 < mL) (k : AW d own cc mL rt n Po (pc + 3) (l0 :: l1 :: l2 :: l3 :: l4 :: l5 :: l6 :: l7 :: .int v :: lx) (st) w) : AW d own cc mL rt n Po (pc) (l0 :: l1 :: l2 :: l3 :: l4 :: l5 :: l6 :: l7 :: .int x :: lx) (st) w := by
  intro p l e s m args below meth c D cI cB ad A C H locs ls hn hP hD hS hl
  obtain ⟨kk, hkk⟩ := List.getElem?_of_mem ((ac_l_mem ad (l0 :: l1 :: l2 :: l3 :: l4 :: l5 :: l6 :: l7 :: .int x :: lx) 0 (8, .int x)).mpr ⟨8, .int x, rfl, (fun h => by cases h), rfl⟩)
  refine lv_iinc C.1 C.2.1 hd hl hkk hv hm rfl (fun ls hl2 => ?_)
  have hl3 := ac_L.st1 (ls := ls) (v := .int v) (i := 8) (loc := l0 :: l1 :: l2 :: l3 :: l4 :: l5 :: l6 :: l7 :: .int x :: lx) ?_ hl2
  · exact k p l e s m args below meth c D cI cB ad A C H locs ls hn hP hD hS hl3
  · intro j u hj hu
    obtain rfl : j = 7 := by omega
    cases hu; exact hc
theorem aw_iload_9 {l0 l1 l2 l3 l4 l5 l6 l7 l8 : Value} {lx : List Value} {x : Int32} (hd : decode cc pc = .ok (.iload 9, 2)) (k : AW d own cc mL rt n Po (pc + 2) (l0 :: l1 :: l2 :: l3 :: l4 :: l5 :: l6 :: l7 :: l8 :: .int x :: lx) (.int x :: st) w) : AW d own cc mL rt n Po (pc) (l0 :: l1 :: l2 :: l3 :: l4 :: l5 :: l6 :: l7 :: l8 :: .int x :: lx) (st) w := by
  intro p l e s m args below meth c D cI cB ad A C H locs ls hn hP hD hS hl
  exact lv_iload C.1 C.2.1 hd (hl.at (j := 9) rfl (fun h => by cases h)) (k p l e s m args below meth c D cI cB ad A C H locs ls hn hP hD hS hl)
theorem aw_aload_9 {l0 l1 l2 l3 l4 l5 l6 l7 l8 : Value} {lx : List Value} {x : Nat} (hd : decode cc pc = .ok (.aload 9, 2)) (k : AW d own cc mL rt n Po (pc + 2) (l0 :: l1 :: l2 :: l3 :: l4 :: l5 :: l6 :: l7 :: l8 :: .ref x :: lx) (.ref x :: st) w) : AW d own cc mL rt n Po (pc) (l0 :: l1 :: l2 :: l3 :: l4 :: l5 :: l6 :: l7 :: l8 :: .ref x :: lx) (st) w := by
  intro p l e s m args below meth c D cI cB ad A C H locs ls hn hP hD hS hl
  exact lv_aload C.1 C.2.1 hd (hl.at (j := 9) rfl (fun h => by cases h)) (k p l e s m args below meth c D cI cB ad A C H locs ls hn hP hD hS hl)
theorem aw_istore_9 {l0 l1 l2 l3 l4 l5 l6 l7 l8 : Value} {lx : List Value} {lz : Value} {x : Int32} (hd : decode cc pc = .ok (.istore 9, 2)) (hc : l8.category = 1) (hm : 9 < mL) (k : AW d own cc mL rt n Po (pc + 2) (l0 :: l1 :: l2 :: l3 :: l4 :: l5 :: l6 :: l7 :: l8 :: .int x :: lx) (st) w) : AW d own cc mL rt n Po (pc) (l0 :: l1 :: l2 :: l3 :: l4 :: l5 :: l6 :: l7 :: l8 :: lz :: lx) (.int x :: st) w := by
  intro p l e s m args below meth c D cI cB ad A C H locs ls hn hP hD hS hl
  refine lv_istore C.1 C.2.1 hd hl hm rfl (fun ls hl2 => ?_)
  have hl3 := ac_L.st1 (ls := ls) (v := .int x) (i := 9) (loc := l0 :: l1 :: l2 :: l3 :: l4 :: l5 :: l6 :: l7 :: l8 :: lz :: lx) ?_ hl2
  · exact k p l e s m args below meth c D cI cB ad A C H locs ls hn hP hD hS hl3
  · intro j u hj hu
    obtain rfl : j = 8 := by omega
    cases hu; exact hc
theorem aw_astore_9 {l0 l1 l2 l3 l4 l5 l6 l7 l8 : Value} {lx : List Value} {lz : Value} {x : Nat} (hd : decode cc pc = .ok (.astore 9, 2)) (hc : l8.category = 1) (hm : 9 < mL) (k : AW d own cc mL rt n Po (pc + 2) (l0 :: l1 :: l2 :: l3 :: l4 :: l5 :: l6 :: l7 :: l8 :: .ref x :: lx) (st) w) : AW d own cc mL rt n Po (pc) (l0 :: l1 :: l2 :: l3 :: l4 :: l5 :: l6 :: l7 :: l8 :: lz :: lx) (.ref x :: st) w := by
  intro p l e s m args below meth c D cI cB ad A C H locs ls hn hP hD hS hl
  refine lv_astore C.1 C.2.1 hd hl hm rfl (fun ls hl2 => ?_)
  have hl3 := ac_L.st1 (ls := ls) (v := .ref x) (i := 9) (loc := l0 :: l1 :: l2 :: l3 :: l4 :: l5 :: l6 :: l7 :: l8 :: lz :: lx) ?_ hl2
  · exact k p l e s m args below meth c D cI cB ad A C H locs ls hn hP hD hS hl3
  · intro j u hj hu
    obtain rfl : j = 8 := by omega
    cases hu; exact hc
theorem aw_iinc_9 {l0 l1 l2 l3 l4 l5 l6 l7 l8 : Value} {lx : List Value} {x v : Int32} {z : Int} (hd : decode cc pc = .ok (.iinc 9 z, 3)) (hv : x + Int32.ofInt z = v) (hc : l8.category = 1) (hm : 9 < mL) (k : AW d own cc mL rt n Po (pc + 3) (l0 :: l1 :: l2 :: l3 :: l4 :: l5 :: l6 :: l7 :: l8 :: .int v :: lx) (st) w) : AW d own cc mL rt n Po (pc) (l0 :: l1 :: l2 :: l3 :: l4 :: l5 :: l6 :: l7 :: l8 :: .int x :: lx) (st) w := by
  intro p l e s m args below meth c D cI cB ad A C H locs ls hn hP hD hS hl
  obtain ⟨kk, hkk⟩ := List.getElem?_of_mem ((ac_l_mem ad (l0 :: l1 :: l2 :: l3 :: l4 :: l5 :: l6 :: l7 :: l8 :: .int x :: lx) 0 (9, .int x)).mpr ⟨9, .int x, rfl, (fun h => by cases h), rfl⟩)
  refine lv_iinc C.1 C.2.1 hd hl hkk hv hm rfl (fun ls hl2 => ?_)
  have hl3 := ac_L.st1 (ls := ls) (v := .int v) (i := 9) (loc := l0 :: l1 :: l2 :: l3 :: l4 :: l5 :: l6 :: l7 :: l8 :: .int x :: lx) ?_ hl2
  · exact k p l e s m args below meth c D cI cB ad A C H locs ls hn hP hD hS hl3
  · intro j u hj hu
    obtain rfl : j = 8 := by omega
    cases hu; exact hc
theorem aw_iload_10 {l0 l1 l2 l3 l4 l5 l6 l7 l8 l9 : Value} {lx : List Value} {x : Int32} (hd : decode cc pc = .ok (.iload 10, 2)) (k : AW d own cc mL rt n Po (pc + 2) (l0 :: l1 :: l2 :: l3 :: l4 :: l5 :: l6 :: l7 :: l8 :: l9 :: .int x :: lx) (.int x :: st) w) : AW d own cc mL rt n Po (pc) (l0 :: l1 :: l2 :: l3 :: l4 :: l5 :: l6 :: l7 :: l8 :: l9 :: .int x :: lx) (st) w := by
  intro p l e s m args below meth c D cI cB ad A C H locs ls hn hP hD hS hl
  exact lv_iload C.1 C.2.1 hd (hl.at (j := 10) rfl (fun h => by cases h)) (k p l e s m args below meth c D cI cB ad A C H locs ls hn hP hD hS hl)
theorem aw_aload_10 {l0 l1 l2 l3 l4 l5 l6 l7 l8 l9 : Value} {lx : List Value} {x : Nat} (hd : decode cc pc = .ok (.aload 10, 2)) (k : AW d own cc mL rt n Po (pc + 2) (l0 :: l1 :: l2 :: l3 :: l4 :: l5 :: l6 :: l7 :: l8 :: l9 :: .ref x :: lx) (.ref x :: st) w) : AW d own cc mL rt n Po (pc) (l0 :: l1 :: l2 :: l3 :: l4 :: l5 :: l6 :: l7 :: l8 :: l9 :: .ref x :: lx) (st) w := by
  intro p l e s m args below meth c D cI cB ad A C H locs ls hn hP hD hS hl
  exact lv_aload C.1 C.2.1 hd (hl.at (j := 10) rfl (fun h => by cases h)) (k p l e s m args below meth c D cI cB ad A C H locs ls hn hP hD hS hl)
theorem aw_istore_10 {l0 l1 l2 l3 l4 l5 l6 l7 l8 l9 : Value} {lx : List Value} {lz : Value} {x : Int32} (hd : decode cc pc = .ok (.istore 10, 2)) (hc : l9.category = 1) (hm : 10 < mL) (k : AW d own cc mL rt n Po (pc + 2) (l0 :: l1 :: l2 :: l3 :: l4 :: l5 :: l6 :: l7 :: l8 :: l9 :: .int x :: lx) (st) w) : AW d own cc mL rt n Po (pc) (l0 :: l1 :: l2 :: l3 :: l4 :: l5 :: l6 :: l7 :: l8 :: l9 :: lz :: lx) (.int x :: st) w := by
  intro p l e s m args below meth c D cI cB ad A C H locs ls hn hP hD hS hl
  refine lv_istore C.1 C.2.1 hd hl hm rfl (fun ls hl2 => ?_)
  have hl3 := ac_L.st1 (ls := ls) (v := .int x) (i := 10) (loc := l0 :: l1 :: l2 :: l3 :: l4 :: l5 :: l6 :: l7 :: l8 :: l9 :: lz :: lx) ?_ hl2
  · exact k p l e s m args below meth c D cI cB ad A C H locs ls hn hP hD hS hl3
  · intro j u hj hu
    obtain rfl : j = 9 := by omega
    cases hu; exact hc
theorem aw_astore_10 {l0 l1 l2 l3 l4 l5 l6 l7 l8 l9 : Value} {lx : List Value} {lz : Value} {x : Nat} (hd : decode cc pc = .ok (.astore 10, 2)) (hc : l9.category = 1) (hm : 10 < mL) (k : AW d own cc mL rt n Po (pc + 2) (l0 :: l1 :: l2 :: l3 :: l4 :: l5 :: l6 :: l7 :: l8 :: l9 :: .ref x :: lx) (st) w) : AW d own cc mL rt n Po (pc) (l0 :: l1 :: l2 :: l3 :: l4 :: l5 :: l6 :: l7 :: l8 :: l9 :: lz :: lx) (.ref x :: st) w := by
  intro p l e s m args below meth c D cI cB ad A C H locs ls hn hP hD hS hl
  refine lv_astore C.1 C.2.1 hd hl hm rfl (fun ls hl2 => ?_)
  have hl3 := ac_L.st1 (ls := ls) (v := .ref x) (i := 10) (loc := l0 :: l1 :: l2 :: l3 :: l4 :: l5 :: l6 :: l7 :: l8 :: l9 :: lz :: lx) ?_ hl2
  · exact k p l e s m args below meth c D cI cB ad A C H locs ls hn hP hD hS hl3
  · intro j u hj hu
    obtain rfl : j = 9 := by omega
    cases hu; exact hc
theorem aw_iinc_10 {l0 l1 l2 l3 l4 l5 l6 l7 l8 l9 : Value} {lx : List Value} {x v : Int32} {z : Int} (hd : decode cc pc = .ok (.iinc 10 z, 3)) (hv : x + Int32.ofInt z = v) (hc : l9.category = 1) (hm : 10 < mL) (k : AW d own cc mL rt n Po (pc + 3) (l0 :: l1 :: l2 :: l3 :: l4 :: l5 :: l6 :: l7 :: l8 :: l9 :: .int v :: lx) (st) w) : AW d own cc mL rt n Po (pc) (l0 :: l1 :: l2 :: l3 :: l4 :: l5 :: l6 :: l7 :: l8 :: l9 :: .int x :: lx) (st) w := by
  intro p l e s m args below meth c D cI cB ad A C H locs ls hn hP hD hS hl
  obtain ⟨kk, hkk⟩ := List.getElem?_of_mem ((ac_l_mem ad (l0 :: l1 :: l2 :: l3 :: l4 :: l5 :: l6 :: l7 :: l8 :: l9 :: .int x :: lx) 0 (10, .int x)).mpr ⟨10, .int x, rfl, (fun h => by cases h), rfl⟩)
  refine lv_iinc C.1 C.2.1 hd hl hkk hv hm rfl (fun ls hl2 => ?_)
  have hl3 := ac_L.st1 (ls := ls) (v := .int v) (i := 10) (loc := l0 :: l1 :: l2 :: l3 :: l4 :: l5 :: l6 :: l7 :: l8 :: l9 :: .int x :: lx) ?_ hl2
  · exact k p l e s m args below meth c D cI cB ad A C H locs ls hn hP hD hS hl3
  · intro j u hj hu
    obtain rfl : j = 9 := by omega
    cases hu; exact hc
theorem aw_iload_11 {l0 l1 l2 l3 l4 l5 l6 l7 l8 l9 l10 : Value} {lx : List Value} {x : Int32} (hd : decode cc pc = .ok (.iload 11, 2)) (k : AW d own cc mL rt n Po (pc + 2) (l0 :: l1 :: l2 :: l3 :: l4 :: l5 :: l6 :: l7 :: l8 :: l9 :: l10 :: .int x :: lx) (.int x :: st) w) : AW d own cc mL rt n Po (pc) (l0 :: l1 :: l2 :: l3 :: l4 :: l5 :: l6 :: l7 :: l8 :: l9 :: l10 :: .int x :: lx) (st) w := by
  intro p l e s m args below meth c D cI cB ad A C H locs ls hn hP hD hS hl
  exact lv_iload C.1 C.2.1 hd (hl.at (j := 11) rfl (fun h => by cases h)) (k p l e s m args below meth c D cI cB ad A C H locs ls hn hP hD hS hl)
theorem aw_aload_11 {l0 l1 l2 l3 l4 l5 l6 l7 l8 l9 l10 : Value} {lx : List Value} {x : Nat} (hd : decode cc pc = .ok (.aload 11, 2)) (k : AW d own cc mL rt n Po (pc + 2) (l0 :: l1 :: l2 :: l3 :: l4 :: l5 :: l6 :: l7 :: l8 :: l9 :: l10 :: .ref x :: lx) (.ref x :: st) w) : AW d own cc mL rt n Po (pc) (l0 :: l1 :: l2 :: l3 :: l4 :: l5 :: l6 :: l7 :: l8 :: l9 :: l10 :: .ref x :: lx) (st) w := by
  intro p l e s m args below meth c D cI cB ad A C H locs ls hn hP hD hS hl
  exact lv_aload C.1 C.2.1 hd (hl.at (j := 11) rfl (fun h => by cases h)) (k p l e s m args below meth c D cI cB ad A C H locs ls hn hP hD hS hl)
theorem aw_istore_11 {l0 l1 l2 l3 l4 l5 l6 l7 l8 l9 l10 : Value} {lx : List Value} {lz : Value} {x : Int32} (hd : decode cc pc = .ok (.istore 11, 2)) (hc : l10.category = 1) (hm : 11 < mL) (k : AW d own cc mL rt n Po (pc + 2) (l0 :: l1 :: l2 :: l3 :: l4 :: l5 :: l6 :: l7 :: l8 :: l9 :: l10 :: .int x :: lx) (st) w) : AW d own cc mL rt n Po (pc) (l0 :: l1 :: l2 :: l3 :: l4 :: l5 :: l6 :: l7 :: l8 :: l9 :: l10 :: lz :: lx) (.int x :: st) w := by
  intro p l e s m args below meth c D cI cB ad A C H locs ls hn hP hD hS hl
  refine lv_istore C.1 C.2.1 hd hl hm rfl (fun ls hl2 => ?_)
  have hl3 := ac_L.st1 (ls := ls) (v := .int x) (i := 11) (loc := l0 :: l1 :: l2 :: l3 :: l4 :: l5 :: l6 :: l7 :: l8 :: l9 :: l10 :: lz :: lx) ?_ hl2
  · exact k p l e s m args below meth c D cI cB ad A C H locs ls hn hP hD hS hl3
  · intro j u hj hu
    obtain rfl : j = 10 := by omega
    cases hu; exact hc
theorem aw_astore_11 {l0 l1 l2 l3 l4 l5 l6 l7 l8 l9 l10 : Value} {lx : List Value} {lz : Value} {x : Nat} (hd : decode cc pc = .ok (.astore 11, 2)) (hc : l10.category = 1) (hm : 11 < mL) (k : AW d own cc mL rt n Po (pc + 2) (l0 :: l1 :: l2 :: l3 :: l4 :: l5 :: l6 :: l7 :: l8 :: l9 :: l10 :: .ref x :: lx) (st) w) : AW d own cc mL rt n Po (pc) (l0 :: l1 :: l2 :: l3 :: l4 :: l5 :: l6 :: l7 :: l8 :: l9 :: l10 :: lz :: lx) (.ref x :: st) w := by
  intro p l e s m args below meth c D cI cB ad A C H locs ls hn hP hD hS hl
  refine lv_astore C.1 C.2.1 hd hl hm rfl (fun ls hl2 => ?_)
  have hl3 := ac_L.st1 (ls := ls) (v := .ref x) (i := 11) (loc := l0 :: l1 :: l2 :: l3 :: l4 :: l5 :: l6 :: l7 :: l8 :: l9 :: l10 :: lz :: lx) ?_ hl2
  · exact k p l e s m args below meth c D cI cB ad A C H locs ls hn hP hD hS hl3
  · intro j u hj hu
    obtain rfl : j = 10 := by omega
    cases hu; exact hc
theorem aw_iinc_11 {l0 l1 l2 l3 l4 l5 l6 l7 l8 l9 l10 : Value} {lx : List Value} {x v : Int32} {z : Int} (hd : decode cc pc = .ok (.iinc 11 z, 3)) (hv : x + Int32.ofInt z = v) (hc : l10.category = 1) (hm : 11 < mL) (k : AW d own cc mL rt n Po (pc + 3) (l0 :: l1 :: l2 :: l3 :: l4 :: l5 :: l6 :: l7 :: l8 :: l9 :: l10 :: .int v :: lx) (st) w) : AW d own cc mL rt n Po (pc) (l0 :: l1 :: l2 :: l3 :: l4 :: l5 :: l6 :: l7 :: l8 :: l9 :: l10 :: .int x :: lx) (st) w := by
  intro p l e s m args below meth c D cI cB ad A C H locs ls hn hP hD hS hl
  obtain ⟨kk, hkk⟩ := List.getElem?_of_mem ((ac_l_mem ad (l0 :: l1 :: l2 :: l3 :: l4 :: l5 :: l6 :: l7 :: l8 :: l9 :: l10 :: .int x :: lx) 0 (11, .int x)).mpr ⟨11, .int x, rfl, (fun h => by cases h), rfl⟩)
  refine lv_iinc C.1 C.2.1 hd hl hkk hv hm rfl (fun ls hl2 => ?_)
  have hl3 := ac_L.st1 (ls := ls) (v := .int v) (i := 11) (loc := l0 :: l1 :: l2 :: l3 :: l4 :: l5 :: l6 :: l7 :: l8 :: l9 :: l10 :: .int x :: lx) ?_ hl2
  · exact k p l e s m args below meth c D cI cB ad A C H locs ls hn hP hD hS hl3
  · intro j u hj hu
    obtain rfl : j = 10 := by omega
    cases hu; exact hc
theorem aw_iload_12 {l0 l1 l2 l3 l4 l5 l6 l7 l8 l9 l10 l11 : Value} {lx : List Value} {x : Int32} (hd : decode cc pc = .ok (.iload 12, 2)) (k : AW d own cc mL rt n Po (pc + 2) (l0 :: l1 :: l2 :: l3 :: l4 :: l5 :: l6 :: l7 :: l8 :: l9 :: l10 :: l11 :: .int x :: lx) (.int x :: st) w) : AW d own cc mL rt n Po (pc) (l0 :: l1 :: l2 :: l3 :: l4 :: l5 :: l6 :: l7 :: l8 :: l9 :: l10 :: l11 :: .int x :: lx) (st) w := by
  intro p l e s m args below meth c D cI cB ad A C H locs ls hn hP hD hS hl
  exact lv_iload C.1 C.2.1 hd (hl.at (j := 12) rfl (fun h => by cases h)) (k p l e s m args below meth c D cI cB ad A C H locs ls hn hP hD hS hl)
theorem aw_aload_12 {l0 l1 l2 l3 l4 l5 l6 l7 l8 l9 l10 l11 : Value} {lx : List Value} {x : Nat} (hd : decode cc pc = .ok (.aload 12, 2)) (k : AW d own cc mL rt n Po (pc + 2) (l0 :: l1 :: l2 :: l3 :: l4 :: l5 :: l6 :: l7 :: l8 :: l9 :: l10 :: l11 :: .ref x :: lx) (.ref x :: st) w) : AW d own cc mL rt n Po (pc) (l0 :: l1 :: l2 :: l3 :: l4 :: l5 :: l6 :: l7 :: l8 :: l9 :: l10 :: l11 :: .ref x :: lx) (st) w := by
  intro p l e s m args below meth c D cI cB ad A C H locs ls hn hP hD hS hl
  exact lv_aload C.1 C.2.1 hd (hl.at (j := 12) rfl (fun h => by cases h)) (k p l e s m args below meth c D cI cB ad A C H locs ls hn hP hD hS hl)
theorem aw_istore_12 {l0 l1 l2 l3 l4 l5 l6 l7 l8 l9 l10 l11 : Value} {lx : List Value} {lz : Value} {x : Int32} (hd : decode cc pc = .ok (.istore 12, 2)) (hc : l11.category = 1) (hm : 12 < mL) (k : AW d own cc mL rt n Po (pc + 2) (l0 :: l1 :: l2 :: l3 :: l4 :: l5 :: l6 :: l7 :: l8 :: l9 :: l10 :: l11 :: .int x :: lx) (st) w) : AW d own cc mL rt n Po (pc) (l0 :: l1 :: l2 :: l3 :: l4 :: l5 :: l6 :: l7 :: l8 :: l9 :: l10 :: l11 :: lz :: lx) (.int x :: st) w := by
  intro p l e s m args below meth c D cI cB ad A C H locs ls hn hP hD hS hl
  refine lv_istore C.1 C.2.1 hd hl hm rfl (fun ls hl2 => ?_)
  have hl3 := ac_L.st1 (ls := ls) (v := .int x) (i := 12) (loc := l0 :: l1 :: l2 :: l3 :: l4 :: l5 :: l6 :: l7 :: l8 :: l9 :: l10 :: l11 :: lz :: lx) ?_ hl2
  · exact k p l e s m args below meth c D cI cB ad A C H locs ls hn hP hD hS hl3
  · intro j u hj hu
    obtain rfl : j = 11 := by omega
    cases hu; exact hc
theorem aw_astore_12 {l0 l1 l2 l3 l4 l5 l6 l7 l8 l9 l10 l11 : Value} {lx : List Value} {lz : Value} {x : Nat} (hd : decode cc pc = .ok (.astore 12, 2)) (hc : l11.category = 1) (hm : 12 < mL) (k : AW d own cc mL rt n Po (pc + 2) (l0 :: l1 :: l2 :: l3 :: l4 :: l5 :: l6 :: l7 :: l8 :: l9 :: l10 :: l11 :: .ref x :: lx) (st) w) : AW d own cc mL rt n Po (pc) (l0 :: l1 :: l2 :: l3 :: l4 :: l5 :: l6 :: l7 :: l8 :: l9 :: l10 :: l11 :: lz :: lx) (.ref x :: st) w := by
  intro p l e s m args below meth c D cI cB ad A C H locs ls hn hP hD hS hl
  refine lv_astore C.1 C.2.1 hd hl hm rfl (fun ls hl2 => ?_)
  have hl3 := ac_L.st1 (ls := ls) (v := .ref x) (i := 12) (loc := l0 :: l1 :: l2 :: l3 :: l4 :: l5 :: l6 :: l7 :: l8 :: l9 :: l10 :: l11 :: lz :: lx) ?_ hl2
  · exact k p l e s m args below meth c D cI cB ad A C H locs ls hn hP hD hS hl3
  · intro j u hj hu
    obtain rfl : j = 11 := by omega
    cases hu; exact hc
theorem aw_iinc_12 {l0 l1 l2 l3 l4 l5 l6 l7 l8 l9 l10 l11 : Value} {lx : List Value} {x v : Int32} {z : Int} (hd : decode cc pc = .ok (.iinc 12 z, 3)) (hv : x + Int32.ofInt z = v) (hc : l11.category = 1) (hm : 12 < mL) (k : AW d own cc mL rt n Po (pc + 3) (l0 :: l1 :: l2 :: l3 :: l4 :: l5 :: l6 :: l7 :: l8 :: l9 :: l10 :: l11 :: .int v :: lx) (st) w) : AW d own cc mL rt n Po (pc) (l0 :: l1 :: l2 :: l3 :: l4 :: l5 :: l6 :: l7 :: l8 :: l9 :: l10 :: l11 :: .int x :: lx) (st) w := by
  intro p l e s m args below meth c D cI cB ad A C H locs ls hn hP hD hS hl
  obtain ⟨kk, hkk⟩ := List.getElem?_of_mem ((ac_l_mem ad (l0 :: l1 :: l2 :: l3 :: l4 :: l5 :: l6 :: l7 :: l8 :: l9 :: l10 :: l11 :: .int x :: lx) 0 (12, .int x)).mpr ⟨12, .int x, rfl, (fun h => by cases h), rfl⟩)
  refine lv_iinc C.1 C.2.1 hd hl hkk hv hm rfl (fun ls hl2 => ?_)
  have hl3 := ac_L.st1 (ls := ls) (v := .int v) (i := 12) (loc := l0 :: l1 :: l2 :: l3 :: l4 :: l5 :: l6 :: l7 :: l8 :: l9 :: l10 :: l11 :: .int x :: lx) ?_ hl2
  · exact k p l e s m args below meth c D cI cB ad A C H locs ls hn hP hD hS hl3
  · intro j u hj hu
    obtain rfl : j = 11 := by omega
    cases hu; exact hc
-- switches
theorem aw_tableIn {dflt lo hi : Int} {offs : Array Int} {len : Nat} {x : Int32} {off : Int} (tgt : Nat) (hd : decode cc pc = .ok (.tableswitch dflt lo hi offs, len)) (h1 : ¬ x.toInt < lo) (h2 : ¬ hi < x.toInt) (ho : offs[(x.toInt - lo).toNat]? = some off) (ht : (pc : Int) + off = (tgt : Int)) (k : AW d own cc mL rt n Po tgt loc st w) : AW d own cc mL rt n Po pc loc (.int x :: st) w := by
  intro p l e s m args below meth c D cI cB ad A C H locs ls hn hP hD hS hl
  exact lv_tableIn C.1 C.2.1 hd h1 h2 ho ht (k p l e s m args below meth c D cI cB ad A C H locs ls hn hP hD hS hl)
theorem aw_tableOut {dflt lo hi : Int} {offs : Array Int} {len : Nat} {x : Int32} (tgt : Nat) (hd : decode cc pc = .ok (.tableswitch dflt lo hi offs, len)) (h : x.toInt < lo ∨ hi < x.toInt) (ht : (pc : Int) + dflt = (tgt : Int)) (k : AW d own cc mL rt n Po tgt loc st w) : AW d own cc mL rt n Po pc loc (.int x :: st) w := by
  intro p l e s m args below meth c D cI cB ad A C H locs ls hn hP hD hS hl
  exact lv_tableOut C.1 C.2.1 hd h ht (k p l e s m args below meth c D cI cB ad A C H locs ls hn hP hD hS hl)
theorem aw_lookup {dflt : Int} {ps : Array (Int × Int)} {len : Nat} {x : Int32} {off : Int} (tgt : Nat) (hd : decode cc pc = .ok (.lookupswitch dflt ps, len)) (hp : (ps.toList.zip (ps.toList.drop 1)).all (fun (a, next) => a.1 < next.1) = true) (ho : Op.lookupswitch.offset ps.toList dflt x.toInt = off) (ht : (pc : Int) + off = (tgt : Int)) (k : AW d own cc mL rt n Po tgt loc st w) : AW d own cc mL rt n Po pc loc (.int x :: st) w := by
  intro p l e s m args below meth c D cI cB ad A C H locs ls hn hP hD hS hl
  exact lv_lookup C.1 C.2.1 hd hp ho ht (k p l e s m args below meth c D cI cB ad A C H locs ls hn hP hD hS hl)
-- fields
theorem aw_get {idx ci i id N : Nat} {R : String} {T : u_T} (hlk : Cond.fieldLink own idx (T i).1 (T i).2.1 (T i).2.2.1 ∈ gw_L) (hws : ∀ x ∈ u_ws R T N, x ∈ gw_L) (hc : vwCl[ci]? = some (R, T, N)) (hi : i < N) (hd : decode cc pc = .ok (.getfield idx, 3)) {fs : List Value} {v : Value} (he : w[id]? = some (.inr (ci, fs))) (hv : fs[i]? = some v)
    (k : AW d own cc mL rt n Po (pc + 3) loc (v :: st) w) : AW d own cc mL rt n Po pc loc (.ref id :: st) w := by
  intro p l e s m args below meth c D cI cB ad A C H locs ls hn hP hD hS hl
  refine va_get (D := D) C.1 C.2.1 C.2.2.2.2.2.2.1 hws C.2.2.2.2.1 C.2.2.2.2.2.2.2.1 hP id (fs := fs.map (ac_v ad)) (ac_W_at he) hc i hi (C.2.2.2.2.2.2.1 _ hlk) (fun _ h9 => h9) (v := ac_v ad v) ?_ hd (k p l e s m args below meth c D cI cB ad A C H locs ls hn hP hD hS hl)
  rw [List.getElem?_map, hv]; rfl
theorem aw_put {idx ci i id N : Nat} {R : String} {T : u_T} (hlk : Cond.fieldLink own idx (T i).1 (T i).2.1 (T i).2.2.1 ∈ gw_L) (hws : ∀ x ∈ u_ws R T N, x ∈ gw_L) (ty0 : Nat → FieldType) (hty : ∀ k, k < N → parseFieldDescriptor (T k).2.2.1 = some (ty0 k)) (hnm : ∀ a, a < N → ∀ b, b < N → a ≠ b → (T a).2.1 ≠ (T b).2.1) (hc : vwCl[ci]? = some (R, T, N)) (hi : i < N) (hfin : (T i).2.2.2 = false) {ty : FieldType} (hdesc : parseFieldDescriptor (T i).2.2.1 = some ty)
    (hd : decode cc pc = .ok (.putfield idx, 3)) {fs : List Value} {v : Value} (he : w[id]? = some (.inr (ci, fs))) (hir : i < fs.length) (hnar : ∀ ad, narrow ty (ac_v ad v) = ac_v ad v) (hfit : ∀ ad, fits ty (ac_v ad v) = true)
    (k : AW d own cc mL rt n Po (pc + 3) loc st (w.set id (.inr (ci, fs.set i v)))) : AW d own cc mL rt n Po pc loc (v :: .ref id :: st) w := by
  intro p l e s m args below meth c D cI cB ad A C H locs ls hn hP hD hS hl
  refine va_put (D := D) C.1 C.2.1 C.2.2.2.2.2.2.1 hws ty0 hty hnm C.2.2.2.2.1 C.2.2.2.2.2.2.2.1 hP hD hS id (fs := fs.map (ac_v ad)) (ac_W_at he) hc i hi (C.2.2.2.2.2.2.1 _ hlk) (fun _ h9 => h9) hfin (v := ac_v ad v) hdesc (hnar ad) (hfit ad) (by rw [List.length_map]; exact hir) hd (fun H1 locs1 hP1 hD1 hS1 => ?_)
  have e : (ac_W cI cB ad 0 w).set id (ad id, .inr (ci, (fs.map (ac_v ad)).set i (ac_v ad v))) = ac_W cI cB ad 0 (w.set id (.inr (ci, fs.set i v))) := by
    rw [← ac_W_set]
    show _ = (ac_W cI cB ad 0 w).set id (ad id, .inr (ci, (fs.set i v).map (ac_v ad)))
    rw [List.map_set]
  rw [e] at hP1 hD1
  exact k p l e s m args below meth c D cI cB ad A C H1 locs1 ls (by rw [List.length_set]; exact hn) hP1 hD1 hS1 hl
-- arrays
theorem aw_iald {id N : Nat} {f : Nat → Int32} {i : Int32} (hd : decode cc pc = .ok (.iaload, 1)) (he : w[id]? = some (.inl (0, N, f))) (hin : vp_in i N) (k : AW d own cc mL rt n Po (pc + 1) loc (.int (f i.toNatClampNeg) :: st) w) : AW d own cc mL rt n Po pc loc (.int i :: .ref id :: st) w := by
  intro p l e s m args below meth c D cI cB ad A C H locs ls hn hP hD hS hl
  exact va_iald (D := D) C.1 C.2.1 C.2.2.2.2.2.2.2.1 hP id 0 (ac_W_at he) rfl hin hd (k p l e s m args below meth c D cI cB ad A C H locs ls hn hP hD hS hl)
theorem aw_bald {id N : Nat} {f : Nat → Int32} {i : Int32} (hd : decode cc pc = .ok (.baload, 1)) (he : w[id]? = some (.inl (1, N, f))) (hin : vp_in i N) (k : AW d own cc mL rt n Po (pc + 1) loc (.int (f i.toNatClampNeg) :: st) w) : AW d own cc mL rt n Po pc loc (.int i :: .ref id :: st) w := by
  intro p l e s m args below meth c D cI cB ad A C H locs ls hn hP hD hS hl
  exact va_bald (D := D) C.1 C.2.1 C.2.2.2.2.2.2.2.1 hP id 1 (ac_W_at he) rfl hin hd (k p l e s m args below meth c D cI cB ad A C H locs ls hn hP hD hS hl)
theorem aw_iast {id N : Nat} {f : Nat → Int32} {i x : Int32} (hd : decode cc pc = .ok (.iastore, 1)) (he : w[id]? = some (.inl (0, N, f))) (hin : vp_in i N) (k : AW d own cc mL rt n Po (pc + 1) loc st (w.set id (.inl (0, N, upd f i.toNatClampNeg x)))) : AW d own cc mL rt n Po pc loc (.int x :: .int i :: .ref id :: st) w := by
  intro p l e s m args below meth c D cI cB ad A C H locs ls hn hP hD hS hl
  refine va_iast (D := D) C.1 C.2.1 C.2.2.2.2.2.2.2.1 hP hD hS id 0 (ac_W_at he) rfl hin hd (fun H1 locs1 hP1 hD1 hS1 => ?_)
  have e := ac_W_set cI cB ad w id (.inl (0, N, upd f i.toNatClampNeg x))
  exact k p l e s m args below meth c D cI cB ad A C H1 locs1 ls (by rw [List.length_set]; exact hn) (e ▸ hP1) (e ▸ hD1) hS1 hl
theorem aw_bast {id N : Nat} {f : Nat → Int32} {i x : Int32} (hd : decode cc pc = .ok (.bastore, 1)) (he : w[id]? = some (.inl (1, N, f))) (hin : vp_in i N) (k : AW d own cc mL rt n Po (pc + 1) loc st (w.set id (.inl (1, N, upd f i.toNatClampNeg (vp_nar .byte x))))) : AW d own cc mL rt n Po pc loc (.int x :: .int i :: .ref id :: st) w := by
  intro p l e s m args below meth c D cI cB ad A C H locs ls hn hP hD hS hl
  refine va_bast (D := D) C.1 C.2.1 C.2.2.2.2.2.2.2.1 hP hD hS id 1 (ac_W_at he) rfl hin hd (fun H1 locs1 hP1 hD1 hS1 => ?_)
  have e := ac_W_set cI cB ad w id (.inl (1, N, upd f i.toNatClampNeg (vp_nar .byte x)))
  exact k p l e s m args below meth c D cI cB ad A C H1 locs1 ls (by rw [List.length_set]; exact hn) (e ▸ hP1) (e ▸ hD1) hS1 hl
-- the constants of Kind
theorem aw_gets {idx i : Nat} (hi : i < 5) (hlk : Cond.fieldLink own idx "ThanksOwed$Kind" (ac_nm.getD i "") "LThanksOwed$Kind;" ∈ gw_L) (hd : decode cc pc = .ok (.getstatic idx, 3)) (k : AW d own cc mL rt n Po (pc + 3) loc (.ref (1000 + i) :: st) w) : AW d own cc mL rt n Po pc loc st w := by
  intro p l e s m args below meth c D cI cB ad A C H locs ls hn hP hD hS hl
  exact va_gets C.1 C.2.1 (C.2.2.2.2.2.2.2.2.2.1.1.1 i hi).1 hS C.2.2.2.2.1 (C.2.2.2.2.2.2.1 _ hlk) (fun _ h => h) hd (k p l e s m args below meth c D cI cB ad A C H locs ls hn hP hD hS hl)
theorem aw_kinds {idx : Nat} (hlk : Cond.fieldLink own idx "ThanksOwed" "KINDS" "[LThanksOwed$Kind;" ∈ gw_L) (hd : decode cc pc = .ok (.getstatic idx, 3)) (k : AW d own cc mL rt n Po (pc + 3) loc (.ref 1010 :: st) w) : AW d own cc mL rt n Po pc loc st w := by
  intro p l e s m args below meth c D cI cB ad A C H locs ls hn hP hD hS hl
  exact va_gets C.1 C.2.1 C.2.2.2.2.2.2.2.2.2.1.2.1 hS C.2.2.2.2.1 (C.2.2.2.2.2.2.1 _ hlk) (fun _ h => h) hd (k p l e s m args below meth c D cI cB ad A C H locs ls hn hP hD hS hl)
theorem aw_kindsN (ho : own = RX8) (hd : decode cc pc = .ok (.getstatic 55, 3)) (k : AW d own cc mL rt n Po (pc + 3) loc (.ref 1010 :: st) w) : AW d own cc mL rt n Po pc loc st w := by
  intro p l e s m args below meth c D cI cB ad A C H locs ls hn hP hD hS hl
  subst ho
  exact va_getsN C.1 C.2.1 C.2.2.2.2.2.2.2.2.2.1.2.1 hS C.2.2.2.2.1 (va_Nw.use rfl C.2.2.2.2.2.2.2.2.1.2) (fun _ h => h) hd (k p l e s m args below meth c D cI cB ad A C H locs ls hn hP hD hS hl)
theorem aw_klen (hd : decode cc pc = .ok (.arraylength, 1)) (k : AW d own cc mL rt n Po (pc + 1) loc (.int 5 :: st) w) : AW d own cc mL rt n Po pc loc (.ref 1010 :: st) w := by
  intro p l e s m args below meth c D cI cB ad A C H locs ls hn hP hD hS hl
  exact va_tlen C.1 C.2.1 C.2.2.2.2.2.2.2.2.2.1.2.2 hS (v := 5) rfl hd (k p l e s m args below meth c D cI cB ad A C H locs ls hn hP hD hS hl)
theorem aw_kald {i : Int32} (hd : decode cc pc = .ok (.aaload, 1)) (hin : vp_in i 5) (k : AW d own cc mL rt n Po (pc + 1) loc (.ref (1000 + i.toNatClampNeg) :: st) w) : AW d own cc mL rt n Po pc loc (.int i :: .ref 1010 :: st) w := by
  intro p l e s m args below meth c D cI cB ad A C H locs ls hn hP hD hS hl
  exact vb_tq C.1 C.2.1 C.2.2.2.2.2.2.2.2.2.1.2.2 hS hin rfl hd (k p l e s m args below meth c D cI cB ad A C H locs ls hn hP hD hS hl)
theorem aw_getK {idx i j : Nat} {q : String × String × String × List Int32} (hi : i < 5) (hj : ac_F[j]? = some q) (hlk : Cond.fieldLink own idx q.1 q.2.1 q.2.2.1 ∈ gw_L) (hd : decode cc pc = .ok (.getfield idx, 3)) (k : AW d own cc mL rt n Po (pc + 3) loc (.int (q.2.2.2.getD i 0) :: st) w) : AW d own cc mL rt n Po pc loc (.ref (1000 + i) :: st) w := by
  intro p l e s m args below meth c D cI cB ad A C H locs ls hn hP hD hS hl
  exact va_getE C.1 C.2.1 (i := i) C.2.2.2.2.2.2.2.2.2.1.1 hi hS C.2.2.2.2.1 (List.mem_of_getElem? hj) (C.2.2.2.2.2.2.1 _ hlk) (fun _ h => h) hd (k p l e s m args below meth c D cI cB ad A C H locs ls hn hP hD hS hl)
theorem aw_acmp_ne {i j : Nat} {off : Int} (tgt : Nat) (hi : i < 5) (hj : j < 5) (hd : decode cc pc = .ok (.if_acmp .ne off, 3)) (ht : (pc : Int) + off = (tgt : Int)) (kt : ¬ i = j → AW d own cc mL rt n Po tgt loc st w) (kf : i = j → AW d own cc mL rt n Po (pc + 3) loc st w) : AW d own cc mL rt n Po pc loc (.ref (1000 + j) :: .ref (1000 + i) :: st) w := by
  intro p l e s m args below meth c D cI cB ad A C H locs ls hn hP hD hS hl
  refine lv_acmp_ne (rx := some (ad (1000 + i))) (ry := some (ad (1000 + j))) C.1 C.2.1 hd ht (fun h => kt (fun q => h (by rw [q])) p l e s m args below meth c D cI cB ad A C H locs ls hn hP hD hS hl) (fun h => kf ?_ p l e s m args below meth c D cI cB ad A C H locs ls hn hP hD hS hl)
  exact C.2.2.2.2.2.2.2.2.2.1.1.2 i j hi hj (Option.some.inj h)
theorem aw_acmp_eq {i j : Nat} {off : Int} (tgt : Nat) (hi : i < 5) (hj : j < 5) (hd : decode cc pc = .ok (.if_acmp .eq off, 3)) (ht : (pc : Int) + off = (tgt : Int)) (kt : i = j → AW d own cc mL rt n Po tgt loc st w) (kf : ¬ i = j → AW d own cc mL rt n Po (pc + 3) loc st w) : AW d own cc mL rt n Po pc loc (.ref (1000 + j) :: .ref (1000 + i) :: st) w := by
  intro p l e s m args below meth c D cI cB ad A C H locs ls hn hP hD hS hl
  refine lv_acmp_eq (rx := some (ad (1000 + i))) (ry := some (ad (1000 + j))) C.1 C.2.1 hd ht (fun h => kt ?_ p l e s m args below meth c D cI cB ad A C H locs ls hn hP hD hS hl) (fun h => kf (fun q => h (by rw [q])) p l e s m args below meth c D cI cB ad A C H locs ls hn hP hD hS hl)
  exact C.2.2.2.2.2.2.2.2.2.1.1.2 i j hi hj (Option.some.inj h)
-- Math.min, Math.max, System.arraycopy
theorem aw_min {idx : Nat} {x y : Int32} (hlk : Cond.methodLink own idx yJ9_min_7cf53 ∈ gw_L) (hd : decode cc pc = .ok (.invokestatic idx, 3)) (hs : (st.map fun v => v.category).sum ≤ 8) (hdd : 0 < d) (k : AW d own cc mL rt n Po (pc + 3) loc (.int (if y < x then y else x) :: st) w) : AW d own cc mL rt n Po pc loc (.int y :: .int x :: st) w := by
  intro p l e s m args below meth c D cI cB ad A C H locs ls hn hP hD hS hl
  have hts := C.2.2.2.2.2.2.1
  have hsum : ((st.map (ac_v ad)).map fun v => v.category) = (st.map fun v => v.category) := by rw [List.map_map]; exact List.map_congr_left (fun v _ => ac_v_cat ad v)
  exact va_mmin C.1 C.2.1 (C.2.2.2.1.trans hl.1.symm) C.2.2.2.2.1 (hts _ hlk) (hts (.static yJ9_min_7cf53) gq_411) (hts (.initialized RJ9) gq_56) (hts (.code yJ9_min_7cf53 cJ9_min_7cf53 2 (some .int)) gq_412) (show 1 ≤ d from hdd) (by rw [hsum]; show _ + 13 ≤ 40 * d; omega) (Nat.zero_le _) (Nat.zero_le _) hd (k p l e s m args below meth c D cI cB ad A C H locs ls hn hP hD hS hl)
theorem aw_max {idx : Nat} {x y : Int32} (hlk : Cond.methodLink own idx yJ9_max_7cf53 ∈ gw_L) (hd : decode cc pc = .ok (.invokestatic idx, 3)) (hs : (st.map fun v => v.category).sum ≤ 8) (hdd : 0 < d) (k : AW d own cc mL rt n Po (pc + 3) loc (.int (if x < y then y else x) :: st) w) : AW d own cc mL rt n Po pc loc (.int y :: .int x :: st) w := by
  intro p l e s m args below meth c D cI cB ad A C H locs ls hn hP hD hS hl
  have hts := C.2.2.2.2.2.2.1
  have hsum : ((st.map (ac_v ad)).map fun v => v.category) = (st.map fun v => v.category) := by rw [List.map_map]; exact List.map_congr_left (fun v _ => ac_v_cat ad v)
  exact va_mmax C.1 C.2.1 (C.2.2.2.1.trans hl.1.symm) C.2.2.2.2.1 (hts _ hlk) (hts (.static yJ9_max_7cf53) gq_414) (hts (.initialized RJ9) gq_56) (hts (.code yJ9_max_7cf53 cJ9_max_7cf53 2 (some .int)) gq_415) (show 1 ≤ d from hdd) (by rw [hsum]; show _ + 13 ≤ 40 * d; omega) (Nat.zero_le _) (Nat.zero_le _) hd (k p l e s m args below meth c D cI cB ad A C H locs ls hn hP hD hS hl)
theorem aw_copy {idx i0 i1 N0 N1 : Nat} {f g : Nat → Int32} {sp dp x : Int32} (hlk : Cond.methodLink own idx arraycopyName ∈ gw_L) (hd : decode cc pc = .ok (.invokestatic idx, 3)) (h0 : w[i0]? = some (.inl (0, N0, f))) (h1 : w[i1]? = some (.inl (0, N1, g))) (q1 : ¬ sp < 0) (q2 : ¬ dp < 0) (q3 : ¬ x < 0) (q4 : sp.toNatClampNeg + x.toNatClampNeg ≤ N0) (q5 : dp.toNatClampNeg + x.toNatClampNeg ≤ N1) (hs : (st.map fun v => v.category).sum ≤ 8) (hdd : 0 < d)
    (k : AW d own cc mL rt n Po (pc + 3) loc st (w.set i1 (.inl (0, N1, va_cpy f g sp.toNatClampNeg dp.toNatClampNeg x.toNatClampNeg)))) : AW d own cc mL rt n Po pc loc (.int x :: .int dp :: .ref i1 :: .int sp :: .ref i0 :: st) w := by
  intro p l e s m args below meth c D cI cB ad A C H locs ls hn hP hD hS hl
  have hts := C.2.2.2.2.2.2.1
  have hsum : ((st.map (ac_v ad)).map fun v => v.category) = (st.map fun v => v.category) := by rw [List.map_map]; exact List.map_congr_left (fun v _ => ac_v_cat ad v)
  refine va_copyi (D := D) C.1 C.2.1 (C.2.2.2.1.trans hl.1.symm) C.2.2.2.2.1 (hts _ hlk) (hts (.native arraycopyName) gq_485) (hts (.static arraycopyName) gq_484) (hts (.initialized RJ10) gq_57) C.2.2.2.2.2.2.2.1 hP hD hS i0 i1 0 0 (ac_W_at h0) (ac_W_at h1) rfl rfl rfl q1 q2 q3 q4 q5 (fun _ _ => rfl) (show 1 ≤ d from hdd) (by rw [hsum]; show _ + (7 + 11) ≤ 40 * d; omega) hd (fun H1 locs1 hP1 hD1 hS1 => ?_)
  have e := ac_W_set cI cB ad w i1 (.inl (0, N1, va_cpy f g sp.toNatClampNeg dp.toNatClampNeg x.toNatClampNeg))
  exact k p l e s m args below meth c D cI cB ad A C H1 locs1 ls (by rw [List.length_set]; exact hn) (e ▸ hP1) (e ▸ hD1) hS1 hl
-- returns
theorem ac_end {D : va_G} {cI cB : ClassId} {ad : Nat → Nat} {A : Nat → Prop} {s : State} {args : Array Value} {H : Heap} {locs : List Loc} {r : Option Value} (h : Po r w) (hn : w.length = n) (hP : va_P D vwCl (ac_W cI cB ad 0 w) H) (hS : va_S A s.heap H locs) (t : State) (ht : t.heap = H) : ac_Q D cI cB ad A n Po args s (.returned (r.map (ac_v ad))) t := ⟨r, w, rfl, h, hn, by rw [ht]; exact hP, hS.F ht⟩
theorem aw_iret {v : Int32} (hd : decode cc pc = .ok (.ireturn, 1)) (hr : rt = some .int) (h : Po (some (.int v)) w) : AW d own cc mL rt n Po pc loc [.int v] w := by
  intro p l e s m args below meth c D cI cB ad A C H locs ls hn hP hD hS hl
  exact W.iret (v := v) C.1 C.2.1 (C.2.2.1.trans hr) (fun t ht _ => ac_end (r := some (.int v)) h hn hP hS t ht) hS.2.2 hd C.2.2.2.2.2.1
theorem aw_zret {v : Int32} (hd : decode cc pc = .ok (.ireturn, 1)) (hr : rt = some .boolean) (hv : v &&& 1 = v) (h : Po (some (.int v)) w) : AW d own cc mL rt n Po pc loc [.int v] w := by
  intro p l e s m args below meth c D cI cB ad A C H locs ls hn hP hD hS hl
  exact W.zret (v := v) (ty := .boolean) C.1 C.2.1 (C.2.2.1.trans hr) (by show Value.int (v &&& 1) = _; rw [hv]) (fun t ht _ => ac_end (r := some (.int v)) h hn hP hS t ht) hS.2.2 hd C.2.2.2.2.2.1
theorem aw_lret {v : Int64} (hd : decode cc pc = .ok (.lreturn, 1)) (hr : rt = some .long) (h : Po (some (.long v)) w) : AW d own cc mL rt n Po pc loc [.long v] w := by
  intro p l e s m args below meth c D cI cB ad A C H locs ls hn hP hD hS hl
  exact W.lret (v := v) C.1 C.2.1 (C.2.2.1.trans hr) (fun t ht _ => ac_end (r := some (.long v)) h hn hP hS t ht) hS.2.2 hd C.2.2.2.2.2.1
theorem aw_aret {v : Nat} {cn : String} (hd : decode cc pc = .ok (.areturn, 1)) (hr : rt = some (.object cn)) (h : Po (some (.ref v)) w) : AW d own cc mL rt n Po pc loc [.ref v] w := by
  intro p l e s m args below meth c D cI cB ad A C H locs ls hn hP hD hS hl
  exact W.aret (v := .ref (ad v)) C.1 C.2.1 (C.2.2.1.trans hr) (Or.inl ⟨cn, rfl⟩) (Or.inr ⟨_, rfl⟩) (fun t ht _ => ac_end (r := some (.ref v)) h hn hP hS t ht) hS.2.2 hd C.2.2.2.2.2.1
theorem aw_vret (hd : decode cc pc = .ok (.return_, 1)) (hr : rt = none) (h : Po none w) : AW d own cc mL rt n Po pc loc [] w := by
  intro p l e s m args below meth c D cI cB ad A C H locs ls hn hP hD hS hl
  exact W.vret C.1 C.2.1 (C.2.2.1.trans hr) (fun t ht _ => ac_end (r := none) h hn hP hS t ht) hS.2.2 hd C.2.2.2.2.2.1
-- calls
theorem ac_after {p : Program} {l : Launch} {e : Env} {R : Room} {s : State} {m : MethodId} {args : Array Value} {below : List Frame} {meth : Method} {c : Code} {H : Heap} {locs : List Loc} {Q : State → Prop} {ls : Array Slot} {st0 rest : List Value} {D : va_G} {cI cB : ClassId} {ad : Nat → Nat} {A A1 : Nat → Prop} {P1 : Option Value → List ac_T → Prop} {a0 : Array Value}
    (hr : va_Run p l e R s m args below meth c H locs 0 0 0 0 (F0 m pc ls st0) rest (ac_Q D cI cB ad A1 n P1 a0) A1) (hS : va_S A s.heap H locs) (hf : ∀ q, A1 q → A q)
    (kk : ∀ (r : Option Value) (w' : List ac_T) (H1 : Heap) (locs1 : List Loc), P1 r w' → w'.length = n → va_P D vwCl (ac_W cI cB ad 0 w') H1 → va_S A s.heap H1 locs1 → W p l e R s m args below meth c H1 locs1 0 0 Q (F0 m (pc + 3) ls ((r.map (ac_v ad)).toList ++ rest))) : W p l e R s m args below meth c H locs 0 0 Q (F0 m pc ls st0) := by
  intro T hT X
  obtain ⟨v, st₀, t, T', L, h0, X', hL, e1, e2, ⟨r, w', hv, hp, hlen, hP', hz, hk⟩, stp⟩ := hr T hT X
  cases hv
  rw [h0] at hz hk
  obtain ⟨t2, a1, b1⟩ := kk r w' T'.heap (locs ++ L) hp hlen (by rw [e1]; exact hP')
    ⟨Nat.le_trans hS.1 (by rw [e1]; exact hz), fun q h1 h2 => by rw [e1, hk q (Nat.lt_of_lt_of_le h1 hS.1) (fun z => h2 (hf q z))]; exact hS.2.1 q h1 h2, fun q hq => by
      rcases List.mem_append.mp hq with h | h
      · exact hS.2.2 q h
      · exact hf _ (hL q h)⟩ T' rfl X'
  exact ⟨t2, stp t2 a1, b1⟩
theorem ac_sub {cI cB : ClassId} {ad : Nat → Nat} {A : Nat → Prop} {H0 H : Heap} {locs : List Loc} (hD : va_D A (ac_W cI cB ad 0 w)) (hS : va_S A H0 H locs) (hA : ∀ q, H0.size ≤ q → A q) : ∀ q, va_A (ac_W cI cB ad 0 w) H.size q → A q := by
  intro q h
  rcases h with ⟨k, e, h⟩ | h
  · exact hD.2 k _ h
  · exact hA q (Nat.le_trans hS.1 h)
/-- what a callee finds -/
theorem ac_pre {p : Program} {s : State} {m : MethodId} {args : Array Value} {meth : Method} {c : Code} {D : va_G} {cI cB : ClassId} {ad : Nat → Nat} {A : Nat → Prop} {H : Heap} {locs : List Loc} (C : ac_C own cc mL rt p s m args meth c D cI cB ad A) (hP : va_P D vwCl (ac_W cI cB ad 0 w) H) (hD : va_D A (ac_W cI cB ad 0 w)) (hS : va_S A s.heap H locs) (as : List Value) (U : State) (hU : U.heap = H) (hW : s.WarmedH U.vm) :
    va_Pc (as.map (ac_v ad)) (fun U => U.heap.size = H.size ∧ va_P D vwCl (ac_W cI cB ad 0 w) U.heap ∧ va_K D vwCl (ac_ty cI cB) U ∧ va_D (fun _ => True) (ac_W cI cB ad 0 w) ∧ ac_N U ∧ ac_K ad (va_A (ac_W cI cB ad 0 w) H.size) U U.heap) (as.map (ac_v ad)).toArray U := by
  refine ⟨rfl, by rw [hU], by rw [hU]; exact hP, va_K.moved hW.alike C.2.2.2.2.2.2.2.1, hD.weaken (fun _ _ _ _ => trivial), C.2.2.2.2.2.2.2.2.1.warm hW, ?_⟩
  rw [hU]
  exact ((C.2.2.2.2.2.2.2.2.2.1.kept hS.2.1).moved hW.alike).narrow (ac_sub hD hS C.2.2.2.2.2.2.2.2.2.2)
variable {d1 : Nat} {y : MethodName} {c1 : ByteArray} {m1 : Nat} {r1 : Option FieldType} {as : List Value} {P1 : Option Value → List ac_T → Prop}
theorem ac_good {ws : List Cond} (q5 : Cond.code y c1 m1 r1 ∈ gw_L) (hws : ∀ x ∈ ws, x ∈ gw_L) : GoodIn gw_L (ws ++ (Cond.code y c1 m1 r1 :: gw_L)) := gw_ok (fun x hx => by
  rcases List.mem_append.mp hx with h | h
  · exact hws x h
  · rcases List.mem_cons.mp h with h | h
    · rw [h]; exact q5
    · exact h)
theorem ac_cat (ad : Nat → Nat) (l : List Value) : ((l.map (ac_v ad)).map fun v => v.category) = (l.map fun v => v.category) := by rw [List.map_map]; exact List.map_congr_left (fun v _ => ac_v_cat ad v)
set_option maxHeartbeats 4000000 in
theorem aw_callS {idx : Nat} (hM : AM d1 y c1 m1 r1 as w P1) (q1 : Cond.methodLink own idx y ∈ gw_L) (q2 : Cond.static y ∈ gw_L) (q4 : Cond.initialized y.cls ∈ gw_L) (q5 : Cond.code y c1 m1 r1 ∈ gw_L) (hy : y.cls ≠ "java/lang/invoke/MethodHandle" ∧ y.cls ≠ "java/lang/invoke/VarHandle" ∧ (parseMethodDescriptor y.desc).map (fun d => d.parameters.length) = some as.length) (hd : decode cc pc = .ok (.invokestatic idx, 3)) (hdd : d1 < d) (hm : m1 ≤ 20) (hs : (st.map fun v => v.category).sum ≤ 8)
    (k : ∀ (r : Option Value) (w' : List ac_T), P1 r w' → AW d own cc mL rt n Po (pc + 3) loc (r.toList ++ st) w') : AW d own cc mL rt n Po pc loc (as.reverse ++ st) w := by
  intro p l e s m args below meth c D cI cB ad A C H locs ls hn hP hD hS hl
  have hts := C.2.2.2.2.2.2.1
  have hf := ac_sub hD hS C.2.2.2.2.2.2.2.2.2.2
  have hg : ∀ x ∈ [Cond.methodLink own idx y, Cond.static y, Cond.initialized y.cls], x ∈ gw_L := by
    intro x hx
    simp only [List.mem_cons, List.not_mem_nil, or_false] at hx
    rcases hx with rfl | rfl | rfl
    · exact q1
    · exact q2
    · exact q4
  have hrun := va_runS (p := p) (l := l) (e := e) (R := ac_rm d) (s := s) (m := m) (args := args) (below := below) (meth := meth) (c := c) (H := H) (locs := locs) (cells := 0) (slots := 0) (As := as.map (ac_v ad)) (rest := st.map (ac_v ad)) (g := F0 m pc ls ((as.reverse ++ st).map (ac_v ad))) (bytes := c1) (maxL := m1) (ret := r1) (n := as.length) (index := idx) (own := own) (Ts := gw_L) (nL := mL) (cc := cc) ⟨C.1, C.2.1, C.2.2.2.1, C.2.2.2.2.1, hts⟩ (hM l D cI cB ad H.size)
    (va_cwS as.length hts (ac_good q5 hg) rfl rfl rfl hy ⟨by show d1 + 1 ≤ d; omega, by show 8 + (m1 + 11) + 40 * d1 ≤ 40 * d; omega⟩) ⟨ac_blind, ac_pre C hP hD hS as⟩ rfl (by rw [List.length_map]) hl.1 (by rw [List.map_append, List.map_reverse]) (lv_room (by rw [ac_cat]; exact hs)) hd ⟨Nat.le_refl _, Nat.le_refl _⟩
  refine ac_after (n := w.length) hrun hS hf (fun r w' H1 locs1 hp hlen hP1 hS1 => ?_)
  have := k r w' hp p l e s m args below meth c D cI cB ad A C H1 locs1 ls (by rw [hlen]; exact hn) hP1 (ac_D hD hlen) hS1 hl
  rw [List.map_append] at this
  cases r <;> exact this
set_option maxHeartbeats 4000000 in
theorem aw_callSN {idx : Nat} {host : String} (hM : AM d1 y c1 m1 r1 as w P1) (q1 : (own, idx, y, host) ∈ gn_L) (q2 : Cond.static y ∈ gw_L) (q4 : Cond.initialized y.cls ∈ gw_L) (q5 : Cond.code y c1 m1 r1 ∈ gw_L) (hy : y.cls ≠ "java/lang/invoke/MethodHandle" ∧ y.cls ≠ "java/lang/invoke/VarHandle" ∧ (parseMethodDescriptor y.desc).map (fun d => d.parameters.length) = some as.length) (hd : decode cc pc = .ok (.invokestatic idx, 3)) (hdd : d1 < d) (hm : m1 ≤ 20) (hs : (st.map fun v => v.category).sum ≤ 8)
    (k : ∀ (r : Option Value) (w' : List ac_T), P1 r w' → AW d own cc mL rt n Po (pc + 3) loc (r.toList ++ st) w') : AW d own cc mL rt n Po pc loc (as.reverse ++ st) w := by
  intro p l e s m args below meth c D cI cB ad A C H locs ls hn hP hD hS hl
  have hts := C.2.2.2.2.2.2.1
  have hf := ac_sub hD hS C.2.2.2.2.2.2.2.2.2.2
  have hrun := va_runSN (p := p) (l := l) (e := e) (R := ac_rm d) (s := s) (m := m) (args := args) (below := below) (meth := meth) (c := c) (H := H) (locs := locs) (cells := 0) (slots := 0) (As := as.map (ac_v ad)) (rest := st.map (ac_v ad)) (g := F0 m pc ls ((as.reverse ++ st).map (ac_v ad))) (bytes := c1) (maxL := m1) (ret := r1) (n := as.length) (index := idx) (own := own) (host := host) (Ts := gw_L) (nL := mL) (cc := cc) ⟨C.1, C.2.1, C.2.2.2.1, C.2.2.2.2.1, hts⟩ (hM l D cI cB ad H.size)
    ⟨va_cnB as.length hts (ac_good (ws := []) q5 (fun _ h => by cases h)) rfl rfl rfl (C.2.2.2.2.2.2.2.2.1.1 _ q1) (hts _ q4) hy ⟨by show d1 + 1 ≤ d; omega, by show 8 + (m1 + 11) + 40 * d1 ≤ 40 * d; omega⟩, hts _ q2, trivial⟩ ⟨ac_blind, ac_pre C hP hD hS as⟩ rfl (by rw [List.length_map]) hl.1 (by rw [List.map_append, List.map_reverse]) (lv_room (by rw [ac_cat]; exact hs)) hd ⟨Nat.le_refl _, Nat.le_refl _⟩
  refine ac_after (n := w.length) hrun hS hf (fun r w' H1 locs1 hp hlen hP1 hS1 => ?_)
  have := k r w' hp p l e s m args below meth c D cI cB ad A C H1 locs1 ls (by rw [hlen]; exact hn) hP1 (ac_D hD hlen) hS1 hl
  rw [List.map_append] at this
  cases r <;> exact this
set_option maxHeartbeats 4000000 in
theorem aw_callV0 {idx id : Nat} (hrec : ∀ (p : Program) (s : State) (m : MethodId) (args : Array Value) (meth : Method) (c : Code) (D : va_G) (cI cB : ClassId) (ad : Nat → Nat) (A : Nat → Prop) (H : Heap) (locs : List Loc), ac_C own cc mL rt p s m args meth c D cI cB ad A → va_P D vwCl (ac_W cI cB ad 0 w) H → va_S A s.heap H locs → ∃ cell : Cell, H[ad id]? = some cell ∧ cell.vm.isStatics = false ∧ s.vm.findClass y.cls = some cell.cls)
    (hM : AM d1 y c1 m1 r1 (.ref id :: as) w P1) (q1 : Cond.methodLink own idx y ∈ gw_L) (q2 : Cond.instanceMethod y ∈ gw_L) (q3 : Cond.selects y.cls y y ∈ gw_L) (q4 : Cond.initialized y.cls ∈ gw_L) (q5 : Cond.code y c1 m1 r1 ∈ gw_L) (hy : y.cls ≠ "java/lang/invoke/MethodHandle" ∧ y.cls ≠ "java/lang/invoke/VarHandle" ∧ (parseMethodDescriptor y.desc).map (fun d => d.parameters.length) = some as.length) (hd : decode cc pc = .ok (.invokevirtual idx, 3)) (hdd : d1 < d) (hm : m1 ≤ 20) (hs : (st.map fun v => v.category).sum ≤ 8)
    (k : ∀ (r : Option Value) (w' : List ac_T), P1 r w' → AW d own cc mL rt n Po (pc + 3) loc (r.toList ++ st) w') : AW d own cc mL rt n Po pc loc (as.reverse ++ .ref id :: st) w := by
  intro p l e s m args below meth c D cI cB ad A C H locs ls hn hP hD hS hl
  have hts := C.2.2.2.2.2.2.1
  have hf := ac_sub hD hS C.2.2.2.2.2.2.2.2.2.2
  have hg : ∀ x ∈ [Cond.methodLink own idx y, Cond.instanceMethod y, Cond.selects y.cls y y, Cond.initialized y.cls], x ∈ gw_L := by
    intro x hx
    simp only [List.mem_cons, List.not_mem_nil, or_false] at hx
    rcases hx with rfl | rfl | rfl | rfl
    · exact q1
    · exact q2
    · exact q3
    · exact q4
  have hrun := va_runV (p := p) (l := l) (e := e) (R := ac_rm d) (s := s) (m := m) (args := args) (below := below) (meth := meth) (c := c) (H := H) (locs := locs) (cells := 0) (slots := 0) (As := as.map (ac_v ad)) (b := ad id) (C := y.cls) (rest := st.map (ac_v ad)) (g := F0 m pc ls ((as.reverse ++ .ref id :: st).map (ac_v ad))) (bytes := c1) (maxL := m1) (ret := r1) (n := as.length) (index := idx) (own := own) (Ts := gw_L) (nL := mL) (cc := cc) ⟨C.1, C.2.1, C.2.2.2.1, C.2.2.2.2.1, hts⟩ (hM l D cI cB ad H.size)
    (cwV as.length hts (ac_good q5 hg) rfl rfl rfl ⟨rfl, hy⟩ ⟨by show d1 + 1 ≤ d; omega, by show 8 + (m1 + 11) + 40 * d1 ≤ 40 * d; omega⟩) ⟨ac_blind, hrec p s m args meth c D cI cB ad A H locs C hP hS, ac_pre C hP hD hS (.ref id :: as)⟩ rfl (by rw [List.length_map]) hl.1 (by rw [List.map_append, List.map_reverse]; rfl) (lv_room (by rw [ac_cat]; exact hs)) hd ⟨Nat.le_refl _, Nat.le_refl _⟩
  refine ac_after (n := w.length) hrun hS hf (fun r w' H1 locs1 hp hlen hP1 hS1 => ?_)
  have := k r w' hp p l e s m args below meth c D cI cB ad A C H1 locs1 ls (by rw [hlen]; exact hn) hP1 (ac_D hD hlen) hS1 hl
  rw [List.map_append] at this
  cases r <;> exact this
theorem aw_callV {idx id ci N : Nat} {T : u_T} {fs : List Value} (hw : w[id]? = some (.inr (ci, fs))) (hc : vwCl[ci]? = some (y.cls, T, N)) (hM : AM d1 y c1 m1 r1 (.ref id :: as) w P1) (q1 : Cond.methodLink own idx y ∈ gw_L) (q2 : Cond.instanceMethod y ∈ gw_L) (q3 : Cond.selects y.cls y y ∈ gw_L) (q4 : Cond.initialized y.cls ∈ gw_L) (q5 : Cond.code y c1 m1 r1 ∈ gw_L) (hy : y.cls ≠ "java/lang/invoke/MethodHandle" ∧ y.cls ≠ "java/lang/invoke/VarHandle" ∧ (parseMethodDescriptor y.desc).map (fun d => d.parameters.length) = some as.length) (hd : decode cc pc = .ok (.invokevirtual idx, 3)) (hdd : d1 < d) (hm : m1 ≤ 20) (hs : (st.map fun v => v.category).sum ≤ 8)
    (k : ∀ (r : Option Value) (w' : List ac_T), P1 r w' → AW d own cc mL rt n Po (pc + 3) loc (r.toList ++ st) w') : AW d own cc mL rt n Po pc loc (as.reverse ++ .ref id :: st) w :=
  aw_callV0 (fun p s m args meth c D cI cB ad A H locs C hP hS => va_recv C.2.2.2.2.2.2.2.1 hP hc (ac_W_at hw)) hM q1 q2 q3 q4 q5 hy hd hdd hm hs k
theorem aw_callK {idx i : Nat} (hi : i < 5) (hcl : y.cls = "ThanksOwed$Kind") (hM : AM d1 y c1 m1 r1 (.ref (1000 + i) :: as) w P1) (q1 : Cond.methodLink own idx y ∈ gw_L) (q2 : Cond.instanceMethod y ∈ gw_L) (q3 : Cond.selects y.cls y y ∈ gw_L) (q4 : Cond.initialized y.cls ∈ gw_L) (q5 : Cond.code y c1 m1 r1 ∈ gw_L) (hy : y.cls ≠ "java/lang/invoke/MethodHandle" ∧ y.cls ≠ "java/lang/invoke/VarHandle" ∧ (parseMethodDescriptor y.desc).map (fun d => d.parameters.length) = some as.length) (hd : decode cc pc = .ok (.invokevirtual idx, 3)) (hdd : d1 < d) (hm : m1 ≤ 20) (hs : (st.map fun v => v.category).sum ≤ 8)
    (k : ∀ (r : Option Value) (w' : List ac_T), P1 r w' → AW d own cc mL rt n Po (pc + 3) loc (r.toList ++ st) w') : AW d own cc mL rt n Po pc loc (as.reverse ++ .ref (1000 + i) :: st) w :=
  aw_callV0 (fun p s m args meth c D cI cB ad A H locs C hP hS => by
    have h := va_recvE (i := i) C.2.2.2.2.2.2.2.2.2.1.1 hi hS
    rw [hcl]
    exact h) hM q1 q2 q3 q4 q5 hy hd hdd hm hs k
end Rows
end
