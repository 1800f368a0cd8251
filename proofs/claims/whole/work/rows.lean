section
-- ===== PART A: goes FIRST, ahead of the names: the tables' words, and 'selects' of the private methods out of them =====
/-- a private method of a class that the tables say can be made, by its rows of tables_1 -/
def lw_okq (q : MethodName × Nat) : Prop := (q.1.cls ≠ "java/lang/invoke/MethodHandle" ∧ q.1.cls ≠ "java/lang/invoke/VarHandle") ∧ Cond.instantiable q.1.cls q.2 ∈ tables_1 ∧ Cond.privateMethod q.1 ∈ tables_1 ∧ Cond.instanceMethod q.1 ∈ tables_1
theorem lw_p0 : lw_okq (⟨"SplitBeliefs", "recorded", "(I)I"⟩, 9) := ⟨⟨by decide +kernel, by decide +kernel⟩, List.mem_of_getElem? (i := 14) (by decide +kernel), List.mem_of_getElem? (i := 266) (by decide +kernel), List.mem_of_getElem? (i := 267) (by decide +kernel)⟩
theorem lw_p1 : lw_okq (⟨"SplitBeliefs", "splitPart", "(III)I"⟩, 9) := ⟨⟨by decide +kernel, by decide +kernel⟩, List.mem_of_getElem? (i := 14) (by decide +kernel), List.mem_of_getElem? (i := 301) (by decide +kernel), List.mem_of_getElem? (i := 302) (by decide +kernel)⟩
theorem lw_p2 : lw_okq (⟨"SplitBeliefs", "takeMix", "()I"⟩, 9) := ⟨⟨by decide +kernel, by decide +kernel⟩, List.mem_of_getElem? (i := 14) (by decide +kernel), List.mem_of_getElem? (i := 325) (by decide +kernel), List.mem_of_getElem? (i := 326) (by decide +kernel)⟩
theorem lw_p3 : lw_okq (⟨"SplitBeliefs", "joinWithNext", "(I)I"⟩, 9) := ⟨⟨by decide +kernel, by decide +kernel⟩, List.mem_of_getElem? (i := 14) (by decide +kernel), List.mem_of_getElem? (i := 352) (by decide +kernel), List.mem_of_getElem? (i := 353) (by decide +kernel)⟩
theorem lw_p4 : lw_okq (⟨"SplitBeliefs", "takeBest", "()I"⟩, 9) := ⟨⟨by decide +kernel, by decide +kernel⟩, List.mem_of_getElem? (i := 14) (by decide +kernel), List.mem_of_getElem? (i := 360) (by decide +kernel), List.mem_of_getElem? (i := 361) (by decide +kernel)⟩
theorem lw_p5 : lw_okq (⟨"SplitBeliefs$Curve", "heightOver", "(III)I"⟩, 7) := ⟨⟨by decide +kernel, by decide +kernel⟩, List.mem_of_getElem? (i := 163) (by decide +kernel), List.mem_of_getElem? (i := 376) (by decide +kernel), List.mem_of_getElem? (i := 377) (by decide +kernel)⟩
theorem lw_p6 : lw_okq (⟨"SplitBeliefs", "meanIsEnvelope", "()Z"⟩, 9) := ⟨⟨by decide +kernel, by decide +kernel⟩, List.mem_of_getElem? (i := 14) (by decide +kernel), List.mem_of_getElem? (i := 452) (by decide +kernel), List.mem_of_getElem? (i := 453) (by decide +kernel)⟩
theorem lw_p7 : lw_okq (⟨"SplitBeliefs", "aimAt", "(I)V"⟩, 9) := ⟨⟨by decide +kernel, by decide +kernel⟩, List.mem_of_getElem? (i := 14) (by decide +kernel), List.mem_of_getElem? (i := 456) (by decide +kernel), List.mem_of_getElem? (i := 457) (by decide +kernel)⟩
theorem lw_p8 : lw_okq (⟨"SplitBeliefs$Curve", "valueSum", "()I"⟩, 7) := ⟨⟨by decide +kernel, by decide +kernel⟩, List.mem_of_getElem? (i := 163) (by decide +kernel), List.mem_of_getElem? (i := 464) (by decide +kernel), List.mem_of_getElem? (i := 465) (by decide +kernel)⟩
theorem lw_p9 : lw_okq (⟨"SplitBeliefs", "findMostGained", "()I"⟩, 9) := ⟨⟨by decide +kernel, by decide +kernel⟩, List.mem_of_getElem? (i := 14) (by decide +kernel), List.mem_of_getElem? (i := 481) (by decide +kernel), List.mem_of_getElem? (i := 482) (by decide +kernel)⟩
theorem lw_p10 : lw_okq (⟨"SplitBeliefs$Pad", "skip", "(C)Z"⟩, 6) := ⟨⟨by decide +kernel, by decide +kernel⟩, List.mem_of_getElem? (i := 122) (by decide +kernel), List.mem_of_getElem? (i := 519) (by decide +kernel), List.mem_of_getElem? (i := 520) (by decide +kernel)⟩
theorem lw_p11 : lw_okq (⟨"SplitBeliefs$Pad", "sign", "()I"⟩, 6) := ⟨⟨by decide +kernel, by decide +kernel⟩, List.mem_of_getElem? (i := 122) (by decide +kernel), List.mem_of_getElem? (i := 523) (by decide +kernel), List.mem_of_getElem? (i := 524) (by decide +kernel)⟩
theorem lw_p12 : lw_okq (⟨"SplitBeliefs$Pad", "readHire", "()Z"⟩, 6) := ⟨⟨by decide +kernel, by decide +kernel⟩, List.mem_of_getElem? (i := 122) (by decide +kernel), List.mem_of_getElem? (i := 527) (by decide +kernel), List.mem_of_getElem? (i := 528) (by decide +kernel)⟩
theorem lw_p13 : lw_okq (⟨"SplitBeliefs$Pad", "readNumber", "()Z"⟩, 6) := ⟨⟨by decide +kernel, by decide +kernel⟩, List.mem_of_getElem? (i := 122) (by decide +kernel), List.mem_of_getElem? (i := 531) (by decide +kernel), List.mem_of_getElem? (i := 532) (by decide +kernel)⟩
theorem lw_p14 : lw_okq (⟨"SplitBeliefs$Pad", "tell", "(I)V"⟩, 6) := ⟨⟨by decide +kernel, by decide +kernel⟩, List.mem_of_getElem? (i := 122) (by decide +kernel), List.mem_of_getElem? (i := 538) (by decide +kernel), List.mem_of_getElem? (i := 539) (by decide +kernel)⟩
theorem lw_p15 : lw_okq (⟨"SplitBeliefs$Pad", "readDigit", "()Z"⟩, 6) := ⟨⟨by decide +kernel, by decide +kernel⟩, List.mem_of_getElem? (i := 122) (by decide +kernel), List.mem_of_getElem? (i := 542) (by decide +kernel), List.mem_of_getElem? (i := 543) (by decide +kernel)⟩
def lw_privs_1 : List (MethodName × Nat) := [(⟨"SplitBeliefs", "recorded", "(I)I"⟩, 9), (⟨"SplitBeliefs", "splitPart", "(III)I"⟩, 9), (⟨"SplitBeliefs", "takeMix", "()I"⟩, 9), (⟨"SplitBeliefs", "joinWithNext", "(I)I"⟩, 9), (⟨"SplitBeliefs", "takeBest", "()I"⟩, 9), (⟨"SplitBeliefs$Curve", "heightOver", "(III)I"⟩, 7), (⟨"SplitBeliefs", "meanIsEnvelope", "()Z"⟩, 9), (⟨"SplitBeliefs", "aimAt", "(I)V"⟩, 9), (⟨"SplitBeliefs$Curve", "valueSum", "()I"⟩, 7), (⟨"SplitBeliefs", "findMostGained", "()I"⟩, 9), (⟨"SplitBeliefs$Pad", "skip", "(C)Z"⟩, 6), (⟨"SplitBeliefs$Pad", "sign", "()I"⟩, 6), (⟨"SplitBeliefs$Pad", "readHire", "()Z"⟩, 6), (⟨"SplitBeliefs$Pad", "readNumber", "()Z"⟩, 6), (⟨"SplitBeliefs$Pad", "tell", "(I)V"⟩, 6), (⟨"SplitBeliefs$Pad", "readDigit", "()Z"⟩, 6)]
theorem lw_r1 : ∀ q ∈ lw_privs_1, lw_okq q := List.forall_mem_cons.mpr ⟨lw_p0, List.forall_mem_cons.mpr ⟨lw_p1, List.forall_mem_cons.mpr ⟨lw_p2, List.forall_mem_cons.mpr ⟨lw_p3, List.forall_mem_cons.mpr ⟨lw_p4, List.forall_mem_cons.mpr ⟨lw_p5, List.forall_mem_cons.mpr ⟨lw_p6, List.forall_mem_cons.mpr ⟨lw_p7, List.forall_mem_cons.mpr ⟨lw_p8, List.forall_mem_cons.mpr ⟨lw_p9, List.forall_mem_cons.mpr ⟨lw_p10, List.forall_mem_cons.mpr ⟨lw_p11, List.forall_mem_cons.mpr ⟨lw_p12, List.forall_mem_cons.mpr ⟨lw_p13, List.forall_mem_cons.mpr ⟨lw_p14, List.forall_mem_cons.mpr ⟨lw_p15, fun _ h => absurd h List.not_mem_nil⟩⟩⟩⟩⟩⟩⟩⟩⟩⟩⟩⟩⟩⟩⟩⟩
theorem lw_p16 : lw_okq (⟨"SplitBeliefs$Pad", "readParts", "()Z"⟩, 6) := ⟨⟨by decide +kernel, by decide +kernel⟩, List.mem_of_getElem? (i := 122) (by decide +kernel), List.mem_of_getElem? (i := 546) (by decide +kernel), List.mem_of_getElem? (i := 547) (by decide +kernel)⟩
theorem lw_p17 : lw_okq (⟨"SplitBeliefs", "obeyAll", "()I"⟩, 9) := ⟨⟨by decide +kernel, by decide +kernel⟩, List.mem_of_getElem? (i := 14) (by decide +kernel), List.mem_of_getElem? (i := 554) (by decide +kernel), List.mem_of_getElem? (i := 555) (by decide +kernel)⟩
theorem lw_p18 : lw_okq (⟨"SplitBeliefs", "obey", "()I"⟩, 9) := ⟨⟨by decide +kernel, by decide +kernel⟩, List.mem_of_getElem? (i := 14) (by decide +kernel), List.mem_of_getElem? (i := 559) (by decide +kernel), List.mem_of_getElem? (i := 560) (by decide +kernel)⟩
theorem lw_p19 : lw_okq (⟨"SplitBeliefs", "takeTold", "()I"⟩, 9) := ⟨⟨by decide +kernel, by decide +kernel⟩, List.mem_of_getElem? (i := 14) (by decide +kernel), List.mem_of_getElem? (i := 567) (by decide +kernel), List.mem_of_getElem? (i := 568) (by decide +kernel)⟩
theorem lw_p20 : lw_okq (⟨"SplitBeliefsModel", "begins", "(I)V"⟩, 20) := ⟨⟨by decide +kernel, by decide +kernel⟩, List.mem_of_getElem? (i := 595) (by decide +kernel), List.mem_of_getElem? (i := 601) (by decide +kernel), List.mem_of_getElem? (i := 602) (by decide +kernel)⟩
theorem lw_p21 : lw_okq (⟨"SplitBeliefsModel", "takesOne", "(II)V"⟩, 20) := ⟨⟨by decide +kernel, by decide +kernel⟩, List.mem_of_getElem? (i := 595) (by decide +kernel), List.mem_of_getElem? (i := 605) (by decide +kernel), List.mem_of_getElem? (i := 606) (by decide +kernel)⟩
theorem lw_p22 : lw_okq (⟨"SplitBeliefsModel", "takes", "(II)V"⟩, 20) := ⟨⟨by decide +kernel, by decide +kernel⟩, List.mem_of_getElem? (i := 595) (by decide +kernel), List.mem_of_getElem? (i := 609) (by decide +kernel), List.mem_of_getElem? (i := 610) (by decide +kernel)⟩
theorem lw_p23 : lw_okq (⟨"SplitBeliefsModel", "gives", "()V"⟩, 20) := ⟨⟨by decide +kernel, by decide +kernel⟩, List.mem_of_getElem? (i := 595) (by decide +kernel), List.mem_of_getElem? (i := 613) (by decide +kernel), List.mem_of_getElem? (i := 614) (by decide +kernel)⟩
theorem lw_p24 : lw_okq (⟨"SplitBeliefsModel", "record", "()V"⟩, 20) := ⟨⟨by decide +kernel, by decide +kernel⟩, List.mem_of_getElem? (i := 595) (by decide +kernel), List.mem_of_getElem? (i := 685) (by decide +kernel), List.mem_of_getElem? (i := 686) (by decide +kernel)⟩
theorem lw_p25 : lw_okq (⟨"SplitBeliefsModel", "priors", "(I)V"⟩, 20) := ⟨⟨by decide +kernel, by decide +kernel⟩, List.mem_of_getElem? (i := 595) (by decide +kernel), List.mem_of_getElem? (i := 692) (by decide +kernel), List.mem_of_getElem? (i := 693) (by decide +kernel)⟩
theorem lw_p26 : lw_okq (⟨"SplitBeliefsModel", "whyNotHired", "(IIII)I"⟩, 20) := ⟨⟨by decide +kernel, by decide +kernel⟩, List.mem_of_getElem? (i := 595) (by decide +kernel), List.mem_of_getElem? (i := 700) (by decide +kernel), List.mem_of_getElem? (i := 701) (by decide +kernel)⟩
theorem lw_p27 : lw_okq (⟨"SplitBeliefsModel", "hires", "(IIII)I"⟩, 20) := ⟨⟨by decide +kernel, by decide +kernel⟩, List.mem_of_getElem? (i := 595) (by decide +kernel), List.mem_of_getElem? (i := 704) (by decide +kernel), List.mem_of_getElem? (i := 705) (by decide +kernel)⟩
theorem lw_p28 : lw_okq (⟨"SplitBeliefsModel", "isReceiver", "(I)Z"⟩, 20) := ⟨⟨by decide +kernel, by decide +kernel⟩, List.mem_of_getElem? (i := 595) (by decide +kernel), List.mem_of_getElem? (i := 712) (by decide +kernel), List.mem_of_getElem? (i := 713) (by decide +kernel)⟩
theorem lw_p29 : lw_okq (⟨"SplitBeliefsModel", "dismisses", "(I)I"⟩, 20) := ⟨⟨by decide +kernel, by decide +kernel⟩, List.mem_of_getElem? (i := 595) (by decide +kernel), List.mem_of_getElem? (i := 716) (by decide +kernel), List.mem_of_getElem? (i := 717) (by decide +kernel)⟩
theorem lw_p30 : lw_okq (⟨"SplitBeliefsModel", "isPart", "(I)Z"⟩, 20) := ⟨⟨by decide +kernel, by decide +kernel⟩, List.mem_of_getElem? (i := 595) (by decide +kernel), List.mem_of_getElem? (i := 724) (by decide +kernel), List.mem_of_getElem? (i := 725) (by decide +kernel)⟩
theorem lw_p31 : lw_okq (⟨"SplitBeliefsModel", "areWell", "()Z"⟩, 20) := ⟨⟨by decide +kernel, by decide +kernel⟩, List.mem_of_getElem? (i := 595) (by decide +kernel), List.mem_of_getElem? (i := 728) (by decide +kernel), List.mem_of_getElem? (i := 729) (by decide +kernel)⟩
def lw_privs_2 : List (MethodName × Nat) := [(⟨"SplitBeliefs$Pad", "readParts", "()Z"⟩, 6), (⟨"SplitBeliefs", "obeyAll", "()I"⟩, 9), (⟨"SplitBeliefs", "obey", "()I"⟩, 9), (⟨"SplitBeliefs", "takeTold", "()I"⟩, 9), (⟨"SplitBeliefsModel", "begins", "(I)V"⟩, 20), (⟨"SplitBeliefsModel", "takesOne", "(II)V"⟩, 20), (⟨"SplitBeliefsModel", "takes", "(II)V"⟩, 20), (⟨"SplitBeliefsModel", "gives", "()V"⟩, 20), (⟨"SplitBeliefsModel", "record", "()V"⟩, 20), (⟨"SplitBeliefsModel", "priors", "(I)V"⟩, 20), (⟨"SplitBeliefsModel", "whyNotHired", "(IIII)I"⟩, 20), (⟨"SplitBeliefsModel", "hires", "(IIII)I"⟩, 20), (⟨"SplitBeliefsModel", "isReceiver", "(I)Z"⟩, 20), (⟨"SplitBeliefsModel", "dismisses", "(I)I"⟩, 20), (⟨"SplitBeliefsModel", "isPart", "(I)Z"⟩, 20), (⟨"SplitBeliefsModel", "areWell", "()Z"⟩, 20)]
theorem lw_r2 : ∀ q ∈ lw_privs_2, lw_okq q := List.forall_mem_cons.mpr ⟨lw_p16, List.forall_mem_cons.mpr ⟨lw_p17, List.forall_mem_cons.mpr ⟨lw_p18, List.forall_mem_cons.mpr ⟨lw_p19, List.forall_mem_cons.mpr ⟨lw_p20, List.forall_mem_cons.mpr ⟨lw_p21, List.forall_mem_cons.mpr ⟨lw_p22, List.forall_mem_cons.mpr ⟨lw_p23, List.forall_mem_cons.mpr ⟨lw_p24, List.forall_mem_cons.mpr ⟨lw_p25, List.forall_mem_cons.mpr ⟨lw_p26, List.forall_mem_cons.mpr ⟨lw_p27, List.forall_mem_cons.mpr ⟨lw_p28, List.forall_mem_cons.mpr ⟨lw_p29, List.forall_mem_cons.mpr ⟨lw_p30, List.forall_mem_cons.mpr ⟨lw_p31, fun _ h => absurd h List.not_mem_nil⟩⟩⟩⟩⟩⟩⟩⟩⟩⟩⟩⟩⟩⟩⟩⟩
theorem lw_p32 : lw_okq (⟨"SplitBeliefsModel", "adopts", "()I"⟩, 20) := ⟨⟨by decide +kernel, by decide +kernel⟩, List.mem_of_getElem? (i := 595) (by decide +kernel), List.mem_of_getElem? (i := 743) (by decide +kernel), List.mem_of_getElem? (i := 744) (by decide +kernel)⟩
theorem lw_p33 : lw_okq (⟨"SplitBeliefsModel", "takeEnvelope", "(I)V"⟩, 20) := ⟨⟨by decide +kernel, by decide +kernel⟩, List.mem_of_getElem? (i := 595) (by decide +kernel), List.mem_of_getElem? (i := 747) (by decide +kernel), List.mem_of_getElem? (i := 748) (by decide +kernel)⟩
theorem lw_p34 : lw_okq (⟨"SplitBeliefsModel", "valueAt", "(I)I"⟩, 20) := ⟨⟨by decide +kernel, by decide +kernel⟩, List.mem_of_getElem? (i := 595) (by decide +kernel), List.mem_of_getElem? (i := 751) (by decide +kernel), List.mem_of_getElem? (i := 752) (by decide +kernel)⟩
theorem lw_p35 : lw_okq (⟨"SplitBeliefsModel", "actingAt", "(I)I"⟩, 20) := ⟨⟨by decide +kernel, by decide +kernel⟩, List.mem_of_getElem? (i := 595) (by decide +kernel), List.mem_of_getElem? (i := 755) (by decide +kernel), List.mem_of_getElem? (i := 756) (by decide +kernel)⟩
theorem lw_p36 : lw_okq (⟨"SplitBeliefsModel", "acts", "(II)Z"⟩, 20) := ⟨⟨by decide +kernel, by decide +kernel⟩, List.mem_of_getElem? (i := 595) (by decide +kernel), List.mem_of_getElem? (i := 759) (by decide +kernel), List.mem_of_getElem? (i := 760) (by decide +kernel)⟩
theorem lw_p37 : lw_okq (⟨"SplitBeliefsModel", "receiverPart", "(II)I"⟩, 20) := ⟨⟨by decide +kernel, by decide +kernel⟩, List.mem_of_getElem? (i := 595) (by decide +kernel), List.mem_of_getElem? (i := 763) (by decide +kernel), List.mem_of_getElem? (i := 764) (by decide +kernel)⟩
theorem lw_p38 : lw_okq (⟨"SplitBeliefsModel", "takeFraction", "(II)V"⟩, 20) := ⟨⟨by decide +kernel, by decide +kernel⟩, List.mem_of_getElem? (i := 595) (by decide +kernel), List.mem_of_getElem? (i := 767) (by decide +kernel), List.mem_of_getElem? (i := 768) (by decide +kernel)⟩
theorem lw_p39 : lw_okq (⟨"SplitBeliefsModel", "weightOf", "(IZ)I"⟩, 20) := ⟨⟨by decide +kernel, by decide +kernel⟩, List.mem_of_getElem? (i := 595) (by decide +kernel), List.mem_of_getElem? (i := 771) (by decide +kernel), List.mem_of_getElem? (i := 772) (by decide +kernel)⟩
theorem lw_p40 : lw_okq (⟨"SplitBeliefsModel", "leastActing", "(I)I"⟩, 20) := ⟨⟨by decide +kernel, by decide +kernel⟩, List.mem_of_getElem? (i := 595) (by decide +kernel), List.mem_of_getElem? (i := 779) (by decide +kernel), List.mem_of_getElem? (i := 780) (by decide +kernel)⟩
theorem lw_p41 : lw_okq (⟨"SplitBeliefsModel", "takeMean", "()V"⟩, 20) := ⟨⟨by decide +kernel, by decide +kernel⟩, List.mem_of_getElem? (i := 595) (by decide +kernel), List.mem_of_getElem? (i := 798) (by decide +kernel), List.mem_of_getElem? (i := 799) (by decide +kernel)⟩
theorem lw_p42 : lw_okq (⟨"SplitBeliefsModel", "weightSum", "()I"⟩, 20) := ⟨⟨by decide +kernel, by decide +kernel⟩, List.mem_of_getElem? (i := 595) (by decide +kernel), List.mem_of_getElem? (i := 802) (by decide +kernel), List.mem_of_getElem? (i := 803) (by decide +kernel)⟩
theorem lw_p43 : lw_okq (⟨"SplitBeliefsModel", "worthAt", "(II)I"⟩, 20) := ⟨⟨by decide +kernel, by decide +kernel⟩, List.mem_of_getElem? (i := 595) (by decide +kernel), List.mem_of_getElem? (i := 811) (by decide +kernel), List.mem_of_getElem? (i := 812) (by decide +kernel)⟩
theorem lw_p44 : lw_okq (⟨"SplitBeliefsModel", "isBest", "()Z"⟩, 20) := ⟨⟨by decide +kernel, by decide +kernel⟩, List.mem_of_getElem? (i := 595) (by decide +kernel), List.mem_of_getElem? (i := 819) (by decide +kernel), List.mem_of_getElem? (i := 820) (by decide +kernel)⟩
theorem lw_p45 : lw_okq (⟨"SplitBeliefsModel", "findFault", "()I"⟩, 20) := ⟨⟨by decide +kernel, by decide +kernel⟩, List.mem_of_getElem? (i := 595) (by decide +kernel), List.mem_of_getElem? (i := 848) (by decide +kernel), List.mem_of_getElem? (i := 849) (by decide +kernel)⟩
theorem lw_p46 : lw_okq (⟨"SplitBeliefsModel", "readsOrder", "()Z"⟩, 20) := ⟨⟨by decide +kernel, by decide +kernel⟩, List.mem_of_getElem? (i := 595) (by decide +kernel), List.mem_of_getElem? (i := 852) (by decide +kernel), List.mem_of_getElem? (i := 853) (by decide +kernel)⟩
theorem lw_p47 : lw_okq (⟨"SplitBeliefsModel", "character", "(I)I"⟩, 20) := ⟨⟨by decide +kernel, by decide +kernel⟩, List.mem_of_getElem? (i := 595) (by decide +kernel), List.mem_of_getElem? (i := 856) (by decide +kernel), List.mem_of_getElem? (i := 857) (by decide +kernel)⟩
def lw_privs_3 : List (MethodName × Nat) := [(⟨"SplitBeliefsModel", "adopts", "()I"⟩, 20), (⟨"SplitBeliefsModel", "takeEnvelope", "(I)V"⟩, 20), (⟨"SplitBeliefsModel", "valueAt", "(I)I"⟩, 20), (⟨"SplitBeliefsModel", "actingAt", "(I)I"⟩, 20), (⟨"SplitBeliefsModel", "acts", "(II)Z"⟩, 20), (⟨"SplitBeliefsModel", "receiverPart", "(II)I"⟩, 20), (⟨"SplitBeliefsModel", "takeFraction", "(II)V"⟩, 20), (⟨"SplitBeliefsModel", "weightOf", "(IZ)I"⟩, 20), (⟨"SplitBeliefsModel", "leastActing", "(I)I"⟩, 20), (⟨"SplitBeliefsModel", "takeMean", "()V"⟩, 20), (⟨"SplitBeliefsModel", "weightSum", "()I"⟩, 20), (⟨"SplitBeliefsModel", "worthAt", "(II)I"⟩, 20), (⟨"SplitBeliefsModel", "isBest", "()Z"⟩, 20), (⟨"SplitBeliefsModel", "findFault", "()I"⟩, 20), (⟨"SplitBeliefsModel", "readsOrder", "()Z"⟩, 20), (⟨"SplitBeliefsModel", "character", "(I)I"⟩, 20)]
theorem lw_r3 : ∀ q ∈ lw_privs_3, lw_okq q := List.forall_mem_cons.mpr ⟨lw_p32, List.forall_mem_cons.mpr ⟨lw_p33, List.forall_mem_cons.mpr ⟨lw_p34, List.forall_mem_cons.mpr ⟨lw_p35, List.forall_mem_cons.mpr ⟨lw_p36, List.forall_mem_cons.mpr ⟨lw_p37, List.forall_mem_cons.mpr ⟨lw_p38, List.forall_mem_cons.mpr ⟨lw_p39, List.forall_mem_cons.mpr ⟨lw_p40, List.forall_mem_cons.mpr ⟨lw_p41, List.forall_mem_cons.mpr ⟨lw_p42, List.forall_mem_cons.mpr ⟨lw_p43, List.forall_mem_cons.mpr ⟨lw_p44, List.forall_mem_cons.mpr ⟨lw_p45, List.forall_mem_cons.mpr ⟨lw_p46, List.forall_mem_cons.mpr ⟨lw_p47, fun _ h => absurd h List.not_mem_nil⟩⟩⟩⟩⟩⟩⟩⟩⟩⟩⟩⟩⟩⟩⟩⟩
theorem lw_p48 : lw_okq (⟨"SplitBeliefsModel", "readsReceiver", "()Z"⟩, 20) := ⟨⟨by decide +kernel, by decide +kernel⟩, List.mem_of_getElem? (i := 595) (by decide +kernel), List.mem_of_getElem? (i := 860) (by decide +kernel), List.mem_of_getElem? (i := 861) (by decide +kernel)⟩
theorem lw_p49 : lw_okq (⟨"SplitBeliefsModel", "takeNumber", "()I"⟩, 20) := ⟨⟨by decide +kernel, by decide +kernel⟩, List.mem_of_getElem? (i := 595) (by decide +kernel), List.mem_of_getElem? (i := 864) (by decide +kernel), List.mem_of_getElem? (i := 865) (by decide +kernel)⟩
theorem lw_p50 : lw_okq (⟨"SplitBeliefsModel", "takeDigit", "(I)I"⟩, 20) := ⟨⟨by decide +kernel, by decide +kernel⟩, List.mem_of_getElem? (i := 595) (by decide +kernel), List.mem_of_getElem? (i := 868) (by decide +kernel), List.mem_of_getElem? (i := 869) (by decide +kernel)⟩
theorem lw_p51 : lw_okq (⟨"SplitBeliefsModel", "isNext", "(I)Z"⟩, 20) := ⟨⟨by decide +kernel, by decide +kernel⟩, List.mem_of_getElem? (i := 595) (by decide +kernel), List.mem_of_getElem? (i := 872) (by decide +kernel), List.mem_of_getElem? (i := 873) (by decide +kernel)⟩
theorem lw_p52 : lw_okq (⟨"SplitBeliefsModel", "readsParts", "()Z"⟩, 20) := ⟨⟨by decide +kernel, by decide +kernel⟩, List.mem_of_getElem? (i := 595) (by decide +kernel), List.mem_of_getElem? (i := 876) (by decide +kernel), List.mem_of_getElem? (i := 877) (by decide +kernel)⟩
theorem lw_p53 : lw_okq (⟨"SplitBeliefsModel", "whyNotDone", "()I"⟩, 20) := ⟨⟨by decide +kernel, by decide +kernel⟩, List.mem_of_getElem? (i := 595) (by decide +kernel), List.mem_of_getElem? (i := 884) (by decide +kernel), List.mem_of_getElem? (i := 885) (by decide +kernel)⟩
theorem lw_p54 : lw_okq (⟨"SplitBeliefsModel", "whyNoSplit", "()I"⟩, 20) := ⟨⟨by decide +kernel, by decide +kernel⟩, List.mem_of_getElem? (i := 595) (by decide +kernel), List.mem_of_getElem? (i := 888) (by decide +kernel), List.mem_of_getElem? (i := 889) (by decide +kernel)⟩
theorem lw_p55 : lw_okq (⟨"SplitBeliefsModel", "areAverage", "()Z"⟩, 20) := ⟨⟨by decide +kernel, by decide +kernel⟩, List.mem_of_getElem? (i := 595) (by decide +kernel), List.mem_of_getElem? (i := 892) (by decide +kernel), List.mem_of_getElem? (i := 893) (by decide +kernel)⟩
theorem lw_p56 : lw_okq (⟨"SplitBeliefsModel", "does", "()V"⟩, 20) := ⟨⟨by decide +kernel, by decide +kernel⟩, List.mem_of_getElem? (i := 595) (by decide +kernel), List.mem_of_getElem? (i := 896) (by decide +kernel), List.mem_of_getElem? (i := 897) (by decide +kernel)⟩
def lw_privs_4 : List (MethodName × Nat) := [(⟨"SplitBeliefsModel", "readsReceiver", "()Z"⟩, 20), (⟨"SplitBeliefsModel", "takeNumber", "()I"⟩, 20), (⟨"SplitBeliefsModel", "takeDigit", "(I)I"⟩, 20), (⟨"SplitBeliefsModel", "isNext", "(I)Z"⟩, 20), (⟨"SplitBeliefsModel", "readsParts", "()Z"⟩, 20), (⟨"SplitBeliefsModel", "whyNotDone", "()I"⟩, 20), (⟨"SplitBeliefsModel", "whyNoSplit", "()I"⟩, 20), (⟨"SplitBeliefsModel", "areAverage", "()Z"⟩, 20), (⟨"SplitBeliefsModel", "does", "()V"⟩, 20)]
theorem lw_r4 : ∀ q ∈ lw_privs_4, lw_okq q := List.forall_mem_cons.mpr ⟨lw_p48, List.forall_mem_cons.mpr ⟨lw_p49, List.forall_mem_cons.mpr ⟨lw_p50, List.forall_mem_cons.mpr ⟨lw_p51, List.forall_mem_cons.mpr ⟨lw_p52, List.forall_mem_cons.mpr ⟨lw_p53, List.forall_mem_cons.mpr ⟨lw_p54, List.forall_mem_cons.mpr ⟨lw_p55, List.forall_mem_cons.mpr ⟨lw_p56, fun _ h => absurd h List.not_mem_nil⟩⟩⟩⟩⟩⟩⟩⟩⟩
def lw_privs : List (MethodName × Nat) := lw_privs_1 ++ (lw_privs_2 ++ (lw_privs_3 ++ (lw_privs_4)))
def lw_tbl : List Cond := k2_sels lw_privs ++ tables_1
theorem lw_privs_ok : ∀ q ∈ lw_privs, lw_okq q := by
  show ∀ q ∈ lw_privs_1 ++ (lw_privs_2 ++ (lw_privs_3 ++ (lw_privs_4))), lw_okq q
  exact List.forall_mem_append.mpr ⟨lw_r1, List.forall_mem_append.mpr ⟨lw_r2, List.forall_mem_append.mpr ⟨lw_r3, lw_r4⟩⟩⟩
end
section
/-! ===== BEGIN words of one list among another's, by their places ===== -/
theorem goodIn_r {big : List Cond} (ws : List Cond) (ps : List Nat) (hp : ws = ps.filterMap (fun i => big[i]?)) (h : ws.all goodWord = true) : GoodIn big ws := by
  intro w hw
  have h1 := List.all_eq_true.mp h w hw
  rw [hp] at hw
  obtain ⟨i, -, hi⟩ := List.mem_filterMap.mp hw
  have hm : w ∈ big := by first | exact List.mem_of_getElem? hi | exact List.getElem?_mem hi
  exact ⟨hm, good_of_word h1⟩
theorem goodIn_app {big a b : List Cond} (ha : GoodIn big a) (hb : GoodIn big b) : GoodIn big (a ++ b) := fun w h => (List.mem_append.mp h).elim (ha w) (hb w)
theorem goodIn_ca {big a b : List Cond} {c : Cond} (ha : GoodIn big (c :: a)) (hb : GoodIn big b) : GoodIn big (c :: (a ++ b)) := fun w h => (List.mem_cons.mp h).elim (fun e => ha w (List.mem_cons.mpr (Or.inl e))) (fun h => (List.mem_append.mp h).elim (fun h => ha w (List.mem_cons.mpr (Or.inr h))) (hb w))
theorem goodIn_sub {big ws : List Cond} (hm : ∀ w ∈ ws, w ∈ big) (h : ws.all goodWord = true) : GoodIn big ws := fun w hw => ⟨hm w hw, good_of_word (List.all_eq_true.mp h w hw)⟩
/-! ===== END ===== -/

/-! ===== BEGIN printed: names, fields, word lists, decode rows ===== -/
def RX0 : String := "SplitBeliefs$Curve"
def TX0 : u_T := fun k => match k with
  | 0 => ("SplitBeliefs$Curve", "values", "[I", true)
  | 1 => ("SplitBeliefs$Curve", "corners", "[I", true)
  | 2 => ("SplitBeliefs$Curve", "cornerCount", "I", false)
  | 3 => ("SplitBeliefs$Curve", "lower", "I", false)
  | 4 => ("SplitBeliefs$Curve", "upper", "I", false)
  | 5 => ("SplitBeliefs$Curve", "lowerWeight", "I", false)
  | _ => ("SplitBeliefs$Curve", "upperWeight", "I", false)
def tyX0 : Nat → FieldType := fun k => match k with
  | 0 => .array .int
  | 1 => .array .int
  | 2 => .int
  | 3 => .int
  | 4 => .int
  | 5 => .int
  | _ => .int
abbrev wsX00 : List Cond := u_ws RX0 TX0 7
theorem nmX0 : ∀ a, a < 7 → ∀ b, b < 7 → a ≠ b → (TX0 a).2.1 ≠ (TX0 b).2.1 := by decide +kernel
theorem tyX0_ok : ∀ k, k < 7 → parseFieldDescriptor (TX0 k).2.2.1 = some (tyX0 k) := by decide +kernel
abbrev cX0_init : ByteArray := prog_2_method_1_code
def yX0_init : MethodName := ⟨RX0, "<init>", "()V"⟩
abbrev cX0_draw : ByteArray := prog_2_method_2_code
def yX0_draw : MethodName := ⟨RX0, "draw", "(LSplitBeliefs$Receivers;)V"⟩
abbrev cX0_heightOver : ByteArray := prog_2_method_3_code
def yX0_heightOver : MethodName := ⟨RX0, "heightOver", "(III)I"⟩
abbrev cX0_aim : ByteArray := prog_2_method_4_code
def yX0_aim : MethodName := ⟨RX0, "aim", "(I)V"⟩
abbrev cX0_valueSum : ByteArray := prog_2_method_5_code
def yX0_valueSum : MethodName := ⟨RX0, "valueSum", "()I"⟩
abbrev cX0_tellEnvelope : ByteArray := prog_2_method_6_code
def yX0_tellEnvelope : MethodName := ⟨RX0, "tellEnvelope", "(LSplitBeliefs$Fraction;)V"⟩
abbrev cX0_tellGain : ByteArray := prog_2_method_7_code
def yX0_tellGain : MethodName := ⟨RX0, "tellGain", "(ILSplitBeliefs$Fraction;)V"⟩
def RX1 : String := "SplitBeliefs$Fraction"
def TX1 : u_T := fun k => match k with
  | 0 => ("SplitBeliefs$Fraction", "above", "I", false)
  | _ => ("SplitBeliefs$Fraction", "below", "I", false)
def tyX1 : Nat → FieldType := fun k => match k with
  | 0 => .int
  | _ => .int
abbrev wsX10 : List Cond := u_ws RX1 TX1 2
theorem nmX1 : ∀ a, a < 2 → ∀ b, b < 2 → a ≠ b → (TX1 a).2.1 ≠ (TX1 b).2.1 := by decide +kernel
theorem tyX1_ok : ∀ k, k < 2 → parseFieldDescriptor (TX1 k).2.2.1 = some (tyX1 k) := by decide +kernel
abbrev cX1_init : ByteArray := prog_3_method_1_code
def yX1_init : MethodName := ⟨RX1, "<init>", "()V"⟩
abbrev cX1_become : ByteArray := prog_3_method_2_code
def yX1_become : MethodName := ⟨RX1, "become", "(II)V"⟩
abbrev cX1_isAbove : ByteArray := prog_3_method_3_code
def yX1_isAbove : MethodName := ⟨RX1, "isAbove", "(LSplitBeliefs$Fraction;)Z"⟩
def RX2 : String := "SplitBeliefs$History"
def TX2 : u_T := fun k => match k with
  | 0 => ("SplitBeliefs$History", "rows", "[LSplitBeliefs$State;", true)
  | 1 => ("SplitBeliefs$History", "next", "I", false)
  | _ => ("SplitBeliefs$History", "kept", "I", false)
def tyX2 : Nat → FieldType := fun k => match k with
  | 0 => .array (.object "SplitBeliefs$State")
  | 1 => .int
  | _ => .int
abbrev wsX20 : List Cond := u_ws RX2 TX2 3
theorem nmX2 : ∀ a, a < 3 → ∀ b, b < 3 → a ≠ b → (TX2 a).2.1 ≠ (TX2 b).2.1 := by decide +kernel
theorem tyX2_ok : ∀ k, k < 3 → parseFieldDescriptor (TX2 k).2.2.1 = some (tyX2 k) := by decide +kernel
abbrev cX2_init : ByteArray := prog_4_method_1_code
def yX2_init : MethodName := ⟨RX2, "<init>", "()V"⟩
abbrev cX2_note : ByteArray := prog_4_method_2_code
def yX2_note : MethodName := ⟨RX2, "note", "(LSplitBeliefs$State;)V"⟩
abbrev cX2_keep : ByteArray := prog_4_method_3_code
def yX2_keep : MethodName := ⟨RX2, "keep", "()V"⟩
abbrev cX2_takeBack : ByteArray := prog_4_method_4_code
def yX2_takeBack : MethodName := ⟨RX2, "takeBack", "(LSplitBeliefs$State;)V"⟩
def RX3 : String := "SplitBeliefs$Mix"
def TX3 : u_T := fun k => match k with
  | _ => ("SplitBeliefs$Mix", "weightAt", "[I", true)
def tyX3 : Nat → FieldType := fun k => match k with
  | _ => .array .int
abbrev wsX30 : List Cond := u_ws RX3 TX3 1
theorem nmX3 : ∀ a, a < 1 → ∀ b, b < 1 → a ≠ b → (TX3 a).2.1 ≠ (TX3 b).2.1 := by decide +kernel
theorem tyX3_ok : ∀ k, k < 1 → parseFieldDescriptor (TX3 k).2.2.1 = some (tyX3 k) := by decide +kernel
abbrev cX3_init : ByteArray := prog_5_method_1_code
def yX3_init : MethodName := ⟨RX3, "<init>", "()V"⟩
abbrev cX3_clear : ByteArray := prog_5_method_2_code
def yX3_clear : MethodName := ⟨RX3, "clear", "()V"⟩
abbrev cX3_gather : ByteArray := prog_5_method_3_code
def yX3_gather : MethodName := ⟨RX3, "gather", "(LSplitBeliefs$Split;I)V"⟩
abbrev cX3_add : ByteArray := prog_5_method_4_code
def yX3_add : MethodName := ⟨RX3, "add", "(II)V"⟩
abbrev cX3_reduce : ByteArray := prog_5_method_5_code
def yX3_reduce : MethodName := ⟨RX3, "reduce", "()V"⟩
abbrev cX3_fits : ByteArray := prog_5_method_6_code
def yX3_fits : MethodName := ⟨RX3, "fits", "()Z"⟩
abbrev cX3_averagesTo : ByteArray := prog_5_method_7_code
def yX3_averagesTo : MethodName := ⟨RX3, "averagesTo", "(I)Z"⟩
abbrev cX3_pourInto : ByteArray := prog_5_method_8_code
def yX3_pourInto : MethodName := ⟨RX3, "pourInto", "(LSplitBeliefs$Split;)V"⟩
def RX4 : String := "SplitBeliefs$Pad"
def TX4 : u_T := fun k => match k with
  | 0 => ("SplitBeliefs$Pad", "signs", "[C", true)
  | 1 => ("SplitBeliefs$Pad", "numbers", "[I", true)
  | 2 => ("SplitBeliefs$Pad", "length", "I", false)
  | 3 => ("SplitBeliefs$Pad", "at", "I", false)
  | 4 => ("SplitBeliefs$Pad", "order", "I", false)
  | _ => ("SplitBeliefs$Pad", "told", "I", false)
def tyX4 : Nat → FieldType := fun k => match k with
  | 0 => .array .char
  | 1 => .array .int
  | 2 => .int
  | 3 => .int
  | 4 => .int
  | _ => .int
abbrev wsX40 : List Cond := u_ws RX4 TX4 6
theorem nmX4 : ∀ a, a < 6 → ∀ b, b < 6 → a ≠ b → (TX4 a).2.1 ≠ (TX4 b).2.1 := by decide +kernel
theorem tyX4_ok : ∀ k, k < 6 → parseFieldDescriptor (TX4 k).2.2.1 = some (tyX4 k) := by decide +kernel
abbrev cX4_init : ByteArray := prog_6_method_1_code
def yX4_init : MethodName := ⟨RX4, "<init>", "()V"⟩
abbrev cX4_append : ByteArray := prog_6_method_2_code
def yX4_append : MethodName := ⟨RX4, "append", "(J)I"⟩
abbrev cX4_firstFault : ByteArray := prog_6_method_3_code
def yX4_firstFault : MethodName := ⟨RX4, "firstFault", "()I"⟩
abbrev cX4_number : ByteArray := prog_6_method_4_code
def yX4_number : MethodName := ⟨RX4, "number", "(I)I"⟩
abbrev cX4_readNext : ByteArray := prog_6_method_5_code
def yX4_readNext : MethodName := ⟨RX4, "readNext", "()Z"⟩
abbrev cX4_readHire : ByteArray := prog_6_method_6_code
def yX4_readHire : MethodName := ⟨RX4, "readHire", "()Z"⟩
abbrev cX4_readParts : ByteArray := prog_6_method_7_code
def yX4_readParts : MethodName := ⟨RX4, "readParts", "()Z"⟩
abbrev cX4_readDigit : ByteArray := prog_6_method_8_code
def yX4_readDigit : MethodName := ⟨RX4, "readDigit", "()Z"⟩
abbrev cX4_readNumber : ByteArray := prog_6_method_9_code
def yX4_readNumber : MethodName := ⟨RX4, "readNumber", "()Z"⟩
abbrev cX4_isDigit : ByteArray := prog_6_method_10_code
def yX4_isDigit : MethodName := ⟨RX4, "isDigit", "(I)Z"⟩
abbrev cX4_tell : ByteArray := prog_6_method_11_code
def yX4_tell : MethodName := ⟨RX4, "tell", "(I)V"⟩
abbrev cX4_sign : ByteArray := prog_6_method_12_code
def yX4_sign : MethodName := ⟨RX4, "sign", "()I"⟩
abbrev cX4_skip : ByteArray := prog_6_method_13_code
def yX4_skip : MethodName := ⟨RX4, "skip", "(C)Z"⟩
def RX5 : String := "SplitBeliefs$Receivers"
def TX5 : u_T := fun k => match k with
  | 0 => ("SplitBeliefs$Receivers", "losses", "[I", true)
  | 1 => ("SplitBeliefs$Receivers", "gains", "[I", true)
  | 2 => ("SplitBeliefs$Receivers", "pays", "[I", true)
  | 3 => ("SplitBeliefs$Receivers", "bonuses", "[I", true)
  | _ => ("SplitBeliefs$Receivers", "number", "I", false)
def tyX5 : Nat → FieldType := fun k => match k with
  | 0 => .array .int
  | 1 => .array .int
  | 2 => .array .int
  | 3 => .array .int
  | _ => .int
abbrev wsX50 : List Cond := u_ws RX5 TX5 5
theorem nmX5 : ∀ a, a < 5 → ∀ b, b < 5 → a ≠ b → (TX5 a).2.1 ≠ (TX5 b).2.1 := by decide +kernel
theorem tyX5_ok : ∀ k, k < 5 → parseFieldDescriptor (TX5 k).2.2.1 = some (tyX5 k) := by decide +kernel
abbrev cX5_init : ByteArray := prog_7_method_1_code
def yX5_init : MethodName := ⟨RX5, "<init>", "()V"⟩
abbrev cX5_copyFrom : ByteArray := prog_7_method_2_code
def yX5_copyFrom : MethodName := ⟨RX5, "copyFrom", "(LSplitBeliefs$Receivers;)V"⟩
abbrev cX5_has : ByteArray := prog_7_method_3_code
def yX5_has : MethodName := ⟨RX5, "has", "(I)Z"⟩
abbrev cX5_admit : ByteArray := prog_7_method_4_code
def yX5_admit : MethodName := ⟨RX5, "admit", "(IIII)I"⟩
abbrev cX5_remove : ByteArray := prog_7_method_5_code
def yX5_remove : MethodName := ⟨RX5, "remove", "(I)I"⟩
abbrev cX5_acts : ByteArray := prog_7_method_6_code
def yX5_acts : MethodName := ⟨RX5, "acts", "(II)Z"⟩
abbrev cX5_worthAt : ByteArray := prog_7_method_7_code
def yX5_worthAt : MethodName := ⟨RX5, "worthAt", "(II)I"⟩
abbrev cX5_leastActing : ByteArray := prog_7_method_8_code
def yX5_leastActing : MethodName := ⟨RX5, "leastActing", "(I)I"⟩
abbrev cX5_actingAt : ByteArray := prog_7_method_9_code
def yX5_actingAt : MethodName := ⟨RX5, "actingAt", "(I)I"⟩
abbrev cX5_valueAt : ByteArray := prog_7_method_10_code
def yX5_valueAt : MethodName := ⟨RX5, "valueAt", "(I)I"⟩
def RX6 : String := "SplitBeliefs$Split"
def TX6 : u_T := fun k => match k with
  | 0 => ("SplitBeliefs$Split", "weights", "[I", true)
  | 1 => ("SplitBeliefs$Split", "posteriors", "[I", true)
  | _ => ("SplitBeliefs$Split", "parts", "I", false)
def tyX6 : Nat → FieldType := fun k => match k with
  | 0 => .array .int
  | 1 => .array .int
  | _ => .int
abbrev wsX60 : List Cond := u_ws RX6 TX6 3
theorem nmX6 : ∀ a, a < 3 → ∀ b, b < 3 → a ≠ b → (TX6 a).2.1 ≠ (TX6 b).2.1 := by decide +kernel
theorem tyX6_ok : ∀ k, k < 3 → parseFieldDescriptor (TX6 k).2.2.1 = some (tyX6 k) := by decide +kernel
abbrev cX6_init : ByteArray := prog_8_method_1_code
def yX6_init : MethodName := ⟨RX6, "<init>", "()V"⟩
abbrev cX6_copyFrom : ByteArray := prog_8_method_2_code
def yX6_copyFrom : MethodName := ⟨RX6, "copyFrom", "(LSplitBeliefs$Split;)V"⟩
abbrev cX6_has : ByteArray := prog_8_method_3_code
def yX6_has : MethodName := ⟨RX6, "has", "(I)Z"⟩
abbrev cX6_becomeOne : ByteArray := prog_8_method_4_code
def yX6_becomeOne : MethodName := ⟨RX6, "becomeOne", "(I)V"⟩
abbrev cX6_append : ByteArray := prog_8_method_5_code
def yX6_append : MethodName := ⟨RX6, "append", "(II)V"⟩
abbrev cX6_weightSum : ByteArray := prog_8_method_6_code
def yX6_weightSum : MethodName := ⟨RX6, "weightSum", "()I"⟩
def RX7 : String := "SplitBeliefs$State"
def TX7 : u_T := fun k => match k with
  | 0 => ("SplitBeliefs$State", "receivers", "LSplitBeliefs$Receivers;", true)
  | 1 => ("SplitBeliefs$State", "split", "LSplitBeliefs$Split;", true)
  | _ => ("SplitBeliefs$State", "prior", "I", false)
def tyX7 : Nat → FieldType := fun k => match k with
  | 0 => .object "SplitBeliefs$Receivers"
  | 1 => .object "SplitBeliefs$Split"
  | _ => .int
abbrev wsX70 : List Cond := u_ws RX7 TX7 3
theorem nmX7 : ∀ a, a < 3 → ∀ b, b < 3 → a ≠ b → (TX7 a).2.1 ≠ (TX7 b).2.1 := by decide +kernel
theorem tyX7_ok : ∀ k, k < 3 → parseFieldDescriptor (TX7 k).2.2.1 = some (tyX7 k) := by decide +kernel
abbrev cX7_init : ByteArray := prog_9_method_1_code
def yX7_init : MethodName := ⟨RX7, "<init>", "()V"⟩
abbrev cX7_copyFrom : ByteArray := prog_9_method_2_code
def yX7_copyFrom : MethodName := ⟨RX7, "copyFrom", "(LSplitBeliefs$State;)V"⟩
abbrev cX7_movePrior : ByteArray := prog_9_method_3_code
def yX7_movePrior : MethodName := ⟨RX7, "movePrior", "(I)I"⟩
abbrev cX7_tellMeanValue : ByteArray := prog_9_method_4_code
def yX7_tellMeanValue : MethodName := ⟨RX7, "tellMeanValue", "(LSplitBeliefs$Fraction;)V"⟩
abbrev cX7_tellMeanWorth : ByteArray := prog_9_method_5_code
def yX7_tellMeanWorth : MethodName := ⟨RX7, "tellMeanWorth", "(ILSplitBeliefs$Fraction;)V"⟩
def RX8 : String := "SplitBeliefs"
def TX8 : u_T := fun k => match k with
  | 0 => ("SplitBeliefs", "now", "LSplitBeliefs$State;", true)
  | 1 => ("SplitBeliefs", "history", "LSplitBeliefs$History;", true)
  | 2 => ("SplitBeliefs", "slots", "[LSplitBeliefs$State;", true)
  | 3 => ("SplitBeliefs", "saved", "[Z", true)
  | 4 => ("SplitBeliefs", "pad", "LSplitBeliefs$Pad;", true)
  | 5 => ("SplitBeliefs", "mix", "LSplitBeliefs$Mix;", true)
  | 6 => ("SplitBeliefs", "curve", "LSplitBeliefs$Curve;", true)
  | 7 => ("SplitBeliefs", "fraction", "LSplitBeliefs$Fraction;", true)
  | _ => ("SplitBeliefs", "other", "LSplitBeliefs$Fraction;", true)
def tyX8 : Nat → FieldType := fun k => match k with
  | 0 => .object "SplitBeliefs$State"
  | 1 => .object "SplitBeliefs$History"
  | 2 => .array (.object "SplitBeliefs$State")
  | 3 => .array .boolean
  | 4 => .object "SplitBeliefs$Pad"
  | 5 => .object "SplitBeliefs$Mix"
  | 6 => .object "SplitBeliefs$Curve"
  | 7 => .object "SplitBeliefs$Fraction"
  | _ => .object "SplitBeliefs$Fraction"
abbrev wsX80 : List Cond := u_ws RX8 TX8 9
theorem nmX8 : ∀ a, a < 9 → ∀ b, b < 9 → a ≠ b → (TX8 a).2.1 ≠ (TX8 b).2.1 := by decide +kernel
theorem tyX8_ok : ∀ k, k < 9 → parseFieldDescriptor (TX8 k).2.2.1 = some (tyX8 k) := by decide +kernel
abbrev cX8_init : ByteArray := prog_1_method_1_code
def yX8_init : MethodName := ⟨RX8, "<init>", "()V"⟩
abbrev cX8_prior : ByteArray := prog_1_method_2_code
def yX8_prior : MethodName := ⟨RX8, "prior", "(I)I"⟩
abbrev cX8_hire : ByteArray := prog_1_method_3_code
def yX8_hire : MethodName := ⟨RX8, "hire", "(IIII)I"⟩
abbrev cX8_dismiss : ByteArray := prog_1_method_4_code
def yX8_dismiss : MethodName := ⟨RX8, "dismiss", "(I)I"⟩
abbrev cX8_refine : ByteArray := prog_1_method_5_code
def yX8_refine : MethodName := ⟨RX8, "refine", "(III)I"⟩
abbrev cX8_join : ByteArray := prog_1_method_6_code
def yX8_join : MethodName := ⟨RX8, "join", "(I)I"⟩
abbrev cX8_adopt : ByteArray := prog_1_method_7_code
def yX8_adopt : MethodName := ⟨RX8, "adopt", "()I"⟩
abbrev cX8_receiver : ByteArray := prog_1_method_8_code
def yX8_receiver : MethodName := ⟨RX8, "receiver", "(II)I"⟩
abbrev cX8_part : ByteArray := prog_1_method_9_code
def yX8_part : MethodName := ⟨RX8, "part", "(II)I"⟩
abbrev cX8_value : ByteArray := prog_1_method_10_code
def yX8_value : MethodName := ⟨RX8, "value", "(I)I"⟩
abbrev cX8_mean : ByteArray := prog_1_method_11_code
def yX8_mean : MethodName := ⟨RX8, "mean", "(I)I"⟩
abbrev cX8_worth : ByteArray := prog_1_method_12_code
def yX8_worth : MethodName := ⟨RX8, "worth", "(II)I"⟩
abbrev cX8_count : ByteArray := prog_1_method_13_code
def yX8_count : MethodName := ⟨RX8, "count", "(I)I"⟩
abbrev cX8_envelope : ByteArray := prog_1_method_14_code
def yX8_envelope : MethodName := ⟨RX8, "envelope", "(II)I"⟩
abbrev cX8_best : ByteArray := prog_1_method_15_code
def yX8_best : MethodName := ⟨RX8, "best", "(II)I"⟩
abbrev cX8_mostGained : ByteArray := prog_1_method_16_code
def yX8_mostGained : MethodName := ⟨RX8, "mostGained", "(I)I"⟩
abbrev cX8_put : ByteArray := prog_1_method_17_code
def yX8_put : MethodName := ⟨RX8, "put", "(J)I"⟩
abbrev cX8_wipe : ByteArray := prog_1_method_18_code
def yX8_wipe : MethodName := ⟨RX8, "wipe", "()I"⟩
abbrev cX8_fault : ByteArray := prog_1_method_19_code
def yX8_fault : MethodName := ⟨RX8, "fault", "()I"⟩
abbrev cX8_carryOut : ByteArray := prog_1_method_20_code
def yX8_carryOut : MethodName := ⟨RX8, "carryOut", "()I"⟩
abbrev cX8_undo : ByteArray := prog_1_method_21_code
def yX8_undo : MethodName := ⟨RX8, "undo", "()I"⟩
abbrev cX8_save : ByteArray := prog_1_method_22_code
def yX8_save : MethodName := ⟨RX8, "save", "(I)I"⟩
abbrev cX8_restore : ByteArray := prog_1_method_23_code
def yX8_restore : MethodName := ⟨RX8, "restore", "(I)I"⟩
abbrev cX8_isPosterior : ByteArray := prog_1_method_24_code
def yX8_isPosterior : MethodName := ⟨RX8, "isPosterior", "(I)Z"⟩
abbrev cX8_isHalfOfFraction : ByteArray := prog_1_method_25_code
def yX8_isHalfOfFraction : MethodName := ⟨RX8, "isHalfOfFraction", "(I)Z"⟩
abbrev cX8_isSlot : ByteArray := prog_1_method_26_code
def yX8_isSlot : MethodName := ⟨RX8, "isSlot", "(I)Z"⟩
abbrev cX8_recorded : ByteArray := prog_1_method_27_code
def yX8_recorded : MethodName := ⟨RX8, "recorded", "(I)I"⟩
abbrev cX8_splitPart : ByteArray := prog_1_method_28_code
def yX8_splitPart : MethodName := ⟨RX8, "splitPart", "(III)I"⟩
abbrev cX8_joinWithNext : ByteArray := prog_1_method_29_code
def yX8_joinWithNext : MethodName := ⟨RX8, "joinWithNext", "(I)I"⟩
abbrev cX8_takeBest : ByteArray := prog_1_method_30_code
def yX8_takeBest : MethodName := ⟨RX8, "takeBest", "()I"⟩
abbrev cX8_takeTold : ByteArray := prog_1_method_31_code
def yX8_takeTold : MethodName := ⟨RX8, "takeTold", "()I"⟩
abbrev cX8_takeMix : ByteArray := prog_1_method_32_code
def yX8_takeMix : MethodName := ⟨RX8, "takeMix", "()I"⟩
abbrev cX8_aimAt : ByteArray := prog_1_method_33_code
def yX8_aimAt : MethodName := ⟨RX8, "aimAt", "(I)V"⟩
abbrev cX8_meanIsEnvelope : ByteArray := prog_1_method_34_code
def yX8_meanIsEnvelope : MethodName := ⟨RX8, "meanIsEnvelope", "()Z"⟩
abbrev cX8_findMostGained : ByteArray := prog_1_method_35_code
def yX8_findMostGained : MethodName := ⟨RX8, "findMostGained", "()I"⟩
abbrev cX8_obeyAll : ByteArray := prog_1_method_36_code
def yX8_obeyAll : MethodName := ⟨RX8, "obeyAll", "()I"⟩
abbrev cX8_obey : ByteArray := prog_1_method_37_code
def yX8_obey : MethodName := ⟨RX8, "obey", "()I"⟩
abbrev cX8_commonDivisor : ByteArray := prog_1_method_38_code
def yX8_commonDivisor : MethodName := ⟨RX8, "commonDivisor", "(II)I"⟩
def RX9 : String := "SplitBeliefsModel"
def TX9 : u_T := fun k => match k with
  | 0 => ("SplitBeliefsModel", "state", "[I", true)
  | 1 => ("SplitBeliefsModel", "history", "[I", true)
  | 2 => ("SplitBeliefsModel", "recorded", "I", false)
  | 3 => ("SplitBeliefsModel", "slots", "[I", true)
  | 4 => ("SplitBeliefsModel", "isSaved", "[I", true)
  | 5 => ("SplitBeliefsModel", "pad", "[I", true)
  | 6 => ("SplitBeliefsModel", "padLength", "I", false)
  | 7 => ("SplitBeliefsModel", "weights", "[I", true)
  | 8 => ("SplitBeliefsModel", "posteriors", "[I", true)
  | 9 => ("SplitBeliefsModel", "many", "I", false)
  | 10 => ("SplitBeliefsModel", "upper", "I", false)
  | 11 => ("SplitBeliefsModel", "lower", "I", false)
  | 12 => ("SplitBeliefsModel", "bestLow", "I", false)
  | 13 => ("SplitBeliefsModel", "bestHigh", "I", false)
  | 14 => ("SplitBeliefsModel", "at", "I", false)
  | 15 => ("SplitBeliefsModel", "letter", "I", false)
  | 16 => ("SplitBeliefsModel", "first", "I", false)
  | 17 => ("SplitBeliefsModel", "second", "I", false)
  | 18 => ("SplitBeliefsModel", "third", "I", false)
  | _ => ("SplitBeliefsModel", "fourth", "I", false)
def tyX9 : Nat → FieldType := fun k => match k with
  | 0 => .array .int
  | 1 => .array .int
  | 2 => .int
  | 3 => .array .int
  | 4 => .array .int
  | 5 => .array .int
  | 6 => .int
  | 7 => .array .int
  | 8 => .array .int
  | 9 => .int
  | 10 => .int
  | 11 => .int
  | 12 => .int
  | 13 => .int
  | 14 => .int
  | 15 => .int
  | 16 => .int
  | 17 => .int
  | 18 => .int
  | _ => .int
abbrev wsX90 : List Cond := u_ws RX9 TX9 20
theorem nmX9 : ∀ a, a < 20 → ∀ b, b < 20 → a ≠ b → (TX9 a).2.1 ≠ (TX9 b).2.1 := by decide +kernel
theorem tyX9_ok : ∀ k, k < 20 → parseFieldDescriptor (TX9 k).2.2.1 = some (tyX9 k) := by decide +kernel
abbrev cX9_init : ByteArray := prog_11_method_1_code
def yX9_init : MethodName := ⟨RX9, "<init>", "()V"⟩
abbrev cX9_moves : ByteArray := prog_11_method_3_code
def yX9_moves : MethodName := ⟨RX9, "moves", "([II[II)V"⟩
abbrev cX9_within : ByteArray := prog_11_method_4_code
def yX9_within : MethodName := ⟨RX9, "within", "(III)Z"⟩
abbrev cX9_record : ByteArray := prog_11_method_5_code
def yX9_record : MethodName := ⟨RX9, "record", "()V"⟩
abbrev cX9_divisor : ByteArray := prog_11_method_6_code
def yX9_divisor : MethodName := ⟨RX9, "divisor", "(II)I"⟩
abbrev cX9_takeFraction : ByteArray := prog_11_method_7_code
def yX9_takeFraction : MethodName := ⟨RX9, "takeFraction", "(II)V"⟩
abbrev cX9_isReceiver : ByteArray := prog_11_method_8_code
def yX9_isReceiver : MethodName := ⟨RX9, "isReceiver", "(I)Z"⟩
abbrev cX9_receiverPart : ByteArray := prog_11_method_9_code
def yX9_receiverPart : MethodName := ⟨RX9, "receiverPart", "(II)I"⟩
abbrev cX9_worthAt : ByteArray := prog_11_method_10_code
def yX9_worthAt : MethodName := ⟨RX9, "worthAt", "(II)I"⟩
abbrev cX9_acts : ByteArray := prog_11_method_11_code
def yX9_acts : MethodName := ⟨RX9, "acts", "(II)Z"⟩
abbrev cX9_actingAt : ByteArray := prog_11_method_12_code
def yX9_actingAt : MethodName := ⟨RX9, "actingAt", "(I)I"⟩
abbrev cX9_valueAt : ByteArray := prog_11_method_13_code
def yX9_valueAt : MethodName := ⟨RX9, "valueAt", "(I)I"⟩
abbrev cX9_leastActing : ByteArray := prog_11_method_14_code
def yX9_leastActing : MethodName := ⟨RX9, "leastActing", "(I)I"⟩
abbrev cX9_isPart : ByteArray := prog_11_method_15_code
def yX9_isPart : MethodName := ⟨RX9, "isPart", "(I)Z"⟩
abbrev cX9_begins : ByteArray := prog_11_method_16_code
def yX9_begins : MethodName := ⟨RX9, "begins", "(I)V"⟩
abbrev cX9_takesOne : ByteArray := prog_11_method_17_code
def yX9_takesOne : MethodName := ⟨RX9, "takesOne", "(II)V"⟩
abbrev cX9_takes : ByteArray := prog_11_method_18_code
def yX9_takes : MethodName := ⟨RX9, "takes", "(II)V"⟩
abbrev cX9_areWell : ByteArray := prog_11_method_19_code
def yX9_areWell : MethodName := ⟨RX9, "areWell", "()Z"⟩
abbrev cX9_gives : ByteArray := prog_11_method_20_code
def yX9_gives : MethodName := ⟨RX9, "gives", "()V"⟩
abbrev cX9_weightSum : ByteArray := prog_11_method_21_code
def yX9_weightSum : MethodName := ⟨RX9, "weightSum", "()I"⟩
abbrev cX9_takeMean : ByteArray := prog_11_method_22_code
def yX9_takeMean : MethodName := ⟨RX9, "takeMean", "()V"⟩
abbrev cX9_takeEnvelope : ByteArray := prog_11_method_23_code
def yX9_takeEnvelope : MethodName := ⟨RX9, "takeEnvelope", "(I)V"⟩
abbrev cX9_weightOf : ByteArray := prog_11_method_24_code
def yX9_weightOf : MethodName := ⟨RX9, "weightOf", "(IZ)I"⟩
abbrev cX9_priors : ByteArray := prog_11_method_25_code
def yX9_priors : MethodName := ⟨RX9, "priors", "(I)V"⟩
abbrev cX9_prior : ByteArray := prog_11_method_26_code
def yX9_prior : MethodName := ⟨RX9, "prior", "(I)I"⟩
abbrev cX9_whyNotHired : ByteArray := prog_11_method_27_code
def yX9_whyNotHired : MethodName := ⟨RX9, "whyNotHired", "(IIII)I"⟩
abbrev cX9_hires : ByteArray := prog_11_method_28_code
def yX9_hires : MethodName := ⟨RX9, "hires", "(IIII)I"⟩
abbrev cX9_hire : ByteArray := prog_11_method_29_code
def yX9_hire : MethodName := ⟨RX9, "hire", "(IIII)I"⟩
abbrev cX9_dismisses : ByteArray := prog_11_method_30_code
def yX9_dismisses : MethodName := ⟨RX9, "dismisses", "(I)I"⟩
abbrev cX9_dismiss : ByteArray := prog_11_method_31_code
def yX9_dismiss : MethodName := ⟨RX9, "dismiss", "(I)I"⟩
abbrev cX9_refine : ByteArray := prog_11_method_32_code
def yX9_refine : MethodName := ⟨RX9, "refine", "(III)I"⟩
abbrev cX9_join : ByteArray := prog_11_method_33_code
def yX9_join : MethodName := ⟨RX9, "join", "(I)I"⟩
abbrev cX9_adopts : ByteArray := prog_11_method_34_code
def yX9_adopts : MethodName := ⟨RX9, "adopts", "()I"⟩
abbrev cX9_adopt : ByteArray := prog_11_method_35_code
def yX9_adopt : MethodName := ⟨RX9, "adopt", "()I"⟩
abbrev cX9_receiver : ByteArray := prog_11_method_36_code
def yX9_receiver : MethodName := ⟨RX9, "receiver", "(II)I"⟩
abbrev cX9_part : ByteArray := prog_11_method_37_code
def yX9_part : MethodName := ⟨RX9, "part", "(II)I"⟩
abbrev cX9_isShare : ByteArray := prog_11_method_38_code
def yX9_isShare : MethodName := ⟨RX9, "isShare", "(I)Z"⟩
abbrev cX9_value : ByteArray := prog_11_method_39_code
def yX9_value : MethodName := ⟨RX9, "value", "(I)I"⟩
abbrev cX9_mean : ByteArray := prog_11_method_40_code
def yX9_mean : MethodName := ⟨RX9, "mean", "(I)I"⟩
abbrev cX9_worth : ByteArray := prog_11_method_41_code
def yX9_worth : MethodName := ⟨RX9, "worth", "(II)I"⟩
abbrev cX9_isBest : ByteArray := prog_11_method_42_code
def yX9_isBest : MethodName := ⟨RX9, "isBest", "()Z"⟩
abbrev cX9_count : ByteArray := prog_11_method_43_code
def yX9_count : MethodName := ⟨RX9, "count", "(I)I"⟩
abbrev cX9_envelope : ByteArray := prog_11_method_44_code
def yX9_envelope : MethodName := ⟨RX9, "envelope", "(II)I"⟩
abbrev cX9_best : ByteArray := prog_11_method_45_code
def yX9_best : MethodName := ⟨RX9, "best", "(II)I"⟩
abbrev cX9_mostGained : ByteArray := prog_11_method_46_code
def yX9_mostGained : MethodName := ⟨RX9, "mostGained", "(I)I"⟩
abbrev cX9_put : ByteArray := prog_11_method_47_code
def yX9_put : MethodName := ⟨RX9, "put", "(J)I"⟩
abbrev cX9_wipe : ByteArray := prog_11_method_48_code
def yX9_wipe : MethodName := ⟨RX9, "wipe", "()I"⟩
abbrev cX9_character : ByteArray := prog_11_method_49_code
def yX9_character : MethodName := ⟨RX9, "character", "(I)I"⟩
abbrev cX9_isNext : ByteArray := prog_11_method_50_code
def yX9_isNext : MethodName := ⟨RX9, "isNext", "(I)Z"⟩
abbrev cX9_takeDigit : ByteArray := prog_11_method_51_code
def yX9_takeDigit : MethodName := ⟨RX9, "takeDigit", "(I)I"⟩
abbrev cX9_takeNumber : ByteArray := prog_11_method_52_code
def yX9_takeNumber : MethodName := ⟨RX9, "takeNumber", "()I"⟩
abbrev cX9_readsReceiver : ByteArray := prog_11_method_53_code
def yX9_readsReceiver : MethodName := ⟨RX9, "readsReceiver", "()Z"⟩
abbrev cX9_readsParts : ByteArray := prog_11_method_54_code
def yX9_readsParts : MethodName := ⟨RX9, "readsParts", "()Z"⟩
abbrev cX9_readsOrder : ByteArray := prog_11_method_55_code
def yX9_readsOrder : MethodName := ⟨RX9, "readsOrder", "()Z"⟩
abbrev cX9_findFault : ByteArray := prog_11_method_56_code
def yX9_findFault : MethodName := ⟨RX9, "findFault", "()I"⟩
abbrev cX9_fault : ByteArray := prog_11_method_57_code
def yX9_fault : MethodName := ⟨RX9, "fault", "()I"⟩
abbrev cX9_areAverage : ByteArray := prog_11_method_58_code
def yX9_areAverage : MethodName := ⟨RX9, "areAverage", "()Z"⟩
abbrev cX9_whyNoSplit : ByteArray := prog_11_method_59_code
def yX9_whyNoSplit : MethodName := ⟨RX9, "whyNoSplit", "()I"⟩
abbrev cX9_whyNotDone : ByteArray := prog_11_method_60_code
def yX9_whyNotDone : MethodName := ⟨RX9, "whyNotDone", "()I"⟩
abbrev cX9_does : ByteArray := prog_11_method_61_code
def yX9_does : MethodName := ⟨RX9, "does", "()V"⟩
abbrev cX9_carryOut : ByteArray := prog_11_method_62_code
def yX9_carryOut : MethodName := ⟨RX9, "carryOut", "()I"⟩
abbrev cX9_undo : ByteArray := prog_11_method_63_code
def yX9_undo : MethodName := ⟨RX9, "undo", "()I"⟩
abbrev cX9_save : ByteArray := prog_11_method_64_code
def yX9_save : MethodName := ⟨RX9, "save", "(I)I"⟩
abbrev cX9_restore : ByteArray := prog_11_method_65_code
def yX9_restore : MethodName := ⟨RX9, "restore", "(I)I"⟩
def RJ9 : String := "java/lang/Math"
def TJ9 : u_T := fun k => match k with
  | _ => ("", "", "", false)
def tyJ9 : Nat → FieldType := fun k => match k with
  | _ => .int
abbrev wsJ90 : List Cond := u_ws RJ9 TJ9 0
theorem nmJ9 : ∀ a, a < 0 → ∀ b, b < 0 → a ≠ b → (TJ9 a).2.1 ≠ (TJ9 b).2.1 := by decide +kernel
theorem tyJ9_ok : ∀ k, k < 0 → parseFieldDescriptor (TJ9 k).2.2.1 = some (tyJ9 k) := by decide +kernel
abbrev cJ9_abs_0f7a4 : ByteArray := prog_12_method_59_code
def yJ9_abs_0f7a4 : MethodName := ⟨RJ9, "abs", "(I)I"⟩
abbrev cJ9_max_7cf53 : ByteArray := prog_12_method_65_code
def yJ9_max_7cf53 : MethodName := ⟨RJ9, "max", "(II)I"⟩
abbrev cJ9_min_7cf53 : ByteArray := prog_12_method_69_code
def yJ9_min_7cf53 : MethodName := ⟨RJ9, "min", "(II)I"⟩
def RJ10 : String := "java/lang/System"
def TJ10 : u_T := fun k => match k with
  | _ => ("", "", "", false)
def tyJ10 : Nat → FieldType := fun k => match k with
  | _ => .int
abbrev wsJ100 : List Cond := u_ws RJ10 TJ10 0
theorem nmJ10 : ∀ a, a < 0 → ∀ b, b < 0 → a ≠ b → (TJ10 a).2.1 ≠ (TJ10 b).2.1 := by decide +kernel
theorem tyJ10_ok : ∀ k, k < 0 → parseFieldDescriptor (TJ10 k).2.2.1 = some (tyJ10 k) := by decide +kernel
def RL : String := "SplitBeliefsLaw"
abbrev cL_law : ByteArray := code
def yL_law : MethodName := ⟨RL, "law", "([I)Z"⟩
def wsX0_init : List Cond := .code yX0_init cX0_init 1 none :: ([.methodLink RX0 3 objectInit, .instanceMethod objectInit, .code objectInit ⟨#[0xb1]⟩ 1 none, .arrayClass .int, .fieldLink RX0 9 "SplitBeliefs$Curve" "values" "[I", .fieldLink RX0 15 "SplitBeliefs$Curve" "corners" "[I", .fieldLink RX0 18 "SplitBeliefs$Curve" "cornerCount" "I", .fieldLink RX0 22 "SplitBeliefs$Curve" "lower" "I", .fieldLink RX0 25 "SplitBeliefs$Curve" "upper" "I", .fieldLink RX0 28 "SplitBeliefs$Curve" "lowerWeight" "I", .fieldLink RX0 31 "SplitBeliefs$Curve" "upperWeight" "I"] ++ wsX00)
def wsX5_acts : List Cond := .code yX5_acts cX5_acts 3 (some .boolean) :: ([.fieldLink RX5 15 "SplitBeliefs$Receivers" "gains" "[I", .fieldLink RX5 11 "SplitBeliefs$Receivers" "losses" "[I"] ++ wsX50)
def wsX5_valueAt : List Cond := .code yX5_valueAt cX5_valueAt 6 (some .int) :: ([.fieldLink RX5 24 "SplitBeliefs$Receivers" "number" "I", .fieldLink RX5 21 "SplitBeliefs$Receivers" "bonuses" "[I", .fieldLink RX5 18 "SplitBeliefs$Receivers" "pays" "[I", .methodLink RX5 44 yX5_acts, .instanceMethod yX5_acts, .selects RX5 yX5_acts yX5_acts, .initialized RX5, .code yX5_acts cX5_acts 3 (some .boolean), .fieldLink RX5 15 "SplitBeliefs$Receivers" "gains" "[I", .fieldLink RX5 11 "SplitBeliefs$Receivers" "losses" "[I"] ++ wsX50)
def wsX0_heightOver : List Cond := .code yX0_heightOver cX0_heightOver 4 (some .int) :: ([.fieldLink RX0 9 "SplitBeliefs$Curve" "values" "[I"] ++ wsX00)
def wsX0_draw : List Cond := .code yX0_draw cX0_draw 3 none :: ([.fieldLink RX0 18 "SplitBeliefs$Curve" "cornerCount" "I", .fieldLink RX0 9 "SplitBeliefs$Curve" "values" "[I", .fieldLink RX0 15 "SplitBeliefs$Curve" "corners" "[I", .methodLink RX0 34 yX5_valueAt, .instanceMethod yX5_valueAt, .selects RX5 yX5_valueAt yX5_valueAt, .initialized RX5, .code yX5_valueAt cX5_valueAt 6 (some .int), .fieldLink RX5 24 "SplitBeliefs$Receivers" "number" "I", .fieldLink RX5 21 "SplitBeliefs$Receivers" "bonuses" "[I", .fieldLink RX5 18 "SplitBeliefs$Receivers" "pays" "[I", .methodLink RX5 44 yX5_acts, .instanceMethod yX5_acts, .selects RX5 yX5_acts yX5_acts, .code yX5_acts cX5_acts 3 (some .boolean), .fieldLink RX5 15 "SplitBeliefs$Receivers" "gains" "[I", .fieldLink RX5 11 "SplitBeliefs$Receivers" "losses" "[I", .methodLink RX0 40 yX0_heightOver, .instanceMethod yX0_heightOver, .selects RX0 yX0_heightOver yX0_heightOver, .initialized RX0, .code yX0_heightOver cX0_heightOver 4 (some .int)] ++ wsX00 ++ wsX50)
def wsX8_commonDivisor : List Cond := .code yX8_commonDivisor cX8_commonDivisor 6 (some .int) :: ([.methodLink RX8 288 Lib.Math.abs.name, .static Lib.Math.abs.name, .initialized "java/lang/Math", .code Lib.Math.abs.name Lib.Math.abs.code 1 (some .int)])
def wsX0_aim : List Cond := .code yX0_aim cX0_aim 5 none :: ([.fieldLink RX0 18 "SplitBeliefs$Curve" "cornerCount" "I", .fieldLink RX0 15 "SplitBeliefs$Curve" "corners" "[I", .fieldLink RX0 22 "SplitBeliefs$Curve" "lower" "I", .fieldLink RX0 25 "SplitBeliefs$Curve" "upper" "I", .fieldLink RX0 28 "SplitBeliefs$Curve" "lowerWeight" "I", .fieldLink RX0 31 "SplitBeliefs$Curve" "upperWeight" "I", .methodLink RX0 48 Lib.Math.max.name, .static Lib.Math.max.name, .initialized "java/lang/Math", .code Lib.Math.max.name Lib.Math.max.code 2 (some .int), .methodLink RX0 40 yX0_heightOver, .instanceMethod yX0_heightOver, .selects RX0 yX0_heightOver yX0_heightOver, .initialized RX0, .code yX0_heightOver cX0_heightOver 4 (some .int), .fieldLink RX0 9 "SplitBeliefs$Curve" "values" "[I", .static yX8_commonDivisor, .initialized RX8, .code yX8_commonDivisor cX8_commonDivisor 6 (some .int), .methodLink RX8 288 Lib.Math.abs.name, .static Lib.Math.abs.name, .code Lib.Math.abs.name Lib.Math.abs.code 1 (some .int)] ++ wsX00)
def wsX0_valueSum : List Cond := .code yX0_valueSum cX0_valueSum 1 (some .int) :: ([.fieldLink RX0 28 "SplitBeliefs$Curve" "lowerWeight" "I", .fieldLink RX0 9 "SplitBeliefs$Curve" "values" "[I", .fieldLink RX0 22 "SplitBeliefs$Curve" "lower" "I", .fieldLink RX0 31 "SplitBeliefs$Curve" "upperWeight" "I", .fieldLink RX0 25 "SplitBeliefs$Curve" "upper" "I"] ++ wsX00)
def wsX1_become : List Cond := .code yX1_become cX1_become 4 none :: ([.fieldLink RX1 7 "SplitBeliefs$Fraction" "above" "I", .fieldLink RX1 13 "SplitBeliefs$Fraction" "below" "I", .static yX8_commonDivisor, .initialized RX8, .code yX8_commonDivisor cX8_commonDivisor 6 (some .int), .methodLink RX8 288 Lib.Math.abs.name, .static Lib.Math.abs.name, .initialized "java/lang/Math", .code Lib.Math.abs.name Lib.Math.abs.code 1 (some .int)] ++ wsX10)
def wsX0_tellEnvelope : List Cond := .code yX0_tellEnvelope cX0_tellEnvelope 2 none :: ([.fieldLink RX0 28 "SplitBeliefs$Curve" "lowerWeight" "I", .fieldLink RX0 31 "SplitBeliefs$Curve" "upperWeight" "I", .methodLink RX0 53 yX0_valueSum, .instanceMethod yX0_valueSum, .selects RX0 yX0_valueSum yX0_valueSum, .initialized RX0, .code yX0_valueSum cX0_valueSum 1 (some .int), .fieldLink RX0 9 "SplitBeliefs$Curve" "values" "[I", .fieldLink RX0 22 "SplitBeliefs$Curve" "lower" "I", .fieldLink RX0 25 "SplitBeliefs$Curve" "upper" "I", .methodLink RX0 57 yX1_become, .instanceMethod yX1_become, .selects RX1 yX1_become yX1_become, .initialized RX1, .code yX1_become cX1_become 4 none, .fieldLink RX1 7 "SplitBeliefs$Fraction" "above" "I", .fieldLink RX1 13 "SplitBeliefs$Fraction" "below" "I", .static yX8_commonDivisor, .initialized RX8, .code yX8_commonDivisor cX8_commonDivisor 6 (some .int), .methodLink RX8 288 Lib.Math.abs.name, .static Lib.Math.abs.name, .initialized "java/lang/Math", .code Lib.Math.abs.name Lib.Math.abs.code 1 (some .int)] ++ wsX00 ++ wsX10)
def wsX0_tellGain : List Cond := .code yX0_tellGain cX0_tellGain 4 none :: ([.fieldLink RX0 28 "SplitBeliefs$Curve" "lowerWeight" "I", .fieldLink RX0 31 "SplitBeliefs$Curve" "upperWeight" "I", .fieldLink RX0 9 "SplitBeliefs$Curve" "values" "[I", .methodLink RX0 53 yX0_valueSum, .instanceMethod yX0_valueSum, .selects RX0 yX0_valueSum yX0_valueSum, .initialized RX0, .code yX0_valueSum cX0_valueSum 1 (some .int), .fieldLink RX0 22 "SplitBeliefs$Curve" "lower" "I", .fieldLink RX0 25 "SplitBeliefs$Curve" "upper" "I", .methodLink RX0 57 yX1_become, .instanceMethod yX1_become, .selects RX1 yX1_become yX1_become, .initialized RX1, .code yX1_become cX1_become 4 none, .fieldLink RX1 7 "SplitBeliefs$Fraction" "above" "I", .fieldLink RX1 13 "SplitBeliefs$Fraction" "below" "I", .static yX8_commonDivisor, .initialized RX8, .code yX8_commonDivisor cX8_commonDivisor 6 (some .int), .methodLink RX8 288 Lib.Math.abs.name, .static Lib.Math.abs.name, .initialized "java/lang/Math", .code Lib.Math.abs.name Lib.Math.abs.code 1 (some .int)] ++ wsX00 ++ wsX10)
def wsX1_init : List Cond := .code yX1_init cX1_init 1 none :: ([.methodLink RX1 1 objectInit, .instanceMethod objectInit, .code objectInit ⟨#[0xb1]⟩ 1 none, .fieldLink RX1 7 "SplitBeliefs$Fraction" "above" "I", .fieldLink RX1 13 "SplitBeliefs$Fraction" "below" "I"] ++ wsX10)
def wsX1_isAbove : List Cond := .code yX1_isAbove cX1_isAbove 2 (some .boolean) :: ([.fieldLink RX1 7 "SplitBeliefs$Fraction" "above" "I", .fieldLink RX1 13 "SplitBeliefs$Fraction" "below" "I"] ++ wsX10)
def wsX5_init : List Cond := .code yX5_init cX5_init 1 none :: ([.methodLink RX5 3 objectInit, .instanceMethod objectInit, .code objectInit ⟨#[0xb1]⟩ 1 none, .arrayClass .int, .fieldLink RX5 11 "SplitBeliefs$Receivers" "losses" "[I", .fieldLink RX5 15 "SplitBeliefs$Receivers" "gains" "[I", .fieldLink RX5 18 "SplitBeliefs$Receivers" "pays" "[I", .fieldLink RX5 21 "SplitBeliefs$Receivers" "bonuses" "[I", .fieldLink RX5 24 "SplitBeliefs$Receivers" "number" "I"] ++ wsX50)
def wsX6_init : List Cond := .code yX6_init cX6_init 1 none :: ([.methodLink RX6 1 objectInit, .instanceMethod objectInit, .code objectInit ⟨#[0xb1]⟩ 1 none, .arrayClass .int, .fieldLink RX6 9 "SplitBeliefs$Split" "weights" "[I", .fieldLink RX6 13 "SplitBeliefs$Split" "posteriors" "[I", .fieldLink RX6 16 "SplitBeliefs$Split" "parts" "I"] ++ wsX60)
def wsX6_append : List Cond := .code yX6_append cX6_append 3 none :: ([.fieldLink RX6 16 "SplitBeliefs$Split" "parts" "I", .fieldLink RX6 9 "SplitBeliefs$Split" "weights" "[I", .fieldLink RX6 13 "SplitBeliefs$Split" "posteriors" "[I"] ++ wsX60)
def wsX6_becomeOne : List Cond := .code yX6_becomeOne cX6_becomeOne 2 none :: ([.fieldLink RX6 16 "SplitBeliefs$Split" "parts" "I", .methodLink RX6 26 yX6_append, .instanceMethod yX6_append, .selects RX6 yX6_append yX6_append, .initialized RX6, .code yX6_append cX6_append 3 none, .fieldLink RX6 9 "SplitBeliefs$Split" "weights" "[I", .fieldLink RX6 13 "SplitBeliefs$Split" "posteriors" "[I"] ++ wsX60)
def wsX7_init_r1 : List Cond := [Cond.methodLink RX7 3 objectInit, Cond.instanceMethod objectInit, Cond.code objectInit ⟨#[0xb1]⟩ 1 none, Cond.classLink RX7 9 RX5, Cond.instantiable RX5 5, Cond.initialized RX5, Cond.fieldLink RX7 12 "SplitBeliefs$State" "receivers" "LSplitBeliefs$Receivers;", Cond.classLink RX7 18 RX6, Cond.instantiable RX6 3, Cond.initialized RX6, Cond.fieldLink RX7 21 "SplitBeliefs$State" "split" "LSplitBeliefs$Split;", Cond.fieldLink RX7 25 "SplitBeliefs$State" "prior" "I", Cond.instanceMethod yX5_init, Cond.code yX5_init cX5_init 1 none, Cond.methodLink RX5 3 objectInit, Cond.arrayClass .int, Cond.fieldLink RX5 11 "SplitBeliefs$Receivers" "losses" "[I", Cond.fieldLink RX5 15 "SplitBeliefs$Receivers" "gains" "[I", Cond.fieldLink RX5 18 "SplitBeliefs$Receivers" "pays" "[I", Cond.fieldLink RX5 21 "SplitBeliefs$Receivers" "bonuses" "[I", Cond.fieldLink RX5 24 "SplitBeliefs$Receivers" "number" "I", Cond.instanceMethod yX6_init, Cond.code yX6_init cX6_init 1 none, Cond.methodLink RX6 1 objectInit]
def wsX7_init_r2 : List Cond := [Cond.fieldLink RX6 9 "SplitBeliefs$Split" "weights" "[I", Cond.fieldLink RX6 13 "SplitBeliefs$Split" "posteriors" "[I", Cond.fieldLink RX6 16 "SplitBeliefs$Split" "parts" "I", Cond.methodLink RX7 29 yX6_becomeOne, Cond.instanceMethod yX6_becomeOne, Cond.selects RX6 yX6_becomeOne yX6_becomeOne, Cond.code yX6_becomeOne cX6_becomeOne 2 none, Cond.methodLink RX6 26 yX6_append, Cond.instanceMethod yX6_append, Cond.selects RX6 yX6_append yX6_append, Cond.code yX6_append cX6_append 3 none]
def wsX7_init : List Cond := .code yX7_init cX7_init 1 none :: ((wsX7_init_r1 ++ wsX7_init_r2) ++ wsX50 ++ wsX70 ++ wsX60)
def wsX2_init_r1 : List Cond := [Cond.methodLink RX2 3 objectInit, Cond.instanceMethod objectInit, Cond.code objectInit ⟨#[0xb1]⟩ 1 none, Cond.classLink RX2 9 RX7, Cond.fieldLink RX2 11 "SplitBeliefs$History" "rows" "[LSplitBeliefs$State;", Cond.fieldLink RX2 15 "SplitBeliefs$History" "next" "I", Cond.fieldLink RX2 19 "SplitBeliefs$History" "kept" "I", Cond.instantiable RX7 3, Cond.initialized RX7, Cond.methodLink RX2 22 yX7_init, Cond.instanceMethod yX7_init, Cond.code yX7_init cX7_init 1 none, Cond.methodLink RX7 3 objectInit, Cond.classLink RX7 9 RX5, Cond.instantiable RX5 5, Cond.initialized RX5, Cond.fieldLink RX7 12 "SplitBeliefs$State" "receivers" "LSplitBeliefs$Receivers;", Cond.classLink RX7 18 RX6, Cond.instantiable RX6 3, Cond.initialized RX6, Cond.fieldLink RX7 21 "SplitBeliefs$State" "split" "LSplitBeliefs$Split;", Cond.fieldLink RX7 25 "SplitBeliefs$State" "prior" "I", Cond.instanceMethod yX5_init, Cond.code yX5_init cX5_init 1 none]
def wsX2_init_r2 : List Cond := [Cond.methodLink RX5 3 objectInit, Cond.arrayClass .int, Cond.fieldLink RX5 11 "SplitBeliefs$Receivers" "losses" "[I", Cond.fieldLink RX5 15 "SplitBeliefs$Receivers" "gains" "[I", Cond.fieldLink RX5 18 "SplitBeliefs$Receivers" "pays" "[I", Cond.fieldLink RX5 21 "SplitBeliefs$Receivers" "bonuses" "[I", Cond.fieldLink RX5 24 "SplitBeliefs$Receivers" "number" "I", Cond.instanceMethod yX6_init, Cond.code yX6_init cX6_init 1 none, Cond.methodLink RX6 1 objectInit, Cond.fieldLink RX6 9 "SplitBeliefs$Split" "weights" "[I", Cond.fieldLink RX6 13 "SplitBeliefs$Split" "posteriors" "[I", Cond.fieldLink RX6 16 "SplitBeliefs$Split" "parts" "I", Cond.methodLink RX7 29 yX6_becomeOne, Cond.instanceMethod yX6_becomeOne, Cond.selects RX6 yX6_becomeOne yX6_becomeOne, Cond.code yX6_becomeOne cX6_becomeOne 2 none, Cond.methodLink RX6 26 yX6_append, Cond.instanceMethod yX6_append, Cond.selects RX6 yX6_append yX6_append, Cond.code yX6_append cX6_append 3 none]
def wsX2_init : List Cond := .code yX2_init cX2_init 2 none :: ((wsX2_init_r1 ++ wsX2_init_r2) ++ wsX20 ++ wsX70 ++ wsX50 ++ wsX60)
def wsX5_copyFrom : List Cond := .code yX5_copyFrom cX5_copyFrom 2 none :: ([.fieldLink RX5 11 "SplitBeliefs$Receivers" "losses" "[I", .methodLink RX5 28 arraycopyName, .native arraycopyName, .static arraycopyName, .initialized "java/lang/System", .fieldLink RX5 15 "SplitBeliefs$Receivers" "gains" "[I", .fieldLink RX5 18 "SplitBeliefs$Receivers" "pays" "[I", .fieldLink RX5 21 "SplitBeliefs$Receivers" "bonuses" "[I", .fieldLink RX5 24 "SplitBeliefs$Receivers" "number" "I"] ++ wsX50)
def wsX6_copyFrom : List Cond := .code yX6_copyFrom cX6_copyFrom 2 none :: ([.fieldLink RX6 9 "SplitBeliefs$Split" "weights" "[I", .methodLink RX6 20 arraycopyName, .native arraycopyName, .static arraycopyName, .initialized "java/lang/System", .fieldLink RX6 13 "SplitBeliefs$Split" "posteriors" "[I", .fieldLink RX6 16 "SplitBeliefs$Split" "parts" "I"] ++ wsX60)
def wsX7_copyFrom_r1 : List Cond := [Cond.fieldLink RX7 12 "SplitBeliefs$State" "receivers" "LSplitBeliefs$Receivers;", Cond.fieldLink RX7 21 "SplitBeliefs$State" "split" "LSplitBeliefs$Split;", Cond.fieldLink RX7 25 "SplitBeliefs$State" "prior" "I", Cond.methodLink RX7 33 yX5_copyFrom, Cond.instanceMethod yX5_copyFrom, Cond.selects RX5 yX5_copyFrom yX5_copyFrom, Cond.initialized RX5, Cond.code yX5_copyFrom cX5_copyFrom 2 none, Cond.fieldLink RX5 11 "SplitBeliefs$Receivers" "losses" "[I", Cond.methodLink RX5 28 arraycopyName, Cond.native arraycopyName, Cond.static arraycopyName, Cond.initialized "java/lang/System", Cond.fieldLink RX5 15 "SplitBeliefs$Receivers" "gains" "[I", Cond.fieldLink RX5 18 "SplitBeliefs$Receivers" "pays" "[I", Cond.fieldLink RX5 21 "SplitBeliefs$Receivers" "bonuses" "[I", Cond.fieldLink RX5 24 "SplitBeliefs$Receivers" "number" "I", Cond.methodLink RX7 37 yX6_copyFrom, Cond.instanceMethod yX6_copyFrom, Cond.selects RX6 yX6_copyFrom yX6_copyFrom, Cond.initialized RX6, Cond.code yX6_copyFrom cX6_copyFrom 2 none, Cond.fieldLink RX6 9 "SplitBeliefs$Split" "weights" "[I", Cond.methodLink RX6 20 arraycopyName]
def wsX7_copyFrom_r2 : List Cond := [Cond.fieldLink RX6 13 "SplitBeliefs$Split" "posteriors" "[I", Cond.fieldLink RX6 16 "SplitBeliefs$Split" "parts" "I"]
def wsX7_copyFrom : List Cond := .code yX7_copyFrom cX7_copyFrom 2 none :: ((wsX7_copyFrom_r1 ++ wsX7_copyFrom_r2) ++ wsX70 ++ wsX50 ++ wsX60)
def wsX2_note_r1 : List Cond := [Cond.fieldLink RX2 11 "SplitBeliefs$History" "rows" "[LSplitBeliefs$State;", Cond.fieldLink RX2 15 "SplitBeliefs$History" "next" "I", Cond.methodLink RX2 23 yX7_copyFrom, Cond.instanceMethod yX7_copyFrom, Cond.selects RX7 yX7_copyFrom yX7_copyFrom, Cond.initialized RX7, Cond.code yX7_copyFrom cX7_copyFrom 2 none, Cond.fieldLink RX7 12 "SplitBeliefs$State" "receivers" "LSplitBeliefs$Receivers;", Cond.fieldLink RX7 21 "SplitBeliefs$State" "split" "LSplitBeliefs$Split;", Cond.fieldLink RX7 25 "SplitBeliefs$State" "prior" "I", Cond.methodLink RX7 33 yX5_copyFrom, Cond.instanceMethod yX5_copyFrom, Cond.selects RX5 yX5_copyFrom yX5_copyFrom, Cond.initialized RX5, Cond.code yX5_copyFrom cX5_copyFrom 2 none, Cond.fieldLink RX5 11 "SplitBeliefs$Receivers" "losses" "[I", Cond.methodLink RX5 28 arraycopyName, Cond.native arraycopyName, Cond.static arraycopyName, Cond.initialized "java/lang/System", Cond.fieldLink RX5 15 "SplitBeliefs$Receivers" "gains" "[I", Cond.fieldLink RX5 18 "SplitBeliefs$Receivers" "pays" "[I", Cond.fieldLink RX5 21 "SplitBeliefs$Receivers" "bonuses" "[I", Cond.fieldLink RX5 24 "SplitBeliefs$Receivers" "number" "I"]
def wsX2_note_r2 : List Cond := [Cond.methodLink RX7 37 yX6_copyFrom, Cond.instanceMethod yX6_copyFrom, Cond.selects RX6 yX6_copyFrom yX6_copyFrom, Cond.initialized RX6, Cond.code yX6_copyFrom cX6_copyFrom 2 none, Cond.fieldLink RX6 9 "SplitBeliefs$Split" "weights" "[I", Cond.methodLink RX6 20 arraycopyName, Cond.fieldLink RX6 13 "SplitBeliefs$Split" "posteriors" "[I", Cond.fieldLink RX6 16 "SplitBeliefs$Split" "parts" "I"]
def wsX2_note : List Cond := .code yX2_note cX2_note 2 none :: ((wsX2_note_r1 ++ wsX2_note_r2) ++ wsX20 ++ wsX70 ++ wsX50 ++ wsX60)
def wsX2_keep : List Cond := .code yX2_keep cX2_keep 1 none :: ([.fieldLink RX2 15 "SplitBeliefs$History" "next" "I", .fieldLink RX2 19 "SplitBeliefs$History" "kept" "I", .methodLink RX2 27 Lib.Math.min.name, .static Lib.Math.min.name, .initialized "java/lang/Math", .code Lib.Math.min.name Lib.Math.min.code 2 (some .int)] ++ wsX20)
def wsX2_takeBack_r1 : List Cond := [Cond.fieldLink RX2 19 "SplitBeliefs$History" "kept" "I", Cond.fieldLink RX2 15 "SplitBeliefs$History" "next" "I", Cond.fieldLink RX2 11 "SplitBeliefs$History" "rows" "[LSplitBeliefs$State;", Cond.methodLink RX2 23 yX7_copyFrom, Cond.instanceMethod yX7_copyFrom, Cond.selects RX7 yX7_copyFrom yX7_copyFrom, Cond.initialized RX7, Cond.code yX7_copyFrom cX7_copyFrom 2 none, Cond.fieldLink RX7 12 "SplitBeliefs$State" "receivers" "LSplitBeliefs$Receivers;", Cond.fieldLink RX7 21 "SplitBeliefs$State" "split" "LSplitBeliefs$Split;", Cond.fieldLink RX7 25 "SplitBeliefs$State" "prior" "I", Cond.methodLink RX7 33 yX5_copyFrom, Cond.instanceMethod yX5_copyFrom, Cond.selects RX5 yX5_copyFrom yX5_copyFrom, Cond.initialized RX5, Cond.code yX5_copyFrom cX5_copyFrom 2 none, Cond.fieldLink RX5 11 "SplitBeliefs$Receivers" "losses" "[I", Cond.methodLink RX5 28 arraycopyName, Cond.native arraycopyName, Cond.static arraycopyName, Cond.initialized "java/lang/System", Cond.fieldLink RX5 15 "SplitBeliefs$Receivers" "gains" "[I", Cond.fieldLink RX5 18 "SplitBeliefs$Receivers" "pays" "[I", Cond.fieldLink RX5 21 "SplitBeliefs$Receivers" "bonuses" "[I"]
def wsX2_takeBack_r2 : List Cond := [Cond.fieldLink RX5 24 "SplitBeliefs$Receivers" "number" "I", Cond.methodLink RX7 37 yX6_copyFrom, Cond.instanceMethod yX6_copyFrom, Cond.selects RX6 yX6_copyFrom yX6_copyFrom, Cond.initialized RX6, Cond.code yX6_copyFrom cX6_copyFrom 2 none, Cond.fieldLink RX6 9 "SplitBeliefs$Split" "weights" "[I", Cond.methodLink RX6 20 arraycopyName, Cond.fieldLink RX6 13 "SplitBeliefs$Split" "posteriors" "[I", Cond.fieldLink RX6 16 "SplitBeliefs$Split" "parts" "I"]
def wsX2_takeBack : List Cond := .code yX2_takeBack cX2_takeBack 2 none :: ((wsX2_takeBack_r1 ++ wsX2_takeBack_r2) ++ wsX20 ++ wsX70 ++ wsX50 ++ wsX60)
def wsX3_init : List Cond := .code yX3_init cX3_init 1 none :: ([.methodLink RX3 3 objectInit, .instanceMethod objectInit, .code objectInit ⟨#[0xb1]⟩ 1 none, .arrayClass .int, .fieldLink RX3 9 "SplitBeliefs$Mix" "weightAt" "[I"] ++ wsX30)
def wsX3_clear : List Cond := .code yX3_clear cX3_clear 2 none :: ([.fieldLink RX3 9 "SplitBeliefs$Mix" "weightAt" "[I"] ++ wsX30)
def wsX8_isPosterior : List Cond := .code yX8_isPosterior cX8_isPosterior 1 (some .boolean) :: ([])
def wsX3_add : List Cond := .code yX3_add cX3_add 3 none :: ([.fieldLink RX3 9 "SplitBeliefs$Mix" "weightAt" "[I", .static yX8_isPosterior, .initialized RX8, .code yX8_isPosterior cX8_isPosterior 1 (some .boolean)] ++ wsX30)
def wsX3_gather : List Cond := .code yX3_gather cX3_gather 4 none :: ([.fieldLink RX3 18 "SplitBeliefs$Split" "parts" "I", .fieldLink RX3 24 "SplitBeliefs$Split" "posteriors" "[I", .fieldLink RX3 27 "SplitBeliefs$Split" "weights" "[I", .methodLink RX3 15 yX3_clear, .instanceMethod yX3_clear, .selects RX3 yX3_clear yX3_clear, .initialized RX3, .code yX3_clear cX3_clear 2 none, .fieldLink RX3 9 "SplitBeliefs$Mix" "weightAt" "[I", .methodLink RX3 30 yX3_add, .instanceMethod yX3_add, .selects RX3 yX3_add yX3_add, .code yX3_add cX3_add 3 none, .static yX8_isPosterior, .initialized RX8, .code yX8_isPosterior cX8_isPosterior 1 (some .boolean)] ++ wsX60 ++ wsX30)
def wsX3_reduce : List Cond := .code yX3_reduce cX3_reduce 3 none :: ([.fieldLink RX3 9 "SplitBeliefs$Mix" "weightAt" "[I", .static yX8_commonDivisor, .initialized RX8, .code yX8_commonDivisor cX8_commonDivisor 6 (some .int), .methodLink RX8 288 Lib.Math.abs.name, .static Lib.Math.abs.name, .initialized "java/lang/Math", .code Lib.Math.abs.name Lib.Math.abs.code 1 (some .int)] ++ wsX30)
def wsX3_fits : List Cond := .code yX3_fits cX3_fits 3 (some .boolean) :: ([.fieldLink RX3 9 "SplitBeliefs$Mix" "weightAt" "[I"] ++ wsX30)
def wsX3_averagesTo : List Cond := .code yX3_averagesTo cX3_averagesTo 4 (some .boolean) :: ([.fieldLink RX3 9 "SplitBeliefs$Mix" "weightAt" "[I"] ++ wsX30)
def wsX3_pourInto : List Cond := .code yX3_pourInto cX3_pourInto 3 none :: ([.fieldLink RX3 18 "SplitBeliefs$Split" "parts" "I", .fieldLink RX3 9 "SplitBeliefs$Mix" "weightAt" "[I", .methodLink RX3 42 yX6_append, .instanceMethod yX6_append, .selects RX6 yX6_append yX6_append, .initialized RX6, .code yX6_append cX6_append 3 none, .fieldLink RX6 16 "SplitBeliefs$Split" "parts" "I", .fieldLink RX6 9 "SplitBeliefs$Split" "weights" "[I", .fieldLink RX6 13 "SplitBeliefs$Split" "posteriors" "[I"] ++ wsX60 ++ wsX30)
def wsX4_init : List Cond := .code yX4_init cX4_init 1 none :: ([.methodLink RX4 3 objectInit, .instanceMethod objectInit, .code objectInit ⟨#[0xb1]⟩ 1 none, .arrayClass .char, .fieldLink RX4 11 "SplitBeliefs$Pad" "signs" "[C", .arrayClass .int, .fieldLink RX4 17 "SplitBeliefs$Pad" "numbers" "[I", .fieldLink RX4 21 "SplitBeliefs$Pad" "length" "I", .fieldLink RX4 25 "SplitBeliefs$Pad" "at" "I", .fieldLink RX4 28 "SplitBeliefs$Pad" "order" "I", .fieldLink RX4 31 "SplitBeliefs$Pad" "told" "I"] ++ wsX40)
def wsX4_append : List Cond := .code yX4_append cX4_append 7 (some .int) :: ([.constantLong RX4 34 (255), .fieldLink RX4 21 "SplitBeliefs$Pad" "length" "I", .fieldLink RX4 11 "SplitBeliefs$Pad" "signs" "[C"] ++ wsX40)
def wsX4_sign : List Cond := .code yX4_sign cX4_sign 1 (some .int) :: ([.fieldLink RX4 25 "SplitBeliefs$Pad" "at" "I", .fieldLink RX4 21 "SplitBeliefs$Pad" "length" "I", .fieldLink RX4 11 "SplitBeliefs$Pad" "signs" "[C"] ++ wsX40)
def wsX4_skip : List Cond := .code yX4_skip cX4_skip 2 (some .boolean) :: ([.fieldLink RX4 25 "SplitBeliefs$Pad" "at" "I", .methodLink RX4 44 yX4_sign, .instanceMethod yX4_sign, .selects RX4 yX4_sign yX4_sign, .initialized RX4, .code yX4_sign cX4_sign 1 (some .int), .fieldLink RX4 21 "SplitBeliefs$Pad" "length" "I", .fieldLink RX4 11 "SplitBeliefs$Pad" "signs" "[C"] ++ wsX40)
def wsX4_isDigit : List Cond := .code yX4_isDigit cX4_isDigit 1 (some .boolean) :: ([])
def wsX4_tell : List Cond := .code yX4_tell cX4_tell 2 none :: ([.fieldLink RX4 31 "SplitBeliefs$Pad" "told" "I", .fieldLink RX4 17 "SplitBeliefs$Pad" "numbers" "[I"] ++ wsX40)
def wsX4_readNumber : List Cond := .code yX4_readNumber cX4_readNumber 2 (some .boolean) :: ([.fieldLink RX4 25 "SplitBeliefs$Pad" "at" "I", .fieldLink RX4 21 "SplitBeliefs$Pad" "length" "I", .methodLink RX4 44 yX4_sign, .instanceMethod yX4_sign, .selects RX4 yX4_sign yX4_sign, .initialized RX4, .code yX4_sign cX4_sign 1 (some .int), .fieldLink RX4 11 "SplitBeliefs$Pad" "signs" "[C", .methodLink RX4 64 yX4_isDigit, .static yX4_isDigit, .code yX4_isDigit cX4_isDigit 1 (some .boolean), .methodLink RX4 60 yX4_tell, .instanceMethod yX4_tell, .selects RX4 yX4_tell yX4_tell, .code yX4_tell cX4_tell 2 none, .fieldLink RX4 31 "SplitBeliefs$Pad" "told" "I", .fieldLink RX4 17 "SplitBeliefs$Pad" "numbers" "[I"] ++ wsX40)
def wsX4_readHire_r1 : List Cond := [Cond.fieldLink RX4 31 "SplitBeliefs$Pad" "told" "I", Cond.fieldLink RX4 17 "SplitBeliefs$Pad" "numbers" "[I", Cond.methodLink RX4 54 yX4_readNumber, Cond.instanceMethod yX4_readNumber, Cond.selects RX4 yX4_readNumber yX4_readNumber, Cond.initialized RX4, Cond.code yX4_readNumber cX4_readNumber 2 (some .boolean), Cond.fieldLink RX4 25 "SplitBeliefs$Pad" "at" "I", Cond.fieldLink RX4 21 "SplitBeliefs$Pad" "length" "I", Cond.methodLink RX4 44 yX4_sign, Cond.instanceMethod yX4_sign, Cond.selects RX4 yX4_sign yX4_sign, Cond.code yX4_sign cX4_sign 1 (some .int), Cond.fieldLink RX4 11 "SplitBeliefs$Pad" "signs" "[C", Cond.methodLink RX4 64 yX4_isDigit, Cond.static yX4_isDigit, Cond.code yX4_isDigit cX4_isDigit 1 (some .boolean), Cond.methodLink RX4 60 yX4_tell, Cond.instanceMethod yX4_tell, Cond.selects RX4 yX4_tell yX4_tell, Cond.code yX4_tell cX4_tell 2 none, Cond.methodLink RX4 40 yX4_skip, Cond.instanceMethod yX4_skip, Cond.selects RX4 yX4_skip yX4_skip]
def wsX4_readHire_r2 : List Cond := [Cond.code yX4_skip cX4_skip 2 (some .boolean)]
def wsX4_readHire : List Cond := .code yX4_readHire cX4_readHire 2 (some .boolean) :: ((wsX4_readHire_r1 ++ wsX4_readHire_r2) ++ wsX40)
def wsX4_readDigit : List Cond := .code yX4_readDigit cX4_readDigit 2 (some .boolean) :: ([.fieldLink RX4 25 "SplitBeliefs$Pad" "at" "I", .methodLink RX4 44 yX4_sign, .instanceMethod yX4_sign, .selects RX4 yX4_sign yX4_sign, .initialized RX4, .code yX4_sign cX4_sign 1 (some .int), .fieldLink RX4 21 "SplitBeliefs$Pad" "length" "I", .fieldLink RX4 11 "SplitBeliefs$Pad" "signs" "[C", .methodLink RX4 60 yX4_tell, .instanceMethod yX4_tell, .selects RX4 yX4_tell yX4_tell, .code yX4_tell cX4_tell 2 none, .fieldLink RX4 31 "SplitBeliefs$Pad" "told" "I", .fieldLink RX4 17 "SplitBeliefs$Pad" "numbers" "[I"] ++ wsX40)
def wsX4_readParts_r1 : List Cond := [Cond.methodLink RX4 54 yX4_readNumber, Cond.instanceMethod yX4_readNumber, Cond.selects RX4 yX4_readNumber yX4_readNumber, Cond.initialized RX4, Cond.code yX4_readNumber cX4_readNumber 2 (some .boolean), Cond.fieldLink RX4 25 "SplitBeliefs$Pad" "at" "I", Cond.fieldLink RX4 21 "SplitBeliefs$Pad" "length" "I", Cond.methodLink RX4 44 yX4_sign, Cond.instanceMethod yX4_sign, Cond.selects RX4 yX4_sign yX4_sign, Cond.code yX4_sign cX4_sign 1 (some .int), Cond.fieldLink RX4 11 "SplitBeliefs$Pad" "signs" "[C", Cond.methodLink RX4 64 yX4_isDigit, Cond.static yX4_isDigit, Cond.code yX4_isDigit cX4_isDigit 1 (some .boolean), Cond.methodLink RX4 60 yX4_tell, Cond.instanceMethod yX4_tell, Cond.selects RX4 yX4_tell yX4_tell, Cond.code yX4_tell cX4_tell 2 none, Cond.fieldLink RX4 31 "SplitBeliefs$Pad" "told" "I", Cond.fieldLink RX4 17 "SplitBeliefs$Pad" "numbers" "[I", Cond.methodLink RX4 40 yX4_skip, Cond.instanceMethod yX4_skip, Cond.selects RX4 yX4_skip yX4_skip]
def wsX4_readParts_r2 : List Cond := [Cond.code yX4_skip cX4_skip 2 (some .boolean)]
def wsX4_readParts : List Cond := .code yX4_readParts cX4_readParts 2 (some .boolean) :: ((wsX4_readParts_r1 ++ wsX4_readParts_r2) ++ wsX40)
def wsX4_readNext_r1 : List Cond := [Cond.fieldLink RX4 25 "SplitBeliefs$Pad" "at" "I", Cond.fieldLink RX4 31 "SplitBeliefs$Pad" "told" "I", Cond.fieldLink RX4 28 "SplitBeliefs$Pad" "order" "I", Cond.methodLink RX4 40 yX4_skip, Cond.instanceMethod yX4_skip, Cond.selects RX4 yX4_skip yX4_skip, Cond.initialized RX4, Cond.code yX4_skip cX4_skip 2 (some .boolean), Cond.methodLink RX4 44 yX4_sign, Cond.instanceMethod yX4_sign, Cond.selects RX4 yX4_sign yX4_sign, Cond.code yX4_sign cX4_sign 1 (some .int), Cond.fieldLink RX4 21 "SplitBeliefs$Pad" "length" "I", Cond.fieldLink RX4 11 "SplitBeliefs$Pad" "signs" "[C", Cond.methodLink RX4 48 yX4_readHire, Cond.instanceMethod yX4_readHire, Cond.selects RX4 yX4_readHire yX4_readHire, Cond.code yX4_readHire cX4_readHire 2 (some .boolean), Cond.fieldLink RX4 17 "SplitBeliefs$Pad" "numbers" "[I", Cond.methodLink RX4 54 yX4_readNumber, Cond.instanceMethod yX4_readNumber, Cond.selects RX4 yX4_readNumber yX4_readNumber, Cond.code yX4_readNumber cX4_readNumber 2 (some .boolean), Cond.methodLink RX4 64 yX4_isDigit]
def wsX4_readNext_r2 : List Cond := [Cond.static yX4_isDigit, Cond.code yX4_isDigit cX4_isDigit 1 (some .boolean), Cond.methodLink RX4 60 yX4_tell, Cond.instanceMethod yX4_tell, Cond.selects RX4 yX4_tell yX4_tell, Cond.code yX4_tell cX4_tell 2 none, Cond.methodLink RX4 51 yX4_readDigit, Cond.instanceMethod yX4_readDigit, Cond.selects RX4 yX4_readDigit yX4_readDigit, Cond.code yX4_readDigit cX4_readDigit 2 (some .boolean), Cond.methodLink RX4 57 yX4_readParts, Cond.instanceMethod yX4_readParts, Cond.selects RX4 yX4_readParts yX4_readParts, Cond.code yX4_readParts cX4_readParts 2 (some .boolean)]
def wsX4_readNext : List Cond := .code yX4_readNext cX4_readNext 1 (some .boolean) :: ((wsX4_readNext_r1 ++ wsX4_readNext_r2) ++ wsX40)
def wsX4_firstFault_r1 : List Cond := [Cond.fieldLink RX4 25 "SplitBeliefs$Pad" "at" "I", Cond.fieldLink RX4 21 "SplitBeliefs$Pad" "length" "I", Cond.methodLink RX4 36 yX4_readNext, Cond.instanceMethod yX4_readNext, Cond.selects RX4 yX4_readNext yX4_readNext, Cond.initialized RX4, Cond.code yX4_readNext cX4_readNext 1 (some .boolean), Cond.fieldLink RX4 31 "SplitBeliefs$Pad" "told" "I", Cond.fieldLink RX4 28 "SplitBeliefs$Pad" "order" "I", Cond.methodLink RX4 40 yX4_skip, Cond.instanceMethod yX4_skip, Cond.selects RX4 yX4_skip yX4_skip, Cond.code yX4_skip cX4_skip 2 (some .boolean), Cond.methodLink RX4 44 yX4_sign, Cond.instanceMethod yX4_sign, Cond.selects RX4 yX4_sign yX4_sign, Cond.code yX4_sign cX4_sign 1 (some .int), Cond.fieldLink RX4 11 "SplitBeliefs$Pad" "signs" "[C", Cond.methodLink RX4 48 yX4_readHire, Cond.instanceMethod yX4_readHire, Cond.selects RX4 yX4_readHire yX4_readHire, Cond.code yX4_readHire cX4_readHire 2 (some .boolean), Cond.fieldLink RX4 17 "SplitBeliefs$Pad" "numbers" "[I", Cond.methodLink RX4 54 yX4_readNumber]
def wsX4_firstFault_r2 : List Cond := [Cond.instanceMethod yX4_readNumber, Cond.selects RX4 yX4_readNumber yX4_readNumber, Cond.code yX4_readNumber cX4_readNumber 2 (some .boolean), Cond.methodLink RX4 64 yX4_isDigit, Cond.static yX4_isDigit, Cond.code yX4_isDigit cX4_isDigit 1 (some .boolean), Cond.methodLink RX4 60 yX4_tell, Cond.instanceMethod yX4_tell, Cond.selects RX4 yX4_tell yX4_tell, Cond.code yX4_tell cX4_tell 2 none, Cond.methodLink RX4 51 yX4_readDigit, Cond.instanceMethod yX4_readDigit, Cond.selects RX4 yX4_readDigit yX4_readDigit, Cond.code yX4_readDigit cX4_readDigit 2 (some .boolean), Cond.methodLink RX4 57 yX4_readParts, Cond.instanceMethod yX4_readParts, Cond.selects RX4 yX4_readParts yX4_readParts, Cond.code yX4_readParts cX4_readParts 2 (some .boolean)]
def wsX4_firstFault : List Cond := .code yX4_firstFault cX4_firstFault 2 (some .int) :: ((wsX4_firstFault_r1 ++ wsX4_firstFault_r2) ++ wsX40)
def wsX4_number : List Cond := .code yX4_number cX4_number 2 (some .int) :: ([.fieldLink RX4 31 "SplitBeliefs$Pad" "told" "I", .fieldLink RX4 17 "SplitBeliefs$Pad" "numbers" "[I"] ++ wsX40)
def wsX5_has : List Cond := .code yX5_has cX5_has 2 (some .boolean) :: ([.fieldLink RX5 24 "SplitBeliefs$Receivers" "number" "I"] ++ wsX50)
def wsX5_admit : List Cond := .code yX5_admit cX5_admit 5 (some .int) :: ([.fieldLink RX5 24 "SplitBeliefs$Receivers" "number" "I", .fieldLink RX5 11 "SplitBeliefs$Receivers" "losses" "[I", .fieldLink RX5 15 "SplitBeliefs$Receivers" "gains" "[I", .fieldLink RX5 18 "SplitBeliefs$Receivers" "pays" "[I", .fieldLink RX5 21 "SplitBeliefs$Receivers" "bonuses" "[I"] ++ wsX50)
def wsX5_remove : List Cond := .code yX5_remove cX5_remove 3 (some .int) :: ([.fieldLink RX5 24 "SplitBeliefs$Receivers" "number" "I", .fieldLink RX5 11 "SplitBeliefs$Receivers" "losses" "[I", .fieldLink RX5 15 "SplitBeliefs$Receivers" "gains" "[I", .fieldLink RX5 18 "SplitBeliefs$Receivers" "pays" "[I", .fieldLink RX5 21 "SplitBeliefs$Receivers" "bonuses" "[I", .methodLink RX5 34 yX5_has, .instanceMethod yX5_has, .selects RX5 yX5_has yX5_has, .initialized RX5, .code yX5_has cX5_has 2 (some .boolean)] ++ wsX50)
def wsX5_worthAt : List Cond := .code yX5_worthAt cX5_worthAt 3 (some .int) :: ([.fieldLink RX5 15 "SplitBeliefs$Receivers" "gains" "[I", .fieldLink RX5 11 "SplitBeliefs$Receivers" "losses" "[I", .methodLink RX5 38 Lib.Math.max.name, .static Lib.Math.max.name, .initialized "java/lang/Math", .code Lib.Math.max.name Lib.Math.max.code 2 (some .int)] ++ wsX50)
def wsX5_leastActing : List Cond := .code yX5_leastActing cX5_leastActing 3 (some .int) :: ([.methodLink RX5 44 yX5_acts, .instanceMethod yX5_acts, .selects RX5 yX5_acts yX5_acts, .initialized RX5, .code yX5_acts cX5_acts 3 (some .boolean), .fieldLink RX5 15 "SplitBeliefs$Receivers" "gains" "[I", .fieldLink RX5 11 "SplitBeliefs$Receivers" "losses" "[I"] ++ wsX50)
def wsX5_actingAt : List Cond := .code yX5_actingAt cX5_actingAt 4 (some .int) :: ([.fieldLink RX5 24 "SplitBeliefs$Receivers" "number" "I", .methodLink RX5 44 yX5_acts, .instanceMethod yX5_acts, .selects RX5 yX5_acts yX5_acts, .initialized RX5, .code yX5_acts cX5_acts 3 (some .boolean), .fieldLink RX5 15 "SplitBeliefs$Receivers" "gains" "[I", .fieldLink RX5 11 "SplitBeliefs$Receivers" "losses" "[I"] ++ wsX50)
def wsX6_has : List Cond := .code yX6_has cX6_has 2 (some .boolean) :: ([.fieldLink RX6 16 "SplitBeliefs$Split" "parts" "I"] ++ wsX60)
def wsX6_weightSum : List Cond := .code yX6_weightSum cX6_weightSum 3 (some .int) :: ([.fieldLink RX6 16 "SplitBeliefs$Split" "parts" "I", .fieldLink RX6 9 "SplitBeliefs$Split" "weights" "[I"] ++ wsX60)
def wsX7_movePrior : List Cond := .code yX7_movePrior cX7_movePrior 3 (some .int) :: ([.fieldLink RX7 25 "SplitBeliefs$State" "prior" "I", .fieldLink RX7 21 "SplitBeliefs$State" "split" "LSplitBeliefs$Split;", .methodLink RX7 29 yX6_becomeOne, .instanceMethod yX6_becomeOne, .selects RX6 yX6_becomeOne yX6_becomeOne, .initialized RX6, .code yX6_becomeOne cX6_becomeOne 2 none, .fieldLink RX6 16 "SplitBeliefs$Split" "parts" "I", .methodLink RX6 26 yX6_append, .instanceMethod yX6_append, .selects RX6 yX6_append yX6_append, .code yX6_append cX6_append 3 none, .fieldLink RX6 9 "SplitBeliefs$Split" "weights" "[I", .fieldLink RX6 13 "SplitBeliefs$Split" "posteriors" "[I"] ++ wsX70 ++ wsX60)
def wsX7_tellMeanValue_r1 : List Cond := [Cond.fieldLink RX7 21 "SplitBeliefs$State" "split" "LSplitBeliefs$Split;", Cond.fieldLink RX7 40 "SplitBeliefs$Split" "parts" "I", Cond.fieldLink RX7 43 "SplitBeliefs$Split" "weights" "[I", Cond.fieldLink RX7 12 "SplitBeliefs$State" "receivers" "LSplitBeliefs$Receivers;", Cond.fieldLink RX7 47 "SplitBeliefs$Split" "posteriors" "[I", Cond.methodLink RX7 50 yX5_valueAt, Cond.instanceMethod yX5_valueAt, Cond.selects RX5 yX5_valueAt yX5_valueAt, Cond.initialized RX5, Cond.code yX5_valueAt cX5_valueAt 6 (some .int), Cond.fieldLink RX5 24 "SplitBeliefs$Receivers" "number" "I", Cond.fieldLink RX5 21 "SplitBeliefs$Receivers" "bonuses" "[I", Cond.fieldLink RX5 18 "SplitBeliefs$Receivers" "pays" "[I", Cond.methodLink RX5 44 yX5_acts, Cond.instanceMethod yX5_acts, Cond.selects RX5 yX5_acts yX5_acts, Cond.code yX5_acts cX5_acts 3 (some .boolean), Cond.fieldLink RX5 15 "SplitBeliefs$Receivers" "gains" "[I", Cond.fieldLink RX5 11 "SplitBeliefs$Receivers" "losses" "[I", Cond.methodLink RX7 54 yX6_weightSum, Cond.instanceMethod yX6_weightSum, Cond.selects RX6 yX6_weightSum yX6_weightSum, Cond.initialized RX6, Cond.code yX6_weightSum cX6_weightSum 3 (some .int)]
def wsX7_tellMeanValue_r2 : List Cond := [Cond.fieldLink RX6 16 "SplitBeliefs$Split" "parts" "I", Cond.fieldLink RX6 9 "SplitBeliefs$Split" "weights" "[I", Cond.methodLink RX7 58 yX1_become, Cond.instanceMethod yX1_become, Cond.selects RX1 yX1_become yX1_become, Cond.initialized RX1, Cond.code yX1_become cX1_become 4 none, Cond.fieldLink RX1 7 "SplitBeliefs$Fraction" "above" "I", Cond.fieldLink RX1 13 "SplitBeliefs$Fraction" "below" "I", Cond.static yX8_commonDivisor, Cond.initialized RX8, Cond.code yX8_commonDivisor cX8_commonDivisor 6 (some .int), Cond.methodLink RX8 288 Lib.Math.abs.name, Cond.static Lib.Math.abs.name, Cond.initialized "java/lang/Math", Cond.code Lib.Math.abs.name Lib.Math.abs.code 1 (some .int)]
def wsX7_tellMeanValue : List Cond := .code yX7_tellMeanValue cX7_tellMeanValue 4 none :: ((wsX7_tellMeanValue_r1 ++ wsX7_tellMeanValue_r2) ++ wsX70 ++ wsX60 ++ wsX50 ++ wsX10)
def wsX7_tellMeanWorth_r1 : List Cond := [Cond.fieldLink RX7 21 "SplitBeliefs$State" "split" "LSplitBeliefs$Split;", Cond.fieldLink RX7 40 "SplitBeliefs$Split" "parts" "I", Cond.fieldLink RX7 43 "SplitBeliefs$Split" "weights" "[I", Cond.fieldLink RX7 12 "SplitBeliefs$State" "receivers" "LSplitBeliefs$Receivers;", Cond.fieldLink RX7 47 "SplitBeliefs$Split" "posteriors" "[I", Cond.methodLink RX7 64 yX5_worthAt, Cond.instanceMethod yX5_worthAt, Cond.selects RX5 yX5_worthAt yX5_worthAt, Cond.initialized RX5, Cond.code yX5_worthAt cX5_worthAt 3 (some .int), Cond.fieldLink RX5 15 "SplitBeliefs$Receivers" "gains" "[I", Cond.fieldLink RX5 11 "SplitBeliefs$Receivers" "losses" "[I", Cond.methodLink RX5 38 Lib.Math.max.name, Cond.static Lib.Math.max.name, Cond.initialized "java/lang/Math", Cond.code Lib.Math.max.name Lib.Math.max.code 2 (some .int), Cond.methodLink RX7 54 yX6_weightSum, Cond.instanceMethod yX6_weightSum, Cond.selects RX6 yX6_weightSum yX6_weightSum, Cond.initialized RX6, Cond.code yX6_weightSum cX6_weightSum 3 (some .int), Cond.fieldLink RX6 16 "SplitBeliefs$Split" "parts" "I", Cond.fieldLink RX6 9 "SplitBeliefs$Split" "weights" "[I", Cond.methodLink RX7 58 yX1_become]
def wsX7_tellMeanWorth_r2 : List Cond := [Cond.instanceMethod yX1_become, Cond.selects RX1 yX1_become yX1_become, Cond.initialized RX1, Cond.code yX1_become cX1_become 4 none, Cond.fieldLink RX1 7 "SplitBeliefs$Fraction" "above" "I", Cond.fieldLink RX1 13 "SplitBeliefs$Fraction" "below" "I", Cond.static yX8_commonDivisor, Cond.initialized RX8, Cond.code yX8_commonDivisor cX8_commonDivisor 6 (some .int), Cond.methodLink RX8 288 Lib.Math.abs.name, Cond.static Lib.Math.abs.name, Cond.code Lib.Math.abs.name Lib.Math.abs.code 1 (some .int)]
def wsX7_tellMeanWorth : List Cond := .code yX7_tellMeanWorth cX7_tellMeanWorth 5 none :: ((wsX7_tellMeanWorth_r1 ++ wsX7_tellMeanWorth_r2) ++ wsX70 ++ wsX60 ++ wsX50 ++ wsX10)
def wsX8_init_r1 : List Cond := [Cond.methodLink RX8 1 objectInit, Cond.instanceMethod objectInit, Cond.code objectInit ⟨#[0xb1]⟩ 1 none, Cond.classLink RX8 7 RX7, Cond.instantiable RX7 3, Cond.initialized RX7, Cond.fieldLink RX8 10 "SplitBeliefs" "now" "LSplitBeliefs$State;", Cond.classLink RX8 16 RX2, Cond.instantiable RX2 3, Cond.initialized RX2, Cond.fieldLink RX8 19 "SplitBeliefs" "history" "LSplitBeliefs$History;", Cond.fieldLink RX8 23 "SplitBeliefs" "slots" "[LSplitBeliefs$State;", Cond.arrayClass .boolean, Cond.fieldLink RX8 27 "SplitBeliefs" "saved" "[Z", Cond.classLink RX8 31 RX4, Cond.instantiable RX4 6, Cond.initialized RX4, Cond.fieldLink RX8 34 "SplitBeliefs" "pad" "LSplitBeliefs$Pad;", Cond.classLink RX8 38 RX3, Cond.instantiable RX3 1, Cond.initialized RX3, Cond.fieldLink RX8 41 "SplitBeliefs" "mix" "LSplitBeliefs$Mix;", Cond.classLink RX8 45 RX0, Cond.instantiable RX0 7]
def wsX8_init_r2 : List Cond := [Cond.initialized RX0, Cond.fieldLink RX8 48 "SplitBeliefs" "curve" "LSplitBeliefs$Curve;", Cond.classLink RX8 52 RX1, Cond.instantiable RX1 2, Cond.initialized RX1, Cond.fieldLink RX8 55 "SplitBeliefs" "fraction" "LSplitBeliefs$Fraction;", Cond.fieldLink RX8 59 "SplitBeliefs" "other" "LSplitBeliefs$Fraction;", Cond.methodLink RX8 9 yX7_init, Cond.instanceMethod yX7_init, Cond.code yX7_init cX7_init 1 none, Cond.methodLink RX7 3 objectInit, Cond.classLink RX7 9 RX5, Cond.instantiable RX5 5, Cond.initialized RX5, Cond.fieldLink RX7 12 "SplitBeliefs$State" "receivers" "LSplitBeliefs$Receivers;", Cond.classLink RX7 18 RX6, Cond.instantiable RX6 3, Cond.initialized RX6, Cond.fieldLink RX7 21 "SplitBeliefs$State" "split" "LSplitBeliefs$Split;", Cond.fieldLink RX7 25 "SplitBeliefs$State" "prior" "I", Cond.instanceMethod yX5_init, Cond.code yX5_init cX5_init 1 none, Cond.methodLink RX5 3 objectInit, Cond.arrayClass .int]
def wsX8_init_r3 : List Cond := [Cond.fieldLink RX5 11 "SplitBeliefs$Receivers" "losses" "[I", Cond.fieldLink RX5 15 "SplitBeliefs$Receivers" "gains" "[I", Cond.fieldLink RX5 18 "SplitBeliefs$Receivers" "pays" "[I", Cond.fieldLink RX5 21 "SplitBeliefs$Receivers" "bonuses" "[I", Cond.fieldLink RX5 24 "SplitBeliefs$Receivers" "number" "I", Cond.instanceMethod yX6_init, Cond.code yX6_init cX6_init 1 none, Cond.methodLink RX6 1 objectInit, Cond.fieldLink RX6 9 "SplitBeliefs$Split" "weights" "[I", Cond.fieldLink RX6 13 "SplitBeliefs$Split" "posteriors" "[I", Cond.fieldLink RX6 16 "SplitBeliefs$Split" "parts" "I", Cond.methodLink RX7 29 yX6_becomeOne, Cond.instanceMethod yX6_becomeOne, Cond.selects RX6 yX6_becomeOne yX6_becomeOne, Cond.code yX6_becomeOne cX6_becomeOne 2 none, Cond.methodLink RX6 26 yX6_append, Cond.instanceMethod yX6_append, Cond.selects RX6 yX6_append yX6_append, Cond.code yX6_append cX6_append 3 none, Cond.methodLink RX8 18 yX2_init, Cond.instanceMethod yX2_init, Cond.code yX2_init cX2_init 2 none, Cond.methodLink RX2 3 objectInit, Cond.classLink RX2 9 RX7]
def wsX8_init_r4 : List Cond := [Cond.fieldLink RX2 11 "SplitBeliefs$History" "rows" "[LSplitBeliefs$State;", Cond.fieldLink RX2 15 "SplitBeliefs$History" "next" "I", Cond.fieldLink RX2 19 "SplitBeliefs$History" "kept" "I", Cond.methodLink RX2 22 yX7_init, Cond.instanceMethod yX4_init, Cond.code yX4_init cX4_init 1 none, Cond.methodLink RX4 3 objectInit, Cond.arrayClass .char, Cond.fieldLink RX4 11 "SplitBeliefs$Pad" "signs" "[C", Cond.fieldLink RX4 17 "SplitBeliefs$Pad" "numbers" "[I", Cond.fieldLink RX4 21 "SplitBeliefs$Pad" "length" "I", Cond.fieldLink RX4 25 "SplitBeliefs$Pad" "at" "I", Cond.fieldLink RX4 28 "SplitBeliefs$Pad" "order" "I", Cond.fieldLink RX4 31 "SplitBeliefs$Pad" "told" "I", Cond.instanceMethod yX3_init, Cond.code yX3_init cX3_init 1 none, Cond.methodLink RX3 3 objectInit, Cond.fieldLink RX3 9 "SplitBeliefs$Mix" "weightAt" "[I", Cond.instanceMethod yX0_init, Cond.code yX0_init cX0_init 1 none, Cond.methodLink RX0 3 objectInit, Cond.fieldLink RX0 9 "SplitBeliefs$Curve" "values" "[I", Cond.fieldLink RX0 15 "SplitBeliefs$Curve" "corners" "[I", Cond.fieldLink RX0 18 "SplitBeliefs$Curve" "cornerCount" "I"]
def wsX8_init_r5 : List Cond := [Cond.fieldLink RX0 22 "SplitBeliefs$Curve" "lower" "I", Cond.fieldLink RX0 25 "SplitBeliefs$Curve" "upper" "I", Cond.fieldLink RX0 28 "SplitBeliefs$Curve" "lowerWeight" "I", Cond.fieldLink RX0 31 "SplitBeliefs$Curve" "upperWeight" "I", Cond.instanceMethod yX1_init, Cond.code yX1_init cX1_init 1 none, Cond.methodLink RX1 1 objectInit, Cond.fieldLink RX1 7 "SplitBeliefs$Fraction" "above" "I", Cond.fieldLink RX1 13 "SplitBeliefs$Fraction" "below" "I"]
def wsX8_init : List Cond := .code yX8_init cX8_init 2 none :: ((wsX8_init_r1 ++ (wsX8_init_r2 ++ (wsX8_init_r3 ++ (wsX8_init_r4 ++ wsX8_init_r5)))) ++ wsX70 ++ wsX80 ++ wsX20 ++ wsX40 ++ wsX30 ++ wsX00 ++ wsX10 ++ wsX50 ++ wsX60)
def wsX8_recorded : List Cond := .code yX8_recorded cX8_recorded 2 (some .int) :: ([.fieldLink RX8 19 "SplitBeliefs" "history" "LSplitBeliefs$History;", .methodLink RX8 221 yX2_keep, .instanceMethod yX2_keep, .selects RX2 yX2_keep yX2_keep, .initialized RX2, .code yX2_keep cX2_keep 1 none, .fieldLink RX2 15 "SplitBeliefs$History" "next" "I", .fieldLink RX2 19 "SplitBeliefs$History" "kept" "I", .methodLink RX2 27 Lib.Math.min.name, .static Lib.Math.min.name, .initialized "java/lang/Math", .code Lib.Math.min.name Lib.Math.min.code 2 (some .int)] ++ wsX80 ++ wsX20)
def wsX8_prior_r1 : List Cond := [Cond.fieldLink RX8 19 "SplitBeliefs" "history" "LSplitBeliefs$History;", Cond.fieldLink RX8 10 "SplitBeliefs" "now" "LSplitBeliefs$State;", Cond.methodLink RX8 62 yX2_note, Cond.instanceMethod yX2_note, Cond.selects RX2 yX2_note yX2_note, Cond.initialized RX2, Cond.code yX2_note cX2_note 2 none, Cond.fieldLink RX2 11 "SplitBeliefs$History" "rows" "[LSplitBeliefs$State;", Cond.fieldLink RX2 15 "SplitBeliefs$History" "next" "I", Cond.methodLink RX2 23 yX7_copyFrom, Cond.instanceMethod yX7_copyFrom, Cond.selects RX7 yX7_copyFrom yX7_copyFrom, Cond.initialized RX7, Cond.code yX7_copyFrom cX7_copyFrom 2 none, Cond.fieldLink RX7 12 "SplitBeliefs$State" "receivers" "LSplitBeliefs$Receivers;", Cond.fieldLink RX7 21 "SplitBeliefs$State" "split" "LSplitBeliefs$Split;", Cond.fieldLink RX7 25 "SplitBeliefs$State" "prior" "I", Cond.methodLink RX7 33 yX5_copyFrom, Cond.instanceMethod yX5_copyFrom, Cond.selects RX5 yX5_copyFrom yX5_copyFrom, Cond.initialized RX5, Cond.code yX5_copyFrom cX5_copyFrom 2 none, Cond.fieldLink RX5 11 "SplitBeliefs$Receivers" "losses" "[I", Cond.methodLink RX5 28 arraycopyName]
def wsX8_prior_r2 : List Cond := [Cond.native arraycopyName, Cond.static arraycopyName, Cond.initialized "java/lang/System", Cond.fieldLink RX5 15 "SplitBeliefs$Receivers" "gains" "[I", Cond.fieldLink RX5 18 "SplitBeliefs$Receivers" "pays" "[I", Cond.fieldLink RX5 21 "SplitBeliefs$Receivers" "bonuses" "[I", Cond.fieldLink RX5 24 "SplitBeliefs$Receivers" "number" "I", Cond.methodLink RX7 37 yX6_copyFrom, Cond.instanceMethod yX6_copyFrom, Cond.selects RX6 yX6_copyFrom yX6_copyFrom, Cond.initialized RX6, Cond.code yX6_copyFrom cX6_copyFrom 2 none, Cond.fieldLink RX6 9 "SplitBeliefs$Split" "weights" "[I", Cond.methodLink RX6 20 arraycopyName, Cond.fieldLink RX6 13 "SplitBeliefs$Split" "posteriors" "[I", Cond.fieldLink RX6 16 "SplitBeliefs$Split" "parts" "I", Cond.methodLink RX8 66 yX7_movePrior, Cond.instanceMethod yX7_movePrior, Cond.selects RX7 yX7_movePrior yX7_movePrior, Cond.code yX7_movePrior cX7_movePrior 3 (some .int), Cond.methodLink RX7 29 yX6_becomeOne, Cond.instanceMethod yX6_becomeOne, Cond.selects RX6 yX6_becomeOne yX6_becomeOne, Cond.code yX6_becomeOne cX6_becomeOne 2 none]
def wsX8_prior_r3 : List Cond := [Cond.methodLink RX6 26 yX6_append, Cond.instanceMethod yX6_append, Cond.selects RX6 yX6_append yX6_append, Cond.code yX6_append cX6_append 3 none, Cond.methodLink RX8 70 yX8_recorded, Cond.instanceMethod yX8_recorded, Cond.selects RX8 yX8_recorded yX8_recorded, Cond.initialized RX8, Cond.code yX8_recorded cX8_recorded 2 (some .int), Cond.methodLink RX8 221 yX2_keep, Cond.instanceMethod yX2_keep, Cond.selects RX2 yX2_keep yX2_keep, Cond.code yX2_keep cX2_keep 1 none, Cond.fieldLink RX2 19 "SplitBeliefs$History" "kept" "I", Cond.methodLink RX2 27 Lib.Math.min.name, Cond.static Lib.Math.min.name, Cond.initialized "java/lang/Math", Cond.code Lib.Math.min.name Lib.Math.min.code 2 (some .int)]
def wsX8_prior : List Cond := .code yX8_prior cX8_prior 2 (some .int) :: ((wsX8_prior_r1 ++ (wsX8_prior_r2 ++ wsX8_prior_r3)) ++ wsX80 ++ wsX20 ++ wsX70 ++ wsX50 ++ wsX60)
def wsX8_hire_r1 : List Cond := [Cond.fieldLink RX8 19 "SplitBeliefs" "history" "LSplitBeliefs$History;", Cond.fieldLink RX8 10 "SplitBeliefs" "now" "LSplitBeliefs$State;", Cond.fieldLink RX8 73 "SplitBeliefs$State" "receivers" "LSplitBeliefs$Receivers;", Cond.methodLink RX8 62 yX2_note, Cond.instanceMethod yX2_note, Cond.selects RX2 yX2_note yX2_note, Cond.initialized RX2, Cond.code yX2_note cX2_note 2 none, Cond.fieldLink RX2 11 "SplitBeliefs$History" "rows" "[LSplitBeliefs$State;", Cond.fieldLink RX2 15 "SplitBeliefs$History" "next" "I", Cond.methodLink RX2 23 yX7_copyFrom, Cond.instanceMethod yX7_copyFrom, Cond.selects RX7 yX7_copyFrom yX7_copyFrom, Cond.initialized RX7, Cond.code yX7_copyFrom cX7_copyFrom 2 none, Cond.fieldLink RX7 12 "SplitBeliefs$State" "receivers" "LSplitBeliefs$Receivers;", Cond.fieldLink RX7 21 "SplitBeliefs$State" "split" "LSplitBeliefs$Split;", Cond.fieldLink RX7 25 "SplitBeliefs$State" "prior" "I", Cond.methodLink RX7 33 yX5_copyFrom, Cond.instanceMethod yX5_copyFrom, Cond.selects RX5 yX5_copyFrom yX5_copyFrom, Cond.initialized RX5, Cond.code yX5_copyFrom cX5_copyFrom 2 none, Cond.fieldLink RX5 11 "SplitBeliefs$Receivers" "losses" "[I"]
def wsX8_hire_r2 : List Cond := [Cond.methodLink RX5 28 arraycopyName, Cond.native arraycopyName, Cond.static arraycopyName, Cond.initialized "java/lang/System", Cond.fieldLink RX5 15 "SplitBeliefs$Receivers" "gains" "[I", Cond.fieldLink RX5 18 "SplitBeliefs$Receivers" "pays" "[I", Cond.fieldLink RX5 21 "SplitBeliefs$Receivers" "bonuses" "[I", Cond.fieldLink RX5 24 "SplitBeliefs$Receivers" "number" "I", Cond.methodLink RX7 37 yX6_copyFrom, Cond.instanceMethod yX6_copyFrom, Cond.selects RX6 yX6_copyFrom yX6_copyFrom, Cond.initialized RX6, Cond.code yX6_copyFrom cX6_copyFrom 2 none, Cond.fieldLink RX6 9 "SplitBeliefs$Split" "weights" "[I", Cond.methodLink RX6 20 arraycopyName, Cond.fieldLink RX6 13 "SplitBeliefs$Split" "posteriors" "[I", Cond.fieldLink RX6 16 "SplitBeliefs$Split" "parts" "I", Cond.methodLink RX8 77 yX5_admit, Cond.instanceMethod yX5_admit, Cond.selects RX5 yX5_admit yX5_admit, Cond.code yX5_admit cX5_admit 5 (some .int), Cond.methodLink RX8 70 yX8_recorded, Cond.instanceMethod yX8_recorded, Cond.selects RX8 yX8_recorded yX8_recorded]
def wsX8_hire_r3 : List Cond := [Cond.initialized RX8, Cond.code yX8_recorded cX8_recorded 2 (some .int), Cond.methodLink RX8 221 yX2_keep, Cond.instanceMethod yX2_keep, Cond.selects RX2 yX2_keep yX2_keep, Cond.code yX2_keep cX2_keep 1 none, Cond.fieldLink RX2 19 "SplitBeliefs$History" "kept" "I", Cond.methodLink RX2 27 Lib.Math.min.name, Cond.static Lib.Math.min.name, Cond.initialized "java/lang/Math", Cond.code Lib.Math.min.name Lib.Math.min.code 2 (some .int)]
def wsX8_hire : List Cond := .code yX8_hire cX8_hire 5 (some .int) :: ((wsX8_hire_r1 ++ (wsX8_hire_r2 ++ wsX8_hire_r3)) ++ wsX80 ++ wsX70 ++ wsX20 ++ wsX50 ++ wsX60)
def wsX8_dismiss_r1 : List Cond := [Cond.fieldLink RX8 19 "SplitBeliefs" "history" "LSplitBeliefs$History;", Cond.fieldLink RX8 10 "SplitBeliefs" "now" "LSplitBeliefs$State;", Cond.fieldLink RX8 73 "SplitBeliefs$State" "receivers" "LSplitBeliefs$Receivers;", Cond.methodLink RX8 62 yX2_note, Cond.instanceMethod yX2_note, Cond.selects RX2 yX2_note yX2_note, Cond.initialized RX2, Cond.code yX2_note cX2_note 2 none, Cond.fieldLink RX2 11 "SplitBeliefs$History" "rows" "[LSplitBeliefs$State;", Cond.fieldLink RX2 15 "SplitBeliefs$History" "next" "I", Cond.methodLink RX2 23 yX7_copyFrom, Cond.instanceMethod yX7_copyFrom, Cond.selects RX7 yX7_copyFrom yX7_copyFrom, Cond.initialized RX7, Cond.code yX7_copyFrom cX7_copyFrom 2 none, Cond.fieldLink RX7 12 "SplitBeliefs$State" "receivers" "LSplitBeliefs$Receivers;", Cond.fieldLink RX7 21 "SplitBeliefs$State" "split" "LSplitBeliefs$Split;", Cond.fieldLink RX7 25 "SplitBeliefs$State" "prior" "I", Cond.methodLink RX7 33 yX5_copyFrom, Cond.instanceMethod yX5_copyFrom, Cond.selects RX5 yX5_copyFrom yX5_copyFrom, Cond.initialized RX5, Cond.code yX5_copyFrom cX5_copyFrom 2 none, Cond.fieldLink RX5 11 "SplitBeliefs$Receivers" "losses" "[I"]
def wsX8_dismiss_r2 : List Cond := [Cond.methodLink RX5 28 arraycopyName, Cond.native arraycopyName, Cond.static arraycopyName, Cond.initialized "java/lang/System", Cond.fieldLink RX5 15 "SplitBeliefs$Receivers" "gains" "[I", Cond.fieldLink RX5 18 "SplitBeliefs$Receivers" "pays" "[I", Cond.fieldLink RX5 21 "SplitBeliefs$Receivers" "bonuses" "[I", Cond.fieldLink RX5 24 "SplitBeliefs$Receivers" "number" "I", Cond.methodLink RX7 37 yX6_copyFrom, Cond.instanceMethod yX6_copyFrom, Cond.selects RX6 yX6_copyFrom yX6_copyFrom, Cond.initialized RX6, Cond.code yX6_copyFrom cX6_copyFrom 2 none, Cond.fieldLink RX6 9 "SplitBeliefs$Split" "weights" "[I", Cond.methodLink RX6 20 arraycopyName, Cond.fieldLink RX6 13 "SplitBeliefs$Split" "posteriors" "[I", Cond.fieldLink RX6 16 "SplitBeliefs$Split" "parts" "I", Cond.methodLink RX8 83 yX5_remove, Cond.instanceMethod yX5_remove, Cond.selects RX5 yX5_remove yX5_remove, Cond.code yX5_remove cX5_remove 3 (some .int), Cond.methodLink RX5 34 yX5_has, Cond.instanceMethod yX5_has, Cond.selects RX5 yX5_has yX5_has]
def wsX8_dismiss_r3 : List Cond := [Cond.code yX5_has cX5_has 2 (some .boolean), Cond.methodLink RX8 70 yX8_recorded, Cond.instanceMethod yX8_recorded, Cond.selects RX8 yX8_recorded yX8_recorded, Cond.initialized RX8, Cond.code yX8_recorded cX8_recorded 2 (some .int), Cond.methodLink RX8 221 yX2_keep, Cond.instanceMethod yX2_keep, Cond.selects RX2 yX2_keep yX2_keep, Cond.code yX2_keep cX2_keep 1 none, Cond.fieldLink RX2 19 "SplitBeliefs$History" "kept" "I", Cond.methodLink RX2 27 Lib.Math.min.name, Cond.static Lib.Math.min.name, Cond.initialized "java/lang/Math", Cond.code Lib.Math.min.name Lib.Math.min.code 2 (some .int)]
def wsX8_dismiss : List Cond := .code yX8_dismiss cX8_dismiss 2 (some .int) :: ((wsX8_dismiss_r1 ++ (wsX8_dismiss_r2 ++ wsX8_dismiss_r3)) ++ wsX80 ++ wsX70 ++ wsX20 ++ wsX50 ++ wsX60)
def wsX8_takeMix_r1 : List Cond := [Cond.fieldLink RX8 41 "SplitBeliefs" "mix" "LSplitBeliefs$Mix;", Cond.fieldLink RX8 10 "SplitBeliefs" "now" "LSplitBeliefs$State;", Cond.fieldLink RX8 117 "SplitBeliefs$State" "split" "LSplitBeliefs$Split;", Cond.fieldLink RX8 164 "SplitBeliefs$Split" "parts" "I", Cond.methodLink RX8 250 yX3_reduce, Cond.instanceMethod yX3_reduce, Cond.selects RX3 yX3_reduce yX3_reduce, Cond.initialized RX3, Cond.code yX3_reduce cX3_reduce 3 none, Cond.fieldLink RX3 9 "SplitBeliefs$Mix" "weightAt" "[I", Cond.static yX8_commonDivisor, Cond.initialized RX8, Cond.code yX8_commonDivisor cX8_commonDivisor 6 (some .int), Cond.methodLink RX8 288 Lib.Math.abs.name, Cond.static Lib.Math.abs.name, Cond.initialized "java/lang/Math", Cond.code Lib.Math.abs.name Lib.Math.abs.code 1 (some .int), Cond.methodLink RX8 253 yX3_fits, Cond.instanceMethod yX3_fits, Cond.selects RX3 yX3_fits yX3_fits, Cond.code yX3_fits cX3_fits 3 (some .boolean), Cond.methodLink RX8 259 yX3_pourInto, Cond.instanceMethod yX3_pourInto, Cond.selects RX3 yX3_pourInto yX3_pourInto]
def wsX8_takeMix_r2 : List Cond := [Cond.code yX3_pourInto cX3_pourInto 3 none, Cond.fieldLink RX3 18 "SplitBeliefs$Split" "parts" "I", Cond.methodLink RX3 42 yX6_append, Cond.instanceMethod yX6_append, Cond.selects RX6 yX6_append yX6_append, Cond.initialized RX6, Cond.code yX6_append cX6_append 3 none, Cond.fieldLink RX6 16 "SplitBeliefs$Split" "parts" "I", Cond.fieldLink RX6 9 "SplitBeliefs$Split" "weights" "[I", Cond.fieldLink RX6 13 "SplitBeliefs$Split" "posteriors" "[I"]
def wsX8_takeMix : List Cond := .code yX8_takeMix cX8_takeMix 1 (some .int) :: ((wsX8_takeMix_r1 ++ wsX8_takeMix_r2) ++ wsX80 ++ wsX70 ++ wsX60 ++ wsX30)
def wsX8_splitPart_r1 : List Cond := [Cond.fieldLink RX8 10 "SplitBeliefs" "now" "LSplitBeliefs$State;", Cond.fieldLink RX8 117 "SplitBeliefs$State" "split" "LSplitBeliefs$Split;", Cond.fieldLink RX8 127 "SplitBeliefs$Split" "posteriors" "[I", Cond.fieldLink RX8 164 "SplitBeliefs$Split" "parts" "I", Cond.fieldLink RX8 124 "SplitBeliefs$Split" "weights" "[I", Cond.fieldLink RX8 41 "SplitBeliefs" "mix" "LSplitBeliefs$Mix;", Cond.methodLink RX8 121 yX6_has, Cond.instanceMethod yX6_has, Cond.selects RX6 yX6_has yX6_has, Cond.initialized RX6, Cond.code yX6_has cX6_has 2 (some .boolean), Cond.fieldLink RX6 16 "SplitBeliefs$Split" "parts" "I", Cond.methodLink RX8 224 yX3_gather, Cond.instanceMethod yX3_gather, Cond.selects RX3 yX3_gather yX3_gather, Cond.initialized RX3, Cond.code yX3_gather cX3_gather 4 none, Cond.fieldLink RX3 18 "SplitBeliefs$Split" "parts" "I", Cond.fieldLink RX3 24 "SplitBeliefs$Split" "posteriors" "[I", Cond.fieldLink RX3 27 "SplitBeliefs$Split" "weights" "[I", Cond.methodLink RX3 15 yX3_clear, Cond.instanceMethod yX3_clear, Cond.selects RX3 yX3_clear yX3_clear, Cond.code yX3_clear cX3_clear 2 none]
def wsX8_splitPart_r2 : List Cond := [Cond.fieldLink RX3 9 "SplitBeliefs$Mix" "weightAt" "[I", Cond.methodLink RX3 30 yX3_add, Cond.instanceMethod yX3_add, Cond.selects RX3 yX3_add yX3_add, Cond.code yX3_add cX3_add 3 none, Cond.static yX8_isPosterior, Cond.initialized RX8, Cond.code yX8_isPosterior cX8_isPosterior 1 (some .boolean), Cond.methodLink RX8 228 yX3_add, Cond.methodLink RX8 232 yX8_takeMix, Cond.instanceMethod yX8_takeMix, Cond.selects RX8 yX8_takeMix yX8_takeMix, Cond.code yX8_takeMix cX8_takeMix 1 (some .int), Cond.methodLink RX8 250 yX3_reduce, Cond.instanceMethod yX3_reduce, Cond.selects RX3 yX3_reduce yX3_reduce, Cond.code yX3_reduce cX3_reduce 3 none, Cond.static yX8_commonDivisor, Cond.code yX8_commonDivisor cX8_commonDivisor 6 (some .int), Cond.methodLink RX8 288 Lib.Math.abs.name, Cond.static Lib.Math.abs.name, Cond.initialized "java/lang/Math", Cond.code Lib.Math.abs.name Lib.Math.abs.code 1 (some .int), Cond.methodLink RX8 253 yX3_fits]
def wsX8_splitPart_r3 : List Cond := [Cond.instanceMethod yX3_fits, Cond.selects RX3 yX3_fits yX3_fits, Cond.code yX3_fits cX3_fits 3 (some .boolean), Cond.methodLink RX8 259 yX3_pourInto, Cond.instanceMethod yX3_pourInto, Cond.selects RX3 yX3_pourInto yX3_pourInto, Cond.code yX3_pourInto cX3_pourInto 3 none, Cond.methodLink RX3 42 yX6_append, Cond.instanceMethod yX6_append, Cond.selects RX6 yX6_append yX6_append, Cond.code yX6_append cX6_append 3 none, Cond.fieldLink RX6 9 "SplitBeliefs$Split" "weights" "[I", Cond.fieldLink RX6 13 "SplitBeliefs$Split" "posteriors" "[I"]
def wsX8_splitPart : List Cond := .code yX8_splitPart cX8_splitPart 8 (some .int) :: ((wsX8_splitPart_r1 ++ (wsX8_splitPart_r2 ++ wsX8_splitPart_r3)) ++ wsX80 ++ wsX70 ++ wsX60 ++ wsX30)
def wsX8_refine_r1 : List Cond := [Cond.fieldLink RX8 19 "SplitBeliefs" "history" "LSplitBeliefs$History;", Cond.fieldLink RX8 10 "SplitBeliefs" "now" "LSplitBeliefs$State;", Cond.methodLink RX8 62 yX2_note, Cond.instanceMethod yX2_note, Cond.selects RX2 yX2_note yX2_note, Cond.initialized RX2, Cond.code yX2_note cX2_note 2 none, Cond.fieldLink RX2 11 "SplitBeliefs$History" "rows" "[LSplitBeliefs$State;", Cond.fieldLink RX2 15 "SplitBeliefs$History" "next" "I", Cond.methodLink RX2 23 yX7_copyFrom, Cond.instanceMethod yX7_copyFrom, Cond.selects RX7 yX7_copyFrom yX7_copyFrom, Cond.initialized RX7, Cond.code yX7_copyFrom cX7_copyFrom 2 none, Cond.fieldLink RX7 12 "SplitBeliefs$State" "receivers" "LSplitBeliefs$Receivers;", Cond.fieldLink RX7 21 "SplitBeliefs$State" "split" "LSplitBeliefs$Split;", Cond.fieldLink RX7 25 "SplitBeliefs$State" "prior" "I", Cond.methodLink RX7 33 yX5_copyFrom, Cond.instanceMethod yX5_copyFrom, Cond.selects RX5 yX5_copyFrom yX5_copyFrom, Cond.initialized RX5, Cond.code yX5_copyFrom cX5_copyFrom 2 none, Cond.fieldLink RX5 11 "SplitBeliefs$Receivers" "losses" "[I", Cond.methodLink RX5 28 arraycopyName]
def wsX8_refine_r2 : List Cond := [Cond.native arraycopyName, Cond.static arraycopyName, Cond.initialized "java/lang/System", Cond.fieldLink RX5 15 "SplitBeliefs$Receivers" "gains" "[I", Cond.fieldLink RX5 18 "SplitBeliefs$Receivers" "pays" "[I", Cond.fieldLink RX5 21 "SplitBeliefs$Receivers" "bonuses" "[I", Cond.fieldLink RX5 24 "SplitBeliefs$Receivers" "number" "I", Cond.methodLink RX7 37 yX6_copyFrom, Cond.instanceMethod yX6_copyFrom, Cond.selects RX6 yX6_copyFrom yX6_copyFrom, Cond.initialized RX6, Cond.code yX6_copyFrom cX6_copyFrom 2 none, Cond.fieldLink RX6 9 "SplitBeliefs$Split" "weights" "[I", Cond.methodLink RX6 20 arraycopyName, Cond.fieldLink RX6 13 "SplitBeliefs$Split" "posteriors" "[I", Cond.fieldLink RX6 16 "SplitBeliefs$Split" "parts" "I", Cond.methodLink RX8 86 yX8_splitPart, Cond.instanceMethod yX8_splitPart, Cond.selects RX8 yX8_splitPart yX8_splitPart, Cond.initialized RX8, Cond.code yX8_splitPart cX8_splitPart 8 (some .int), Cond.fieldLink RX8 117 "SplitBeliefs$State" "split" "LSplitBeliefs$Split;", Cond.fieldLink RX8 127 "SplitBeliefs$Split" "posteriors" "[I", Cond.fieldLink RX8 164 "SplitBeliefs$Split" "parts" "I"]
def wsX8_refine_r3 : List Cond := [Cond.fieldLink RX8 124 "SplitBeliefs$Split" "weights" "[I", Cond.fieldLink RX8 41 "SplitBeliefs" "mix" "LSplitBeliefs$Mix;", Cond.methodLink RX8 121 yX6_has, Cond.instanceMethod yX6_has, Cond.selects RX6 yX6_has yX6_has, Cond.code yX6_has cX6_has 2 (some .boolean), Cond.methodLink RX8 224 yX3_gather, Cond.instanceMethod yX3_gather, Cond.selects RX3 yX3_gather yX3_gather, Cond.initialized RX3, Cond.code yX3_gather cX3_gather 4 none, Cond.fieldLink RX3 18 "SplitBeliefs$Split" "parts" "I", Cond.fieldLink RX3 24 "SplitBeliefs$Split" "posteriors" "[I", Cond.fieldLink RX3 27 "SplitBeliefs$Split" "weights" "[I", Cond.methodLink RX3 15 yX3_clear, Cond.instanceMethod yX3_clear, Cond.selects RX3 yX3_clear yX3_clear, Cond.code yX3_clear cX3_clear 2 none, Cond.fieldLink RX3 9 "SplitBeliefs$Mix" "weightAt" "[I", Cond.methodLink RX3 30 yX3_add, Cond.instanceMethod yX3_add, Cond.selects RX3 yX3_add yX3_add, Cond.code yX3_add cX3_add 3 none, Cond.static yX8_isPosterior]
def wsX8_refine_r4 : List Cond := [Cond.code yX8_isPosterior cX8_isPosterior 1 (some .boolean), Cond.methodLink RX8 228 yX3_add, Cond.methodLink RX8 232 yX8_takeMix, Cond.instanceMethod yX8_takeMix, Cond.selects RX8 yX8_takeMix yX8_takeMix, Cond.code yX8_takeMix cX8_takeMix 1 (some .int), Cond.methodLink RX8 250 yX3_reduce, Cond.instanceMethod yX3_reduce, Cond.selects RX3 yX3_reduce yX3_reduce, Cond.code yX3_reduce cX3_reduce 3 none, Cond.static yX8_commonDivisor, Cond.code yX8_commonDivisor cX8_commonDivisor 6 (some .int), Cond.methodLink RX8 288 Lib.Math.abs.name, Cond.static Lib.Math.abs.name, Cond.initialized "java/lang/Math", Cond.code Lib.Math.abs.name Lib.Math.abs.code 1 (some .int), Cond.methodLink RX8 253 yX3_fits, Cond.instanceMethod yX3_fits, Cond.selects RX3 yX3_fits yX3_fits, Cond.code yX3_fits cX3_fits 3 (some .boolean), Cond.methodLink RX8 259 yX3_pourInto, Cond.instanceMethod yX3_pourInto, Cond.selects RX3 yX3_pourInto yX3_pourInto, Cond.code yX3_pourInto cX3_pourInto 3 none]
def wsX8_refine_r5 : List Cond := [Cond.methodLink RX3 42 yX6_append, Cond.instanceMethod yX6_append, Cond.selects RX6 yX6_append yX6_append, Cond.code yX6_append cX6_append 3 none, Cond.methodLink RX8 70 yX8_recorded, Cond.instanceMethod yX8_recorded, Cond.selects RX8 yX8_recorded yX8_recorded, Cond.code yX8_recorded cX8_recorded 2 (some .int), Cond.methodLink RX8 221 yX2_keep, Cond.instanceMethod yX2_keep, Cond.selects RX2 yX2_keep yX2_keep, Cond.code yX2_keep cX2_keep 1 none, Cond.fieldLink RX2 19 "SplitBeliefs$History" "kept" "I", Cond.methodLink RX2 27 Lib.Math.min.name, Cond.static Lib.Math.min.name, Cond.code Lib.Math.min.name Lib.Math.min.code 2 (some .int)]
def wsX8_refine : List Cond := .code yX8_refine cX8_refine 4 (some .int) :: ((wsX8_refine_r1 ++ (wsX8_refine_r2 ++ (wsX8_refine_r3 ++ (wsX8_refine_r4 ++ wsX8_refine_r5)))) ++ wsX80 ++ wsX20 ++ wsX70 ++ wsX50 ++ wsX60 ++ wsX30)
def wsX8_joinWithNext_r1 : List Cond := [Cond.fieldLink RX8 10 "SplitBeliefs" "now" "LSplitBeliefs$State;", Cond.fieldLink RX8 117 "SplitBeliefs$State" "split" "LSplitBeliefs$Split;", Cond.fieldLink RX8 124 "SplitBeliefs$Split" "weights" "[I", Cond.fieldLink RX8 127 "SplitBeliefs$Split" "posteriors" "[I", Cond.fieldLink RX8 41 "SplitBeliefs" "mix" "LSplitBeliefs$Mix;", Cond.methodLink RX8 121 yX6_has, Cond.instanceMethod yX6_has, Cond.selects RX6 yX6_has yX6_has, Cond.initialized RX6, Cond.code yX6_has cX6_has 2 (some .boolean), Cond.fieldLink RX6 16 "SplitBeliefs$Split" "parts" "I", Cond.methodLink RX8 224 yX3_gather, Cond.instanceMethod yX3_gather, Cond.selects RX3 yX3_gather yX3_gather, Cond.initialized RX3, Cond.code yX3_gather cX3_gather 4 none, Cond.fieldLink RX3 18 "SplitBeliefs$Split" "parts" "I", Cond.fieldLink RX3 24 "SplitBeliefs$Split" "posteriors" "[I", Cond.fieldLink RX3 27 "SplitBeliefs$Split" "weights" "[I", Cond.methodLink RX3 15 yX3_clear, Cond.instanceMethod yX3_clear, Cond.selects RX3 yX3_clear yX3_clear, Cond.code yX3_clear cX3_clear 2 none, Cond.fieldLink RX3 9 "SplitBeliefs$Mix" "weightAt" "[I"]
def wsX8_joinWithNext_r2 : List Cond := [Cond.methodLink RX3 30 yX3_add, Cond.instanceMethod yX3_add, Cond.selects RX3 yX3_add yX3_add, Cond.code yX3_add cX3_add 3 none, Cond.static yX8_isPosterior, Cond.initialized RX8, Cond.code yX8_isPosterior cX8_isPosterior 1 (some .boolean), Cond.methodLink RX8 228 yX3_add, Cond.methodLink RX8 232 yX8_takeMix, Cond.instanceMethod yX8_takeMix, Cond.selects RX8 yX8_takeMix yX8_takeMix, Cond.code yX8_takeMix cX8_takeMix 1 (some .int), Cond.fieldLink RX8 164 "SplitBeliefs$Split" "parts" "I", Cond.methodLink RX8 250 yX3_reduce, Cond.instanceMethod yX3_reduce, Cond.selects RX3 yX3_reduce yX3_reduce, Cond.code yX3_reduce cX3_reduce 3 none, Cond.static yX8_commonDivisor, Cond.code yX8_commonDivisor cX8_commonDivisor 6 (some .int), Cond.methodLink RX8 288 Lib.Math.abs.name, Cond.static Lib.Math.abs.name, Cond.initialized "java/lang/Math", Cond.code Lib.Math.abs.name Lib.Math.abs.code 1 (some .int), Cond.methodLink RX8 253 yX3_fits]
def wsX8_joinWithNext_r3 : List Cond := [Cond.instanceMethod yX3_fits, Cond.selects RX3 yX3_fits yX3_fits, Cond.code yX3_fits cX3_fits 3 (some .boolean), Cond.methodLink RX8 259 yX3_pourInto, Cond.instanceMethod yX3_pourInto, Cond.selects RX3 yX3_pourInto yX3_pourInto, Cond.code yX3_pourInto cX3_pourInto 3 none, Cond.methodLink RX3 42 yX6_append, Cond.instanceMethod yX6_append, Cond.selects RX6 yX6_append yX6_append, Cond.code yX6_append cX6_append 3 none, Cond.fieldLink RX6 9 "SplitBeliefs$Split" "weights" "[I", Cond.fieldLink RX6 13 "SplitBeliefs$Split" "posteriors" "[I"]
def wsX8_joinWithNext : List Cond := .code yX8_joinWithNext cX8_joinWithNext 9 (some .int) :: ((wsX8_joinWithNext_r1 ++ (wsX8_joinWithNext_r2 ++ wsX8_joinWithNext_r3)) ++ wsX80 ++ wsX70 ++ wsX60 ++ wsX30)
def wsX8_join_r1 : List Cond := [Cond.fieldLink RX8 19 "SplitBeliefs" "history" "LSplitBeliefs$History;", Cond.fieldLink RX8 10 "SplitBeliefs" "now" "LSplitBeliefs$State;", Cond.methodLink RX8 62 yX2_note, Cond.instanceMethod yX2_note, Cond.selects RX2 yX2_note yX2_note, Cond.initialized RX2, Cond.code yX2_note cX2_note 2 none, Cond.fieldLink RX2 11 "SplitBeliefs$History" "rows" "[LSplitBeliefs$State;", Cond.fieldLink RX2 15 "SplitBeliefs$History" "next" "I", Cond.methodLink RX2 23 yX7_copyFrom, Cond.instanceMethod yX7_copyFrom, Cond.selects RX7 yX7_copyFrom yX7_copyFrom, Cond.initialized RX7, Cond.code yX7_copyFrom cX7_copyFrom 2 none, Cond.fieldLink RX7 12 "SplitBeliefs$State" "receivers" "LSplitBeliefs$Receivers;", Cond.fieldLink RX7 21 "SplitBeliefs$State" "split" "LSplitBeliefs$Split;", Cond.fieldLink RX7 25 "SplitBeliefs$State" "prior" "I", Cond.methodLink RX7 33 yX5_copyFrom, Cond.instanceMethod yX5_copyFrom, Cond.selects RX5 yX5_copyFrom yX5_copyFrom, Cond.initialized RX5, Cond.code yX5_copyFrom cX5_copyFrom 2 none, Cond.fieldLink RX5 11 "SplitBeliefs$Receivers" "losses" "[I", Cond.methodLink RX5 28 arraycopyName]
def wsX8_join_r2 : List Cond := [Cond.native arraycopyName, Cond.static arraycopyName, Cond.initialized "java/lang/System", Cond.fieldLink RX5 15 "SplitBeliefs$Receivers" "gains" "[I", Cond.fieldLink RX5 18 "SplitBeliefs$Receivers" "pays" "[I", Cond.fieldLink RX5 21 "SplitBeliefs$Receivers" "bonuses" "[I", Cond.fieldLink RX5 24 "SplitBeliefs$Receivers" "number" "I", Cond.methodLink RX7 37 yX6_copyFrom, Cond.instanceMethod yX6_copyFrom, Cond.selects RX6 yX6_copyFrom yX6_copyFrom, Cond.initialized RX6, Cond.code yX6_copyFrom cX6_copyFrom 2 none, Cond.fieldLink RX6 9 "SplitBeliefs$Split" "weights" "[I", Cond.methodLink RX6 20 arraycopyName, Cond.fieldLink RX6 13 "SplitBeliefs$Split" "posteriors" "[I", Cond.fieldLink RX6 16 "SplitBeliefs$Split" "parts" "I", Cond.methodLink RX8 90 yX8_joinWithNext, Cond.instanceMethod yX8_joinWithNext, Cond.selects RX8 yX8_joinWithNext yX8_joinWithNext, Cond.initialized RX8, Cond.code yX8_joinWithNext cX8_joinWithNext 9 (some .int), Cond.fieldLink RX8 117 "SplitBeliefs$State" "split" "LSplitBeliefs$Split;", Cond.fieldLink RX8 124 "SplitBeliefs$Split" "weights" "[I", Cond.fieldLink RX8 127 "SplitBeliefs$Split" "posteriors" "[I"]
def wsX8_join_r3 : List Cond := [Cond.fieldLink RX8 41 "SplitBeliefs" "mix" "LSplitBeliefs$Mix;", Cond.methodLink RX8 121 yX6_has, Cond.instanceMethod yX6_has, Cond.selects RX6 yX6_has yX6_has, Cond.code yX6_has cX6_has 2 (some .boolean), Cond.methodLink RX8 224 yX3_gather, Cond.instanceMethod yX3_gather, Cond.selects RX3 yX3_gather yX3_gather, Cond.initialized RX3, Cond.code yX3_gather cX3_gather 4 none, Cond.fieldLink RX3 18 "SplitBeliefs$Split" "parts" "I", Cond.fieldLink RX3 24 "SplitBeliefs$Split" "posteriors" "[I", Cond.fieldLink RX3 27 "SplitBeliefs$Split" "weights" "[I", Cond.methodLink RX3 15 yX3_clear, Cond.instanceMethod yX3_clear, Cond.selects RX3 yX3_clear yX3_clear, Cond.code yX3_clear cX3_clear 2 none, Cond.fieldLink RX3 9 "SplitBeliefs$Mix" "weightAt" "[I", Cond.methodLink RX3 30 yX3_add, Cond.instanceMethod yX3_add, Cond.selects RX3 yX3_add yX3_add, Cond.code yX3_add cX3_add 3 none, Cond.static yX8_isPosterior, Cond.code yX8_isPosterior cX8_isPosterior 1 (some .boolean)]
def wsX8_join_r4 : List Cond := [Cond.methodLink RX8 228 yX3_add, Cond.methodLink RX8 232 yX8_takeMix, Cond.instanceMethod yX8_takeMix, Cond.selects RX8 yX8_takeMix yX8_takeMix, Cond.code yX8_takeMix cX8_takeMix 1 (some .int), Cond.fieldLink RX8 164 "SplitBeliefs$Split" "parts" "I", Cond.methodLink RX8 250 yX3_reduce, Cond.instanceMethod yX3_reduce, Cond.selects RX3 yX3_reduce yX3_reduce, Cond.code yX3_reduce cX3_reduce 3 none, Cond.static yX8_commonDivisor, Cond.code yX8_commonDivisor cX8_commonDivisor 6 (some .int), Cond.methodLink RX8 288 Lib.Math.abs.name, Cond.static Lib.Math.abs.name, Cond.initialized "java/lang/Math", Cond.code Lib.Math.abs.name Lib.Math.abs.code 1 (some .int), Cond.methodLink RX8 253 yX3_fits, Cond.instanceMethod yX3_fits, Cond.selects RX3 yX3_fits yX3_fits, Cond.code yX3_fits cX3_fits 3 (some .boolean), Cond.methodLink RX8 259 yX3_pourInto, Cond.instanceMethod yX3_pourInto, Cond.selects RX3 yX3_pourInto yX3_pourInto, Cond.code yX3_pourInto cX3_pourInto 3 none]
def wsX8_join_r5 : List Cond := [Cond.methodLink RX3 42 yX6_append, Cond.instanceMethod yX6_append, Cond.selects RX6 yX6_append yX6_append, Cond.code yX6_append cX6_append 3 none, Cond.methodLink RX8 70 yX8_recorded, Cond.instanceMethod yX8_recorded, Cond.selects RX8 yX8_recorded yX8_recorded, Cond.code yX8_recorded cX8_recorded 2 (some .int), Cond.methodLink RX8 221 yX2_keep, Cond.instanceMethod yX2_keep, Cond.selects RX2 yX2_keep yX2_keep, Cond.code yX2_keep cX2_keep 1 none, Cond.fieldLink RX2 19 "SplitBeliefs$History" "kept" "I", Cond.methodLink RX2 27 Lib.Math.min.name, Cond.static Lib.Math.min.name, Cond.code Lib.Math.min.name Lib.Math.min.code 2 (some .int)]
def wsX8_join : List Cond := .code yX8_join cX8_join 2 (some .int) :: ((wsX8_join_r1 ++ (wsX8_join_r2 ++ (wsX8_join_r3 ++ (wsX8_join_r4 ++ wsX8_join_r5)))) ++ wsX80 ++ wsX20 ++ wsX70 ++ wsX50 ++ wsX60 ++ wsX30)
def wsX8_takeBest_r1 : List Cond := [Cond.fieldLink RX8 48 "SplitBeliefs" "curve" "LSplitBeliefs$Curve;", Cond.fieldLink RX8 10 "SplitBeliefs" "now" "LSplitBeliefs$State;", Cond.fieldLink RX8 73 "SplitBeliefs$State" "receivers" "LSplitBeliefs$Receivers;", Cond.fieldLink RX8 158 "SplitBeliefs$State" "prior" "I", Cond.fieldLink RX8 41 "SplitBeliefs" "mix" "LSplitBeliefs$Mix;", Cond.fieldLink RX8 187 "SplitBeliefs$Curve" "lower" "I", Cond.fieldLink RX8 193 "SplitBeliefs$Curve" "lowerWeight" "I", Cond.fieldLink RX8 190 "SplitBeliefs$Curve" "upper" "I", Cond.fieldLink RX8 196 "SplitBeliefs$Curve" "upperWeight" "I", Cond.methodLink RX8 235 yX0_draw, Cond.instanceMethod yX0_draw, Cond.selects RX0 yX0_draw yX0_draw, Cond.initialized RX0, Cond.code yX0_draw cX0_draw 3 none, Cond.fieldLink RX0 18 "SplitBeliefs$Curve" "cornerCount" "I", Cond.fieldLink RX0 9 "SplitBeliefs$Curve" "values" "[I", Cond.fieldLink RX0 15 "SplitBeliefs$Curve" "corners" "[I", Cond.methodLink RX0 34 yX5_valueAt, Cond.instanceMethod yX5_valueAt, Cond.selects RX5 yX5_valueAt yX5_valueAt, Cond.initialized RX5, Cond.code yX5_valueAt cX5_valueAt 6 (some .int), Cond.fieldLink RX5 24 "SplitBeliefs$Receivers" "number" "I", Cond.fieldLink RX5 21 "SplitBeliefs$Receivers" "bonuses" "[I"]
def wsX8_takeBest_r2 : List Cond := [Cond.fieldLink RX5 18 "SplitBeliefs$Receivers" "pays" "[I", Cond.methodLink RX5 44 yX5_acts, Cond.instanceMethod yX5_acts, Cond.selects RX5 yX5_acts yX5_acts, Cond.code yX5_acts cX5_acts 3 (some .boolean), Cond.fieldLink RX5 15 "SplitBeliefs$Receivers" "gains" "[I", Cond.fieldLink RX5 11 "SplitBeliefs$Receivers" "losses" "[I", Cond.methodLink RX0 40 yX0_heightOver, Cond.instanceMethod yX0_heightOver, Cond.selects RX0 yX0_heightOver yX0_heightOver, Cond.code yX0_heightOver cX0_heightOver 4 (some .int), Cond.methodLink RX8 239 yX0_aim, Cond.instanceMethod yX0_aim, Cond.selects RX0 yX0_aim yX0_aim, Cond.code yX0_aim cX0_aim 5 none, Cond.fieldLink RX0 22 "SplitBeliefs$Curve" "lower" "I", Cond.fieldLink RX0 25 "SplitBeliefs$Curve" "upper" "I", Cond.fieldLink RX0 28 "SplitBeliefs$Curve" "lowerWeight" "I", Cond.fieldLink RX0 31 "SplitBeliefs$Curve" "upperWeight" "I", Cond.methodLink RX0 48 Lib.Math.max.name, Cond.static Lib.Math.max.name, Cond.initialized "java/lang/Math", Cond.code Lib.Math.max.name Lib.Math.max.code 2 (some .int), Cond.static yX8_commonDivisor]
def wsX8_takeBest_r3 : List Cond := [Cond.initialized RX8, Cond.code yX8_commonDivisor cX8_commonDivisor 6 (some .int), Cond.methodLink RX8 288 Lib.Math.abs.name, Cond.static Lib.Math.abs.name, Cond.code Lib.Math.abs.name Lib.Math.abs.code 1 (some .int), Cond.methodLink RX8 242 yX3_clear, Cond.instanceMethod yX3_clear, Cond.selects RX3 yX3_clear yX3_clear, Cond.initialized RX3, Cond.code yX3_clear cX3_clear 2 none, Cond.fieldLink RX3 9 "SplitBeliefs$Mix" "weightAt" "[I", Cond.methodLink RX8 228 yX3_add, Cond.instanceMethod yX3_add, Cond.selects RX3 yX3_add yX3_add, Cond.code yX3_add cX3_add 3 none, Cond.static yX8_isPosterior, Cond.code yX8_isPosterior cX8_isPosterior 1 (some .boolean), Cond.methodLink RX8 232 yX8_takeMix, Cond.instanceMethod yX8_takeMix, Cond.selects RX8 yX8_takeMix yX8_takeMix, Cond.code yX8_takeMix cX8_takeMix 1 (some .int), Cond.fieldLink RX8 117 "SplitBeliefs$State" "split" "LSplitBeliefs$Split;", Cond.fieldLink RX8 164 "SplitBeliefs$Split" "parts" "I", Cond.methodLink RX8 250 yX3_reduce]
def wsX8_takeBest_r4 : List Cond := [Cond.instanceMethod yX3_reduce, Cond.selects RX3 yX3_reduce yX3_reduce, Cond.code yX3_reduce cX3_reduce 3 none, Cond.methodLink RX8 253 yX3_fits, Cond.instanceMethod yX3_fits, Cond.selects RX3 yX3_fits yX3_fits, Cond.code yX3_fits cX3_fits 3 (some .boolean), Cond.methodLink RX8 259 yX3_pourInto, Cond.instanceMethod yX3_pourInto, Cond.selects RX3 yX3_pourInto yX3_pourInto, Cond.code yX3_pourInto cX3_pourInto 3 none, Cond.fieldLink RX3 18 "SplitBeliefs$Split" "parts" "I", Cond.methodLink RX3 42 yX6_append, Cond.instanceMethod yX6_append, Cond.selects RX6 yX6_append yX6_append, Cond.initialized RX6, Cond.code yX6_append cX6_append 3 none, Cond.fieldLink RX6 16 "SplitBeliefs$Split" "parts" "I", Cond.fieldLink RX6 9 "SplitBeliefs$Split" "weights" "[I", Cond.fieldLink RX6 13 "SplitBeliefs$Split" "posteriors" "[I"]
def wsX8_takeBest : List Cond := .code yX8_takeBest cX8_takeBest 1 (some .int) :: ((wsX8_takeBest_r1 ++ (wsX8_takeBest_r2 ++ (wsX8_takeBest_r3 ++ wsX8_takeBest_r4))) ++ wsX80 ++ wsX70 ++ wsX00 ++ wsX50 ++ wsX30 ++ wsX60)
def wsX8_adopt_r1 : List Cond := [Cond.fieldLink RX8 19 "SplitBeliefs" "history" "LSplitBeliefs$History;", Cond.fieldLink RX8 10 "SplitBeliefs" "now" "LSplitBeliefs$State;", Cond.methodLink RX8 62 yX2_note, Cond.instanceMethod yX2_note, Cond.selects RX2 yX2_note yX2_note, Cond.initialized RX2, Cond.code yX2_note cX2_note 2 none, Cond.fieldLink RX2 11 "SplitBeliefs$History" "rows" "[LSplitBeliefs$State;", Cond.fieldLink RX2 15 "SplitBeliefs$History" "next" "I", Cond.methodLink RX2 23 yX7_copyFrom, Cond.instanceMethod yX7_copyFrom, Cond.selects RX7 yX7_copyFrom yX7_copyFrom, Cond.initialized RX7, Cond.code yX7_copyFrom cX7_copyFrom 2 none, Cond.fieldLink RX7 12 "SplitBeliefs$State" "receivers" "LSplitBeliefs$Receivers;", Cond.fieldLink RX7 21 "SplitBeliefs$State" "split" "LSplitBeliefs$Split;", Cond.fieldLink RX7 25 "SplitBeliefs$State" "prior" "I", Cond.methodLink RX7 33 yX5_copyFrom, Cond.instanceMethod yX5_copyFrom, Cond.selects RX5 yX5_copyFrom yX5_copyFrom, Cond.initialized RX5, Cond.code yX5_copyFrom cX5_copyFrom 2 none, Cond.fieldLink RX5 11 "SplitBeliefs$Receivers" "losses" "[I", Cond.methodLink RX5 28 arraycopyName]
def wsX8_adopt_r2 : List Cond := [Cond.native arraycopyName, Cond.static arraycopyName, Cond.initialized "java/lang/System", Cond.fieldLink RX5 15 "SplitBeliefs$Receivers" "gains" "[I", Cond.fieldLink RX5 18 "SplitBeliefs$Receivers" "pays" "[I", Cond.fieldLink RX5 21 "SplitBeliefs$Receivers" "bonuses" "[I", Cond.fieldLink RX5 24 "SplitBeliefs$Receivers" "number" "I", Cond.methodLink RX7 37 yX6_copyFrom, Cond.instanceMethod yX6_copyFrom, Cond.selects RX6 yX6_copyFrom yX6_copyFrom, Cond.initialized RX6, Cond.code yX6_copyFrom cX6_copyFrom 2 none, Cond.fieldLink RX6 9 "SplitBeliefs$Split" "weights" "[I", Cond.methodLink RX6 20 arraycopyName, Cond.fieldLink RX6 13 "SplitBeliefs$Split" "posteriors" "[I", Cond.fieldLink RX6 16 "SplitBeliefs$Split" "parts" "I", Cond.methodLink RX8 93 yX8_takeBest, Cond.instanceMethod yX8_takeBest, Cond.selects RX8 yX8_takeBest yX8_takeBest, Cond.initialized RX8, Cond.code yX8_takeBest cX8_takeBest 1 (some .int), Cond.fieldLink RX8 48 "SplitBeliefs" "curve" "LSplitBeliefs$Curve;", Cond.fieldLink RX8 73 "SplitBeliefs$State" "receivers" "LSplitBeliefs$Receivers;", Cond.fieldLink RX8 158 "SplitBeliefs$State" "prior" "I"]
def wsX8_adopt_r3 : List Cond := [Cond.fieldLink RX8 41 "SplitBeliefs" "mix" "LSplitBeliefs$Mix;", Cond.fieldLink RX8 187 "SplitBeliefs$Curve" "lower" "I", Cond.fieldLink RX8 193 "SplitBeliefs$Curve" "lowerWeight" "I", Cond.fieldLink RX8 190 "SplitBeliefs$Curve" "upper" "I", Cond.fieldLink RX8 196 "SplitBeliefs$Curve" "upperWeight" "I", Cond.methodLink RX8 235 yX0_draw, Cond.instanceMethod yX0_draw, Cond.selects RX0 yX0_draw yX0_draw, Cond.initialized RX0, Cond.code yX0_draw cX0_draw 3 none, Cond.fieldLink RX0 18 "SplitBeliefs$Curve" "cornerCount" "I", Cond.fieldLink RX0 9 "SplitBeliefs$Curve" "values" "[I", Cond.fieldLink RX0 15 "SplitBeliefs$Curve" "corners" "[I", Cond.methodLink RX0 34 yX5_valueAt, Cond.instanceMethod yX5_valueAt, Cond.selects RX5 yX5_valueAt yX5_valueAt, Cond.code yX5_valueAt cX5_valueAt 6 (some .int), Cond.methodLink RX5 44 yX5_acts, Cond.instanceMethod yX5_acts, Cond.selects RX5 yX5_acts yX5_acts, Cond.code yX5_acts cX5_acts 3 (some .boolean), Cond.methodLink RX0 40 yX0_heightOver, Cond.instanceMethod yX0_heightOver, Cond.selects RX0 yX0_heightOver yX0_heightOver]
def wsX8_adopt_r4 : List Cond := [Cond.code yX0_heightOver cX0_heightOver 4 (some .int), Cond.methodLink RX8 239 yX0_aim, Cond.instanceMethod yX0_aim, Cond.selects RX0 yX0_aim yX0_aim, Cond.code yX0_aim cX0_aim 5 none, Cond.fieldLink RX0 22 "SplitBeliefs$Curve" "lower" "I", Cond.fieldLink RX0 25 "SplitBeliefs$Curve" "upper" "I", Cond.fieldLink RX0 28 "SplitBeliefs$Curve" "lowerWeight" "I", Cond.fieldLink RX0 31 "SplitBeliefs$Curve" "upperWeight" "I", Cond.methodLink RX0 48 Lib.Math.max.name, Cond.static Lib.Math.max.name, Cond.initialized "java/lang/Math", Cond.code Lib.Math.max.name Lib.Math.max.code 2 (some .int), Cond.static yX8_commonDivisor, Cond.code yX8_commonDivisor cX8_commonDivisor 6 (some .int), Cond.methodLink RX8 288 Lib.Math.abs.name, Cond.static Lib.Math.abs.name, Cond.code Lib.Math.abs.name Lib.Math.abs.code 1 (some .int), Cond.methodLink RX8 242 yX3_clear, Cond.instanceMethod yX3_clear, Cond.selects RX3 yX3_clear yX3_clear, Cond.initialized RX3, Cond.code yX3_clear cX3_clear 2 none, Cond.fieldLink RX3 9 "SplitBeliefs$Mix" "weightAt" "[I"]
def wsX8_adopt_r5 : List Cond := [Cond.methodLink RX8 228 yX3_add, Cond.instanceMethod yX3_add, Cond.selects RX3 yX3_add yX3_add, Cond.code yX3_add cX3_add 3 none, Cond.static yX8_isPosterior, Cond.code yX8_isPosterior cX8_isPosterior 1 (some .boolean), Cond.methodLink RX8 232 yX8_takeMix, Cond.instanceMethod yX8_takeMix, Cond.selects RX8 yX8_takeMix yX8_takeMix, Cond.code yX8_takeMix cX8_takeMix 1 (some .int), Cond.fieldLink RX8 117 "SplitBeliefs$State" "split" "LSplitBeliefs$Split;", Cond.fieldLink RX8 164 "SplitBeliefs$Split" "parts" "I", Cond.methodLink RX8 250 yX3_reduce, Cond.instanceMethod yX3_reduce, Cond.selects RX3 yX3_reduce yX3_reduce, Cond.code yX3_reduce cX3_reduce 3 none, Cond.methodLink RX8 253 yX3_fits, Cond.instanceMethod yX3_fits, Cond.selects RX3 yX3_fits yX3_fits, Cond.code yX3_fits cX3_fits 3 (some .boolean), Cond.methodLink RX8 259 yX3_pourInto, Cond.instanceMethod yX3_pourInto, Cond.selects RX3 yX3_pourInto yX3_pourInto, Cond.code yX3_pourInto cX3_pourInto 3 none]
def wsX8_adopt_r6 : List Cond := [Cond.fieldLink RX3 18 "SplitBeliefs$Split" "parts" "I", Cond.methodLink RX3 42 yX6_append, Cond.instanceMethod yX6_append, Cond.selects RX6 yX6_append yX6_append, Cond.code yX6_append cX6_append 3 none, Cond.methodLink RX8 70 yX8_recorded, Cond.instanceMethod yX8_recorded, Cond.selects RX8 yX8_recorded yX8_recorded, Cond.code yX8_recorded cX8_recorded 2 (some .int), Cond.methodLink RX8 221 yX2_keep, Cond.instanceMethod yX2_keep, Cond.selects RX2 yX2_keep yX2_keep, Cond.code yX2_keep cX2_keep 1 none, Cond.fieldLink RX2 19 "SplitBeliefs$History" "kept" "I", Cond.methodLink RX2 27 Lib.Math.min.name, Cond.static Lib.Math.min.name, Cond.code Lib.Math.min.name Lib.Math.min.code 2 (some .int)]
def wsX8_adopt : List Cond := .code yX8_adopt cX8_adopt 1 (some .int) :: ((wsX8_adopt_r1 ++ (wsX8_adopt_r2 ++ (wsX8_adopt_r3 ++ (wsX8_adopt_r4 ++ (wsX8_adopt_r5 ++ wsX8_adopt_r6))))) ++ wsX80 ++ wsX20 ++ wsX70 ++ wsX50 ++ wsX60 ++ wsX00 ++ wsX30)
def wsX8_receiver : List Cond := .code yX8_receiver cX8_receiver 4 (some .int) :: ([.fieldLink RX8 10 "SplitBeliefs" "now" "LSplitBeliefs$State;", .fieldLink RX8 73 "SplitBeliefs$State" "receivers" "LSplitBeliefs$Receivers;", .fieldLink RX8 101 "SplitBeliefs$Receivers" "losses" "[I", .fieldLink RX8 105 "SplitBeliefs$Receivers" "gains" "[I", .fieldLink RX8 108 "SplitBeliefs$Receivers" "pays" "[I", .fieldLink RX8 111 "SplitBeliefs$Receivers" "bonuses" "[I", .methodLink RX8 97 yX5_has, .instanceMethod yX5_has, .selects RX5 yX5_has yX5_has, .initialized RX5, .code yX5_has cX5_has 2 (some .boolean), .fieldLink RX5 24 "SplitBeliefs$Receivers" "number" "I", .methodLink RX8 114 yX5_leastActing, .instanceMethod yX5_leastActing, .selects RX5 yX5_leastActing yX5_leastActing, .code yX5_leastActing cX5_leastActing 3 (some .int), .methodLink RX5 44 yX5_acts, .instanceMethod yX5_acts, .selects RX5 yX5_acts yX5_acts, .code yX5_acts cX5_acts 3 (some .boolean), .fieldLink RX5 15 "SplitBeliefs$Receivers" "gains" "[I", .fieldLink RX5 11 "SplitBeliefs$Receivers" "losses" "[I"] ++ wsX80 ++ wsX70 ++ wsX50)
def wsX8_part_r1 : List Cond := [Cond.fieldLink RX8 10 "SplitBeliefs" "now" "LSplitBeliefs$State;", Cond.fieldLink RX8 117 "SplitBeliefs$State" "split" "LSplitBeliefs$Split;", Cond.fieldLink RX8 124 "SplitBeliefs$Split" "weights" "[I", Cond.fieldLink RX8 127 "SplitBeliefs$Split" "posteriors" "[I", Cond.fieldLink RX8 73 "SplitBeliefs$State" "receivers" "LSplitBeliefs$Receivers;", Cond.methodLink RX8 121 yX6_has, Cond.instanceMethod yX6_has, Cond.selects RX6 yX6_has yX6_has, Cond.initialized RX6, Cond.code yX6_has cX6_has 2 (some .boolean), Cond.fieldLink RX6 16 "SplitBeliefs$Split" "parts" "I", Cond.methodLink RX8 130 yX5_actingAt, Cond.instanceMethod yX5_actingAt, Cond.selects RX5 yX5_actingAt yX5_actingAt, Cond.initialized RX5, Cond.code yX5_actingAt cX5_actingAt 4 (some .int), Cond.fieldLink RX5 24 "SplitBeliefs$Receivers" "number" "I", Cond.methodLink RX5 44 yX5_acts, Cond.instanceMethod yX5_acts, Cond.selects RX5 yX5_acts yX5_acts, Cond.code yX5_acts cX5_acts 3 (some .boolean), Cond.fieldLink RX5 15 "SplitBeliefs$Receivers" "gains" "[I", Cond.fieldLink RX5 11 "SplitBeliefs$Receivers" "losses" "[I", Cond.methodLink RX8 133 yX5_valueAt]
def wsX8_part_r2 : List Cond := [Cond.instanceMethod yX5_valueAt, Cond.selects RX5 yX5_valueAt yX5_valueAt, Cond.code yX5_valueAt cX5_valueAt 6 (some .int), Cond.fieldLink RX5 21 "SplitBeliefs$Receivers" "bonuses" "[I", Cond.fieldLink RX5 18 "SplitBeliefs$Receivers" "pays" "[I"]
def wsX8_part : List Cond := .code yX8_part cX8_part 4 (some .int) :: ((wsX8_part_r1 ++ wsX8_part_r2) ++ wsX80 ++ wsX70 ++ wsX60 ++ wsX50)
def wsX8_value : List Cond := .code yX8_value cX8_value 2 (some .int) :: ([.fieldLink RX8 10 "SplitBeliefs" "now" "LSplitBeliefs$State;", .fieldLink RX8 73 "SplitBeliefs$State" "receivers" "LSplitBeliefs$Receivers;", .methodLink RX8 136 yX8_isPosterior, .static yX8_isPosterior, .initialized RX8, .code yX8_isPosterior cX8_isPosterior 1 (some .boolean), .methodLink RX8 133 yX5_valueAt, .instanceMethod yX5_valueAt, .selects RX5 yX5_valueAt yX5_valueAt, .initialized RX5, .code yX5_valueAt cX5_valueAt 6 (some .int), .fieldLink RX5 24 "SplitBeliefs$Receivers" "number" "I", .fieldLink RX5 21 "SplitBeliefs$Receivers" "bonuses" "[I", .fieldLink RX5 18 "SplitBeliefs$Receivers" "pays" "[I", .methodLink RX5 44 yX5_acts, .instanceMethod yX5_acts, .selects RX5 yX5_acts yX5_acts, .code yX5_acts cX5_acts 3 (some .boolean), .fieldLink RX5 15 "SplitBeliefs$Receivers" "gains" "[I", .fieldLink RX5 11 "SplitBeliefs$Receivers" "losses" "[I"] ++ wsX80 ++ wsX70 ++ wsX50)
def wsX8_isHalfOfFraction : List Cond := .code yX8_isHalfOfFraction cX8_isHalfOfFraction 1 (some .boolean) :: ([])
def wsX8_mean_r1 : List Cond := [Cond.fieldLink RX8 10 "SplitBeliefs" "now" "LSplitBeliefs$State;", Cond.fieldLink RX8 55 "SplitBeliefs" "fraction" "LSplitBeliefs$Fraction;", Cond.fieldLink RX8 146 "SplitBeliefs$Fraction" "above" "I", Cond.constant RX8 150 (10000000), Cond.fieldLink RX8 151 "SplitBeliefs$Fraction" "below" "I", Cond.methodLink RX8 139 yX8_isHalfOfFraction, Cond.static yX8_isHalfOfFraction, Cond.initialized RX8, Cond.code yX8_isHalfOfFraction cX8_isHalfOfFraction 1 (some .boolean), Cond.methodLink RX8 142 yX7_tellMeanValue, Cond.instanceMethod yX7_tellMeanValue, Cond.selects RX7 yX7_tellMeanValue yX7_tellMeanValue, Cond.initialized RX7, Cond.code yX7_tellMeanValue cX7_tellMeanValue 4 none, Cond.fieldLink RX7 21 "SplitBeliefs$State" "split" "LSplitBeliefs$Split;", Cond.fieldLink RX7 40 "SplitBeliefs$Split" "parts" "I", Cond.fieldLink RX7 43 "SplitBeliefs$Split" "weights" "[I", Cond.fieldLink RX7 12 "SplitBeliefs$State" "receivers" "LSplitBeliefs$Receivers;", Cond.fieldLink RX7 47 "SplitBeliefs$Split" "posteriors" "[I", Cond.methodLink RX7 50 yX5_valueAt, Cond.instanceMethod yX5_valueAt, Cond.selects RX5 yX5_valueAt yX5_valueAt, Cond.initialized RX5, Cond.code yX5_valueAt cX5_valueAt 6 (some .int)]
def wsX8_mean_r2 : List Cond := [Cond.fieldLink RX5 24 "SplitBeliefs$Receivers" "number" "I", Cond.fieldLink RX5 21 "SplitBeliefs$Receivers" "bonuses" "[I", Cond.fieldLink RX5 18 "SplitBeliefs$Receivers" "pays" "[I", Cond.methodLink RX5 44 yX5_acts, Cond.instanceMethod yX5_acts, Cond.selects RX5 yX5_acts yX5_acts, Cond.code yX5_acts cX5_acts 3 (some .boolean), Cond.fieldLink RX5 15 "SplitBeliefs$Receivers" "gains" "[I", Cond.fieldLink RX5 11 "SplitBeliefs$Receivers" "losses" "[I", Cond.methodLink RX7 54 yX6_weightSum, Cond.instanceMethod yX6_weightSum, Cond.selects RX6 yX6_weightSum yX6_weightSum, Cond.initialized RX6, Cond.code yX6_weightSum cX6_weightSum 3 (some .int), Cond.fieldLink RX6 16 "SplitBeliefs$Split" "parts" "I", Cond.fieldLink RX6 9 "SplitBeliefs$Split" "weights" "[I", Cond.methodLink RX7 58 yX1_become, Cond.instanceMethod yX1_become, Cond.selects RX1 yX1_become yX1_become, Cond.initialized RX1, Cond.code yX1_become cX1_become 4 none, Cond.fieldLink RX1 7 "SplitBeliefs$Fraction" "above" "I", Cond.fieldLink RX1 13 "SplitBeliefs$Fraction" "below" "I", Cond.static yX8_commonDivisor]
def wsX8_mean_r3 : List Cond := [Cond.code yX8_commonDivisor cX8_commonDivisor 6 (some .int), Cond.methodLink RX8 288 Lib.Math.abs.name, Cond.static Lib.Math.abs.name, Cond.initialized "java/lang/Math", Cond.code Lib.Math.abs.name Lib.Math.abs.code 1 (some .int)]
def wsX8_mean : List Cond := .code yX8_mean cX8_mean 2 (some .int) :: ((wsX8_mean_r1 ++ (wsX8_mean_r2 ++ wsX8_mean_r3)) ++ wsX80 ++ wsX10 ++ wsX70 ++ wsX60 ++ wsX50)
def wsX8_worth_r1 : List Cond := [Cond.fieldLink RX8 10 "SplitBeliefs" "now" "LSplitBeliefs$State;", Cond.fieldLink RX8 73 "SplitBeliefs$State" "receivers" "LSplitBeliefs$Receivers;", Cond.fieldLink RX8 55 "SplitBeliefs" "fraction" "LSplitBeliefs$Fraction;", Cond.fieldLink RX8 146 "SplitBeliefs$Fraction" "above" "I", Cond.fieldLink RX8 151 "SplitBeliefs$Fraction" "below" "I", Cond.methodLink RX8 97 yX5_has, Cond.instanceMethod yX5_has, Cond.selects RX5 yX5_has yX5_has, Cond.initialized RX5, Cond.code yX5_has cX5_has 2 (some .boolean), Cond.fieldLink RX5 24 "SplitBeliefs$Receivers" "number" "I", Cond.methodLink RX8 139 yX8_isHalfOfFraction, Cond.static yX8_isHalfOfFraction, Cond.initialized RX8, Cond.code yX8_isHalfOfFraction cX8_isHalfOfFraction 1 (some .boolean), Cond.methodLink RX8 154 yX7_tellMeanWorth, Cond.instanceMethod yX7_tellMeanWorth, Cond.selects RX7 yX7_tellMeanWorth yX7_tellMeanWorth, Cond.initialized RX7, Cond.code yX7_tellMeanWorth cX7_tellMeanWorth 5 none, Cond.fieldLink RX7 21 "SplitBeliefs$State" "split" "LSplitBeliefs$Split;", Cond.fieldLink RX7 40 "SplitBeliefs$Split" "parts" "I", Cond.fieldLink RX7 43 "SplitBeliefs$Split" "weights" "[I", Cond.fieldLink RX7 12 "SplitBeliefs$State" "receivers" "LSplitBeliefs$Receivers;"]
def wsX8_worth_r2 : List Cond := [Cond.fieldLink RX7 47 "SplitBeliefs$Split" "posteriors" "[I", Cond.methodLink RX7 64 yX5_worthAt, Cond.instanceMethod yX5_worthAt, Cond.selects RX5 yX5_worthAt yX5_worthAt, Cond.code yX5_worthAt cX5_worthAt 3 (some .int), Cond.fieldLink RX5 15 "SplitBeliefs$Receivers" "gains" "[I", Cond.fieldLink RX5 11 "SplitBeliefs$Receivers" "losses" "[I", Cond.methodLink RX5 38 Lib.Math.max.name, Cond.static Lib.Math.max.name, Cond.initialized "java/lang/Math", Cond.code Lib.Math.max.name Lib.Math.max.code 2 (some .int), Cond.methodLink RX7 54 yX6_weightSum, Cond.instanceMethod yX6_weightSum, Cond.selects RX6 yX6_weightSum yX6_weightSum, Cond.initialized RX6, Cond.code yX6_weightSum cX6_weightSum 3 (some .int), Cond.fieldLink RX6 16 "SplitBeliefs$Split" "parts" "I", Cond.fieldLink RX6 9 "SplitBeliefs$Split" "weights" "[I", Cond.methodLink RX7 58 yX1_become, Cond.instanceMethod yX1_become, Cond.selects RX1 yX1_become yX1_become, Cond.initialized RX1, Cond.code yX1_become cX1_become 4 none, Cond.fieldLink RX1 7 "SplitBeliefs$Fraction" "above" "I"]
def wsX8_worth_r3 : List Cond := [Cond.fieldLink RX1 13 "SplitBeliefs$Fraction" "below" "I", Cond.static yX8_commonDivisor, Cond.code yX8_commonDivisor cX8_commonDivisor 6 (some .int), Cond.methodLink RX8 288 Lib.Math.abs.name, Cond.static Lib.Math.abs.name, Cond.code Lib.Math.abs.name Lib.Math.abs.code 1 (some .int)]
def wsX8_worth : List Cond := .code yX8_worth cX8_worth 3 (some .int) :: ((wsX8_worth_r1 ++ (wsX8_worth_r2 ++ wsX8_worth_r3)) ++ wsX80 ++ wsX70 ++ wsX10 ++ wsX50 ++ wsX60)
def wsX8_aimAt_r1 : List Cond := [Cond.fieldLink RX8 48 "SplitBeliefs" "curve" "LSplitBeliefs$Curve;", Cond.fieldLink RX8 10 "SplitBeliefs" "now" "LSplitBeliefs$State;", Cond.fieldLink RX8 73 "SplitBeliefs$State" "receivers" "LSplitBeliefs$Receivers;", Cond.methodLink RX8 235 yX0_draw, Cond.instanceMethod yX0_draw, Cond.selects RX0 yX0_draw yX0_draw, Cond.initialized RX0, Cond.code yX0_draw cX0_draw 3 none, Cond.fieldLink RX0 18 "SplitBeliefs$Curve" "cornerCount" "I", Cond.fieldLink RX0 9 "SplitBeliefs$Curve" "values" "[I", Cond.fieldLink RX0 15 "SplitBeliefs$Curve" "corners" "[I", Cond.methodLink RX0 34 yX5_valueAt, Cond.instanceMethod yX5_valueAt, Cond.selects RX5 yX5_valueAt yX5_valueAt, Cond.initialized RX5, Cond.code yX5_valueAt cX5_valueAt 6 (some .int), Cond.fieldLink RX5 24 "SplitBeliefs$Receivers" "number" "I", Cond.fieldLink RX5 21 "SplitBeliefs$Receivers" "bonuses" "[I", Cond.fieldLink RX5 18 "SplitBeliefs$Receivers" "pays" "[I", Cond.methodLink RX5 44 yX5_acts, Cond.instanceMethod yX5_acts, Cond.selects RX5 yX5_acts yX5_acts, Cond.code yX5_acts cX5_acts 3 (some .boolean), Cond.fieldLink RX5 15 "SplitBeliefs$Receivers" "gains" "[I"]
def wsX8_aimAt_r2 : List Cond := [Cond.fieldLink RX5 11 "SplitBeliefs$Receivers" "losses" "[I", Cond.methodLink RX0 40 yX0_heightOver, Cond.instanceMethod yX0_heightOver, Cond.selects RX0 yX0_heightOver yX0_heightOver, Cond.code yX0_heightOver cX0_heightOver 4 (some .int), Cond.methodLink RX8 239 yX0_aim, Cond.instanceMethod yX0_aim, Cond.selects RX0 yX0_aim yX0_aim, Cond.code yX0_aim cX0_aim 5 none, Cond.fieldLink RX0 22 "SplitBeliefs$Curve" "lower" "I", Cond.fieldLink RX0 25 "SplitBeliefs$Curve" "upper" "I", Cond.fieldLink RX0 28 "SplitBeliefs$Curve" "lowerWeight" "I", Cond.fieldLink RX0 31 "SplitBeliefs$Curve" "upperWeight" "I", Cond.methodLink RX0 48 Lib.Math.max.name, Cond.static Lib.Math.max.name, Cond.initialized "java/lang/Math", Cond.code Lib.Math.max.name Lib.Math.max.code 2 (some .int), Cond.static yX8_commonDivisor, Cond.initialized RX8, Cond.code yX8_commonDivisor cX8_commonDivisor 6 (some .int), Cond.methodLink RX8 288 Lib.Math.abs.name, Cond.static Lib.Math.abs.name, Cond.code Lib.Math.abs.name Lib.Math.abs.code 1 (some .int)]
def wsX8_aimAt : List Cond := .code yX8_aimAt cX8_aimAt 2 none :: ((wsX8_aimAt_r1 ++ wsX8_aimAt_r2) ++ wsX80 ++ wsX70 ++ wsX00 ++ wsX50)
def wsX8_meanIsEnvelope_r1 : List Cond := [Cond.fieldLink RX8 10 "SplitBeliefs" "now" "LSplitBeliefs$State;", Cond.fieldLink RX8 55 "SplitBeliefs" "fraction" "LSplitBeliefs$Fraction;", Cond.fieldLink RX8 158 "SplitBeliefs$State" "prior" "I", Cond.fieldLink RX8 48 "SplitBeliefs" "curve" "LSplitBeliefs$Curve;", Cond.fieldLink RX8 59 "SplitBeliefs" "other" "LSplitBeliefs$Fraction;", Cond.fieldLink RX8 146 "SplitBeliefs$Fraction" "above" "I", Cond.fieldLink RX8 151 "SplitBeliefs$Fraction" "below" "I", Cond.methodLink RX8 142 yX7_tellMeanValue, Cond.instanceMethod yX7_tellMeanValue, Cond.selects RX7 yX7_tellMeanValue yX7_tellMeanValue, Cond.initialized RX7, Cond.code yX7_tellMeanValue cX7_tellMeanValue 4 none, Cond.fieldLink RX7 21 "SplitBeliefs$State" "split" "LSplitBeliefs$Split;", Cond.fieldLink RX7 40 "SplitBeliefs$Split" "parts" "I", Cond.fieldLink RX7 43 "SplitBeliefs$Split" "weights" "[I", Cond.fieldLink RX7 12 "SplitBeliefs$State" "receivers" "LSplitBeliefs$Receivers;", Cond.fieldLink RX7 47 "SplitBeliefs$Split" "posteriors" "[I", Cond.methodLink RX7 50 yX5_valueAt, Cond.instanceMethod yX5_valueAt, Cond.selects RX5 yX5_valueAt yX5_valueAt, Cond.initialized RX5, Cond.code yX5_valueAt cX5_valueAt 6 (some .int), Cond.fieldLink RX5 24 "SplitBeliefs$Receivers" "number" "I", Cond.fieldLink RX5 21 "SplitBeliefs$Receivers" "bonuses" "[I"]
def wsX8_meanIsEnvelope_r2 : List Cond := [Cond.fieldLink RX5 18 "SplitBeliefs$Receivers" "pays" "[I", Cond.methodLink RX5 44 yX5_acts, Cond.instanceMethod yX5_acts, Cond.selects RX5 yX5_acts yX5_acts, Cond.code yX5_acts cX5_acts 3 (some .boolean), Cond.fieldLink RX5 15 "SplitBeliefs$Receivers" "gains" "[I", Cond.fieldLink RX5 11 "SplitBeliefs$Receivers" "losses" "[I", Cond.methodLink RX7 54 yX6_weightSum, Cond.instanceMethod yX6_weightSum, Cond.selects RX6 yX6_weightSum yX6_weightSum, Cond.initialized RX6, Cond.code yX6_weightSum cX6_weightSum 3 (some .int), Cond.fieldLink RX6 16 "SplitBeliefs$Split" "parts" "I", Cond.fieldLink RX6 9 "SplitBeliefs$Split" "weights" "[I", Cond.methodLink RX7 58 yX1_become, Cond.instanceMethod yX1_become, Cond.selects RX1 yX1_become yX1_become, Cond.initialized RX1, Cond.code yX1_become cX1_become 4 none, Cond.fieldLink RX1 7 "SplitBeliefs$Fraction" "above" "I", Cond.fieldLink RX1 13 "SplitBeliefs$Fraction" "below" "I", Cond.static yX8_commonDivisor, Cond.initialized RX8, Cond.code yX8_commonDivisor cX8_commonDivisor 6 (some .int)]
def wsX8_meanIsEnvelope_r3 : List Cond := [Cond.methodLink RX8 288 Lib.Math.abs.name, Cond.static Lib.Math.abs.name, Cond.initialized "java/lang/Math", Cond.code Lib.Math.abs.name Lib.Math.abs.code 1 (some .int), Cond.methodLink RX8 180 yX8_aimAt, Cond.instanceMethod yX8_aimAt, Cond.selects RX8 yX8_aimAt yX8_aimAt, Cond.code yX8_aimAt cX8_aimAt 2 none, Cond.fieldLink RX8 73 "SplitBeliefs$State" "receivers" "LSplitBeliefs$Receivers;", Cond.methodLink RX8 235 yX0_draw, Cond.instanceMethod yX0_draw, Cond.selects RX0 yX0_draw yX0_draw, Cond.initialized RX0, Cond.code yX0_draw cX0_draw 3 none, Cond.fieldLink RX0 18 "SplitBeliefs$Curve" "cornerCount" "I", Cond.fieldLink RX0 9 "SplitBeliefs$Curve" "values" "[I", Cond.fieldLink RX0 15 "SplitBeliefs$Curve" "corners" "[I", Cond.methodLink RX0 34 yX5_valueAt, Cond.methodLink RX0 40 yX0_heightOver, Cond.instanceMethod yX0_heightOver, Cond.selects RX0 yX0_heightOver yX0_heightOver, Cond.code yX0_heightOver cX0_heightOver 4 (some .int), Cond.methodLink RX8 239 yX0_aim, Cond.instanceMethod yX0_aim]
def wsX8_meanIsEnvelope_r4 : List Cond := [Cond.selects RX0 yX0_aim yX0_aim, Cond.code yX0_aim cX0_aim 5 none, Cond.fieldLink RX0 22 "SplitBeliefs$Curve" "lower" "I", Cond.fieldLink RX0 25 "SplitBeliefs$Curve" "upper" "I", Cond.fieldLink RX0 28 "SplitBeliefs$Curve" "lowerWeight" "I", Cond.fieldLink RX0 31 "SplitBeliefs$Curve" "upperWeight" "I", Cond.methodLink RX0 48 Lib.Math.max.name, Cond.static Lib.Math.max.name, Cond.code Lib.Math.max.name Lib.Math.max.code 2 (some .int), Cond.methodLink RX8 184 yX0_tellEnvelope, Cond.instanceMethod yX0_tellEnvelope, Cond.selects RX0 yX0_tellEnvelope yX0_tellEnvelope, Cond.code yX0_tellEnvelope cX0_tellEnvelope 2 none, Cond.methodLink RX0 53 yX0_valueSum, Cond.instanceMethod yX0_valueSum, Cond.selects RX0 yX0_valueSum yX0_valueSum, Cond.code yX0_valueSum cX0_valueSum 1 (some .int), Cond.methodLink RX0 57 yX1_become]
def wsX8_meanIsEnvelope : List Cond := .code yX8_meanIsEnvelope cX8_meanIsEnvelope 1 (some .boolean) :: ((wsX8_meanIsEnvelope_r1 ++ (wsX8_meanIsEnvelope_r2 ++ (wsX8_meanIsEnvelope_r3 ++ wsX8_meanIsEnvelope_r4))) ++ wsX80 ++ wsX70 ++ wsX10 ++ wsX60 ++ wsX50 ++ wsX00)
def wsX8_count_r1 : List Cond := [Cond.fieldLink RX8 10 "SplitBeliefs" "now" "LSplitBeliefs$State;", Cond.fieldLink RX8 158 "SplitBeliefs$State" "prior" "I", Cond.fieldLink RX8 73 "SplitBeliefs$State" "receivers" "LSplitBeliefs$Receivers;", Cond.fieldLink RX8 161 "SplitBeliefs$Receivers" "number" "I", Cond.fieldLink RX8 117 "SplitBeliefs$State" "split" "LSplitBeliefs$Split;", Cond.fieldLink RX8 164 "SplitBeliefs$Split" "parts" "I", Cond.fieldLink RX8 34 "SplitBeliefs" "pad" "LSplitBeliefs$Pad;", Cond.fieldLink RX8 174 "SplitBeliefs$Pad" "length" "I", Cond.fieldLink RX8 19 "SplitBeliefs" "history" "LSplitBeliefs$History;", Cond.fieldLink RX8 177 "SplitBeliefs$History" "kept" "I", Cond.methodLink RX8 167 yX6_weightSum, Cond.instanceMethod yX6_weightSum, Cond.selects RX6 yX6_weightSum yX6_weightSum, Cond.initialized RX6, Cond.code yX6_weightSum cX6_weightSum 3 (some .int), Cond.fieldLink RX6 16 "SplitBeliefs$Split" "parts" "I", Cond.fieldLink RX6 9 "SplitBeliefs$Split" "weights" "[I", Cond.methodLink RX8 170 yX8_meanIsEnvelope, Cond.instanceMethod yX8_meanIsEnvelope, Cond.selects RX8 yX8_meanIsEnvelope yX8_meanIsEnvelope, Cond.initialized RX8, Cond.code yX8_meanIsEnvelope cX8_meanIsEnvelope 1 (some .boolean), Cond.fieldLink RX8 55 "SplitBeliefs" "fraction" "LSplitBeliefs$Fraction;", Cond.fieldLink RX8 48 "SplitBeliefs" "curve" "LSplitBeliefs$Curve;"]
def wsX8_count_r2 : List Cond := [Cond.fieldLink RX8 59 "SplitBeliefs" "other" "LSplitBeliefs$Fraction;", Cond.fieldLink RX8 146 "SplitBeliefs$Fraction" "above" "I", Cond.fieldLink RX8 151 "SplitBeliefs$Fraction" "below" "I", Cond.methodLink RX8 142 yX7_tellMeanValue, Cond.instanceMethod yX7_tellMeanValue, Cond.selects RX7 yX7_tellMeanValue yX7_tellMeanValue, Cond.initialized RX7, Cond.code yX7_tellMeanValue cX7_tellMeanValue 4 none, Cond.fieldLink RX7 21 "SplitBeliefs$State" "split" "LSplitBeliefs$Split;", Cond.fieldLink RX7 40 "SplitBeliefs$Split" "parts" "I", Cond.fieldLink RX7 43 "SplitBeliefs$Split" "weights" "[I", Cond.fieldLink RX7 12 "SplitBeliefs$State" "receivers" "LSplitBeliefs$Receivers;", Cond.fieldLink RX7 47 "SplitBeliefs$Split" "posteriors" "[I", Cond.methodLink RX7 50 yX5_valueAt, Cond.instanceMethod yX5_valueAt, Cond.selects RX5 yX5_valueAt yX5_valueAt, Cond.initialized RX5, Cond.code yX5_valueAt cX5_valueAt 6 (some .int), Cond.fieldLink RX5 24 "SplitBeliefs$Receivers" "number" "I", Cond.fieldLink RX5 21 "SplitBeliefs$Receivers" "bonuses" "[I", Cond.fieldLink RX5 18 "SplitBeliefs$Receivers" "pays" "[I", Cond.methodLink RX5 44 yX5_acts, Cond.instanceMethod yX5_acts, Cond.selects RX5 yX5_acts yX5_acts]
def wsX8_count_r3 : List Cond := [Cond.code yX5_acts cX5_acts 3 (some .boolean), Cond.fieldLink RX5 15 "SplitBeliefs$Receivers" "gains" "[I", Cond.fieldLink RX5 11 "SplitBeliefs$Receivers" "losses" "[I", Cond.methodLink RX7 54 yX6_weightSum, Cond.methodLink RX7 58 yX1_become, Cond.instanceMethod yX1_become, Cond.selects RX1 yX1_become yX1_become, Cond.initialized RX1, Cond.code yX1_become cX1_become 4 none, Cond.fieldLink RX1 7 "SplitBeliefs$Fraction" "above" "I", Cond.fieldLink RX1 13 "SplitBeliefs$Fraction" "below" "I", Cond.static yX8_commonDivisor, Cond.code yX8_commonDivisor cX8_commonDivisor 6 (some .int), Cond.methodLink RX8 288 Lib.Math.abs.name, Cond.static Lib.Math.abs.name, Cond.initialized "java/lang/Math", Cond.code Lib.Math.abs.name Lib.Math.abs.code 1 (some .int), Cond.methodLink RX8 180 yX8_aimAt, Cond.instanceMethod yX8_aimAt, Cond.selects RX8 yX8_aimAt yX8_aimAt, Cond.code yX8_aimAt cX8_aimAt 2 none, Cond.methodLink RX8 235 yX0_draw, Cond.instanceMethod yX0_draw, Cond.selects RX0 yX0_draw yX0_draw]
def wsX8_count_r4 : List Cond := [Cond.initialized RX0, Cond.code yX0_draw cX0_draw 3 none, Cond.fieldLink RX0 18 "SplitBeliefs$Curve" "cornerCount" "I", Cond.fieldLink RX0 9 "SplitBeliefs$Curve" "values" "[I", Cond.fieldLink RX0 15 "SplitBeliefs$Curve" "corners" "[I", Cond.methodLink RX0 34 yX5_valueAt, Cond.methodLink RX0 40 yX0_heightOver, Cond.instanceMethod yX0_heightOver, Cond.selects RX0 yX0_heightOver yX0_heightOver, Cond.code yX0_heightOver cX0_heightOver 4 (some .int), Cond.methodLink RX8 239 yX0_aim, Cond.instanceMethod yX0_aim, Cond.selects RX0 yX0_aim yX0_aim, Cond.code yX0_aim cX0_aim 5 none, Cond.fieldLink RX0 22 "SplitBeliefs$Curve" "lower" "I", Cond.fieldLink RX0 25 "SplitBeliefs$Curve" "upper" "I", Cond.fieldLink RX0 28 "SplitBeliefs$Curve" "lowerWeight" "I", Cond.fieldLink RX0 31 "SplitBeliefs$Curve" "upperWeight" "I", Cond.methodLink RX0 48 Lib.Math.max.name, Cond.static Lib.Math.max.name, Cond.code Lib.Math.max.name Lib.Math.max.code 2 (some .int), Cond.methodLink RX8 184 yX0_tellEnvelope, Cond.instanceMethod yX0_tellEnvelope, Cond.selects RX0 yX0_tellEnvelope yX0_tellEnvelope]
def wsX8_count_r5 : List Cond := [Cond.code yX0_tellEnvelope cX0_tellEnvelope 2 none, Cond.methodLink RX0 53 yX0_valueSum, Cond.instanceMethod yX0_valueSum, Cond.selects RX0 yX0_valueSum yX0_valueSum, Cond.code yX0_valueSum cX0_valueSum 1 (some .int), Cond.methodLink RX0 57 yX1_become]
def wsX8_count : List Cond := .code yX8_count cX8_count 2 (some .int) :: ((wsX8_count_r1 ++ (wsX8_count_r2 ++ (wsX8_count_r3 ++ (wsX8_count_r4 ++ wsX8_count_r5)))) ++ wsX80 ++ wsX70 ++ wsX50 ++ wsX60 ++ wsX40 ++ wsX20 ++ wsX10 ++ wsX00)
def wsX8_envelope_r1 : List Cond := [Cond.fieldLink RX8 48 "SplitBeliefs" "curve" "LSplitBeliefs$Curve;", Cond.fieldLink RX8 55 "SplitBeliefs" "fraction" "LSplitBeliefs$Fraction;", Cond.fieldLink RX8 146 "SplitBeliefs$Fraction" "above" "I", Cond.constant RX8 150 (10000000), Cond.fieldLink RX8 151 "SplitBeliefs$Fraction" "below" "I", Cond.methodLink RX8 136 yX8_isPosterior, Cond.static yX8_isPosterior, Cond.initialized RX8, Cond.code yX8_isPosterior cX8_isPosterior 1 (some .boolean), Cond.methodLink RX8 139 yX8_isHalfOfFraction, Cond.static yX8_isHalfOfFraction, Cond.code yX8_isHalfOfFraction cX8_isHalfOfFraction 1 (some .boolean), Cond.methodLink RX8 180 yX8_aimAt, Cond.instanceMethod yX8_aimAt, Cond.selects RX8 yX8_aimAt yX8_aimAt, Cond.code yX8_aimAt cX8_aimAt 2 none, Cond.fieldLink RX8 10 "SplitBeliefs" "now" "LSplitBeliefs$State;", Cond.fieldLink RX8 73 "SplitBeliefs$State" "receivers" "LSplitBeliefs$Receivers;", Cond.methodLink RX8 235 yX0_draw, Cond.instanceMethod yX0_draw, Cond.selects RX0 yX0_draw yX0_draw, Cond.initialized RX0, Cond.code yX0_draw cX0_draw 3 none, Cond.fieldLink RX0 18 "SplitBeliefs$Curve" "cornerCount" "I"]
def wsX8_envelope_r2 : List Cond := [Cond.fieldLink RX0 9 "SplitBeliefs$Curve" "values" "[I", Cond.fieldLink RX0 15 "SplitBeliefs$Curve" "corners" "[I", Cond.methodLink RX0 34 yX5_valueAt, Cond.instanceMethod yX5_valueAt, Cond.selects RX5 yX5_valueAt yX5_valueAt, Cond.initialized RX5, Cond.code yX5_valueAt cX5_valueAt 6 (some .int), Cond.fieldLink RX5 24 "SplitBeliefs$Receivers" "number" "I", Cond.fieldLink RX5 21 "SplitBeliefs$Receivers" "bonuses" "[I", Cond.fieldLink RX5 18 "SplitBeliefs$Receivers" "pays" "[I", Cond.methodLink RX5 44 yX5_acts, Cond.instanceMethod yX5_acts, Cond.selects RX5 yX5_acts yX5_acts, Cond.code yX5_acts cX5_acts 3 (some .boolean), Cond.fieldLink RX5 15 "SplitBeliefs$Receivers" "gains" "[I", Cond.fieldLink RX5 11 "SplitBeliefs$Receivers" "losses" "[I", Cond.methodLink RX0 40 yX0_heightOver, Cond.instanceMethod yX0_heightOver, Cond.selects RX0 yX0_heightOver yX0_heightOver, Cond.code yX0_heightOver cX0_heightOver 4 (some .int), Cond.methodLink RX8 239 yX0_aim, Cond.instanceMethod yX0_aim, Cond.selects RX0 yX0_aim yX0_aim, Cond.code yX0_aim cX0_aim 5 none]
def wsX8_envelope_r3 : List Cond := [Cond.fieldLink RX0 22 "SplitBeliefs$Curve" "lower" "I", Cond.fieldLink RX0 25 "SplitBeliefs$Curve" "upper" "I", Cond.fieldLink RX0 28 "SplitBeliefs$Curve" "lowerWeight" "I", Cond.fieldLink RX0 31 "SplitBeliefs$Curve" "upperWeight" "I", Cond.methodLink RX0 48 Lib.Math.max.name, Cond.static Lib.Math.max.name, Cond.initialized "java/lang/Math", Cond.code Lib.Math.max.name Lib.Math.max.code 2 (some .int), Cond.static yX8_commonDivisor, Cond.code yX8_commonDivisor cX8_commonDivisor 6 (some .int), Cond.methodLink RX8 288 Lib.Math.abs.name, Cond.static Lib.Math.abs.name, Cond.code Lib.Math.abs.name Lib.Math.abs.code 1 (some .int), Cond.methodLink RX8 184 yX0_tellEnvelope, Cond.instanceMethod yX0_tellEnvelope, Cond.selects RX0 yX0_tellEnvelope yX0_tellEnvelope, Cond.code yX0_tellEnvelope cX0_tellEnvelope 2 none, Cond.methodLink RX0 53 yX0_valueSum, Cond.instanceMethod yX0_valueSum, Cond.selects RX0 yX0_valueSum yX0_valueSum, Cond.code yX0_valueSum cX0_valueSum 1 (some .int), Cond.methodLink RX0 57 yX1_become, Cond.instanceMethod yX1_become, Cond.selects RX1 yX1_become yX1_become]
def wsX8_envelope_r4 : List Cond := [Cond.initialized RX1, Cond.code yX1_become cX1_become 4 none, Cond.fieldLink RX1 7 "SplitBeliefs$Fraction" "above" "I", Cond.fieldLink RX1 13 "SplitBeliefs$Fraction" "below" "I"]
def wsX8_envelope : List Cond := .code yX8_envelope cX8_envelope 3 (some .int) :: ((wsX8_envelope_r1 ++ (wsX8_envelope_r2 ++ (wsX8_envelope_r3 ++ wsX8_envelope_r4))) ++ wsX80 ++ wsX10 ++ wsX70 ++ wsX00 ++ wsX50)
def wsX8_best_r1 : List Cond := [Cond.fieldLink RX8 48 "SplitBeliefs" "curve" "LSplitBeliefs$Curve;", Cond.fieldLink RX8 187 "SplitBeliefs$Curve" "lower" "I", Cond.fieldLink RX8 190 "SplitBeliefs$Curve" "upper" "I", Cond.fieldLink RX8 193 "SplitBeliefs$Curve" "lowerWeight" "I", Cond.fieldLink RX8 196 "SplitBeliefs$Curve" "upperWeight" "I", Cond.methodLink RX8 136 yX8_isPosterior, Cond.static yX8_isPosterior, Cond.initialized RX8, Cond.code yX8_isPosterior cX8_isPosterior 1 (some .boolean), Cond.methodLink RX8 180 yX8_aimAt, Cond.instanceMethod yX8_aimAt, Cond.selects RX8 yX8_aimAt yX8_aimAt, Cond.code yX8_aimAt cX8_aimAt 2 none, Cond.fieldLink RX8 10 "SplitBeliefs" "now" "LSplitBeliefs$State;", Cond.fieldLink RX8 73 "SplitBeliefs$State" "receivers" "LSplitBeliefs$Receivers;", Cond.methodLink RX8 235 yX0_draw, Cond.instanceMethod yX0_draw, Cond.selects RX0 yX0_draw yX0_draw, Cond.initialized RX0, Cond.code yX0_draw cX0_draw 3 none, Cond.fieldLink RX0 18 "SplitBeliefs$Curve" "cornerCount" "I", Cond.fieldLink RX0 9 "SplitBeliefs$Curve" "values" "[I", Cond.fieldLink RX0 15 "SplitBeliefs$Curve" "corners" "[I", Cond.methodLink RX0 34 yX5_valueAt]
def wsX8_best_r2 : List Cond := [Cond.instanceMethod yX5_valueAt, Cond.selects RX5 yX5_valueAt yX5_valueAt, Cond.initialized RX5, Cond.code yX5_valueAt cX5_valueAt 6 (some .int), Cond.fieldLink RX5 24 "SplitBeliefs$Receivers" "number" "I", Cond.fieldLink RX5 21 "SplitBeliefs$Receivers" "bonuses" "[I", Cond.fieldLink RX5 18 "SplitBeliefs$Receivers" "pays" "[I", Cond.methodLink RX5 44 yX5_acts, Cond.instanceMethod yX5_acts, Cond.selects RX5 yX5_acts yX5_acts, Cond.code yX5_acts cX5_acts 3 (some .boolean), Cond.fieldLink RX5 15 "SplitBeliefs$Receivers" "gains" "[I", Cond.fieldLink RX5 11 "SplitBeliefs$Receivers" "losses" "[I", Cond.methodLink RX0 40 yX0_heightOver, Cond.instanceMethod yX0_heightOver, Cond.selects RX0 yX0_heightOver yX0_heightOver, Cond.code yX0_heightOver cX0_heightOver 4 (some .int), Cond.methodLink RX8 239 yX0_aim, Cond.instanceMethod yX0_aim, Cond.selects RX0 yX0_aim yX0_aim, Cond.code yX0_aim cX0_aim 5 none, Cond.fieldLink RX0 22 "SplitBeliefs$Curve" "lower" "I", Cond.fieldLink RX0 25 "SplitBeliefs$Curve" "upper" "I", Cond.fieldLink RX0 28 "SplitBeliefs$Curve" "lowerWeight" "I"]
def wsX8_best_r3 : List Cond := [Cond.fieldLink RX0 31 "SplitBeliefs$Curve" "upperWeight" "I", Cond.methodLink RX0 48 Lib.Math.max.name, Cond.static Lib.Math.max.name, Cond.initialized "java/lang/Math", Cond.code Lib.Math.max.name Lib.Math.max.code 2 (some .int), Cond.static yX8_commonDivisor, Cond.code yX8_commonDivisor cX8_commonDivisor 6 (some .int), Cond.methodLink RX8 288 Lib.Math.abs.name, Cond.static Lib.Math.abs.name, Cond.code Lib.Math.abs.name Lib.Math.abs.code 1 (some .int)]
def wsX8_best : List Cond := .code yX8_best cX8_best 3 (some .int) :: ((wsX8_best_r1 ++ (wsX8_best_r2 ++ wsX8_best_r3)) ++ wsX80 ++ wsX00 ++ wsX70 ++ wsX50)
def wsX8_findMostGained_r1 : List Cond := [Cond.fieldLink RX8 48 "SplitBeliefs" "curve" "LSplitBeliefs$Curve;", Cond.fieldLink RX8 10 "SplitBeliefs" "now" "LSplitBeliefs$State;", Cond.fieldLink RX8 73 "SplitBeliefs$State" "receivers" "LSplitBeliefs$Receivers;", Cond.fieldLink RX8 55 "SplitBeliefs" "fraction" "LSplitBeliefs$Fraction;", Cond.fieldLink RX8 59 "SplitBeliefs" "other" "LSplitBeliefs$Fraction;", Cond.fieldLink RX8 146 "SplitBeliefs$Fraction" "above" "I", Cond.fieldLink RX8 151 "SplitBeliefs$Fraction" "below" "I", Cond.methodLink RX8 235 yX0_draw, Cond.instanceMethod yX0_draw, Cond.selects RX0 yX0_draw yX0_draw, Cond.initialized RX0, Cond.code yX0_draw cX0_draw 3 none, Cond.fieldLink RX0 18 "SplitBeliefs$Curve" "cornerCount" "I", Cond.fieldLink RX0 9 "SplitBeliefs$Curve" "values" "[I", Cond.fieldLink RX0 15 "SplitBeliefs$Curve" "corners" "[I", Cond.methodLink RX0 34 yX5_valueAt, Cond.instanceMethod yX5_valueAt, Cond.selects RX5 yX5_valueAt yX5_valueAt, Cond.initialized RX5, Cond.code yX5_valueAt cX5_valueAt 6 (some .int), Cond.fieldLink RX5 24 "SplitBeliefs$Receivers" "number" "I", Cond.fieldLink RX5 21 "SplitBeliefs$Receivers" "bonuses" "[I", Cond.fieldLink RX5 18 "SplitBeliefs$Receivers" "pays" "[I", Cond.methodLink RX5 44 yX5_acts]
def wsX8_findMostGained_r2 : List Cond := [Cond.instanceMethod yX5_acts, Cond.selects RX5 yX5_acts yX5_acts, Cond.code yX5_acts cX5_acts 3 (some .boolean), Cond.fieldLink RX5 15 "SplitBeliefs$Receivers" "gains" "[I", Cond.fieldLink RX5 11 "SplitBeliefs$Receivers" "losses" "[I", Cond.methodLink RX0 40 yX0_heightOver, Cond.instanceMethod yX0_heightOver, Cond.selects RX0 yX0_heightOver yX0_heightOver, Cond.code yX0_heightOver cX0_heightOver 4 (some .int), Cond.methodLink RX8 263 yX1_become, Cond.instanceMethod yX1_become, Cond.selects RX1 yX1_become yX1_become, Cond.initialized RX1, Cond.code yX1_become cX1_become 4 none, Cond.fieldLink RX1 7 "SplitBeliefs$Fraction" "above" "I", Cond.fieldLink RX1 13 "SplitBeliefs$Fraction" "below" "I", Cond.static yX8_commonDivisor, Cond.initialized RX8, Cond.code yX8_commonDivisor cX8_commonDivisor 6 (some .int), Cond.methodLink RX8 288 Lib.Math.abs.name, Cond.static Lib.Math.abs.name, Cond.initialized "java/lang/Math", Cond.code Lib.Math.abs.name Lib.Math.abs.code 1 (some .int), Cond.methodLink RX8 239 yX0_aim]
def wsX8_findMostGained_r3 : List Cond := [Cond.instanceMethod yX0_aim, Cond.selects RX0 yX0_aim yX0_aim, Cond.code yX0_aim cX0_aim 5 none, Cond.fieldLink RX0 22 "SplitBeliefs$Curve" "lower" "I", Cond.fieldLink RX0 25 "SplitBeliefs$Curve" "upper" "I", Cond.fieldLink RX0 28 "SplitBeliefs$Curve" "lowerWeight" "I", Cond.fieldLink RX0 31 "SplitBeliefs$Curve" "upperWeight" "I", Cond.methodLink RX0 48 Lib.Math.max.name, Cond.static Lib.Math.max.name, Cond.code Lib.Math.max.name Lib.Math.max.code 2 (some .int), Cond.methodLink RX8 266 yX0_tellGain, Cond.instanceMethod yX0_tellGain, Cond.selects RX0 yX0_tellGain yX0_tellGain, Cond.code yX0_tellGain cX0_tellGain 4 none, Cond.methodLink RX0 53 yX0_valueSum, Cond.instanceMethod yX0_valueSum, Cond.selects RX0 yX0_valueSum yX0_valueSum, Cond.code yX0_valueSum cX0_valueSum 1 (some .int), Cond.methodLink RX0 57 yX1_become, Cond.methodLink RX8 269 yX1_isAbove, Cond.instanceMethod yX1_isAbove, Cond.selects RX1 yX1_isAbove yX1_isAbove, Cond.code yX1_isAbove cX1_isAbove 2 (some .boolean)]
def wsX8_findMostGained : List Cond := .code yX8_findMostGained cX8_findMostGained 3 (some .int) :: ((wsX8_findMostGained_r1 ++ (wsX8_findMostGained_r2 ++ wsX8_findMostGained_r3)) ++ wsX80 ++ wsX70 ++ wsX10 ++ wsX00 ++ wsX50)
def wsX8_mostGained_r1 : List Cond := [Cond.fieldLink RX8 55 "SplitBeliefs" "fraction" "LSplitBeliefs$Fraction;", Cond.fieldLink RX8 146 "SplitBeliefs$Fraction" "above" "I", Cond.fieldLink RX8 151 "SplitBeliefs$Fraction" "below" "I", Cond.methodLink RX8 199 yX8_findMostGained, Cond.instanceMethod yX8_findMostGained, Cond.selects RX8 yX8_findMostGained yX8_findMostGained, Cond.initialized RX8, Cond.code yX8_findMostGained cX8_findMostGained 3 (some .int), Cond.fieldLink RX8 48 "SplitBeliefs" "curve" "LSplitBeliefs$Curve;", Cond.fieldLink RX8 10 "SplitBeliefs" "now" "LSplitBeliefs$State;", Cond.fieldLink RX8 73 "SplitBeliefs$State" "receivers" "LSplitBeliefs$Receivers;", Cond.fieldLink RX8 59 "SplitBeliefs" "other" "LSplitBeliefs$Fraction;", Cond.methodLink RX8 235 yX0_draw, Cond.instanceMethod yX0_draw, Cond.selects RX0 yX0_draw yX0_draw, Cond.initialized RX0, Cond.code yX0_draw cX0_draw 3 none, Cond.fieldLink RX0 18 "SplitBeliefs$Curve" "cornerCount" "I", Cond.fieldLink RX0 9 "SplitBeliefs$Curve" "values" "[I", Cond.fieldLink RX0 15 "SplitBeliefs$Curve" "corners" "[I", Cond.methodLink RX0 34 yX5_valueAt, Cond.instanceMethod yX5_valueAt, Cond.selects RX5 yX5_valueAt yX5_valueAt, Cond.initialized RX5]
def wsX8_mostGained_r2 : List Cond := [Cond.code yX5_valueAt cX5_valueAt 6 (some .int), Cond.fieldLink RX5 24 "SplitBeliefs$Receivers" "number" "I", Cond.fieldLink RX5 21 "SplitBeliefs$Receivers" "bonuses" "[I", Cond.fieldLink RX5 18 "SplitBeliefs$Receivers" "pays" "[I", Cond.methodLink RX5 44 yX5_acts, Cond.instanceMethod yX5_acts, Cond.selects RX5 yX5_acts yX5_acts, Cond.code yX5_acts cX5_acts 3 (some .boolean), Cond.fieldLink RX5 15 "SplitBeliefs$Receivers" "gains" "[I", Cond.fieldLink RX5 11 "SplitBeliefs$Receivers" "losses" "[I", Cond.methodLink RX0 40 yX0_heightOver, Cond.instanceMethod yX0_heightOver, Cond.selects RX0 yX0_heightOver yX0_heightOver, Cond.code yX0_heightOver cX0_heightOver 4 (some .int), Cond.methodLink RX8 263 yX1_become, Cond.instanceMethod yX1_become, Cond.selects RX1 yX1_become yX1_become, Cond.initialized RX1, Cond.code yX1_become cX1_become 4 none, Cond.fieldLink RX1 7 "SplitBeliefs$Fraction" "above" "I", Cond.fieldLink RX1 13 "SplitBeliefs$Fraction" "below" "I", Cond.static yX8_commonDivisor, Cond.code yX8_commonDivisor cX8_commonDivisor 6 (some .int), Cond.methodLink RX8 288 Lib.Math.abs.name]
def wsX8_mostGained_r3 : List Cond := [Cond.static Lib.Math.abs.name, Cond.initialized "java/lang/Math", Cond.code Lib.Math.abs.name Lib.Math.abs.code 1 (some .int), Cond.methodLink RX8 239 yX0_aim, Cond.instanceMethod yX0_aim, Cond.selects RX0 yX0_aim yX0_aim, Cond.code yX0_aim cX0_aim 5 none, Cond.fieldLink RX0 22 "SplitBeliefs$Curve" "lower" "I", Cond.fieldLink RX0 25 "SplitBeliefs$Curve" "upper" "I", Cond.fieldLink RX0 28 "SplitBeliefs$Curve" "lowerWeight" "I", Cond.fieldLink RX0 31 "SplitBeliefs$Curve" "upperWeight" "I", Cond.methodLink RX0 48 Lib.Math.max.name, Cond.static Lib.Math.max.name, Cond.code Lib.Math.max.name Lib.Math.max.code 2 (some .int), Cond.methodLink RX8 266 yX0_tellGain, Cond.instanceMethod yX0_tellGain, Cond.selects RX0 yX0_tellGain yX0_tellGain, Cond.code yX0_tellGain cX0_tellGain 4 none, Cond.methodLink RX0 53 yX0_valueSum, Cond.instanceMethod yX0_valueSum, Cond.selects RX0 yX0_valueSum yX0_valueSum, Cond.code yX0_valueSum cX0_valueSum 1 (some .int), Cond.methodLink RX0 57 yX1_become, Cond.methodLink RX8 269 yX1_isAbove]
def wsX8_mostGained_r4 : List Cond := [Cond.instanceMethod yX1_isAbove, Cond.selects RX1 yX1_isAbove yX1_isAbove, Cond.code yX1_isAbove cX1_isAbove 2 (some .boolean)]
def wsX8_mostGained : List Cond := .code yX8_mostGained cX8_mostGained 3 (some .int) :: ((wsX8_mostGained_r1 ++ (wsX8_mostGained_r2 ++ (wsX8_mostGained_r3 ++ wsX8_mostGained_r4))) ++ wsX80 ++ wsX10 ++ wsX70 ++ wsX00 ++ wsX50)
def wsX8_put : List Cond := .code yX8_put cX8_put 3 (some .int) :: ([.fieldLink RX8 34 "SplitBeliefs" "pad" "LSplitBeliefs$Pad;", .methodLink RX8 202 yX4_append, .instanceMethod yX4_append, .selects RX4 yX4_append yX4_append, .initialized RX4, .code yX4_append cX4_append 7 (some .int), .constantLong RX4 34 (255), .fieldLink RX4 21 "SplitBeliefs$Pad" "length" "I", .fieldLink RX4 11 "SplitBeliefs$Pad" "signs" "[C"] ++ wsX80 ++ wsX40)
def wsX8_wipe : List Cond := .code yX8_wipe cX8_wipe 2 (some .int) :: ([.fieldLink RX8 34 "SplitBeliefs" "pad" "LSplitBeliefs$Pad;", .fieldLink RX8 174 "SplitBeliefs$Pad" "length" "I"] ++ wsX80 ++ wsX40)
def wsX8_fault_r1 : List Cond := [Cond.fieldLink RX8 34 "SplitBeliefs" "pad" "LSplitBeliefs$Pad;", Cond.methodLink RX8 206 yX4_firstFault, Cond.instanceMethod yX4_firstFault, Cond.selects RX4 yX4_firstFault yX4_firstFault, Cond.initialized RX4, Cond.code yX4_firstFault cX4_firstFault 2 (some .int), Cond.fieldLink RX4 25 "SplitBeliefs$Pad" "at" "I", Cond.fieldLink RX4 21 "SplitBeliefs$Pad" "length" "I", Cond.methodLink RX4 36 yX4_readNext, Cond.instanceMethod yX4_readNext, Cond.selects RX4 yX4_readNext yX4_readNext, Cond.code yX4_readNext cX4_readNext 1 (some .boolean), Cond.fieldLink RX4 31 "SplitBeliefs$Pad" "told" "I", Cond.fieldLink RX4 28 "SplitBeliefs$Pad" "order" "I", Cond.methodLink RX4 40 yX4_skip, Cond.instanceMethod yX4_skip, Cond.selects RX4 yX4_skip yX4_skip, Cond.code yX4_skip cX4_skip 2 (some .boolean), Cond.methodLink RX4 44 yX4_sign, Cond.instanceMethod yX4_sign, Cond.selects RX4 yX4_sign yX4_sign, Cond.code yX4_sign cX4_sign 1 (some .int), Cond.fieldLink RX4 11 "SplitBeliefs$Pad" "signs" "[C", Cond.methodLink RX4 48 yX4_readHire]
def wsX8_fault_r2 : List Cond := [Cond.instanceMethod yX4_readHire, Cond.selects RX4 yX4_readHire yX4_readHire, Cond.code yX4_readHire cX4_readHire 2 (some .boolean), Cond.fieldLink RX4 17 "SplitBeliefs$Pad" "numbers" "[I", Cond.methodLink RX4 54 yX4_readNumber, Cond.instanceMethod yX4_readNumber, Cond.selects RX4 yX4_readNumber yX4_readNumber, Cond.code yX4_readNumber cX4_readNumber 2 (some .boolean), Cond.methodLink RX4 64 yX4_isDigit, Cond.static yX4_isDigit, Cond.code yX4_isDigit cX4_isDigit 1 (some .boolean), Cond.methodLink RX4 60 yX4_tell, Cond.instanceMethod yX4_tell, Cond.selects RX4 yX4_tell yX4_tell, Cond.code yX4_tell cX4_tell 2 none, Cond.methodLink RX4 51 yX4_readDigit, Cond.instanceMethod yX4_readDigit, Cond.selects RX4 yX4_readDigit yX4_readDigit, Cond.code yX4_readDigit cX4_readDigit 2 (some .boolean), Cond.methodLink RX4 57 yX4_readParts, Cond.instanceMethod yX4_readParts, Cond.selects RX4 yX4_readParts yX4_readParts, Cond.code yX4_readParts cX4_readParts 2 (some .boolean)]
def wsX8_fault : List Cond := .code yX8_fault cX8_fault 1 (some .int) :: ((wsX8_fault_r1 ++ wsX8_fault_r2) ++ wsX80 ++ wsX40)
def wsX8_takeTold_r1 : List Cond := [Cond.fieldLink RX8 41 "SplitBeliefs" "mix" "LSplitBeliefs$Mix;", Cond.fieldLink RX8 34 "SplitBeliefs" "pad" "LSplitBeliefs$Pad;", Cond.fieldLink RX8 245 "SplitBeliefs$Pad" "told" "I", Cond.fieldLink RX8 10 "SplitBeliefs" "now" "LSplitBeliefs$State;", Cond.fieldLink RX8 158 "SplitBeliefs$State" "prior" "I", Cond.methodLink RX8 242 yX3_clear, Cond.instanceMethod yX3_clear, Cond.selects RX3 yX3_clear yX3_clear, Cond.initialized RX3, Cond.code yX3_clear cX3_clear 2 none, Cond.fieldLink RX3 9 "SplitBeliefs$Mix" "weightAt" "[I", Cond.methodLink RX8 248 yX4_number, Cond.instanceMethod yX4_number, Cond.selects RX4 yX4_number yX4_number, Cond.initialized RX4, Cond.code yX4_number cX4_number 2 (some .int), Cond.fieldLink RX4 31 "SplitBeliefs$Pad" "told" "I", Cond.fieldLink RX4 17 "SplitBeliefs$Pad" "numbers" "[I", Cond.methodLink RX8 136 yX8_isPosterior, Cond.static yX8_isPosterior, Cond.initialized RX8, Cond.code yX8_isPosterior cX8_isPosterior 1 (some .boolean), Cond.methodLink RX8 228 yX3_add, Cond.instanceMethod yX3_add]
def wsX8_takeTold_r2 : List Cond := [Cond.selects RX3 yX3_add yX3_add, Cond.code yX3_add cX3_add 3 none, Cond.methodLink RX8 250 yX3_reduce, Cond.instanceMethod yX3_reduce, Cond.selects RX3 yX3_reduce yX3_reduce, Cond.code yX3_reduce cX3_reduce 3 none, Cond.static yX8_commonDivisor, Cond.code yX8_commonDivisor cX8_commonDivisor 6 (some .int), Cond.methodLink RX8 288 Lib.Math.abs.name, Cond.static Lib.Math.abs.name, Cond.initialized "java/lang/Math", Cond.code Lib.Math.abs.name Lib.Math.abs.code 1 (some .int), Cond.methodLink RX8 253 yX3_fits, Cond.instanceMethod yX3_fits, Cond.selects RX3 yX3_fits yX3_fits, Cond.code yX3_fits cX3_fits 3 (some .boolean), Cond.methodLink RX8 256 yX3_averagesTo, Cond.instanceMethod yX3_averagesTo, Cond.selects RX3 yX3_averagesTo yX3_averagesTo, Cond.code yX3_averagesTo cX3_averagesTo 4 (some .boolean), Cond.methodLink RX8 232 yX8_takeMix, Cond.instanceMethod yX8_takeMix, Cond.selects RX8 yX8_takeMix yX8_takeMix, Cond.code yX8_takeMix cX8_takeMix 1 (some .int)]
def wsX8_takeTold_r3 : List Cond := [Cond.fieldLink RX8 117 "SplitBeliefs$State" "split" "LSplitBeliefs$Split;", Cond.fieldLink RX8 164 "SplitBeliefs$Split" "parts" "I", Cond.methodLink RX8 259 yX3_pourInto, Cond.instanceMethod yX3_pourInto, Cond.selects RX3 yX3_pourInto yX3_pourInto, Cond.code yX3_pourInto cX3_pourInto 3 none, Cond.fieldLink RX3 18 "SplitBeliefs$Split" "parts" "I", Cond.methodLink RX3 42 yX6_append, Cond.instanceMethod yX6_append, Cond.selects RX6 yX6_append yX6_append, Cond.initialized RX6, Cond.code yX6_append cX6_append 3 none, Cond.fieldLink RX6 16 "SplitBeliefs$Split" "parts" "I", Cond.fieldLink RX6 9 "SplitBeliefs$Split" "weights" "[I", Cond.fieldLink RX6 13 "SplitBeliefs$Split" "posteriors" "[I"]
def wsX8_takeTold : List Cond := .code yX8_takeTold cX8_takeTold 4 (some .int) :: ((wsX8_takeTold_r1 ++ (wsX8_takeTold_r2 ++ wsX8_takeTold_r3)) ++ wsX80 ++ wsX40 ++ wsX70 ++ wsX30 ++ wsX60)
def wsX8_obey_r1 : List Cond := [Cond.fieldLink RX8 34 "SplitBeliefs" "pad" "LSplitBeliefs$Pad;", Cond.fieldLink RX8 282 "SplitBeliefs$Pad" "order" "I", Cond.fieldLink RX8 10 "SplitBeliefs" "now" "LSplitBeliefs$State;", Cond.fieldLink RX8 73 "SplitBeliefs$State" "receivers" "LSplitBeliefs$Receivers;", Cond.methodLink RX8 248 yX4_number, Cond.instanceMethod yX4_number, Cond.selects RX4 yX4_number yX4_number, Cond.initialized RX4, Cond.code yX4_number cX4_number 2 (some .int), Cond.fieldLink RX4 31 "SplitBeliefs$Pad" "told" "I", Cond.fieldLink RX4 17 "SplitBeliefs$Pad" "numbers" "[I", Cond.methodLink RX8 77 yX5_admit, Cond.instanceMethod yX5_admit, Cond.selects RX5 yX5_admit yX5_admit, Cond.initialized RX5, Cond.code yX5_admit cX5_admit 5 (some .int), Cond.fieldLink RX5 24 "SplitBeliefs$Receivers" "number" "I", Cond.fieldLink RX5 11 "SplitBeliefs$Receivers" "losses" "[I", Cond.fieldLink RX5 15 "SplitBeliefs$Receivers" "gains" "[I", Cond.fieldLink RX5 18 "SplitBeliefs$Receivers" "pays" "[I", Cond.fieldLink RX5 21 "SplitBeliefs$Receivers" "bonuses" "[I", Cond.methodLink RX8 83 yX5_remove, Cond.instanceMethod yX5_remove, Cond.selects RX5 yX5_remove yX5_remove]
def wsX8_obey_r2 : List Cond := [Cond.code yX5_remove cX5_remove 3 (some .int), Cond.methodLink RX5 34 yX5_has, Cond.instanceMethod yX5_has, Cond.selects RX5 yX5_has yX5_has, Cond.code yX5_has cX5_has 2 (some .boolean), Cond.methodLink RX8 66 yX7_movePrior, Cond.instanceMethod yX7_movePrior, Cond.selects RX7 yX7_movePrior yX7_movePrior, Cond.initialized RX7, Cond.code yX7_movePrior cX7_movePrior 3 (some .int), Cond.fieldLink RX7 25 "SplitBeliefs$State" "prior" "I", Cond.fieldLink RX7 21 "SplitBeliefs$State" "split" "LSplitBeliefs$Split;", Cond.methodLink RX7 29 yX6_becomeOne, Cond.instanceMethod yX6_becomeOne, Cond.selects RX6 yX6_becomeOne yX6_becomeOne, Cond.initialized RX6, Cond.code yX6_becomeOne cX6_becomeOne 2 none, Cond.fieldLink RX6 16 "SplitBeliefs$Split" "parts" "I", Cond.methodLink RX6 26 yX6_append, Cond.instanceMethod yX6_append, Cond.selects RX6 yX6_append yX6_append, Cond.code yX6_append cX6_append 3 none, Cond.fieldLink RX6 9 "SplitBeliefs$Split" "weights" "[I", Cond.fieldLink RX6 13 "SplitBeliefs$Split" "posteriors" "[I"]
def wsX8_obey_r3 : List Cond := [Cond.methodLink RX8 285 yX8_takeTold, Cond.instanceMethod yX8_takeTold, Cond.selects RX8 yX8_takeTold yX8_takeTold, Cond.initialized RX8, Cond.code yX8_takeTold cX8_takeTold 4 (some .int), Cond.fieldLink RX8 41 "SplitBeliefs" "mix" "LSplitBeliefs$Mix;", Cond.fieldLink RX8 245 "SplitBeliefs$Pad" "told" "I", Cond.fieldLink RX8 158 "SplitBeliefs$State" "prior" "I", Cond.methodLink RX8 242 yX3_clear, Cond.instanceMethod yX3_clear, Cond.selects RX3 yX3_clear yX3_clear, Cond.initialized RX3, Cond.code yX3_clear cX3_clear 2 none, Cond.fieldLink RX3 9 "SplitBeliefs$Mix" "weightAt" "[I", Cond.methodLink RX8 136 yX8_isPosterior, Cond.static yX8_isPosterior, Cond.code yX8_isPosterior cX8_isPosterior 1 (some .boolean), Cond.methodLink RX8 228 yX3_add, Cond.instanceMethod yX3_add, Cond.selects RX3 yX3_add yX3_add, Cond.code yX3_add cX3_add 3 none, Cond.methodLink RX8 250 yX3_reduce, Cond.instanceMethod yX3_reduce, Cond.selects RX3 yX3_reduce yX3_reduce]
def wsX8_obey_r4 : List Cond := [Cond.code yX3_reduce cX3_reduce 3 none, Cond.static yX8_commonDivisor, Cond.code yX8_commonDivisor cX8_commonDivisor 6 (some .int), Cond.methodLink RX8 288 Lib.Math.abs.name, Cond.static Lib.Math.abs.name, Cond.initialized "java/lang/Math", Cond.code Lib.Math.abs.name Lib.Math.abs.code 1 (some .int), Cond.methodLink RX8 253 yX3_fits, Cond.instanceMethod yX3_fits, Cond.selects RX3 yX3_fits yX3_fits, Cond.code yX3_fits cX3_fits 3 (some .boolean), Cond.methodLink RX8 256 yX3_averagesTo, Cond.instanceMethod yX3_averagesTo, Cond.selects RX3 yX3_averagesTo yX3_averagesTo, Cond.code yX3_averagesTo cX3_averagesTo 4 (some .boolean), Cond.methodLink RX8 232 yX8_takeMix, Cond.instanceMethod yX8_takeMix, Cond.selects RX8 yX8_takeMix yX8_takeMix, Cond.code yX8_takeMix cX8_takeMix 1 (some .int), Cond.fieldLink RX8 117 "SplitBeliefs$State" "split" "LSplitBeliefs$Split;", Cond.fieldLink RX8 164 "SplitBeliefs$Split" "parts" "I", Cond.methodLink RX8 259 yX3_pourInto, Cond.instanceMethod yX3_pourInto, Cond.selects RX3 yX3_pourInto yX3_pourInto]
def wsX8_obey_r5 : List Cond := [Cond.code yX3_pourInto cX3_pourInto 3 none, Cond.fieldLink RX3 18 "SplitBeliefs$Split" "parts" "I", Cond.methodLink RX3 42 yX6_append, Cond.methodLink RX8 93 yX8_takeBest, Cond.instanceMethod yX8_takeBest, Cond.selects RX8 yX8_takeBest yX8_takeBest, Cond.code yX8_takeBest cX8_takeBest 1 (some .int), Cond.fieldLink RX8 48 "SplitBeliefs" "curve" "LSplitBeliefs$Curve;", Cond.fieldLink RX8 187 "SplitBeliefs$Curve" "lower" "I", Cond.fieldLink RX8 193 "SplitBeliefs$Curve" "lowerWeight" "I", Cond.fieldLink RX8 190 "SplitBeliefs$Curve" "upper" "I", Cond.fieldLink RX8 196 "SplitBeliefs$Curve" "upperWeight" "I", Cond.methodLink RX8 235 yX0_draw, Cond.instanceMethod yX0_draw, Cond.selects RX0 yX0_draw yX0_draw, Cond.initialized RX0, Cond.code yX0_draw cX0_draw 3 none, Cond.fieldLink RX0 18 "SplitBeliefs$Curve" "cornerCount" "I", Cond.fieldLink RX0 9 "SplitBeliefs$Curve" "values" "[I", Cond.fieldLink RX0 15 "SplitBeliefs$Curve" "corners" "[I", Cond.methodLink RX0 34 yX5_valueAt, Cond.instanceMethod yX5_valueAt, Cond.selects RX5 yX5_valueAt yX5_valueAt, Cond.code yX5_valueAt cX5_valueAt 6 (some .int)]
def wsX8_obey_r6 : List Cond := [Cond.methodLink RX5 44 yX5_acts, Cond.instanceMethod yX5_acts, Cond.selects RX5 yX5_acts yX5_acts, Cond.code yX5_acts cX5_acts 3 (some .boolean), Cond.methodLink RX0 40 yX0_heightOver, Cond.instanceMethod yX0_heightOver, Cond.selects RX0 yX0_heightOver yX0_heightOver, Cond.code yX0_heightOver cX0_heightOver 4 (some .int), Cond.methodLink RX8 239 yX0_aim, Cond.instanceMethod yX0_aim, Cond.selects RX0 yX0_aim yX0_aim, Cond.code yX0_aim cX0_aim 5 none, Cond.fieldLink RX0 22 "SplitBeliefs$Curve" "lower" "I", Cond.fieldLink RX0 25 "SplitBeliefs$Curve" "upper" "I", Cond.fieldLink RX0 28 "SplitBeliefs$Curve" "lowerWeight" "I", Cond.fieldLink RX0 31 "SplitBeliefs$Curve" "upperWeight" "I", Cond.methodLink RX0 48 Lib.Math.max.name, Cond.static Lib.Math.max.name, Cond.code Lib.Math.max.name Lib.Math.max.code 2 (some .int)]
def wsX8_obey : List Cond := .code yX8_obey cX8_obey 1 (some .int) :: ((wsX8_obey_r1 ++ (wsX8_obey_r2 ++ (wsX8_obey_r3 ++ (wsX8_obey_r4 ++ (wsX8_obey_r5 ++ wsX8_obey_r6))))) ++ wsX80 ++ wsX40 ++ wsX70 ++ wsX50 ++ wsX60 ++ wsX30 ++ wsX00)
def wsX8_obeyAll_r1 : List Cond := [Cond.fieldLink RX8 34 "SplitBeliefs" "pad" "LSplitBeliefs$Pad;", Cond.fieldLink RX8 273 "SplitBeliefs$Pad" "at" "I", Cond.fieldLink RX8 174 "SplitBeliefs$Pad" "length" "I", Cond.methodLink RX8 276 yX4_readNext, Cond.instanceMethod yX4_readNext, Cond.selects RX4 yX4_readNext yX4_readNext, Cond.initialized RX4, Cond.code yX4_readNext cX4_readNext 1 (some .boolean), Cond.fieldLink RX4 25 "SplitBeliefs$Pad" "at" "I", Cond.fieldLink RX4 31 "SplitBeliefs$Pad" "told" "I", Cond.fieldLink RX4 28 "SplitBeliefs$Pad" "order" "I", Cond.methodLink RX4 40 yX4_skip, Cond.instanceMethod yX4_skip, Cond.selects RX4 yX4_skip yX4_skip, Cond.code yX4_skip cX4_skip 2 (some .boolean), Cond.methodLink RX4 44 yX4_sign, Cond.instanceMethod yX4_sign, Cond.selects RX4 yX4_sign yX4_sign, Cond.code yX4_sign cX4_sign 1 (some .int), Cond.fieldLink RX4 21 "SplitBeliefs$Pad" "length" "I", Cond.fieldLink RX4 11 "SplitBeliefs$Pad" "signs" "[C", Cond.methodLink RX4 48 yX4_readHire, Cond.instanceMethod yX4_readHire, Cond.selects RX4 yX4_readHire yX4_readHire]
def wsX8_obeyAll_r2 : List Cond := [Cond.code yX4_readHire cX4_readHire 2 (some .boolean), Cond.fieldLink RX4 17 "SplitBeliefs$Pad" "numbers" "[I", Cond.methodLink RX4 54 yX4_readNumber, Cond.instanceMethod yX4_readNumber, Cond.selects RX4 yX4_readNumber yX4_readNumber, Cond.code yX4_readNumber cX4_readNumber 2 (some .boolean), Cond.methodLink RX4 64 yX4_isDigit, Cond.static yX4_isDigit, Cond.code yX4_isDigit cX4_isDigit 1 (some .boolean), Cond.methodLink RX4 60 yX4_tell, Cond.instanceMethod yX4_tell, Cond.selects RX4 yX4_tell yX4_tell, Cond.code yX4_tell cX4_tell 2 none, Cond.methodLink RX4 51 yX4_readDigit, Cond.instanceMethod yX4_readDigit, Cond.selects RX4 yX4_readDigit yX4_readDigit, Cond.code yX4_readDigit cX4_readDigit 2 (some .boolean), Cond.methodLink RX4 57 yX4_readParts, Cond.instanceMethod yX4_readParts, Cond.selects RX4 yX4_readParts yX4_readParts, Cond.code yX4_readParts cX4_readParts 2 (some .boolean), Cond.methodLink RX8 279 yX8_obey, Cond.instanceMethod yX8_obey, Cond.selects RX8 yX8_obey yX8_obey]
def wsX8_obeyAll_r3 : List Cond := [Cond.initialized RX8, Cond.code yX8_obey cX8_obey 1 (some .int), Cond.fieldLink RX8 282 "SplitBeliefs$Pad" "order" "I", Cond.fieldLink RX8 10 "SplitBeliefs" "now" "LSplitBeliefs$State;", Cond.fieldLink RX8 73 "SplitBeliefs$State" "receivers" "LSplitBeliefs$Receivers;", Cond.methodLink RX8 248 yX4_number, Cond.instanceMethod yX4_number, Cond.selects RX4 yX4_number yX4_number, Cond.code yX4_number cX4_number 2 (some .int), Cond.methodLink RX8 77 yX5_admit, Cond.instanceMethod yX5_admit, Cond.selects RX5 yX5_admit yX5_admit, Cond.initialized RX5, Cond.code yX5_admit cX5_admit 5 (some .int), Cond.fieldLink RX5 24 "SplitBeliefs$Receivers" "number" "I", Cond.fieldLink RX5 11 "SplitBeliefs$Receivers" "losses" "[I", Cond.fieldLink RX5 15 "SplitBeliefs$Receivers" "gains" "[I", Cond.fieldLink RX5 18 "SplitBeliefs$Receivers" "pays" "[I", Cond.fieldLink RX5 21 "SplitBeliefs$Receivers" "bonuses" "[I", Cond.methodLink RX8 83 yX5_remove, Cond.instanceMethod yX5_remove, Cond.selects RX5 yX5_remove yX5_remove, Cond.code yX5_remove cX5_remove 3 (some .int), Cond.methodLink RX5 34 yX5_has]
def wsX8_obeyAll_r4 : List Cond := [Cond.instanceMethod yX5_has, Cond.selects RX5 yX5_has yX5_has, Cond.code yX5_has cX5_has 2 (some .boolean), Cond.methodLink RX8 66 yX7_movePrior, Cond.instanceMethod yX7_movePrior, Cond.selects RX7 yX7_movePrior yX7_movePrior, Cond.initialized RX7, Cond.code yX7_movePrior cX7_movePrior 3 (some .int), Cond.fieldLink RX7 25 "SplitBeliefs$State" "prior" "I", Cond.fieldLink RX7 21 "SplitBeliefs$State" "split" "LSplitBeliefs$Split;", Cond.methodLink RX7 29 yX6_becomeOne, Cond.instanceMethod yX6_becomeOne, Cond.selects RX6 yX6_becomeOne yX6_becomeOne, Cond.initialized RX6, Cond.code yX6_becomeOne cX6_becomeOne 2 none, Cond.fieldLink RX6 16 "SplitBeliefs$Split" "parts" "I", Cond.methodLink RX6 26 yX6_append, Cond.instanceMethod yX6_append, Cond.selects RX6 yX6_append yX6_append, Cond.code yX6_append cX6_append 3 none, Cond.fieldLink RX6 9 "SplitBeliefs$Split" "weights" "[I", Cond.fieldLink RX6 13 "SplitBeliefs$Split" "posteriors" "[I", Cond.methodLink RX8 285 yX8_takeTold, Cond.instanceMethod yX8_takeTold]
def wsX8_obeyAll_r5 : List Cond := [Cond.selects RX8 yX8_takeTold yX8_takeTold, Cond.code yX8_takeTold cX8_takeTold 4 (some .int), Cond.fieldLink RX8 41 "SplitBeliefs" "mix" "LSplitBeliefs$Mix;", Cond.fieldLink RX8 245 "SplitBeliefs$Pad" "told" "I", Cond.fieldLink RX8 158 "SplitBeliefs$State" "prior" "I", Cond.methodLink RX8 242 yX3_clear, Cond.instanceMethod yX3_clear, Cond.selects RX3 yX3_clear yX3_clear, Cond.initialized RX3, Cond.code yX3_clear cX3_clear 2 none, Cond.fieldLink RX3 9 "SplitBeliefs$Mix" "weightAt" "[I", Cond.methodLink RX8 136 yX8_isPosterior, Cond.static yX8_isPosterior, Cond.code yX8_isPosterior cX8_isPosterior 1 (some .boolean), Cond.methodLink RX8 228 yX3_add, Cond.instanceMethod yX3_add, Cond.selects RX3 yX3_add yX3_add, Cond.code yX3_add cX3_add 3 none, Cond.methodLink RX8 250 yX3_reduce, Cond.instanceMethod yX3_reduce, Cond.selects RX3 yX3_reduce yX3_reduce, Cond.code yX3_reduce cX3_reduce 3 none, Cond.static yX8_commonDivisor, Cond.code yX8_commonDivisor cX8_commonDivisor 6 (some .int)]
def wsX8_obeyAll_r6 : List Cond := [Cond.methodLink RX8 288 Lib.Math.abs.name, Cond.static Lib.Math.abs.name, Cond.initialized "java/lang/Math", Cond.code Lib.Math.abs.name Lib.Math.abs.code 1 (some .int), Cond.methodLink RX8 253 yX3_fits, Cond.instanceMethod yX3_fits, Cond.selects RX3 yX3_fits yX3_fits, Cond.code yX3_fits cX3_fits 3 (some .boolean), Cond.methodLink RX8 256 yX3_averagesTo, Cond.instanceMethod yX3_averagesTo, Cond.selects RX3 yX3_averagesTo yX3_averagesTo, Cond.code yX3_averagesTo cX3_averagesTo 4 (some .boolean), Cond.methodLink RX8 232 yX8_takeMix, Cond.instanceMethod yX8_takeMix, Cond.selects RX8 yX8_takeMix yX8_takeMix, Cond.code yX8_takeMix cX8_takeMix 1 (some .int), Cond.fieldLink RX8 117 "SplitBeliefs$State" "split" "LSplitBeliefs$Split;", Cond.fieldLink RX8 164 "SplitBeliefs$Split" "parts" "I", Cond.methodLink RX8 259 yX3_pourInto, Cond.instanceMethod yX3_pourInto, Cond.selects RX3 yX3_pourInto yX3_pourInto, Cond.code yX3_pourInto cX3_pourInto 3 none, Cond.fieldLink RX3 18 "SplitBeliefs$Split" "parts" "I", Cond.methodLink RX3 42 yX6_append]
def wsX8_obeyAll_r7 : List Cond := [Cond.methodLink RX8 93 yX8_takeBest, Cond.instanceMethod yX8_takeBest, Cond.selects RX8 yX8_takeBest yX8_takeBest, Cond.code yX8_takeBest cX8_takeBest 1 (some .int), Cond.fieldLink RX8 48 "SplitBeliefs" "curve" "LSplitBeliefs$Curve;", Cond.fieldLink RX8 187 "SplitBeliefs$Curve" "lower" "I", Cond.fieldLink RX8 193 "SplitBeliefs$Curve" "lowerWeight" "I", Cond.fieldLink RX8 190 "SplitBeliefs$Curve" "upper" "I", Cond.fieldLink RX8 196 "SplitBeliefs$Curve" "upperWeight" "I", Cond.methodLink RX8 235 yX0_draw, Cond.instanceMethod yX0_draw, Cond.selects RX0 yX0_draw yX0_draw, Cond.initialized RX0, Cond.code yX0_draw cX0_draw 3 none, Cond.fieldLink RX0 18 "SplitBeliefs$Curve" "cornerCount" "I", Cond.fieldLink RX0 9 "SplitBeliefs$Curve" "values" "[I", Cond.fieldLink RX0 15 "SplitBeliefs$Curve" "corners" "[I", Cond.methodLink RX0 34 yX5_valueAt, Cond.instanceMethod yX5_valueAt, Cond.selects RX5 yX5_valueAt yX5_valueAt, Cond.code yX5_valueAt cX5_valueAt 6 (some .int), Cond.methodLink RX5 44 yX5_acts, Cond.instanceMethod yX5_acts, Cond.selects RX5 yX5_acts yX5_acts]
def wsX8_obeyAll_r8 : List Cond := [Cond.code yX5_acts cX5_acts 3 (some .boolean), Cond.methodLink RX0 40 yX0_heightOver, Cond.instanceMethod yX0_heightOver, Cond.selects RX0 yX0_heightOver yX0_heightOver, Cond.code yX0_heightOver cX0_heightOver 4 (some .int), Cond.methodLink RX8 239 yX0_aim, Cond.instanceMethod yX0_aim, Cond.selects RX0 yX0_aim yX0_aim, Cond.code yX0_aim cX0_aim 5 none, Cond.fieldLink RX0 22 "SplitBeliefs$Curve" "lower" "I", Cond.fieldLink RX0 25 "SplitBeliefs$Curve" "upper" "I", Cond.fieldLink RX0 28 "SplitBeliefs$Curve" "lowerWeight" "I", Cond.fieldLink RX0 31 "SplitBeliefs$Curve" "upperWeight" "I", Cond.methodLink RX0 48 Lib.Math.max.name, Cond.static Lib.Math.max.name, Cond.code Lib.Math.max.name Lib.Math.max.code 2 (some .int)]
def wsX8_obeyAll : List Cond := .code yX8_obeyAll cX8_obeyAll 2 (some .int) :: ((wsX8_obeyAll_r1 ++ (wsX8_obeyAll_r2 ++ (wsX8_obeyAll_r3 ++ (wsX8_obeyAll_r4 ++ (wsX8_obeyAll_r5 ++ (wsX8_obeyAll_r6 ++ (wsX8_obeyAll_r7 ++ wsX8_obeyAll_r8))))))) ++ wsX80 ++ wsX40 ++ wsX70 ++ wsX50 ++ wsX60 ++ wsX30 ++ wsX00)
def wsX8_carryOut_r1 : List Cond := [Cond.fieldLink RX8 34 "SplitBeliefs" "pad" "LSplitBeliefs$Pad;", Cond.fieldLink RX8 19 "SplitBeliefs" "history" "LSplitBeliefs$History;", Cond.fieldLink RX8 10 "SplitBeliefs" "now" "LSplitBeliefs$State;", Cond.fieldLink RX8 174 "SplitBeliefs$Pad" "length" "I", Cond.methodLink RX8 206 yX4_firstFault, Cond.instanceMethod yX4_firstFault, Cond.selects RX4 yX4_firstFault yX4_firstFault, Cond.initialized RX4, Cond.code yX4_firstFault cX4_firstFault 2 (some .int), Cond.fieldLink RX4 25 "SplitBeliefs$Pad" "at" "I", Cond.fieldLink RX4 21 "SplitBeliefs$Pad" "length" "I", Cond.methodLink RX4 36 yX4_readNext, Cond.instanceMethod yX4_readNext, Cond.selects RX4 yX4_readNext yX4_readNext, Cond.code yX4_readNext cX4_readNext 1 (some .boolean), Cond.fieldLink RX4 31 "SplitBeliefs$Pad" "told" "I", Cond.fieldLink RX4 28 "SplitBeliefs$Pad" "order" "I", Cond.methodLink RX4 40 yX4_skip, Cond.instanceMethod yX4_skip, Cond.selects RX4 yX4_skip yX4_skip, Cond.code yX4_skip cX4_skip 2 (some .boolean), Cond.methodLink RX4 44 yX4_sign, Cond.instanceMethod yX4_sign, Cond.selects RX4 yX4_sign yX4_sign]
def wsX8_carryOut_r2 : List Cond := [Cond.code yX4_sign cX4_sign 1 (some .int), Cond.fieldLink RX4 11 "SplitBeliefs$Pad" "signs" "[C", Cond.methodLink RX4 48 yX4_readHire, Cond.instanceMethod yX4_readHire, Cond.selects RX4 yX4_readHire yX4_readHire, Cond.code yX4_readHire cX4_readHire 2 (some .boolean), Cond.fieldLink RX4 17 "SplitBeliefs$Pad" "numbers" "[I", Cond.methodLink RX4 54 yX4_readNumber, Cond.instanceMethod yX4_readNumber, Cond.selects RX4 yX4_readNumber yX4_readNumber, Cond.code yX4_readNumber cX4_readNumber 2 (some .boolean), Cond.methodLink RX4 64 yX4_isDigit, Cond.static yX4_isDigit, Cond.code yX4_isDigit cX4_isDigit 1 (some .boolean), Cond.methodLink RX4 60 yX4_tell, Cond.instanceMethod yX4_tell, Cond.selects RX4 yX4_tell yX4_tell, Cond.code yX4_tell cX4_tell 2 none, Cond.methodLink RX4 51 yX4_readDigit, Cond.instanceMethod yX4_readDigit, Cond.selects RX4 yX4_readDigit yX4_readDigit, Cond.code yX4_readDigit cX4_readDigit 2 (some .boolean), Cond.methodLink RX4 57 yX4_readParts, Cond.instanceMethod yX4_readParts]
def wsX8_carryOut_r3 : List Cond := [Cond.selects RX4 yX4_readParts yX4_readParts, Cond.code yX4_readParts cX4_readParts 2 (some .boolean), Cond.methodLink RX8 62 yX2_note, Cond.instanceMethod yX2_note, Cond.selects RX2 yX2_note yX2_note, Cond.initialized RX2, Cond.code yX2_note cX2_note 2 none, Cond.fieldLink RX2 11 "SplitBeliefs$History" "rows" "[LSplitBeliefs$State;", Cond.fieldLink RX2 15 "SplitBeliefs$History" "next" "I", Cond.methodLink RX2 23 yX7_copyFrom, Cond.instanceMethod yX7_copyFrom, Cond.selects RX7 yX7_copyFrom yX7_copyFrom, Cond.initialized RX7, Cond.code yX7_copyFrom cX7_copyFrom 2 none, Cond.fieldLink RX7 12 "SplitBeliefs$State" "receivers" "LSplitBeliefs$Receivers;", Cond.fieldLink RX7 21 "SplitBeliefs$State" "split" "LSplitBeliefs$Split;", Cond.fieldLink RX7 25 "SplitBeliefs$State" "prior" "I", Cond.methodLink RX7 33 yX5_copyFrom, Cond.instanceMethod yX5_copyFrom, Cond.selects RX5 yX5_copyFrom yX5_copyFrom, Cond.initialized RX5, Cond.code yX5_copyFrom cX5_copyFrom 2 none, Cond.fieldLink RX5 11 "SplitBeliefs$Receivers" "losses" "[I", Cond.methodLink RX5 28 arraycopyName]
def wsX8_carryOut_r4 : List Cond := [Cond.native arraycopyName, Cond.static arraycopyName, Cond.initialized "java/lang/System", Cond.fieldLink RX5 15 "SplitBeliefs$Receivers" "gains" "[I", Cond.fieldLink RX5 18 "SplitBeliefs$Receivers" "pays" "[I", Cond.fieldLink RX5 21 "SplitBeliefs$Receivers" "bonuses" "[I", Cond.fieldLink RX5 24 "SplitBeliefs$Receivers" "number" "I", Cond.methodLink RX7 37 yX6_copyFrom, Cond.instanceMethod yX6_copyFrom, Cond.selects RX6 yX6_copyFrom yX6_copyFrom, Cond.initialized RX6, Cond.code yX6_copyFrom cX6_copyFrom 2 none, Cond.fieldLink RX6 9 "SplitBeliefs$Split" "weights" "[I", Cond.methodLink RX6 20 arraycopyName, Cond.fieldLink RX6 13 "SplitBeliefs$Split" "posteriors" "[I", Cond.fieldLink RX6 16 "SplitBeliefs$Split" "parts" "I", Cond.methodLink RX8 209 yX8_obeyAll, Cond.instanceMethod yX8_obeyAll, Cond.selects RX8 yX8_obeyAll yX8_obeyAll, Cond.initialized RX8, Cond.code yX8_obeyAll cX8_obeyAll 2 (some .int), Cond.fieldLink RX8 273 "SplitBeliefs$Pad" "at" "I", Cond.methodLink RX8 276 yX4_readNext, Cond.methodLink RX8 279 yX8_obey]
def wsX8_carryOut_r5 : List Cond := [Cond.instanceMethod yX8_obey, Cond.selects RX8 yX8_obey yX8_obey, Cond.code yX8_obey cX8_obey 1 (some .int), Cond.fieldLink RX8 282 "SplitBeliefs$Pad" "order" "I", Cond.fieldLink RX8 73 "SplitBeliefs$State" "receivers" "LSplitBeliefs$Receivers;", Cond.methodLink RX8 248 yX4_number, Cond.instanceMethod yX4_number, Cond.selects RX4 yX4_number yX4_number, Cond.code yX4_number cX4_number 2 (some .int), Cond.methodLink RX8 77 yX5_admit, Cond.instanceMethod yX5_admit, Cond.selects RX5 yX5_admit yX5_admit, Cond.code yX5_admit cX5_admit 5 (some .int), Cond.methodLink RX8 83 yX5_remove, Cond.instanceMethod yX5_remove, Cond.selects RX5 yX5_remove yX5_remove, Cond.code yX5_remove cX5_remove 3 (some .int), Cond.methodLink RX5 34 yX5_has, Cond.instanceMethod yX5_has, Cond.selects RX5 yX5_has yX5_has, Cond.code yX5_has cX5_has 2 (some .boolean), Cond.methodLink RX8 66 yX7_movePrior, Cond.instanceMethod yX7_movePrior, Cond.selects RX7 yX7_movePrior yX7_movePrior]
def wsX8_carryOut_r6 : List Cond := [Cond.code yX7_movePrior cX7_movePrior 3 (some .int), Cond.methodLink RX7 29 yX6_becomeOne, Cond.instanceMethod yX6_becomeOne, Cond.selects RX6 yX6_becomeOne yX6_becomeOne, Cond.code yX6_becomeOne cX6_becomeOne 2 none, Cond.methodLink RX6 26 yX6_append, Cond.instanceMethod yX6_append, Cond.selects RX6 yX6_append yX6_append, Cond.code yX6_append cX6_append 3 none, Cond.methodLink RX8 285 yX8_takeTold, Cond.instanceMethod yX8_takeTold, Cond.selects RX8 yX8_takeTold yX8_takeTold, Cond.code yX8_takeTold cX8_takeTold 4 (some .int), Cond.fieldLink RX8 41 "SplitBeliefs" "mix" "LSplitBeliefs$Mix;", Cond.fieldLink RX8 245 "SplitBeliefs$Pad" "told" "I", Cond.fieldLink RX8 158 "SplitBeliefs$State" "prior" "I", Cond.methodLink RX8 242 yX3_clear, Cond.instanceMethod yX3_clear, Cond.selects RX3 yX3_clear yX3_clear, Cond.initialized RX3, Cond.code yX3_clear cX3_clear 2 none, Cond.fieldLink RX3 9 "SplitBeliefs$Mix" "weightAt" "[I", Cond.methodLink RX8 136 yX8_isPosterior, Cond.static yX8_isPosterior]
def wsX8_carryOut_r7 : List Cond := [Cond.code yX8_isPosterior cX8_isPosterior 1 (some .boolean), Cond.methodLink RX8 228 yX3_add, Cond.instanceMethod yX3_add, Cond.selects RX3 yX3_add yX3_add, Cond.code yX3_add cX3_add 3 none, Cond.methodLink RX8 250 yX3_reduce, Cond.instanceMethod yX3_reduce, Cond.selects RX3 yX3_reduce yX3_reduce, Cond.code yX3_reduce cX3_reduce 3 none, Cond.static yX8_commonDivisor, Cond.code yX8_commonDivisor cX8_commonDivisor 6 (some .int), Cond.methodLink RX8 288 Lib.Math.abs.name, Cond.static Lib.Math.abs.name, Cond.initialized "java/lang/Math", Cond.code Lib.Math.abs.name Lib.Math.abs.code 1 (some .int), Cond.methodLink RX8 253 yX3_fits, Cond.instanceMethod yX3_fits, Cond.selects RX3 yX3_fits yX3_fits, Cond.code yX3_fits cX3_fits 3 (some .boolean), Cond.methodLink RX8 256 yX3_averagesTo, Cond.instanceMethod yX3_averagesTo, Cond.selects RX3 yX3_averagesTo yX3_averagesTo, Cond.code yX3_averagesTo cX3_averagesTo 4 (some .boolean), Cond.methodLink RX8 232 yX8_takeMix]
def wsX8_carryOut_r8 : List Cond := [Cond.instanceMethod yX8_takeMix, Cond.selects RX8 yX8_takeMix yX8_takeMix, Cond.code yX8_takeMix cX8_takeMix 1 (some .int), Cond.fieldLink RX8 117 "SplitBeliefs$State" "split" "LSplitBeliefs$Split;", Cond.fieldLink RX8 164 "SplitBeliefs$Split" "parts" "I", Cond.methodLink RX8 259 yX3_pourInto, Cond.instanceMethod yX3_pourInto, Cond.selects RX3 yX3_pourInto yX3_pourInto, Cond.code yX3_pourInto cX3_pourInto 3 none, Cond.fieldLink RX3 18 "SplitBeliefs$Split" "parts" "I", Cond.methodLink RX3 42 yX6_append, Cond.methodLink RX8 93 yX8_takeBest, Cond.instanceMethod yX8_takeBest, Cond.selects RX8 yX8_takeBest yX8_takeBest, Cond.code yX8_takeBest cX8_takeBest 1 (some .int), Cond.fieldLink RX8 48 "SplitBeliefs" "curve" "LSplitBeliefs$Curve;", Cond.fieldLink RX8 187 "SplitBeliefs$Curve" "lower" "I", Cond.fieldLink RX8 193 "SplitBeliefs$Curve" "lowerWeight" "I", Cond.fieldLink RX8 190 "SplitBeliefs$Curve" "upper" "I", Cond.fieldLink RX8 196 "SplitBeliefs$Curve" "upperWeight" "I", Cond.methodLink RX8 235 yX0_draw, Cond.instanceMethod yX0_draw, Cond.selects RX0 yX0_draw yX0_draw, Cond.initialized RX0]
def wsX8_carryOut_r9 : List Cond := [Cond.code yX0_draw cX0_draw 3 none, Cond.fieldLink RX0 18 "SplitBeliefs$Curve" "cornerCount" "I", Cond.fieldLink RX0 9 "SplitBeliefs$Curve" "values" "[I", Cond.fieldLink RX0 15 "SplitBeliefs$Curve" "corners" "[I", Cond.methodLink RX0 34 yX5_valueAt, Cond.instanceMethod yX5_valueAt, Cond.selects RX5 yX5_valueAt yX5_valueAt, Cond.code yX5_valueAt cX5_valueAt 6 (some .int), Cond.methodLink RX5 44 yX5_acts, Cond.instanceMethod yX5_acts, Cond.selects RX5 yX5_acts yX5_acts, Cond.code yX5_acts cX5_acts 3 (some .boolean), Cond.methodLink RX0 40 yX0_heightOver, Cond.instanceMethod yX0_heightOver, Cond.selects RX0 yX0_heightOver yX0_heightOver, Cond.code yX0_heightOver cX0_heightOver 4 (some .int), Cond.methodLink RX8 239 yX0_aim, Cond.instanceMethod yX0_aim, Cond.selects RX0 yX0_aim yX0_aim, Cond.code yX0_aim cX0_aim 5 none, Cond.fieldLink RX0 22 "SplitBeliefs$Curve" "lower" "I", Cond.fieldLink RX0 25 "SplitBeliefs$Curve" "upper" "I", Cond.fieldLink RX0 28 "SplitBeliefs$Curve" "lowerWeight" "I", Cond.fieldLink RX0 31 "SplitBeliefs$Curve" "upperWeight" "I"]
def wsX8_carryOut_r10 : List Cond := [Cond.methodLink RX0 48 Lib.Math.max.name, Cond.static Lib.Math.max.name, Cond.code Lib.Math.max.name Lib.Math.max.code 2 (some .int), Cond.methodLink RX8 70 yX8_recorded, Cond.instanceMethod yX8_recorded, Cond.selects RX8 yX8_recorded yX8_recorded, Cond.code yX8_recorded cX8_recorded 2 (some .int), Cond.methodLink RX8 221 yX2_keep, Cond.instanceMethod yX2_keep, Cond.selects RX2 yX2_keep yX2_keep, Cond.code yX2_keep cX2_keep 1 none, Cond.fieldLink RX2 19 "SplitBeliefs$History" "kept" "I", Cond.methodLink RX2 27 Lib.Math.min.name, Cond.static Lib.Math.min.name, Cond.code Lib.Math.min.name Lib.Math.min.code 2 (some .int)]
def wsX8_carryOut : List Cond := .code yX8_carryOut cX8_carryOut 2 (some .int) :: ((wsX8_carryOut_r1 ++ (wsX8_carryOut_r2 ++ (wsX8_carryOut_r3 ++ (wsX8_carryOut_r4 ++ (wsX8_carryOut_r5 ++ (wsX8_carryOut_r6 ++ (wsX8_carryOut_r7 ++ (wsX8_carryOut_r8 ++ (wsX8_carryOut_r9 ++ wsX8_carryOut_r10))))))))) ++ wsX80 ++ wsX40 ++ wsX20 ++ wsX70 ++ wsX50 ++ wsX60 ++ wsX30 ++ wsX00)
def wsX8_undo_r1 : List Cond := [Cond.fieldLink RX8 19 "SplitBeliefs" "history" "LSplitBeliefs$History;", Cond.fieldLink RX8 177 "SplitBeliefs$History" "kept" "I", Cond.fieldLink RX8 10 "SplitBeliefs" "now" "LSplitBeliefs$State;", Cond.methodLink RX8 212 yX2_takeBack, Cond.instanceMethod yX2_takeBack, Cond.selects RX2 yX2_takeBack yX2_takeBack, Cond.initialized RX2, Cond.code yX2_takeBack cX2_takeBack 2 none, Cond.fieldLink RX2 19 "SplitBeliefs$History" "kept" "I", Cond.fieldLink RX2 15 "SplitBeliefs$History" "next" "I", Cond.fieldLink RX2 11 "SplitBeliefs$History" "rows" "[LSplitBeliefs$State;", Cond.methodLink RX2 23 yX7_copyFrom, Cond.instanceMethod yX7_copyFrom, Cond.selects RX7 yX7_copyFrom yX7_copyFrom, Cond.initialized RX7, Cond.code yX7_copyFrom cX7_copyFrom 2 none, Cond.fieldLink RX7 12 "SplitBeliefs$State" "receivers" "LSplitBeliefs$Receivers;", Cond.fieldLink RX7 21 "SplitBeliefs$State" "split" "LSplitBeliefs$Split;", Cond.fieldLink RX7 25 "SplitBeliefs$State" "prior" "I", Cond.methodLink RX7 33 yX5_copyFrom, Cond.instanceMethod yX5_copyFrom, Cond.selects RX5 yX5_copyFrom yX5_copyFrom, Cond.initialized RX5, Cond.code yX5_copyFrom cX5_copyFrom 2 none]
def wsX8_undo_r2 : List Cond := [Cond.fieldLink RX5 11 "SplitBeliefs$Receivers" "losses" "[I", Cond.methodLink RX5 28 arraycopyName, Cond.native arraycopyName, Cond.static arraycopyName, Cond.initialized "java/lang/System", Cond.fieldLink RX5 15 "SplitBeliefs$Receivers" "gains" "[I", Cond.fieldLink RX5 18 "SplitBeliefs$Receivers" "pays" "[I", Cond.fieldLink RX5 21 "SplitBeliefs$Receivers" "bonuses" "[I", Cond.fieldLink RX5 24 "SplitBeliefs$Receivers" "number" "I", Cond.methodLink RX7 37 yX6_copyFrom, Cond.instanceMethod yX6_copyFrom, Cond.selects RX6 yX6_copyFrom yX6_copyFrom, Cond.initialized RX6, Cond.code yX6_copyFrom cX6_copyFrom 2 none, Cond.fieldLink RX6 9 "SplitBeliefs$Split" "weights" "[I", Cond.methodLink RX6 20 arraycopyName, Cond.fieldLink RX6 13 "SplitBeliefs$Split" "posteriors" "[I", Cond.fieldLink RX6 16 "SplitBeliefs$Split" "parts" "I"]
def wsX8_undo : List Cond := .code yX8_undo cX8_undo 1 (some .int) :: ((wsX8_undo_r1 ++ wsX8_undo_r2) ++ wsX80 ++ wsX20 ++ wsX70 ++ wsX50 ++ wsX60)
def wsX8_isSlot : List Cond := .code yX8_isSlot cX8_isSlot 1 (some .boolean) :: ([])
def wsX8_save_r1 : List Cond := [Cond.fieldLink RX8 23 "SplitBeliefs" "slots" "[LSplitBeliefs$State;", Cond.fieldLink RX8 10 "SplitBeliefs" "now" "LSplitBeliefs$State;", Cond.fieldLink RX8 27 "SplitBeliefs" "saved" "[Z", Cond.fieldLink RX8 158 "SplitBeliefs$State" "prior" "I", Cond.methodLink RX8 215 yX8_isSlot, Cond.static yX8_isSlot, Cond.initialized RX8, Cond.code yX8_isSlot cX8_isSlot 1 (some .boolean), Cond.methodLink RX8 218 yX7_copyFrom, Cond.instanceMethod yX7_copyFrom, Cond.selects RX7 yX7_copyFrom yX7_copyFrom, Cond.initialized RX7, Cond.code yX7_copyFrom cX7_copyFrom 2 none, Cond.fieldLink RX7 12 "SplitBeliefs$State" "receivers" "LSplitBeliefs$Receivers;", Cond.fieldLink RX7 21 "SplitBeliefs$State" "split" "LSplitBeliefs$Split;", Cond.fieldLink RX7 25 "SplitBeliefs$State" "prior" "I", Cond.methodLink RX7 33 yX5_copyFrom, Cond.instanceMethod yX5_copyFrom, Cond.selects RX5 yX5_copyFrom yX5_copyFrom, Cond.initialized RX5, Cond.code yX5_copyFrom cX5_copyFrom 2 none, Cond.fieldLink RX5 11 "SplitBeliefs$Receivers" "losses" "[I", Cond.methodLink RX5 28 arraycopyName, Cond.native arraycopyName]
def wsX8_save_r2 : List Cond := [Cond.static arraycopyName, Cond.initialized "java/lang/System", Cond.fieldLink RX5 15 "SplitBeliefs$Receivers" "gains" "[I", Cond.fieldLink RX5 18 "SplitBeliefs$Receivers" "pays" "[I", Cond.fieldLink RX5 21 "SplitBeliefs$Receivers" "bonuses" "[I", Cond.fieldLink RX5 24 "SplitBeliefs$Receivers" "number" "I", Cond.methodLink RX7 37 yX6_copyFrom, Cond.instanceMethod yX6_copyFrom, Cond.selects RX6 yX6_copyFrom yX6_copyFrom, Cond.initialized RX6, Cond.code yX6_copyFrom cX6_copyFrom 2 none, Cond.fieldLink RX6 9 "SplitBeliefs$Split" "weights" "[I", Cond.methodLink RX6 20 arraycopyName, Cond.fieldLink RX6 13 "SplitBeliefs$Split" "posteriors" "[I", Cond.fieldLink RX6 16 "SplitBeliefs$Split" "parts" "I"]
def wsX8_save : List Cond := .code yX8_save cX8_save 2 (some .int) :: ((wsX8_save_r1 ++ wsX8_save_r2) ++ wsX80 ++ wsX70 ++ wsX50 ++ wsX60)
def wsX8_restore_r1 : List Cond := [Cond.fieldLink RX8 27 "SplitBeliefs" "saved" "[Z", Cond.fieldLink RX8 19 "SplitBeliefs" "history" "LSplitBeliefs$History;", Cond.fieldLink RX8 10 "SplitBeliefs" "now" "LSplitBeliefs$State;", Cond.fieldLink RX8 23 "SplitBeliefs" "slots" "[LSplitBeliefs$State;", Cond.fieldLink RX8 158 "SplitBeliefs$State" "prior" "I", Cond.methodLink RX8 215 yX8_isSlot, Cond.static yX8_isSlot, Cond.initialized RX8, Cond.code yX8_isSlot cX8_isSlot 1 (some .boolean), Cond.methodLink RX8 62 yX2_note, Cond.instanceMethod yX2_note, Cond.selects RX2 yX2_note yX2_note, Cond.initialized RX2, Cond.code yX2_note cX2_note 2 none, Cond.fieldLink RX2 11 "SplitBeliefs$History" "rows" "[LSplitBeliefs$State;", Cond.fieldLink RX2 15 "SplitBeliefs$History" "next" "I", Cond.methodLink RX2 23 yX7_copyFrom, Cond.instanceMethod yX7_copyFrom, Cond.selects RX7 yX7_copyFrom yX7_copyFrom, Cond.initialized RX7, Cond.code yX7_copyFrom cX7_copyFrom 2 none, Cond.fieldLink RX7 12 "SplitBeliefs$State" "receivers" "LSplitBeliefs$Receivers;", Cond.fieldLink RX7 21 "SplitBeliefs$State" "split" "LSplitBeliefs$Split;", Cond.fieldLink RX7 25 "SplitBeliefs$State" "prior" "I"]
def wsX8_restore_r2 : List Cond := [Cond.methodLink RX7 33 yX5_copyFrom, Cond.instanceMethod yX5_copyFrom, Cond.selects RX5 yX5_copyFrom yX5_copyFrom, Cond.initialized RX5, Cond.code yX5_copyFrom cX5_copyFrom 2 none, Cond.fieldLink RX5 11 "SplitBeliefs$Receivers" "losses" "[I", Cond.methodLink RX5 28 arraycopyName, Cond.native arraycopyName, Cond.static arraycopyName, Cond.initialized "java/lang/System", Cond.fieldLink RX5 15 "SplitBeliefs$Receivers" "gains" "[I", Cond.fieldLink RX5 18 "SplitBeliefs$Receivers" "pays" "[I", Cond.fieldLink RX5 21 "SplitBeliefs$Receivers" "bonuses" "[I", Cond.fieldLink RX5 24 "SplitBeliefs$Receivers" "number" "I", Cond.methodLink RX7 37 yX6_copyFrom, Cond.instanceMethod yX6_copyFrom, Cond.selects RX6 yX6_copyFrom yX6_copyFrom, Cond.initialized RX6, Cond.code yX6_copyFrom cX6_copyFrom 2 none, Cond.fieldLink RX6 9 "SplitBeliefs$Split" "weights" "[I", Cond.methodLink RX6 20 arraycopyName, Cond.fieldLink RX6 13 "SplitBeliefs$Split" "posteriors" "[I", Cond.fieldLink RX6 16 "SplitBeliefs$Split" "parts" "I", Cond.methodLink RX8 218 yX7_copyFrom]
def wsX8_restore_r3 : List Cond := [Cond.methodLink RX8 70 yX8_recorded, Cond.instanceMethod yX8_recorded, Cond.selects RX8 yX8_recorded yX8_recorded, Cond.code yX8_recorded cX8_recorded 2 (some .int), Cond.methodLink RX8 221 yX2_keep, Cond.instanceMethod yX2_keep, Cond.selects RX2 yX2_keep yX2_keep, Cond.code yX2_keep cX2_keep 1 none, Cond.fieldLink RX2 19 "SplitBeliefs$History" "kept" "I", Cond.methodLink RX2 27 Lib.Math.min.name, Cond.static Lib.Math.min.name, Cond.initialized "java/lang/Math", Cond.code Lib.Math.min.name Lib.Math.min.code 2 (some .int)]
def wsX8_restore : List Cond := .code yX8_restore cX8_restore 2 (some .int) :: ((wsX8_restore_r1 ++ (wsX8_restore_r2 ++ wsX8_restore_r3)) ++ wsX80 ++ wsX70 ++ wsX20 ++ wsX50 ++ wsX60)
def wsX9_takes : List Cond := .code yX9_takes cX9_takes 5 none :: ([.fieldLink RX9 72 "SplitBeliefsModel" "many" "I", .fieldLink RX9 28 "SplitBeliefsModel" "posteriors" "[I", .fieldLink RX9 25 "SplitBeliefsModel" "weights" "[I"] ++ wsX90)
def wsX9_gives : List Cond := .code yX9_gives cX9_gives 2 none :: ([.fieldLink RX9 7 "SplitBeliefsModel" "state" "[I", .fieldLink RX9 72 "SplitBeliefsModel" "many" "I", .fieldLink RX9 25 "SplitBeliefsModel" "weights" "[I", .fieldLink RX9 28 "SplitBeliefsModel" "posteriors" "[I"] ++ wsX90)
def wsX9_takesOne : List Cond := .code yX9_takesOne cX9_takesOne 3 none :: ([.fieldLink RX9 72 "SplitBeliefsModel" "many" "I", .methodLink RX9 75 yX9_takes, .instanceMethod yX9_takes, .selects RX9 yX9_takes yX9_takes, .initialized RX9, .code yX9_takes cX9_takes 5 none, .fieldLink RX9 28 "SplitBeliefsModel" "posteriors" "[I", .fieldLink RX9 25 "SplitBeliefsModel" "weights" "[I", .methodLink RX9 78 yX9_gives, .instanceMethod yX9_gives, .selects RX9 yX9_gives yX9_gives, .code yX9_gives cX9_gives 2 none, .fieldLink RX9 7 "SplitBeliefsModel" "state" "[I"] ++ wsX90)
def wsX9_begins : List Cond := .code yX9_begins cX9_begins 2 none :: ([.fieldLink RX9 7 "SplitBeliefsModel" "state" "[I", .methodLink RX9 68 yX9_takesOne, .instanceMethod yX9_takesOne, .selects RX9 yX9_takesOne yX9_takesOne, .initialized RX9, .code yX9_takesOne cX9_takesOne 3 none, .fieldLink RX9 72 "SplitBeliefsModel" "many" "I", .methodLink RX9 75 yX9_takes, .instanceMethod yX9_takes, .selects RX9 yX9_takes yX9_takes, .code yX9_takes cX9_takes 5 none, .fieldLink RX9 28 "SplitBeliefsModel" "posteriors" "[I", .fieldLink RX9 25 "SplitBeliefsModel" "weights" "[I", .methodLink RX9 78 yX9_gives, .instanceMethod yX9_gives, .selects RX9 yX9_gives yX9_gives, .code yX9_gives cX9_gives 2 none] ++ wsX90)
def wsX9_init_r1 : List Cond := [Cond.methodLink RX9 1 objectInit, Cond.instanceMethod objectInit, Cond.code objectInit ⟨#[0xb1]⟩ 1 none, Cond.arrayClass .int, Cond.fieldLink RX9 7 "SplitBeliefsModel" "state" "[I", Cond.fieldLink RX9 13 "SplitBeliefsModel" "history" "[I", Cond.fieldLink RX9 16 "SplitBeliefsModel" "slots" "[I", Cond.fieldLink RX9 19 "SplitBeliefsModel" "isSaved" "[I", Cond.fieldLink RX9 22 "SplitBeliefsModel" "pad" "[I", Cond.fieldLink RX9 25 "SplitBeliefsModel" "weights" "[I", Cond.fieldLink RX9 28 "SplitBeliefsModel" "posteriors" "[I", Cond.methodLink RX9 31 yX9_begins, Cond.instanceMethod yX9_begins, Cond.selects RX9 yX9_begins yX9_begins, Cond.initialized RX9, Cond.code yX9_begins cX9_begins 2 none, Cond.methodLink RX9 68 yX9_takesOne, Cond.instanceMethod yX9_takesOne, Cond.selects RX9 yX9_takesOne yX9_takesOne, Cond.code yX9_takesOne cX9_takesOne 3 none, Cond.fieldLink RX9 72 "SplitBeliefsModel" "many" "I", Cond.methodLink RX9 75 yX9_takes, Cond.instanceMethod yX9_takes, Cond.selects RX9 yX9_takes yX9_takes]
def wsX9_init_r2 : List Cond := [Cond.code yX9_takes cX9_takes 5 none, Cond.methodLink RX9 78 yX9_gives, Cond.instanceMethod yX9_gives, Cond.selects RX9 yX9_gives yX9_gives, Cond.code yX9_gives cX9_gives 2 none]
def wsX9_init : List Cond := .code yX9_init cX9_init 1 none :: ((wsX9_init_r1 ++ wsX9_init_r2) ++ wsX90)
def wsX9_moves : List Cond := .code yX9_moves cX9_moves 5 none :: ([])
def wsX9_within : List Cond := .code yX9_within cX9_within 3 (some .boolean) :: ([])
def wsX9_record : List Cond := .code yX9_record cX9_record 2 none :: ([.fieldLink RX9 35 "SplitBeliefsModel" "recorded" "I", .fieldLink RX9 13 "SplitBeliefsModel" "history" "[I", .fieldLink RX9 7 "SplitBeliefsModel" "state" "[I", .methodLink RX9 39 yX9_moves, .static yX9_moves, .initialized RX9, .code yX9_moves cX9_moves 5 none] ++ wsX90)
def wsX9_divisor : List Cond := .code yX9_divisor cX9_divisor 5 (some .int) :: ([])
def wsX9_takeFraction : List Cond := .code yX9_takeFraction cX9_takeFraction 4 none :: ([.fieldLink RX9 47 "SplitBeliefsModel" "upper" "I", .fieldLink RX9 50 "SplitBeliefsModel" "lower" "I", .methodLink RX9 43 yX9_divisor, .static yX9_divisor, .initialized RX9, .code yX9_divisor cX9_divisor 5 (some .int)] ++ wsX90)
def wsX9_isReceiver : List Cond := .code yX9_isReceiver cX9_isReceiver 2 (some .boolean) :: ([.fieldLink RX9 7 "SplitBeliefsModel" "state" "[I", .methodLink RX9 53 yX9_within, .static yX9_within, .initialized RX9, .code yX9_within cX9_within 3 (some .boolean)] ++ wsX90)
def wsX9_receiverPart : List Cond := .code yX9_receiverPart cX9_receiverPart 3 (some .int) :: ([.fieldLink RX9 7 "SplitBeliefsModel" "state" "[I"] ++ wsX90)
def wsX9_worthAt : List Cond := .code yX9_worthAt cX9_worthAt 4 (some .int) :: ([.methodLink RX9 57 yX9_receiverPart, .instanceMethod yX9_receiverPart, .selects RX9 yX9_receiverPart yX9_receiverPart, .initialized RX9, .code yX9_receiverPart cX9_receiverPart 3 (some .int), .fieldLink RX9 7 "SplitBeliefsModel" "state" "[I"] ++ wsX90)
def wsX9_acts : List Cond := .code yX9_acts cX9_acts 3 (some .boolean) :: ([.methodLink RX9 57 yX9_receiverPart, .instanceMethod yX9_receiverPart, .selects RX9 yX9_receiverPart yX9_receiverPart, .initialized RX9, .code yX9_receiverPart cX9_receiverPart 3 (some .int), .fieldLink RX9 7 "SplitBeliefsModel" "state" "[I"] ++ wsX90)
def wsX9_actingAt : List Cond := .code yX9_actingAt cX9_actingAt 4 (some .int) :: ([.fieldLink RX9 7 "SplitBeliefsModel" "state" "[I", .methodLink RX9 60 yX9_acts, .instanceMethod yX9_acts, .selects RX9 yX9_acts yX9_acts, .initialized RX9, .code yX9_acts cX9_acts 3 (some .boolean), .methodLink RX9 57 yX9_receiverPart, .instanceMethod yX9_receiverPart, .selects RX9 yX9_receiverPart yX9_receiverPart, .code yX9_receiverPart cX9_receiverPart 3 (some .int)] ++ wsX90)
def wsX9_valueAt : List Cond := .code yX9_valueAt cX9_valueAt 6 (some .int) :: ([.fieldLink RX9 7 "SplitBeliefsModel" "state" "[I", .methodLink RX9 64 yX9_actingAt, .instanceMethod yX9_actingAt, .selects RX9 yX9_actingAt yX9_actingAt, .initialized RX9, .code yX9_actingAt cX9_actingAt 4 (some .int), .methodLink RX9 60 yX9_acts, .instanceMethod yX9_acts, .selects RX9 yX9_acts yX9_acts, .code yX9_acts cX9_acts 3 (some .boolean), .methodLink RX9 57 yX9_receiverPart, .instanceMethod yX9_receiverPart, .selects RX9 yX9_receiverPart yX9_receiverPart, .code yX9_receiverPart cX9_receiverPart 3 (some .int)] ++ wsX90)
def wsX9_leastActing : List Cond := .code yX9_leastActing cX9_leastActing 4 (some .int) :: ([.methodLink RX9 60 yX9_acts, .instanceMethod yX9_acts, .selects RX9 yX9_acts yX9_acts, .initialized RX9, .code yX9_acts cX9_acts 3 (some .boolean), .methodLink RX9 57 yX9_receiverPart, .instanceMethod yX9_receiverPart, .selects RX9 yX9_receiverPart yX9_receiverPart, .code yX9_receiverPart cX9_receiverPart 3 (some .int), .fieldLink RX9 7 "SplitBeliefsModel" "state" "[I"] ++ wsX90)
def wsX9_isPart : List Cond := .code yX9_isPart cX9_isPart 2 (some .boolean) :: ([.fieldLink RX9 7 "SplitBeliefsModel" "state" "[I", .methodLink RX9 53 yX9_within, .static yX9_within, .initialized RX9, .code yX9_within cX9_within 3 (some .boolean)] ++ wsX90)
def wsX9_areWell : List Cond := .code yX9_areWell cX9_areWell 4 (some .boolean) :: ([.fieldLink RX9 72 "SplitBeliefsModel" "many" "I", .fieldLink RX9 25 "SplitBeliefsModel" "weights" "[I", .methodLink RX9 43 yX9_divisor, .static yX9_divisor, .initialized RX9, .code yX9_divisor cX9_divisor 5 (some .int)] ++ wsX90)
def wsX9_weightSum : List Cond := .code yX9_weightSum cX9_weightSum 3 (some .int) :: ([.fieldLink RX9 7 "SplitBeliefsModel" "state" "[I"] ++ wsX90)
def wsX9_takeMean_r1 : List Cond := [Cond.fieldLink RX9 7 "SplitBeliefsModel" "state" "[I", Cond.methodLink RX9 81 yX9_valueAt, Cond.instanceMethod yX9_valueAt, Cond.selects RX9 yX9_valueAt yX9_valueAt, Cond.initialized RX9, Cond.code yX9_valueAt cX9_valueAt 6 (some .int), Cond.methodLink RX9 64 yX9_actingAt, Cond.instanceMethod yX9_actingAt, Cond.selects RX9 yX9_actingAt yX9_actingAt, Cond.code yX9_actingAt cX9_actingAt 4 (some .int), Cond.methodLink RX9 60 yX9_acts, Cond.instanceMethod yX9_acts, Cond.selects RX9 yX9_acts yX9_acts, Cond.code yX9_acts cX9_acts 3 (some .boolean), Cond.methodLink RX9 57 yX9_receiverPart, Cond.instanceMethod yX9_receiverPart, Cond.selects RX9 yX9_receiverPart yX9_receiverPart, Cond.code yX9_receiverPart cX9_receiverPart 3 (some .int), Cond.methodLink RX9 84 yX9_weightSum, Cond.instanceMethod yX9_weightSum, Cond.selects RX9 yX9_weightSum yX9_weightSum, Cond.code yX9_weightSum cX9_weightSum 3 (some .int), Cond.methodLink RX9 88 yX9_takeFraction, Cond.instanceMethod yX9_takeFraction]
def wsX9_takeMean_r2 : List Cond := [Cond.selects RX9 yX9_takeFraction yX9_takeFraction, Cond.code yX9_takeFraction cX9_takeFraction 4 none, Cond.fieldLink RX9 47 "SplitBeliefsModel" "upper" "I", Cond.fieldLink RX9 50 "SplitBeliefsModel" "lower" "I", Cond.methodLink RX9 43 yX9_divisor, Cond.static yX9_divisor, Cond.code yX9_divisor cX9_divisor 5 (some .int)]
def wsX9_takeMean : List Cond := .code yX9_takeMean cX9_takeMean 3 none :: ((wsX9_takeMean_r1 ++ wsX9_takeMean_r2) ++ wsX90)
def wsX9_takeEnvelope_r1 : List Cond := [Cond.fieldLink RX9 91 "SplitBeliefsModel" "bestLow" "I", Cond.fieldLink RX9 94 "SplitBeliefsModel" "bestHigh" "I", Cond.methodLink RX9 81 yX9_valueAt, Cond.instanceMethod yX9_valueAt, Cond.selects RX9 yX9_valueAt yX9_valueAt, Cond.initialized RX9, Cond.code yX9_valueAt cX9_valueAt 6 (some .int), Cond.fieldLink RX9 7 "SplitBeliefsModel" "state" "[I", Cond.methodLink RX9 64 yX9_actingAt, Cond.instanceMethod yX9_actingAt, Cond.selects RX9 yX9_actingAt yX9_actingAt, Cond.code yX9_actingAt cX9_actingAt 4 (some .int), Cond.methodLink RX9 60 yX9_acts, Cond.instanceMethod yX9_acts, Cond.selects RX9 yX9_acts yX9_acts, Cond.code yX9_acts cX9_acts 3 (some .boolean), Cond.methodLink RX9 57 yX9_receiverPart, Cond.instanceMethod yX9_receiverPart, Cond.selects RX9 yX9_receiverPart yX9_receiverPart, Cond.code yX9_receiverPart cX9_receiverPart 3 (some .int), Cond.methodLink RX9 88 yX9_takeFraction, Cond.instanceMethod yX9_takeFraction, Cond.selects RX9 yX9_takeFraction yX9_takeFraction, Cond.code yX9_takeFraction cX9_takeFraction 4 none]
def wsX9_takeEnvelope_r2 : List Cond := [Cond.fieldLink RX9 47 "SplitBeliefsModel" "upper" "I", Cond.fieldLink RX9 50 "SplitBeliefsModel" "lower" "I", Cond.methodLink RX9 43 yX9_divisor, Cond.static yX9_divisor, Cond.code yX9_divisor cX9_divisor 5 (some .int)]
def wsX9_takeEnvelope : List Cond := .code yX9_takeEnvelope cX9_takeEnvelope 7 none :: ((wsX9_takeEnvelope_r1 ++ wsX9_takeEnvelope_r2) ++ wsX90)
def wsX9_weightOf : List Cond := .code yX9_weightOf cX9_weightOf 4 (some .int) :: ([.fieldLink RX9 91 "SplitBeliefsModel" "bestLow" "I", .fieldLink RX9 94 "SplitBeliefsModel" "bestHigh" "I", .methodLink RX9 43 yX9_divisor, .static yX9_divisor, .initialized RX9, .code yX9_divisor cX9_divisor 5 (some .int)] ++ wsX90)
def wsX9_priors : List Cond := .code yX9_priors cX9_priors 2 none :: ([.methodLink RX9 31 yX9_begins, .instanceMethod yX9_begins, .selects RX9 yX9_begins yX9_begins, .initialized RX9, .code yX9_begins cX9_begins 2 none, .fieldLink RX9 7 "SplitBeliefsModel" "state" "[I", .methodLink RX9 68 yX9_takesOne, .instanceMethod yX9_takesOne, .selects RX9 yX9_takesOne yX9_takesOne, .code yX9_takesOne cX9_takesOne 3 none, .fieldLink RX9 72 "SplitBeliefsModel" "many" "I", .methodLink RX9 75 yX9_takes, .instanceMethod yX9_takes, .selects RX9 yX9_takes yX9_takes, .code yX9_takes cX9_takes 5 none, .fieldLink RX9 28 "SplitBeliefsModel" "posteriors" "[I", .fieldLink RX9 25 "SplitBeliefsModel" "weights" "[I", .methodLink RX9 78 yX9_gives, .instanceMethod yX9_gives, .selects RX9 yX9_gives yX9_gives, .code yX9_gives cX9_gives 2 none] ++ wsX90)
def wsX9_prior_r1 : List Cond := [Cond.fieldLink RX9 7 "SplitBeliefsModel" "state" "[I", Cond.methodLink RX9 53 yX9_within, Cond.static yX9_within, Cond.initialized RX9, Cond.code yX9_within cX9_within 3 (some .boolean), Cond.methodLink RX9 97 yX9_record, Cond.instanceMethod yX9_record, Cond.selects RX9 yX9_record yX9_record, Cond.code yX9_record cX9_record 2 none, Cond.fieldLink RX9 35 "SplitBeliefsModel" "recorded" "I", Cond.fieldLink RX9 13 "SplitBeliefsModel" "history" "[I", Cond.methodLink RX9 39 yX9_moves, Cond.static yX9_moves, Cond.code yX9_moves cX9_moves 5 none, Cond.methodLink RX9 100 yX9_priors, Cond.instanceMethod yX9_priors, Cond.selects RX9 yX9_priors yX9_priors, Cond.code yX9_priors cX9_priors 2 none, Cond.methodLink RX9 31 yX9_begins, Cond.instanceMethod yX9_begins, Cond.selects RX9 yX9_begins yX9_begins, Cond.code yX9_begins cX9_begins 2 none, Cond.methodLink RX9 68 yX9_takesOne, Cond.instanceMethod yX9_takesOne]
def wsX9_prior_r2 : List Cond := [Cond.selects RX9 yX9_takesOne yX9_takesOne, Cond.code yX9_takesOne cX9_takesOne 3 none, Cond.fieldLink RX9 72 "SplitBeliefsModel" "many" "I", Cond.methodLink RX9 75 yX9_takes, Cond.instanceMethod yX9_takes, Cond.selects RX9 yX9_takes yX9_takes, Cond.code yX9_takes cX9_takes 5 none, Cond.fieldLink RX9 28 "SplitBeliefsModel" "posteriors" "[I", Cond.fieldLink RX9 25 "SplitBeliefsModel" "weights" "[I", Cond.methodLink RX9 78 yX9_gives, Cond.instanceMethod yX9_gives, Cond.selects RX9 yX9_gives yX9_gives, Cond.code yX9_gives cX9_gives 2 none]
def wsX9_prior : List Cond := .code yX9_prior cX9_prior 3 (some .int) :: ((wsX9_prior_r1 ++ wsX9_prior_r2) ++ wsX90)
def wsX9_whyNotHired : List Cond := .code yX9_whyNotHired cX9_whyNotHired 5 (some .int) :: ([.fieldLink RX9 7 "SplitBeliefsModel" "state" "[I", .methodLink RX9 53 yX9_within, .static yX9_within, .initialized RX9, .code yX9_within cX9_within 3 (some .boolean)] ++ wsX90)
def wsX9_hires : List Cond := .code yX9_hires cX9_hires 6 (some .int) :: ([.fieldLink RX9 7 "SplitBeliefsModel" "state" "[I"] ++ wsX90)
def wsX9_hire : List Cond := .code yX9_hire cX9_hire 6 (some .int) :: ([.methodLink RX9 103 yX9_whyNotHired, .instanceMethod yX9_whyNotHired, .selects RX9 yX9_whyNotHired yX9_whyNotHired, .initialized RX9, .code yX9_whyNotHired cX9_whyNotHired 5 (some .int), .fieldLink RX9 7 "SplitBeliefsModel" "state" "[I", .methodLink RX9 53 yX9_within, .static yX9_within, .code yX9_within cX9_within 3 (some .boolean), .methodLink RX9 97 yX9_record, .instanceMethod yX9_record, .selects RX9 yX9_record yX9_record, .code yX9_record cX9_record 2 none, .fieldLink RX9 35 "SplitBeliefsModel" "recorded" "I", .fieldLink RX9 13 "SplitBeliefsModel" "history" "[I", .methodLink RX9 39 yX9_moves, .static yX9_moves, .code yX9_moves cX9_moves 5 none, .methodLink RX9 107 yX9_hires, .instanceMethod yX9_hires, .selects RX9 yX9_hires yX9_hires, .code yX9_hires cX9_hires 6 (some .int)] ++ wsX90)
def wsX9_dismisses : List Cond := .code yX9_dismisses cX9_dismisses 3 (some .int) :: ([.fieldLink RX9 7 "SplitBeliefsModel" "state" "[I"] ++ wsX90)
def wsX9_dismiss : List Cond := .code yX9_dismiss cX9_dismiss 2 (some .int) :: ([.methodLink RX9 110 yX9_isReceiver, .instanceMethod yX9_isReceiver, .selects RX9 yX9_isReceiver yX9_isReceiver, .initialized RX9, .code yX9_isReceiver cX9_isReceiver 2 (some .boolean), .fieldLink RX9 7 "SplitBeliefsModel" "state" "[I", .methodLink RX9 53 yX9_within, .static yX9_within, .code yX9_within cX9_within 3 (some .boolean), .methodLink RX9 97 yX9_record, .instanceMethod yX9_record, .selects RX9 yX9_record yX9_record, .code yX9_record cX9_record 2 none, .fieldLink RX9 35 "SplitBeliefsModel" "recorded" "I", .fieldLink RX9 13 "SplitBeliefsModel" "history" "[I", .methodLink RX9 39 yX9_moves, .static yX9_moves, .code yX9_moves cX9_moves 5 none, .methodLink RX9 114 yX9_dismisses, .instanceMethod yX9_dismisses, .selects RX9 yX9_dismisses yX9_dismisses, .code yX9_dismisses cX9_dismisses 3 (some .int)] ++ wsX90)
def wsX9_refine_r1 : List Cond := [Cond.fieldLink RX9 7 "SplitBeliefsModel" "state" "[I", Cond.fieldLink RX9 72 "SplitBeliefsModel" "many" "I", Cond.methodLink RX9 117 yX9_isPart, Cond.instanceMethod yX9_isPart, Cond.selects RX9 yX9_isPart yX9_isPart, Cond.initialized RX9, Cond.code yX9_isPart cX9_isPart 2 (some .boolean), Cond.methodLink RX9 53 yX9_within, Cond.static yX9_within, Cond.code yX9_within cX9_within 3 (some .boolean), Cond.methodLink RX9 75 yX9_takes, Cond.instanceMethod yX9_takes, Cond.selects RX9 yX9_takes yX9_takes, Cond.code yX9_takes cX9_takes 5 none, Cond.fieldLink RX9 28 "SplitBeliefsModel" "posteriors" "[I", Cond.fieldLink RX9 25 "SplitBeliefsModel" "weights" "[I", Cond.methodLink RX9 120 yX9_areWell, Cond.instanceMethod yX9_areWell, Cond.selects RX9 yX9_areWell yX9_areWell, Cond.code yX9_areWell cX9_areWell 4 (some .boolean), Cond.methodLink RX9 43 yX9_divisor, Cond.static yX9_divisor, Cond.code yX9_divisor cX9_divisor 5 (some .int), Cond.methodLink RX9 97 yX9_record]
def wsX9_refine_r2 : List Cond := [Cond.instanceMethod yX9_record, Cond.selects RX9 yX9_record yX9_record, Cond.code yX9_record cX9_record 2 none, Cond.fieldLink RX9 35 "SplitBeliefsModel" "recorded" "I", Cond.fieldLink RX9 13 "SplitBeliefsModel" "history" "[I", Cond.methodLink RX9 39 yX9_moves, Cond.static yX9_moves, Cond.code yX9_moves cX9_moves 5 none, Cond.methodLink RX9 78 yX9_gives, Cond.instanceMethod yX9_gives, Cond.selects RX9 yX9_gives yX9_gives, Cond.code yX9_gives cX9_gives 2 none]
def wsX9_refine : List Cond := .code yX9_refine cX9_refine 8 (some .int) :: ((wsX9_refine_r1 ++ wsX9_refine_r2) ++ wsX90)
def wsX9_join_r1 : List Cond := [Cond.fieldLink RX9 7 "SplitBeliefsModel" "state" "[I", Cond.fieldLink RX9 72 "SplitBeliefsModel" "many" "I", Cond.methodLink RX9 117 yX9_isPart, Cond.instanceMethod yX9_isPart, Cond.selects RX9 yX9_isPart yX9_isPart, Cond.initialized RX9, Cond.code yX9_isPart cX9_isPart 2 (some .boolean), Cond.methodLink RX9 53 yX9_within, Cond.static yX9_within, Cond.code yX9_within cX9_within 3 (some .boolean), Cond.methodLink RX9 75 yX9_takes, Cond.instanceMethod yX9_takes, Cond.selects RX9 yX9_takes yX9_takes, Cond.code yX9_takes cX9_takes 5 none, Cond.fieldLink RX9 28 "SplitBeliefsModel" "posteriors" "[I", Cond.fieldLink RX9 25 "SplitBeliefsModel" "weights" "[I", Cond.methodLink RX9 120 yX9_areWell, Cond.instanceMethod yX9_areWell, Cond.selects RX9 yX9_areWell yX9_areWell, Cond.code yX9_areWell cX9_areWell 4 (some .boolean), Cond.methodLink RX9 43 yX9_divisor, Cond.static yX9_divisor, Cond.code yX9_divisor cX9_divisor 5 (some .int), Cond.methodLink RX9 97 yX9_record]
def wsX9_join_r2 : List Cond := [Cond.instanceMethod yX9_record, Cond.selects RX9 yX9_record yX9_record, Cond.code yX9_record cX9_record 2 none, Cond.fieldLink RX9 35 "SplitBeliefsModel" "recorded" "I", Cond.fieldLink RX9 13 "SplitBeliefsModel" "history" "[I", Cond.methodLink RX9 39 yX9_moves, Cond.static yX9_moves, Cond.code yX9_moves cX9_moves 5 none, Cond.methodLink RX9 78 yX9_gives, Cond.instanceMethod yX9_gives, Cond.selects RX9 yX9_gives yX9_gives, Cond.code yX9_gives cX9_gives 2 none]
def wsX9_join : List Cond := .code yX9_join cX9_join 5 (some .int) :: ((wsX9_join_r1 ++ wsX9_join_r2) ++ wsX90)
def wsX9_adopts_r1 : List Cond := [Cond.fieldLink RX9 7 "SplitBeliefsModel" "state" "[I", Cond.fieldLink RX9 72 "SplitBeliefsModel" "many" "I", Cond.fieldLink RX9 91 "SplitBeliefsModel" "bestLow" "I", Cond.fieldLink RX9 94 "SplitBeliefsModel" "bestHigh" "I", Cond.methodLink RX9 124 yX9_takeEnvelope, Cond.instanceMethod yX9_takeEnvelope, Cond.selects RX9 yX9_takeEnvelope yX9_takeEnvelope, Cond.initialized RX9, Cond.code yX9_takeEnvelope cX9_takeEnvelope 7 none, Cond.methodLink RX9 81 yX9_valueAt, Cond.instanceMethod yX9_valueAt, Cond.selects RX9 yX9_valueAt yX9_valueAt, Cond.code yX9_valueAt cX9_valueAt 6 (some .int), Cond.methodLink RX9 64 yX9_actingAt, Cond.instanceMethod yX9_actingAt, Cond.selects RX9 yX9_actingAt yX9_actingAt, Cond.code yX9_actingAt cX9_actingAt 4 (some .int), Cond.methodLink RX9 60 yX9_acts, Cond.instanceMethod yX9_acts, Cond.selects RX9 yX9_acts yX9_acts, Cond.code yX9_acts cX9_acts 3 (some .boolean), Cond.methodLink RX9 57 yX9_receiverPart, Cond.instanceMethod yX9_receiverPart, Cond.selects RX9 yX9_receiverPart yX9_receiverPart]
def wsX9_adopts_r2 : List Cond := [Cond.code yX9_receiverPart cX9_receiverPart 3 (some .int), Cond.methodLink RX9 88 yX9_takeFraction, Cond.instanceMethod yX9_takeFraction, Cond.selects RX9 yX9_takeFraction yX9_takeFraction, Cond.code yX9_takeFraction cX9_takeFraction 4 none, Cond.fieldLink RX9 47 "SplitBeliefsModel" "upper" "I", Cond.fieldLink RX9 50 "SplitBeliefsModel" "lower" "I", Cond.methodLink RX9 43 yX9_divisor, Cond.static yX9_divisor, Cond.code yX9_divisor cX9_divisor 5 (some .int), Cond.methodLink RX9 127 yX9_weightOf, Cond.instanceMethod yX9_weightOf, Cond.selects RX9 yX9_weightOf yX9_weightOf, Cond.code yX9_weightOf cX9_weightOf 4 (some .int), Cond.methodLink RX9 75 yX9_takes, Cond.instanceMethod yX9_takes, Cond.selects RX9 yX9_takes yX9_takes, Cond.code yX9_takes cX9_takes 5 none, Cond.fieldLink RX9 28 "SplitBeliefsModel" "posteriors" "[I", Cond.fieldLink RX9 25 "SplitBeliefsModel" "weights" "[I", Cond.methodLink RX9 78 yX9_gives, Cond.instanceMethod yX9_gives, Cond.selects RX9 yX9_gives yX9_gives, Cond.code yX9_gives cX9_gives 2 none]
def wsX9_adopts : List Cond := .code yX9_adopts cX9_adopts 2 (some .int) :: ((wsX9_adopts_r1 ++ wsX9_adopts_r2) ++ wsX90)
def wsX9_adopt_r1 : List Cond := [Cond.methodLink RX9 97 yX9_record, Cond.instanceMethod yX9_record, Cond.selects RX9 yX9_record yX9_record, Cond.initialized RX9, Cond.code yX9_record cX9_record 2 none, Cond.fieldLink RX9 35 "SplitBeliefsModel" "recorded" "I", Cond.fieldLink RX9 13 "SplitBeliefsModel" "history" "[I", Cond.fieldLink RX9 7 "SplitBeliefsModel" "state" "[I", Cond.methodLink RX9 39 yX9_moves, Cond.static yX9_moves, Cond.code yX9_moves cX9_moves 5 none, Cond.methodLink RX9 131 yX9_adopts, Cond.instanceMethod yX9_adopts, Cond.selects RX9 yX9_adopts yX9_adopts, Cond.code yX9_adopts cX9_adopts 2 (some .int), Cond.fieldLink RX9 72 "SplitBeliefsModel" "many" "I", Cond.fieldLink RX9 91 "SplitBeliefsModel" "bestLow" "I", Cond.fieldLink RX9 94 "SplitBeliefsModel" "bestHigh" "I", Cond.methodLink RX9 124 yX9_takeEnvelope, Cond.instanceMethod yX9_takeEnvelope, Cond.selects RX9 yX9_takeEnvelope yX9_takeEnvelope, Cond.code yX9_takeEnvelope cX9_takeEnvelope 7 none, Cond.methodLink RX9 81 yX9_valueAt, Cond.instanceMethod yX9_valueAt]
def wsX9_adopt_r2 : List Cond := [Cond.selects RX9 yX9_valueAt yX9_valueAt, Cond.code yX9_valueAt cX9_valueAt 6 (some .int), Cond.methodLink RX9 64 yX9_actingAt, Cond.instanceMethod yX9_actingAt, Cond.selects RX9 yX9_actingAt yX9_actingAt, Cond.code yX9_actingAt cX9_actingAt 4 (some .int), Cond.methodLink RX9 60 yX9_acts, Cond.instanceMethod yX9_acts, Cond.selects RX9 yX9_acts yX9_acts, Cond.code yX9_acts cX9_acts 3 (some .boolean), Cond.methodLink RX9 57 yX9_receiverPart, Cond.instanceMethod yX9_receiverPart, Cond.selects RX9 yX9_receiverPart yX9_receiverPart, Cond.code yX9_receiverPart cX9_receiverPart 3 (some .int), Cond.methodLink RX9 88 yX9_takeFraction, Cond.instanceMethod yX9_takeFraction, Cond.selects RX9 yX9_takeFraction yX9_takeFraction, Cond.code yX9_takeFraction cX9_takeFraction 4 none, Cond.fieldLink RX9 47 "SplitBeliefsModel" "upper" "I", Cond.fieldLink RX9 50 "SplitBeliefsModel" "lower" "I", Cond.methodLink RX9 43 yX9_divisor, Cond.static yX9_divisor, Cond.code yX9_divisor cX9_divisor 5 (some .int), Cond.methodLink RX9 127 yX9_weightOf]
def wsX9_adopt_r3 : List Cond := [Cond.instanceMethod yX9_weightOf, Cond.selects RX9 yX9_weightOf yX9_weightOf, Cond.code yX9_weightOf cX9_weightOf 4 (some .int), Cond.methodLink RX9 75 yX9_takes, Cond.instanceMethod yX9_takes, Cond.selects RX9 yX9_takes yX9_takes, Cond.code yX9_takes cX9_takes 5 none, Cond.fieldLink RX9 28 "SplitBeliefsModel" "posteriors" "[I", Cond.fieldLink RX9 25 "SplitBeliefsModel" "weights" "[I", Cond.methodLink RX9 78 yX9_gives, Cond.instanceMethod yX9_gives, Cond.selects RX9 yX9_gives yX9_gives, Cond.code yX9_gives cX9_gives 2 none]
def wsX9_adopt : List Cond := .code yX9_adopt cX9_adopt 1 (some .int) :: ((wsX9_adopt_r1 ++ (wsX9_adopt_r2 ++ wsX9_adopt_r3)) ++ wsX90)
def wsX9_receiver : List Cond := .code yX9_receiver cX9_receiver 3 (some .int) :: ([.methodLink RX9 110 yX9_isReceiver, .instanceMethod yX9_isReceiver, .selects RX9 yX9_isReceiver yX9_isReceiver, .initialized RX9, .code yX9_isReceiver cX9_isReceiver 2 (some .boolean), .fieldLink RX9 7 "SplitBeliefsModel" "state" "[I", .methodLink RX9 53 yX9_within, .static yX9_within, .code yX9_within cX9_within 3 (some .boolean), .methodLink RX9 57 yX9_receiverPart, .instanceMethod yX9_receiverPart, .selects RX9 yX9_receiverPart yX9_receiverPart, .code yX9_receiverPart cX9_receiverPart 3 (some .int), .methodLink RX9 134 yX9_leastActing, .instanceMethod yX9_leastActing, .selects RX9 yX9_leastActing yX9_leastActing, .code yX9_leastActing cX9_leastActing 4 (some .int), .methodLink RX9 60 yX9_acts, .instanceMethod yX9_acts, .selects RX9 yX9_acts yX9_acts, .code yX9_acts cX9_acts 3 (some .boolean)] ++ wsX90)
def wsX9_part_r1 : List Cond := [Cond.fieldLink RX9 7 "SplitBeliefsModel" "state" "[I", Cond.methodLink RX9 117 yX9_isPart, Cond.instanceMethod yX9_isPart, Cond.selects RX9 yX9_isPart yX9_isPart, Cond.initialized RX9, Cond.code yX9_isPart cX9_isPart 2 (some .boolean), Cond.methodLink RX9 53 yX9_within, Cond.static yX9_within, Cond.code yX9_within cX9_within 3 (some .boolean), Cond.methodLink RX9 64 yX9_actingAt, Cond.instanceMethod yX9_actingAt, Cond.selects RX9 yX9_actingAt yX9_actingAt, Cond.code yX9_actingAt cX9_actingAt 4 (some .int), Cond.methodLink RX9 60 yX9_acts, Cond.instanceMethod yX9_acts, Cond.selects RX9 yX9_acts yX9_acts, Cond.code yX9_acts cX9_acts 3 (some .boolean), Cond.methodLink RX9 57 yX9_receiverPart, Cond.instanceMethod yX9_receiverPart, Cond.selects RX9 yX9_receiverPart yX9_receiverPart, Cond.code yX9_receiverPart cX9_receiverPart 3 (some .int), Cond.methodLink RX9 81 yX9_valueAt, Cond.instanceMethod yX9_valueAt, Cond.selects RX9 yX9_valueAt yX9_valueAt]
def wsX9_part_r2 : List Cond := [Cond.code yX9_valueAt cX9_valueAt 6 (some .int)]
def wsX9_part : List Cond := .code yX9_part cX9_part 4 (some .int) :: ((wsX9_part_r1 ++ wsX9_part_r2) ++ wsX90)
def wsX9_isShare : List Cond := .code yX9_isShare cX9_isShare 1 (some .boolean) :: ([.methodLink RX9 53 yX9_within, .static yX9_within, .initialized RX9, .code yX9_within cX9_within 3 (some .boolean)])
def wsX9_value : List Cond := .code yX9_value cX9_value 2 (some .int) :: ([.methodLink RX9 137 yX9_isShare, .static yX9_isShare, .initialized RX9, .code yX9_isShare cX9_isShare 1 (some .boolean), .methodLink RX9 53 yX9_within, .static yX9_within, .code yX9_within cX9_within 3 (some .boolean), .methodLink RX9 81 yX9_valueAt, .instanceMethod yX9_valueAt, .selects RX9 yX9_valueAt yX9_valueAt, .code yX9_valueAt cX9_valueAt 6 (some .int), .fieldLink RX9 7 "SplitBeliefsModel" "state" "[I", .methodLink RX9 64 yX9_actingAt, .instanceMethod yX9_actingAt, .selects RX9 yX9_actingAt yX9_actingAt, .code yX9_actingAt cX9_actingAt 4 (some .int), .methodLink RX9 60 yX9_acts, .instanceMethod yX9_acts, .selects RX9 yX9_acts yX9_acts, .code yX9_acts cX9_acts 3 (some .boolean), .methodLink RX9 57 yX9_receiverPart, .instanceMethod yX9_receiverPart, .selects RX9 yX9_receiverPart yX9_receiverPart, .code yX9_receiverPart cX9_receiverPart 3 (some .int)] ++ wsX90)
def wsX9_mean_r1 : List Cond := [Cond.fieldLink RX9 47 "SplitBeliefsModel" "upper" "I", Cond.constant RX9 143 (10000000), Cond.fieldLink RX9 50 "SplitBeliefsModel" "lower" "I", Cond.methodLink RX9 140 yX9_takeMean, Cond.instanceMethod yX9_takeMean, Cond.selects RX9 yX9_takeMean yX9_takeMean, Cond.initialized RX9, Cond.code yX9_takeMean cX9_takeMean 3 none, Cond.fieldLink RX9 7 "SplitBeliefsModel" "state" "[I", Cond.methodLink RX9 81 yX9_valueAt, Cond.instanceMethod yX9_valueAt, Cond.selects RX9 yX9_valueAt yX9_valueAt, Cond.code yX9_valueAt cX9_valueAt 6 (some .int), Cond.methodLink RX9 64 yX9_actingAt, Cond.instanceMethod yX9_actingAt, Cond.selects RX9 yX9_actingAt yX9_actingAt, Cond.code yX9_actingAt cX9_actingAt 4 (some .int), Cond.methodLink RX9 60 yX9_acts, Cond.instanceMethod yX9_acts, Cond.selects RX9 yX9_acts yX9_acts, Cond.code yX9_acts cX9_acts 3 (some .boolean), Cond.methodLink RX9 57 yX9_receiverPart, Cond.instanceMethod yX9_receiverPart, Cond.selects RX9 yX9_receiverPart yX9_receiverPart]
def wsX9_mean_r2 : List Cond := [Cond.code yX9_receiverPart cX9_receiverPart 3 (some .int), Cond.methodLink RX9 84 yX9_weightSum, Cond.instanceMethod yX9_weightSum, Cond.selects RX9 yX9_weightSum yX9_weightSum, Cond.code yX9_weightSum cX9_weightSum 3 (some .int), Cond.methodLink RX9 88 yX9_takeFraction, Cond.instanceMethod yX9_takeFraction, Cond.selects RX9 yX9_takeFraction yX9_takeFraction, Cond.code yX9_takeFraction cX9_takeFraction 4 none, Cond.methodLink RX9 43 yX9_divisor, Cond.static yX9_divisor, Cond.code yX9_divisor cX9_divisor 5 (some .int)]
def wsX9_mean : List Cond := .code yX9_mean cX9_mean 2 (some .int) :: ((wsX9_mean_r1 ++ wsX9_mean_r2) ++ wsX90)
def wsX9_worth_r1 : List Cond := [Cond.fieldLink RX9 7 "SplitBeliefsModel" "state" "[I", Cond.fieldLink RX9 47 "SplitBeliefsModel" "upper" "I", Cond.fieldLink RX9 50 "SplitBeliefsModel" "lower" "I", Cond.methodLink RX9 110 yX9_isReceiver, Cond.instanceMethod yX9_isReceiver, Cond.selects RX9 yX9_isReceiver yX9_isReceiver, Cond.initialized RX9, Cond.code yX9_isReceiver cX9_isReceiver 2 (some .boolean), Cond.methodLink RX9 53 yX9_within, Cond.static yX9_within, Cond.code yX9_within cX9_within 3 (some .boolean), Cond.methodLink RX9 144 yX9_worthAt, Cond.instanceMethod yX9_worthAt, Cond.selects RX9 yX9_worthAt yX9_worthAt, Cond.code yX9_worthAt cX9_worthAt 4 (some .int), Cond.methodLink RX9 57 yX9_receiverPart, Cond.instanceMethod yX9_receiverPart, Cond.selects RX9 yX9_receiverPart yX9_receiverPart, Cond.code yX9_receiverPart cX9_receiverPart 3 (some .int), Cond.methodLink RX9 84 yX9_weightSum, Cond.instanceMethod yX9_weightSum, Cond.selects RX9 yX9_weightSum yX9_weightSum, Cond.code yX9_weightSum cX9_weightSum 3 (some .int), Cond.methodLink RX9 88 yX9_takeFraction]
def wsX9_worth_r2 : List Cond := [Cond.instanceMethod yX9_takeFraction, Cond.selects RX9 yX9_takeFraction yX9_takeFraction, Cond.code yX9_takeFraction cX9_takeFraction 4 none, Cond.methodLink RX9 43 yX9_divisor, Cond.static yX9_divisor, Cond.code yX9_divisor cX9_divisor 5 (some .int)]
def wsX9_worth : List Cond := .code yX9_worth cX9_worth 5 (some .int) :: ((wsX9_worth_r1 ++ wsX9_worth_r2) ++ wsX90)
def wsX9_isBest_r1 : List Cond := [Cond.fieldLink RX9 47 "SplitBeliefsModel" "upper" "I", Cond.fieldLink RX9 50 "SplitBeliefsModel" "lower" "I", Cond.fieldLink RX9 7 "SplitBeliefsModel" "state" "[I", Cond.methodLink RX9 140 yX9_takeMean, Cond.instanceMethod yX9_takeMean, Cond.selects RX9 yX9_takeMean yX9_takeMean, Cond.initialized RX9, Cond.code yX9_takeMean cX9_takeMean 3 none, Cond.methodLink RX9 81 yX9_valueAt, Cond.instanceMethod yX9_valueAt, Cond.selects RX9 yX9_valueAt yX9_valueAt, Cond.code yX9_valueAt cX9_valueAt 6 (some .int), Cond.methodLink RX9 64 yX9_actingAt, Cond.instanceMethod yX9_actingAt, Cond.selects RX9 yX9_actingAt yX9_actingAt, Cond.code yX9_actingAt cX9_actingAt 4 (some .int), Cond.methodLink RX9 60 yX9_acts, Cond.instanceMethod yX9_acts, Cond.selects RX9 yX9_acts yX9_acts, Cond.code yX9_acts cX9_acts 3 (some .boolean), Cond.methodLink RX9 57 yX9_receiverPart, Cond.instanceMethod yX9_receiverPart, Cond.selects RX9 yX9_receiverPart yX9_receiverPart, Cond.code yX9_receiverPart cX9_receiverPart 3 (some .int)]
def wsX9_isBest_r2 : List Cond := [Cond.methodLink RX9 84 yX9_weightSum, Cond.instanceMethod yX9_weightSum, Cond.selects RX9 yX9_weightSum yX9_weightSum, Cond.code yX9_weightSum cX9_weightSum 3 (some .int), Cond.methodLink RX9 88 yX9_takeFraction, Cond.instanceMethod yX9_takeFraction, Cond.selects RX9 yX9_takeFraction yX9_takeFraction, Cond.code yX9_takeFraction cX9_takeFraction 4 none, Cond.methodLink RX9 43 yX9_divisor, Cond.static yX9_divisor, Cond.code yX9_divisor cX9_divisor 5 (some .int), Cond.methodLink RX9 124 yX9_takeEnvelope, Cond.instanceMethod yX9_takeEnvelope, Cond.selects RX9 yX9_takeEnvelope yX9_takeEnvelope, Cond.code yX9_takeEnvelope cX9_takeEnvelope 7 none, Cond.fieldLink RX9 91 "SplitBeliefsModel" "bestLow" "I", Cond.fieldLink RX9 94 "SplitBeliefsModel" "bestHigh" "I"]
def wsX9_isBest : List Cond := .code yX9_isBest cX9_isBest 3 (some .boolean) :: ((wsX9_isBest_r1 ++ wsX9_isBest_r2) ++ wsX90)
def wsX9_count_r1 : List Cond := [Cond.fieldLink RX9 7 "SplitBeliefsModel" "state" "[I", Cond.fieldLink RX9 150 "SplitBeliefsModel" "padLength" "I", Cond.fieldLink RX9 35 "SplitBeliefsModel" "recorded" "I", Cond.methodLink RX9 84 yX9_weightSum, Cond.instanceMethod yX9_weightSum, Cond.selects RX9 yX9_weightSum yX9_weightSum, Cond.initialized RX9, Cond.code yX9_weightSum cX9_weightSum 3 (some .int), Cond.methodLink RX9 147 yX9_isBest, Cond.instanceMethod yX9_isBest, Cond.selects RX9 yX9_isBest yX9_isBest, Cond.code yX9_isBest cX9_isBest 3 (some .boolean), Cond.fieldLink RX9 47 "SplitBeliefsModel" "upper" "I", Cond.fieldLink RX9 50 "SplitBeliefsModel" "lower" "I", Cond.methodLink RX9 140 yX9_takeMean, Cond.instanceMethod yX9_takeMean, Cond.selects RX9 yX9_takeMean yX9_takeMean, Cond.code yX9_takeMean cX9_takeMean 3 none, Cond.methodLink RX9 81 yX9_valueAt, Cond.instanceMethod yX9_valueAt, Cond.selects RX9 yX9_valueAt yX9_valueAt, Cond.code yX9_valueAt cX9_valueAt 6 (some .int), Cond.methodLink RX9 64 yX9_actingAt, Cond.instanceMethod yX9_actingAt]
def wsX9_count_r2 : List Cond := [Cond.selects RX9 yX9_actingAt yX9_actingAt, Cond.code yX9_actingAt cX9_actingAt 4 (some .int), Cond.methodLink RX9 60 yX9_acts, Cond.instanceMethod yX9_acts, Cond.selects RX9 yX9_acts yX9_acts, Cond.code yX9_acts cX9_acts 3 (some .boolean), Cond.methodLink RX9 57 yX9_receiverPart, Cond.instanceMethod yX9_receiverPart, Cond.selects RX9 yX9_receiverPart yX9_receiverPart, Cond.code yX9_receiverPart cX9_receiverPart 3 (some .int), Cond.methodLink RX9 88 yX9_takeFraction, Cond.instanceMethod yX9_takeFraction, Cond.selects RX9 yX9_takeFraction yX9_takeFraction, Cond.code yX9_takeFraction cX9_takeFraction 4 none, Cond.methodLink RX9 43 yX9_divisor, Cond.static yX9_divisor, Cond.code yX9_divisor cX9_divisor 5 (some .int), Cond.methodLink RX9 124 yX9_takeEnvelope, Cond.instanceMethod yX9_takeEnvelope, Cond.selects RX9 yX9_takeEnvelope yX9_takeEnvelope, Cond.code yX9_takeEnvelope cX9_takeEnvelope 7 none, Cond.fieldLink RX9 91 "SplitBeliefsModel" "bestLow" "I", Cond.fieldLink RX9 94 "SplitBeliefsModel" "bestHigh" "I"]
def wsX9_count : List Cond := .code yX9_count cX9_count 2 (some .int) :: ((wsX9_count_r1 ++ wsX9_count_r2) ++ wsX90)
def wsX9_envelope_r1 : List Cond := [Cond.fieldLink RX9 47 "SplitBeliefsModel" "upper" "I", Cond.constant RX9 143 (10000000), Cond.fieldLink RX9 50 "SplitBeliefsModel" "lower" "I", Cond.methodLink RX9 137 yX9_isShare, Cond.static yX9_isShare, Cond.initialized RX9, Cond.code yX9_isShare cX9_isShare 1 (some .boolean), Cond.methodLink RX9 53 yX9_within, Cond.static yX9_within, Cond.code yX9_within cX9_within 3 (some .boolean), Cond.methodLink RX9 124 yX9_takeEnvelope, Cond.instanceMethod yX9_takeEnvelope, Cond.selects RX9 yX9_takeEnvelope yX9_takeEnvelope, Cond.code yX9_takeEnvelope cX9_takeEnvelope 7 none, Cond.fieldLink RX9 91 "SplitBeliefsModel" "bestLow" "I", Cond.fieldLink RX9 94 "SplitBeliefsModel" "bestHigh" "I", Cond.methodLink RX9 81 yX9_valueAt, Cond.instanceMethod yX9_valueAt, Cond.selects RX9 yX9_valueAt yX9_valueAt, Cond.code yX9_valueAt cX9_valueAt 6 (some .int), Cond.fieldLink RX9 7 "SplitBeliefsModel" "state" "[I", Cond.methodLink RX9 64 yX9_actingAt, Cond.instanceMethod yX9_actingAt, Cond.selects RX9 yX9_actingAt yX9_actingAt]
def wsX9_envelope_r2 : List Cond := [Cond.code yX9_actingAt cX9_actingAt 4 (some .int), Cond.methodLink RX9 60 yX9_acts, Cond.instanceMethod yX9_acts, Cond.selects RX9 yX9_acts yX9_acts, Cond.code yX9_acts cX9_acts 3 (some .boolean), Cond.methodLink RX9 57 yX9_receiverPart, Cond.instanceMethod yX9_receiverPart, Cond.selects RX9 yX9_receiverPart yX9_receiverPart, Cond.code yX9_receiverPart cX9_receiverPart 3 (some .int), Cond.methodLink RX9 88 yX9_takeFraction, Cond.instanceMethod yX9_takeFraction, Cond.selects RX9 yX9_takeFraction yX9_takeFraction, Cond.code yX9_takeFraction cX9_takeFraction 4 none, Cond.methodLink RX9 43 yX9_divisor, Cond.static yX9_divisor, Cond.code yX9_divisor cX9_divisor 5 (some .int)]
def wsX9_envelope : List Cond := .code yX9_envelope cX9_envelope 3 (some .int) :: ((wsX9_envelope_r1 ++ wsX9_envelope_r2) ++ wsX90)
def wsX9_best_r1 : List Cond := [Cond.fieldLink RX9 91 "SplitBeliefsModel" "bestLow" "I", Cond.fieldLink RX9 94 "SplitBeliefsModel" "bestHigh" "I", Cond.methodLink RX9 137 yX9_isShare, Cond.static yX9_isShare, Cond.initialized RX9, Cond.code yX9_isShare cX9_isShare 1 (some .boolean), Cond.methodLink RX9 53 yX9_within, Cond.static yX9_within, Cond.code yX9_within cX9_within 3 (some .boolean), Cond.methodLink RX9 124 yX9_takeEnvelope, Cond.instanceMethod yX9_takeEnvelope, Cond.selects RX9 yX9_takeEnvelope yX9_takeEnvelope, Cond.code yX9_takeEnvelope cX9_takeEnvelope 7 none, Cond.methodLink RX9 81 yX9_valueAt, Cond.instanceMethod yX9_valueAt, Cond.selects RX9 yX9_valueAt yX9_valueAt, Cond.code yX9_valueAt cX9_valueAt 6 (some .int), Cond.fieldLink RX9 7 "SplitBeliefsModel" "state" "[I", Cond.methodLink RX9 64 yX9_actingAt, Cond.instanceMethod yX9_actingAt, Cond.selects RX9 yX9_actingAt yX9_actingAt, Cond.code yX9_actingAt cX9_actingAt 4 (some .int), Cond.methodLink RX9 60 yX9_acts, Cond.instanceMethod yX9_acts]
def wsX9_best_r2 : List Cond := [Cond.selects RX9 yX9_acts yX9_acts, Cond.code yX9_acts cX9_acts 3 (some .boolean), Cond.methodLink RX9 57 yX9_receiverPart, Cond.instanceMethod yX9_receiverPart, Cond.selects RX9 yX9_receiverPart yX9_receiverPart, Cond.code yX9_receiverPart cX9_receiverPart 3 (some .int), Cond.methodLink RX9 88 yX9_takeFraction, Cond.instanceMethod yX9_takeFraction, Cond.selects RX9 yX9_takeFraction yX9_takeFraction, Cond.code yX9_takeFraction cX9_takeFraction 4 none, Cond.fieldLink RX9 47 "SplitBeliefsModel" "upper" "I", Cond.fieldLink RX9 50 "SplitBeliefsModel" "lower" "I", Cond.methodLink RX9 43 yX9_divisor, Cond.static yX9_divisor, Cond.code yX9_divisor cX9_divisor 5 (some .int), Cond.methodLink RX9 127 yX9_weightOf, Cond.instanceMethod yX9_weightOf, Cond.selects RX9 yX9_weightOf yX9_weightOf, Cond.code yX9_weightOf cX9_weightOf 4 (some .int)]
def wsX9_best : List Cond := .code yX9_best cX9_best 3 (some .int) :: ((wsX9_best_r1 ++ wsX9_best_r2) ++ wsX90)
def wsX9_mostGained_r1 : List Cond := [Cond.fieldLink RX9 47 "SplitBeliefsModel" "upper" "I", Cond.fieldLink RX9 50 "SplitBeliefsModel" "lower" "I", Cond.methodLink RX9 53 yX9_within, Cond.static yX9_within, Cond.initialized RX9, Cond.code yX9_within cX9_within 3 (some .boolean), Cond.methodLink RX9 124 yX9_takeEnvelope, Cond.instanceMethod yX9_takeEnvelope, Cond.selects RX9 yX9_takeEnvelope yX9_takeEnvelope, Cond.code yX9_takeEnvelope cX9_takeEnvelope 7 none, Cond.fieldLink RX9 91 "SplitBeliefsModel" "bestLow" "I", Cond.fieldLink RX9 94 "SplitBeliefsModel" "bestHigh" "I", Cond.methodLink RX9 81 yX9_valueAt, Cond.instanceMethod yX9_valueAt, Cond.selects RX9 yX9_valueAt yX9_valueAt, Cond.code yX9_valueAt cX9_valueAt 6 (some .int), Cond.fieldLink RX9 7 "SplitBeliefsModel" "state" "[I", Cond.methodLink RX9 64 yX9_actingAt, Cond.instanceMethod yX9_actingAt, Cond.selects RX9 yX9_actingAt yX9_actingAt, Cond.code yX9_actingAt cX9_actingAt 4 (some .int), Cond.methodLink RX9 60 yX9_acts, Cond.instanceMethod yX9_acts, Cond.selects RX9 yX9_acts yX9_acts]
def wsX9_mostGained_r2 : List Cond := [Cond.code yX9_acts cX9_acts 3 (some .boolean), Cond.methodLink RX9 57 yX9_receiverPart, Cond.instanceMethod yX9_receiverPart, Cond.selects RX9 yX9_receiverPart yX9_receiverPart, Cond.code yX9_receiverPart cX9_receiverPart 3 (some .int), Cond.methodLink RX9 88 yX9_takeFraction, Cond.instanceMethod yX9_takeFraction, Cond.selects RX9 yX9_takeFraction yX9_takeFraction, Cond.code yX9_takeFraction cX9_takeFraction 4 none, Cond.methodLink RX9 43 yX9_divisor, Cond.static yX9_divisor, Cond.code yX9_divisor cX9_divisor 5 (some .int)]
def wsX9_mostGained : List Cond := .code yX9_mostGained cX9_mostGained 7 (some .int) :: ((wsX9_mostGained_r1 ++ wsX9_mostGained_r2) ++ wsX90)
def wsX9_put : List Cond := .code yX9_put cX9_put 8 (some .int) :: ([.constantLong RX9 153 (255), .fieldLink RX9 150 "SplitBeliefsModel" "padLength" "I", .fieldLink RX9 22 "SplitBeliefsModel" "pad" "[I", .methodLink RX9 53 yX9_within, .static yX9_within, .initialized RX9, .code yX9_within cX9_within 3 (some .boolean)] ++ wsX90)
def wsX9_wipe : List Cond := .code yX9_wipe cX9_wipe 2 (some .int) :: ([.fieldLink RX9 150 "SplitBeliefsModel" "padLength" "I"] ++ wsX90)
def wsX9_character : List Cond := .code yX9_character cX9_character 2 (some .int) :: ([.fieldLink RX9 150 "SplitBeliefsModel" "padLength" "I", .fieldLink RX9 22 "SplitBeliefsModel" "pad" "[I"] ++ wsX90)
def wsX9_isNext : List Cond := .code yX9_isNext cX9_isNext 3 (some .boolean) :: ([.fieldLink RX9 155 "SplitBeliefsModel" "at" "I", .methodLink RX9 158 yX9_character, .instanceMethod yX9_character, .selects RX9 yX9_character yX9_character, .initialized RX9, .code yX9_character cX9_character 2 (some .int), .fieldLink RX9 150 "SplitBeliefsModel" "padLength" "I", .fieldLink RX9 22 "SplitBeliefsModel" "pad" "[I"] ++ wsX90)
def wsX9_takeDigit : List Cond := .code yX9_takeDigit cX9_takeDigit 3 (some .int) :: ([.fieldLink RX9 155 "SplitBeliefsModel" "at" "I", .methodLink RX9 158 yX9_character, .instanceMethod yX9_character, .selects RX9 yX9_character yX9_character, .initialized RX9, .code yX9_character cX9_character 2 (some .int), .fieldLink RX9 150 "SplitBeliefsModel" "padLength" "I", .fieldLink RX9 22 "SplitBeliefsModel" "pad" "[I", .methodLink RX9 53 yX9_within, .static yX9_within, .code yX9_within cX9_within 3 (some .boolean)] ++ wsX90)
def wsX9_takeNumber : List Cond := .code yX9_takeNumber cX9_takeNumber 2 (some .int) :: ([.fieldLink RX9 155 "SplitBeliefsModel" "at" "I", .methodLink RX9 161 yX9_takeDigit, .instanceMethod yX9_takeDigit, .selects RX9 yX9_takeDigit yX9_takeDigit, .initialized RX9, .code yX9_takeDigit cX9_takeDigit 3 (some .int), .methodLink RX9 158 yX9_character, .instanceMethod yX9_character, .selects RX9 yX9_character yX9_character, .code yX9_character cX9_character 2 (some .int), .fieldLink RX9 150 "SplitBeliefsModel" "padLength" "I", .fieldLink RX9 22 "SplitBeliefsModel" "pad" "[I", .methodLink RX9 53 yX9_within, .static yX9_within, .code yX9_within cX9_within 3 (some .boolean)] ++ wsX90)
def wsX9_readsReceiver_r1 : List Cond := [Cond.fieldLink RX9 167 "SplitBeliefsModel" "first" "I", Cond.fieldLink RX9 173 "SplitBeliefsModel" "second" "I", Cond.fieldLink RX9 176 "SplitBeliefsModel" "third" "I", Cond.fieldLink RX9 179 "SplitBeliefsModel" "fourth" "I", Cond.methodLink RX9 164 yX9_takeNumber, Cond.instanceMethod yX9_takeNumber, Cond.selects RX9 yX9_takeNumber yX9_takeNumber, Cond.initialized RX9, Cond.code yX9_takeNumber cX9_takeNumber 2 (some .int), Cond.fieldLink RX9 155 "SplitBeliefsModel" "at" "I", Cond.methodLink RX9 161 yX9_takeDigit, Cond.instanceMethod yX9_takeDigit, Cond.selects RX9 yX9_takeDigit yX9_takeDigit, Cond.code yX9_takeDigit cX9_takeDigit 3 (some .int), Cond.methodLink RX9 158 yX9_character, Cond.instanceMethod yX9_character, Cond.selects RX9 yX9_character yX9_character, Cond.code yX9_character cX9_character 2 (some .int), Cond.fieldLink RX9 150 "SplitBeliefsModel" "padLength" "I", Cond.fieldLink RX9 22 "SplitBeliefsModel" "pad" "[I", Cond.methodLink RX9 53 yX9_within, Cond.static yX9_within, Cond.code yX9_within cX9_within 3 (some .boolean), Cond.methodLink RX9 170 yX9_isNext]
def wsX9_readsReceiver_r2 : List Cond := [Cond.instanceMethod yX9_isNext, Cond.selects RX9 yX9_isNext yX9_isNext, Cond.code yX9_isNext cX9_isNext 3 (some .boolean)]
def wsX9_readsReceiver : List Cond := .code yX9_readsReceiver cX9_readsReceiver 3 (some .boolean) :: ((wsX9_readsReceiver_r1 ++ wsX9_readsReceiver_r2) ++ wsX90)
def wsX9_readsParts_r1 : List Cond := [Cond.fieldLink RX9 72 "SplitBeliefsModel" "many" "I", Cond.fieldLink RX9 167 "SplitBeliefsModel" "first" "I", Cond.methodLink RX9 164 yX9_takeNumber, Cond.instanceMethod yX9_takeNumber, Cond.selects RX9 yX9_takeNumber yX9_takeNumber, Cond.initialized RX9, Cond.code yX9_takeNumber cX9_takeNumber 2 (some .int), Cond.fieldLink RX9 155 "SplitBeliefsModel" "at" "I", Cond.methodLink RX9 161 yX9_takeDigit, Cond.instanceMethod yX9_takeDigit, Cond.selects RX9 yX9_takeDigit yX9_takeDigit, Cond.code yX9_takeDigit cX9_takeDigit 3 (some .int), Cond.methodLink RX9 158 yX9_character, Cond.instanceMethod yX9_character, Cond.selects RX9 yX9_character yX9_character, Cond.code yX9_character cX9_character 2 (some .int), Cond.fieldLink RX9 150 "SplitBeliefsModel" "padLength" "I", Cond.fieldLink RX9 22 "SplitBeliefsModel" "pad" "[I", Cond.methodLink RX9 53 yX9_within, Cond.static yX9_within, Cond.code yX9_within cX9_within 3 (some .boolean), Cond.methodLink RX9 170 yX9_isNext, Cond.instanceMethod yX9_isNext, Cond.selects RX9 yX9_isNext yX9_isNext]
def wsX9_readsParts_r2 : List Cond := [Cond.code yX9_isNext cX9_isNext 3 (some .boolean), Cond.methodLink RX9 137 yX9_isShare, Cond.static yX9_isShare, Cond.code yX9_isShare cX9_isShare 1 (some .boolean), Cond.methodLink RX9 75 yX9_takes, Cond.instanceMethod yX9_takes, Cond.selects RX9 yX9_takes yX9_takes, Cond.code yX9_takes cX9_takes 5 none, Cond.fieldLink RX9 28 "SplitBeliefsModel" "posteriors" "[I", Cond.fieldLink RX9 25 "SplitBeliefsModel" "weights" "[I"]
def wsX9_readsParts : List Cond := .code yX9_readsParts cX9_readsParts 6 (some .boolean) :: ((wsX9_readsParts_r1 ++ wsX9_readsParts_r2) ++ wsX90)
def wsX9_readsOrder_r1 : List Cond := [Cond.fieldLink RX9 155 "SplitBeliefsModel" "at" "I", Cond.fieldLink RX9 182 "SplitBeliefsModel" "letter" "I", Cond.fieldLink RX9 167 "SplitBeliefsModel" "first" "I", Cond.methodLink RX9 158 yX9_character, Cond.instanceMethod yX9_character, Cond.selects RX9 yX9_character yX9_character, Cond.initialized RX9, Cond.code yX9_character cX9_character 2 (some .int), Cond.fieldLink RX9 150 "SplitBeliefsModel" "padLength" "I", Cond.fieldLink RX9 22 "SplitBeliefsModel" "pad" "[I", Cond.methodLink RX9 185 yX9_readsReceiver, Cond.instanceMethod yX9_readsReceiver, Cond.selects RX9 yX9_readsReceiver yX9_readsReceiver, Cond.code yX9_readsReceiver cX9_readsReceiver 3 (some .boolean), Cond.fieldLink RX9 173 "SplitBeliefsModel" "second" "I", Cond.fieldLink RX9 176 "SplitBeliefsModel" "third" "I", Cond.fieldLink RX9 179 "SplitBeliefsModel" "fourth" "I", Cond.methodLink RX9 164 yX9_takeNumber, Cond.instanceMethod yX9_takeNumber, Cond.selects RX9 yX9_takeNumber yX9_takeNumber, Cond.code yX9_takeNumber cX9_takeNumber 2 (some .int), Cond.methodLink RX9 161 yX9_takeDigit, Cond.instanceMethod yX9_takeDigit, Cond.selects RX9 yX9_takeDigit yX9_takeDigit]
def wsX9_readsOrder_r2 : List Cond := [Cond.code yX9_takeDigit cX9_takeDigit 3 (some .int), Cond.methodLink RX9 53 yX9_within, Cond.static yX9_within, Cond.code yX9_within cX9_within 3 (some .boolean), Cond.methodLink RX9 170 yX9_isNext, Cond.instanceMethod yX9_isNext, Cond.selects RX9 yX9_isNext yX9_isNext, Cond.code yX9_isNext cX9_isNext 3 (some .boolean), Cond.methodLink RX9 188 yX9_readsParts, Cond.instanceMethod yX9_readsParts, Cond.selects RX9 yX9_readsParts yX9_readsParts, Cond.code yX9_readsParts cX9_readsParts 6 (some .boolean), Cond.fieldLink RX9 72 "SplitBeliefsModel" "many" "I", Cond.methodLink RX9 137 yX9_isShare, Cond.static yX9_isShare, Cond.code yX9_isShare cX9_isShare 1 (some .boolean), Cond.methodLink RX9 75 yX9_takes, Cond.instanceMethod yX9_takes, Cond.selects RX9 yX9_takes yX9_takes, Cond.code yX9_takes cX9_takes 5 none, Cond.fieldLink RX9 28 "SplitBeliefsModel" "posteriors" "[I", Cond.fieldLink RX9 25 "SplitBeliefsModel" "weights" "[I"]
def wsX9_readsOrder : List Cond := .code yX9_readsOrder cX9_readsOrder 1 (some .boolean) :: ((wsX9_readsOrder_r1 ++ wsX9_readsOrder_r2) ++ wsX90)
def wsX9_findFault_r1 : List Cond := [Cond.fieldLink RX9 155 "SplitBeliefsModel" "at" "I", Cond.fieldLink RX9 150 "SplitBeliefsModel" "padLength" "I", Cond.methodLink RX9 191 yX9_readsOrder, Cond.instanceMethod yX9_readsOrder, Cond.selects RX9 yX9_readsOrder yX9_readsOrder, Cond.initialized RX9, Cond.code yX9_readsOrder cX9_readsOrder 1 (some .boolean), Cond.fieldLink RX9 182 "SplitBeliefsModel" "letter" "I", Cond.fieldLink RX9 167 "SplitBeliefsModel" "first" "I", Cond.methodLink RX9 158 yX9_character, Cond.instanceMethod yX9_character, Cond.selects RX9 yX9_character yX9_character, Cond.code yX9_character cX9_character 2 (some .int), Cond.fieldLink RX9 22 "SplitBeliefsModel" "pad" "[I", Cond.methodLink RX9 185 yX9_readsReceiver, Cond.instanceMethod yX9_readsReceiver, Cond.selects RX9 yX9_readsReceiver yX9_readsReceiver, Cond.code yX9_readsReceiver cX9_readsReceiver 3 (some .boolean), Cond.fieldLink RX9 173 "SplitBeliefsModel" "second" "I", Cond.fieldLink RX9 176 "SplitBeliefsModel" "third" "I", Cond.fieldLink RX9 179 "SplitBeliefsModel" "fourth" "I", Cond.methodLink RX9 164 yX9_takeNumber, Cond.instanceMethod yX9_takeNumber, Cond.selects RX9 yX9_takeNumber yX9_takeNumber]
def wsX9_findFault_r2 : List Cond := [Cond.code yX9_takeNumber cX9_takeNumber 2 (some .int), Cond.methodLink RX9 161 yX9_takeDigit, Cond.instanceMethod yX9_takeDigit, Cond.selects RX9 yX9_takeDigit yX9_takeDigit, Cond.code yX9_takeDigit cX9_takeDigit 3 (some .int), Cond.methodLink RX9 53 yX9_within, Cond.static yX9_within, Cond.code yX9_within cX9_within 3 (some .boolean), Cond.methodLink RX9 170 yX9_isNext, Cond.instanceMethod yX9_isNext, Cond.selects RX9 yX9_isNext yX9_isNext, Cond.code yX9_isNext cX9_isNext 3 (some .boolean), Cond.methodLink RX9 188 yX9_readsParts, Cond.instanceMethod yX9_readsParts, Cond.selects RX9 yX9_readsParts yX9_readsParts, Cond.code yX9_readsParts cX9_readsParts 6 (some .boolean), Cond.fieldLink RX9 72 "SplitBeliefsModel" "many" "I", Cond.methodLink RX9 137 yX9_isShare, Cond.static yX9_isShare, Cond.code yX9_isShare cX9_isShare 1 (some .boolean), Cond.methodLink RX9 75 yX9_takes, Cond.instanceMethod yX9_takes, Cond.selects RX9 yX9_takes yX9_takes, Cond.code yX9_takes cX9_takes 5 none]
def wsX9_findFault_r3 : List Cond := [Cond.fieldLink RX9 28 "SplitBeliefsModel" "posteriors" "[I", Cond.fieldLink RX9 25 "SplitBeliefsModel" "weights" "[I"]
def wsX9_findFault : List Cond := .code yX9_findFault cX9_findFault 1 (some .int) :: ((wsX9_findFault_r1 ++ (wsX9_findFault_r2 ++ wsX9_findFault_r3)) ++ wsX90)
def wsX9_fault_r1 : List Cond := [Cond.methodLink RX9 194 yX9_findFault, Cond.instanceMethod yX9_findFault, Cond.selects RX9 yX9_findFault yX9_findFault, Cond.initialized RX9, Cond.code yX9_findFault cX9_findFault 1 (some .int), Cond.fieldLink RX9 155 "SplitBeliefsModel" "at" "I", Cond.fieldLink RX9 150 "SplitBeliefsModel" "padLength" "I", Cond.methodLink RX9 191 yX9_readsOrder, Cond.instanceMethod yX9_readsOrder, Cond.selects RX9 yX9_readsOrder yX9_readsOrder, Cond.code yX9_readsOrder cX9_readsOrder 1 (some .boolean), Cond.fieldLink RX9 182 "SplitBeliefsModel" "letter" "I", Cond.fieldLink RX9 167 "SplitBeliefsModel" "first" "I", Cond.methodLink RX9 158 yX9_character, Cond.instanceMethod yX9_character, Cond.selects RX9 yX9_character yX9_character, Cond.code yX9_character cX9_character 2 (some .int), Cond.fieldLink RX9 22 "SplitBeliefsModel" "pad" "[I", Cond.methodLink RX9 185 yX9_readsReceiver, Cond.instanceMethod yX9_readsReceiver, Cond.selects RX9 yX9_readsReceiver yX9_readsReceiver, Cond.code yX9_readsReceiver cX9_readsReceiver 3 (some .boolean), Cond.fieldLink RX9 173 "SplitBeliefsModel" "second" "I", Cond.fieldLink RX9 176 "SplitBeliefsModel" "third" "I"]
def wsX9_fault_r2 : List Cond := [Cond.fieldLink RX9 179 "SplitBeliefsModel" "fourth" "I", Cond.methodLink RX9 164 yX9_takeNumber, Cond.instanceMethod yX9_takeNumber, Cond.selects RX9 yX9_takeNumber yX9_takeNumber, Cond.code yX9_takeNumber cX9_takeNumber 2 (some .int), Cond.methodLink RX9 161 yX9_takeDigit, Cond.instanceMethod yX9_takeDigit, Cond.selects RX9 yX9_takeDigit yX9_takeDigit, Cond.code yX9_takeDigit cX9_takeDigit 3 (some .int), Cond.methodLink RX9 53 yX9_within, Cond.static yX9_within, Cond.code yX9_within cX9_within 3 (some .boolean), Cond.methodLink RX9 170 yX9_isNext, Cond.instanceMethod yX9_isNext, Cond.selects RX9 yX9_isNext yX9_isNext, Cond.code yX9_isNext cX9_isNext 3 (some .boolean), Cond.methodLink RX9 188 yX9_readsParts, Cond.instanceMethod yX9_readsParts, Cond.selects RX9 yX9_readsParts yX9_readsParts, Cond.code yX9_readsParts cX9_readsParts 6 (some .boolean), Cond.fieldLink RX9 72 "SplitBeliefsModel" "many" "I", Cond.methodLink RX9 137 yX9_isShare, Cond.static yX9_isShare, Cond.code yX9_isShare cX9_isShare 1 (some .boolean)]
def wsX9_fault_r3 : List Cond := [Cond.methodLink RX9 75 yX9_takes, Cond.instanceMethod yX9_takes, Cond.selects RX9 yX9_takes yX9_takes, Cond.code yX9_takes cX9_takes 5 none, Cond.fieldLink RX9 28 "SplitBeliefsModel" "posteriors" "[I", Cond.fieldLink RX9 25 "SplitBeliefsModel" "weights" "[I"]
def wsX9_fault : List Cond := .code yX9_fault cX9_fault 1 (some .int) :: ((wsX9_fault_r1 ++ (wsX9_fault_r2 ++ wsX9_fault_r3)) ++ wsX90)
def wsX9_areAverage : List Cond := .code yX9_areAverage cX9_areAverage 3 (some .boolean) :: ([.fieldLink RX9 72 "SplitBeliefsModel" "many" "I", .fieldLink RX9 25 "SplitBeliefsModel" "weights" "[I", .fieldLink RX9 28 "SplitBeliefsModel" "posteriors" "[I", .fieldLink RX9 7 "SplitBeliefsModel" "state" "[I"] ++ wsX90)
def wsX9_whyNoSplit : List Cond := .code yX9_whyNoSplit cX9_whyNoSplit 1 (some .int) :: ([.fieldLink RX9 167 "SplitBeliefsModel" "first" "I", .methodLink RX9 120 yX9_areWell, .instanceMethod yX9_areWell, .selects RX9 yX9_areWell yX9_areWell, .initialized RX9, .code yX9_areWell cX9_areWell 4 (some .boolean), .fieldLink RX9 72 "SplitBeliefsModel" "many" "I", .fieldLink RX9 25 "SplitBeliefsModel" "weights" "[I", .methodLink RX9 43 yX9_divisor, .static yX9_divisor, .code yX9_divisor cX9_divisor 5 (some .int), .methodLink RX9 197 yX9_areAverage, .instanceMethod yX9_areAverage, .selects RX9 yX9_areAverage yX9_areAverage, .code yX9_areAverage cX9_areAverage 3 (some .boolean), .fieldLink RX9 28 "SplitBeliefsModel" "posteriors" "[I", .fieldLink RX9 7 "SplitBeliefsModel" "state" "[I"] ++ wsX90)
def wsX9_whyNotDone_r1 : List Cond := [Cond.fieldLink RX9 182 "SplitBeliefsModel" "letter" "I", Cond.fieldLink RX9 167 "SplitBeliefsModel" "first" "I", Cond.fieldLink RX9 173 "SplitBeliefsModel" "second" "I", Cond.fieldLink RX9 176 "SplitBeliefsModel" "third" "I", Cond.fieldLink RX9 179 "SplitBeliefsModel" "fourth" "I", Cond.methodLink RX9 103 yX9_whyNotHired, Cond.instanceMethod yX9_whyNotHired, Cond.selects RX9 yX9_whyNotHired yX9_whyNotHired, Cond.initialized RX9, Cond.code yX9_whyNotHired cX9_whyNotHired 5 (some .int), Cond.fieldLink RX9 7 "SplitBeliefsModel" "state" "[I", Cond.methodLink RX9 53 yX9_within, Cond.static yX9_within, Cond.code yX9_within cX9_within 3 (some .boolean), Cond.methodLink RX9 110 yX9_isReceiver, Cond.instanceMethod yX9_isReceiver, Cond.selects RX9 yX9_isReceiver yX9_isReceiver, Cond.code yX9_isReceiver cX9_isReceiver 2 (some .boolean), Cond.methodLink RX9 200 yX9_whyNoSplit, Cond.instanceMethod yX9_whyNoSplit, Cond.selects RX9 yX9_whyNoSplit yX9_whyNoSplit, Cond.code yX9_whyNoSplit cX9_whyNoSplit 1 (some .int), Cond.methodLink RX9 120 yX9_areWell, Cond.instanceMethod yX9_areWell]
def wsX9_whyNotDone_r2 : List Cond := [Cond.selects RX9 yX9_areWell yX9_areWell, Cond.code yX9_areWell cX9_areWell 4 (some .boolean), Cond.fieldLink RX9 72 "SplitBeliefsModel" "many" "I", Cond.fieldLink RX9 25 "SplitBeliefsModel" "weights" "[I", Cond.methodLink RX9 43 yX9_divisor, Cond.static yX9_divisor, Cond.code yX9_divisor cX9_divisor 5 (some .int), Cond.methodLink RX9 197 yX9_areAverage, Cond.instanceMethod yX9_areAverage, Cond.selects RX9 yX9_areAverage yX9_areAverage, Cond.code yX9_areAverage cX9_areAverage 3 (some .boolean), Cond.fieldLink RX9 28 "SplitBeliefsModel" "posteriors" "[I"]
def wsX9_whyNotDone : List Cond := .code yX9_whyNotDone cX9_whyNotDone 1 (some .int) :: ((wsX9_whyNotDone_r1 ++ wsX9_whyNotDone_r2) ++ wsX90)
def wsX9_does_r1 : List Cond := [Cond.fieldLink RX9 182 "SplitBeliefsModel" "letter" "I", Cond.fieldLink RX9 167 "SplitBeliefsModel" "first" "I", Cond.fieldLink RX9 173 "SplitBeliefsModel" "second" "I", Cond.fieldLink RX9 176 "SplitBeliefsModel" "third" "I", Cond.fieldLink RX9 179 "SplitBeliefsModel" "fourth" "I", Cond.methodLink RX9 107 yX9_hires, Cond.instanceMethod yX9_hires, Cond.selects RX9 yX9_hires yX9_hires, Cond.initialized RX9, Cond.code yX9_hires cX9_hires 6 (some .int), Cond.fieldLink RX9 7 "SplitBeliefsModel" "state" "[I", Cond.methodLink RX9 114 yX9_dismisses, Cond.instanceMethod yX9_dismisses, Cond.selects RX9 yX9_dismisses yX9_dismisses, Cond.code yX9_dismisses cX9_dismisses 3 (some .int), Cond.methodLink RX9 100 yX9_priors, Cond.instanceMethod yX9_priors, Cond.selects RX9 yX9_priors yX9_priors, Cond.code yX9_priors cX9_priors 2 none, Cond.methodLink RX9 31 yX9_begins, Cond.instanceMethod yX9_begins, Cond.selects RX9 yX9_begins yX9_begins, Cond.code yX9_begins cX9_begins 2 none, Cond.methodLink RX9 68 yX9_takesOne]
def wsX9_does_r2 : List Cond := [Cond.instanceMethod yX9_takesOne, Cond.selects RX9 yX9_takesOne yX9_takesOne, Cond.code yX9_takesOne cX9_takesOne 3 none, Cond.fieldLink RX9 72 "SplitBeliefsModel" "many" "I", Cond.methodLink RX9 75 yX9_takes, Cond.instanceMethod yX9_takes, Cond.selects RX9 yX9_takes yX9_takes, Cond.code yX9_takes cX9_takes 5 none, Cond.fieldLink RX9 28 "SplitBeliefsModel" "posteriors" "[I", Cond.fieldLink RX9 25 "SplitBeliefsModel" "weights" "[I", Cond.methodLink RX9 78 yX9_gives, Cond.instanceMethod yX9_gives, Cond.selects RX9 yX9_gives yX9_gives, Cond.code yX9_gives cX9_gives 2 none, Cond.methodLink RX9 131 yX9_adopts, Cond.instanceMethod yX9_adopts, Cond.selects RX9 yX9_adopts yX9_adopts, Cond.code yX9_adopts cX9_adopts 2 (some .int), Cond.fieldLink RX9 91 "SplitBeliefsModel" "bestLow" "I", Cond.fieldLink RX9 94 "SplitBeliefsModel" "bestHigh" "I", Cond.methodLink RX9 124 yX9_takeEnvelope, Cond.instanceMethod yX9_takeEnvelope, Cond.selects RX9 yX9_takeEnvelope yX9_takeEnvelope, Cond.code yX9_takeEnvelope cX9_takeEnvelope 7 none]
def wsX9_does_r3 : List Cond := [Cond.methodLink RX9 81 yX9_valueAt, Cond.instanceMethod yX9_valueAt, Cond.selects RX9 yX9_valueAt yX9_valueAt, Cond.code yX9_valueAt cX9_valueAt 6 (some .int), Cond.methodLink RX9 64 yX9_actingAt, Cond.instanceMethod yX9_actingAt, Cond.selects RX9 yX9_actingAt yX9_actingAt, Cond.code yX9_actingAt cX9_actingAt 4 (some .int), Cond.methodLink RX9 60 yX9_acts, Cond.instanceMethod yX9_acts, Cond.selects RX9 yX9_acts yX9_acts, Cond.code yX9_acts cX9_acts 3 (some .boolean), Cond.methodLink RX9 57 yX9_receiverPart, Cond.instanceMethod yX9_receiverPart, Cond.selects RX9 yX9_receiverPart yX9_receiverPart, Cond.code yX9_receiverPart cX9_receiverPart 3 (some .int), Cond.methodLink RX9 88 yX9_takeFraction, Cond.instanceMethod yX9_takeFraction, Cond.selects RX9 yX9_takeFraction yX9_takeFraction, Cond.code yX9_takeFraction cX9_takeFraction 4 none, Cond.fieldLink RX9 47 "SplitBeliefsModel" "upper" "I", Cond.fieldLink RX9 50 "SplitBeliefsModel" "lower" "I", Cond.methodLink RX9 43 yX9_divisor, Cond.static yX9_divisor]
def wsX9_does_r4 : List Cond := [Cond.code yX9_divisor cX9_divisor 5 (some .int), Cond.methodLink RX9 127 yX9_weightOf, Cond.instanceMethod yX9_weightOf, Cond.selects RX9 yX9_weightOf yX9_weightOf, Cond.code yX9_weightOf cX9_weightOf 4 (some .int)]
def wsX9_does : List Cond := .code yX9_does cX9_does 1 none :: ((wsX9_does_r1 ++ (wsX9_does_r2 ++ (wsX9_does_r3 ++ wsX9_does_r4))) ++ wsX90)
def wsX9_carryOut_r1 : List Cond := [Cond.fieldLink RX9 155 "SplitBeliefsModel" "at" "I", Cond.fieldLink RX9 150 "SplitBeliefsModel" "padLength" "I", Cond.methodLink RX9 194 yX9_findFault, Cond.instanceMethod yX9_findFault, Cond.selects RX9 yX9_findFault yX9_findFault, Cond.initialized RX9, Cond.code yX9_findFault cX9_findFault 1 (some .int), Cond.methodLink RX9 191 yX9_readsOrder, Cond.instanceMethod yX9_readsOrder, Cond.selects RX9 yX9_readsOrder yX9_readsOrder, Cond.code yX9_readsOrder cX9_readsOrder 1 (some .boolean), Cond.fieldLink RX9 182 "SplitBeliefsModel" "letter" "I", Cond.fieldLink RX9 167 "SplitBeliefsModel" "first" "I", Cond.methodLink RX9 158 yX9_character, Cond.instanceMethod yX9_character, Cond.selects RX9 yX9_character yX9_character, Cond.code yX9_character cX9_character 2 (some .int), Cond.fieldLink RX9 22 "SplitBeliefsModel" "pad" "[I", Cond.methodLink RX9 185 yX9_readsReceiver, Cond.instanceMethod yX9_readsReceiver, Cond.selects RX9 yX9_readsReceiver yX9_readsReceiver, Cond.code yX9_readsReceiver cX9_readsReceiver 3 (some .boolean), Cond.fieldLink RX9 173 "SplitBeliefsModel" "second" "I", Cond.fieldLink RX9 176 "SplitBeliefsModel" "third" "I"]
def wsX9_carryOut_r2 : List Cond := [Cond.fieldLink RX9 179 "SplitBeliefsModel" "fourth" "I", Cond.methodLink RX9 164 yX9_takeNumber, Cond.instanceMethod yX9_takeNumber, Cond.selects RX9 yX9_takeNumber yX9_takeNumber, Cond.code yX9_takeNumber cX9_takeNumber 2 (some .int), Cond.methodLink RX9 161 yX9_takeDigit, Cond.instanceMethod yX9_takeDigit, Cond.selects RX9 yX9_takeDigit yX9_takeDigit, Cond.code yX9_takeDigit cX9_takeDigit 3 (some .int), Cond.methodLink RX9 53 yX9_within, Cond.static yX9_within, Cond.code yX9_within cX9_within 3 (some .boolean), Cond.methodLink RX9 170 yX9_isNext, Cond.instanceMethod yX9_isNext, Cond.selects RX9 yX9_isNext yX9_isNext, Cond.code yX9_isNext cX9_isNext 3 (some .boolean), Cond.methodLink RX9 188 yX9_readsParts, Cond.instanceMethod yX9_readsParts, Cond.selects RX9 yX9_readsParts yX9_readsParts, Cond.code yX9_readsParts cX9_readsParts 6 (some .boolean), Cond.fieldLink RX9 72 "SplitBeliefsModel" "many" "I", Cond.methodLink RX9 137 yX9_isShare, Cond.static yX9_isShare, Cond.code yX9_isShare cX9_isShare 1 (some .boolean)]
def wsX9_carryOut_r3 : List Cond := [Cond.methodLink RX9 75 yX9_takes, Cond.instanceMethod yX9_takes, Cond.selects RX9 yX9_takes yX9_takes, Cond.code yX9_takes cX9_takes 5 none, Cond.fieldLink RX9 28 "SplitBeliefsModel" "posteriors" "[I", Cond.fieldLink RX9 25 "SplitBeliefsModel" "weights" "[I", Cond.methodLink RX9 97 yX9_record, Cond.instanceMethod yX9_record, Cond.selects RX9 yX9_record yX9_record, Cond.code yX9_record cX9_record 2 none, Cond.fieldLink RX9 35 "SplitBeliefsModel" "recorded" "I", Cond.fieldLink RX9 13 "SplitBeliefsModel" "history" "[I", Cond.fieldLink RX9 7 "SplitBeliefsModel" "state" "[I", Cond.methodLink RX9 39 yX9_moves, Cond.static yX9_moves, Cond.code yX9_moves cX9_moves 5 none, Cond.methodLink RX9 203 yX9_whyNotDone, Cond.instanceMethod yX9_whyNotDone, Cond.selects RX9 yX9_whyNotDone yX9_whyNotDone, Cond.code yX9_whyNotDone cX9_whyNotDone 1 (some .int), Cond.methodLink RX9 103 yX9_whyNotHired, Cond.instanceMethod yX9_whyNotHired, Cond.selects RX9 yX9_whyNotHired yX9_whyNotHired, Cond.code yX9_whyNotHired cX9_whyNotHired 5 (some .int)]
def wsX9_carryOut_r4 : List Cond := [Cond.methodLink RX9 110 yX9_isReceiver, Cond.instanceMethod yX9_isReceiver, Cond.selects RX9 yX9_isReceiver yX9_isReceiver, Cond.code yX9_isReceiver cX9_isReceiver 2 (some .boolean), Cond.methodLink RX9 200 yX9_whyNoSplit, Cond.instanceMethod yX9_whyNoSplit, Cond.selects RX9 yX9_whyNoSplit yX9_whyNoSplit, Cond.code yX9_whyNoSplit cX9_whyNoSplit 1 (some .int), Cond.methodLink RX9 120 yX9_areWell, Cond.instanceMethod yX9_areWell, Cond.selects RX9 yX9_areWell yX9_areWell, Cond.code yX9_areWell cX9_areWell 4 (some .boolean), Cond.methodLink RX9 43 yX9_divisor, Cond.static yX9_divisor, Cond.code yX9_divisor cX9_divisor 5 (some .int), Cond.methodLink RX9 197 yX9_areAverage, Cond.instanceMethod yX9_areAverage, Cond.selects RX9 yX9_areAverage yX9_areAverage, Cond.code yX9_areAverage cX9_areAverage 3 (some .boolean), Cond.methodLink RX9 206 yX9_does, Cond.instanceMethod yX9_does, Cond.selects RX9 yX9_does yX9_does, Cond.code yX9_does cX9_does 1 none, Cond.methodLink RX9 107 yX9_hires]
def wsX9_carryOut_r5 : List Cond := [Cond.instanceMethod yX9_hires, Cond.selects RX9 yX9_hires yX9_hires, Cond.code yX9_hires cX9_hires 6 (some .int), Cond.methodLink RX9 114 yX9_dismisses, Cond.instanceMethod yX9_dismisses, Cond.selects RX9 yX9_dismisses yX9_dismisses, Cond.code yX9_dismisses cX9_dismisses 3 (some .int), Cond.methodLink RX9 100 yX9_priors, Cond.instanceMethod yX9_priors, Cond.selects RX9 yX9_priors yX9_priors, Cond.code yX9_priors cX9_priors 2 none, Cond.methodLink RX9 31 yX9_begins, Cond.instanceMethod yX9_begins, Cond.selects RX9 yX9_begins yX9_begins, Cond.code yX9_begins cX9_begins 2 none, Cond.methodLink RX9 68 yX9_takesOne, Cond.instanceMethod yX9_takesOne, Cond.selects RX9 yX9_takesOne yX9_takesOne, Cond.code yX9_takesOne cX9_takesOne 3 none, Cond.methodLink RX9 78 yX9_gives, Cond.instanceMethod yX9_gives, Cond.selects RX9 yX9_gives yX9_gives, Cond.code yX9_gives cX9_gives 2 none, Cond.methodLink RX9 131 yX9_adopts]
def wsX9_carryOut_r6 : List Cond := [Cond.instanceMethod yX9_adopts, Cond.selects RX9 yX9_adopts yX9_adopts, Cond.code yX9_adopts cX9_adopts 2 (some .int), Cond.fieldLink RX9 91 "SplitBeliefsModel" "bestLow" "I", Cond.fieldLink RX9 94 "SplitBeliefsModel" "bestHigh" "I", Cond.methodLink RX9 124 yX9_takeEnvelope, Cond.instanceMethod yX9_takeEnvelope, Cond.selects RX9 yX9_takeEnvelope yX9_takeEnvelope, Cond.code yX9_takeEnvelope cX9_takeEnvelope 7 none, Cond.methodLink RX9 81 yX9_valueAt, Cond.instanceMethod yX9_valueAt, Cond.selects RX9 yX9_valueAt yX9_valueAt, Cond.code yX9_valueAt cX9_valueAt 6 (some .int), Cond.methodLink RX9 64 yX9_actingAt, Cond.instanceMethod yX9_actingAt, Cond.selects RX9 yX9_actingAt yX9_actingAt, Cond.code yX9_actingAt cX9_actingAt 4 (some .int), Cond.methodLink RX9 60 yX9_acts, Cond.instanceMethod yX9_acts, Cond.selects RX9 yX9_acts yX9_acts, Cond.code yX9_acts cX9_acts 3 (some .boolean), Cond.methodLink RX9 57 yX9_receiverPart, Cond.instanceMethod yX9_receiverPart, Cond.selects RX9 yX9_receiverPart yX9_receiverPart]
def wsX9_carryOut_r7 : List Cond := [Cond.code yX9_receiverPart cX9_receiverPart 3 (some .int), Cond.methodLink RX9 88 yX9_takeFraction, Cond.instanceMethod yX9_takeFraction, Cond.selects RX9 yX9_takeFraction yX9_takeFraction, Cond.code yX9_takeFraction cX9_takeFraction 4 none, Cond.fieldLink RX9 47 "SplitBeliefsModel" "upper" "I", Cond.fieldLink RX9 50 "SplitBeliefsModel" "lower" "I", Cond.methodLink RX9 127 yX9_weightOf, Cond.instanceMethod yX9_weightOf, Cond.selects RX9 yX9_weightOf yX9_weightOf, Cond.code yX9_weightOf cX9_weightOf 4 (some .int)]
def wsX9_carryOut : List Cond := .code yX9_carryOut cX9_carryOut 3 (some .int) :: ((wsX9_carryOut_r1 ++ (wsX9_carryOut_r2 ++ (wsX9_carryOut_r3 ++ (wsX9_carryOut_r4 ++ (wsX9_carryOut_r5 ++ (wsX9_carryOut_r6 ++ wsX9_carryOut_r7)))))) ++ wsX90)
def wsX9_undo : List Cond := .code yX9_undo cX9_undo 1 (some .int) :: ([.fieldLink RX9 35 "SplitBeliefsModel" "recorded" "I", .fieldLink RX9 13 "SplitBeliefsModel" "history" "[I", .fieldLink RX9 7 "SplitBeliefsModel" "state" "[I", .methodLink RX9 39 yX9_moves, .static yX9_moves, .initialized RX9, .code yX9_moves cX9_moves 5 none] ++ wsX90)
def wsX9_save : List Cond := .code yX9_save cX9_save 2 (some .int) :: ([.fieldLink RX9 7 "SplitBeliefsModel" "state" "[I", .fieldLink RX9 16 "SplitBeliefsModel" "slots" "[I", .fieldLink RX9 19 "SplitBeliefsModel" "isSaved" "[I", .methodLink RX9 53 yX9_within, .static yX9_within, .initialized RX9, .code yX9_within cX9_within 3 (some .boolean), .methodLink RX9 39 yX9_moves, .static yX9_moves, .code yX9_moves cX9_moves 5 none] ++ wsX90)
def wsX9_restore : List Cond := .code yX9_restore cX9_restore 2 (some .int) :: ([.fieldLink RX9 19 "SplitBeliefsModel" "isSaved" "[I", .fieldLink RX9 16 "SplitBeliefsModel" "slots" "[I", .fieldLink RX9 7 "SplitBeliefsModel" "state" "[I", .methodLink RX9 53 yX9_within, .static yX9_within, .initialized RX9, .code yX9_within cX9_within 3 (some .boolean), .methodLink RX9 97 yX9_record, .instanceMethod yX9_record, .selects RX9 yX9_record yX9_record, .code yX9_record cX9_record 2 none, .fieldLink RX9 35 "SplitBeliefsModel" "recorded" "I", .fieldLink RX9 13 "SplitBeliefsModel" "history" "[I", .methodLink RX9 39 yX9_moves, .static yX9_moves, .code yX9_moves cX9_moves 5 none] ++ wsX90)
def wsJ9_abs_0f7a4 : List Cond := .code yJ9_abs_0f7a4 cJ9_abs_0f7a4 1 (some .int) :: ([])
def wsJ9_max_7cf53 : List Cond := .code yJ9_max_7cf53 cJ9_max_7cf53 2 (some .int) :: ([])
def wsJ9_min_7cf53 : List Cond := .code yJ9_min_7cf53 cJ9_min_7cf53 2 (some .int) :: ([])
theorem dJ9_abs_0f7a4_0 : decode cJ9_abs_0f7a4 0 = .ok (.iload_n 0, 1) := by decide +kernel
theorem dJ9_abs_0f7a4_1 : decode cJ9_abs_0f7a4 1 = .ok (.ifCond .ge 8, 3) := by decide +kernel
theorem dJ9_abs_0f7a4_4 : decode cJ9_abs_0f7a4 4 = .ok (.iload_n 0, 1) := by decide +kernel
theorem dJ9_abs_0f7a4_5 : decode cJ9_abs_0f7a4 5 = .ok (.ineg, 1) := by decide +kernel
theorem dJ9_abs_0f7a4_6 : decode cJ9_abs_0f7a4 6 = .ok (.goto 4, 3) := by decide +kernel
theorem dJ9_abs_0f7a4_9 : decode cJ9_abs_0f7a4 9 = .ok (.iload_n 0, 1) := by decide +kernel
theorem dJ9_abs_0f7a4_10 : decode cJ9_abs_0f7a4 10 = .ok (.ireturn, 1) := by decide +kernel
theorem dJ9_max_7cf53_0 : decode cJ9_max_7cf53 0 = .ok (.iload_n 0, 1) := by decide +kernel
theorem dJ9_max_7cf53_1 : decode cJ9_max_7cf53 1 = .ok (.iload_n 1, 1) := by decide +kernel
theorem dJ9_max_7cf53_2 : decode cJ9_max_7cf53 2 = .ok (.if_icmp .lt 7, 3) := by decide +kernel
theorem dJ9_max_7cf53_5 : decode cJ9_max_7cf53 5 = .ok (.iload_n 0, 1) := by decide +kernel
theorem dJ9_max_7cf53_6 : decode cJ9_max_7cf53 6 = .ok (.goto 4, 3) := by decide +kernel
theorem dJ9_max_7cf53_9 : decode cJ9_max_7cf53 9 = .ok (.iload_n 1, 1) := by decide +kernel
theorem dJ9_max_7cf53_10 : decode cJ9_max_7cf53 10 = .ok (.ireturn, 1) := by decide +kernel
theorem dJ9_min_7cf53_0 : decode cJ9_min_7cf53 0 = .ok (.iload_n 0, 1) := by decide +kernel
theorem dJ9_min_7cf53_1 : decode cJ9_min_7cf53 1 = .ok (.iload_n 1, 1) := by decide +kernel
theorem dJ9_min_7cf53_2 : decode cJ9_min_7cf53 2 = .ok (.if_icmp .gt 7, 3) := by decide +kernel
theorem dJ9_min_7cf53_5 : decode cJ9_min_7cf53 5 = .ok (.iload_n 0, 1) := by decide +kernel
theorem dJ9_min_7cf53_6 : decode cJ9_min_7cf53 6 = .ok (.goto 4, 3) := by decide +kernel
theorem dJ9_min_7cf53_9 : decode cJ9_min_7cf53 9 = .ok (.iload_n 1, 1) := by decide +kernel
theorem dJ9_min_7cf53_10 : decode cJ9_min_7cf53 10 = .ok (.ireturn, 1) := by decide +kernel
abbrev vwCl : List vw_C := [(RX0, TX0, 7), (RX1, TX1, 2), (RX2, TX2, 3), (RX3, TX3, 1), (RX4, TX4, 6), (RX5, TX5, 5), (RX6, TX6, 3), (RX7, TX7, 3), (RX8, TX8, 9), (RX9, TX9, 20)]
end
section
/-! ===== the layer over the machine: one heap of cells by number, each cell's slots whole numbers ===== -/
def zI (z : Int) : Int32 := Int32.ofInt z
theorem zI_add (a b : Int) : zI a + zI b = zI (a + b) := (Int32.ofInt_add a b).symm
theorem zI_sub (a b : Int) : zI a - zI b = zI (a - b) := (Int32.ofInt_sub a b).symm
theorem zI_mul (a b : Int) : zI a * zI b = zI (a * b) := (Int32.ofInt_mul a b).symm
theorem zI_neg (a : Int) : -zI a = zI (-a) := (Int32.ofInt_neg a).symm
theorem zI_T {z : Int} (h : -2147483648 ≤ z ∧ z ≤ 2147483647) : (zI z).toInt = z := Int32.toInt_ofInt_of_le (by omega) (by omega)
theorem zI_of (x : Int32) : zI x.toInt = x := Int32.ofInt_toInt x
theorem zI_inT (x : Int32) : -2147483648 ≤ x.toInt ∧ x.toInt ≤ 2147483647 := by
  have h1 := x.le_toInt
  have h2 := x.toInt_lt
  omega
theorem zI_le {a b : Int} (ha : -2147483648 ≤ a ∧ a ≤ 2147483647) (hb : -2147483648 ≤ b ∧ b ≤ 2147483647) : zI a ≤ zI b ↔ a ≤ b := by
  rw [Int32.le_iff_toInt_le, zI_T ha, zI_T hb]
theorem zI_lt {a b : Int} (ha : -2147483648 ≤ a ∧ a ≤ 2147483647) (hb : -2147483648 ≤ b ∧ b ≤ 2147483647) : zI a < zI b ↔ a < b := by
  rw [Int32.lt_iff_toInt_lt, zI_T ha, zI_T hb]
theorem zI_eq {a b : Int} (ha : -2147483648 ≤ a ∧ a ≤ 2147483647) (hb : -2147483648 ≤ b ∧ b ≤ 2147483647) : zI a = zI b ↔ a = b := by
  rw [← Int32.toInt_inj, zI_T ha, zI_T hb]
theorem zI_0 : (0 : Int32) = zI 0 := rfl
theorem zI_cl {z : Int} (h : 0 ≤ z ∧ z ≤ 2147483647) : (zI z).toNatClampNeg = z.toNat := Int32.toNatClampNeg_ofInt_of_le (by omega) (by omega)
theorem zI_in {z : Int} {n : Nat} (hz : 0 ≤ z ∧ z < (n : Int)) (hn : n < 2147483648) : vp_in (zI z) n := by
  refine vp_in_iff.mpr ?_
  rw [zI_T (by omega)]
  omega
theorem zI_div {a b : Int} (ha : -2147483648 < a ∧ a ≤ 2147483647) (hb : -2147483648 ≤ b ∧ b ≤ 2147483647) : zI a / zI b = zI (a.tdiv b) := by
  refine Int32.toInt_inj.mp ?_
  have hne : zI a ≠ Int32.minValue := by
    intro h
    have h2 : (zI a).toInt = Int32.minValue.toInt := by rw [h]
    rw [zI_T (by omega)] at h2
    have h3 : Int32.minValue.toInt = -2147483648 := by decide
    omega
  rw [Int32.toInt_div_of_ne_left _ _ hne, zI_T (by omega), zI_T hb]
  have hr : -2147483648 ≤ a.tdiv b ∧ a.tdiv b ≤ 2147483647 := by
    have h1 : (a.tdiv b).natAbs ≤ a.natAbs := by
      rw [Int.natAbs_tdiv]
      exact Nat.div_le_self _ _
    omega
  rw [zI_T hr]
theorem zI_rem {a b : Int} (ha : -2147483648 < a ∧ a ≤ 2147483647) (hb : -2147483648 ≤ b ∧ b ≤ 2147483647) : zI a - zI a / zI b * zI b = zI (a.tmod b) := by
  rw [zI_div ha hb, zI_mul, zI_sub]
  congr 1
  have h := Int.tmod_add_mul_tdiv a b
  rw [Int.mul_comm] at h
  omega
theorem zI_ne0 {b : Int} (hb : -2147483648 ≤ b ∧ b ≤ 2147483647) (h : b ≠ 0) : ¬ zI b = 0 := fun q => h ((zI_eq hb (by omega)).mp (by rw [q]; rfl))
/-- cells: an object (its class, its fields: a reference to a cell, or a number), or an array (its kind, its length, numbers or references) -/
abbrev Shp : Type := (Nat × List (Option Nat)) ⊕ (Nat × Nat × Option (Nat → Nat))
def fldV (ad : Nat → Nat) (f : Nat → Int) (k : Nat) (o : Option Nat) : Value := match o with
  | none => .int (zI (f k))
  | some j => .ref (ad j)
def fldL (ad : Nat → Nat) (f : Nat → Int) : Nat → List (Option Nat) → List Value
  | _, [] => []
  | k, o :: r => fldV ad f k o :: fldL ad f (k + 1) r
theorem fldL_get (ad : Nat → Nat) (f : Nat → Int) : ∀ (r : List (Option Nat)) (b k : Nat) (o : Option Nat), r[k]? = some o → (fldL ad f b r)[k]? = some (fldV ad f (b + k) o)
  | [], b, k, o, h => by simp at h
  | x :: r, b, 0, o, h => by simp at h; simp [fldL, h]
  | x :: r, b, k + 1, o, h => by
    simp at h
    have h2 := fldL_get ad f r (b + 1) k o h
    simp only [fldL, List.getElem?_cons_succ]
    rw [h2, show b + 1 + k = b + (k + 1) by omega]
def cellV (ad : Nat → Nat) (cA : Nat → ClassId) (S : Shp) (f : Nat → Int) : va_E := match S with
  | .inl (c, fl) => .inr (c, fldL ad f 0 fl)
  | .inr (t, n, none) => .inl (cA t, n, .inl (fun k => zI (f k)))
  | .inr (t, n, some g) => .inl (cA t, n, .inr (.inr (.inr (.inr (fun k => some (ad (g k)))))))
/-- a State and what it holds -/
def shG (j k : Nat) : Shp := match k with
  | 0 => .inl (7, [some (9 * j + 1), some (9 * j + 6), none])
  | 1 => .inl (5, [some (9 * j + 2), some (9 * j + 3), some (9 * j + 4), some (9 * j + 5), none])
  | 2 => .inr (0, 5, none)
  | 3 => .inr (0, 5, none)
  | 4 => .inr (0, 5, none)
  | 5 => .inr (0, 5, none)
  | 6 => .inl (6, [some (9 * j + 7), some (9 * j + 8), none])
  | 7 => .inr (0, 6, none)
  | _ => .inr (0, 6, none)
/-- the other cells: SplitBeliefs at 90, SplitBeliefsModel at 105 -/
def shO (k : Nat) : Shp := match k with
  | 0 => .inl (8, [some 0, some 91, some 93, some 94, some 95, some 98, some 100, some 103, some 104])
  | 1 => .inl (2, [some 92, none, none])
  | 2 => .inr (3, 7, some (fun k => 9 * (k + 3)))
  | 3 => .inr (3, 2, some (fun k => 9 * (k + 1)))
  | 4 => .inr (2, 2, none)
  | 5 => .inl (4, [some 96, some 97, none, none, none, none])
  | 6 => .inr (1, 80, none)
  | 7 => .inr (0, 12, none)
  | 8 => .inl (3, [some 99])
  | 9 => .inr (0, 101, none)
  | 10 => .inl (0, [some 101, some 102, none, none, none, none, none])
  | 11 => .inr (0, 101, none)
  | 12 => .inr (0, 101, none)
  | 13 => .inl (1, [none, none])
  | 14 => .inl (1, [none, none])
  | 15 => .inl (9, [some 106, some 107, none, some 108, some 109, some 110, none, some 111, some 112, none, none, none, none, none, none, none, none, none, none, none])
  | 16 => .inr (0, 35, none)
  | 17 => .inr (0, 210, none)
  | 18 => .inr (0, 70, none)
  | 19 => .inr (0, 2, none)
  | 20 => .inr (0, 80, none)
  | 21 => .inr (0, 8, none)
  | _ => .inr (0, 8, none)
def sh (i : Nat) : Shp := if i < 90 then shG (i / 9) (i % 9) else shO (i - 90)
theorem sh_g {j k : Nat} (hj : j < 10) (hk : k < 9) : sh (9 * j + k) = shG j k := by
  unfold sh
  rw [if_pos (by omega), show (9 * j + k) / 9 = j by omega, show (9 * j + k) % 9 = k by omega]
abbrev Mem : Type := Nat → Nat → Int
/-- the cell i holds f now -/
def stc (M : Mem) (i : Nat) (f : Nat → Int) : Mem := fun a => if a = i then f else M a
def uz (f : Nat → Int) (k : Nat) (x : Int) : Nat → Int := fun j => if j = k then x else f j
/-- the slot k of the cell i is x now -/
def up2 (M : Mem) (i k : Nat) (x : Int) : Mem := stc M i (uz (M i) k x)
theorem stc_s (M : Mem) (i : Nat) (f : Nat → Int) : stc M i f i = f := if_pos rfl
theorem stc_n (M : Mem) {i a : Nat} (f : Nat → Int) (h : a ≠ i) : stc M i f a = M a := if_neg h
theorem up2_s (M : Mem) (i k : Nat) (x : Int) : up2 M i k x i k = x := by rw [up2, stc_s]; exact if_pos rfl
theorem up2_n (M : Mem) {i a : Nat} (k : Nat) (x : Int) (h : a ≠ i) : up2 M i k x a = M a := stc_n M _ h
theorem up2_m (M : Mem) (i : Nat) {k b : Nat} (x : Int) (h : b ≠ k) : up2 M i k x i b = M i b := by rw [up2, stc_s]; exact if_neg h
theorem uz_s (f : Nat → Int) (k : Nat) (x : Int) : uz f k x k = x := if_pos rfl
theorem uz_n (f : Nat → Int) {k b : Nat} (x : Int) (h : b ≠ k) : uz f k x b = f b := if_neg h
def wld (ad : Nat → Nat) (cA : Nat → ClassId) (M : Mem) : va_W := (List.range 113).map fun i => (ad i, cellV ad cA (sh i) (M i))
theorem wld_at {ad : Nat → Nat} {cA : Nat → ClassId} {M : Mem} {i : Nat} (h : i < 113) : (wld ad cA M)[i]? = some (ad i, cellV ad cA (sh i) (M i)) := by
  simp [wld, h]
theorem wld_inv {ad : Nat → Nat} {cA : Nat → ClassId} {M : Mem} {i : Nat} {q : Nat × va_E} (h : (wld ad cA M)[i]? = some q) : i < 113 ∧ q = (ad i, cellV ad cA (sh i) (M i)) := by
  rcases Nat.lt_or_ge i 113 with h1 | h1
  · rw [wld_at h1] at h
    exact ⟨h1, (Option.some.inj h).symm⟩
  · have : (wld ad cA M).length ≤ i := by simp [wld]; omega
    rw [List.getElem?_eq_none this] at h
    cases h
theorem wld_set {ad : Nat → Nat} {cA : Nat → ClassId} {M : Mem} {i : Nat} {f : Nat → Int} {E : va_E} (h : cellV ad cA (sh i) f = E) : (wld ad cA M).set i (ad i, E) = wld ad cA (stc M i f) := by
  subst h
  refine List.ext_getElem? fun j => ?_
  rw [List.getElem?_set]
  by_cases hj : i = j
  · subst hj
    rw [if_pos rfl]
    rcases Nat.lt_or_ge i 113 with h1 | h1
    · rw [if_pos (by simp [wld]; omega), wld_at h1, stc_s]
    · rw [if_neg (by simp [wld]; omega), List.getElem?_eq_none (by simp [wld]; omega)]
  · rw [if_neg hj]
    rcases Nat.lt_or_ge j 113 with h1 | h1
    · rw [wld_at h1, wld_at h1, stc_n _ _ (fun q => hj q.symm)]
    · rw [List.getElem?_eq_none (by simp [wld]; omega), List.getElem?_eq_none (by simp [wld]; omega)]
theorem fldL_set (ad : Nat → Nat) (f : Nat → Int) (x : Int) : ∀ (r : List (Option Nat)) (b k : Nat), r[k]? = some none → (fldL ad f b r).set k (.int (zI x)) = fldL ad (uz f (b + k) x) b r
  | [], b, k, h => by simp at h
  | o :: r, b, 0, h => by
    simp at h
    subst h
    have hr : ∀ (r : List (Option Nat)) (c : Nat), b < c → fldL ad f c r = fldL ad (uz f (b + 0) x) c r := by
      intro r
      induction r with
      | nil => intro c _; rfl
      | cons o r ih =>
        intro c hc
        simp only [fldL]
        rw [ih (c + 1) (by omega)]
        cases o with
        | none => simp only [fldV]; rw [uz_n f x (by omega)]
        | some j => rfl
    simp only [fldL, List.set_cons_zero]
    rw [hr r (b + 1) (by omega)]
    simp only [fldV]
    rw [show b + 0 = b from rfl, uz_s]
  | o :: r, b, k + 1, h => by
    simp at h
    simp only [fldL, List.set_cons_succ]
    rw [fldL_set ad f x r (b + 1) k h, show b + 1 + k = b + (k + 1) by omega]
    congr 1
    cases o with
    | none => simp only [fldV]; rw [uz_n f x (by omega)]
    | some j => rfl
abbrev tyL (cA : Nat → ClassId) : List (ClassId × FieldType) := [(cA 0, .int), (cA 1, .char), (cA 2, .boolean), (cA 3, .object "SplitBeliefs$State")]
/-- private methods that nest mates call -/
def vNs (U : State) : Prop := va_Nw (.methodLinkNest RX0 44 yX8_commonDivisor RX8) U ∧ va_Nw (.methodLinkNest RX1 16 yX8_commonDivisor RX8) U ∧ va_Nw (.methodLinkNest RX3 34 yX8_isPosterior RX8) U ∧ va_Nw (.methodLinkNest RX3 38 yX8_commonDivisor RX8) U
theorem vNs_warm {s U : State} (hW : s.WarmedH U.vm) (h : vNs s) : vNs U := ⟨h.1.warmM hW, h.2.1.warmM hW, h.2.2.1.warmM hW, h.2.2.2.warmM hW⟩
theorem vNs_same {s U : State} (hW : s.vm = U.vm) (h : vNs s) : vNs U := ⟨h.1.same rfl hW, h.2.1.same rfl hW, h.2.2.1.same rfl hW, h.2.2.2.same rfl hW⟩
def adok (ad : Nat → Nat) : Prop := ∀ i j, i < 113 → j < 113 → ad i = ad j → i = j
def Afr (ad : Nat → Nat) (sz : Nat) : Nat → Prop := fun q => (∃ i, i < 113 ∧ q = ad i) ∨ sz ≤ q
theorem wld_D {ad : Nat → Nat} {cA : Nat → ClassId} {A : Nat → Prop} (h : adok ad) (hA : ∀ i, i < 113 → A (ad i)) (M : Mem) : va_D A (wld ad cA M) := by
  refine ⟨fun i j p q hi hj he => ?_, fun k q hk => ?_⟩
  · obtain ⟨h1, rfl⟩ := wld_inv hi
    obtain ⟨h2, rfl⟩ := wld_inv hj
    exact h i j h1 h2 he
  · obtain ⟨h1, rfl⟩ := wld_inv hk
    exact hA k h1
/-- where a walk stands: the machine, the method's code, its words, the classes, the cells' addresses -/
def Cx (p : Program) (s : State) (m : MethodId) (args : Array Value) (c : Code) (cc : ByteArray) (own : String) (nL : Nat) (Ts : List Cond) (D : va_G) (ad : Nat → Nat) (cA : Nat → ClassId) (A : Nat → Prop) : Prop :=
  CallFix p m c cc nL s args Ts own ∧ va_K D vwCl (tyL cA) s ∧ vNs s ∧ adok ad ∧ (∀ i, i < 113 → A (ad i)) ∧ (∀ q, s.heap.size ≤ q → A q)
def VV (p : Program) (l : Launch) (e : Env) (R : Room) (s : State) (m : MethodId) (args : Array Value) (below : List Frame) (meth : Method) (c : Code) (nL : Nat) (D : va_G) (ad : Nat → Nat) (cA : Nat → ClassId) (A : Nat → Prop) (cells slots : Nat) (Q : State → Prop) (M : Mem) (pc : Nat) (lv : List (Nat × Value)) (st : List Value) : Prop :=
  ∀ (H : Heap) (locs : List Loc) (ls : Array Slot), va_P D vwCl (wld ad cA M) H → va_S A s.heap H locs → lv_has ls nL lv → W p l e R s m args below meth c H locs cells slots Q (F0 m pc ls st)
theorem sh_g0 {j : Nat} (hj : j < 10) : sh (9 * j) = .inl (7, [some (9 * j + 1), some (9 * j + 6), none]) := sh_g (k := 0) hj (by decide)
theorem sh_g1 {j : Nat} (hj : j < 10) : sh (9 * j + 1) = .inl (5, [some (9 * j + 2), some (9 * j + 3), some (9 * j + 4), some (9 * j + 5), none]) := sh_g hj (by decide)
theorem sh_g2 {j : Nat} (hj : j < 10) : sh (9 * j + 2) = .inr (0, 5, none) := sh_g hj (by decide)
theorem sh_g3 {j : Nat} (hj : j < 10) : sh (9 * j + 3) = .inr (0, 5, none) := sh_g hj (by decide)
theorem sh_g4 {j : Nat} (hj : j < 10) : sh (9 * j + 4) = .inr (0, 5, none) := sh_g hj (by decide)
theorem sh_g5 {j : Nat} (hj : j < 10) : sh (9 * j + 5) = .inr (0, 5, none) := sh_g hj (by decide)
theorem sh_g6 {j : Nat} (hj : j < 10) : sh (9 * j + 6) = .inl (6, [some (9 * j + 7), some (9 * j + 8), none]) := sh_g hj (by decide)
theorem sh_g7 {j : Nat} (hj : j < 10) : sh (9 * j + 7) = .inr (0, 6, none) := sh_g hj (by decide)
theorem sh_g8 {j : Nat} (hj : j < 10) : sh (9 * j + 8) = .inr (0, 6, none) := sh_g hj (by decide)
theorem sh_0 : sh 0 = .inl (7, [some 1, some 6, none]) := rfl
theorem sh_1 : sh 1 = .inl (5, [some 2, some 3, some 4, some 5, none]) := rfl
theorem sh_2 : sh 2 = .inr (0, 5, none) := rfl
theorem sh_3 : sh 3 = .inr (0, 5, none) := rfl
theorem sh_4 : sh 4 = .inr (0, 5, none) := rfl
theorem sh_5 : sh 5 = .inr (0, 5, none) := rfl
theorem sh_6 : sh 6 = .inl (6, [some 7, some 8, none]) := rfl
theorem sh_7 : sh 7 = .inr (0, 6, none) := rfl
theorem sh_8 : sh 8 = .inr (0, 6, none) := rfl
theorem sh_90 : sh 90 = .inl (8, [some 0, some 91, some 93, some 94, some 95, some 98, some 100, some 103, some 104]) := rfl
theorem sh_91 : sh 91 = .inl (2, [some 92, none, none]) := rfl
theorem sh_92 : sh 92 = .inr (3, 7, some (fun k => 9 * (k + 3))) := rfl
theorem sh_93 : sh 93 = .inr (3, 2, some (fun k => 9 * (k + 1))) := rfl
theorem sh_94 : sh 94 = .inr (2, 2, none) := rfl
theorem sh_95 : sh 95 = .inl (4, [some 96, some 97, none, none, none, none]) := rfl
theorem sh_96 : sh 96 = .inr (1, 80, none) := rfl
theorem sh_97 : sh 97 = .inr (0, 12, none) := rfl
theorem sh_98 : sh 98 = .inl (3, [some 99]) := rfl
theorem sh_99 : sh 99 = .inr (0, 101, none) := rfl
theorem sh_100 : sh 100 = .inl (0, [some 101, some 102, none, none, none, none, none]) := rfl
theorem sh_101 : sh 101 = .inr (0, 101, none) := rfl
theorem sh_102 : sh 102 = .inr (0, 101, none) := rfl
theorem sh_103 : sh 103 = .inl (1, [none, none]) := rfl
theorem sh_104 : sh 104 = .inl (1, [none, none]) := rfl
theorem sh_105 : sh 105 = .inl (9, [some 106, some 107, none, some 108, some 109, some 110, none, some 111, some 112, none, none, none, none, none, none, none, none, none, none, none]) := rfl
theorem sh_106 : sh 106 = .inr (0, 35, none) := rfl
theorem sh_107 : sh 107 = .inr (0, 210, none) := rfl
theorem sh_108 : sh 108 = .inr (0, 70, none) := rfl
theorem sh_109 : sh 109 = .inr (0, 2, none) := rfl
theorem sh_110 : sh 110 = .inr (0, 80, none) := rfl
theorem sh_111 : sh 111 = .inr (0, 8, none) := rfl
theorem sh_112 : sh 112 = .inr (0, 8, none) := rfl
end
section
section VR
variable {p : Program} {l : Launch} {e : Env} {R : Room} {s : State} {m : MethodId} {args : Array Value} {below : List Frame} {meth : Method} {c : Code} {Q : State → Prop} {cells slots : Nat}
variable {cc : ByteArray} {own : String} {nL : Nat} {Ts : List Cond} {D : va_G} {ad : Nat → Nat} {cA : Nat → ClassId} {A : Nat → Prop} {M : Mem} {pc : Nat} {lv lv' : List (Nat × Value)} {st : List Value}

theorem vv_iconst (X : Cx p s m args c cc own nL Ts D ad cA A) {n : Int} (hdg : decode cc pc = .ok (.iconst n, 1)) (k : VV p l e R s m args below meth c nL D ad cA A cells slots Q M (pc + 1) lv (.int (zI n) :: st)) : VV p l e R s m args below meth c nL D ad cA A cells slots Q M pc lv st := fun H locs ls hP hS hl => lv_iconst X.1.1 X.1.2.1 hdg rfl (k H locs ls hP hS hl)
theorem vv_bipush (X : Cx p s m args c cc own nL Ts D ad cA A) {n : Int} (hv : (Int8.ofInt n).toInt32 = zI n) (hdg : decode cc pc = .ok (.bipush n, 2)) (k : VV p l e R s m args below meth c nL D ad cA A cells slots Q M (pc + 2) lv (.int (zI n) :: st)) : VV p l e R s m args below meth c nL D ad cA A cells slots Q M pc lv st := fun H locs ls hP hS hl => lv_bipush X.1.1 X.1.2.1 hdg hv (k H locs ls hP hS hl)
theorem vv_sipush (X : Cx p s m args c cc own nL Ts D ad cA A) {n : Int} (hv : (Int16.ofInt n).toInt32 = zI n) (hdg : decode cc pc = .ok (.sipush n, 3)) (k : VV p l e R s m args below meth c nL D ad cA A cells slots Q M (pc + 3) lv (.int (zI n) :: st)) : VV p l e R s m args below meth c nL D ad cA A cells slots Q M pc lv st := fun H locs ls hP hS hl => lv_sipush X.1.1 X.1.2.1 hdg hv (k H locs ls hP hS hl)
theorem vv_ldc (X : Cx p s m args c cc own nL Ts D ad cA A) {n : Int} {index : Nat} {v : Int32} (hc : Cond.constant own index v ∈ Ts) (hv : v = zI n) (hdg : decode cc pc = .ok (.ldc index, 2)) (k : VV p l e R s m args below meth c nL D ad cA A cells slots Q M (pc + 2) lv (.int (zI n) :: st)) : VV p l e R s m args below meth c nL D ad cA A cells slots Q M pc lv st := fun H locs ls hP hS hl => lv_ldc X.1.1 X.1.2.1 X.1.2.2.2.1 (X.1.2.2.2.2 _ hc) hdg (by rw [hv]; exact (k H locs ls hP hS hl))
theorem vv_ldc2 (X : Cx p s m args c cc own nL Ts D ad cA A) {index : Nat} {v : Int64} (hc : Cond.constantLong own index v ∈ Ts) (hdg : decode cc pc = .ok (.ldc2_w index, 3)) (k : VV p l e R s m args below meth c nL D ad cA A cells slots Q M (pc + 3) lv (.long v :: st)) : VV p l e R s m args below meth c nL D ad cA A cells slots Q M pc lv st := fun H locs ls hP hS hl => lv_ldc2 X.1.1 X.1.2.1 X.1.2.2.2.1 (X.1.2.2.2.2 _ hc) hdg (k H locs ls hP hS hl)
theorem vv_lconst (X : Cx p s m args c cc own nL Ts D ad cA A) {n : Fin 2} {v : Int64} (hv : Int64.ofNat (n : Nat) = v) (hdg : decode cc pc = .ok (.lconst n, 1)) (k : VV p l e R s m args below meth c nL D ad cA A cells slots Q M (pc + 1) lv (.long v :: st)) : VV p l e R s m args below meth c nL D ad cA A cells slots Q M pc lv st := fun H locs ls hP hS hl => lv_lconst X.1.1 X.1.2.1 hdg hv (k H locs ls hP hS hl)
theorem vv_iload_n (X : Cx p s m args c cc own nL Ts D ad cA A) {q : Fin 4} (j : Nat) {i : Nat} {x : Int32} (hi : (q : Nat) = i) (hj : lv[j]? = some (i, .int x)) (hdg : decode cc pc = .ok (.iload_n q, 1)) (k : VV p l e R s m args below meth c nL D ad cA A cells slots Q M (pc + 1) lv (.int x :: st)) : VV p l e R s m args below meth c nL D ad cA A cells slots Q M pc lv st := fun H locs ls hP hS hl => lv_iload_n X.1.1 X.1.2.1 hdg hi (lv_at hl j hj) (k H locs ls hP hS hl)
theorem vv_iload (X : Cx p s m args c cc own nL Ts D ad cA A) (j : Nat) {i : Nat} {x : Int32} (hj : lv[j]? = some (i, .int x)) (hdg : decode cc pc = .ok (.iload i, 2)) (k : VV p l e R s m args below meth c nL D ad cA A cells slots Q M (pc + 2) lv (.int x :: st)) : VV p l e R s m args below meth c nL D ad cA A cells slots Q M pc lv st := fun H locs ls hP hS hl => lv_iload X.1.1 X.1.2.1 hdg (lv_at hl j hj) (k H locs ls hP hS hl)
theorem vv_istore_n (X : Cx p s m args c cc own nL Ts D ad cA A) {q : Fin 4} {i : Nat} {x : Int32} (hi : (q : Nat) = i) (hn : i < nL) (hv : (i, Value.int x) :: lv.filter (fun q => !(q.1 == i) && !(q.1 + 1 == i && q.2.category == 2)) = lv') (hdg : decode cc pc = .ok (.istore_n q, 1)) (k : VV p l e R s m args below meth c nL D ad cA A cells slots Q M (pc + 1) lv' st) : VV p l e R s m args below meth c nL D ad cA A cells slots Q M pc lv (.int x :: st) := fun H locs ls hP hS hl => lv_istore_n X.1.1 X.1.2.1 hdg hi hl hn hv (fun ls hl => (k H locs ls hP hS hl))
theorem vv_istore (X : Cx p s m args c cc own nL Ts D ad cA A) {i : Nat} {x : Int32} (hn : i < nL) (hv : (i, Value.int x) :: lv.filter (fun q => !(q.1 == i) && !(q.1 + 1 == i && q.2.category == 2)) = lv') (hdg : decode cc pc = .ok (.istore i, 2)) (k : VV p l e R s m args below meth c nL D ad cA A cells slots Q M (pc + 2) lv' st) : VV p l e R s m args below meth c nL D ad cA A cells slots Q M pc lv (.int x :: st) := fun H locs ls hP hS hl => lv_istore X.1.1 X.1.2.1 hdg hl hn hv (fun ls hl => (k H locs ls hP hS hl))
theorem vv_aload_n (X : Cx p s m args c cc own nL Ts D ad cA A) {q : Fin 4} (j : Nat) {i : Nat} {x : Nat} (hi : (q : Nat) = i) (hj : lv[j]? = some (i, .ref x)) (hdg : decode cc pc = .ok (.aload_n q, 1)) (k : VV p l e R s m args below meth c nL D ad cA A cells slots Q M (pc + 1) lv (.ref x :: st)) : VV p l e R s m args below meth c nL D ad cA A cells slots Q M pc lv st := fun H locs ls hP hS hl => lv_aload_n X.1.1 X.1.2.1 hdg hi (lv_at hl j hj) (k H locs ls hP hS hl)
theorem vv_aload (X : Cx p s m args c cc own nL Ts D ad cA A) (j : Nat) {i : Nat} {x : Nat} (hj : lv[j]? = some (i, .ref x)) (hdg : decode cc pc = .ok (.aload i, 2)) (k : VV p l e R s m args below meth c nL D ad cA A cells slots Q M (pc + 2) lv (.ref x :: st)) : VV p l e R s m args below meth c nL D ad cA A cells slots Q M pc lv st := fun H locs ls hP hS hl => lv_aload X.1.1 X.1.2.1 hdg (lv_at hl j hj) (k H locs ls hP hS hl)
theorem vv_astore_n (X : Cx p s m args c cc own nL Ts D ad cA A) {q : Fin 4} {i : Nat} {x : Nat} (hi : (q : Nat) = i) (hn : i < nL) (hv : (i, Value.ref x) :: lv.filter (fun q => !(q.1 == i) && !(q.1 + 1 == i && q.2.category == 2)) = lv') (hdg : decode cc pc = .ok (.astore_n q, 1)) (k : VV p l e R s m args below meth c nL D ad cA A cells slots Q M (pc + 1) lv' st) : VV p l e R s m args below meth c nL D ad cA A cells slots Q M pc lv (.ref x :: st) := fun H locs ls hP hS hl => lv_astore_n X.1.1 X.1.2.1 hdg hi hl hn hv (fun ls hl => (k H locs ls hP hS hl))
theorem vv_astore (X : Cx p s m args c cc own nL Ts D ad cA A) {i : Nat} {x : Nat} (hn : i < nL) (hv : (i, Value.ref x) :: lv.filter (fun q => !(q.1 == i) && !(q.1 + 1 == i && q.2.category == 2)) = lv') (hdg : decode cc pc = .ok (.astore i, 2)) (k : VV p l e R s m args below meth c nL D ad cA A cells slots Q M (pc + 2) lv' st) : VV p l e R s m args below meth c nL D ad cA A cells slots Q M pc lv (.ref x :: st) := fun H locs ls hP hS hl => lv_astore X.1.1 X.1.2.1 hdg hl hn hv (fun ls hl => (k H locs ls hP hS hl))
theorem vv_lload_n (X : Cx p s m args c cc own nL Ts D ad cA A) {q : Fin 4} (j : Nat) {i : Nat} {x : Int64} (hi : (q : Nat) = i) (hj : lv[j]? = some (i, .long x)) (hdg : decode cc pc = .ok (.lload_n q, 1)) (k : VV p l e R s m args below meth c nL D ad cA A cells slots Q M (pc + 1) lv (.long x :: st)) : VV p l e R s m args below meth c nL D ad cA A cells slots Q M pc lv st := fun H locs ls hP hS hl => lv_lload_n X.1.1 X.1.2.1 hdg hi (lv_at hl j hj) (k H locs ls hP hS hl)
theorem vv_lload (X : Cx p s m args c cc own nL Ts D ad cA A) (j : Nat) {i : Nat} {x : Int64} (hj : lv[j]? = some (i, .long x)) (hdg : decode cc pc = .ok (.lload i, 2)) (k : VV p l e R s m args below meth c nL D ad cA A cells slots Q M (pc + 2) lv (.long x :: st)) : VV p l e R s m args below meth c nL D ad cA A cells slots Q M pc lv st := fun H locs ls hP hS hl => lv_lload X.1.1 X.1.2.1 hdg (lv_at hl j hj) (k H locs ls hP hS hl)
theorem vv_lstore_n (X : Cx p s m args c cc own nL Ts D ad cA A) {q : Fin 4} {i : Nat} {x : Int64} (hi : (q : Nat) = i) (hn : i + 1 < nL) (hv : (i, Value.long x) :: lv.filter (fun q => !(q.1 == i) && (!(q.1 == i + 1) && !(q.1 + 1 == i && q.2.category == 2))) = lv') (hdg : decode cc pc = .ok (.lstore_n q, 1)) (k : VV p l e R s m args below meth c nL D ad cA A cells slots Q M (pc + 1) lv' st) : VV p l e R s m args below meth c nL D ad cA A cells slots Q M pc lv (.long x :: st) := fun H locs ls hP hS hl => lv_lstore_n X.1.1 X.1.2.1 hdg hi hl hn hv (fun ls hl => (k H locs ls hP hS hl))
theorem vv_lstore (X : Cx p s m args c cc own nL Ts D ad cA A) {i : Nat} {x : Int64} (hn : i + 1 < nL) (hv : (i, Value.long x) :: lv.filter (fun q => !(q.1 == i) && (!(q.1 == i + 1) && !(q.1 + 1 == i && q.2.category == 2))) = lv') (hdg : decode cc pc = .ok (.lstore i, 2)) (k : VV p l e R s m args below meth c nL D ad cA A cells slots Q M (pc + 2) lv' st) : VV p l e R s m args below meth c nL D ad cA A cells slots Q M pc lv (.long x :: st) := fun H locs ls hP hS hl => lv_lstore X.1.1 X.1.2.1 hdg hl hn hv (fun ls hl => (k H locs ls hP hS hl))
theorem vv_iinc (X : Cx p s m args c cc own nL Ts D ad cA A) {i : Nat} {n a : Int} (j : Nat) (hj : lv[j]? = some (i, .int (zI a))) (hn : i < nL) (hv : (i, Value.int (zI (a + n))) :: lv.filter (fun q => !(q.1 == i) && !(q.1 + 1 == i && q.2.category == 2)) = lv') (hdg : decode cc pc = .ok (.iinc i n, 3)) (k : VV p l e R s m args below meth c nL D ad cA A cells slots Q M (pc + 3) lv' st) : VV p l e R s m args below meth c nL D ad cA A cells slots Q M pc lv st := fun H locs ls hP hS hl => lv_iinc (v := zI (a + n)) X.1.1 X.1.2.1 hdg hl hj (zI_add a n) hn hv (fun ls hl => (k H locs ls hP hS hl))
theorem vv_iadd (X : Cx p s m args c cc own nL Ts D ad cA A) {a b : Int} (hdg : decode cc pc = .ok (.iadd, 1)) (k : VV p l e R s m args below meth c nL D ad cA A cells slots Q M (pc + 1) lv (.int (zI (a + b)) :: st)) : VV p l e R s m args below meth c nL D ad cA A cells slots Q M pc lv (.int (zI b) :: .int (zI a) :: st) := fun H locs ls hP hS hl => lv_iadd X.1.1 X.1.2.1 hdg (by rw [zI_add]; exact (k H locs ls hP hS hl))
theorem vv_isub (X : Cx p s m args c cc own nL Ts D ad cA A) {a b : Int} (hdg : decode cc pc = .ok (.isub, 1)) (k : VV p l e R s m args below meth c nL D ad cA A cells slots Q M (pc + 1) lv (.int (zI (a - b)) :: st)) : VV p l e R s m args below meth c nL D ad cA A cells slots Q M pc lv (.int (zI b) :: .int (zI a) :: st) := fun H locs ls hP hS hl => lv_isub X.1.1 X.1.2.1 hdg (by rw [zI_sub]; exact (k H locs ls hP hS hl))
theorem vv_imul (X : Cx p s m args c cc own nL Ts D ad cA A) {a b : Int} (hdg : decode cc pc = .ok (.imul, 1)) (k : VV p l e R s m args below meth c nL D ad cA A cells slots Q M (pc + 1) lv (.int (zI (a * b)) :: st)) : VV p l e R s m args below meth c nL D ad cA A cells slots Q M pc lv (.int (zI b) :: .int (zI a) :: st) := fun H locs ls hP hS hl => lv_imul X.1.1 X.1.2.1 hdg (by rw [zI_mul]; exact (k H locs ls hP hS hl))
theorem vv_ineg (X : Cx p s m args c cc own nL Ts D ad cA A) {a : Int} (hdg : decode cc pc = .ok (.ineg, 1)) (k : VV p l e R s m args below meth c nL D ad cA A cells slots Q M (pc + 1) lv (.int (zI (-a)) :: st)) : VV p l e R s m args below meth c nL D ad cA A cells slots Q M pc lv (.int (zI a) :: st) := fun H locs ls hP hS hl => lv_ineg X.1.1 X.1.2.1 hdg (by rw [zI_neg]; exact (k H locs ls hP hS hl))
theorem vv_idiv (X : Cx p s m args c cc own nL Ts D ad cA A) {a b : Int} (ha : -2147483648 < a ∧ a ≤ 2147483647) (hb : -2147483648 ≤ b ∧ b ≤ 2147483647) (h0 : b ≠ 0) (hdg : decode cc pc = .ok (.idiv, 1)) (k : VV p l e R s m args below meth c nL D ad cA A cells slots Q M (pc + 1) lv (.int (zI (a.tdiv b)) :: st)) : VV p l e R s m args below meth c nL D ad cA A cells slots Q M pc lv (.int (zI b) :: .int (zI a) :: st) := fun H locs ls hP hS hl => lv_idiv X.1.1 X.1.2.1 hdg (zI_ne0 hb h0) (by rw [zI_div ha hb]; exact (k H locs ls hP hS hl))
theorem vv_irem (X : Cx p s m args c cc own nL Ts D ad cA A) {a b : Int} (ha : -2147483648 < a ∧ a ≤ 2147483647) (hb : -2147483648 ≤ b ∧ b ≤ 2147483647) (h0 : b ≠ 0) (hdg : decode cc pc = .ok (.irem, 1)) (k : VV p l e R s m args below meth c nL D ad cA A cells slots Q M (pc + 1) lv (.int (zI (a.tmod b)) :: st)) : VV p l e R s m args below meth c nL D ad cA A cells slots Q M pc lv (.int (zI b) :: .int (zI a) :: st) := fun H locs ls hP hS hl => lv_irem X.1.1 X.1.2.1 hdg (zI_ne0 hb h0) (by rw [zI_rem ha hb]; exact (k H locs ls hP hS hl))
theorem vv_iand (X : Cx p s m args c cc own nL Ts D ad cA A) {x y : Int32} {a : Int} (hv : x &&& y = zI a) (hdg : decode cc pc = .ok (.iand, 1)) (k : VV p l e R s m args below meth c nL D ad cA A cells slots Q M (pc + 1) lv (.int (zI a) :: st)) : VV p l e R s m args below meth c nL D ad cA A cells slots Q M pc lv (.int y :: .int x :: st) := fun H locs ls hP hS hl => lv_iand X.1.1 X.1.2.1 hdg (by rw [hv]; exact (k H locs ls hP hS hl))
theorem vv_ior (X : Cx p s m args c cc own nL Ts D ad cA A) {x y : Int32} {a : Int} (hv : x ||| y = zI a) (hdg : decode cc pc = .ok (.ior, 1)) (k : VV p l e R s m args below meth c nL D ad cA A cells slots Q M (pc + 1) lv (.int (zI a) :: st)) : VV p l e R s m args below meth c nL D ad cA A cells slots Q M pc lv (.int y :: .int x :: st) := fun H locs ls hP hS hl => lv_ior X.1.1 X.1.2.1 hdg (by rw [hv]; exact (k H locs ls hP hS hl))
theorem vv_ishl (X : Cx p s m args c cc own nL Ts D ad cA A) {x y : Int32} {a : Int} (hv : x <<< (y &&& 31) = zI a) (hdg : decode cc pc = .ok (.ishl, 1)) (k : VV p l e R s m args below meth c nL D ad cA A cells slots Q M (pc + 1) lv (.int (zI a) :: st)) : VV p l e R s m args below meth c nL D ad cA A cells slots Q M pc lv (.int y :: .int x :: st) := fun H locs ls hP hS hl => lv_ishl X.1.1 X.1.2.1 hdg (by rw [hv]; exact (k H locs ls hP hS hl))
theorem vv_ishr (X : Cx p s m args c cc own nL Ts D ad cA A) {x y : Int32} {a : Int} (hv : x >>> (y &&& 31) = zI a) (hdg : decode cc pc = .ok (.ishr, 1)) (k : VV p l e R s m args below meth c nL D ad cA A cells slots Q M (pc + 1) lv (.int (zI a) :: st)) : VV p l e R s m args below meth c nL D ad cA A cells slots Q M pc lv (.int y :: .int x :: st) := fun H locs ls hP hS hl => lv_ishr X.1.1 X.1.2.1 hdg (by rw [hv]; exact (k H locs ls hP hS hl))
theorem vv_land (X : Cx p s m args c cc own nL Ts D ad cA A) {x y v : Int64} (hv : x &&& y = v) (hdg : decode cc pc = .ok (.land, 1)) (k : VV p l e R s m args below meth c nL D ad cA A cells slots Q M (pc + 1) lv (.long v :: st)) : VV p l e R s m args below meth c nL D ad cA A cells slots Q M pc lv (.long y :: .long x :: st) := fun H locs ls hP hS hl => lv_land X.1.1 X.1.2.1 hdg (by rw [hv]; exact (k H locs ls hP hS hl))
theorem vv_lor (X : Cx p s m args c cc own nL Ts D ad cA A) {x y v : Int64} (hv : x ||| y = v) (hdg : decode cc pc = .ok (.lor, 1)) (k : VV p l e R s m args below meth c nL D ad cA A cells slots Q M (pc + 1) lv (.long v :: st)) : VV p l e R s m args below meth c nL D ad cA A cells slots Q M pc lv (.long y :: .long x :: st) := fun H locs ls hP hS hl => lv_lor X.1.1 X.1.2.1 hdg (by rw [hv]; exact (k H locs ls hP hS hl))
theorem vv_lmul (X : Cx p s m args c cc own nL Ts D ad cA A) {x y v : Int64} (hv : x * y = v) (hdg : decode cc pc = .ok (.lmul, 1)) (k : VV p l e R s m args below meth c nL D ad cA A cells slots Q M (pc + 1) lv (.long v :: st)) : VV p l e R s m args below meth c nL D ad cA A cells slots Q M pc lv (.long y :: .long x :: st) := fun H locs ls hP hS hl => lv_lmul X.1.1 X.1.2.1 hdg (by rw [hv]; exact (k H locs ls hP hS hl))
theorem vv_lushr (X : Cx p s m args c cc own nL Ts D ad cA A) {x v : Int64} {y : Int32} (hv : (x.toUInt64 >>> (y.toInt64.toUInt64 &&& Int64.toUInt64 63)).toInt64 = v) (hdg : decode cc pc = .ok (.lushr, 1)) (k : VV p l e R s m args below meth c nL D ad cA A cells slots Q M (pc + 1) lv (.long v :: st)) : VV p l e R s m args below meth c nL D ad cA A cells slots Q M pc lv (.int y :: .long x :: st) := fun H locs ls hP hS hl => lv_lushr X.1.1 X.1.2.1 hdg hv (k H locs ls hP hS hl)
theorem vv_lshl (X : Cx p s m args c cc own nL Ts D ad cA A) {x v : Int64} {y : Int32} (hv : x <<< (y.toInt64 &&& 63) = v) (hdg : decode cc pc = .ok (.lshl, 1)) (k : VV p l e R s m args below meth c nL D ad cA A cells slots Q M (pc + 1) lv (.long v :: st)) : VV p l e R s m args below meth c nL D ad cA A cells slots Q M pc lv (.int y :: .long x :: st) := fun H locs ls hP hS hl => lv_lshl X.1.1 X.1.2.1 hdg hv (k H locs ls hP hS hl)
theorem vv_i2l (X : Cx p s m args c cc own nL Ts D ad cA A) {x : Int32} {v : Int64} (hv : x.toInt64 = v) (hdg : decode cc pc = .ok (.i2l, 1)) (k : VV p l e R s m args below meth c nL D ad cA A cells slots Q M (pc + 1) lv (.long v :: st)) : VV p l e R s m args below meth c nL D ad cA A cells slots Q M pc lv (.int x :: st) := fun H locs ls hP hS hl => lv_i2l X.1.1 X.1.2.1 hdg hv (k H locs ls hP hS hl)
theorem vv_l2i (X : Cx p s m args c cc own nL Ts D ad cA A) {x : Int64} {v : Int32} (hv : x.toInt32 = v) (hdg : decode cc pc = .ok (.l2i, 1)) (k : VV p l e R s m args below meth c nL D ad cA A cells slots Q M (pc + 1) lv (.int v :: st)) : VV p l e R s m args below meth c nL D ad cA A cells slots Q M pc lv (.long x :: st) := fun H locs ls hP hS hl => lv_l2i X.1.1 X.1.2.1 hdg hv (k H locs ls hP hS hl)
theorem vv_i2c (X : Cx p s m args c cc own nL Ts D ad cA A) {x : Int32} {v : Int32} (hv : (x.toUInt32 % 65536).toInt32 = v) (hdg : decode cc pc = .ok (.i2c, 1)) (k : VV p l e R s m args below meth c nL D ad cA A cells slots Q M (pc + 1) lv (.int v :: st)) : VV p l e R s m args below meth c nL D ad cA A cells slots Q M pc lv (.int x :: st) := fun H locs ls hP hS hl => lv_i2c X.1.1 X.1.2.1 hdg hv (k H locs ls hP hS hl)
theorem vv_dup (X : Cx p s m args c cc own nL Ts D ad cA A) {v : Value} (hc : v.category = 1) (hdg : decode cc pc = .ok (.dup, 1)) (k : VV p l e R s m args below meth c nL D ad cA A cells slots Q M (pc + 1) lv (v :: v :: st)) : VV p l e R s m args below meth c nL D ad cA A cells slots Q M pc lv (v :: st) := fun H locs ls hP hS hl => lv_dup X.1.1 X.1.2.1 hdg hc (k H locs ls hP hS hl)
theorem vv_pop (X : Cx p s m args c cc own nL Ts D ad cA A) {v : Value} (hc : v.category = 1) (hdg : decode cc pc = .ok (.pop, 1)) (k : VV p l e R s m args below meth c nL D ad cA A cells slots Q M (pc + 1) lv st) : VV p l e R s m args below meth c nL D ad cA A cells slots Q M pc lv (v :: st) := fun H locs ls hP hS hl => lv_pop X.1.1 X.1.2.1 hdg hc (k H locs ls hP hS hl)
theorem vv_dup2 (X : Cx p s m args c cc own nL Ts D ad cA A) {v w : Value} (hc : v.category = 1) (hd : w.category = 1) (hdg : decode cc pc = .ok (.dup2, 1)) (k : VV p l e R s m args below meth c nL D ad cA A cells slots Q M (pc + 1) lv (v :: w :: v :: w :: st)) : VV p l e R s m args below meth c nL D ad cA A cells slots Q M pc lv (v :: w :: st) := fun H locs ls hP hS hl => lv_dup2_11 X.1.1 X.1.2.1 hdg hc hd (k H locs ls hP hS hl)
theorem vv_goto (X : Cx p s m args c cc own nL Ts D ad cA A) {off : Int} {tgt : Nat} (ht : (pc : Int) + off = (tgt : Int)) (hdg : decode cc pc = .ok (.goto off, 3)) (k : VV p l e R s m args below meth c nL D ad cA A cells slots Q M tgt lv st) : VV p l e R s m args below meth c nL D ad cA A cells slots Q M pc lv st := fun H locs ls hP hS hl => lv_goto X.1.1 X.1.2.1 hdg ht (k H locs ls hP hS hl)
theorem vv_icmp_eq (X : Cx p s m args c cc own nL Ts D ad cA A) {a b : Int} {off : Int} {tgt : Nat} (ha : -2147483648 ≤ a ∧ a ≤ 2147483647) (hb : -2147483648 ≤ b ∧ b ≤ 2147483647) (hdg : decode cc pc = .ok (.if_icmp .eq off, 3)) (ht : (pc : Int) + off = (tgt : Int)) (kt : a = b → VV p l e R s m args below meth c nL D ad cA A cells slots Q M tgt lv st) (kf : a ≠ b → VV p l e R s m args below meth c nL D ad cA A cells slots Q M (pc + 3) lv st) : VV p l e R s m args below meth c nL D ad cA A cells slots Q M pc lv (.int (zI b) :: .int (zI a) :: st) := fun H locs ls hP hS hl => lv_icmp_eq X.1.1 X.1.2.1 hdg ht (fun q => kt ((zI_eq ha hb).mp q) H locs ls hP hS hl) (fun q => kf (fun w => q ((zI_eq ha hb).mpr w)) H locs ls hP hS hl)
theorem vv_if_eq (X : Cx p s m args c cc own nL Ts D ad cA A) {a : Int} {off : Int} {tgt : Nat} (ha : -2147483648 ≤ a ∧ a ≤ 2147483647) (hdg : decode cc pc = .ok (.ifCond .eq off, 3)) (ht : (pc : Int) + off = (tgt : Int)) (kt : a = 0 → VV p l e R s m args below meth c nL D ad cA A cells slots Q M tgt lv st) (kf : a ≠ 0 → VV p l e R s m args below meth c nL D ad cA A cells slots Q M (pc + 3) lv st) : VV p l e R s m args below meth c nL D ad cA A cells slots Q M pc lv (.int (zI a) :: st) := fun H locs ls hP hS hl => lv_if_eq X.1.1 X.1.2.1 hdg ht (fun q => kt ((zI_eq ha ⟨by decide, by decide⟩).mp q) H locs ls hP hS hl) (fun q => kf (fun w => q ((zI_eq ha ⟨by decide, by decide⟩).mpr w)) H locs ls hP hS hl)
theorem vv_icmp_ne (X : Cx p s m args c cc own nL Ts D ad cA A) {a b : Int} {off : Int} {tgt : Nat} (ha : -2147483648 ≤ a ∧ a ≤ 2147483647) (hb : -2147483648 ≤ b ∧ b ≤ 2147483647) (hdg : decode cc pc = .ok (.if_icmp .ne off, 3)) (ht : (pc : Int) + off = (tgt : Int)) (kt : a ≠ b → VV p l e R s m args below meth c nL D ad cA A cells slots Q M tgt lv st) (kf : a = b → VV p l e R s m args below meth c nL D ad cA A cells slots Q M (pc + 3) lv st) : VV p l e R s m args below meth c nL D ad cA A cells slots Q M pc lv (.int (zI b) :: .int (zI a) :: st) := fun H locs ls hP hS hl => lv_icmp_ne X.1.1 X.1.2.1 hdg ht (fun q => kt (fun w => q ((zI_eq ha hb).mpr w)) H locs ls hP hS hl) (fun q => kf ((zI_eq ha hb).mp q) H locs ls hP hS hl)
theorem vv_if_ne (X : Cx p s m args c cc own nL Ts D ad cA A) {a : Int} {off : Int} {tgt : Nat} (ha : -2147483648 ≤ a ∧ a ≤ 2147483647) (hdg : decode cc pc = .ok (.ifCond .ne off, 3)) (ht : (pc : Int) + off = (tgt : Int)) (kt : a ≠ 0 → VV p l e R s m args below meth c nL D ad cA A cells slots Q M tgt lv st) (kf : a = 0 → VV p l e R s m args below meth c nL D ad cA A cells slots Q M (pc + 3) lv st) : VV p l e R s m args below meth c nL D ad cA A cells slots Q M pc lv (.int (zI a) :: st) := fun H locs ls hP hS hl => lv_if_ne X.1.1 X.1.2.1 hdg ht (fun q => kt (fun w => q ((zI_eq ha ⟨by decide, by decide⟩).mpr w)) H locs ls hP hS hl) (fun q => kf ((zI_eq ha ⟨by decide, by decide⟩).mp q) H locs ls hP hS hl)
theorem vv_icmp_lt (X : Cx p s m args c cc own nL Ts D ad cA A) {a b : Int} {off : Int} {tgt : Nat} (ha : -2147483648 ≤ a ∧ a ≤ 2147483647) (hb : -2147483648 ≤ b ∧ b ≤ 2147483647) (hdg : decode cc pc = .ok (.if_icmp .lt off, 3)) (ht : (pc : Int) + off = (tgt : Int)) (kt : a < b → VV p l e R s m args below meth c nL D ad cA A cells slots Q M tgt lv st) (kf : b ≤ a → VV p l e R s m args below meth c nL D ad cA A cells slots Q M (pc + 3) lv st) : VV p l e R s m args below meth c nL D ad cA A cells slots Q M pc lv (.int (zI b) :: .int (zI a) :: st) := fun H locs ls hP hS hl => lv_icmp_lt X.1.1 X.1.2.1 hdg ht (fun q => kt ((zI_lt ha hb).mp q) H locs ls hP hS hl) (fun q => kf (Int.not_lt.mp (fun w => q ((zI_lt ha hb).mpr w))) H locs ls hP hS hl)
theorem vv_if_lt (X : Cx p s m args c cc own nL Ts D ad cA A) {a : Int} {off : Int} {tgt : Nat} (ha : -2147483648 ≤ a ∧ a ≤ 2147483647) (hdg : decode cc pc = .ok (.ifCond .lt off, 3)) (ht : (pc : Int) + off = (tgt : Int)) (kt : a < 0 → VV p l e R s m args below meth c nL D ad cA A cells slots Q M tgt lv st) (kf : 0 ≤ a → VV p l e R s m args below meth c nL D ad cA A cells slots Q M (pc + 3) lv st) : VV p l e R s m args below meth c nL D ad cA A cells slots Q M pc lv (.int (zI a) :: st) := fun H locs ls hP hS hl => lv_if_lt X.1.1 X.1.2.1 hdg ht (fun q => kt ((zI_lt ha ⟨by decide, by decide⟩).mp q) H locs ls hP hS hl) (fun q => kf (Int.not_lt.mp (fun w => q ((zI_lt ha ⟨by decide, by decide⟩).mpr w))) H locs ls hP hS hl)
theorem vv_icmp_ge (X : Cx p s m args c cc own nL Ts D ad cA A) {a b : Int} {off : Int} {tgt : Nat} (ha : -2147483648 ≤ a ∧ a ≤ 2147483647) (hb : -2147483648 ≤ b ∧ b ≤ 2147483647) (hdg : decode cc pc = .ok (.if_icmp .ge off, 3)) (ht : (pc : Int) + off = (tgt : Int)) (kt : b ≤ a → VV p l e R s m args below meth c nL D ad cA A cells slots Q M tgt lv st) (kf : a < b → VV p l e R s m args below meth c nL D ad cA A cells slots Q M (pc + 3) lv st) : VV p l e R s m args below meth c nL D ad cA A cells slots Q M pc lv (.int (zI b) :: .int (zI a) :: st) := fun H locs ls hP hS hl => lv_icmp_ge X.1.1 X.1.2.1 hdg ht (fun q => kt ((zI_le hb ha).mp q) H locs ls hP hS hl) (fun q => kf (Int.not_le.mp (fun w => q ((zI_le hb ha).mpr w))) H locs ls hP hS hl)
theorem vv_if_ge (X : Cx p s m args c cc own nL Ts D ad cA A) {a : Int} {off : Int} {tgt : Nat} (ha : -2147483648 ≤ a ∧ a ≤ 2147483647) (hdg : decode cc pc = .ok (.ifCond .ge off, 3)) (ht : (pc : Int) + off = (tgt : Int)) (kt : 0 ≤ a → VV p l e R s m args below meth c nL D ad cA A cells slots Q M tgt lv st) (kf : a < 0 → VV p l e R s m args below meth c nL D ad cA A cells slots Q M (pc + 3) lv st) : VV p l e R s m args below meth c nL D ad cA A cells slots Q M pc lv (.int (zI a) :: st) := fun H locs ls hP hS hl => lv_if_ge X.1.1 X.1.2.1 hdg ht (fun q => kt ((zI_le ⟨by decide, by decide⟩ ha).mp q) H locs ls hP hS hl) (fun q => kf (Int.not_le.mp (fun w => q ((zI_le ⟨by decide, by decide⟩ ha).mpr w))) H locs ls hP hS hl)
theorem vv_icmp_gt (X : Cx p s m args c cc own nL Ts D ad cA A) {a b : Int} {off : Int} {tgt : Nat} (ha : -2147483648 ≤ a ∧ a ≤ 2147483647) (hb : -2147483648 ≤ b ∧ b ≤ 2147483647) (hdg : decode cc pc = .ok (.if_icmp .gt off, 3)) (ht : (pc : Int) + off = (tgt : Int)) (kt : b < a → VV p l e R s m args below meth c nL D ad cA A cells slots Q M tgt lv st) (kf : a ≤ b → VV p l e R s m args below meth c nL D ad cA A cells slots Q M (pc + 3) lv st) : VV p l e R s m args below meth c nL D ad cA A cells slots Q M pc lv (.int (zI b) :: .int (zI a) :: st) := fun H locs ls hP hS hl => lv_icmp_gt X.1.1 X.1.2.1 hdg ht (fun q => kt ((zI_lt hb ha).mp q) H locs ls hP hS hl) (fun q => kf (Int.not_lt.mp (fun w => q ((zI_lt hb ha).mpr w))) H locs ls hP hS hl)
theorem vv_if_gt (X : Cx p s m args c cc own nL Ts D ad cA A) {a : Int} {off : Int} {tgt : Nat} (ha : -2147483648 ≤ a ∧ a ≤ 2147483647) (hdg : decode cc pc = .ok (.ifCond .gt off, 3)) (ht : (pc : Int) + off = (tgt : Int)) (kt : 0 < a → VV p l e R s m args below meth c nL D ad cA A cells slots Q M tgt lv st) (kf : a ≤ 0 → VV p l e R s m args below meth c nL D ad cA A cells slots Q M (pc + 3) lv st) : VV p l e R s m args below meth c nL D ad cA A cells slots Q M pc lv (.int (zI a) :: st) := fun H locs ls hP hS hl => lv_if_gt X.1.1 X.1.2.1 hdg ht (fun q => kt ((zI_lt ⟨by decide, by decide⟩ ha).mp q) H locs ls hP hS hl) (fun q => kf (Int.not_lt.mp (fun w => q ((zI_lt ⟨by decide, by decide⟩ ha).mpr w))) H locs ls hP hS hl)
theorem vv_icmp_le (X : Cx p s m args c cc own nL Ts D ad cA A) {a b : Int} {off : Int} {tgt : Nat} (ha : -2147483648 ≤ a ∧ a ≤ 2147483647) (hb : -2147483648 ≤ b ∧ b ≤ 2147483647) (hdg : decode cc pc = .ok (.if_icmp .le off, 3)) (ht : (pc : Int) + off = (tgt : Int)) (kt : a ≤ b → VV p l e R s m args below meth c nL D ad cA A cells slots Q M tgt lv st) (kf : b < a → VV p l e R s m args below meth c nL D ad cA A cells slots Q M (pc + 3) lv st) : VV p l e R s m args below meth c nL D ad cA A cells slots Q M pc lv (.int (zI b) :: .int (zI a) :: st) := fun H locs ls hP hS hl => lv_icmp_le X.1.1 X.1.2.1 hdg ht (fun q => kt ((zI_le ha hb).mp q) H locs ls hP hS hl) (fun q => kf (Int.not_le.mp (fun w => q ((zI_le ha hb).mpr w))) H locs ls hP hS hl)
theorem vv_if_le (X : Cx p s m args c cc own nL Ts D ad cA A) {a : Int} {off : Int} {tgt : Nat} (ha : -2147483648 ≤ a ∧ a ≤ 2147483647) (hdg : decode cc pc = .ok (.ifCond .le off, 3)) (ht : (pc : Int) + off = (tgt : Int)) (kt : a ≤ 0 → VV p l e R s m args below meth c nL D ad cA A cells slots Q M tgt lv st) (kf : 0 < a → VV p l e R s m args below meth c nL D ad cA A cells slots Q M (pc + 3) lv st) : VV p l e R s m args below meth c nL D ad cA A cells slots Q M pc lv (.int (zI a) :: st) := fun H locs ls hP hS hl => lv_if_le X.1.1 X.1.2.1 hdg ht (fun q => kt ((zI_le ha ⟨by decide, by decide⟩).mp q) H locs ls hP hS hl) (fun q => kf (Int.not_le.mp (fun w => q ((zI_le ha ⟨by decide, by decide⟩).mpr w))) H locs ls hP hS hl)
theorem vv_tabOut (X : Cx p s m args c cc own nL Ts D ad cA A) {dflt lo hi : Int} {offs : Array Int} {len : Nat} {a : Int} {tgt : Nat} (ha : -2147483648 ≤ a ∧ a ≤ 2147483647) (hdg : decode cc pc = .ok (.tableswitch dflt lo hi offs, len)) (h : a < lo ∨ hi < a) (ht : (pc : Int) + dflt = (tgt : Int)) (k : VV p l e R s m args below meth c nL D ad cA A cells slots Q M tgt lv st) : VV p l e R s m args below meth c nL D ad cA A cells slots Q M pc lv (.int (zI a) :: st) := fun H locs ls hP hS hl => lv_tableOut X.1.1 X.1.2.1 hdg (by rw [zI_T ha]; exact h) ht (k H locs ls hP hS hl)
theorem vv_tabIn (X : Cx p s m args c cc own nL Ts D ad cA A) {dflt lo hi : Int} {offs : Array Int} {len : Nat} {a off : Int} {tgt : Nat} (ha : -2147483648 ≤ a ∧ a ≤ 2147483647) (hdg : decode cc pc = .ok (.tableswitch dflt lo hi offs, len)) (h1 : lo ≤ a) (h2 : a ≤ hi) (ho : offs[(a - lo).toNat]? = some off) (ht : (pc : Int) + off = (tgt : Int)) (k : VV p l e R s m args below meth c nL D ad cA A cells slots Q M tgt lv st) : VV p l e R s m args below meth c nL D ad cA A cells slots Q M pc lv (.int (zI a) :: st) := fun H locs ls hP hS hl => lv_tableIn X.1.1 X.1.2.1 hdg (by rw [zI_T ha]; exact Int.not_lt.mpr h1) (by rw [zI_T ha]; exact Int.not_lt.mpr h2) (by rw [zI_T ha]; exact ho) ht (k H locs ls hP hS hl)
theorem vv_look (X : Cx p s m args c cc own nL Ts D ad cA A) {dflt : Int} {ps : Array (Int × Int)} {len : Nat} {a off : Int} {tgt : Nat} (ha : -2147483648 ≤ a ∧ a ≤ 2147483647) (hdg : decode cc pc = .ok (.lookupswitch dflt ps, len)) (hp : (ps.toList.zip (ps.toList.drop 1)).all (fun (a, next) => a.1 < next.1) = true) (ho : Op.lookupswitch.offset ps.toList dflt a = off) (ht : (pc : Int) + off = (tgt : Int)) (k : VV p l e R s m args below meth c nL D ad cA A cells slots Q M tgt lv st) : VV p l e R s m args below meth c nL D ad cA A cells slots Q M pc lv (.int (zI a) :: st) := fun H locs ls hP hS hl => lv_lookup X.1.1 X.1.2.1 hdg hp (by rw [zI_T ha]; exact ho) ht (k H locs ls hP hS hl)
theorem vv_sub (ks : List Nat) (hv : lv_pick lv ks = lv') (k : VV p l e R s m args below meth c nL D ad cA A cells slots Q M pc lv' st) : VV p l e R s m args below meth c nL D ad cA A cells slots Q M pc lv st := fun H locs ls hP hS hl => k H locs ls hP hS (lv_sub hl ks hv)
theorem vv_mem {M' : Mem} (hM : M = M') (k : VV p l e R s m args below meth c nL D ad cA A cells slots Q M' pc lv st) : VV p l e R s m args below meth c nL D ad cA A cells slots Q M pc lv st := by subst hM; exact k
theorem cellV_o {ad : Nat → Nat} {cA : Nat → ClassId} {S : Shp} {ci : Nat} {fl : List (Option Nat)} {f : Nat → Int} (h : S = .inl (ci, fl)) : cellV ad cA S f = .inr (ci, fldL ad f 0 fl) := by rw [h]; rfl
theorem cellV_a {ad : Nat → Nat} {cA : Nat → ClassId} {S : Shp} {t n : Nat} {f : Nat → Int} (h : S = .inr (t, n, none)) : cellV ad cA S f = .inl (cA t, n, .inl (fun k => zI (f k))) := by rw [h]; rfl
theorem cellV_r {ad : Nat → Nat} {cA : Nat → ClassId} {S : Shp} {t n : Nat} {g : Nat → Nat} {f : Nat → Int} (h : S = .inr (t, n, some g)) : cellV ad cA S f = .inl (cA t, n, .inr (.inr (.inr (.inr (fun k => some (ad (g k))))))) := by rw [h]; rfl
theorem wld_o {ad : Nat → Nat} {cA : Nat → ClassId} {M : Mem} {i ci : Nat} {fl : List (Option Nat)} (hi : i < 113) (hs : sh i = .inl (ci, fl)) : (wld ad cA M)[i]? = some (ad i, .inr (ci, fldL ad (M i) 0 fl)) := by rw [wld_at hi, cellV_o hs]
theorem wld_a {ad : Nat → Nat} {cA : Nat → ClassId} {M : Mem} {i t n : Nat} (hi : i < 113) (hs : sh i = .inr (t, n, none)) : (wld ad cA M)[i]? = some (ad i, .inl (cA t, n, .inl (fun k => zI (M i k)))) := by rw [wld_at hi, cellV_a hs]
theorem wld_r {ad : Nat → Nat} {cA : Nat → ClassId} {M : Mem} {i t n : Nat} {g : Nat → Nat} (hi : i < 113) (hs : sh i = .inr (t, n, some g)) : (wld ad cA M)[i]? = some (ad i, .inl (cA t, n, .inr (.inr (.inr (.inr (fun k => some (ad (g k)))))))) := by rw [wld_at hi, cellV_r hs]
theorem vv_geti (X : Cx p s m args c cc own nL Ts D ad cA A) {i ci index : Nat} {fl : List (Option Nat)} {ref C : String} {T : u_T} {Nf : Nat} (hi : i < 113) (hs : sh i = .inl (ci, fl)) (hc : vwCl[ci]? = some (C, T, Nf)) (f : Nat) (hf : f < Nf) (hin : ∀ w ∈ u_ws C T Nf, w ∈ Ts) (hlink : Cond.fieldLink own index ref (T f).2.1 (T f).2.2.1 ∈ Ts) (href : ref = (T f).1) {z : Int} (hv : fl[f]? = some none) (hz : M i f = z) (hdg : decode cc pc = .ok (.getfield index, 3)) (k : VV p l e R s m args below meth c nL D ad cA A cells slots Q M (pc + 3) lv ((.int (zI z)) :: st)) : VV p l e R s m args below meth c nL D ad cA A cells slots Q M pc lv (.ref (ad i) :: st) := fun H locs ls hP hS hl => va_get X.1.1 X.1.2.1 X.1.2.2.2.2 hin X.1.2.2.2.1 X.2.1 hP i (wld_o hi hs) hc f hf (X.1.2.2.2.2 _ hlink) (fun x h => by rw [href]; exact h) (v := (.int (zI z))) (by have h9 := fldL_get ad (M i) fl 0 f _ hv; rw [Nat.zero_add] at h9; subst hz; exact h9) hdg (k H locs ls hP hS hl)
theorem vv_getr (X : Cx p s m args c cc own nL Ts D ad cA A) {i ci index : Nat} {fl : List (Option Nat)} {ref C : String} {T : u_T} {Nf : Nat} (hi : i < 113) (hs : sh i = .inl (ci, fl)) (hc : vwCl[ci]? = some (C, T, Nf)) (f : Nat) (hf : f < Nf) (hin : ∀ w ∈ u_ws C T Nf, w ∈ Ts) (hlink : Cond.fieldLink own index ref (T f).2.1 (T f).2.2.1 ∈ Ts) (href : ref = (T f).1) {j : Nat} (hv : fl[f]? = some (some j)) (hdg : decode cc pc = .ok (.getfield index, 3)) (k : VV p l e R s m args below meth c nL D ad cA A cells slots Q M (pc + 3) lv ((.ref (ad j)) :: st)) : VV p l e R s m args below meth c nL D ad cA A cells slots Q M pc lv (.ref (ad i) :: st) := fun H locs ls hP hS hl => va_get X.1.1 X.1.2.1 X.1.2.2.2.2 hin X.1.2.2.2.1 X.2.1 hP i (wld_o hi hs) hc f hf (X.1.2.2.2.2 _ hlink) (fun x h => by rw [href]; exact h) (v := (.ref (ad j))) (by have h9 := fldL_get ad (M i) fl 0 f _ hv; rw [Nat.zero_add] at h9; exact h9) hdg (k H locs ls hP hS hl)
theorem fldL_len (ad : Nat → Nat) (f : Nat → Int) : ∀ (r : List (Option Nat)) (b : Nat), (fldL ad f b r).length = r.length
  | [], b => rfl
  | o :: r, b => by simp only [fldL, List.length_cons, fldL_len ad f r (b + 1)]
theorem vv_puti (X : Cx p s m args c cc own nL Ts D ad cA A) {i ci index : Nat} {fl : List (Option Nat)} {ref C : String} {T : u_T} {Nf : Nat} (hi : i < 113) (hs : sh i = .inl (ci, fl)) (hc : vwCl[ci]? = some (C, T, Nf)) (f : Nat) (hf : f < Nf) (hin : ∀ w ∈ u_ws C T Nf, w ∈ Ts) (hlink : Cond.fieldLink own index ref (T f).2.1 (T f).2.2.1 ∈ Ts) (href : ref = (T f).1) {x : Int} {ty0 : Nat → FieldType} (hty : ∀ k, k < Nf → parseFieldDescriptor (T k).2.2.1 = some (ty0 k)) (hnm : ∀ a, a < Nf → ∀ b, b < Nf → a ≠ b → (T a).2.1 ≠ (T b).2.1) (hfin : (T f).2.2.2 = false) (hd : parseFieldDescriptor (T f).2.2.1 = some .int) (hlen : fl.length = Nf) (hv : fl[f]? = some none) (hdg : decode cc pc = .ok (.putfield index, 3)) (k : VV p l e R s m args below meth c nL D ad cA A cells slots Q (up2 M i f x) (pc + 3) lv st) : VV p l e R s m args below meth c nL D ad cA A cells slots Q M pc lv (.int (zI x) :: .ref (ad i) :: st) := fun H locs ls hP hS hl => by
  have hw : (wld ad cA M).set i (ad i, .inr (ci, (fldL ad (M i) 0 fl).set f (.int (zI x)))) = wld ad cA (up2 M i f x) := wld_set (by
    rw [cellV_o hs, fldL_set ad (M i) x fl 0 f hv, Nat.zero_add])
  refine va_put X.1.1 X.1.2.1 X.1.2.2.2.2 hin ty0 hty hnm X.1.2.2.2.1 X.2.1 hP (wld_D X.2.2.2.1 X.2.2.2.2.1 M) hS i (wld_o hi hs) hc f hf (X.1.2.2.2.2 _ hlink) (fun x h => by rw [href]; exact h) hfin hd rfl rfl (by rw [fldL_len]; omega) hdg (fun H1 locs1 hP1 _ hS1 => ?_)
  rw [hw] at hP1
  exact k H1 locs1 ls hP1 hS1 hl
theorem vv_iald (X : Cx p s m args c cc own nL Ts D ad cA A) {i n : Nat} {a z : Int} (hi : i < 113) (hs : sh i = .inr (0, n, none)) (hn : n < 2147483648) (ha : 0 ≤ a ∧ a < (n : Int)) (hz : M i a.toNat = z) (hdg : decode cc pc = .ok (.iaload, 1)) (k : VV p l e R s m args below meth c nL D ad cA A cells slots Q M (pc + 1) lv (.int (zI z) :: st)) : VV p l e R s m args below meth c nL D ad cA A cells slots Q M pc lv (.int (zI a) :: .ref (ad i) :: st) := fun H locs ls hP hS hl => va_iald X.1.1 X.1.2.1 X.2.1 hP i 0 (wld_a hi hs) rfl (zI_in ha hn) hdg (by rw [zI_cl (by omega), hz]; exact (k H locs ls hP hS hl))
theorem vv_cald (X : Cx p s m args c cc own nL Ts D ad cA A) {i n : Nat} {a z : Int} (hi : i < 113) (hs : sh i = .inr (1, n, none)) (hn : n < 2147483648) (ha : 0 ≤ a ∧ a < (n : Int)) (hz : M i a.toNat = z) (hdg : decode cc pc = .ok (.caload, 1)) (k : VV p l e R s m args below meth c nL D ad cA A cells slots Q M (pc + 1) lv (.int (zI z) :: st)) : VV p l e R s m args below meth c nL D ad cA A cells slots Q M pc lv (.int (zI a) :: .ref (ad i) :: st) := fun H locs ls hP hS hl => va_cald X.1.1 X.1.2.1 X.2.1 hP i 1 (wld_a hi hs) rfl (zI_in ha hn) hdg (by rw [zI_cl (by omega), hz]; exact (k H locs ls hP hS hl))
theorem vv_zald (X : Cx p s m args c cc own nL Ts D ad cA A) {i n : Nat} {a z : Int} (hi : i < 113) (hs : sh i = .inr (2, n, none)) (hn : n < 2147483648) (ha : 0 ≤ a ∧ a < (n : Int)) (hz : M i a.toNat = z) (hdg : decode cc pc = .ok (.baload, 1)) (k : VV p l e R s m args below meth c nL D ad cA A cells slots Q M (pc + 1) lv (.int (zI z) :: st)) : VV p l e R s m args below meth c nL D ad cA A cells slots Q M pc lv (.int (zI a) :: .ref (ad i) :: st) := fun H locs ls hP hS hl => va_zald X.1.1 X.1.2.1 X.2.1 hP i 2 (wld_a hi hs) rfl (zI_in ha hn) hdg (by rw [zI_cl (by omega), hz]; exact (k H locs ls hP hS hl))
theorem vv_aald (X : Cx p s m args c cc own nL Ts D ad cA A) {i n j : Nat} {g : Nat → Nat} {a : Int} (hi : i < 113) (hs : sh i = .inr (3, n, some g)) (hn : n < 2147483648) (ha : 0 ≤ a ∧ a < (n : Int)) (hz : g a.toNat = j) (hdg : decode cc pc = .ok (.aaload, 1)) (k : VV p l e R s m args below meth c nL D ad cA A cells slots Q M (pc + 1) lv (.ref (ad j) :: st)) : VV p l e R s m args below meth c nL D ad cA A cells slots Q M pc lv (.int (zI a) :: .ref (ad i) :: st) := fun H locs ls hP hS hl => va_aldq X.1.1 X.1.2.1 X.2.1 hP i 3 (wld_r hi hs) rfl (zI_in ha hn) hdg (by rw [zI_cl (by omega), hz]; exact (k H locs ls hP hS hl))
theorem updz (f : Nat → Int) (k : Nat) (x : Int) : (fun j => zI (uz f k x j)) = upd (fun j => zI (f j)) k (zI x) := by
  funext j
  unfold uz upd
  by_cases h : j = k <;> simp [h]
theorem vv_iast (X : Cx p s m args c cc own nL Ts D ad cA A) {i n ix : Nat} {a x : Int} (hi : i < 113) (hs : sh i = .inr (0, n, none)) (hn : n < 2147483648) (ha : 0 ≤ a ∧ a < (n : Int)) (hk : a.toNat = ix) (hdg : decode cc pc = .ok (.iastore, 1)) (k : VV p l e R s m args below meth c nL D ad cA A cells slots Q (up2 M i ix x) (pc + 1) lv st) : VV p l e R s m args below meth c nL D ad cA A cells slots Q M pc lv (.int (zI x) :: .int (zI a) :: .ref (ad i) :: st) := fun H locs ls hP hS hl => by
  have hw : (wld ad cA M).set i (ad i, .inl (cA 0, n, .inl (upd (fun k => zI (M i k)) ix (zI x)))) = wld ad cA (up2 M i ix x) := wld_set (by
    rw [cellV_a hs, updz])
  refine va_iast X.1.1 X.1.2.1 X.2.1 hP (wld_D X.2.2.2.1 X.2.2.2.2.1 M) hS i 0 (wld_a hi hs) rfl (zI_in ha hn) hdg (fun H1 locs1 hP1 _ hS1 => ?_)
  rw [zI_cl (by omega), hk, hw] at hP1
  exact k H1 locs1 ls hP1 hS1 hl
theorem vv_cast (X : Cx p s m args c cc own nL Ts D ad cA A) {i n ix : Nat} {a x : Int} (hi : i < 113) (hs : sh i = .inr (1, n, none)) (hn : n < 2147483648) (ha : 0 ≤ a ∧ a < (n : Int)) (hk : a.toNat = ix) (hx : vp_nar .char (zI x) = zI x) (hdg : decode cc pc = .ok (.castore, 1)) (k : VV p l e R s m args below meth c nL D ad cA A cells slots Q (up2 M i ix x) (pc + 1) lv st) : VV p l e R s m args below meth c nL D ad cA A cells slots Q M pc lv (.int (zI x) :: .int (zI a) :: .ref (ad i) :: st) := fun H locs ls hP hS hl => by
  have hw : (wld ad cA M).set i (ad i, .inl (cA 1, n, .inl (upd (fun k => zI (M i k)) ix (zI x)))) = wld ad cA (up2 M i ix x) := wld_set (by
    rw [cellV_a hs, updz])
  refine va_cast X.1.1 X.1.2.1 X.2.1 hP (wld_D X.2.2.2.1 X.2.2.2.2.1 M) hS i 1 (wld_a hi hs) rfl (zI_in ha hn) hdg (fun H1 locs1 hP1 _ hS1 => ?_)
  rw [zI_cl (by omega), hk, hx, hw] at hP1
  exact k H1 locs1 ls hP1 hS1 hl
theorem vv_zast (X : Cx p s m args c cc own nL Ts D ad cA A) {i n ix : Nat} {a x : Int} (hi : i < 113) (hs : sh i = .inr (2, n, none)) (hn : n < 2147483648) (ha : 0 ≤ a ∧ a < (n : Int)) (hk : a.toNat = ix) (hx : vp_nar .boolean (zI x) = zI x) (hdg : decode cc pc = .ok (.bastore, 1)) (k : VV p l e R s m args below meth c nL D ad cA A cells slots Q (up2 M i ix x) (pc + 1) lv st) : VV p l e R s m args below meth c nL D ad cA A cells slots Q M pc lv (.int (zI x) :: .int (zI a) :: .ref (ad i) :: st) := fun H locs ls hP hS hl => by
  have hw : (wld ad cA M).set i (ad i, .inl (cA 2, n, .inl (upd (fun k => zI (M i k)) ix (zI x)))) = wld ad cA (up2 M i ix x) := wld_set (by
    rw [cellV_a hs, updz])
  refine va_zast X.1.1 X.1.2.1 X.2.1 hP (wld_D X.2.2.2.1 X.2.2.2.2.1 M) hS i 2 (wld_a hi hs) rfl (zI_in ha hn) hdg (fun H1 locs1 hP1 _ hS1 => ?_)
  rw [zI_cl (by omega), hk, hx, hw] at hP1
  exact k H1 locs1 ls hP1 hS1 hl
theorem vv_copy (X : Cx p s m args c cc own nL Ts D ad cA A) {i i0 n n0 index : Nat} {sp dp w : Int} (hi : i < 113) (hi0 : i0 < 113) (hs : sh i = .inr (0, n, none)) (hs0 : sh i0 = .inr (0, n0, none)) (h1 : 0 ≤ sp ∧ 0 ≤ dp ∧ 0 ≤ w ∧ sp + w ≤ (n0 : Int) ∧ dp + w ≤ (n : Int) ∧ n0 < 2147483648 ∧ n < 2147483648) (hlink : Cond.methodLink own index arraycopyName ∈ Ts) (hnat : Cond.native arraycopyName ∈ Ts) (hstat : Cond.static arraycopyName ∈ Ts) (hini : Cond.initialized "java/lang/System" ∈ Ts) (hframes : 1 ≤ R.frames) (hlocals : (st.map fun v => v.category).sum + (nativeFrameWords "java/lang/System" "arraycopy" 5 + 11) ≤ R.locals) (hdg : decode cc pc = .ok (.invokestatic index, 3)) (k : VV p l e R s m args below meth c nL D ad cA A cells slots Q (stc M i (fun k => if dp.toNat ≤ k ∧ k < dp.toNat + w.toNat then M i0 (sp.toNat + (k - dp.toNat)) else M i k)) (pc + 3) lv st) : VV p l e R s m args below meth c nL D ad cA A cells slots Q M pc lv (.int (zI w) :: .int (zI dp) :: .ref (ad i) :: .int (zI sp) :: .ref (ad i0) :: st) := fun H locs ls hP hS hl => by
  have hw : (wld ad cA M).set i (ad i, .inl (cA 0, n, .inl (va_cpy (fun k => zI (M i0 k)) (fun k => zI (M i k)) sp.toNat dp.toNat w.toNat))) = wld ad cA (stc M i (fun k => if dp.toNat ≤ k ∧ k < dp.toNat + w.toNat then M i0 (sp.toNat + (k - dp.toNat)) else M i k)) := wld_set (by
    rw [cellV_a hs]
    refine congrArg (fun g => (Sum.inl (cA 0, n, Sum.inl g) : va_E)) (funext fun j => ?_)
    simp only [va_cpy]
    split <;> rfl)
  have e1 : (zI sp).toNatClampNeg = sp.toNat := zI_cl (by omega)
  have e2 : (zI dp).toNatClampNeg = dp.toNat := zI_cl (by omega)
  have e3 : (zI w).toNatClampNeg = w.toNat := zI_cl (by omega)
  refine va_copyi X.1.1 X.1.2.1 (X.1.2.2.1.trans hl.1.symm) X.1.2.2.2.1 (X.1.2.2.2.2 _ hlink) (X.1.2.2.2.2 _ hnat) (X.1.2.2.2.2 _ hstat) (X.1.2.2.2.2 _ hini) X.2.1 hP (wld_D X.2.2.2.1 X.2.2.2.2.1 M) hS i0 i 0 0 (wld_a hi0 hs0) (wld_a hi hs) rfl rfl rfl (by rw [zI_0, zI_lt (by omega) (by omega)]; omega) (by rw [zI_0, zI_lt (by omega) (by omega)]; omega) (by rw [zI_0, zI_lt (by omega) (by omega)]; omega) (by rw [e1, e3]; omega) (by rw [e2, e3]; omega) (fun _ _ => rfl) hframes hlocals hdg (fun H1 locs1 hP1 _ hS1 => ?_)
  rw [e1, e2, e3, hw] at hP1
  exact k H1 locs1 ls hP1 hS1 hl
theorem vv_mmax (X : Cx p s m args c cc own nL Ts D ad cA A) {a b : Int} {index : Nat} (ha : -2147483648 ≤ a ∧ a ≤ 2147483647) (hb : -2147483648 ≤ b ∧ b ≤ 2147483647) (hlink : Cond.methodLink own index Lib.Math.max.name ∈ Ts) (hstat : Cond.static Lib.Math.max.name ∈ Ts) (hini : Cond.initialized "java/lang/Math" ∈ Ts) (hcode : Cond.code Lib.Math.max.name Lib.Math.max.code 2 (some .int) ∈ Ts) (hframes : 1 ≤ R.frames) (hlocals : (st.map fun v => v.category).sum + 13 ≤ R.locals) (hcs : cells ≤ R.cells ∧ slots ≤ R.slots) (hdg : decode cc pc = .ok (.invokestatic index, 3)) (k : VV p l e R s m args below meth c nL D ad cA A cells slots Q M (pc + 3) lv (.int (zI (if a < b then b else a)) :: st)) : VV p l e R s m args below meth c nL D ad cA A cells slots Q M pc lv (.int (zI b) :: .int (zI a) :: st) := fun H locs ls hP hS hl => by
  refine va_mmax X.1.1 X.1.2.1 (X.1.2.2.1.trans hl.1.symm) X.1.2.2.2.1 (X.1.2.2.2.2 _ hlink) (X.1.2.2.2.2 _ hstat) (X.1.2.2.2.2 _ hini) (X.1.2.2.2.2 _ hcode) hframes hlocals hcs.1 hcs.2 hdg ?_
  have h9 := k H locs ls hP hS hl
  have e9 : (zI (if a < b then b else a)) = if zI a < zI b then zI b else zI a := by
    simp only [zI_lt ha hb]
    split <;> rfl
  rw [e9] at h9
  exact h9
theorem vv_mmin (X : Cx p s m args c cc own nL Ts D ad cA A) {a b : Int} {index : Nat} (ha : -2147483648 ≤ a ∧ a ≤ 2147483647) (hb : -2147483648 ≤ b ∧ b ≤ 2147483647) (hlink : Cond.methodLink own index Lib.Math.min.name ∈ Ts) (hstat : Cond.static Lib.Math.min.name ∈ Ts) (hini : Cond.initialized "java/lang/Math" ∈ Ts) (hcode : Cond.code Lib.Math.min.name Lib.Math.min.code 2 (some .int) ∈ Ts) (hframes : 1 ≤ R.frames) (hlocals : (st.map fun v => v.category).sum + 13 ≤ R.locals) (hcs : cells ≤ R.cells ∧ slots ≤ R.slots) (hdg : decode cc pc = .ok (.invokestatic index, 3)) (k : VV p l e R s m args below meth c nL D ad cA A cells slots Q M (pc + 3) lv (.int (zI (if b < a then b else a)) :: st)) : VV p l e R s m args below meth c nL D ad cA A cells slots Q M pc lv (.int (zI b) :: .int (zI a) :: st) := fun H locs ls hP hS hl => by
  refine va_mmin X.1.1 X.1.2.1 (X.1.2.2.1.trans hl.1.symm) X.1.2.2.2.1 (X.1.2.2.2.2 _ hlink) (X.1.2.2.2.2 _ hstat) (X.1.2.2.2.2 _ hini) (X.1.2.2.2.2 _ hcode) hframes hlocals hcs.1 hcs.2 hdg ?_
  have h9 := k H locs ls hP hS hl
  have e9 : (zI (if b < a then b else a)) = if zI b < zI a then zI b else zI a := by
    simp only [zI_lt hb ha]
    split <;> rfl
  rw [e9] at h9
  exact h9
theorem vv_mabs (X : Cx p s m args c cc own nL Ts D ad cA A) {a : Int} {index : Nat} (ha : -2147483648 ≤ a ∧ a ≤ 2147483647) (hlink : Cond.methodLink own index Lib.Math.abs.name ∈ Ts) (hstat : Cond.static Lib.Math.abs.name ∈ Ts) (hini : Cond.initialized "java/lang/Math" ∈ Ts) (hcode : Cond.code Lib.Math.abs.name Lib.Math.abs.code 1 (some .int) ∈ Ts) (hframes : 1 ≤ R.frames) (hlocals : (st.map fun v => v.category).sum + 13 ≤ R.locals) (hcs : cells ≤ R.cells ∧ slots ≤ R.slots) (hdg : decode cc pc = .ok (.invokestatic index, 3)) (k : VV p l e R s m args below meth c nL D ad cA A cells slots Q M (pc + 3) lv (.int (zI (if 0 ≤ a then a else -a)) :: st)) : VV p l e R s m args below meth c nL D ad cA A cells slots Q M pc lv (.int (zI a) :: st) := fun H locs ls hP hS hl => by
  refine va_mabs X.1.1 X.1.2.1 (X.1.2.2.1.trans hl.1.symm) X.1.2.2.2.1 (X.1.2.2.2.2 _ hlink) (X.1.2.2.2.2 _ hstat) (X.1.2.2.2.2 _ hini) (X.1.2.2.2.2 _ hcode) hframes hlocals hcs.1 hcs.2 hdg ?_
  have h9 := k H locs ls hP hS hl
  have e9 : zI (if 0 ≤ a then a else -a) = if 0 ≤ zI a then zI a else 0 - zI a := by
    rw [zI_0, zI_sub]
    simp only [zI_le (a := 0) (b := a) (by omega) ha]
    split
    · rfl
    · rw [Int.zero_sub]
  rw [e9] at h9
  exact h9
end VR
end
section
/-! ===== contracts over the layer ===== -/
def PcB (D : va_G) (ad : Nat → Nat) (cA : Nat → ClassId) (M : Mem) (sz : Nat) (U : State) : Prop := U.heap.size = sz ∧ va_P D vwCl (wld ad cA M) U.heap ∧ va_K D vwCl (tyL cA) U ∧ vNs U
abbrev QcI (D : va_G) (ad : Nat → Nat) (cA : Nat → ClassId) (post : Int → Mem → Prop) (sz : Nat) : Array Value → State → Outcome → State → Prop := va_Qi (fun (r : Int32) (u : Mem) => ∃ z : Int, r = zI z ∧ post z u) (fun u t => va_P D vwCl (wld ad cA u) t.heap) (Afr ad sz)
abbrev QcV (D : va_G) (ad : Nat → Nat) (cA : Nat → ClassId) (post : Mem → Prop) (sz : Nat) : Array Value → State → Outcome → State → Prop := va_Qv (fun (u : Mem) => post u) (fun u t => va_P D vwCl (wld ad cA u) t.heap) (Afr ad sz)
/-- a method that answers a number: its start M, its end post -/
def CtI (l : Launch) (y : MethodName) (w : List Cond) (fr lo : Nat) (D : va_G) (ad : Nat → Nat) (cA : Nat → ClassId) (As : List Value) (M : Mem) (post : Int → Mem → Prop) : Prop :=
  ∀ sz : Nat, Met l y w { frames := fr, cells := 0, slots := 0, locals := lo } (va_Pc As (PcB D ad cA M sz)) (QcI D ad cA post sz) 0 0 (Afr ad sz)
def CtV (l : Launch) (y : MethodName) (w : List Cond) (fr lo : Nat) (D : va_G) (ad : Nat → Nat) (cA : Nat → ClassId) (As : List Value) (M : Mem) (post : Mem → Prop) : Prop :=
  ∀ sz : Nat, Met l y w { frames := fr, cells := 0, slots := 0, locals := lo } (va_Pc As (PcB D ad cA M sz)) (QcV D ad cA post sz) 0 0 (Afr ad sz)
theorem PcB_blind {As : List Value} {D : va_G} {ad : Nat → Nat} {cA : Nat → ClassId} {M : Mem} {sz : Nat} : FrameBlind (va_Pc As (PcB D ad cA M sz)) := fun a U g mk q => by
  obtain ⟨q0, q1, qP, qK, qN⟩ := q
  exact ⟨q0, q1, qP, va_K.moved (u := U) (U := U.calling g mk a) (Vm.Alike.refl U.vm) qK, vNs_same rfl qN⟩
def Mt (meth : Method) (ret : Option FieldType) : Prop := meth.sig.returnType = ret ∧ meth.locks = false
def QI (below : List Frame) (args : Array Value) (s : State) (D : va_G) (ad : Nat → Nat) (cA : Nat → ClassId) (post : Int → Mem → Prop) : State → Prop := MQ below (QcI D ad cA post s.heap.size) args s 0 0 (Afr ad s.heap.size)
def QV (below : List Frame) (args : Array Value) (s : State) (D : va_G) (ad : Nat → Nat) (cA : Nat → ClassId) (post : Mem → Prop) : State → Prop := MQ below (QcV D ad cA post s.heap.size) args s 0 0 (Afr ad s.heap.size)
theorem Afr_self {ad : Nat → Nat} {sz : Nat} : (∀ i, i < 113 → Afr ad sz (ad i)) ∧ ∀ q, sz ≤ q → Afr ad sz q := ⟨fun i h => Or.inl ⟨i, h, rfl⟩, fun _ h => Or.inr h⟩
theorem CtI.of {l : Launch} {y : MethodName} {w : List Cond} {fr lo : Nat} {D : va_G} {ad : Nat → Nat} {cA : Nat → ClassId} {As : List Value} {M : Mem} {post : Int → Mem → Prop} {cc : ByteArray} {maxL : Nat} {ret : Option FieldType} {w' : List Cond} (had : adok ad) (hy : plainName y.cls = true) (hw : w = Cond.code y cc maxL ret :: w') (hlen : (lg_sl As).length ≤ maxL)
    (body : ∀ (p : Program) (e : Env) (s : State) (m : MethodId) (args : Array Value) (below : List Frame) (meth : Method) (c : Code), Cx p s m args c cc y.cls maxL w D ad cA (Afr ad s.heap.size) → Mt meth ret → VV p l e { frames := fr, cells := 0, slots := 0, locals := lo } s m args below meth c maxL D ad cA (Afr ad s.heap.size) 0 0 (QI below args s D ad cA post) M 0 (lv_args 0 As) []) : CtI l y w fr lo D ad cA As M post := by
  intro sz
  refine Met.ofW (cc := cc) (maxL := maxL) (ret := ret) hy hw ?_
  intro p e s m args below meth c s₁ B hml hv
  obtain ⟨rfl, rfl, hP, hK, hN⟩ := hv
  have h := body p e s m As.toArray below meth c ⟨⟨B.exec, B.bytes, hml, findClass_of_methodNamed B.named, atoms_spec (ws := w) B.pre⟩, hK, hN, had, Afr_self.1, Afr_self.2⟩ ⟨B.returns, B.notSynchronized⟩
  rw [lg_entry_eq]
  exact h s.heap [] _ hP va_S.rf (lv_entry As hlen)
theorem CtV.of {l : Launch} {y : MethodName} {w : List Cond} {fr lo : Nat} {D : va_G} {ad : Nat → Nat} {cA : Nat → ClassId} {As : List Value} {M : Mem} {post : Mem → Prop} {cc : ByteArray} {maxL : Nat} {ret : Option FieldType} {w' : List Cond} (had : adok ad) (hy : plainName y.cls = true) (hw : w = Cond.code y cc maxL ret :: w') (hlen : (lg_sl As).length ≤ maxL)
    (body : ∀ (p : Program) (e : Env) (s : State) (m : MethodId) (args : Array Value) (below : List Frame) (meth : Method) (c : Code), Cx p s m args c cc y.cls maxL w D ad cA (Afr ad s.heap.size) → Mt meth ret → VV p l e { frames := fr, cells := 0, slots := 0, locals := lo } s m args below meth c maxL D ad cA (Afr ad s.heap.size) 0 0 (QV below args s D ad cA post) M 0 (lv_args 0 As) []) : CtV l y w fr lo D ad cA As M post := by
  intro sz
  refine Met.ofW (cc := cc) (maxL := maxL) (ret := ret) hy hw ?_
  intro p e s m args below meth c s₁ B hml hv
  obtain ⟨rfl, rfl, hP, hK, hN⟩ := hv
  have h := body p e s m As.toArray below meth c ⟨⟨B.exec, B.bytes, hml, findClass_of_methodNamed B.named, atoms_spec (ws := w) B.pre⟩, hK, hN, had, Afr_self.1, Afr_self.2⟩ ⟨B.returns, B.notSynchronized⟩
  rw [lg_entry_eq]
  exact h s.heap [] _ hP va_S.rf (lv_entry As hlen)
section VC
variable {p : Program} {l : Launch} {e : Env} {R : Room} {s : State} {m : MethodId} {args : Array Value} {below : List Frame} {meth : Method} {c : Code} {Q : State → Prop} {cells slots : Nat}
variable {cc : ByteArray} {own : String} {nL : Nat} {Ts : List Cond} {D : va_G} {ad : Nat → Nat} {cA : Nat → ClassId} {A : Nat → Prop} {M : Mem} {pc : Nat} {lv lv' : List (Nat × Value)} {st st0 : List Value}
theorem vv_free (X : Cx p s m args c cc own nL Ts D ad cA A) {H : Heap} {locs : List Loc} (hS : va_S A s.heap H locs) : ∀ q, Afr ad H.size q → A q := by
  intro q h
  rcases h with ⟨i, hi, rfl⟩ | h
  · exact X.2.2.2.2.1 i hi
  · exact X.2.2.2.2.2 q (Nat.le_trans hS.1 h)
theorem vv_iret {R : Room} {post : Int → Mem → Prop} {z : Int} (X : Cx p s m args c cc own nL Ts D ad cA (Afr ad s.heap.size)) (hm : Mt meth (some .int)) (h : post z M) (hdg : decode cc pc = .ok (.ireturn, 1)) : VV p l e R s m args below meth c nL D ad cA (Afr ad s.heap.size) 0 0 (QI below args s D ad cA post) M pc lv [.int (zI z)] := fun H locs ls hP hS hl =>
  W.iret X.1.1 X.1.2.1 hm.1 (fun t ht hW => ⟨⟨zI z, M, rfl, ⟨z, rfl, h⟩, by show va_P D vwCl (wld ad cA M) t.heap; rw [ht]; exact hP⟩, hS.F ht⟩) hS.2.2 hdg hm.2
theorem vv_zret {R : Room} {post : Int → Mem → Prop} {z : Int} (X : Cx p s m args c cc own nL Ts D ad cA (Afr ad s.heap.size)) (hm : Mt meth (some .boolean)) (hz : z = 0 ∨ z = 1) (h : post z M) (hdg : decode cc pc = .ok (.ireturn, 1)) : VV p l e R s m args below meth c nL D ad cA (Afr ad s.heap.size) 0 0 (QI below args s D ad cA post) M pc lv [.int (zI z)] := fun H locs ls hP hS hl =>
  W.zret X.1.1 X.1.2.1 hm.1 (by rcases hz with rfl | rfl <;> rfl) (fun t ht hW => ⟨⟨zI z, M, rfl, ⟨z, rfl, h⟩, by show va_P D vwCl (wld ad cA M) t.heap; rw [ht]; exact hP⟩, hS.F ht⟩) hS.2.2 hdg hm.2
theorem vv_vret {R : Room} {post : Mem → Prop} (X : Cx p s m args c cc own nL Ts D ad cA (Afr ad s.heap.size)) (hm : Mt meth none) (h : post M) (hdg : decode cc pc = .ok (.return_, 1)) : VV p l e R s m args below meth c nL D ad cA (Afr ad s.heap.size) 0 0 (QV below args s D ad cA post) M pc lv [] := fun H locs ls hP hS hl =>
  W.vret X.1.1 X.1.2.1 hm.1 (fun t ht hW => ⟨⟨M, rfl, h, by show va_P D vwCl (wld ad cA M) t.heap; rw [ht]; exact hP⟩, hS.F ht⟩) hS.2.2 hdg hm.2
theorem vv_callVI (X : Cx p s m args c cc own nL Ts D ad cA A) {y : MethodName} {w w' : List Cond} {fr lo index maxL : Nat} {bytes : ByteArray} {ret : Option FieldType} {As : List Value} {post : Int → Mem → Prop} {i ci : Nat} {fl : List (Option Nat)} {Cn : String} {T : u_T} {Nf : Nat} (n : Nat) (C : CtI l y w fr lo D ad cA (.ref (ad i) :: As) M post) (hT : GoodIn Ts (wsV own index Cn y w)) (hw : w = Cond.code y bytes maxL ret :: w') (hd : y.cls = Cn ∧ y.cls ≠ "java/lang/invoke/MethodHandle" ∧ y.cls ≠ "java/lang/invoke/VarHandle" ∧ (parseMethodDescriptor y.desc).map (fun d => d.parameters.length) = some n) (hR : fr + 1 ≤ R.frames ∧ 8 + (maxL + 11) + lo ≤ R.locals) (hst : (st.map fun v => v.category).sum ≤ 8) (hcs : cells ≤ R.cells ∧ slots ≤ R.slots) (hn : As.length = n) (hi : i < 113) (hs : sh i = .inl (ci, fl)) (hc : vwCl[ci]? = some (Cn, T, Nf)) (hst0 : st0 = As.reverse ++ .ref (ad i) :: st) (hdg : decode cc pc = .ok (.invokevirtual index, 3)) (kk : ∀ (z : Int) (M1 : Mem), post z M1 → VV p l e R s m args below meth c nL D ad cA A cells slots Q M1 (pc + 3) lv (.int (zI z) :: st)) : VV p l e R s m args below meth c nL D ad cA A cells slots Q M pc lv st0 := fun H locs ls hP hS hl =>
  va_calli (va_runV (As := As) (rest := st) X.1 (C H.size) (cwV n X.1.2.2.2.2 hT hw rfl rfl hd hR) ⟨PcB_blind, va_recv X.2.1 hP hc (wld_o hi hs), fun U hU hW => ⟨rfl, by rw [hU], by rw [hU]; exact hP, va_K.moved hW.alike X.2.1, vNs_warm hW X.2.2.1⟩⟩ rfl hn hl.1 hst0 (lv_room hst) hdg ⟨hcs.1, hcs.2⟩) hS (fun q _ h => vv_free X hS q h) (vv_free X hS) (fun r u t H1 locs1 ht hvm hw hB hz hk hS1 => by
    obtain ⟨z, rfl, hp⟩ := hw
    rw [ht] at hB
    exact kk z u hp H1 locs1 ls hB hS1 hl)
theorem vv_callSI (X : Cx p s m args c cc own nL Ts D ad cA A) {y : MethodName} {w w' : List Cond} {fr lo index maxL : Nat} {bytes : ByteArray} {ret : Option FieldType} {As : List Value} {post : Int → Mem → Prop} (n : Nat) (C : CtI l y w fr lo D ad cA As M post) (hT : GoodIn Ts (va_wsS own index y w)) (hw : w = Cond.code y bytes maxL ret :: w') (hd : y.cls ≠ "java/lang/invoke/MethodHandle" ∧ y.cls ≠ "java/lang/invoke/VarHandle" ∧ (parseMethodDescriptor y.desc).map (fun d => d.parameters.length) = some n) (hR : fr + 1 ≤ R.frames ∧ 8 + (maxL + 11) + lo ≤ R.locals) (hst : (st.map fun v => v.category).sum ≤ 8) (hcs : cells ≤ R.cells ∧ slots ≤ R.slots) (hn : As.length = n) (hst0 : st0 = As.reverse ++ st) (hdg : decode cc pc = .ok (.invokestatic index, 3)) (kk : ∀ (z : Int) (M1 : Mem), post z M1 → VV p l e R s m args below meth c nL D ad cA A cells slots Q M1 (pc + 3) lv (.int (zI z) :: st)) : VV p l e R s m args below meth c nL D ad cA A cells slots Q M pc lv st0 := fun H locs ls hP hS hl =>
  va_calli (va_runS (As := As) (rest := st) X.1 (C H.size) (va_cwS n X.1.2.2.2.2 hT hw rfl rfl hd hR) ⟨PcB_blind, fun U hU hW => ⟨rfl, by rw [hU], by rw [hU]; exact hP, va_K.moved hW.alike X.2.1, vNs_warm hW X.2.2.1⟩⟩ rfl hn hl.1 hst0 (lv_room hst) hdg ⟨hcs.1, hcs.2⟩) hS (fun q _ h => vv_free X hS q h) (vv_free X hS) (fun r u t H1 locs1 ht hvm hw hB hz hk hS1 => by
    obtain ⟨z, rfl, hp⟩ := hw
    rw [ht] at hB
    exact kk z u hp H1 locs1 ls hB hS1 hl)
theorem vv_callNI (X : Cx p s m args c cc own nL Ts D ad cA A) {y : MethodName} {w w' : List Cond} {fr lo index maxL : Nat} {bytes : ByteArray} {ret : Option FieldType} {As : List Value} {post : Int → Mem → Prop} {host : String} (n : Nat) (C : CtI l y w fr lo D ad cA As M post) (hG : GoodIn Ts w) (hw : w = Cond.code y bytes maxL ret :: w') (hl0 : va_Nw (.methodLinkNest own index y host) s) (hini : Cond.initialized y.cls ∈ Ts) (hstat : Cond.static y ∈ Ts) (hd : y.cls ≠ "java/lang/invoke/MethodHandle" ∧ y.cls ≠ "java/lang/invoke/VarHandle" ∧ (parseMethodDescriptor y.desc).map (fun d => d.parameters.length) = some n) (hR : fr + 1 ≤ R.frames ∧ 8 + (maxL + 11) + lo ≤ R.locals) (hst : (st.map fun v => v.category).sum ≤ 8) (hcs : cells ≤ R.cells ∧ slots ≤ R.slots) (hn : As.length = n) (hst0 : st0 = As.reverse ++ st) (hdg : decode cc pc = .ok (.invokestatic index, 3)) (kk : ∀ (z : Int) (M1 : Mem), post z M1 → VV p l e R s m args below meth c nL D ad cA A cells slots Q M1 (pc + 3) lv (.int (zI z) :: st)) : VV p l e R s m args below meth c nL D ad cA A cells slots Q M pc lv st0 := fun H locs ls hP hS hl =>
  va_calli (va_runSN (As := As) (rest := st) X.1 (C H.size) ⟨va_cnB n X.1.2.2.2.2 hG hw rfl rfl hl0 (X.1.2.2.2.2 _ hini) hd hR, X.1.2.2.2.2 _ hstat, trivial⟩ ⟨PcB_blind, fun U hU hW => ⟨rfl, by rw [hU], by rw [hU]; exact hP, va_K.moved hW.alike X.2.1, vNs_warm hW X.2.2.1⟩⟩ rfl hn hl.1 hst0 (lv_room hst) hdg ⟨hcs.1, hcs.2⟩) hS (fun q _ h => vv_free X hS q h) (vv_free X hS) (fun r u t H1 locs1 ht hvm hw hB hz hk hS1 => by
    obtain ⟨z, rfl, hp⟩ := hw
    rw [ht] at hB
    exact kk z u hp H1 locs1 ls hB hS1 hl)
theorem vv_callVV (X : Cx p s m args c cc own nL Ts D ad cA A) {y : MethodName} {w w' : List Cond} {fr lo index maxL : Nat} {bytes : ByteArray} {ret : Option FieldType} {As : List Value} {post : Mem → Prop} {i ci : Nat} {fl : List (Option Nat)} {Cn : String} {T : u_T} {Nf : Nat} (n : Nat) (C : CtV l y w fr lo D ad cA (.ref (ad i) :: As) M post) (hT : GoodIn Ts (wsV own index Cn y w)) (hw : w = Cond.code y bytes maxL ret :: w') (hd : y.cls = Cn ∧ y.cls ≠ "java/lang/invoke/MethodHandle" ∧ y.cls ≠ "java/lang/invoke/VarHandle" ∧ (parseMethodDescriptor y.desc).map (fun d => d.parameters.length) = some n) (hR : fr + 1 ≤ R.frames ∧ 8 + (maxL + 11) + lo ≤ R.locals) (hst : (st.map fun v => v.category).sum ≤ 8) (hcs : cells ≤ R.cells ∧ slots ≤ R.slots) (hn : As.length = n) (hi : i < 113) (hs : sh i = .inl (ci, fl)) (hc : vwCl[ci]? = some (Cn, T, Nf)) (hst0 : st0 = As.reverse ++ .ref (ad i) :: st) (hdg : decode cc pc = .ok (.invokevirtual index, 3)) (kk : ∀ (M1 : Mem), post M1 → VV p l e R s m args below meth c nL D ad cA A cells slots Q M1 (pc + 3) lv st) : VV p l e R s m args below meth c nL D ad cA A cells slots Q M pc lv st0 := fun H locs ls hP hS hl =>
  va_callv (va_runV (As := As) (rest := st) X.1 (C H.size) (cwV n X.1.2.2.2.2 hT hw rfl rfl hd hR) ⟨PcB_blind, va_recv X.2.1 hP hc (wld_o hi hs), fun U hU hW => ⟨rfl, by rw [hU], by rw [hU]; exact hP, va_K.moved hW.alike X.2.1, vNs_warm hW X.2.2.1⟩⟩ rfl hn hl.1 hst0 (lv_room hst) hdg ⟨hcs.1, hcs.2⟩) hS (fun q _ h => vv_free X hS q h) (vv_free X hS) (fun u t H1 locs1 ht hvm hw hB hz hk hS1 => by
    rw [ht] at hB
    exact kk u hw H1 locs1 ls hB hS1 hl)
theorem vv_callSV (X : Cx p s m args c cc own nL Ts D ad cA A) {y : MethodName} {w w' : List Cond} {fr lo index maxL : Nat} {bytes : ByteArray} {ret : Option FieldType} {As : List Value} {post : Mem → Prop} (n : Nat) (C : CtV l y w fr lo D ad cA As M post) (hT : GoodIn Ts (va_wsS own index y w)) (hw : w = Cond.code y bytes maxL ret :: w') (hd : y.cls ≠ "java/lang/invoke/MethodHandle" ∧ y.cls ≠ "java/lang/invoke/VarHandle" ∧ (parseMethodDescriptor y.desc).map (fun d => d.parameters.length) = some n) (hR : fr + 1 ≤ R.frames ∧ 8 + (maxL + 11) + lo ≤ R.locals) (hst : (st.map fun v => v.category).sum ≤ 8) (hcs : cells ≤ R.cells ∧ slots ≤ R.slots) (hn : As.length = n) (hst0 : st0 = As.reverse ++ st) (hdg : decode cc pc = .ok (.invokestatic index, 3)) (kk : ∀ (M1 : Mem), post M1 → VV p l e R s m args below meth c nL D ad cA A cells slots Q M1 (pc + 3) lv st) : VV p l e R s m args below meth c nL D ad cA A cells slots Q M pc lv st0 := fun H locs ls hP hS hl =>
  va_callv (va_runS (As := As) (rest := st) X.1 (C H.size) (va_cwS n X.1.2.2.2.2 hT hw rfl rfl hd hR) ⟨PcB_blind, fun U hU hW => ⟨rfl, by rw [hU], by rw [hU]; exact hP, va_K.moved hW.alike X.2.1, vNs_warm hW X.2.2.1⟩⟩ rfl hn hl.1 hst0 (lv_room hst) hdg ⟨hcs.1, hcs.2⟩) hS (fun q _ h => vv_free X hS q h) (vv_free X hS) (fun u t H1 locs1 ht hvm hw hB hz hk hS1 => by
    rw [ht] at hB
    exact kk u hw H1 locs1 ls hB hS1 hl)
theorem vv_callNV (X : Cx p s m args c cc own nL Ts D ad cA A) {y : MethodName} {w w' : List Cond} {fr lo index maxL : Nat} {bytes : ByteArray} {ret : Option FieldType} {As : List Value} {post : Mem → Prop} {host : String} (n : Nat) (C : CtV l y w fr lo D ad cA As M post) (hG : GoodIn Ts w) (hw : w = Cond.code y bytes maxL ret :: w') (hl0 : va_Nw (.methodLinkNest own index y host) s) (hini : Cond.initialized y.cls ∈ Ts) (hstat : Cond.static y ∈ Ts) (hd : y.cls ≠ "java/lang/invoke/MethodHandle" ∧ y.cls ≠ "java/lang/invoke/VarHandle" ∧ (parseMethodDescriptor y.desc).map (fun d => d.parameters.length) = some n) (hR : fr + 1 ≤ R.frames ∧ 8 + (maxL + 11) + lo ≤ R.locals) (hst : (st.map fun v => v.category).sum ≤ 8) (hcs : cells ≤ R.cells ∧ slots ≤ R.slots) (hn : As.length = n) (hst0 : st0 = As.reverse ++ st) (hdg : decode cc pc = .ok (.invokestatic index, 3)) (kk : ∀ (M1 : Mem), post M1 → VV p l e R s m args below meth c nL D ad cA A cells slots Q M1 (pc + 3) lv st) : VV p l e R s m args below meth c nL D ad cA A cells slots Q M pc lv st0 := fun H locs ls hP hS hl =>
  va_callv (va_runSN (As := As) (rest := st) X.1 (C H.size) ⟨va_cnB n X.1.2.2.2.2 hG hw rfl rfl hl0 (X.1.2.2.2.2 _ hini) hd hR, X.1.2.2.2.2 _ hstat, trivial⟩ ⟨PcB_blind, fun U hU hW => ⟨rfl, by rw [hU], by rw [hU]; exact hP, va_K.moved hW.alike X.2.1, vNs_warm hW X.2.2.1⟩⟩ rfl hn hl.1 hst0 (lv_room hst) hdg ⟨hcs.1, hcs.2⟩) hS (fun q _ h => vv_free X hS q h) (vv_free X hS) (fun u t H1 locs1 ht hvm hw hB hz hk hS1 => by
    rw [ht] at hB
    exact kk u hw H1 locs1 ls hB hS1 hl)
end VC
end
section
theorem dX0_init_0 : decode cX0_init 0 = .ok (.aload_n 0, 1) := by decide +kernel
theorem dX0_init_1 : decode cX0_init 1 = .ok (.invokespecial 3, 3) := by decide +kernel
theorem dX0_init_4 : decode cX0_init 4 = .ok (.aload_n 0, 1) := by decide +kernel
theorem dX0_init_5 : decode cX0_init 5 = .ok (.bipush 101, 2) := by decide +kernel
theorem dX0_init_7 : decode cX0_init 7 = .ok (.newarray .int, 2) := by decide +kernel
theorem dX0_init_9 : decode cX0_init 9 = .ok (.putfield 9, 3) := by decide +kernel
theorem dX0_init_12 : decode cX0_init 12 = .ok (.aload_n 0, 1) := by decide +kernel
theorem dX0_init_13 : decode cX0_init 13 = .ok (.bipush 101, 2) := by decide +kernel
theorem dX0_init_15 : decode cX0_init 15 = .ok (.newarray .int, 2) := by decide +kernel
theorem dX0_init_17 : decode cX0_init 17 = .ok (.putfield 15, 3) := by decide +kernel
theorem dX0_init_20 : decode cX0_init 20 = .ok (.aload_n 0, 1) := by decide +kernel
theorem dX0_init_21 : decode cX0_init 21 = .ok (.iconst 0, 1) := by decide +kernel
theorem dX0_init_22 : decode cX0_init 22 = .ok (.putfield 18, 3) := by decide +kernel
theorem dX0_init_25 : decode cX0_init 25 = .ok (.aload_n 0, 1) := by decide +kernel
theorem dX0_init_26 : decode cX0_init 26 = .ok (.iconst 0, 1) := by decide +kernel
theorem dX0_init_27 : decode cX0_init 27 = .ok (.putfield 22, 3) := by decide +kernel
theorem dX0_init_30 : decode cX0_init 30 = .ok (.aload_n 0, 1) := by decide +kernel
theorem dX0_init_31 : decode cX0_init 31 = .ok (.iconst 0, 1) := by decide +kernel
theorem dX0_init_32 : decode cX0_init 32 = .ok (.putfield 25, 3) := by decide +kernel
theorem dX0_init_35 : decode cX0_init 35 = .ok (.aload_n 0, 1) := by decide +kernel
theorem dX0_init_36 : decode cX0_init 36 = .ok (.iconst 1, 1) := by decide +kernel
theorem dX0_init_37 : decode cX0_init 37 = .ok (.putfield 28, 3) := by decide +kernel
theorem dX0_init_40 : decode cX0_init 40 = .ok (.aload_n 0, 1) := by decide +kernel
theorem dX0_init_41 : decode cX0_init 41 = .ok (.iconst 0, 1) := by decide +kernel
theorem dX0_init_42 : decode cX0_init 42 = .ok (.putfield 31, 3) := by decide +kernel
theorem dX0_init_45 : decode cX0_init 45 = .ok (.return_, 1) := by decide +kernel
theorem dX0_draw_0 : decode cX0_draw 0 = .ok (.aload_n 0, 1) := by decide +kernel
theorem dX0_draw_1 : decode cX0_draw 1 = .ok (.iconst 0, 1) := by decide +kernel
theorem dX0_draw_2 : decode cX0_draw 2 = .ok (.putfield 18, 3) := by decide +kernel
theorem dX0_draw_5 : decode cX0_draw 5 = .ok (.iconst 0, 1) := by decide +kernel
theorem dX0_draw_6 : decode cX0_draw 6 = .ok (.istore_n 2, 1) := by decide +kernel
theorem dX0_draw_7 : decode cX0_draw 7 = .ok (.iload_n 2, 1) := by decide +kernel
theorem dX0_draw_8 : decode cX0_draw 8 = .ok (.bipush 100, 2) := by decide +kernel
theorem dX0_draw_10 : decode cX0_draw 10 = .ok (.if_icmp .gt 91, 3) := by decide +kernel
theorem dX0_draw_13 : decode cX0_draw 13 = .ok (.aload_n 0, 1) := by decide +kernel
theorem dX0_draw_14 : decode cX0_draw 14 = .ok (.getfield 9, 3) := by decide +kernel
theorem dX0_draw_17 : decode cX0_draw 17 = .ok (.iload_n 2, 1) := by decide +kernel
theorem dX0_draw_18 : decode cX0_draw 18 = .ok (.aload_n 1, 1) := by decide +kernel
theorem dX0_draw_19 : decode cX0_draw 19 = .ok (.iload_n 2, 1) := by decide +kernel
theorem dX0_draw_20 : decode cX0_draw 20 = .ok (.invokevirtual 34, 3) := by decide +kernel
theorem dX0_draw_23 : decode cX0_draw 23 = .ok (.iastore, 1) := by decide +kernel
theorem dX0_draw_24 : decode cX0_draw 24 = .ok (.aload_n 0, 1) := by decide +kernel
theorem dX0_draw_25 : decode cX0_draw 25 = .ok (.getfield 18, 3) := by decide +kernel
theorem dX0_draw_28 : decode cX0_draw 28 = .ok (.iconst 1, 1) := by decide +kernel
theorem dX0_draw_29 : decode cX0_draw 29 = .ok (.if_icmp .le 46, 3) := by decide +kernel
theorem dX0_draw_32 : decode cX0_draw 32 = .ok (.aload_n 0, 1) := by decide +kernel
theorem dX0_draw_33 : decode cX0_draw 33 = .ok (.aload_n 0, 1) := by decide +kernel
theorem dX0_draw_34 : decode cX0_draw 34 = .ok (.getfield 15, 3) := by decide +kernel
theorem dX0_draw_37 : decode cX0_draw 37 = .ok (.aload_n 0, 1) := by decide +kernel
theorem dX0_draw_38 : decode cX0_draw 38 = .ok (.getfield 18, 3) := by decide +kernel
theorem dX0_draw_41 : decode cX0_draw 41 = .ok (.iconst 2, 1) := by decide +kernel
theorem dX0_draw_42 : decode cX0_draw 42 = .ok (.isub, 1) := by decide +kernel
theorem dX0_draw_43 : decode cX0_draw 43 = .ok (.iaload, 1) := by decide +kernel
theorem dX0_draw_44 : decode cX0_draw 44 = .ok (.aload_n 0, 1) := by decide +kernel
theorem dX0_draw_45 : decode cX0_draw 45 = .ok (.getfield 15, 3) := by decide +kernel
theorem dX0_draw_48 : decode cX0_draw 48 = .ok (.aload_n 0, 1) := by decide +kernel
theorem dX0_draw_49 : decode cX0_draw 49 = .ok (.getfield 18, 3) := by decide +kernel
theorem dX0_draw_52 : decode cX0_draw 52 = .ok (.iconst 1, 1) := by decide +kernel
theorem dX0_draw_53 : decode cX0_draw 53 = .ok (.isub, 1) := by decide +kernel
theorem dX0_draw_54 : decode cX0_draw 54 = .ok (.iaload, 1) := by decide +kernel
theorem dX0_draw_55 : decode cX0_draw 55 = .ok (.iload_n 2, 1) := by decide +kernel
theorem dX0_draw_56 : decode cX0_draw 56 = .ok (.invokevirtual 40, 3) := by decide +kernel
theorem dX0_draw_59 : decode cX0_draw 59 = .ok (.ifCond .gt 16, 3) := by decide +kernel
theorem dX0_draw_62 : decode cX0_draw 62 = .ok (.aload_n 0, 1) := by decide +kernel
theorem dX0_draw_63 : decode cX0_draw 63 = .ok (.dup, 1) := by decide +kernel
theorem dX0_draw_64 : decode cX0_draw 64 = .ok (.getfield 18, 3) := by decide +kernel
theorem dX0_draw_67 : decode cX0_draw 67 = .ok (.iconst 1, 1) := by decide +kernel
theorem dX0_draw_68 : decode cX0_draw 68 = .ok (.isub, 1) := by decide +kernel
theorem dX0_draw_69 : decode cX0_draw 69 = .ok (.putfield 18, 3) := by decide +kernel
theorem dX0_draw_72 : decode cX0_draw 72 = .ok (.goto (-48), 3) := by decide +kernel
theorem dX0_draw_75 : decode cX0_draw 75 = .ok (.aload_n 0, 1) := by decide +kernel
theorem dX0_draw_76 : decode cX0_draw 76 = .ok (.getfield 15, 3) := by decide +kernel
theorem dX0_draw_79 : decode cX0_draw 79 = .ok (.aload_n 0, 1) := by decide +kernel
theorem dX0_draw_80 : decode cX0_draw 80 = .ok (.getfield 18, 3) := by decide +kernel
theorem dX0_draw_83 : decode cX0_draw 83 = .ok (.iload_n 2, 1) := by decide +kernel
theorem dX0_draw_84 : decode cX0_draw 84 = .ok (.iastore, 1) := by decide +kernel
theorem dX0_draw_85 : decode cX0_draw 85 = .ok (.aload_n 0, 1) := by decide +kernel
theorem dX0_draw_86 : decode cX0_draw 86 = .ok (.dup, 1) := by decide +kernel
theorem dX0_draw_87 : decode cX0_draw 87 = .ok (.getfield 18, 3) := by decide +kernel
theorem dX0_draw_90 : decode cX0_draw 90 = .ok (.iconst 1, 1) := by decide +kernel
theorem dX0_draw_91 : decode cX0_draw 91 = .ok (.iadd, 1) := by decide +kernel
theorem dX0_draw_92 : decode cX0_draw 92 = .ok (.putfield 18, 3) := by decide +kernel
theorem dX0_draw_95 : decode cX0_draw 95 = .ok (.iinc 2 1, 3) := by decide +kernel
theorem dX0_draw_98 : decode cX0_draw 98 = .ok (.goto (-91), 3) := by decide +kernel
theorem dX0_draw_101 : decode cX0_draw 101 = .ok (.return_, 1) := by decide +kernel
theorem dX0_heightOver_0 : decode cX0_heightOver 0 = .ok (.aload_n 0, 1) := by decide +kernel
theorem dX0_heightOver_1 : decode cX0_heightOver 1 = .ok (.getfield 9, 3) := by decide +kernel
theorem dX0_heightOver_4 : decode cX0_heightOver 4 = .ok (.iload_n 2, 1) := by decide +kernel
theorem dX0_heightOver_5 : decode cX0_heightOver 5 = .ok (.iaload, 1) := by decide +kernel
theorem dX0_heightOver_6 : decode cX0_heightOver 6 = .ok (.aload_n 0, 1) := by decide +kernel
theorem dX0_heightOver_7 : decode cX0_heightOver 7 = .ok (.getfield 9, 3) := by decide +kernel
theorem dX0_heightOver_10 : decode cX0_heightOver 10 = .ok (.iload_n 1, 1) := by decide +kernel
theorem dX0_heightOver_11 : decode cX0_heightOver 11 = .ok (.iaload, 1) := by decide +kernel
theorem dX0_heightOver_12 : decode cX0_heightOver 12 = .ok (.isub, 1) := by decide +kernel
theorem dX0_heightOver_13 : decode cX0_heightOver 13 = .ok (.iload_n 3, 1) := by decide +kernel
theorem dX0_heightOver_14 : decode cX0_heightOver 14 = .ok (.iload_n 1, 1) := by decide +kernel
theorem dX0_heightOver_15 : decode cX0_heightOver 15 = .ok (.isub, 1) := by decide +kernel
theorem dX0_heightOver_16 : decode cX0_heightOver 16 = .ok (.imul, 1) := by decide +kernel
theorem dX0_heightOver_17 : decode cX0_heightOver 17 = .ok (.aload_n 0, 1) := by decide +kernel
theorem dX0_heightOver_18 : decode cX0_heightOver 18 = .ok (.getfield 9, 3) := by decide +kernel
theorem dX0_heightOver_21 : decode cX0_heightOver 21 = .ok (.iload_n 3, 1) := by decide +kernel
theorem dX0_heightOver_22 : decode cX0_heightOver 22 = .ok (.iaload, 1) := by decide +kernel
theorem dX0_heightOver_23 : decode cX0_heightOver 23 = .ok (.aload_n 0, 1) := by decide +kernel
theorem dX0_heightOver_24 : decode cX0_heightOver 24 = .ok (.getfield 9, 3) := by decide +kernel
theorem dX0_heightOver_27 : decode cX0_heightOver 27 = .ok (.iload_n 1, 1) := by decide +kernel
theorem dX0_heightOver_28 : decode cX0_heightOver 28 = .ok (.iaload, 1) := by decide +kernel
theorem dX0_heightOver_29 : decode cX0_heightOver 29 = .ok (.isub, 1) := by decide +kernel
theorem dX0_heightOver_30 : decode cX0_heightOver 30 = .ok (.iload_n 2, 1) := by decide +kernel
theorem dX0_heightOver_31 : decode cX0_heightOver 31 = .ok (.iload_n 1, 1) := by decide +kernel
theorem dX0_heightOver_32 : decode cX0_heightOver 32 = .ok (.isub, 1) := by decide +kernel
theorem dX0_heightOver_33 : decode cX0_heightOver 33 = .ok (.imul, 1) := by decide +kernel
theorem dX0_heightOver_34 : decode cX0_heightOver 34 = .ok (.isub, 1) := by decide +kernel
theorem dX0_heightOver_35 : decode cX0_heightOver 35 = .ok (.ireturn, 1) := by decide +kernel
theorem dX0_aim_0 : decode cX0_aim 0 = .ok (.iconst 0, 1) := by decide +kernel
theorem dX0_aim_1 : decode cX0_aim 1 = .ok (.istore_n 2, 1) := by decide +kernel
theorem dX0_aim_2 : decode cX0_aim 2 = .ok (.iload_n 2, 1) := by decide +kernel
theorem dX0_aim_3 : decode cX0_aim 3 = .ok (.aload_n 0, 1) := by decide +kernel
theorem dX0_aim_4 : decode cX0_aim 4 = .ok (.getfield 18, 3) := by decide +kernel
theorem dX0_aim_7 : decode cX0_aim 7 = .ok (.iconst 1, 1) := by decide +kernel
theorem dX0_aim_8 : decode cX0_aim 8 = .ok (.isub, 1) := by decide +kernel
theorem dX0_aim_9 : decode cX0_aim 9 = .ok (.if_icmp .ge 21, 3) := by decide +kernel
theorem dX0_aim_12 : decode cX0_aim 12 = .ok (.aload_n 0, 1) := by decide +kernel
theorem dX0_aim_13 : decode cX0_aim 13 = .ok (.getfield 15, 3) := by decide +kernel
theorem dX0_aim_16 : decode cX0_aim 16 = .ok (.iload_n 2, 1) := by decide +kernel
theorem dX0_aim_17 : decode cX0_aim 17 = .ok (.iconst 1, 1) := by decide +kernel
theorem dX0_aim_18 : decode cX0_aim 18 = .ok (.iadd, 1) := by decide +kernel
theorem dX0_aim_19 : decode cX0_aim 19 = .ok (.iaload, 1) := by decide +kernel
theorem dX0_aim_20 : decode cX0_aim 20 = .ok (.iload_n 1, 1) := by decide +kernel
theorem dX0_aim_21 : decode cX0_aim 21 = .ok (.if_icmp .gt 9, 3) := by decide +kernel
theorem dX0_aim_24 : decode cX0_aim 24 = .ok (.iinc 2 1, 3) := by decide +kernel
theorem dX0_aim_27 : decode cX0_aim 27 = .ok (.goto (-25), 3) := by decide +kernel
theorem dX0_aim_30 : decode cX0_aim 30 = .ok (.aload_n 0, 1) := by decide +kernel
theorem dX0_aim_31 : decode cX0_aim 31 = .ok (.aload_n 0, 1) := by decide +kernel
theorem dX0_aim_32 : decode cX0_aim 32 = .ok (.getfield 15, 3) := by decide +kernel
theorem dX0_aim_35 : decode cX0_aim 35 = .ok (.iload_n 2, 1) := by decide +kernel
theorem dX0_aim_36 : decode cX0_aim 36 = .ok (.iaload, 1) := by decide +kernel
theorem dX0_aim_37 : decode cX0_aim 37 = .ok (.putfield 22, 3) := by decide +kernel
theorem dX0_aim_40 : decode cX0_aim 40 = .ok (.aload_n 0, 1) := by decide +kernel
theorem dX0_aim_41 : decode cX0_aim 41 = .ok (.getfield 22, 3) := by decide +kernel
theorem dX0_aim_44 : decode cX0_aim 44 = .ok (.iload_n 1, 1) := by decide +kernel
theorem dX0_aim_45 : decode cX0_aim 45 = .ok (.if_icmp .eq 13, 3) := by decide +kernel
theorem dX0_aim_48 : decode cX0_aim 48 = .ok (.iload_n 2, 1) := by decide +kernel
theorem dX0_aim_49 : decode cX0_aim 49 = .ok (.aload_n 0, 1) := by decide +kernel
theorem dX0_aim_50 : decode cX0_aim 50 = .ok (.getfield 18, 3) := by decide +kernel
theorem dX0_aim_53 : decode cX0_aim 53 = .ok (.iconst 1, 1) := by decide +kernel
theorem dX0_aim_54 : decode cX0_aim 54 = .ok (.isub, 1) := by decide +kernel
theorem dX0_aim_55 : decode cX0_aim 55 = .ok (.if_icmp .lt 19, 3) := by decide +kernel
theorem dX0_aim_58 : decode cX0_aim 58 = .ok (.aload_n 0, 1) := by decide +kernel
theorem dX0_aim_59 : decode cX0_aim 59 = .ok (.iload_n 1, 1) := by decide +kernel
theorem dX0_aim_60 : decode cX0_aim 60 = .ok (.putfield 25, 3) := by decide +kernel
theorem dX0_aim_63 : decode cX0_aim 63 = .ok (.aload_n 0, 1) := by decide +kernel
theorem dX0_aim_64 : decode cX0_aim 64 = .ok (.iconst 1, 1) := by decide +kernel
theorem dX0_aim_65 : decode cX0_aim 65 = .ok (.putfield 28, 3) := by decide +kernel
theorem dX0_aim_68 : decode cX0_aim 68 = .ok (.aload_n 0, 1) := by decide +kernel
theorem dX0_aim_69 : decode cX0_aim 69 = .ok (.iconst 0, 1) := by decide +kernel
theorem dX0_aim_70 : decode cX0_aim 70 = .ok (.putfield 31, 3) := by decide +kernel
theorem dX0_aim_73 : decode cX0_aim 73 = .ok (.return_, 1) := by decide +kernel
theorem dX0_aim_74 : decode cX0_aim 74 = .ok (.aload_n 0, 1) := by decide +kernel
theorem dX0_aim_75 : decode cX0_aim 75 = .ok (.getfield 15, 3) := by decide +kernel
theorem dX0_aim_78 : decode cX0_aim 78 = .ok (.iload_n 2, 1) := by decide +kernel
theorem dX0_aim_79 : decode cX0_aim 79 = .ok (.iconst 1, 1) := by decide +kernel
theorem dX0_aim_80 : decode cX0_aim 80 = .ok (.iadd, 1) := by decide +kernel
theorem dX0_aim_81 : decode cX0_aim 81 = .ok (.iaload, 1) := by decide +kernel
theorem dX0_aim_82 : decode cX0_aim 82 = .ok (.istore_n 3, 1) := by decide +kernel
theorem dX0_aim_83 : decode cX0_aim 83 = .ok (.aload_n 0, 1) := by decide +kernel
theorem dX0_aim_84 : decode cX0_aim 84 = .ok (.iload_n 1, 1) := by decide +kernel
theorem dX0_aim_85 : decode cX0_aim 85 = .ok (.iconst 1, 1) := by decide +kernel
theorem dX0_aim_86 : decode cX0_aim 86 = .ok (.iadd, 1) := by decide +kernel
theorem dX0_aim_87 : decode cX0_aim 87 = .ok (.putfield 25, 3) := by decide +kernel
theorem dX0_aim_90 : decode cX0_aim 90 = .ok (.aload_n 0, 1) := by decide +kernel
theorem dX0_aim_91 : decode cX0_aim 91 = .ok (.getfield 25, 3) := by decide +kernel
theorem dX0_aim_94 : decode cX0_aim 94 = .ok (.iload_n 3, 1) := by decide +kernel
theorem dX0_aim_95 : decode cX0_aim 95 = .ok (.if_icmp .ge 32, 3) := by decide +kernel
theorem dX0_aim_98 : decode cX0_aim 98 = .ok (.aload_n 0, 1) := by decide +kernel
theorem dX0_aim_99 : decode cX0_aim 99 = .ok (.aload_n 0, 1) := by decide +kernel
theorem dX0_aim_100 : decode cX0_aim 100 = .ok (.getfield 22, 3) := by decide +kernel
theorem dX0_aim_103 : decode cX0_aim 103 = .ok (.aload_n 0, 1) := by decide +kernel
theorem dX0_aim_104 : decode cX0_aim 104 = .ok (.getfield 25, 3) := by decide +kernel
theorem dX0_aim_107 : decode cX0_aim 107 = .ok (.iload_n 3, 1) := by decide +kernel
theorem dX0_aim_108 : decode cX0_aim 108 = .ok (.invokevirtual 40, 3) := by decide +kernel
theorem dX0_aim_111 : decode cX0_aim 111 = .ok (.ifCond .eq 16, 3) := by decide +kernel
theorem dX0_aim_114 : decode cX0_aim 114 = .ok (.aload_n 0, 1) := by decide +kernel
theorem dX0_aim_115 : decode cX0_aim 115 = .ok (.dup, 1) := by decide +kernel
theorem dX0_aim_116 : decode cX0_aim 116 = .ok (.getfield 25, 3) := by decide +kernel
theorem dX0_aim_119 : decode cX0_aim 119 = .ok (.iconst 1, 1) := by decide +kernel
theorem dX0_aim_120 : decode cX0_aim 120 = .ok (.iadd, 1) := by decide +kernel
theorem dX0_aim_121 : decode cX0_aim 121 = .ok (.putfield 25, 3) := by decide +kernel
theorem dX0_aim_124 : decode cX0_aim 124 = .ok (.goto (-34), 3) := by decide +kernel
theorem dX0_aim_127 : decode cX0_aim 127 = .ok (.iconst 1, 1) := by decide +kernel
theorem dX0_aim_128 : decode cX0_aim 128 = .ok (.aload_n 0, 1) := by decide +kernel
theorem dX0_aim_129 : decode cX0_aim 129 = .ok (.getfield 25, 3) := by decide +kernel
theorem dX0_aim_132 : decode cX0_aim 132 = .ok (.iload_n 1, 1) := by decide +kernel
theorem dX0_aim_133 : decode cX0_aim 133 = .ok (.isub, 1) := by decide +kernel
theorem dX0_aim_134 : decode cX0_aim 134 = .ok (.iload_n 1, 1) := by decide +kernel
theorem dX0_aim_135 : decode cX0_aim 135 = .ok (.aload_n 0, 1) := by decide +kernel
theorem dX0_aim_136 : decode cX0_aim 136 = .ok (.getfield 22, 3) := by decide +kernel
theorem dX0_aim_139 : decode cX0_aim 139 = .ok (.isub, 1) := by decide +kernel
theorem dX0_aim_140 : decode cX0_aim 140 = .ok (.invokestatic 44, 3) := by decide +kernel
theorem dX0_aim_143 : decode cX0_aim 143 = .ok (.invokestatic 48, 3) := by decide +kernel
theorem dX0_aim_146 : decode cX0_aim 146 = .ok (.istore 4, 2) := by decide +kernel
theorem dX0_aim_148 : decode cX0_aim 148 = .ok (.aload_n 0, 1) := by decide +kernel
theorem dX0_aim_149 : decode cX0_aim 149 = .ok (.aload_n 0, 1) := by decide +kernel
theorem dX0_aim_150 : decode cX0_aim 150 = .ok (.getfield 25, 3) := by decide +kernel
theorem dX0_aim_153 : decode cX0_aim 153 = .ok (.iload_n 1, 1) := by decide +kernel
theorem dX0_aim_154 : decode cX0_aim 154 = .ok (.isub, 1) := by decide +kernel
theorem dX0_aim_155 : decode cX0_aim 155 = .ok (.iload 4, 2) := by decide +kernel
theorem dX0_aim_157 : decode cX0_aim 157 = .ok (.idiv, 1) := by decide +kernel
theorem dX0_aim_158 : decode cX0_aim 158 = .ok (.putfield 28, 3) := by decide +kernel
theorem dX0_aim_161 : decode cX0_aim 161 = .ok (.aload_n 0, 1) := by decide +kernel
theorem dX0_aim_162 : decode cX0_aim 162 = .ok (.iload_n 1, 1) := by decide +kernel
theorem dX0_aim_163 : decode cX0_aim 163 = .ok (.aload_n 0, 1) := by decide +kernel
theorem dX0_aim_164 : decode cX0_aim 164 = .ok (.getfield 22, 3) := by decide +kernel
theorem dX0_aim_167 : decode cX0_aim 167 = .ok (.isub, 1) := by decide +kernel
theorem dX0_aim_168 : decode cX0_aim 168 = .ok (.iload 4, 2) := by decide +kernel
theorem dX0_aim_170 : decode cX0_aim 170 = .ok (.idiv, 1) := by decide +kernel
theorem dX0_aim_171 : decode cX0_aim 171 = .ok (.putfield 31, 3) := by decide +kernel
theorem dX0_aim_174 : decode cX0_aim 174 = .ok (.return_, 1) := by decide +kernel
theorem dX0_valueSum_0 : decode cX0_valueSum 0 = .ok (.aload_n 0, 1) := by decide +kernel
theorem dX0_valueSum_1 : decode cX0_valueSum 1 = .ok (.getfield 28, 3) := by decide +kernel
theorem dX0_valueSum_4 : decode cX0_valueSum 4 = .ok (.aload_n 0, 1) := by decide +kernel
theorem dX0_valueSum_5 : decode cX0_valueSum 5 = .ok (.getfield 9, 3) := by decide +kernel
theorem dX0_valueSum_8 : decode cX0_valueSum 8 = .ok (.aload_n 0, 1) := by decide +kernel
theorem dX0_valueSum_9 : decode cX0_valueSum 9 = .ok (.getfield 22, 3) := by decide +kernel
theorem dX0_valueSum_12 : decode cX0_valueSum 12 = .ok (.iaload, 1) := by decide +kernel
theorem dX0_valueSum_13 : decode cX0_valueSum 13 = .ok (.imul, 1) := by decide +kernel
theorem dX0_valueSum_14 : decode cX0_valueSum 14 = .ok (.aload_n 0, 1) := by decide +kernel
theorem dX0_valueSum_15 : decode cX0_valueSum 15 = .ok (.getfield 31, 3) := by decide +kernel
theorem dX0_valueSum_18 : decode cX0_valueSum 18 = .ok (.aload_n 0, 1) := by decide +kernel
theorem dX0_valueSum_19 : decode cX0_valueSum 19 = .ok (.getfield 9, 3) := by decide +kernel
theorem dX0_valueSum_22 : decode cX0_valueSum 22 = .ok (.aload_n 0, 1) := by decide +kernel
theorem dX0_valueSum_23 : decode cX0_valueSum 23 = .ok (.getfield 25, 3) := by decide +kernel
theorem dX0_valueSum_26 : decode cX0_valueSum 26 = .ok (.iaload, 1) := by decide +kernel
theorem dX0_valueSum_27 : decode cX0_valueSum 27 = .ok (.imul, 1) := by decide +kernel
theorem dX0_valueSum_28 : decode cX0_valueSum 28 = .ok (.iadd, 1) := by decide +kernel
theorem dX0_valueSum_29 : decode cX0_valueSum 29 = .ok (.ireturn, 1) := by decide +kernel
theorem dX0_tellEnvelope_0 : decode cX0_tellEnvelope 0 = .ok (.aload_n 1, 1) := by decide +kernel
theorem dX0_tellEnvelope_1 : decode cX0_tellEnvelope 1 = .ok (.aload_n 0, 1) := by decide +kernel
theorem dX0_tellEnvelope_2 : decode cX0_tellEnvelope 2 = .ok (.invokevirtual 53, 3) := by decide +kernel
theorem dX0_tellEnvelope_5 : decode cX0_tellEnvelope 5 = .ok (.aload_n 0, 1) := by decide +kernel
theorem dX0_tellEnvelope_6 : decode cX0_tellEnvelope 6 = .ok (.getfield 28, 3) := by decide +kernel
theorem dX0_tellEnvelope_9 : decode cX0_tellEnvelope 9 = .ok (.aload_n 0, 1) := by decide +kernel
theorem dX0_tellEnvelope_10 : decode cX0_tellEnvelope 10 = .ok (.getfield 31, 3) := by decide +kernel
theorem dX0_tellEnvelope_13 : decode cX0_tellEnvelope 13 = .ok (.iadd, 1) := by decide +kernel
theorem dX0_tellEnvelope_14 : decode cX0_tellEnvelope 14 = .ok (.invokevirtual 57, 3) := by decide +kernel
theorem dX0_tellEnvelope_17 : decode cX0_tellEnvelope 17 = .ok (.return_, 1) := by decide +kernel
theorem dX0_tellGain_0 : decode cX0_tellGain 0 = .ok (.aload_n 0, 1) := by decide +kernel
theorem dX0_tellGain_1 : decode cX0_tellGain 1 = .ok (.getfield 28, 3) := by decide +kernel
theorem dX0_tellGain_4 : decode cX0_tellGain 4 = .ok (.aload_n 0, 1) := by decide +kernel
theorem dX0_tellGain_5 : decode cX0_tellGain 5 = .ok (.getfield 31, 3) := by decide +kernel
theorem dX0_tellGain_8 : decode cX0_tellGain 8 = .ok (.iadd, 1) := by decide +kernel
theorem dX0_tellGain_9 : decode cX0_tellGain 9 = .ok (.istore_n 3, 1) := by decide +kernel
theorem dX0_tellGain_10 : decode cX0_tellGain 10 = .ok (.aload_n 2, 1) := by decide +kernel
theorem dX0_tellGain_11 : decode cX0_tellGain 11 = .ok (.aload_n 0, 1) := by decide +kernel
theorem dX0_tellGain_12 : decode cX0_tellGain 12 = .ok (.invokevirtual 53, 3) := by decide +kernel
theorem dX0_tellGain_15 : decode cX0_tellGain 15 = .ok (.iload_n 3, 1) := by decide +kernel
theorem dX0_tellGain_16 : decode cX0_tellGain 16 = .ok (.aload_n 0, 1) := by decide +kernel
theorem dX0_tellGain_17 : decode cX0_tellGain 17 = .ok (.getfield 9, 3) := by decide +kernel
theorem dX0_tellGain_20 : decode cX0_tellGain 20 = .ok (.iload_n 1, 1) := by decide +kernel
theorem dX0_tellGain_21 : decode cX0_tellGain 21 = .ok (.iaload, 1) := by decide +kernel
theorem dX0_tellGain_22 : decode cX0_tellGain 22 = .ok (.imul, 1) := by decide +kernel
theorem dX0_tellGain_23 : decode cX0_tellGain 23 = .ok (.isub, 1) := by decide +kernel
theorem dX0_tellGain_24 : decode cX0_tellGain 24 = .ok (.iload_n 3, 1) := by decide +kernel
theorem dX0_tellGain_25 : decode cX0_tellGain 25 = .ok (.invokevirtual 57, 3) := by decide +kernel
theorem dX0_tellGain_28 : decode cX0_tellGain 28 = .ok (.return_, 1) := by decide +kernel
theorem dX1_init_0 : decode cX1_init 0 = .ok (.aload_n 0, 1) := by decide +kernel
theorem dX1_init_1 : decode cX1_init 1 = .ok (.invokespecial 1, 3) := by decide +kernel
theorem dX1_init_4 : decode cX1_init 4 = .ok (.aload_n 0, 1) := by decide +kernel
theorem dX1_init_5 : decode cX1_init 5 = .ok (.iconst 0, 1) := by decide +kernel
theorem dX1_init_6 : decode cX1_init 6 = .ok (.putfield 7, 3) := by decide +kernel
theorem dX1_init_9 : decode cX1_init 9 = .ok (.aload_n 0, 1) := by decide +kernel
theorem dX1_init_10 : decode cX1_init 10 = .ok (.iconst 1, 1) := by decide +kernel
theorem dX1_init_11 : decode cX1_init 11 = .ok (.putfield 13, 3) := by decide +kernel
theorem dX1_init_14 : decode cX1_init 14 = .ok (.return_, 1) := by decide +kernel
theorem dX1_become_0 : decode cX1_become 0 = .ok (.iload_n 1, 1) := by decide +kernel
theorem dX1_become_1 : decode cX1_become 1 = .ok (.iload_n 2, 1) := by decide +kernel
theorem dX1_become_2 : decode cX1_become 2 = .ok (.invokestatic 16, 3) := by decide +kernel
theorem dX1_become_5 : decode cX1_become 5 = .ok (.istore_n 3, 1) := by decide +kernel
theorem dX1_become_6 : decode cX1_become 6 = .ok (.aload_n 0, 1) := by decide +kernel
theorem dX1_become_7 : decode cX1_become 7 = .ok (.iload_n 3, 1) := by decide +kernel
theorem dX1_become_8 : decode cX1_become 8 = .ok (.iconst 1, 1) := by decide +kernel
theorem dX1_become_9 : decode cX1_become 9 = .ok (.if_icmp .le 9, 3) := by decide +kernel
theorem dX1_become_12 : decode cX1_become 12 = .ok (.iload_n 1, 1) := by decide +kernel
theorem dX1_become_13 : decode cX1_become 13 = .ok (.iload_n 3, 1) := by decide +kernel
theorem dX1_become_14 : decode cX1_become 14 = .ok (.idiv, 1) := by decide +kernel
theorem dX1_become_15 : decode cX1_become 15 = .ok (.goto 4, 3) := by decide +kernel
theorem dX1_become_18 : decode cX1_become 18 = .ok (.iload_n 1, 1) := by decide +kernel
theorem dX1_become_19 : decode cX1_become 19 = .ok (.putfield 7, 3) := by decide +kernel
theorem dX1_become_22 : decode cX1_become 22 = .ok (.aload_n 0, 1) := by decide +kernel
theorem dX1_become_23 : decode cX1_become 23 = .ok (.iload_n 3, 1) := by decide +kernel
theorem dX1_become_24 : decode cX1_become 24 = .ok (.iconst 1, 1) := by decide +kernel
theorem dX1_become_25 : decode cX1_become 25 = .ok (.if_icmp .le 9, 3) := by decide +kernel
theorem dX1_become_28 : decode cX1_become 28 = .ok (.iload_n 2, 1) := by decide +kernel
theorem dX1_become_29 : decode cX1_become 29 = .ok (.iload_n 3, 1) := by decide +kernel
theorem dX1_become_30 : decode cX1_become 30 = .ok (.idiv, 1) := by decide +kernel
theorem dX1_become_31 : decode cX1_become 31 = .ok (.goto 4, 3) := by decide +kernel
theorem dX1_become_34 : decode cX1_become 34 = .ok (.iload_n 2, 1) := by decide +kernel
theorem dX1_become_35 : decode cX1_become 35 = .ok (.putfield 13, 3) := by decide +kernel
theorem dX1_become_38 : decode cX1_become 38 = .ok (.return_, 1) := by decide +kernel
theorem dX1_isAbove_0 : decode cX1_isAbove 0 = .ok (.aload_n 0, 1) := by decide +kernel
theorem dX1_isAbove_1 : decode cX1_isAbove 1 = .ok (.getfield 7, 3) := by decide +kernel
theorem dX1_isAbove_4 : decode cX1_isAbove 4 = .ok (.i2l, 1) := by decide +kernel
theorem dX1_isAbove_5 : decode cX1_isAbove 5 = .ok (.aload_n 1, 1) := by decide +kernel
theorem dX1_isAbove_6 : decode cX1_isAbove 6 = .ok (.getfield 13, 3) := by decide +kernel
theorem dX1_isAbove_9 : decode cX1_isAbove 9 = .ok (.i2l, 1) := by decide +kernel
theorem dX1_isAbove_10 : decode cX1_isAbove 10 = .ok (.lmul, 1) := by decide +kernel
theorem dX1_isAbove_11 : decode cX1_isAbove 11 = .ok (.aload_n 1, 1) := by decide +kernel
theorem dX1_isAbove_12 : decode cX1_isAbove 12 = .ok (.getfield 7, 3) := by decide +kernel
theorem dX1_isAbove_15 : decode cX1_isAbove 15 = .ok (.i2l, 1) := by decide +kernel
theorem dX1_isAbove_16 : decode cX1_isAbove 16 = .ok (.aload_n 0, 1) := by decide +kernel
theorem dX1_isAbove_17 : decode cX1_isAbove 17 = .ok (.getfield 13, 3) := by decide +kernel
theorem dX1_isAbove_20 : decode cX1_isAbove 20 = .ok (.i2l, 1) := by decide +kernel
theorem dX1_isAbove_21 : decode cX1_isAbove 21 = .ok (.lmul, 1) := by decide +kernel
theorem dX1_isAbove_22 : decode cX1_isAbove 22 = .ok (.lcmp, 1) := by decide +kernel
theorem dX1_isAbove_23 : decode cX1_isAbove 23 = .ok (.ifCond .le 7, 3) := by decide +kernel
theorem dX1_isAbove_26 : decode cX1_isAbove 26 = .ok (.iconst 1, 1) := by decide +kernel
theorem dX1_isAbove_27 : decode cX1_isAbove 27 = .ok (.goto 4, 3) := by decide +kernel
theorem dX1_isAbove_30 : decode cX1_isAbove 30 = .ok (.iconst 0, 1) := by decide +kernel
theorem dX1_isAbove_31 : decode cX1_isAbove 31 = .ok (.ireturn, 1) := by decide +kernel
theorem dX2_init_0 : decode cX2_init 0 = .ok (.aload_n 0, 1) := by decide +kernel
theorem dX2_init_1 : decode cX2_init 1 = .ok (.invokespecial 3, 3) := by decide +kernel
theorem dX2_init_4 : decode cX2_init 4 = .ok (.aload_n 0, 1) := by decide +kernel
theorem dX2_init_5 : decode cX2_init 5 = .ok (.bipush 7, 2) := by decide +kernel
theorem dX2_init_7 : decode cX2_init 7 = .ok (.anewarray 9, 3) := by decide +kernel
theorem dX2_init_10 : decode cX2_init 10 = .ok (.putfield 11, 3) := by decide +kernel
theorem dX2_init_13 : decode cX2_init 13 = .ok (.aload_n 0, 1) := by decide +kernel
theorem dX2_init_14 : decode cX2_init 14 = .ok (.iconst 0, 1) := by decide +kernel
theorem dX2_init_15 : decode cX2_init 15 = .ok (.putfield 15, 3) := by decide +kernel
theorem dX2_init_18 : decode cX2_init 18 = .ok (.aload_n 0, 1) := by decide +kernel
theorem dX2_init_19 : decode cX2_init 19 = .ok (.iconst 0, 1) := by decide +kernel
theorem dX2_init_20 : decode cX2_init 20 = .ok (.putfield 19, 3) := by decide +kernel
theorem dX2_init_23 : decode cX2_init 23 = .ok (.iconst 0, 1) := by decide +kernel
theorem dX2_init_24 : decode cX2_init 24 = .ok (.istore_n 1, 1) := by decide +kernel
theorem dX2_init_25 : decode cX2_init 25 = .ok (.iload_n 1, 1) := by decide +kernel
theorem dX2_init_26 : decode cX2_init 26 = .ok (.bipush 7, 2) := by decide +kernel
theorem dX2_init_28 : decode cX2_init 28 = .ok (.if_icmp .ge 22, 3) := by decide +kernel
theorem dX2_init_31 : decode cX2_init 31 = .ok (.aload_n 0, 1) := by decide +kernel
theorem dX2_init_32 : decode cX2_init 32 = .ok (.getfield 11, 3) := by decide +kernel
theorem dX2_init_35 : decode cX2_init 35 = .ok (.iload_n 1, 1) := by decide +kernel
theorem dX2_init_36 : decode cX2_init 36 = .ok (.new 9, 3) := by decide +kernel
theorem dX2_init_39 : decode cX2_init 39 = .ok (.dup, 1) := by decide +kernel
theorem dX2_init_40 : decode cX2_init 40 = .ok (.invokespecial 22, 3) := by decide +kernel
theorem dX2_init_43 : decode cX2_init 43 = .ok (.aastore, 1) := by decide +kernel
theorem dX2_init_44 : decode cX2_init 44 = .ok (.iinc 1 1, 3) := by decide +kernel
theorem dX2_init_47 : decode cX2_init 47 = .ok (.goto (-22), 3) := by decide +kernel
theorem dX2_init_50 : decode cX2_init 50 = .ok (.return_, 1) := by decide +kernel
theorem dX2_note_0 : decode cX2_note 0 = .ok (.aload_n 0, 1) := by decide +kernel
theorem dX2_note_1 : decode cX2_note 1 = .ok (.getfield 11, 3) := by decide +kernel
theorem dX2_note_4 : decode cX2_note 4 = .ok (.aload_n 0, 1) := by decide +kernel
theorem dX2_note_5 : decode cX2_note 5 = .ok (.getfield 15, 3) := by decide +kernel
theorem dX2_note_8 : decode cX2_note 8 = .ok (.aaload, 1) := by decide +kernel
theorem dX2_note_9 : decode cX2_note 9 = .ok (.aload_n 1, 1) := by decide +kernel
theorem dX2_note_10 : decode cX2_note 10 = .ok (.invokevirtual 23, 3) := by decide +kernel
theorem dX2_note_13 : decode cX2_note 13 = .ok (.return_, 1) := by decide +kernel
theorem dX2_keep_0 : decode cX2_keep 0 = .ok (.aload_n 0, 1) := by decide +kernel
theorem dX2_keep_1 : decode cX2_keep 1 = .ok (.aload_n 0, 1) := by decide +kernel
theorem dX2_keep_2 : decode cX2_keep 2 = .ok (.getfield 15, 3) := by decide +kernel
theorem dX2_keep_5 : decode cX2_keep 5 = .ok (.iconst 1, 1) := by decide +kernel
theorem dX2_keep_6 : decode cX2_keep 6 = .ok (.iadd, 1) := by decide +kernel
theorem dX2_keep_7 : decode cX2_keep 7 = .ok (.bipush 7, 2) := by decide +kernel
theorem dX2_keep_9 : decode cX2_keep 9 = .ok (.if_icmp .ge 12, 3) := by decide +kernel
theorem dX2_keep_12 : decode cX2_keep 12 = .ok (.aload_n 0, 1) := by decide +kernel
theorem dX2_keep_13 : decode cX2_keep 13 = .ok (.getfield 15, 3) := by decide +kernel
theorem dX2_keep_16 : decode cX2_keep 16 = .ok (.iconst 1, 1) := by decide +kernel
theorem dX2_keep_17 : decode cX2_keep 17 = .ok (.iadd, 1) := by decide +kernel
theorem dX2_keep_18 : decode cX2_keep 18 = .ok (.goto 4, 3) := by decide +kernel
theorem dX2_keep_21 : decode cX2_keep 21 = .ok (.iconst 0, 1) := by decide +kernel
theorem dX2_keep_22 : decode cX2_keep 22 = .ok (.putfield 15, 3) := by decide +kernel
theorem dX2_keep_25 : decode cX2_keep 25 = .ok (.aload_n 0, 1) := by decide +kernel
theorem dX2_keep_26 : decode cX2_keep 26 = .ok (.aload_n 0, 1) := by decide +kernel
theorem dX2_keep_27 : decode cX2_keep 27 = .ok (.getfield 19, 3) := by decide +kernel
theorem dX2_keep_30 : decode cX2_keep 30 = .ok (.iconst 1, 1) := by decide +kernel
theorem dX2_keep_31 : decode cX2_keep 31 = .ok (.iadd, 1) := by decide +kernel
theorem dX2_keep_32 : decode cX2_keep 32 = .ok (.bipush 6, 2) := by decide +kernel
theorem dX2_keep_34 : decode cX2_keep 34 = .ok (.invokestatic 27, 3) := by decide +kernel
theorem dX2_keep_37 : decode cX2_keep 37 = .ok (.putfield 19, 3) := by decide +kernel
theorem dX2_keep_40 : decode cX2_keep 40 = .ok (.return_, 1) := by decide +kernel
theorem dX2_takeBack_0 : decode cX2_takeBack 0 = .ok (.aload_n 0, 1) := by decide +kernel
theorem dX2_takeBack_1 : decode cX2_takeBack 1 = .ok (.getfield 19, 3) := by decide +kernel
theorem dX2_takeBack_4 : decode cX2_takeBack 4 = .ok (.ifCond .le 48, 3) := by decide +kernel
theorem dX2_takeBack_7 : decode cX2_takeBack 7 = .ok (.aload_n 0, 1) := by decide +kernel
theorem dX2_takeBack_8 : decode cX2_takeBack 8 = .ok (.aload_n 0, 1) := by decide +kernel
theorem dX2_takeBack_9 : decode cX2_takeBack 9 = .ok (.getfield 15, 3) := by decide +kernel
theorem dX2_takeBack_12 : decode cX2_takeBack 12 = .ok (.ifCond .le 12, 3) := by decide +kernel
theorem dX2_takeBack_15 : decode cX2_takeBack 15 = .ok (.aload_n 0, 1) := by decide +kernel
theorem dX2_takeBack_16 : decode cX2_takeBack 16 = .ok (.getfield 15, 3) := by decide +kernel
theorem dX2_takeBack_19 : decode cX2_takeBack 19 = .ok (.iconst 1, 1) := by decide +kernel
theorem dX2_takeBack_20 : decode cX2_takeBack 20 = .ok (.isub, 1) := by decide +kernel
theorem dX2_takeBack_21 : decode cX2_takeBack 21 = .ok (.goto 5, 3) := by decide +kernel
theorem dX2_takeBack_24 : decode cX2_takeBack 24 = .ok (.bipush 6, 2) := by decide +kernel
theorem dX2_takeBack_26 : decode cX2_takeBack 26 = .ok (.putfield 15, 3) := by decide +kernel
theorem dX2_takeBack_29 : decode cX2_takeBack 29 = .ok (.aload_n 0, 1) := by decide +kernel
theorem dX2_takeBack_30 : decode cX2_takeBack 30 = .ok (.dup, 1) := by decide +kernel
theorem dX2_takeBack_31 : decode cX2_takeBack 31 = .ok (.getfield 19, 3) := by decide +kernel
theorem dX2_takeBack_34 : decode cX2_takeBack 34 = .ok (.iconst 1, 1) := by decide +kernel
theorem dX2_takeBack_35 : decode cX2_takeBack 35 = .ok (.isub, 1) := by decide +kernel
theorem dX2_takeBack_36 : decode cX2_takeBack 36 = .ok (.putfield 19, 3) := by decide +kernel
theorem dX2_takeBack_39 : decode cX2_takeBack 39 = .ok (.aload_n 1, 1) := by decide +kernel
theorem dX2_takeBack_40 : decode cX2_takeBack 40 = .ok (.aload_n 0, 1) := by decide +kernel
theorem dX2_takeBack_41 : decode cX2_takeBack 41 = .ok (.getfield 11, 3) := by decide +kernel
theorem dX2_takeBack_44 : decode cX2_takeBack 44 = .ok (.aload_n 0, 1) := by decide +kernel
theorem dX2_takeBack_45 : decode cX2_takeBack 45 = .ok (.getfield 15, 3) := by decide +kernel
theorem dX2_takeBack_48 : decode cX2_takeBack 48 = .ok (.aaload, 1) := by decide +kernel
theorem dX2_takeBack_49 : decode cX2_takeBack 49 = .ok (.invokevirtual 23, 3) := by decide +kernel
theorem dX2_takeBack_52 : decode cX2_takeBack 52 = .ok (.return_, 1) := by decide +kernel
theorem dX3_init_0 : decode cX3_init 0 = .ok (.aload_n 0, 1) := by decide +kernel
theorem dX3_init_1 : decode cX3_init 1 = .ok (.invokespecial 3, 3) := by decide +kernel
theorem dX3_init_4 : decode cX3_init 4 = .ok (.aload_n 0, 1) := by decide +kernel
theorem dX3_init_5 : decode cX3_init 5 = .ok (.bipush 101, 2) := by decide +kernel
theorem dX3_init_7 : decode cX3_init 7 = .ok (.newarray .int, 2) := by decide +kernel
theorem dX3_init_9 : decode cX3_init 9 = .ok (.putfield 9, 3) := by decide +kernel
theorem dX3_init_12 : decode cX3_init 12 = .ok (.return_, 1) := by decide +kernel
theorem dX3_clear_0 : decode cX3_clear 0 = .ok (.iconst 0, 1) := by decide +kernel
theorem dX3_clear_1 : decode cX3_clear 1 = .ok (.istore_n 1, 1) := by decide +kernel
theorem dX3_clear_2 : decode cX3_clear 2 = .ok (.iload_n 1, 1) := by decide +kernel
theorem dX3_clear_3 : decode cX3_clear 3 = .ok (.bipush 100, 2) := by decide +kernel
theorem dX3_clear_5 : decode cX3_clear 5 = .ok (.if_icmp .gt 16, 3) := by decide +kernel
theorem dX3_clear_8 : decode cX3_clear 8 = .ok (.aload_n 0, 1) := by decide +kernel
theorem dX3_clear_9 : decode cX3_clear 9 = .ok (.getfield 9, 3) := by decide +kernel
theorem dX3_clear_12 : decode cX3_clear 12 = .ok (.iload_n 1, 1) := by decide +kernel
theorem dX3_clear_13 : decode cX3_clear 13 = .ok (.iconst 0, 1) := by decide +kernel
theorem dX3_clear_14 : decode cX3_clear 14 = .ok (.iastore, 1) := by decide +kernel
theorem dX3_clear_15 : decode cX3_clear 15 = .ok (.iinc 1 1, 3) := by decide +kernel
theorem dX3_clear_18 : decode cX3_clear 18 = .ok (.goto (-16), 3) := by decide +kernel
theorem dX3_clear_21 : decode cX3_clear 21 = .ok (.return_, 1) := by decide +kernel
theorem dX3_gather_0 : decode cX3_gather 0 = .ok (.aload_n 0, 1) := by decide +kernel
theorem dX3_gather_1 : decode cX3_gather 1 = .ok (.invokevirtual 15, 3) := by decide +kernel
theorem dX3_gather_4 : decode cX3_gather 4 = .ok (.iconst 0, 1) := by decide +kernel
theorem dX3_gather_5 : decode cX3_gather 5 = .ok (.istore_n 3, 1) := by decide +kernel
theorem dX3_gather_6 : decode cX3_gather 6 = .ok (.iload_n 3, 1) := by decide +kernel
theorem dX3_gather_7 : decode cX3_gather 7 = .ok (.aload_n 1, 1) := by decide +kernel
theorem dX3_gather_8 : decode cX3_gather 8 = .ok (.getfield 18, 3) := by decide +kernel
theorem dX3_gather_11 : decode cX3_gather 11 = .ok (.if_icmp .ge 27, 3) := by decide +kernel
theorem dX3_gather_14 : decode cX3_gather 14 = .ok (.aload_n 0, 1) := by decide +kernel
theorem dX3_gather_15 : decode cX3_gather 15 = .ok (.aload_n 1, 1) := by decide +kernel
theorem dX3_gather_16 : decode cX3_gather 16 = .ok (.getfield 24, 3) := by decide +kernel
theorem dX3_gather_19 : decode cX3_gather 19 = .ok (.iload_n 3, 1) := by decide +kernel
theorem dX3_gather_20 : decode cX3_gather 20 = .ok (.iaload, 1) := by decide +kernel
theorem dX3_gather_21 : decode cX3_gather 21 = .ok (.aload_n 1, 1) := by decide +kernel
theorem dX3_gather_22 : decode cX3_gather 22 = .ok (.getfield 27, 3) := by decide +kernel
theorem dX3_gather_25 : decode cX3_gather 25 = .ok (.iload_n 3, 1) := by decide +kernel
theorem dX3_gather_26 : decode cX3_gather 26 = .ok (.iaload, 1) := by decide +kernel
theorem dX3_gather_27 : decode cX3_gather 27 = .ok (.iload_n 2, 1) := by decide +kernel
theorem dX3_gather_28 : decode cX3_gather 28 = .ok (.imul, 1) := by decide +kernel
theorem dX3_gather_29 : decode cX3_gather 29 = .ok (.invokevirtual 30, 3) := by decide +kernel
theorem dX3_gather_32 : decode cX3_gather 32 = .ok (.iinc 3 1, 3) := by decide +kernel
theorem dX3_gather_35 : decode cX3_gather 35 = .ok (.goto (-29), 3) := by decide +kernel
theorem dX3_gather_38 : decode cX3_gather 38 = .ok (.return_, 1) := by decide +kernel
theorem dX3_add_0 : decode cX3_add 0 = .ok (.iload_n 1, 1) := by decide +kernel
theorem dX3_add_1 : decode cX3_add 1 = .ok (.invokestatic 34, 3) := by decide +kernel
theorem dX3_add_4 : decode cX3_add 4 = .ok (.ifCond .eq 13, 3) := by decide +kernel
theorem dX3_add_7 : decode cX3_add 7 = .ok (.aload_n 0, 1) := by decide +kernel
theorem dX3_add_8 : decode cX3_add 8 = .ok (.getfield 9, 3) := by decide +kernel
theorem dX3_add_11 : decode cX3_add 11 = .ok (.iload_n 1, 1) := by decide +kernel
theorem dX3_add_12 : decode cX3_add 12 = .ok (.dup2, 1) := by decide +kernel
theorem dX3_add_13 : decode cX3_add 13 = .ok (.iaload, 1) := by decide +kernel
theorem dX3_add_14 : decode cX3_add 14 = .ok (.iload_n 2, 1) := by decide +kernel
theorem dX3_add_15 : decode cX3_add 15 = .ok (.iadd, 1) := by decide +kernel
theorem dX3_add_16 : decode cX3_add 16 = .ok (.iastore, 1) := by decide +kernel
theorem dX3_add_17 : decode cX3_add 17 = .ok (.return_, 1) := by decide +kernel
theorem dX3_reduce_0 : decode cX3_reduce 0 = .ok (.iconst 0, 1) := by decide +kernel
theorem dX3_reduce_1 : decode cX3_reduce 1 = .ok (.istore_n 1, 1) := by decide +kernel
theorem dX3_reduce_2 : decode cX3_reduce 2 = .ok (.iconst 0, 1) := by decide +kernel
theorem dX3_reduce_3 : decode cX3_reduce 3 = .ok (.istore_n 2, 1) := by decide +kernel
theorem dX3_reduce_4 : decode cX3_reduce 4 = .ok (.iload_n 2, 1) := by decide +kernel
theorem dX3_reduce_5 : decode cX3_reduce 5 = .ok (.bipush 100, 2) := by decide +kernel
theorem dX3_reduce_7 : decode cX3_reduce 7 = .ok (.if_icmp .gt 20, 3) := by decide +kernel
theorem dX3_reduce_10 : decode cX3_reduce 10 = .ok (.aload_n 0, 1) := by decide +kernel
theorem dX3_reduce_11 : decode cX3_reduce 11 = .ok (.getfield 9, 3) := by decide +kernel
theorem dX3_reduce_14 : decode cX3_reduce 14 = .ok (.iload_n 2, 1) := by decide +kernel
theorem dX3_reduce_15 : decode cX3_reduce 15 = .ok (.iaload, 1) := by decide +kernel
theorem dX3_reduce_16 : decode cX3_reduce 16 = .ok (.iload_n 1, 1) := by decide +kernel
theorem dX3_reduce_17 : decode cX3_reduce 17 = .ok (.invokestatic 38, 3) := by decide +kernel
theorem dX3_reduce_20 : decode cX3_reduce 20 = .ok (.istore_n 1, 1) := by decide +kernel
theorem dX3_reduce_21 : decode cX3_reduce 21 = .ok (.iinc 2 1, 3) := by decide +kernel
theorem dX3_reduce_24 : decode cX3_reduce 24 = .ok (.goto (-20), 3) := by decide +kernel
theorem dX3_reduce_27 : decode cX3_reduce 27 = .ok (.iload_n 1, 1) := by decide +kernel
theorem dX3_reduce_28 : decode cX3_reduce 28 = .ok (.iconst 1, 1) := by decide +kernel
theorem dX3_reduce_29 : decode cX3_reduce 29 = .ok (.if_icmp .le 27, 3) := by decide +kernel
theorem dX3_reduce_32 : decode cX3_reduce 32 = .ok (.iconst 0, 1) := by decide +kernel
theorem dX3_reduce_33 : decode cX3_reduce 33 = .ok (.istore_n 2, 1) := by decide +kernel
theorem dX3_reduce_34 : decode cX3_reduce 34 = .ok (.iload_n 2, 1) := by decide +kernel
theorem dX3_reduce_35 : decode cX3_reduce 35 = .ok (.bipush 100, 2) := by decide +kernel
theorem dX3_reduce_37 : decode cX3_reduce 37 = .ok (.if_icmp .gt 19, 3) := by decide +kernel
theorem dX3_reduce_40 : decode cX3_reduce 40 = .ok (.aload_n 0, 1) := by decide +kernel
theorem dX3_reduce_41 : decode cX3_reduce 41 = .ok (.getfield 9, 3) := by decide +kernel
theorem dX3_reduce_44 : decode cX3_reduce 44 = .ok (.iload_n 2, 1) := by decide +kernel
theorem dX3_reduce_45 : decode cX3_reduce 45 = .ok (.dup2, 1) := by decide +kernel
theorem dX3_reduce_46 : decode cX3_reduce 46 = .ok (.iaload, 1) := by decide +kernel
theorem dX3_reduce_47 : decode cX3_reduce 47 = .ok (.iload_n 1, 1) := by decide +kernel
theorem dX3_reduce_48 : decode cX3_reduce 48 = .ok (.idiv, 1) := by decide +kernel
theorem dX3_reduce_49 : decode cX3_reduce 49 = .ok (.iastore, 1) := by decide +kernel
theorem dX3_reduce_50 : decode cX3_reduce 50 = .ok (.iinc 2 1, 3) := by decide +kernel
theorem dX3_reduce_53 : decode cX3_reduce 53 = .ok (.goto (-19), 3) := by decide +kernel
theorem dX3_reduce_56 : decode cX3_reduce 56 = .ok (.return_, 1) := by decide +kernel
theorem dX3_fits_0 : decode cX3_fits 0 = .ok (.iconst 0, 1) := by decide +kernel
theorem dX3_fits_1 : decode cX3_fits 1 = .ok (.istore_n 1, 1) := by decide +kernel
theorem dX3_fits_2 : decode cX3_fits 2 = .ok (.iconst 0, 1) := by decide +kernel
theorem dX3_fits_3 : decode cX3_fits 3 = .ok (.istore_n 2, 1) := by decide +kernel
theorem dX3_fits_4 : decode cX3_fits 4 = .ok (.iload_n 2, 1) := by decide +kernel
theorem dX3_fits_5 : decode cX3_fits 5 = .ok (.bipush 100, 2) := by decide +kernel
theorem dX3_fits_7 : decode cX3_fits 7 = .ok (.if_icmp .gt 35, 3) := by decide +kernel
theorem dX3_fits_10 : decode cX3_fits 10 = .ok (.aload_n 0, 1) := by decide +kernel
theorem dX3_fits_11 : decode cX3_fits 11 = .ok (.getfield 9, 3) := by decide +kernel
theorem dX3_fits_14 : decode cX3_fits 14 = .ok (.iload_n 2, 1) := by decide +kernel
theorem dX3_fits_15 : decode cX3_fits 15 = .ok (.iaload, 1) := by decide +kernel
theorem dX3_fits_16 : decode cX3_fits 16 = .ok (.sipush 999, 3) := by decide +kernel
theorem dX3_fits_19 : decode cX3_fits 19 = .ok (.if_icmp .le 5, 3) := by decide +kernel
theorem dX3_fits_22 : decode cX3_fits 22 = .ok (.iconst 0, 1) := by decide +kernel
theorem dX3_fits_23 : decode cX3_fits 23 = .ok (.ireturn, 1) := by decide +kernel
theorem dX3_fits_24 : decode cX3_fits 24 = .ok (.aload_n 0, 1) := by decide +kernel
theorem dX3_fits_25 : decode cX3_fits 25 = .ok (.getfield 9, 3) := by decide +kernel
theorem dX3_fits_28 : decode cX3_fits 28 = .ok (.iload_n 2, 1) := by decide +kernel
theorem dX3_fits_29 : decode cX3_fits 29 = .ok (.iaload, 1) := by decide +kernel
theorem dX3_fits_30 : decode cX3_fits 30 = .ok (.ifCond .le 6, 3) := by decide +kernel
theorem dX3_fits_33 : decode cX3_fits 33 = .ok (.iinc 1 1, 3) := by decide +kernel
theorem dX3_fits_36 : decode cX3_fits 36 = .ok (.iinc 2 1, 3) := by decide +kernel
theorem dX3_fits_39 : decode cX3_fits 39 = .ok (.goto (-35), 3) := by decide +kernel
theorem dX3_fits_42 : decode cX3_fits 42 = .ok (.iload_n 1, 1) := by decide +kernel
theorem dX3_fits_43 : decode cX3_fits 43 = .ok (.bipush 6, 2) := by decide +kernel
theorem dX3_fits_45 : decode cX3_fits 45 = .ok (.if_icmp .gt 7, 3) := by decide +kernel
theorem dX3_fits_48 : decode cX3_fits 48 = .ok (.iconst 1, 1) := by decide +kernel
theorem dX3_fits_49 : decode cX3_fits 49 = .ok (.goto 4, 3) := by decide +kernel
theorem dX3_fits_52 : decode cX3_fits 52 = .ok (.iconst 0, 1) := by decide +kernel
theorem dX3_fits_53 : decode cX3_fits 53 = .ok (.ireturn, 1) := by decide +kernel
theorem dX3_averagesTo_0 : decode cX3_averagesTo 0 = .ok (.iconst 0, 1) := by decide +kernel
theorem dX3_averagesTo_1 : decode cX3_averagesTo 1 = .ok (.istore_n 2, 1) := by decide +kernel
theorem dX3_averagesTo_2 : decode cX3_averagesTo 2 = .ok (.iconst 0, 1) := by decide +kernel
theorem dX3_averagesTo_3 : decode cX3_averagesTo 3 = .ok (.istore_n 3, 1) := by decide +kernel
theorem dX3_averagesTo_4 : decode cX3_averagesTo 4 = .ok (.iload_n 3, 1) := by decide +kernel
theorem dX3_averagesTo_5 : decode cX3_averagesTo 5 = .ok (.bipush 100, 2) := by decide +kernel
theorem dX3_averagesTo_7 : decode cX3_averagesTo 7 = .ok (.if_icmp .gt 22, 3) := by decide +kernel
theorem dX3_averagesTo_10 : decode cX3_averagesTo 10 = .ok (.iload_n 2, 1) := by decide +kernel
theorem dX3_averagesTo_11 : decode cX3_averagesTo 11 = .ok (.aload_n 0, 1) := by decide +kernel
theorem dX3_averagesTo_12 : decode cX3_averagesTo 12 = .ok (.getfield 9, 3) := by decide +kernel
theorem dX3_averagesTo_15 : decode cX3_averagesTo 15 = .ok (.iload_n 3, 1) := by decide +kernel
theorem dX3_averagesTo_16 : decode cX3_averagesTo 16 = .ok (.iaload, 1) := by decide +kernel
theorem dX3_averagesTo_17 : decode cX3_averagesTo 17 = .ok (.iload_n 3, 1) := by decide +kernel
theorem dX3_averagesTo_18 : decode cX3_averagesTo 18 = .ok (.iload_n 1, 1) := by decide +kernel
theorem dX3_averagesTo_19 : decode cX3_averagesTo 19 = .ok (.isub, 1) := by decide +kernel
theorem dX3_averagesTo_20 : decode cX3_averagesTo 20 = .ok (.imul, 1) := by decide +kernel
theorem dX3_averagesTo_21 : decode cX3_averagesTo 21 = .ok (.iadd, 1) := by decide +kernel
theorem dX3_averagesTo_22 : decode cX3_averagesTo 22 = .ok (.istore_n 2, 1) := by decide +kernel
theorem dX3_averagesTo_23 : decode cX3_averagesTo 23 = .ok (.iinc 3 1, 3) := by decide +kernel
theorem dX3_averagesTo_26 : decode cX3_averagesTo 26 = .ok (.goto (-22), 3) := by decide +kernel
theorem dX3_averagesTo_29 : decode cX3_averagesTo 29 = .ok (.iload_n 2, 1) := by decide +kernel
theorem dX3_averagesTo_30 : decode cX3_averagesTo 30 = .ok (.ifCond .ne 7, 3) := by decide +kernel
theorem dX3_averagesTo_33 : decode cX3_averagesTo 33 = .ok (.iconst 1, 1) := by decide +kernel
theorem dX3_averagesTo_34 : decode cX3_averagesTo 34 = .ok (.goto 4, 3) := by decide +kernel
theorem dX3_averagesTo_37 : decode cX3_averagesTo 37 = .ok (.iconst 0, 1) := by decide +kernel
theorem dX3_averagesTo_38 : decode cX3_averagesTo 38 = .ok (.ireturn, 1) := by decide +kernel
theorem dX3_pourInto_0 : decode cX3_pourInto 0 = .ok (.aload_n 1, 1) := by decide +kernel
theorem dX3_pourInto_1 : decode cX3_pourInto 1 = .ok (.iconst 0, 1) := by decide +kernel
theorem dX3_pourInto_2 : decode cX3_pourInto 2 = .ok (.putfield 18, 3) := by decide +kernel
theorem dX3_pourInto_5 : decode cX3_pourInto 5 = .ok (.iconst 0, 1) := by decide +kernel
theorem dX3_pourInto_6 : decode cX3_pourInto 6 = .ok (.istore_n 2, 1) := by decide +kernel
theorem dX3_pourInto_7 : decode cX3_pourInto 7 = .ok (.iload_n 2, 1) := by decide +kernel
theorem dX3_pourInto_8 : decode cX3_pourInto 8 = .ok (.bipush 100, 2) := by decide +kernel
theorem dX3_pourInto_10 : decode cX3_pourInto 10 = .ok (.if_icmp .gt 29, 3) := by decide +kernel
theorem dX3_pourInto_13 : decode cX3_pourInto 13 = .ok (.aload_n 0, 1) := by decide +kernel
theorem dX3_pourInto_14 : decode cX3_pourInto 14 = .ok (.getfield 9, 3) := by decide +kernel
theorem dX3_pourInto_17 : decode cX3_pourInto 17 = .ok (.iload_n 2, 1) := by decide +kernel
theorem dX3_pourInto_18 : decode cX3_pourInto 18 = .ok (.iaload, 1) := by decide +kernel
theorem dX3_pourInto_19 : decode cX3_pourInto 19 = .ok (.ifCond .le 14, 3) := by decide +kernel
theorem dX3_pourInto_22 : decode cX3_pourInto 22 = .ok (.aload_n 1, 1) := by decide +kernel
theorem dX3_pourInto_23 : decode cX3_pourInto 23 = .ok (.iload_n 2, 1) := by decide +kernel
theorem dX3_pourInto_24 : decode cX3_pourInto 24 = .ok (.aload_n 0, 1) := by decide +kernel
theorem dX3_pourInto_25 : decode cX3_pourInto 25 = .ok (.getfield 9, 3) := by decide +kernel
theorem dX3_pourInto_28 : decode cX3_pourInto 28 = .ok (.iload_n 2, 1) := by decide +kernel
theorem dX3_pourInto_29 : decode cX3_pourInto 29 = .ok (.iaload, 1) := by decide +kernel
theorem dX3_pourInto_30 : decode cX3_pourInto 30 = .ok (.invokevirtual 42, 3) := by decide +kernel
theorem dX3_pourInto_33 : decode cX3_pourInto 33 = .ok (.iinc 2 1, 3) := by decide +kernel
theorem dX3_pourInto_36 : decode cX3_pourInto 36 = .ok (.goto (-29), 3) := by decide +kernel
theorem dX3_pourInto_39 : decode cX3_pourInto 39 = .ok (.return_, 1) := by decide +kernel
theorem dX4_init_0 : decode cX4_init 0 = .ok (.aload_n 0, 1) := by decide +kernel
theorem dX4_init_1 : decode cX4_init 1 = .ok (.invokespecial 3, 3) := by decide +kernel
theorem dX4_init_4 : decode cX4_init 4 = .ok (.aload_n 0, 1) := by decide +kernel
theorem dX4_init_5 : decode cX4_init 5 = .ok (.bipush 80, 2) := by decide +kernel
theorem dX4_init_7 : decode cX4_init 7 = .ok (.newarray .char, 2) := by decide +kernel
theorem dX4_init_9 : decode cX4_init 9 = .ok (.putfield 11, 3) := by decide +kernel
theorem dX4_init_12 : decode cX4_init 12 = .ok (.aload_n 0, 1) := by decide +kernel
theorem dX4_init_13 : decode cX4_init 13 = .ok (.bipush 12, 2) := by decide +kernel
theorem dX4_init_15 : decode cX4_init 15 = .ok (.newarray .int, 2) := by decide +kernel
theorem dX4_init_17 : decode cX4_init 17 = .ok (.putfield 17, 3) := by decide +kernel
theorem dX4_init_20 : decode cX4_init 20 = .ok (.aload_n 0, 1) := by decide +kernel
theorem dX4_init_21 : decode cX4_init 21 = .ok (.iconst 0, 1) := by decide +kernel
theorem dX4_init_22 : decode cX4_init 22 = .ok (.putfield 21, 3) := by decide +kernel
theorem dX4_init_25 : decode cX4_init 25 = .ok (.aload_n 0, 1) := by decide +kernel
theorem dX4_init_26 : decode cX4_init 26 = .ok (.iconst 0, 1) := by decide +kernel
theorem dX4_init_27 : decode cX4_init 27 = .ok (.putfield 25, 3) := by decide +kernel
theorem dX4_init_30 : decode cX4_init 30 = .ok (.aload_n 0, 1) := by decide +kernel
theorem dX4_init_31 : decode cX4_init 31 = .ok (.iconst 0, 1) := by decide +kernel
theorem dX4_init_32 : decode cX4_init 32 = .ok (.putfield 28, 3) := by decide +kernel
theorem dX4_init_35 : decode cX4_init 35 = .ok (.aload_n 0, 1) := by decide +kernel
theorem dX4_init_36 : decode cX4_init 36 = .ok (.iconst 0, 1) := by decide +kernel
theorem dX4_init_37 : decode cX4_init 37 = .ok (.putfield 31, 3) := by decide +kernel
theorem dX4_init_40 : decode cX4_init 40 = .ok (.return_, 1) := by decide +kernel
theorem dX4_append_0 : decode cX4_append 0 = .ok (.lload_n 1, 1) := by decide +kernel
theorem dX4_append_1 : decode cX4_append 1 = .ok (.lstore_n 3, 1) := by decide +kernel
theorem dX4_append_2 : decode cX4_append 2 = .ok (.iconst 0, 1) := by decide +kernel
theorem dX4_append_3 : decode cX4_append 3 = .ok (.istore 5, 2) := by decide +kernel
theorem dX4_append_5 : decode cX4_append 5 = .ok (.iload 5, 2) := by decide +kernel
theorem dX4_append_7 : decode cX4_append 7 = .ok (.bipush 8, 2) := by decide +kernel
theorem dX4_append_9 : decode cX4_append 9 = .ok (.if_icmp .ge 49, 3) := by decide +kernel
theorem dX4_append_12 : decode cX4_append 12 = .ok (.lload_n 3, 1) := by decide +kernel
theorem dX4_append_13 : decode cX4_append 13 = .ok (.ldc2_w 34, 3) := by decide +kernel
theorem dX4_append_16 : decode cX4_append 16 = .ok (.land, 1) := by decide +kernel
theorem dX4_append_17 : decode cX4_append 17 = .ok (.lconst 0, 1) := by decide +kernel
theorem dX4_append_18 : decode cX4_append 18 = .ok (.lcmp, 1) := by decide +kernel
theorem dX4_append_19 : decode cX4_append 19 = .ok (.ifCond .eq 39, 3) := by decide +kernel
theorem dX4_append_22 : decode cX4_append 22 = .ok (.lload_n 3, 1) := by decide +kernel
theorem dX4_append_23 : decode cX4_append 23 = .ok (.ldc2_w 34, 3) := by decide +kernel
theorem dX4_append_26 : decode cX4_append 26 = .ok (.land, 1) := by decide +kernel
theorem dX4_append_27 : decode cX4_append 27 = .ok (.l2i, 1) := by decide +kernel
theorem dX4_append_28 : decode cX4_append 28 = .ok (.istore 6, 2) := by decide +kernel
theorem dX4_append_30 : decode cX4_append 30 = .ok (.iload 6, 2) := by decide +kernel
theorem dX4_append_32 : decode cX4_append 32 = .ok (.bipush 33, 2) := by decide +kernel
theorem dX4_append_34 : decode cX4_append 34 = .ok (.if_icmp .lt 10, 3) := by decide +kernel
theorem dX4_append_37 : decode cX4_append 37 = .ok (.iload 6, 2) := by decide +kernel
theorem dX4_append_39 : decode cX4_append 39 = .ok (.bipush 126, 2) := by decide +kernel
theorem dX4_append_41 : decode cX4_append 41 = .ok (.if_icmp .le 6, 3) := by decide +kernel
theorem dX4_append_44 : decode cX4_append 44 = .ok (.bipush (-2), 2) := by decide +kernel
theorem dX4_append_46 : decode cX4_append 46 = .ok (.ireturn, 1) := by decide +kernel
theorem dX4_append_47 : decode cX4_append 47 = .ok (.lload_n 3, 1) := by decide +kernel
theorem dX4_append_48 : decode cX4_append 48 = .ok (.bipush 8, 2) := by decide +kernel
theorem dX4_append_50 : decode cX4_append 50 = .ok (.lushr, 1) := by decide +kernel
theorem dX4_append_51 : decode cX4_append 51 = .ok (.lstore_n 3, 1) := by decide +kernel
theorem dX4_append_52 : decode cX4_append 52 = .ok (.iinc 5 1, 3) := by decide +kernel
theorem dX4_append_55 : decode cX4_append 55 = .ok (.goto (-50), 3) := by decide +kernel
theorem dX4_append_58 : decode cX4_append 58 = .ok (.iload 5, 2) := by decide +kernel
theorem dX4_append_60 : decode cX4_append 60 = .ok (.ifCond .eq 9, 3) := by decide +kernel
theorem dX4_append_63 : decode cX4_append 63 = .ok (.lload_n 3, 1) := by decide +kernel
theorem dX4_append_64 : decode cX4_append 64 = .ok (.lconst 0, 1) := by decide +kernel
theorem dX4_append_65 : decode cX4_append 65 = .ok (.lcmp, 1) := by decide +kernel
theorem dX4_append_66 : decode cX4_append 66 = .ok (.ifCond .eq 6, 3) := by decide +kernel
theorem dX4_append_69 : decode cX4_append 69 = .ok (.bipush (-2), 2) := by decide +kernel
theorem dX4_append_71 : decode cX4_append 71 = .ok (.ireturn, 1) := by decide +kernel
theorem dX4_append_72 : decode cX4_append 72 = .ok (.aload_n 0, 1) := by decide +kernel
theorem dX4_append_73 : decode cX4_append 73 = .ok (.getfield 21, 3) := by decide +kernel
theorem dX4_append_76 : decode cX4_append 76 = .ok (.iload 5, 2) := by decide +kernel
theorem dX4_append_78 : decode cX4_append 78 = .ok (.iadd, 1) := by decide +kernel
theorem dX4_append_79 : decode cX4_append 79 = .ok (.bipush 80, 2) := by decide +kernel
theorem dX4_append_81 : decode cX4_append 81 = .ok (.if_icmp .le 6, 3) := by decide +kernel
theorem dX4_append_84 : decode cX4_append 84 = .ok (.bipush (-4), 2) := by decide +kernel
theorem dX4_append_86 : decode cX4_append 86 = .ok (.ireturn, 1) := by decide +kernel
theorem dX4_append_87 : decode cX4_append 87 = .ok (.iconst 0, 1) := by decide +kernel
theorem dX4_append_88 : decode cX4_append 88 = .ok (.istore 6, 2) := by decide +kernel
theorem dX4_append_90 : decode cX4_append 90 = .ok (.iload 6, 2) := by decide +kernel
theorem dX4_append_92 : decode cX4_append 92 = .ok (.iload 5, 2) := by decide +kernel
theorem dX4_append_94 : decode cX4_append 94 = .ok (.if_icmp .ge 39, 3) := by decide +kernel
theorem dX4_append_97 : decode cX4_append 97 = .ok (.aload_n 0, 1) := by decide +kernel
theorem dX4_append_98 : decode cX4_append 98 = .ok (.getfield 11, 3) := by decide +kernel
theorem dX4_append_101 : decode cX4_append 101 = .ok (.aload_n 0, 1) := by decide +kernel
theorem dX4_append_102 : decode cX4_append 102 = .ok (.getfield 21, 3) := by decide +kernel
theorem dX4_append_105 : decode cX4_append 105 = .ok (.iload 5, 2) := by decide +kernel
theorem dX4_append_107 : decode cX4_append 107 = .ok (.iadd, 1) := by decide +kernel
theorem dX4_append_108 : decode cX4_append 108 = .ok (.iconst 1, 1) := by decide +kernel
theorem dX4_append_109 : decode cX4_append 109 = .ok (.isub, 1) := by decide +kernel
theorem dX4_append_110 : decode cX4_append 110 = .ok (.iload 6, 2) := by decide +kernel
theorem dX4_append_112 : decode cX4_append 112 = .ok (.isub, 1) := by decide +kernel
theorem dX4_append_113 : decode cX4_append 113 = .ok (.lload_n 1, 1) := by decide +kernel
theorem dX4_append_114 : decode cX4_append 114 = .ok (.bipush 8, 2) := by decide +kernel
theorem dX4_append_116 : decode cX4_append 116 = .ok (.iload 6, 2) := by decide +kernel
theorem dX4_append_118 : decode cX4_append 118 = .ok (.imul, 1) := by decide +kernel
theorem dX4_append_119 : decode cX4_append 119 = .ok (.lushr, 1) := by decide +kernel
theorem dX4_append_120 : decode cX4_append 120 = .ok (.ldc2_w 34, 3) := by decide +kernel
theorem dX4_append_123 : decode cX4_append 123 = .ok (.land, 1) := by decide +kernel
theorem dX4_append_124 : decode cX4_append 124 = .ok (.l2i, 1) := by decide +kernel
theorem dX4_append_125 : decode cX4_append 125 = .ok (.i2c, 1) := by decide +kernel
theorem dX4_append_126 : decode cX4_append 126 = .ok (.castore, 1) := by decide +kernel
theorem dX4_append_127 : decode cX4_append 127 = .ok (.iinc 6 1, 3) := by decide +kernel
theorem dX4_append_130 : decode cX4_append 130 = .ok (.goto (-40), 3) := by decide +kernel
theorem dX4_append_133 : decode cX4_append 133 = .ok (.aload_n 0, 1) := by decide +kernel
theorem dX4_append_134 : decode cX4_append 134 = .ok (.dup, 1) := by decide +kernel
theorem dX4_append_135 : decode cX4_append 135 = .ok (.getfield 21, 3) := by decide +kernel
theorem dX4_append_138 : decode cX4_append 138 = .ok (.iload 5, 2) := by decide +kernel
theorem dX4_append_140 : decode cX4_append 140 = .ok (.iadd, 1) := by decide +kernel
theorem dX4_append_141 : decode cX4_append 141 = .ok (.putfield 21, 3) := by decide +kernel
theorem dX4_append_144 : decode cX4_append 144 = .ok (.aload_n 0, 1) := by decide +kernel
theorem dX4_append_145 : decode cX4_append 145 = .ok (.getfield 21, 3) := by decide +kernel
theorem dX4_append_148 : decode cX4_append 148 = .ok (.ireturn, 1) := by decide +kernel
theorem dX4_firstFault_0 : decode cX4_firstFault 0 = .ok (.aload_n 0, 1) := by decide +kernel
theorem dX4_firstFault_1 : decode cX4_firstFault 1 = .ok (.iconst 0, 1) := by decide +kernel
theorem dX4_firstFault_2 : decode cX4_firstFault 2 = .ok (.putfield 25, 3) := by decide +kernel
theorem dX4_firstFault_5 : decode cX4_firstFault 5 = .ok (.iconst 0, 1) := by decide +kernel
theorem dX4_firstFault_6 : decode cX4_firstFault 6 = .ok (.istore_n 1, 1) := by decide +kernel
theorem dX4_firstFault_7 : decode cX4_firstFault 7 = .ok (.iload_n 1, 1) := by decide +kernel
theorem dX4_firstFault_8 : decode cX4_firstFault 8 = .ok (.bipush 80, 2) := by decide +kernel
theorem dX4_firstFault_10 : decode cX4_firstFault 10 = .ok (.if_icmp .ge 35, 3) := by decide +kernel
theorem dX4_firstFault_13 : decode cX4_firstFault 13 = .ok (.aload_n 0, 1) := by decide +kernel
theorem dX4_firstFault_14 : decode cX4_firstFault 14 = .ok (.invokevirtual 36, 3) := by decide +kernel
theorem dX4_firstFault_17 : decode cX4_firstFault 17 = .ok (.ifCond .ne 8, 3) := by decide +kernel
theorem dX4_firstFault_20 : decode cX4_firstFault 20 = .ok (.aload_n 0, 1) := by decide +kernel
theorem dX4_firstFault_21 : decode cX4_firstFault 21 = .ok (.getfield 25, 3) := by decide +kernel
theorem dX4_firstFault_24 : decode cX4_firstFault 24 = .ok (.ireturn, 1) := by decide +kernel
theorem dX4_firstFault_25 : decode cX4_firstFault 25 = .ok (.aload_n 0, 1) := by decide +kernel
theorem dX4_firstFault_26 : decode cX4_firstFault 26 = .ok (.getfield 25, 3) := by decide +kernel
theorem dX4_firstFault_29 : decode cX4_firstFault 29 = .ok (.aload_n 0, 1) := by decide +kernel
theorem dX4_firstFault_30 : decode cX4_firstFault 30 = .ok (.getfield 21, 3) := by decide +kernel
theorem dX4_firstFault_33 : decode cX4_firstFault 33 = .ok (.if_icmp .lt 6, 3) := by decide +kernel
theorem dX4_firstFault_36 : decode cX4_firstFault 36 = .ok (.bipush (-6), 2) := by decide +kernel
theorem dX4_firstFault_38 : decode cX4_firstFault 38 = .ok (.ireturn, 1) := by decide +kernel
theorem dX4_firstFault_39 : decode cX4_firstFault 39 = .ok (.iinc 1 1, 3) := by decide +kernel
theorem dX4_firstFault_42 : decode cX4_firstFault 42 = .ok (.goto (-35), 3) := by decide +kernel
theorem dX4_firstFault_45 : decode cX4_firstFault 45 = .ok (.aload_n 0, 1) := by decide +kernel
theorem dX4_firstFault_46 : decode cX4_firstFault 46 = .ok (.getfield 25, 3) := by decide +kernel
theorem dX4_firstFault_49 : decode cX4_firstFault 49 = .ok (.ireturn, 1) := by decide +kernel
theorem dX4_number_0 : decode cX4_number 0 = .ok (.iload_n 1, 1) := by decide +kernel
theorem dX4_number_1 : decode cX4_number 1 = .ok (.ifCond .lt 29, 3) := by decide +kernel
theorem dX4_number_4 : decode cX4_number 4 = .ok (.iload_n 1, 1) := by decide +kernel
theorem dX4_number_5 : decode cX4_number 5 = .ok (.aload_n 0, 1) := by decide +kernel
theorem dX4_number_6 : decode cX4_number 6 = .ok (.getfield 31, 3) := by decide +kernel
theorem dX4_number_9 : decode cX4_number 9 = .ok (.if_icmp .ge 21, 3) := by decide +kernel
theorem dX4_number_12 : decode cX4_number 12 = .ok (.iload_n 1, 1) := by decide +kernel
theorem dX4_number_13 : decode cX4_number 13 = .ok (.aload_n 0, 1) := by decide +kernel
theorem dX4_number_14 : decode cX4_number 14 = .ok (.getfield 17, 3) := by decide +kernel
theorem dX4_number_17 : decode cX4_number 17 = .ok (.arraylength, 1) := by decide +kernel
theorem dX4_number_18 : decode cX4_number 18 = .ok (.if_icmp .ge 12, 3) := by decide +kernel
theorem dX4_number_21 : decode cX4_number 21 = .ok (.aload_n 0, 1) := by decide +kernel
theorem dX4_number_22 : decode cX4_number 22 = .ok (.getfield 17, 3) := by decide +kernel
theorem dX4_number_25 : decode cX4_number 25 = .ok (.iload_n 1, 1) := by decide +kernel
theorem dX4_number_26 : decode cX4_number 26 = .ok (.iaload, 1) := by decide +kernel
theorem dX4_number_27 : decode cX4_number 27 = .ok (.goto 4, 3) := by decide +kernel
theorem dX4_number_30 : decode cX4_number 30 = .ok (.iconst 0, 1) := by decide +kernel
theorem dX4_number_31 : decode cX4_number 31 = .ok (.ireturn, 1) := by decide +kernel
theorem dX4_readNext_0 : decode cX4_readNext 0 = .ok (.aload_n 0, 1) := by decide +kernel
theorem dX4_readNext_1 : decode cX4_readNext 1 = .ok (.getfield 25, 3) := by decide +kernel
theorem dX4_readNext_4 : decode cX4_readNext 4 = .ok (.ifCond .le 14, 3) := by decide +kernel
theorem dX4_readNext_7 : decode cX4_readNext 7 = .ok (.aload_n 0, 1) := by decide +kernel
theorem dX4_readNext_8 : decode cX4_readNext 8 = .ok (.bipush 59, 2) := by decide +kernel
theorem dX4_readNext_10 : decode cX4_readNext 10 = .ok (.invokevirtual 40, 3) := by decide +kernel
theorem dX4_readNext_13 : decode cX4_readNext 13 = .ok (.ifCond .ne 5, 3) := by decide +kernel
theorem dX4_readNext_16 : decode cX4_readNext 16 = .ok (.iconst 0, 1) := by decide +kernel
theorem dX4_readNext_17 : decode cX4_readNext 17 = .ok (.ireturn, 1) := by decide +kernel
theorem dX4_readNext_18 : decode cX4_readNext 18 = .ok (.aload_n 0, 1) := by decide +kernel
theorem dX4_readNext_19 : decode cX4_readNext 19 = .ok (.iconst 0, 1) := by decide +kernel
theorem dX4_readNext_20 : decode cX4_readNext 20 = .ok (.putfield 31, 3) := by decide +kernel
theorem dX4_readNext_23 : decode cX4_readNext 23 = .ok (.aload_n 0, 1) := by decide +kernel
theorem dX4_readNext_24 : decode cX4_readNext 24 = .ok (.aload_n 0, 1) := by decide +kernel
theorem dX4_readNext_25 : decode cX4_readNext 25 = .ok (.invokevirtual 44, 3) := by decide +kernel
theorem dX4_readNext_28 : decode cX4_readNext 28 = .ok (.putfield 28, 3) := by decide +kernel
theorem dX4_readNext_31 : decode cX4_readNext 31 = .ok (.aload_n 0, 1) := by decide +kernel
theorem dX4_readNext_32 : decode cX4_readNext 32 = .ok (.getfield 28, 3) := by decide +kernel
theorem dX4_readNext_35 : decode cX4_readNext 35 = .ok (.lookupswitch 121 #[(45, 64), (98, 109), (112, 79), (114, 49), (115, 94)], 49) := by decide +kernel
theorem dX4_readNext_84 : decode cX4_readNext 84 = .ok (.aload_n 0, 1) := by decide +kernel
theorem dX4_readNext_85 : decode cX4_readNext 85 = .ok (.dup, 1) := by decide +kernel
theorem dX4_readNext_86 : decode cX4_readNext 86 = .ok (.getfield 25, 3) := by decide +kernel
theorem dX4_readNext_89 : decode cX4_readNext 89 = .ok (.iconst 1, 1) := by decide +kernel
theorem dX4_readNext_90 : decode cX4_readNext 90 = .ok (.iadd, 1) := by decide +kernel
theorem dX4_readNext_91 : decode cX4_readNext 91 = .ok (.putfield 25, 3) := by decide +kernel
theorem dX4_readNext_94 : decode cX4_readNext 94 = .ok (.aload_n 0, 1) := by decide +kernel
theorem dX4_readNext_95 : decode cX4_readNext 95 = .ok (.invokevirtual 48, 3) := by decide +kernel
theorem dX4_readNext_98 : decode cX4_readNext 98 = .ok (.ireturn, 1) := by decide +kernel
theorem dX4_readNext_99 : decode cX4_readNext 99 = .ok (.aload_n 0, 1) := by decide +kernel
theorem dX4_readNext_100 : decode cX4_readNext 100 = .ok (.dup, 1) := by decide +kernel
theorem dX4_readNext_101 : decode cX4_readNext 101 = .ok (.getfield 25, 3) := by decide +kernel
theorem dX4_readNext_104 : decode cX4_readNext 104 = .ok (.iconst 1, 1) := by decide +kernel
theorem dX4_readNext_105 : decode cX4_readNext 105 = .ok (.iadd, 1) := by decide +kernel
theorem dX4_readNext_106 : decode cX4_readNext 106 = .ok (.putfield 25, 3) := by decide +kernel
theorem dX4_readNext_109 : decode cX4_readNext 109 = .ok (.aload_n 0, 1) := by decide +kernel
theorem dX4_readNext_110 : decode cX4_readNext 110 = .ok (.invokevirtual 51, 3) := by decide +kernel
theorem dX4_readNext_113 : decode cX4_readNext 113 = .ok (.ireturn, 1) := by decide +kernel
theorem dX4_readNext_114 : decode cX4_readNext 114 = .ok (.aload_n 0, 1) := by decide +kernel
theorem dX4_readNext_115 : decode cX4_readNext 115 = .ok (.dup, 1) := by decide +kernel
theorem dX4_readNext_116 : decode cX4_readNext 116 = .ok (.getfield 25, 3) := by decide +kernel
theorem dX4_readNext_119 : decode cX4_readNext 119 = .ok (.iconst 1, 1) := by decide +kernel
theorem dX4_readNext_120 : decode cX4_readNext 120 = .ok (.iadd, 1) := by decide +kernel
theorem dX4_readNext_121 : decode cX4_readNext 121 = .ok (.putfield 25, 3) := by decide +kernel
theorem dX4_readNext_124 : decode cX4_readNext 124 = .ok (.aload_n 0, 1) := by decide +kernel
theorem dX4_readNext_125 : decode cX4_readNext 125 = .ok (.invokevirtual 54, 3) := by decide +kernel
theorem dX4_readNext_128 : decode cX4_readNext 128 = .ok (.ireturn, 1) := by decide +kernel
theorem dX4_readNext_129 : decode cX4_readNext 129 = .ok (.aload_n 0, 1) := by decide +kernel
theorem dX4_readNext_130 : decode cX4_readNext 130 = .ok (.dup, 1) := by decide +kernel
theorem dX4_readNext_131 : decode cX4_readNext 131 = .ok (.getfield 25, 3) := by decide +kernel
theorem dX4_readNext_134 : decode cX4_readNext 134 = .ok (.iconst 1, 1) := by decide +kernel
theorem dX4_readNext_135 : decode cX4_readNext 135 = .ok (.iadd, 1) := by decide +kernel
theorem dX4_readNext_136 : decode cX4_readNext 136 = .ok (.putfield 25, 3) := by decide +kernel
theorem dX4_readNext_139 : decode cX4_readNext 139 = .ok (.aload_n 0, 1) := by decide +kernel
theorem dX4_readNext_140 : decode cX4_readNext 140 = .ok (.invokevirtual 57, 3) := by decide +kernel
theorem dX4_readNext_143 : decode cX4_readNext 143 = .ok (.ireturn, 1) := by decide +kernel
theorem dX4_readNext_144 : decode cX4_readNext 144 = .ok (.aload_n 0, 1) := by decide +kernel
theorem dX4_readNext_145 : decode cX4_readNext 145 = .ok (.dup, 1) := by decide +kernel
theorem dX4_readNext_146 : decode cX4_readNext 146 = .ok (.getfield 25, 3) := by decide +kernel
theorem dX4_readNext_149 : decode cX4_readNext 149 = .ok (.iconst 1, 1) := by decide +kernel
theorem dX4_readNext_150 : decode cX4_readNext 150 = .ok (.iadd, 1) := by decide +kernel
theorem dX4_readNext_151 : decode cX4_readNext 151 = .ok (.putfield 25, 3) := by decide +kernel
theorem dX4_readNext_154 : decode cX4_readNext 154 = .ok (.iconst 1, 1) := by decide +kernel
theorem dX4_readNext_155 : decode cX4_readNext 155 = .ok (.ireturn, 1) := by decide +kernel
theorem dX4_readNext_156 : decode cX4_readNext 156 = .ok (.iconst 0, 1) := by decide +kernel
theorem dX4_readNext_157 : decode cX4_readNext 157 = .ok (.ireturn, 1) := by decide +kernel
theorem dX4_readHire_0 : decode cX4_readHire 0 = .ok (.aload_n 0, 1) := by decide +kernel
theorem dX4_readHire_1 : decode cX4_readHire 1 = .ok (.invokevirtual 54, 3) := by decide +kernel
theorem dX4_readHire_4 : decode cX4_readHire 4 = .ok (.ifCond .eq 35, 3) := by decide +kernel
theorem dX4_readHire_7 : decode cX4_readHire 7 = .ok (.aload_n 0, 1) := by decide +kernel
theorem dX4_readHire_8 : decode cX4_readHire 8 = .ok (.bipush 44, 2) := by decide +kernel
theorem dX4_readHire_10 : decode cX4_readHire 10 = .ok (.invokevirtual 40, 3) := by decide +kernel
theorem dX4_readHire_13 : decode cX4_readHire 13 = .ok (.ifCond .eq 26, 3) := by decide +kernel
theorem dX4_readHire_16 : decode cX4_readHire 16 = .ok (.aload_n 0, 1) := by decide +kernel
theorem dX4_readHire_17 : decode cX4_readHire 17 = .ok (.invokevirtual 54, 3) := by decide +kernel
theorem dX4_readHire_20 : decode cX4_readHire 20 = .ok (.ifCond .eq 19, 3) := by decide +kernel
theorem dX4_readHire_23 : decode cX4_readHire 23 = .ok (.aload_n 0, 1) := by decide +kernel
theorem dX4_readHire_24 : decode cX4_readHire 24 = .ok (.bipush 36, 2) := by decide +kernel
theorem dX4_readHire_26 : decode cX4_readHire 26 = .ok (.invokevirtual 40, 3) := by decide +kernel
theorem dX4_readHire_29 : decode cX4_readHire 29 = .ok (.ifCond .eq 10, 3) := by decide +kernel
theorem dX4_readHire_32 : decode cX4_readHire 32 = .ok (.aload_n 0, 1) := by decide +kernel
theorem dX4_readHire_33 : decode cX4_readHire 33 = .ok (.invokevirtual 54, 3) := by decide +kernel
theorem dX4_readHire_36 : decode cX4_readHire 36 = .ok (.ifCond .ne 5, 3) := by decide +kernel
theorem dX4_readHire_39 : decode cX4_readHire 39 = .ok (.iconst 0, 1) := by decide +kernel
theorem dX4_readHire_40 : decode cX4_readHire 40 = .ok (.ireturn, 1) := by decide +kernel
theorem dX4_readHire_41 : decode cX4_readHire 41 = .ok (.aload_n 0, 1) := by decide +kernel
theorem dX4_readHire_42 : decode cX4_readHire 42 = .ok (.bipush 33, 2) := by decide +kernel
theorem dX4_readHire_44 : decode cX4_readHire 44 = .ok (.invokevirtual 40, 3) := by decide +kernel
theorem dX4_readHire_47 : decode cX4_readHire 47 = .ok (.ifCond .ne 5, 3) := by decide +kernel
theorem dX4_readHire_50 : decode cX4_readHire 50 = .ok (.iconst 1, 1) := by decide +kernel
theorem dX4_readHire_51 : decode cX4_readHire 51 = .ok (.ireturn, 1) := by decide +kernel
theorem dX4_readHire_52 : decode cX4_readHire 52 = .ok (.aload_n 0, 1) := by decide +kernel
theorem dX4_readHire_53 : decode cX4_readHire 53 = .ok (.bipush 45, 2) := by decide +kernel
theorem dX4_readHire_55 : decode cX4_readHire 55 = .ok (.invokevirtual 40, 3) := by decide +kernel
theorem dX4_readHire_58 : decode cX4_readHire 58 = .ok (.istore_n 1, 1) := by decide +kernel
theorem dX4_readHire_59 : decode cX4_readHire 59 = .ok (.aload_n 0, 1) := by decide +kernel
theorem dX4_readHire_60 : decode cX4_readHire 60 = .ok (.invokevirtual 54, 3) := by decide +kernel
theorem dX4_readHire_63 : decode cX4_readHire 63 = .ok (.ifCond .ne 5, 3) := by decide +kernel
theorem dX4_readHire_66 : decode cX4_readHire 66 = .ok (.iconst 0, 1) := by decide +kernel
theorem dX4_readHire_67 : decode cX4_readHire 67 = .ok (.ireturn, 1) := by decide +kernel
theorem dX4_readHire_68 : decode cX4_readHire 68 = .ok (.iload_n 1, 1) := by decide +kernel
theorem dX4_readHire_69 : decode cX4_readHire 69 = .ok (.ifCond .eq 33, 3) := by decide +kernel
theorem dX4_readHire_72 : decode cX4_readHire 72 = .ok (.aload_n 0, 1) := by decide +kernel
theorem dX4_readHire_73 : decode cX4_readHire 73 = .ok (.getfield 31, 3) := by decide +kernel
theorem dX4_readHire_76 : decode cX4_readHire 76 = .ok (.ifCond .le 26, 3) := by decide +kernel
theorem dX4_readHire_79 : decode cX4_readHire 79 = .ok (.aload_n 0, 1) := by decide +kernel
theorem dX4_readHire_80 : decode cX4_readHire 80 = .ok (.getfield 17, 3) := by decide +kernel
theorem dX4_readHire_83 : decode cX4_readHire 83 = .ok (.aload_n 0, 1) := by decide +kernel
theorem dX4_readHire_84 : decode cX4_readHire 84 = .ok (.getfield 31, 3) := by decide +kernel
theorem dX4_readHire_87 : decode cX4_readHire 87 = .ok (.iconst 1, 1) := by decide +kernel
theorem dX4_readHire_88 : decode cX4_readHire 88 = .ok (.isub, 1) := by decide +kernel
theorem dX4_readHire_89 : decode cX4_readHire 89 = .ok (.aload_n 0, 1) := by decide +kernel
theorem dX4_readHire_90 : decode cX4_readHire 90 = .ok (.getfield 17, 3) := by decide +kernel
theorem dX4_readHire_93 : decode cX4_readHire 93 = .ok (.aload_n 0, 1) := by decide +kernel
theorem dX4_readHire_94 : decode cX4_readHire 94 = .ok (.getfield 31, 3) := by decide +kernel
theorem dX4_readHire_97 : decode cX4_readHire 97 = .ok (.iconst 1, 1) := by decide +kernel
theorem dX4_readHire_98 : decode cX4_readHire 98 = .ok (.isub, 1) := by decide +kernel
theorem dX4_readHire_99 : decode cX4_readHire 99 = .ok (.iaload, 1) := by decide +kernel
theorem dX4_readHire_100 : decode cX4_readHire 100 = .ok (.ineg, 1) := by decide +kernel
theorem dX4_readHire_101 : decode cX4_readHire 101 = .ok (.iastore, 1) := by decide +kernel
theorem dX4_readHire_102 : decode cX4_readHire 102 = .ok (.iconst 1, 1) := by decide +kernel
theorem dX4_readHire_103 : decode cX4_readHire 103 = .ok (.ireturn, 1) := by decide +kernel
theorem dX4_readParts_0 : decode cX4_readParts 0 = .ok (.iconst 0, 1) := by decide +kernel
theorem dX4_readParts_1 : decode cX4_readParts 1 = .ok (.istore_n 1, 1) := by decide +kernel
theorem dX4_readParts_2 : decode cX4_readParts 2 = .ok (.iload_n 1, 1) := by decide +kernel
theorem dX4_readParts_3 : decode cX4_readParts 3 = .ok (.bipush 6, 2) := by decide +kernel
theorem dX4_readParts_5 : decode cX4_readParts 5 = .ok (.if_icmp .ge 50, 3) := by decide +kernel
theorem dX4_readParts_8 : decode cX4_readParts 8 = .ok (.aload_n 0, 1) := by decide +kernel
theorem dX4_readParts_9 : decode cX4_readParts 9 = .ok (.invokevirtual 54, 3) := by decide +kernel
theorem dX4_readParts_12 : decode cX4_readParts 12 = .ok (.ifCond .eq 19, 3) := by decide +kernel
theorem dX4_readParts_15 : decode cX4_readParts 15 = .ok (.aload_n 0, 1) := by decide +kernel
theorem dX4_readParts_16 : decode cX4_readParts 16 = .ok (.bipush 64, 2) := by decide +kernel
theorem dX4_readParts_18 : decode cX4_readParts 18 = .ok (.invokevirtual 40, 3) := by decide +kernel
theorem dX4_readParts_21 : decode cX4_readParts 21 = .ok (.ifCond .eq 10, 3) := by decide +kernel
theorem dX4_readParts_24 : decode cX4_readParts 24 = .ok (.aload_n 0, 1) := by decide +kernel
theorem dX4_readParts_25 : decode cX4_readParts 25 = .ok (.invokevirtual 54, 3) := by decide +kernel
theorem dX4_readParts_28 : decode cX4_readParts 28 = .ok (.ifCond .ne 5, 3) := by decide +kernel
theorem dX4_readParts_31 : decode cX4_readParts 31 = .ok (.iconst 0, 1) := by decide +kernel
theorem dX4_readParts_32 : decode cX4_readParts 32 = .ok (.ireturn, 1) := by decide +kernel
theorem dX4_readParts_33 : decode cX4_readParts 33 = .ok (.iload_n 1, 1) := by decide +kernel
theorem dX4_readParts_34 : decode cX4_readParts 34 = .ok (.iconst 5, 1) := by decide +kernel
theorem dX4_readParts_35 : decode cX4_readParts 35 = .ok (.if_icmp .eq 12, 3) := by decide +kernel
theorem dX4_readParts_38 : decode cX4_readParts 38 = .ok (.aload_n 0, 1) := by decide +kernel
theorem dX4_readParts_39 : decode cX4_readParts 39 = .ok (.bipush 44, 2) := by decide +kernel
theorem dX4_readParts_41 : decode cX4_readParts 41 = .ok (.invokevirtual 40, 3) := by decide +kernel
theorem dX4_readParts_44 : decode cX4_readParts 44 = .ok (.ifCond .ne 5, 3) := by decide +kernel
theorem dX4_readParts_47 : decode cX4_readParts 47 = .ok (.iconst 1, 1) := by decide +kernel
theorem dX4_readParts_48 : decode cX4_readParts 48 = .ok (.ireturn, 1) := by decide +kernel
theorem dX4_readParts_49 : decode cX4_readParts 49 = .ok (.iinc 1 1, 3) := by decide +kernel
theorem dX4_readParts_52 : decode cX4_readParts 52 = .ok (.goto (-50), 3) := by decide +kernel
theorem dX4_readParts_55 : decode cX4_readParts 55 = .ok (.iconst 1, 1) := by decide +kernel
theorem dX4_readParts_56 : decode cX4_readParts 56 = .ok (.ireturn, 1) := by decide +kernel
theorem dX4_readDigit_0 : decode cX4_readDigit 0 = .ok (.aload_n 0, 1) := by decide +kernel
theorem dX4_readDigit_1 : decode cX4_readDigit 1 = .ok (.invokevirtual 44, 3) := by decide +kernel
theorem dX4_readDigit_4 : decode cX4_readDigit 4 = .ok (.bipush 48, 2) := by decide +kernel
theorem dX4_readDigit_6 : decode cX4_readDigit 6 = .ok (.isub, 1) := by decide +kernel
theorem dX4_readDigit_7 : decode cX4_readDigit 7 = .ok (.istore_n 1, 1) := by decide +kernel
theorem dX4_readDigit_8 : decode cX4_readDigit 8 = .ok (.iload_n 1, 1) := by decide +kernel
theorem dX4_readDigit_9 : decode cX4_readDigit 9 = .ok (.ifCond .lt 8, 3) := by decide +kernel
theorem dX4_readDigit_12 : decode cX4_readDigit 12 = .ok (.iload_n 1, 1) := by decide +kernel
theorem dX4_readDigit_13 : decode cX4_readDigit 13 = .ok (.iconst 4, 1) := by decide +kernel
theorem dX4_readDigit_14 : decode cX4_readDigit 14 = .ok (.if_icmp .le 5, 3) := by decide +kernel
theorem dX4_readDigit_17 : decode cX4_readDigit 17 = .ok (.iconst 0, 1) := by decide +kernel
theorem dX4_readDigit_18 : decode cX4_readDigit 18 = .ok (.ireturn, 1) := by decide +kernel
theorem dX4_readDigit_19 : decode cX4_readDigit 19 = .ok (.aload_n 0, 1) := by decide +kernel
theorem dX4_readDigit_20 : decode cX4_readDigit 20 = .ok (.dup, 1) := by decide +kernel
theorem dX4_readDigit_21 : decode cX4_readDigit 21 = .ok (.getfield 25, 3) := by decide +kernel
theorem dX4_readDigit_24 : decode cX4_readDigit 24 = .ok (.iconst 1, 1) := by decide +kernel
theorem dX4_readDigit_25 : decode cX4_readDigit 25 = .ok (.iadd, 1) := by decide +kernel
theorem dX4_readDigit_26 : decode cX4_readDigit 26 = .ok (.putfield 25, 3) := by decide +kernel
theorem dX4_readDigit_29 : decode cX4_readDigit 29 = .ok (.aload_n 0, 1) := by decide +kernel
theorem dX4_readDigit_30 : decode cX4_readDigit 30 = .ok (.iload_n 1, 1) := by decide +kernel
theorem dX4_readDigit_31 : decode cX4_readDigit 31 = .ok (.invokevirtual 60, 3) := by decide +kernel
theorem dX4_readDigit_34 : decode cX4_readDigit 34 = .ok (.iconst 1, 1) := by decide +kernel
theorem dX4_readDigit_35 : decode cX4_readDigit 35 = .ok (.ireturn, 1) := by decide +kernel
theorem dX4_readNumber_0 : decode cX4_readNumber 0 = .ok (.aload_n 0, 1) := by decide +kernel
theorem dX4_readNumber_1 : decode cX4_readNumber 1 = .ok (.invokevirtual 44, 3) := by decide +kernel
theorem dX4_readNumber_4 : decode cX4_readNumber 4 = .ok (.invokestatic 64, 3) := by decide +kernel
theorem dX4_readNumber_7 : decode cX4_readNumber 7 = .ok (.ifCond .ne 5, 3) := by decide +kernel
theorem dX4_readNumber_10 : decode cX4_readNumber 10 = .ok (.iconst 0, 1) := by decide +kernel
theorem dX4_readNumber_11 : decode cX4_readNumber 11 = .ok (.ireturn, 1) := by decide +kernel
theorem dX4_readNumber_12 : decode cX4_readNumber 12 = .ok (.aload_n 0, 1) := by decide +kernel
theorem dX4_readNumber_13 : decode cX4_readNumber 13 = .ok (.invokevirtual 44, 3) := by decide +kernel
theorem dX4_readNumber_16 : decode cX4_readNumber 16 = .ok (.bipush 48, 2) := by decide +kernel
theorem dX4_readNumber_18 : decode cX4_readNumber 18 = .ok (.isub, 1) := by decide +kernel
theorem dX4_readNumber_19 : decode cX4_readNumber 19 = .ok (.istore_n 1, 1) := by decide +kernel
theorem dX4_readNumber_20 : decode cX4_readNumber 20 = .ok (.aload_n 0, 1) := by decide +kernel
theorem dX4_readNumber_21 : decode cX4_readNumber 21 = .ok (.dup, 1) := by decide +kernel
theorem dX4_readNumber_22 : decode cX4_readNumber 22 = .ok (.getfield 25, 3) := by decide +kernel
theorem dX4_readNumber_25 : decode cX4_readNumber 25 = .ok (.iconst 1, 1) := by decide +kernel
theorem dX4_readNumber_26 : decode cX4_readNumber 26 = .ok (.iadd, 1) := by decide +kernel
theorem dX4_readNumber_27 : decode cX4_readNumber 27 = .ok (.putfield 25, 3) := by decide +kernel
theorem dX4_readNumber_30 : decode cX4_readNumber 30 = .ok (.aload_n 0, 1) := by decide +kernel
theorem dX4_readNumber_31 : decode cX4_readNumber 31 = .ok (.getfield 25, 3) := by decide +kernel
theorem dX4_readNumber_34 : decode cX4_readNumber 34 = .ok (.aload_n 0, 1) := by decide +kernel
theorem dX4_readNumber_35 : decode cX4_readNumber 35 = .ok (.getfield 21, 3) := by decide +kernel
theorem dX4_readNumber_38 : decode cX4_readNumber 38 = .ok (.if_icmp .ge 61, 3) := by decide +kernel
theorem dX4_readNumber_41 : decode cX4_readNumber 41 = .ok (.iload_n 1, 1) := by decide +kernel
theorem dX4_readNumber_42 : decode cX4_readNumber 42 = .ok (.ifCond .le 57, 3) := by decide +kernel
theorem dX4_readNumber_45 : decode cX4_readNumber 45 = .ok (.aload_n 0, 1) := by decide +kernel
theorem dX4_readNumber_46 : decode cX4_readNumber 46 = .ok (.invokevirtual 44, 3) := by decide +kernel
theorem dX4_readNumber_49 : decode cX4_readNumber 49 = .ok (.invokestatic 64, 3) := by decide +kernel
theorem dX4_readNumber_52 : decode cX4_readNumber 52 = .ok (.ifCond .eq 47, 3) := by decide +kernel
theorem dX4_readNumber_55 : decode cX4_readNumber 55 = .ok (.bipush 10, 2) := by decide +kernel
theorem dX4_readNumber_57 : decode cX4_readNumber 57 = .ok (.iload_n 1, 1) := by decide +kernel
theorem dX4_readNumber_58 : decode cX4_readNumber 58 = .ok (.imul, 1) := by decide +kernel
theorem dX4_readNumber_59 : decode cX4_readNumber 59 = .ok (.aload_n 0, 1) := by decide +kernel
theorem dX4_readNumber_60 : decode cX4_readNumber 60 = .ok (.invokevirtual 44, 3) := by decide +kernel
theorem dX4_readNumber_63 : decode cX4_readNumber 63 = .ok (.iadd, 1) := by decide +kernel
theorem dX4_readNumber_64 : decode cX4_readNumber 64 = .ok (.bipush 48, 2) := by decide +kernel
theorem dX4_readNumber_66 : decode cX4_readNumber 66 = .ok (.isub, 1) := by decide +kernel
theorem dX4_readNumber_67 : decode cX4_readNumber 67 = .ok (.sipush 999, 3) := by decide +kernel
theorem dX4_readNumber_70 : decode cX4_readNumber 70 = .ok (.if_icmp .gt 29, 3) := by decide +kernel
theorem dX4_readNumber_73 : decode cX4_readNumber 73 = .ok (.bipush 10, 2) := by decide +kernel
theorem dX4_readNumber_75 : decode cX4_readNumber 75 = .ok (.iload_n 1, 1) := by decide +kernel
theorem dX4_readNumber_76 : decode cX4_readNumber 76 = .ok (.imul, 1) := by decide +kernel
theorem dX4_readNumber_77 : decode cX4_readNumber 77 = .ok (.aload_n 0, 1) := by decide +kernel
theorem dX4_readNumber_78 : decode cX4_readNumber 78 = .ok (.invokevirtual 44, 3) := by decide +kernel
theorem dX4_readNumber_81 : decode cX4_readNumber 81 = .ok (.iadd, 1) := by decide +kernel
theorem dX4_readNumber_82 : decode cX4_readNumber 82 = .ok (.bipush 48, 2) := by decide +kernel
theorem dX4_readNumber_84 : decode cX4_readNumber 84 = .ok (.isub, 1) := by decide +kernel
theorem dX4_readNumber_85 : decode cX4_readNumber 85 = .ok (.istore_n 1, 1) := by decide +kernel
theorem dX4_readNumber_86 : decode cX4_readNumber 86 = .ok (.aload_n 0, 1) := by decide +kernel
theorem dX4_readNumber_87 : decode cX4_readNumber 87 = .ok (.dup, 1) := by decide +kernel
theorem dX4_readNumber_88 : decode cX4_readNumber 88 = .ok (.getfield 25, 3) := by decide +kernel
theorem dX4_readNumber_91 : decode cX4_readNumber 91 = .ok (.iconst 1, 1) := by decide +kernel
theorem dX4_readNumber_92 : decode cX4_readNumber 92 = .ok (.iadd, 1) := by decide +kernel
theorem dX4_readNumber_93 : decode cX4_readNumber 93 = .ok (.putfield 25, 3) := by decide +kernel
theorem dX4_readNumber_96 : decode cX4_readNumber 96 = .ok (.goto (-66), 3) := by decide +kernel
theorem dX4_readNumber_99 : decode cX4_readNumber 99 = .ok (.aload_n 0, 1) := by decide +kernel
theorem dX4_readNumber_100 : decode cX4_readNumber 100 = .ok (.iload_n 1, 1) := by decide +kernel
theorem dX4_readNumber_101 : decode cX4_readNumber 101 = .ok (.invokevirtual 60, 3) := by decide +kernel
theorem dX4_readNumber_104 : decode cX4_readNumber 104 = .ok (.iconst 1, 1) := by decide +kernel
theorem dX4_readNumber_105 : decode cX4_readNumber 105 = .ok (.ireturn, 1) := by decide +kernel
theorem dX4_isDigit_0 : decode cX4_isDigit 0 = .ok (.iload_n 0, 1) := by decide +kernel
theorem dX4_isDigit_1 : decode cX4_isDigit 1 = .ok (.bipush 48, 2) := by decide +kernel
theorem dX4_isDigit_3 : decode cX4_isDigit 3 = .ok (.if_icmp .lt 13, 3) := by decide +kernel
theorem dX4_isDigit_6 : decode cX4_isDigit 6 = .ok (.iload_n 0, 1) := by decide +kernel
theorem dX4_isDigit_7 : decode cX4_isDigit 7 = .ok (.bipush 57, 2) := by decide +kernel
theorem dX4_isDigit_9 : decode cX4_isDigit 9 = .ok (.if_icmp .gt 7, 3) := by decide +kernel
theorem dX4_isDigit_12 : decode cX4_isDigit 12 = .ok (.iconst 1, 1) := by decide +kernel
theorem dX4_isDigit_13 : decode cX4_isDigit 13 = .ok (.goto 4, 3) := by decide +kernel
theorem dX4_isDigit_16 : decode cX4_isDigit 16 = .ok (.iconst 0, 1) := by decide +kernel
theorem dX4_isDigit_17 : decode cX4_isDigit 17 = .ok (.ireturn, 1) := by decide +kernel
theorem dX4_tell_0 : decode cX4_tell 0 = .ok (.aload_n 0, 1) := by decide +kernel
theorem dX4_tell_1 : decode cX4_tell 1 = .ok (.getfield 31, 3) := by decide +kernel
theorem dX4_tell_4 : decode cX4_tell 4 = .ok (.aload_n 0, 1) := by decide +kernel
theorem dX4_tell_5 : decode cX4_tell 5 = .ok (.getfield 17, 3) := by decide +kernel
theorem dX4_tell_8 : decode cX4_tell 8 = .ok (.arraylength, 1) := by decide +kernel
theorem dX4_tell_9 : decode cX4_tell 9 = .ok (.if_icmp .ge 23, 3) := by decide +kernel
theorem dX4_tell_12 : decode cX4_tell 12 = .ok (.aload_n 0, 1) := by decide +kernel
theorem dX4_tell_13 : decode cX4_tell 13 = .ok (.getfield 17, 3) := by decide +kernel
theorem dX4_tell_16 : decode cX4_tell 16 = .ok (.aload_n 0, 1) := by decide +kernel
theorem dX4_tell_17 : decode cX4_tell 17 = .ok (.getfield 31, 3) := by decide +kernel
theorem dX4_tell_20 : decode cX4_tell 20 = .ok (.iload_n 1, 1) := by decide +kernel
theorem dX4_tell_21 : decode cX4_tell 21 = .ok (.iastore, 1) := by decide +kernel
theorem dX4_tell_22 : decode cX4_tell 22 = .ok (.aload_n 0, 1) := by decide +kernel
theorem dX4_tell_23 : decode cX4_tell 23 = .ok (.dup, 1) := by decide +kernel
theorem dX4_tell_24 : decode cX4_tell 24 = .ok (.getfield 31, 3) := by decide +kernel
theorem dX4_tell_27 : decode cX4_tell 27 = .ok (.iconst 1, 1) := by decide +kernel
theorem dX4_tell_28 : decode cX4_tell 28 = .ok (.iadd, 1) := by decide +kernel
theorem dX4_tell_29 : decode cX4_tell 29 = .ok (.putfield 31, 3) := by decide +kernel
theorem dX4_tell_32 : decode cX4_tell 32 = .ok (.return_, 1) := by decide +kernel
theorem dX4_sign_0 : decode cX4_sign 0 = .ok (.aload_n 0, 1) := by decide +kernel
theorem dX4_sign_1 : decode cX4_sign 1 = .ok (.getfield 25, 3) := by decide +kernel
theorem dX4_sign_4 : decode cX4_sign 4 = .ok (.ifCond .lt 26, 3) := by decide +kernel
theorem dX4_sign_7 : decode cX4_sign 7 = .ok (.aload_n 0, 1) := by decide +kernel
theorem dX4_sign_8 : decode cX4_sign 8 = .ok (.getfield 25, 3) := by decide +kernel
theorem dX4_sign_11 : decode cX4_sign 11 = .ok (.aload_n 0, 1) := by decide +kernel
theorem dX4_sign_12 : decode cX4_sign 12 = .ok (.getfield 21, 3) := by decide +kernel
theorem dX4_sign_15 : decode cX4_sign 15 = .ok (.if_icmp .ge 15, 3) := by decide +kernel
theorem dX4_sign_18 : decode cX4_sign 18 = .ok (.aload_n 0, 1) := by decide +kernel
theorem dX4_sign_19 : decode cX4_sign 19 = .ok (.getfield 11, 3) := by decide +kernel
theorem dX4_sign_22 : decode cX4_sign 22 = .ok (.aload_n 0, 1) := by decide +kernel
theorem dX4_sign_23 : decode cX4_sign 23 = .ok (.getfield 25, 3) := by decide +kernel
theorem dX4_sign_26 : decode cX4_sign 26 = .ok (.caload, 1) := by decide +kernel
theorem dX4_sign_27 : decode cX4_sign 27 = .ok (.goto 4, 3) := by decide +kernel
theorem dX4_sign_30 : decode cX4_sign 30 = .ok (.iconst 0, 1) := by decide +kernel
theorem dX4_sign_31 : decode cX4_sign 31 = .ok (.ireturn, 1) := by decide +kernel
theorem dX4_skip_0 : decode cX4_skip 0 = .ok (.aload_n 0, 1) := by decide +kernel
theorem dX4_skip_1 : decode cX4_skip 1 = .ok (.invokevirtual 44, 3) := by decide +kernel
theorem dX4_skip_4 : decode cX4_skip 4 = .ok (.iload_n 1, 1) := by decide +kernel
theorem dX4_skip_5 : decode cX4_skip 5 = .ok (.if_icmp .eq 5, 3) := by decide +kernel
theorem dX4_skip_8 : decode cX4_skip 8 = .ok (.iconst 0, 1) := by decide +kernel
theorem dX4_skip_9 : decode cX4_skip 9 = .ok (.ireturn, 1) := by decide +kernel
theorem dX4_skip_10 : decode cX4_skip 10 = .ok (.aload_n 0, 1) := by decide +kernel
theorem dX4_skip_11 : decode cX4_skip 11 = .ok (.dup, 1) := by decide +kernel
theorem dX4_skip_12 : decode cX4_skip 12 = .ok (.getfield 25, 3) := by decide +kernel
theorem dX4_skip_15 : decode cX4_skip 15 = .ok (.iconst 1, 1) := by decide +kernel
theorem dX4_skip_16 : decode cX4_skip 16 = .ok (.iadd, 1) := by decide +kernel
theorem dX4_skip_17 : decode cX4_skip 17 = .ok (.putfield 25, 3) := by decide +kernel
theorem dX4_skip_20 : decode cX4_skip 20 = .ok (.iconst 1, 1) := by decide +kernel
theorem dX4_skip_21 : decode cX4_skip 21 = .ok (.ireturn, 1) := by decide +kernel
theorem dX5_init_0 : decode cX5_init 0 = .ok (.aload_n 0, 1) := by decide +kernel
theorem dX5_init_1 : decode cX5_init 1 = .ok (.invokespecial 3, 3) := by decide +kernel
theorem dX5_init_4 : decode cX5_init 4 = .ok (.aload_n 0, 1) := by decide +kernel
theorem dX5_init_5 : decode cX5_init 5 = .ok (.iconst 5, 1) := by decide +kernel
theorem dX5_init_6 : decode cX5_init 6 = .ok (.newarray .int, 2) := by decide +kernel
theorem dX5_init_8 : decode cX5_init 8 = .ok (.putfield 11, 3) := by decide +kernel
theorem dX5_init_11 : decode cX5_init 11 = .ok (.aload_n 0, 1) := by decide +kernel
theorem dX5_init_12 : decode cX5_init 12 = .ok (.iconst 5, 1) := by decide +kernel
theorem dX5_init_13 : decode cX5_init 13 = .ok (.newarray .int, 2) := by decide +kernel
theorem dX5_init_15 : decode cX5_init 15 = .ok (.putfield 15, 3) := by decide +kernel
theorem dX5_init_18 : decode cX5_init 18 = .ok (.aload_n 0, 1) := by decide +kernel
theorem dX5_init_19 : decode cX5_init 19 = .ok (.iconst 5, 1) := by decide +kernel
theorem dX5_init_20 : decode cX5_init 20 = .ok (.newarray .int, 2) := by decide +kernel
theorem dX5_init_22 : decode cX5_init 22 = .ok (.putfield 18, 3) := by decide +kernel
theorem dX5_init_25 : decode cX5_init 25 = .ok (.aload_n 0, 1) := by decide +kernel
theorem dX5_init_26 : decode cX5_init 26 = .ok (.iconst 5, 1) := by decide +kernel
theorem dX5_init_27 : decode cX5_init 27 = .ok (.newarray .int, 2) := by decide +kernel
theorem dX5_init_29 : decode cX5_init 29 = .ok (.putfield 21, 3) := by decide +kernel
theorem dX5_init_32 : decode cX5_init 32 = .ok (.aload_n 0, 1) := by decide +kernel
theorem dX5_init_33 : decode cX5_init 33 = .ok (.iconst 0, 1) := by decide +kernel
theorem dX5_init_34 : decode cX5_init 34 = .ok (.putfield 24, 3) := by decide +kernel
theorem dX5_init_37 : decode cX5_init 37 = .ok (.return_, 1) := by decide +kernel
theorem dX5_copyFrom_0 : decode cX5_copyFrom 0 = .ok (.aload_n 1, 1) := by decide +kernel
theorem dX5_copyFrom_1 : decode cX5_copyFrom 1 = .ok (.getfield 11, 3) := by decide +kernel
theorem dX5_copyFrom_4 : decode cX5_copyFrom 4 = .ok (.iconst 0, 1) := by decide +kernel
theorem dX5_copyFrom_5 : decode cX5_copyFrom 5 = .ok (.aload_n 0, 1) := by decide +kernel
theorem dX5_copyFrom_6 : decode cX5_copyFrom 6 = .ok (.getfield 11, 3) := by decide +kernel
theorem dX5_copyFrom_9 : decode cX5_copyFrom 9 = .ok (.iconst 0, 1) := by decide +kernel
theorem dX5_copyFrom_10 : decode cX5_copyFrom 10 = .ok (.iconst 5, 1) := by decide +kernel
theorem dX5_copyFrom_11 : decode cX5_copyFrom 11 = .ok (.invokestatic 28, 3) := by decide +kernel
theorem dX5_copyFrom_14 : decode cX5_copyFrom 14 = .ok (.aload_n 1, 1) := by decide +kernel
theorem dX5_copyFrom_15 : decode cX5_copyFrom 15 = .ok (.getfield 15, 3) := by decide +kernel
theorem dX5_copyFrom_18 : decode cX5_copyFrom 18 = .ok (.iconst 0, 1) := by decide +kernel
theorem dX5_copyFrom_19 : decode cX5_copyFrom 19 = .ok (.aload_n 0, 1) := by decide +kernel
theorem dX5_copyFrom_20 : decode cX5_copyFrom 20 = .ok (.getfield 15, 3) := by decide +kernel
theorem dX5_copyFrom_23 : decode cX5_copyFrom 23 = .ok (.iconst 0, 1) := by decide +kernel
theorem dX5_copyFrom_24 : decode cX5_copyFrom 24 = .ok (.iconst 5, 1) := by decide +kernel
theorem dX5_copyFrom_25 : decode cX5_copyFrom 25 = .ok (.invokestatic 28, 3) := by decide +kernel
theorem dX5_copyFrom_28 : decode cX5_copyFrom 28 = .ok (.aload_n 1, 1) := by decide +kernel
theorem dX5_copyFrom_29 : decode cX5_copyFrom 29 = .ok (.getfield 18, 3) := by decide +kernel
theorem dX5_copyFrom_32 : decode cX5_copyFrom 32 = .ok (.iconst 0, 1) := by decide +kernel
theorem dX5_copyFrom_33 : decode cX5_copyFrom 33 = .ok (.aload_n 0, 1) := by decide +kernel
theorem dX5_copyFrom_34 : decode cX5_copyFrom 34 = .ok (.getfield 18, 3) := by decide +kernel
theorem dX5_copyFrom_37 : decode cX5_copyFrom 37 = .ok (.iconst 0, 1) := by decide +kernel
theorem dX5_copyFrom_38 : decode cX5_copyFrom 38 = .ok (.iconst 5, 1) := by decide +kernel
theorem dX5_copyFrom_39 : decode cX5_copyFrom 39 = .ok (.invokestatic 28, 3) := by decide +kernel
theorem dX5_copyFrom_42 : decode cX5_copyFrom 42 = .ok (.aload_n 1, 1) := by decide +kernel
theorem dX5_copyFrom_43 : decode cX5_copyFrom 43 = .ok (.getfield 21, 3) := by decide +kernel
theorem dX5_copyFrom_46 : decode cX5_copyFrom 46 = .ok (.iconst 0, 1) := by decide +kernel
theorem dX5_copyFrom_47 : decode cX5_copyFrom 47 = .ok (.aload_n 0, 1) := by decide +kernel
theorem dX5_copyFrom_48 : decode cX5_copyFrom 48 = .ok (.getfield 21, 3) := by decide +kernel
theorem dX5_copyFrom_51 : decode cX5_copyFrom 51 = .ok (.iconst 0, 1) := by decide +kernel
theorem dX5_copyFrom_52 : decode cX5_copyFrom 52 = .ok (.iconst 5, 1) := by decide +kernel
theorem dX5_copyFrom_53 : decode cX5_copyFrom 53 = .ok (.invokestatic 28, 3) := by decide +kernel
theorem dX5_copyFrom_56 : decode cX5_copyFrom 56 = .ok (.aload_n 0, 1) := by decide +kernel
theorem dX5_copyFrom_57 : decode cX5_copyFrom 57 = .ok (.aload_n 1, 1) := by decide +kernel
theorem dX5_copyFrom_58 : decode cX5_copyFrom 58 = .ok (.getfield 24, 3) := by decide +kernel
theorem dX5_copyFrom_61 : decode cX5_copyFrom 61 = .ok (.putfield 24, 3) := by decide +kernel
theorem dX5_copyFrom_64 : decode cX5_copyFrom 64 = .ok (.return_, 1) := by decide +kernel
theorem dX5_has_0 : decode cX5_has 0 = .ok (.iload_n 1, 1) := by decide +kernel
theorem dX5_has_1 : decode cX5_has 1 = .ok (.ifCond .lt 15, 3) := by decide +kernel
theorem dX5_has_4 : decode cX5_has 4 = .ok (.iload_n 1, 1) := by decide +kernel
theorem dX5_has_5 : decode cX5_has 5 = .ok (.aload_n 0, 1) := by decide +kernel
theorem dX5_has_6 : decode cX5_has 6 = .ok (.getfield 24, 3) := by decide +kernel
theorem dX5_has_9 : decode cX5_has 9 = .ok (.if_icmp .ge 7, 3) := by decide +kernel
theorem dX5_has_12 : decode cX5_has 12 = .ok (.iconst 1, 1) := by decide +kernel
theorem dX5_has_13 : decode cX5_has 13 = .ok (.goto 4, 3) := by decide +kernel
theorem dX5_has_16 : decode cX5_has 16 = .ok (.iconst 0, 1) := by decide +kernel
theorem dX5_has_17 : decode cX5_has 17 = .ok (.ireturn, 1) := by decide +kernel
theorem dX5_admit_0 : decode cX5_admit 0 = .ok (.iload_n 1, 1) := by decide +kernel
theorem dX5_admit_1 : decode cX5_admit 1 = .ok (.iconst 1, 1) := by decide +kernel
theorem dX5_admit_2 : decode cX5_admit 2 = .ok (.if_icmp .lt 20, 3) := by decide +kernel
theorem dX5_admit_5 : decode cX5_admit 5 = .ok (.iload_n 1, 1) := by decide +kernel
theorem dX5_admit_6 : decode cX5_admit 6 = .ok (.bipush 99, 2) := by decide +kernel
theorem dX5_admit_8 : decode cX5_admit 8 = .ok (.if_icmp .gt 14, 3) := by decide +kernel
theorem dX5_admit_11 : decode cX5_admit 11 = .ok (.iload_n 2, 1) := by decide +kernel
theorem dX5_admit_12 : decode cX5_admit 12 = .ok (.iconst 1, 1) := by decide +kernel
theorem dX5_admit_13 : decode cX5_admit 13 = .ok (.if_icmp .lt 9, 3) := by decide +kernel
theorem dX5_admit_16 : decode cX5_admit 16 = .ok (.iload_n 2, 1) := by decide +kernel
theorem dX5_admit_17 : decode cX5_admit 17 = .ok (.bipush 99, 2) := by decide +kernel
theorem dX5_admit_19 : decode cX5_admit 19 = .ok (.if_icmp .le 6, 3) := by decide +kernel
theorem dX5_admit_22 : decode cX5_admit 22 = .ok (.bipush (-2), 2) := by decide +kernel
theorem dX5_admit_24 : decode cX5_admit 24 = .ok (.ireturn, 1) := by decide +kernel
theorem dX5_admit_25 : decode cX5_admit 25 = .ok (.iload_n 3, 1) := by decide +kernel
theorem dX5_admit_26 : decode cX5_admit 26 = .ok (.ifCond .lt 23, 3) := by decide +kernel
theorem dX5_admit_29 : decode cX5_admit 29 = .ok (.iload_n 3, 1) := by decide +kernel
theorem dX5_admit_30 : decode cX5_admit 30 = .ok (.bipush 99, 2) := by decide +kernel
theorem dX5_admit_32 : decode cX5_admit 32 = .ok (.if_icmp .gt 17, 3) := by decide +kernel
theorem dX5_admit_35 : decode cX5_admit 35 = .ok (.iload 4, 2) := by decide +kernel
theorem dX5_admit_37 : decode cX5_admit 37 = .ok (.bipush (-99), 2) := by decide +kernel
theorem dX5_admit_39 : decode cX5_admit 39 = .ok (.if_icmp .lt 10, 3) := by decide +kernel
theorem dX5_admit_42 : decode cX5_admit 42 = .ok (.iload 4, 2) := by decide +kernel
theorem dX5_admit_44 : decode cX5_admit 44 = .ok (.bipush 99, 2) := by decide +kernel
theorem dX5_admit_46 : decode cX5_admit 46 = .ok (.if_icmp .le 6, 3) := by decide +kernel
theorem dX5_admit_49 : decode cX5_admit 49 = .ok (.bipush (-2), 2) := by decide +kernel
theorem dX5_admit_51 : decode cX5_admit 51 = .ok (.ireturn, 1) := by decide +kernel
theorem dX5_admit_52 : decode cX5_admit 52 = .ok (.aload_n 0, 1) := by decide +kernel
theorem dX5_admit_53 : decode cX5_admit 53 = .ok (.getfield 24, 3) := by decide +kernel
theorem dX5_admit_56 : decode cX5_admit 56 = .ok (.iconst 5, 1) := by decide +kernel
theorem dX5_admit_57 : decode cX5_admit 57 = .ok (.if_icmp .lt 6, 3) := by decide +kernel
theorem dX5_admit_60 : decode cX5_admit 60 = .ok (.bipush (-4), 2) := by decide +kernel
theorem dX5_admit_62 : decode cX5_admit 62 = .ok (.ireturn, 1) := by decide +kernel
theorem dX5_admit_63 : decode cX5_admit 63 = .ok (.aload_n 0, 1) := by decide +kernel
theorem dX5_admit_64 : decode cX5_admit 64 = .ok (.getfield 11, 3) := by decide +kernel
theorem dX5_admit_67 : decode cX5_admit 67 = .ok (.aload_n 0, 1) := by decide +kernel
theorem dX5_admit_68 : decode cX5_admit 68 = .ok (.getfield 24, 3) := by decide +kernel
theorem dX5_admit_71 : decode cX5_admit 71 = .ok (.iload_n 1, 1) := by decide +kernel
theorem dX5_admit_72 : decode cX5_admit 72 = .ok (.iastore, 1) := by decide +kernel
theorem dX5_admit_73 : decode cX5_admit 73 = .ok (.aload_n 0, 1) := by decide +kernel
theorem dX5_admit_74 : decode cX5_admit 74 = .ok (.getfield 15, 3) := by decide +kernel
theorem dX5_admit_77 : decode cX5_admit 77 = .ok (.aload_n 0, 1) := by decide +kernel
theorem dX5_admit_78 : decode cX5_admit 78 = .ok (.getfield 24, 3) := by decide +kernel
theorem dX5_admit_81 : decode cX5_admit 81 = .ok (.iload_n 2, 1) := by decide +kernel
theorem dX5_admit_82 : decode cX5_admit 82 = .ok (.iastore, 1) := by decide +kernel
theorem dX5_admit_83 : decode cX5_admit 83 = .ok (.aload_n 0, 1) := by decide +kernel
theorem dX5_admit_84 : decode cX5_admit 84 = .ok (.getfield 18, 3) := by decide +kernel
theorem dX5_admit_87 : decode cX5_admit 87 = .ok (.aload_n 0, 1) := by decide +kernel
theorem dX5_admit_88 : decode cX5_admit 88 = .ok (.getfield 24, 3) := by decide +kernel
theorem dX5_admit_91 : decode cX5_admit 91 = .ok (.iload_n 3, 1) := by decide +kernel
theorem dX5_admit_92 : decode cX5_admit 92 = .ok (.iastore, 1) := by decide +kernel
theorem dX5_admit_93 : decode cX5_admit 93 = .ok (.aload_n 0, 1) := by decide +kernel
theorem dX5_admit_94 : decode cX5_admit 94 = .ok (.getfield 21, 3) := by decide +kernel
theorem dX5_admit_97 : decode cX5_admit 97 = .ok (.aload_n 0, 1) := by decide +kernel
theorem dX5_admit_98 : decode cX5_admit 98 = .ok (.getfield 24, 3) := by decide +kernel
theorem dX5_admit_101 : decode cX5_admit 101 = .ok (.iload 4, 2) := by decide +kernel
theorem dX5_admit_103 : decode cX5_admit 103 = .ok (.iastore, 1) := by decide +kernel
theorem dX5_admit_104 : decode cX5_admit 104 = .ok (.aload_n 0, 1) := by decide +kernel
theorem dX5_admit_105 : decode cX5_admit 105 = .ok (.dup, 1) := by decide +kernel
theorem dX5_admit_106 : decode cX5_admit 106 = .ok (.getfield 24, 3) := by decide +kernel
theorem dX5_admit_109 : decode cX5_admit 109 = .ok (.iconst 1, 1) := by decide +kernel
theorem dX5_admit_110 : decode cX5_admit 110 = .ok (.iadd, 1) := by decide +kernel
theorem dX5_admit_111 : decode cX5_admit 111 = .ok (.putfield 24, 3) := by decide +kernel
theorem dX5_admit_114 : decode cX5_admit 114 = .ok (.aload_n 0, 1) := by decide +kernel
theorem dX5_admit_115 : decode cX5_admit 115 = .ok (.getfield 24, 3) := by decide +kernel
theorem dX5_admit_118 : decode cX5_admit 118 = .ok (.iconst 1, 1) := by decide +kernel
theorem dX5_admit_119 : decode cX5_admit 119 = .ok (.isub, 1) := by decide +kernel
theorem dX5_admit_120 : decode cX5_admit 120 = .ok (.ireturn, 1) := by decide +kernel
theorem dX5_remove_0 : decode cX5_remove 0 = .ok (.aload_n 0, 1) := by decide +kernel
theorem dX5_remove_1 : decode cX5_remove 1 = .ok (.iload_n 1, 1) := by decide +kernel
theorem dX5_remove_2 : decode cX5_remove 2 = .ok (.invokevirtual 34, 3) := by decide +kernel
theorem dX5_remove_5 : decode cX5_remove 5 = .ok (.ifCond .ne 5, 3) := by decide +kernel
theorem dX5_remove_8 : decode cX5_remove 8 = .ok (.iconst (-1), 1) := by decide +kernel
theorem dX5_remove_9 : decode cX5_remove 9 = .ok (.ireturn, 1) := by decide +kernel
theorem dX5_remove_10 : decode cX5_remove 10 = .ok (.aload_n 0, 1) := by decide +kernel
theorem dX5_remove_11 : decode cX5_remove 11 = .ok (.dup, 1) := by decide +kernel
theorem dX5_remove_12 : decode cX5_remove 12 = .ok (.getfield 24, 3) := by decide +kernel
theorem dX5_remove_15 : decode cX5_remove 15 = .ok (.iconst 1, 1) := by decide +kernel
theorem dX5_remove_16 : decode cX5_remove 16 = .ok (.isub, 1) := by decide +kernel
theorem dX5_remove_17 : decode cX5_remove 17 = .ok (.putfield 24, 3) := by decide +kernel
theorem dX5_remove_20 : decode cX5_remove 20 = .ok (.iload_n 1, 1) := by decide +kernel
theorem dX5_remove_21 : decode cX5_remove 21 = .ok (.istore_n 2, 1) := by decide +kernel
theorem dX5_remove_22 : decode cX5_remove 22 = .ok (.iload_n 2, 1) := by decide +kernel
theorem dX5_remove_23 : decode cX5_remove 23 = .ok (.aload_n 0, 1) := by decide +kernel
theorem dX5_remove_24 : decode cX5_remove 24 = .ok (.getfield 24, 3) := by decide +kernel
theorem dX5_remove_27 : decode cX5_remove 27 = .ok (.if_icmp .ge 65, 3) := by decide +kernel
theorem dX5_remove_30 : decode cX5_remove 30 = .ok (.aload_n 0, 1) := by decide +kernel
theorem dX5_remove_31 : decode cX5_remove 31 = .ok (.getfield 11, 3) := by decide +kernel
theorem dX5_remove_34 : decode cX5_remove 34 = .ok (.iload_n 2, 1) := by decide +kernel
theorem dX5_remove_35 : decode cX5_remove 35 = .ok (.aload_n 0, 1) := by decide +kernel
theorem dX5_remove_36 : decode cX5_remove 36 = .ok (.getfield 11, 3) := by decide +kernel
theorem dX5_remove_39 : decode cX5_remove 39 = .ok (.iload_n 2, 1) := by decide +kernel
theorem dX5_remove_40 : decode cX5_remove 40 = .ok (.iconst 1, 1) := by decide +kernel
theorem dX5_remove_41 : decode cX5_remove 41 = .ok (.iadd, 1) := by decide +kernel
theorem dX5_remove_42 : decode cX5_remove 42 = .ok (.iaload, 1) := by decide +kernel
theorem dX5_remove_43 : decode cX5_remove 43 = .ok (.iastore, 1) := by decide +kernel
theorem dX5_remove_44 : decode cX5_remove 44 = .ok (.aload_n 0, 1) := by decide +kernel
theorem dX5_remove_45 : decode cX5_remove 45 = .ok (.getfield 15, 3) := by decide +kernel
theorem dX5_remove_48 : decode cX5_remove 48 = .ok (.iload_n 2, 1) := by decide +kernel
theorem dX5_remove_49 : decode cX5_remove 49 = .ok (.aload_n 0, 1) := by decide +kernel
theorem dX5_remove_50 : decode cX5_remove 50 = .ok (.getfield 15, 3) := by decide +kernel
theorem dX5_remove_53 : decode cX5_remove 53 = .ok (.iload_n 2, 1) := by decide +kernel
theorem dX5_remove_54 : decode cX5_remove 54 = .ok (.iconst 1, 1) := by decide +kernel
theorem dX5_remove_55 : decode cX5_remove 55 = .ok (.iadd, 1) := by decide +kernel
theorem dX5_remove_56 : decode cX5_remove 56 = .ok (.iaload, 1) := by decide +kernel
theorem dX5_remove_57 : decode cX5_remove 57 = .ok (.iastore, 1) := by decide +kernel
theorem dX5_remove_58 : decode cX5_remove 58 = .ok (.aload_n 0, 1) := by decide +kernel
theorem dX5_remove_59 : decode cX5_remove 59 = .ok (.getfield 18, 3) := by decide +kernel
theorem dX5_remove_62 : decode cX5_remove 62 = .ok (.iload_n 2, 1) := by decide +kernel
theorem dX5_remove_63 : decode cX5_remove 63 = .ok (.aload_n 0, 1) := by decide +kernel
theorem dX5_remove_64 : decode cX5_remove 64 = .ok (.getfield 18, 3) := by decide +kernel
theorem dX5_remove_67 : decode cX5_remove 67 = .ok (.iload_n 2, 1) := by decide +kernel
theorem dX5_remove_68 : decode cX5_remove 68 = .ok (.iconst 1, 1) := by decide +kernel
theorem dX5_remove_69 : decode cX5_remove 69 = .ok (.iadd, 1) := by decide +kernel
theorem dX5_remove_70 : decode cX5_remove 70 = .ok (.iaload, 1) := by decide +kernel
theorem dX5_remove_71 : decode cX5_remove 71 = .ok (.iastore, 1) := by decide +kernel
theorem dX5_remove_72 : decode cX5_remove 72 = .ok (.aload_n 0, 1) := by decide +kernel
theorem dX5_remove_73 : decode cX5_remove 73 = .ok (.getfield 21, 3) := by decide +kernel
theorem dX5_remove_76 : decode cX5_remove 76 = .ok (.iload_n 2, 1) := by decide +kernel
theorem dX5_remove_77 : decode cX5_remove 77 = .ok (.aload_n 0, 1) := by decide +kernel
theorem dX5_remove_78 : decode cX5_remove 78 = .ok (.getfield 21, 3) := by decide +kernel
theorem dX5_remove_81 : decode cX5_remove 81 = .ok (.iload_n 2, 1) := by decide +kernel
theorem dX5_remove_82 : decode cX5_remove 82 = .ok (.iconst 1, 1) := by decide +kernel
theorem dX5_remove_83 : decode cX5_remove 83 = .ok (.iadd, 1) := by decide +kernel
theorem dX5_remove_84 : decode cX5_remove 84 = .ok (.iaload, 1) := by decide +kernel
theorem dX5_remove_85 : decode cX5_remove 85 = .ok (.iastore, 1) := by decide +kernel
theorem dX5_remove_86 : decode cX5_remove 86 = .ok (.iinc 2 1, 3) := by decide +kernel
theorem dX5_remove_89 : decode cX5_remove 89 = .ok (.goto (-67), 3) := by decide +kernel
theorem dX5_remove_92 : decode cX5_remove 92 = .ok (.aload_n 0, 1) := by decide +kernel
theorem dX5_remove_93 : decode cX5_remove 93 = .ok (.getfield 24, 3) := by decide +kernel
theorem dX5_remove_96 : decode cX5_remove 96 = .ok (.ireturn, 1) := by decide +kernel
theorem dX5_acts_0 : decode cX5_acts 0 = .ok (.iload_n 2, 1) := by decide +kernel
theorem dX5_acts_1 : decode cX5_acts 1 = .ok (.aload_n 0, 1) := by decide +kernel
theorem dX5_acts_2 : decode cX5_acts 2 = .ok (.getfield 15, 3) := by decide +kernel
theorem dX5_acts_5 : decode cX5_acts 5 = .ok (.iload_n 1, 1) := by decide +kernel
theorem dX5_acts_6 : decode cX5_acts 6 = .ok (.iaload, 1) := by decide +kernel
theorem dX5_acts_7 : decode cX5_acts 7 = .ok (.imul, 1) := by decide +kernel
theorem dX5_acts_8 : decode cX5_acts 8 = .ok (.bipush 100, 2) := by decide +kernel
theorem dX5_acts_10 : decode cX5_acts 10 = .ok (.iload_n 2, 1) := by decide +kernel
theorem dX5_acts_11 : decode cX5_acts 11 = .ok (.isub, 1) := by decide +kernel
theorem dX5_acts_12 : decode cX5_acts 12 = .ok (.aload_n 0, 1) := by decide +kernel
theorem dX5_acts_13 : decode cX5_acts 13 = .ok (.getfield 11, 3) := by decide +kernel
theorem dX5_acts_16 : decode cX5_acts 16 = .ok (.iload_n 1, 1) := by decide +kernel
theorem dX5_acts_17 : decode cX5_acts 17 = .ok (.iaload, 1) := by decide +kernel
theorem dX5_acts_18 : decode cX5_acts 18 = .ok (.imul, 1) := by decide +kernel
theorem dX5_acts_19 : decode cX5_acts 19 = .ok (.if_icmp .lt 7, 3) := by decide +kernel
theorem dX5_acts_22 : decode cX5_acts 22 = .ok (.iconst 1, 1) := by decide +kernel
theorem dX5_acts_23 : decode cX5_acts 23 = .ok (.goto 4, 3) := by decide +kernel
theorem dX5_acts_26 : decode cX5_acts 26 = .ok (.iconst 0, 1) := by decide +kernel
theorem dX5_acts_27 : decode cX5_acts 27 = .ok (.ireturn, 1) := by decide +kernel
theorem dX5_worthAt_0 : decode cX5_worthAt 0 = .ok (.iconst 0, 1) := by decide +kernel
theorem dX5_worthAt_1 : decode cX5_worthAt 1 = .ok (.iload_n 2, 1) := by decide +kernel
theorem dX5_worthAt_2 : decode cX5_worthAt 2 = .ok (.aload_n 0, 1) := by decide +kernel
theorem dX5_worthAt_3 : decode cX5_worthAt 3 = .ok (.getfield 15, 3) := by decide +kernel
theorem dX5_worthAt_6 : decode cX5_worthAt 6 = .ok (.iload_n 1, 1) := by decide +kernel
theorem dX5_worthAt_7 : decode cX5_worthAt 7 = .ok (.iaload, 1) := by decide +kernel
theorem dX5_worthAt_8 : decode cX5_worthAt 8 = .ok (.imul, 1) := by decide +kernel
theorem dX5_worthAt_9 : decode cX5_worthAt 9 = .ok (.bipush 100, 2) := by decide +kernel
theorem dX5_worthAt_11 : decode cX5_worthAt 11 = .ok (.iload_n 2, 1) := by decide +kernel
theorem dX5_worthAt_12 : decode cX5_worthAt 12 = .ok (.isub, 1) := by decide +kernel
theorem dX5_worthAt_13 : decode cX5_worthAt 13 = .ok (.aload_n 0, 1) := by decide +kernel
theorem dX5_worthAt_14 : decode cX5_worthAt 14 = .ok (.getfield 11, 3) := by decide +kernel
theorem dX5_worthAt_17 : decode cX5_worthAt 17 = .ok (.iload_n 1, 1) := by decide +kernel
theorem dX5_worthAt_18 : decode cX5_worthAt 18 = .ok (.iaload, 1) := by decide +kernel
theorem dX5_worthAt_19 : decode cX5_worthAt 19 = .ok (.imul, 1) := by decide +kernel
theorem dX5_worthAt_20 : decode cX5_worthAt 20 = .ok (.isub, 1) := by decide +kernel
theorem dX5_worthAt_21 : decode cX5_worthAt 21 = .ok (.invokestatic 38, 3) := by decide +kernel
theorem dX5_worthAt_24 : decode cX5_worthAt 24 = .ok (.ireturn, 1) := by decide +kernel
theorem dX5_leastActing_0 : decode cX5_leastActing 0 = .ok (.iconst 0, 1) := by decide +kernel
theorem dX5_leastActing_1 : decode cX5_leastActing 1 = .ok (.istore_n 2, 1) := by decide +kernel
theorem dX5_leastActing_2 : decode cX5_leastActing 2 = .ok (.iload_n 2, 1) := by decide +kernel
theorem dX5_leastActing_3 : decode cX5_leastActing 3 = .ok (.bipush 100, 2) := by decide +kernel
theorem dX5_leastActing_5 : decode cX5_leastActing 5 = .ok (.if_icmp .ge 18, 3) := by decide +kernel
theorem dX5_leastActing_8 : decode cX5_leastActing 8 = .ok (.aload_n 0, 1) := by decide +kernel
theorem dX5_leastActing_9 : decode cX5_leastActing 9 = .ok (.iload_n 1, 1) := by decide +kernel
theorem dX5_leastActing_10 : decode cX5_leastActing 10 = .ok (.iload_n 2, 1) := by decide +kernel
theorem dX5_leastActing_11 : decode cX5_leastActing 11 = .ok (.invokevirtual 44, 3) := by decide +kernel
theorem dX5_leastActing_14 : decode cX5_leastActing 14 = .ok (.ifCond .ne 9, 3) := by decide +kernel
theorem dX5_leastActing_17 : decode cX5_leastActing 17 = .ok (.iinc 2 1, 3) := by decide +kernel
theorem dX5_leastActing_20 : decode cX5_leastActing 20 = .ok (.goto (-18), 3) := by decide +kernel
theorem dX5_leastActing_23 : decode cX5_leastActing 23 = .ok (.iload_n 2, 1) := by decide +kernel
theorem dX5_leastActing_24 : decode cX5_leastActing 24 = .ok (.ireturn, 1) := by decide +kernel
theorem dX5_actingAt_0 : decode cX5_actingAt 0 = .ok (.iconst 0, 1) := by decide +kernel
theorem dX5_actingAt_1 : decode cX5_actingAt 1 = .ok (.istore_n 2, 1) := by decide +kernel
theorem dX5_actingAt_2 : decode cX5_actingAt 2 = .ok (.iconst 0, 1) := by decide +kernel
theorem dX5_actingAt_3 : decode cX5_actingAt 3 = .ok (.istore_n 3, 1) := by decide +kernel
theorem dX5_actingAt_4 : decode cX5_actingAt 4 = .ok (.iload_n 3, 1) := by decide +kernel
theorem dX5_actingAt_5 : decode cX5_actingAt 5 = .ok (.aload_n 0, 1) := by decide +kernel
theorem dX5_actingAt_6 : decode cX5_actingAt 6 = .ok (.getfield 24, 3) := by decide +kernel
theorem dX5_actingAt_9 : decode cX5_actingAt 9 = .ok (.if_icmp .ge 24, 3) := by decide +kernel
theorem dX5_actingAt_12 : decode cX5_actingAt 12 = .ok (.aload_n 0, 1) := by decide +kernel
theorem dX5_actingAt_13 : decode cX5_actingAt 13 = .ok (.iload_n 3, 1) := by decide +kernel
theorem dX5_actingAt_14 : decode cX5_actingAt 14 = .ok (.iload_n 1, 1) := by decide +kernel
theorem dX5_actingAt_15 : decode cX5_actingAt 15 = .ok (.invokevirtual 44, 3) := by decide +kernel
theorem dX5_actingAt_18 : decode cX5_actingAt 18 = .ok (.ifCond .eq 9, 3) := by decide +kernel
theorem dX5_actingAt_21 : decode cX5_actingAt 21 = .ok (.iload_n 2, 1) := by decide +kernel
theorem dX5_actingAt_22 : decode cX5_actingAt 22 = .ok (.iconst 1, 1) := by decide +kernel
theorem dX5_actingAt_23 : decode cX5_actingAt 23 = .ok (.iload_n 3, 1) := by decide +kernel
theorem dX5_actingAt_24 : decode cX5_actingAt 24 = .ok (.ishl, 1) := by decide +kernel
theorem dX5_actingAt_25 : decode cX5_actingAt 25 = .ok (.ior, 1) := by decide +kernel
theorem dX5_actingAt_26 : decode cX5_actingAt 26 = .ok (.istore_n 2, 1) := by decide +kernel
theorem dX5_actingAt_27 : decode cX5_actingAt 27 = .ok (.iinc 3 1, 3) := by decide +kernel
theorem dX5_actingAt_30 : decode cX5_actingAt 30 = .ok (.goto (-26), 3) := by decide +kernel
theorem dX5_actingAt_33 : decode cX5_actingAt 33 = .ok (.iload_n 2, 1) := by decide +kernel
theorem dX5_actingAt_34 : decode cX5_actingAt 34 = .ok (.ireturn, 1) := by decide +kernel
theorem dX5_valueAt_0 : decode cX5_valueAt 0 = .ok (.iconst 0, 1) := by decide +kernel
theorem dX5_valueAt_1 : decode cX5_valueAt 1 = .ok (.istore_n 2, 1) := by decide +kernel
theorem dX5_valueAt_2 : decode cX5_valueAt 2 = .ok (.iconst 0, 1) := by decide +kernel
theorem dX5_valueAt_3 : decode cX5_valueAt 3 = .ok (.istore_n 3, 1) := by decide +kernel
theorem dX5_valueAt_4 : decode cX5_valueAt 4 = .ok (.iconst 1, 1) := by decide +kernel
theorem dX5_valueAt_5 : decode cX5_valueAt 5 = .ok (.istore 4, 2) := by decide +kernel
theorem dX5_valueAt_7 : decode cX5_valueAt 7 = .ok (.iconst 0, 1) := by decide +kernel
theorem dX5_valueAt_8 : decode cX5_valueAt 8 = .ok (.istore 5, 2) := by decide +kernel
theorem dX5_valueAt_10 : decode cX5_valueAt 10 = .ok (.iload 5, 2) := by decide +kernel
theorem dX5_valueAt_12 : decode cX5_valueAt 12 = .ok (.aload_n 0, 1) := by decide +kernel
theorem dX5_valueAt_13 : decode cX5_valueAt 13 = .ok (.getfield 24, 3) := by decide +kernel
theorem dX5_valueAt_16 : decode cX5_valueAt 16 = .ok (.if_icmp .ge 45, 3) := by decide +kernel
theorem dX5_valueAt_19 : decode cX5_valueAt 19 = .ok (.iload_n 3, 1) := by decide +kernel
theorem dX5_valueAt_20 : decode cX5_valueAt 20 = .ok (.aload_n 0, 1) := by decide +kernel
theorem dX5_valueAt_21 : decode cX5_valueAt 21 = .ok (.getfield 21, 3) := by decide +kernel
theorem dX5_valueAt_24 : decode cX5_valueAt 24 = .ok (.iload 5, 2) := by decide +kernel
theorem dX5_valueAt_26 : decode cX5_valueAt 26 = .ok (.iaload, 1) := by decide +kernel
theorem dX5_valueAt_27 : decode cX5_valueAt 27 = .ok (.iadd, 1) := by decide +kernel
theorem dX5_valueAt_28 : decode cX5_valueAt 28 = .ok (.istore_n 3, 1) := by decide +kernel
theorem dX5_valueAt_29 : decode cX5_valueAt 29 = .ok (.aload_n 0, 1) := by decide +kernel
theorem dX5_valueAt_30 : decode cX5_valueAt 30 = .ok (.iload 5, 2) := by decide +kernel
theorem dX5_valueAt_32 : decode cX5_valueAt 32 = .ok (.iload_n 1, 1) := by decide +kernel
theorem dX5_valueAt_33 : decode cX5_valueAt 33 = .ok (.invokevirtual 44, 3) := by decide +kernel
theorem dX5_valueAt_36 : decode cX5_valueAt 36 = .ok (.ifCond .eq 16, 3) := by decide +kernel
theorem dX5_valueAt_39 : decode cX5_valueAt 39 = .ok (.iload_n 2, 1) := by decide +kernel
theorem dX5_valueAt_40 : decode cX5_valueAt 40 = .ok (.aload_n 0, 1) := by decide +kernel
theorem dX5_valueAt_41 : decode cX5_valueAt 41 = .ok (.getfield 18, 3) := by decide +kernel
theorem dX5_valueAt_44 : decode cX5_valueAt 44 = .ok (.iload 5, 2) := by decide +kernel
theorem dX5_valueAt_46 : decode cX5_valueAt 46 = .ok (.iaload, 1) := by decide +kernel
theorem dX5_valueAt_47 : decode cX5_valueAt 47 = .ok (.iadd, 1) := by decide +kernel
theorem dX5_valueAt_48 : decode cX5_valueAt 48 = .ok (.istore_n 2, 1) := by decide +kernel
theorem dX5_valueAt_49 : decode cX5_valueAt 49 = .ok (.goto 6, 3) := by decide +kernel
theorem dX5_valueAt_52 : decode cX5_valueAt 52 = .ok (.iconst 0, 1) := by decide +kernel
theorem dX5_valueAt_53 : decode cX5_valueAt 53 = .ok (.istore 4, 2) := by decide +kernel
theorem dX5_valueAt_55 : decode cX5_valueAt 55 = .ok (.iinc 5 1, 3) := by decide +kernel
theorem dX5_valueAt_58 : decode cX5_valueAt 58 = .ok (.goto (-48), 3) := by decide +kernel
theorem dX5_valueAt_61 : decode cX5_valueAt 61 = .ok (.iload 4, 2) := by decide +kernel
theorem dX5_valueAt_63 : decode cX5_valueAt 63 = .ok (.ifCond .eq 9, 3) := by decide +kernel
theorem dX5_valueAt_66 : decode cX5_valueAt 66 = .ok (.iload_n 2, 1) := by decide +kernel
theorem dX5_valueAt_67 : decode cX5_valueAt 67 = .ok (.iload_n 3, 1) := by decide +kernel
theorem dX5_valueAt_68 : decode cX5_valueAt 68 = .ok (.iadd, 1) := by decide +kernel
theorem dX5_valueAt_69 : decode cX5_valueAt 69 = .ok (.goto 4, 3) := by decide +kernel
theorem dX5_valueAt_72 : decode cX5_valueAt 72 = .ok (.iload_n 2, 1) := by decide +kernel
theorem dX5_valueAt_73 : decode cX5_valueAt 73 = .ok (.ireturn, 1) := by decide +kernel
theorem dX6_init_0 : decode cX6_init 0 = .ok (.aload_n 0, 1) := by decide +kernel
theorem dX6_init_1 : decode cX6_init 1 = .ok (.invokespecial 1, 3) := by decide +kernel
theorem dX6_init_4 : decode cX6_init 4 = .ok (.aload_n 0, 1) := by decide +kernel
theorem dX6_init_5 : decode cX6_init 5 = .ok (.bipush 6, 2) := by decide +kernel
theorem dX6_init_7 : decode cX6_init 7 = .ok (.newarray .int, 2) := by decide +kernel
theorem dX6_init_9 : decode cX6_init 9 = .ok (.putfield 9, 3) := by decide +kernel
theorem dX6_init_12 : decode cX6_init 12 = .ok (.aload_n 0, 1) := by decide +kernel
theorem dX6_init_13 : decode cX6_init 13 = .ok (.bipush 6, 2) := by decide +kernel
theorem dX6_init_15 : decode cX6_init 15 = .ok (.newarray .int, 2) := by decide +kernel
theorem dX6_init_17 : decode cX6_init 17 = .ok (.putfield 13, 3) := by decide +kernel
theorem dX6_init_20 : decode cX6_init 20 = .ok (.aload_n 0, 1) := by decide +kernel
theorem dX6_init_21 : decode cX6_init 21 = .ok (.iconst 0, 1) := by decide +kernel
theorem dX6_init_22 : decode cX6_init 22 = .ok (.putfield 16, 3) := by decide +kernel
theorem dX6_init_25 : decode cX6_init 25 = .ok (.return_, 1) := by decide +kernel
theorem dX6_copyFrom_0 : decode cX6_copyFrom 0 = .ok (.aload_n 1, 1) := by decide +kernel
theorem dX6_copyFrom_1 : decode cX6_copyFrom 1 = .ok (.getfield 9, 3) := by decide +kernel
theorem dX6_copyFrom_4 : decode cX6_copyFrom 4 = .ok (.iconst 0, 1) := by decide +kernel
theorem dX6_copyFrom_5 : decode cX6_copyFrom 5 = .ok (.aload_n 0, 1) := by decide +kernel
theorem dX6_copyFrom_6 : decode cX6_copyFrom 6 = .ok (.getfield 9, 3) := by decide +kernel
theorem dX6_copyFrom_9 : decode cX6_copyFrom 9 = .ok (.iconst 0, 1) := by decide +kernel
theorem dX6_copyFrom_10 : decode cX6_copyFrom 10 = .ok (.bipush 6, 2) := by decide +kernel
theorem dX6_copyFrom_12 : decode cX6_copyFrom 12 = .ok (.invokestatic 20, 3) := by decide +kernel
theorem dX6_copyFrom_15 : decode cX6_copyFrom 15 = .ok (.aload_n 1, 1) := by decide +kernel
theorem dX6_copyFrom_16 : decode cX6_copyFrom 16 = .ok (.getfield 13, 3) := by decide +kernel
theorem dX6_copyFrom_19 : decode cX6_copyFrom 19 = .ok (.iconst 0, 1) := by decide +kernel
theorem dX6_copyFrom_20 : decode cX6_copyFrom 20 = .ok (.aload_n 0, 1) := by decide +kernel
theorem dX6_copyFrom_21 : decode cX6_copyFrom 21 = .ok (.getfield 13, 3) := by decide +kernel
theorem dX6_copyFrom_24 : decode cX6_copyFrom 24 = .ok (.iconst 0, 1) := by decide +kernel
theorem dX6_copyFrom_25 : decode cX6_copyFrom 25 = .ok (.bipush 6, 2) := by decide +kernel
theorem dX6_copyFrom_27 : decode cX6_copyFrom 27 = .ok (.invokestatic 20, 3) := by decide +kernel
theorem dX6_copyFrom_30 : decode cX6_copyFrom 30 = .ok (.aload_n 0, 1) := by decide +kernel
theorem dX6_copyFrom_31 : decode cX6_copyFrom 31 = .ok (.aload_n 1, 1) := by decide +kernel
theorem dX6_copyFrom_32 : decode cX6_copyFrom 32 = .ok (.getfield 16, 3) := by decide +kernel
theorem dX6_copyFrom_35 : decode cX6_copyFrom 35 = .ok (.putfield 16, 3) := by decide +kernel
theorem dX6_copyFrom_38 : decode cX6_copyFrom 38 = .ok (.return_, 1) := by decide +kernel
theorem dX6_has_0 : decode cX6_has 0 = .ok (.iload_n 1, 1) := by decide +kernel
theorem dX6_has_1 : decode cX6_has 1 = .ok (.ifCond .lt 15, 3) := by decide +kernel
theorem dX6_has_4 : decode cX6_has 4 = .ok (.iload_n 1, 1) := by decide +kernel
theorem dX6_has_5 : decode cX6_has 5 = .ok (.aload_n 0, 1) := by decide +kernel
theorem dX6_has_6 : decode cX6_has 6 = .ok (.getfield 16, 3) := by decide +kernel
theorem dX6_has_9 : decode cX6_has 9 = .ok (.if_icmp .ge 7, 3) := by decide +kernel
theorem dX6_has_12 : decode cX6_has 12 = .ok (.iconst 1, 1) := by decide +kernel
theorem dX6_has_13 : decode cX6_has 13 = .ok (.goto 4, 3) := by decide +kernel
theorem dX6_has_16 : decode cX6_has 16 = .ok (.iconst 0, 1) := by decide +kernel
theorem dX6_has_17 : decode cX6_has 17 = .ok (.ireturn, 1) := by decide +kernel
theorem dX6_becomeOne_0 : decode cX6_becomeOne 0 = .ok (.aload_n 0, 1) := by decide +kernel
theorem dX6_becomeOne_1 : decode cX6_becomeOne 1 = .ok (.iconst 0, 1) := by decide +kernel
theorem dX6_becomeOne_2 : decode cX6_becomeOne 2 = .ok (.putfield 16, 3) := by decide +kernel
theorem dX6_becomeOne_5 : decode cX6_becomeOne 5 = .ok (.aload_n 0, 1) := by decide +kernel
theorem dX6_becomeOne_6 : decode cX6_becomeOne 6 = .ok (.iload_n 1, 1) := by decide +kernel
theorem dX6_becomeOne_7 : decode cX6_becomeOne 7 = .ok (.iconst 1, 1) := by decide +kernel
theorem dX6_becomeOne_8 : decode cX6_becomeOne 8 = .ok (.invokevirtual 26, 3) := by decide +kernel
theorem dX6_becomeOne_11 : decode cX6_becomeOne 11 = .ok (.return_, 1) := by decide +kernel
theorem dX6_append_0 : decode cX6_append 0 = .ok (.aload_n 0, 1) := by decide +kernel
theorem dX6_append_1 : decode cX6_append 1 = .ok (.getfield 16, 3) := by decide +kernel
theorem dX6_append_4 : decode cX6_append 4 = .ok (.bipush 6, 2) := by decide +kernel
theorem dX6_append_6 : decode cX6_append 6 = .ok (.if_icmp .ge 33, 3) := by decide +kernel
theorem dX6_append_9 : decode cX6_append 9 = .ok (.aload_n 0, 1) := by decide +kernel
theorem dX6_append_10 : decode cX6_append 10 = .ok (.getfield 9, 3) := by decide +kernel
theorem dX6_append_13 : decode cX6_append 13 = .ok (.aload_n 0, 1) := by decide +kernel
theorem dX6_append_14 : decode cX6_append 14 = .ok (.getfield 16, 3) := by decide +kernel
theorem dX6_append_17 : decode cX6_append 17 = .ok (.iload_n 2, 1) := by decide +kernel
theorem dX6_append_18 : decode cX6_append 18 = .ok (.iastore, 1) := by decide +kernel
theorem dX6_append_19 : decode cX6_append 19 = .ok (.aload_n 0, 1) := by decide +kernel
theorem dX6_append_20 : decode cX6_append 20 = .ok (.getfield 13, 3) := by decide +kernel
theorem dX6_append_23 : decode cX6_append 23 = .ok (.aload_n 0, 1) := by decide +kernel
theorem dX6_append_24 : decode cX6_append 24 = .ok (.getfield 16, 3) := by decide +kernel
theorem dX6_append_27 : decode cX6_append 27 = .ok (.iload_n 1, 1) := by decide +kernel
theorem dX6_append_28 : decode cX6_append 28 = .ok (.iastore, 1) := by decide +kernel
theorem dX6_append_29 : decode cX6_append 29 = .ok (.aload_n 0, 1) := by decide +kernel
theorem dX6_append_30 : decode cX6_append 30 = .ok (.dup, 1) := by decide +kernel
theorem dX6_append_31 : decode cX6_append 31 = .ok (.getfield 16, 3) := by decide +kernel
theorem dX6_append_34 : decode cX6_append 34 = .ok (.iconst 1, 1) := by decide +kernel
theorem dX6_append_35 : decode cX6_append 35 = .ok (.iadd, 1) := by decide +kernel
theorem dX6_append_36 : decode cX6_append 36 = .ok (.putfield 16, 3) := by decide +kernel
theorem dX6_append_39 : decode cX6_append 39 = .ok (.return_, 1) := by decide +kernel
theorem dX6_weightSum_0 : decode cX6_weightSum 0 = .ok (.iconst 0, 1) := by decide +kernel
theorem dX6_weightSum_1 : decode cX6_weightSum 1 = .ok (.istore_n 1, 1) := by decide +kernel
theorem dX6_weightSum_2 : decode cX6_weightSum 2 = .ok (.iconst 0, 1) := by decide +kernel
theorem dX6_weightSum_3 : decode cX6_weightSum 3 = .ok (.istore_n 2, 1) := by decide +kernel
theorem dX6_weightSum_4 : decode cX6_weightSum 4 = .ok (.iload_n 2, 1) := by decide +kernel
theorem dX6_weightSum_5 : decode cX6_weightSum 5 = .ok (.aload_n 0, 1) := by decide +kernel
theorem dX6_weightSum_6 : decode cX6_weightSum 6 = .ok (.getfield 16, 3) := by decide +kernel
theorem dX6_weightSum_9 : decode cX6_weightSum 9 = .ok (.if_icmp .ge 18, 3) := by decide +kernel
theorem dX6_weightSum_12 : decode cX6_weightSum 12 = .ok (.iload_n 1, 1) := by decide +kernel
theorem dX6_weightSum_13 : decode cX6_weightSum 13 = .ok (.aload_n 0, 1) := by decide +kernel
theorem dX6_weightSum_14 : decode cX6_weightSum 14 = .ok (.getfield 9, 3) := by decide +kernel
theorem dX6_weightSum_17 : decode cX6_weightSum 17 = .ok (.iload_n 2, 1) := by decide +kernel
theorem dX6_weightSum_18 : decode cX6_weightSum 18 = .ok (.iaload, 1) := by decide +kernel
theorem dX6_weightSum_19 : decode cX6_weightSum 19 = .ok (.iadd, 1) := by decide +kernel
theorem dX6_weightSum_20 : decode cX6_weightSum 20 = .ok (.istore_n 1, 1) := by decide +kernel
theorem dX6_weightSum_21 : decode cX6_weightSum 21 = .ok (.iinc 2 1, 3) := by decide +kernel
theorem dX6_weightSum_24 : decode cX6_weightSum 24 = .ok (.goto (-20), 3) := by decide +kernel
theorem dX6_weightSum_27 : decode cX6_weightSum 27 = .ok (.iload_n 1, 1) := by decide +kernel
theorem dX6_weightSum_28 : decode cX6_weightSum 28 = .ok (.ireturn, 1) := by decide +kernel
theorem dX7_init_0 : decode cX7_init 0 = .ok (.aload_n 0, 1) := by decide +kernel
theorem dX7_init_1 : decode cX7_init 1 = .ok (.invokespecial 3, 3) := by decide +kernel
theorem dX7_init_4 : decode cX7_init 4 = .ok (.aload_n 0, 1) := by decide +kernel
theorem dX7_init_5 : decode cX7_init 5 = .ok (.new 9, 3) := by decide +kernel
theorem dX7_init_8 : decode cX7_init 8 = .ok (.dup, 1) := by decide +kernel
theorem dX7_init_9 : decode cX7_init 9 = .ok (.invokespecial 11, 3) := by decide +kernel
theorem dX7_init_12 : decode cX7_init 12 = .ok (.putfield 12, 3) := by decide +kernel
theorem dX7_init_15 : decode cX7_init 15 = .ok (.aload_n 0, 1) := by decide +kernel
theorem dX7_init_16 : decode cX7_init 16 = .ok (.new 18, 3) := by decide +kernel
theorem dX7_init_19 : decode cX7_init 19 = .ok (.dup, 1) := by decide +kernel
theorem dX7_init_20 : decode cX7_init 20 = .ok (.invokespecial 20, 3) := by decide +kernel
theorem dX7_init_23 : decode cX7_init 23 = .ok (.putfield 21, 3) := by decide +kernel
theorem dX7_init_26 : decode cX7_init 26 = .ok (.aload_n 0, 1) := by decide +kernel
theorem dX7_init_27 : decode cX7_init 27 = .ok (.bipush 30, 2) := by decide +kernel
theorem dX7_init_29 : decode cX7_init 29 = .ok (.putfield 25, 3) := by decide +kernel
theorem dX7_init_32 : decode cX7_init 32 = .ok (.aload_n 0, 1) := by decide +kernel
theorem dX7_init_33 : decode cX7_init 33 = .ok (.getfield 21, 3) := by decide +kernel
theorem dX7_init_36 : decode cX7_init 36 = .ok (.bipush 30, 2) := by decide +kernel
theorem dX7_init_38 : decode cX7_init 38 = .ok (.invokevirtual 29, 3) := by decide +kernel
theorem dX7_init_41 : decode cX7_init 41 = .ok (.return_, 1) := by decide +kernel
theorem dX7_copyFrom_0 : decode cX7_copyFrom 0 = .ok (.aload_n 0, 1) := by decide +kernel
theorem dX7_copyFrom_1 : decode cX7_copyFrom 1 = .ok (.getfield 12, 3) := by decide +kernel
theorem dX7_copyFrom_4 : decode cX7_copyFrom 4 = .ok (.aload_n 1, 1) := by decide +kernel
theorem dX7_copyFrom_5 : decode cX7_copyFrom 5 = .ok (.getfield 12, 3) := by decide +kernel
theorem dX7_copyFrom_8 : decode cX7_copyFrom 8 = .ok (.invokevirtual 33, 3) := by decide +kernel
theorem dX7_copyFrom_11 : decode cX7_copyFrom 11 = .ok (.aload_n 0, 1) := by decide +kernel
theorem dX7_copyFrom_12 : decode cX7_copyFrom 12 = .ok (.getfield 21, 3) := by decide +kernel
theorem dX7_copyFrom_15 : decode cX7_copyFrom 15 = .ok (.aload_n 1, 1) := by decide +kernel
theorem dX7_copyFrom_16 : decode cX7_copyFrom 16 = .ok (.getfield 21, 3) := by decide +kernel
theorem dX7_copyFrom_19 : decode cX7_copyFrom 19 = .ok (.invokevirtual 37, 3) := by decide +kernel
theorem dX7_copyFrom_22 : decode cX7_copyFrom 22 = .ok (.aload_n 0, 1) := by decide +kernel
theorem dX7_copyFrom_23 : decode cX7_copyFrom 23 = .ok (.aload_n 1, 1) := by decide +kernel
theorem dX7_copyFrom_24 : decode cX7_copyFrom 24 = .ok (.getfield 25, 3) := by decide +kernel
theorem dX7_copyFrom_27 : decode cX7_copyFrom 27 = .ok (.putfield 25, 3) := by decide +kernel
theorem dX7_copyFrom_30 : decode cX7_copyFrom 30 = .ok (.return_, 1) := by decide +kernel
theorem dX7_movePrior_0 : decode cX7_movePrior 0 = .ok (.iload_n 1, 1) := by decide +kernel
theorem dX7_movePrior_1 : decode cX7_movePrior 1 = .ok (.iconst 1, 1) := by decide +kernel
theorem dX7_movePrior_2 : decode cX7_movePrior 2 = .ok (.if_icmp .lt 9, 3) := by decide +kernel
theorem dX7_movePrior_5 : decode cX7_movePrior 5 = .ok (.iload_n 1, 1) := by decide +kernel
theorem dX7_movePrior_6 : decode cX7_movePrior 6 = .ok (.bipush 100, 2) := by decide +kernel
theorem dX7_movePrior_8 : decode cX7_movePrior 8 = .ok (.if_icmp .lt 6, 3) := by decide +kernel
theorem dX7_movePrior_11 : decode cX7_movePrior 11 = .ok (.bipush (-2), 2) := by decide +kernel
theorem dX7_movePrior_13 : decode cX7_movePrior 13 = .ok (.ireturn, 1) := by decide +kernel
theorem dX7_movePrior_14 : decode cX7_movePrior 14 = .ok (.aload_n 0, 1) := by decide +kernel
theorem dX7_movePrior_15 : decode cX7_movePrior 15 = .ok (.getfield 25, 3) := by decide +kernel
theorem dX7_movePrior_18 : decode cX7_movePrior 18 = .ok (.istore_n 2, 1) := by decide +kernel
theorem dX7_movePrior_19 : decode cX7_movePrior 19 = .ok (.aload_n 0, 1) := by decide +kernel
theorem dX7_movePrior_20 : decode cX7_movePrior 20 = .ok (.iload_n 1, 1) := by decide +kernel
theorem dX7_movePrior_21 : decode cX7_movePrior 21 = .ok (.putfield 25, 3) := by decide +kernel
theorem dX7_movePrior_24 : decode cX7_movePrior 24 = .ok (.aload_n 0, 1) := by decide +kernel
theorem dX7_movePrior_25 : decode cX7_movePrior 25 = .ok (.getfield 21, 3) := by decide +kernel
theorem dX7_movePrior_28 : decode cX7_movePrior 28 = .ok (.iload_n 1, 1) := by decide +kernel
theorem dX7_movePrior_29 : decode cX7_movePrior 29 = .ok (.invokevirtual 29, 3) := by decide +kernel
theorem dX7_movePrior_32 : decode cX7_movePrior 32 = .ok (.iload_n 2, 1) := by decide +kernel
theorem dX7_movePrior_33 : decode cX7_movePrior 33 = .ok (.ireturn, 1) := by decide +kernel
theorem dX7_tellMeanValue_0 : decode cX7_tellMeanValue 0 = .ok (.iconst 0, 1) := by decide +kernel
theorem dX7_tellMeanValue_1 : decode cX7_tellMeanValue 1 = .ok (.istore_n 2, 1) := by decide +kernel
theorem dX7_tellMeanValue_2 : decode cX7_tellMeanValue 2 = .ok (.iconst 0, 1) := by decide +kernel
theorem dX7_tellMeanValue_3 : decode cX7_tellMeanValue 3 = .ok (.istore_n 3, 1) := by decide +kernel
theorem dX7_tellMeanValue_4 : decode cX7_tellMeanValue 4 = .ok (.iload_n 3, 1) := by decide +kernel
theorem dX7_tellMeanValue_5 : decode cX7_tellMeanValue 5 = .ok (.aload_n 0, 1) := by decide +kernel
theorem dX7_tellMeanValue_6 : decode cX7_tellMeanValue 6 = .ok (.getfield 21, 3) := by decide +kernel
theorem dX7_tellMeanValue_9 : decode cX7_tellMeanValue 9 = .ok (.getfield 40, 3) := by decide +kernel
theorem dX7_tellMeanValue_12 : decode cX7_tellMeanValue 12 = .ok (.if_icmp .ge 38, 3) := by decide +kernel
theorem dX7_tellMeanValue_15 : decode cX7_tellMeanValue 15 = .ok (.iload_n 2, 1) := by decide +kernel
theorem dX7_tellMeanValue_16 : decode cX7_tellMeanValue 16 = .ok (.aload_n 0, 1) := by decide +kernel
theorem dX7_tellMeanValue_17 : decode cX7_tellMeanValue 17 = .ok (.getfield 21, 3) := by decide +kernel
theorem dX7_tellMeanValue_20 : decode cX7_tellMeanValue 20 = .ok (.getfield 43, 3) := by decide +kernel
theorem dX7_tellMeanValue_23 : decode cX7_tellMeanValue 23 = .ok (.iload_n 3, 1) := by decide +kernel
theorem dX7_tellMeanValue_24 : decode cX7_tellMeanValue 24 = .ok (.iaload, 1) := by decide +kernel
theorem dX7_tellMeanValue_25 : decode cX7_tellMeanValue 25 = .ok (.aload_n 0, 1) := by decide +kernel
theorem dX7_tellMeanValue_26 : decode cX7_tellMeanValue 26 = .ok (.getfield 12, 3) := by decide +kernel
theorem dX7_tellMeanValue_29 : decode cX7_tellMeanValue 29 = .ok (.aload_n 0, 1) := by decide +kernel
theorem dX7_tellMeanValue_30 : decode cX7_tellMeanValue 30 = .ok (.getfield 21, 3) := by decide +kernel
theorem dX7_tellMeanValue_33 : decode cX7_tellMeanValue 33 = .ok (.getfield 47, 3) := by decide +kernel
theorem dX7_tellMeanValue_36 : decode cX7_tellMeanValue 36 = .ok (.iload_n 3, 1) := by decide +kernel
theorem dX7_tellMeanValue_37 : decode cX7_tellMeanValue 37 = .ok (.iaload, 1) := by decide +kernel
theorem dX7_tellMeanValue_38 : decode cX7_tellMeanValue 38 = .ok (.invokevirtual 50, 3) := by decide +kernel
theorem dX7_tellMeanValue_41 : decode cX7_tellMeanValue 41 = .ok (.imul, 1) := by decide +kernel
theorem dX7_tellMeanValue_42 : decode cX7_tellMeanValue 42 = .ok (.iadd, 1) := by decide +kernel
theorem dX7_tellMeanValue_43 : decode cX7_tellMeanValue 43 = .ok (.istore_n 2, 1) := by decide +kernel
theorem dX7_tellMeanValue_44 : decode cX7_tellMeanValue 44 = .ok (.iinc 3 1, 3) := by decide +kernel
theorem dX7_tellMeanValue_47 : decode cX7_tellMeanValue 47 = .ok (.goto (-43), 3) := by decide +kernel
theorem dX7_tellMeanValue_50 : decode cX7_tellMeanValue 50 = .ok (.aload_n 1, 1) := by decide +kernel
theorem dX7_tellMeanValue_51 : decode cX7_tellMeanValue 51 = .ok (.iload_n 2, 1) := by decide +kernel
theorem dX7_tellMeanValue_52 : decode cX7_tellMeanValue 52 = .ok (.aload_n 0, 1) := by decide +kernel
theorem dX7_tellMeanValue_53 : decode cX7_tellMeanValue 53 = .ok (.getfield 21, 3) := by decide +kernel
theorem dX7_tellMeanValue_56 : decode cX7_tellMeanValue 56 = .ok (.invokevirtual 54, 3) := by decide +kernel
theorem dX7_tellMeanValue_59 : decode cX7_tellMeanValue 59 = .ok (.invokevirtual 58, 3) := by decide +kernel
theorem dX7_tellMeanValue_62 : decode cX7_tellMeanValue 62 = .ok (.return_, 1) := by decide +kernel
theorem dX7_tellMeanWorth_0 : decode cX7_tellMeanWorth 0 = .ok (.iconst 0, 1) := by decide +kernel
theorem dX7_tellMeanWorth_1 : decode cX7_tellMeanWorth 1 = .ok (.istore_n 3, 1) := by decide +kernel
theorem dX7_tellMeanWorth_2 : decode cX7_tellMeanWorth 2 = .ok (.iconst 0, 1) := by decide +kernel
theorem dX7_tellMeanWorth_3 : decode cX7_tellMeanWorth 3 = .ok (.istore 4, 2) := by decide +kernel
theorem dX7_tellMeanWorth_5 : decode cX7_tellMeanWorth 5 = .ok (.iload 4, 2) := by decide +kernel
theorem dX7_tellMeanWorth_7 : decode cX7_tellMeanWorth 7 = .ok (.aload_n 0, 1) := by decide +kernel
theorem dX7_tellMeanWorth_8 : decode cX7_tellMeanWorth 8 = .ok (.getfield 21, 3) := by decide +kernel
theorem dX7_tellMeanWorth_11 : decode cX7_tellMeanWorth 11 = .ok (.getfield 40, 3) := by decide +kernel
theorem dX7_tellMeanWorth_14 : decode cX7_tellMeanWorth 14 = .ok (.if_icmp .ge 41, 3) := by decide +kernel
theorem dX7_tellMeanWorth_17 : decode cX7_tellMeanWorth 17 = .ok (.iload_n 3, 1) := by decide +kernel
theorem dX7_tellMeanWorth_18 : decode cX7_tellMeanWorth 18 = .ok (.aload_n 0, 1) := by decide +kernel
theorem dX7_tellMeanWorth_19 : decode cX7_tellMeanWorth 19 = .ok (.getfield 21, 3) := by decide +kernel
theorem dX7_tellMeanWorth_22 : decode cX7_tellMeanWorth 22 = .ok (.getfield 43, 3) := by decide +kernel
theorem dX7_tellMeanWorth_25 : decode cX7_tellMeanWorth 25 = .ok (.iload 4, 2) := by decide +kernel
theorem dX7_tellMeanWorth_27 : decode cX7_tellMeanWorth 27 = .ok (.iaload, 1) := by decide +kernel
theorem dX7_tellMeanWorth_28 : decode cX7_tellMeanWorth 28 = .ok (.aload_n 0, 1) := by decide +kernel
theorem dX7_tellMeanWorth_29 : decode cX7_tellMeanWorth 29 = .ok (.getfield 12, 3) := by decide +kernel
theorem dX7_tellMeanWorth_32 : decode cX7_tellMeanWorth 32 = .ok (.iload_n 1, 1) := by decide +kernel
theorem dX7_tellMeanWorth_33 : decode cX7_tellMeanWorth 33 = .ok (.aload_n 0, 1) := by decide +kernel
theorem dX7_tellMeanWorth_34 : decode cX7_tellMeanWorth 34 = .ok (.getfield 21, 3) := by decide +kernel
theorem dX7_tellMeanWorth_37 : decode cX7_tellMeanWorth 37 = .ok (.getfield 47, 3) := by decide +kernel
theorem dX7_tellMeanWorth_40 : decode cX7_tellMeanWorth 40 = .ok (.iload 4, 2) := by decide +kernel
theorem dX7_tellMeanWorth_42 : decode cX7_tellMeanWorth 42 = .ok (.iaload, 1) := by decide +kernel
theorem dX7_tellMeanWorth_43 : decode cX7_tellMeanWorth 43 = .ok (.invokevirtual 64, 3) := by decide +kernel
theorem dX7_tellMeanWorth_46 : decode cX7_tellMeanWorth 46 = .ok (.imul, 1) := by decide +kernel
theorem dX7_tellMeanWorth_47 : decode cX7_tellMeanWorth 47 = .ok (.iadd, 1) := by decide +kernel
theorem dX7_tellMeanWorth_48 : decode cX7_tellMeanWorth 48 = .ok (.istore_n 3, 1) := by decide +kernel
theorem dX7_tellMeanWorth_49 : decode cX7_tellMeanWorth 49 = .ok (.iinc 4 1, 3) := by decide +kernel
theorem dX7_tellMeanWorth_52 : decode cX7_tellMeanWorth 52 = .ok (.goto (-47), 3) := by decide +kernel
theorem dX7_tellMeanWorth_55 : decode cX7_tellMeanWorth 55 = .ok (.aload_n 2, 1) := by decide +kernel
theorem dX7_tellMeanWorth_56 : decode cX7_tellMeanWorth 56 = .ok (.iload_n 3, 1) := by decide +kernel
theorem dX7_tellMeanWorth_57 : decode cX7_tellMeanWorth 57 = .ok (.aload_n 0, 1) := by decide +kernel
theorem dX7_tellMeanWorth_58 : decode cX7_tellMeanWorth 58 = .ok (.getfield 21, 3) := by decide +kernel
theorem dX7_tellMeanWorth_61 : decode cX7_tellMeanWorth 61 = .ok (.invokevirtual 54, 3) := by decide +kernel
theorem dX7_tellMeanWorth_64 : decode cX7_tellMeanWorth 64 = .ok (.bipush 100, 2) := by decide +kernel
theorem dX7_tellMeanWorth_66 : decode cX7_tellMeanWorth 66 = .ok (.imul, 1) := by decide +kernel
theorem dX7_tellMeanWorth_67 : decode cX7_tellMeanWorth 67 = .ok (.invokevirtual 58, 3) := by decide +kernel
theorem dX7_tellMeanWorth_70 : decode cX7_tellMeanWorth 70 = .ok (.return_, 1) := by decide +kernel
theorem dX8_init_0 : decode cX8_init 0 = .ok (.aload_n 0, 1) := by decide +kernel
theorem dX8_init_1 : decode cX8_init 1 = .ok (.invokespecial 1, 3) := by decide +kernel
theorem dX8_init_4 : decode cX8_init 4 = .ok (.aload_n 0, 1) := by decide +kernel
theorem dX8_init_5 : decode cX8_init 5 = .ok (.new 7, 3) := by decide +kernel
theorem dX8_init_8 : decode cX8_init 8 = .ok (.dup, 1) := by decide +kernel
theorem dX8_init_9 : decode cX8_init 9 = .ok (.invokespecial 9, 3) := by decide +kernel
theorem dX8_init_12 : decode cX8_init 12 = .ok (.putfield 10, 3) := by decide +kernel
theorem dX8_init_15 : decode cX8_init 15 = .ok (.aload_n 0, 1) := by decide +kernel
theorem dX8_init_16 : decode cX8_init 16 = .ok (.new 16, 3) := by decide +kernel
theorem dX8_init_19 : decode cX8_init 19 = .ok (.dup, 1) := by decide +kernel
theorem dX8_init_20 : decode cX8_init 20 = .ok (.invokespecial 18, 3) := by decide +kernel
theorem dX8_init_23 : decode cX8_init 23 = .ok (.putfield 19, 3) := by decide +kernel
theorem dX8_init_26 : decode cX8_init 26 = .ok (.aload_n 0, 1) := by decide +kernel
theorem dX8_init_27 : decode cX8_init 27 = .ok (.iconst 2, 1) := by decide +kernel
theorem dX8_init_28 : decode cX8_init 28 = .ok (.anewarray 7, 3) := by decide +kernel
theorem dX8_init_31 : decode cX8_init 31 = .ok (.putfield 23, 3) := by decide +kernel
theorem dX8_init_34 : decode cX8_init 34 = .ok (.iconst 0, 1) := by decide +kernel
theorem dX8_init_35 : decode cX8_init 35 = .ok (.istore_n 1, 1) := by decide +kernel
theorem dX8_init_36 : decode cX8_init 36 = .ok (.iload_n 1, 1) := by decide +kernel
theorem dX8_init_37 : decode cX8_init 37 = .ok (.iconst 2, 1) := by decide +kernel
theorem dX8_init_38 : decode cX8_init 38 = .ok (.if_icmp .ge 22, 3) := by decide +kernel
theorem dX8_init_41 : decode cX8_init 41 = .ok (.aload_n 0, 1) := by decide +kernel
theorem dX8_init_42 : decode cX8_init 42 = .ok (.getfield 23, 3) := by decide +kernel
theorem dX8_init_45 : decode cX8_init 45 = .ok (.iload_n 1, 1) := by decide +kernel
theorem dX8_init_46 : decode cX8_init 46 = .ok (.new 7, 3) := by decide +kernel
theorem dX8_init_49 : decode cX8_init 49 = .ok (.dup, 1) := by decide +kernel
theorem dX8_init_50 : decode cX8_init 50 = .ok (.invokespecial 9, 3) := by decide +kernel
theorem dX8_init_53 : decode cX8_init 53 = .ok (.aastore, 1) := by decide +kernel
theorem dX8_init_54 : decode cX8_init 54 = .ok (.iinc 1 1, 3) := by decide +kernel
theorem dX8_init_57 : decode cX8_init 57 = .ok (.goto (-21), 3) := by decide +kernel
theorem dX8_init_60 : decode cX8_init 60 = .ok (.aload_n 0, 1) := by decide +kernel
theorem dX8_init_61 : decode cX8_init 61 = .ok (.iconst 2, 1) := by decide +kernel
theorem dX8_init_62 : decode cX8_init 62 = .ok (.newarray .boolean, 2) := by decide +kernel
theorem dX8_init_64 : decode cX8_init 64 = .ok (.putfield 27, 3) := by decide +kernel
theorem dX8_init_67 : decode cX8_init 67 = .ok (.aload_n 0, 1) := by decide +kernel
theorem dX8_init_68 : decode cX8_init 68 = .ok (.new 31, 3) := by decide +kernel
theorem dX8_init_71 : decode cX8_init 71 = .ok (.dup, 1) := by decide +kernel
theorem dX8_init_72 : decode cX8_init 72 = .ok (.invokespecial 33, 3) := by decide +kernel
theorem dX8_init_75 : decode cX8_init 75 = .ok (.putfield 34, 3) := by decide +kernel
theorem dX8_init_78 : decode cX8_init 78 = .ok (.aload_n 0, 1) := by decide +kernel
theorem dX8_init_79 : decode cX8_init 79 = .ok (.new 38, 3) := by decide +kernel
theorem dX8_init_82 : decode cX8_init 82 = .ok (.dup, 1) := by decide +kernel
theorem dX8_init_83 : decode cX8_init 83 = .ok (.invokespecial 40, 3) := by decide +kernel
theorem dX8_init_86 : decode cX8_init 86 = .ok (.putfield 41, 3) := by decide +kernel
theorem dX8_init_89 : decode cX8_init 89 = .ok (.aload_n 0, 1) := by decide +kernel
theorem dX8_init_90 : decode cX8_init 90 = .ok (.new 45, 3) := by decide +kernel
theorem dX8_init_93 : decode cX8_init 93 = .ok (.dup, 1) := by decide +kernel
theorem dX8_init_94 : decode cX8_init 94 = .ok (.invokespecial 47, 3) := by decide +kernel
theorem dX8_init_97 : decode cX8_init 97 = .ok (.putfield 48, 3) := by decide +kernel
theorem dX8_init_100 : decode cX8_init 100 = .ok (.aload_n 0, 1) := by decide +kernel
theorem dX8_init_101 : decode cX8_init 101 = .ok (.new 52, 3) := by decide +kernel
theorem dX8_init_104 : decode cX8_init 104 = .ok (.dup, 1) := by decide +kernel
theorem dX8_init_105 : decode cX8_init 105 = .ok (.invokespecial 54, 3) := by decide +kernel
theorem dX8_init_108 : decode cX8_init 108 = .ok (.putfield 55, 3) := by decide +kernel
theorem dX8_init_111 : decode cX8_init 111 = .ok (.aload_n 0, 1) := by decide +kernel
theorem dX8_init_112 : decode cX8_init 112 = .ok (.new 52, 3) := by decide +kernel
theorem dX8_init_115 : decode cX8_init 115 = .ok (.dup, 1) := by decide +kernel
theorem dX8_init_116 : decode cX8_init 116 = .ok (.invokespecial 54, 3) := by decide +kernel
theorem dX8_init_119 : decode cX8_init 119 = .ok (.putfield 59, 3) := by decide +kernel
theorem dX8_init_122 : decode cX8_init 122 = .ok (.return_, 1) := by decide +kernel
theorem dX8_prior_0 : decode cX8_prior 0 = .ok (.aload_n 0, 1) := by decide +kernel
theorem dX8_prior_1 : decode cX8_prior 1 = .ok (.getfield 19, 3) := by decide +kernel
theorem dX8_prior_4 : decode cX8_prior 4 = .ok (.aload_n 0, 1) := by decide +kernel
theorem dX8_prior_5 : decode cX8_prior 5 = .ok (.getfield 10, 3) := by decide +kernel
theorem dX8_prior_8 : decode cX8_prior 8 = .ok (.invokevirtual 62, 3) := by decide +kernel
theorem dX8_prior_11 : decode cX8_prior 11 = .ok (.aload_n 0, 1) := by decide +kernel
theorem dX8_prior_12 : decode cX8_prior 12 = .ok (.aload_n 0, 1) := by decide +kernel
theorem dX8_prior_13 : decode cX8_prior 13 = .ok (.getfield 10, 3) := by decide +kernel
theorem dX8_prior_16 : decode cX8_prior 16 = .ok (.iload_n 1, 1) := by decide +kernel
theorem dX8_prior_17 : decode cX8_prior 17 = .ok (.invokevirtual 66, 3) := by decide +kernel
theorem dX8_prior_20 : decode cX8_prior 20 = .ok (.invokevirtual 70, 3) := by decide +kernel
theorem dX8_prior_23 : decode cX8_prior 23 = .ok (.ireturn, 1) := by decide +kernel
theorem dX8_hire_0 : decode cX8_hire 0 = .ok (.aload_n 0, 1) := by decide +kernel
theorem dX8_hire_1 : decode cX8_hire 1 = .ok (.getfield 19, 3) := by decide +kernel
theorem dX8_hire_4 : decode cX8_hire 4 = .ok (.aload_n 0, 1) := by decide +kernel
theorem dX8_hire_5 : decode cX8_hire 5 = .ok (.getfield 10, 3) := by decide +kernel
theorem dX8_hire_8 : decode cX8_hire 8 = .ok (.invokevirtual 62, 3) := by decide +kernel
theorem dX8_hire_11 : decode cX8_hire 11 = .ok (.aload_n 0, 1) := by decide +kernel
theorem dX8_hire_12 : decode cX8_hire 12 = .ok (.aload_n 0, 1) := by decide +kernel
theorem dX8_hire_13 : decode cX8_hire 13 = .ok (.getfield 10, 3) := by decide +kernel
theorem dX8_hire_16 : decode cX8_hire 16 = .ok (.getfield 73, 3) := by decide +kernel
theorem dX8_hire_19 : decode cX8_hire 19 = .ok (.iload_n 1, 1) := by decide +kernel
theorem dX8_hire_20 : decode cX8_hire 20 = .ok (.iload_n 2, 1) := by decide +kernel
theorem dX8_hire_21 : decode cX8_hire 21 = .ok (.iload_n 3, 1) := by decide +kernel
theorem dX8_hire_22 : decode cX8_hire 22 = .ok (.iload 4, 2) := by decide +kernel
theorem dX8_hire_24 : decode cX8_hire 24 = .ok (.invokevirtual 77, 3) := by decide +kernel
theorem dX8_hire_27 : decode cX8_hire 27 = .ok (.invokevirtual 70, 3) := by decide +kernel
theorem dX8_hire_30 : decode cX8_hire 30 = .ok (.ireturn, 1) := by decide +kernel
theorem dX8_dismiss_0 : decode cX8_dismiss 0 = .ok (.aload_n 0, 1) := by decide +kernel
theorem dX8_dismiss_1 : decode cX8_dismiss 1 = .ok (.getfield 19, 3) := by decide +kernel
theorem dX8_dismiss_4 : decode cX8_dismiss 4 = .ok (.aload_n 0, 1) := by decide +kernel
theorem dX8_dismiss_5 : decode cX8_dismiss 5 = .ok (.getfield 10, 3) := by decide +kernel
theorem dX8_dismiss_8 : decode cX8_dismiss 8 = .ok (.invokevirtual 62, 3) := by decide +kernel
theorem dX8_dismiss_11 : decode cX8_dismiss 11 = .ok (.aload_n 0, 1) := by decide +kernel
theorem dX8_dismiss_12 : decode cX8_dismiss 12 = .ok (.aload_n 0, 1) := by decide +kernel
theorem dX8_dismiss_13 : decode cX8_dismiss 13 = .ok (.getfield 10, 3) := by decide +kernel
theorem dX8_dismiss_16 : decode cX8_dismiss 16 = .ok (.getfield 73, 3) := by decide +kernel
theorem dX8_dismiss_19 : decode cX8_dismiss 19 = .ok (.iload_n 1, 1) := by decide +kernel
theorem dX8_dismiss_20 : decode cX8_dismiss 20 = .ok (.invokevirtual 83, 3) := by decide +kernel
theorem dX8_dismiss_23 : decode cX8_dismiss 23 = .ok (.invokevirtual 70, 3) := by decide +kernel
theorem dX8_dismiss_26 : decode cX8_dismiss 26 = .ok (.ireturn, 1) := by decide +kernel
theorem dX8_refine_0 : decode cX8_refine 0 = .ok (.aload_n 0, 1) := by decide +kernel
theorem dX8_refine_1 : decode cX8_refine 1 = .ok (.getfield 19, 3) := by decide +kernel
theorem dX8_refine_4 : decode cX8_refine 4 = .ok (.aload_n 0, 1) := by decide +kernel
theorem dX8_refine_5 : decode cX8_refine 5 = .ok (.getfield 10, 3) := by decide +kernel
theorem dX8_refine_8 : decode cX8_refine 8 = .ok (.invokevirtual 62, 3) := by decide +kernel
theorem dX8_refine_11 : decode cX8_refine 11 = .ok (.aload_n 0, 1) := by decide +kernel
theorem dX8_refine_12 : decode cX8_refine 12 = .ok (.aload_n 0, 1) := by decide +kernel
theorem dX8_refine_13 : decode cX8_refine 13 = .ok (.iload_n 1, 1) := by decide +kernel
theorem dX8_refine_14 : decode cX8_refine 14 = .ok (.iload_n 2, 1) := by decide +kernel
theorem dX8_refine_15 : decode cX8_refine 15 = .ok (.iload_n 3, 1) := by decide +kernel
theorem dX8_refine_16 : decode cX8_refine 16 = .ok (.invokevirtual 86, 3) := by decide +kernel
theorem dX8_refine_19 : decode cX8_refine 19 = .ok (.invokevirtual 70, 3) := by decide +kernel
theorem dX8_refine_22 : decode cX8_refine 22 = .ok (.ireturn, 1) := by decide +kernel
theorem dX8_join_0 : decode cX8_join 0 = .ok (.aload_n 0, 1) := by decide +kernel
theorem dX8_join_1 : decode cX8_join 1 = .ok (.getfield 19, 3) := by decide +kernel
theorem dX8_join_4 : decode cX8_join 4 = .ok (.aload_n 0, 1) := by decide +kernel
theorem dX8_join_5 : decode cX8_join 5 = .ok (.getfield 10, 3) := by decide +kernel
theorem dX8_join_8 : decode cX8_join 8 = .ok (.invokevirtual 62, 3) := by decide +kernel
theorem dX8_join_11 : decode cX8_join 11 = .ok (.aload_n 0, 1) := by decide +kernel
theorem dX8_join_12 : decode cX8_join 12 = .ok (.aload_n 0, 1) := by decide +kernel
theorem dX8_join_13 : decode cX8_join 13 = .ok (.iload_n 1, 1) := by decide +kernel
theorem dX8_join_14 : decode cX8_join 14 = .ok (.invokevirtual 90, 3) := by decide +kernel
theorem dX8_join_17 : decode cX8_join 17 = .ok (.invokevirtual 70, 3) := by decide +kernel
theorem dX8_join_20 : decode cX8_join 20 = .ok (.ireturn, 1) := by decide +kernel
theorem dX8_adopt_0 : decode cX8_adopt 0 = .ok (.aload_n 0, 1) := by decide +kernel
theorem dX8_adopt_1 : decode cX8_adopt 1 = .ok (.getfield 19, 3) := by decide +kernel
theorem dX8_adopt_4 : decode cX8_adopt 4 = .ok (.aload_n 0, 1) := by decide +kernel
theorem dX8_adopt_5 : decode cX8_adopt 5 = .ok (.getfield 10, 3) := by decide +kernel
theorem dX8_adopt_8 : decode cX8_adopt 8 = .ok (.invokevirtual 62, 3) := by decide +kernel
theorem dX8_adopt_11 : decode cX8_adopt 11 = .ok (.aload_n 0, 1) := by decide +kernel
theorem dX8_adopt_12 : decode cX8_adopt 12 = .ok (.aload_n 0, 1) := by decide +kernel
theorem dX8_adopt_13 : decode cX8_adopt 13 = .ok (.invokevirtual 93, 3) := by decide +kernel
theorem dX8_adopt_16 : decode cX8_adopt 16 = .ok (.invokevirtual 70, 3) := by decide +kernel
theorem dX8_adopt_19 : decode cX8_adopt 19 = .ok (.ireturn, 1) := by decide +kernel
theorem dX8_receiver_0 : decode cX8_receiver 0 = .ok (.aload_n 0, 1) := by decide +kernel
theorem dX8_receiver_1 : decode cX8_receiver 1 = .ok (.getfield 10, 3) := by decide +kernel
theorem dX8_receiver_4 : decode cX8_receiver 4 = .ok (.getfield 73, 3) := by decide +kernel
theorem dX8_receiver_7 : decode cX8_receiver 7 = .ok (.astore_n 3, 1) := by decide +kernel
theorem dX8_receiver_8 : decode cX8_receiver 8 = .ok (.aload_n 3, 1) := by decide +kernel
theorem dX8_receiver_9 : decode cX8_receiver 9 = .ok (.iload_n 1, 1) := by decide +kernel
theorem dX8_receiver_10 : decode cX8_receiver 10 = .ok (.invokevirtual 97, 3) := by decide +kernel
theorem dX8_receiver_13 : decode cX8_receiver 13 = .ok (.ifCond .ne 5, 3) := by decide +kernel
theorem dX8_receiver_16 : decode cX8_receiver 16 = .ok (.iconst (-1), 1) := by decide +kernel
theorem dX8_receiver_17 : decode cX8_receiver 17 = .ok (.ireturn, 1) := by decide +kernel
theorem dX8_receiver_18 : decode cX8_receiver 18 = .ok (.iload_n 2, 1) := by decide +kernel
theorem dX8_receiver_19 : decode cX8_receiver 19 = .ok (.tableswitch 70 0 4 #[33, 40, 47, 54, 64], 33) := by decide +kernel
theorem dX8_receiver_52 : decode cX8_receiver 52 = .ok (.aload_n 3, 1) := by decide +kernel
theorem dX8_receiver_53 : decode cX8_receiver 53 = .ok (.getfield 101, 3) := by decide +kernel
theorem dX8_receiver_56 : decode cX8_receiver 56 = .ok (.iload_n 1, 1) := by decide +kernel
theorem dX8_receiver_57 : decode cX8_receiver 57 = .ok (.iaload, 1) := by decide +kernel
theorem dX8_receiver_58 : decode cX8_receiver 58 = .ok (.ireturn, 1) := by decide +kernel
theorem dX8_receiver_59 : decode cX8_receiver 59 = .ok (.aload_n 3, 1) := by decide +kernel
theorem dX8_receiver_60 : decode cX8_receiver 60 = .ok (.getfield 105, 3) := by decide +kernel
theorem dX8_receiver_63 : decode cX8_receiver 63 = .ok (.iload_n 1, 1) := by decide +kernel
theorem dX8_receiver_64 : decode cX8_receiver 64 = .ok (.iaload, 1) := by decide +kernel
theorem dX8_receiver_65 : decode cX8_receiver 65 = .ok (.ireturn, 1) := by decide +kernel
theorem dX8_receiver_66 : decode cX8_receiver 66 = .ok (.aload_n 3, 1) := by decide +kernel
theorem dX8_receiver_67 : decode cX8_receiver 67 = .ok (.getfield 108, 3) := by decide +kernel
theorem dX8_receiver_70 : decode cX8_receiver 70 = .ok (.iload_n 1, 1) := by decide +kernel
theorem dX8_receiver_71 : decode cX8_receiver 71 = .ok (.iaload, 1) := by decide +kernel
theorem dX8_receiver_72 : decode cX8_receiver 72 = .ok (.ireturn, 1) := by decide +kernel
theorem dX8_receiver_73 : decode cX8_receiver 73 = .ok (.aload_n 3, 1) := by decide +kernel
theorem dX8_receiver_74 : decode cX8_receiver 74 = .ok (.getfield 111, 3) := by decide +kernel
theorem dX8_receiver_77 : decode cX8_receiver 77 = .ok (.iload_n 1, 1) := by decide +kernel
theorem dX8_receiver_78 : decode cX8_receiver 78 = .ok (.iaload, 1) := by decide +kernel
theorem dX8_receiver_79 : decode cX8_receiver 79 = .ok (.bipush 100, 2) := by decide +kernel
theorem dX8_receiver_81 : decode cX8_receiver 81 = .ok (.iadd, 1) := by decide +kernel
theorem dX8_receiver_82 : decode cX8_receiver 82 = .ok (.ireturn, 1) := by decide +kernel
theorem dX8_receiver_83 : decode cX8_receiver 83 = .ok (.aload_n 3, 1) := by decide +kernel
theorem dX8_receiver_84 : decode cX8_receiver 84 = .ok (.iload_n 1, 1) := by decide +kernel
theorem dX8_receiver_85 : decode cX8_receiver 85 = .ok (.invokevirtual 114, 3) := by decide +kernel
theorem dX8_receiver_88 : decode cX8_receiver 88 = .ok (.ireturn, 1) := by decide +kernel
theorem dX8_receiver_89 : decode cX8_receiver 89 = .ok (.bipush (-2), 2) := by decide +kernel
theorem dX8_receiver_91 : decode cX8_receiver 91 = .ok (.ireturn, 1) := by decide +kernel
theorem dX8_part_0 : decode cX8_part 0 = .ok (.aload_n 0, 1) := by decide +kernel
theorem dX8_part_1 : decode cX8_part 1 = .ok (.getfield 10, 3) := by decide +kernel
theorem dX8_part_4 : decode cX8_part 4 = .ok (.getfield 117, 3) := by decide +kernel
theorem dX8_part_7 : decode cX8_part 7 = .ok (.astore_n 3, 1) := by decide +kernel
theorem dX8_part_8 : decode cX8_part 8 = .ok (.aload_n 3, 1) := by decide +kernel
theorem dX8_part_9 : decode cX8_part 9 = .ok (.iload_n 1, 1) := by decide +kernel
theorem dX8_part_10 : decode cX8_part 10 = .ok (.invokevirtual 121, 3) := by decide +kernel
theorem dX8_part_13 : decode cX8_part 13 = .ok (.ifCond .ne 5, 3) := by decide +kernel
theorem dX8_part_16 : decode cX8_part 16 = .ok (.iconst (-1), 1) := by decide +kernel
theorem dX8_part_17 : decode cX8_part 17 = .ok (.ireturn, 1) := by decide +kernel
theorem dX8_part_18 : decode cX8_part 18 = .ok (.iload_n 2, 1) := by decide +kernel
theorem dX8_part_19 : decode cX8_part 19 = .ok (.tableswitch 81 0 3 #[29, 36, 43, 60], 29) := by decide +kernel
theorem dX8_part_48 : decode cX8_part 48 = .ok (.aload_n 3, 1) := by decide +kernel
theorem dX8_part_49 : decode cX8_part 49 = .ok (.getfield 124, 3) := by decide +kernel
theorem dX8_part_52 : decode cX8_part 52 = .ok (.iload_n 1, 1) := by decide +kernel
theorem dX8_part_53 : decode cX8_part 53 = .ok (.iaload, 1) := by decide +kernel
theorem dX8_part_54 : decode cX8_part 54 = .ok (.ireturn, 1) := by decide +kernel
theorem dX8_part_55 : decode cX8_part 55 = .ok (.aload_n 3, 1) := by decide +kernel
theorem dX8_part_56 : decode cX8_part 56 = .ok (.getfield 127, 3) := by decide +kernel
theorem dX8_part_59 : decode cX8_part 59 = .ok (.iload_n 1, 1) := by decide +kernel
theorem dX8_part_60 : decode cX8_part 60 = .ok (.iaload, 1) := by decide +kernel
theorem dX8_part_61 : decode cX8_part 61 = .ok (.ireturn, 1) := by decide +kernel
theorem dX8_part_62 : decode cX8_part 62 = .ok (.aload_n 0, 1) := by decide +kernel
theorem dX8_part_63 : decode cX8_part 63 = .ok (.getfield 10, 3) := by decide +kernel
theorem dX8_part_66 : decode cX8_part 66 = .ok (.getfield 73, 3) := by decide +kernel
theorem dX8_part_69 : decode cX8_part 69 = .ok (.aload_n 3, 1) := by decide +kernel
theorem dX8_part_70 : decode cX8_part 70 = .ok (.getfield 127, 3) := by decide +kernel
theorem dX8_part_73 : decode cX8_part 73 = .ok (.iload_n 1, 1) := by decide +kernel
theorem dX8_part_74 : decode cX8_part 74 = .ok (.iaload, 1) := by decide +kernel
theorem dX8_part_75 : decode cX8_part 75 = .ok (.invokevirtual 130, 3) := by decide +kernel
theorem dX8_part_78 : decode cX8_part 78 = .ok (.ireturn, 1) := by decide +kernel
theorem dX8_part_79 : decode cX8_part 79 = .ok (.aload_n 0, 1) := by decide +kernel
theorem dX8_part_80 : decode cX8_part 80 = .ok (.getfield 10, 3) := by decide +kernel
theorem dX8_part_83 : decode cX8_part 83 = .ok (.getfield 73, 3) := by decide +kernel
theorem dX8_part_86 : decode cX8_part 86 = .ok (.aload_n 3, 1) := by decide +kernel
theorem dX8_part_87 : decode cX8_part 87 = .ok (.getfield 127, 3) := by decide +kernel
theorem dX8_part_90 : decode cX8_part 90 = .ok (.iload_n 1, 1) := by decide +kernel
theorem dX8_part_91 : decode cX8_part 91 = .ok (.iaload, 1) := by decide +kernel
theorem dX8_part_92 : decode cX8_part 92 = .ok (.invokevirtual 133, 3) := by decide +kernel
theorem dX8_part_95 : decode cX8_part 95 = .ok (.sipush 1000, 3) := by decide +kernel
theorem dX8_part_98 : decode cX8_part 98 = .ok (.iadd, 1) := by decide +kernel
theorem dX8_part_99 : decode cX8_part 99 = .ok (.ireturn, 1) := by decide +kernel
theorem dX8_part_100 : decode cX8_part 100 = .ok (.bipush (-2), 2) := by decide +kernel
theorem dX8_part_102 : decode cX8_part 102 = .ok (.ireturn, 1) := by decide +kernel
theorem dX8_value_0 : decode cX8_value 0 = .ok (.iload_n 1, 1) := by decide +kernel
theorem dX8_value_1 : decode cX8_value 1 = .ok (.invokestatic 136, 3) := by decide +kernel
theorem dX8_value_4 : decode cX8_value 4 = .ok (.ifCond .ne 6, 3) := by decide +kernel
theorem dX8_value_7 : decode cX8_value 7 = .ok (.bipush (-2), 2) := by decide +kernel
theorem dX8_value_9 : decode cX8_value 9 = .ok (.ireturn, 1) := by decide +kernel
theorem dX8_value_10 : decode cX8_value 10 = .ok (.aload_n 0, 1) := by decide +kernel
theorem dX8_value_11 : decode cX8_value 11 = .ok (.getfield 10, 3) := by decide +kernel
theorem dX8_value_14 : decode cX8_value 14 = .ok (.getfield 73, 3) := by decide +kernel
theorem dX8_value_17 : decode cX8_value 17 = .ok (.iload_n 1, 1) := by decide +kernel
theorem dX8_value_18 : decode cX8_value 18 = .ok (.invokevirtual 133, 3) := by decide +kernel
theorem dX8_value_21 : decode cX8_value 21 = .ok (.sipush 1000, 3) := by decide +kernel
theorem dX8_value_24 : decode cX8_value 24 = .ok (.iadd, 1) := by decide +kernel
theorem dX8_value_25 : decode cX8_value 25 = .ok (.ireturn, 1) := by decide +kernel
theorem dX8_mean_0 : decode cX8_mean 0 = .ok (.iload_n 1, 1) := by decide +kernel
theorem dX8_mean_1 : decode cX8_mean 1 = .ok (.invokestatic 139, 3) := by decide +kernel
theorem dX8_mean_4 : decode cX8_mean 4 = .ok (.ifCond .ne 6, 3) := by decide +kernel
theorem dX8_mean_7 : decode cX8_mean 7 = .ok (.bipush (-2), 2) := by decide +kernel
theorem dX8_mean_9 : decode cX8_mean 9 = .ok (.ireturn, 1) := by decide +kernel
theorem dX8_mean_10 : decode cX8_mean 10 = .ok (.aload_n 0, 1) := by decide +kernel
theorem dX8_mean_11 : decode cX8_mean 11 = .ok (.getfield 10, 3) := by decide +kernel
theorem dX8_mean_14 : decode cX8_mean 14 = .ok (.aload_n 0, 1) := by decide +kernel
theorem dX8_mean_15 : decode cX8_mean 15 = .ok (.getfield 55, 3) := by decide +kernel
theorem dX8_mean_18 : decode cX8_mean 18 = .ok (.invokevirtual 142, 3) := by decide +kernel
theorem dX8_mean_21 : decode cX8_mean 21 = .ok (.iload_n 1, 1) := by decide +kernel
theorem dX8_mean_22 : decode cX8_mean 22 = .ok (.ifCond .ne 16, 3) := by decide +kernel
theorem dX8_mean_25 : decode cX8_mean 25 = .ok (.aload_n 0, 1) := by decide +kernel
theorem dX8_mean_26 : decode cX8_mean 26 = .ok (.getfield 55, 3) := by decide +kernel
theorem dX8_mean_29 : decode cX8_mean 29 = .ok (.getfield 146, 3) := by decide +kernel
theorem dX8_mean_32 : decode cX8_mean 32 = .ok (.ldc 150, 2) := by decide +kernel
theorem dX8_mean_34 : decode cX8_mean 34 = .ok (.iadd, 1) := by decide +kernel
theorem dX8_mean_35 : decode cX8_mean 35 = .ok (.goto 10, 3) := by decide +kernel
theorem dX8_mean_38 : decode cX8_mean 38 = .ok (.aload_n 0, 1) := by decide +kernel
theorem dX8_mean_39 : decode cX8_mean 39 = .ok (.getfield 55, 3) := by decide +kernel
theorem dX8_mean_42 : decode cX8_mean 42 = .ok (.getfield 151, 3) := by decide +kernel
theorem dX8_mean_45 : decode cX8_mean 45 = .ok (.ireturn, 1) := by decide +kernel
theorem dX8_worth_0 : decode cX8_worth 0 = .ok (.aload_n 0, 1) := by decide +kernel
theorem dX8_worth_1 : decode cX8_worth 1 = .ok (.getfield 10, 3) := by decide +kernel
theorem dX8_worth_4 : decode cX8_worth 4 = .ok (.getfield 73, 3) := by decide +kernel
theorem dX8_worth_7 : decode cX8_worth 7 = .ok (.iload_n 1, 1) := by decide +kernel
theorem dX8_worth_8 : decode cX8_worth 8 = .ok (.invokevirtual 97, 3) := by decide +kernel
theorem dX8_worth_11 : decode cX8_worth 11 = .ok (.ifCond .ne 5, 3) := by decide +kernel
theorem dX8_worth_14 : decode cX8_worth 14 = .ok (.iconst (-1), 1) := by decide +kernel
theorem dX8_worth_15 : decode cX8_worth 15 = .ok (.ireturn, 1) := by decide +kernel
theorem dX8_worth_16 : decode cX8_worth 16 = .ok (.iload_n 2, 1) := by decide +kernel
theorem dX8_worth_17 : decode cX8_worth 17 = .ok (.invokestatic 139, 3) := by decide +kernel
theorem dX8_worth_20 : decode cX8_worth 20 = .ok (.ifCond .ne 6, 3) := by decide +kernel
theorem dX8_worth_23 : decode cX8_worth 23 = .ok (.bipush (-2), 2) := by decide +kernel
theorem dX8_worth_25 : decode cX8_worth 25 = .ok (.ireturn, 1) := by decide +kernel
theorem dX8_worth_26 : decode cX8_worth 26 = .ok (.aload_n 0, 1) := by decide +kernel
theorem dX8_worth_27 : decode cX8_worth 27 = .ok (.getfield 10, 3) := by decide +kernel
theorem dX8_worth_30 : decode cX8_worth 30 = .ok (.iload_n 1, 1) := by decide +kernel
theorem dX8_worth_31 : decode cX8_worth 31 = .ok (.aload_n 0, 1) := by decide +kernel
theorem dX8_worth_32 : decode cX8_worth 32 = .ok (.getfield 55, 3) := by decide +kernel
theorem dX8_worth_35 : decode cX8_worth 35 = .ok (.invokevirtual 154, 3) := by decide +kernel
theorem dX8_worth_38 : decode cX8_worth 38 = .ok (.iload_n 2, 1) := by decide +kernel
theorem dX8_worth_39 : decode cX8_worth 39 = .ok (.ifCond .ne 13, 3) := by decide +kernel
theorem dX8_worth_42 : decode cX8_worth 42 = .ok (.aload_n 0, 1) := by decide +kernel
theorem dX8_worth_43 : decode cX8_worth 43 = .ok (.getfield 55, 3) := by decide +kernel
theorem dX8_worth_46 : decode cX8_worth 46 = .ok (.getfield 146, 3) := by decide +kernel
theorem dX8_worth_49 : decode cX8_worth 49 = .ok (.goto 10, 3) := by decide +kernel
theorem dX8_worth_52 : decode cX8_worth 52 = .ok (.aload_n 0, 1) := by decide +kernel
theorem dX8_worth_53 : decode cX8_worth 53 = .ok (.getfield 55, 3) := by decide +kernel
theorem dX8_worth_56 : decode cX8_worth 56 = .ok (.getfield 151, 3) := by decide +kernel
theorem dX8_worth_59 : decode cX8_worth 59 = .ok (.ireturn, 1) := by decide +kernel
theorem dX8_count_0 : decode cX8_count 0 = .ok (.iload_n 1, 1) := by decide +kernel
theorem dX8_count_1 : decode cX8_count 1 = .ok (.tableswitch 113 0 6 #[43, 51, 62, 73, 84, 97, 105], 43) := by decide +kernel
theorem dX8_count_44 : decode cX8_count 44 = .ok (.aload_n 0, 1) := by decide +kernel
theorem dX8_count_45 : decode cX8_count 45 = .ok (.getfield 10, 3) := by decide +kernel
theorem dX8_count_48 : decode cX8_count 48 = .ok (.getfield 158, 3) := by decide +kernel
theorem dX8_count_51 : decode cX8_count 51 = .ok (.ireturn, 1) := by decide +kernel
theorem dX8_count_52 : decode cX8_count 52 = .ok (.aload_n 0, 1) := by decide +kernel
theorem dX8_count_53 : decode cX8_count 53 = .ok (.getfield 10, 3) := by decide +kernel
theorem dX8_count_56 : decode cX8_count 56 = .ok (.getfield 73, 3) := by decide +kernel
theorem dX8_count_59 : decode cX8_count 59 = .ok (.getfield 161, 3) := by decide +kernel
theorem dX8_count_62 : decode cX8_count 62 = .ok (.ireturn, 1) := by decide +kernel
theorem dX8_count_63 : decode cX8_count 63 = .ok (.aload_n 0, 1) := by decide +kernel
theorem dX8_count_64 : decode cX8_count 64 = .ok (.getfield 10, 3) := by decide +kernel
theorem dX8_count_67 : decode cX8_count 67 = .ok (.getfield 117, 3) := by decide +kernel
theorem dX8_count_70 : decode cX8_count 70 = .ok (.getfield 164, 3) := by decide +kernel
theorem dX8_count_73 : decode cX8_count 73 = .ok (.ireturn, 1) := by decide +kernel
theorem dX8_count_74 : decode cX8_count 74 = .ok (.aload_n 0, 1) := by decide +kernel
theorem dX8_count_75 : decode cX8_count 75 = .ok (.getfield 10, 3) := by decide +kernel
theorem dX8_count_78 : decode cX8_count 78 = .ok (.getfield 117, 3) := by decide +kernel
theorem dX8_count_81 : decode cX8_count 81 = .ok (.invokevirtual 167, 3) := by decide +kernel
theorem dX8_count_84 : decode cX8_count 84 = .ok (.ireturn, 1) := by decide +kernel
theorem dX8_count_85 : decode cX8_count 85 = .ok (.aload_n 0, 1) := by decide +kernel
theorem dX8_count_86 : decode cX8_count 86 = .ok (.invokevirtual 170, 3) := by decide +kernel
theorem dX8_count_89 : decode cX8_count 89 = .ok (.ifCond .eq 7, 3) := by decide +kernel
theorem dX8_count_92 : decode cX8_count 92 = .ok (.iconst 1, 1) := by decide +kernel
theorem dX8_count_93 : decode cX8_count 93 = .ok (.goto 4, 3) := by decide +kernel
theorem dX8_count_96 : decode cX8_count 96 = .ok (.iconst 0, 1) := by decide +kernel
theorem dX8_count_97 : decode cX8_count 97 = .ok (.ireturn, 1) := by decide +kernel
theorem dX8_count_98 : decode cX8_count 98 = .ok (.aload_n 0, 1) := by decide +kernel
theorem dX8_count_99 : decode cX8_count 99 = .ok (.getfield 34, 3) := by decide +kernel
theorem dX8_count_102 : decode cX8_count 102 = .ok (.getfield 174, 3) := by decide +kernel
theorem dX8_count_105 : decode cX8_count 105 = .ok (.ireturn, 1) := by decide +kernel
theorem dX8_count_106 : decode cX8_count 106 = .ok (.aload_n 0, 1) := by decide +kernel
theorem dX8_count_107 : decode cX8_count 107 = .ok (.getfield 19, 3) := by decide +kernel
theorem dX8_count_110 : decode cX8_count 110 = .ok (.getfield 177, 3) := by decide +kernel
theorem dX8_count_113 : decode cX8_count 113 = .ok (.ireturn, 1) := by decide +kernel
theorem dX8_count_114 : decode cX8_count 114 = .ok (.bipush (-2), 2) := by decide +kernel
theorem dX8_count_116 : decode cX8_count 116 = .ok (.ireturn, 1) := by decide +kernel
theorem dX8_envelope_0 : decode cX8_envelope 0 = .ok (.iload_n 1, 1) := by decide +kernel
theorem dX8_envelope_1 : decode cX8_envelope 1 = .ok (.invokestatic 136, 3) := by decide +kernel
theorem dX8_envelope_4 : decode cX8_envelope 4 = .ok (.ifCond .eq 10, 3) := by decide +kernel
theorem dX8_envelope_7 : decode cX8_envelope 7 = .ok (.iload_n 2, 1) := by decide +kernel
theorem dX8_envelope_8 : decode cX8_envelope 8 = .ok (.invokestatic 139, 3) := by decide +kernel
theorem dX8_envelope_11 : decode cX8_envelope 11 = .ok (.ifCond .ne 6, 3) := by decide +kernel
theorem dX8_envelope_14 : decode cX8_envelope 14 = .ok (.bipush (-2), 2) := by decide +kernel
theorem dX8_envelope_16 : decode cX8_envelope 16 = .ok (.ireturn, 1) := by decide +kernel
theorem dX8_envelope_17 : decode cX8_envelope 17 = .ok (.aload_n 0, 1) := by decide +kernel
theorem dX8_envelope_18 : decode cX8_envelope 18 = .ok (.iload_n 1, 1) := by decide +kernel
theorem dX8_envelope_19 : decode cX8_envelope 19 = .ok (.invokevirtual 180, 3) := by decide +kernel
theorem dX8_envelope_22 : decode cX8_envelope 22 = .ok (.aload_n 0, 1) := by decide +kernel
theorem dX8_envelope_23 : decode cX8_envelope 23 = .ok (.getfield 48, 3) := by decide +kernel
theorem dX8_envelope_26 : decode cX8_envelope 26 = .ok (.aload_n 0, 1) := by decide +kernel
theorem dX8_envelope_27 : decode cX8_envelope 27 = .ok (.getfield 55, 3) := by decide +kernel
theorem dX8_envelope_30 : decode cX8_envelope 30 = .ok (.invokevirtual 184, 3) := by decide +kernel
theorem dX8_envelope_33 : decode cX8_envelope 33 = .ok (.iload_n 2, 1) := by decide +kernel
theorem dX8_envelope_34 : decode cX8_envelope 34 = .ok (.ifCond .ne 16, 3) := by decide +kernel
theorem dX8_envelope_37 : decode cX8_envelope 37 = .ok (.aload_n 0, 1) := by decide +kernel
theorem dX8_envelope_38 : decode cX8_envelope 38 = .ok (.getfield 55, 3) := by decide +kernel
theorem dX8_envelope_41 : decode cX8_envelope 41 = .ok (.getfield 146, 3) := by decide +kernel
theorem dX8_envelope_44 : decode cX8_envelope 44 = .ok (.ldc 150, 2) := by decide +kernel
theorem dX8_envelope_46 : decode cX8_envelope 46 = .ok (.iadd, 1) := by decide +kernel
theorem dX8_envelope_47 : decode cX8_envelope 47 = .ok (.goto 10, 3) := by decide +kernel
theorem dX8_envelope_50 : decode cX8_envelope 50 = .ok (.aload_n 0, 1) := by decide +kernel
theorem dX8_envelope_51 : decode cX8_envelope 51 = .ok (.getfield 55, 3) := by decide +kernel
theorem dX8_envelope_54 : decode cX8_envelope 54 = .ok (.getfield 151, 3) := by decide +kernel
theorem dX8_envelope_57 : decode cX8_envelope 57 = .ok (.ireturn, 1) := by decide +kernel
theorem dX8_best_0 : decode cX8_best 0 = .ok (.iload_n 1, 1) := by decide +kernel
theorem dX8_best_1 : decode cX8_best 1 = .ok (.invokestatic 136, 3) := by decide +kernel
theorem dX8_best_4 : decode cX8_best 4 = .ok (.ifCond .ne 6, 3) := by decide +kernel
theorem dX8_best_7 : decode cX8_best 7 = .ok (.bipush (-2), 2) := by decide +kernel
theorem dX8_best_9 : decode cX8_best 9 = .ok (.ireturn, 1) := by decide +kernel
theorem dX8_best_10 : decode cX8_best 10 = .ok (.aload_n 0, 1) := by decide +kernel
theorem dX8_best_11 : decode cX8_best 11 = .ok (.iload_n 1, 1) := by decide +kernel
theorem dX8_best_12 : decode cX8_best 12 = .ok (.invokevirtual 180, 3) := by decide +kernel
theorem dX8_best_15 : decode cX8_best 15 = .ok (.iload_n 2, 1) := by decide +kernel
theorem dX8_best_16 : decode cX8_best 16 = .ok (.tableswitch 64 0 3 #[32, 40, 48, 56], 32) := by decide +kernel
theorem dX8_best_48 : decode cX8_best 48 = .ok (.aload_n 0, 1) := by decide +kernel
theorem dX8_best_49 : decode cX8_best 49 = .ok (.getfield 48, 3) := by decide +kernel
theorem dX8_best_52 : decode cX8_best 52 = .ok (.getfield 187, 3) := by decide +kernel
theorem dX8_best_55 : decode cX8_best 55 = .ok (.ireturn, 1) := by decide +kernel
theorem dX8_best_56 : decode cX8_best 56 = .ok (.aload_n 0, 1) := by decide +kernel
theorem dX8_best_57 : decode cX8_best 57 = .ok (.getfield 48, 3) := by decide +kernel
theorem dX8_best_60 : decode cX8_best 60 = .ok (.getfield 190, 3) := by decide +kernel
theorem dX8_best_63 : decode cX8_best 63 = .ok (.ireturn, 1) := by decide +kernel
theorem dX8_best_64 : decode cX8_best 64 = .ok (.aload_n 0, 1) := by decide +kernel
theorem dX8_best_65 : decode cX8_best 65 = .ok (.getfield 48, 3) := by decide +kernel
theorem dX8_best_68 : decode cX8_best 68 = .ok (.getfield 193, 3) := by decide +kernel
theorem dX8_best_71 : decode cX8_best 71 = .ok (.ireturn, 1) := by decide +kernel
theorem dX8_best_72 : decode cX8_best 72 = .ok (.aload_n 0, 1) := by decide +kernel
theorem dX8_best_73 : decode cX8_best 73 = .ok (.getfield 48, 3) := by decide +kernel
theorem dX8_best_76 : decode cX8_best 76 = .ok (.getfield 196, 3) := by decide +kernel
theorem dX8_best_79 : decode cX8_best 79 = .ok (.ireturn, 1) := by decide +kernel
theorem dX8_best_80 : decode cX8_best 80 = .ok (.bipush (-2), 2) := by decide +kernel
theorem dX8_best_82 : decode cX8_best 82 = .ok (.ireturn, 1) := by decide +kernel
theorem dX8_mostGained_0 : decode cX8_mostGained 0 = .ok (.iload_n 1, 1) := by decide +kernel
theorem dX8_mostGained_1 : decode cX8_mostGained 1 = .ok (.ifCond .lt 8, 3) := by decide +kernel
theorem dX8_mostGained_4 : decode cX8_mostGained 4 = .ok (.iload_n 1, 1) := by decide +kernel
theorem dX8_mostGained_5 : decode cX8_mostGained 5 = .ok (.iconst 2, 1) := by decide +kernel
theorem dX8_mostGained_6 : decode cX8_mostGained 6 = .ok (.if_icmp .le 6, 3) := by decide +kernel
theorem dX8_mostGained_9 : decode cX8_mostGained 9 = .ok (.bipush (-2), 2) := by decide +kernel
theorem dX8_mostGained_11 : decode cX8_mostGained 11 = .ok (.ireturn, 1) := by decide +kernel
theorem dX8_mostGained_12 : decode cX8_mostGained 12 = .ok (.aload_n 0, 1) := by decide +kernel
theorem dX8_mostGained_13 : decode cX8_mostGained 13 = .ok (.invokevirtual 199, 3) := by decide +kernel
theorem dX8_mostGained_16 : decode cX8_mostGained 16 = .ok (.istore_n 2, 1) := by decide +kernel
theorem dX8_mostGained_17 : decode cX8_mostGained 17 = .ok (.iload_n 1, 1) := by decide +kernel
theorem dX8_mostGained_18 : decode cX8_mostGained 18 = .ok (.lookupswitch 36 #[(0, 26), (1, 28)], 26) := by decide +kernel
theorem dX8_mostGained_44 : decode cX8_mostGained 44 = .ok (.iload_n 2, 1) := by decide +kernel
theorem dX8_mostGained_45 : decode cX8_mostGained 45 = .ok (.ireturn, 1) := by decide +kernel
theorem dX8_mostGained_46 : decode cX8_mostGained 46 = .ok (.aload_n 0, 1) := by decide +kernel
theorem dX8_mostGained_47 : decode cX8_mostGained 47 = .ok (.getfield 55, 3) := by decide +kernel
theorem dX8_mostGained_50 : decode cX8_mostGained 50 = .ok (.getfield 146, 3) := by decide +kernel
theorem dX8_mostGained_53 : decode cX8_mostGained 53 = .ok (.ireturn, 1) := by decide +kernel
theorem dX8_mostGained_54 : decode cX8_mostGained 54 = .ok (.aload_n 0, 1) := by decide +kernel
theorem dX8_mostGained_55 : decode cX8_mostGained 55 = .ok (.getfield 55, 3) := by decide +kernel
theorem dX8_mostGained_58 : decode cX8_mostGained 58 = .ok (.getfield 151, 3) := by decide +kernel
theorem dX8_mostGained_61 : decode cX8_mostGained 61 = .ok (.ireturn, 1) := by decide +kernel
theorem dX8_put_0 : decode cX8_put 0 = .ok (.aload_n 0, 1) := by decide +kernel
theorem dX8_put_1 : decode cX8_put 1 = .ok (.getfield 34, 3) := by decide +kernel
theorem dX8_put_4 : decode cX8_put 4 = .ok (.lload_n 1, 1) := by decide +kernel
theorem dX8_put_5 : decode cX8_put 5 = .ok (.invokevirtual 202, 3) := by decide +kernel
theorem dX8_put_8 : decode cX8_put 8 = .ok (.ireturn, 1) := by decide +kernel
theorem dX8_wipe_0 : decode cX8_wipe 0 = .ok (.aload_n 0, 1) := by decide +kernel
theorem dX8_wipe_1 : decode cX8_wipe 1 = .ok (.getfield 34, 3) := by decide +kernel
theorem dX8_wipe_4 : decode cX8_wipe 4 = .ok (.getfield 174, 3) := by decide +kernel
theorem dX8_wipe_7 : decode cX8_wipe 7 = .ok (.istore_n 1, 1) := by decide +kernel
theorem dX8_wipe_8 : decode cX8_wipe 8 = .ok (.aload_n 0, 1) := by decide +kernel
theorem dX8_wipe_9 : decode cX8_wipe 9 = .ok (.getfield 34, 3) := by decide +kernel
theorem dX8_wipe_12 : decode cX8_wipe 12 = .ok (.iconst 0, 1) := by decide +kernel
theorem dX8_wipe_13 : decode cX8_wipe 13 = .ok (.putfield 174, 3) := by decide +kernel
theorem dX8_wipe_16 : decode cX8_wipe 16 = .ok (.iload_n 1, 1) := by decide +kernel
theorem dX8_wipe_17 : decode cX8_wipe 17 = .ok (.ireturn, 1) := by decide +kernel
theorem dX8_fault_0 : decode cX8_fault 0 = .ok (.aload_n 0, 1) := by decide +kernel
theorem dX8_fault_1 : decode cX8_fault 1 = .ok (.getfield 34, 3) := by decide +kernel
theorem dX8_fault_4 : decode cX8_fault 4 = .ok (.invokevirtual 206, 3) := by decide +kernel
theorem dX8_fault_7 : decode cX8_fault 7 = .ok (.ireturn, 1) := by decide +kernel
theorem dX8_carryOut_0 : decode cX8_carryOut 0 = .ok (.aload_n 0, 1) := by decide +kernel
theorem dX8_carryOut_1 : decode cX8_carryOut 1 = .ok (.getfield 34, 3) := by decide +kernel
theorem dX8_carryOut_4 : decode cX8_carryOut 4 = .ok (.invokevirtual 206, 3) := by decide +kernel
theorem dX8_carryOut_7 : decode cX8_carryOut 7 = .ok (.bipush (-6), 2) := by decide +kernel
theorem dX8_carryOut_9 : decode cX8_carryOut 9 = .ok (.if_icmp .eq 6, 3) := by decide +kernel
theorem dX8_carryOut_12 : decode cX8_carryOut 12 = .ok (.bipush (-3), 2) := by decide +kernel
theorem dX8_carryOut_14 : decode cX8_carryOut 14 = .ok (.ireturn, 1) := by decide +kernel
theorem dX8_carryOut_15 : decode cX8_carryOut 15 = .ok (.aload_n 0, 1) := by decide +kernel
theorem dX8_carryOut_16 : decode cX8_carryOut 16 = .ok (.getfield 19, 3) := by decide +kernel
theorem dX8_carryOut_19 : decode cX8_carryOut 19 = .ok (.aload_n 0, 1) := by decide +kernel
theorem dX8_carryOut_20 : decode cX8_carryOut 20 = .ok (.getfield 10, 3) := by decide +kernel
theorem dX8_carryOut_23 : decode cX8_carryOut 23 = .ok (.invokevirtual 62, 3) := by decide +kernel
theorem dX8_carryOut_26 : decode cX8_carryOut 26 = .ok (.aload_n 0, 1) := by decide +kernel
theorem dX8_carryOut_27 : decode cX8_carryOut 27 = .ok (.invokevirtual 209, 3) := by decide +kernel
theorem dX8_carryOut_30 : decode cX8_carryOut 30 = .ok (.istore_n 1, 1) := by decide +kernel
theorem dX8_carryOut_31 : decode cX8_carryOut 31 = .ok (.aload_n 0, 1) := by decide +kernel
theorem dX8_carryOut_32 : decode cX8_carryOut 32 = .ok (.getfield 34, 3) := by decide +kernel
theorem dX8_carryOut_35 : decode cX8_carryOut 35 = .ok (.iconst 0, 1) := by decide +kernel
theorem dX8_carryOut_36 : decode cX8_carryOut 36 = .ok (.putfield 174, 3) := by decide +kernel
theorem dX8_carryOut_39 : decode cX8_carryOut 39 = .ok (.aload_n 0, 1) := by decide +kernel
theorem dX8_carryOut_40 : decode cX8_carryOut 40 = .ok (.iload_n 1, 1) := by decide +kernel
theorem dX8_carryOut_41 : decode cX8_carryOut 41 = .ok (.invokevirtual 70, 3) := by decide +kernel
theorem dX8_carryOut_44 : decode cX8_carryOut 44 = .ok (.ireturn, 1) := by decide +kernel
theorem dX8_undo_0 : decode cX8_undo 0 = .ok (.aload_n 0, 1) := by decide +kernel
theorem dX8_undo_1 : decode cX8_undo 1 = .ok (.getfield 19, 3) := by decide +kernel
theorem dX8_undo_4 : decode cX8_undo 4 = .ok (.getfield 177, 3) := by decide +kernel
theorem dX8_undo_7 : decode cX8_undo 7 = .ok (.ifCond .ne 6, 3) := by decide +kernel
theorem dX8_undo_10 : decode cX8_undo 10 = .ok (.bipush (-5), 2) := by decide +kernel
theorem dX8_undo_12 : decode cX8_undo 12 = .ok (.ireturn, 1) := by decide +kernel
theorem dX8_undo_13 : decode cX8_undo 13 = .ok (.aload_n 0, 1) := by decide +kernel
theorem dX8_undo_14 : decode cX8_undo 14 = .ok (.getfield 19, 3) := by decide +kernel
theorem dX8_undo_17 : decode cX8_undo 17 = .ok (.aload_n 0, 1) := by decide +kernel
theorem dX8_undo_18 : decode cX8_undo 18 = .ok (.getfield 10, 3) := by decide +kernel
theorem dX8_undo_21 : decode cX8_undo 21 = .ok (.invokevirtual 212, 3) := by decide +kernel
theorem dX8_undo_24 : decode cX8_undo 24 = .ok (.aload_n 0, 1) := by decide +kernel
theorem dX8_undo_25 : decode cX8_undo 25 = .ok (.getfield 19, 3) := by decide +kernel
theorem dX8_undo_28 : decode cX8_undo 28 = .ok (.getfield 177, 3) := by decide +kernel
theorem dX8_undo_31 : decode cX8_undo 31 = .ok (.ireturn, 1) := by decide +kernel
theorem dX8_save_0 : decode cX8_save 0 = .ok (.iload_n 1, 1) := by decide +kernel
theorem dX8_save_1 : decode cX8_save 1 = .ok (.invokestatic 215, 3) := by decide +kernel
theorem dX8_save_4 : decode cX8_save 4 = .ok (.ifCond .ne 6, 3) := by decide +kernel
theorem dX8_save_7 : decode cX8_save 7 = .ok (.bipush (-2), 2) := by decide +kernel
theorem dX8_save_9 : decode cX8_save 9 = .ok (.ireturn, 1) := by decide +kernel
theorem dX8_save_10 : decode cX8_save 10 = .ok (.aload_n 0, 1) := by decide +kernel
theorem dX8_save_11 : decode cX8_save 11 = .ok (.getfield 23, 3) := by decide +kernel
theorem dX8_save_14 : decode cX8_save 14 = .ok (.iload_n 1, 1) := by decide +kernel
theorem dX8_save_15 : decode cX8_save 15 = .ok (.aaload, 1) := by decide +kernel
theorem dX8_save_16 : decode cX8_save 16 = .ok (.aload_n 0, 1) := by decide +kernel
theorem dX8_save_17 : decode cX8_save 17 = .ok (.getfield 10, 3) := by decide +kernel
theorem dX8_save_20 : decode cX8_save 20 = .ok (.invokevirtual 218, 3) := by decide +kernel
theorem dX8_save_23 : decode cX8_save 23 = .ok (.aload_n 0, 1) := by decide +kernel
theorem dX8_save_24 : decode cX8_save 24 = .ok (.getfield 27, 3) := by decide +kernel
theorem dX8_save_27 : decode cX8_save 27 = .ok (.iload_n 1, 1) := by decide +kernel
theorem dX8_save_28 : decode cX8_save 28 = .ok (.iconst 1, 1) := by decide +kernel
theorem dX8_save_29 : decode cX8_save 29 = .ok (.bastore, 1) := by decide +kernel
theorem dX8_save_30 : decode cX8_save 30 = .ok (.aload_n 0, 1) := by decide +kernel
theorem dX8_save_31 : decode cX8_save 31 = .ok (.getfield 10, 3) := by decide +kernel
theorem dX8_save_34 : decode cX8_save 34 = .ok (.getfield 158, 3) := by decide +kernel
theorem dX8_save_37 : decode cX8_save 37 = .ok (.ireturn, 1) := by decide +kernel
theorem dX8_restore_0 : decode cX8_restore 0 = .ok (.iload_n 1, 1) := by decide +kernel
theorem dX8_restore_1 : decode cX8_restore 1 = .ok (.invokestatic 215, 3) := by decide +kernel
theorem dX8_restore_4 : decode cX8_restore 4 = .ok (.ifCond .ne 6, 3) := by decide +kernel
theorem dX8_restore_7 : decode cX8_restore 7 = .ok (.bipush (-2), 2) := by decide +kernel
theorem dX8_restore_9 : decode cX8_restore 9 = .ok (.ireturn, 1) := by decide +kernel
theorem dX8_restore_10 : decode cX8_restore 10 = .ok (.aload_n 0, 1) := by decide +kernel
theorem dX8_restore_11 : decode cX8_restore 11 = .ok (.getfield 27, 3) := by decide +kernel
theorem dX8_restore_14 : decode cX8_restore 14 = .ok (.iload_n 1, 1) := by decide +kernel
theorem dX8_restore_15 : decode cX8_restore 15 = .ok (.baload, 1) := by decide +kernel
theorem dX8_restore_16 : decode cX8_restore 16 = .ok (.ifCond .ne 6, 3) := by decide +kernel
theorem dX8_restore_19 : decode cX8_restore 19 = .ok (.bipush (-5), 2) := by decide +kernel
theorem dX8_restore_21 : decode cX8_restore 21 = .ok (.ireturn, 1) := by decide +kernel
theorem dX8_restore_22 : decode cX8_restore 22 = .ok (.aload_n 0, 1) := by decide +kernel
theorem dX8_restore_23 : decode cX8_restore 23 = .ok (.getfield 19, 3) := by decide +kernel
theorem dX8_restore_26 : decode cX8_restore 26 = .ok (.aload_n 0, 1) := by decide +kernel
theorem dX8_restore_27 : decode cX8_restore 27 = .ok (.getfield 10, 3) := by decide +kernel
theorem dX8_restore_30 : decode cX8_restore 30 = .ok (.invokevirtual 62, 3) := by decide +kernel
theorem dX8_restore_33 : decode cX8_restore 33 = .ok (.aload_n 0, 1) := by decide +kernel
theorem dX8_restore_34 : decode cX8_restore 34 = .ok (.getfield 10, 3) := by decide +kernel
theorem dX8_restore_37 : decode cX8_restore 37 = .ok (.aload_n 0, 1) := by decide +kernel
theorem dX8_restore_38 : decode cX8_restore 38 = .ok (.getfield 23, 3) := by decide +kernel
theorem dX8_restore_41 : decode cX8_restore 41 = .ok (.iload_n 1, 1) := by decide +kernel
theorem dX8_restore_42 : decode cX8_restore 42 = .ok (.aaload, 1) := by decide +kernel
theorem dX8_restore_43 : decode cX8_restore 43 = .ok (.invokevirtual 218, 3) := by decide +kernel
theorem dX8_restore_46 : decode cX8_restore 46 = .ok (.aload_n 0, 1) := by decide +kernel
theorem dX8_restore_47 : decode cX8_restore 47 = .ok (.aload_n 0, 1) := by decide +kernel
theorem dX8_restore_48 : decode cX8_restore 48 = .ok (.getfield 10, 3) := by decide +kernel
theorem dX8_restore_51 : decode cX8_restore 51 = .ok (.getfield 158, 3) := by decide +kernel
theorem dX8_restore_54 : decode cX8_restore 54 = .ok (.invokevirtual 70, 3) := by decide +kernel
theorem dX8_restore_57 : decode cX8_restore 57 = .ok (.ireturn, 1) := by decide +kernel
theorem dX8_isPosterior_0 : decode cX8_isPosterior 0 = .ok (.iload_n 0, 1) := by decide +kernel
theorem dX8_isPosterior_1 : decode cX8_isPosterior 1 = .ok (.ifCond .lt 13, 3) := by decide +kernel
theorem dX8_isPosterior_4 : decode cX8_isPosterior 4 = .ok (.iload_n 0, 1) := by decide +kernel
theorem dX8_isPosterior_5 : decode cX8_isPosterior 5 = .ok (.bipush 100, 2) := by decide +kernel
theorem dX8_isPosterior_7 : decode cX8_isPosterior 7 = .ok (.if_icmp .gt 7, 3) := by decide +kernel
theorem dX8_isPosterior_10 : decode cX8_isPosterior 10 = .ok (.iconst 1, 1) := by decide +kernel
theorem dX8_isPosterior_11 : decode cX8_isPosterior 11 = .ok (.goto 4, 3) := by decide +kernel
theorem dX8_isPosterior_14 : decode cX8_isPosterior 14 = .ok (.iconst 0, 1) := by decide +kernel
theorem dX8_isPosterior_15 : decode cX8_isPosterior 15 = .ok (.ireturn, 1) := by decide +kernel
theorem dX8_isHalfOfFraction_0 : decode cX8_isHalfOfFraction 0 = .ok (.iload_n 0, 1) := by decide +kernel
theorem dX8_isHalfOfFraction_1 : decode cX8_isHalfOfFraction 1 = .ok (.ifCond .eq 8, 3) := by decide +kernel
theorem dX8_isHalfOfFraction_4 : decode cX8_isHalfOfFraction 4 = .ok (.iload_n 0, 1) := by decide +kernel
theorem dX8_isHalfOfFraction_5 : decode cX8_isHalfOfFraction 5 = .ok (.iconst 1, 1) := by decide +kernel
theorem dX8_isHalfOfFraction_6 : decode cX8_isHalfOfFraction 6 = .ok (.if_icmp .ne 7, 3) := by decide +kernel
theorem dX8_isHalfOfFraction_9 : decode cX8_isHalfOfFraction 9 = .ok (.iconst 1, 1) := by decide +kernel
theorem dX8_isHalfOfFraction_10 : decode cX8_isHalfOfFraction 10 = .ok (.goto 4, 3) := by decide +kernel
theorem dX8_isHalfOfFraction_13 : decode cX8_isHalfOfFraction 13 = .ok (.iconst 0, 1) := by decide +kernel
theorem dX8_isHalfOfFraction_14 : decode cX8_isHalfOfFraction 14 = .ok (.ireturn, 1) := by decide +kernel
theorem dX8_isSlot_0 : decode cX8_isSlot 0 = .ok (.iload_n 0, 1) := by decide +kernel
theorem dX8_isSlot_1 : decode cX8_isSlot 1 = .ok (.ifCond .lt 12, 3) := by decide +kernel
theorem dX8_isSlot_4 : decode cX8_isSlot 4 = .ok (.iload_n 0, 1) := by decide +kernel
theorem dX8_isSlot_5 : decode cX8_isSlot 5 = .ok (.iconst 2, 1) := by decide +kernel
theorem dX8_isSlot_6 : decode cX8_isSlot 6 = .ok (.if_icmp .ge 7, 3) := by decide +kernel
theorem dX8_isSlot_9 : decode cX8_isSlot 9 = .ok (.iconst 1, 1) := by decide +kernel
theorem dX8_isSlot_10 : decode cX8_isSlot 10 = .ok (.goto 4, 3) := by decide +kernel
theorem dX8_isSlot_13 : decode cX8_isSlot 13 = .ok (.iconst 0, 1) := by decide +kernel
theorem dX8_isSlot_14 : decode cX8_isSlot 14 = .ok (.ireturn, 1) := by decide +kernel
theorem dX8_recorded_0 : decode cX8_recorded 0 = .ok (.iload_n 1, 1) := by decide +kernel
theorem dX8_recorded_1 : decode cX8_recorded 1 = .ok (.ifCond .lt 10, 3) := by decide +kernel
theorem dX8_recorded_4 : decode cX8_recorded 4 = .ok (.aload_n 0, 1) := by decide +kernel
theorem dX8_recorded_5 : decode cX8_recorded 5 = .ok (.getfield 19, 3) := by decide +kernel
theorem dX8_recorded_8 : decode cX8_recorded 8 = .ok (.invokevirtual 221, 3) := by decide +kernel
theorem dX8_recorded_11 : decode cX8_recorded 11 = .ok (.iload_n 1, 1) := by decide +kernel
theorem dX8_recorded_12 : decode cX8_recorded 12 = .ok (.ireturn, 1) := by decide +kernel
theorem dX8_splitPart_0 : decode cX8_splitPart 0 = .ok (.aload_n 0, 1) := by decide +kernel
theorem dX8_splitPart_1 : decode cX8_splitPart 1 = .ok (.getfield 10, 3) := by decide +kernel
theorem dX8_splitPart_4 : decode cX8_splitPart 4 = .ok (.getfield 117, 3) := by decide +kernel
theorem dX8_splitPart_7 : decode cX8_splitPart 7 = .ok (.astore 4, 2) := by decide +kernel
theorem dX8_splitPart_9 : decode cX8_splitPart 9 = .ok (.aload 4, 2) := by decide +kernel
theorem dX8_splitPart_11 : decode cX8_splitPart 11 = .ok (.iload_n 1, 1) := by decide +kernel
theorem dX8_splitPart_12 : decode cX8_splitPart 12 = .ok (.invokevirtual 121, 3) := by decide +kernel
theorem dX8_splitPart_15 : decode cX8_splitPart 15 = .ok (.ifCond .ne 5, 3) := by decide +kernel
theorem dX8_splitPart_18 : decode cX8_splitPart 18 = .ok (.iconst (-1), 1) := by decide +kernel
theorem dX8_splitPart_19 : decode cX8_splitPart 19 = .ok (.ireturn, 1) := by decide +kernel
theorem dX8_splitPart_20 : decode cX8_splitPart 20 = .ok (.aload 4, 2) := by decide +kernel
theorem dX8_splitPart_22 : decode cX8_splitPart 22 = .ok (.getfield 127, 3) := by decide +kernel
theorem dX8_splitPart_25 : decode cX8_splitPart 25 = .ok (.iload_n 1, 1) := by decide +kernel
theorem dX8_splitPart_26 : decode cX8_splitPart 26 = .ok (.iaload, 1) := by decide +kernel
theorem dX8_splitPart_27 : decode cX8_splitPart 27 = .ok (.istore 5, 2) := by decide +kernel
theorem dX8_splitPart_29 : decode cX8_splitPart 29 = .ok (.iload_n 2, 1) := by decide +kernel
theorem dX8_splitPart_30 : decode cX8_splitPart 30 = .ok (.ifCond .lt 21, 3) := by decide +kernel
theorem dX8_splitPart_33 : decode cX8_splitPart 33 = .ok (.iload_n 2, 1) := by decide +kernel
theorem dX8_splitPart_34 : decode cX8_splitPart 34 = .ok (.iload 5, 2) := by decide +kernel
theorem dX8_splitPart_36 : decode cX8_splitPart 36 = .ok (.if_icmp .gt 15, 3) := by decide +kernel
theorem dX8_splitPart_39 : decode cX8_splitPart 39 = .ok (.iload_n 3, 1) := by decide +kernel
theorem dX8_splitPart_40 : decode cX8_splitPart 40 = .ok (.iload 5, 2) := by decide +kernel
theorem dX8_splitPart_42 : decode cX8_splitPart 42 = .ok (.if_icmp .lt 9, 3) := by decide +kernel
theorem dX8_splitPart_45 : decode cX8_splitPart 45 = .ok (.iload_n 3, 1) := by decide +kernel
theorem dX8_splitPart_46 : decode cX8_splitPart 46 = .ok (.bipush 100, 2) := by decide +kernel
theorem dX8_splitPart_48 : decode cX8_splitPart 48 = .ok (.if_icmp .le 6, 3) := by decide +kernel
theorem dX8_splitPart_51 : decode cX8_splitPart 51 = .ok (.bipush (-2), 2) := by decide +kernel
theorem dX8_splitPart_53 : decode cX8_splitPart 53 = .ok (.ireturn, 1) := by decide +kernel
theorem dX8_splitPart_54 : decode cX8_splitPart 54 = .ok (.iload_n 2, 1) := by decide +kernel
theorem dX8_splitPart_55 : decode cX8_splitPart 55 = .ok (.iload_n 3, 1) := by decide +kernel
theorem dX8_splitPart_56 : decode cX8_splitPart 56 = .ok (.if_icmp .ne 9, 3) := by decide +kernel
theorem dX8_splitPart_59 : decode cX8_splitPart 59 = .ok (.aload 4, 2) := by decide +kernel
theorem dX8_splitPart_61 : decode cX8_splitPart 61 = .ok (.getfield 164, 3) := by decide +kernel
theorem dX8_splitPart_64 : decode cX8_splitPart 64 = .ok (.ireturn, 1) := by decide +kernel
theorem dX8_splitPart_65 : decode cX8_splitPart 65 = .ok (.iload_n 3, 1) := by decide +kernel
theorem dX8_splitPart_66 : decode cX8_splitPart 66 = .ok (.iload_n 2, 1) := by decide +kernel
theorem dX8_splitPart_67 : decode cX8_splitPart 67 = .ok (.isub, 1) := by decide +kernel
theorem dX8_splitPart_68 : decode cX8_splitPart 68 = .ok (.istore 6, 2) := by decide +kernel
theorem dX8_splitPart_70 : decode cX8_splitPart 70 = .ok (.aload 4, 2) := by decide +kernel
theorem dX8_splitPart_72 : decode cX8_splitPart 72 = .ok (.getfield 124, 3) := by decide +kernel
theorem dX8_splitPart_75 : decode cX8_splitPart 75 = .ok (.iload_n 1, 1) := by decide +kernel
theorem dX8_splitPart_76 : decode cX8_splitPart 76 = .ok (.iaload, 1) := by decide +kernel
theorem dX8_splitPart_77 : decode cX8_splitPart 77 = .ok (.istore 7, 2) := by decide +kernel
theorem dX8_splitPart_79 : decode cX8_splitPart 79 = .ok (.aload_n 0, 1) := by decide +kernel
theorem dX8_splitPart_80 : decode cX8_splitPart 80 = .ok (.getfield 41, 3) := by decide +kernel
theorem dX8_splitPart_83 : decode cX8_splitPart 83 = .ok (.aload 4, 2) := by decide +kernel
theorem dX8_splitPart_85 : decode cX8_splitPart 85 = .ok (.iload 6, 2) := by decide +kernel
theorem dX8_splitPart_87 : decode cX8_splitPart 87 = .ok (.invokevirtual 224, 3) := by decide +kernel
theorem dX8_splitPart_90 : decode cX8_splitPart 90 = .ok (.aload_n 0, 1) := by decide +kernel
theorem dX8_splitPart_91 : decode cX8_splitPart 91 = .ok (.getfield 41, 3) := by decide +kernel
theorem dX8_splitPart_94 : decode cX8_splitPart 94 = .ok (.iload 5, 2) := by decide +kernel
theorem dX8_splitPart_96 : decode cX8_splitPart 96 = .ok (.iload 7, 2) := by decide +kernel
theorem dX8_splitPart_98 : decode cX8_splitPart 98 = .ok (.ineg, 1) := by decide +kernel
theorem dX8_splitPart_99 : decode cX8_splitPart 99 = .ok (.iload 6, 2) := by decide +kernel
theorem dX8_splitPart_101 : decode cX8_splitPart 101 = .ok (.imul, 1) := by decide +kernel
theorem dX8_splitPart_102 : decode cX8_splitPart 102 = .ok (.invokevirtual 228, 3) := by decide +kernel
theorem dX8_splitPart_105 : decode cX8_splitPart 105 = .ok (.aload_n 0, 1) := by decide +kernel
theorem dX8_splitPart_106 : decode cX8_splitPart 106 = .ok (.getfield 41, 3) := by decide +kernel
theorem dX8_splitPart_109 : decode cX8_splitPart 109 = .ok (.iload_n 2, 1) := by decide +kernel
theorem dX8_splitPart_110 : decode cX8_splitPart 110 = .ok (.iload 7, 2) := by decide +kernel
theorem dX8_splitPart_112 : decode cX8_splitPart 112 = .ok (.iload_n 3, 1) := by decide +kernel
theorem dX8_splitPart_113 : decode cX8_splitPart 113 = .ok (.iload 5, 2) := by decide +kernel
theorem dX8_splitPart_115 : decode cX8_splitPart 115 = .ok (.isub, 1) := by decide +kernel
theorem dX8_splitPart_116 : decode cX8_splitPart 116 = .ok (.imul, 1) := by decide +kernel
theorem dX8_splitPart_117 : decode cX8_splitPart 117 = .ok (.invokevirtual 228, 3) := by decide +kernel
theorem dX8_splitPart_120 : decode cX8_splitPart 120 = .ok (.aload_n 0, 1) := by decide +kernel
theorem dX8_splitPart_121 : decode cX8_splitPart 121 = .ok (.getfield 41, 3) := by decide +kernel
theorem dX8_splitPart_124 : decode cX8_splitPart 124 = .ok (.iload_n 3, 1) := by decide +kernel
theorem dX8_splitPart_125 : decode cX8_splitPart 125 = .ok (.iload 7, 2) := by decide +kernel
theorem dX8_splitPart_127 : decode cX8_splitPart 127 = .ok (.iload 5, 2) := by decide +kernel
theorem dX8_splitPart_129 : decode cX8_splitPart 129 = .ok (.iload_n 2, 1) := by decide +kernel
theorem dX8_splitPart_130 : decode cX8_splitPart 130 = .ok (.isub, 1) := by decide +kernel
theorem dX8_splitPart_131 : decode cX8_splitPart 131 = .ok (.imul, 1) := by decide +kernel
theorem dX8_splitPart_132 : decode cX8_splitPart 132 = .ok (.invokevirtual 228, 3) := by decide +kernel
theorem dX8_splitPart_135 : decode cX8_splitPart 135 = .ok (.aload_n 0, 1) := by decide +kernel
theorem dX8_splitPart_136 : decode cX8_splitPart 136 = .ok (.invokevirtual 232, 3) := by decide +kernel
theorem dX8_splitPart_139 : decode cX8_splitPart 139 = .ok (.ireturn, 1) := by decide +kernel
theorem dX8_joinWithNext_0 : decode cX8_joinWithNext 0 = .ok (.aload_n 0, 1) := by decide +kernel
theorem dX8_joinWithNext_1 : decode cX8_joinWithNext 1 = .ok (.getfield 10, 3) := by decide +kernel
theorem dX8_joinWithNext_4 : decode cX8_joinWithNext 4 = .ok (.getfield 117, 3) := by decide +kernel
theorem dX8_joinWithNext_7 : decode cX8_joinWithNext 7 = .ok (.astore_n 2, 1) := by decide +kernel
theorem dX8_joinWithNext_8 : decode cX8_joinWithNext 8 = .ok (.aload_n 2, 1) := by decide +kernel
theorem dX8_joinWithNext_9 : decode cX8_joinWithNext 9 = .ok (.iload_n 1, 1) := by decide +kernel
theorem dX8_joinWithNext_10 : decode cX8_joinWithNext 10 = .ok (.invokevirtual 121, 3) := by decide +kernel
theorem dX8_joinWithNext_13 : decode cX8_joinWithNext 13 = .ok (.ifCond .eq 13, 3) := by decide +kernel
theorem dX8_joinWithNext_16 : decode cX8_joinWithNext 16 = .ok (.aload_n 2, 1) := by decide +kernel
theorem dX8_joinWithNext_17 : decode cX8_joinWithNext 17 = .ok (.iload_n 1, 1) := by decide +kernel
theorem dX8_joinWithNext_18 : decode cX8_joinWithNext 18 = .ok (.iconst 1, 1) := by decide +kernel
theorem dX8_joinWithNext_19 : decode cX8_joinWithNext 19 = .ok (.iadd, 1) := by decide +kernel
theorem dX8_joinWithNext_20 : decode cX8_joinWithNext 20 = .ok (.invokevirtual 121, 3) := by decide +kernel
theorem dX8_joinWithNext_23 : decode cX8_joinWithNext 23 = .ok (.ifCond .ne 5, 3) := by decide +kernel
theorem dX8_joinWithNext_26 : decode cX8_joinWithNext 26 = .ok (.iconst (-1), 1) := by decide +kernel
theorem dX8_joinWithNext_27 : decode cX8_joinWithNext 27 = .ok (.ireturn, 1) := by decide +kernel
theorem dX8_joinWithNext_28 : decode cX8_joinWithNext 28 = .ok (.aload_n 2, 1) := by decide +kernel
theorem dX8_joinWithNext_29 : decode cX8_joinWithNext 29 = .ok (.getfield 124, 3) := by decide +kernel
theorem dX8_joinWithNext_32 : decode cX8_joinWithNext 32 = .ok (.iload_n 1, 1) := by decide +kernel
theorem dX8_joinWithNext_33 : decode cX8_joinWithNext 33 = .ok (.iaload, 1) := by decide +kernel
theorem dX8_joinWithNext_34 : decode cX8_joinWithNext 34 = .ok (.istore_n 3, 1) := by decide +kernel
theorem dX8_joinWithNext_35 : decode cX8_joinWithNext 35 = .ok (.aload_n 2, 1) := by decide +kernel
theorem dX8_joinWithNext_36 : decode cX8_joinWithNext 36 = .ok (.getfield 124, 3) := by decide +kernel
theorem dX8_joinWithNext_39 : decode cX8_joinWithNext 39 = .ok (.iload_n 1, 1) := by decide +kernel
theorem dX8_joinWithNext_40 : decode cX8_joinWithNext 40 = .ok (.iconst 1, 1) := by decide +kernel
theorem dX8_joinWithNext_41 : decode cX8_joinWithNext 41 = .ok (.iadd, 1) := by decide +kernel
theorem dX8_joinWithNext_42 : decode cX8_joinWithNext 42 = .ok (.iaload, 1) := by decide +kernel
theorem dX8_joinWithNext_43 : decode cX8_joinWithNext 43 = .ok (.istore 4, 2) := by decide +kernel
theorem dX8_joinWithNext_45 : decode cX8_joinWithNext 45 = .ok (.aload_n 2, 1) := by decide +kernel
theorem dX8_joinWithNext_46 : decode cX8_joinWithNext 46 = .ok (.getfield 127, 3) := by decide +kernel
theorem dX8_joinWithNext_49 : decode cX8_joinWithNext 49 = .ok (.iload_n 1, 1) := by decide +kernel
theorem dX8_joinWithNext_50 : decode cX8_joinWithNext 50 = .ok (.iaload, 1) := by decide +kernel
theorem dX8_joinWithNext_51 : decode cX8_joinWithNext 51 = .ok (.istore 5, 2) := by decide +kernel
theorem dX8_joinWithNext_53 : decode cX8_joinWithNext 53 = .ok (.aload_n 2, 1) := by decide +kernel
theorem dX8_joinWithNext_54 : decode cX8_joinWithNext 54 = .ok (.getfield 127, 3) := by decide +kernel
theorem dX8_joinWithNext_57 : decode cX8_joinWithNext 57 = .ok (.iload_n 1, 1) := by decide +kernel
theorem dX8_joinWithNext_58 : decode cX8_joinWithNext 58 = .ok (.iconst 1, 1) := by decide +kernel
theorem dX8_joinWithNext_59 : decode cX8_joinWithNext 59 = .ok (.iadd, 1) := by decide +kernel
theorem dX8_joinWithNext_60 : decode cX8_joinWithNext 60 = .ok (.iaload, 1) := by decide +kernel
theorem dX8_joinWithNext_61 : decode cX8_joinWithNext 61 = .ok (.istore 6, 2) := by decide +kernel
theorem dX8_joinWithNext_63 : decode cX8_joinWithNext 63 = .ok (.iload_n 3, 1) := by decide +kernel
theorem dX8_joinWithNext_64 : decode cX8_joinWithNext 64 = .ok (.iload 4, 2) := by decide +kernel
theorem dX8_joinWithNext_66 : decode cX8_joinWithNext 66 = .ok (.iadd, 1) := by decide +kernel
theorem dX8_joinWithNext_67 : decode cX8_joinWithNext 67 = .ok (.istore 7, 2) := by decide +kernel
theorem dX8_joinWithNext_69 : decode cX8_joinWithNext 69 = .ok (.iload_n 3, 1) := by decide +kernel
theorem dX8_joinWithNext_70 : decode cX8_joinWithNext 70 = .ok (.iload 5, 2) := by decide +kernel
theorem dX8_joinWithNext_72 : decode cX8_joinWithNext 72 = .ok (.imul, 1) := by decide +kernel
theorem dX8_joinWithNext_73 : decode cX8_joinWithNext 73 = .ok (.iload 4, 2) := by decide +kernel
theorem dX8_joinWithNext_75 : decode cX8_joinWithNext 75 = .ok (.iload 6, 2) := by decide +kernel
theorem dX8_joinWithNext_77 : decode cX8_joinWithNext 77 = .ok (.imul, 1) := by decide +kernel
theorem dX8_joinWithNext_78 : decode cX8_joinWithNext 78 = .ok (.iadd, 1) := by decide +kernel
theorem dX8_joinWithNext_79 : decode cX8_joinWithNext 79 = .ok (.istore 8, 2) := by decide +kernel
theorem dX8_joinWithNext_81 : decode cX8_joinWithNext 81 = .ok (.iload 7, 2) := by decide +kernel
theorem dX8_joinWithNext_83 : decode cX8_joinWithNext 83 = .ok (.ifCond .le 11, 3) := by decide +kernel
theorem dX8_joinWithNext_86 : decode cX8_joinWithNext 86 = .ok (.iload 8, 2) := by decide +kernel
theorem dX8_joinWithNext_88 : decode cX8_joinWithNext 88 = .ok (.iload 7, 2) := by decide +kernel
theorem dX8_joinWithNext_90 : decode cX8_joinWithNext 90 = .ok (.irem, 1) := by decide +kernel
theorem dX8_joinWithNext_91 : decode cX8_joinWithNext 91 = .ok (.ifCond .eq 6, 3) := by decide +kernel
theorem dX8_joinWithNext_94 : decode cX8_joinWithNext 94 = .ok (.bipush (-5), 2) := by decide +kernel
theorem dX8_joinWithNext_96 : decode cX8_joinWithNext 96 = .ok (.ireturn, 1) := by decide +kernel
theorem dX8_joinWithNext_97 : decode cX8_joinWithNext 97 = .ok (.aload_n 0, 1) := by decide +kernel
theorem dX8_joinWithNext_98 : decode cX8_joinWithNext 98 = .ok (.getfield 41, 3) := by decide +kernel
theorem dX8_joinWithNext_101 : decode cX8_joinWithNext 101 = .ok (.aload_n 2, 1) := by decide +kernel
theorem dX8_joinWithNext_102 : decode cX8_joinWithNext 102 = .ok (.iconst 1, 1) := by decide +kernel
theorem dX8_joinWithNext_103 : decode cX8_joinWithNext 103 = .ok (.invokevirtual 224, 3) := by decide +kernel
theorem dX8_joinWithNext_106 : decode cX8_joinWithNext 106 = .ok (.aload_n 0, 1) := by decide +kernel
theorem dX8_joinWithNext_107 : decode cX8_joinWithNext 107 = .ok (.getfield 41, 3) := by decide +kernel
theorem dX8_joinWithNext_110 : decode cX8_joinWithNext 110 = .ok (.iload 5, 2) := by decide +kernel
theorem dX8_joinWithNext_112 : decode cX8_joinWithNext 112 = .ok (.iload_n 3, 1) := by decide +kernel
theorem dX8_joinWithNext_113 : decode cX8_joinWithNext 113 = .ok (.ineg, 1) := by decide +kernel
theorem dX8_joinWithNext_114 : decode cX8_joinWithNext 114 = .ok (.invokevirtual 228, 3) := by decide +kernel
theorem dX8_joinWithNext_117 : decode cX8_joinWithNext 117 = .ok (.aload_n 0, 1) := by decide +kernel
theorem dX8_joinWithNext_118 : decode cX8_joinWithNext 118 = .ok (.getfield 41, 3) := by decide +kernel
theorem dX8_joinWithNext_121 : decode cX8_joinWithNext 121 = .ok (.iload 6, 2) := by decide +kernel
theorem dX8_joinWithNext_123 : decode cX8_joinWithNext 123 = .ok (.iload 4, 2) := by decide +kernel
theorem dX8_joinWithNext_125 : decode cX8_joinWithNext 125 = .ok (.ineg, 1) := by decide +kernel
theorem dX8_joinWithNext_126 : decode cX8_joinWithNext 126 = .ok (.invokevirtual 228, 3) := by decide +kernel
theorem dX8_joinWithNext_129 : decode cX8_joinWithNext 129 = .ok (.aload_n 0, 1) := by decide +kernel
theorem dX8_joinWithNext_130 : decode cX8_joinWithNext 130 = .ok (.getfield 41, 3) := by decide +kernel
theorem dX8_joinWithNext_133 : decode cX8_joinWithNext 133 = .ok (.iload 8, 2) := by decide +kernel
theorem dX8_joinWithNext_135 : decode cX8_joinWithNext 135 = .ok (.iload 7, 2) := by decide +kernel
theorem dX8_joinWithNext_137 : decode cX8_joinWithNext 137 = .ok (.idiv, 1) := by decide +kernel
theorem dX8_joinWithNext_138 : decode cX8_joinWithNext 138 = .ok (.iload 7, 2) := by decide +kernel
theorem dX8_joinWithNext_140 : decode cX8_joinWithNext 140 = .ok (.invokevirtual 228, 3) := by decide +kernel
theorem dX8_joinWithNext_143 : decode cX8_joinWithNext 143 = .ok (.aload_n 0, 1) := by decide +kernel
theorem dX8_joinWithNext_144 : decode cX8_joinWithNext 144 = .ok (.invokevirtual 232, 3) := by decide +kernel
theorem dX8_joinWithNext_147 : decode cX8_joinWithNext 147 = .ok (.ireturn, 1) := by decide +kernel
theorem dX8_takeBest_0 : decode cX8_takeBest 0 = .ok (.aload_n 0, 1) := by decide +kernel
theorem dX8_takeBest_1 : decode cX8_takeBest 1 = .ok (.getfield 48, 3) := by decide +kernel
theorem dX8_takeBest_4 : decode cX8_takeBest 4 = .ok (.aload_n 0, 1) := by decide +kernel
theorem dX8_takeBest_5 : decode cX8_takeBest 5 = .ok (.getfield 10, 3) := by decide +kernel
theorem dX8_takeBest_8 : decode cX8_takeBest 8 = .ok (.getfield 73, 3) := by decide +kernel
theorem dX8_takeBest_11 : decode cX8_takeBest 11 = .ok (.invokevirtual 235, 3) := by decide +kernel
theorem dX8_takeBest_14 : decode cX8_takeBest 14 = .ok (.aload_n 0, 1) := by decide +kernel
theorem dX8_takeBest_15 : decode cX8_takeBest 15 = .ok (.getfield 48, 3) := by decide +kernel
theorem dX8_takeBest_18 : decode cX8_takeBest 18 = .ok (.aload_n 0, 1) := by decide +kernel
theorem dX8_takeBest_19 : decode cX8_takeBest 19 = .ok (.getfield 10, 3) := by decide +kernel
theorem dX8_takeBest_22 : decode cX8_takeBest 22 = .ok (.getfield 158, 3) := by decide +kernel
theorem dX8_takeBest_25 : decode cX8_takeBest 25 = .ok (.invokevirtual 239, 3) := by decide +kernel
theorem dX8_takeBest_28 : decode cX8_takeBest 28 = .ok (.aload_n 0, 1) := by decide +kernel
theorem dX8_takeBest_29 : decode cX8_takeBest 29 = .ok (.getfield 41, 3) := by decide +kernel
theorem dX8_takeBest_32 : decode cX8_takeBest 32 = .ok (.invokevirtual 242, 3) := by decide +kernel
theorem dX8_takeBest_35 : decode cX8_takeBest 35 = .ok (.aload_n 0, 1) := by decide +kernel
theorem dX8_takeBest_36 : decode cX8_takeBest 36 = .ok (.getfield 41, 3) := by decide +kernel
theorem dX8_takeBest_39 : decode cX8_takeBest 39 = .ok (.aload_n 0, 1) := by decide +kernel
theorem dX8_takeBest_40 : decode cX8_takeBest 40 = .ok (.getfield 48, 3) := by decide +kernel
theorem dX8_takeBest_43 : decode cX8_takeBest 43 = .ok (.getfield 187, 3) := by decide +kernel
theorem dX8_takeBest_46 : decode cX8_takeBest 46 = .ok (.aload_n 0, 1) := by decide +kernel
theorem dX8_takeBest_47 : decode cX8_takeBest 47 = .ok (.getfield 48, 3) := by decide +kernel
theorem dX8_takeBest_50 : decode cX8_takeBest 50 = .ok (.getfield 193, 3) := by decide +kernel
theorem dX8_takeBest_53 : decode cX8_takeBest 53 = .ok (.invokevirtual 228, 3) := by decide +kernel
theorem dX8_takeBest_56 : decode cX8_takeBest 56 = .ok (.aload_n 0, 1) := by decide +kernel
theorem dX8_takeBest_57 : decode cX8_takeBest 57 = .ok (.getfield 41, 3) := by decide +kernel
theorem dX8_takeBest_60 : decode cX8_takeBest 60 = .ok (.aload_n 0, 1) := by decide +kernel
theorem dX8_takeBest_61 : decode cX8_takeBest 61 = .ok (.getfield 48, 3) := by decide +kernel
theorem dX8_takeBest_64 : decode cX8_takeBest 64 = .ok (.getfield 190, 3) := by decide +kernel
theorem dX8_takeBest_67 : decode cX8_takeBest 67 = .ok (.aload_n 0, 1) := by decide +kernel
theorem dX8_takeBest_68 : decode cX8_takeBest 68 = .ok (.getfield 48, 3) := by decide +kernel
theorem dX8_takeBest_71 : decode cX8_takeBest 71 = .ok (.getfield 196, 3) := by decide +kernel
theorem dX8_takeBest_74 : decode cX8_takeBest 74 = .ok (.invokevirtual 228, 3) := by decide +kernel
theorem dX8_takeBest_77 : decode cX8_takeBest 77 = .ok (.aload_n 0, 1) := by decide +kernel
theorem dX8_takeBest_78 : decode cX8_takeBest 78 = .ok (.invokevirtual 232, 3) := by decide +kernel
theorem dX8_takeBest_81 : decode cX8_takeBest 81 = .ok (.ireturn, 1) := by decide +kernel
theorem dX8_takeTold_0 : decode cX8_takeTold 0 = .ok (.aload_n 0, 1) := by decide +kernel
theorem dX8_takeTold_1 : decode cX8_takeTold 1 = .ok (.getfield 41, 3) := by decide +kernel
theorem dX8_takeTold_4 : decode cX8_takeTold 4 = .ok (.invokevirtual 242, 3) := by decide +kernel
theorem dX8_takeTold_7 : decode cX8_takeTold 7 = .ok (.iconst 0, 1) := by decide +kernel
theorem dX8_takeTold_8 : decode cX8_takeTold 8 = .ok (.istore_n 1, 1) := by decide +kernel
theorem dX8_takeTold_9 : decode cX8_takeTold 9 = .ok (.iload_n 1, 1) := by decide +kernel
theorem dX8_takeTold_10 : decode cX8_takeTold 10 = .ok (.aload_n 0, 1) := by decide +kernel
theorem dX8_takeTold_11 : decode cX8_takeTold 11 = .ok (.getfield 34, 3) := by decide +kernel
theorem dX8_takeTold_14 : decode cX8_takeTold 14 = .ok (.getfield 245, 3) := by decide +kernel
theorem dX8_takeTold_17 : decode cX8_takeTold 17 = .ok (.if_icmp .ge 60, 3) := by decide +kernel
theorem dX8_takeTold_20 : decode cX8_takeTold 20 = .ok (.aload_n 0, 1) := by decide +kernel
theorem dX8_takeTold_21 : decode cX8_takeTold 21 = .ok (.getfield 34, 3) := by decide +kernel
theorem dX8_takeTold_24 : decode cX8_takeTold 24 = .ok (.iload_n 1, 1) := by decide +kernel
theorem dX8_takeTold_25 : decode cX8_takeTold 25 = .ok (.invokevirtual 248, 3) := by decide +kernel
theorem dX8_takeTold_28 : decode cX8_takeTold 28 = .ok (.istore_n 2, 1) := by decide +kernel
theorem dX8_takeTold_29 : decode cX8_takeTold 29 = .ok (.aload_n 0, 1) := by decide +kernel
theorem dX8_takeTold_30 : decode cX8_takeTold 30 = .ok (.getfield 34, 3) := by decide +kernel
theorem dX8_takeTold_33 : decode cX8_takeTold 33 = .ok (.iload_n 1, 1) := by decide +kernel
theorem dX8_takeTold_34 : decode cX8_takeTold 34 = .ok (.iconst 1, 1) := by decide +kernel
theorem dX8_takeTold_35 : decode cX8_takeTold 35 = .ok (.iadd, 1) := by decide +kernel
theorem dX8_takeTold_36 : decode cX8_takeTold 36 = .ok (.invokevirtual 248, 3) := by decide +kernel
theorem dX8_takeTold_39 : decode cX8_takeTold 39 = .ok (.istore_n 3, 1) := by decide +kernel
theorem dX8_takeTold_40 : decode cX8_takeTold 40 = .ok (.iload_n 2, 1) := by decide +kernel
theorem dX8_takeTold_41 : decode cX8_takeTold 41 = .ok (.iconst 1, 1) := by decide +kernel
theorem dX8_takeTold_42 : decode cX8_takeTold 42 = .ok (.if_icmp .lt 17, 3) := by decide +kernel
theorem dX8_takeTold_45 : decode cX8_takeTold 45 = .ok (.iload_n 2, 1) := by decide +kernel
theorem dX8_takeTold_46 : decode cX8_takeTold 46 = .ok (.sipush 999, 3) := by decide +kernel
theorem dX8_takeTold_49 : decode cX8_takeTold 49 = .ok (.if_icmp .gt 10, 3) := by decide +kernel
theorem dX8_takeTold_52 : decode cX8_takeTold 52 = .ok (.iload_n 3, 1) := by decide +kernel
theorem dX8_takeTold_53 : decode cX8_takeTold 53 = .ok (.invokestatic 136, 3) := by decide +kernel
theorem dX8_takeTold_56 : decode cX8_takeTold 56 = .ok (.ifCond .ne 6, 3) := by decide +kernel
theorem dX8_takeTold_59 : decode cX8_takeTold 59 = .ok (.bipush (-2), 2) := by decide +kernel
theorem dX8_takeTold_61 : decode cX8_takeTold 61 = .ok (.ireturn, 1) := by decide +kernel
theorem dX8_takeTold_62 : decode cX8_takeTold 62 = .ok (.aload_n 0, 1) := by decide +kernel
theorem dX8_takeTold_63 : decode cX8_takeTold 63 = .ok (.getfield 41, 3) := by decide +kernel
theorem dX8_takeTold_66 : decode cX8_takeTold 66 = .ok (.iload_n 3, 1) := by decide +kernel
theorem dX8_takeTold_67 : decode cX8_takeTold 67 = .ok (.iload_n 2, 1) := by decide +kernel
theorem dX8_takeTold_68 : decode cX8_takeTold 68 = .ok (.invokevirtual 228, 3) := by decide +kernel
theorem dX8_takeTold_71 : decode cX8_takeTold 71 = .ok (.iinc 1 2, 3) := by decide +kernel
theorem dX8_takeTold_74 : decode cX8_takeTold 74 = .ok (.goto (-65), 3) := by decide +kernel
theorem dX8_takeTold_77 : decode cX8_takeTold 77 = .ok (.aload_n 0, 1) := by decide +kernel
theorem dX8_takeTold_78 : decode cX8_takeTold 78 = .ok (.getfield 41, 3) := by decide +kernel
theorem dX8_takeTold_81 : decode cX8_takeTold 81 = .ok (.invokevirtual 250, 3) := by decide +kernel
theorem dX8_takeTold_84 : decode cX8_takeTold 84 = .ok (.aload_n 0, 1) := by decide +kernel
theorem dX8_takeTold_85 : decode cX8_takeTold 85 = .ok (.getfield 41, 3) := by decide +kernel
theorem dX8_takeTold_88 : decode cX8_takeTold 88 = .ok (.invokevirtual 253, 3) := by decide +kernel
theorem dX8_takeTold_91 : decode cX8_takeTold 91 = .ok (.ifCond .eq 23, 3) := by decide +kernel
theorem dX8_takeTold_94 : decode cX8_takeTold 94 = .ok (.aload_n 0, 1) := by decide +kernel
theorem dX8_takeTold_95 : decode cX8_takeTold 95 = .ok (.getfield 41, 3) := by decide +kernel
theorem dX8_takeTold_98 : decode cX8_takeTold 98 = .ok (.aload_n 0, 1) := by decide +kernel
theorem dX8_takeTold_99 : decode cX8_takeTold 99 = .ok (.getfield 10, 3) := by decide +kernel
theorem dX8_takeTold_102 : decode cX8_takeTold 102 = .ok (.getfield 158, 3) := by decide +kernel
theorem dX8_takeTold_105 : decode cX8_takeTold 105 = .ok (.invokevirtual 256, 3) := by decide +kernel
theorem dX8_takeTold_108 : decode cX8_takeTold 108 = .ok (.ifCond .ne 6, 3) := by decide +kernel
theorem dX8_takeTold_111 : decode cX8_takeTold 111 = .ok (.bipush (-5), 2) := by decide +kernel
theorem dX8_takeTold_113 : decode cX8_takeTold 113 = .ok (.ireturn, 1) := by decide +kernel
theorem dX8_takeTold_114 : decode cX8_takeTold 114 = .ok (.aload_n 0, 1) := by decide +kernel
theorem dX8_takeTold_115 : decode cX8_takeTold 115 = .ok (.invokevirtual 232, 3) := by decide +kernel
theorem dX8_takeTold_118 : decode cX8_takeTold 118 = .ok (.ireturn, 1) := by decide +kernel
theorem dX8_takeMix_0 : decode cX8_takeMix 0 = .ok (.aload_n 0, 1) := by decide +kernel
theorem dX8_takeMix_1 : decode cX8_takeMix 1 = .ok (.getfield 41, 3) := by decide +kernel
theorem dX8_takeMix_4 : decode cX8_takeMix 4 = .ok (.invokevirtual 250, 3) := by decide +kernel
theorem dX8_takeMix_7 : decode cX8_takeMix 7 = .ok (.aload_n 0, 1) := by decide +kernel
theorem dX8_takeMix_8 : decode cX8_takeMix 8 = .ok (.getfield 41, 3) := by decide +kernel
theorem dX8_takeMix_11 : decode cX8_takeMix 11 = .ok (.invokevirtual 253, 3) := by decide +kernel
theorem dX8_takeMix_14 : decode cX8_takeMix 14 = .ok (.ifCond .ne 6, 3) := by decide +kernel
theorem dX8_takeMix_17 : decode cX8_takeMix 17 = .ok (.bipush (-4), 2) := by decide +kernel
theorem dX8_takeMix_19 : decode cX8_takeMix 19 = .ok (.ireturn, 1) := by decide +kernel
theorem dX8_takeMix_20 : decode cX8_takeMix 20 = .ok (.aload_n 0, 1) := by decide +kernel
theorem dX8_takeMix_21 : decode cX8_takeMix 21 = .ok (.getfield 41, 3) := by decide +kernel
theorem dX8_takeMix_24 : decode cX8_takeMix 24 = .ok (.aload_n 0, 1) := by decide +kernel
theorem dX8_takeMix_25 : decode cX8_takeMix 25 = .ok (.getfield 10, 3) := by decide +kernel
theorem dX8_takeMix_28 : decode cX8_takeMix 28 = .ok (.getfield 117, 3) := by decide +kernel
theorem dX8_takeMix_31 : decode cX8_takeMix 31 = .ok (.invokevirtual 259, 3) := by decide +kernel
theorem dX8_takeMix_34 : decode cX8_takeMix 34 = .ok (.aload_n 0, 1) := by decide +kernel
theorem dX8_takeMix_35 : decode cX8_takeMix 35 = .ok (.getfield 10, 3) := by decide +kernel
theorem dX8_takeMix_38 : decode cX8_takeMix 38 = .ok (.getfield 117, 3) := by decide +kernel
theorem dX8_takeMix_41 : decode cX8_takeMix 41 = .ok (.getfield 164, 3) := by decide +kernel
theorem dX8_takeMix_44 : decode cX8_takeMix 44 = .ok (.ireturn, 1) := by decide +kernel
theorem dX8_aimAt_0 : decode cX8_aimAt 0 = .ok (.aload_n 0, 1) := by decide +kernel
theorem dX8_aimAt_1 : decode cX8_aimAt 1 = .ok (.getfield 48, 3) := by decide +kernel
theorem dX8_aimAt_4 : decode cX8_aimAt 4 = .ok (.aload_n 0, 1) := by decide +kernel
theorem dX8_aimAt_5 : decode cX8_aimAt 5 = .ok (.getfield 10, 3) := by decide +kernel
theorem dX8_aimAt_8 : decode cX8_aimAt 8 = .ok (.getfield 73, 3) := by decide +kernel
theorem dX8_aimAt_11 : decode cX8_aimAt 11 = .ok (.invokevirtual 235, 3) := by decide +kernel
theorem dX8_aimAt_14 : decode cX8_aimAt 14 = .ok (.aload_n 0, 1) := by decide +kernel
theorem dX8_aimAt_15 : decode cX8_aimAt 15 = .ok (.getfield 48, 3) := by decide +kernel
theorem dX8_aimAt_18 : decode cX8_aimAt 18 = .ok (.iload_n 1, 1) := by decide +kernel
theorem dX8_aimAt_19 : decode cX8_aimAt 19 = .ok (.invokevirtual 239, 3) := by decide +kernel
theorem dX8_aimAt_22 : decode cX8_aimAt 22 = .ok (.return_, 1) := by decide +kernel
theorem dX8_meanIsEnvelope_0 : decode cX8_meanIsEnvelope 0 = .ok (.aload_n 0, 1) := by decide +kernel
theorem dX8_meanIsEnvelope_1 : decode cX8_meanIsEnvelope 1 = .ok (.getfield 10, 3) := by decide +kernel
theorem dX8_meanIsEnvelope_4 : decode cX8_meanIsEnvelope 4 = .ok (.aload_n 0, 1) := by decide +kernel
theorem dX8_meanIsEnvelope_5 : decode cX8_meanIsEnvelope 5 = .ok (.getfield 55, 3) := by decide +kernel
theorem dX8_meanIsEnvelope_8 : decode cX8_meanIsEnvelope 8 = .ok (.invokevirtual 142, 3) := by decide +kernel
theorem dX8_meanIsEnvelope_11 : decode cX8_meanIsEnvelope 11 = .ok (.aload_n 0, 1) := by decide +kernel
theorem dX8_meanIsEnvelope_12 : decode cX8_meanIsEnvelope 12 = .ok (.aload_n 0, 1) := by decide +kernel
theorem dX8_meanIsEnvelope_13 : decode cX8_meanIsEnvelope 13 = .ok (.getfield 10, 3) := by decide +kernel
theorem dX8_meanIsEnvelope_16 : decode cX8_meanIsEnvelope 16 = .ok (.getfield 158, 3) := by decide +kernel
theorem dX8_meanIsEnvelope_19 : decode cX8_meanIsEnvelope 19 = .ok (.invokevirtual 180, 3) := by decide +kernel
theorem dX8_meanIsEnvelope_22 : decode cX8_meanIsEnvelope 22 = .ok (.aload_n 0, 1) := by decide +kernel
theorem dX8_meanIsEnvelope_23 : decode cX8_meanIsEnvelope 23 = .ok (.getfield 48, 3) := by decide +kernel
theorem dX8_meanIsEnvelope_26 : decode cX8_meanIsEnvelope 26 = .ok (.aload_n 0, 1) := by decide +kernel
theorem dX8_meanIsEnvelope_27 : decode cX8_meanIsEnvelope 27 = .ok (.getfield 59, 3) := by decide +kernel
theorem dX8_meanIsEnvelope_30 : decode cX8_meanIsEnvelope 30 = .ok (.invokevirtual 184, 3) := by decide +kernel
theorem dX8_meanIsEnvelope_33 : decode cX8_meanIsEnvelope 33 = .ok (.aload_n 0, 1) := by decide +kernel
theorem dX8_meanIsEnvelope_34 : decode cX8_meanIsEnvelope 34 = .ok (.getfield 55, 3) := by decide +kernel
theorem dX8_meanIsEnvelope_37 : decode cX8_meanIsEnvelope 37 = .ok (.getfield 146, 3) := by decide +kernel
theorem dX8_meanIsEnvelope_40 : decode cX8_meanIsEnvelope 40 = .ok (.aload_n 0, 1) := by decide +kernel
theorem dX8_meanIsEnvelope_41 : decode cX8_meanIsEnvelope 41 = .ok (.getfield 59, 3) := by decide +kernel
theorem dX8_meanIsEnvelope_44 : decode cX8_meanIsEnvelope 44 = .ok (.getfield 146, 3) := by decide +kernel
theorem dX8_meanIsEnvelope_47 : decode cX8_meanIsEnvelope 47 = .ok (.if_icmp .ne 24, 3) := by decide +kernel
theorem dX8_meanIsEnvelope_50 : decode cX8_meanIsEnvelope 50 = .ok (.aload_n 0, 1) := by decide +kernel
theorem dX8_meanIsEnvelope_51 : decode cX8_meanIsEnvelope 51 = .ok (.getfield 55, 3) := by decide +kernel
theorem dX8_meanIsEnvelope_54 : decode cX8_meanIsEnvelope 54 = .ok (.getfield 151, 3) := by decide +kernel
theorem dX8_meanIsEnvelope_57 : decode cX8_meanIsEnvelope 57 = .ok (.aload_n 0, 1) := by decide +kernel
theorem dX8_meanIsEnvelope_58 : decode cX8_meanIsEnvelope 58 = .ok (.getfield 59, 3) := by decide +kernel
theorem dX8_meanIsEnvelope_61 : decode cX8_meanIsEnvelope 61 = .ok (.getfield 151, 3) := by decide +kernel
theorem dX8_meanIsEnvelope_64 : decode cX8_meanIsEnvelope 64 = .ok (.if_icmp .ne 7, 3) := by decide +kernel
theorem dX8_meanIsEnvelope_67 : decode cX8_meanIsEnvelope 67 = .ok (.iconst 1, 1) := by decide +kernel
theorem dX8_meanIsEnvelope_68 : decode cX8_meanIsEnvelope 68 = .ok (.goto 4, 3) := by decide +kernel
theorem dX8_meanIsEnvelope_71 : decode cX8_meanIsEnvelope 71 = .ok (.iconst 0, 1) := by decide +kernel
theorem dX8_meanIsEnvelope_72 : decode cX8_meanIsEnvelope 72 = .ok (.ireturn, 1) := by decide +kernel
theorem dX8_findMostGained_0 : decode cX8_findMostGained 0 = .ok (.aload_n 0, 1) := by decide +kernel
theorem dX8_findMostGained_1 : decode cX8_findMostGained 1 = .ok (.getfield 48, 3) := by decide +kernel
theorem dX8_findMostGained_4 : decode cX8_findMostGained 4 = .ok (.aload_n 0, 1) := by decide +kernel
theorem dX8_findMostGained_5 : decode cX8_findMostGained 5 = .ok (.getfield 10, 3) := by decide +kernel
theorem dX8_findMostGained_8 : decode cX8_findMostGained 8 = .ok (.getfield 73, 3) := by decide +kernel
theorem dX8_findMostGained_11 : decode cX8_findMostGained 11 = .ok (.invokevirtual 235, 3) := by decide +kernel
theorem dX8_findMostGained_14 : decode cX8_findMostGained 14 = .ok (.iconst 1, 1) := by decide +kernel
theorem dX8_findMostGained_15 : decode cX8_findMostGained 15 = .ok (.istore_n 1, 1) := by decide +kernel
theorem dX8_findMostGained_16 : decode cX8_findMostGained 16 = .ok (.aload_n 0, 1) := by decide +kernel
theorem dX8_findMostGained_17 : decode cX8_findMostGained 17 = .ok (.getfield 55, 3) := by decide +kernel
theorem dX8_findMostGained_20 : decode cX8_findMostGained 20 = .ok (.iconst 0, 1) := by decide +kernel
theorem dX8_findMostGained_21 : decode cX8_findMostGained 21 = .ok (.iconst 1, 1) := by decide +kernel
theorem dX8_findMostGained_22 : decode cX8_findMostGained 22 = .ok (.invokevirtual 263, 3) := by decide +kernel
theorem dX8_findMostGained_25 : decode cX8_findMostGained 25 = .ok (.iconst 1, 1) := by decide +kernel
theorem dX8_findMostGained_26 : decode cX8_findMostGained 26 = .ok (.istore_n 2, 1) := by decide +kernel
theorem dX8_findMostGained_27 : decode cX8_findMostGained 27 = .ok (.iload_n 2, 1) := by decide +kernel
theorem dX8_findMostGained_28 : decode cX8_findMostGained 28 = .ok (.bipush 100, 2) := by decide +kernel
theorem dX8_findMostGained_30 : decode cX8_findMostGained 30 = .ok (.if_icmp .ge 66, 3) := by decide +kernel
theorem dX8_findMostGained_33 : decode cX8_findMostGained 33 = .ok (.aload_n 0, 1) := by decide +kernel
theorem dX8_findMostGained_34 : decode cX8_findMostGained 34 = .ok (.getfield 48, 3) := by decide +kernel
theorem dX8_findMostGained_37 : decode cX8_findMostGained 37 = .ok (.iload_n 2, 1) := by decide +kernel
theorem dX8_findMostGained_38 : decode cX8_findMostGained 38 = .ok (.invokevirtual 239, 3) := by decide +kernel
theorem dX8_findMostGained_41 : decode cX8_findMostGained 41 = .ok (.aload_n 0, 1) := by decide +kernel
theorem dX8_findMostGained_42 : decode cX8_findMostGained 42 = .ok (.getfield 48, 3) := by decide +kernel
theorem dX8_findMostGained_45 : decode cX8_findMostGained 45 = .ok (.iload_n 2, 1) := by decide +kernel
theorem dX8_findMostGained_46 : decode cX8_findMostGained 46 = .ok (.aload_n 0, 1) := by decide +kernel
theorem dX8_findMostGained_47 : decode cX8_findMostGained 47 = .ok (.getfield 59, 3) := by decide +kernel
theorem dX8_findMostGained_50 : decode cX8_findMostGained 50 = .ok (.invokevirtual 266, 3) := by decide +kernel
theorem dX8_findMostGained_53 : decode cX8_findMostGained 53 = .ok (.aload_n 0, 1) := by decide +kernel
theorem dX8_findMostGained_54 : decode cX8_findMostGained 54 = .ok (.getfield 59, 3) := by decide +kernel
theorem dX8_findMostGained_57 : decode cX8_findMostGained 57 = .ok (.aload_n 0, 1) := by decide +kernel
theorem dX8_findMostGained_58 : decode cX8_findMostGained 58 = .ok (.getfield 55, 3) := by decide +kernel
theorem dX8_findMostGained_61 : decode cX8_findMostGained 61 = .ok (.invokevirtual 269, 3) := by decide +kernel
theorem dX8_findMostGained_64 : decode cX8_findMostGained 64 = .ok (.ifCond .eq 26, 3) := by decide +kernel
theorem dX8_findMostGained_67 : decode cX8_findMostGained 67 = .ok (.iload_n 2, 1) := by decide +kernel
theorem dX8_findMostGained_68 : decode cX8_findMostGained 68 = .ok (.istore_n 1, 1) := by decide +kernel
theorem dX8_findMostGained_69 : decode cX8_findMostGained 69 = .ok (.aload_n 0, 1) := by decide +kernel
theorem dX8_findMostGained_70 : decode cX8_findMostGained 70 = .ok (.getfield 55, 3) := by decide +kernel
theorem dX8_findMostGained_73 : decode cX8_findMostGained 73 = .ok (.aload_n 0, 1) := by decide +kernel
theorem dX8_findMostGained_74 : decode cX8_findMostGained 74 = .ok (.getfield 59, 3) := by decide +kernel
theorem dX8_findMostGained_77 : decode cX8_findMostGained 77 = .ok (.getfield 146, 3) := by decide +kernel
theorem dX8_findMostGained_80 : decode cX8_findMostGained 80 = .ok (.aload_n 0, 1) := by decide +kernel
theorem dX8_findMostGained_81 : decode cX8_findMostGained 81 = .ok (.getfield 59, 3) := by decide +kernel
theorem dX8_findMostGained_84 : decode cX8_findMostGained 84 = .ok (.getfield 151, 3) := by decide +kernel
theorem dX8_findMostGained_87 : decode cX8_findMostGained 87 = .ok (.invokevirtual 263, 3) := by decide +kernel
theorem dX8_findMostGained_90 : decode cX8_findMostGained 90 = .ok (.iinc 2 1, 3) := by decide +kernel
theorem dX8_findMostGained_93 : decode cX8_findMostGained 93 = .ok (.goto (-66), 3) := by decide +kernel
theorem dX8_findMostGained_96 : decode cX8_findMostGained 96 = .ok (.iload_n 1, 1) := by decide +kernel
theorem dX8_findMostGained_97 : decode cX8_findMostGained 97 = .ok (.ireturn, 1) := by decide +kernel
theorem dX8_obeyAll_0 : decode cX8_obeyAll 0 = .ok (.iconst 0, 1) := by decide +kernel
theorem dX8_obeyAll_1 : decode cX8_obeyAll 1 = .ok (.istore_n 1, 1) := by decide +kernel
theorem dX8_obeyAll_2 : decode cX8_obeyAll 2 = .ok (.aload_n 0, 1) := by decide +kernel
theorem dX8_obeyAll_3 : decode cX8_obeyAll 3 = .ok (.getfield 34, 3) := by decide +kernel
theorem dX8_obeyAll_6 : decode cX8_obeyAll 6 = .ok (.iconst 0, 1) := by decide +kernel
theorem dX8_obeyAll_7 : decode cX8_obeyAll 7 = .ok (.putfield 273, 3) := by decide +kernel
theorem dX8_obeyAll_10 : decode cX8_obeyAll 10 = .ok (.iload_n 1, 1) := by decide +kernel
theorem dX8_obeyAll_11 : decode cX8_obeyAll 11 = .ok (.bipush 80, 2) := by decide +kernel
theorem dX8_obeyAll_13 : decode cX8_obeyAll 13 = .ok (.if_icmp .ge 45, 3) := by decide +kernel
theorem dX8_obeyAll_16 : decode cX8_obeyAll 16 = .ok (.aload_n 0, 1) := by decide +kernel
theorem dX8_obeyAll_17 : decode cX8_obeyAll 17 = .ok (.getfield 34, 3) := by decide +kernel
theorem dX8_obeyAll_20 : decode cX8_obeyAll 20 = .ok (.getfield 273, 3) := by decide +kernel
theorem dX8_obeyAll_23 : decode cX8_obeyAll 23 = .ok (.aload_n 0, 1) := by decide +kernel
theorem dX8_obeyAll_24 : decode cX8_obeyAll 24 = .ok (.getfield 34, 3) := by decide +kernel
theorem dX8_obeyAll_27 : decode cX8_obeyAll 27 = .ok (.getfield 174, 3) := by decide +kernel
theorem dX8_obeyAll_30 : decode cX8_obeyAll 30 = .ok (.if_icmp .ge 28, 3) := by decide +kernel
theorem dX8_obeyAll_33 : decode cX8_obeyAll 33 = .ok (.aload_n 0, 1) := by decide +kernel
theorem dX8_obeyAll_34 : decode cX8_obeyAll 34 = .ok (.getfield 34, 3) := by decide +kernel
theorem dX8_obeyAll_37 : decode cX8_obeyAll 37 = .ok (.invokevirtual 276, 3) := by decide +kernel
theorem dX8_obeyAll_40 : decode cX8_obeyAll 40 = .ok (.ifCond .eq 10, 3) := by decide +kernel
theorem dX8_obeyAll_43 : decode cX8_obeyAll 43 = .ok (.aload_n 0, 1) := by decide +kernel
theorem dX8_obeyAll_44 : decode cX8_obeyAll 44 = .ok (.invokevirtual 279, 3) := by decide +kernel
theorem dX8_obeyAll_47 : decode cX8_obeyAll 47 = .ok (.ifCond .ge 5, 3) := by decide +kernel
theorem dX8_obeyAll_50 : decode cX8_obeyAll 50 = .ok (.iload_n 1, 1) := by decide +kernel
theorem dX8_obeyAll_51 : decode cX8_obeyAll 51 = .ok (.ireturn, 1) := by decide +kernel
theorem dX8_obeyAll_52 : decode cX8_obeyAll 52 = .ok (.iinc 1 1, 3) := by decide +kernel
theorem dX8_obeyAll_55 : decode cX8_obeyAll 55 = .ok (.goto (-45), 3) := by decide +kernel
theorem dX8_obeyAll_58 : decode cX8_obeyAll 58 = .ok (.iload_n 1, 1) := by decide +kernel
theorem dX8_obeyAll_59 : decode cX8_obeyAll 59 = .ok (.ireturn, 1) := by decide +kernel
theorem dX8_obey_0 : decode cX8_obey 0 = .ok (.aload_n 0, 1) := by decide +kernel
theorem dX8_obey_1 : decode cX8_obey 1 = .ok (.getfield 34, 3) := by decide +kernel
theorem dX8_obey_4 : decode cX8_obey 4 = .ok (.getfield 282, 3) := by decide +kernel
theorem dX8_obey_7 : decode cX8_obey 7 = .ok (.lookupswitch 137 #[(45, 92), (98, 132), (112, 111), (114, 49), (115, 127)], 49) := by decide +kernel
theorem dX8_obey_56 : decode cX8_obey 56 = .ok (.aload_n 0, 1) := by decide +kernel
theorem dX8_obey_57 : decode cX8_obey 57 = .ok (.getfield 10, 3) := by decide +kernel
theorem dX8_obey_60 : decode cX8_obey 60 = .ok (.getfield 73, 3) := by decide +kernel
theorem dX8_obey_63 : decode cX8_obey 63 = .ok (.aload_n 0, 1) := by decide +kernel
theorem dX8_obey_64 : decode cX8_obey 64 = .ok (.getfield 34, 3) := by decide +kernel
theorem dX8_obey_67 : decode cX8_obey 67 = .ok (.iconst 0, 1) := by decide +kernel
theorem dX8_obey_68 : decode cX8_obey 68 = .ok (.invokevirtual 248, 3) := by decide +kernel
theorem dX8_obey_71 : decode cX8_obey 71 = .ok (.aload_n 0, 1) := by decide +kernel
theorem dX8_obey_72 : decode cX8_obey 72 = .ok (.getfield 34, 3) := by decide +kernel
theorem dX8_obey_75 : decode cX8_obey 75 = .ok (.iconst 1, 1) := by decide +kernel
theorem dX8_obey_76 : decode cX8_obey 76 = .ok (.invokevirtual 248, 3) := by decide +kernel
theorem dX8_obey_79 : decode cX8_obey 79 = .ok (.aload_n 0, 1) := by decide +kernel
theorem dX8_obey_80 : decode cX8_obey 80 = .ok (.getfield 34, 3) := by decide +kernel
theorem dX8_obey_83 : decode cX8_obey 83 = .ok (.iconst 2, 1) := by decide +kernel
theorem dX8_obey_84 : decode cX8_obey 84 = .ok (.invokevirtual 248, 3) := by decide +kernel
theorem dX8_obey_87 : decode cX8_obey 87 = .ok (.aload_n 0, 1) := by decide +kernel
theorem dX8_obey_88 : decode cX8_obey 88 = .ok (.getfield 34, 3) := by decide +kernel
theorem dX8_obey_91 : decode cX8_obey 91 = .ok (.iconst 3, 1) := by decide +kernel
theorem dX8_obey_92 : decode cX8_obey 92 = .ok (.invokevirtual 248, 3) := by decide +kernel
theorem dX8_obey_95 : decode cX8_obey 95 = .ok (.invokevirtual 77, 3) := by decide +kernel
theorem dX8_obey_98 : decode cX8_obey 98 = .ok (.ireturn, 1) := by decide +kernel
theorem dX8_obey_99 : decode cX8_obey 99 = .ok (.aload_n 0, 1) := by decide +kernel
theorem dX8_obey_100 : decode cX8_obey 100 = .ok (.getfield 10, 3) := by decide +kernel
theorem dX8_obey_103 : decode cX8_obey 103 = .ok (.getfield 73, 3) := by decide +kernel
theorem dX8_obey_106 : decode cX8_obey 106 = .ok (.aload_n 0, 1) := by decide +kernel
theorem dX8_obey_107 : decode cX8_obey 107 = .ok (.getfield 34, 3) := by decide +kernel
theorem dX8_obey_110 : decode cX8_obey 110 = .ok (.iconst 0, 1) := by decide +kernel
theorem dX8_obey_111 : decode cX8_obey 111 = .ok (.invokevirtual 248, 3) := by decide +kernel
theorem dX8_obey_114 : decode cX8_obey 114 = .ok (.invokevirtual 83, 3) := by decide +kernel
theorem dX8_obey_117 : decode cX8_obey 117 = .ok (.ireturn, 1) := by decide +kernel
theorem dX8_obey_118 : decode cX8_obey 118 = .ok (.aload_n 0, 1) := by decide +kernel
theorem dX8_obey_119 : decode cX8_obey 119 = .ok (.getfield 10, 3) := by decide +kernel
theorem dX8_obey_122 : decode cX8_obey 122 = .ok (.aload_n 0, 1) := by decide +kernel
theorem dX8_obey_123 : decode cX8_obey 123 = .ok (.getfield 34, 3) := by decide +kernel
theorem dX8_obey_126 : decode cX8_obey 126 = .ok (.iconst 0, 1) := by decide +kernel
theorem dX8_obey_127 : decode cX8_obey 127 = .ok (.invokevirtual 248, 3) := by decide +kernel
theorem dX8_obey_130 : decode cX8_obey 130 = .ok (.invokevirtual 66, 3) := by decide +kernel
theorem dX8_obey_133 : decode cX8_obey 133 = .ok (.ireturn, 1) := by decide +kernel
theorem dX8_obey_134 : decode cX8_obey 134 = .ok (.aload_n 0, 1) := by decide +kernel
theorem dX8_obey_135 : decode cX8_obey 135 = .ok (.invokevirtual 285, 3) := by decide +kernel
theorem dX8_obey_138 : decode cX8_obey 138 = .ok (.ireturn, 1) := by decide +kernel
theorem dX8_obey_139 : decode cX8_obey 139 = .ok (.aload_n 0, 1) := by decide +kernel
theorem dX8_obey_140 : decode cX8_obey 140 = .ok (.invokevirtual 93, 3) := by decide +kernel
theorem dX8_obey_143 : decode cX8_obey 143 = .ok (.ireturn, 1) := by decide +kernel
theorem dX8_obey_144 : decode cX8_obey 144 = .ok (.bipush (-3), 2) := by decide +kernel
theorem dX8_obey_146 : decode cX8_obey 146 = .ok (.ireturn, 1) := by decide +kernel
theorem dX8_commonDivisor_0 : decode cX8_commonDivisor 0 = .ok (.iload_n 0, 1) := by decide +kernel
theorem dX8_commonDivisor_1 : decode cX8_commonDivisor 1 = .ok (.invokestatic 288, 3) := by decide +kernel
theorem dX8_commonDivisor_4 : decode cX8_commonDivisor 4 = .ok (.istore_n 2, 1) := by decide +kernel
theorem dX8_commonDivisor_5 : decode cX8_commonDivisor 5 = .ok (.iload_n 1, 1) := by decide +kernel
theorem dX8_commonDivisor_6 : decode cX8_commonDivisor 6 = .ok (.invokestatic 288, 3) := by decide +kernel
theorem dX8_commonDivisor_9 : decode cX8_commonDivisor 9 = .ok (.istore_n 3, 1) := by decide +kernel
theorem dX8_commonDivisor_10 : decode cX8_commonDivisor 10 = .ok (.iconst 0, 1) := by decide +kernel
theorem dX8_commonDivisor_11 : decode cX8_commonDivisor 11 = .ok (.istore 4, 2) := by decide +kernel
theorem dX8_commonDivisor_13 : decode cX8_commonDivisor 13 = .ok (.iload 4, 2) := by decide +kernel
theorem dX8_commonDivisor_15 : decode cX8_commonDivisor 15 = .ok (.bipush 64, 2) := by decide +kernel
theorem dX8_commonDivisor_17 : decode cX8_commonDivisor 17 = .ok (.if_icmp .ge 23, 3) := by decide +kernel
theorem dX8_commonDivisor_20 : decode cX8_commonDivisor 20 = .ok (.iload_n 3, 1) := by decide +kernel
theorem dX8_commonDivisor_21 : decode cX8_commonDivisor 21 = .ok (.ifCond .le 19, 3) := by decide +kernel
theorem dX8_commonDivisor_24 : decode cX8_commonDivisor 24 = .ok (.iload_n 2, 1) := by decide +kernel
theorem dX8_commonDivisor_25 : decode cX8_commonDivisor 25 = .ok (.iload_n 3, 1) := by decide +kernel
theorem dX8_commonDivisor_26 : decode cX8_commonDivisor 26 = .ok (.irem, 1) := by decide +kernel
theorem dX8_commonDivisor_27 : decode cX8_commonDivisor 27 = .ok (.istore 5, 2) := by decide +kernel
theorem dX8_commonDivisor_29 : decode cX8_commonDivisor 29 = .ok (.iload_n 3, 1) := by decide +kernel
theorem dX8_commonDivisor_30 : decode cX8_commonDivisor 30 = .ok (.istore_n 2, 1) := by decide +kernel
theorem dX8_commonDivisor_31 : decode cX8_commonDivisor 31 = .ok (.iload 5, 2) := by decide +kernel
theorem dX8_commonDivisor_33 : decode cX8_commonDivisor 33 = .ok (.istore_n 3, 1) := by decide +kernel
theorem dX8_commonDivisor_34 : decode cX8_commonDivisor 34 = .ok (.iinc 4 1, 3) := by decide +kernel
theorem dX8_commonDivisor_37 : decode cX8_commonDivisor 37 = .ok (.goto (-24), 3) := by decide +kernel
theorem dX8_commonDivisor_40 : decode cX8_commonDivisor 40 = .ok (.iload_n 2, 1) := by decide +kernel
theorem dX8_commonDivisor_41 : decode cX8_commonDivisor 41 = .ok (.ireturn, 1) := by decide +kernel
end
section
theorem dX9_init_0 : decode cX9_init 0 = .ok (.aload_n 0, 1) := by decide +kernel
theorem dX9_init_1 : decode cX9_init 1 = .ok (.invokespecial 1, 3) := by decide +kernel
theorem dX9_init_4 : decode cX9_init 4 = .ok (.aload_n 0, 1) := by decide +kernel
theorem dX9_init_5 : decode cX9_init 5 = .ok (.bipush 35, 2) := by decide +kernel
theorem dX9_init_7 : decode cX9_init 7 = .ok (.newarray .int, 2) := by decide +kernel
theorem dX9_init_9 : decode cX9_init 9 = .ok (.putfield 7, 3) := by decide +kernel
theorem dX9_init_12 : decode cX9_init 12 = .ok (.aload_n 0, 1) := by decide +kernel
theorem dX9_init_13 : decode cX9_init 13 = .ok (.sipush 210, 3) := by decide +kernel
theorem dX9_init_16 : decode cX9_init 16 = .ok (.newarray .int, 2) := by decide +kernel
theorem dX9_init_18 : decode cX9_init 18 = .ok (.putfield 13, 3) := by decide +kernel
theorem dX9_init_21 : decode cX9_init 21 = .ok (.aload_n 0, 1) := by decide +kernel
theorem dX9_init_22 : decode cX9_init 22 = .ok (.bipush 70, 2) := by decide +kernel
theorem dX9_init_24 : decode cX9_init 24 = .ok (.newarray .int, 2) := by decide +kernel
theorem dX9_init_26 : decode cX9_init 26 = .ok (.putfield 16, 3) := by decide +kernel
theorem dX9_init_29 : decode cX9_init 29 = .ok (.aload_n 0, 1) := by decide +kernel
theorem dX9_init_30 : decode cX9_init 30 = .ok (.iconst 2, 1) := by decide +kernel
theorem dX9_init_31 : decode cX9_init 31 = .ok (.newarray .int, 2) := by decide +kernel
theorem dX9_init_33 : decode cX9_init 33 = .ok (.putfield 19, 3) := by decide +kernel
theorem dX9_init_36 : decode cX9_init 36 = .ok (.aload_n 0, 1) := by decide +kernel
theorem dX9_init_37 : decode cX9_init 37 = .ok (.bipush 80, 2) := by decide +kernel
theorem dX9_init_39 : decode cX9_init 39 = .ok (.newarray .int, 2) := by decide +kernel
theorem dX9_init_41 : decode cX9_init 41 = .ok (.putfield 22, 3) := by decide +kernel
theorem dX9_init_44 : decode cX9_init 44 = .ok (.aload_n 0, 1) := by decide +kernel
theorem dX9_init_45 : decode cX9_init 45 = .ok (.bipush 8, 2) := by decide +kernel
theorem dX9_init_47 : decode cX9_init 47 = .ok (.newarray .int, 2) := by decide +kernel
theorem dX9_init_49 : decode cX9_init 49 = .ok (.putfield 25, 3) := by decide +kernel
theorem dX9_init_52 : decode cX9_init 52 = .ok (.aload_n 0, 1) := by decide +kernel
theorem dX9_init_53 : decode cX9_init 53 = .ok (.bipush 8, 2) := by decide +kernel
theorem dX9_init_55 : decode cX9_init 55 = .ok (.newarray .int, 2) := by decide +kernel
theorem dX9_init_57 : decode cX9_init 57 = .ok (.putfield 28, 3) := by decide +kernel
theorem dX9_init_60 : decode cX9_init 60 = .ok (.aload_n 0, 1) := by decide +kernel
theorem dX9_init_61 : decode cX9_init 61 = .ok (.bipush 30, 2) := by decide +kernel
theorem dX9_init_63 : decode cX9_init 63 = .ok (.invokevirtual 31, 3) := by decide +kernel
theorem dX9_init_66 : decode cX9_init 66 = .ok (.return_, 1) := by decide +kernel
theorem dX9_moves_0 : decode cX9_moves 0 = .ok (.iconst 0, 1) := by decide +kernel
theorem dX9_moves_1 : decode cX9_moves 1 = .ok (.istore 4, 2) := by decide +kernel
theorem dX9_moves_3 : decode cX9_moves 3 = .ok (.iload 4, 2) := by decide +kernel
theorem dX9_moves_5 : decode cX9_moves 5 = .ok (.bipush 35, 2) := by decide +kernel
theorem dX9_moves_7 : decode cX9_moves 7 = .ok (.if_icmp .ge 21, 3) := by decide +kernel
theorem dX9_moves_10 : decode cX9_moves 10 = .ok (.aload_n 2, 1) := by decide +kernel
theorem dX9_moves_11 : decode cX9_moves 11 = .ok (.iload_n 3, 1) := by decide +kernel
theorem dX9_moves_12 : decode cX9_moves 12 = .ok (.iload 4, 2) := by decide +kernel
theorem dX9_moves_14 : decode cX9_moves 14 = .ok (.iadd, 1) := by decide +kernel
theorem dX9_moves_15 : decode cX9_moves 15 = .ok (.aload_n 0, 1) := by decide +kernel
theorem dX9_moves_16 : decode cX9_moves 16 = .ok (.iload_n 1, 1) := by decide +kernel
theorem dX9_moves_17 : decode cX9_moves 17 = .ok (.iload 4, 2) := by decide +kernel
theorem dX9_moves_19 : decode cX9_moves 19 = .ok (.iadd, 1) := by decide +kernel
theorem dX9_moves_20 : decode cX9_moves 20 = .ok (.iaload, 1) := by decide +kernel
theorem dX9_moves_21 : decode cX9_moves 21 = .ok (.iastore, 1) := by decide +kernel
theorem dX9_moves_22 : decode cX9_moves 22 = .ok (.iinc 4 1, 3) := by decide +kernel
theorem dX9_moves_25 : decode cX9_moves 25 = .ok (.goto (-22), 3) := by decide +kernel
theorem dX9_moves_28 : decode cX9_moves 28 = .ok (.return_, 1) := by decide +kernel
theorem dX9_within_0 : decode cX9_within 0 = .ok (.iload_n 0, 1) := by decide +kernel
theorem dX9_within_1 : decode cX9_within 1 = .ok (.iload_n 1, 1) := by decide +kernel
theorem dX9_within_2 : decode cX9_within 2 = .ok (.if_icmp .lt 12, 3) := by decide +kernel
theorem dX9_within_5 : decode cX9_within 5 = .ok (.iload_n 0, 1) := by decide +kernel
theorem dX9_within_6 : decode cX9_within 6 = .ok (.iload_n 2, 1) := by decide +kernel
theorem dX9_within_7 : decode cX9_within 7 = .ok (.if_icmp .gt 7, 3) := by decide +kernel
theorem dX9_within_10 : decode cX9_within 10 = .ok (.iconst 1, 1) := by decide +kernel
theorem dX9_within_11 : decode cX9_within 11 = .ok (.goto 4, 3) := by decide +kernel
theorem dX9_within_14 : decode cX9_within 14 = .ok (.iconst 0, 1) := by decide +kernel
theorem dX9_within_15 : decode cX9_within 15 = .ok (.ireturn, 1) := by decide +kernel
theorem dX9_record_0 : decode cX9_record 0 = .ok (.aload_n 0, 1) := by decide +kernel
theorem dX9_record_1 : decode cX9_record 1 = .ok (.getfield 35, 3) := by decide +kernel
theorem dX9_record_4 : decode cX9_record 4 = .ok (.bipush 6, 2) := by decide +kernel
theorem dX9_record_6 : decode cX9_record 6 = .ok (.if_icmp .ne 43, 3) := by decide +kernel
theorem dX9_record_9 : decode cX9_record 9 = .ok (.iconst 0, 1) := by decide +kernel
theorem dX9_record_10 : decode cX9_record 10 = .ok (.istore_n 1, 1) := by decide +kernel
theorem dX9_record_11 : decode cX9_record 11 = .ok (.iload_n 1, 1) := by decide +kernel
theorem dX9_record_12 : decode cX9_record 12 = .ok (.sipush 175, 3) := by decide +kernel
theorem dX9_record_15 : decode cX9_record 15 = .ok (.if_icmp .ge 24, 3) := by decide +kernel
theorem dX9_record_18 : decode cX9_record 18 = .ok (.aload_n 0, 1) := by decide +kernel
theorem dX9_record_19 : decode cX9_record 19 = .ok (.getfield 13, 3) := by decide +kernel
theorem dX9_record_22 : decode cX9_record 22 = .ok (.iload_n 1, 1) := by decide +kernel
theorem dX9_record_23 : decode cX9_record 23 = .ok (.aload_n 0, 1) := by decide +kernel
theorem dX9_record_24 : decode cX9_record 24 = .ok (.getfield 13, 3) := by decide +kernel
theorem dX9_record_27 : decode cX9_record 27 = .ok (.iload_n 1, 1) := by decide +kernel
theorem dX9_record_28 : decode cX9_record 28 = .ok (.bipush 35, 2) := by decide +kernel
theorem dX9_record_30 : decode cX9_record 30 = .ok (.iadd, 1) := by decide +kernel
theorem dX9_record_31 : decode cX9_record 31 = .ok (.iaload, 1) := by decide +kernel
theorem dX9_record_32 : decode cX9_record 32 = .ok (.iastore, 1) := by decide +kernel
theorem dX9_record_33 : decode cX9_record 33 = .ok (.iinc 1 1, 3) := by decide +kernel
theorem dX9_record_36 : decode cX9_record 36 = .ok (.goto (-25), 3) := by decide +kernel
theorem dX9_record_39 : decode cX9_record 39 = .ok (.aload_n 0, 1) := by decide +kernel
theorem dX9_record_40 : decode cX9_record 40 = .ok (.dup, 1) := by decide +kernel
theorem dX9_record_41 : decode cX9_record 41 = .ok (.getfield 35, 3) := by decide +kernel
theorem dX9_record_44 : decode cX9_record 44 = .ok (.iconst 1, 1) := by decide +kernel
theorem dX9_record_45 : decode cX9_record 45 = .ok (.isub, 1) := by decide +kernel
theorem dX9_record_46 : decode cX9_record 46 = .ok (.putfield 35, 3) := by decide +kernel
theorem dX9_record_49 : decode cX9_record 49 = .ok (.aload_n 0, 1) := by decide +kernel
theorem dX9_record_50 : decode cX9_record 50 = .ok (.getfield 7, 3) := by decide +kernel
theorem dX9_record_53 : decode cX9_record 53 = .ok (.iconst 0, 1) := by decide +kernel
theorem dX9_record_54 : decode cX9_record 54 = .ok (.aload_n 0, 1) := by decide +kernel
theorem dX9_record_55 : decode cX9_record 55 = .ok (.getfield 13, 3) := by decide +kernel
theorem dX9_record_58 : decode cX9_record 58 = .ok (.aload_n 0, 1) := by decide +kernel
theorem dX9_record_59 : decode cX9_record 59 = .ok (.getfield 35, 3) := by decide +kernel
theorem dX9_record_62 : decode cX9_record 62 = .ok (.bipush 35, 2) := by decide +kernel
theorem dX9_record_64 : decode cX9_record 64 = .ok (.imul, 1) := by decide +kernel
theorem dX9_record_65 : decode cX9_record 65 = .ok (.invokestatic 39, 3) := by decide +kernel
theorem dX9_record_68 : decode cX9_record 68 = .ok (.aload_n 0, 1) := by decide +kernel
theorem dX9_record_69 : decode cX9_record 69 = .ok (.dup, 1) := by decide +kernel
theorem dX9_record_70 : decode cX9_record 70 = .ok (.getfield 35, 3) := by decide +kernel
theorem dX9_record_73 : decode cX9_record 73 = .ok (.iconst 1, 1) := by decide +kernel
theorem dX9_record_74 : decode cX9_record 74 = .ok (.iadd, 1) := by decide +kernel
theorem dX9_record_75 : decode cX9_record 75 = .ok (.putfield 35, 3) := by decide +kernel
theorem dX9_record_78 : decode cX9_record 78 = .ok (.return_, 1) := by decide +kernel
theorem dX9_divisor_0 : decode cX9_divisor 0 = .ok (.iload_n 0, 1) := by decide +kernel
theorem dX9_divisor_1 : decode cX9_divisor 1 = .ok (.istore_n 2, 1) := by decide +kernel
theorem dX9_divisor_2 : decode cX9_divisor 2 = .ok (.iload_n 1, 1) := by decide +kernel
theorem dX9_divisor_3 : decode cX9_divisor 3 = .ok (.istore_n 3, 1) := by decide +kernel
theorem dX9_divisor_4 : decode cX9_divisor 4 = .ok (.iload_n 3, 1) := by decide +kernel
theorem dX9_divisor_5 : decode cX9_divisor 5 = .ok (.ifCond .eq 16, 3) := by decide +kernel
theorem dX9_divisor_8 : decode cX9_divisor 8 = .ok (.iload_n 2, 1) := by decide +kernel
theorem dX9_divisor_9 : decode cX9_divisor 9 = .ok (.iload_n 3, 1) := by decide +kernel
theorem dX9_divisor_10 : decode cX9_divisor 10 = .ok (.irem, 1) := by decide +kernel
theorem dX9_divisor_11 : decode cX9_divisor 11 = .ok (.istore 4, 2) := by decide +kernel
theorem dX9_divisor_13 : decode cX9_divisor 13 = .ok (.iload_n 3, 1) := by decide +kernel
theorem dX9_divisor_14 : decode cX9_divisor 14 = .ok (.istore_n 2, 1) := by decide +kernel
theorem dX9_divisor_15 : decode cX9_divisor 15 = .ok (.iload 4, 2) := by decide +kernel
theorem dX9_divisor_17 : decode cX9_divisor 17 = .ok (.istore_n 3, 1) := by decide +kernel
theorem dX9_divisor_18 : decode cX9_divisor 18 = .ok (.goto (-14), 3) := by decide +kernel
theorem dX9_divisor_21 : decode cX9_divisor 21 = .ok (.iload_n 2, 1) := by decide +kernel
theorem dX9_divisor_22 : decode cX9_divisor 22 = .ok (.ireturn, 1) := by decide +kernel
theorem dX9_takeFraction_0 : decode cX9_takeFraction 0 = .ok (.iload_n 1, 1) := by decide +kernel
theorem dX9_takeFraction_1 : decode cX9_takeFraction 1 = .ok (.ifCond .ge 8, 3) := by decide +kernel
theorem dX9_takeFraction_4 : decode cX9_takeFraction 4 = .ok (.iload_n 1, 1) := by decide +kernel
theorem dX9_takeFraction_5 : decode cX9_takeFraction 5 = .ok (.ineg, 1) := by decide +kernel
theorem dX9_takeFraction_6 : decode cX9_takeFraction 6 = .ok (.goto 4, 3) := by decide +kernel
theorem dX9_takeFraction_9 : decode cX9_takeFraction 9 = .ok (.iload_n 1, 1) := by decide +kernel
theorem dX9_takeFraction_10 : decode cX9_takeFraction 10 = .ok (.iload_n 2, 1) := by decide +kernel
theorem dX9_takeFraction_11 : decode cX9_takeFraction 11 = .ok (.invokestatic 43, 3) := by decide +kernel
theorem dX9_takeFraction_14 : decode cX9_takeFraction 14 = .ok (.istore_n 3, 1) := by decide +kernel
theorem dX9_takeFraction_15 : decode cX9_takeFraction 15 = .ok (.aload_n 0, 1) := by decide +kernel
theorem dX9_takeFraction_16 : decode cX9_takeFraction 16 = .ok (.iload_n 1, 1) := by decide +kernel
theorem dX9_takeFraction_17 : decode cX9_takeFraction 17 = .ok (.iload_n 3, 1) := by decide +kernel
theorem dX9_takeFraction_18 : decode cX9_takeFraction 18 = .ok (.idiv, 1) := by decide +kernel
theorem dX9_takeFraction_19 : decode cX9_takeFraction 19 = .ok (.putfield 47, 3) := by decide +kernel
theorem dX9_takeFraction_22 : decode cX9_takeFraction 22 = .ok (.aload_n 0, 1) := by decide +kernel
theorem dX9_takeFraction_23 : decode cX9_takeFraction 23 = .ok (.iload_n 2, 1) := by decide +kernel
theorem dX9_takeFraction_24 : decode cX9_takeFraction 24 = .ok (.iload_n 3, 1) := by decide +kernel
theorem dX9_takeFraction_25 : decode cX9_takeFraction 25 = .ok (.idiv, 1) := by decide +kernel
theorem dX9_takeFraction_26 : decode cX9_takeFraction 26 = .ok (.putfield 50, 3) := by decide +kernel
theorem dX9_takeFraction_29 : decode cX9_takeFraction 29 = .ok (.return_, 1) := by decide +kernel
theorem dX9_isReceiver_0 : decode cX9_isReceiver 0 = .ok (.iload_n 1, 1) := by decide +kernel
theorem dX9_isReceiver_1 : decode cX9_isReceiver 1 = .ok (.iconst 0, 1) := by decide +kernel
theorem dX9_isReceiver_2 : decode cX9_isReceiver 2 = .ok (.aload_n 0, 1) := by decide +kernel
theorem dX9_isReceiver_3 : decode cX9_isReceiver 3 = .ok (.getfield 7, 3) := by decide +kernel
theorem dX9_isReceiver_6 : decode cX9_isReceiver 6 = .ok (.iconst 1, 1) := by decide +kernel
theorem dX9_isReceiver_7 : decode cX9_isReceiver 7 = .ok (.iaload, 1) := by decide +kernel
theorem dX9_isReceiver_8 : decode cX9_isReceiver 8 = .ok (.iconst 1, 1) := by decide +kernel
theorem dX9_isReceiver_9 : decode cX9_isReceiver 9 = .ok (.isub, 1) := by decide +kernel
theorem dX9_isReceiver_10 : decode cX9_isReceiver 10 = .ok (.invokestatic 53, 3) := by decide +kernel
theorem dX9_isReceiver_13 : decode cX9_isReceiver 13 = .ok (.ireturn, 1) := by decide +kernel
theorem dX9_receiverPart_0 : decode cX9_receiverPart 0 = .ok (.aload_n 0, 1) := by decide +kernel
theorem dX9_receiverPart_1 : decode cX9_receiverPart 1 = .ok (.getfield 7, 3) := by decide +kernel
theorem dX9_receiverPart_4 : decode cX9_receiverPart 4 = .ok (.iconst 3, 1) := by decide +kernel
theorem dX9_receiverPart_5 : decode cX9_receiverPart 5 = .ok (.iconst 4, 1) := by decide +kernel
theorem dX9_receiverPart_6 : decode cX9_receiverPart 6 = .ok (.iload_n 1, 1) := by decide +kernel
theorem dX9_receiverPart_7 : decode cX9_receiverPart 7 = .ok (.imul, 1) := by decide +kernel
theorem dX9_receiverPart_8 : decode cX9_receiverPart 8 = .ok (.iadd, 1) := by decide +kernel
theorem dX9_receiverPart_9 : decode cX9_receiverPart 9 = .ok (.iload_n 2, 1) := by decide +kernel
theorem dX9_receiverPart_10 : decode cX9_receiverPart 10 = .ok (.iadd, 1) := by decide +kernel
theorem dX9_receiverPart_11 : decode cX9_receiverPart 11 = .ok (.iaload, 1) := by decide +kernel
theorem dX9_receiverPart_12 : decode cX9_receiverPart 12 = .ok (.ireturn, 1) := by decide +kernel
theorem dX9_worthAt_0 : decode cX9_worthAt 0 = .ok (.iload_n 2, 1) := by decide +kernel
theorem dX9_worthAt_1 : decode cX9_worthAt 1 = .ok (.aload_n 0, 1) := by decide +kernel
theorem dX9_worthAt_2 : decode cX9_worthAt 2 = .ok (.iload_n 1, 1) := by decide +kernel
theorem dX9_worthAt_3 : decode cX9_worthAt 3 = .ok (.iconst 1, 1) := by decide +kernel
theorem dX9_worthAt_4 : decode cX9_worthAt 4 = .ok (.invokevirtual 57, 3) := by decide +kernel
theorem dX9_worthAt_7 : decode cX9_worthAt 7 = .ok (.imul, 1) := by decide +kernel
theorem dX9_worthAt_8 : decode cX9_worthAt 8 = .ok (.bipush 100, 2) := by decide +kernel
theorem dX9_worthAt_10 : decode cX9_worthAt 10 = .ok (.iload_n 2, 1) := by decide +kernel
theorem dX9_worthAt_11 : decode cX9_worthAt 11 = .ok (.isub, 1) := by decide +kernel
theorem dX9_worthAt_12 : decode cX9_worthAt 12 = .ok (.aload_n 0, 1) := by decide +kernel
theorem dX9_worthAt_13 : decode cX9_worthAt 13 = .ok (.iload_n 1, 1) := by decide +kernel
theorem dX9_worthAt_14 : decode cX9_worthAt 14 = .ok (.iconst 0, 1) := by decide +kernel
theorem dX9_worthAt_15 : decode cX9_worthAt 15 = .ok (.invokevirtual 57, 3) := by decide +kernel
theorem dX9_worthAt_18 : decode cX9_worthAt 18 = .ok (.imul, 1) := by decide +kernel
theorem dX9_worthAt_19 : decode cX9_worthAt 19 = .ok (.isub, 1) := by decide +kernel
theorem dX9_worthAt_20 : decode cX9_worthAt 20 = .ok (.istore_n 3, 1) := by decide +kernel
theorem dX9_worthAt_21 : decode cX9_worthAt 21 = .ok (.iload_n 3, 1) := by decide +kernel
theorem dX9_worthAt_22 : decode cX9_worthAt 22 = .ok (.ifCond .ge 7, 3) := by decide +kernel
theorem dX9_worthAt_25 : decode cX9_worthAt 25 = .ok (.iconst 0, 1) := by decide +kernel
theorem dX9_worthAt_26 : decode cX9_worthAt 26 = .ok (.goto 4, 3) := by decide +kernel
theorem dX9_worthAt_29 : decode cX9_worthAt 29 = .ok (.iload_n 3, 1) := by decide +kernel
theorem dX9_worthAt_30 : decode cX9_worthAt 30 = .ok (.ireturn, 1) := by decide +kernel
theorem dX9_acts_0 : decode cX9_acts 0 = .ok (.iload_n 2, 1) := by decide +kernel
theorem dX9_acts_1 : decode cX9_acts 1 = .ok (.aload_n 0, 1) := by decide +kernel
theorem dX9_acts_2 : decode cX9_acts 2 = .ok (.iload_n 1, 1) := by decide +kernel
theorem dX9_acts_3 : decode cX9_acts 3 = .ok (.iconst 1, 1) := by decide +kernel
theorem dX9_acts_4 : decode cX9_acts 4 = .ok (.invokevirtual 57, 3) := by decide +kernel
theorem dX9_acts_7 : decode cX9_acts 7 = .ok (.imul, 1) := by decide +kernel
theorem dX9_acts_8 : decode cX9_acts 8 = .ok (.bipush 100, 2) := by decide +kernel
theorem dX9_acts_10 : decode cX9_acts 10 = .ok (.iload_n 2, 1) := by decide +kernel
theorem dX9_acts_11 : decode cX9_acts 11 = .ok (.isub, 1) := by decide +kernel
theorem dX9_acts_12 : decode cX9_acts 12 = .ok (.aload_n 0, 1) := by decide +kernel
theorem dX9_acts_13 : decode cX9_acts 13 = .ok (.iload_n 1, 1) := by decide +kernel
theorem dX9_acts_14 : decode cX9_acts 14 = .ok (.iconst 0, 1) := by decide +kernel
theorem dX9_acts_15 : decode cX9_acts 15 = .ok (.invokevirtual 57, 3) := by decide +kernel
theorem dX9_acts_18 : decode cX9_acts 18 = .ok (.imul, 1) := by decide +kernel
theorem dX9_acts_19 : decode cX9_acts 19 = .ok (.if_icmp .lt 7, 3) := by decide +kernel
theorem dX9_acts_22 : decode cX9_acts 22 = .ok (.iconst 1, 1) := by decide +kernel
theorem dX9_acts_23 : decode cX9_acts 23 = .ok (.goto 4, 3) := by decide +kernel
theorem dX9_acts_26 : decode cX9_acts 26 = .ok (.iconst 0, 1) := by decide +kernel
theorem dX9_acts_27 : decode cX9_acts 27 = .ok (.ireturn, 1) := by decide +kernel
theorem dX9_actingAt_0 : decode cX9_actingAt 0 = .ok (.iconst 0, 1) := by decide +kernel
theorem dX9_actingAt_1 : decode cX9_actingAt 1 = .ok (.istore_n 2, 1) := by decide +kernel
theorem dX9_actingAt_2 : decode cX9_actingAt 2 = .ok (.iconst 0, 1) := by decide +kernel
theorem dX9_actingAt_3 : decode cX9_actingAt 3 = .ok (.istore_n 3, 1) := by decide +kernel
theorem dX9_actingAt_4 : decode cX9_actingAt 4 = .ok (.iload_n 3, 1) := by decide +kernel
theorem dX9_actingAt_5 : decode cX9_actingAt 5 = .ok (.aload_n 0, 1) := by decide +kernel
theorem dX9_actingAt_6 : decode cX9_actingAt 6 = .ok (.getfield 7, 3) := by decide +kernel
theorem dX9_actingAt_9 : decode cX9_actingAt 9 = .ok (.iconst 1, 1) := by decide +kernel
theorem dX9_actingAt_10 : decode cX9_actingAt 10 = .ok (.iaload, 1) := by decide +kernel
theorem dX9_actingAt_11 : decode cX9_actingAt 11 = .ok (.if_icmp .ge 28, 3) := by decide +kernel
theorem dX9_actingAt_14 : decode cX9_actingAt 14 = .ok (.iload_n 2, 1) := by decide +kernel
theorem dX9_actingAt_15 : decode cX9_actingAt 15 = .ok (.aload_n 0, 1) := by decide +kernel
theorem dX9_actingAt_16 : decode cX9_actingAt 16 = .ok (.iload_n 3, 1) := by decide +kernel
theorem dX9_actingAt_17 : decode cX9_actingAt 17 = .ok (.iload_n 1, 1) := by decide +kernel
theorem dX9_actingAt_18 : decode cX9_actingAt 18 = .ok (.invokevirtual 60, 3) := by decide +kernel
theorem dX9_actingAt_21 : decode cX9_actingAt 21 = .ok (.ifCond .eq 9, 3) := by decide +kernel
theorem dX9_actingAt_24 : decode cX9_actingAt 24 = .ok (.iconst 1, 1) := by decide +kernel
theorem dX9_actingAt_25 : decode cX9_actingAt 25 = .ok (.iload_n 3, 1) := by decide +kernel
theorem dX9_actingAt_26 : decode cX9_actingAt 26 = .ok (.ishl, 1) := by decide +kernel
theorem dX9_actingAt_27 : decode cX9_actingAt 27 = .ok (.goto 4, 3) := by decide +kernel
theorem dX9_actingAt_30 : decode cX9_actingAt 30 = .ok (.iconst 0, 1) := by decide +kernel
theorem dX9_actingAt_31 : decode cX9_actingAt 31 = .ok (.ior, 1) := by decide +kernel
theorem dX9_actingAt_32 : decode cX9_actingAt 32 = .ok (.istore_n 2, 1) := by decide +kernel
theorem dX9_actingAt_33 : decode cX9_actingAt 33 = .ok (.iinc 3 1, 3) := by decide +kernel
theorem dX9_actingAt_36 : decode cX9_actingAt 36 = .ok (.goto (-32), 3) := by decide +kernel
theorem dX9_actingAt_39 : decode cX9_actingAt 39 = .ok (.iload_n 2, 1) := by decide +kernel
theorem dX9_actingAt_40 : decode cX9_actingAt 40 = .ok (.ireturn, 1) := by decide +kernel
theorem dX9_valueAt_0 : decode cX9_valueAt 0 = .ok (.aload_n 0, 1) := by decide +kernel
theorem dX9_valueAt_1 : decode cX9_valueAt 1 = .ok (.iload_n 1, 1) := by decide +kernel
theorem dX9_valueAt_2 : decode cX9_valueAt 2 = .ok (.invokevirtual 64, 3) := by decide +kernel
theorem dX9_valueAt_5 : decode cX9_valueAt 5 = .ok (.istore_n 2, 1) := by decide +kernel
theorem dX9_valueAt_6 : decode cX9_valueAt 6 = .ok (.iconst 0, 1) := by decide +kernel
theorem dX9_valueAt_7 : decode cX9_valueAt 7 = .ok (.istore_n 3, 1) := by decide +kernel
theorem dX9_valueAt_8 : decode cX9_valueAt 8 = .ok (.iconst 0, 1) := by decide +kernel
theorem dX9_valueAt_9 : decode cX9_valueAt 9 = .ok (.istore 4, 2) := by decide +kernel
theorem dX9_valueAt_11 : decode cX9_valueAt 11 = .ok (.iconst 0, 1) := by decide +kernel
theorem dX9_valueAt_12 : decode cX9_valueAt 12 = .ok (.istore 5, 2) := by decide +kernel
theorem dX9_valueAt_14 : decode cX9_valueAt 14 = .ok (.iload 5, 2) := by decide +kernel
theorem dX9_valueAt_16 : decode cX9_valueAt 16 = .ok (.aload_n 0, 1) := by decide +kernel
theorem dX9_valueAt_17 : decode cX9_valueAt 17 = .ok (.getfield 7, 3) := by decide +kernel
theorem dX9_valueAt_20 : decode cX9_valueAt 20 = .ok (.iconst 1, 1) := by decide +kernel
theorem dX9_valueAt_21 : decode cX9_valueAt 21 = .ok (.iaload, 1) := by decide +kernel
theorem dX9_valueAt_22 : decode cX9_valueAt 22 = .ok (.if_icmp .ge 45, 3) := by decide +kernel
theorem dX9_valueAt_25 : decode cX9_valueAt 25 = .ok (.iload_n 3, 1) := by decide +kernel
theorem dX9_valueAt_26 : decode cX9_valueAt 26 = .ok (.iload_n 2, 1) := by decide +kernel
theorem dX9_valueAt_27 : decode cX9_valueAt 27 = .ok (.iload 5, 2) := by decide +kernel
theorem dX9_valueAt_29 : decode cX9_valueAt 29 = .ok (.ishr, 1) := by decide +kernel
theorem dX9_valueAt_30 : decode cX9_valueAt 30 = .ok (.iconst 1, 1) := by decide +kernel
theorem dX9_valueAt_31 : decode cX9_valueAt 31 = .ok (.iand, 1) := by decide +kernel
theorem dX9_valueAt_32 : decode cX9_valueAt 32 = .ok (.iconst 1, 1) := by decide +kernel
theorem dX9_valueAt_33 : decode cX9_valueAt 33 = .ok (.if_icmp .ne 13, 3) := by decide +kernel
theorem dX9_valueAt_36 : decode cX9_valueAt 36 = .ok (.aload_n 0, 1) := by decide +kernel
theorem dX9_valueAt_37 : decode cX9_valueAt 37 = .ok (.iload 5, 2) := by decide +kernel
theorem dX9_valueAt_39 : decode cX9_valueAt 39 = .ok (.iconst 2, 1) := by decide +kernel
theorem dX9_valueAt_40 : decode cX9_valueAt 40 = .ok (.invokevirtual 57, 3) := by decide +kernel
theorem dX9_valueAt_43 : decode cX9_valueAt 43 = .ok (.goto 4, 3) := by decide +kernel
theorem dX9_valueAt_46 : decode cX9_valueAt 46 = .ok (.iconst 0, 1) := by decide +kernel
theorem dX9_valueAt_47 : decode cX9_valueAt 47 = .ok (.iadd, 1) := by decide +kernel
theorem dX9_valueAt_48 : decode cX9_valueAt 48 = .ok (.istore_n 3, 1) := by decide +kernel
theorem dX9_valueAt_49 : decode cX9_valueAt 49 = .ok (.iload 4, 2) := by decide +kernel
theorem dX9_valueAt_51 : decode cX9_valueAt 51 = .ok (.aload_n 0, 1) := by decide +kernel
theorem dX9_valueAt_52 : decode cX9_valueAt 52 = .ok (.iload 5, 2) := by decide +kernel
theorem dX9_valueAt_54 : decode cX9_valueAt 54 = .ok (.iconst 3, 1) := by decide +kernel
theorem dX9_valueAt_55 : decode cX9_valueAt 55 = .ok (.invokevirtual 57, 3) := by decide +kernel
theorem dX9_valueAt_58 : decode cX9_valueAt 58 = .ok (.iadd, 1) := by decide +kernel
theorem dX9_valueAt_59 : decode cX9_valueAt 59 = .ok (.istore 4, 2) := by decide +kernel
theorem dX9_valueAt_61 : decode cX9_valueAt 61 = .ok (.iinc 5 1, 3) := by decide +kernel
theorem dX9_valueAt_64 : decode cX9_valueAt 64 = .ok (.goto (-50), 3) := by decide +kernel
theorem dX9_valueAt_67 : decode cX9_valueAt 67 = .ok (.iload_n 3, 1) := by decide +kernel
theorem dX9_valueAt_68 : decode cX9_valueAt 68 = .ok (.iload_n 2, 1) := by decide +kernel
theorem dX9_valueAt_69 : decode cX9_valueAt 69 = .ok (.iconst 1, 1) := by decide +kernel
theorem dX9_valueAt_70 : decode cX9_valueAt 70 = .ok (.aload_n 0, 1) := by decide +kernel
theorem dX9_valueAt_71 : decode cX9_valueAt 71 = .ok (.getfield 7, 3) := by decide +kernel
theorem dX9_valueAt_74 : decode cX9_valueAt 74 = .ok (.iconst 1, 1) := by decide +kernel
theorem dX9_valueAt_75 : decode cX9_valueAt 75 = .ok (.iaload, 1) := by decide +kernel
theorem dX9_valueAt_76 : decode cX9_valueAt 76 = .ok (.ishl, 1) := by decide +kernel
theorem dX9_valueAt_77 : decode cX9_valueAt 77 = .ok (.iconst 1, 1) := by decide +kernel
theorem dX9_valueAt_78 : decode cX9_valueAt 78 = .ok (.isub, 1) := by decide +kernel
theorem dX9_valueAt_79 : decode cX9_valueAt 79 = .ok (.if_icmp .ne 8, 3) := by decide +kernel
theorem dX9_valueAt_82 : decode cX9_valueAt 82 = .ok (.iload 4, 2) := by decide +kernel
theorem dX9_valueAt_84 : decode cX9_valueAt 84 = .ok (.goto 4, 3) := by decide +kernel
theorem dX9_valueAt_87 : decode cX9_valueAt 87 = .ok (.iconst 0, 1) := by decide +kernel
theorem dX9_valueAt_88 : decode cX9_valueAt 88 = .ok (.iadd, 1) := by decide +kernel
theorem dX9_valueAt_89 : decode cX9_valueAt 89 = .ok (.ireturn, 1) := by decide +kernel
theorem dX9_leastActing_0 : decode cX9_leastActing 0 = .ok (.bipush 100, 2) := by decide +kernel
theorem dX9_leastActing_2 : decode cX9_leastActing 2 = .ok (.istore_n 2, 1) := by decide +kernel
theorem dX9_leastActing_3 : decode cX9_leastActing 3 = .ok (.bipush 100, 2) := by decide +kernel
theorem dX9_leastActing_5 : decode cX9_leastActing 5 = .ok (.istore_n 3, 1) := by decide +kernel
theorem dX9_leastActing_6 : decode cX9_leastActing 6 = .ok (.iload_n 3, 1) := by decide +kernel
theorem dX9_leastActing_7 : decode cX9_leastActing 7 = .ok (.ifCond .lt 24, 3) := by decide +kernel
theorem dX9_leastActing_10 : decode cX9_leastActing 10 = .ok (.aload_n 0, 1) := by decide +kernel
theorem dX9_leastActing_11 : decode cX9_leastActing 11 = .ok (.iload_n 1, 1) := by decide +kernel
theorem dX9_leastActing_12 : decode cX9_leastActing 12 = .ok (.iload_n 3, 1) := by decide +kernel
theorem dX9_leastActing_13 : decode cX9_leastActing 13 = .ok (.invokevirtual 60, 3) := by decide +kernel
theorem dX9_leastActing_16 : decode cX9_leastActing 16 = .ok (.ifCond .eq 7, 3) := by decide +kernel
theorem dX9_leastActing_19 : decode cX9_leastActing 19 = .ok (.iload_n 3, 1) := by decide +kernel
theorem dX9_leastActing_20 : decode cX9_leastActing 20 = .ok (.goto 4, 3) := by decide +kernel
theorem dX9_leastActing_23 : decode cX9_leastActing 23 = .ok (.iload_n 2, 1) := by decide +kernel
theorem dX9_leastActing_24 : decode cX9_leastActing 24 = .ok (.istore_n 2, 1) := by decide +kernel
theorem dX9_leastActing_25 : decode cX9_leastActing 25 = .ok (.iinc 3 (-1), 3) := by decide +kernel
theorem dX9_leastActing_28 : decode cX9_leastActing 28 = .ok (.goto (-22), 3) := by decide +kernel
theorem dX9_leastActing_31 : decode cX9_leastActing 31 = .ok (.iload_n 2, 1) := by decide +kernel
theorem dX9_leastActing_32 : decode cX9_leastActing 32 = .ok (.ireturn, 1) := by decide +kernel
theorem dX9_isPart_0 : decode cX9_isPart 0 = .ok (.iload_n 1, 1) := by decide +kernel
theorem dX9_isPart_1 : decode cX9_isPart 1 = .ok (.iconst 0, 1) := by decide +kernel
theorem dX9_isPart_2 : decode cX9_isPart 2 = .ok (.aload_n 0, 1) := by decide +kernel
theorem dX9_isPart_3 : decode cX9_isPart 3 = .ok (.getfield 7, 3) := by decide +kernel
theorem dX9_isPart_6 : decode cX9_isPart 6 = .ok (.iconst 2, 1) := by decide +kernel
theorem dX9_isPart_7 : decode cX9_isPart 7 = .ok (.iaload, 1) := by decide +kernel
theorem dX9_isPart_8 : decode cX9_isPart 8 = .ok (.iconst 1, 1) := by decide +kernel
theorem dX9_isPart_9 : decode cX9_isPart 9 = .ok (.isub, 1) := by decide +kernel
theorem dX9_isPart_10 : decode cX9_isPart 10 = .ok (.invokestatic 53, 3) := by decide +kernel
theorem dX9_isPart_13 : decode cX9_isPart 13 = .ok (.ireturn, 1) := by decide +kernel
theorem dX9_begins_0 : decode cX9_begins 0 = .ok (.aload_n 0, 1) := by decide +kernel
theorem dX9_begins_1 : decode cX9_begins 1 = .ok (.getfield 7, 3) := by decide +kernel
theorem dX9_begins_4 : decode cX9_begins 4 = .ok (.iconst 0, 1) := by decide +kernel
theorem dX9_begins_5 : decode cX9_begins 5 = .ok (.iload_n 1, 1) := by decide +kernel
theorem dX9_begins_6 : decode cX9_begins 6 = .ok (.iastore, 1) := by decide +kernel
theorem dX9_begins_7 : decode cX9_begins 7 = .ok (.aload_n 0, 1) := by decide +kernel
theorem dX9_begins_8 : decode cX9_begins 8 = .ok (.iconst 1, 1) := by decide +kernel
theorem dX9_begins_9 : decode cX9_begins 9 = .ok (.iload_n 1, 1) := by decide +kernel
theorem dX9_begins_10 : decode cX9_begins 10 = .ok (.invokevirtual 68, 3) := by decide +kernel
theorem dX9_begins_13 : decode cX9_begins 13 = .ok (.return_, 1) := by decide +kernel
theorem dX9_takesOne_0 : decode cX9_takesOne 0 = .ok (.aload_n 0, 1) := by decide +kernel
theorem dX9_takesOne_1 : decode cX9_takesOne 1 = .ok (.iconst 0, 1) := by decide +kernel
theorem dX9_takesOne_2 : decode cX9_takesOne 2 = .ok (.putfield 72, 3) := by decide +kernel
theorem dX9_takesOne_5 : decode cX9_takesOne 5 = .ok (.aload_n 0, 1) := by decide +kernel
theorem dX9_takesOne_6 : decode cX9_takesOne 6 = .ok (.iload_n 1, 1) := by decide +kernel
theorem dX9_takesOne_7 : decode cX9_takesOne 7 = .ok (.iload_n 2, 1) := by decide +kernel
theorem dX9_takesOne_8 : decode cX9_takesOne 8 = .ok (.invokevirtual 75, 3) := by decide +kernel
theorem dX9_takesOne_11 : decode cX9_takesOne 11 = .ok (.aload_n 0, 1) := by decide +kernel
theorem dX9_takesOne_12 : decode cX9_takesOne 12 = .ok (.invokevirtual 78, 3) := by decide +kernel
theorem dX9_takesOne_15 : decode cX9_takesOne 15 = .ok (.return_, 1) := by decide +kernel
theorem dX9_takes_0 : decode cX9_takes 0 = .ok (.aload_n 0, 1) := by decide +kernel
theorem dX9_takes_1 : decode cX9_takes 1 = .ok (.getfield 72, 3) := by decide +kernel
theorem dX9_takes_4 : decode cX9_takes 4 = .ok (.istore_n 3, 1) := by decide +kernel
theorem dX9_takes_5 : decode cX9_takes 5 = .ok (.iload_n 3, 1) := by decide +kernel
theorem dX9_takes_6 : decode cX9_takes 6 = .ok (.ifCond .le 21, 3) := by decide +kernel
theorem dX9_takes_9 : decode cX9_takes 9 = .ok (.aload_n 0, 1) := by decide +kernel
theorem dX9_takes_10 : decode cX9_takes 10 = .ok (.getfield 28, 3) := by decide +kernel
theorem dX9_takes_13 : decode cX9_takes 13 = .ok (.iload_n 3, 1) := by decide +kernel
theorem dX9_takes_14 : decode cX9_takes 14 = .ok (.iconst 1, 1) := by decide +kernel
theorem dX9_takes_15 : decode cX9_takes 15 = .ok (.isub, 1) := by decide +kernel
theorem dX9_takes_16 : decode cX9_takes 16 = .ok (.iaload, 1) := by decide +kernel
theorem dX9_takes_17 : decode cX9_takes 17 = .ok (.iload_n 2, 1) := by decide +kernel
theorem dX9_takes_18 : decode cX9_takes 18 = .ok (.if_icmp .le 9, 3) := by decide +kernel
theorem dX9_takes_21 : decode cX9_takes 21 = .ok (.iinc 3 (-1), 3) := by decide +kernel
theorem dX9_takes_24 : decode cX9_takes 24 = .ok (.goto (-19), 3) := by decide +kernel
theorem dX9_takes_27 : decode cX9_takes 27 = .ok (.iload_n 3, 1) := by decide +kernel
theorem dX9_takes_28 : decode cX9_takes 28 = .ok (.ifCond .le 30, 3) := by decide +kernel
theorem dX9_takes_31 : decode cX9_takes 31 = .ok (.aload_n 0, 1) := by decide +kernel
theorem dX9_takes_32 : decode cX9_takes 32 = .ok (.getfield 28, 3) := by decide +kernel
theorem dX9_takes_35 : decode cX9_takes 35 = .ok (.iload_n 3, 1) := by decide +kernel
theorem dX9_takes_36 : decode cX9_takes 36 = .ok (.iconst 1, 1) := by decide +kernel
theorem dX9_takes_37 : decode cX9_takes 37 = .ok (.isub, 1) := by decide +kernel
theorem dX9_takes_38 : decode cX9_takes 38 = .ok (.iaload, 1) := by decide +kernel
theorem dX9_takes_39 : decode cX9_takes 39 = .ok (.iload_n 2, 1) := by decide +kernel
theorem dX9_takes_40 : decode cX9_takes 40 = .ok (.if_icmp .ne 18, 3) := by decide +kernel
theorem dX9_takes_43 : decode cX9_takes 43 = .ok (.aload_n 0, 1) := by decide +kernel
theorem dX9_takes_44 : decode cX9_takes 44 = .ok (.getfield 25, 3) := by decide +kernel
theorem dX9_takes_47 : decode cX9_takes 47 = .ok (.iload_n 3, 1) := by decide +kernel
theorem dX9_takes_48 : decode cX9_takes 48 = .ok (.iconst 1, 1) := by decide +kernel
theorem dX9_takes_49 : decode cX9_takes 49 = .ok (.isub, 1) := by decide +kernel
theorem dX9_takes_50 : decode cX9_takes 50 = .ok (.dup2, 1) := by decide +kernel
theorem dX9_takes_51 : decode cX9_takes 51 = .ok (.iaload, 1) := by decide +kernel
theorem dX9_takes_52 : decode cX9_takes 52 = .ok (.iload_n 1, 1) := by decide +kernel
theorem dX9_takes_53 : decode cX9_takes 53 = .ok (.iadd, 1) := by decide +kernel
theorem dX9_takes_54 : decode cX9_takes 54 = .ok (.iastore, 1) := by decide +kernel
theorem dX9_takes_55 : decode cX9_takes 55 = .ok (.goto 81, 3) := by decide +kernel
theorem dX9_takes_58 : decode cX9_takes 58 = .ok (.iload_n 1, 1) := by decide +kernel
theorem dX9_takes_59 : decode cX9_takes 59 = .ok (.ifCond .le 77, 3) := by decide +kernel
theorem dX9_takes_62 : decode cX9_takes 62 = .ok (.aload_n 0, 1) := by decide +kernel
theorem dX9_takes_63 : decode cX9_takes 63 = .ok (.getfield 72, 3) := by decide +kernel
theorem dX9_takes_66 : decode cX9_takes 66 = .ok (.istore 4, 2) := by decide +kernel
theorem dX9_takes_68 : decode cX9_takes 68 = .ok (.iload 4, 2) := by decide +kernel
theorem dX9_takes_70 : decode cX9_takes 70 = .ok (.iload_n 3, 1) := by decide +kernel
theorem dX9_takes_71 : decode cX9_takes 71 = .ok (.if_icmp .le 41, 3) := by decide +kernel
theorem dX9_takes_74 : decode cX9_takes 74 = .ok (.aload_n 0, 1) := by decide +kernel
theorem dX9_takes_75 : decode cX9_takes 75 = .ok (.getfield 25, 3) := by decide +kernel
theorem dX9_takes_78 : decode cX9_takes 78 = .ok (.iload 4, 2) := by decide +kernel
theorem dX9_takes_80 : decode cX9_takes 80 = .ok (.aload_n 0, 1) := by decide +kernel
theorem dX9_takes_81 : decode cX9_takes 81 = .ok (.getfield 25, 3) := by decide +kernel
theorem dX9_takes_84 : decode cX9_takes 84 = .ok (.iload 4, 2) := by decide +kernel
theorem dX9_takes_86 : decode cX9_takes 86 = .ok (.iconst 1, 1) := by decide +kernel
theorem dX9_takes_87 : decode cX9_takes 87 = .ok (.isub, 1) := by decide +kernel
theorem dX9_takes_88 : decode cX9_takes 88 = .ok (.iaload, 1) := by decide +kernel
theorem dX9_takes_89 : decode cX9_takes 89 = .ok (.iastore, 1) := by decide +kernel
theorem dX9_takes_90 : decode cX9_takes 90 = .ok (.aload_n 0, 1) := by decide +kernel
theorem dX9_takes_91 : decode cX9_takes 91 = .ok (.getfield 28, 3) := by decide +kernel
theorem dX9_takes_94 : decode cX9_takes 94 = .ok (.iload 4, 2) := by decide +kernel
theorem dX9_takes_96 : decode cX9_takes 96 = .ok (.aload_n 0, 1) := by decide +kernel
theorem dX9_takes_97 : decode cX9_takes 97 = .ok (.getfield 28, 3) := by decide +kernel
theorem dX9_takes_100 : decode cX9_takes 100 = .ok (.iload 4, 2) := by decide +kernel
theorem dX9_takes_102 : decode cX9_takes 102 = .ok (.iconst 1, 1) := by decide +kernel
theorem dX9_takes_103 : decode cX9_takes 103 = .ok (.isub, 1) := by decide +kernel
theorem dX9_takes_104 : decode cX9_takes 104 = .ok (.iaload, 1) := by decide +kernel
theorem dX9_takes_105 : decode cX9_takes 105 = .ok (.iastore, 1) := by decide +kernel
theorem dX9_takes_106 : decode cX9_takes 106 = .ok (.iinc 4 (-1), 3) := by decide +kernel
theorem dX9_takes_109 : decode cX9_takes 109 = .ok (.goto (-41), 3) := by decide +kernel
theorem dX9_takes_112 : decode cX9_takes 112 = .ok (.aload_n 0, 1) := by decide +kernel
theorem dX9_takes_113 : decode cX9_takes 113 = .ok (.getfield 25, 3) := by decide +kernel
theorem dX9_takes_116 : decode cX9_takes 116 = .ok (.iload_n 3, 1) := by decide +kernel
theorem dX9_takes_117 : decode cX9_takes 117 = .ok (.iload_n 1, 1) := by decide +kernel
theorem dX9_takes_118 : decode cX9_takes 118 = .ok (.iastore, 1) := by decide +kernel
theorem dX9_takes_119 : decode cX9_takes 119 = .ok (.aload_n 0, 1) := by decide +kernel
theorem dX9_takes_120 : decode cX9_takes 120 = .ok (.getfield 28, 3) := by decide +kernel
theorem dX9_takes_123 : decode cX9_takes 123 = .ok (.iload_n 3, 1) := by decide +kernel
theorem dX9_takes_124 : decode cX9_takes 124 = .ok (.iload_n 2, 1) := by decide +kernel
theorem dX9_takes_125 : decode cX9_takes 125 = .ok (.iastore, 1) := by decide +kernel
theorem dX9_takes_126 : decode cX9_takes 126 = .ok (.aload_n 0, 1) := by decide +kernel
theorem dX9_takes_127 : decode cX9_takes 127 = .ok (.dup, 1) := by decide +kernel
theorem dX9_takes_128 : decode cX9_takes 128 = .ok (.getfield 72, 3) := by decide +kernel
theorem dX9_takes_131 : decode cX9_takes 131 = .ok (.iconst 1, 1) := by decide +kernel
theorem dX9_takes_132 : decode cX9_takes 132 = .ok (.iadd, 1) := by decide +kernel
theorem dX9_takes_133 : decode cX9_takes 133 = .ok (.putfield 72, 3) := by decide +kernel
theorem dX9_takes_136 : decode cX9_takes 136 = .ok (.return_, 1) := by decide +kernel
theorem dX9_areWell_0 : decode cX9_areWell 0 = .ok (.iconst 0, 1) := by decide +kernel
theorem dX9_areWell_1 : decode cX9_areWell 1 = .ok (.istore_n 1, 1) := by decide +kernel
theorem dX9_areWell_2 : decode cX9_areWell 2 = .ok (.iconst 0, 1) := by decide +kernel
theorem dX9_areWell_3 : decode cX9_areWell 3 = .ok (.istore_n 2, 1) := by decide +kernel
theorem dX9_areWell_4 : decode cX9_areWell 4 = .ok (.iload_n 2, 1) := by decide +kernel
theorem dX9_areWell_5 : decode cX9_areWell 5 = .ok (.aload_n 0, 1) := by decide +kernel
theorem dX9_areWell_6 : decode cX9_areWell 6 = .ok (.getfield 72, 3) := by decide +kernel
theorem dX9_areWell_9 : decode cX9_areWell 9 = .ok (.if_icmp .ge 20, 3) := by decide +kernel
theorem dX9_areWell_12 : decode cX9_areWell 12 = .ok (.iload_n 1, 1) := by decide +kernel
theorem dX9_areWell_13 : decode cX9_areWell 13 = .ok (.aload_n 0, 1) := by decide +kernel
theorem dX9_areWell_14 : decode cX9_areWell 14 = .ok (.getfield 25, 3) := by decide +kernel
theorem dX9_areWell_17 : decode cX9_areWell 17 = .ok (.iload_n 2, 1) := by decide +kernel
theorem dX9_areWell_18 : decode cX9_areWell 18 = .ok (.iaload, 1) := by decide +kernel
theorem dX9_areWell_19 : decode cX9_areWell 19 = .ok (.invokestatic 43, 3) := by decide +kernel
theorem dX9_areWell_22 : decode cX9_areWell 22 = .ok (.istore_n 1, 1) := by decide +kernel
theorem dX9_areWell_23 : decode cX9_areWell 23 = .ok (.iinc 2 1, 3) := by decide +kernel
theorem dX9_areWell_26 : decode cX9_areWell 26 = .ok (.goto (-22), 3) := by decide +kernel
theorem dX9_areWell_29 : decode cX9_areWell 29 = .ok (.aload_n 0, 1) := by decide +kernel
theorem dX9_areWell_30 : decode cX9_areWell 30 = .ok (.getfield 72, 3) := by decide +kernel
theorem dX9_areWell_33 : decode cX9_areWell 33 = .ok (.bipush 6, 2) := by decide +kernel
theorem dX9_areWell_35 : decode cX9_areWell 35 = .ok (.if_icmp .gt 7, 3) := by decide +kernel
theorem dX9_areWell_38 : decode cX9_areWell 38 = .ok (.iconst 1, 1) := by decide +kernel
theorem dX9_areWell_39 : decode cX9_areWell 39 = .ok (.goto 4, 3) := by decide +kernel
theorem dX9_areWell_42 : decode cX9_areWell 42 = .ok (.iconst 0, 1) := by decide +kernel
theorem dX9_areWell_43 : decode cX9_areWell 43 = .ok (.istore_n 2, 1) := by decide +kernel
theorem dX9_areWell_44 : decode cX9_areWell 44 = .ok (.iconst 0, 1) := by decide +kernel
theorem dX9_areWell_45 : decode cX9_areWell 45 = .ok (.istore_n 3, 1) := by decide +kernel
theorem dX9_areWell_46 : decode cX9_areWell 46 = .ok (.iload_n 3, 1) := by decide +kernel
theorem dX9_areWell_47 : decode cX9_areWell 47 = .ok (.aload_n 0, 1) := by decide +kernel
theorem dX9_areWell_48 : decode cX9_areWell 48 = .ok (.getfield 72, 3) := by decide +kernel
theorem dX9_areWell_51 : decode cX9_areWell 51 = .ok (.if_icmp .ge 41, 3) := by decide +kernel
theorem dX9_areWell_54 : decode cX9_areWell 54 = .ok (.aload_n 0, 1) := by decide +kernel
theorem dX9_areWell_55 : decode cX9_areWell 55 = .ok (.getfield 25, 3) := by decide +kernel
theorem dX9_areWell_58 : decode cX9_areWell 58 = .ok (.iload_n 3, 1) := by decide +kernel
theorem dX9_areWell_59 : decode cX9_areWell 59 = .ok (.dup2, 1) := by decide +kernel
theorem dX9_areWell_60 : decode cX9_areWell 60 = .ok (.iaload, 1) := by decide +kernel
theorem dX9_areWell_61 : decode cX9_areWell 61 = .ok (.iload_n 1, 1) := by decide +kernel
theorem dX9_areWell_62 : decode cX9_areWell 62 = .ok (.idiv, 1) := by decide +kernel
theorem dX9_areWell_63 : decode cX9_areWell 63 = .ok (.iastore, 1) := by decide +kernel
theorem dX9_areWell_64 : decode cX9_areWell 64 = .ok (.iload_n 2, 1) := by decide +kernel
theorem dX9_areWell_65 : decode cX9_areWell 65 = .ok (.ifCond .eq 19, 3) := by decide +kernel
theorem dX9_areWell_68 : decode cX9_areWell 68 = .ok (.aload_n 0, 1) := by decide +kernel
theorem dX9_areWell_69 : decode cX9_areWell 69 = .ok (.getfield 25, 3) := by decide +kernel
theorem dX9_areWell_72 : decode cX9_areWell 72 = .ok (.iload_n 3, 1) := by decide +kernel
theorem dX9_areWell_73 : decode cX9_areWell 73 = .ok (.iaload, 1) := by decide +kernel
theorem dX9_areWell_74 : decode cX9_areWell 74 = .ok (.sipush 999, 3) := by decide +kernel
theorem dX9_areWell_77 : decode cX9_areWell 77 = .ok (.if_icmp .gt 7, 3) := by decide +kernel
theorem dX9_areWell_80 : decode cX9_areWell 80 = .ok (.iconst 1, 1) := by decide +kernel
theorem dX9_areWell_81 : decode cX9_areWell 81 = .ok (.goto 4, 3) := by decide +kernel
theorem dX9_areWell_84 : decode cX9_areWell 84 = .ok (.iconst 0, 1) := by decide +kernel
theorem dX9_areWell_85 : decode cX9_areWell 85 = .ok (.istore_n 2, 1) := by decide +kernel
theorem dX9_areWell_86 : decode cX9_areWell 86 = .ok (.iinc 3 1, 3) := by decide +kernel
theorem dX9_areWell_89 : decode cX9_areWell 89 = .ok (.goto (-43), 3) := by decide +kernel
theorem dX9_areWell_92 : decode cX9_areWell 92 = .ok (.iload_n 2, 1) := by decide +kernel
theorem dX9_areWell_93 : decode cX9_areWell 93 = .ok (.ireturn, 1) := by decide +kernel
theorem dX9_gives_0 : decode cX9_gives 0 = .ok (.aload_n 0, 1) := by decide +kernel
theorem dX9_gives_1 : decode cX9_gives 1 = .ok (.getfield 7, 3) := by decide +kernel
theorem dX9_gives_4 : decode cX9_gives 4 = .ok (.iconst 2, 1) := by decide +kernel
theorem dX9_gives_5 : decode cX9_gives 5 = .ok (.aload_n 0, 1) := by decide +kernel
theorem dX9_gives_6 : decode cX9_gives 6 = .ok (.getfield 72, 3) := by decide +kernel
theorem dX9_gives_9 : decode cX9_gives 9 = .ok (.iastore, 1) := by decide +kernel
theorem dX9_gives_10 : decode cX9_gives 10 = .ok (.iconst 0, 1) := by decide +kernel
theorem dX9_gives_11 : decode cX9_gives 11 = .ok (.istore_n 1, 1) := by decide +kernel
theorem dX9_gives_12 : decode cX9_gives 12 = .ok (.iload_n 1, 1) := by decide +kernel
theorem dX9_gives_13 : decode cX9_gives 13 = .ok (.bipush 6, 2) := by decide +kernel
theorem dX9_gives_15 : decode cX9_gives 15 = .ok (.if_icmp .ge 63, 3) := by decide +kernel
theorem dX9_gives_18 : decode cX9_gives 18 = .ok (.aload_n 0, 1) := by decide +kernel
theorem dX9_gives_19 : decode cX9_gives 19 = .ok (.getfield 7, 3) := by decide +kernel
theorem dX9_gives_22 : decode cX9_gives 22 = .ok (.bipush 23, 2) := by decide +kernel
theorem dX9_gives_24 : decode cX9_gives 24 = .ok (.iload_n 1, 1) := by decide +kernel
theorem dX9_gives_25 : decode cX9_gives 25 = .ok (.iadd, 1) := by decide +kernel
theorem dX9_gives_26 : decode cX9_gives 26 = .ok (.iload_n 1, 1) := by decide +kernel
theorem dX9_gives_27 : decode cX9_gives 27 = .ok (.aload_n 0, 1) := by decide +kernel
theorem dX9_gives_28 : decode cX9_gives 28 = .ok (.getfield 72, 3) := by decide +kernel
theorem dX9_gives_31 : decode cX9_gives 31 = .ok (.if_icmp .ge 12, 3) := by decide +kernel
theorem dX9_gives_34 : decode cX9_gives 34 = .ok (.aload_n 0, 1) := by decide +kernel
theorem dX9_gives_35 : decode cX9_gives 35 = .ok (.getfield 25, 3) := by decide +kernel
theorem dX9_gives_38 : decode cX9_gives 38 = .ok (.iload_n 1, 1) := by decide +kernel
theorem dX9_gives_39 : decode cX9_gives 39 = .ok (.iaload, 1) := by decide +kernel
theorem dX9_gives_40 : decode cX9_gives 40 = .ok (.goto 4, 3) := by decide +kernel
theorem dX9_gives_43 : decode cX9_gives 43 = .ok (.iconst 0, 1) := by decide +kernel
theorem dX9_gives_44 : decode cX9_gives 44 = .ok (.iastore, 1) := by decide +kernel
theorem dX9_gives_45 : decode cX9_gives 45 = .ok (.aload_n 0, 1) := by decide +kernel
theorem dX9_gives_46 : decode cX9_gives 46 = .ok (.getfield 7, 3) := by decide +kernel
theorem dX9_gives_49 : decode cX9_gives 49 = .ok (.bipush 29, 2) := by decide +kernel
theorem dX9_gives_51 : decode cX9_gives 51 = .ok (.iload_n 1, 1) := by decide +kernel
theorem dX9_gives_52 : decode cX9_gives 52 = .ok (.iadd, 1) := by decide +kernel
theorem dX9_gives_53 : decode cX9_gives 53 = .ok (.iload_n 1, 1) := by decide +kernel
theorem dX9_gives_54 : decode cX9_gives 54 = .ok (.aload_n 0, 1) := by decide +kernel
theorem dX9_gives_55 : decode cX9_gives 55 = .ok (.getfield 72, 3) := by decide +kernel
theorem dX9_gives_58 : decode cX9_gives 58 = .ok (.if_icmp .ge 12, 3) := by decide +kernel
theorem dX9_gives_61 : decode cX9_gives 61 = .ok (.aload_n 0, 1) := by decide +kernel
theorem dX9_gives_62 : decode cX9_gives 62 = .ok (.getfield 28, 3) := by decide +kernel
theorem dX9_gives_65 : decode cX9_gives 65 = .ok (.iload_n 1, 1) := by decide +kernel
theorem dX9_gives_66 : decode cX9_gives 66 = .ok (.iaload, 1) := by decide +kernel
theorem dX9_gives_67 : decode cX9_gives 67 = .ok (.goto 4, 3) := by decide +kernel
theorem dX9_gives_70 : decode cX9_gives 70 = .ok (.iconst 0, 1) := by decide +kernel
theorem dX9_gives_71 : decode cX9_gives 71 = .ok (.iastore, 1) := by decide +kernel
theorem dX9_gives_72 : decode cX9_gives 72 = .ok (.iinc 1 1, 3) := by decide +kernel
theorem dX9_gives_75 : decode cX9_gives 75 = .ok (.goto (-63), 3) := by decide +kernel
theorem dX9_gives_78 : decode cX9_gives 78 = .ok (.return_, 1) := by decide +kernel
theorem dX9_weightSum_0 : decode cX9_weightSum 0 = .ok (.iconst 0, 1) := by decide +kernel
theorem dX9_weightSum_1 : decode cX9_weightSum 1 = .ok (.istore_n 1, 1) := by decide +kernel
theorem dX9_weightSum_2 : decode cX9_weightSum 2 = .ok (.iconst 0, 1) := by decide +kernel
theorem dX9_weightSum_3 : decode cX9_weightSum 3 = .ok (.istore_n 2, 1) := by decide +kernel
theorem dX9_weightSum_4 : decode cX9_weightSum 4 = .ok (.iload_n 2, 1) := by decide +kernel
theorem dX9_weightSum_5 : decode cX9_weightSum 5 = .ok (.aload_n 0, 1) := by decide +kernel
theorem dX9_weightSum_6 : decode cX9_weightSum 6 = .ok (.getfield 7, 3) := by decide +kernel
theorem dX9_weightSum_9 : decode cX9_weightSum 9 = .ok (.iconst 2, 1) := by decide +kernel
theorem dX9_weightSum_10 : decode cX9_weightSum 10 = .ok (.iaload, 1) := by decide +kernel
theorem dX9_weightSum_11 : decode cX9_weightSum 11 = .ok (.if_icmp .ge 21, 3) := by decide +kernel
theorem dX9_weightSum_14 : decode cX9_weightSum 14 = .ok (.iload_n 1, 1) := by decide +kernel
theorem dX9_weightSum_15 : decode cX9_weightSum 15 = .ok (.aload_n 0, 1) := by decide +kernel
theorem dX9_weightSum_16 : decode cX9_weightSum 16 = .ok (.getfield 7, 3) := by decide +kernel
theorem dX9_weightSum_19 : decode cX9_weightSum 19 = .ok (.bipush 23, 2) := by decide +kernel
theorem dX9_weightSum_21 : decode cX9_weightSum 21 = .ok (.iload_n 2, 1) := by decide +kernel
theorem dX9_weightSum_22 : decode cX9_weightSum 22 = .ok (.iadd, 1) := by decide +kernel
theorem dX9_weightSum_23 : decode cX9_weightSum 23 = .ok (.iaload, 1) := by decide +kernel
theorem dX9_weightSum_24 : decode cX9_weightSum 24 = .ok (.iadd, 1) := by decide +kernel
theorem dX9_weightSum_25 : decode cX9_weightSum 25 = .ok (.istore_n 1, 1) := by decide +kernel
theorem dX9_weightSum_26 : decode cX9_weightSum 26 = .ok (.iinc 2 1, 3) := by decide +kernel
theorem dX9_weightSum_29 : decode cX9_weightSum 29 = .ok (.goto (-25), 3) := by decide +kernel
theorem dX9_weightSum_32 : decode cX9_weightSum 32 = .ok (.iload_n 1, 1) := by decide +kernel
theorem dX9_weightSum_33 : decode cX9_weightSum 33 = .ok (.ireturn, 1) := by decide +kernel
theorem dX9_takeMean_0 : decode cX9_takeMean 0 = .ok (.iconst 0, 1) := by decide +kernel
theorem dX9_takeMean_1 : decode cX9_takeMean 1 = .ok (.istore_n 1, 1) := by decide +kernel
theorem dX9_takeMean_2 : decode cX9_takeMean 2 = .ok (.iconst 0, 1) := by decide +kernel
theorem dX9_takeMean_3 : decode cX9_takeMean 3 = .ok (.istore_n 2, 1) := by decide +kernel
theorem dX9_takeMean_4 : decode cX9_takeMean 4 = .ok (.iload_n 2, 1) := by decide +kernel
theorem dX9_takeMean_5 : decode cX9_takeMean 5 = .ok (.aload_n 0, 1) := by decide +kernel
theorem dX9_takeMean_6 : decode cX9_takeMean 6 = .ok (.getfield 7, 3) := by decide +kernel
theorem dX9_takeMean_9 : decode cX9_takeMean 9 = .ok (.iconst 2, 1) := by decide +kernel
theorem dX9_takeMean_10 : decode cX9_takeMean 10 = .ok (.iaload, 1) := by decide +kernel
theorem dX9_takeMean_11 : decode cX9_takeMean 11 = .ok (.if_icmp .ge 35, 3) := by decide +kernel
theorem dX9_takeMean_14 : decode cX9_takeMean 14 = .ok (.iload_n 1, 1) := by decide +kernel
theorem dX9_takeMean_15 : decode cX9_takeMean 15 = .ok (.aload_n 0, 1) := by decide +kernel
theorem dX9_takeMean_16 : decode cX9_takeMean 16 = .ok (.getfield 7, 3) := by decide +kernel
theorem dX9_takeMean_19 : decode cX9_takeMean 19 = .ok (.bipush 23, 2) := by decide +kernel
theorem dX9_takeMean_21 : decode cX9_takeMean 21 = .ok (.iload_n 2, 1) := by decide +kernel
theorem dX9_takeMean_22 : decode cX9_takeMean 22 = .ok (.iadd, 1) := by decide +kernel
theorem dX9_takeMean_23 : decode cX9_takeMean 23 = .ok (.iaload, 1) := by decide +kernel
theorem dX9_takeMean_24 : decode cX9_takeMean 24 = .ok (.aload_n 0, 1) := by decide +kernel
theorem dX9_takeMean_25 : decode cX9_takeMean 25 = .ok (.aload_n 0, 1) := by decide +kernel
theorem dX9_takeMean_26 : decode cX9_takeMean 26 = .ok (.getfield 7, 3) := by decide +kernel
theorem dX9_takeMean_29 : decode cX9_takeMean 29 = .ok (.bipush 29, 2) := by decide +kernel
theorem dX9_takeMean_31 : decode cX9_takeMean 31 = .ok (.iload_n 2, 1) := by decide +kernel
theorem dX9_takeMean_32 : decode cX9_takeMean 32 = .ok (.iadd, 1) := by decide +kernel
theorem dX9_takeMean_33 : decode cX9_takeMean 33 = .ok (.iaload, 1) := by decide +kernel
theorem dX9_takeMean_34 : decode cX9_takeMean 34 = .ok (.invokevirtual 81, 3) := by decide +kernel
theorem dX9_takeMean_37 : decode cX9_takeMean 37 = .ok (.imul, 1) := by decide +kernel
theorem dX9_takeMean_38 : decode cX9_takeMean 38 = .ok (.iadd, 1) := by decide +kernel
theorem dX9_takeMean_39 : decode cX9_takeMean 39 = .ok (.istore_n 1, 1) := by decide +kernel
theorem dX9_takeMean_40 : decode cX9_takeMean 40 = .ok (.iinc 2 1, 3) := by decide +kernel
theorem dX9_takeMean_43 : decode cX9_takeMean 43 = .ok (.goto (-39), 3) := by decide +kernel
theorem dX9_takeMean_46 : decode cX9_takeMean 46 = .ok (.aload_n 0, 1) := by decide +kernel
theorem dX9_takeMean_47 : decode cX9_takeMean 47 = .ok (.iload_n 1, 1) := by decide +kernel
theorem dX9_takeMean_48 : decode cX9_takeMean 48 = .ok (.aload_n 0, 1) := by decide +kernel
theorem dX9_takeMean_49 : decode cX9_takeMean 49 = .ok (.invokevirtual 84, 3) := by decide +kernel
theorem dX9_takeMean_52 : decode cX9_takeMean 52 = .ok (.invokevirtual 88, 3) := by decide +kernel
theorem dX9_takeMean_55 : decode cX9_takeMean 55 = .ok (.return_, 1) := by decide +kernel
theorem dX9_takeEnvelope_0 : decode cX9_takeEnvelope 0 = .ok (.aload_n 0, 1) := by decide +kernel
theorem dX9_takeEnvelope_1 : decode cX9_takeEnvelope 1 = .ok (.iload_n 1, 1) := by decide +kernel
theorem dX9_takeEnvelope_2 : decode cX9_takeEnvelope 2 = .ok (.invokevirtual 81, 3) := by decide +kernel
theorem dX9_takeEnvelope_5 : decode cX9_takeEnvelope 5 = .ok (.istore_n 2, 1) := by decide +kernel
theorem dX9_takeEnvelope_6 : decode cX9_takeEnvelope 6 = .ok (.iconst 1, 1) := by decide +kernel
theorem dX9_takeEnvelope_7 : decode cX9_takeEnvelope 7 = .ok (.istore_n 3, 1) := by decide +kernel
theorem dX9_takeEnvelope_8 : decode cX9_takeEnvelope 8 = .ok (.aload_n 0, 1) := by decide +kernel
theorem dX9_takeEnvelope_9 : decode cX9_takeEnvelope 9 = .ok (.iload_n 1, 1) := by decide +kernel
theorem dX9_takeEnvelope_10 : decode cX9_takeEnvelope 10 = .ok (.putfield 91, 3) := by decide +kernel
theorem dX9_takeEnvelope_13 : decode cX9_takeEnvelope 13 = .ok (.aload_n 0, 1) := by decide +kernel
theorem dX9_takeEnvelope_14 : decode cX9_takeEnvelope 14 = .ok (.iload_n 1, 1) := by decide +kernel
theorem dX9_takeEnvelope_15 : decode cX9_takeEnvelope 15 = .ok (.putfield 94, 3) := by decide +kernel
theorem dX9_takeEnvelope_18 : decode cX9_takeEnvelope 18 = .ok (.iload_n 1, 1) := by decide +kernel
theorem dX9_takeEnvelope_19 : decode cX9_takeEnvelope 19 = .ok (.iconst 1, 1) := by decide +kernel
theorem dX9_takeEnvelope_20 : decode cX9_takeEnvelope 20 = .ok (.isub, 1) := by decide +kernel
theorem dX9_takeEnvelope_21 : decode cX9_takeEnvelope 21 = .ok (.istore 4, 2) := by decide +kernel
theorem dX9_takeEnvelope_23 : decode cX9_takeEnvelope 23 = .ok (.iload 4, 2) := by decide +kernel
theorem dX9_takeEnvelope_25 : decode cX9_takeEnvelope 25 = .ok (.ifCond .lt 85, 3) := by decide +kernel
theorem dX9_takeEnvelope_28 : decode cX9_takeEnvelope 28 = .ok (.bipush 100, 2) := by decide +kernel
theorem dX9_takeEnvelope_30 : decode cX9_takeEnvelope 30 = .ok (.istore 5, 2) := by decide +kernel
theorem dX9_takeEnvelope_32 : decode cX9_takeEnvelope 32 = .ok (.iload 5, 2) := by decide +kernel
theorem dX9_takeEnvelope_34 : decode cX9_takeEnvelope 34 = .ok (.iload_n 1, 1) := by decide +kernel
theorem dX9_takeEnvelope_35 : decode cX9_takeEnvelope 35 = .ok (.if_icmp .le 69, 3) := by decide +kernel
theorem dX9_takeEnvelope_38 : decode cX9_takeEnvelope 38 = .ok (.iload 5, 2) := by decide +kernel
theorem dX9_takeEnvelope_40 : decode cX9_takeEnvelope 40 = .ok (.iload_n 1, 1) := by decide +kernel
theorem dX9_takeEnvelope_41 : decode cX9_takeEnvelope 41 = .ok (.isub, 1) := by decide +kernel
theorem dX9_takeEnvelope_42 : decode cX9_takeEnvelope 42 = .ok (.aload_n 0, 1) := by decide +kernel
theorem dX9_takeEnvelope_43 : decode cX9_takeEnvelope 43 = .ok (.iload 4, 2) := by decide +kernel
theorem dX9_takeEnvelope_45 : decode cX9_takeEnvelope 45 = .ok (.invokevirtual 81, 3) := by decide +kernel
theorem dX9_takeEnvelope_48 : decode cX9_takeEnvelope 48 = .ok (.imul, 1) := by decide +kernel
theorem dX9_takeEnvelope_49 : decode cX9_takeEnvelope 49 = .ok (.iload_n 1, 1) := by decide +kernel
theorem dX9_takeEnvelope_50 : decode cX9_takeEnvelope 50 = .ok (.iload 4, 2) := by decide +kernel
theorem dX9_takeEnvelope_52 : decode cX9_takeEnvelope 52 = .ok (.isub, 1) := by decide +kernel
theorem dX9_takeEnvelope_53 : decode cX9_takeEnvelope 53 = .ok (.aload_n 0, 1) := by decide +kernel
theorem dX9_takeEnvelope_54 : decode cX9_takeEnvelope 54 = .ok (.iload 5, 2) := by decide +kernel
theorem dX9_takeEnvelope_56 : decode cX9_takeEnvelope 56 = .ok (.invokevirtual 81, 3) := by decide +kernel
theorem dX9_takeEnvelope_59 : decode cX9_takeEnvelope 59 = .ok (.imul, 1) := by decide +kernel
theorem dX9_takeEnvelope_60 : decode cX9_takeEnvelope 60 = .ok (.iadd, 1) := by decide +kernel
theorem dX9_takeEnvelope_61 : decode cX9_takeEnvelope 61 = .ok (.istore 6, 2) := by decide +kernel
theorem dX9_takeEnvelope_63 : decode cX9_takeEnvelope 63 = .ok (.iload 6, 2) := by decide +kernel
theorem dX9_takeEnvelope_65 : decode cX9_takeEnvelope 65 = .ok (.iload_n 3, 1) := by decide +kernel
theorem dX9_takeEnvelope_66 : decode cX9_takeEnvelope 66 = .ok (.imul, 1) := by decide +kernel
theorem dX9_takeEnvelope_67 : decode cX9_takeEnvelope 67 = .ok (.iload_n 2, 1) := by decide +kernel
theorem dX9_takeEnvelope_68 : decode cX9_takeEnvelope 68 = .ok (.iload 5, 2) := by decide +kernel
theorem dX9_takeEnvelope_70 : decode cX9_takeEnvelope 70 = .ok (.iload 4, 2) := by decide +kernel
theorem dX9_takeEnvelope_72 : decode cX9_takeEnvelope 72 = .ok (.isub, 1) := by decide +kernel
theorem dX9_takeEnvelope_73 : decode cX9_takeEnvelope 73 = .ok (.imul, 1) := by decide +kernel
theorem dX9_takeEnvelope_74 : decode cX9_takeEnvelope 74 = .ok (.if_icmp .lt 24, 3) := by decide +kernel
theorem dX9_takeEnvelope_77 : decode cX9_takeEnvelope 77 = .ok (.iload 6, 2) := by decide +kernel
theorem dX9_takeEnvelope_79 : decode cX9_takeEnvelope 79 = .ok (.istore_n 2, 1) := by decide +kernel
theorem dX9_takeEnvelope_80 : decode cX9_takeEnvelope 80 = .ok (.iload 5, 2) := by decide +kernel
theorem dX9_takeEnvelope_82 : decode cX9_takeEnvelope 82 = .ok (.iload 4, 2) := by decide +kernel
theorem dX9_takeEnvelope_84 : decode cX9_takeEnvelope 84 = .ok (.isub, 1) := by decide +kernel
theorem dX9_takeEnvelope_85 : decode cX9_takeEnvelope 85 = .ok (.istore_n 3, 1) := by decide +kernel
theorem dX9_takeEnvelope_86 : decode cX9_takeEnvelope 86 = .ok (.aload_n 0, 1) := by decide +kernel
theorem dX9_takeEnvelope_87 : decode cX9_takeEnvelope 87 = .ok (.iload 4, 2) := by decide +kernel
theorem dX9_takeEnvelope_89 : decode cX9_takeEnvelope 89 = .ok (.putfield 91, 3) := by decide +kernel
theorem dX9_takeEnvelope_92 : decode cX9_takeEnvelope 92 = .ok (.aload_n 0, 1) := by decide +kernel
theorem dX9_takeEnvelope_93 : decode cX9_takeEnvelope 93 = .ok (.iload 5, 2) := by decide +kernel
theorem dX9_takeEnvelope_95 : decode cX9_takeEnvelope 95 = .ok (.putfield 94, 3) := by decide +kernel
theorem dX9_takeEnvelope_98 : decode cX9_takeEnvelope 98 = .ok (.iinc 5 (-1), 3) := by decide +kernel
theorem dX9_takeEnvelope_101 : decode cX9_takeEnvelope 101 = .ok (.goto (-69), 3) := by decide +kernel
theorem dX9_takeEnvelope_104 : decode cX9_takeEnvelope 104 = .ok (.iinc 4 (-1), 3) := by decide +kernel
theorem dX9_takeEnvelope_107 : decode cX9_takeEnvelope 107 = .ok (.goto (-84), 3) := by decide +kernel
theorem dX9_takeEnvelope_110 : decode cX9_takeEnvelope 110 = .ok (.aload_n 0, 1) := by decide +kernel
theorem dX9_takeEnvelope_111 : decode cX9_takeEnvelope 111 = .ok (.iload_n 2, 1) := by decide +kernel
theorem dX9_takeEnvelope_112 : decode cX9_takeEnvelope 112 = .ok (.iload_n 3, 1) := by decide +kernel
theorem dX9_takeEnvelope_113 : decode cX9_takeEnvelope 113 = .ok (.invokevirtual 88, 3) := by decide +kernel
theorem dX9_takeEnvelope_116 : decode cX9_takeEnvelope 116 = .ok (.return_, 1) := by decide +kernel
theorem dX9_weightOf_0 : decode cX9_weightOf 0 = .ok (.aload_n 0, 1) := by decide +kernel
theorem dX9_weightOf_1 : decode cX9_weightOf 1 = .ok (.getfield 91, 3) := by decide +kernel
theorem dX9_weightOf_4 : decode cX9_weightOf 4 = .ok (.aload_n 0, 1) := by decide +kernel
theorem dX9_weightOf_5 : decode cX9_weightOf 5 = .ok (.getfield 94, 3) := by decide +kernel
theorem dX9_weightOf_8 : decode cX9_weightOf 8 = .ok (.if_icmp .ne 13, 3) := by decide +kernel
theorem dX9_weightOf_11 : decode cX9_weightOf 11 = .ok (.iload_n 2, 1) := by decide +kernel
theorem dX9_weightOf_12 : decode cX9_weightOf 12 = .ok (.ifCond .eq 7, 3) := by decide +kernel
theorem dX9_weightOf_15 : decode cX9_weightOf 15 = .ok (.iconst 1, 1) := by decide +kernel
theorem dX9_weightOf_16 : decode cX9_weightOf 16 = .ok (.goto 4, 3) := by decide +kernel
theorem dX9_weightOf_19 : decode cX9_weightOf 19 = .ok (.iconst 0, 1) := by decide +kernel
theorem dX9_weightOf_20 : decode cX9_weightOf 20 = .ok (.ireturn, 1) := by decide +kernel
theorem dX9_weightOf_21 : decode cX9_weightOf 21 = .ok (.aload_n 0, 1) := by decide +kernel
theorem dX9_weightOf_22 : decode cX9_weightOf 22 = .ok (.getfield 94, 3) := by decide +kernel
theorem dX9_weightOf_25 : decode cX9_weightOf 25 = .ok (.iload_n 1, 1) := by decide +kernel
theorem dX9_weightOf_26 : decode cX9_weightOf 26 = .ok (.isub, 1) := by decide +kernel
theorem dX9_weightOf_27 : decode cX9_weightOf 27 = .ok (.iload_n 1, 1) := by decide +kernel
theorem dX9_weightOf_28 : decode cX9_weightOf 28 = .ok (.aload_n 0, 1) := by decide +kernel
theorem dX9_weightOf_29 : decode cX9_weightOf 29 = .ok (.getfield 91, 3) := by decide +kernel
theorem dX9_weightOf_32 : decode cX9_weightOf 32 = .ok (.isub, 1) := by decide +kernel
theorem dX9_weightOf_33 : decode cX9_weightOf 33 = .ok (.invokestatic 43, 3) := by decide +kernel
theorem dX9_weightOf_36 : decode cX9_weightOf 36 = .ok (.istore_n 3, 1) := by decide +kernel
theorem dX9_weightOf_37 : decode cX9_weightOf 37 = .ok (.iload_n 2, 1) := by decide +kernel
theorem dX9_weightOf_38 : decode cX9_weightOf 38 = .ok (.ifCond .eq 12, 3) := by decide +kernel
theorem dX9_weightOf_41 : decode cX9_weightOf 41 = .ok (.aload_n 0, 1) := by decide +kernel
theorem dX9_weightOf_42 : decode cX9_weightOf 42 = .ok (.getfield 94, 3) := by decide +kernel
theorem dX9_weightOf_45 : decode cX9_weightOf 45 = .ok (.iload_n 1, 1) := by decide +kernel
theorem dX9_weightOf_46 : decode cX9_weightOf 46 = .ok (.isub, 1) := by decide +kernel
theorem dX9_weightOf_47 : decode cX9_weightOf 47 = .ok (.goto 9, 3) := by decide +kernel
theorem dX9_weightOf_50 : decode cX9_weightOf 50 = .ok (.iload_n 1, 1) := by decide +kernel
theorem dX9_weightOf_51 : decode cX9_weightOf 51 = .ok (.aload_n 0, 1) := by decide +kernel
theorem dX9_weightOf_52 : decode cX9_weightOf 52 = .ok (.getfield 91, 3) := by decide +kernel
theorem dX9_weightOf_55 : decode cX9_weightOf 55 = .ok (.isub, 1) := by decide +kernel
theorem dX9_weightOf_56 : decode cX9_weightOf 56 = .ok (.iload_n 3, 1) := by decide +kernel
theorem dX9_weightOf_57 : decode cX9_weightOf 57 = .ok (.idiv, 1) := by decide +kernel
theorem dX9_weightOf_58 : decode cX9_weightOf 58 = .ok (.ireturn, 1) := by decide +kernel
theorem dX9_priors_0 : decode cX9_priors 0 = .ok (.aload_n 0, 1) := by decide +kernel
theorem dX9_priors_1 : decode cX9_priors 1 = .ok (.iload_n 1, 1) := by decide +kernel
theorem dX9_priors_2 : decode cX9_priors 2 = .ok (.invokevirtual 31, 3) := by decide +kernel
theorem dX9_priors_5 : decode cX9_priors 5 = .ok (.return_, 1) := by decide +kernel
theorem dX9_prior_0 : decode cX9_prior 0 = .ok (.iload_n 1, 1) := by decide +kernel
theorem dX9_prior_1 : decode cX9_prior 1 = .ok (.iconst 1, 1) := by decide +kernel
theorem dX9_prior_2 : decode cX9_prior 2 = .ok (.bipush 99, 2) := by decide +kernel
theorem dX9_prior_4 : decode cX9_prior 4 = .ok (.invokestatic 53, 3) := by decide +kernel
theorem dX9_prior_7 : decode cX9_prior 7 = .ok (.ifCond .ne 6, 3) := by decide +kernel
theorem dX9_prior_10 : decode cX9_prior 10 = .ok (.bipush (-2), 2) := by decide +kernel
theorem dX9_prior_12 : decode cX9_prior 12 = .ok (.ireturn, 1) := by decide +kernel
theorem dX9_prior_13 : decode cX9_prior 13 = .ok (.aload_n 0, 1) := by decide +kernel
theorem dX9_prior_14 : decode cX9_prior 14 = .ok (.invokevirtual 97, 3) := by decide +kernel
theorem dX9_prior_17 : decode cX9_prior 17 = .ok (.aload_n 0, 1) := by decide +kernel
theorem dX9_prior_18 : decode cX9_prior 18 = .ok (.getfield 7, 3) := by decide +kernel
theorem dX9_prior_21 : decode cX9_prior 21 = .ok (.iconst 0, 1) := by decide +kernel
theorem dX9_prior_22 : decode cX9_prior 22 = .ok (.iaload, 1) := by decide +kernel
theorem dX9_prior_23 : decode cX9_prior 23 = .ok (.istore_n 2, 1) := by decide +kernel
theorem dX9_prior_24 : decode cX9_prior 24 = .ok (.aload_n 0, 1) := by decide +kernel
theorem dX9_prior_25 : decode cX9_prior 25 = .ok (.iload_n 1, 1) := by decide +kernel
theorem dX9_prior_26 : decode cX9_prior 26 = .ok (.invokevirtual 100, 3) := by decide +kernel
theorem dX9_prior_29 : decode cX9_prior 29 = .ok (.iload_n 2, 1) := by decide +kernel
theorem dX9_prior_30 : decode cX9_prior 30 = .ok (.ireturn, 1) := by decide +kernel
theorem dX9_whyNotHired_0 : decode cX9_whyNotHired 0 = .ok (.iload_n 1, 1) := by decide +kernel
theorem dX9_whyNotHired_1 : decode cX9_whyNotHired 1 = .ok (.iconst 1, 1) := by decide +kernel
theorem dX9_whyNotHired_2 : decode cX9_whyNotHired 2 = .ok (.bipush 99, 2) := by decide +kernel
theorem dX9_whyNotHired_4 : decode cX9_whyNotHired 4 = .ok (.invokestatic 53, 3) := by decide +kernel
theorem dX9_whyNotHired_7 : decode cX9_whyNotHired 7 = .ok (.ifCond .eq 35, 3) := by decide +kernel
theorem dX9_whyNotHired_10 : decode cX9_whyNotHired 10 = .ok (.iload_n 2, 1) := by decide +kernel
theorem dX9_whyNotHired_11 : decode cX9_whyNotHired 11 = .ok (.iconst 1, 1) := by decide +kernel
theorem dX9_whyNotHired_12 : decode cX9_whyNotHired 12 = .ok (.bipush 99, 2) := by decide +kernel
theorem dX9_whyNotHired_14 : decode cX9_whyNotHired 14 = .ok (.invokestatic 53, 3) := by decide +kernel
theorem dX9_whyNotHired_17 : decode cX9_whyNotHired 17 = .ok (.ifCond .eq 25, 3) := by decide +kernel
theorem dX9_whyNotHired_20 : decode cX9_whyNotHired 20 = .ok (.iload_n 3, 1) := by decide +kernel
theorem dX9_whyNotHired_21 : decode cX9_whyNotHired 21 = .ok (.iconst 0, 1) := by decide +kernel
theorem dX9_whyNotHired_22 : decode cX9_whyNotHired 22 = .ok (.bipush 99, 2) := by decide +kernel
theorem dX9_whyNotHired_24 : decode cX9_whyNotHired 24 = .ok (.invokestatic 53, 3) := by decide +kernel
theorem dX9_whyNotHired_27 : decode cX9_whyNotHired 27 = .ok (.ifCond .eq 15, 3) := by decide +kernel
theorem dX9_whyNotHired_30 : decode cX9_whyNotHired 30 = .ok (.iload 4, 2) := by decide +kernel
theorem dX9_whyNotHired_32 : decode cX9_whyNotHired 32 = .ok (.bipush (-99), 2) := by decide +kernel
theorem dX9_whyNotHired_34 : decode cX9_whyNotHired 34 = .ok (.bipush 99, 2) := by decide +kernel
theorem dX9_whyNotHired_36 : decode cX9_whyNotHired 36 = .ok (.invokestatic 53, 3) := by decide +kernel
theorem dX9_whyNotHired_39 : decode cX9_whyNotHired 39 = .ok (.ifCond .ne 6, 3) := by decide +kernel
theorem dX9_whyNotHired_42 : decode cX9_whyNotHired 42 = .ok (.bipush (-2), 2) := by decide +kernel
theorem dX9_whyNotHired_44 : decode cX9_whyNotHired 44 = .ok (.ireturn, 1) := by decide +kernel
theorem dX9_whyNotHired_45 : decode cX9_whyNotHired 45 = .ok (.aload_n 0, 1) := by decide +kernel
theorem dX9_whyNotHired_46 : decode cX9_whyNotHired 46 = .ok (.getfield 7, 3) := by decide +kernel
theorem dX9_whyNotHired_49 : decode cX9_whyNotHired 49 = .ok (.iconst 1, 1) := by decide +kernel
theorem dX9_whyNotHired_50 : decode cX9_whyNotHired 50 = .ok (.iaload, 1) := by decide +kernel
theorem dX9_whyNotHired_51 : decode cX9_whyNotHired 51 = .ok (.iconst 5, 1) := by decide +kernel
theorem dX9_whyNotHired_52 : decode cX9_whyNotHired 52 = .ok (.if_icmp .ne 8, 3) := by decide +kernel
theorem dX9_whyNotHired_55 : decode cX9_whyNotHired 55 = .ok (.bipush (-4), 2) := by decide +kernel
theorem dX9_whyNotHired_57 : decode cX9_whyNotHired 57 = .ok (.goto 4, 3) := by decide +kernel
theorem dX9_whyNotHired_60 : decode cX9_whyNotHired 60 = .ok (.iconst 0, 1) := by decide +kernel
theorem dX9_whyNotHired_61 : decode cX9_whyNotHired 61 = .ok (.ireturn, 1) := by decide +kernel
theorem dX9_hires_0 : decode cX9_hires 0 = .ok (.iconst 3, 1) := by decide +kernel
theorem dX9_hires_1 : decode cX9_hires 1 = .ok (.iconst 4, 1) := by decide +kernel
theorem dX9_hires_2 : decode cX9_hires 2 = .ok (.aload_n 0, 1) := by decide +kernel
theorem dX9_hires_3 : decode cX9_hires 3 = .ok (.getfield 7, 3) := by decide +kernel
theorem dX9_hires_6 : decode cX9_hires 6 = .ok (.iconst 1, 1) := by decide +kernel
theorem dX9_hires_7 : decode cX9_hires 7 = .ok (.iaload, 1) := by decide +kernel
theorem dX9_hires_8 : decode cX9_hires 8 = .ok (.imul, 1) := by decide +kernel
theorem dX9_hires_9 : decode cX9_hires 9 = .ok (.iadd, 1) := by decide +kernel
theorem dX9_hires_10 : decode cX9_hires 10 = .ok (.istore 5, 2) := by decide +kernel
theorem dX9_hires_12 : decode cX9_hires 12 = .ok (.aload_n 0, 1) := by decide +kernel
theorem dX9_hires_13 : decode cX9_hires 13 = .ok (.getfield 7, 3) := by decide +kernel
theorem dX9_hires_16 : decode cX9_hires 16 = .ok (.iload 5, 2) := by decide +kernel
theorem dX9_hires_18 : decode cX9_hires 18 = .ok (.iconst 0, 1) := by decide +kernel
theorem dX9_hires_19 : decode cX9_hires 19 = .ok (.iadd, 1) := by decide +kernel
theorem dX9_hires_20 : decode cX9_hires 20 = .ok (.iload_n 1, 1) := by decide +kernel
theorem dX9_hires_21 : decode cX9_hires 21 = .ok (.iastore, 1) := by decide +kernel
theorem dX9_hires_22 : decode cX9_hires 22 = .ok (.aload_n 0, 1) := by decide +kernel
theorem dX9_hires_23 : decode cX9_hires 23 = .ok (.getfield 7, 3) := by decide +kernel
theorem dX9_hires_26 : decode cX9_hires 26 = .ok (.iload 5, 2) := by decide +kernel
theorem dX9_hires_28 : decode cX9_hires 28 = .ok (.iconst 1, 1) := by decide +kernel
theorem dX9_hires_29 : decode cX9_hires 29 = .ok (.iadd, 1) := by decide +kernel
theorem dX9_hires_30 : decode cX9_hires 30 = .ok (.iload_n 2, 1) := by decide +kernel
theorem dX9_hires_31 : decode cX9_hires 31 = .ok (.iastore, 1) := by decide +kernel
theorem dX9_hires_32 : decode cX9_hires 32 = .ok (.aload_n 0, 1) := by decide +kernel
theorem dX9_hires_33 : decode cX9_hires 33 = .ok (.getfield 7, 3) := by decide +kernel
theorem dX9_hires_36 : decode cX9_hires 36 = .ok (.iload 5, 2) := by decide +kernel
theorem dX9_hires_38 : decode cX9_hires 38 = .ok (.iconst 2, 1) := by decide +kernel
theorem dX9_hires_39 : decode cX9_hires 39 = .ok (.iadd, 1) := by decide +kernel
theorem dX9_hires_40 : decode cX9_hires 40 = .ok (.iload_n 3, 1) := by decide +kernel
theorem dX9_hires_41 : decode cX9_hires 41 = .ok (.iastore, 1) := by decide +kernel
theorem dX9_hires_42 : decode cX9_hires 42 = .ok (.aload_n 0, 1) := by decide +kernel
theorem dX9_hires_43 : decode cX9_hires 43 = .ok (.getfield 7, 3) := by decide +kernel
theorem dX9_hires_46 : decode cX9_hires 46 = .ok (.iload 5, 2) := by decide +kernel
theorem dX9_hires_48 : decode cX9_hires 48 = .ok (.iconst 3, 1) := by decide +kernel
theorem dX9_hires_49 : decode cX9_hires 49 = .ok (.iadd, 1) := by decide +kernel
theorem dX9_hires_50 : decode cX9_hires 50 = .ok (.iload 4, 2) := by decide +kernel
theorem dX9_hires_52 : decode cX9_hires 52 = .ok (.iastore, 1) := by decide +kernel
theorem dX9_hires_53 : decode cX9_hires 53 = .ok (.aload_n 0, 1) := by decide +kernel
theorem dX9_hires_54 : decode cX9_hires 54 = .ok (.getfield 7, 3) := by decide +kernel
theorem dX9_hires_57 : decode cX9_hires 57 = .ok (.iconst 1, 1) := by decide +kernel
theorem dX9_hires_58 : decode cX9_hires 58 = .ok (.dup2, 1) := by decide +kernel
theorem dX9_hires_59 : decode cX9_hires 59 = .ok (.iaload, 1) := by decide +kernel
theorem dX9_hires_60 : decode cX9_hires 60 = .ok (.iconst 1, 1) := by decide +kernel
theorem dX9_hires_61 : decode cX9_hires 61 = .ok (.iadd, 1) := by decide +kernel
theorem dX9_hires_62 : decode cX9_hires 62 = .ok (.iastore, 1) := by decide +kernel
theorem dX9_hires_63 : decode cX9_hires 63 = .ok (.aload_n 0, 1) := by decide +kernel
theorem dX9_hires_64 : decode cX9_hires 64 = .ok (.getfield 7, 3) := by decide +kernel
theorem dX9_hires_67 : decode cX9_hires 67 = .ok (.iconst 1, 1) := by decide +kernel
theorem dX9_hires_68 : decode cX9_hires 68 = .ok (.iaload, 1) := by decide +kernel
theorem dX9_hires_69 : decode cX9_hires 69 = .ok (.iconst 1, 1) := by decide +kernel
theorem dX9_hires_70 : decode cX9_hires 70 = .ok (.isub, 1) := by decide +kernel
theorem dX9_hires_71 : decode cX9_hires 71 = .ok (.ireturn, 1) := by decide +kernel
theorem dX9_hire_0 : decode cX9_hire 0 = .ok (.aload_n 0, 1) := by decide +kernel
theorem dX9_hire_1 : decode cX9_hire 1 = .ok (.iload_n 1, 1) := by decide +kernel
theorem dX9_hire_2 : decode cX9_hire 2 = .ok (.iload_n 2, 1) := by decide +kernel
theorem dX9_hire_3 : decode cX9_hire 3 = .ok (.iload_n 3, 1) := by decide +kernel
theorem dX9_hire_4 : decode cX9_hire 4 = .ok (.iload 4, 2) := by decide +kernel
theorem dX9_hire_6 : decode cX9_hire 6 = .ok (.invokevirtual 103, 3) := by decide +kernel
theorem dX9_hire_9 : decode cX9_hire 9 = .ok (.istore 5, 2) := by decide +kernel
theorem dX9_hire_11 : decode cX9_hire 11 = .ok (.iload 5, 2) := by decide +kernel
theorem dX9_hire_13 : decode cX9_hire 13 = .ok (.ifCond .ge 6, 3) := by decide +kernel
theorem dX9_hire_16 : decode cX9_hire 16 = .ok (.iload 5, 2) := by decide +kernel
theorem dX9_hire_18 : decode cX9_hire 18 = .ok (.ireturn, 1) := by decide +kernel
theorem dX9_hire_19 : decode cX9_hire 19 = .ok (.aload_n 0, 1) := by decide +kernel
theorem dX9_hire_20 : decode cX9_hire 20 = .ok (.invokevirtual 97, 3) := by decide +kernel
theorem dX9_hire_23 : decode cX9_hire 23 = .ok (.aload_n 0, 1) := by decide +kernel
theorem dX9_hire_24 : decode cX9_hire 24 = .ok (.iload_n 1, 1) := by decide +kernel
theorem dX9_hire_25 : decode cX9_hire 25 = .ok (.iload_n 2, 1) := by decide +kernel
theorem dX9_hire_26 : decode cX9_hire 26 = .ok (.iload_n 3, 1) := by decide +kernel
theorem dX9_hire_27 : decode cX9_hire 27 = .ok (.iload 4, 2) := by decide +kernel
theorem dX9_hire_29 : decode cX9_hire 29 = .ok (.invokevirtual 107, 3) := by decide +kernel
theorem dX9_hire_32 : decode cX9_hire 32 = .ok (.ireturn, 1) := by decide +kernel
theorem dX9_dismisses_0 : decode cX9_dismisses 0 = .ok (.iconst 3, 1) := by decide +kernel
theorem dX9_dismisses_1 : decode cX9_dismisses 1 = .ok (.iconst 4, 1) := by decide +kernel
theorem dX9_dismisses_2 : decode cX9_dismisses 2 = .ok (.iload_n 1, 1) := by decide +kernel
theorem dX9_dismisses_3 : decode cX9_dismisses 3 = .ok (.imul, 1) := by decide +kernel
theorem dX9_dismisses_4 : decode cX9_dismisses 4 = .ok (.iadd, 1) := by decide +kernel
theorem dX9_dismisses_5 : decode cX9_dismisses 5 = .ok (.istore_n 2, 1) := by decide +kernel
theorem dX9_dismisses_6 : decode cX9_dismisses 6 = .ok (.iload_n 2, 1) := by decide +kernel
theorem dX9_dismisses_7 : decode cX9_dismisses 7 = .ok (.iconst 3, 1) := by decide +kernel
theorem dX9_dismisses_8 : decode cX9_dismisses 8 = .ok (.iconst 4, 1) := by decide +kernel
theorem dX9_dismisses_9 : decode cX9_dismisses 9 = .ok (.aload_n 0, 1) := by decide +kernel
theorem dX9_dismisses_10 : decode cX9_dismisses 10 = .ok (.getfield 7, 3) := by decide +kernel
theorem dX9_dismisses_13 : decode cX9_dismisses 13 = .ok (.iconst 1, 1) := by decide +kernel
theorem dX9_dismisses_14 : decode cX9_dismisses 14 = .ok (.iaload, 1) := by decide +kernel
theorem dX9_dismisses_15 : decode cX9_dismisses 15 = .ok (.iconst 1, 1) := by decide +kernel
theorem dX9_dismisses_16 : decode cX9_dismisses 16 = .ok (.isub, 1) := by decide +kernel
theorem dX9_dismisses_17 : decode cX9_dismisses 17 = .ok (.imul, 1) := by decide +kernel
theorem dX9_dismisses_18 : decode cX9_dismisses 18 = .ok (.iadd, 1) := by decide +kernel
theorem dX9_dismisses_19 : decode cX9_dismisses 19 = .ok (.if_icmp .ge 23, 3) := by decide +kernel
theorem dX9_dismisses_22 : decode cX9_dismisses 22 = .ok (.aload_n 0, 1) := by decide +kernel
theorem dX9_dismisses_23 : decode cX9_dismisses 23 = .ok (.getfield 7, 3) := by decide +kernel
theorem dX9_dismisses_26 : decode cX9_dismisses 26 = .ok (.iload_n 2, 1) := by decide +kernel
theorem dX9_dismisses_27 : decode cX9_dismisses 27 = .ok (.aload_n 0, 1) := by decide +kernel
theorem dX9_dismisses_28 : decode cX9_dismisses 28 = .ok (.getfield 7, 3) := by decide +kernel
theorem dX9_dismisses_31 : decode cX9_dismisses 31 = .ok (.iload_n 2, 1) := by decide +kernel
theorem dX9_dismisses_32 : decode cX9_dismisses 32 = .ok (.iconst 4, 1) := by decide +kernel
theorem dX9_dismisses_33 : decode cX9_dismisses 33 = .ok (.iadd, 1) := by decide +kernel
theorem dX9_dismisses_34 : decode cX9_dismisses 34 = .ok (.iaload, 1) := by decide +kernel
theorem dX9_dismisses_35 : decode cX9_dismisses 35 = .ok (.iastore, 1) := by decide +kernel
theorem dX9_dismisses_36 : decode cX9_dismisses 36 = .ok (.iinc 2 1, 3) := by decide +kernel
theorem dX9_dismisses_39 : decode cX9_dismisses 39 = .ok (.goto (-33), 3) := by decide +kernel
theorem dX9_dismisses_42 : decode cX9_dismisses 42 = .ok (.aload_n 0, 1) := by decide +kernel
theorem dX9_dismisses_43 : decode cX9_dismisses 43 = .ok (.getfield 7, 3) := by decide +kernel
theorem dX9_dismisses_46 : decode cX9_dismisses 46 = .ok (.iconst 1, 1) := by decide +kernel
theorem dX9_dismisses_47 : decode cX9_dismisses 47 = .ok (.dup2, 1) := by decide +kernel
theorem dX9_dismisses_48 : decode cX9_dismisses 48 = .ok (.iaload, 1) := by decide +kernel
theorem dX9_dismisses_49 : decode cX9_dismisses 49 = .ok (.iconst 1, 1) := by decide +kernel
theorem dX9_dismisses_50 : decode cX9_dismisses 50 = .ok (.isub, 1) := by decide +kernel
theorem dX9_dismisses_51 : decode cX9_dismisses 51 = .ok (.iastore, 1) := by decide +kernel
theorem dX9_dismisses_52 : decode cX9_dismisses 52 = .ok (.aload_n 0, 1) := by decide +kernel
theorem dX9_dismisses_53 : decode cX9_dismisses 53 = .ok (.getfield 7, 3) := by decide +kernel
theorem dX9_dismisses_56 : decode cX9_dismisses 56 = .ok (.iconst 1, 1) := by decide +kernel
theorem dX9_dismisses_57 : decode cX9_dismisses 57 = .ok (.iaload, 1) := by decide +kernel
theorem dX9_dismisses_58 : decode cX9_dismisses 58 = .ok (.ireturn, 1) := by decide +kernel
theorem dX9_dismiss_0 : decode cX9_dismiss 0 = .ok (.aload_n 0, 1) := by decide +kernel
theorem dX9_dismiss_1 : decode cX9_dismiss 1 = .ok (.iload_n 1, 1) := by decide +kernel
theorem dX9_dismiss_2 : decode cX9_dismiss 2 = .ok (.invokevirtual 110, 3) := by decide +kernel
theorem dX9_dismiss_5 : decode cX9_dismiss 5 = .ok (.ifCond .ne 5, 3) := by decide +kernel
theorem dX9_dismiss_8 : decode cX9_dismiss 8 = .ok (.iconst (-1), 1) := by decide +kernel
theorem dX9_dismiss_9 : decode cX9_dismiss 9 = .ok (.ireturn, 1) := by decide +kernel
theorem dX9_dismiss_10 : decode cX9_dismiss 10 = .ok (.aload_n 0, 1) := by decide +kernel
theorem dX9_dismiss_11 : decode cX9_dismiss 11 = .ok (.invokevirtual 97, 3) := by decide +kernel
theorem dX9_dismiss_14 : decode cX9_dismiss 14 = .ok (.aload_n 0, 1) := by decide +kernel
theorem dX9_dismiss_15 : decode cX9_dismiss 15 = .ok (.iload_n 1, 1) := by decide +kernel
theorem dX9_dismiss_16 : decode cX9_dismiss 16 = .ok (.invokevirtual 114, 3) := by decide +kernel
theorem dX9_dismiss_19 : decode cX9_dismiss 19 = .ok (.ireturn, 1) := by decide +kernel
theorem dX9_refine_0 : decode cX9_refine 0 = .ok (.aload_n 0, 1) := by decide +kernel
theorem dX9_refine_1 : decode cX9_refine 1 = .ok (.iload_n 1, 1) := by decide +kernel
theorem dX9_refine_2 : decode cX9_refine 2 = .ok (.invokevirtual 117, 3) := by decide +kernel
theorem dX9_refine_5 : decode cX9_refine 5 = .ok (.ifCond .ne 5, 3) := by decide +kernel
theorem dX9_refine_8 : decode cX9_refine 8 = .ok (.iconst (-1), 1) := by decide +kernel
theorem dX9_refine_9 : decode cX9_refine 9 = .ok (.ireturn, 1) := by decide +kernel
theorem dX9_refine_10 : decode cX9_refine 10 = .ok (.aload_n 0, 1) := by decide +kernel
theorem dX9_refine_11 : decode cX9_refine 11 = .ok (.getfield 7, 3) := by decide +kernel
theorem dX9_refine_14 : decode cX9_refine 14 = .ok (.bipush 29, 2) := by decide +kernel
theorem dX9_refine_16 : decode cX9_refine 16 = .ok (.iload_n 1, 1) := by decide +kernel
theorem dX9_refine_17 : decode cX9_refine 17 = .ok (.iadd, 1) := by decide +kernel
theorem dX9_refine_18 : decode cX9_refine 18 = .ok (.iaload, 1) := by decide +kernel
theorem dX9_refine_19 : decode cX9_refine 19 = .ok (.istore 4, 2) := by decide +kernel
theorem dX9_refine_21 : decode cX9_refine 21 = .ok (.iload_n 2, 1) := by decide +kernel
theorem dX9_refine_22 : decode cX9_refine 22 = .ok (.iconst 0, 1) := by decide +kernel
theorem dX9_refine_23 : decode cX9_refine 23 = .ok (.iload 4, 2) := by decide +kernel
theorem dX9_refine_25 : decode cX9_refine 25 = .ok (.invokestatic 53, 3) := by decide +kernel
theorem dX9_refine_28 : decode cX9_refine 28 = .ok (.ifCond .eq 14, 3) := by decide +kernel
theorem dX9_refine_31 : decode cX9_refine 31 = .ok (.iload_n 3, 1) := by decide +kernel
theorem dX9_refine_32 : decode cX9_refine 32 = .ok (.iload 4, 2) := by decide +kernel
theorem dX9_refine_34 : decode cX9_refine 34 = .ok (.bipush 100, 2) := by decide +kernel
theorem dX9_refine_36 : decode cX9_refine 36 = .ok (.invokestatic 53, 3) := by decide +kernel
theorem dX9_refine_39 : decode cX9_refine 39 = .ok (.ifCond .ne 6, 3) := by decide +kernel
theorem dX9_refine_42 : decode cX9_refine 42 = .ok (.bipush (-2), 2) := by decide +kernel
theorem dX9_refine_44 : decode cX9_refine 44 = .ok (.ireturn, 1) := by decide +kernel
theorem dX9_refine_45 : decode cX9_refine 45 = .ok (.iload_n 3, 1) := by decide +kernel
theorem dX9_refine_46 : decode cX9_refine 46 = .ok (.iload_n 2, 1) := by decide +kernel
theorem dX9_refine_47 : decode cX9_refine 47 = .ok (.if_icmp .ne 7, 3) := by decide +kernel
theorem dX9_refine_50 : decode cX9_refine 50 = .ok (.iconst 1, 1) := by decide +kernel
theorem dX9_refine_51 : decode cX9_refine 51 = .ok (.goto 6, 3) := by decide +kernel
theorem dX9_refine_54 : decode cX9_refine 54 = .ok (.iload_n 3, 1) := by decide +kernel
theorem dX9_refine_55 : decode cX9_refine 55 = .ok (.iload_n 2, 1) := by decide +kernel
theorem dX9_refine_56 : decode cX9_refine 56 = .ok (.isub, 1) := by decide +kernel
theorem dX9_refine_57 : decode cX9_refine 57 = .ok (.istore 5, 2) := by decide +kernel
theorem dX9_refine_59 : decode cX9_refine 59 = .ok (.aload_n 0, 1) := by decide +kernel
theorem dX9_refine_60 : decode cX9_refine 60 = .ok (.iconst 0, 1) := by decide +kernel
theorem dX9_refine_61 : decode cX9_refine 61 = .ok (.putfield 72, 3) := by decide +kernel
theorem dX9_refine_64 : decode cX9_refine 64 = .ok (.iconst 0, 1) := by decide +kernel
theorem dX9_refine_65 : decode cX9_refine 65 = .ok (.istore 6, 2) := by decide +kernel
theorem dX9_refine_67 : decode cX9_refine 67 = .ok (.iload 6, 2) := by decide +kernel
theorem dX9_refine_69 : decode cX9_refine 69 = .ok (.aload_n 0, 1) := by decide +kernel
theorem dX9_refine_70 : decode cX9_refine 70 = .ok (.getfield 7, 3) := by decide +kernel
theorem dX9_refine_73 : decode cX9_refine 73 = .ok (.iconst 2, 1) := by decide +kernel
theorem dX9_refine_74 : decode cX9_refine 74 = .ok (.iaload, 1) := by decide +kernel
theorem dX9_refine_75 : decode cX9_refine 75 = .ok (.if_icmp .ge 89, 3) := by decide +kernel
theorem dX9_refine_78 : decode cX9_refine 78 = .ok (.aload_n 0, 1) := by decide +kernel
theorem dX9_refine_79 : decode cX9_refine 79 = .ok (.getfield 7, 3) := by decide +kernel
theorem dX9_refine_82 : decode cX9_refine 82 = .ok (.bipush 23, 2) := by decide +kernel
theorem dX9_refine_84 : decode cX9_refine 84 = .ok (.iload 6, 2) := by decide +kernel
theorem dX9_refine_86 : decode cX9_refine 86 = .ok (.iadd, 1) := by decide +kernel
theorem dX9_refine_87 : decode cX9_refine 87 = .ok (.iaload, 1) := by decide +kernel
theorem dX9_refine_88 : decode cX9_refine 88 = .ok (.istore 7, 2) := by decide +kernel
theorem dX9_refine_90 : decode cX9_refine 90 = .ok (.iload 6, 2) := by decide +kernel
theorem dX9_refine_92 : decode cX9_refine 92 = .ok (.iload_n 1, 1) := by decide +kernel
theorem dX9_refine_93 : decode cX9_refine 93 = .ok (.if_icmp .eq 25, 3) := by decide +kernel
theorem dX9_refine_96 : decode cX9_refine 96 = .ok (.aload_n 0, 1) := by decide +kernel
theorem dX9_refine_97 : decode cX9_refine 97 = .ok (.iload 7, 2) := by decide +kernel
theorem dX9_refine_99 : decode cX9_refine 99 = .ok (.iload 5, 2) := by decide +kernel
theorem dX9_refine_101 : decode cX9_refine 101 = .ok (.imul, 1) := by decide +kernel
theorem dX9_refine_102 : decode cX9_refine 102 = .ok (.aload_n 0, 1) := by decide +kernel
theorem dX9_refine_103 : decode cX9_refine 103 = .ok (.getfield 7, 3) := by decide +kernel
theorem dX9_refine_106 : decode cX9_refine 106 = .ok (.bipush 29, 2) := by decide +kernel
theorem dX9_refine_108 : decode cX9_refine 108 = .ok (.iload 6, 2) := by decide +kernel
theorem dX9_refine_110 : decode cX9_refine 110 = .ok (.iadd, 1) := by decide +kernel
theorem dX9_refine_111 : decode cX9_refine 111 = .ok (.iaload, 1) := by decide +kernel
theorem dX9_refine_112 : decode cX9_refine 112 = .ok (.invokevirtual 75, 3) := by decide +kernel
theorem dX9_refine_115 : decode cX9_refine 115 = .ok (.goto 43, 3) := by decide +kernel
theorem dX9_refine_118 : decode cX9_refine 118 = .ok (.iload_n 3, 1) := by decide +kernel
theorem dX9_refine_119 : decode cX9_refine 119 = .ok (.iload_n 2, 1) := by decide +kernel
theorem dX9_refine_120 : decode cX9_refine 120 = .ok (.if_icmp .ne 14, 3) := by decide +kernel
theorem dX9_refine_123 : decode cX9_refine 123 = .ok (.aload_n 0, 1) := by decide +kernel
theorem dX9_refine_124 : decode cX9_refine 124 = .ok (.iload 7, 2) := by decide +kernel
theorem dX9_refine_126 : decode cX9_refine 126 = .ok (.iload 4, 2) := by decide +kernel
theorem dX9_refine_128 : decode cX9_refine 128 = .ok (.invokevirtual 75, 3) := by decide +kernel
theorem dX9_refine_131 : decode cX9_refine 131 = .ok (.goto 27, 3) := by decide +kernel
theorem dX9_refine_134 : decode cX9_refine 134 = .ok (.aload_n 0, 1) := by decide +kernel
theorem dX9_refine_135 : decode cX9_refine 135 = .ok (.iload 7, 2) := by decide +kernel
theorem dX9_refine_137 : decode cX9_refine 137 = .ok (.iload_n 3, 1) := by decide +kernel
theorem dX9_refine_138 : decode cX9_refine 138 = .ok (.iload 4, 2) := by decide +kernel
theorem dX9_refine_140 : decode cX9_refine 140 = .ok (.isub, 1) := by decide +kernel
theorem dX9_refine_141 : decode cX9_refine 141 = .ok (.imul, 1) := by decide +kernel
theorem dX9_refine_142 : decode cX9_refine 142 = .ok (.iload_n 2, 1) := by decide +kernel
theorem dX9_refine_143 : decode cX9_refine 143 = .ok (.invokevirtual 75, 3) := by decide +kernel
theorem dX9_refine_146 : decode cX9_refine 146 = .ok (.aload_n 0, 1) := by decide +kernel
theorem dX9_refine_147 : decode cX9_refine 147 = .ok (.iload 7, 2) := by decide +kernel
theorem dX9_refine_149 : decode cX9_refine 149 = .ok (.iload 4, 2) := by decide +kernel
theorem dX9_refine_151 : decode cX9_refine 151 = .ok (.iload_n 2, 1) := by decide +kernel
theorem dX9_refine_152 : decode cX9_refine 152 = .ok (.isub, 1) := by decide +kernel
theorem dX9_refine_153 : decode cX9_refine 153 = .ok (.imul, 1) := by decide +kernel
theorem dX9_refine_154 : decode cX9_refine 154 = .ok (.iload_n 3, 1) := by decide +kernel
theorem dX9_refine_155 : decode cX9_refine 155 = .ok (.invokevirtual 75, 3) := by decide +kernel
theorem dX9_refine_158 : decode cX9_refine 158 = .ok (.iinc 6 1, 3) := by decide +kernel
theorem dX9_refine_161 : decode cX9_refine 161 = .ok (.goto (-94), 3) := by decide +kernel
theorem dX9_refine_164 : decode cX9_refine 164 = .ok (.aload_n 0, 1) := by decide +kernel
theorem dX9_refine_165 : decode cX9_refine 165 = .ok (.invokevirtual 120, 3) := by decide +kernel
theorem dX9_refine_168 : decode cX9_refine 168 = .ok (.ifCond .ne 6, 3) := by decide +kernel
theorem dX9_refine_171 : decode cX9_refine 171 = .ok (.bipush (-4), 2) := by decide +kernel
theorem dX9_refine_173 : decode cX9_refine 173 = .ok (.ireturn, 1) := by decide +kernel
theorem dX9_refine_174 : decode cX9_refine 174 = .ok (.aload_n 0, 1) := by decide +kernel
theorem dX9_refine_175 : decode cX9_refine 175 = .ok (.invokevirtual 97, 3) := by decide +kernel
theorem dX9_refine_178 : decode cX9_refine 178 = .ok (.aload_n 0, 1) := by decide +kernel
theorem dX9_refine_179 : decode cX9_refine 179 = .ok (.invokevirtual 78, 3) := by decide +kernel
theorem dX9_refine_182 : decode cX9_refine 182 = .ok (.aload_n 0, 1) := by decide +kernel
theorem dX9_refine_183 : decode cX9_refine 183 = .ok (.getfield 72, 3) := by decide +kernel
theorem dX9_refine_186 : decode cX9_refine 186 = .ok (.ireturn, 1) := by decide +kernel
theorem dX9_join_0 : decode cX9_join 0 = .ok (.aload_n 0, 1) := by decide +kernel
theorem dX9_join_1 : decode cX9_join 1 = .ok (.iload_n 1, 1) := by decide +kernel
theorem dX9_join_2 : decode cX9_join 2 = .ok (.invokevirtual 117, 3) := by decide +kernel
theorem dX9_join_5 : decode cX9_join 5 = .ok (.ifCond .eq 13, 3) := by decide +kernel
theorem dX9_join_8 : decode cX9_join 8 = .ok (.aload_n 0, 1) := by decide +kernel
theorem dX9_join_9 : decode cX9_join 9 = .ok (.iload_n 1, 1) := by decide +kernel
theorem dX9_join_10 : decode cX9_join 10 = .ok (.iconst 1, 1) := by decide +kernel
theorem dX9_join_11 : decode cX9_join 11 = .ok (.iadd, 1) := by decide +kernel
theorem dX9_join_12 : decode cX9_join 12 = .ok (.invokevirtual 117, 3) := by decide +kernel
theorem dX9_join_15 : decode cX9_join 15 = .ok (.ifCond .ne 5, 3) := by decide +kernel
theorem dX9_join_18 : decode cX9_join 18 = .ok (.iconst (-1), 1) := by decide +kernel
theorem dX9_join_19 : decode cX9_join 19 = .ok (.ireturn, 1) := by decide +kernel
theorem dX9_join_20 : decode cX9_join 20 = .ok (.aload_n 0, 1) := by decide +kernel
theorem dX9_join_21 : decode cX9_join 21 = .ok (.getfield 7, 3) := by decide +kernel
theorem dX9_join_24 : decode cX9_join 24 = .ok (.bipush 23, 2) := by decide +kernel
theorem dX9_join_26 : decode cX9_join 26 = .ok (.iload_n 1, 1) := by decide +kernel
theorem dX9_join_27 : decode cX9_join 27 = .ok (.iadd, 1) := by decide +kernel
theorem dX9_join_28 : decode cX9_join 28 = .ok (.iaload, 1) := by decide +kernel
theorem dX9_join_29 : decode cX9_join 29 = .ok (.aload_n 0, 1) := by decide +kernel
theorem dX9_join_30 : decode cX9_join 30 = .ok (.getfield 7, 3) := by decide +kernel
theorem dX9_join_33 : decode cX9_join 33 = .ok (.bipush 23, 2) := by decide +kernel
theorem dX9_join_35 : decode cX9_join 35 = .ok (.iload_n 1, 1) := by decide +kernel
theorem dX9_join_36 : decode cX9_join 36 = .ok (.iadd, 1) := by decide +kernel
theorem dX9_join_37 : decode cX9_join 37 = .ok (.iconst 1, 1) := by decide +kernel
theorem dX9_join_38 : decode cX9_join 38 = .ok (.iadd, 1) := by decide +kernel
theorem dX9_join_39 : decode cX9_join 39 = .ok (.iaload, 1) := by decide +kernel
theorem dX9_join_40 : decode cX9_join 40 = .ok (.iadd, 1) := by decide +kernel
theorem dX9_join_41 : decode cX9_join 41 = .ok (.istore_n 2, 1) := by decide +kernel
theorem dX9_join_42 : decode cX9_join 42 = .ok (.aload_n 0, 1) := by decide +kernel
theorem dX9_join_43 : decode cX9_join 43 = .ok (.getfield 7, 3) := by decide +kernel
theorem dX9_join_46 : decode cX9_join 46 = .ok (.bipush 23, 2) := by decide +kernel
theorem dX9_join_48 : decode cX9_join 48 = .ok (.iload_n 1, 1) := by decide +kernel
theorem dX9_join_49 : decode cX9_join 49 = .ok (.iadd, 1) := by decide +kernel
theorem dX9_join_50 : decode cX9_join 50 = .ok (.iaload, 1) := by decide +kernel
theorem dX9_join_51 : decode cX9_join 51 = .ok (.aload_n 0, 1) := by decide +kernel
theorem dX9_join_52 : decode cX9_join 52 = .ok (.getfield 7, 3) := by decide +kernel
theorem dX9_join_55 : decode cX9_join 55 = .ok (.bipush 29, 2) := by decide +kernel
theorem dX9_join_57 : decode cX9_join 57 = .ok (.iload_n 1, 1) := by decide +kernel
theorem dX9_join_58 : decode cX9_join 58 = .ok (.iadd, 1) := by decide +kernel
theorem dX9_join_59 : decode cX9_join 59 = .ok (.iaload, 1) := by decide +kernel
theorem dX9_join_60 : decode cX9_join 60 = .ok (.imul, 1) := by decide +kernel
theorem dX9_join_61 : decode cX9_join 61 = .ok (.aload_n 0, 1) := by decide +kernel
theorem dX9_join_62 : decode cX9_join 62 = .ok (.getfield 7, 3) := by decide +kernel
theorem dX9_join_65 : decode cX9_join 65 = .ok (.bipush 23, 2) := by decide +kernel
theorem dX9_join_67 : decode cX9_join 67 = .ok (.iload_n 1, 1) := by decide +kernel
theorem dX9_join_68 : decode cX9_join 68 = .ok (.iadd, 1) := by decide +kernel
theorem dX9_join_69 : decode cX9_join 69 = .ok (.iconst 1, 1) := by decide +kernel
theorem dX9_join_70 : decode cX9_join 70 = .ok (.iadd, 1) := by decide +kernel
theorem dX9_join_71 : decode cX9_join 71 = .ok (.iaload, 1) := by decide +kernel
theorem dX9_join_72 : decode cX9_join 72 = .ok (.aload_n 0, 1) := by decide +kernel
theorem dX9_join_73 : decode cX9_join 73 = .ok (.getfield 7, 3) := by decide +kernel
theorem dX9_join_76 : decode cX9_join 76 = .ok (.bipush 29, 2) := by decide +kernel
theorem dX9_join_78 : decode cX9_join 78 = .ok (.iload_n 1, 1) := by decide +kernel
theorem dX9_join_79 : decode cX9_join 79 = .ok (.iadd, 1) := by decide +kernel
theorem dX9_join_80 : decode cX9_join 80 = .ok (.iconst 1, 1) := by decide +kernel
theorem dX9_join_81 : decode cX9_join 81 = .ok (.iadd, 1) := by decide +kernel
theorem dX9_join_82 : decode cX9_join 82 = .ok (.iaload, 1) := by decide +kernel
theorem dX9_join_83 : decode cX9_join 83 = .ok (.imul, 1) := by decide +kernel
theorem dX9_join_84 : decode cX9_join 84 = .ok (.iadd, 1) := by decide +kernel
theorem dX9_join_85 : decode cX9_join 85 = .ok (.istore_n 3, 1) := by decide +kernel
theorem dX9_join_86 : decode cX9_join 86 = .ok (.iload_n 3, 1) := by decide +kernel
theorem dX9_join_87 : decode cX9_join 87 = .ok (.iload_n 2, 1) := by decide +kernel
theorem dX9_join_88 : decode cX9_join 88 = .ok (.irem, 1) := by decide +kernel
theorem dX9_join_89 : decode cX9_join 89 = .ok (.ifCond .eq 6, 3) := by decide +kernel
theorem dX9_join_92 : decode cX9_join 92 = .ok (.bipush (-5), 2) := by decide +kernel
theorem dX9_join_94 : decode cX9_join 94 = .ok (.ireturn, 1) := by decide +kernel
theorem dX9_join_95 : decode cX9_join 95 = .ok (.aload_n 0, 1) := by decide +kernel
theorem dX9_join_96 : decode cX9_join 96 = .ok (.iconst 0, 1) := by decide +kernel
theorem dX9_join_97 : decode cX9_join 97 = .ok (.putfield 72, 3) := by decide +kernel
theorem dX9_join_100 : decode cX9_join 100 = .ok (.aload_n 0, 1) := by decide +kernel
theorem dX9_join_101 : decode cX9_join 101 = .ok (.iload_n 2, 1) := by decide +kernel
theorem dX9_join_102 : decode cX9_join 102 = .ok (.iload_n 3, 1) := by decide +kernel
theorem dX9_join_103 : decode cX9_join 103 = .ok (.iload_n 2, 1) := by decide +kernel
theorem dX9_join_104 : decode cX9_join 104 = .ok (.idiv, 1) := by decide +kernel
theorem dX9_join_105 : decode cX9_join 105 = .ok (.invokevirtual 75, 3) := by decide +kernel
theorem dX9_join_108 : decode cX9_join 108 = .ok (.iconst 0, 1) := by decide +kernel
theorem dX9_join_109 : decode cX9_join 109 = .ok (.istore 4, 2) := by decide +kernel
theorem dX9_join_111 : decode cX9_join 111 = .ok (.iload 4, 2) := by decide +kernel
theorem dX9_join_113 : decode cX9_join 113 = .ok (.aload_n 0, 1) := by decide +kernel
theorem dX9_join_114 : decode cX9_join 114 = .ok (.getfield 7, 3) := by decide +kernel
theorem dX9_join_117 : decode cX9_join 117 = .ok (.iconst 2, 1) := by decide +kernel
theorem dX9_join_118 : decode cX9_join 118 = .ok (.iaload, 1) := by decide +kernel
theorem dX9_join_119 : decode cX9_join 119 = .ok (.if_icmp .ge 45, 3) := by decide +kernel
theorem dX9_join_122 : decode cX9_join 122 = .ok (.iload 4, 2) := by decide +kernel
theorem dX9_join_124 : decode cX9_join 124 = .ok (.iload_n 1, 1) := by decide +kernel
theorem dX9_join_125 : decode cX9_join 125 = .ok (.iload_n 1, 1) := by decide +kernel
theorem dX9_join_126 : decode cX9_join 126 = .ok (.iconst 1, 1) := by decide +kernel
theorem dX9_join_127 : decode cX9_join 127 = .ok (.iadd, 1) := by decide +kernel
theorem dX9_join_128 : decode cX9_join 128 = .ok (.invokestatic 53, 3) := by decide +kernel
theorem dX9_join_131 : decode cX9_join 131 = .ok (.ifCond .ne 27, 3) := by decide +kernel
theorem dX9_join_134 : decode cX9_join 134 = .ok (.aload_n 0, 1) := by decide +kernel
theorem dX9_join_135 : decode cX9_join 135 = .ok (.aload_n 0, 1) := by decide +kernel
theorem dX9_join_136 : decode cX9_join 136 = .ok (.getfield 7, 3) := by decide +kernel
theorem dX9_join_139 : decode cX9_join 139 = .ok (.bipush 23, 2) := by decide +kernel
theorem dX9_join_141 : decode cX9_join 141 = .ok (.iload 4, 2) := by decide +kernel
theorem dX9_join_143 : decode cX9_join 143 = .ok (.iadd, 1) := by decide +kernel
theorem dX9_join_144 : decode cX9_join 144 = .ok (.iaload, 1) := by decide +kernel
theorem dX9_join_145 : decode cX9_join 145 = .ok (.aload_n 0, 1) := by decide +kernel
theorem dX9_join_146 : decode cX9_join 146 = .ok (.getfield 7, 3) := by decide +kernel
theorem dX9_join_149 : decode cX9_join 149 = .ok (.bipush 29, 2) := by decide +kernel
theorem dX9_join_151 : decode cX9_join 151 = .ok (.iload 4, 2) := by decide +kernel
theorem dX9_join_153 : decode cX9_join 153 = .ok (.iadd, 1) := by decide +kernel
theorem dX9_join_154 : decode cX9_join 154 = .ok (.iaload, 1) := by decide +kernel
theorem dX9_join_155 : decode cX9_join 155 = .ok (.invokevirtual 75, 3) := by decide +kernel
theorem dX9_join_158 : decode cX9_join 158 = .ok (.iinc 4 1, 3) := by decide +kernel
theorem dX9_join_161 : decode cX9_join 161 = .ok (.goto (-50), 3) := by decide +kernel
theorem dX9_join_164 : decode cX9_join 164 = .ok (.aload_n 0, 1) := by decide +kernel
theorem dX9_join_165 : decode cX9_join 165 = .ok (.invokevirtual 120, 3) := by decide +kernel
theorem dX9_join_168 : decode cX9_join 168 = .ok (.ifCond .ne 6, 3) := by decide +kernel
theorem dX9_join_171 : decode cX9_join 171 = .ok (.bipush (-4), 2) := by decide +kernel
theorem dX9_join_173 : decode cX9_join 173 = .ok (.ireturn, 1) := by decide +kernel
theorem dX9_join_174 : decode cX9_join 174 = .ok (.aload_n 0, 1) := by decide +kernel
theorem dX9_join_175 : decode cX9_join 175 = .ok (.invokevirtual 97, 3) := by decide +kernel
theorem dX9_join_178 : decode cX9_join 178 = .ok (.aload_n 0, 1) := by decide +kernel
theorem dX9_join_179 : decode cX9_join 179 = .ok (.invokevirtual 78, 3) := by decide +kernel
theorem dX9_join_182 : decode cX9_join 182 = .ok (.aload_n 0, 1) := by decide +kernel
theorem dX9_join_183 : decode cX9_join 183 = .ok (.getfield 72, 3) := by decide +kernel
theorem dX9_join_186 : decode cX9_join 186 = .ok (.ireturn, 1) := by decide +kernel
theorem dX9_adopts_0 : decode cX9_adopts 0 = .ok (.aload_n 0, 1) := by decide +kernel
theorem dX9_adopts_1 : decode cX9_adopts 1 = .ok (.getfield 7, 3) := by decide +kernel
theorem dX9_adopts_4 : decode cX9_adopts 4 = .ok (.iconst 0, 1) := by decide +kernel
theorem dX9_adopts_5 : decode cX9_adopts 5 = .ok (.iaload, 1) := by decide +kernel
theorem dX9_adopts_6 : decode cX9_adopts 6 = .ok (.istore_n 1, 1) := by decide +kernel
theorem dX9_adopts_7 : decode cX9_adopts 7 = .ok (.aload_n 0, 1) := by decide +kernel
theorem dX9_adopts_8 : decode cX9_adopts 8 = .ok (.iload_n 1, 1) := by decide +kernel
theorem dX9_adopts_9 : decode cX9_adopts 9 = .ok (.invokevirtual 124, 3) := by decide +kernel
theorem dX9_adopts_12 : decode cX9_adopts 12 = .ok (.aload_n 0, 1) := by decide +kernel
theorem dX9_adopts_13 : decode cX9_adopts 13 = .ok (.iconst 0, 1) := by decide +kernel
theorem dX9_adopts_14 : decode cX9_adopts 14 = .ok (.putfield 72, 3) := by decide +kernel
theorem dX9_adopts_17 : decode cX9_adopts 17 = .ok (.aload_n 0, 1) := by decide +kernel
theorem dX9_adopts_18 : decode cX9_adopts 18 = .ok (.aload_n 0, 1) := by decide +kernel
theorem dX9_adopts_19 : decode cX9_adopts 19 = .ok (.iload_n 1, 1) := by decide +kernel
theorem dX9_adopts_20 : decode cX9_adopts 20 = .ok (.iconst 1, 1) := by decide +kernel
theorem dX9_adopts_21 : decode cX9_adopts 21 = .ok (.invokevirtual 127, 3) := by decide +kernel
theorem dX9_adopts_24 : decode cX9_adopts 24 = .ok (.aload_n 0, 1) := by decide +kernel
theorem dX9_adopts_25 : decode cX9_adopts 25 = .ok (.getfield 91, 3) := by decide +kernel
theorem dX9_adopts_28 : decode cX9_adopts 28 = .ok (.invokevirtual 75, 3) := by decide +kernel
theorem dX9_adopts_31 : decode cX9_adopts 31 = .ok (.aload_n 0, 1) := by decide +kernel
theorem dX9_adopts_32 : decode cX9_adopts 32 = .ok (.aload_n 0, 1) := by decide +kernel
theorem dX9_adopts_33 : decode cX9_adopts 33 = .ok (.iload_n 1, 1) := by decide +kernel
theorem dX9_adopts_34 : decode cX9_adopts 34 = .ok (.iconst 0, 1) := by decide +kernel
theorem dX9_adopts_35 : decode cX9_adopts 35 = .ok (.invokevirtual 127, 3) := by decide +kernel
theorem dX9_adopts_38 : decode cX9_adopts 38 = .ok (.aload_n 0, 1) := by decide +kernel
theorem dX9_adopts_39 : decode cX9_adopts 39 = .ok (.getfield 94, 3) := by decide +kernel
theorem dX9_adopts_42 : decode cX9_adopts 42 = .ok (.invokevirtual 75, 3) := by decide +kernel
theorem dX9_adopts_45 : decode cX9_adopts 45 = .ok (.aload_n 0, 1) := by decide +kernel
theorem dX9_adopts_46 : decode cX9_adopts 46 = .ok (.invokevirtual 78, 3) := by decide +kernel
theorem dX9_adopts_49 : decode cX9_adopts 49 = .ok (.aload_n 0, 1) := by decide +kernel
theorem dX9_adopts_50 : decode cX9_adopts 50 = .ok (.getfield 72, 3) := by decide +kernel
theorem dX9_adopts_53 : decode cX9_adopts 53 = .ok (.ireturn, 1) := by decide +kernel
theorem dX9_adopt_0 : decode cX9_adopt 0 = .ok (.aload_n 0, 1) := by decide +kernel
theorem dX9_adopt_1 : decode cX9_adopt 1 = .ok (.invokevirtual 97, 3) := by decide +kernel
theorem dX9_adopt_4 : decode cX9_adopt 4 = .ok (.aload_n 0, 1) := by decide +kernel
theorem dX9_adopt_5 : decode cX9_adopt 5 = .ok (.invokevirtual 131, 3) := by decide +kernel
theorem dX9_adopt_8 : decode cX9_adopt 8 = .ok (.ireturn, 1) := by decide +kernel
theorem dX9_receiver_0 : decode cX9_receiver 0 = .ok (.aload_n 0, 1) := by decide +kernel
theorem dX9_receiver_1 : decode cX9_receiver 1 = .ok (.iload_n 1, 1) := by decide +kernel
theorem dX9_receiver_2 : decode cX9_receiver 2 = .ok (.invokevirtual 110, 3) := by decide +kernel
theorem dX9_receiver_5 : decode cX9_receiver 5 = .ok (.ifCond .ne 5, 3) := by decide +kernel
theorem dX9_receiver_8 : decode cX9_receiver 8 = .ok (.iconst (-1), 1) := by decide +kernel
theorem dX9_receiver_9 : decode cX9_receiver 9 = .ok (.ireturn, 1) := by decide +kernel
theorem dX9_receiver_10 : decode cX9_receiver 10 = .ok (.iload_n 2, 1) := by decide +kernel
theorem dX9_receiver_11 : decode cX9_receiver 11 = .ok (.tableswitch 56 0 4 #[33, 33, 33, 40, 50], 33) := by decide +kernel
theorem dX9_receiver_44 : decode cX9_receiver 44 = .ok (.aload_n 0, 1) := by decide +kernel
theorem dX9_receiver_45 : decode cX9_receiver 45 = .ok (.iload_n 1, 1) := by decide +kernel
theorem dX9_receiver_46 : decode cX9_receiver 46 = .ok (.iload_n 2, 1) := by decide +kernel
theorem dX9_receiver_47 : decode cX9_receiver 47 = .ok (.invokevirtual 57, 3) := by decide +kernel
theorem dX9_receiver_50 : decode cX9_receiver 50 = .ok (.ireturn, 1) := by decide +kernel
theorem dX9_receiver_51 : decode cX9_receiver 51 = .ok (.aload_n 0, 1) := by decide +kernel
theorem dX9_receiver_52 : decode cX9_receiver 52 = .ok (.iload_n 1, 1) := by decide +kernel
theorem dX9_receiver_53 : decode cX9_receiver 53 = .ok (.iconst 3, 1) := by decide +kernel
theorem dX9_receiver_54 : decode cX9_receiver 54 = .ok (.invokevirtual 57, 3) := by decide +kernel
theorem dX9_receiver_57 : decode cX9_receiver 57 = .ok (.bipush 100, 2) := by decide +kernel
theorem dX9_receiver_59 : decode cX9_receiver 59 = .ok (.iadd, 1) := by decide +kernel
theorem dX9_receiver_60 : decode cX9_receiver 60 = .ok (.ireturn, 1) := by decide +kernel
theorem dX9_receiver_61 : decode cX9_receiver 61 = .ok (.aload_n 0, 1) := by decide +kernel
theorem dX9_receiver_62 : decode cX9_receiver 62 = .ok (.iload_n 1, 1) := by decide +kernel
theorem dX9_receiver_63 : decode cX9_receiver 63 = .ok (.invokevirtual 134, 3) := by decide +kernel
theorem dX9_receiver_66 : decode cX9_receiver 66 = .ok (.ireturn, 1) := by decide +kernel
theorem dX9_receiver_67 : decode cX9_receiver 67 = .ok (.bipush (-2), 2) := by decide +kernel
theorem dX9_receiver_69 : decode cX9_receiver 69 = .ok (.ireturn, 1) := by decide +kernel
theorem dX9_part_0 : decode cX9_part 0 = .ok (.aload_n 0, 1) := by decide +kernel
theorem dX9_part_1 : decode cX9_part 1 = .ok (.iload_n 1, 1) := by decide +kernel
theorem dX9_part_2 : decode cX9_part 2 = .ok (.invokevirtual 117, 3) := by decide +kernel
theorem dX9_part_5 : decode cX9_part 5 = .ok (.ifCond .ne 5, 3) := by decide +kernel
theorem dX9_part_8 : decode cX9_part 8 = .ok (.iconst (-1), 1) := by decide +kernel
theorem dX9_part_9 : decode cX9_part 9 = .ok (.ireturn, 1) := by decide +kernel
theorem dX9_part_10 : decode cX9_part 10 = .ok (.aload_n 0, 1) := by decide +kernel
theorem dX9_part_11 : decode cX9_part 11 = .ok (.getfield 7, 3) := by decide +kernel
theorem dX9_part_14 : decode cX9_part 14 = .ok (.bipush 29, 2) := by decide +kernel
theorem dX9_part_16 : decode cX9_part 16 = .ok (.iload_n 1, 1) := by decide +kernel
theorem dX9_part_17 : decode cX9_part 17 = .ok (.iadd, 1) := by decide +kernel
theorem dX9_part_18 : decode cX9_part 18 = .ok (.iaload, 1) := by decide +kernel
theorem dX9_part_19 : decode cX9_part 19 = .ok (.istore_n 3, 1) := by decide +kernel
theorem dX9_part_20 : decode cX9_part 20 = .ok (.iload_n 2, 1) := by decide +kernel
theorem dX9_part_21 : decode cX9_part 21 = .ok (.tableswitch 59 0 3 #[31, 41, 43, 49], 31) := by decide +kernel
theorem dX9_part_52 : decode cX9_part 52 = .ok (.aload_n 0, 1) := by decide +kernel
theorem dX9_part_53 : decode cX9_part 53 = .ok (.getfield 7, 3) := by decide +kernel
theorem dX9_part_56 : decode cX9_part 56 = .ok (.bipush 23, 2) := by decide +kernel
theorem dX9_part_58 : decode cX9_part 58 = .ok (.iload_n 1, 1) := by decide +kernel
theorem dX9_part_59 : decode cX9_part 59 = .ok (.iadd, 1) := by decide +kernel
theorem dX9_part_60 : decode cX9_part 60 = .ok (.iaload, 1) := by decide +kernel
theorem dX9_part_61 : decode cX9_part 61 = .ok (.ireturn, 1) := by decide +kernel
theorem dX9_part_62 : decode cX9_part 62 = .ok (.iload_n 3, 1) := by decide +kernel
theorem dX9_part_63 : decode cX9_part 63 = .ok (.ireturn, 1) := by decide +kernel
theorem dX9_part_64 : decode cX9_part 64 = .ok (.aload_n 0, 1) := by decide +kernel
theorem dX9_part_65 : decode cX9_part 65 = .ok (.iload_n 3, 1) := by decide +kernel
theorem dX9_part_66 : decode cX9_part 66 = .ok (.invokevirtual 64, 3) := by decide +kernel
theorem dX9_part_69 : decode cX9_part 69 = .ok (.ireturn, 1) := by decide +kernel
theorem dX9_part_70 : decode cX9_part 70 = .ok (.aload_n 0, 1) := by decide +kernel
theorem dX9_part_71 : decode cX9_part 71 = .ok (.iload_n 3, 1) := by decide +kernel
theorem dX9_part_72 : decode cX9_part 72 = .ok (.invokevirtual 81, 3) := by decide +kernel
theorem dX9_part_75 : decode cX9_part 75 = .ok (.sipush 1000, 3) := by decide +kernel
theorem dX9_part_78 : decode cX9_part 78 = .ok (.iadd, 1) := by decide +kernel
theorem dX9_part_79 : decode cX9_part 79 = .ok (.ireturn, 1) := by decide +kernel
theorem dX9_part_80 : decode cX9_part 80 = .ok (.bipush (-2), 2) := by decide +kernel
theorem dX9_part_82 : decode cX9_part 82 = .ok (.ireturn, 1) := by decide +kernel
theorem dX9_isShare_0 : decode cX9_isShare 0 = .ok (.iload_n 0, 1) := by decide +kernel
theorem dX9_isShare_1 : decode cX9_isShare 1 = .ok (.iconst 0, 1) := by decide +kernel
theorem dX9_isShare_2 : decode cX9_isShare 2 = .ok (.bipush 100, 2) := by decide +kernel
theorem dX9_isShare_4 : decode cX9_isShare 4 = .ok (.invokestatic 53, 3) := by decide +kernel
theorem dX9_isShare_7 : decode cX9_isShare 7 = .ok (.ireturn, 1) := by decide +kernel
theorem dX9_value_0 : decode cX9_value 0 = .ok (.iload_n 1, 1) := by decide +kernel
theorem dX9_value_1 : decode cX9_value 1 = .ok (.invokestatic 137, 3) := by decide +kernel
theorem dX9_value_4 : decode cX9_value 4 = .ok (.ifCond .eq 15, 3) := by decide +kernel
theorem dX9_value_7 : decode cX9_value 7 = .ok (.aload_n 0, 1) := by decide +kernel
theorem dX9_value_8 : decode cX9_value 8 = .ok (.iload_n 1, 1) := by decide +kernel
theorem dX9_value_9 : decode cX9_value 9 = .ok (.invokevirtual 81, 3) := by decide +kernel
theorem dX9_value_12 : decode cX9_value 12 = .ok (.sipush 1000, 3) := by decide +kernel
theorem dX9_value_15 : decode cX9_value 15 = .ok (.iadd, 1) := by decide +kernel
theorem dX9_value_16 : decode cX9_value 16 = .ok (.goto 5, 3) := by decide +kernel
theorem dX9_value_19 : decode cX9_value 19 = .ok (.bipush (-2), 2) := by decide +kernel
theorem dX9_value_21 : decode cX9_value 21 = .ok (.ireturn, 1) := by decide +kernel
theorem dX9_mean_0 : decode cX9_mean 0 = .ok (.aload_n 0, 1) := by decide +kernel
theorem dX9_mean_1 : decode cX9_mean 1 = .ok (.invokevirtual 140, 3) := by decide +kernel
theorem dX9_mean_4 : decode cX9_mean 4 = .ok (.iload_n 1, 1) := by decide +kernel
theorem dX9_mean_5 : decode cX9_mean 5 = .ok (.ifCond .ne 13, 3) := by decide +kernel
theorem dX9_mean_8 : decode cX9_mean 8 = .ok (.aload_n 0, 1) := by decide +kernel
theorem dX9_mean_9 : decode cX9_mean 9 = .ok (.getfield 47, 3) := by decide +kernel
theorem dX9_mean_12 : decode cX9_mean 12 = .ok (.ldc 143, 2) := by decide +kernel
theorem dX9_mean_14 : decode cX9_mean 14 = .ok (.iadd, 1) := by decide +kernel
theorem dX9_mean_15 : decode cX9_mean 15 = .ok (.goto 17, 3) := by decide +kernel
theorem dX9_mean_18 : decode cX9_mean 18 = .ok (.iload_n 1, 1) := by decide +kernel
theorem dX9_mean_19 : decode cX9_mean 19 = .ok (.iconst 1, 1) := by decide +kernel
theorem dX9_mean_20 : decode cX9_mean 20 = .ok (.if_icmp .ne 10, 3) := by decide +kernel
theorem dX9_mean_23 : decode cX9_mean 23 = .ok (.aload_n 0, 1) := by decide +kernel
theorem dX9_mean_24 : decode cX9_mean 24 = .ok (.getfield 50, 3) := by decide +kernel
theorem dX9_mean_27 : decode cX9_mean 27 = .ok (.goto 5, 3) := by decide +kernel
theorem dX9_mean_30 : decode cX9_mean 30 = .ok (.bipush (-2), 2) := by decide +kernel
theorem dX9_mean_32 : decode cX9_mean 32 = .ok (.ireturn, 1) := by decide +kernel
theorem dX9_worth_0 : decode cX9_worth 0 = .ok (.aload_n 0, 1) := by decide +kernel
theorem dX9_worth_1 : decode cX9_worth 1 = .ok (.iload_n 1, 1) := by decide +kernel
theorem dX9_worth_2 : decode cX9_worth 2 = .ok (.invokevirtual 110, 3) := by decide +kernel
theorem dX9_worth_5 : decode cX9_worth 5 = .ok (.ifCond .ne 5, 3) := by decide +kernel
theorem dX9_worth_8 : decode cX9_worth 8 = .ok (.iconst (-1), 1) := by decide +kernel
theorem dX9_worth_9 : decode cX9_worth 9 = .ok (.ireturn, 1) := by decide +kernel
theorem dX9_worth_10 : decode cX9_worth 10 = .ok (.iconst 0, 1) := by decide +kernel
theorem dX9_worth_11 : decode cX9_worth 11 = .ok (.istore_n 3, 1) := by decide +kernel
theorem dX9_worth_12 : decode cX9_worth 12 = .ok (.iconst 0, 1) := by decide +kernel
theorem dX9_worth_13 : decode cX9_worth 13 = .ok (.istore 4, 2) := by decide +kernel
theorem dX9_worth_15 : decode cX9_worth 15 = .ok (.iload 4, 2) := by decide +kernel
theorem dX9_worth_17 : decode cX9_worth 17 = .ok (.aload_n 0, 1) := by decide +kernel
theorem dX9_worth_18 : decode cX9_worth 18 = .ok (.getfield 7, 3) := by decide +kernel
theorem dX9_worth_21 : decode cX9_worth 21 = .ok (.iconst 2, 1) := by decide +kernel
theorem dX9_worth_22 : decode cX9_worth 22 = .ok (.iaload, 1) := by decide +kernel
theorem dX9_worth_23 : decode cX9_worth 23 = .ok (.if_icmp .ge 38, 3) := by decide +kernel
theorem dX9_worth_26 : decode cX9_worth 26 = .ok (.iload_n 3, 1) := by decide +kernel
theorem dX9_worth_27 : decode cX9_worth 27 = .ok (.aload_n 0, 1) := by decide +kernel
theorem dX9_worth_28 : decode cX9_worth 28 = .ok (.getfield 7, 3) := by decide +kernel
theorem dX9_worth_31 : decode cX9_worth 31 = .ok (.bipush 23, 2) := by decide +kernel
theorem dX9_worth_33 : decode cX9_worth 33 = .ok (.iload 4, 2) := by decide +kernel
theorem dX9_worth_35 : decode cX9_worth 35 = .ok (.iadd, 1) := by decide +kernel
theorem dX9_worth_36 : decode cX9_worth 36 = .ok (.iaload, 1) := by decide +kernel
theorem dX9_worth_37 : decode cX9_worth 37 = .ok (.aload_n 0, 1) := by decide +kernel
theorem dX9_worth_38 : decode cX9_worth 38 = .ok (.iload_n 1, 1) := by decide +kernel
theorem dX9_worth_39 : decode cX9_worth 39 = .ok (.aload_n 0, 1) := by decide +kernel
theorem dX9_worth_40 : decode cX9_worth 40 = .ok (.getfield 7, 3) := by decide +kernel
theorem dX9_worth_43 : decode cX9_worth 43 = .ok (.bipush 29, 2) := by decide +kernel
theorem dX9_worth_45 : decode cX9_worth 45 = .ok (.iload 4, 2) := by decide +kernel
theorem dX9_worth_47 : decode cX9_worth 47 = .ok (.iadd, 1) := by decide +kernel
theorem dX9_worth_48 : decode cX9_worth 48 = .ok (.iaload, 1) := by decide +kernel
theorem dX9_worth_49 : decode cX9_worth 49 = .ok (.invokevirtual 144, 3) := by decide +kernel
theorem dX9_worth_52 : decode cX9_worth 52 = .ok (.imul, 1) := by decide +kernel
theorem dX9_worth_53 : decode cX9_worth 53 = .ok (.iadd, 1) := by decide +kernel
theorem dX9_worth_54 : decode cX9_worth 54 = .ok (.istore_n 3, 1) := by decide +kernel
theorem dX9_worth_55 : decode cX9_worth 55 = .ok (.iinc 4 1, 3) := by decide +kernel
theorem dX9_worth_58 : decode cX9_worth 58 = .ok (.goto (-43), 3) := by decide +kernel
theorem dX9_worth_61 : decode cX9_worth 61 = .ok (.aload_n 0, 1) := by decide +kernel
theorem dX9_worth_62 : decode cX9_worth 62 = .ok (.iload_n 3, 1) := by decide +kernel
theorem dX9_worth_63 : decode cX9_worth 63 = .ok (.bipush 100, 2) := by decide +kernel
theorem dX9_worth_65 : decode cX9_worth 65 = .ok (.aload_n 0, 1) := by decide +kernel
theorem dX9_worth_66 : decode cX9_worth 66 = .ok (.invokevirtual 84, 3) := by decide +kernel
theorem dX9_worth_69 : decode cX9_worth 69 = .ok (.imul, 1) := by decide +kernel
theorem dX9_worth_70 : decode cX9_worth 70 = .ok (.invokevirtual 88, 3) := by decide +kernel
theorem dX9_worth_73 : decode cX9_worth 73 = .ok (.iload_n 2, 1) := by decide +kernel
theorem dX9_worth_74 : decode cX9_worth 74 = .ok (.ifCond .ne 10, 3) := by decide +kernel
theorem dX9_worth_77 : decode cX9_worth 77 = .ok (.aload_n 0, 1) := by decide +kernel
theorem dX9_worth_78 : decode cX9_worth 78 = .ok (.getfield 47, 3) := by decide +kernel
theorem dX9_worth_81 : decode cX9_worth 81 = .ok (.goto 17, 3) := by decide +kernel
theorem dX9_worth_84 : decode cX9_worth 84 = .ok (.iload_n 2, 1) := by decide +kernel
theorem dX9_worth_85 : decode cX9_worth 85 = .ok (.iconst 1, 1) := by decide +kernel
theorem dX9_worth_86 : decode cX9_worth 86 = .ok (.if_icmp .ne 10, 3) := by decide +kernel
theorem dX9_worth_89 : decode cX9_worth 89 = .ok (.aload_n 0, 1) := by decide +kernel
theorem dX9_worth_90 : decode cX9_worth 90 = .ok (.getfield 50, 3) := by decide +kernel
theorem dX9_worth_93 : decode cX9_worth 93 = .ok (.goto 5, 3) := by decide +kernel
theorem dX9_worth_96 : decode cX9_worth 96 = .ok (.bipush (-2), 2) := by decide +kernel
theorem dX9_worth_98 : decode cX9_worth 98 = .ok (.ireturn, 1) := by decide +kernel
theorem dX9_isBest_0 : decode cX9_isBest 0 = .ok (.aload_n 0, 1) := by decide +kernel
theorem dX9_isBest_1 : decode cX9_isBest 1 = .ok (.invokevirtual 140, 3) := by decide +kernel
theorem dX9_isBest_4 : decode cX9_isBest 4 = .ok (.aload_n 0, 1) := by decide +kernel
theorem dX9_isBest_5 : decode cX9_isBest 5 = .ok (.getfield 47, 3) := by decide +kernel
theorem dX9_isBest_8 : decode cX9_isBest 8 = .ok (.istore_n 1, 1) := by decide +kernel
theorem dX9_isBest_9 : decode cX9_isBest 9 = .ok (.aload_n 0, 1) := by decide +kernel
theorem dX9_isBest_10 : decode cX9_isBest 10 = .ok (.getfield 50, 3) := by decide +kernel
theorem dX9_isBest_13 : decode cX9_isBest 13 = .ok (.istore_n 2, 1) := by decide +kernel
theorem dX9_isBest_14 : decode cX9_isBest 14 = .ok (.aload_n 0, 1) := by decide +kernel
theorem dX9_isBest_15 : decode cX9_isBest 15 = .ok (.aload_n 0, 1) := by decide +kernel
theorem dX9_isBest_16 : decode cX9_isBest 16 = .ok (.getfield 7, 3) := by decide +kernel
theorem dX9_isBest_19 : decode cX9_isBest 19 = .ok (.iconst 0, 1) := by decide +kernel
theorem dX9_isBest_20 : decode cX9_isBest 20 = .ok (.iaload, 1) := by decide +kernel
theorem dX9_isBest_21 : decode cX9_isBest 21 = .ok (.invokevirtual 124, 3) := by decide +kernel
theorem dX9_isBest_24 : decode cX9_isBest 24 = .ok (.iload_n 1, 1) := by decide +kernel
theorem dX9_isBest_25 : decode cX9_isBest 25 = .ok (.aload_n 0, 1) := by decide +kernel
theorem dX9_isBest_26 : decode cX9_isBest 26 = .ok (.getfield 47, 3) := by decide +kernel
theorem dX9_isBest_29 : decode cX9_isBest 29 = .ok (.if_icmp .ne 15, 3) := by decide +kernel
theorem dX9_isBest_32 : decode cX9_isBest 32 = .ok (.iload_n 2, 1) := by decide +kernel
theorem dX9_isBest_33 : decode cX9_isBest 33 = .ok (.aload_n 0, 1) := by decide +kernel
theorem dX9_isBest_34 : decode cX9_isBest 34 = .ok (.getfield 50, 3) := by decide +kernel
theorem dX9_isBest_37 : decode cX9_isBest 37 = .ok (.if_icmp .ne 7, 3) := by decide +kernel
theorem dX9_isBest_40 : decode cX9_isBest 40 = .ok (.iconst 1, 1) := by decide +kernel
theorem dX9_isBest_41 : decode cX9_isBest 41 = .ok (.goto 4, 3) := by decide +kernel
theorem dX9_isBest_44 : decode cX9_isBest 44 = .ok (.iconst 0, 1) := by decide +kernel
theorem dX9_isBest_45 : decode cX9_isBest 45 = .ok (.ireturn, 1) := by decide +kernel
theorem dX9_count_0 : decode cX9_count 0 = .ok (.iload_n 1, 1) := by decide +kernel
theorem dX9_count_1 : decode cX9_count 1 = .ok (.tableswitch 78 0 6 #[43, 43, 43, 50, 55, 68, 73], 43) := by decide +kernel
theorem dX9_count_44 : decode cX9_count 44 = .ok (.aload_n 0, 1) := by decide +kernel
theorem dX9_count_45 : decode cX9_count 45 = .ok (.getfield 7, 3) := by decide +kernel
theorem dX9_count_48 : decode cX9_count 48 = .ok (.iload_n 1, 1) := by decide +kernel
theorem dX9_count_49 : decode cX9_count 49 = .ok (.iaload, 1) := by decide +kernel
theorem dX9_count_50 : decode cX9_count 50 = .ok (.ireturn, 1) := by decide +kernel
theorem dX9_count_51 : decode cX9_count 51 = .ok (.aload_n 0, 1) := by decide +kernel
theorem dX9_count_52 : decode cX9_count 52 = .ok (.invokevirtual 84, 3) := by decide +kernel
theorem dX9_count_55 : decode cX9_count 55 = .ok (.ireturn, 1) := by decide +kernel
theorem dX9_count_56 : decode cX9_count 56 = .ok (.aload_n 0, 1) := by decide +kernel
theorem dX9_count_57 : decode cX9_count 57 = .ok (.invokevirtual 147, 3) := by decide +kernel
theorem dX9_count_60 : decode cX9_count 60 = .ok (.ifCond .eq 7, 3) := by decide +kernel
theorem dX9_count_63 : decode cX9_count 63 = .ok (.iconst 1, 1) := by decide +kernel
theorem dX9_count_64 : decode cX9_count 64 = .ok (.goto 4, 3) := by decide +kernel
theorem dX9_count_67 : decode cX9_count 67 = .ok (.iconst 0, 1) := by decide +kernel
theorem dX9_count_68 : decode cX9_count 68 = .ok (.ireturn, 1) := by decide +kernel
theorem dX9_count_69 : decode cX9_count 69 = .ok (.aload_n 0, 1) := by decide +kernel
theorem dX9_count_70 : decode cX9_count 70 = .ok (.getfield 150, 3) := by decide +kernel
theorem dX9_count_73 : decode cX9_count 73 = .ok (.ireturn, 1) := by decide +kernel
theorem dX9_count_74 : decode cX9_count 74 = .ok (.aload_n 0, 1) := by decide +kernel
theorem dX9_count_75 : decode cX9_count 75 = .ok (.getfield 35, 3) := by decide +kernel
theorem dX9_count_78 : decode cX9_count 78 = .ok (.ireturn, 1) := by decide +kernel
theorem dX9_count_79 : decode cX9_count 79 = .ok (.bipush (-2), 2) := by decide +kernel
theorem dX9_count_81 : decode cX9_count 81 = .ok (.ireturn, 1) := by decide +kernel
theorem dX9_envelope_0 : decode cX9_envelope 0 = .ok (.iload_n 1, 1) := by decide +kernel
theorem dX9_envelope_1 : decode cX9_envelope 1 = .ok (.invokestatic 137, 3) := by decide +kernel
theorem dX9_envelope_4 : decode cX9_envelope 4 = .ok (.ifCond .eq 12, 3) := by decide +kernel
theorem dX9_envelope_7 : decode cX9_envelope 7 = .ok (.iload_n 2, 1) := by decide +kernel
theorem dX9_envelope_8 : decode cX9_envelope 8 = .ok (.iconst 0, 1) := by decide +kernel
theorem dX9_envelope_9 : decode cX9_envelope 9 = .ok (.iconst 1, 1) := by decide +kernel
theorem dX9_envelope_10 : decode cX9_envelope 10 = .ok (.invokestatic 53, 3) := by decide +kernel
theorem dX9_envelope_13 : decode cX9_envelope 13 = .ok (.ifCond .ne 6, 3) := by decide +kernel
theorem dX9_envelope_16 : decode cX9_envelope 16 = .ok (.bipush (-2), 2) := by decide +kernel
theorem dX9_envelope_18 : decode cX9_envelope 18 = .ok (.ireturn, 1) := by decide +kernel
theorem dX9_envelope_19 : decode cX9_envelope 19 = .ok (.aload_n 0, 1) := by decide +kernel
theorem dX9_envelope_20 : decode cX9_envelope 20 = .ok (.iload_n 1, 1) := by decide +kernel
theorem dX9_envelope_21 : decode cX9_envelope 21 = .ok (.invokevirtual 124, 3) := by decide +kernel
theorem dX9_envelope_24 : decode cX9_envelope 24 = .ok (.iload_n 2, 1) := by decide +kernel
theorem dX9_envelope_25 : decode cX9_envelope 25 = .ok (.ifCond .ne 13, 3) := by decide +kernel
theorem dX9_envelope_28 : decode cX9_envelope 28 = .ok (.aload_n 0, 1) := by decide +kernel
theorem dX9_envelope_29 : decode cX9_envelope 29 = .ok (.getfield 47, 3) := by decide +kernel
theorem dX9_envelope_32 : decode cX9_envelope 32 = .ok (.ldc 143, 2) := by decide +kernel
theorem dX9_envelope_34 : decode cX9_envelope 34 = .ok (.iadd, 1) := by decide +kernel
theorem dX9_envelope_35 : decode cX9_envelope 35 = .ok (.goto 7, 3) := by decide +kernel
theorem dX9_envelope_38 : decode cX9_envelope 38 = .ok (.aload_n 0, 1) := by decide +kernel
theorem dX9_envelope_39 : decode cX9_envelope 39 = .ok (.getfield 50, 3) := by decide +kernel
theorem dX9_envelope_42 : decode cX9_envelope 42 = .ok (.ireturn, 1) := by decide +kernel
theorem dX9_best_0 : decode cX9_best 0 = .ok (.iload_n 1, 1) := by decide +kernel
theorem dX9_best_1 : decode cX9_best 1 = .ok (.invokestatic 137, 3) := by decide +kernel
theorem dX9_best_4 : decode cX9_best 4 = .ok (.ifCond .eq 12, 3) := by decide +kernel
theorem dX9_best_7 : decode cX9_best 7 = .ok (.iload_n 2, 1) := by decide +kernel
theorem dX9_best_8 : decode cX9_best 8 = .ok (.iconst 0, 1) := by decide +kernel
theorem dX9_best_9 : decode cX9_best 9 = .ok (.iconst 3, 1) := by decide +kernel
theorem dX9_best_10 : decode cX9_best 10 = .ok (.invokestatic 53, 3) := by decide +kernel
theorem dX9_best_13 : decode cX9_best 13 = .ok (.ifCond .ne 6, 3) := by decide +kernel
theorem dX9_best_16 : decode cX9_best 16 = .ok (.bipush (-2), 2) := by decide +kernel
theorem dX9_best_18 : decode cX9_best 18 = .ok (.ireturn, 1) := by decide +kernel
theorem dX9_best_19 : decode cX9_best 19 = .ok (.aload_n 0, 1) := by decide +kernel
theorem dX9_best_20 : decode cX9_best 20 = .ok (.iload_n 1, 1) := by decide +kernel
theorem dX9_best_21 : decode cX9_best 21 = .ok (.invokevirtual 124, 3) := by decide +kernel
theorem dX9_best_24 : decode cX9_best 24 = .ok (.iload_n 2, 1) := by decide +kernel
theorem dX9_best_25 : decode cX9_best 25 = .ok (.ifCond .ne 10, 3) := by decide +kernel
theorem dX9_best_28 : decode cX9_best 28 = .ok (.aload_n 0, 1) := by decide +kernel
theorem dX9_best_29 : decode cX9_best 29 = .ok (.getfield 91, 3) := by decide +kernel
theorem dX9_best_32 : decode cX9_best 32 = .ok (.goto 30, 3) := by decide +kernel
theorem dX9_best_35 : decode cX9_best 35 = .ok (.iload_n 2, 1) := by decide +kernel
theorem dX9_best_36 : decode cX9_best 36 = .ok (.iconst 1, 1) := by decide +kernel
theorem dX9_best_37 : decode cX9_best 37 = .ok (.if_icmp .ne 10, 3) := by decide +kernel
theorem dX9_best_40 : decode cX9_best 40 = .ok (.aload_n 0, 1) := by decide +kernel
theorem dX9_best_41 : decode cX9_best 41 = .ok (.getfield 94, 3) := by decide +kernel
theorem dX9_best_44 : decode cX9_best 44 = .ok (.goto 18, 3) := by decide +kernel
theorem dX9_best_47 : decode cX9_best 47 = .ok (.aload_n 0, 1) := by decide +kernel
theorem dX9_best_48 : decode cX9_best 48 = .ok (.iload_n 1, 1) := by decide +kernel
theorem dX9_best_49 : decode cX9_best 49 = .ok (.iload_n 2, 1) := by decide +kernel
theorem dX9_best_50 : decode cX9_best 50 = .ok (.iconst 2, 1) := by decide +kernel
theorem dX9_best_51 : decode cX9_best 51 = .ok (.if_icmp .ne 7, 3) := by decide +kernel
theorem dX9_best_54 : decode cX9_best 54 = .ok (.iconst 1, 1) := by decide +kernel
theorem dX9_best_55 : decode cX9_best 55 = .ok (.goto 4, 3) := by decide +kernel
theorem dX9_best_58 : decode cX9_best 58 = .ok (.iconst 0, 1) := by decide +kernel
theorem dX9_best_59 : decode cX9_best 59 = .ok (.invokevirtual 127, 3) := by decide +kernel
theorem dX9_best_62 : decode cX9_best 62 = .ok (.ireturn, 1) := by decide +kernel
theorem dX9_mostGained_0 : decode cX9_mostGained 0 = .ok (.iload_n 1, 1) := by decide +kernel
theorem dX9_mostGained_1 : decode cX9_mostGained 1 = .ok (.iconst 0, 1) := by decide +kernel
theorem dX9_mostGained_2 : decode cX9_mostGained 2 = .ok (.iconst 2, 1) := by decide +kernel
theorem dX9_mostGained_3 : decode cX9_mostGained 3 = .ok (.invokestatic 53, 3) := by decide +kernel
theorem dX9_mostGained_6 : decode cX9_mostGained 6 = .ok (.ifCond .ne 6, 3) := by decide +kernel
theorem dX9_mostGained_9 : decode cX9_mostGained 9 = .ok (.bipush (-2), 2) := by decide +kernel
theorem dX9_mostGained_11 : decode cX9_mostGained 11 = .ok (.ireturn, 1) := by decide +kernel
theorem dX9_mostGained_12 : decode cX9_mostGained 12 = .ok (.bipush (-6), 2) := by decide +kernel
theorem dX9_mostGained_14 : decode cX9_mostGained 14 = .ok (.istore_n 2, 1) := by decide +kernel
theorem dX9_mostGained_15 : decode cX9_mostGained 15 = .ok (.iconst (-1), 1) := by decide +kernel
theorem dX9_mostGained_16 : decode cX9_mostGained 16 = .ok (.istore_n 3, 1) := by decide +kernel
theorem dX9_mostGained_17 : decode cX9_mostGained 17 = .ok (.iconst 1, 1) := by decide +kernel
theorem dX9_mostGained_18 : decode cX9_mostGained 18 = .ok (.istore 4, 2) := by decide +kernel
theorem dX9_mostGained_20 : decode cX9_mostGained 20 = .ok (.iconst 1, 1) := by decide +kernel
theorem dX9_mostGained_21 : decode cX9_mostGained 21 = .ok (.istore 5, 2) := by decide +kernel
theorem dX9_mostGained_23 : decode cX9_mostGained 23 = .ok (.iload 5, 2) := by decide +kernel
theorem dX9_mostGained_25 : decode cX9_mostGained 25 = .ok (.bipush 100, 2) := by decide +kernel
theorem dX9_mostGained_27 : decode cX9_mostGained 27 = .ok (.if_icmp .ge 59, 3) := by decide +kernel
theorem dX9_mostGained_30 : decode cX9_mostGained 30 = .ok (.aload_n 0, 1) := by decide +kernel
theorem dX9_mostGained_31 : decode cX9_mostGained 31 = .ok (.iload 5, 2) := by decide +kernel
theorem dX9_mostGained_33 : decode cX9_mostGained 33 = .ok (.invokevirtual 124, 3) := by decide +kernel
theorem dX9_mostGained_36 : decode cX9_mostGained 36 = .ok (.aload_n 0, 1) := by decide +kernel
theorem dX9_mostGained_37 : decode cX9_mostGained 37 = .ok (.getfield 47, 3) := by decide +kernel
theorem dX9_mostGained_40 : decode cX9_mostGained 40 = .ok (.aload_n 0, 1) := by decide +kernel
theorem dX9_mostGained_41 : decode cX9_mostGained 41 = .ok (.iload 5, 2) := by decide +kernel
theorem dX9_mostGained_43 : decode cX9_mostGained 43 = .ok (.invokevirtual 81, 3) := by decide +kernel
theorem dX9_mostGained_46 : decode cX9_mostGained 46 = .ok (.aload_n 0, 1) := by decide +kernel
theorem dX9_mostGained_47 : decode cX9_mostGained 47 = .ok (.getfield 50, 3) := by decide +kernel
theorem dX9_mostGained_50 : decode cX9_mostGained 50 = .ok (.imul, 1) := by decide +kernel
theorem dX9_mostGained_51 : decode cX9_mostGained 51 = .ok (.isub, 1) := by decide +kernel
theorem dX9_mostGained_52 : decode cX9_mostGained 52 = .ok (.istore 6, 2) := by decide +kernel
theorem dX9_mostGained_54 : decode cX9_mostGained 54 = .ok (.iload 6, 2) := by decide +kernel
theorem dX9_mostGained_56 : decode cX9_mostGained 56 = .ok (.iload 4, 2) := by decide +kernel
theorem dX9_mostGained_58 : decode cX9_mostGained 58 = .ok (.imul, 1) := by decide +kernel
theorem dX9_mostGained_59 : decode cX9_mostGained 59 = .ok (.iload_n 3, 1) := by decide +kernel
theorem dX9_mostGained_60 : decode cX9_mostGained 60 = .ok (.aload_n 0, 1) := by decide +kernel
theorem dX9_mostGained_61 : decode cX9_mostGained 61 = .ok (.getfield 50, 3) := by decide +kernel
theorem dX9_mostGained_64 : decode cX9_mostGained 64 = .ok (.imul, 1) := by decide +kernel
theorem dX9_mostGained_65 : decode cX9_mostGained 65 = .ok (.if_icmp .le 15, 3) := by decide +kernel
theorem dX9_mostGained_68 : decode cX9_mostGained 68 = .ok (.iload 5, 2) := by decide +kernel
theorem dX9_mostGained_70 : decode cX9_mostGained 70 = .ok (.istore_n 2, 1) := by decide +kernel
theorem dX9_mostGained_71 : decode cX9_mostGained 71 = .ok (.iload 6, 2) := by decide +kernel
theorem dX9_mostGained_73 : decode cX9_mostGained 73 = .ok (.istore_n 3, 1) := by decide +kernel
theorem dX9_mostGained_74 : decode cX9_mostGained 74 = .ok (.aload_n 0, 1) := by decide +kernel
theorem dX9_mostGained_75 : decode cX9_mostGained 75 = .ok (.getfield 50, 3) := by decide +kernel
theorem dX9_mostGained_78 : decode cX9_mostGained 78 = .ok (.istore 4, 2) := by decide +kernel
theorem dX9_mostGained_80 : decode cX9_mostGained 80 = .ok (.iinc 5 1, 3) := by decide +kernel
theorem dX9_mostGained_83 : decode cX9_mostGained 83 = .ok (.goto (-60), 3) := by decide +kernel
theorem dX9_mostGained_86 : decode cX9_mostGained 86 = .ok (.aload_n 0, 1) := by decide +kernel
theorem dX9_mostGained_87 : decode cX9_mostGained 87 = .ok (.iload_n 3, 1) := by decide +kernel
theorem dX9_mostGained_88 : decode cX9_mostGained 88 = .ok (.iload 4, 2) := by decide +kernel
theorem dX9_mostGained_90 : decode cX9_mostGained 90 = .ok (.invokevirtual 88, 3) := by decide +kernel
theorem dX9_mostGained_93 : decode cX9_mostGained 93 = .ok (.iload_n 1, 1) := by decide +kernel
theorem dX9_mostGained_94 : decode cX9_mostGained 94 = .ok (.ifCond .ne 7, 3) := by decide +kernel
theorem dX9_mostGained_97 : decode cX9_mostGained 97 = .ok (.iload_n 2, 1) := by decide +kernel
theorem dX9_mostGained_98 : decode cX9_mostGained 98 = .ok (.goto 19, 3) := by decide +kernel
theorem dX9_mostGained_101 : decode cX9_mostGained 101 = .ok (.iload_n 1, 1) := by decide +kernel
theorem dX9_mostGained_102 : decode cX9_mostGained 102 = .ok (.iconst 1, 1) := by decide +kernel
theorem dX9_mostGained_103 : decode cX9_mostGained 103 = .ok (.if_icmp .ne 10, 3) := by decide +kernel
theorem dX9_mostGained_106 : decode cX9_mostGained 106 = .ok (.aload_n 0, 1) := by decide +kernel
theorem dX9_mostGained_107 : decode cX9_mostGained 107 = .ok (.getfield 47, 3) := by decide +kernel
theorem dX9_mostGained_110 : decode cX9_mostGained 110 = .ok (.goto 7, 3) := by decide +kernel
theorem dX9_mostGained_113 : decode cX9_mostGained 113 = .ok (.aload_n 0, 1) := by decide +kernel
theorem dX9_mostGained_114 : decode cX9_mostGained 114 = .ok (.getfield 50, 3) := by decide +kernel
theorem dX9_mostGained_117 : decode cX9_mostGained 117 = .ok (.ireturn, 1) := by decide +kernel
theorem dX9_put_0 : decode cX9_put 0 = .ok (.iconst 0, 1) := by decide +kernel
theorem dX9_put_1 : decode cX9_put 1 = .ok (.istore_n 3, 1) := by decide +kernel
theorem dX9_put_2 : decode cX9_put 2 = .ok (.lload_n 1, 1) := by decide +kernel
theorem dX9_put_3 : decode cX9_put 3 = .ok (.lstore 4, 2) := by decide +kernel
theorem dX9_put_5 : decode cX9_put 5 = .ok (.iconst 1, 1) := by decide +kernel
theorem dX9_put_6 : decode cX9_put 6 = .ok (.istore 6, 2) := by decide +kernel
theorem dX9_put_8 : decode cX9_put 8 = .ok (.iload_n 3, 1) := by decide +kernel
theorem dX9_put_9 : decode cX9_put 9 = .ok (.bipush 8, 2) := by decide +kernel
theorem dX9_put_11 : decode cX9_put 11 = .ok (.if_icmp .ge 56, 3) := by decide +kernel
theorem dX9_put_14 : decode cX9_put 14 = .ok (.lload 4, 2) := by decide +kernel
theorem dX9_put_16 : decode cX9_put 16 = .ok (.ldc2_w 153, 3) := by decide +kernel
theorem dX9_put_19 : decode cX9_put 19 = .ok (.land, 1) := by decide +kernel
theorem dX9_put_20 : decode cX9_put 20 = .ok (.lconst 0, 1) := by decide +kernel
theorem dX9_put_21 : decode cX9_put 21 = .ok (.lcmp, 1) := by decide +kernel
theorem dX9_put_22 : decode cX9_put 22 = .ok (.ifCond .eq 45, 3) := by decide +kernel
theorem dX9_put_25 : decode cX9_put 25 = .ok (.iload 6, 2) := by decide +kernel
theorem dX9_put_27 : decode cX9_put 27 = .ok (.ifCond .eq 24, 3) := by decide +kernel
theorem dX9_put_30 : decode cX9_put 30 = .ok (.lload 4, 2) := by decide +kernel
theorem dX9_put_32 : decode cX9_put 32 = .ok (.ldc2_w 153, 3) := by decide +kernel
theorem dX9_put_35 : decode cX9_put 35 = .ok (.land, 1) := by decide +kernel
theorem dX9_put_36 : decode cX9_put 36 = .ok (.l2i, 1) := by decide +kernel
theorem dX9_put_37 : decode cX9_put 37 = .ok (.bipush 33, 2) := by decide +kernel
theorem dX9_put_39 : decode cX9_put 39 = .ok (.bipush 126, 2) := by decide +kernel
theorem dX9_put_41 : decode cX9_put 41 = .ok (.invokestatic 53, 3) := by decide +kernel
theorem dX9_put_44 : decode cX9_put 44 = .ok (.ifCond .eq 7, 3) := by decide +kernel
theorem dX9_put_47 : decode cX9_put 47 = .ok (.iconst 1, 1) := by decide +kernel
theorem dX9_put_48 : decode cX9_put 48 = .ok (.goto 4, 3) := by decide +kernel
theorem dX9_put_51 : decode cX9_put 51 = .ok (.iconst 0, 1) := by decide +kernel
theorem dX9_put_52 : decode cX9_put 52 = .ok (.istore 6, 2) := by decide +kernel
theorem dX9_put_54 : decode cX9_put 54 = .ok (.lload 4, 2) := by decide +kernel
theorem dX9_put_56 : decode cX9_put 56 = .ok (.bipush 8, 2) := by decide +kernel
theorem dX9_put_58 : decode cX9_put 58 = .ok (.lushr, 1) := by decide +kernel
theorem dX9_put_59 : decode cX9_put 59 = .ok (.lstore 4, 2) := by decide +kernel
theorem dX9_put_61 : decode cX9_put 61 = .ok (.iinc 3 1, 3) := by decide +kernel
theorem dX9_put_64 : decode cX9_put 64 = .ok (.goto (-56), 3) := by decide +kernel
theorem dX9_put_67 : decode cX9_put 67 = .ok (.iload_n 3, 1) := by decide +kernel
theorem dX9_put_68 : decode cX9_put 68 = .ok (.ifCond .eq 15, 3) := by decide +kernel
theorem dX9_put_71 : decode cX9_put 71 = .ok (.iload 6, 2) := by decide +kernel
theorem dX9_put_73 : decode cX9_put 73 = .ok (.ifCond .eq 10, 3) := by decide +kernel
theorem dX9_put_76 : decode cX9_put 76 = .ok (.lload 4, 2) := by decide +kernel
theorem dX9_put_78 : decode cX9_put 78 = .ok (.lconst 0, 1) := by decide +kernel
theorem dX9_put_79 : decode cX9_put 79 = .ok (.lcmp, 1) := by decide +kernel
theorem dX9_put_80 : decode cX9_put 80 = .ok (.ifCond .eq 6, 3) := by decide +kernel
theorem dX9_put_83 : decode cX9_put 83 = .ok (.bipush (-2), 2) := by decide +kernel
theorem dX9_put_85 : decode cX9_put 85 = .ok (.ireturn, 1) := by decide +kernel
theorem dX9_put_86 : decode cX9_put 86 = .ok (.aload_n 0, 1) := by decide +kernel
theorem dX9_put_87 : decode cX9_put 87 = .ok (.getfield 150, 3) := by decide +kernel
theorem dX9_put_90 : decode cX9_put 90 = .ok (.iload_n 3, 1) := by decide +kernel
theorem dX9_put_91 : decode cX9_put 91 = .ok (.iadd, 1) := by decide +kernel
theorem dX9_put_92 : decode cX9_put 92 = .ok (.bipush 80, 2) := by decide +kernel
theorem dX9_put_94 : decode cX9_put 94 = .ok (.if_icmp .le 6, 3) := by decide +kernel
theorem dX9_put_97 : decode cX9_put 97 = .ok (.bipush (-4), 2) := by decide +kernel
theorem dX9_put_99 : decode cX9_put 99 = .ok (.ireturn, 1) := by decide +kernel
theorem dX9_put_100 : decode cX9_put 100 = .ok (.iload_n 3, 1) := by decide +kernel
theorem dX9_put_101 : decode cX9_put 101 = .ok (.iconst 1, 1) := by decide +kernel
theorem dX9_put_102 : decode cX9_put 102 = .ok (.isub, 1) := by decide +kernel
theorem dX9_put_103 : decode cX9_put 103 = .ok (.istore 7, 2) := by decide +kernel
theorem dX9_put_105 : decode cX9_put 105 = .ok (.iload 7, 2) := by decide +kernel
theorem dX9_put_107 : decode cX9_put 107 = .ok (.ifCond .lt 40, 3) := by decide +kernel
theorem dX9_put_110 : decode cX9_put 110 = .ok (.aload_n 0, 1) := by decide +kernel
theorem dX9_put_111 : decode cX9_put 111 = .ok (.getfield 22, 3) := by decide +kernel
theorem dX9_put_114 : decode cX9_put 114 = .ok (.aload_n 0, 1) := by decide +kernel
theorem dX9_put_115 : decode cX9_put 115 = .ok (.getfield 150, 3) := by decide +kernel
theorem dX9_put_118 : decode cX9_put 118 = .ok (.lload_n 1, 1) := by decide +kernel
theorem dX9_put_119 : decode cX9_put 119 = .ok (.bipush 8, 2) := by decide +kernel
theorem dX9_put_121 : decode cX9_put 121 = .ok (.iload 7, 2) := by decide +kernel
theorem dX9_put_123 : decode cX9_put 123 = .ok (.imul, 1) := by decide +kernel
theorem dX9_put_124 : decode cX9_put 124 = .ok (.lushr, 1) := by decide +kernel
theorem dX9_put_125 : decode cX9_put 125 = .ok (.ldc2_w 153, 3) := by decide +kernel
theorem dX9_put_128 : decode cX9_put 128 = .ok (.land, 1) := by decide +kernel
theorem dX9_put_129 : decode cX9_put 129 = .ok (.l2i, 1) := by decide +kernel
theorem dX9_put_130 : decode cX9_put 130 = .ok (.iastore, 1) := by decide +kernel
theorem dX9_put_131 : decode cX9_put 131 = .ok (.aload_n 0, 1) := by decide +kernel
theorem dX9_put_132 : decode cX9_put 132 = .ok (.dup, 1) := by decide +kernel
theorem dX9_put_133 : decode cX9_put 133 = .ok (.getfield 150, 3) := by decide +kernel
theorem dX9_put_136 : decode cX9_put 136 = .ok (.iconst 1, 1) := by decide +kernel
theorem dX9_put_137 : decode cX9_put 137 = .ok (.iadd, 1) := by decide +kernel
theorem dX9_put_138 : decode cX9_put 138 = .ok (.putfield 150, 3) := by decide +kernel
theorem dX9_put_141 : decode cX9_put 141 = .ok (.iinc 7 (-1), 3) := by decide +kernel
theorem dX9_put_144 : decode cX9_put 144 = .ok (.goto (-39), 3) := by decide +kernel
theorem dX9_put_147 : decode cX9_put 147 = .ok (.aload_n 0, 1) := by decide +kernel
theorem dX9_put_148 : decode cX9_put 148 = .ok (.getfield 150, 3) := by decide +kernel
theorem dX9_put_151 : decode cX9_put 151 = .ok (.ireturn, 1) := by decide +kernel
theorem dX9_wipe_0 : decode cX9_wipe 0 = .ok (.aload_n 0, 1) := by decide +kernel
theorem dX9_wipe_1 : decode cX9_wipe 1 = .ok (.getfield 150, 3) := by decide +kernel
theorem dX9_wipe_4 : decode cX9_wipe 4 = .ok (.istore_n 1, 1) := by decide +kernel
theorem dX9_wipe_5 : decode cX9_wipe 5 = .ok (.aload_n 0, 1) := by decide +kernel
theorem dX9_wipe_6 : decode cX9_wipe 6 = .ok (.iconst 0, 1) := by decide +kernel
theorem dX9_wipe_7 : decode cX9_wipe 7 = .ok (.putfield 150, 3) := by decide +kernel
theorem dX9_wipe_10 : decode cX9_wipe 10 = .ok (.iload_n 1, 1) := by decide +kernel
theorem dX9_wipe_11 : decode cX9_wipe 11 = .ok (.ireturn, 1) := by decide +kernel
theorem dX9_character_0 : decode cX9_character 0 = .ok (.iload_n 1, 1) := by decide +kernel
theorem dX9_character_1 : decode cX9_character 1 = .ok (.aload_n 0, 1) := by decide +kernel
theorem dX9_character_2 : decode cX9_character 2 = .ok (.getfield 150, 3) := by decide +kernel
theorem dX9_character_5 : decode cX9_character 5 = .ok (.if_icmp .ge 12, 3) := by decide +kernel
theorem dX9_character_8 : decode cX9_character 8 = .ok (.aload_n 0, 1) := by decide +kernel
theorem dX9_character_9 : decode cX9_character 9 = .ok (.getfield 22, 3) := by decide +kernel
theorem dX9_character_12 : decode cX9_character 12 = .ok (.iload_n 1, 1) := by decide +kernel
theorem dX9_character_13 : decode cX9_character 13 = .ok (.iaload, 1) := by decide +kernel
theorem dX9_character_14 : decode cX9_character 14 = .ok (.goto 4, 3) := by decide +kernel
theorem dX9_character_17 : decode cX9_character 17 = .ok (.iconst (-1), 1) := by decide +kernel
theorem dX9_character_18 : decode cX9_character 18 = .ok (.ireturn, 1) := by decide +kernel
theorem dX9_isNext_0 : decode cX9_isNext 0 = .ok (.aload_n 0, 1) := by decide +kernel
theorem dX9_isNext_1 : decode cX9_isNext 1 = .ok (.aload_n 0, 1) := by decide +kernel
theorem dX9_isNext_2 : decode cX9_isNext 2 = .ok (.getfield 155, 3) := by decide +kernel
theorem dX9_isNext_5 : decode cX9_isNext 5 = .ok (.invokevirtual 158, 3) := by decide +kernel
theorem dX9_isNext_8 : decode cX9_isNext 8 = .ok (.iload_n 1, 1) := by decide +kernel
theorem dX9_isNext_9 : decode cX9_isNext 9 = .ok (.if_icmp .ne 7, 3) := by decide +kernel
theorem dX9_isNext_12 : decode cX9_isNext 12 = .ok (.iconst 1, 1) := by decide +kernel
theorem dX9_isNext_13 : decode cX9_isNext 13 = .ok (.goto 4, 3) := by decide +kernel
theorem dX9_isNext_16 : decode cX9_isNext 16 = .ok (.iconst 0, 1) := by decide +kernel
theorem dX9_isNext_17 : decode cX9_isNext 17 = .ok (.istore_n 2, 1) := by decide +kernel
theorem dX9_isNext_18 : decode cX9_isNext 18 = .ok (.aload_n 0, 1) := by decide +kernel
theorem dX9_isNext_19 : decode cX9_isNext 19 = .ok (.dup, 1) := by decide +kernel
theorem dX9_isNext_20 : decode cX9_isNext 20 = .ok (.getfield 155, 3) := by decide +kernel
theorem dX9_isNext_23 : decode cX9_isNext 23 = .ok (.iload_n 2, 1) := by decide +kernel
theorem dX9_isNext_24 : decode cX9_isNext 24 = .ok (.ifCond .eq 7, 3) := by decide +kernel
theorem dX9_isNext_27 : decode cX9_isNext 27 = .ok (.iconst 1, 1) := by decide +kernel
theorem dX9_isNext_28 : decode cX9_isNext 28 = .ok (.goto 4, 3) := by decide +kernel
theorem dX9_isNext_31 : decode cX9_isNext 31 = .ok (.iconst 0, 1) := by decide +kernel
theorem dX9_isNext_32 : decode cX9_isNext 32 = .ok (.iadd, 1) := by decide +kernel
theorem dX9_isNext_33 : decode cX9_isNext 33 = .ok (.putfield 155, 3) := by decide +kernel
theorem dX9_isNext_36 : decode cX9_isNext 36 = .ok (.iload_n 2, 1) := by decide +kernel
theorem dX9_isNext_37 : decode cX9_isNext 37 = .ok (.ireturn, 1) := by decide +kernel
theorem dX9_takeDigit_0 : decode cX9_takeDigit 0 = .ok (.aload_n 0, 1) := by decide +kernel
theorem dX9_takeDigit_1 : decode cX9_takeDigit 1 = .ok (.aload_n 0, 1) := by decide +kernel
theorem dX9_takeDigit_2 : decode cX9_takeDigit 2 = .ok (.getfield 155, 3) := by decide +kernel
theorem dX9_takeDigit_5 : decode cX9_takeDigit 5 = .ok (.invokevirtual 158, 3) := by decide +kernel
theorem dX9_takeDigit_8 : decode cX9_takeDigit 8 = .ok (.bipush 48, 2) := by decide +kernel
theorem dX9_takeDigit_10 : decode cX9_takeDigit 10 = .ok (.isub, 1) := by decide +kernel
theorem dX9_takeDigit_11 : decode cX9_takeDigit 11 = .ok (.istore_n 2, 1) := by decide +kernel
theorem dX9_takeDigit_12 : decode cX9_takeDigit 12 = .ok (.iload_n 2, 1) := by decide +kernel
theorem dX9_takeDigit_13 : decode cX9_takeDigit 13 = .ok (.iconst 0, 1) := by decide +kernel
theorem dX9_takeDigit_14 : decode cX9_takeDigit 14 = .ok (.iload_n 1, 1) := by decide +kernel
theorem dX9_takeDigit_15 : decode cX9_takeDigit 15 = .ok (.invokestatic 53, 3) := by decide +kernel
theorem dX9_takeDigit_18 : decode cX9_takeDigit 18 = .ok (.ifCond .ne 5, 3) := by decide +kernel
theorem dX9_takeDigit_21 : decode cX9_takeDigit 21 = .ok (.iconst (-1), 1) := by decide +kernel
theorem dX9_takeDigit_22 : decode cX9_takeDigit 22 = .ok (.ireturn, 1) := by decide +kernel
theorem dX9_takeDigit_23 : decode cX9_takeDigit 23 = .ok (.aload_n 0, 1) := by decide +kernel
theorem dX9_takeDigit_24 : decode cX9_takeDigit 24 = .ok (.dup, 1) := by decide +kernel
theorem dX9_takeDigit_25 : decode cX9_takeDigit 25 = .ok (.getfield 155, 3) := by decide +kernel
theorem dX9_takeDigit_28 : decode cX9_takeDigit 28 = .ok (.iconst 1, 1) := by decide +kernel
theorem dX9_takeDigit_29 : decode cX9_takeDigit 29 = .ok (.iadd, 1) := by decide +kernel
theorem dX9_takeDigit_30 : decode cX9_takeDigit 30 = .ok (.putfield 155, 3) := by decide +kernel
theorem dX9_takeDigit_33 : decode cX9_takeDigit 33 = .ok (.iload_n 2, 1) := by decide +kernel
theorem dX9_takeDigit_34 : decode cX9_takeDigit 34 = .ok (.ireturn, 1) := by decide +kernel
theorem dX9_takeNumber_0 : decode cX9_takeNumber 0 = .ok (.aload_n 0, 1) := by decide +kernel
theorem dX9_takeNumber_1 : decode cX9_takeNumber 1 = .ok (.bipush 9, 2) := by decide +kernel
theorem dX9_takeNumber_3 : decode cX9_takeNumber 3 = .ok (.invokevirtual 161, 3) := by decide +kernel
theorem dX9_takeNumber_6 : decode cX9_takeNumber 6 = .ok (.istore_n 1, 1) := by decide +kernel
theorem dX9_takeNumber_7 : decode cX9_takeNumber 7 = .ok (.iload_n 1, 1) := by decide +kernel
theorem dX9_takeNumber_8 : decode cX9_takeNumber 8 = .ok (.ifCond .le 42, 3) := by decide +kernel
theorem dX9_takeNumber_11 : decode cX9_takeNumber 11 = .ok (.iload_n 1, 1) := by decide +kernel
theorem dX9_takeNumber_12 : decode cX9_takeNumber 12 = .ok (.bipush 100, 2) := by decide +kernel
theorem dX9_takeNumber_14 : decode cX9_takeNumber 14 = .ok (.if_icmp .ge 36, 3) := by decide +kernel
theorem dX9_takeNumber_17 : decode cX9_takeNumber 17 = .ok (.aload_n 0, 1) := by decide +kernel
theorem dX9_takeNumber_18 : decode cX9_takeNumber 18 = .ok (.aload_n 0, 1) := by decide +kernel
theorem dX9_takeNumber_19 : decode cX9_takeNumber 19 = .ok (.getfield 155, 3) := by decide +kernel
theorem dX9_takeNumber_22 : decode cX9_takeNumber 22 = .ok (.invokevirtual 158, 3) := by decide +kernel
theorem dX9_takeNumber_25 : decode cX9_takeNumber 25 = .ok (.bipush 48, 2) := by decide +kernel
theorem dX9_takeNumber_27 : decode cX9_takeNumber 27 = .ok (.bipush 57, 2) := by decide +kernel
theorem dX9_takeNumber_29 : decode cX9_takeNumber 29 = .ok (.invokestatic 53, 3) := by decide +kernel
theorem dX9_takeNumber_32 : decode cX9_takeNumber 32 = .ok (.ifCond .eq 18, 3) := by decide +kernel
theorem dX9_takeNumber_35 : decode cX9_takeNumber 35 = .ok (.bipush 10, 2) := by decide +kernel
theorem dX9_takeNumber_37 : decode cX9_takeNumber 37 = .ok (.iload_n 1, 1) := by decide +kernel
theorem dX9_takeNumber_38 : decode cX9_takeNumber 38 = .ok (.imul, 1) := by decide +kernel
theorem dX9_takeNumber_39 : decode cX9_takeNumber 39 = .ok (.aload_n 0, 1) := by decide +kernel
theorem dX9_takeNumber_40 : decode cX9_takeNumber 40 = .ok (.bipush 9, 2) := by decide +kernel
theorem dX9_takeNumber_42 : decode cX9_takeNumber 42 = .ok (.invokevirtual 161, 3) := by decide +kernel
theorem dX9_takeNumber_45 : decode cX9_takeNumber 45 = .ok (.iadd, 1) := by decide +kernel
theorem dX9_takeNumber_46 : decode cX9_takeNumber 46 = .ok (.istore_n 1, 1) := by decide +kernel
theorem dX9_takeNumber_47 : decode cX9_takeNumber 47 = .ok (.goto (-40), 3) := by decide +kernel
theorem dX9_takeNumber_50 : decode cX9_takeNumber 50 = .ok (.iload_n 1, 1) := by decide +kernel
theorem dX9_takeNumber_51 : decode cX9_takeNumber 51 = .ok (.ireturn, 1) := by decide +kernel
theorem dX9_readsReceiver_0 : decode cX9_readsReceiver 0 = .ok (.aload_n 0, 1) := by decide +kernel
theorem dX9_readsReceiver_1 : decode cX9_readsReceiver 1 = .ok (.aload_n 0, 1) := by decide +kernel
theorem dX9_readsReceiver_2 : decode cX9_readsReceiver 2 = .ok (.invokevirtual 164, 3) := by decide +kernel
theorem dX9_readsReceiver_5 : decode cX9_readsReceiver 5 = .ok (.putfield 167, 3) := by decide +kernel
theorem dX9_readsReceiver_8 : decode cX9_readsReceiver 8 = .ok (.aload_n 0, 1) := by decide +kernel
theorem dX9_readsReceiver_9 : decode cX9_readsReceiver 9 = .ok (.aload_n 0, 1) := by decide +kernel
theorem dX9_readsReceiver_10 : decode cX9_readsReceiver 10 = .ok (.getfield 167, 3) := by decide +kernel
theorem dX9_readsReceiver_13 : decode cX9_readsReceiver 13 = .ok (.ifCond .lt 19, 3) := by decide +kernel
theorem dX9_readsReceiver_16 : decode cX9_readsReceiver 16 = .ok (.aload_n 0, 1) := by decide +kernel
theorem dX9_readsReceiver_17 : decode cX9_readsReceiver 17 = .ok (.bipush 44, 2) := by decide +kernel
theorem dX9_readsReceiver_19 : decode cX9_readsReceiver 19 = .ok (.invokevirtual 170, 3) := by decide +kernel
theorem dX9_readsReceiver_22 : decode cX9_readsReceiver 22 = .ok (.ifCond .eq 10, 3) := by decide +kernel
theorem dX9_readsReceiver_25 : decode cX9_readsReceiver 25 = .ok (.aload_n 0, 1) := by decide +kernel
theorem dX9_readsReceiver_26 : decode cX9_readsReceiver 26 = .ok (.invokevirtual 164, 3) := by decide +kernel
theorem dX9_readsReceiver_29 : decode cX9_readsReceiver 29 = .ok (.goto 4, 3) := by decide +kernel
theorem dX9_readsReceiver_32 : decode cX9_readsReceiver 32 = .ok (.iconst (-1), 1) := by decide +kernel
theorem dX9_readsReceiver_33 : decode cX9_readsReceiver 33 = .ok (.putfield 173, 3) := by decide +kernel
theorem dX9_readsReceiver_36 : decode cX9_readsReceiver 36 = .ok (.aload_n 0, 1) := by decide +kernel
theorem dX9_readsReceiver_37 : decode cX9_readsReceiver 37 = .ok (.aload_n 0, 1) := by decide +kernel
theorem dX9_readsReceiver_38 : decode cX9_readsReceiver 38 = .ok (.getfield 173, 3) := by decide +kernel
theorem dX9_readsReceiver_41 : decode cX9_readsReceiver 41 = .ok (.ifCond .lt 19, 3) := by decide +kernel
theorem dX9_readsReceiver_44 : decode cX9_readsReceiver 44 = .ok (.aload_n 0, 1) := by decide +kernel
theorem dX9_readsReceiver_45 : decode cX9_readsReceiver 45 = .ok (.bipush 36, 2) := by decide +kernel
theorem dX9_readsReceiver_47 : decode cX9_readsReceiver 47 = .ok (.invokevirtual 170, 3) := by decide +kernel
theorem dX9_readsReceiver_50 : decode cX9_readsReceiver 50 = .ok (.ifCond .eq 10, 3) := by decide +kernel
theorem dX9_readsReceiver_53 : decode cX9_readsReceiver 53 = .ok (.aload_n 0, 1) := by decide +kernel
theorem dX9_readsReceiver_54 : decode cX9_readsReceiver 54 = .ok (.invokevirtual 164, 3) := by decide +kernel
theorem dX9_readsReceiver_57 : decode cX9_readsReceiver 57 = .ok (.goto 4, 3) := by decide +kernel
theorem dX9_readsReceiver_60 : decode cX9_readsReceiver 60 = .ok (.iconst (-1), 1) := by decide +kernel
theorem dX9_readsReceiver_61 : decode cX9_readsReceiver 61 = .ok (.putfield 176, 3) := by decide +kernel
theorem dX9_readsReceiver_64 : decode cX9_readsReceiver 64 = .ok (.aload_n 0, 1) := by decide +kernel
theorem dX9_readsReceiver_65 : decode cX9_readsReceiver 65 = .ok (.iconst 0, 1) := by decide +kernel
theorem dX9_readsReceiver_66 : decode cX9_readsReceiver 66 = .ok (.putfield 179, 3) := by decide +kernel
theorem dX9_readsReceiver_69 : decode cX9_readsReceiver 69 = .ok (.aload_n 0, 1) := by decide +kernel
theorem dX9_readsReceiver_70 : decode cX9_readsReceiver 70 = .ok (.getfield 176, 3) := by decide +kernel
theorem dX9_readsReceiver_73 : decode cX9_readsReceiver 73 = .ok (.ifCond .lt 48, 3) := by decide +kernel
theorem dX9_readsReceiver_76 : decode cX9_readsReceiver 76 = .ok (.aload_n 0, 1) := by decide +kernel
theorem dX9_readsReceiver_77 : decode cX9_readsReceiver 77 = .ok (.bipush 33, 2) := by decide +kernel
theorem dX9_readsReceiver_79 : decode cX9_readsReceiver 79 = .ok (.invokevirtual 170, 3) := by decide +kernel
theorem dX9_readsReceiver_82 : decode cX9_readsReceiver 82 = .ok (.ifCond .eq 39, 3) := by decide +kernel
theorem dX9_readsReceiver_85 : decode cX9_readsReceiver 85 = .ok (.aload_n 0, 1) := by decide +kernel
theorem dX9_readsReceiver_86 : decode cX9_readsReceiver 86 = .ok (.bipush 45, 2) := by decide +kernel
theorem dX9_readsReceiver_88 : decode cX9_readsReceiver 88 = .ok (.invokevirtual 170, 3) := by decide +kernel
theorem dX9_readsReceiver_91 : decode cX9_readsReceiver 91 = .ok (.istore_n 1, 1) := by decide +kernel
theorem dX9_readsReceiver_92 : decode cX9_readsReceiver 92 = .ok (.aload_n 0, 1) := by decide +kernel
theorem dX9_readsReceiver_93 : decode cX9_readsReceiver 93 = .ok (.invokevirtual 164, 3) := by decide +kernel
theorem dX9_readsReceiver_96 : decode cX9_readsReceiver 96 = .ok (.istore_n 2, 1) := by decide +kernel
theorem dX9_readsReceiver_97 : decode cX9_readsReceiver 97 = .ok (.aload_n 0, 1) := by decide +kernel
theorem dX9_readsReceiver_98 : decode cX9_readsReceiver 98 = .ok (.iload_n 1, 1) := by decide +kernel
theorem dX9_readsReceiver_99 : decode cX9_readsReceiver 99 = .ok (.ifCond .eq 8, 3) := by decide +kernel
theorem dX9_readsReceiver_102 : decode cX9_readsReceiver 102 = .ok (.iload_n 2, 1) := by decide +kernel
theorem dX9_readsReceiver_103 : decode cX9_readsReceiver 103 = .ok (.ineg, 1) := by decide +kernel
theorem dX9_readsReceiver_104 : decode cX9_readsReceiver 104 = .ok (.goto 4, 3) := by decide +kernel
theorem dX9_readsReceiver_107 : decode cX9_readsReceiver 107 = .ok (.iload_n 2, 1) := by decide +kernel
theorem dX9_readsReceiver_108 : decode cX9_readsReceiver 108 = .ok (.putfield 179, 3) := by decide +kernel
theorem dX9_readsReceiver_111 : decode cX9_readsReceiver 111 = .ok (.iload_n 2, 1) := by decide +kernel
theorem dX9_readsReceiver_112 : decode cX9_readsReceiver 112 = .ok (.ifCond .lt 7, 3) := by decide +kernel
theorem dX9_readsReceiver_115 : decode cX9_readsReceiver 115 = .ok (.iconst 1, 1) := by decide +kernel
theorem dX9_readsReceiver_116 : decode cX9_readsReceiver 116 = .ok (.goto 4, 3) := by decide +kernel
theorem dX9_readsReceiver_119 : decode cX9_readsReceiver 119 = .ok (.iconst 0, 1) := by decide +kernel
theorem dX9_readsReceiver_120 : decode cX9_readsReceiver 120 = .ok (.ireturn, 1) := by decide +kernel
theorem dX9_readsReceiver_121 : decode cX9_readsReceiver 121 = .ok (.aload_n 0, 1) := by decide +kernel
theorem dX9_readsReceiver_122 : decode cX9_readsReceiver 122 = .ok (.getfield 176, 3) := by decide +kernel
theorem dX9_readsReceiver_125 : decode cX9_readsReceiver 125 = .ok (.ifCond .lt 7, 3) := by decide +kernel
theorem dX9_readsReceiver_128 : decode cX9_readsReceiver 128 = .ok (.iconst 1, 1) := by decide +kernel
theorem dX9_readsReceiver_129 : decode cX9_readsReceiver 129 = .ok (.goto 4, 3) := by decide +kernel
theorem dX9_readsReceiver_132 : decode cX9_readsReceiver 132 = .ok (.iconst 0, 1) := by decide +kernel
theorem dX9_readsReceiver_133 : decode cX9_readsReceiver 133 = .ok (.ireturn, 1) := by decide +kernel
theorem dX9_readsParts_0 : decode cX9_readsParts 0 = .ok (.aload_n 0, 1) := by decide +kernel
theorem dX9_readsParts_1 : decode cX9_readsParts 1 = .ok (.iconst 0, 1) := by decide +kernel
theorem dX9_readsParts_2 : decode cX9_readsParts 2 = .ok (.putfield 72, 3) := by decide +kernel
theorem dX9_readsParts_5 : decode cX9_readsParts 5 = .ok (.aload_n 0, 1) := by decide +kernel
theorem dX9_readsParts_6 : decode cX9_readsParts 6 = .ok (.iconst 0, 1) := by decide +kernel
theorem dX9_readsParts_7 : decode cX9_readsParts 7 = .ok (.putfield 167, 3) := by decide +kernel
theorem dX9_readsParts_10 : decode cX9_readsParts 10 = .ok (.iconst 1, 1) := by decide +kernel
theorem dX9_readsParts_11 : decode cX9_readsParts 11 = .ok (.istore_n 1, 1) := by decide +kernel
theorem dX9_readsParts_12 : decode cX9_readsParts 12 = .ok (.iconst 0, 1) := by decide +kernel
theorem dX9_readsParts_13 : decode cX9_readsParts 13 = .ok (.istore_n 2, 1) := by decide +kernel
theorem dX9_readsParts_14 : decode cX9_readsParts 14 = .ok (.iload_n 1, 1) := by decide +kernel
theorem dX9_readsParts_15 : decode cX9_readsParts 15 = .ok (.ifCond .eq 118, 3) := by decide +kernel
theorem dX9_readsParts_18 : decode cX9_readsParts 18 = .ok (.aload_n 0, 1) := by decide +kernel
theorem dX9_readsParts_19 : decode cX9_readsParts 19 = .ok (.invokevirtual 164, 3) := by decide +kernel
theorem dX9_readsParts_22 : decode cX9_readsParts 22 = .ok (.istore_n 3, 1) := by decide +kernel
theorem dX9_readsParts_23 : decode cX9_readsParts 23 = .ok (.iload_n 3, 1) := by decide +kernel
theorem dX9_readsParts_24 : decode cX9_readsParts 24 = .ok (.ifCond .lt 19, 3) := by decide +kernel
theorem dX9_readsParts_27 : decode cX9_readsParts 27 = .ok (.aload_n 0, 1) := by decide +kernel
theorem dX9_readsParts_28 : decode cX9_readsParts 28 = .ok (.bipush 64, 2) := by decide +kernel
theorem dX9_readsParts_30 : decode cX9_readsParts 30 = .ok (.invokevirtual 170, 3) := by decide +kernel
theorem dX9_readsParts_33 : decode cX9_readsParts 33 = .ok (.ifCond .eq 10, 3) := by decide +kernel
theorem dX9_readsParts_36 : decode cX9_readsParts 36 = .ok (.aload_n 0, 1) := by decide +kernel
theorem dX9_readsParts_37 : decode cX9_readsParts 37 = .ok (.invokevirtual 164, 3) := by decide +kernel
theorem dX9_readsParts_40 : decode cX9_readsParts 40 = .ok (.goto 4, 3) := by decide +kernel
theorem dX9_readsParts_43 : decode cX9_readsParts 43 = .ok (.iconst (-1), 1) := by decide +kernel
theorem dX9_readsParts_44 : decode cX9_readsParts 44 = .ok (.istore 4, 2) := by decide +kernel
theorem dX9_readsParts_46 : decode cX9_readsParts 46 = .ok (.iload 4, 2) := by decide +kernel
theorem dX9_readsParts_48 : decode cX9_readsParts 48 = .ok (.ifCond .ge 5, 3) := by decide +kernel
theorem dX9_readsParts_51 : decode cX9_readsParts 51 = .ok (.iconst 0, 1) := by decide +kernel
theorem dX9_readsParts_52 : decode cX9_readsParts 52 = .ok (.ireturn, 1) := by decide +kernel
theorem dX9_readsParts_53 : decode cX9_readsParts 53 = .ok (.iload_n 3, 1) := by decide +kernel
theorem dX9_readsParts_54 : decode cX9_readsParts 54 = .ok (.ifCond .le 15, 3) := by decide +kernel
theorem dX9_readsParts_57 : decode cX9_readsParts 57 = .ok (.iload 4, 2) := by decide +kernel
theorem dX9_readsParts_59 : decode cX9_readsParts 59 = .ok (.invokestatic 137, 3) := by decide +kernel
theorem dX9_readsParts_62 : decode cX9_readsParts 62 = .ok (.ifCond .eq 7, 3) := by decide +kernel
theorem dX9_readsParts_65 : decode cX9_readsParts 65 = .ok (.iconst 1, 1) := by decide +kernel
theorem dX9_readsParts_66 : decode cX9_readsParts 66 = .ok (.goto 4, 3) := by decide +kernel
theorem dX9_readsParts_69 : decode cX9_readsParts 69 = .ok (.iconst 0, 1) := by decide +kernel
theorem dX9_readsParts_70 : decode cX9_readsParts 70 = .ok (.istore 5, 2) := by decide +kernel
theorem dX9_readsParts_72 : decode cX9_readsParts 72 = .ok (.aload_n 0, 1) := by decide +kernel
theorem dX9_readsParts_73 : decode cX9_readsParts 73 = .ok (.dup, 1) := by decide +kernel
theorem dX9_readsParts_74 : decode cX9_readsParts 74 = .ok (.getfield 167, 3) := by decide +kernel
theorem dX9_readsParts_77 : decode cX9_readsParts 77 = .ok (.iload 5, 2) := by decide +kernel
theorem dX9_readsParts_79 : decode cX9_readsParts 79 = .ok (.ifCond .eq 7, 3) := by decide +kernel
theorem dX9_readsParts_82 : decode cX9_readsParts 82 = .ok (.iconst 0, 1) := by decide +kernel
theorem dX9_readsParts_83 : decode cX9_readsParts 83 = .ok (.goto 4, 3) := by decide +kernel
theorem dX9_readsParts_86 : decode cX9_readsParts 86 = .ok (.iconst 1, 1) := by decide +kernel
theorem dX9_readsParts_87 : decode cX9_readsParts 87 = .ok (.iadd, 1) := by decide +kernel
theorem dX9_readsParts_88 : decode cX9_readsParts 88 = .ok (.putfield 167, 3) := by decide +kernel
theorem dX9_readsParts_91 : decode cX9_readsParts 91 = .ok (.aload_n 0, 1) := by decide +kernel
theorem dX9_readsParts_92 : decode cX9_readsParts 92 = .ok (.iload 5, 2) := by decide +kernel
theorem dX9_readsParts_94 : decode cX9_readsParts 94 = .ok (.ifCond .eq 7, 3) := by decide +kernel
theorem dX9_readsParts_97 : decode cX9_readsParts 97 = .ok (.iload_n 3, 1) := by decide +kernel
theorem dX9_readsParts_98 : decode cX9_readsParts 98 = .ok (.goto 4, 3) := by decide +kernel
theorem dX9_readsParts_101 : decode cX9_readsParts 101 = .ok (.iconst 0, 1) := by decide +kernel
theorem dX9_readsParts_102 : decode cX9_readsParts 102 = .ok (.iload 4, 2) := by decide +kernel
theorem dX9_readsParts_104 : decode cX9_readsParts 104 = .ok (.invokevirtual 75, 3) := by decide +kernel
theorem dX9_readsParts_107 : decode cX9_readsParts 107 = .ok (.iload_n 2, 1) := by decide +kernel
theorem dX9_readsParts_108 : decode cX9_readsParts 108 = .ok (.iconst 5, 1) := by decide +kernel
theorem dX9_readsParts_109 : decode cX9_readsParts 109 = .ok (.if_icmp .ge 16, 3) := by decide +kernel
theorem dX9_readsParts_112 : decode cX9_readsParts 112 = .ok (.aload_n 0, 1) := by decide +kernel
theorem dX9_readsParts_113 : decode cX9_readsParts 113 = .ok (.bipush 44, 2) := by decide +kernel
theorem dX9_readsParts_115 : decode cX9_readsParts 115 = .ok (.invokevirtual 170, 3) := by decide +kernel
theorem dX9_readsParts_118 : decode cX9_readsParts 118 = .ok (.ifCond .eq 7, 3) := by decide +kernel
theorem dX9_readsParts_121 : decode cX9_readsParts 121 = .ok (.iconst 1, 1) := by decide +kernel
theorem dX9_readsParts_122 : decode cX9_readsParts 122 = .ok (.goto 4, 3) := by decide +kernel
theorem dX9_readsParts_125 : decode cX9_readsParts 125 = .ok (.iconst 0, 1) := by decide +kernel
theorem dX9_readsParts_126 : decode cX9_readsParts 126 = .ok (.istore_n 1, 1) := by decide +kernel
theorem dX9_readsParts_127 : decode cX9_readsParts 127 = .ok (.iinc 2 1, 3) := by decide +kernel
theorem dX9_readsParts_130 : decode cX9_readsParts 130 = .ok (.goto (-116), 3) := by decide +kernel
theorem dX9_readsParts_133 : decode cX9_readsParts 133 = .ok (.iconst 1, 1) := by decide +kernel
theorem dX9_readsParts_134 : decode cX9_readsParts 134 = .ok (.ireturn, 1) := by decide +kernel
theorem dX9_readsOrder_0 : decode cX9_readsOrder 0 = .ok (.aload_n 0, 1) := by decide +kernel
theorem dX9_readsOrder_1 : decode cX9_readsOrder 1 = .ok (.aload_n 0, 1) := by decide +kernel
theorem dX9_readsOrder_2 : decode cX9_readsOrder 2 = .ok (.aload_n 0, 1) := by decide +kernel
theorem dX9_readsOrder_3 : decode cX9_readsOrder 3 = .ok (.getfield 155, 3) := by decide +kernel
theorem dX9_readsOrder_6 : decode cX9_readsOrder 6 = .ok (.invokevirtual 158, 3) := by decide +kernel
theorem dX9_readsOrder_9 : decode cX9_readsOrder 9 = .ok (.putfield 182, 3) := by decide +kernel
theorem dX9_readsOrder_12 : decode cX9_readsOrder 12 = .ok (.aload_n 0, 1) := by decide +kernel
theorem dX9_readsOrder_13 : decode cX9_readsOrder 13 = .ok (.dup, 1) := by decide +kernel
theorem dX9_readsOrder_14 : decode cX9_readsOrder 14 = .ok (.getfield 155, 3) := by decide +kernel
theorem dX9_readsOrder_17 : decode cX9_readsOrder 17 = .ok (.iconst 1, 1) := by decide +kernel
theorem dX9_readsOrder_18 : decode cX9_readsOrder 18 = .ok (.iadd, 1) := by decide +kernel
theorem dX9_readsOrder_19 : decode cX9_readsOrder 19 = .ok (.putfield 155, 3) := by decide +kernel
theorem dX9_readsOrder_22 : decode cX9_readsOrder 22 = .ok (.aload_n 0, 1) := by decide +kernel
theorem dX9_readsOrder_23 : decode cX9_readsOrder 23 = .ok (.getfield 182, 3) := by decide +kernel
theorem dX9_readsOrder_26 : decode cX9_readsOrder 26 = .ok (.lookupswitch 105 #[(45, 55), (98, 103), (112, 77), (114, 50), (115, 98)], 50) := by decide +kernel
theorem dX9_readsOrder_76 : decode cX9_readsOrder 76 = .ok (.aload_n 0, 1) := by decide +kernel
theorem dX9_readsOrder_77 : decode cX9_readsOrder 77 = .ok (.invokevirtual 185, 3) := by decide +kernel
theorem dX9_readsOrder_80 : decode cX9_readsOrder 80 = .ok (.ireturn, 1) := by decide +kernel
theorem dX9_readsOrder_81 : decode cX9_readsOrder 81 = .ok (.aload_n 0, 1) := by decide +kernel
theorem dX9_readsOrder_82 : decode cX9_readsOrder 82 = .ok (.aload_n 0, 1) := by decide +kernel
theorem dX9_readsOrder_83 : decode cX9_readsOrder 83 = .ok (.iconst 4, 1) := by decide +kernel
theorem dX9_readsOrder_84 : decode cX9_readsOrder 84 = .ok (.invokevirtual 161, 3) := by decide +kernel
theorem dX9_readsOrder_87 : decode cX9_readsOrder 87 = .ok (.putfield 167, 3) := by decide +kernel
theorem dX9_readsOrder_90 : decode cX9_readsOrder 90 = .ok (.aload_n 0, 1) := by decide +kernel
theorem dX9_readsOrder_91 : decode cX9_readsOrder 91 = .ok (.getfield 167, 3) := by decide +kernel
theorem dX9_readsOrder_94 : decode cX9_readsOrder 94 = .ok (.ifCond .lt 7, 3) := by decide +kernel
theorem dX9_readsOrder_97 : decode cX9_readsOrder 97 = .ok (.iconst 1, 1) := by decide +kernel
theorem dX9_readsOrder_98 : decode cX9_readsOrder 98 = .ok (.goto 4, 3) := by decide +kernel
theorem dX9_readsOrder_101 : decode cX9_readsOrder 101 = .ok (.iconst 0, 1) := by decide +kernel
theorem dX9_readsOrder_102 : decode cX9_readsOrder 102 = .ok (.ireturn, 1) := by decide +kernel
theorem dX9_readsOrder_103 : decode cX9_readsOrder 103 = .ok (.aload_n 0, 1) := by decide +kernel
theorem dX9_readsOrder_104 : decode cX9_readsOrder 104 = .ok (.aload_n 0, 1) := by decide +kernel
theorem dX9_readsOrder_105 : decode cX9_readsOrder 105 = .ok (.invokevirtual 164, 3) := by decide +kernel
theorem dX9_readsOrder_108 : decode cX9_readsOrder 108 = .ok (.putfield 167, 3) := by decide +kernel
theorem dX9_readsOrder_111 : decode cX9_readsOrder 111 = .ok (.aload_n 0, 1) := by decide +kernel
theorem dX9_readsOrder_112 : decode cX9_readsOrder 112 = .ok (.getfield 167, 3) := by decide +kernel
theorem dX9_readsOrder_115 : decode cX9_readsOrder 115 = .ok (.ifCond .lt 7, 3) := by decide +kernel
theorem dX9_readsOrder_118 : decode cX9_readsOrder 118 = .ok (.iconst 1, 1) := by decide +kernel
theorem dX9_readsOrder_119 : decode cX9_readsOrder 119 = .ok (.goto 4, 3) := by decide +kernel
theorem dX9_readsOrder_122 : decode cX9_readsOrder 122 = .ok (.iconst 0, 1) := by decide +kernel
theorem dX9_readsOrder_123 : decode cX9_readsOrder 123 = .ok (.ireturn, 1) := by decide +kernel
theorem dX9_readsOrder_124 : decode cX9_readsOrder 124 = .ok (.aload_n 0, 1) := by decide +kernel
theorem dX9_readsOrder_125 : decode cX9_readsOrder 125 = .ok (.invokevirtual 188, 3) := by decide +kernel
theorem dX9_readsOrder_128 : decode cX9_readsOrder 128 = .ok (.ireturn, 1) := by decide +kernel
theorem dX9_readsOrder_129 : decode cX9_readsOrder 129 = .ok (.iconst 1, 1) := by decide +kernel
theorem dX9_readsOrder_130 : decode cX9_readsOrder 130 = .ok (.ireturn, 1) := by decide +kernel
theorem dX9_readsOrder_131 : decode cX9_readsOrder 131 = .ok (.aload_n 0, 1) := by decide +kernel
theorem dX9_readsOrder_132 : decode cX9_readsOrder 132 = .ok (.dup, 1) := by decide +kernel
theorem dX9_readsOrder_133 : decode cX9_readsOrder 133 = .ok (.getfield 155, 3) := by decide +kernel
theorem dX9_readsOrder_136 : decode cX9_readsOrder 136 = .ok (.iconst 1, 1) := by decide +kernel
theorem dX9_readsOrder_137 : decode cX9_readsOrder 137 = .ok (.isub, 1) := by decide +kernel
theorem dX9_readsOrder_138 : decode cX9_readsOrder 138 = .ok (.putfield 155, 3) := by decide +kernel
theorem dX9_readsOrder_141 : decode cX9_readsOrder 141 = .ok (.iconst 0, 1) := by decide +kernel
theorem dX9_readsOrder_142 : decode cX9_readsOrder 142 = .ok (.ireturn, 1) := by decide +kernel
theorem dX9_findFault_0 : decode cX9_findFault 0 = .ok (.aload_n 0, 1) := by decide +kernel
theorem dX9_findFault_1 : decode cX9_findFault 1 = .ok (.iconst 0, 1) := by decide +kernel
theorem dX9_findFault_2 : decode cX9_findFault 2 = .ok (.putfield 155, 3) := by decide +kernel
theorem dX9_findFault_5 : decode cX9_findFault 5 = .ok (.aload_n 0, 1) := by decide +kernel
theorem dX9_findFault_6 : decode cX9_findFault 6 = .ok (.invokevirtual 191, 3) := by decide +kernel
theorem dX9_findFault_9 : decode cX9_findFault 9 = .ok (.ifCond .ne 8, 3) := by decide +kernel
theorem dX9_findFault_12 : decode cX9_findFault 12 = .ok (.aload_n 0, 1) := by decide +kernel
theorem dX9_findFault_13 : decode cX9_findFault 13 = .ok (.getfield 155, 3) := by decide +kernel
theorem dX9_findFault_16 : decode cX9_findFault 16 = .ok (.ireturn, 1) := by decide +kernel
theorem dX9_findFault_17 : decode cX9_findFault 17 = .ok (.aload_n 0, 1) := by decide +kernel
theorem dX9_findFault_18 : decode cX9_findFault 18 = .ok (.getfield 155, 3) := by decide +kernel
theorem dX9_findFault_21 : decode cX9_findFault 21 = .ok (.aload_n 0, 1) := by decide +kernel
theorem dX9_findFault_22 : decode cX9_findFault 22 = .ok (.getfield 150, 3) := by decide +kernel
theorem dX9_findFault_25 : decode cX9_findFault 25 = .ok (.if_icmp .ne 6, 3) := by decide +kernel
theorem dX9_findFault_28 : decode cX9_findFault 28 = .ok (.bipush (-6), 2) := by decide +kernel
theorem dX9_findFault_30 : decode cX9_findFault 30 = .ok (.ireturn, 1) := by decide +kernel
theorem dX9_findFault_31 : decode cX9_findFault 31 = .ok (.aload_n 0, 1) := by decide +kernel
theorem dX9_findFault_32 : decode cX9_findFault 32 = .ok (.bipush 59, 2) := by decide +kernel
theorem dX9_findFault_34 : decode cX9_findFault 34 = .ok (.invokevirtual 170, 3) := by decide +kernel
theorem dX9_findFault_37 : decode cX9_findFault 37 = .ok (.ifCond .ne (-32), 3) := by decide +kernel
theorem dX9_findFault_40 : decode cX9_findFault 40 = .ok (.aload_n 0, 1) := by decide +kernel
theorem dX9_findFault_41 : decode cX9_findFault 41 = .ok (.getfield 155, 3) := by decide +kernel
theorem dX9_findFault_44 : decode cX9_findFault 44 = .ok (.ireturn, 1) := by decide +kernel
theorem dX9_fault_0 : decode cX9_fault 0 = .ok (.aload_n 0, 1) := by decide +kernel
theorem dX9_fault_1 : decode cX9_fault 1 = .ok (.invokevirtual 194, 3) := by decide +kernel
theorem dX9_fault_4 : decode cX9_fault 4 = .ok (.ireturn, 1) := by decide +kernel
theorem dX9_areAverage_0 : decode cX9_areAverage 0 = .ok (.iconst 0, 1) := by decide +kernel
theorem dX9_areAverage_1 : decode cX9_areAverage 1 = .ok (.istore_n 1, 1) := by decide +kernel
theorem dX9_areAverage_2 : decode cX9_areAverage 2 = .ok (.iconst 0, 1) := by decide +kernel
theorem dX9_areAverage_3 : decode cX9_areAverage 3 = .ok (.istore_n 2, 1) := by decide +kernel
theorem dX9_areAverage_4 : decode cX9_areAverage 4 = .ok (.iload_n 2, 1) := by decide +kernel
theorem dX9_areAverage_5 : decode cX9_areAverage 5 = .ok (.aload_n 0, 1) := by decide +kernel
theorem dX9_areAverage_6 : decode cX9_areAverage 6 = .ok (.getfield 72, 3) := by decide +kernel
theorem dX9_areAverage_9 : decode cX9_areAverage 9 = .ok (.if_icmp .ge 32, 3) := by decide +kernel
theorem dX9_areAverage_12 : decode cX9_areAverage 12 = .ok (.iload_n 1, 1) := by decide +kernel
theorem dX9_areAverage_13 : decode cX9_areAverage 13 = .ok (.aload_n 0, 1) := by decide +kernel
theorem dX9_areAverage_14 : decode cX9_areAverage 14 = .ok (.getfield 25, 3) := by decide +kernel
theorem dX9_areAverage_17 : decode cX9_areAverage 17 = .ok (.iload_n 2, 1) := by decide +kernel
theorem dX9_areAverage_18 : decode cX9_areAverage 18 = .ok (.iaload, 1) := by decide +kernel
theorem dX9_areAverage_19 : decode cX9_areAverage 19 = .ok (.aload_n 0, 1) := by decide +kernel
theorem dX9_areAverage_20 : decode cX9_areAverage 20 = .ok (.getfield 28, 3) := by decide +kernel
theorem dX9_areAverage_23 : decode cX9_areAverage 23 = .ok (.iload_n 2, 1) := by decide +kernel
theorem dX9_areAverage_24 : decode cX9_areAverage 24 = .ok (.iaload, 1) := by decide +kernel
theorem dX9_areAverage_25 : decode cX9_areAverage 25 = .ok (.aload_n 0, 1) := by decide +kernel
theorem dX9_areAverage_26 : decode cX9_areAverage 26 = .ok (.getfield 7, 3) := by decide +kernel
theorem dX9_areAverage_29 : decode cX9_areAverage 29 = .ok (.iconst 0, 1) := by decide +kernel
theorem dX9_areAverage_30 : decode cX9_areAverage 30 = .ok (.iaload, 1) := by decide +kernel
theorem dX9_areAverage_31 : decode cX9_areAverage 31 = .ok (.isub, 1) := by decide +kernel
theorem dX9_areAverage_32 : decode cX9_areAverage 32 = .ok (.imul, 1) := by decide +kernel
theorem dX9_areAverage_33 : decode cX9_areAverage 33 = .ok (.iadd, 1) := by decide +kernel
theorem dX9_areAverage_34 : decode cX9_areAverage 34 = .ok (.istore_n 1, 1) := by decide +kernel
theorem dX9_areAverage_35 : decode cX9_areAverage 35 = .ok (.iinc 2 1, 3) := by decide +kernel
theorem dX9_areAverage_38 : decode cX9_areAverage 38 = .ok (.goto (-34), 3) := by decide +kernel
theorem dX9_areAverage_41 : decode cX9_areAverage 41 = .ok (.iload_n 1, 1) := by decide +kernel
theorem dX9_areAverage_42 : decode cX9_areAverage 42 = .ok (.ifCond .ne 7, 3) := by decide +kernel
theorem dX9_areAverage_45 : decode cX9_areAverage 45 = .ok (.iconst 1, 1) := by decide +kernel
theorem dX9_areAverage_46 : decode cX9_areAverage 46 = .ok (.goto 4, 3) := by decide +kernel
theorem dX9_areAverage_49 : decode cX9_areAverage 49 = .ok (.iconst 0, 1) := by decide +kernel
theorem dX9_areAverage_50 : decode cX9_areAverage 50 = .ok (.ireturn, 1) := by decide +kernel
theorem dX9_whyNoSplit_0 : decode cX9_whyNoSplit 0 = .ok (.aload_n 0, 1) := by decide +kernel
theorem dX9_whyNoSplit_1 : decode cX9_whyNoSplit 1 = .ok (.getfield 167, 3) := by decide +kernel
theorem dX9_whyNoSplit_4 : decode cX9_whyNoSplit 4 = .ok (.ifCond .le 8, 3) := by decide +kernel
theorem dX9_whyNoSplit_7 : decode cX9_whyNoSplit 7 = .ok (.bipush (-2), 2) := by decide +kernel
theorem dX9_whyNoSplit_9 : decode cX9_whyNoSplit 9 = .ok (.goto 28, 3) := by decide +kernel
theorem dX9_whyNoSplit_12 : decode cX9_whyNoSplit 12 = .ok (.aload_n 0, 1) := by decide +kernel
theorem dX9_whyNoSplit_13 : decode cX9_whyNoSplit 13 = .ok (.invokevirtual 120, 3) := by decide +kernel
theorem dX9_whyNoSplit_16 : decode cX9_whyNoSplit 16 = .ok (.ifCond .ne 8, 3) := by decide +kernel
theorem dX9_whyNoSplit_19 : decode cX9_whyNoSplit 19 = .ok (.bipush (-4), 2) := by decide +kernel
theorem dX9_whyNoSplit_21 : decode cX9_whyNoSplit 21 = .ok (.goto 16, 3) := by decide +kernel
theorem dX9_whyNoSplit_24 : decode cX9_whyNoSplit 24 = .ok (.aload_n 0, 1) := by decide +kernel
theorem dX9_whyNoSplit_25 : decode cX9_whyNoSplit 25 = .ok (.invokevirtual 197, 3) := by decide +kernel
theorem dX9_whyNoSplit_28 : decode cX9_whyNoSplit 28 = .ok (.ifCond .eq 7, 3) := by decide +kernel
theorem dX9_whyNoSplit_31 : decode cX9_whyNoSplit 31 = .ok (.iconst 0, 1) := by decide +kernel
theorem dX9_whyNoSplit_32 : decode cX9_whyNoSplit 32 = .ok (.goto 5, 3) := by decide +kernel
theorem dX9_whyNoSplit_35 : decode cX9_whyNoSplit 35 = .ok (.bipush (-5), 2) := by decide +kernel
theorem dX9_whyNoSplit_37 : decode cX9_whyNoSplit 37 = .ok (.ireturn, 1) := by decide +kernel
theorem dX9_whyNotDone_0 : decode cX9_whyNotDone 0 = .ok (.aload_n 0, 1) := by decide +kernel
theorem dX9_whyNotDone_1 : decode cX9_whyNotDone 1 = .ok (.getfield 182, 3) := by decide +kernel
theorem dX9_whyNotDone_4 : decode cX9_whyNotDone 4 = .ok (.lookupswitch 107 #[(45, 65), (112, 82), (114, 44), (115, 102)], 44) := by decide +kernel
theorem dX9_whyNotDone_48 : decode cX9_whyNotDone 48 = .ok (.aload_n 0, 1) := by decide +kernel
theorem dX9_whyNotDone_49 : decode cX9_whyNotDone 49 = .ok (.aload_n 0, 1) := by decide +kernel
theorem dX9_whyNotDone_50 : decode cX9_whyNotDone 50 = .ok (.getfield 167, 3) := by decide +kernel
theorem dX9_whyNotDone_53 : decode cX9_whyNotDone 53 = .ok (.aload_n 0, 1) := by decide +kernel
theorem dX9_whyNotDone_54 : decode cX9_whyNotDone 54 = .ok (.getfield 173, 3) := by decide +kernel
theorem dX9_whyNotDone_57 : decode cX9_whyNotDone 57 = .ok (.aload_n 0, 1) := by decide +kernel
theorem dX9_whyNotDone_58 : decode cX9_whyNotDone 58 = .ok (.getfield 176, 3) := by decide +kernel
theorem dX9_whyNotDone_61 : decode cX9_whyNotDone 61 = .ok (.aload_n 0, 1) := by decide +kernel
theorem dX9_whyNotDone_62 : decode cX9_whyNotDone 62 = .ok (.getfield 179, 3) := by decide +kernel
theorem dX9_whyNotDone_65 : decode cX9_whyNotDone 65 = .ok (.invokevirtual 103, 3) := by decide +kernel
theorem dX9_whyNotDone_68 : decode cX9_whyNotDone 68 = .ok (.ireturn, 1) := by decide +kernel
theorem dX9_whyNotDone_69 : decode cX9_whyNotDone 69 = .ok (.aload_n 0, 1) := by decide +kernel
theorem dX9_whyNotDone_70 : decode cX9_whyNotDone 70 = .ok (.aload_n 0, 1) := by decide +kernel
theorem dX9_whyNotDone_71 : decode cX9_whyNotDone 71 = .ok (.getfield 167, 3) := by decide +kernel
theorem dX9_whyNotDone_74 : decode cX9_whyNotDone 74 = .ok (.invokevirtual 110, 3) := by decide +kernel
theorem dX9_whyNotDone_77 : decode cX9_whyNotDone 77 = .ok (.ifCond .eq 7, 3) := by decide +kernel
theorem dX9_whyNotDone_80 : decode cX9_whyNotDone 80 = .ok (.iconst 0, 1) := by decide +kernel
theorem dX9_whyNotDone_81 : decode cX9_whyNotDone 81 = .ok (.goto 4, 3) := by decide +kernel
theorem dX9_whyNotDone_84 : decode cX9_whyNotDone 84 = .ok (.iconst (-1), 1) := by decide +kernel
theorem dX9_whyNotDone_85 : decode cX9_whyNotDone 85 = .ok (.ireturn, 1) := by decide +kernel
theorem dX9_whyNotDone_86 : decode cX9_whyNotDone 86 = .ok (.aload_n 0, 1) := by decide +kernel
theorem dX9_whyNotDone_87 : decode cX9_whyNotDone 87 = .ok (.getfield 167, 3) := by decide +kernel
theorem dX9_whyNotDone_90 : decode cX9_whyNotDone 90 = .ok (.iconst 1, 1) := by decide +kernel
theorem dX9_whyNotDone_91 : decode cX9_whyNotDone 91 = .ok (.bipush 99, 2) := by decide +kernel
theorem dX9_whyNotDone_93 : decode cX9_whyNotDone 93 = .ok (.invokestatic 53, 3) := by decide +kernel
theorem dX9_whyNotDone_96 : decode cX9_whyNotDone 96 = .ok (.ifCond .eq 7, 3) := by decide +kernel
theorem dX9_whyNotDone_99 : decode cX9_whyNotDone 99 = .ok (.iconst 0, 1) := by decide +kernel
theorem dX9_whyNotDone_100 : decode cX9_whyNotDone 100 = .ok (.goto 5, 3) := by decide +kernel
theorem dX9_whyNotDone_103 : decode cX9_whyNotDone 103 = .ok (.bipush (-2), 2) := by decide +kernel
theorem dX9_whyNotDone_105 : decode cX9_whyNotDone 105 = .ok (.ireturn, 1) := by decide +kernel
theorem dX9_whyNotDone_106 : decode cX9_whyNotDone 106 = .ok (.aload_n 0, 1) := by decide +kernel
theorem dX9_whyNotDone_107 : decode cX9_whyNotDone 107 = .ok (.invokevirtual 200, 3) := by decide +kernel
theorem dX9_whyNotDone_110 : decode cX9_whyNotDone 110 = .ok (.ireturn, 1) := by decide +kernel
theorem dX9_whyNotDone_111 : decode cX9_whyNotDone 111 = .ok (.iconst 0, 1) := by decide +kernel
theorem dX9_whyNotDone_112 : decode cX9_whyNotDone 112 = .ok (.ireturn, 1) := by decide +kernel
theorem dX9_does_0 : decode cX9_does 0 = .ok (.aload_n 0, 1) := by decide +kernel
theorem dX9_does_1 : decode cX9_does 1 = .ok (.getfield 182, 3) := by decide +kernel
theorem dX9_does_4 : decode cX9_does 4 = .ok (.lookupswitch 98 #[(45, 68), (112, 80), (114, 44), (115, 91)], 44) := by decide +kernel
theorem dX9_does_48 : decode cX9_does 48 = .ok (.aload_n 0, 1) := by decide +kernel
theorem dX9_does_49 : decode cX9_does 49 = .ok (.aload_n 0, 1) := by decide +kernel
theorem dX9_does_50 : decode cX9_does 50 = .ok (.getfield 167, 3) := by decide +kernel
theorem dX9_does_53 : decode cX9_does 53 = .ok (.aload_n 0, 1) := by decide +kernel
theorem dX9_does_54 : decode cX9_does 54 = .ok (.getfield 173, 3) := by decide +kernel
theorem dX9_does_57 : decode cX9_does 57 = .ok (.aload_n 0, 1) := by decide +kernel
theorem dX9_does_58 : decode cX9_does 58 = .ok (.getfield 176, 3) := by decide +kernel
theorem dX9_does_61 : decode cX9_does 61 = .ok (.aload_n 0, 1) := by decide +kernel
theorem dX9_does_62 : decode cX9_does 62 = .ok (.getfield 179, 3) := by decide +kernel
theorem dX9_does_65 : decode cX9_does 65 = .ok (.invokevirtual 107, 3) := by decide +kernel
theorem dX9_does_68 : decode cX9_does 68 = .ok (.pop, 1) := by decide +kernel
theorem dX9_does_69 : decode cX9_does 69 = .ok (.goto 38, 3) := by decide +kernel
theorem dX9_does_72 : decode cX9_does 72 = .ok (.aload_n 0, 1) := by decide +kernel
theorem dX9_does_73 : decode cX9_does 73 = .ok (.aload_n 0, 1) := by decide +kernel
theorem dX9_does_74 : decode cX9_does 74 = .ok (.getfield 167, 3) := by decide +kernel
theorem dX9_does_77 : decode cX9_does 77 = .ok (.invokevirtual 114, 3) := by decide +kernel
theorem dX9_does_80 : decode cX9_does 80 = .ok (.pop, 1) := by decide +kernel
theorem dX9_does_81 : decode cX9_does 81 = .ok (.goto 26, 3) := by decide +kernel
theorem dX9_does_84 : decode cX9_does 84 = .ok (.aload_n 0, 1) := by decide +kernel
theorem dX9_does_85 : decode cX9_does 85 = .ok (.aload_n 0, 1) := by decide +kernel
theorem dX9_does_86 : decode cX9_does 86 = .ok (.getfield 167, 3) := by decide +kernel
theorem dX9_does_89 : decode cX9_does 89 = .ok (.invokevirtual 100, 3) := by decide +kernel
theorem dX9_does_92 : decode cX9_does 92 = .ok (.goto 15, 3) := by decide +kernel
theorem dX9_does_95 : decode cX9_does 95 = .ok (.aload_n 0, 1) := by decide +kernel
theorem dX9_does_96 : decode cX9_does 96 = .ok (.invokevirtual 78, 3) := by decide +kernel
theorem dX9_does_99 : decode cX9_does 99 = .ok (.goto 8, 3) := by decide +kernel
theorem dX9_does_102 : decode cX9_does 102 = .ok (.aload_n 0, 1) := by decide +kernel
theorem dX9_does_103 : decode cX9_does 103 = .ok (.invokevirtual 131, 3) := by decide +kernel
theorem dX9_does_106 : decode cX9_does 106 = .ok (.pop, 1) := by decide +kernel
theorem dX9_does_107 : decode cX9_does 107 = .ok (.return_, 1) := by decide +kernel
theorem dX9_carryOut_0 : decode cX9_carryOut 0 = .ok (.aload_n 0, 1) := by decide +kernel
theorem dX9_carryOut_1 : decode cX9_carryOut 1 = .ok (.invokevirtual 194, 3) := by decide +kernel
theorem dX9_carryOut_4 : decode cX9_carryOut 4 = .ok (.bipush (-6), 2) := by decide +kernel
theorem dX9_carryOut_6 : decode cX9_carryOut 6 = .ok (.if_icmp .eq 6, 3) := by decide +kernel
theorem dX9_carryOut_9 : decode cX9_carryOut 9 = .ok (.bipush (-3), 2) := by decide +kernel
theorem dX9_carryOut_11 : decode cX9_carryOut 11 = .ok (.ireturn, 1) := by decide +kernel
theorem dX9_carryOut_12 : decode cX9_carryOut 12 = .ok (.aload_n 0, 1) := by decide +kernel
theorem dX9_carryOut_13 : decode cX9_carryOut 13 = .ok (.invokevirtual 97, 3) := by decide +kernel
theorem dX9_carryOut_16 : decode cX9_carryOut 16 = .ok (.iconst 0, 1) := by decide +kernel
theorem dX9_carryOut_17 : decode cX9_carryOut 17 = .ok (.istore_n 1, 1) := by decide +kernel
theorem dX9_carryOut_18 : decode cX9_carryOut 18 = .ok (.aload_n 0, 1) := by decide +kernel
theorem dX9_carryOut_19 : decode cX9_carryOut 19 = .ok (.iconst 0, 1) := by decide +kernel
theorem dX9_carryOut_20 : decode cX9_carryOut 20 = .ok (.putfield 155, 3) := by decide +kernel
theorem dX9_carryOut_23 : decode cX9_carryOut 23 = .ok (.iconst 1, 1) := by decide +kernel
theorem dX9_carryOut_24 : decode cX9_carryOut 24 = .ok (.istore_n 2, 1) := by decide +kernel
theorem dX9_carryOut_25 : decode cX9_carryOut 25 = .ok (.iload_n 2, 1) := by decide +kernel
theorem dX9_carryOut_26 : decode cX9_carryOut 26 = .ok (.ifCond .eq 53, 3) := by decide +kernel
theorem dX9_carryOut_29 : decode cX9_carryOut 29 = .ok (.aload_n 0, 1) := by decide +kernel
theorem dX9_carryOut_30 : decode cX9_carryOut 30 = .ok (.getfield 155, 3) := by decide +kernel
theorem dX9_carryOut_33 : decode cX9_carryOut 33 = .ok (.aload_n 0, 1) := by decide +kernel
theorem dX9_carryOut_34 : decode cX9_carryOut 34 = .ok (.getfield 150, 3) := by decide +kernel
theorem dX9_carryOut_37 : decode cX9_carryOut 37 = .ok (.if_icmp .ge 42, 3) := by decide +kernel
theorem dX9_carryOut_40 : decode cX9_carryOut 40 = .ok (.aload_n 0, 1) := by decide +kernel
theorem dX9_carryOut_41 : decode cX9_carryOut 41 = .ok (.invokevirtual 191, 3) := by decide +kernel
theorem dX9_carryOut_44 : decode cX9_carryOut 44 = .ok (.pop, 1) := by decide +kernel
theorem dX9_carryOut_45 : decode cX9_carryOut 45 = .ok (.aload_n 0, 1) := by decide +kernel
theorem dX9_carryOut_46 : decode cX9_carryOut 46 = .ok (.bipush 59, 2) := by decide +kernel
theorem dX9_carryOut_48 : decode cX9_carryOut 48 = .ok (.invokevirtual 170, 3) := by decide +kernel
theorem dX9_carryOut_51 : decode cX9_carryOut 51 = .ok (.pop, 1) := by decide +kernel
theorem dX9_carryOut_52 : decode cX9_carryOut 52 = .ok (.aload_n 0, 1) := by decide +kernel
theorem dX9_carryOut_53 : decode cX9_carryOut 53 = .ok (.invokevirtual 203, 3) := by decide +kernel
theorem dX9_carryOut_56 : decode cX9_carryOut 56 = .ok (.ifCond .ne 7, 3) := by decide +kernel
theorem dX9_carryOut_59 : decode cX9_carryOut 59 = .ok (.iconst 1, 1) := by decide +kernel
theorem dX9_carryOut_60 : decode cX9_carryOut 60 = .ok (.goto 4, 3) := by decide +kernel
theorem dX9_carryOut_63 : decode cX9_carryOut 63 = .ok (.iconst 0, 1) := by decide +kernel
theorem dX9_carryOut_64 : decode cX9_carryOut 64 = .ok (.istore_n 2, 1) := by decide +kernel
theorem dX9_carryOut_65 : decode cX9_carryOut 65 = .ok (.iload_n 2, 1) := by decide +kernel
theorem dX9_carryOut_66 : decode cX9_carryOut 66 = .ok (.ifCond .eq (-41), 3) := by decide +kernel
theorem dX9_carryOut_69 : decode cX9_carryOut 69 = .ok (.aload_n 0, 1) := by decide +kernel
theorem dX9_carryOut_70 : decode cX9_carryOut 70 = .ok (.invokevirtual 206, 3) := by decide +kernel
theorem dX9_carryOut_73 : decode cX9_carryOut 73 = .ok (.iinc 1 1, 3) := by decide +kernel
theorem dX9_carryOut_76 : decode cX9_carryOut 76 = .ok (.goto (-51), 3) := by decide +kernel
theorem dX9_carryOut_79 : decode cX9_carryOut 79 = .ok (.aload_n 0, 1) := by decide +kernel
theorem dX9_carryOut_80 : decode cX9_carryOut 80 = .ok (.iconst 0, 1) := by decide +kernel
theorem dX9_carryOut_81 : decode cX9_carryOut 81 = .ok (.putfield 150, 3) := by decide +kernel
theorem dX9_carryOut_84 : decode cX9_carryOut 84 = .ok (.iload_n 1, 1) := by decide +kernel
theorem dX9_carryOut_85 : decode cX9_carryOut 85 = .ok (.ireturn, 1) := by decide +kernel
theorem dX9_undo_0 : decode cX9_undo 0 = .ok (.aload_n 0, 1) := by decide +kernel
theorem dX9_undo_1 : decode cX9_undo 1 = .ok (.getfield 35, 3) := by decide +kernel
theorem dX9_undo_4 : decode cX9_undo 4 = .ok (.ifCond .ne 6, 3) := by decide +kernel
theorem dX9_undo_7 : decode cX9_undo 7 = .ok (.bipush (-5), 2) := by decide +kernel
theorem dX9_undo_9 : decode cX9_undo 9 = .ok (.ireturn, 1) := by decide +kernel
theorem dX9_undo_10 : decode cX9_undo 10 = .ok (.aload_n 0, 1) := by decide +kernel
theorem dX9_undo_11 : decode cX9_undo 11 = .ok (.dup, 1) := by decide +kernel
theorem dX9_undo_12 : decode cX9_undo 12 = .ok (.getfield 35, 3) := by decide +kernel
theorem dX9_undo_15 : decode cX9_undo 15 = .ok (.iconst 1, 1) := by decide +kernel
theorem dX9_undo_16 : decode cX9_undo 16 = .ok (.isub, 1) := by decide +kernel
theorem dX9_undo_17 : decode cX9_undo 17 = .ok (.putfield 35, 3) := by decide +kernel
theorem dX9_undo_20 : decode cX9_undo 20 = .ok (.aload_n 0, 1) := by decide +kernel
theorem dX9_undo_21 : decode cX9_undo 21 = .ok (.getfield 13, 3) := by decide +kernel
theorem dX9_undo_24 : decode cX9_undo 24 = .ok (.aload_n 0, 1) := by decide +kernel
theorem dX9_undo_25 : decode cX9_undo 25 = .ok (.getfield 35, 3) := by decide +kernel
theorem dX9_undo_28 : decode cX9_undo 28 = .ok (.bipush 35, 2) := by decide +kernel
theorem dX9_undo_30 : decode cX9_undo 30 = .ok (.imul, 1) := by decide +kernel
theorem dX9_undo_31 : decode cX9_undo 31 = .ok (.aload_n 0, 1) := by decide +kernel
theorem dX9_undo_32 : decode cX9_undo 32 = .ok (.getfield 7, 3) := by decide +kernel
theorem dX9_undo_35 : decode cX9_undo 35 = .ok (.iconst 0, 1) := by decide +kernel
theorem dX9_undo_36 : decode cX9_undo 36 = .ok (.invokestatic 39, 3) := by decide +kernel
theorem dX9_undo_39 : decode cX9_undo 39 = .ok (.aload_n 0, 1) := by decide +kernel
theorem dX9_undo_40 : decode cX9_undo 40 = .ok (.getfield 35, 3) := by decide +kernel
theorem dX9_undo_43 : decode cX9_undo 43 = .ok (.ireturn, 1) := by decide +kernel
theorem dX9_save_0 : decode cX9_save 0 = .ok (.iload_n 1, 1) := by decide +kernel
theorem dX9_save_1 : decode cX9_save 1 = .ok (.iconst 0, 1) := by decide +kernel
theorem dX9_save_2 : decode cX9_save 2 = .ok (.iconst 1, 1) := by decide +kernel
theorem dX9_save_3 : decode cX9_save 3 = .ok (.invokestatic 53, 3) := by decide +kernel
theorem dX9_save_6 : decode cX9_save 6 = .ok (.ifCond .ne 6, 3) := by decide +kernel
theorem dX9_save_9 : decode cX9_save 9 = .ok (.bipush (-2), 2) := by decide +kernel
theorem dX9_save_11 : decode cX9_save 11 = .ok (.ireturn, 1) := by decide +kernel
theorem dX9_save_12 : decode cX9_save 12 = .ok (.aload_n 0, 1) := by decide +kernel
theorem dX9_save_13 : decode cX9_save 13 = .ok (.getfield 7, 3) := by decide +kernel
theorem dX9_save_16 : decode cX9_save 16 = .ok (.iconst 0, 1) := by decide +kernel
theorem dX9_save_17 : decode cX9_save 17 = .ok (.aload_n 0, 1) := by decide +kernel
theorem dX9_save_18 : decode cX9_save 18 = .ok (.getfield 16, 3) := by decide +kernel
theorem dX9_save_21 : decode cX9_save 21 = .ok (.bipush 35, 2) := by decide +kernel
theorem dX9_save_23 : decode cX9_save 23 = .ok (.iload_n 1, 1) := by decide +kernel
theorem dX9_save_24 : decode cX9_save 24 = .ok (.imul, 1) := by decide +kernel
theorem dX9_save_25 : decode cX9_save 25 = .ok (.invokestatic 39, 3) := by decide +kernel
theorem dX9_save_28 : decode cX9_save 28 = .ok (.aload_n 0, 1) := by decide +kernel
theorem dX9_save_29 : decode cX9_save 29 = .ok (.getfield 19, 3) := by decide +kernel
theorem dX9_save_32 : decode cX9_save 32 = .ok (.iload_n 1, 1) := by decide +kernel
theorem dX9_save_33 : decode cX9_save 33 = .ok (.iconst 1, 1) := by decide +kernel
theorem dX9_save_34 : decode cX9_save 34 = .ok (.iastore, 1) := by decide +kernel
theorem dX9_save_35 : decode cX9_save 35 = .ok (.aload_n 0, 1) := by decide +kernel
theorem dX9_save_36 : decode cX9_save 36 = .ok (.getfield 7, 3) := by decide +kernel
theorem dX9_save_39 : decode cX9_save 39 = .ok (.iconst 0, 1) := by decide +kernel
theorem dX9_save_40 : decode cX9_save 40 = .ok (.iaload, 1) := by decide +kernel
theorem dX9_save_41 : decode cX9_save 41 = .ok (.ireturn, 1) := by decide +kernel
theorem dX9_restore_0 : decode cX9_restore 0 = .ok (.iload_n 1, 1) := by decide +kernel
theorem dX9_restore_1 : decode cX9_restore 1 = .ok (.iconst 0, 1) := by decide +kernel
theorem dX9_restore_2 : decode cX9_restore 2 = .ok (.iconst 1, 1) := by decide +kernel
theorem dX9_restore_3 : decode cX9_restore 3 = .ok (.invokestatic 53, 3) := by decide +kernel
theorem dX9_restore_6 : decode cX9_restore 6 = .ok (.ifCond .ne 6, 3) := by decide +kernel
theorem dX9_restore_9 : decode cX9_restore 9 = .ok (.bipush (-2), 2) := by decide +kernel
theorem dX9_restore_11 : decode cX9_restore 11 = .ok (.ireturn, 1) := by decide +kernel
theorem dX9_restore_12 : decode cX9_restore 12 = .ok (.aload_n 0, 1) := by decide +kernel
theorem dX9_restore_13 : decode cX9_restore 13 = .ok (.getfield 19, 3) := by decide +kernel
theorem dX9_restore_16 : decode cX9_restore 16 = .ok (.iload_n 1, 1) := by decide +kernel
theorem dX9_restore_17 : decode cX9_restore 17 = .ok (.iaload, 1) := by decide +kernel
theorem dX9_restore_18 : decode cX9_restore 18 = .ok (.ifCond .ne 6, 3) := by decide +kernel
theorem dX9_restore_21 : decode cX9_restore 21 = .ok (.bipush (-5), 2) := by decide +kernel
theorem dX9_restore_23 : decode cX9_restore 23 = .ok (.ireturn, 1) := by decide +kernel
theorem dX9_restore_24 : decode cX9_restore 24 = .ok (.aload_n 0, 1) := by decide +kernel
theorem dX9_restore_25 : decode cX9_restore 25 = .ok (.invokevirtual 97, 3) := by decide +kernel
theorem dX9_restore_28 : decode cX9_restore 28 = .ok (.aload_n 0, 1) := by decide +kernel
theorem dX9_restore_29 : decode cX9_restore 29 = .ok (.getfield 16, 3) := by decide +kernel
theorem dX9_restore_32 : decode cX9_restore 32 = .ok (.bipush 35, 2) := by decide +kernel
theorem dX9_restore_34 : decode cX9_restore 34 = .ok (.iload_n 1, 1) := by decide +kernel
theorem dX9_restore_35 : decode cX9_restore 35 = .ok (.imul, 1) := by decide +kernel
theorem dX9_restore_36 : decode cX9_restore 36 = .ok (.aload_n 0, 1) := by decide +kernel
theorem dX9_restore_37 : decode cX9_restore 37 = .ok (.getfield 7, 3) := by decide +kernel
theorem dX9_restore_40 : decode cX9_restore 40 = .ok (.iconst 0, 1) := by decide +kernel
theorem dX9_restore_41 : decode cX9_restore 41 = .ok (.invokestatic 39, 3) := by decide +kernel
theorem dX9_restore_44 : decode cX9_restore 44 = .ok (.aload_n 0, 1) := by decide +kernel
theorem dX9_restore_45 : decode cX9_restore 45 = .ok (.getfield 7, 3) := by decide +kernel
theorem dX9_restore_48 : decode cX9_restore 48 = .ok (.iconst 0, 1) := by decide +kernel
theorem dX9_restore_49 : decode cX9_restore 49 = .ok (.iaload, 1) := by decide +kernel
theorem dX9_restore_50 : decode cX9_restore 50 = .ok (.ireturn, 1) := by decide +kernel
end
section
set_option maxRecDepth 20000 in
theorem ggX0_draw_X5_valueAt : GoodIn wsX0_draw wsX5_valueAt := goodIn_r _ [8, 9, 10, 11, 12, 13, 14, 7, 15, 16, 17, 30, 31, 32, 33, 34] (by decide +kernel) (by decide +kernel)
set_option maxRecDepth 20000 in
theorem gX0_draw_X5_valueAt : GoodIn wsX0_draw (wsV RX0 34 RX5 yX5_valueAt wsX5_valueAt) := goodIn_app (goodIn_of _ (by decide +kernel)) ggX0_draw_X5_valueAt
set_option maxRecDepth 20000 in
theorem ggX0_draw_X0_heightOver : GoodIn wsX0_draw wsX0_heightOver := goodIn_r _ [22, 2, 23, 24, 25, 26, 27, 28, 29] (by decide +kernel) (by decide +kernel)
set_option maxRecDepth 20000 in
theorem gX0_draw_X0_heightOver : GoodIn wsX0_draw (wsV RX0 40 RX0 yX0_heightOver wsX0_heightOver) := goodIn_app (goodIn_of _ (by decide +kernel)) ggX0_draw_X0_heightOver
set_option maxRecDepth 20000 in
theorem ggX0_aim_X0_heightOver : GoodIn wsX0_aim wsX0_heightOver := goodIn_r _ [15, 16, 23, 24, 25, 26, 27, 28, 29] (by decide +kernel) (by decide +kernel)
set_option maxRecDepth 20000 in
theorem gX0_aim_X0_heightOver : GoodIn wsX0_aim (wsV RX0 40 RX0 yX0_heightOver wsX0_heightOver) := goodIn_app (goodIn_of _ (by decide +kernel)) ggX0_aim_X0_heightOver
set_option maxRecDepth 20000 in
theorem ggX0_aim_X8_commonDivisor : GoodIn wsX0_aim wsX8_commonDivisor := goodIn_r _ [19, 20, 21, 9, 22] (by decide +kernel) (by decide +kernel)
set_option maxRecDepth 20000 in
theorem gX0_aim_X8_commonDivisor_n44 : GoodIn wsX0_aim (wsX8_commonDivisor) := ggX0_aim_X8_commonDivisor
set_option maxRecDepth 20000 in
theorem ggX0_tellEnvelope_X0_valueSum : GoodIn wsX0_tellEnvelope wsX0_valueSum := goodIn_r _ [7, 1, 8, 9, 2, 10, 25, 26, 27, 28, 29, 30, 31] (by decide +kernel) (by decide +kernel)
set_option maxRecDepth 20000 in
theorem gX0_tellEnvelope_X0_valueSum : GoodIn wsX0_tellEnvelope (wsV RX0 53 RX0 yX0_valueSum wsX0_valueSum) := goodIn_app (goodIn_of _ (by decide +kernel)) ggX0_tellEnvelope_X0_valueSum
set_option maxRecDepth 20000 in
theorem ggX0_tellEnvelope_X1_become : GoodIn wsX0_tellEnvelope wsX1_become := goodIn_r _ [15, 16, 17, 18, 19, 20, 21, 22, 23, 24, 32, 33] (by decide +kernel) (by decide +kernel)
set_option maxRecDepth 20000 in
theorem gX0_tellEnvelope_X1_become : GoodIn wsX0_tellEnvelope (wsV RX0 57 RX1 yX1_become wsX1_become) := goodIn_app (goodIn_of _ (by decide +kernel)) ggX0_tellEnvelope_X1_become
set_option maxRecDepth 20000 in
theorem ggX0_tellGain_X0_valueSum : GoodIn wsX0_tellGain wsX0_valueSum := goodIn_r _ [8, 1, 3, 9, 2, 10, 25, 26, 27, 28, 29, 30, 31] (by decide +kernel) (by decide +kernel)
set_option maxRecDepth 20000 in
theorem gX0_tellGain_X0_valueSum : GoodIn wsX0_tellGain (wsV RX0 53 RX0 yX0_valueSum wsX0_valueSum) := goodIn_app (goodIn_of _ (by decide +kernel)) ggX0_tellGain_X0_valueSum
set_option maxRecDepth 20000 in
theorem ggX0_tellGain_X1_become : GoodIn wsX0_tellGain wsX1_become := goodIn_r _ [15, 16, 17, 18, 19, 20, 21, 22, 23, 24, 32, 33] (by decide +kernel) (by decide +kernel)
set_option maxRecDepth 20000 in
theorem gX0_tellGain_X1_become : GoodIn wsX0_tellGain (wsV RX0 57 RX1 yX1_become wsX1_become) := goodIn_app (goodIn_of _ (by decide +kernel)) ggX0_tellGain_X1_become
set_option maxRecDepth 20000 in
theorem ggX1_become_X8_commonDivisor : GoodIn wsX1_become wsX8_commonDivisor := goodIn_r _ [5, 6, 7, 8, 9] (by decide +kernel) (by decide +kernel)
set_option maxRecDepth 20000 in
theorem gX1_become_X8_commonDivisor_n16 : GoodIn wsX1_become (wsX8_commonDivisor) := ggX1_become_X8_commonDivisor
set_option maxRecDepth 20000 in
theorem ggX2_init_X7_init : GoodIn wsX2_init wsX7_init := goodIn_r _ [12, 13, 2, 3, 14, 15, 16, 17, 18, 19, 20, 21, 22, 23, 24, 25, 26, 27, 28, 29, 30, 31, 32, 33, 34, 35, 36, 37, 38, 39, 40, 41, 42, 43, 44, 45, 52, 53, 54, 55, 56, 49, 50, 51, 57, 58, 59] (by decide +kernel) (by decide +kernel)
set_option maxRecDepth 20000 in
theorem gX2_init_X7_init : GoodIn wsX2_init (wsX7_init) := ggX2_init_X7_init
set_option maxRecDepth 20000 in
theorem ggX2_note_X7_copyFrom : GoodIn wsX2_note wsX7_copyFrom := goodIn_r _ [7, 8, 9, 10, 11, 12, 13, 14, 15, 16, 17, 18, 19, 20, 21, 22, 23, 24, 25, 26, 27, 28, 29, 30, 31, 32, 33, 37, 38, 39, 40, 41, 42, 43, 44, 45, 46, 47] (by decide +kernel) (by decide +kernel)
set_option maxRecDepth 20000 in
theorem gX2_note_X7_copyFrom : GoodIn wsX2_note (wsV RX2 23 RX7 yX7_copyFrom wsX7_copyFrom) := goodIn_app (goodIn_of _ (by decide +kernel)) ggX2_note_X7_copyFrom
set_option maxRecDepth 20000 in
theorem ggX2_takeBack_X7_copyFrom : GoodIn wsX2_takeBack wsX7_copyFrom := goodIn_r _ [8, 9, 10, 11, 12, 13, 14, 15, 16, 17, 18, 19, 20, 21, 22, 23, 24, 25, 26, 27, 28, 29, 30, 31, 32, 33, 34, 38, 39, 40, 41, 42, 43, 44, 45, 46, 47, 48] (by decide +kernel) (by decide +kernel)
set_option maxRecDepth 20000 in
theorem gX2_takeBack_X7_copyFrom : GoodIn wsX2_takeBack (wsV RX2 23 RX7 yX7_copyFrom wsX7_copyFrom) := goodIn_app (goodIn_of _ (by decide +kernel)) ggX2_takeBack_X7_copyFrom
set_option maxRecDepth 20000 in
theorem ggX3_gather_X3_clear : GoodIn wsX3_gather wsX3_clear := goodIn_r _ [8, 9, 20] (by decide +kernel) (by decide +kernel)
set_option maxRecDepth 20000 in
theorem gX3_gather_X3_clear : GoodIn wsX3_gather (wsV RX3 15 RX3 yX3_clear wsX3_clear) := goodIn_app (goodIn_of _ (by decide +kernel)) ggX3_gather_X3_clear
set_option maxRecDepth 20000 in
theorem ggX3_gather_X3_add : GoodIn wsX3_gather wsX3_add := goodIn_r _ [13, 9, 14, 15, 16, 20] (by decide +kernel) (by decide +kernel)
set_option maxRecDepth 20000 in
theorem gX3_gather_X3_add : GoodIn wsX3_gather (wsV RX3 30 RX3 yX3_add wsX3_add) := goodIn_app (goodIn_of _ (by decide +kernel)) ggX3_gather_X3_add
set_option maxRecDepth 20000 in
theorem ggX3_add_X8_isPosterior : GoodIn wsX3_add wsX8_isPosterior := goodIn_r _ [4] (by decide +kernel) (by decide +kernel)
set_option maxRecDepth 20000 in
theorem gX3_add_X8_isPosterior_n34 : GoodIn wsX3_add (wsX8_isPosterior) := ggX3_add_X8_isPosterior
set_option maxRecDepth 20000 in
theorem ggX3_reduce_X8_commonDivisor : GoodIn wsX3_reduce wsX8_commonDivisor := goodIn_r _ [4, 5, 6, 7, 8] (by decide +kernel) (by decide +kernel)
set_option maxRecDepth 20000 in
theorem gX3_reduce_X8_commonDivisor_n38 : GoodIn wsX3_reduce (wsX8_commonDivisor) := ggX3_reduce_X8_commonDivisor
set_option maxRecDepth 20000 in
theorem ggX3_pourInto_X6_append : GoodIn wsX3_pourInto wsX6_append := goodIn_r _ [7, 8, 9, 10, 11, 12, 13] (by decide +kernel) (by decide +kernel)
set_option maxRecDepth 20000 in
theorem gX3_pourInto_X6_append : GoodIn wsX3_pourInto (wsV RX3 42 RX6 yX6_append wsX6_append) := goodIn_app (goodIn_of _ (by decide +kernel)) ggX3_pourInto_X6_append
set_option maxRecDepth 20000 in
theorem ggX4_firstFault_X4_readNext : GoodIn wsX4_firstFault wsX4_readNext := goodIn_r _ [7, 1, 8, 9, 10, 11, 12, 6, 13, 14, 15, 16, 17, 2, 18, 19, 20, 21, 22, 23, 24, 25, 26, 27, 28, 29, 30, 31, 32, 33, 34, 35, 36, 37, 38, 39, 40, 41, 42, 43, 44, 45, 46, 47, 48] (by decide +kernel) (by decide +kernel)
set_option maxRecDepth 20000 in
theorem gX4_firstFault_X4_readNext : GoodIn wsX4_firstFault (wsV RX4 36 RX4 yX4_readNext wsX4_readNext) := goodIn_app (goodIn_of _ (by decide +kernel)) ggX4_firstFault_X4_readNext
set_option maxRecDepth 20000 in
theorem ggX4_readNext_X4_skip : GoodIn wsX4_readNext wsX4_skip := goodIn_r _ [8, 1, 9, 10, 11, 7, 12, 13, 14, 39, 40, 41, 42, 43, 44] (by decide +kernel) (by decide +kernel)
set_option maxRecDepth 20000 in
theorem gX4_readNext_X4_skip : GoodIn wsX4_readNext (wsV RX4 40 RX4 yX4_skip wsX4_skip) := goodIn_app (goodIn_of _ (by decide +kernel)) ggX4_readNext_X4_skip
set_option maxRecDepth 20000 in
theorem ggX4_readNext_X4_sign : GoodIn wsX4_readNext wsX4_sign := goodIn_r _ [12, 1, 13, 14, 39, 40, 41, 42, 43, 44] (by decide +kernel) (by decide +kernel)
set_option maxRecDepth 20000 in
theorem gX4_readNext_X4_sign : GoodIn wsX4_readNext (wsV RX4 44 RX4 yX4_sign wsX4_sign) := goodIn_app (goodIn_of _ (by decide +kernel)) ggX4_readNext_X4_sign
set_option maxRecDepth 20000 in
theorem ggX4_readNext_X4_readHire : GoodIn wsX4_readNext wsX4_readHire := goodIn_r _ [18, 2, 19, 20, 21, 22, 7, 23, 1, 13, 9, 10, 11, 12, 14, 24, 25, 26, 27, 28, 29, 30, 4, 5, 6, 8, 39, 40, 41, 42, 43, 44] (by decide +kernel) (by decide +kernel)
set_option maxRecDepth 20000 in
theorem gX4_readNext_X4_readHire : GoodIn wsX4_readNext (wsV RX4 48 RX4 yX4_readHire wsX4_readHire) := goodIn_app (goodIn_of _ (by decide +kernel)) ggX4_readNext_X4_readHire
set_option maxRecDepth 20000 in
theorem ggX4_readNext_X4_readDigit : GoodIn wsX4_readNext wsX4_readDigit := goodIn_r _ [34, 1, 9, 10, 11, 7, 12, 13, 14, 27, 28, 29, 30, 2, 19, 39, 40, 41, 42, 43, 44] (by decide +kernel) (by decide +kernel)
set_option maxRecDepth 20000 in
theorem gX4_readNext_X4_readDigit : GoodIn wsX4_readNext (wsV RX4 51 RX4 yX4_readDigit wsX4_readDigit) := goodIn_app (goodIn_of _ (by decide +kernel)) ggX4_readNext_X4_readDigit
set_option maxRecDepth 20000 in
theorem ggX4_readNext_X4_readNumber : GoodIn wsX4_readNext wsX4_readNumber := goodIn_r _ [23, 1, 13, 9, 10, 11, 7, 12, 14, 24, 25, 26, 27, 28, 29, 30, 2, 19, 39, 40, 41, 42, 43, 44] (by decide +kernel) (by decide +kernel)
set_option maxRecDepth 20000 in
theorem gX4_readNext_X4_readNumber : GoodIn wsX4_readNext (wsV RX4 54 RX4 yX4_readNumber wsX4_readNumber) := goodIn_app (goodIn_of _ (by decide +kernel)) ggX4_readNext_X4_readNumber
set_option maxRecDepth 20000 in
theorem ggX4_readNext_X4_readParts : GoodIn wsX4_readNext wsX4_readParts := goodIn_r _ [38, 20, 21, 22, 7, 23, 1, 13, 9, 10, 11, 12, 14, 24, 25, 26, 27, 28, 29, 30, 2, 19, 4, 5, 6, 8, 39, 40, 41, 42, 43, 44] (by decide +kernel) (by decide +kernel)
set_option maxRecDepth 20000 in
theorem gX4_readNext_X4_readParts : GoodIn wsX4_readNext (wsV RX4 57 RX4 yX4_readParts wsX4_readParts) := goodIn_app (goodIn_of _ (by decide +kernel)) ggX4_readNext_X4_readParts
set_option maxRecDepth 20000 in
theorem ggX4_readHire_X4_readNumber : GoodIn wsX4_readHire wsX4_readNumber := goodIn_r _ [7, 8, 9, 10, 11, 12, 6, 13, 14, 15, 16, 17, 18, 19, 20, 21, 1, 2, 26, 27, 28, 29, 30, 31] (by decide +kernel) (by decide +kernel)
set_option maxRecDepth 20000 in
theorem gX4_readHire_X4_readNumber : GoodIn wsX4_readHire (wsV RX4 54 RX4 yX4_readNumber wsX4_readNumber) := goodIn_app (goodIn_of _ (by decide +kernel)) ggX4_readHire_X4_readNumber
set_option maxRecDepth 20000 in
theorem ggX4_readHire_X4_skip : GoodIn wsX4_readHire wsX4_skip := goodIn_r _ [25, 8, 10, 11, 12, 6, 13, 9, 14, 26, 27, 28, 29, 30, 31] (by decide +kernel) (by decide +kernel)
set_option maxRecDepth 20000 in
theorem gX4_readHire_X4_skip : GoodIn wsX4_readHire (wsV RX4 40 RX4 yX4_skip wsX4_skip) := goodIn_app (goodIn_of _ (by decide +kernel)) ggX4_readHire_X4_skip
set_option maxRecDepth 20000 in
theorem ggX4_readParts_X4_readNumber : GoodIn wsX4_readParts wsX4_readNumber := goodIn_r _ [5, 6, 7, 8, 9, 10, 4, 11, 12, 13, 14, 15, 16, 17, 18, 19, 20, 21, 26, 27, 28, 29, 30, 31] (by decide +kernel) (by decide +kernel)
set_option maxRecDepth 20000 in
theorem gX4_readParts_X4_readNumber : GoodIn wsX4_readParts (wsV RX4 54 RX4 yX4_readNumber wsX4_readNumber) := goodIn_app (goodIn_of _ (by decide +kernel)) ggX4_readParts_X4_readNumber
set_option maxRecDepth 20000 in
theorem ggX4_readParts_X4_skip : GoodIn wsX4_readParts wsX4_skip := goodIn_r _ [25, 6, 8, 9, 10, 4, 11, 7, 12, 26, 27, 28, 29, 30, 31] (by decide +kernel) (by decide +kernel)
set_option maxRecDepth 20000 in
theorem gX4_readParts_X4_skip : GoodIn wsX4_readParts (wsV RX4 40 RX4 yX4_skip wsX4_skip) := goodIn_app (goodIn_of _ (by decide +kernel)) ggX4_readParts_X4_skip
set_option maxRecDepth 20000 in
theorem ggX4_readDigit_X4_sign : GoodIn wsX4_readDigit wsX4_sign := goodIn_r _ [6, 1, 7, 8, 15, 16, 17, 18, 19, 20] (by decide +kernel) (by decide +kernel)
set_option maxRecDepth 20000 in
theorem gX4_readDigit_X4_sign : GoodIn wsX4_readDigit (wsV RX4 44 RX4 yX4_sign wsX4_sign) := goodIn_app (goodIn_of _ (by decide +kernel)) ggX4_readDigit_X4_sign
set_option maxRecDepth 20000 in
theorem ggX4_readDigit_X4_tell : GoodIn wsX4_readDigit wsX4_tell := goodIn_r _ [12, 13, 14, 15, 16, 17, 18, 19, 20] (by decide +kernel) (by decide +kernel)
set_option maxRecDepth 20000 in
theorem gX4_readDigit_X4_tell : GoodIn wsX4_readDigit (wsV RX4 60 RX4 yX4_tell wsX4_tell) := goodIn_app (goodIn_of _ (by decide +kernel)) ggX4_readDigit_X4_tell
set_option maxRecDepth 20000 in
theorem ggX4_readNumber_X4_sign : GoodIn wsX4_readNumber wsX4_sign := goodIn_r _ [7, 1, 2, 8, 18, 19, 20, 21, 22, 23] (by decide +kernel) (by decide +kernel)
set_option maxRecDepth 20000 in
theorem gX4_readNumber_X4_sign : GoodIn wsX4_readNumber (wsV RX4 44 RX4 yX4_sign wsX4_sign) := goodIn_app (goodIn_of _ (by decide +kernel)) ggX4_readNumber_X4_sign
set_option maxRecDepth 20000 in
theorem ggX4_readNumber_X4_isDigit : GoodIn wsX4_readNumber wsX4_isDigit := goodIn_r _ [11] (by decide +kernel) (by decide +kernel)
set_option maxRecDepth 20000 in
theorem gX4_readNumber_X4_isDigit : GoodIn wsX4_readNumber (va_wsS RX4 64 yX4_isDigit wsX4_isDigit) := goodIn_app (goodIn_of _ (by decide +kernel)) ggX4_readNumber_X4_isDigit
set_option maxRecDepth 20000 in
theorem ggX4_readNumber_X4_tell : GoodIn wsX4_readNumber wsX4_tell := goodIn_r _ [15, 16, 17, 18, 19, 20, 21, 22, 23] (by decide +kernel) (by decide +kernel)
set_option maxRecDepth 20000 in
theorem gX4_readNumber_X4_tell : GoodIn wsX4_readNumber (wsV RX4 60 RX4 yX4_tell wsX4_tell) := goodIn_app (goodIn_of _ (by decide +kernel)) ggX4_readNumber_X4_tell
set_option maxRecDepth 20000 in
theorem ggX4_skip_X4_sign : GoodIn wsX4_skip wsX4_sign := goodIn_r _ [6, 1, 7, 8, 9, 10, 11, 12, 13, 14] (by decide +kernel) (by decide +kernel)
set_option maxRecDepth 20000 in
theorem gX4_skip_X4_sign : GoodIn wsX4_skip (wsV RX4 44 RX4 yX4_sign wsX4_sign) := goodIn_app (goodIn_of _ (by decide +kernel)) ggX4_skip_X4_sign
set_option maxRecDepth 20000 in
theorem ggX5_remove_X5_has : GoodIn wsX5_remove wsX5_has := goodIn_r _ [10, 1, 11, 12, 13, 14, 15] (by decide +kernel) (by decide +kernel)
set_option maxRecDepth 20000 in
theorem gX5_remove_X5_has : GoodIn wsX5_remove (wsV RX5 34 RX5 yX5_has wsX5_has) := goodIn_app (goodIn_of _ (by decide +kernel)) ggX5_remove_X5_has
set_option maxRecDepth 20000 in
theorem ggX5_leastActing_X5_acts : GoodIn wsX5_leastActing wsX5_acts := goodIn_r _ [5, 6, 7, 8, 9, 10, 11, 12] (by decide +kernel) (by decide +kernel)
set_option maxRecDepth 20000 in
theorem gX5_leastActing_X5_acts : GoodIn wsX5_leastActing (wsV RX5 44 RX5 yX5_acts wsX5_acts) := goodIn_app (goodIn_of _ (by decide +kernel)) ggX5_leastActing_X5_acts
set_option maxRecDepth 20000 in
theorem ggX5_actingAt_X5_acts : GoodIn wsX5_actingAt wsX5_acts := goodIn_r _ [6, 7, 8, 9, 10, 11, 12, 13] (by decide +kernel) (by decide +kernel)
set_option maxRecDepth 20000 in
theorem gX5_actingAt_X5_acts : GoodIn wsX5_actingAt (wsV RX5 44 RX5 yX5_acts wsX5_acts) := goodIn_app (goodIn_of _ (by decide +kernel)) ggX5_actingAt_X5_acts
set_option maxRecDepth 20000 in
theorem ggX5_valueAt_X5_acts : GoodIn wsX5_valueAt wsX5_acts := goodIn_r _ [8, 9, 10, 11, 12, 13, 14, 15] (by decide +kernel) (by decide +kernel)
set_option maxRecDepth 20000 in
theorem gX5_valueAt_X5_acts : GoodIn wsX5_valueAt (wsV RX5 44 RX5 yX5_acts wsX5_acts) := goodIn_app (goodIn_of _ (by decide +kernel)) ggX5_valueAt_X5_acts
set_option maxRecDepth 20000 in
theorem ggX6_becomeOne_X6_append : GoodIn wsX6_becomeOne wsX6_append := goodIn_r _ [6, 1, 7, 8, 9, 10, 11] (by decide +kernel) (by decide +kernel)
set_option maxRecDepth 20000 in
theorem gX6_becomeOne_X6_append : GoodIn wsX6_becomeOne (wsV RX6 26 RX6 yX6_append wsX6_append) := goodIn_app (goodIn_of _ (by decide +kernel)) ggX6_becomeOne_X6_append
set_option maxRecDepth 20000 in
theorem ggX7_init_X5_init : GoodIn wsX7_init wsX5_init := goodIn_r _ [14, 15, 2, 3, 16, 17, 18, 19, 20, 21, 36, 37, 38, 39, 40] (by decide +kernel) (by decide +kernel)
set_option maxRecDepth 20000 in
theorem gX7_init_X5_init_n11 : GoodIn wsX7_init (wsX5_init) := ggX7_init_X5_init
set_option maxRecDepth 20000 in
theorem ggX7_init_X6_init : GoodIn wsX7_init wsX6_init := goodIn_r _ [23, 24, 2, 3, 16, 25, 26, 27, 44, 45, 46] (by decide +kernel) (by decide +kernel)
set_option maxRecDepth 20000 in
theorem gX7_init_X6_init_n20 : GoodIn wsX7_init (wsX6_init) := ggX7_init_X6_init
set_option maxRecDepth 20000 in
theorem ggX7_init_X6_becomeOne : GoodIn wsX7_init wsX6_becomeOne := goodIn_r _ [31, 27, 32, 33, 34, 10, 35, 25, 26, 44, 45, 46] (by decide +kernel) (by decide +kernel)
set_option maxRecDepth 20000 in
theorem gX7_init_X6_becomeOne : GoodIn wsX7_init (wsV RX7 29 RX6 yX6_becomeOne wsX6_becomeOne) := goodIn_app (goodIn_of _ (by decide +kernel)) ggX7_init_X6_becomeOne
set_option maxRecDepth 20000 in
theorem ggX7_copyFrom_X5_copyFrom : GoodIn wsX7_copyFrom wsX5_copyFrom := goodIn_r _ [8, 9, 10, 11, 12, 13, 14, 15, 16, 17, 30, 31, 32, 33, 34] (by decide +kernel) (by decide +kernel)
set_option maxRecDepth 20000 in
theorem gX7_copyFrom_X5_copyFrom : GoodIn wsX7_copyFrom (wsV RX7 33 RX5 yX5_copyFrom wsX5_copyFrom) := goodIn_app (goodIn_of _ (by decide +kernel)) ggX7_copyFrom_X5_copyFrom
set_option maxRecDepth 20000 in
theorem ggX7_copyFrom_X6_copyFrom : GoodIn wsX7_copyFrom wsX6_copyFrom := goodIn_r _ [22, 23, 24, 11, 12, 13, 25, 26, 35, 36, 37] (by decide +kernel) (by decide +kernel)
set_option maxRecDepth 20000 in
theorem gX7_copyFrom_X6_copyFrom : GoodIn wsX7_copyFrom (wsV RX7 37 RX6 yX6_copyFrom wsX6_copyFrom) := goodIn_app (goodIn_of _ (by decide +kernel)) ggX7_copyFrom_X6_copyFrom
set_option maxRecDepth 20000 in
theorem ggX7_movePrior_X6_becomeOne : GoodIn wsX7_movePrior wsX6_becomeOne := goodIn_r _ [7, 8, 9, 10, 11, 6, 12, 13, 14, 18, 19, 20] (by decide +kernel) (by decide +kernel)
set_option maxRecDepth 20000 in
theorem gX7_movePrior_X6_becomeOne : GoodIn wsX7_movePrior (wsV RX7 29 RX6 yX6_becomeOne wsX6_becomeOne) := goodIn_app (goodIn_of _ (by decide +kernel)) ggX7_movePrior_X6_becomeOne
set_option maxRecDepth 20000 in
theorem ggX7_tellMeanValue_X5_valueAt : GoodIn wsX7_tellMeanValue wsX5_valueAt := goodIn_r _ [10, 11, 12, 13, 14, 15, 16, 9, 17, 18, 19, 47, 48, 49, 50, 51] (by decide +kernel) (by decide +kernel)
set_option maxRecDepth 20000 in
theorem gX7_tellMeanValue_X5_valueAt : GoodIn wsX7_tellMeanValue (wsV RX7 50 RX5 yX5_valueAt wsX5_valueAt) := goodIn_app (goodIn_of _ (by decide +kernel)) ggX7_tellMeanValue_X5_valueAt
set_option maxRecDepth 20000 in
theorem ggX7_tellMeanValue_X6_weightSum : GoodIn wsX7_tellMeanValue wsX6_weightSum := goodIn_r _ [24, 25, 26, 44, 45, 46] (by decide +kernel) (by decide +kernel)
set_option maxRecDepth 20000 in
theorem gX7_tellMeanValue_X6_weightSum : GoodIn wsX7_tellMeanValue (wsV RX7 54 RX6 yX6_weightSum wsX6_weightSum) := goodIn_app (goodIn_of _ (by decide +kernel)) ggX7_tellMeanValue_X6_weightSum
set_option maxRecDepth 20000 in
theorem ggX7_tellMeanValue_X1_become : GoodIn wsX7_tellMeanValue wsX1_become := goodIn_r _ [31, 32, 33, 34, 35, 36, 37, 38, 39, 40, 52, 53] (by decide +kernel) (by decide +kernel)
set_option maxRecDepth 20000 in
theorem gX7_tellMeanValue_X1_become : GoodIn wsX7_tellMeanValue (wsV RX7 58 RX1 yX1_become wsX1_become) := goodIn_app (goodIn_of _ (by decide +kernel)) ggX7_tellMeanValue_X1_become
set_option maxRecDepth 20000 in
theorem ggX7_tellMeanWorth_X5_worthAt : GoodIn wsX7_tellMeanWorth wsX5_worthAt := goodIn_r _ [10, 11, 12, 13, 14, 15, 16, 43, 44, 45, 46, 47] (by decide +kernel) (by decide +kernel)
set_option maxRecDepth 20000 in
theorem gX7_tellMeanWorth_X5_worthAt : GoodIn wsX7_tellMeanWorth (wsV RX7 64 RX5 yX5_worthAt wsX5_worthAt) := goodIn_app (goodIn_of _ (by decide +kernel)) ggX7_tellMeanWorth_X5_worthAt
set_option maxRecDepth 20000 in
theorem ggX7_tellMeanWorth_X6_weightSum : GoodIn wsX7_tellMeanWorth wsX6_weightSum := goodIn_r _ [21, 22, 23, 40, 41, 42] (by decide +kernel) (by decide +kernel)
set_option maxRecDepth 20000 in
theorem gX7_tellMeanWorth_X6_weightSum : GoodIn wsX7_tellMeanWorth (wsV RX7 54 RX6 yX6_weightSum wsX6_weightSum) := goodIn_app (goodIn_of _ (by decide +kernel)) ggX7_tellMeanWorth_X6_weightSum
set_option maxRecDepth 20000 in
theorem ggX7_tellMeanWorth_X1_become : GoodIn wsX7_tellMeanWorth wsX1_become := goodIn_r _ [28, 29, 30, 31, 32, 33, 34, 35, 15, 36, 48, 49] (by decide +kernel) (by decide +kernel)
set_option maxRecDepth 20000 in
theorem gX7_tellMeanWorth_X1_become : GoodIn wsX7_tellMeanWorth (wsV RX7 58 RX1 yX1_become wsX1_become) := goodIn_app (goodIn_of _ (by decide +kernel)) ggX7_tellMeanWorth_X1_become
set_option maxRecDepth 20000 in
theorem ggX8_init_X7_init : GoodIn wsX8_init wsX7_init := goodIn_r _ [34, 35, 2, 3, 36, 37, 38, 39, 40, 41, 42, 43, 44, 45, 46, 47, 48, 49, 50, 51, 52, 53, 54, 55, 56, 57, 58, 59, 60, 61, 62, 63, 64, 65, 66, 67, 137, 138, 139, 140, 141, 106, 107, 108, 142, 143, 144] (by decide +kernel) (by decide +kernel)
set_option maxRecDepth 20000 in
theorem gX8_init_X7_init : GoodIn wsX8_init (wsX7_init) := ggX8_init_X7_init
set_option maxRecDepth 20000 in
theorem ggX8_init_X2_init : GoodIn wsX8_init wsX2_init := goodIn_r _ [70, 71, 2, 3, 72, 73, 74, 75, 5, 6, 76, 33, 34, 35, 36, 37, 38, 39, 40, 41, 42, 43, 44, 45, 46, 47, 48, 49, 50, 51, 52, 53, 54, 55, 56, 57, 58, 59, 60, 61, 62, 63, 64, 65, 66, 67, 118, 119, 120, 106, 107, 108, 137, 138, 139, 140, 141, 142, 143, 144] (by decide +kernel) (by decide +kernel)
set_option maxRecDepth 20000 in
theorem gX8_init_X2_init : GoodIn wsX8_init (wsX2_init) := ggX8_init_X2_init
set_option maxRecDepth 20000 in
theorem ggX8_init_X4_init : GoodIn wsX8_init wsX4_init := goodIn_r _ [78, 79, 2, 3, 80, 81, 48, 82, 83, 84, 85, 86, 121, 122, 123, 124, 125, 126] (by decide +kernel) (by decide +kernel)
set_option maxRecDepth 20000 in
theorem gX8_init_X4_init_n33 : GoodIn wsX8_init (wsX4_init) := ggX8_init_X4_init
set_option maxRecDepth 20000 in
theorem ggX8_init_X3_init : GoodIn wsX8_init wsX3_init := goodIn_r _ [88, 89, 2, 3, 48, 90, 127] (by decide +kernel) (by decide +kernel)
set_option maxRecDepth 20000 in
theorem gX8_init_X3_init_n40 : GoodIn wsX8_init (wsX3_init) := ggX8_init_X3_init
set_option maxRecDepth 20000 in
theorem ggX8_init_X0_init : GoodIn wsX8_init wsX0_init := goodIn_r _ [92, 93, 2, 3, 48, 94, 95, 96, 97, 98, 99, 100, 128, 129, 130, 131, 132, 133, 134] (by decide +kernel) (by decide +kernel)
set_option maxRecDepth 20000 in
theorem gX8_init_X0_init_n47 : GoodIn wsX8_init (wsX0_init) := ggX8_init_X0_init
set_option maxRecDepth 20000 in
theorem ggX8_init_X1_init : GoodIn wsX8_init wsX1_init := goodIn_r _ [102, 103, 2, 3, 104, 105, 135, 136] (by decide +kernel) (by decide +kernel)
set_option maxRecDepth 20000 in
theorem gX8_init_X1_init_n54 : GoodIn wsX8_init (wsX1_init) := ggX8_init_X1_init
set_option maxRecDepth 20000 in
theorem ggX8_prior_X2_note : GoodIn wsX8_prior wsX2_note := goodIn_r _ [7, 8, 9, 10, 11, 12, 13, 14, 15, 16, 17, 18, 19, 20, 21, 22, 23, 24, 25, 26, 27, 28, 29, 30, 31, 32, 33, 34, 35, 36, 37, 38, 39, 40, 76, 77, 78, 79, 80, 81, 82, 83, 84, 85, 86, 87, 88, 89] (by decide +kernel) (by decide +kernel)
set_option maxRecDepth 20000 in
theorem gX8_prior_X2_note : GoodIn wsX8_prior (wsV RX8 62 RX2 yX2_note wsX2_note) := goodIn_app (goodIn_of _ (by decide +kernel)) ggX8_prior_X2_note
set_option maxRecDepth 20000 in
theorem ggX8_prior_X7_movePrior : GoodIn wsX8_prior wsX7_movePrior := goodIn_r _ [44, 17, 16, 45, 46, 47, 35, 48, 40, 49, 50, 51, 52, 37, 39, 79, 80, 81, 87, 88, 89] (by decide +kernel) (by decide +kernel)
set_option maxRecDepth 20000 in
theorem gX8_prior_X7_movePrior : GoodIn wsX8_prior (wsV RX8 66 RX7 yX7_movePrior wsX7_movePrior) := goodIn_app (goodIn_of _ (by decide +kernel)) ggX8_prior_X7_movePrior
set_option maxRecDepth 20000 in
theorem ggX8_prior_X8_recorded : GoodIn wsX8_prior wsX8_recorded := goodIn_r _ [57, 1, 58, 59, 60, 6, 61, 9, 62, 63, 64, 65, 66, 67, 68, 69, 70, 71, 72, 73, 74, 75, 76, 77, 78] (by decide +kernel) (by decide +kernel)
set_option maxRecDepth 20000 in
theorem gX8_prior_X8_recorded : GoodIn wsX8_prior (wsV RX8 70 RX8 yX8_recorded wsX8_recorded) := goodIn_app (goodIn_of _ (by decide +kernel)) ggX8_prior_X8_recorded
set_option maxRecDepth 20000 in
theorem ggX8_hire_X2_note : GoodIn wsX8_hire wsX2_note := goodIn_r _ [8, 9, 10, 11, 12, 13, 14, 15, 16, 17, 18, 19, 20, 21, 22, 23, 24, 25, 26, 27, 28, 29, 30, 31, 32, 33, 34, 35, 36, 37, 38, 39, 40, 41, 72, 73, 74, 69, 70, 71, 75, 76, 77, 78, 79, 80, 81, 82] (by decide +kernel) (by decide +kernel)
set_option maxRecDepth 20000 in
theorem gX8_hire_X2_note : GoodIn wsX8_hire (wsV RX8 62 RX2 yX2_note wsX2_note) := goodIn_app (goodIn_of _ (by decide +kernel)) ggX8_hire_X2_note
set_option maxRecDepth 20000 in
theorem ggX8_hire_X5_admit : GoodIn wsX8_hire wsX5_admit := goodIn_r _ [45, 32, 24, 29, 30, 31, 75, 76, 77, 78, 79] (by decide +kernel) (by decide +kernel)
set_option maxRecDepth 20000 in
theorem gX8_hire_X5_admit : GoodIn wsX8_hire (wsV RX8 77 RX5 yX5_admit wsX5_admit) := goodIn_app (goodIn_of _ (by decide +kernel)) ggX8_hire_X5_admit
set_option maxRecDepth 20000 in
theorem ggX8_hire_X8_recorded : GoodIn wsX8_hire wsX8_recorded := goodIn_r _ [50, 1, 51, 52, 53, 7, 54, 10, 55, 56, 57, 58, 59, 60, 61, 62, 63, 64, 65, 66, 67, 68, 72, 73, 74] (by decide +kernel) (by decide +kernel)
set_option maxRecDepth 20000 in
theorem gX8_hire_X8_recorded : GoodIn wsX8_hire (wsV RX8 70 RX8 yX8_recorded wsX8_recorded) := goodIn_app (goodIn_of _ (by decide +kernel)) ggX8_hire_X8_recorded
set_option maxRecDepth 20000 in
theorem ggX8_dismiss_X2_note : GoodIn wsX8_dismiss wsX2_note := goodIn_r _ [8, 9, 10, 11, 12, 13, 14, 15, 16, 17, 18, 19, 20, 21, 22, 23, 24, 25, 26, 27, 28, 29, 30, 31, 32, 33, 34, 35, 36, 37, 38, 39, 40, 41, 76, 77, 78, 73, 74, 75, 79, 80, 81, 82, 83, 84, 85, 86] (by decide +kernel) (by decide +kernel)
set_option maxRecDepth 20000 in
theorem gX8_dismiss_X2_note : GoodIn wsX8_dismiss (wsV RX8 62 RX2 yX2_note wsX2_note) := goodIn_app (goodIn_of _ (by decide +kernel)) ggX8_dismiss_X2_note
set_option maxRecDepth 20000 in
theorem ggX8_dismiss_X5_remove : GoodIn wsX8_dismiss wsX5_remove := goodIn_r _ [45, 32, 24, 29, 30, 31, 46, 47, 48, 22, 49, 79, 80, 81, 82, 83] (by decide +kernel) (by decide +kernel)
set_option maxRecDepth 20000 in
theorem gX8_dismiss_X5_remove : GoodIn wsX8_dismiss (wsV RX8 83 RX5 yX5_remove wsX5_remove) := goodIn_app (goodIn_of _ (by decide +kernel)) ggX8_dismiss_X5_remove
set_option maxRecDepth 20000 in
theorem ggX8_dismiss_X8_recorded : GoodIn wsX8_dismiss wsX8_recorded := goodIn_r _ [54, 1, 55, 56, 57, 7, 58, 10, 59, 60, 61, 62, 63, 64, 65, 66, 67, 68, 69, 70, 71, 72, 76, 77, 78] (by decide +kernel) (by decide +kernel)
set_option maxRecDepth 20000 in
theorem gX8_dismiss_X8_recorded : GoodIn wsX8_dismiss (wsV RX8 70 RX8 yX8_recorded wsX8_recorded) := goodIn_app (goodIn_of _ (by decide +kernel)) ggX8_dismiss_X8_recorded
set_option maxRecDepth 20000 in
theorem ggX8_refine_X2_note : GoodIn wsX8_refine wsX2_note := goodIn_r _ [7, 8, 9, 10, 11, 12, 13, 14, 15, 16, 17, 18, 19, 20, 21, 22, 23, 24, 25, 26, 27, 28, 29, 30, 31, 32, 33, 34, 35, 36, 37, 38, 39, 40, 122, 123, 124, 125, 126, 127, 128, 129, 130, 131, 132, 133, 134, 135] (by decide +kernel) (by decide +kernel)
set_option maxRecDepth 20000 in
theorem gX8_refine_X2_note : GoodIn wsX8_refine (wsV RX8 62 RX2 yX2_note wsX2_note) := goodIn_app (goodIn_of _ (by decide +kernel)) ggX8_refine_X2_note
set_option maxRecDepth 20000 in
theorem ggX8_refine_X8_splitPart : GoodIn wsX8_refine wsX8_splitPart := goodIn_r _ [45, 2, 46, 47, 48, 49, 50, 51, 52, 53, 35, 54, 40, 55, 56, 57, 58, 59, 60, 61, 62, 63, 64, 65, 66, 67, 68, 69, 70, 71, 72, 44, 73, 74, 75, 76, 77, 78, 79, 80, 81, 82, 83, 84, 85, 86, 87, 88, 89, 90, 91, 92, 93, 94, 95, 96, 97, 98, 99, 100, 37, 39, 113, 114, 115, 116, 117, 118, 119, 120, 121, 125, 126, 127, 133, 134, 135, 136] (by decide +kernel) (by decide +kernel)
set_option maxRecDepth 20000 in
theorem gX8_refine_X8_splitPart : GoodIn wsX8_refine (wsV RX8 86 RX8 yX8_splitPart wsX8_splitPart) := goodIn_app (goodIn_of _ (by decide +kernel)) ggX8_refine_X8_splitPart
set_option maxRecDepth 20000 in
theorem ggX8_refine_X8_recorded : GoodIn wsX8_refine wsX8_recorded := goodIn_r _ [104, 1, 105, 106, 107, 6, 108, 9, 109, 110, 111, 87, 112, 113, 114, 115, 116, 117, 118, 119, 120, 121, 122, 123, 124] (by decide +kernel) (by decide +kernel)
set_option maxRecDepth 20000 in
theorem gX8_refine_X8_recorded : GoodIn wsX8_refine (wsV RX8 70 RX8 yX8_recorded wsX8_recorded) := goodIn_app (goodIn_of _ (by decide +kernel)) ggX8_refine_X8_recorded
set_option maxRecDepth 20000 in
theorem ggX8_join_X2_note : GoodIn wsX8_join wsX2_note := goodIn_r _ [7, 8, 9, 10, 11, 12, 13, 14, 15, 16, 17, 18, 19, 20, 21, 22, 23, 24, 25, 26, 27, 28, 29, 30, 31, 32, 33, 34, 35, 36, 37, 38, 39, 40, 122, 123, 124, 125, 126, 127, 128, 129, 130, 131, 132, 133, 134, 135] (by decide +kernel) (by decide +kernel)
set_option maxRecDepth 20000 in
theorem gX8_join_X2_note : GoodIn wsX8_join (wsV RX8 62 RX2 yX2_note wsX2_note) := goodIn_app (goodIn_of _ (by decide +kernel)) ggX8_join_X2_note
set_option maxRecDepth 20000 in
theorem ggX8_join_X8_joinWithNext : GoodIn wsX8_join wsX8_joinWithNext := goodIn_r _ [45, 2, 46, 47, 48, 49, 50, 51, 52, 35, 53, 40, 54, 55, 56, 57, 58, 59, 60, 61, 62, 63, 64, 65, 66, 67, 68, 69, 70, 71, 44, 72, 73, 74, 75, 76, 77, 78, 79, 80, 81, 82, 83, 84, 85, 86, 87, 88, 89, 90, 91, 92, 93, 94, 95, 96, 97, 98, 99, 100, 37, 39, 113, 114, 115, 116, 117, 118, 119, 120, 121, 125, 126, 127, 133, 134, 135, 136] (by decide +kernel) (by decide +kernel)
set_option maxRecDepth 20000 in
theorem gX8_join_X8_joinWithNext : GoodIn wsX8_join (wsV RX8 90 RX8 yX8_joinWithNext wsX8_joinWithNext) := goodIn_app (goodIn_of _ (by decide +kernel)) ggX8_join_X8_joinWithNext
set_option maxRecDepth 20000 in
theorem ggX8_join_X8_recorded : GoodIn wsX8_join wsX8_recorded := goodIn_r _ [104, 1, 105, 106, 107, 6, 108, 9, 109, 110, 111, 87, 112, 113, 114, 115, 116, 117, 118, 119, 120, 121, 122, 123, 124] (by decide +kernel) (by decide +kernel)
set_option maxRecDepth 20000 in
theorem gX8_join_X8_recorded : GoodIn wsX8_join (wsV RX8 70 RX8 yX8_recorded wsX8_recorded) := goodIn_app (goodIn_of _ (by decide +kernel)) ggX8_join_X8_recorded
set_option maxRecDepth 20000 in
theorem ggX8_adopt_X2_note : GoodIn wsX8_adopt wsX2_note := goodIn_r _ [7, 8, 9, 10, 11, 12, 13, 14, 15, 16, 17, 18, 19, 20, 21, 22, 23, 24, 25, 26, 27, 28, 29, 30, 31, 32, 33, 34, 35, 36, 37, 38, 39, 40, 147, 148, 149, 150, 151, 152, 153, 154, 155, 156, 157, 158, 159, 160] (by decide +kernel) (by decide +kernel)
set_option maxRecDepth 20000 in
theorem gX8_adopt_X2_note : GoodIn wsX8_adopt (wsV RX8 62 RX2 yX2_note wsX2_note) := goodIn_app (goodIn_of _ (by decide +kernel)) ggX8_adopt_X2_note
set_option maxRecDepth 20000 in
theorem ggX8_adopt_X8_takeBest : GoodIn wsX8_adopt wsX8_takeBest := goodIn_r _ [45, 46, 2, 47, 48, 49, 50, 51, 52, 53, 54, 55, 56, 57, 58, 59, 60, 61, 62, 63, 64, 21, 65, 31, 30, 29, 66, 67, 68, 69, 28, 23, 70, 71, 72, 73, 74, 75, 76, 77, 78, 79, 80, 81, 82, 83, 84, 85, 86, 44, 87, 88, 89, 90, 91, 92, 93, 94, 95, 96, 97, 98, 99, 100, 101, 102, 103, 104, 105, 106, 107, 108, 109, 110, 111, 112, 113, 114, 115, 116, 117, 118, 119, 120, 121, 122, 123, 124, 35, 125, 40, 37, 39, 138, 139, 140, 141, 142, 143, 144, 145, 146, 150, 151, 152, 161, 162, 163, 164, 165, 166, 167, 153, 154, 155, 156, 157, 168, 158, 159, 160] (by decide +kernel) (by decide +kernel)
set_option maxRecDepth 20000 in
theorem gX8_adopt_X8_takeBest : GoodIn wsX8_adopt (wsV RX8 93 RX8 yX8_takeBest wsX8_takeBest) := goodIn_app (goodIn_of _ (by decide +kernel)) ggX8_adopt_X8_takeBest
set_option maxRecDepth 20000 in
theorem ggX8_adopt_X8_recorded : GoodIn wsX8_adopt wsX8_recorded := goodIn_r _ [129, 1, 130, 131, 132, 6, 133, 9, 134, 135, 136, 84, 137, 138, 139, 140, 141, 142, 143, 144, 145, 146, 147, 148, 149] (by decide +kernel) (by decide +kernel)
set_option maxRecDepth 20000 in
theorem gX8_adopt_X8_recorded : GoodIn wsX8_adopt (wsV RX8 70 RX8 yX8_recorded wsX8_recorded) := goodIn_app (goodIn_of _ (by decide +kernel)) ggX8_adopt_X8_recorded
set_option maxRecDepth 20000 in
theorem ggX8_receiver_X5_has : GoodIn wsX8_receiver wsX5_has := goodIn_r _ [11, 12, 35, 36, 37, 38, 39] (by decide +kernel) (by decide +kernel)
set_option maxRecDepth 20000 in
theorem gX8_receiver_X5_has : GoodIn wsX8_receiver (wsV RX8 97 RX5 yX5_has wsX5_has) := goodIn_app (goodIn_of _ (by decide +kernel)) ggX8_receiver_X5_has
set_option maxRecDepth 20000 in
theorem ggX8_receiver_X5_leastActing : GoodIn wsX8_receiver wsX5_leastActing := goodIn_r _ [16, 17, 18, 19, 10, 20, 21, 22, 35, 36, 37, 38, 39] (by decide +kernel) (by decide +kernel)
set_option maxRecDepth 20000 in
theorem gX8_receiver_X5_leastActing : GoodIn wsX8_receiver (wsV RX8 114 RX5 yX5_leastActing wsX5_leastActing) := goodIn_app (goodIn_of _ (by decide +kernel)) ggX8_receiver_X5_leastActing
set_option maxRecDepth 20000 in
theorem ggX8_part_X6_has : GoodIn wsX8_part wsX6_has := goodIn_r _ [10, 11, 42, 43, 44] (by decide +kernel) (by decide +kernel)
set_option maxRecDepth 20000 in
theorem gX8_part_X6_has : GoodIn wsX8_part (wsV RX8 121 RX6 yX6_has wsX6_has) := goodIn_app (goodIn_of _ (by decide +kernel)) ggX8_part_X6_has
set_option maxRecDepth 20000 in
theorem ggX8_part_X5_actingAt : GoodIn wsX8_part wsX5_actingAt := goodIn_r _ [16, 17, 18, 19, 20, 15, 21, 22, 23, 45, 46, 47, 48, 49] (by decide +kernel) (by decide +kernel)
set_option maxRecDepth 20000 in
theorem gX8_part_X5_actingAt : GoodIn wsX8_part (wsV RX8 130 RX5 yX5_actingAt wsX5_actingAt) := goodIn_app (goodIn_of _ (by decide +kernel)) ggX8_part_X5_actingAt
set_option maxRecDepth 20000 in
theorem ggX8_part_X5_valueAt : GoodIn wsX8_part wsX5_valueAt := goodIn_r _ [27, 17, 28, 29, 18, 19, 20, 15, 21, 22, 23, 45, 46, 47, 48, 49] (by decide +kernel) (by decide +kernel)
set_option maxRecDepth 20000 in
theorem gX8_part_X5_valueAt : GoodIn wsX8_part (wsV RX8 133 RX5 yX5_valueAt wsX5_valueAt) := goodIn_app (goodIn_of _ (by decide +kernel)) ggX8_part_X5_valueAt
set_option maxRecDepth 20000 in
theorem ggX8_value_X8_isPosterior : GoodIn wsX8_value wsX8_isPosterior := goodIn_r _ [6] (by decide +kernel) (by decide +kernel)
set_option maxRecDepth 20000 in
theorem gX8_value_X8_isPosterior : GoodIn wsX8_value (va_wsS RX8 136 yX8_isPosterior wsX8_isPosterior) := goodIn_app (goodIn_of _ (by decide +kernel)) ggX8_value_X8_isPosterior
set_option maxRecDepth 20000 in
theorem ggX8_value_X5_valueAt : GoodIn wsX8_value wsX5_valueAt := goodIn_r _ [11, 12, 13, 14, 15, 16, 17, 10, 18, 19, 20, 33, 34, 35, 36, 37] (by decide +kernel) (by decide +kernel)
set_option maxRecDepth 20000 in
theorem gX8_value_X5_valueAt : GoodIn wsX8_value (wsV RX8 133 RX5 yX5_valueAt wsX5_valueAt) := goodIn_app (goodIn_of _ (by decide +kernel)) ggX8_value_X5_valueAt
set_option maxRecDepth 20000 in
theorem ggX8_mean_X8_isHalfOfFraction : GoodIn wsX8_mean wsX8_isHalfOfFraction := goodIn_r _ [9] (by decide +kernel) (by decide +kernel)
set_option maxRecDepth 20000 in
theorem gX8_mean_X8_isHalfOfFraction : GoodIn wsX8_mean (va_wsS RX8 139 yX8_isHalfOfFraction wsX8_isHalfOfFraction) := goodIn_app (goodIn_of _ (by decide +kernel)) ggX8_mean_X8_isHalfOfFraction
set_option maxRecDepth 20000 in
theorem ggX8_mean_X7_tellMeanValue : GoodIn wsX8_mean wsX7_tellMeanValue := goodIn_r _ [14, 15, 16, 17, 18, 19, 20, 21, 22, 23, 24, 25, 26, 27, 28, 29, 30, 31, 32, 33, 34, 35, 36, 37, 38, 39, 40, 41, 42, 43, 44, 45, 46, 47, 48, 8, 49, 50, 51, 52, 53, 65, 66, 67, 68, 69, 70, 71, 72, 73, 74, 75, 63, 64] (by decide +kernel) (by decide +kernel)
set_option maxRecDepth 20000 in
theorem gX8_mean_X7_tellMeanValue : GoodIn wsX8_mean (wsV RX8 142 RX7 yX7_tellMeanValue wsX7_tellMeanValue) := goodIn_app (goodIn_of _ (by decide +kernel)) ggX8_mean_X7_tellMeanValue
set_option maxRecDepth 20000 in
theorem ggX8_worth_X5_has : GoodIn wsX8_worth wsX5_has := goodIn_r _ [10, 11, 69, 70, 71, 72, 73] (by decide +kernel) (by decide +kernel)
set_option maxRecDepth 20000 in
theorem gX8_worth_X5_has : GoodIn wsX8_worth (wsV RX8 97 RX5 yX5_has wsX5_has) := goodIn_app (goodIn_of _ (by decide +kernel)) ggX8_worth_X5_has
set_option maxRecDepth 20000 in
theorem ggX8_worth_X8_isHalfOfFraction : GoodIn wsX8_worth wsX8_isHalfOfFraction := goodIn_r _ [15] (by decide +kernel) (by decide +kernel)
set_option maxRecDepth 20000 in
theorem gX8_worth_X8_isHalfOfFraction : GoodIn wsX8_worth (va_wsS RX8 139 yX8_isHalfOfFraction wsX8_isHalfOfFraction) := goodIn_app (goodIn_of _ (by decide +kernel)) ggX8_worth_X8_isHalfOfFraction
set_option maxRecDepth 20000 in
theorem ggX8_worth_X7_tellMeanWorth : GoodIn wsX8_worth wsX7_tellMeanWorth := goodIn_r _ [20, 21, 22, 23, 24, 25, 26, 27, 28, 9, 29, 30, 31, 32, 33, 34, 35, 36, 37, 38, 39, 40, 41, 42, 43, 44, 45, 46, 47, 48, 49, 50, 14, 51, 52, 53, 54, 64, 65, 66, 74, 75, 76, 69, 70, 71, 72, 73, 67, 68] (by decide +kernel) (by decide +kernel)
set_option maxRecDepth 20000 in
theorem gX8_worth_X7_tellMeanWorth : GoodIn wsX8_worth (wsV RX8 154 RX7 yX7_tellMeanWorth wsX7_tellMeanWorth) := goodIn_app (goodIn_of _ (by decide +kernel)) ggX8_worth_X7_tellMeanWorth
set_option maxRecDepth 20000 in
theorem ggX8_count_X6_weightSum : GoodIn wsX8_count wsX6_weightSum := goodIn_r _ [15, 16, 17, 120, 121, 122] (by decide +kernel) (by decide +kernel)
set_option maxRecDepth 20000 in
theorem gX8_count_X6_weightSum : GoodIn wsX8_count (wsV RX8 167 RX6 yX6_weightSum wsX6_weightSum) := goodIn_app (goodIn_of _ (by decide +kernel)) ggX8_count_X6_weightSum
set_option maxRecDepth 20000 in
theorem ggX8_count_X8_meanIsEnvelope : GoodIn wsX8_count wsX8_meanIsEnvelope := goodIn_r _ [22, 1, 23, 2, 24, 25, 26, 27, 28, 29, 30, 31, 32, 33, 34, 35, 36, 37, 38, 39, 40, 41, 42, 43, 44, 45, 46, 47, 48, 49, 50, 51, 52, 12, 13, 14, 15, 16, 17, 53, 54, 55, 56, 57, 58, 59, 60, 21, 61, 62, 63, 64, 65, 66, 67, 68, 69, 3, 70, 71, 72, 73, 74, 75, 76, 77, 78, 79, 80, 81, 82, 83, 84, 85, 86, 87, 88, 89, 90, 91, 92, 93, 94, 95, 96, 97, 98, 99, 100, 101, 102, 103, 104, 105, 106, 107, 108, 109, 110, 111, 112, 113, 114, 132, 133, 120, 121, 122, 115, 116, 117, 118, 119, 134, 135, 136, 137, 138, 139, 140] (by decide +kernel) (by decide +kernel)
set_option maxRecDepth 20000 in
theorem gX8_count_X8_meanIsEnvelope : GoodIn wsX8_count (wsV RX8 170 RX8 yX8_meanIsEnvelope wsX8_meanIsEnvelope) := goodIn_app (goodIn_of _ (by decide +kernel)) ggX8_count_X8_meanIsEnvelope
set_option maxRecDepth 20000 in
theorem ggX8_envelope_X8_isPosterior : GoodIn wsX8_envelope wsX8_isPosterior := goodIn_r _ [9] (by decide +kernel) (by decide +kernel)
set_option maxRecDepth 20000 in
theorem gX8_envelope_X8_isPosterior : GoodIn wsX8_envelope (va_wsS RX8 136 yX8_isPosterior wsX8_isPosterior) := goodIn_app (goodIn_of _ (by decide +kernel)) ggX8_envelope_X8_isPosterior
set_option maxRecDepth 20000 in
theorem ggX8_envelope_X8_isHalfOfFraction : GoodIn wsX8_envelope wsX8_isHalfOfFraction := goodIn_r _ [12] (by decide +kernel) (by decide +kernel)
set_option maxRecDepth 20000 in
theorem gX8_envelope_X8_isHalfOfFraction : GoodIn wsX8_envelope (va_wsS RX8 139 yX8_isHalfOfFraction wsX8_isHalfOfFraction) := goodIn_app (goodIn_of _ (by decide +kernel)) ggX8_envelope_X8_isHalfOfFraction
set_option maxRecDepth 20000 in
theorem ggX8_envelope_X8_aimAt : GoodIn wsX8_envelope wsX8_aimAt := goodIn_r _ [16, 1, 17, 18, 19, 20, 21, 22, 23, 24, 25, 26, 27, 28, 29, 30, 31, 32, 33, 34, 35, 36, 37, 38, 39, 40, 41, 42, 43, 44, 45, 46, 47, 48, 49, 50, 51, 52, 53, 54, 55, 56, 57, 8, 58, 59, 60, 61, 77, 78, 79, 80, 81, 82, 83, 84, 85, 88, 89, 90, 91, 92, 93, 94, 95, 96, 97, 98, 99, 100, 101, 102] (by decide +kernel) (by decide +kernel)
set_option maxRecDepth 20000 in
theorem gX8_envelope_X8_aimAt : GoodIn wsX8_envelope (wsV RX8 180 RX8 yX8_aimAt wsX8_aimAt) := goodIn_app (goodIn_of _ (by decide +kernel)) ggX8_envelope_X8_aimAt
set_option maxRecDepth 20000 in
theorem ggX8_envelope_X0_tellEnvelope : GoodIn wsX8_envelope wsX0_tellEnvelope := goodIn_r _ [65, 51, 52, 66, 67, 68, 22, 69, 25, 49, 50, 70, 71, 72, 73, 74, 75, 76, 57, 8, 58, 59, 60, 55, 61, 91, 92, 93, 94, 95, 96, 97, 86, 87] (by decide +kernel) (by decide +kernel)
set_option maxRecDepth 20000 in
theorem gX8_envelope_X0_tellEnvelope : GoodIn wsX8_envelope (wsV RX8 184 RX0 yX0_tellEnvelope wsX0_tellEnvelope) := goodIn_app (goodIn_of _ (by decide +kernel)) ggX8_envelope_X0_tellEnvelope
set_option maxRecDepth 20000 in
theorem ggX8_best_X8_isPosterior : GoodIn wsX8_best wsX8_isPosterior := goodIn_r _ [9] (by decide +kernel) (by decide +kernel)
set_option maxRecDepth 20000 in
theorem gX8_best_X8_isPosterior : GoodIn wsX8_best (va_wsS RX8 136 yX8_isPosterior wsX8_isPosterior) := goodIn_app (goodIn_of _ (by decide +kernel)) ggX8_best_X8_isPosterior
set_option maxRecDepth 20000 in
theorem ggX8_best_X8_aimAt : GoodIn wsX8_best wsX8_aimAt := goodIn_r _ [13, 1, 14, 15, 16, 17, 18, 19, 20, 21, 22, 23, 24, 25, 26, 27, 28, 29, 30, 31, 32, 33, 34, 35, 36, 37, 38, 39, 40, 41, 42, 43, 44, 45, 46, 47, 48, 49, 50, 51, 52, 53, 54, 8, 55, 56, 57, 58, 59, 60, 61, 62, 63, 64, 65, 66, 67, 75, 76, 77, 68, 69, 70, 71, 72, 73, 74, 78, 79, 80, 81, 82] (by decide +kernel) (by decide +kernel)
set_option maxRecDepth 20000 in
theorem gX8_best_X8_aimAt : GoodIn wsX8_best (wsV RX8 180 RX8 yX8_aimAt wsX8_aimAt) := goodIn_app (goodIn_of _ (by decide +kernel)) ggX8_best_X8_aimAt
set_option maxRecDepth 20000 in
theorem ggX8_mostGained_X8_findMostGained : GoodIn wsX8_mostGained wsX8_findMostGained := goodIn_r _ [8, 9, 10, 11, 1, 12, 2, 3, 13, 14, 15, 16, 17, 18, 19, 20, 21, 22, 23, 24, 25, 26, 27, 28, 29, 30, 31, 32, 33, 34, 35, 36, 37, 38, 39, 40, 41, 42, 43, 44, 45, 46, 7, 47, 48, 49, 50, 51, 52, 53, 54, 55, 56, 57, 58, 59, 60, 61, 62, 63, 64, 65, 66, 67, 68, 69, 70, 71, 72, 73, 74, 75, 76, 77, 78, 79, 80, 81, 82, 83, 84, 87, 88, 89, 85, 86, 90, 91, 92, 93, 94, 95, 96, 97, 98, 99, 100, 101] (by decide +kernel) (by decide +kernel)
set_option maxRecDepth 20000 in
theorem gX8_mostGained_X8_findMostGained : GoodIn wsX8_mostGained (wsV RX8 199 RX8 yX8_findMostGained wsX8_findMostGained) := goodIn_app (goodIn_of _ (by decide +kernel)) ggX8_mostGained_X8_findMostGained
set_option maxRecDepth 20000 in
theorem ggX8_put_X4_append : GoodIn wsX8_put wsX4_append := goodIn_r _ [6, 7, 8, 9, 19, 20, 21, 22, 23, 24] (by decide +kernel) (by decide +kernel)
set_option maxRecDepth 20000 in
theorem gX8_put_X4_append : GoodIn wsX8_put (wsV RX8 202 RX4 yX4_append wsX4_append) := goodIn_app (goodIn_of _ (by decide +kernel)) ggX8_put_X4_append
set_option maxRecDepth 20000 in
theorem ggX8_fault_X4_firstFault : GoodIn wsX8_fault wsX4_firstFault := goodIn_r _ [6, 7, 8, 9, 10, 11, 5, 12, 13, 14, 15, 16, 17, 18, 19, 20, 21, 22, 23, 24, 25, 26, 27, 28, 29, 30, 31, 32, 33, 34, 35, 36, 37, 38, 39, 40, 41, 42, 43, 44, 45, 46, 47, 57, 58, 59, 60, 61, 62] (by decide +kernel) (by decide +kernel)
set_option maxRecDepth 20000 in
theorem gX8_fault_X4_firstFault : GoodIn wsX8_fault (wsV RX8 206 RX4 yX4_firstFault wsX4_firstFault) := goodIn_app (goodIn_of _ (by decide +kernel)) ggX8_fault_X4_firstFault
set_option maxRecDepth 20000 in
theorem ggX8_carryOut_X4_firstFault : GoodIn wsX8_carryOut wsX4_firstFault := goodIn_r _ [9, 10, 11, 12, 13, 14, 8, 15, 16, 17, 18, 19, 20, 21, 22, 23, 24, 25, 26, 27, 28, 29, 30, 31, 32, 33, 34, 35, 36, 37, 38, 39, 40, 41, 42, 43, 44, 45, 46, 47, 48, 49, 50, 241, 242, 243, 244, 245, 246] (by decide +kernel) (by decide +kernel)
set_option maxRecDepth 20000 in
theorem gX8_carryOut_X4_firstFault : GoodIn wsX8_carryOut (wsV RX8 206 RX4 yX4_firstFault wsX4_firstFault) := goodIn_app (goodIn_of _ (by decide +kernel)) ggX8_carryOut_X4_firstFault
set_option maxRecDepth 20000 in
theorem ggX8_carryOut_X2_note : GoodIn wsX8_carryOut wsX2_note := goodIn_r _ [55, 56, 57, 58, 59, 60, 61, 62, 63, 64, 65, 66, 67, 68, 69, 70, 71, 72, 73, 74, 75, 76, 77, 78, 79, 80, 81, 82, 83, 84, 85, 86, 87, 88, 247, 248, 249, 250, 251, 252, 253, 254, 255, 256, 257, 258, 259, 260] (by decide +kernel) (by decide +kernel)
set_option maxRecDepth 20000 in
theorem gX8_carryOut_X2_note : GoodIn wsX8_carryOut (wsV RX8 62 RX2 yX2_note wsX2_note) := goodIn_app (goodIn_of _ (by decide +kernel)) ggX8_carryOut_X2_note
set_option maxRecDepth 20000 in
theorem ggX8_carryOut_X8_obeyAll : GoodIn wsX8_carryOut wsX8_obeyAll := goodIn_r _ [93, 1, 94, 4, 95, 13, 14, 8, 15, 10, 16, 17, 18, 19, 20, 21, 22, 23, 24, 25, 11, 26, 27, 28, 29, 30, 31, 32, 33, 34, 35, 36, 37, 38, 39, 40, 41, 42, 43, 44, 45, 46, 47, 48, 49, 50, 96, 97, 98, 92, 99, 100, 3, 101, 102, 103, 104, 105, 106, 107, 108, 69, 109, 79, 71, 76, 77, 78, 110, 111, 112, 113, 114, 115, 116, 117, 118, 119, 120, 61, 121, 65, 64, 122, 123, 124, 83, 125, 88, 126, 127, 128, 129, 85, 87, 130, 131, 132, 133, 134, 135, 136, 137, 138, 139, 140, 141, 142, 143, 144, 145, 146, 147, 148, 149, 150, 151, 152, 153, 154, 155, 156, 157, 158, 159, 160, 161, 162, 163, 164, 165, 166, 167, 168, 169, 170, 171, 172, 173, 174, 175, 176, 177, 178, 179, 180, 181, 182, 183, 184, 185, 186, 187, 188, 189, 190, 191, 192, 193, 194, 195, 196, 197, 198, 199, 200, 201, 202, 203, 204, 205, 206, 207, 208, 209, 210, 211, 212, 213, 214, 215, 216, 217, 218, 219, 232, 233, 234, 235, 236, 237, 238, 239, 240, 241, 242, 243, 244, 245, 246, 250, 251, 252, 253, 254, 255, 256, 257, 258, 259, 260, 261, 262, 263, 264, 265, 266, 267, 268] (by decide +kernel) (by decide +kernel)
set_option maxRecDepth 20000 in
theorem gX8_carryOut_X8_obeyAll : GoodIn wsX8_carryOut (wsV RX8 209 RX8 yX8_obeyAll wsX8_obeyAll) := goodIn_app (goodIn_of _ (by decide +kernel)) ggX8_carryOut_X8_obeyAll
set_option maxRecDepth 20000 in
theorem ggX8_carryOut_X8_recorded : GoodIn wsX8_carryOut wsX8_recorded := goodIn_r _ [223, 2, 224, 225, 226, 54, 227, 57, 228, 229, 230, 158, 231, 232, 233, 234, 235, 236, 237, 238, 239, 240, 247, 248, 249] (by decide +kernel) (by decide +kernel)
set_option maxRecDepth 20000 in
theorem gX8_carryOut_X8_recorded : GoodIn wsX8_carryOut (wsV RX8 70 RX8 yX8_recorded wsX8_recorded) := goodIn_app (goodIn_of _ (by decide +kernel)) ggX8_carryOut_X8_recorded
set_option maxRecDepth 20000 in
theorem ggX8_undo_X2_takeBack : GoodIn wsX8_undo wsX2_takeBack := goodIn_r _ [8, 9, 10, 11, 12, 13, 14, 15, 16, 17, 18, 19, 20, 21, 22, 23, 24, 25, 26, 27, 28, 29, 30, 31, 32, 33, 34, 35, 36, 37, 38, 39, 40, 41, 42, 52, 53, 54, 55, 56, 57, 58, 59, 60, 61, 62, 63, 64, 65] (by decide +kernel) (by decide +kernel)
set_option maxRecDepth 20000 in
theorem gX8_undo_X2_takeBack : GoodIn wsX8_undo (wsV RX8 212 RX2 yX2_takeBack wsX2_takeBack) := goodIn_app (goodIn_of _ (by decide +kernel)) ggX8_undo_X2_takeBack
set_option maxRecDepth 20000 in
theorem ggX8_save_X8_isSlot : GoodIn wsX8_save wsX8_isSlot := goodIn_r _ [8] (by decide +kernel) (by decide +kernel)
set_option maxRecDepth 20000 in
theorem gX8_save_X8_isSlot : GoodIn wsX8_save (va_wsS RX8 215 yX8_isSlot wsX8_isSlot) := goodIn_app (goodIn_of _ (by decide +kernel)) ggX8_save_X8_isSlot
set_option maxRecDepth 20000 in
theorem ggX8_save_X7_copyFrom : GoodIn wsX8_save wsX7_copyFrom := goodIn_r _ [13, 14, 15, 16, 17, 18, 19, 20, 21, 22, 23, 24, 25, 26, 27, 28, 29, 30, 31, 32, 33, 34, 35, 36, 37, 38, 39, 49, 50, 51, 52, 53, 54, 55, 56, 57, 58, 59] (by decide +kernel) (by decide +kernel)
set_option maxRecDepth 20000 in
theorem gX8_save_X7_copyFrom : GoodIn wsX8_save (wsV RX8 218 RX7 yX7_copyFrom wsX7_copyFrom) := goodIn_app (goodIn_of _ (by decide +kernel)) ggX8_save_X7_copyFrom
set_option maxRecDepth 20000 in
theorem ggX8_restore_X8_isSlot : GoodIn wsX8_restore wsX8_isSlot := goodIn_r _ [9] (by decide +kernel) (by decide +kernel)
set_option maxRecDepth 20000 in
theorem gX8_restore_X8_isSlot : GoodIn wsX8_restore (va_wsS RX8 215 yX8_isSlot wsX8_isSlot) := goodIn_app (goodIn_of _ (by decide +kernel)) ggX8_restore_X8_isSlot
set_option maxRecDepth 20000 in
theorem ggX8_restore_X2_note : GoodIn wsX8_restore wsX2_note := goodIn_r _ [14, 15, 16, 17, 18, 19, 20, 21, 22, 23, 24, 25, 26, 27, 28, 29, 30, 31, 32, 33, 34, 35, 36, 37, 38, 39, 40, 41, 42, 43, 44, 45, 46, 47, 74, 75, 76, 71, 72, 73, 77, 78, 79, 80, 81, 82, 83, 84] (by decide +kernel) (by decide +kernel)
set_option maxRecDepth 20000 in
theorem gX8_restore_X2_note : GoodIn wsX8_restore (wsV RX8 62 RX2 yX2_note wsX2_note) := goodIn_app (goodIn_of _ (by decide +kernel)) ggX8_restore_X2_note
set_option maxRecDepth 20000 in
theorem ggX8_restore_X7_copyFrom : GoodIn wsX8_restore wsX7_copyFrom := goodIn_r _ [21, 22, 23, 24, 25, 26, 27, 28, 29, 30, 31, 32, 33, 34, 35, 36, 37, 38, 39, 40, 41, 42, 43, 44, 45, 46, 47, 71, 72, 73, 77, 78, 79, 80, 81, 82, 83, 84] (by decide +kernel) (by decide +kernel)
set_option maxRecDepth 20000 in
theorem gX8_restore_X7_copyFrom : GoodIn wsX8_restore (wsV RX8 218 RX7 yX7_copyFrom wsX7_copyFrom) := goodIn_app (goodIn_of _ (by decide +kernel)) ggX8_restore_X7_copyFrom
set_option maxRecDepth 20000 in
theorem ggX8_restore_X8_recorded : GoodIn wsX8_restore wsX8_recorded := goodIn_r _ [52, 2, 53, 54, 55, 13, 56, 16, 57, 58, 59, 60, 61, 62, 63, 64, 65, 66, 67, 68, 69, 70, 74, 75, 76] (by decide +kernel) (by decide +kernel)
set_option maxRecDepth 20000 in
theorem gX8_restore_X8_recorded : GoodIn wsX8_restore (wsV RX8 70 RX8 yX8_recorded wsX8_recorded) := goodIn_app (goodIn_of _ (by decide +kernel)) ggX8_restore_X8_recorded
set_option maxRecDepth 20000 in
theorem ggX8_recorded_X2_keep : GoodIn wsX8_recorded wsX2_keep := goodIn_r _ [6, 7, 8, 9, 10, 11, 12, 22, 23, 24] (by decide +kernel) (by decide +kernel)
set_option maxRecDepth 20000 in
theorem gX8_recorded_X2_keep : GoodIn wsX8_recorded (wsV RX8 221 RX2 yX2_keep wsX2_keep) := goodIn_app (goodIn_of _ (by decide +kernel)) ggX8_recorded_X2_keep
set_option maxRecDepth 20000 in
theorem ggX8_splitPart_X6_has : GoodIn wsX8_splitPart wsX6_has := goodIn_r _ [11, 12, 74, 75, 76] (by decide +kernel) (by decide +kernel)
set_option maxRecDepth 20000 in
theorem gX8_splitPart_X6_has : GoodIn wsX8_splitPart (wsV RX8 121 RX6 yX6_has wsX6_has) := goodIn_app (goodIn_of _ (by decide +kernel)) ggX8_splitPart_X6_has
set_option maxRecDepth 20000 in
theorem ggX8_splitPart_X3_gather : GoodIn wsX8_splitPart wsX3_gather := goodIn_r _ [17, 18, 19, 20, 21, 22, 23, 16, 24, 25, 26, 27, 28, 29, 30, 31, 32, 74, 75, 76, 77] (by decide +kernel) (by decide +kernel)
set_option maxRecDepth 20000 in
theorem gX8_splitPart_X3_gather : GoodIn wsX8_splitPart (wsV RX8 224 RX3 yX3_gather wsX3_gather) := goodIn_app (goodIn_of _ (by decide +kernel)) ggX8_splitPart_X3_gather
set_option maxRecDepth 20000 in
theorem ggX8_splitPart_X3_add : GoodIn wsX8_splitPart wsX3_add := goodIn_r _ [29, 25, 30, 31, 32, 77] (by decide +kernel) (by decide +kernel)
set_option maxRecDepth 20000 in
theorem gX8_splitPart_X3_add : GoodIn wsX8_splitPart (wsV RX8 228 RX3 yX3_add wsX3_add) := goodIn_app (goodIn_of _ (by decide +kernel)) ggX8_splitPart_X3_add
set_option maxRecDepth 20000 in
theorem ggX8_splitPart_X8_takeMix : GoodIn wsX8_splitPart wsX8_takeMix := goodIn_r _ [37, 6, 1, 2, 4, 38, 39, 40, 16, 41, 25, 42, 31, 43, 44, 45, 46, 47, 48, 49, 50, 51, 52, 53, 54, 55, 18, 56, 57, 58, 10, 59, 12, 60, 61, 62, 63, 64, 65, 66, 67, 68, 69, 70, 71, 72, 73, 74, 75, 76, 77] (by decide +kernel) (by decide +kernel)
set_option maxRecDepth 20000 in
theorem gX8_splitPart_X8_takeMix : GoodIn wsX8_splitPart (wsV RX8 232 RX8 yX8_takeMix wsX8_takeMix) := goodIn_app (goodIn_of _ (by decide +kernel)) ggX8_splitPart_X8_takeMix
set_option maxRecDepth 20000 in
theorem ggX8_joinWithNext_X6_has : GoodIn wsX8_joinWithNext wsX6_has := goodIn_r _ [10, 11, 74, 75, 76] (by decide +kernel) (by decide +kernel)
set_option maxRecDepth 20000 in
theorem gX8_joinWithNext_X6_has : GoodIn wsX8_joinWithNext (wsV RX8 121 RX6 yX6_has wsX6_has) := goodIn_app (goodIn_of _ (by decide +kernel)) ggX8_joinWithNext_X6_has
set_option maxRecDepth 20000 in
theorem ggX8_joinWithNext_X3_gather : GoodIn wsX8_joinWithNext wsX3_gather := goodIn_r _ [16, 17, 18, 19, 20, 21, 22, 15, 23, 24, 25, 26, 27, 28, 29, 30, 31, 74, 75, 76, 77] (by decide +kernel) (by decide +kernel)
set_option maxRecDepth 20000 in
theorem gX8_joinWithNext_X3_gather : GoodIn wsX8_joinWithNext (wsV RX8 224 RX3 yX3_gather wsX3_gather) := goodIn_app (goodIn_of _ (by decide +kernel)) ggX8_joinWithNext_X3_gather
set_option maxRecDepth 20000 in
theorem ggX8_joinWithNext_X3_add : GoodIn wsX8_joinWithNext wsX3_add := goodIn_r _ [28, 24, 29, 30, 31, 77] (by decide +kernel) (by decide +kernel)
set_option maxRecDepth 20000 in
theorem gX8_joinWithNext_X3_add : GoodIn wsX8_joinWithNext (wsV RX8 228 RX3 yX3_add wsX3_add) := goodIn_app (goodIn_of _ (by decide +kernel)) ggX8_joinWithNext_X3_add
set_option maxRecDepth 20000 in
theorem ggX8_joinWithNext_X8_takeMix : GoodIn wsX8_joinWithNext wsX8_takeMix := goodIn_r _ [36, 5, 1, 2, 37, 38, 39, 40, 15, 41, 24, 42, 30, 43, 44, 45, 46, 47, 48, 49, 50, 51, 52, 53, 54, 55, 17, 56, 57, 58, 9, 59, 11, 60, 61, 62, 63, 64, 65, 66, 67, 68, 69, 70, 71, 72, 73, 74, 75, 76, 77] (by decide +kernel) (by decide +kernel)
set_option maxRecDepth 20000 in
theorem gX8_joinWithNext_X8_takeMix : GoodIn wsX8_joinWithNext (wsV RX8 232 RX8 yX8_takeMix wsX8_takeMix) := goodIn_app (goodIn_of _ (by decide +kernel)) ggX8_joinWithNext_X8_takeMix
set_option maxRecDepth 20000 in
theorem ggX8_takeBest_X0_draw : GoodIn wsX8_takeBest wsX0_draw := goodIn_r _ [14, 15, 16, 17, 18, 19, 20, 21, 22, 23, 24, 25, 26, 27, 28, 29, 30, 31, 32, 33, 34, 13, 35, 105, 106, 107, 108, 109, 110, 111, 112, 113, 114, 115, 116] (by decide +kernel) (by decide +kernel)
set_option maxRecDepth 20000 in
theorem gX8_takeBest_X0_draw : GoodIn wsX8_takeBest (wsV RX8 235 RX0 yX0_draw wsX0_draw) := goodIn_app (goodIn_of _ (by decide +kernel)) ggX8_takeBest_X0_draw
set_option maxRecDepth 20000 in
theorem ggX8_takeBest_X0_aim : GoodIn wsX8_takeBest wsX0_aim := goodIn_r _ [39, 15, 17, 40, 41, 42, 43, 44, 45, 46, 47, 32, 33, 34, 13, 35, 16, 48, 49, 50, 51, 52, 53, 105, 106, 107, 108, 109, 110, 111] (by decide +kernel) (by decide +kernel)
set_option maxRecDepth 20000 in
theorem gX8_takeBest_X0_aim : GoodIn wsX8_takeBest (wsV RX8 239 RX0 yX0_aim wsX0_aim) := goodIn_app (goodIn_of _ (by decide +kernel)) ggX8_takeBest_X0_aim
set_option maxRecDepth 20000 in
theorem ggX8_takeBest_X3_clear : GoodIn wsX8_takeBest wsX3_clear := goodIn_r _ [58, 59, 117] (by decide +kernel) (by decide +kernel)
set_option maxRecDepth 20000 in
theorem gX8_takeBest_X3_clear : GoodIn wsX8_takeBest (wsV RX8 242 RX3 yX3_clear wsX3_clear) := goodIn_app (goodIn_of _ (by decide +kernel)) ggX8_takeBest_X3_clear
set_option maxRecDepth 20000 in
theorem ggX8_takeBest_X3_add : GoodIn wsX8_takeBest wsX3_add := goodIn_r _ [63, 59, 64, 49, 65, 117] (by decide +kernel) (by decide +kernel)
set_option maxRecDepth 20000 in
theorem gX8_takeBest_X3_add : GoodIn wsX8_takeBest (wsV RX8 228 RX3 yX3_add wsX3_add) := goodIn_app (goodIn_of _ (by decide +kernel)) ggX8_takeBest_X3_add
set_option maxRecDepth 20000 in
theorem ggX8_takeBest_X8_takeMix : GoodIn wsX8_takeBest wsX8_takeMix := goodIn_r _ [69, 5, 2, 70, 71, 72, 73, 74, 57, 75, 59, 48, 49, 50, 51, 52, 46, 53, 76, 77, 78, 79, 80, 81, 82, 83, 84, 85, 86, 87, 88, 89, 90, 91, 92, 93, 94, 95, 96, 97, 98, 99, 100, 101, 102, 103, 104, 118, 119, 120, 117] (by decide +kernel) (by decide +kernel)
set_option maxRecDepth 20000 in
theorem gX8_takeBest_X8_takeMix : GoodIn wsX8_takeBest (wsV RX8 232 RX8 yX8_takeMix wsX8_takeMix) := goodIn_app (goodIn_of _ (by decide +kernel)) ggX8_takeBest_X8_takeMix
set_option maxRecDepth 20000 in
theorem ggX8_takeTold_X3_clear : GoodIn wsX8_takeTold wsX3_clear := goodIn_r _ [10, 11, 82] (by decide +kernel) (by decide +kernel)
set_option maxRecDepth 20000 in
theorem gX8_takeTold_X3_clear : GoodIn wsX8_takeTold (wsV RX8 242 RX3 yX3_clear wsX3_clear) := goodIn_app (goodIn_of _ (by decide +kernel)) ggX8_takeTold_X3_clear
set_option maxRecDepth 20000 in
theorem ggX8_takeTold_X4_number : GoodIn wsX8_takeTold wsX4_number := goodIn_r _ [16, 17, 18, 73, 74, 75, 76, 77, 78] (by decide +kernel) (by decide +kernel)
set_option maxRecDepth 20000 in
theorem gX8_takeTold_X4_number : GoodIn wsX8_takeTold (wsV RX8 248 RX4 yX4_number wsX4_number) := goodIn_app (goodIn_of _ (by decide +kernel)) ggX8_takeTold_X4_number
set_option maxRecDepth 20000 in
theorem ggX8_takeTold_X8_isPosterior : GoodIn wsX8_takeTold wsX8_isPosterior := goodIn_r _ [22] (by decide +kernel) (by decide +kernel)
set_option maxRecDepth 20000 in
theorem gX8_takeTold_X8_isPosterior : GoodIn wsX8_takeTold (va_wsS RX8 136 yX8_isPosterior wsX8_isPosterior) := goodIn_app (goodIn_of _ (by decide +kernel)) ggX8_takeTold_X8_isPosterior
set_option maxRecDepth 20000 in
theorem ggX8_takeTold_X3_add : GoodIn wsX8_takeTold wsX3_add := goodIn_r _ [26, 11, 20, 21, 22, 82] (by decide +kernel) (by decide +kernel)
set_option maxRecDepth 20000 in
theorem gX8_takeTold_X3_add : GoodIn wsX8_takeTold (wsV RX8 228 RX3 yX3_add wsX3_add) := goodIn_app (goodIn_of _ (by decide +kernel)) ggX8_takeTold_X3_add
set_option maxRecDepth 20000 in
theorem ggX8_takeTold_X3_reduce : GoodIn wsX8_takeTold wsX3_reduce := goodIn_r _ [30, 11, 31, 21, 32, 33, 34, 35, 36, 82] (by decide +kernel) (by decide +kernel)
set_option maxRecDepth 20000 in
theorem gX8_takeTold_X3_reduce : GoodIn wsX8_takeTold (wsV RX8 250 RX3 yX3_reduce wsX3_reduce) := goodIn_app (goodIn_of _ (by decide +kernel)) ggX8_takeTold_X3_reduce
set_option maxRecDepth 20000 in
theorem ggX8_takeTold_X3_fits : GoodIn wsX8_takeTold wsX3_fits := goodIn_r _ [40, 11, 82] (by decide +kernel) (by decide +kernel)
set_option maxRecDepth 20000 in
theorem gX8_takeTold_X3_fits : GoodIn wsX8_takeTold (wsV RX8 253 RX3 yX3_fits wsX3_fits) := goodIn_app (goodIn_of _ (by decide +kernel)) ggX8_takeTold_X3_fits
set_option maxRecDepth 20000 in
theorem ggX8_takeTold_X3_averagesTo : GoodIn wsX8_takeTold wsX3_averagesTo := goodIn_r _ [44, 11, 82] (by decide +kernel) (by decide +kernel)
set_option maxRecDepth 20000 in
theorem gX8_takeTold_X3_averagesTo : GoodIn wsX8_takeTold (wsV RX8 256 RX3 yX3_averagesTo wsX3_averagesTo) := goodIn_app (goodIn_of _ (by decide +kernel)) ggX8_takeTold_X3_averagesTo
set_option maxRecDepth 20000 in
theorem ggX8_takeTold_X8_takeMix : GoodIn wsX8_takeTold wsX8_takeMix := goodIn_r _ [48, 1, 4, 49, 50, 27, 28, 29, 9, 30, 11, 31, 21, 32, 33, 34, 35, 36, 37, 38, 39, 40, 51, 52, 53, 54, 55, 56, 57, 58, 59, 60, 61, 62, 63, 64, 65, 66, 67, 68, 69, 70, 71, 72, 79, 80, 81, 83, 84, 85, 82] (by decide +kernel) (by decide +kernel)
set_option maxRecDepth 20000 in
theorem gX8_takeTold_X8_takeMix : GoodIn wsX8_takeTold (wsV RX8 232 RX8 yX8_takeMix wsX8_takeMix) := goodIn_app (goodIn_of _ (by decide +kernel)) ggX8_takeTold_X8_takeMix
set_option maxRecDepth 20000 in
theorem ggX8_takeMix_X3_reduce : GoodIn wsX8_takeMix wsX3_reduce := goodIn_r _ [9, 10, 11, 12, 13, 14, 15, 16, 17, 50] (by decide +kernel) (by decide +kernel)
set_option maxRecDepth 20000 in
theorem gX8_takeMix_X3_reduce : GoodIn wsX8_takeMix (wsV RX8 250 RX3 yX3_reduce wsX3_reduce) := goodIn_app (goodIn_of _ (by decide +kernel)) ggX8_takeMix_X3_reduce
set_option maxRecDepth 20000 in
theorem ggX8_takeMix_X3_fits : GoodIn wsX8_takeMix wsX3_fits := goodIn_r _ [21, 10, 50] (by decide +kernel) (by decide +kernel)
set_option maxRecDepth 20000 in
theorem gX8_takeMix_X3_fits : GoodIn wsX8_takeMix (wsV RX8 253 RX3 yX3_fits wsX3_fits) := goodIn_app (goodIn_of _ (by decide +kernel)) ggX8_takeMix_X3_fits
set_option maxRecDepth 20000 in
theorem ggX8_takeMix_X3_pourInto : GoodIn wsX8_takeMix wsX3_pourInto := goodIn_r _ [25, 26, 10, 27, 28, 29, 30, 31, 32, 33, 34, 47, 48, 49, 50] (by decide +kernel) (by decide +kernel)
set_option maxRecDepth 20000 in
theorem gX8_takeMix_X3_pourInto : GoodIn wsX8_takeMix (wsV RX8 259 RX3 yX3_pourInto wsX3_pourInto) := goodIn_app (goodIn_of _ (by decide +kernel)) ggX8_takeMix_X3_pourInto
set_option maxRecDepth 20000 in
theorem ggX8_aimAt_X0_draw : GoodIn wsX8_aimAt wsX0_draw := goodIn_r _ [8, 9, 10, 11, 12, 13, 14, 15, 16, 17, 18, 19, 20, 21, 22, 23, 24, 25, 26, 27, 28, 7, 29, 60, 61, 62, 63, 64, 65, 66, 67, 68, 69, 70, 71] (by decide +kernel) (by decide +kernel)
set_option maxRecDepth 20000 in
theorem gX8_aimAt_X0_draw : GoodIn wsX8_aimAt (wsV RX8 235 RX0 yX0_draw wsX0_draw) := goodIn_app (goodIn_of _ (by decide +kernel)) ggX8_aimAt_X0_draw
set_option maxRecDepth 20000 in
theorem ggX8_aimAt_X0_aim : GoodIn wsX8_aimAt wsX0_aim := goodIn_r _ [33, 9, 11, 34, 35, 36, 37, 38, 39, 40, 41, 26, 27, 28, 7, 29, 10, 42, 43, 44, 45, 46, 47, 60, 61, 62, 63, 64, 65, 66] (by decide +kernel) (by decide +kernel)
set_option maxRecDepth 20000 in
theorem gX8_aimAt_X0_aim : GoodIn wsX8_aimAt (wsV RX8 239 RX0 yX0_aim wsX0_aim) := goodIn_app (goodIn_of _ (by decide +kernel)) ggX8_aimAt_X0_aim
set_option maxRecDepth 20000 in
theorem ggX8_meanIsEnvelope_X7_tellMeanValue : GoodIn wsX8_meanIsEnvelope wsX7_tellMeanValue := goodIn_r _ [12, 13, 14, 15, 16, 17, 18, 19, 20, 21, 22, 23, 24, 25, 26, 27, 28, 29, 30, 31, 32, 33, 34, 35, 36, 37, 38, 39, 40, 41, 42, 43, 44, 45, 46, 47, 48, 49, 50, 51, 52, 100, 101, 102, 105, 106, 107, 108, 109, 110, 111, 112, 103, 104] (by decide +kernel) (by decide +kernel)
set_option maxRecDepth 20000 in
theorem gX8_meanIsEnvelope_X7_tellMeanValue : GoodIn wsX8_meanIsEnvelope (wsV RX8 142 RX7 yX7_tellMeanValue wsX7_tellMeanValue) := goodIn_app (goodIn_of _ (by decide +kernel)) ggX8_meanIsEnvelope_X7_tellMeanValue
set_option maxRecDepth 20000 in
theorem ggX8_meanIsEnvelope_X8_aimAt : GoodIn wsX8_meanIsEnvelope wsX8_aimAt := goodIn_r _ [56, 4, 1, 57, 58, 59, 60, 61, 62, 63, 64, 65, 66, 19, 20, 21, 22, 23, 24, 25, 26, 27, 28, 29, 30, 31, 67, 68, 69, 70, 71, 72, 73, 74, 75, 76, 77, 78, 79, 80, 51, 81, 46, 47, 48, 49, 50, 52, 91, 92, 93, 94, 95, 96, 97, 98, 99, 100, 101, 102, 113, 114, 115, 116, 117, 118, 119, 108, 109, 110, 111, 112] (by decide +kernel) (by decide +kernel)
set_option maxRecDepth 20000 in
theorem gX8_meanIsEnvelope_X8_aimAt : GoodIn wsX8_meanIsEnvelope (wsV RX8 180 RX8 yX8_aimAt wsX8_aimAt) := goodIn_app (goodIn_of _ (by decide +kernel)) ggX8_meanIsEnvelope_X8_aimAt
set_option maxRecDepth 20000 in
theorem ggX8_meanIsEnvelope_X0_tellEnvelope : GoodIn wsX8_meanIsEnvelope wsX0_tellEnvelope := goodIn_r _ [85, 77, 78, 86, 87, 88, 61, 89, 64, 75, 76, 90, 40, 41, 42, 43, 44, 45, 46, 47, 48, 49, 50, 51, 52, 113, 114, 115, 116, 117, 118, 119, 103, 104] (by decide +kernel) (by decide +kernel)
set_option maxRecDepth 20000 in
theorem gX8_meanIsEnvelope_X0_tellEnvelope : GoodIn wsX8_meanIsEnvelope (wsV RX8 184 RX0 yX0_tellEnvelope wsX0_tellEnvelope) := goodIn_app (goodIn_of _ (by decide +kernel)) ggX8_meanIsEnvelope_X0_tellEnvelope
set_option maxRecDepth 20000 in
theorem ggX8_findMostGained_X0_draw : GoodIn wsX8_findMostGained wsX0_draw := goodIn_r _ [12, 13, 14, 15, 16, 17, 18, 19, 20, 21, 22, 23, 24, 25, 26, 27, 28, 29, 30, 31, 32, 11, 33, 86, 87, 88, 89, 90, 91, 92, 93, 94, 95, 96, 97] (by decide +kernel) (by decide +kernel)
set_option maxRecDepth 20000 in
theorem gX8_findMostGained_X0_draw : GoodIn wsX8_findMostGained (wsV RX8 235 RX0 yX0_draw wsX0_draw) := goodIn_app (goodIn_of _ (by decide +kernel)) ggX8_findMostGained_X0_draw
set_option maxRecDepth 20000 in
theorem ggX8_findMostGained_X1_become : GoodIn wsX8_findMostGained wsX1_become := goodIn_r _ [38, 39, 40, 41, 42, 43, 44, 45, 46, 47, 84, 85] (by decide +kernel) (by decide +kernel)
set_option maxRecDepth 20000 in
theorem gX8_findMostGained_X1_become : GoodIn wsX8_findMostGained (wsV RX8 263 RX1 yX1_become wsX1_become) := goodIn_app (goodIn_of _ (by decide +kernel)) ggX8_findMostGained_X1_become
set_option maxRecDepth 20000 in
theorem ggX8_findMostGained_X0_aim : GoodIn wsX8_findMostGained wsX0_aim := goodIn_r _ [51, 13, 15, 52, 53, 54, 55, 56, 57, 46, 58, 30, 31, 32, 11, 33, 14, 41, 42, 43, 44, 45, 47, 86, 87, 88, 89, 90, 91, 92] (by decide +kernel) (by decide +kernel)
set_option maxRecDepth 20000 in
theorem gX8_findMostGained_X0_aim : GoodIn wsX8_findMostGained (wsV RX8 239 RX0 yX0_aim wsX0_aim) := goodIn_app (goodIn_of _ (by decide +kernel)) ggX8_findMostGained_X0_aim
set_option maxRecDepth 20000 in
theorem ggX8_findMostGained_X0_tellGain : GoodIn wsX8_findMostGained wsX0_tellGain := goodIn_r _ [62, 54, 55, 14, 63, 64, 65, 11, 66, 52, 53, 67, 35, 36, 37, 38, 39, 40, 41, 42, 43, 44, 45, 46, 47, 86, 87, 88, 89, 90, 91, 92, 84, 85] (by decide +kernel) (by decide +kernel)
set_option maxRecDepth 20000 in
theorem gX8_findMostGained_X0_tellGain : GoodIn wsX8_findMostGained (wsV RX8 266 RX0 yX0_tellGain wsX0_tellGain) := goodIn_app (goodIn_of _ (by decide +kernel)) ggX8_findMostGained_X0_tellGain
set_option maxRecDepth 20000 in
theorem ggX8_findMostGained_X1_isAbove : GoodIn wsX8_findMostGained wsX1_isAbove := goodIn_r _ [71, 39, 40, 84, 85] (by decide +kernel) (by decide +kernel)
set_option maxRecDepth 20000 in
theorem gX8_findMostGained_X1_isAbove : GoodIn wsX8_findMostGained (wsV RX8 269 RX1 yX1_isAbove wsX1_isAbove) := goodIn_app (goodIn_of _ (by decide +kernel)) ggX8_findMostGained_X1_isAbove
set_option maxRecDepth 20000 in
theorem ggX8_obeyAll_X4_readNext : GoodIn wsX8_obeyAll wsX4_readNext := goodIn_r _ [8, 9, 10, 11, 12, 13, 14, 7, 15, 16, 17, 18, 19, 20, 21, 22, 23, 24, 25, 26, 27, 28, 29, 30, 31, 32, 33, 34, 35, 36, 37, 38, 39, 40, 41, 42, 43, 44, 45, 194, 195, 196, 197, 198, 199] (by decide +kernel) (by decide +kernel)
set_option maxRecDepth 20000 in
theorem gX8_obeyAll_X4_readNext : GoodIn wsX8_obeyAll (wsV RX8 276 RX4 yX4_readNext wsX4_readNext) := goodIn_app (goodIn_of _ (by decide +kernel)) ggX8_obeyAll_X4_readNext
set_option maxRecDepth 20000 in
theorem ggX8_obeyAll_X8_obey : GoodIn wsX8_obeyAll wsX8_obey := goodIn_r _ [50, 1, 51, 52, 53, 54, 55, 56, 7, 57, 10, 26, 58, 59, 60, 61, 62, 63, 64, 65, 66, 67, 68, 69, 70, 71, 72, 73, 74, 75, 76, 77, 78, 79, 80, 81, 82, 83, 84, 85, 86, 87, 88, 89, 90, 91, 92, 93, 94, 95, 96, 97, 49, 98, 99, 100, 101, 102, 103, 104, 105, 106, 107, 108, 109, 110, 111, 112, 113, 114, 115, 116, 117, 118, 119, 120, 121, 122, 123, 124, 125, 126, 127, 128, 129, 130, 131, 132, 133, 134, 135, 136, 137, 138, 139, 140, 141, 142, 143, 144, 145, 146, 147, 148, 149, 150, 151, 152, 153, 154, 155, 156, 157, 158, 159, 160, 161, 162, 163, 164, 165, 166, 167, 168, 169, 170, 171, 172, 173, 174, 175, 176, 177, 178, 179, 180, 181, 182, 183, 184, 185, 186, 187, 188, 189, 190, 191, 192, 193, 194, 195, 196, 197, 198, 199, 200, 201, 202, 203, 204, 205, 206, 207, 208, 209, 210, 211, 212, 213, 214, 215, 216, 217, 218] (by decide +kernel) (by decide +kernel)
set_option maxRecDepth 20000 in
theorem gX8_obeyAll_X8_obey : GoodIn wsX8_obeyAll (wsV RX8 279 RX8 yX8_obey wsX8_obey) := goodIn_app (goodIn_of _ (by decide +kernel)) ggX8_obeyAll_X8_obey
set_option maxRecDepth 20000 in
theorem ggX8_obey_X4_number : GoodIn wsX8_obey wsX4_number := goodIn_r _ [9, 10, 11, 149, 150, 151, 152, 153, 154] (by decide +kernel) (by decide +kernel)
set_option maxRecDepth 20000 in
theorem gX8_obey_X4_number : GoodIn wsX8_obey (wsV RX8 248 RX4 yX4_number wsX4_number) := goodIn_app (goodIn_of _ (by decide +kernel)) ggX8_obey_X4_number
set_option maxRecDepth 20000 in
theorem ggX8_obey_X5_admit : GoodIn wsX8_obey wsX5_admit := goodIn_r _ [16, 17, 18, 19, 20, 21, 158, 159, 160, 161, 162] (by decide +kernel) (by decide +kernel)
set_option maxRecDepth 20000 in
theorem gX8_obey_X5_admit : GoodIn wsX8_obey (wsV RX8 77 RX5 yX5_admit wsX5_admit) := goodIn_app (goodIn_of _ (by decide +kernel)) ggX8_obey_X5_admit
set_option maxRecDepth 20000 in
theorem ggX8_obey_X5_remove : GoodIn wsX8_obey wsX5_remove := goodIn_r _ [25, 17, 18, 19, 20, 21, 26, 27, 28, 15, 29, 158, 159, 160, 161, 162] (by decide +kernel) (by decide +kernel)
set_option maxRecDepth 20000 in
theorem gX8_obey_X5_remove : GoodIn wsX8_obey (wsV RX8 83 RX5 yX5_remove wsX5_remove) := goodIn_app (goodIn_of _ (by decide +kernel)) ggX8_obey_X5_remove
set_option maxRecDepth 20000 in
theorem ggX8_obey_X7_movePrior : GoodIn wsX8_obey wsX7_movePrior := goodIn_r _ [34, 35, 36, 37, 38, 39, 40, 41, 42, 43, 44, 45, 46, 47, 48, 155, 156, 157, 163, 164, 165] (by decide +kernel) (by decide +kernel)
set_option maxRecDepth 20000 in
theorem gX8_obey_X7_movePrior : GoodIn wsX8_obey (wsV RX8 66 RX7 yX7_movePrior wsX7_movePrior) := goodIn_app (goodIn_of _ (by decide +kernel)) ggX8_obey_X7_movePrior
set_option maxRecDepth 20000 in
theorem ggX8_obey_X8_takeTold : GoodIn wsX8_obey wsX8_takeTold := goodIn_r _ [53, 54, 1, 55, 3, 56, 57, 58, 59, 60, 61, 62, 5, 6, 7, 8, 9, 10, 11, 63, 64, 52, 65, 66, 67, 68, 69, 70, 71, 72, 73, 74, 75, 76, 77, 78, 79, 80, 81, 82, 83, 84, 85, 86, 87, 88, 89, 90, 91, 92, 93, 94, 95, 96, 97, 98, 99, 44, 45, 40, 46, 42, 47, 48, 140, 141, 142, 143, 144, 145, 146, 147, 148, 149, 150, 151, 152, 153, 154, 155, 156, 157, 166, 163, 164, 165] (by decide +kernel) (by decide +kernel)
set_option maxRecDepth 20000 in
theorem gX8_obey_X8_takeTold : GoodIn wsX8_obey (wsV RX8 285 RX8 yX8_takeTold wsX8_takeTold) := goodIn_app (goodIn_of _ (by decide +kernel)) ggX8_obey_X8_takeTold
set_option maxRecDepth 20000 in
theorem ggX8_obey_X8_takeBest : GoodIn wsX8_obey wsX8_takeBest := goodIn_r _ [103, 104, 3, 4, 56, 54, 105, 106, 107, 108, 109, 110, 111, 112, 113, 114, 115, 116, 117, 118, 119, 15, 120, 17, 21, 20, 121, 122, 123, 124, 19, 18, 125, 126, 127, 128, 129, 130, 131, 132, 133, 134, 135, 136, 137, 138, 78, 139, 74, 52, 75, 76, 77, 79, 57, 58, 59, 60, 61, 62, 66, 67, 68, 69, 64, 65, 88, 89, 90, 91, 92, 93, 70, 71, 72, 73, 80, 81, 82, 83, 94, 95, 96, 97, 98, 99, 44, 45, 40, 46, 42, 47, 48, 140, 141, 142, 143, 144, 145, 146, 147, 148, 155, 156, 157, 167, 168, 169, 170, 171, 172, 173, 158, 159, 160, 161, 162, 166, 163, 164, 165] (by decide +kernel) (by decide +kernel)
set_option maxRecDepth 20000 in
theorem gX8_obey_X8_takeBest : GoodIn wsX8_obey (wsV RX8 93 RX8 yX8_takeBest wsX8_takeBest) := goodIn_app (goodIn_of _ (by decide +kernel)) ggX8_obey_X8_takeBest
set_option maxRecDepth 20000 in
theorem ggX9_init_X9_begins : GoodIn wsX9_init wsX9_begins := goodIn_r _ [16, 5, 17, 18, 19, 15, 20, 21, 22, 23, 24, 25, 11, 10, 26, 27, 28, 29, 30, 31, 32, 33, 34, 35, 36, 37, 38, 39, 40, 41, 42, 43, 44, 45, 46, 47, 48, 49] (by decide +kernel) (by decide +kernel)
set_option maxRecDepth 20000 in
theorem gX9_init_X9_begins : GoodIn wsX9_init (wsV RX9 31 RX9 yX9_begins wsX9_begins) := goodIn_app (goodIn_of _ (by decide +kernel)) ggX9_init_X9_begins
set_option maxRecDepth 20000 in
theorem ggX9_record_X9_moves : GoodIn wsX9_record wsX9_moves := goodIn_r _ [7] (by decide +kernel) (by decide +kernel)
set_option maxRecDepth 20000 in
theorem gX9_record_X9_moves : GoodIn wsX9_record (va_wsS RX9 39 yX9_moves wsX9_moves) := goodIn_app (goodIn_of _ (by decide +kernel)) ggX9_record_X9_moves
set_option maxRecDepth 20000 in
theorem ggX9_takeFraction_X9_divisor : GoodIn wsX9_takeFraction wsX9_divisor := goodIn_r _ [6] (by decide +kernel) (by decide +kernel)
set_option maxRecDepth 20000 in
theorem gX9_takeFraction_X9_divisor : GoodIn wsX9_takeFraction (va_wsS RX9 43 yX9_divisor wsX9_divisor) := goodIn_app (goodIn_of _ (by decide +kernel)) ggX9_takeFraction_X9_divisor
set_option maxRecDepth 20000 in
theorem ggX9_isReceiver_X9_within : GoodIn wsX9_isReceiver wsX9_within := goodIn_r _ [5] (by decide +kernel) (by decide +kernel)
set_option maxRecDepth 20000 in
theorem gX9_isReceiver_X9_within : GoodIn wsX9_isReceiver (va_wsS RX9 53 yX9_within wsX9_within) := goodIn_app (goodIn_of _ (by decide +kernel)) ggX9_isReceiver_X9_within
set_option maxRecDepth 20000 in
theorem ggX9_worthAt_X9_receiverPart : GoodIn wsX9_worthAt wsX9_receiverPart := goodIn_r _ [5, 6, 7, 8, 9, 10, 11, 12, 13, 14, 15, 16, 17, 18, 19, 20, 21, 22, 23, 24, 25, 26] (by decide +kernel) (by decide +kernel)
set_option maxRecDepth 20000 in
theorem gX9_worthAt_X9_receiverPart : GoodIn wsX9_worthAt (wsV RX9 57 RX9 yX9_receiverPart wsX9_receiverPart) := goodIn_app (goodIn_of _ (by decide +kernel)) ggX9_worthAt_X9_receiverPart
set_option maxRecDepth 20000 in
theorem ggX9_acts_X9_receiverPart : GoodIn wsX9_acts wsX9_receiverPart := goodIn_r _ [5, 6, 7, 8, 9, 10, 11, 12, 13, 14, 15, 16, 17, 18, 19, 20, 21, 22, 23, 24, 25, 26] (by decide +kernel) (by decide +kernel)
set_option maxRecDepth 20000 in
theorem gX9_acts_X9_receiverPart : GoodIn wsX9_acts (wsV RX9 57 RX9 yX9_receiverPart wsX9_receiverPart) := goodIn_app (goodIn_of _ (by decide +kernel)) ggX9_acts_X9_receiverPart
set_option maxRecDepth 20000 in
theorem ggX9_actingAt_X9_acts : GoodIn wsX9_actingAt wsX9_acts := goodIn_r _ [6, 7, 8, 9, 5, 10, 1, 11, 12, 13, 14, 15, 16, 17, 18, 19, 20, 21, 22, 23, 24, 25, 26, 27, 28, 29, 30] (by decide +kernel) (by decide +kernel)
set_option maxRecDepth 20000 in
theorem gX9_actingAt_X9_acts : GoodIn wsX9_actingAt (wsV RX9 60 RX9 yX9_acts wsX9_acts) := goodIn_app (goodIn_of _ (by decide +kernel)) ggX9_actingAt_X9_acts
set_option maxRecDepth 20000 in
theorem ggX9_valueAt_X9_actingAt : GoodIn wsX9_valueAt wsX9_actingAt := goodIn_r _ [6, 1, 7, 8, 9, 5, 10, 11, 12, 13, 14, 15, 16, 17, 18, 19, 20, 21, 22, 23, 24, 25, 26, 27, 28, 29, 30, 31, 32, 33, 34] (by decide +kernel) (by decide +kernel)
set_option maxRecDepth 20000 in
theorem gX9_valueAt_X9_actingAt : GoodIn wsX9_valueAt (wsV RX9 64 RX9 yX9_actingAt wsX9_actingAt) := goodIn_app (goodIn_of _ (by decide +kernel)) ggX9_valueAt_X9_actingAt
set_option maxRecDepth 20000 in
theorem ggX9_valueAt_X9_receiverPart : GoodIn wsX9_valueAt wsX9_receiverPart := goodIn_r _ [14, 1, 15, 16, 17, 18, 19, 20, 21, 22, 23, 24, 25, 26, 27, 28, 29, 30, 31, 32, 33, 34] (by decide +kernel) (by decide +kernel)
set_option maxRecDepth 20000 in
theorem gX9_valueAt_X9_receiverPart : GoodIn wsX9_valueAt (wsV RX9 57 RX9 yX9_receiverPart wsX9_receiverPart) := goodIn_app (goodIn_of _ (by decide +kernel)) ggX9_valueAt_X9_receiverPart
set_option maxRecDepth 20000 in
theorem ggX9_leastActing_X9_acts : GoodIn wsX9_leastActing wsX9_acts := goodIn_r _ [5, 6, 7, 8, 4, 9, 10, 11, 12, 13, 14, 15, 16, 17, 18, 19, 20, 21, 22, 23, 24, 25, 26, 27, 28, 29, 30] (by decide +kernel) (by decide +kernel)
set_option maxRecDepth 20000 in
theorem gX9_leastActing_X9_acts : GoodIn wsX9_leastActing (wsV RX9 60 RX9 yX9_acts wsX9_acts) := goodIn_app (goodIn_of _ (by decide +kernel)) ggX9_leastActing_X9_acts
set_option maxRecDepth 20000 in
theorem ggX9_isPart_X9_within : GoodIn wsX9_isPart wsX9_within := goodIn_r _ [5] (by decide +kernel) (by decide +kernel)
set_option maxRecDepth 20000 in
theorem gX9_isPart_X9_within : GoodIn wsX9_isPart (va_wsS RX9 53 yX9_within wsX9_within) := goodIn_app (goodIn_of _ (by decide +kernel)) ggX9_isPart_X9_within
set_option maxRecDepth 20000 in
theorem ggX9_begins_X9_takesOne : GoodIn wsX9_begins wsX9_takesOne := goodIn_r _ [6, 7, 8, 9, 10, 5, 11, 12, 13, 14, 15, 16, 17, 1, 18, 19, 20, 21, 22, 23, 24, 25, 26, 27, 28, 29, 30, 31, 32, 33, 34, 35, 36, 37] (by decide +kernel) (by decide +kernel)
set_option maxRecDepth 20000 in
theorem gX9_begins_X9_takesOne : GoodIn wsX9_begins (wsV RX9 68 RX9 yX9_takesOne wsX9_takesOne) := goodIn_app (goodIn_of _ (by decide +kernel)) ggX9_begins_X9_takesOne
set_option maxRecDepth 20000 in
theorem ggX9_takesOne_X9_takes : GoodIn wsX9_takesOne wsX9_takes := goodIn_r _ [6, 1, 7, 8, 14, 15, 16, 17, 18, 19, 20, 21, 22, 23, 24, 25, 26, 27, 28, 29, 30, 31, 32, 33] (by decide +kernel) (by decide +kernel)
set_option maxRecDepth 20000 in
theorem gX9_takesOne_X9_takes : GoodIn wsX9_takesOne (wsV RX9 75 RX9 yX9_takes wsX9_takes) := goodIn_app (goodIn_of _ (by decide +kernel)) ggX9_takesOne_X9_takes
set_option maxRecDepth 20000 in
theorem ggX9_takesOne_X9_gives : GoodIn wsX9_takesOne wsX9_gives := goodIn_r _ [12, 13, 1, 8, 7, 14, 15, 16, 17, 18, 19, 20, 21, 22, 23, 24, 25, 26, 27, 28, 29, 30, 31, 32, 33] (by decide +kernel) (by decide +kernel)
set_option maxRecDepth 20000 in
theorem gX9_takesOne_X9_gives : GoodIn wsX9_takesOne (wsV RX9 78 RX9 yX9_gives wsX9_gives) := goodIn_app (goodIn_of _ (by decide +kernel)) ggX9_takesOne_X9_gives
set_option maxRecDepth 20000 in
theorem ggX9_areWell_X9_divisor : GoodIn wsX9_areWell wsX9_divisor := goodIn_r _ [6] (by decide +kernel) (by decide +kernel)
set_option maxRecDepth 20000 in
theorem gX9_areWell_X9_divisor : GoodIn wsX9_areWell (va_wsS RX9 43 yX9_divisor wsX9_divisor) := goodIn_app (goodIn_of _ (by decide +kernel)) ggX9_areWell_X9_divisor
set_option maxRecDepth 20000 in
theorem ggX9_takeMean_X9_valueAt : GoodIn wsX9_takeMean wsX9_valueAt := goodIn_r _ [6, 1, 7, 8, 9, 5, 10, 11, 12, 13, 14, 15, 16, 17, 18, 32, 33, 34, 35, 36, 37, 38, 39, 40, 41, 42, 43, 44, 45, 46, 47, 48, 49, 50, 51] (by decide +kernel) (by decide +kernel)
set_option maxRecDepth 20000 in
theorem gX9_takeMean_X9_valueAt : GoodIn wsX9_takeMean (wsV RX9 81 RX9 yX9_valueAt wsX9_valueAt) := goodIn_app (goodIn_of _ (by decide +kernel)) ggX9_takeMean_X9_valueAt
set_option maxRecDepth 20000 in
theorem ggX9_takeMean_X9_weightSum : GoodIn wsX9_takeMean wsX9_weightSum := goodIn_r _ [22, 1, 32, 33, 34, 35, 36, 37, 38, 39, 40, 41, 42, 43, 44, 45, 46, 47, 48, 49, 50, 51] (by decide +kernel) (by decide +kernel)
set_option maxRecDepth 20000 in
theorem gX9_takeMean_X9_weightSum : GoodIn wsX9_takeMean (wsV RX9 84 RX9 yX9_weightSum wsX9_weightSum) := goodIn_app (goodIn_of _ (by decide +kernel)) ggX9_takeMean_X9_weightSum
set_option maxRecDepth 20000 in
theorem ggX9_takeMean_X9_takeFraction : GoodIn wsX9_takeMean wsX9_takeFraction := goodIn_r _ [26, 27, 28, 29, 30, 5, 31, 32, 33, 34, 35, 36, 37, 38, 39, 40, 41, 42, 43, 44, 45, 46, 47, 48, 49, 50, 51] (by decide +kernel) (by decide +kernel)
set_option maxRecDepth 20000 in
theorem gX9_takeMean_X9_takeFraction : GoodIn wsX9_takeMean (wsV RX9 88 RX9 yX9_takeFraction wsX9_takeFraction) := goodIn_app (goodIn_of _ (by decide +kernel)) ggX9_takeMean_X9_takeFraction
set_option maxRecDepth 20000 in
theorem ggX9_takeEnvelope_X9_valueAt : GoodIn wsX9_takeEnvelope wsX9_valueAt := goodIn_r _ [7, 8, 9, 10, 11, 6, 12, 13, 14, 15, 16, 17, 18, 19, 20, 30, 31, 32, 33, 34, 35, 36, 37, 38, 39, 40, 41, 42, 43, 44, 45, 46, 47, 48, 49] (by decide +kernel) (by decide +kernel)
set_option maxRecDepth 20000 in
theorem gX9_takeEnvelope_X9_valueAt : GoodIn wsX9_takeEnvelope (wsV RX9 81 RX9 yX9_valueAt wsX9_valueAt) := goodIn_app (goodIn_of _ (by decide +kernel)) ggX9_takeEnvelope_X9_valueAt
set_option maxRecDepth 20000 in
theorem ggX9_takeEnvelope_X9_takeFraction : GoodIn wsX9_takeEnvelope wsX9_takeFraction := goodIn_r _ [24, 25, 26, 27, 28, 6, 29, 30, 31, 32, 33, 34, 35, 36, 37, 38, 39, 40, 41, 42, 43, 44, 45, 46, 47, 48, 49] (by decide +kernel) (by decide +kernel)
set_option maxRecDepth 20000 in
theorem gX9_takeEnvelope_X9_takeFraction : GoodIn wsX9_takeEnvelope (wsV RX9 88 RX9 yX9_takeFraction wsX9_takeFraction) := goodIn_app (goodIn_of _ (by decide +kernel)) ggX9_takeEnvelope_X9_takeFraction
set_option maxRecDepth 20000 in
theorem ggX9_weightOf_X9_divisor : GoodIn wsX9_weightOf wsX9_divisor := goodIn_r _ [6] (by decide +kernel) (by decide +kernel)
set_option maxRecDepth 20000 in
theorem gX9_weightOf_X9_divisor : GoodIn wsX9_weightOf (va_wsS RX9 43 yX9_divisor wsX9_divisor) := goodIn_app (goodIn_of _ (by decide +kernel)) ggX9_weightOf_X9_divisor
set_option maxRecDepth 20000 in
theorem ggX9_priors_X9_begins : GoodIn wsX9_priors wsX9_begins := goodIn_r _ [5, 6, 7, 8, 9, 4, 10, 11, 12, 13, 14, 15, 16, 17, 18, 19, 20, 21, 22, 23, 24, 25, 26, 27, 28, 29, 30, 31, 32, 33, 34, 35, 36, 37, 38, 39, 40, 41] (by decide +kernel) (by decide +kernel)
set_option maxRecDepth 20000 in
theorem gX9_priors_X9_begins : GoodIn wsX9_priors (wsV RX9 31 RX9 yX9_begins wsX9_begins) := goodIn_app (goodIn_of _ (by decide +kernel)) ggX9_priors_X9_begins
set_option maxRecDepth 20000 in
theorem ggX9_prior_X9_within : GoodIn wsX9_prior wsX9_within := goodIn_r _ [5] (by decide +kernel) (by decide +kernel)
set_option maxRecDepth 20000 in
theorem gX9_prior_X9_within : GoodIn wsX9_prior (va_wsS RX9 53 yX9_within wsX9_within) := goodIn_app (goodIn_of _ (by decide +kernel)) ggX9_prior_X9_within
set_option maxRecDepth 20000 in
theorem ggX9_prior_X9_record : GoodIn wsX9_prior wsX9_record := goodIn_r _ [9, 10, 11, 1, 12, 13, 4, 14, 38, 39, 40, 41, 42, 43, 44, 45, 46, 47, 48, 49, 50, 51, 52, 53, 54, 55, 56, 57] (by decide +kernel) (by decide +kernel)
set_option maxRecDepth 20000 in
theorem gX9_prior_X9_record : GoodIn wsX9_prior (wsV RX9 97 RX9 yX9_record wsX9_record) := goodIn_app (goodIn_of _ (by decide +kernel)) ggX9_prior_X9_record
set_option maxRecDepth 20000 in
theorem ggX9_prior_X9_priors : GoodIn wsX9_prior wsX9_priors := goodIn_r _ [18, 19, 20, 21, 4, 22, 1, 23, 24, 25, 26, 27, 28, 29, 30, 31, 32, 33, 34, 35, 36, 37, 38, 39, 40, 41, 42, 43, 44, 45, 46, 47, 48, 49, 50, 51, 52, 53, 54, 55, 56, 57] (by decide +kernel) (by decide +kernel)
set_option maxRecDepth 20000 in
theorem gX9_prior_X9_priors : GoodIn wsX9_prior (wsV RX9 100 RX9 yX9_priors wsX9_priors) := goodIn_app (goodIn_of _ (by decide +kernel)) ggX9_prior_X9_priors
set_option maxRecDepth 20000 in
theorem ggX9_whyNotHired_X9_within : GoodIn wsX9_whyNotHired wsX9_within := goodIn_r _ [5] (by decide +kernel) (by decide +kernel)
set_option maxRecDepth 20000 in
theorem gX9_whyNotHired_X9_within : GoodIn wsX9_whyNotHired (va_wsS RX9 53 yX9_within wsX9_within) := goodIn_app (goodIn_of _ (by decide +kernel)) ggX9_whyNotHired_X9_within
set_option maxRecDepth 20000 in
theorem ggX9_hire_X9_whyNotHired : GoodIn wsX9_hire wsX9_whyNotHired := goodIn_r _ [5, 6, 7, 8, 4, 9, 23, 24, 25, 26, 27, 28, 29, 30, 31, 32, 33, 34, 35, 36, 37, 38, 39, 40, 41, 42] (by decide +kernel) (by decide +kernel)
set_option maxRecDepth 20000 in
theorem gX9_hire_X9_whyNotHired : GoodIn wsX9_hire (wsV RX9 103 RX9 yX9_whyNotHired wsX9_whyNotHired) := goodIn_app (goodIn_of _ (by decide +kernel)) ggX9_hire_X9_whyNotHired
set_option maxRecDepth 20000 in
theorem ggX9_hire_X9_record : GoodIn wsX9_hire wsX9_record := goodIn_r _ [13, 14, 15, 6, 16, 17, 4, 18, 23, 24, 25, 26, 27, 28, 29, 30, 31, 32, 33, 34, 35, 36, 37, 38, 39, 40, 41, 42] (by decide +kernel) (by decide +kernel)
set_option maxRecDepth 20000 in
theorem gX9_hire_X9_record : GoodIn wsX9_hire (wsV RX9 97 RX9 yX9_record wsX9_record) := goodIn_app (goodIn_of _ (by decide +kernel)) ggX9_hire_X9_record
set_option maxRecDepth 20000 in
theorem ggX9_hire_X9_hires : GoodIn wsX9_hire wsX9_hires := goodIn_r _ [22, 6, 23, 24, 25, 26, 27, 28, 29, 30, 31, 32, 33, 34, 35, 36, 37, 38, 39, 40, 41, 42] (by decide +kernel) (by decide +kernel)
set_option maxRecDepth 20000 in
theorem gX9_hire_X9_hires : GoodIn wsX9_hire (wsV RX9 107 RX9 yX9_hires wsX9_hires) := goodIn_app (goodIn_of _ (by decide +kernel)) ggX9_hire_X9_hires
set_option maxRecDepth 20000 in
theorem ggX9_dismiss_X9_isReceiver : GoodIn wsX9_dismiss wsX9_isReceiver := goodIn_r _ [5, 6, 7, 8, 4, 9, 23, 24, 25, 26, 27, 28, 29, 30, 31, 32, 33, 34, 35, 36, 37, 38, 39, 40, 41, 42] (by decide +kernel) (by decide +kernel)
set_option maxRecDepth 20000 in
theorem gX9_dismiss_X9_isReceiver : GoodIn wsX9_dismiss (wsV RX9 110 RX9 yX9_isReceiver wsX9_isReceiver) := goodIn_app (goodIn_of _ (by decide +kernel)) ggX9_dismiss_X9_isReceiver
set_option maxRecDepth 20000 in
theorem ggX9_dismiss_X9_record : GoodIn wsX9_dismiss wsX9_record := goodIn_r _ [13, 14, 15, 6, 16, 17, 4, 18, 23, 24, 25, 26, 27, 28, 29, 30, 31, 32, 33, 34, 35, 36, 37, 38, 39, 40, 41, 42] (by decide +kernel) (by decide +kernel)
set_option maxRecDepth 20000 in
theorem gX9_dismiss_X9_record : GoodIn wsX9_dismiss (wsV RX9 97 RX9 yX9_record wsX9_record) := goodIn_app (goodIn_of _ (by decide +kernel)) ggX9_dismiss_X9_record
set_option maxRecDepth 20000 in
theorem ggX9_dismiss_X9_dismisses : GoodIn wsX9_dismiss wsX9_dismisses := goodIn_r _ [22, 6, 23, 24, 25, 26, 27, 28, 29, 30, 31, 32, 33, 34, 35, 36, 37, 38, 39, 40, 41, 42] (by decide +kernel) (by decide +kernel)
set_option maxRecDepth 20000 in
theorem gX9_dismiss_X9_dismisses : GoodIn wsX9_dismiss (wsV RX9 114 RX9 yX9_dismisses wsX9_dismisses) := goodIn_app (goodIn_of _ (by decide +kernel)) ggX9_dismiss_X9_dismisses
set_option maxRecDepth 20000 in
theorem ggX9_refine_X9_isPart : GoodIn wsX9_refine wsX9_isPart := goodIn_r _ [7, 1, 8, 9, 6, 10, 37, 38, 39, 40, 41, 42, 43, 44, 45, 46, 47, 48, 49, 50, 51, 52, 53, 54, 55, 56] (by decide +kernel) (by decide +kernel)
set_option maxRecDepth 20000 in
theorem gX9_refine_X9_isPart : GoodIn wsX9_refine (wsV RX9 117 RX9 yX9_isPart wsX9_isPart) := goodIn_app (goodIn_of _ (by decide +kernel)) ggX9_refine_X9_isPart
set_option maxRecDepth 20000 in
theorem ggX9_refine_X9_within : GoodIn wsX9_refine wsX9_within := goodIn_r _ [10] (by decide +kernel) (by decide +kernel)
set_option maxRecDepth 20000 in
theorem gX9_refine_X9_within : GoodIn wsX9_refine (va_wsS RX9 53 yX9_within wsX9_within) := goodIn_app (goodIn_of _ (by decide +kernel)) ggX9_refine_X9_within
set_option maxRecDepth 20000 in
theorem ggX9_refine_X9_takes : GoodIn wsX9_refine wsX9_takes := goodIn_r _ [14, 2, 15, 16, 37, 38, 39, 40, 41, 42, 43, 44, 45, 46, 47, 48, 49, 50, 51, 52, 53, 54, 55, 56] (by decide +kernel) (by decide +kernel)
set_option maxRecDepth 20000 in
theorem gX9_refine_X9_takes : GoodIn wsX9_refine (wsV RX9 75 RX9 yX9_takes wsX9_takes) := goodIn_app (goodIn_of _ (by decide +kernel)) ggX9_refine_X9_takes
set_option maxRecDepth 20000 in
theorem ggX9_refine_X9_areWell : GoodIn wsX9_refine wsX9_areWell := goodIn_r _ [20, 2, 16, 21, 22, 6, 23, 37, 38, 39, 40, 41, 42, 43, 44, 45, 46, 47, 48, 49, 50, 51, 52, 53, 54, 55, 56] (by decide +kernel) (by decide +kernel)
set_option maxRecDepth 20000 in
theorem gX9_refine_X9_areWell : GoodIn wsX9_refine (wsV RX9 120 RX9 yX9_areWell wsX9_areWell) := goodIn_app (goodIn_of _ (by decide +kernel)) ggX9_refine_X9_areWell
set_option maxRecDepth 20000 in
theorem ggX9_refine_X9_record : GoodIn wsX9_refine wsX9_record := goodIn_r _ [27, 28, 29, 1, 30, 31, 6, 32, 37, 38, 39, 40, 41, 42, 43, 44, 45, 46, 47, 48, 49, 50, 51, 52, 53, 54, 55, 56] (by decide +kernel) (by decide +kernel)
set_option maxRecDepth 20000 in
theorem gX9_refine_X9_record : GoodIn wsX9_refine (wsV RX9 97 RX9 yX9_record wsX9_record) := goodIn_app (goodIn_of _ (by decide +kernel)) ggX9_refine_X9_record
set_option maxRecDepth 20000 in
theorem ggX9_refine_X9_gives : GoodIn wsX9_refine wsX9_gives := goodIn_r _ [36, 1, 2, 16, 15, 37, 38, 39, 40, 41, 42, 43, 44, 45, 46, 47, 48, 49, 50, 51, 52, 53, 54, 55, 56] (by decide +kernel) (by decide +kernel)
set_option maxRecDepth 20000 in
theorem gX9_refine_X9_gives : GoodIn wsX9_refine (wsV RX9 78 RX9 yX9_gives wsX9_gives) := goodIn_app (goodIn_of _ (by decide +kernel)) ggX9_refine_X9_gives
set_option maxRecDepth 20000 in
theorem ggX9_join_X9_isPart : GoodIn wsX9_join wsX9_isPart := goodIn_r _ [7, 1, 8, 9, 6, 10, 37, 38, 39, 40, 41, 42, 43, 44, 45, 46, 47, 48, 49, 50, 51, 52, 53, 54, 55, 56] (by decide +kernel) (by decide +kernel)
set_option maxRecDepth 20000 in
theorem gX9_join_X9_isPart : GoodIn wsX9_join (wsV RX9 117 RX9 yX9_isPart wsX9_isPart) := goodIn_app (goodIn_of _ (by decide +kernel)) ggX9_join_X9_isPart
set_option maxRecDepth 20000 in
theorem ggX9_join_X9_takes : GoodIn wsX9_join wsX9_takes := goodIn_r _ [14, 2, 15, 16, 37, 38, 39, 40, 41, 42, 43, 44, 45, 46, 47, 48, 49, 50, 51, 52, 53, 54, 55, 56] (by decide +kernel) (by decide +kernel)
set_option maxRecDepth 20000 in
theorem gX9_join_X9_takes : GoodIn wsX9_join (wsV RX9 75 RX9 yX9_takes wsX9_takes) := goodIn_app (goodIn_of _ (by decide +kernel)) ggX9_join_X9_takes
set_option maxRecDepth 20000 in
theorem ggX9_join_X9_within : GoodIn wsX9_join wsX9_within := goodIn_r _ [10] (by decide +kernel) (by decide +kernel)
set_option maxRecDepth 20000 in
theorem gX9_join_X9_within : GoodIn wsX9_join (va_wsS RX9 53 yX9_within wsX9_within) := goodIn_app (goodIn_of _ (by decide +kernel)) ggX9_join_X9_within
set_option maxRecDepth 20000 in
theorem ggX9_join_X9_areWell : GoodIn wsX9_join wsX9_areWell := goodIn_r _ [20, 2, 16, 21, 22, 6, 23, 37, 38, 39, 40, 41, 42, 43, 44, 45, 46, 47, 48, 49, 50, 51, 52, 53, 54, 55, 56] (by decide +kernel) (by decide +kernel)
set_option maxRecDepth 20000 in
theorem gX9_join_X9_areWell : GoodIn wsX9_join (wsV RX9 120 RX9 yX9_areWell wsX9_areWell) := goodIn_app (goodIn_of _ (by decide +kernel)) ggX9_join_X9_areWell
set_option maxRecDepth 20000 in
theorem ggX9_join_X9_record : GoodIn wsX9_join wsX9_record := goodIn_r _ [27, 28, 29, 1, 30, 31, 6, 32, 37, 38, 39, 40, 41, 42, 43, 44, 45, 46, 47, 48, 49, 50, 51, 52, 53, 54, 55, 56] (by decide +kernel) (by decide +kernel)
set_option maxRecDepth 20000 in
theorem gX9_join_X9_record : GoodIn wsX9_join (wsV RX9 97 RX9 yX9_record wsX9_record) := goodIn_app (goodIn_of _ (by decide +kernel)) ggX9_join_X9_record
set_option maxRecDepth 20000 in
theorem ggX9_join_X9_gives : GoodIn wsX9_join wsX9_gives := goodIn_r _ [36, 1, 2, 16, 15, 37, 38, 39, 40, 41, 42, 43, 44, 45, 46, 47, 48, 49, 50, 51, 52, 53, 54, 55, 56] (by decide +kernel) (by decide +kernel)
set_option maxRecDepth 20000 in
theorem gX9_join_X9_gives : GoodIn wsX9_join (wsV RX9 78 RX9 yX9_gives wsX9_gives) := goodIn_app (goodIn_of _ (by decide +kernel)) ggX9_join_X9_gives
set_option maxRecDepth 20000 in
theorem ggX9_adopts_X9_takeEnvelope : GoodIn wsX9_adopts wsX9_takeEnvelope := goodIn_r _ [9, 3, 4, 10, 11, 12, 8, 13, 1, 14, 15, 16, 17, 18, 19, 20, 21, 22, 23, 24, 25, 26, 27, 28, 29, 30, 31, 32, 33, 34, 49, 50, 51, 52, 53, 54, 55, 56, 57, 58, 59, 60, 61, 62, 63, 64, 65, 66, 67, 68] (by decide +kernel) (by decide +kernel)
set_option maxRecDepth 20000 in
theorem gX9_adopts_X9_takeEnvelope : GoodIn wsX9_adopts (wsV RX9 124 RX9 yX9_takeEnvelope wsX9_takeEnvelope) := goodIn_app (goodIn_of _ (by decide +kernel)) ggX9_adopts_X9_takeEnvelope
set_option maxRecDepth 20000 in
theorem ggX9_adopts_X9_weightOf : GoodIn wsX9_adopts wsX9_weightOf := goodIn_r _ [38, 3, 4, 32, 33, 8, 34, 49, 50, 51, 52, 53, 54, 55, 56, 57, 58, 59, 60, 61, 62, 63, 64, 65, 66, 67, 68] (by decide +kernel) (by decide +kernel)
set_option maxRecDepth 20000 in
theorem gX9_adopts_X9_weightOf : GoodIn wsX9_adopts (wsV RX9 127 RX9 yX9_weightOf wsX9_weightOf) := goodIn_app (goodIn_of _ (by decide +kernel)) ggX9_adopts_X9_weightOf
set_option maxRecDepth 20000 in
theorem ggX9_adopts_X9_takes : GoodIn wsX9_adopts wsX9_takes := goodIn_r _ [42, 2, 43, 44, 49, 50, 51, 52, 53, 54, 55, 56, 57, 58, 59, 60, 61, 62, 63, 64, 65, 66, 67, 68] (by decide +kernel) (by decide +kernel)
set_option maxRecDepth 20000 in
theorem gX9_adopts_X9_takes : GoodIn wsX9_adopts (wsV RX9 75 RX9 yX9_takes wsX9_takes) := goodIn_app (goodIn_of _ (by decide +kernel)) ggX9_adopts_X9_takes
set_option maxRecDepth 20000 in
theorem ggX9_adopts_X9_gives : GoodIn wsX9_adopts wsX9_gives := goodIn_r _ [48, 1, 2, 44, 43, 49, 50, 51, 52, 53, 54, 55, 56, 57, 58, 59, 60, 61, 62, 63, 64, 65, 66, 67, 68] (by decide +kernel) (by decide +kernel)
set_option maxRecDepth 20000 in
theorem gX9_adopts_X9_gives : GoodIn wsX9_adopts (wsV RX9 78 RX9 yX9_gives wsX9_gives) := goodIn_app (goodIn_of _ (by decide +kernel)) ggX9_adopts_X9_gives
set_option maxRecDepth 20000 in
theorem ggX9_adopt_X9_record : GoodIn wsX9_adopt wsX9_record := goodIn_r _ [5, 6, 7, 8, 9, 10, 4, 11, 62, 63, 64, 65, 66, 67, 68, 69, 70, 71, 72, 73, 74, 75, 76, 77, 78, 79, 80, 81] (by decide +kernel) (by decide +kernel)
set_option maxRecDepth 20000 in
theorem gX9_adopt_X9_record : GoodIn wsX9_adopt (wsV RX9 97 RX9 yX9_record wsX9_record) := goodIn_app (goodIn_of _ (by decide +kernel)) ggX9_adopt_X9_record
set_option maxRecDepth 20000 in
theorem ggX9_adopt_X9_adopts : GoodIn wsX9_adopt wsX9_adopts := goodIn_r _ [15, 8, 16, 17, 18, 19, 20, 21, 4, 22, 23, 24, 25, 26, 27, 28, 29, 30, 31, 32, 33, 34, 35, 36, 37, 38, 39, 40, 41, 42, 43, 44, 45, 46, 47, 48, 49, 50, 51, 52, 53, 54, 55, 56, 57, 58, 59, 60, 61, 62, 63, 64, 65, 66, 67, 68, 69, 70, 71, 72, 73, 74, 75, 76, 77, 78, 79, 80, 81] (by decide +kernel) (by decide +kernel)
set_option maxRecDepth 20000 in
theorem gX9_adopt_X9_adopts : GoodIn wsX9_adopt (wsV RX9 131 RX9 yX9_adopts wsX9_adopts) := goodIn_app (goodIn_of _ (by decide +kernel)) ggX9_adopt_X9_adopts
set_option maxRecDepth 20000 in
theorem ggX9_receiver_X9_isReceiver : GoodIn wsX9_receiver wsX9_isReceiver := goodIn_r _ [5, 6, 7, 8, 4, 9, 22, 23, 24, 25, 26, 27, 28, 29, 30, 31, 32, 33, 34, 35, 36, 37, 38, 39, 40, 41] (by decide +kernel) (by decide +kernel)
set_option maxRecDepth 20000 in
theorem gX9_receiver_X9_isReceiver : GoodIn wsX9_receiver (wsV RX9 110 RX9 yX9_isReceiver wsX9_isReceiver) := goodIn_app (goodIn_of _ (by decide +kernel)) ggX9_receiver_X9_isReceiver
set_option maxRecDepth 20000 in
theorem ggX9_receiver_X9_receiverPart : GoodIn wsX9_receiver wsX9_receiverPart := goodIn_r _ [13, 6, 22, 23, 24, 25, 26, 27, 28, 29, 30, 31, 32, 33, 34, 35, 36, 37, 38, 39, 40, 41] (by decide +kernel) (by decide +kernel)
set_option maxRecDepth 20000 in
theorem gX9_receiver_X9_receiverPart : GoodIn wsX9_receiver (wsV RX9 57 RX9 yX9_receiverPart wsX9_receiverPart) := goodIn_app (goodIn_of _ (by decide +kernel)) ggX9_receiver_X9_receiverPart
set_option maxRecDepth 20000 in
theorem ggX9_receiver_X9_leastActing : GoodIn wsX9_receiver wsX9_leastActing := goodIn_r _ [17, 18, 19, 20, 4, 21, 10, 11, 12, 13, 6, 22, 23, 24, 25, 26, 27, 28, 29, 30, 31, 32, 33, 34, 35, 36, 37, 38, 39, 40, 41] (by decide +kernel) (by decide +kernel)
set_option maxRecDepth 20000 in
theorem gX9_receiver_X9_leastActing : GoodIn wsX9_receiver (wsV RX9 134 RX9 yX9_leastActing wsX9_leastActing) := goodIn_app (goodIn_of _ (by decide +kernel)) ggX9_receiver_X9_leastActing
set_option maxRecDepth 20000 in
theorem ggX9_part_X9_isPart : GoodIn wsX9_part wsX9_isPart := goodIn_r _ [6, 1, 7, 8, 5, 9, 26, 27, 28, 29, 30, 31, 32, 33, 34, 35, 36, 37, 38, 39, 40, 41, 42, 43, 44, 45] (by decide +kernel) (by decide +kernel)
set_option maxRecDepth 20000 in
theorem gX9_part_X9_isPart : GoodIn wsX9_part (wsV RX9 117 RX9 yX9_isPart wsX9_isPart) := goodIn_app (goodIn_of _ (by decide +kernel)) ggX9_part_X9_isPart
set_option maxRecDepth 20000 in
theorem ggX9_part_X9_actingAt : GoodIn wsX9_part wsX9_actingAt := goodIn_r _ [13, 1, 14, 15, 16, 5, 17, 18, 19, 20, 21, 26, 27, 28, 29, 30, 31, 32, 33, 34, 35, 36, 37, 38, 39, 40, 41, 42, 43, 44, 45] (by decide +kernel) (by decide +kernel)
set_option maxRecDepth 20000 in
theorem gX9_part_X9_actingAt : GoodIn wsX9_part (wsV RX9 64 RX9 yX9_actingAt wsX9_actingAt) := goodIn_app (goodIn_of _ (by decide +kernel)) ggX9_part_X9_actingAt
set_option maxRecDepth 20000 in
theorem ggX9_part_X9_valueAt : GoodIn wsX9_part wsX9_valueAt := goodIn_r _ [25, 1, 10, 11, 12, 5, 13, 14, 15, 16, 17, 18, 19, 20, 21, 26, 27, 28, 29, 30, 31, 32, 33, 34, 35, 36, 37, 38, 39, 40, 41, 42, 43, 44, 45] (by decide +kernel) (by decide +kernel)
set_option maxRecDepth 20000 in
theorem gX9_part_X9_valueAt : GoodIn wsX9_part (wsV RX9 81 RX9 yX9_valueAt wsX9_valueAt) := goodIn_app (goodIn_of _ (by decide +kernel)) ggX9_part_X9_valueAt
set_option maxRecDepth 20000 in
theorem ggX9_isShare_X9_within : GoodIn wsX9_isShare wsX9_within := goodIn_r _ [4] (by decide +kernel) (by decide +kernel)
set_option maxRecDepth 20000 in
theorem gX9_isShare_X9_within : GoodIn wsX9_isShare (va_wsS RX9 53 yX9_within wsX9_within) := goodIn_app (goodIn_of _ (by decide +kernel)) ggX9_isShare_X9_within
set_option maxRecDepth 20000 in
theorem ggX9_value_X9_isShare : GoodIn wsX9_value wsX9_isShare := goodIn_r _ [4, 5, 6, 3, 7] (by decide +kernel) (by decide +kernel)
set_option maxRecDepth 20000 in
theorem gX9_value_X9_isShare : GoodIn wsX9_value (va_wsS RX9 137 yX9_isShare wsX9_isShare) := goodIn_app (goodIn_of _ (by decide +kernel)) ggX9_value_X9_isShare
set_option maxRecDepth 20000 in
theorem ggX9_value_X9_valueAt : GoodIn wsX9_value wsX9_valueAt := goodIn_r _ [11, 12, 13, 14, 15, 3, 16, 17, 18, 19, 20, 21, 22, 23, 24, 25, 26, 27, 28, 29, 30, 31, 32, 33, 34, 35, 36, 37, 38, 39, 40, 41, 42, 43, 44] (by decide +kernel) (by decide +kernel)
set_option maxRecDepth 20000 in
theorem gX9_value_X9_valueAt : GoodIn wsX9_value (wsV RX9 81 RX9 yX9_valueAt wsX9_valueAt) := goodIn_app (goodIn_of _ (by decide +kernel)) ggX9_value_X9_valueAt
set_option maxRecDepth 20000 in
theorem ggX9_mean_X9_takeMean : GoodIn wsX9_mean wsX9_takeMean := goodIn_r _ [8, 9, 10, 11, 12, 7, 13, 14, 15, 16, 17, 18, 19, 20, 21, 22, 23, 24, 25, 26, 27, 28, 29, 30, 31, 32, 33, 1, 3, 34, 35, 36, 37, 38, 39, 40, 41, 42, 43, 44, 45, 46, 47, 48, 49, 50, 51, 52, 53, 54, 55, 56] (by decide +kernel) (by decide +kernel)
set_option maxRecDepth 20000 in
theorem gX9_mean_X9_takeMean : GoodIn wsX9_mean (wsV RX9 140 RX9 yX9_takeMean wsX9_takeMean) := goodIn_app (goodIn_of _ (by decide +kernel)) ggX9_mean_X9_takeMean
set_option maxRecDepth 20000 in
theorem ggX9_worth_X9_isReceiver : GoodIn wsX9_worth wsX9_isReceiver := goodIn_r _ [8, 1, 9, 10, 7, 11, 31, 32, 33, 34, 35, 36, 37, 38, 39, 40, 41, 42, 43, 44, 45, 46, 47, 48, 49, 50] (by decide +kernel) (by decide +kernel)
set_option maxRecDepth 20000 in
theorem gX9_worth_X9_isReceiver : GoodIn wsX9_worth (wsV RX9 110 RX9 yX9_isReceiver wsX9_isReceiver) := goodIn_app (goodIn_of _ (by decide +kernel)) ggX9_worth_X9_isReceiver
set_option maxRecDepth 20000 in
theorem ggX9_worth_X9_worthAt : GoodIn wsX9_worth wsX9_worthAt := goodIn_r _ [15, 16, 17, 18, 7, 19, 1, 31, 32, 33, 34, 35, 36, 37, 38, 39, 40, 41, 42, 43, 44, 45, 46, 47, 48, 49, 50] (by decide +kernel) (by decide +kernel)
set_option maxRecDepth 20000 in
theorem gX9_worth_X9_worthAt : GoodIn wsX9_worth (wsV RX9 144 RX9 yX9_worthAt wsX9_worthAt) := goodIn_app (goodIn_of _ (by decide +kernel)) ggX9_worth_X9_worthAt
set_option maxRecDepth 20000 in
theorem ggX9_worth_X9_weightSum : GoodIn wsX9_worth wsX9_weightSum := goodIn_r _ [23, 1, 31, 32, 33, 34, 35, 36, 37, 38, 39, 40, 41, 42, 43, 44, 45, 46, 47, 48, 49, 50] (by decide +kernel) (by decide +kernel)
set_option maxRecDepth 20000 in
theorem gX9_worth_X9_weightSum : GoodIn wsX9_worth (wsV RX9 84 RX9 yX9_weightSum wsX9_weightSum) := goodIn_app (goodIn_of _ (by decide +kernel)) ggX9_worth_X9_weightSum
set_option maxRecDepth 20000 in
theorem ggX9_worth_X9_takeFraction : GoodIn wsX9_worth wsX9_takeFraction := goodIn_r _ [27, 2, 3, 28, 29, 7, 30, 31, 32, 33, 34, 35, 36, 37, 38, 39, 40, 41, 42, 43, 44, 45, 46, 47, 48, 49, 50] (by decide +kernel) (by decide +kernel)
set_option maxRecDepth 20000 in
theorem gX9_worth_X9_takeFraction : GoodIn wsX9_worth (wsV RX9 88 RX9 yX9_takeFraction wsX9_takeFraction) := goodIn_app (goodIn_of _ (by decide +kernel)) ggX9_worth_X9_takeFraction
set_option maxRecDepth 20000 in
theorem ggX9_isBest_X9_takeMean : GoodIn wsX9_isBest wsX9_takeMean := goodIn_r _ [8, 3, 9, 10, 11, 7, 12, 13, 14, 15, 16, 17, 18, 19, 20, 21, 22, 23, 24, 25, 26, 27, 28, 29, 30, 31, 32, 1, 2, 33, 34, 35, 42, 43, 44, 45, 46, 47, 48, 49, 50, 51, 52, 53, 54, 55, 56, 57, 58, 59, 60, 61] (by decide +kernel) (by decide +kernel)
set_option maxRecDepth 20000 in
theorem gX9_isBest_X9_takeMean : GoodIn wsX9_isBest (wsV RX9 140 RX9 yX9_takeMean wsX9_takeMean) := goodIn_app (goodIn_of _ (by decide +kernel)) ggX9_isBest_X9_takeMean
set_option maxRecDepth 20000 in
theorem ggX9_isBest_X9_takeEnvelope : GoodIn wsX9_isBest wsX9_takeEnvelope := goodIn_r _ [39, 40, 41, 9, 10, 11, 7, 12, 3, 13, 14, 15, 16, 17, 18, 19, 20, 21, 22, 23, 24, 29, 30, 31, 32, 1, 2, 33, 34, 35, 42, 43, 44, 45, 46, 47, 48, 49, 50, 51, 52, 53, 54, 55, 56, 57, 58, 59, 60, 61] (by decide +kernel) (by decide +kernel)
set_option maxRecDepth 20000 in
theorem gX9_isBest_X9_takeEnvelope : GoodIn wsX9_isBest (wsV RX9 124 RX9 yX9_takeEnvelope wsX9_takeEnvelope) := goodIn_app (goodIn_of _ (by decide +kernel)) ggX9_isBest_X9_takeEnvelope
set_option maxRecDepth 20000 in
theorem ggX9_count_X9_weightSum : GoodIn wsX9_count wsX9_weightSum := goodIn_r _ [8, 1, 48, 49, 50, 51, 52, 53, 54, 55, 56, 57, 58, 59, 60, 61, 62, 63, 64, 65, 66, 67] (by decide +kernel) (by decide +kernel)
set_option maxRecDepth 20000 in
theorem gX9_count_X9_weightSum : GoodIn wsX9_count (wsV RX9 84 RX9 yX9_weightSum wsX9_weightSum) := goodIn_app (goodIn_of _ (by decide +kernel)) ggX9_count_X9_weightSum
set_option maxRecDepth 20000 in
theorem ggX9_count_X9_isBest : GoodIn wsX9_count wsX9_isBest := goodIn_r _ [12, 13, 14, 1, 15, 16, 17, 7, 18, 19, 20, 21, 22, 23, 24, 25, 26, 27, 28, 29, 30, 31, 32, 33, 34, 4, 5, 6, 8, 35, 36, 37, 38, 39, 40, 41, 42, 43, 44, 45, 46, 47, 48, 49, 50, 51, 52, 53, 54, 55, 56, 57, 58, 59, 60, 61, 62, 63, 64, 65, 66, 67] (by decide +kernel) (by decide +kernel)
set_option maxRecDepth 20000 in
theorem gX9_count_X9_isBest : GoodIn wsX9_count (wsV RX9 147 RX9 yX9_isBest wsX9_isBest) := goodIn_app (goodIn_of _ (by decide +kernel)) ggX9_count_X9_isBest
set_option maxRecDepth 20000 in
theorem ggX9_envelope_X9_isShare : GoodIn wsX9_envelope wsX9_isShare := goodIn_r _ [7, 8, 9, 6, 10] (by decide +kernel) (by decide +kernel)
set_option maxRecDepth 20000 in
theorem gX9_envelope_X9_isShare : GoodIn wsX9_envelope (va_wsS RX9 137 yX9_isShare wsX9_isShare) := goodIn_app (goodIn_of _ (by decide +kernel)) ggX9_envelope_X9_isShare
set_option maxRecDepth 20000 in
theorem ggX9_envelope_X9_within : GoodIn wsX9_envelope wsX9_within := goodIn_r _ [10] (by decide +kernel) (by decide +kernel)
set_option maxRecDepth 20000 in
theorem gX9_envelope_X9_within : GoodIn wsX9_envelope (va_wsS RX9 53 yX9_within wsX9_within) := goodIn_app (goodIn_of _ (by decide +kernel)) ggX9_envelope_X9_within
set_option maxRecDepth 20000 in
theorem ggX9_envelope_X9_takeEnvelope : GoodIn wsX9_envelope wsX9_takeEnvelope := goodIn_r _ [14, 15, 16, 17, 18, 19, 6, 20, 21, 22, 23, 24, 25, 26, 27, 28, 29, 30, 31, 32, 33, 34, 35, 36, 37, 1, 3, 38, 39, 40, 41, 42, 43, 44, 45, 46, 47, 48, 49, 50, 51, 52, 53, 54, 55, 56, 57, 58, 59, 60] (by decide +kernel) (by decide +kernel)
set_option maxRecDepth 20000 in
theorem gX9_envelope_X9_takeEnvelope : GoodIn wsX9_envelope (wsV RX9 124 RX9 yX9_takeEnvelope wsX9_takeEnvelope) := goodIn_app (goodIn_of _ (by decide +kernel)) ggX9_envelope_X9_takeEnvelope
set_option maxRecDepth 20000 in
theorem ggX9_best_X9_isShare : GoodIn wsX9_best wsX9_isShare := goodIn_r _ [6, 7, 8, 5, 9] (by decide +kernel) (by decide +kernel)
set_option maxRecDepth 20000 in
theorem gX9_best_X9_isShare : GoodIn wsX9_best (va_wsS RX9 137 yX9_isShare wsX9_isShare) := goodIn_app (goodIn_of _ (by decide +kernel)) ggX9_best_X9_isShare
set_option maxRecDepth 20000 in
theorem ggX9_best_X9_within : GoodIn wsX9_best wsX9_within := goodIn_r _ [9] (by decide +kernel) (by decide +kernel)
set_option maxRecDepth 20000 in
theorem gX9_best_X9_within : GoodIn wsX9_best (va_wsS RX9 53 yX9_within wsX9_within) := goodIn_app (goodIn_of _ (by decide +kernel)) ggX9_best_X9_within
set_option maxRecDepth 20000 in
theorem ggX9_best_X9_takeEnvelope : GoodIn wsX9_best wsX9_takeEnvelope := goodIn_r _ [13, 1, 2, 14, 15, 16, 5, 17, 18, 19, 20, 21, 22, 23, 24, 25, 26, 27, 28, 29, 30, 31, 32, 33, 34, 35, 36, 37, 38, 39, 44, 45, 46, 47, 48, 49, 50, 51, 52, 53, 54, 55, 56, 57, 58, 59, 60, 61, 62, 63] (by decide +kernel) (by decide +kernel)
set_option maxRecDepth 20000 in
theorem gX9_best_X9_takeEnvelope : GoodIn wsX9_best (wsV RX9 124 RX9 yX9_takeEnvelope wsX9_takeEnvelope) := goodIn_app (goodIn_of _ (by decide +kernel)) ggX9_best_X9_takeEnvelope
set_option maxRecDepth 20000 in
theorem ggX9_best_X9_weightOf : GoodIn wsX9_best wsX9_weightOf := goodIn_r _ [43, 1, 2, 37, 38, 5, 39, 44, 45, 46, 47, 48, 49, 50, 51, 52, 53, 54, 55, 56, 57, 58, 59, 60, 61, 62, 63] (by decide +kernel) (by decide +kernel)
set_option maxRecDepth 20000 in
theorem gX9_best_X9_weightOf : GoodIn wsX9_best (wsV RX9 127 RX9 yX9_weightOf wsX9_weightOf) := goodIn_app (goodIn_of _ (by decide +kernel)) ggX9_best_X9_weightOf
set_option maxRecDepth 20000 in
theorem ggX9_mostGained_X9_within : GoodIn wsX9_mostGained wsX9_within := goodIn_r _ [6] (by decide +kernel) (by decide +kernel)
set_option maxRecDepth 20000 in
theorem gX9_mostGained_X9_within : GoodIn wsX9_mostGained (va_wsS RX9 53 yX9_within wsX9_within) := goodIn_app (goodIn_of _ (by decide +kernel)) ggX9_mostGained_X9_within
set_option maxRecDepth 20000 in
theorem ggX9_mostGained_X9_takeEnvelope : GoodIn wsX9_mostGained wsX9_takeEnvelope := goodIn_r _ [10, 11, 12, 13, 14, 15, 5, 16, 17, 18, 19, 20, 21, 22, 23, 24, 25, 26, 27, 28, 29, 30, 31, 32, 33, 1, 2, 34, 35, 36, 37, 38, 39, 40, 41, 42, 43, 44, 45, 46, 47, 48, 49, 50, 51, 52, 53, 54, 55, 56] (by decide +kernel) (by decide +kernel)
set_option maxRecDepth 20000 in
theorem gX9_mostGained_X9_takeEnvelope : GoodIn wsX9_mostGained (wsV RX9 124 RX9 yX9_takeEnvelope wsX9_takeEnvelope) := goodIn_app (goodIn_of _ (by decide +kernel)) ggX9_mostGained_X9_takeEnvelope
set_option maxRecDepth 20000 in
theorem ggX9_mostGained_X9_valueAt : GoodIn wsX9_mostGained wsX9_valueAt := goodIn_r _ [16, 17, 18, 19, 20, 5, 21, 22, 23, 24, 25, 26, 27, 28, 29, 37, 38, 39, 40, 41, 42, 43, 44, 45, 46, 47, 48, 49, 50, 51, 52, 53, 54, 55, 56] (by decide +kernel) (by decide +kernel)
set_option maxRecDepth 20000 in
theorem gX9_mostGained_X9_valueAt : GoodIn wsX9_mostGained (wsV RX9 81 RX9 yX9_valueAt wsX9_valueAt) := goodIn_app (goodIn_of _ (by decide +kernel)) ggX9_mostGained_X9_valueAt
set_option maxRecDepth 20000 in
theorem ggX9_mostGained_X9_takeFraction : GoodIn wsX9_mostGained wsX9_takeFraction := goodIn_r _ [33, 1, 2, 34, 35, 5, 36, 37, 38, 39, 40, 41, 42, 43, 44, 45, 46, 47, 48, 49, 50, 51, 52, 53, 54, 55, 56] (by decide +kernel) (by decide +kernel)
set_option maxRecDepth 20000 in
theorem gX9_mostGained_X9_takeFraction : GoodIn wsX9_mostGained (wsV RX9 88 RX9 yX9_takeFraction wsX9_takeFraction) := goodIn_app (goodIn_of _ (by decide +kernel)) ggX9_mostGained_X9_takeFraction
set_option maxRecDepth 20000 in
theorem ggX9_put_X9_within : GoodIn wsX9_put wsX9_within := goodIn_r _ [7] (by decide +kernel) (by decide +kernel)
set_option maxRecDepth 20000 in
theorem gX9_put_X9_within : GoodIn wsX9_put (va_wsS RX9 53 yX9_within wsX9_within) := goodIn_app (goodIn_of _ (by decide +kernel)) ggX9_put_X9_within
set_option maxRecDepth 20000 in
theorem ggX9_isNext_X9_character : GoodIn wsX9_isNext wsX9_character := goodIn_r _ [6, 7, 8, 9, 10, 11, 12, 13, 14, 15, 16, 17, 18, 19, 20, 21, 22, 23, 24, 25, 26, 27, 28] (by decide +kernel) (by decide +kernel)
set_option maxRecDepth 20000 in
theorem gX9_isNext_X9_character : GoodIn wsX9_isNext (wsV RX9 158 RX9 yX9_character wsX9_character) := goodIn_app (goodIn_of _ (by decide +kernel)) ggX9_isNext_X9_character
set_option maxRecDepth 20000 in
theorem ggX9_takeDigit_X9_character : GoodIn wsX9_takeDigit wsX9_character := goodIn_r _ [6, 7, 8, 12, 13, 14, 15, 16, 17, 18, 19, 20, 21, 22, 23, 24, 25, 26, 27, 28, 29, 30, 31] (by decide +kernel) (by decide +kernel)
set_option maxRecDepth 20000 in
theorem gX9_takeDigit_X9_character : GoodIn wsX9_takeDigit (wsV RX9 158 RX9 yX9_character wsX9_character) := goodIn_app (goodIn_of _ (by decide +kernel)) ggX9_takeDigit_X9_character
set_option maxRecDepth 20000 in
theorem ggX9_takeDigit_X9_within : GoodIn wsX9_takeDigit wsX9_within := goodIn_r _ [11] (by decide +kernel) (by decide +kernel)
set_option maxRecDepth 20000 in
theorem gX9_takeDigit_X9_within : GoodIn wsX9_takeDigit (va_wsS RX9 53 yX9_within wsX9_within) := goodIn_app (goodIn_of _ (by decide +kernel)) ggX9_takeDigit_X9_within
set_option maxRecDepth 20000 in
theorem ggX9_takeNumber_X9_takeDigit : GoodIn wsX9_takeNumber wsX9_takeDigit := goodIn_r _ [6, 1, 7, 8, 9, 5, 10, 11, 12, 13, 14, 15, 16, 17, 18, 19, 20, 21, 22, 23, 24, 25, 26, 27, 28, 29, 30, 31, 32, 33, 34, 35] (by decide +kernel) (by decide +kernel)
set_option maxRecDepth 20000 in
theorem gX9_takeNumber_X9_takeDigit : GoodIn wsX9_takeNumber (wsV RX9 161 RX9 yX9_takeDigit wsX9_takeDigit) := goodIn_app (goodIn_of _ (by decide +kernel)) ggX9_takeNumber_X9_takeDigit
set_option maxRecDepth 20000 in
theorem ggX9_takeNumber_X9_character : GoodIn wsX9_takeNumber wsX9_character := goodIn_r _ [10, 11, 12, 16, 17, 18, 19, 20, 21, 22, 23, 24, 25, 26, 27, 28, 29, 30, 31, 32, 33, 34, 35] (by decide +kernel) (by decide +kernel)
set_option maxRecDepth 20000 in
theorem gX9_takeNumber_X9_character : GoodIn wsX9_takeNumber (wsV RX9 158 RX9 yX9_character wsX9_character) := goodIn_app (goodIn_of _ (by decide +kernel)) ggX9_takeNumber_X9_character
set_option maxRecDepth 20000 in
theorem ggX9_takeNumber_X9_within : GoodIn wsX9_takeNumber wsX9_within := goodIn_r _ [15] (by decide +kernel) (by decide +kernel)
set_option maxRecDepth 20000 in
theorem gX9_takeNumber_X9_within : GoodIn wsX9_takeNumber (va_wsS RX9 53 yX9_within wsX9_within) := goodIn_app (goodIn_of _ (by decide +kernel)) ggX9_takeNumber_X9_within
set_option maxRecDepth 20000 in
theorem ggX9_readsReceiver_X9_takeNumber : GoodIn wsX9_readsReceiver wsX9_takeNumber := goodIn_r _ [9, 10, 11, 12, 13, 8, 14, 15, 16, 17, 18, 19, 20, 21, 22, 23, 28, 29, 30, 31, 32, 33, 34, 35, 36, 37, 38, 39, 40, 41, 42, 43, 44, 45, 46, 47] (by decide +kernel) (by decide +kernel)
set_option maxRecDepth 20000 in
theorem gX9_readsReceiver_X9_takeNumber : GoodIn wsX9_readsReceiver (wsV RX9 164 RX9 yX9_takeNumber wsX9_takeNumber) := goodIn_app (goodIn_of _ (by decide +kernel)) ggX9_readsReceiver_X9_takeNumber
set_option maxRecDepth 20000 in
theorem ggX9_readsReceiver_X9_isNext : GoodIn wsX9_readsReceiver wsX9_isNext := goodIn_r _ [27, 10, 15, 16, 17, 8, 18, 19, 20, 28, 29, 30, 31, 32, 33, 34, 35, 36, 37, 38, 39, 40, 41, 42, 43, 44, 45, 46, 47] (by decide +kernel) (by decide +kernel)
set_option maxRecDepth 20000 in
theorem gX9_readsReceiver_X9_isNext : GoodIn wsX9_readsReceiver (wsV RX9 170 RX9 yX9_isNext wsX9_isNext) := goodIn_app (goodIn_of _ (by decide +kernel)) ggX9_readsReceiver_X9_isNext
set_option maxRecDepth 20000 in
theorem ggX9_readsParts_X9_takeNumber : GoodIn wsX9_readsParts wsX9_takeNumber := goodIn_r _ [7, 8, 9, 10, 11, 6, 12, 13, 14, 15, 16, 17, 18, 19, 20, 21, 35, 36, 37, 38, 39, 40, 41, 42, 43, 44, 45, 46, 47, 48, 49, 50, 51, 52, 53, 54] (by decide +kernel) (by decide +kernel)
set_option maxRecDepth 20000 in
theorem gX9_readsParts_X9_takeNumber : GoodIn wsX9_readsParts (wsV RX9 164 RX9 yX9_takeNumber wsX9_takeNumber) := goodIn_app (goodIn_of _ (by decide +kernel)) ggX9_readsParts_X9_takeNumber
set_option maxRecDepth 20000 in
theorem ggX9_readsParts_X9_isNext : GoodIn wsX9_readsParts wsX9_isNext := goodIn_r _ [25, 8, 13, 14, 15, 6, 16, 17, 18, 35, 36, 37, 38, 39, 40, 41, 42, 43, 44, 45, 46, 47, 48, 49, 50, 51, 52, 53, 54] (by decide +kernel) (by decide +kernel)
set_option maxRecDepth 20000 in
theorem gX9_readsParts_X9_isNext : GoodIn wsX9_readsParts (wsV RX9 170 RX9 yX9_isNext wsX9_isNext) := goodIn_app (goodIn_of _ (by decide +kernel)) ggX9_readsParts_X9_isNext
set_option maxRecDepth 20000 in
theorem ggX9_readsParts_X9_isShare : GoodIn wsX9_readsParts wsX9_isShare := goodIn_r _ [28, 19, 20, 6, 21] (by decide +kernel) (by decide +kernel)
set_option maxRecDepth 20000 in
theorem gX9_readsParts_X9_isShare : GoodIn wsX9_readsParts (va_wsS RX9 137 yX9_isShare wsX9_isShare) := goodIn_app (goodIn_of _ (by decide +kernel)) ggX9_readsParts_X9_isShare
set_option maxRecDepth 20000 in
theorem ggX9_readsParts_X9_takes : GoodIn wsX9_readsParts wsX9_takes := goodIn_r _ [32, 1, 33, 34, 35, 36, 37, 38, 39, 40, 41, 42, 43, 44, 45, 46, 47, 48, 49, 50, 51, 52, 53, 54] (by decide +kernel) (by decide +kernel)
set_option maxRecDepth 20000 in
theorem gX9_readsParts_X9_takes : GoodIn wsX9_readsParts (wsV RX9 75 RX9 yX9_takes wsX9_takes) := goodIn_app (goodIn_of _ (by decide +kernel)) ggX9_readsParts_X9_takes
set_option maxRecDepth 20000 in
theorem ggX9_readsOrder_X9_character : GoodIn wsX9_readsOrder wsX9_character := goodIn_r _ [8, 9, 10, 47, 48, 49, 50, 51, 52, 53, 54, 55, 56, 57, 58, 59, 60, 61, 62, 63, 64, 65, 66] (by decide +kernel) (by decide +kernel)
set_option maxRecDepth 20000 in
theorem gX9_readsOrder_X9_character : GoodIn wsX9_readsOrder (wsV RX9 158 RX9 yX9_character wsX9_character) := goodIn_app (goodIn_of _ (by decide +kernel)) ggX9_readsOrder_X9_character
set_option maxRecDepth 20000 in
theorem ggX9_readsOrder_X9_readsReceiver : GoodIn wsX9_readsOrder wsX9_readsReceiver := goodIn_r _ [14, 3, 15, 16, 17, 18, 19, 20, 7, 21, 1, 22, 23, 24, 25, 4, 5, 6, 8, 9, 10, 26, 27, 28, 29, 30, 31, 32, 47, 48, 49, 50, 51, 52, 53, 54, 55, 56, 57, 58, 59, 60, 61, 62, 63, 64, 65, 66] (by decide +kernel) (by decide +kernel)
set_option maxRecDepth 20000 in
theorem gX9_readsOrder_X9_readsReceiver : GoodIn wsX9_readsOrder (wsV RX9 185 RX9 yX9_readsReceiver wsX9_readsReceiver) := goodIn_app (goodIn_of _ (by decide +kernel)) ggX9_readsOrder_X9_readsReceiver
set_option maxRecDepth 20000 in
theorem ggX9_readsOrder_X9_takeDigit : GoodIn wsX9_readsOrder wsX9_takeDigit := goodIn_r _ [25, 1, 4, 5, 6, 7, 8, 9, 10, 26, 27, 28, 47, 48, 49, 50, 51, 52, 53, 54, 55, 56, 57, 58, 59, 60, 61, 62, 63, 64, 65, 66] (by decide +kernel) (by decide +kernel)
set_option maxRecDepth 20000 in
theorem gX9_readsOrder_X9_takeDigit : GoodIn wsX9_readsOrder (wsV RX9 161 RX9 yX9_takeDigit wsX9_takeDigit) := goodIn_app (goodIn_of _ (by decide +kernel)) ggX9_readsOrder_X9_takeDigit
set_option maxRecDepth 20000 in
theorem ggX9_readsOrder_X9_takeNumber : GoodIn wsX9_readsOrder wsX9_takeNumber := goodIn_r _ [21, 1, 22, 23, 24, 7, 25, 4, 5, 6, 8, 9, 10, 26, 27, 28, 47, 48, 49, 50, 51, 52, 53, 54, 55, 56, 57, 58, 59, 60, 61, 62, 63, 64, 65, 66] (by decide +kernel) (by decide +kernel)
set_option maxRecDepth 20000 in
theorem gX9_readsOrder_X9_takeNumber : GoodIn wsX9_readsOrder (wsV RX9 164 RX9 yX9_takeNumber wsX9_takeNumber) := goodIn_app (goodIn_of _ (by decide +kernel)) ggX9_readsOrder_X9_takeNumber
set_option maxRecDepth 20000 in
theorem ggX9_readsOrder_X9_readsParts : GoodIn wsX9_readsOrder wsX9_readsParts := goodIn_r _ [36, 37, 3, 18, 19, 20, 7, 21, 1, 22, 23, 24, 25, 4, 5, 6, 8, 9, 10, 26, 27, 28, 29, 30, 31, 32, 38, 39, 40, 41, 42, 43, 44, 45, 46, 47, 48, 49, 50, 51, 52, 53, 54, 55, 56, 57, 58, 59, 60, 61, 62, 63, 64, 65, 66] (by decide +kernel) (by decide +kernel)
set_option maxRecDepth 20000 in
theorem gX9_readsOrder_X9_readsParts : GoodIn wsX9_readsOrder (wsV RX9 188 RX9 yX9_readsParts wsX9_readsParts) := goodIn_app (goodIn_of _ (by decide +kernel)) ggX9_readsOrder_X9_readsParts
set_option maxRecDepth 20000 in
theorem ggX9_findFault_X9_readsOrder : GoodIn wsX9_findFault wsX9_readsOrder := goodIn_r _ [7, 1, 8, 9, 10, 11, 12, 6, 13, 2, 14, 15, 16, 17, 18, 19, 20, 21, 22, 23, 24, 25, 26, 27, 28, 29, 30, 31, 32, 33, 34, 35, 36, 37, 38, 39, 40, 41, 42, 43, 44, 45, 46, 47, 48, 49, 50, 51, 52, 53, 54, 55, 56, 57, 58, 59, 60, 61, 62, 63, 64, 65, 66, 67, 68, 69, 70] (by decide +kernel) (by decide +kernel)
set_option maxRecDepth 20000 in
theorem gX9_findFault_X9_readsOrder : GoodIn wsX9_findFault (wsV RX9 191 RX9 yX9_readsOrder wsX9_readsOrder) := goodIn_app (goodIn_of _ (by decide +kernel)) ggX9_findFault_X9_readsOrder
set_option maxRecDepth 20000 in
theorem ggX9_findFault_X9_isNext : GoodIn wsX9_findFault wsX9_isNext := goodIn_r _ [36, 1, 10, 11, 12, 6, 13, 2, 14, 51, 52, 53, 54, 55, 56, 57, 58, 59, 60, 61, 62, 63, 64, 65, 66, 67, 68, 69, 70] (by decide +kernel) (by decide +kernel)
set_option maxRecDepth 20000 in
theorem gX9_findFault_X9_isNext : GoodIn wsX9_findFault (wsV RX9 170 RX9 yX9_isNext wsX9_isNext) := goodIn_app (goodIn_of _ (by decide +kernel)) ggX9_findFault_X9_isNext
set_option maxRecDepth 20000 in
theorem ggX9_fault_X9_findFault : GoodIn wsX9_fault wsX9_findFault := goodIn_r _ [5, 6, 7, 8, 9, 10, 4, 11, 12, 13, 14, 15, 16, 17, 18, 19, 20, 21, 22, 23, 24, 25, 26, 27, 28, 29, 30, 31, 32, 33, 34, 35, 36, 37, 38, 39, 40, 41, 42, 43, 44, 45, 46, 47, 48, 49, 50, 51, 52, 53, 54, 55, 56, 57, 58, 59, 60, 61, 62, 63, 64, 65, 66, 67, 68, 69, 70, 71, 72, 73, 74] (by decide +kernel) (by decide +kernel)
set_option maxRecDepth 20000 in
theorem gX9_fault_X9_findFault : GoodIn wsX9_fault (wsV RX9 194 RX9 yX9_findFault wsX9_findFault) := goodIn_app (goodIn_of _ (by decide +kernel)) ggX9_fault_X9_findFault
set_option maxRecDepth 20000 in
theorem ggX9_whyNoSplit_X9_areWell : GoodIn wsX9_whyNoSplit wsX9_areWell := goodIn_r _ [6, 7, 8, 9, 10, 5, 11, 18, 19, 20, 21, 22, 23, 24, 25, 26, 27, 28, 29, 30, 31, 32, 33, 34, 35, 36, 37] (by decide +kernel) (by decide +kernel)
set_option maxRecDepth 20000 in
theorem gX9_whyNoSplit_X9_areWell : GoodIn wsX9_whyNoSplit (wsV RX9 120 RX9 yX9_areWell wsX9_areWell) := goodIn_app (goodIn_of _ (by decide +kernel)) ggX9_whyNoSplit_X9_areWell
set_option maxRecDepth 20000 in
theorem ggX9_whyNoSplit_X9_areAverage : GoodIn wsX9_whyNoSplit wsX9_areAverage := goodIn_r _ [15, 7, 8, 16, 17, 18, 19, 20, 21, 22, 23, 24, 25, 26, 27, 28, 29, 30, 31, 32, 33, 34, 35, 36, 37] (by decide +kernel) (by decide +kernel)
set_option maxRecDepth 20000 in
theorem gX9_whyNoSplit_X9_areAverage : GoodIn wsX9_whyNoSplit (wsV RX9 197 RX9 yX9_areAverage wsX9_areAverage) := goodIn_app (goodIn_of _ (by decide +kernel)) ggX9_whyNoSplit_X9_areAverage
set_option maxRecDepth 20000 in
theorem ggX9_whyNotDone_X9_whyNotHired : GoodIn wsX9_whyNotDone wsX9_whyNotHired := goodIn_r _ [10, 11, 12, 13, 9, 14, 37, 38, 39, 40, 41, 42, 43, 44, 45, 46, 47, 48, 49, 50, 51, 52, 53, 54, 55, 56] (by decide +kernel) (by decide +kernel)
set_option maxRecDepth 20000 in
theorem gX9_whyNotDone_X9_whyNotHired : GoodIn wsX9_whyNotDone (wsV RX9 103 RX9 yX9_whyNotHired wsX9_whyNotHired) := goodIn_app (goodIn_of _ (by decide +kernel)) ggX9_whyNotDone_X9_whyNotHired
set_option maxRecDepth 20000 in
theorem ggX9_whyNotDone_X9_isReceiver : GoodIn wsX9_whyNotDone wsX9_isReceiver := goodIn_r _ [18, 11, 12, 13, 9, 14, 37, 38, 39, 40, 41, 42, 43, 44, 45, 46, 47, 48, 49, 50, 51, 52, 53, 54, 55, 56] (by decide +kernel) (by decide +kernel)
set_option maxRecDepth 20000 in
theorem gX9_whyNotDone_X9_isReceiver : GoodIn wsX9_whyNotDone (wsV RX9 110 RX9 yX9_isReceiver wsX9_isReceiver) := goodIn_app (goodIn_of _ (by decide +kernel)) ggX9_whyNotDone_X9_isReceiver
set_option maxRecDepth 20000 in
theorem ggX9_whyNotDone_X9_within : GoodIn wsX9_whyNotDone wsX9_within := goodIn_r _ [14] (by decide +kernel) (by decide +kernel)
set_option maxRecDepth 20000 in
theorem gX9_whyNotDone_X9_within : GoodIn wsX9_whyNotDone (va_wsS RX9 53 yX9_within wsX9_within) := goodIn_app (goodIn_of _ (by decide +kernel)) ggX9_whyNotDone_X9_within
set_option maxRecDepth 20000 in
theorem ggX9_whyNotDone_X9_whyNoSplit : GoodIn wsX9_whyNotDone wsX9_whyNoSplit := goodIn_r _ [22, 2, 23, 24, 25, 9, 26, 27, 28, 29, 30, 31, 32, 33, 34, 35, 36, 11, 37, 38, 39, 40, 41, 42, 43, 44, 45, 46, 47, 48, 49, 50, 51, 52, 53, 54, 55, 56] (by decide +kernel) (by decide +kernel)
set_option maxRecDepth 20000 in
theorem gX9_whyNotDone_X9_whyNoSplit : GoodIn wsX9_whyNotDone (wsV RX9 200 RX9 yX9_whyNoSplit wsX9_whyNoSplit) := goodIn_app (goodIn_of _ (by decide +kernel)) ggX9_whyNotDone_X9_whyNoSplit
set_option maxRecDepth 20000 in
theorem ggX9_does_X9_hires : GoodIn wsX9_does wsX9_hires := goodIn_r _ [10, 11, 78, 79, 80, 81, 82, 83, 84, 85, 86, 87, 88, 89, 90, 91, 92, 93, 94, 95, 96, 97] (by decide +kernel) (by decide +kernel)
set_option maxRecDepth 20000 in
theorem gX9_does_X9_hires : GoodIn wsX9_does (wsV RX9 107 RX9 yX9_hires wsX9_hires) := goodIn_app (goodIn_of _ (by decide +kernel)) ggX9_does_X9_hires
set_option maxRecDepth 20000 in
theorem ggX9_does_X9_dismisses : GoodIn wsX9_does wsX9_dismisses := goodIn_r _ [15, 11, 78, 79, 80, 81, 82, 83, 84, 85, 86, 87, 88, 89, 90, 91, 92, 93, 94, 95, 96, 97] (by decide +kernel) (by decide +kernel)
set_option maxRecDepth 20000 in
theorem gX9_does_X9_dismisses : GoodIn wsX9_does (wsV RX9 114 RX9 yX9_dismisses wsX9_dismisses) := goodIn_app (goodIn_of _ (by decide +kernel)) ggX9_does_X9_dismisses
set_option maxRecDepth 20000 in
theorem ggX9_does_X9_priors : GoodIn wsX9_does wsX9_priors := goodIn_r _ [19, 20, 21, 22, 9, 23, 11, 24, 25, 26, 27, 28, 29, 30, 31, 32, 33, 34, 35, 36, 37, 38, 78, 79, 80, 81, 82, 83, 84, 85, 86, 87, 88, 89, 90, 91, 92, 93, 94, 95, 96, 97] (by decide +kernel) (by decide +kernel)
set_option maxRecDepth 20000 in
theorem gX9_does_X9_priors : GoodIn wsX9_does (wsV RX9 100 RX9 yX9_priors wsX9_priors) := goodIn_app (goodIn_of _ (by decide +kernel)) ggX9_does_X9_priors
set_option maxRecDepth 20000 in
theorem ggX9_does_X9_gives : GoodIn wsX9_does wsX9_gives := goodIn_r _ [38, 11, 28, 34, 33, 78, 79, 80, 81, 82, 83, 84, 85, 86, 87, 88, 89, 90, 91, 92, 93, 94, 95, 96, 97] (by decide +kernel) (by decide +kernel)
set_option maxRecDepth 20000 in
theorem gX9_does_X9_gives : GoodIn wsX9_does (wsV RX9 78 RX9 yX9_gives wsX9_gives) := goodIn_app (goodIn_of _ (by decide +kernel)) ggX9_does_X9_gives
set_option maxRecDepth 20000 in
theorem ggX9_does_X9_adopts : GoodIn wsX9_does wsX9_adopts := goodIn_r _ [42, 11, 28, 43, 44, 45, 46, 47, 9, 48, 49, 50, 51, 52, 53, 54, 55, 56, 57, 58, 59, 60, 61, 62, 63, 64, 65, 66, 67, 68, 69, 70, 71, 72, 73, 74, 75, 76, 77, 29, 30, 31, 32, 33, 34, 35, 36, 37, 38, 78, 79, 80, 81, 82, 83, 84, 85, 86, 87, 88, 89, 90, 91, 92, 93, 94, 95, 96, 97] (by decide +kernel) (by decide +kernel)
set_option maxRecDepth 20000 in
theorem gX9_does_X9_adopts : GoodIn wsX9_does (wsV RX9 131 RX9 yX9_adopts wsX9_adopts) := goodIn_app (goodIn_of _ (by decide +kernel)) ggX9_does_X9_adopts
set_option maxRecDepth 20000 in
theorem ggX9_carryOut_X9_findFault : GoodIn wsX9_carryOut wsX9_findFault := goodIn_r _ [7, 1, 2, 8, 9, 10, 6, 11, 12, 13, 14, 15, 16, 17, 18, 19, 20, 21, 22, 23, 24, 25, 26, 27, 28, 29, 30, 31, 32, 33, 34, 35, 36, 37, 38, 39, 40, 41, 42, 43, 44, 45, 46, 47, 48, 49, 50, 51, 52, 53, 54, 156, 157, 158, 159, 160, 161, 162, 163, 164, 165, 166, 167, 168, 169, 170, 171, 172, 173, 174, 175] (by decide +kernel) (by decide +kernel)
set_option maxRecDepth 20000 in
theorem gX9_carryOut_X9_findFault : GoodIn wsX9_carryOut (wsV RX9 194 RX9 yX9_findFault wsX9_findFault) := goodIn_app (goodIn_of _ (by decide +kernel)) ggX9_carryOut_X9_findFault
set_option maxRecDepth 20000 in
theorem ggX9_carryOut_X9_record : GoodIn wsX9_carryOut wsX9_record := goodIn_r _ [58, 59, 60, 61, 62, 63, 6, 64, 156, 157, 158, 159, 160, 161, 162, 163, 164, 165, 166, 167, 168, 169, 170, 171, 172, 173, 174, 175] (by decide +kernel) (by decide +kernel)
set_option maxRecDepth 20000 in
theorem gX9_carryOut_X9_record : GoodIn wsX9_carryOut (wsV RX9 97 RX9 yX9_record wsX9_record) := goodIn_app (goodIn_of _ (by decide +kernel)) ggX9_carryOut_X9_record
set_option maxRecDepth 20000 in
theorem ggX9_carryOut_X9_readsOrder : GoodIn wsX9_carryOut wsX9_readsOrder := goodIn_r _ [11, 1, 12, 13, 14, 15, 16, 6, 17, 2, 18, 19, 20, 21, 22, 23, 24, 25, 26, 27, 28, 29, 30, 31, 32, 33, 34, 35, 36, 37, 38, 39, 40, 41, 42, 43, 44, 45, 46, 47, 48, 49, 50, 51, 52, 53, 54, 156, 157, 158, 159, 160, 161, 162, 163, 164, 165, 166, 167, 168, 169, 170, 171, 172, 173, 174, 175] (by decide +kernel) (by decide +kernel)
set_option maxRecDepth 20000 in
theorem gX9_carryOut_X9_readsOrder : GoodIn wsX9_carryOut (wsV RX9 191 RX9 yX9_readsOrder wsX9_readsOrder) := goodIn_app (goodIn_of _ (by decide +kernel)) ggX9_carryOut_X9_readsOrder
set_option maxRecDepth 20000 in
theorem ggX9_carryOut_X9_isNext : GoodIn wsX9_carryOut wsX9_isNext := goodIn_r _ [40, 1, 14, 15, 16, 6, 17, 2, 18, 156, 157, 158, 159, 160, 161, 162, 163, 164, 165, 166, 167, 168, 169, 170, 171, 172, 173, 174, 175] (by decide +kernel) (by decide +kernel)
set_option maxRecDepth 20000 in
theorem gX9_carryOut_X9_isNext : GoodIn wsX9_carryOut (wsV RX9 170 RX9 yX9_isNext wsX9_isNext) := goodIn_app (goodIn_of _ (by decide +kernel)) ggX9_carryOut_X9_isNext
set_option maxRecDepth 20000 in
theorem ggX9_carryOut_X9_whyNotDone : GoodIn wsX9_carryOut wsX9_whyNotDone := goodIn_r _ [68, 12, 13, 23, 24, 25, 69, 70, 71, 6, 72, 61, 34, 35, 36, 73, 74, 75, 76, 77, 78, 79, 80, 81, 82, 83, 84, 45, 54, 85, 86, 87, 88, 89, 90, 91, 53, 156, 157, 158, 159, 160, 161, 162, 163, 164, 165, 166, 167, 168, 169, 170, 171, 172, 173, 174, 175] (by decide +kernel) (by decide +kernel)
set_option maxRecDepth 20000 in
theorem gX9_carryOut_X9_whyNotDone : GoodIn wsX9_carryOut (wsV RX9 203 RX9 yX9_whyNotDone wsX9_whyNotDone) := goodIn_app (goodIn_of _ (by decide +kernel)) ggX9_carryOut_X9_whyNotDone
set_option maxRecDepth 20000 in
theorem ggX9_carryOut_X9_does : GoodIn wsX9_carryOut wsX9_does := goodIn_r _ [95, 12, 13, 23, 24, 25, 96, 97, 98, 6, 99, 61, 100, 101, 102, 103, 104, 105, 106, 107, 108, 109, 110, 111, 112, 113, 114, 115, 45, 49, 50, 51, 52, 53, 54, 116, 117, 118, 119, 120, 121, 122, 123, 124, 125, 126, 127, 128, 129, 130, 131, 132, 133, 134, 135, 136, 137, 138, 139, 140, 141, 142, 143, 144, 145, 146, 147, 148, 149, 150, 151, 85, 86, 87, 152, 153, 154, 155, 156, 157, 158, 159, 160, 161, 162, 163, 164, 165, 166, 167, 168, 169, 170, 171, 172, 173, 174, 175] (by decide +kernel) (by decide +kernel)
set_option maxRecDepth 20000 in
theorem gX9_carryOut_X9_does : GoodIn wsX9_carryOut (wsV RX9 206 RX9 yX9_does wsX9_does) := goodIn_app (goodIn_of _ (by decide +kernel)) ggX9_carryOut_X9_does
set_option maxRecDepth 20000 in
theorem ggX9_undo_X9_moves : GoodIn wsX9_undo wsX9_moves := goodIn_r _ [7] (by decide +kernel) (by decide +kernel)
set_option maxRecDepth 20000 in
theorem gX9_undo_X9_moves : GoodIn wsX9_undo (va_wsS RX9 39 yX9_moves wsX9_moves) := goodIn_app (goodIn_of _ (by decide +kernel)) ggX9_undo_X9_moves
set_option maxRecDepth 20000 in
theorem ggX9_save_X9_within : GoodIn wsX9_save wsX9_within := goodIn_r _ [7] (by decide +kernel) (by decide +kernel)
set_option maxRecDepth 20000 in
theorem gX9_save_X9_within : GoodIn wsX9_save (va_wsS RX9 53 yX9_within wsX9_within) := goodIn_app (goodIn_of _ (by decide +kernel)) ggX9_save_X9_within
set_option maxRecDepth 20000 in
theorem ggX9_save_X9_moves : GoodIn wsX9_save wsX9_moves := goodIn_r _ [10] (by decide +kernel) (by decide +kernel)
set_option maxRecDepth 20000 in
theorem gX9_save_X9_moves : GoodIn wsX9_save (va_wsS RX9 39 yX9_moves wsX9_moves) := goodIn_app (goodIn_of _ (by decide +kernel)) ggX9_save_X9_moves
set_option maxRecDepth 20000 in
theorem ggX9_restore_X9_within : GoodIn wsX9_restore wsX9_within := goodIn_r _ [7] (by decide +kernel) (by decide +kernel)
set_option maxRecDepth 20000 in
theorem gX9_restore_X9_within : GoodIn wsX9_restore (va_wsS RX9 53 yX9_within wsX9_within) := goodIn_app (goodIn_of _ (by decide +kernel)) ggX9_restore_X9_within
set_option maxRecDepth 20000 in
theorem ggX9_restore_X9_record : GoodIn wsX9_restore wsX9_record := goodIn_r _ [11, 12, 13, 3, 14, 15, 6, 16, 17, 18, 19, 20, 21, 22, 23, 24, 25, 26, 27, 28, 29, 30, 31, 32, 33, 34, 35, 36] (by decide +kernel) (by decide +kernel)
set_option maxRecDepth 20000 in
theorem gX9_restore_X9_record : GoodIn wsX9_restore (wsV RX9 97 RX9 yX9_record wsX9_record) := goodIn_app (goodIn_of _ (by decide +kernel)) ggX9_restore_X9_record
set_option maxRecDepth 20000 in
theorem ggX9_restore_X9_moves : GoodIn wsX9_restore wsX9_moves := goodIn_r _ [16] (by decide +kernel) (by decide +kernel)
set_option maxRecDepth 20000 in
theorem gX9_restore_X9_moves : GoodIn wsX9_restore (va_wsS RX9 39 yX9_moves wsX9_moves) := goodIn_app (goodIn_of _ (by decide +kernel)) ggX9_restore_X9_moves
end
