section
-- ===== PART A: goes FIRST, ahead of the names: the tables' words, and 'selects' of the private methods out of them =====
/-- a private method of a class that the tables say can be made, by its rows of tables_1 -/
def lw_okq (q : MethodName × Nat) : Prop := (q.1.cls ≠ "java/lang/invoke/MethodHandle" ∧ q.1.cls ≠ "java/lang/invoke/VarHandle") ∧ Cond.instantiable q.1.cls q.2 ∈ tables_1 ∧ Cond.privateMethod q.1 ∈ tables_1 ∧ Cond.instanceMethod q.1 ∈ tables_1
theorem lw_p0 : lw_okq (⟨"ChordPoints$Reckoner", "lose", "(LChordPoints$Num;)V"⟩, 5) := ⟨⟨by decide +kernel, by decide +kernel⟩, List.mem_of_getElem? (i := 21) (by decide +kernel), List.mem_of_getElem? (i := 363) (by decide +kernel), List.mem_of_getElem? (i := 364) (by decide +kernel)⟩
theorem lw_p1 : lw_okq (⟨"ChordPoints$Reckoner", "store", "([IIZLChordPoints$Num;)V"⟩, 5) := ⟨⟨by decide +kernel, by decide +kernel⟩, List.mem_of_getElem? (i := 21) (by decide +kernel), List.mem_of_getElem? (i := 372) (by decide +kernel), List.mem_of_getElem? (i := 373) (by decide +kernel)⟩
theorem lw_p2 : lw_okq (⟨"ChordPoints$Reckoner", "addSigned", "(LChordPoints$Num;LChordPoints$Num;ZLChordPoints$Num;)V"⟩, 5) := ⟨⟨by decide +kernel, by decide +kernel⟩, List.mem_of_getElem? (i := 21) (by decide +kernel), List.mem_of_getElem? (i := 388) (by decide +kernel), List.mem_of_getElem? (i := 389) (by decide +kernel)⟩
theorem lw_p3 : lw_okq (⟨"ChordPoints$Reckoner", "addSizes", "(LChordPoints$Num;LChordPoints$Num;LChordPoints$Num;)V"⟩, 5) := ⟨⟨by decide +kernel, by decide +kernel⟩, List.mem_of_getElem? (i := 21) (by decide +kernel), List.mem_of_getElem? (i := 392) (by decide +kernel), List.mem_of_getElem? (i := 393) (by decide +kernel)⟩
theorem lw_p4 : lw_okq (⟨"ChordPoints$Reckoner", "subtractSizes", "(LChordPoints$Num;LChordPoints$Num;ZLChordPoints$Num;)V"⟩, 5) := ⟨⟨by decide +kernel, by decide +kernel⟩, List.mem_of_getElem? (i := 21) (by decide +kernel), List.mem_of_getElem? (i := 410) (by decide +kernel), List.mem_of_getElem? (i := 411) (by decide +kernel)⟩
theorem lw_p5 : lw_okq (⟨"ChordPoints$Entry", "takeLowestTerms", "(JJLChordPoints$Num;LChordPoints$Num;)V"⟩, 10) := ⟨⟨by decide +kernel, by decide +kernel⟩, List.mem_of_getElem? (i := 236) (by decide +kernel), List.mem_of_getElem? (i := 439) (by decide +kernel), List.mem_of_getElem? (i := 440) (by decide +kernel)⟩
theorem lw_p6 : lw_okq (⟨"ChordPoints$Divisors", "shorten", "()V"⟩, 10) := ⟨⟨by decide +kernel, by decide +kernel⟩, List.mem_of_getElem? (i := 75) (by decide +kernel), List.mem_of_getElem? (i := 454) (by decide +kernel), List.mem_of_getElem? (i := 455) (by decide +kernel)⟩
theorem lw_p7 : lw_okq (⟨"ChordPoints$Reckoner", "scaleUp", "(LChordPoints$Num;I[I)I"⟩, 5) := ⟨⟨by decide +kernel, by decide +kernel⟩, List.mem_of_getElem? (i := 21) (by decide +kernel), List.mem_of_getElem? (i := 464) (by decide +kernel), List.mem_of_getElem? (i := 465) (by decide +kernel)⟩
theorem lw_p8 : lw_okq (⟨"ChordPoints$Reckoner", "guessLimb", "(II)J"⟩, 5) := ⟨⟨by decide +kernel, by decide +kernel⟩, List.mem_of_getElem? (i := 21) (by decide +kernel), List.mem_of_getElem? (i := 468) (by decide +kernel), List.mem_of_getElem? (i := 469) (by decide +kernel)⟩
theorem lw_p9 : lw_okq (⟨"ChordPoints$Reckoner", "takeMultiple", "(JII)I"⟩, 5) := ⟨⟨by decide +kernel, by decide +kernel⟩, List.mem_of_getElem? (i := 21) (by decide +kernel), List.mem_of_getElem? (i := 472) (by decide +kernel), List.mem_of_getElem? (i := 473) (by decide +kernel)⟩
theorem lw_p10 : lw_okq (⟨"ChordPoints$Reckoner", "giveBack", "(II)V"⟩, 5) := ⟨⟨by decide +kernel, by decide +kernel⟩, List.mem_of_getElem? (i := 21) (by decide +kernel), List.mem_of_getElem? (i := 476) (by decide +kernel), List.mem_of_getElem? (i := 477) (by decide +kernel)⟩
theorem lw_p11 : lw_okq (⟨"ChordPoints$Reckoner", "scaleDown", "(II)V"⟩, 5) := ⟨⟨by decide +kernel, by decide +kernel⟩, List.mem_of_getElem? (i := 21) (by decide +kernel), List.mem_of_getElem? (i := 480) (by decide +kernel), List.mem_of_getElem? (i := 481) (by decide +kernel)⟩
theorem lw_p12 : lw_okq (⟨"ChordPoints$Divisors", "followLeadingDigits", "()Z"⟩, 10) := ⟨⟨by decide +kernel, by decide +kernel⟩, List.mem_of_getElem? (i := 75) (by decide +kernel), List.mem_of_getElem? (i := 485) (by decide +kernel), List.mem_of_getElem? (i := 486) (by decide +kernel)⟩
theorem lw_p13 : lw_okq (⟨"ChordPoints$Divisors", "mix", "()V"⟩, 10) := ⟨⟨by decide +kernel, by decide +kernel⟩, List.mem_of_getElem? (i := 75) (by decide +kernel), List.mem_of_getElem? (i := 504) (by decide +kernel), List.mem_of_getElem? (i := 505) (by decide +kernel)⟩
theorem lw_p14 : lw_okq (⟨"ChordPoints$Entry", "isOnCurve", "()Z"⟩, 10) := ⟨⟨by decide +kernel, by decide +kernel⟩, List.mem_of_getElem? (i := 236) (by decide +kernel), List.mem_of_getElem? (i := 525) (by decide +kernel), List.mem_of_getElem? (i := 526) (by decide +kernel)⟩
theorem lw_p15 : lw_okq (⟨"ChordPoints$Chords", "measureGap", "(LChordPoints$Point;LChordPoints$Point;)V"⟩, 13) := ⟨⟨by decide +kernel, by decide +kernel⟩, List.mem_of_getElem? (i := 188) (by decide +kernel), List.mem_of_getElem? (i := 552) (by decide +kernel), List.mem_of_getElem? (i := 553) (by decide +kernel)⟩
def lw_privs_1 : List (MethodName × Nat) := [(⟨"ChordPoints$Reckoner", "lose", "(LChordPoints$Num;)V"⟩, 5), (⟨"ChordPoints$Reckoner", "store", "([IIZLChordPoints$Num;)V"⟩, 5), (⟨"ChordPoints$Reckoner", "addSigned", "(LChordPoints$Num;LChordPoints$Num;ZLChordPoints$Num;)V"⟩, 5), (⟨"ChordPoints$Reckoner", "addSizes", "(LChordPoints$Num;LChordPoints$Num;LChordPoints$Num;)V"⟩, 5), (⟨"ChordPoints$Reckoner", "subtractSizes", "(LChordPoints$Num;LChordPoints$Num;ZLChordPoints$Num;)V"⟩, 5), (⟨"ChordPoints$Entry", "takeLowestTerms", "(JJLChordPoints$Num;LChordPoints$Num;)V"⟩, 10), (⟨"ChordPoints$Divisors", "shorten", "()V"⟩, 10), (⟨"ChordPoints$Reckoner", "scaleUp", "(LChordPoints$Num;I[I)I"⟩, 5), (⟨"ChordPoints$Reckoner", "guessLimb", "(II)J"⟩, 5), (⟨"ChordPoints$Reckoner", "takeMultiple", "(JII)I"⟩, 5), (⟨"ChordPoints$Reckoner", "giveBack", "(II)V"⟩, 5), (⟨"ChordPoints$Reckoner", "scaleDown", "(II)V"⟩, 5), (⟨"ChordPoints$Divisors", "followLeadingDigits", "()Z"⟩, 10), (⟨"ChordPoints$Divisors", "mix", "()V"⟩, 10), (⟨"ChordPoints$Entry", "isOnCurve", "()Z"⟩, 10), (⟨"ChordPoints$Chords", "measureGap", "(LChordPoints$Point;LChordPoints$Point;)V"⟩, 13)]
theorem lw_r1 : ∀ q ∈ lw_privs_1, lw_okq q := List.forall_mem_cons.mpr ⟨lw_p0, List.forall_mem_cons.mpr ⟨lw_p1, List.forall_mem_cons.mpr ⟨lw_p2, List.forall_mem_cons.mpr ⟨lw_p3, List.forall_mem_cons.mpr ⟨lw_p4, List.forall_mem_cons.mpr ⟨lw_p5, List.forall_mem_cons.mpr ⟨lw_p6, List.forall_mem_cons.mpr ⟨lw_p7, List.forall_mem_cons.mpr ⟨lw_p8, List.forall_mem_cons.mpr ⟨lw_p9, List.forall_mem_cons.mpr ⟨lw_p10, List.forall_mem_cons.mpr ⟨lw_p11, List.forall_mem_cons.mpr ⟨lw_p12, List.forall_mem_cons.mpr ⟨lw_p13, List.forall_mem_cons.mpr ⟨lw_p14, List.forall_mem_cons.mpr ⟨lw_p15, fun _ h => absurd h List.not_mem_nil⟩⟩⟩⟩⟩⟩⟩⟩⟩⟩⟩⟩⟩⟩⟩⟩
theorem lw_p16 : lw_okq (⟨"ChordPoints$Chords", "gatherHeights", "(LChordPoints$Point;LChordPoints$Point;)V"⟩, 13) := ⟨⟨by decide +kernel, by decide +kernel⟩, List.mem_of_getElem? (i := 188) (by decide +kernel), List.mem_of_getElem? (i := 562) (by decide +kernel), List.mem_of_getElem? (i := 563) (by decide +kernel)⟩
theorem lw_p17 : lw_okq (⟨"ChordPoints$Chords", "drawChord", "(LChordPoints$Point;LChordPoints$Point;)V"⟩, 13) := ⟨⟨by decide +kernel, by decide +kernel⟩, List.mem_of_getElem? (i := 188) (by decide +kernel), List.mem_of_getElem? (i := 571) (by decide +kernel), List.mem_of_getElem? (i := 572) (by decide +kernel)⟩
theorem lw_p18 : lw_okq (⟨"ChordPoints$Chords", "drawTangent", "(LChordPoints$Point;)V"⟩, 13) := ⟨⟨by decide +kernel, by decide +kernel⟩, List.mem_of_getElem? (i := 188) (by decide +kernel), List.mem_of_getElem? (i := 580) (by decide +kernel), List.mem_of_getElem? (i := 581) (by decide +kernel)⟩
theorem lw_p19 : lw_okq (⟨"ChordPoints$Chords", "findShare", "()V"⟩, 13) := ⟨⟨by decide +kernel, by decide +kernel⟩, List.mem_of_getElem? (i := 188) (by decide +kernel), List.mem_of_getElem? (i := 586) (by decide +kernel), List.mem_of_getElem? (i := 587) (by decide +kernel)⟩
theorem lw_p20 : lw_okq (⟨"ChordPoints$Chords", "placeX", "(LChordPoints$Point;)Z"⟩, 13) := ⟨⟨by decide +kernel, by decide +kernel⟩, List.mem_of_getElem? (i := 188) (by decide +kernel), List.mem_of_getElem? (i := 607) (by decide +kernel), List.mem_of_getElem? (i := 608) (by decide +kernel)⟩
theorem lw_p21 : lw_okq (⟨"ChordPoints$Chords", "placeY", "(LChordPoints$Point;LChordPoints$Point;LChordPoints$Point;)V"⟩, 13) := ⟨⟨by decide +kernel, by decide +kernel⟩, List.mem_of_getElem? (i := 188) (by decide +kernel), List.mem_of_getElem? (i := 613) (by decide +kernel), List.mem_of_getElem? (i := 614) (by decide +kernel)⟩
theorem lw_p22 : lw_okq (⟨"ChordPoints", "keep", "(LChordPoints$Point;I)I"⟩, 7) := ⟨⟨by decide +kernel, by decide +kernel⟩, List.mem_of_getElem? (i := 13) (by decide +kernel), List.mem_of_getElem? (i := 622) (by decide +kernel), List.mem_of_getElem? (i := 623) (by decide +kernel)⟩
theorem lw_p23 : lw_okq (⟨"ChordPoints", "hasNumber", "(II)Z"⟩, 7) := ⟨⟨by decide +kernel, by decide +kernel⟩, List.mem_of_getElem? (i := 13) (by decide +kernel), List.mem_of_getElem? (i := 665) (by decide +kernel), List.mem_of_getElem? (i := 666) (by decide +kernel)⟩
theorem lw_p24 : lw_okq (⟨"ChordPointsModel", "forget", "()V"⟩, 5) := ⟨⟨by decide +kernel, by decide +kernel⟩, List.mem_of_getElem? (i := 687) (by decide +kernel), List.mem_of_getElem? (i := 693) (by decide +kernel), List.mem_of_getElem? (i := 694) (by decide +kernel)⟩
theorem lw_p25 : lw_okq (⟨"ChordPointsModel", "set", "(IJ)V"⟩, 5) := ⟨⟨by decide +kernel, by decide +kernel⟩, List.mem_of_getElem? (i := 687) (by decide +kernel), List.mem_of_getElem? (i := 697) (by decide +kernel), List.mem_of_getElem? (i := 698) (by decide +kernel)⟩
theorem lw_p26 : lw_okq (⟨"ChordPointsModel", "product", "(IJJJJ)V"⟩, 5) := ⟨⟨by decide +kernel, by decide +kernel⟩, List.mem_of_getElem? (i := 687) (by decide +kernel), List.mem_of_getElem? (i := 731) (by decide +kernel), List.mem_of_getElem? (i := 732) (by decide +kernel)⟩
theorem lw_p27 : lw_okq (⟨"ChordPointsModel", "multiply", "(III)V"⟩, 5) := ⟨⟨by decide +kernel, by decide +kernel⟩, List.mem_of_getElem? (i := 687) (by decide +kernel), List.mem_of_getElem? (i := 735) (by decide +kernel), List.mem_of_getElem? (i := 736) (by decide +kernel)⟩
theorem lw_p28 : lw_okq (⟨"ChordPointsModel", "trim", "(II)V"⟩, 5) := ⟨⟨by decide +kernel, by decide +kernel⟩, List.mem_of_getElem? (i := 687) (by decide +kernel), List.mem_of_getElem? (i := 739) (by decide +kernel), List.mem_of_getElem? (i := 740) (by decide +kernel)⟩
theorem lw_p29 : lw_okq (⟨"ChordPointsModel", "add", "(IIII)V"⟩, 5) := ⟨⟨by decide +kernel, by decide +kernel⟩, List.mem_of_getElem? (i := 687) (by decide +kernel), List.mem_of_getElem? (i := 743) (by decide +kernel), List.mem_of_getElem? (i := 744) (by decide +kernel)⟩
theorem lw_p30 : lw_okq (⟨"ChordPointsModel", "copy", "(II)V"⟩, 5) := ⟨⟨by decide +kernel, by decide +kernel⟩, List.mem_of_getElem? (i := 687) (by decide +kernel), List.mem_of_getElem? (i := 747) (by decide +kernel), List.mem_of_getElem? (i := 748) (by decide +kernel)⟩
theorem lw_p31 : lw_okq (⟨"ChordPointsModel", "addSizes", "(III)V"⟩, 5) := ⟨⟨by decide +kernel, by decide +kernel⟩, List.mem_of_getElem? (i := 687) (by decide +kernel), List.mem_of_getElem? (i := 751) (by decide +kernel), List.mem_of_getElem? (i := 752) (by decide +kernel)⟩
def lw_privs_2 : List (MethodName × Nat) := [(⟨"ChordPoints$Chords", "gatherHeights", "(LChordPoints$Point;LChordPoints$Point;)V"⟩, 13), (⟨"ChordPoints$Chords", "drawChord", "(LChordPoints$Point;LChordPoints$Point;)V"⟩, 13), (⟨"ChordPoints$Chords", "drawTangent", "(LChordPoints$Point;)V"⟩, 13), (⟨"ChordPoints$Chords", "findShare", "()V"⟩, 13), (⟨"ChordPoints$Chords", "placeX", "(LChordPoints$Point;)Z"⟩, 13), (⟨"ChordPoints$Chords", "placeY", "(LChordPoints$Point;LChordPoints$Point;LChordPoints$Point;)V"⟩, 13), (⟨"ChordPoints", "keep", "(LChordPoints$Point;I)I"⟩, 7), (⟨"ChordPoints", "hasNumber", "(II)Z"⟩, 7), (⟨"ChordPointsModel", "forget", "()V"⟩, 5), (⟨"ChordPointsModel", "set", "(IJ)V"⟩, 5), (⟨"ChordPointsModel", "product", "(IJJJJ)V"⟩, 5), (⟨"ChordPointsModel", "multiply", "(III)V"⟩, 5), (⟨"ChordPointsModel", "trim", "(II)V"⟩, 5), (⟨"ChordPointsModel", "add", "(IIII)V"⟩, 5), (⟨"ChordPointsModel", "copy", "(II)V"⟩, 5), (⟨"ChordPointsModel", "addSizes", "(III)V"⟩, 5)]
theorem lw_r2 : ∀ q ∈ lw_privs_2, lw_okq q := List.forall_mem_cons.mpr ⟨lw_p16, List.forall_mem_cons.mpr ⟨lw_p17, List.forall_mem_cons.mpr ⟨lw_p18, List.forall_mem_cons.mpr ⟨lw_p19, List.forall_mem_cons.mpr ⟨lw_p20, List.forall_mem_cons.mpr ⟨lw_p21, List.forall_mem_cons.mpr ⟨lw_p22, List.forall_mem_cons.mpr ⟨lw_p23, List.forall_mem_cons.mpr ⟨lw_p24, List.forall_mem_cons.mpr ⟨lw_p25, List.forall_mem_cons.mpr ⟨lw_p26, List.forall_mem_cons.mpr ⟨lw_p27, List.forall_mem_cons.mpr ⟨lw_p28, List.forall_mem_cons.mpr ⟨lw_p29, List.forall_mem_cons.mpr ⟨lw_p30, List.forall_mem_cons.mpr ⟨lw_p31, fun _ h => absurd h List.not_mem_nil⟩⟩⟩⟩⟩⟩⟩⟩⟩⟩⟩⟩⟩⟩⟩⟩
theorem lw_p32 : lw_okq (⟨"ChordPointsModel", "compare", "(II)I"⟩, 5) := ⟨⟨by decide +kernel, by decide +kernel⟩, List.mem_of_getElem? (i := 687) (by decide +kernel), List.mem_of_getElem? (i := 756) (by decide +kernel), List.mem_of_getElem? (i := 757) (by decide +kernel)⟩
theorem lw_p33 : lw_okq (⟨"ChordPointsModel", "takeSizes", "(IIII)V"⟩, 5) := ⟨⟨by decide +kernel, by decide +kernel⟩, List.mem_of_getElem? (i := 687) (by decide +kernel), List.mem_of_getElem? (i := 760) (by decide +kernel), List.mem_of_getElem? (i := 761) (by decide +kernel)⟩
theorem lw_p34 : lw_okq (⟨"ChordPointsModel", "fraction", "(IIJJ)V"⟩, 5) := ⟨⟨by decide +kernel, by decide +kernel⟩, List.mem_of_getElem? (i := 687) (by decide +kernel), List.mem_of_getElem? (i := 777) (by decide +kernel), List.mem_of_getElem? (i := 778) (by decide +kernel)⟩
theorem lw_p35 : lw_okq (⟨"ChordPointsModel", "common", "(II)V"⟩, 5) := ⟨⟨by decide +kernel, by decide +kernel⟩, List.mem_of_getElem? (i := 687) (by decide +kernel), List.mem_of_getElem? (i := 781) (by decide +kernel), List.mem_of_getElem? (i := 782) (by decide +kernel)⟩
theorem lw_p36 : lw_okq (⟨"ChordPointsModel", "divide", "(III)V"⟩, 5) := ⟨⟨by decide +kernel, by decide +kernel⟩, List.mem_of_getElem? (i := 687) (by decide +kernel), List.mem_of_getElem? (i := 785) (by decide +kernel), List.mem_of_getElem? (i := 786) (by decide +kernel)⟩
theorem lw_p37 : lw_okq (⟨"ChordPointsModel", "timesSmall", "(IJ)V"⟩, 5) := ⟨⟨by decide +kernel, by decide +kernel⟩, List.mem_of_getElem? (i := 687) (by decide +kernel), List.mem_of_getElem? (i := 789) (by decide +kernel), List.mem_of_getElem? (i := 790) (by decide +kernel)⟩
theorem lw_p38 : lw_okq (⟨"ChordPointsModel", "place", "(IIII)I"⟩, 5) := ⟨⟨by decide +kernel, by decide +kernel⟩, List.mem_of_getElem? (i := 687) (by decide +kernel), List.mem_of_getElem? (i := 793) (by decide +kernel), List.mem_of_getElem? (i := 794) (by decide +kernel)⟩
theorem lw_p39 : lw_okq (⟨"ChordPointsModel", "bySmall", "(II)V"⟩, 5) := ⟨⟨by decide +kernel, by decide +kernel⟩, List.mem_of_getElem? (i := 687) (by decide +kernel), List.mem_of_getElem? (i := 797) (by decide +kernel), List.mem_of_getElem? (i := 798) (by decide +kernel)⟩
theorem lw_p40 : lw_okq (⟨"ChordPointsModel", "share", "(III)V"⟩, 5) := ⟨⟨by decide +kernel, by decide +kernel⟩, List.mem_of_getElem? (i := 687) (by decide +kernel), List.mem_of_getElem? (i := 801) (by decide +kernel), List.mem_of_getElem? (i := 802) (by decide +kernel)⟩
theorem lw_p41 : lw_okq (⟨"ChordPointsModel", "more", "(IIII)V"⟩, 5) := ⟨⟨by decide +kernel, by decide +kernel⟩, List.mem_of_getElem? (i := 687) (by decide +kernel), List.mem_of_getElem? (i := 805) (by decide +kernel), List.mem_of_getElem? (i := 806) (by decide +kernel)⟩
theorem lw_p42 : lw_okq (⟨"ChordPointsModel", "isSame", "(II)Z"⟩, 5) := ⟨⟨by decide +kernel, by decide +kernel⟩, List.mem_of_getElem? (i := 687) (by decide +kernel), List.mem_of_getElem? (i := 809) (by decide +kernel), List.mem_of_getElem? (i := 810) (by decide +kernel)⟩
theorem lw_p43 : lw_okq (⟨"ChordPointsModel", "move", "(II)V"⟩, 5) := ⟨⟨by decide +kernel, by decide +kernel⟩, List.mem_of_getElem? (i := 687) (by decide +kernel), List.mem_of_getElem? (i := 813) (by decide +kernel), List.mem_of_getElem? (i := 814) (by decide +kernel)⟩
theorem lw_p44 : lw_okq (⟨"ChordPointsModel", "join", "()V"⟩, 5) := ⟨⟨by decide +kernel, by decide +kernel⟩, List.mem_of_getElem? (i := 687) (by decide +kernel), List.mem_of_getElem? (i := 821) (by decide +kernel), List.mem_of_getElem? (i := 822) (by decide +kernel)⟩
theorem lw_p45 : lw_okq (⟨"ChordPointsModel", "isOther", "()Z"⟩, 5) := ⟨⟨by decide +kernel, by decide +kernel⟩, List.mem_of_getElem? (i := 687) (by decide +kernel), List.mem_of_getElem? (i := 825) (by decide +kernel), List.mem_of_getElem? (i := 826) (by decide +kernel)⟩
theorem lw_p46 : lw_okq (⟨"ChordPointsModel", "touch", "()V"⟩, 5) := ⟨⟨by decide +kernel, by decide +kernel⟩, List.mem_of_getElem? (i := 687) (by decide +kernel), List.mem_of_getElem? (i := 829) (by decide +kernel), List.mem_of_getElem? (i := 830) (by decide +kernel)⟩
theorem lw_p47 : lw_okq (⟨"ChordPointsModel", "finish", "()V"⟩, 5) := ⟨⟨by decide +kernel, by decide +kernel⟩, List.mem_of_getElem? (i := 687) (by decide +kernel), List.mem_of_getElem? (i := 834) (by decide +kernel), List.mem_of_getElem? (i := 835) (by decide +kernel)⟩
def lw_privs_3 : List (MethodName × Nat) := [(⟨"ChordPointsModel", "compare", "(II)I"⟩, 5), (⟨"ChordPointsModel", "takeSizes", "(IIII)V"⟩, 5), (⟨"ChordPointsModel", "fraction", "(IIJJ)V"⟩, 5), (⟨"ChordPointsModel", "common", "(II)V"⟩, 5), (⟨"ChordPointsModel", "divide", "(III)V"⟩, 5), (⟨"ChordPointsModel", "timesSmall", "(IJ)V"⟩, 5), (⟨"ChordPointsModel", "place", "(IIII)I"⟩, 5), (⟨"ChordPointsModel", "bySmall", "(II)V"⟩, 5), (⟨"ChordPointsModel", "share", "(III)V"⟩, 5), (⟨"ChordPointsModel", "more", "(IIII)V"⟩, 5), (⟨"ChordPointsModel", "isSame", "(II)Z"⟩, 5), (⟨"ChordPointsModel", "move", "(II)V"⟩, 5), (⟨"ChordPointsModel", "join", "()V"⟩, 5), (⟨"ChordPointsModel", "isOther", "()Z"⟩, 5), (⟨"ChordPointsModel", "touch", "()V"⟩, 5), (⟨"ChordPointsModel", "finish", "()V"⟩, 5)]
theorem lw_r3 : ∀ q ∈ lw_privs_3, lw_okq q := List.forall_mem_cons.mpr ⟨lw_p32, List.forall_mem_cons.mpr ⟨lw_p33, List.forall_mem_cons.mpr ⟨lw_p34, List.forall_mem_cons.mpr ⟨lw_p35, List.forall_mem_cons.mpr ⟨lw_p36, List.forall_mem_cons.mpr ⟨lw_p37, List.forall_mem_cons.mpr ⟨lw_p38, List.forall_mem_cons.mpr ⟨lw_p39, List.forall_mem_cons.mpr ⟨lw_p40, List.forall_mem_cons.mpr ⟨lw_p41, List.forall_mem_cons.mpr ⟨lw_p42, List.forall_mem_cons.mpr ⟨lw_p43, List.forall_mem_cons.mpr ⟨lw_p44, List.forall_mem_cons.mpr ⟨lw_p45, List.forall_mem_cons.mpr ⟨lw_p46, List.forall_mem_cons.mpr ⟨lw_p47, fun _ h => absurd h List.not_mem_nil⟩⟩⟩⟩⟩⟩⟩⟩⟩⟩⟩⟩⟩⟩⟩⟩
theorem lw_p48 : lw_okq (⟨"ChordPointsModel", "settle", "(I)I"⟩, 5) := ⟨⟨by decide +kernel, by decide +kernel⟩, List.mem_of_getElem? (i := 687) (by decide +kernel), List.mem_of_getElem? (i := 838) (by decide +kernel), List.mem_of_getElem? (i := 839) (by decide +kernel)⟩
theorem lw_p49 : lw_okq (⟨"ChordPointsModel", "isTooLong", "(I)Z"⟩, 5) := ⟨⟨by decide +kernel, by decide +kernel⟩, List.mem_of_getElem? (i := 687) (by decide +kernel), List.mem_of_getElem? (i := 842) (by decide +kernel), List.mem_of_getElem? (i := 843) (by decide +kernel)⟩
theorem lw_p50 : lw_okq (⟨"ChordPointsModel", "digitsOf", "(I)I"⟩, 5) := ⟨⟨by decide +kernel, by decide +kernel⟩, List.mem_of_getElem? (i := 687) (by decide +kernel), List.mem_of_getElem? (i := 846) (by decide +kernel), List.mem_of_getElem? (i := 847) (by decide +kernel)⟩
theorem lw_p51 : lw_okq (⟨"ChordPointsModel", "turn", "(I)V"⟩, 5) := ⟨⟨by decide +kernel, by decide +kernel⟩, List.mem_of_getElem? (i := 687) (by decide +kernel), List.mem_of_getElem? (i := 854) (by decide +kernel), List.mem_of_getElem? (i := 855) (by decide +kernel)⟩
theorem lw_p52 : lw_okq (⟨"ChordPointsModel", "isFar", "()Z"⟩, 5) := ⟨⟨by decide +kernel, by decide +kernel⟩, List.mem_of_getElem? (i := 687) (by decide +kernel), List.mem_of_getElem? (i := 865) (by decide +kernel), List.mem_of_getElem? (i := 866) (by decide +kernel)⟩
theorem lw_p53 : lw_okq (⟨"ChordPointsModel", "take", "(II)Z"⟩, 5) := ⟨⟨by decide +kernel, by decide +kernel⟩, List.mem_of_getElem? (i := 687) (by decide +kernel), List.mem_of_getElem? (i := 885) (by decide +kernel), List.mem_of_getElem? (i := 886) (by decide +kernel)⟩
def lw_privs_4 : List (MethodName × Nat) := [(⟨"ChordPointsModel", "settle", "(I)I"⟩, 5), (⟨"ChordPointsModel", "isTooLong", "(I)Z"⟩, 5), (⟨"ChordPointsModel", "digitsOf", "(I)I"⟩, 5), (⟨"ChordPointsModel", "turn", "(I)V"⟩, 5), (⟨"ChordPointsModel", "isFar", "()Z"⟩, 5), (⟨"ChordPointsModel", "take", "(II)Z"⟩, 5)]
theorem lw_r4 : ∀ q ∈ lw_privs_4, lw_okq q := List.forall_mem_cons.mpr ⟨lw_p48, List.forall_mem_cons.mpr ⟨lw_p49, List.forall_mem_cons.mpr ⟨lw_p50, List.forall_mem_cons.mpr ⟨lw_p51, List.forall_mem_cons.mpr ⟨lw_p52, List.forall_mem_cons.mpr ⟨lw_p53, fun _ h => absurd h List.not_mem_nil⟩⟩⟩⟩⟩⟩
def lw_privs : List (MethodName × Nat) := lw_privs_1 ++ (lw_privs_2 ++ (lw_privs_3 ++ (lw_privs_4)))
def lw_tbl : List Cond := k2_sels lw_privs ++ tables_1
theorem lw_privs_ok : ∀ q ∈ lw_privs, lw_okq q := by
  show ∀ q ∈ lw_privs_1 ++ (lw_privs_2 ++ (lw_privs_3 ++ (lw_privs_4))), lw_okq q
  exact List.forall_mem_append.mpr ⟨lw_r1, List.forall_mem_append.mpr ⟨lw_r2, List.forall_mem_append.mpr ⟨lw_r3, lw_r4⟩⟩⟩
-- ===== end of PART A; then your names; then what follows =====
/-! THE CLAIM OUT OF ONE WALK OF THE LAW'S BODY. Your part is whole_start (and what it stands on); all else here is the same for every law, but numbers. -/
def R_law : String := "ChordPointsLaw"
def lw_P (b : Addr) (xs : List Int32) (args : Array Value) (s : State) : Prop := args = #[.ref b] ∧ s.IntsAt b xs ∧ xs.length ≤ 5120 ∧ (Jvm.Cond.and given_1 narrow_1).before args s = true
def lw_Q (_ : Array Value) (s : State) (o : Outcome) (t : State) : Prop := o = .returned (some (.int 1)) ∧ Framed s o t [] 600000 7302250
def lw_Z (below : List Frame) (a : Array Value) (s : State) : State → Prop := fun t => ∃ o, t.status = .running ∧ Ended t below o ∧ lw_Q a s o t
/-- the law's own end, with 1 on the stack, nothing written that was there before, its room as the claim has it -/
theorem lw_ret {p : Program} {l : Launch} {e : Env} {s : State} {m : MethodId} {below : List Frame} {meth : Method} {c : Code} {b : Nat} (hx : p.tables.exec = Jvm.exec) (hb : c.code = code) (hr : meth.sig.returnType = ret) (hlocks : meth.locks = false) {pc : Nat} {H : Heap} {ls : Array Slot} (hdg : decode code pc = .ok (.ireturn, 1)) : W p l e room_1 s m #[Value.ref b] below meth c H [] 600000 7302250 (lw_Z below #[Value.ref b] s) (F0 m pc ls [.int 1]) := by
  intro T hT X
  obtain ⟨fs, hret, hrun, hended, hW, hframe⟩ := X.leave (v := some (.int 1)) (hlocks := hlocks) (fun h => by rw [hr] at h; cases h)
  have hmeth' : T.vm.method? m = some meth := X.method'
  refine ⟨T.setFrames fs, ?_, .returned (some (.int 1)), hrun, hended, rfl, ⟨_, rfl⟩, hW, hframe⟩
  jvm_step X.here [X.here.top, hx, hb, hdg, hmeth', hr, ret, narrow_b1]
  (try refine ⟨rfl, ?_⟩); (try refine ⟨rfl, ?_⟩)
  first | (intro acts; rw [hret _ acts rfl rfl rfl]) | rw [hret _ _ rfl rfl rfl]
  exact Steps.refl _
/-- what holds at the law's entry: the machine, the code, the tables' words (any of lw_tbl by 'hts w (by decide +kernel)'), the script of L ints xs at the cell b, what the Statement gives of the start (any of its parts by flat_of_before) -/
def lw_At (p : Program) (s : State) (m : MethodId) (meth : Method) (c : Code) (b L : Nat) (xs : Nat → Int32) : Prop :=
  p.tables.exec = Jvm.exec ∧ c.code = code ∧ meth.sig.returnType = ret ∧ c.maxLocals = 4 ∧ s.vm.findClass R_law = some m.cls ∧ (∀ w ∈ lw_tbl, w.before #[Value.ref b] s = true) ∧ va_X b L xs s s.heap ∧ b < s.heap.size ∧ meth.locks = false ∧ (Jvm.Cond.and given_1 narrow_1).before #[Value.ref b] s = true
end
section
def R_M : String := "ChordPointsModel"
def F_M : u_T := fun k => match k with
  | 0 => ("ChordPointsModel", "code", "I", false)
  | 1 => ("ChordPointsModel", "cells", "[I", true)
  | 2 => ("ChordPointsModel", "sizes", "[I", true)
  | 3 => ("ChordPointsModel", "signs", "[I", true)
  | _ => ("ChordPointsModel", "none", "[Z", true)
def t_M : Nat → FieldType := fun k => match k with
  | 0 => .int
  | 1 => .array .int
  | 2 => .array .int
  | 3 => .array .int
  | _ => .array .boolean
theorem n_M : ∀ a, a < 5 → ∀ b, b < 5 → a ≠ b → (F_M a).2.1 ≠ (F_M b).2.1 := by decide +kernel
theorem t_M_ok : ∀ k, k < 5 → parseFieldDescriptor (F_M k).2.2.1 = some (t_M k) := by decide +kernel
def R_N : String := "ChordPoints$Num"
def F_N : u_T := fun k => match k with
  | 0 => ("ChordPoints$Num", "limbs", "[I", true)
  | 1 => ("ChordPoints$Num", "length", "I", false)
  | _ => ("ChordPoints$Num", "below", "Z", false)
def t_N : Nat → FieldType := fun k => match k with
  | 0 => .array .int
  | 1 => .int
  | _ => .boolean
theorem n_N : ∀ a, a < 3 → ∀ b, b < 3 → a ≠ b → (F_N a).2.1 ≠ (F_N b).2.1 := by decide +kernel
theorem t_N_ok : ∀ k, k < 3 → parseFieldDescriptor (F_N k).2.2.1 = some (t_N k) := by decide +kernel
def R_P : String := "ChordPoints$Point"
def F_P : u_T := fun k => match k with
  | 0 => ("ChordPoints$Point", "a", "LChordPoints$Num;", true)
  | 1 => ("ChordPoints$Point", "b", "LChordPoints$Num;", true)
  | 2 => ("ChordPoints$Point", "e", "LChordPoints$Num;", true)
  | 3 => ("ChordPoints$Point", "e2", "LChordPoints$Num;", true)
  | 4 => ("ChordPoints$Point", "e3", "LChordPoints$Num;", true)
  | _ => ("ChordPoints$Point", "none", "Z", false)
def t_P : Nat → FieldType := fun k => match k with
  | 0 => .object "ChordPoints$Num"
  | 1 => .object "ChordPoints$Num"
  | 2 => .object "ChordPoints$Num"
  | 3 => .object "ChordPoints$Num"
  | 4 => .object "ChordPoints$Num"
  | _ => .boolean
theorem n_P : ∀ a, a < 6 → ∀ b, b < 6 → a ≠ b → (F_P a).2.1 ≠ (F_P b).2.1 := by decide +kernel
theorem t_P_ok : ∀ k, k < 6 → parseFieldDescriptor (F_P k).2.2.1 = some (t_P k) := by decide +kernel
def R_Q : String := "ChordPoints$Equation"
def F_Q : u_T := fun k => match k with
  | 0 => ("ChordPoints$Equation", "a1", "LChordPoints$Num;", true)
  | 1 => ("ChordPoints$Equation", "a2", "LChordPoints$Num;", true)
  | 2 => ("ChordPoints$Equation", "a3", "LChordPoints$Num;", true)
  | 3 => ("ChordPoints$Equation", "a4", "LChordPoints$Num;", true)
  | 4 => ("ChordPoints$Equation", "a6", "LChordPoints$Num;", true)
  | 5 => ("ChordPoints$Equation", "twiceA2", "LChordPoints$Num;", true)
  | 6 => ("ChordPoints$Equation", "twiceA6", "LChordPoints$Num;", true)
  | 7 => ("ChordPoints$Equation", "b4", "LChordPoints$Num;", true)
  | 8 => ("ChordPoints$Equation", "twiceB6", "LChordPoints$Num;", true)
  | _ => ("ChordPoints$Equation", "b8", "LChordPoints$Num;", true)
def t_Q : Nat → FieldType := fun k => match k with
  | 0 => .object "ChordPoints$Num"
  | 1 => .object "ChordPoints$Num"
  | 2 => .object "ChordPoints$Num"
  | 3 => .object "ChordPoints$Num"
  | 4 => .object "ChordPoints$Num"
  | 5 => .object "ChordPoints$Num"
  | 6 => .object "ChordPoints$Num"
  | 7 => .object "ChordPoints$Num"
  | 8 => .object "ChordPoints$Num"
  | _ => .object "ChordPoints$Num"
theorem n_Q : ∀ a, a < 10 → ∀ b, b < 10 → a ≠ b → (F_Q a).2.1 ≠ (F_Q b).2.1 := by decide +kernel
theorem t_Q_ok : ∀ k, k < 10 → parseFieldDescriptor (F_Q k).2.2.1 = some (t_Q k) := by decide +kernel
def R_R : String := "ChordPoints$Reckoner"
def F_R : u_T := fun k => match k with
  | 0 => ("ChordPoints$Reckoner", "row", "[I", true)
  | 1 => ("ChordPoints$Reckoner", "upper", "[I", true)
  | 2 => ("ChordPoints$Reckoner", "lower", "[I", true)
  | 3 => ("ChordPoints$Reckoner", "product", "LChordPoints$Num;", true)
  | _ => ("ChordPoints$Reckoner", "lost", "Z", false)
def t_R : Nat → FieldType := fun k => match k with
  | 0 => .array .int
  | 1 => .array .int
  | 2 => .array .int
  | 3 => .object "ChordPoints$Num"
  | _ => .boolean
theorem n_R : ∀ a, a < 5 → ∀ b, b < 5 → a ≠ b → (F_R a).2.1 ≠ (F_R b).2.1 := by decide +kernel
theorem t_R_ok : ∀ k, k < 5 → parseFieldDescriptor (F_R k).2.2.1 = some (t_R k) := by decide +kernel
def R_D : String := "ChordPoints$Divisors"
def F_D : u_T := fun k => match k with
  | 0 => ("ChordPoints$Divisors", "reckoner", "LChordPoints$Reckoner;", true)
  | 1 => ("ChordPoints$Divisors", "quotient", "LChordPoints$Num;", true)
  | 2 => ("ChordPoints$Divisors", "two", "LChordPoints$Num;", true)
  | 3 => ("ChordPoints$Divisors", "high", "LChordPoints$Num;", false)
  | 4 => ("ChordPoints$Divisors", "low", "LChordPoints$Num;", false)
  | 5 => ("ChordPoints$Divisors", "rest", "LChordPoints$Num;", false)
  | 6 => ("ChordPoints$Divisors", "highHigh", "J", false)
  | 7 => ("ChordPoints$Divisors", "highLow", "J", false)
  | 8 => ("ChordPoints$Divisors", "lowHigh", "J", false)
  | _ => ("ChordPoints$Divisors", "lowLow", "J", false)
def t_D : Nat → FieldType := fun k => match k with
  | 0 => .object "ChordPoints$Reckoner"
  | 1 => .object "ChordPoints$Num"
  | 2 => .object "ChordPoints$Num"
  | 3 => .object "ChordPoints$Num"
  | 4 => .object "ChordPoints$Num"
  | 5 => .object "ChordPoints$Num"
  | 6 => .long
  | 7 => .long
  | 8 => .long
  | _ => .long
theorem n_D : ∀ a, a < 10 → ∀ b, b < 10 → a ≠ b → (F_D a).2.1 ≠ (F_D b).2.1 := by decide +kernel
theorem t_D_ok : ∀ k, k < 10 → parseFieldDescriptor (F_D k).2.2.1 = some (t_D k) := by decide +kernel
def R_E : String := "ChordPoints$Entry"
def F_E : u_T := fun k => match k with
  | 0 => ("ChordPoints$Entry", "equation", "LChordPoints$Equation;", true)
  | 1 => ("ChordPoints$Entry", "reckoner", "LChordPoints$Reckoner;", true)
  | 2 => ("ChordPoints$Entry", "divisors", "LChordPoints$Divisors;", true)
  | 3 => ("ChordPoints$Entry", "xTop", "LChordPoints$Num;", true)
  | 4 => ("ChordPoints$Entry", "xBottom", "LChordPoints$Num;", true)
  | 5 => ("ChordPoints$Entry", "yTop", "LChordPoints$Num;", true)
  | 6 => ("ChordPoints$Entry", "yBottom", "LChordPoints$Num;", true)
  | 7 => ("ChordPoints$Entry", "first", "LChordPoints$Num;", true)
  | 8 => ("ChordPoints$Entry", "second", "LChordPoints$Num;", true)
  | _ => ("ChordPoints$Entry", "third", "LChordPoints$Num;", true)
def t_E : Nat → FieldType := fun k => match k with
  | 0 => .object "ChordPoints$Equation"
  | 1 => .object "ChordPoints$Reckoner"
  | 2 => .object "ChordPoints$Divisors"
  | 3 => .object "ChordPoints$Num"
  | 4 => .object "ChordPoints$Num"
  | 5 => .object "ChordPoints$Num"
  | 6 => .object "ChordPoints$Num"
  | 7 => .object "ChordPoints$Num"
  | 8 => .object "ChordPoints$Num"
  | _ => .object "ChordPoints$Num"
theorem n_E : ∀ a, a < 10 → ∀ b, b < 10 → a ≠ b → (F_E a).2.1 ≠ (F_E b).2.1 := by decide +kernel
theorem t_E_ok : ∀ k, k < 10 → parseFieldDescriptor (F_E k).2.2.1 = some (t_E k) := by decide +kernel
def R_C : String := "ChordPoints$Chords"
def F_C : u_T := fun k => match k with
  | 0 => ("ChordPoints$Chords", "equation", "LChordPoints$Equation;", true)
  | 1 => ("ChordPoints$Chords", "reckoner", "LChordPoints$Reckoner;", true)
  | 2 => ("ChordPoints$Chords", "divisors", "LChordPoints$Divisors;", true)
  | 3 => ("ChordPoints$Chords", "top", "LChordPoints$Num;", true)
  | 4 => ("ChordPoints$Chords", "bottom", "LChordPoints$Num;", true)
  | 5 => ("ChordPoints$Chords", "slope", "LChordPoints$Num;", true)
  | 6 => ("ChordPoints$Chords", "share", "LChordPoints$Num;", true)
  | 7 => ("ChordPoints$Chords", "left", "LChordPoints$Num;", true)
  | 8 => ("ChordPoints$Chords", "right", "LChordPoints$Num;", true)
  | 9 => ("ChordPoints$Chords", "first", "LChordPoints$Num;", true)
  | 10 => ("ChordPoints$Chords", "second", "LChordPoints$Num;", true)
  | 11 => ("ChordPoints$Chords", "twist", "LChordPoints$Num;", true)
  | _ => ("ChordPoints$Chords", "rest", "LChordPoints$Num;", true)
def t_C : Nat → FieldType := fun k => match k with
  | 0 => .object "ChordPoints$Equation"
  | 1 => .object "ChordPoints$Reckoner"
  | 2 => .object "ChordPoints$Divisors"
  | 3 => .object "ChordPoints$Num"
  | 4 => .object "ChordPoints$Num"
  | 5 => .object "ChordPoints$Num"
  | 6 => .object "ChordPoints$Num"
  | 7 => .object "ChordPoints$Num"
  | 8 => .object "ChordPoints$Num"
  | 9 => .object "ChordPoints$Num"
  | 10 => .object "ChordPoints$Num"
  | 11 => .object "ChordPoints$Num"
  | _ => .object "ChordPoints$Num"
theorem n_C : ∀ a, a < 13 → ∀ b, b < 13 → a ≠ b → (F_C a).2.1 ≠ (F_C b).2.1 := by decide +kernel
theorem t_C_ok : ∀ k, k < 13 → parseFieldDescriptor (F_C k).2.2.1 = some (t_C k) := by decide +kernel
def R_X : String := "ChordPoints"
def F_X : u_T := fun k => match k with
  | 0 => ("ChordPoints", "slots", "[LChordPoints$Point;", true)
  | 1 => ("ChordPoints", "equation", "LChordPoints$Equation;", true)
  | 2 => ("ChordPoints", "chords", "LChordPoints$Chords;", true)
  | 3 => ("ChordPoints", "entry", "LChordPoints$Entry;", true)
  | 4 => ("ChordPoints", "made", "LChordPoints$Point;", true)
  | 5 => ("ChordPoints", "halfway", "LChordPoints$Point;", true)
  | _ => ("ChordPoints", "base", "LChordPoints$Point;", true)
def t_X : Nat → FieldType := fun k => match k with
  | 0 => .array (.object "ChordPoints$Point")
  | 1 => .object "ChordPoints$Equation"
  | 2 => .object "ChordPoints$Chords"
  | 3 => .object "ChordPoints$Entry"
  | 4 => .object "ChordPoints$Point"
  | 5 => .object "ChordPoints$Point"
  | _ => .object "ChordPoints$Point"
theorem n_X : ∀ a, a < 7 → ∀ b, b < 7 → a ≠ b → (F_X a).2.1 ≠ (F_X b).2.1 := by decide +kernel
theorem t_X_ok : ∀ k, k < 7 → parseFieldDescriptor (F_X k).2.2.1 = some (t_X k) := by decide +kernel
abbrev vwCl : List vw_C := [(R_M, F_M, 5), (R_N, F_N, 3), (R_P, F_P, 6), (R_Q, F_Q, 10), (R_R, F_R, 5), (R_D, F_D, 10), (R_E, F_E, 10), (R_C, F_C, 13), (R_X, F_X, 7)]
abbrev zTysOf (g : Nat → ClassId) : List (ClassId × FieldType) := [(g 0, .int), (g 1, .boolean), (g 2, .object "ChordPoints$Point")]
def powN (j : Nat) : Nat := 10 ^ j
/-- the one static array: POWERS, as the Statement gives it -/
def zT (A : Nat → Prop) (U : State) (H : Heap) : Prop := ∃ t : Nat, va_Z "ChordPoints" "POWERS" "[I" (.ref t) A U H ∧ va_T .int t 10 (fun j => .int (nI (powN j))) A U H
theorem zT_moved {A : Nat → Prop} {u U : State} {H : Heap} (hvm : u.vm.Alike U.vm) (h : zT A u H) : zT A U H := by
  obtain ⟨t, h1, h2⟩ := h
  exact ⟨t, h1.moved hvm, h2.moved hvm⟩
theorem zT_kept {A : Nat → Prop} {U : State} {H H1 : Heap} (h : zT A U H) (hq : ∀ a : Nat, a < H.size → ¬ A a → H1[a]? = H[a]?) : zT A U H1 := by
  obtain ⟨t, h1, h2⟩ := h
  exact ⟨t, h1.kept hq, h2.kept hq⟩
abbrev b_X_init : ByteArray := prog_1_method_1_code
def y_X_init : MethodName := ⟨R_X, "<init>", "()V"⟩
abbrev b_R_init : ByteArray := prog_8_method_1_code
def y_R_init : MethodName := ⟨R_R, "<init>", "()V"⟩
abbrev b_N_init : ByteArray := prog_6_method_1_code
def y_N_init : MethodName := ⟨R_N, "<init>", "(I)V"⟩
abbrev b_D_init : ByteArray := prog_3_method_1_code
def y_D_init : MethodName := ⟨R_D, "<init>", "(LChordPoints$Reckoner;)V"⟩
abbrev b_N_become_J : ByteArray := prog_6_method_3_code
def y_N_become_J : MethodName := ⟨R_N, "become", "(J)V"⟩
abbrev b_Q_init : ByteArray := prog_5_method_1_code
def y_Q_init : MethodName := ⟨R_Q, "<init>", "()V"⟩
abbrev b_Q_become : ByteArray := prog_5_method_2_code
def y_Q_become : MethodName := ⟨R_Q, "become", "(JJJJJ)V"⟩
abbrev b_Q_b4 : ByteArray := prog_5_method_4_code
def y_Q_b4 : MethodName := ⟨R_Q, "b4", "(JJJ)J"⟩
abbrev b_Q_b6 : ByteArray := prog_5_method_5_code
def y_Q_b6 : MethodName := ⟨R_Q, "b6", "(JJ)J"⟩
abbrev b_Q_b8 : ByteArray := prog_5_method_6_code
def y_Q_b8 : MethodName := ⟨R_Q, "b8", "(JJJJJ)J"⟩
abbrev b_C_init : ByteArray := prog_2_method_1_code
def y_C_init : MethodName := ⟨R_C, "<init>", "(LChordPoints$Equation;LChordPoints$Reckoner;LChordPoints$Divisors;)V"⟩
abbrev b_E_init : ByteArray := prog_4_method_1_code
def y_E_init : MethodName := ⟨R_E, "<init>", "(LChordPoints$Equation;LChordPoints$Reckoner;LChordPoints$Divisors;)V"⟩
abbrev b_P_init : ByteArray := prog_7_method_1_code
def y_P_init : MethodName := ⟨R_P, "<init>", "()V"⟩
abbrev b_X_curve : ByteArray := prog_1_method_2_code
def y_X_curve : MethodName := ⟨R_X, "curve", "(IIIII)I"⟩
abbrev b_X_isCoefficient : ByteArray := prog_1_method_15_code
def y_X_isCoefficient : MethodName := ⟨R_X, "isCoefficient", "(I)Z"⟩
abbrev b_E_isSingular : ByteArray := prog_4_method_5_code
def y_E_isSingular : MethodName := ⟨R_E, "isSingular", "(JJJJJ)Z"⟩
abbrev b_Q_b2 : ByteArray := prog_5_method_3_code
def y_Q_b2 : MethodName := ⟨R_Q, "b2", "(JJ)J"⟩
abbrev b_R_multiply : ByteArray := prog_8_method_7_code
def y_R_multiply : MethodName := ⟨R_R, "multiply", "(LChordPoints$Num;LChordPoints$Num;LChordPoints$Num;)V"⟩
abbrev b_R_lose : ByteArray := prog_8_method_17_code
def y_R_lose : MethodName := ⟨R_R, "lose", "(LChordPoints$Num;)V"⟩
abbrev b_N_becomeZero : ByteArray := prog_6_method_2_code
def y_N_becomeZero : MethodName := ⟨R_N, "becomeZero", "()V"⟩
abbrev b_R_store : ByteArray := prog_8_method_16_code
def y_R_store : MethodName := ⟨R_R, "store", "([IIZLChordPoints$Num;)V"⟩
abbrev b_R_subtractProduct : ByteArray := prog_8_method_9_code
def y_R_subtractProduct : MethodName := ⟨R_R, "subtractProduct", "(LChordPoints$Num;LChordPoints$Num;LChordPoints$Num;)V"⟩
abbrev b_R_addSigned : ByteArray := prog_8_method_4_code
def y_R_addSigned : MethodName := ⟨R_R, "addSigned", "(LChordPoints$Num;LChordPoints$Num;ZLChordPoints$Num;)V"⟩
abbrev b_R_addSizes : ByteArray := prog_8_method_5_code
def y_R_addSizes : MethodName := ⟨R_R, "addSizes", "(LChordPoints$Num;LChordPoints$Num;LChordPoints$Num;)V"⟩
abbrev b_N_limb : ByteArray := prog_6_method_10_code
def y_N_limb : MethodName := ⟨R_N, "limb", "(I)I"⟩
abbrev b_N_settle : ByteArray := prog_6_method_5_code
def y_N_settle : MethodName := ⟨R_N, "settle", "(IZ)V"⟩
abbrev b_N_compareSize : ByteArray := prog_6_method_9_code
def y_N_compareSize : MethodName := ⟨R_N, "compareSize", "(LChordPoints$Num;)I"⟩
abbrev b_R_subtractSizes : ByteArray := prog_8_method_6_code
def y_R_subtractSizes : MethodName := ⟨R_R, "subtractSizes", "(LChordPoints$Num;LChordPoints$Num;ZLChordPoints$Num;)V"⟩
abbrev b_N_isZero : ByteArray := prog_6_method_7_code
def y_N_isZero : MethodName := ⟨R_N, "isZero", "()Z"⟩
abbrev b_P_becomeNone : ByteArray := prog_7_method_2_code
def y_P_becomeNone : MethodName := ⟨R_P, "becomeNone", "()V"⟩
abbrev b_X_none : ByteArray := prog_1_method_3_code
def y_X_none : MethodName := ⟨R_X, "none", "(I)Z"⟩
abbrev b_X_isSlot : ByteArray := prog_1_method_14_code
def y_X_isSlot : MethodName := ⟨R_X, "isSlot", "(I)Z"⟩
abbrev b_X_point : ByteArray := prog_1_method_4_code
def y_X_point : MethodName := ⟨R_X, "point", "(IJJJJ)I"⟩
abbrev b_E_read : ByteArray := prog_4_method_2_code
def y_E_read : MethodName := ⟨R_E, "read", "(JJJJLChordPoints$Point;)Z"⟩
abbrev b_E_takeLowestTerms : ByteArray := prog_4_method_3_code
def y_E_takeLowestTerms : MethodName := ⟨R_E, "takeLowestTerms", "(JJLChordPoints$Num;LChordPoints$Num;)V"⟩
abbrev b_D_common : ByteArray := prog_3_method_2_code
def y_D_common : MethodName := ⟨R_D, "common", "(LChordPoints$Num;LChordPoints$Num;LChordPoints$Num;)V"⟩
abbrev b_N_become_N : ByteArray := prog_6_method_4_code
def y_N_become_N : MethodName := ⟨R_N, "become", "(LChordPoints$Num;)V"⟩
abbrev b_D_shorten : ByteArray := prog_3_method_3_code
def y_D_shorten : MethodName := ⟨R_D, "shorten", "()V"⟩
abbrev b_R_divide : ByteArray := prog_8_method_10_code
def y_R_divide : MethodName := ⟨R_R, "divide", "(LChordPoints$Num;LChordPoints$Num;LChordPoints$Num;LChordPoints$Num;)V"⟩
abbrev b_R_scaleUp : ByteArray := prog_8_method_11_code
def y_R_scaleUp : MethodName := ⟨R_R, "scaleUp", "(LChordPoints$Num;I[I)I"⟩
abbrev b_R_guessLimb : ByteArray := prog_8_method_13_code
def y_R_guessLimb : MethodName := ⟨R_R, "guessLimb", "(II)J"⟩
abbrev b_R_takeMultiple : ByteArray := prog_8_method_14_code
def y_R_takeMultiple : MethodName := ⟨R_R, "takeMultiple", "(JII)I"⟩
abbrev b_R_giveBack : ByteArray := prog_8_method_15_code
def y_R_giveBack : MethodName := ⟨R_R, "giveBack", "(II)V"⟩
abbrev b_R_scaleDown : ByteArray := prog_8_method_12_code
def y_R_scaleDown : MethodName := ⟨R_R, "scaleDown", "(II)V"⟩
abbrev b_D_followLeadingDigits : ByteArray := prog_3_method_5_code
def y_D_followLeadingDigits : MethodName := ⟨R_D, "followLeadingDigits", "()Z"⟩
abbrev b_N_limbDigits : ByteArray := prog_6_method_14_code
def y_N_limbDigits : MethodName := ⟨R_N, "limbDigits", "(I)I"⟩
abbrev b_D_leading : ByteArray := prog_3_method_6_code
def y_D_leading : MethodName := ⟨R_D, "leading", "(LChordPoints$Num;II)J"⟩
abbrev b_D_mix : ByteArray := prog_3_method_7_code
def y_D_mix : MethodName := ⟨R_D, "mix", "()V"⟩
abbrev b_N_lowPart : ByteArray := prog_6_method_11_code
def y_N_lowPart : MethodName := ⟨R_N, "lowPart", "()J"⟩
abbrev b_D_commonOfLongs : ByteArray := prog_3_method_4_code
def y_D_commonOfLongs : MethodName := ⟨R_D, "commonOfLongs", "(JJ)J"⟩
abbrev b_N_changeSign : ByteArray := prog_6_method_6_code
def y_N_changeSign : MethodName := ⟨R_N, "changeSign", "()V"⟩
abbrev b_E_isOnCurve : ByteArray := prog_4_method_4_code
def y_E_isOnCurve : MethodName := ⟨R_E, "isOnCurve", "()Z"⟩
abbrev b_R_addProduct : ByteArray := prog_8_method_8_code
def y_R_addProduct : MethodName := ⟨R_R, "addProduct", "(LChordPoints$Num;LChordPoints$Num;LChordPoints$Num;)V"⟩
abbrev b_N_isLike : ByteArray := prog_6_method_8_code
def y_N_isLike : MethodName := ⟨R_N, "isLike", "(LChordPoints$Num;)Z"⟩
abbrev b_X_sum : ByteArray := prog_1_method_5_code
def y_X_sum : MethodName := ⟨R_X, "sum", "(III)I"⟩
abbrev b_C_join : ByteArray := prog_2_method_3_code
def y_C_join : MethodName := ⟨R_C, "join", "(LChordPoints$Point;LChordPoints$Point;LChordPoints$Point;)Z"⟩
abbrev b_P_become : ByteArray := prog_7_method_3_code
def y_P_become : MethodName := ⟨R_P, "become", "(LChordPoints$Point;)V"⟩
abbrev b_C_measureGap : ByteArray := prog_2_method_4_code
def y_C_measureGap : MethodName := ⟨R_C, "measureGap", "(LChordPoints$Point;LChordPoints$Point;)V"⟩
abbrev b_R_subtract : ByteArray := prog_8_method_3_code
def y_R_subtract : MethodName := ⟨R_R, "subtract", "(LChordPoints$Num;LChordPoints$Num;LChordPoints$Num;)V"⟩
abbrev b_C_gatherHeights : ByteArray := prog_2_method_5_code
def y_C_gatherHeights : MethodName := ⟨R_C, "gatherHeights", "(LChordPoints$Point;LChordPoints$Point;)V"⟩
abbrev b_R_add : ByteArray := prog_8_method_2_code
def y_R_add : MethodName := ⟨R_R, "add", "(LChordPoints$Num;LChordPoints$Num;LChordPoints$Num;)V"⟩
abbrev b_C_drawChord : ByteArray := prog_2_method_6_code
def y_C_drawChord : MethodName := ⟨R_C, "drawChord", "(LChordPoints$Point;LChordPoints$Point;)V"⟩
abbrev b_P_isLike : ByteArray := prog_7_method_4_code
def y_P_isLike : MethodName := ⟨R_P, "isLike", "(LChordPoints$Point;)Z"⟩
abbrev b_C_drawTangent : ByteArray := prog_2_method_7_code
def y_C_drawTangent : MethodName := ⟨R_C, "drawTangent", "(LChordPoints$Point;)V"⟩
abbrev b_C_findShare : ByteArray := prog_2_method_8_code
def y_C_findShare : MethodName := ⟨R_C, "findShare", "()V"⟩
abbrev b_D_root : ByteArray := prog_3_method_8_code
def y_D_root : MethodName := ⟨R_D, "root", "(LChordPoints$Num;LChordPoints$Num;)V"⟩
abbrev b_N_digitCount : ByteArray := prog_6_method_12_code
def y_N_digitCount : MethodName := ⟨R_N, "digitCount", "()I"⟩
abbrev b_D_powerOfTen : ByteArray := prog_3_method_9_code
def y_D_powerOfTen : MethodName := ⟨R_D, "powerOfTen", "(ILChordPoints$Num;)V"⟩
abbrev b_C_placeX : ByteArray := prog_2_method_9_code
def y_C_placeX : MethodName := ⟨R_C, "placeX", "(LChordPoints$Point;)Z"⟩
abbrev b_C_placeY : ByteArray := prog_2_method_10_code
def y_C_placeY : MethodName := ⟨R_C, "placeY", "(LChordPoints$Point;LChordPoints$Point;LChordPoints$Point;)V"⟩
abbrev b_C_turnOver : ByteArray := prog_2_method_2_code
def y_C_turnOver : MethodName := ⟨R_C, "turnOver", "(LChordPoints$Point;)V"⟩
abbrev b_X_keep : ByteArray := prog_1_method_17_code
def y_X_keep : MethodName := ⟨R_X, "keep", "(LChordPoints$Point;I)I"⟩
abbrev b_P_isLongerThan : ByteArray := prog_7_method_7_code
def y_P_isLongerThan : MethodName := ⟨R_P, "isLongerThan", "(I)Z"⟩
abbrev b_P_isWiderThan : ByteArray := prog_7_method_6_code
def y_P_isWiderThan : MethodName := ⟨R_P, "isWiderThan", "(I)Z"⟩
abbrev b_X_less : ByteArray := prog_1_method_6_code
def y_X_less : MethodName := ⟨R_X, "less", "(III)I"⟩
abbrev b_X_times : ByteArray := prog_1_method_7_code
def y_X_times : MethodName := ⟨R_X, "times", "(III)I"⟩
abbrev b_X_order : ByteArray := prog_1_method_8_code
def y_X_order : MethodName := ⟨R_X, "order", "(I)I"⟩
abbrev b_X_isNone : ByteArray := prog_1_method_9_code
def y_X_isNone : MethodName := ⟨R_X, "isNone", "(I)Z"⟩
abbrev b_X_same : ByteArray := prog_1_method_10_code
def y_X_same : MethodName := ⟨R_X, "same", "(II)Z"⟩
abbrev b_X_digits : ByteArray := prog_1_method_11_code
def y_X_digits : MethodName := ⟨R_X, "digits", "(II)I"⟩
abbrev b_X_hasNumber : ByteArray := prog_1_method_16_code
def y_X_hasNumber : MethodName := ⟨R_X, "hasNumber", "(II)Z"⟩
abbrev b_P_number : ByteArray := prog_7_method_5_code
def y_P_number : MethodName := ⟨R_P, "number", "(I)LChordPoints$Num;"⟩
abbrev b_X_digitAt : ByteArray := prog_1_method_12_code
def y_X_digitAt : MethodName := ⟨R_X, "digitAt", "(III)I"⟩
abbrev b_N_digitAbove : ByteArray := prog_6_method_13_code
def y_N_digitAbove : MethodName := ⟨R_N, "digitAbove", "(I)I"⟩
abbrev b_X_sign : ByteArray := prog_1_method_13_code
def y_X_sign : MethodName := ⟨R_X, "sign", "(II)I"⟩
abbrev b_M_init : ByteArray := prog_10_method_1_code
def y_M_init : MethodName := ⟨R_M, "<init>", "()V"⟩
abbrev b_M_forget : ByteArray := prog_10_method_3_code
def y_M_forget : MethodName := ⟨R_M, "forget", "()V"⟩
abbrev b_M_set : ByteArray := prog_10_method_4_code
def y_M_set : MethodName := ⟨R_M, "set", "(IJ)V"⟩
abbrev b_M_curve : ByteArray := prog_10_method_20_code
def y_M_curve : MethodName := ⟨R_M, "curve", "(IIIII)I"⟩
abbrev b_M_isIn : ByteArray := prog_10_method_21_code
def y_M_isIn : MethodName := ⟨R_M, "isIn", "(I)Z"⟩
abbrev b_M_product : ByteArray := prog_10_method_22_code
def y_M_product : MethodName := ⟨R_M, "product", "(IJJJJ)V"⟩
abbrev b_M_multiply : ByteArray := prog_10_method_12_code
def y_M_multiply : MethodName := ⟨R_M, "multiply", "(III)V"⟩
abbrev b_M_trim : ByteArray := prog_10_method_6_code
def y_M_trim : MethodName := ⟨R_M, "trim", "(II)V"⟩
abbrev b_M_add : ByteArray := prog_10_method_9_code
def y_M_add : MethodName := ⟨R_M, "add", "(IIII)V"⟩
abbrev b_M_copy : ByteArray := prog_10_method_5_code
def y_M_copy : MethodName := ⟨R_M, "copy", "(II)V"⟩
abbrev b_M_addSizes : ByteArray := prog_10_method_10_code
def y_M_addSizes : MethodName := ⟨R_M, "addSizes", "(III)V"⟩
abbrev b_M_compare : ByteArray := prog_10_method_7_code
def y_M_compare : MethodName := ⟨R_M, "compare", "(II)I"⟩
abbrev b_M_takeSizes : ByteArray := prog_10_method_11_code
def y_M_takeSizes : MethodName := ⟨R_M, "takeSizes", "(IIII)V"⟩
abbrev b_M_none : ByteArray := prog_10_method_25_code
def y_M_none : MethodName := ⟨R_M, "none", "(I)Z"⟩
abbrev b_M_isSlot : ByteArray := prog_10_method_23_code
def y_M_isSlot : MethodName := ⟨R_M, "isSlot", "(I)Z"⟩
abbrev b_M_point : ByteArray := prog_10_method_27_code
def y_M_point : MethodName := ⟨R_M, "point", "(IJJJJ)I"⟩
abbrev b_M_fraction : ByteArray := prog_10_method_28_code
def y_M_fraction : MethodName := ⟨R_M, "fraction", "(IIJJ)V"⟩
abbrev b_M_common : ByteArray := prog_10_method_17_code
def y_M_common : MethodName := ⟨R_M, "common", "(II)V"⟩
abbrev b_M_divide : ByteArray := prog_10_method_15_code
def y_M_divide : MethodName := ⟨R_M, "divide", "(III)V"⟩
abbrev b_M_timesSmall : ByteArray := prog_10_method_13_code
def y_M_timesSmall : MethodName := ⟨R_M, "timesSmall", "(IJ)V"⟩
abbrev b_M_place : ByteArray := prog_10_method_16_code
def y_M_place : MethodName := ⟨R_M, "place", "(IIII)I"⟩
abbrev b_M_bySmall : ByteArray := prog_10_method_14_code
def y_M_bySmall : MethodName := ⟨R_M, "bySmall", "(II)V"⟩
abbrev b_M_share : ByteArray := prog_10_method_18_code
def y_M_share : MethodName := ⟨R_M, "share", "(III)V"⟩
abbrev b_M_more : ByteArray := prog_10_method_26_code
def y_M_more : MethodName := ⟨R_M, "more", "(IIII)V"⟩
abbrev b_M_isSame : ByteArray := prog_10_method_8_code
def y_M_isSame : MethodName := ⟨R_M, "isSame", "(II)Z"⟩
abbrev b_M_move : ByteArray := prog_10_method_24_code
def y_M_move : MethodName := ⟨R_M, "move", "(II)V"⟩
abbrev b_M_sum : ByteArray := prog_10_method_36_code
def y_M_sum : MethodName := ⟨R_M, "sum", "(III)I"⟩
abbrev b_M_join : ByteArray := prog_10_method_29_code
def y_M_join : MethodName := ⟨R_M, "join", "()V"⟩
abbrev b_M_isOther : ByteArray := prog_10_method_30_code
def y_M_isOther : MethodName := ⟨R_M, "isOther", "()Z"⟩
abbrev b_M_touch : ByteArray := prog_10_method_31_code
def y_M_touch : MethodName := ⟨R_M, "touch", "()V"⟩
abbrev b_M_finish : ByteArray := prog_10_method_32_code
def y_M_finish : MethodName := ⟨R_M, "finish", "()V"⟩
abbrev b_M_settle : ByteArray := prog_10_method_35_code
def y_M_settle : MethodName := ⟨R_M, "settle", "(I)I"⟩
abbrev b_M_isTooLong : ByteArray := prog_10_method_34_code
def y_M_isTooLong : MethodName := ⟨R_M, "isTooLong", "(I)Z"⟩
abbrev b_M_digitsOf : ByteArray := prog_10_method_19_code
def y_M_digitsOf : MethodName := ⟨R_M, "digitsOf", "(I)I"⟩
abbrev b_M_less : ByteArray := prog_10_method_37_code
def y_M_less : MethodName := ⟨R_M, "less", "(III)I"⟩
abbrev b_M_turn : ByteArray := prog_10_method_33_code
def y_M_turn : MethodName := ⟨R_M, "turn", "(I)V"⟩
abbrev b_M_times : ByteArray := prog_10_method_39_code
def y_M_times : MethodName := ⟨R_M, "times", "(III)I"⟩
abbrev b_M_isFar : ByteArray := prog_10_method_38_code
def y_M_isFar : MethodName := ⟨R_M, "isFar", "()Z"⟩
abbrev b_M_order : ByteArray := prog_10_method_40_code
def y_M_order : MethodName := ⟨R_M, "order", "(I)I"⟩
abbrev b_M_isNone : ByteArray := prog_10_method_41_code
def y_M_isNone : MethodName := ⟨R_M, "isNone", "(I)Z"⟩
abbrev b_M_same : ByteArray := prog_10_method_42_code
def y_M_same : MethodName := ⟨R_M, "same", "(II)Z"⟩
abbrev b_M_digits : ByteArray := prog_10_method_44_code
def y_M_digits : MethodName := ⟨R_M, "digits", "(II)I"⟩
abbrev b_M_take : ByteArray := prog_10_method_43_code
def y_M_take : MethodName := ⟨R_M, "take", "(II)Z"⟩
abbrev b_M_digitAt : ByteArray := prog_10_method_45_code
def y_M_digitAt : MethodName := ⟨R_M, "digitAt", "(III)I"⟩
abbrev b_M_sign : ByteArray := prog_10_method_46_code
def y_M_sign : MethodName := ⟨R_M, "sign", "(II)I"⟩
end
section
/-! THE Z LAYER: the heap as a function on addresses, from the cell b0 on; one world for all methods; a row an instruction, with everything fixed hidden in zC -/
abbrev zH : Type := Nat × (Nat → va_E)
def z_L (b0 sz : Nat) : List Nat := List.range' b0 (sz - b0)
theorem z_mem {b0 sz a : Nat} : a ∈ z_L b0 sz ↔ b0 ≤ a ∧ a < sz := by
  simp only [z_L, List.mem_range'_1]; omega
abbrev z_A (b0 : Nat) : Nat → Prop := fun q => b0 ≤ q
abbrev z_W (b0 : Nat) (h : zH) : va_W := va_pl (z_L b0 h.1) h.2
theorem z_Wget {b0 : Nat} {h : zH} {a : Nat} (h1 : b0 ≤ a) (h2 : a < h.1) : (z_W b0 h)[a - b0]? = some (a, h.2 a) := by
  have hlt : a - b0 < h.1 - b0 := by omega
  simp only [z_W, va_pl, z_L, List.getElem?_map, List.getElem?_range' hlt, Option.map_some, Nat.one_mul, show b0 + (a - b0) = a by omega]
theorem z_Wat {b0 : Nat} {h : zH} {i : Nat} {q : Nat × va_E} (hq : (z_W b0 h)[i]? = some q) : q = (b0 + i, h.2 (b0 + i)) ∧ b0 + i < h.1 := by
  simp only [z_W, va_pl, z_L, List.getElem?_map, Option.map_eq_some_iff] at hq
  obtain ⟨a, ha, rfl⟩ := hq
  have hlt : i < h.1 - b0 := by simpa using (List.getElem?_eq_some_iff.mp ha).1
  rw [List.getElem?_range' hlt] at ha
  have := Option.some.inj ha
  simp only [Nat.one_mul] at this
  subst this
  exact ⟨rfl, by omega⟩
theorem z_D (b0 : Nat) (h : zH) : va_D (z_A b0) (z_W b0 h) := by
  refine ⟨fun i j p q hp hq he => ?_, fun k q hq => ?_⟩
  · have h1 := (z_Wat hp).1
    have h2 := (z_Wat hq).1
    rw [h1, h2] at he
    simp only at he
    omega
  · rw [(z_Wat hq).1]
    show b0 ≤ b0 + k
    omega
theorem z_Wset {b0 : Nat} {h : zH} {a : Nat} {v : va_E} (h1 : b0 ≤ a) (h2 : a < h.1) : (z_W b0 h).set (a - b0) (a, v) = z_W b0 (h.1, va_up h.2 a v) := by
  have e := va_pl_set (A := z_A b0) (X := []) (L := z_L b0 h.1) (f := h.2) (a := a) (k := a - b0) (e := v) (z_D b0 h) (z_mem.mpr ⟨h1, h2⟩) (z_Wget h1 h2)
  exact e
theorem z_Wpush {b0 : Nat} {h : zH} {v : va_E} (h1 : b0 ≤ h.1) : z_W b0 h ++ [(h.1, v)] = z_W b0 (h.1 + 1, va_up h.2 h.1 v) := by
  have e := va_pl_push (L := z_L b0 h.1) (f := h.2) (a := h.1) (e := v) (fun q => by have := (z_mem.mp q).2; omega)
  show va_pl (z_L b0 h.1) h.2 ++ [(h.1, v)] = va_pl (z_L b0 (h.1 + 1)) (va_up h.2 h.1 v)
  rw [e]
  congr 1
  simp only [z_L]
  rw [show h.1 + 1 - b0 = (h.1 - b0) + 1 by omega, List.range'_concat]
  simp only [Nat.one_mul, show b0 + (h.1 - b0) = h.1 by omega]
/-- what is not there: no class has this number -/
def z_junk : va_E := .inr (4294967295, [])
def z_wf (b0 : Nat) (h : zH) : Prop := b0 ≤ h.1 ∧ ∀ a : Nat, a < b0 ∨ h.1 ≤ a → h.2 a = z_junk
theorem z_in {b0 : Nat} {h : zH} {a ci : Nat} {fs : List Value} (hw : z_wf b0 h) (hf : h.2 a = .inr (ci, fs)) (hc : ci < 4294967295) : b0 ≤ a ∧ a < h.1 := by
  by_cases h1 : a < b0 ∨ h.1 ≤ a
  · rw [hw.2 a h1, z_junk] at hf
    cases hf
    omega
  · omega
theorem z_inl {b0 : Nat} {h : zH} {a : Nat} {x : ClassId × vp_A} (hw : z_wf b0 h) (hf : h.2 a = .inl x) : b0 ≤ a ∧ a < h.1 := by
  by_cases h1 : a < b0 ∨ h.1 ≤ a
  · rw [hw.2 a h1, z_junk] at hf
    cases hf
  · omega
theorem z_wf_up {b0 : Nat} {h : zH} {a : Nat} {v : va_E} (hw : z_wf b0 h) (h1 : b0 ≤ a) (h2 : a < h.1) : z_wf b0 (h.1, va_up h.2 a v) :=
  ⟨hw.1, fun q hq => by
    show va_up h.2 a v q = z_junk
    rw [va_up_ne _ _ (by have : q < b0 ∨ h.1 ≤ q := hq; omega)]
    exact hw.2 q hq⟩
theorem z_wf_push {b0 : Nat} {h : zH} {v : va_E} (hw : z_wf b0 h) : z_wf b0 (h.1 + 1, va_up h.2 h.1 v) :=
  ⟨Nat.le_succ_of_le hw.1, fun q hq => by
    show va_up h.2 h.1 v q = z_junk
    have hq2 : q < b0 ∨ h.1 + 1 ≤ q := hq
    have := hw.1
    rw [va_up_ne _ _ (by omega)]
    exact hw.2 q (by omega)⟩
-- the locals by their numbers
def zl : List (Nat × Value) → Nat → Option Value
  | [], _ => none
  | (j, v) :: t, i => bif Nat.beq j i then some v else zl t i
theorem zl_mem {lv : List (Nat × Value)} {i : Nat} {v : Value} (h : zl lv i = some v) : (i, v) ∈ lv := by
  induction lv with
  | nil => cases h
  | cons q t ih =>
    obtain ⟨j, w⟩ := q
    simp only [zl] at h
    cases hb : Nat.beq j i with
    | true =>
      rw [hb] at h
      have e : j = i := Nat.eq_of_beq_eq_true hb
      cases h
      subst e
      exact List.mem_cons_self
    | false =>
      rw [hb] at h
      exact List.mem_cons_of_mem _ (ih h)
theorem zl_get {lv : List (Nat × Value)} {i : Nat} {v : Value} (h : zl lv i = some v) : ∃ k : Nat, lv[k]? = some (i, v) := List.getElem?_of_mem (zl_mem h)
theorem zl_at {ls : Array Slot} {nL : Nat} {lv : List (Nat × Value)} {i : Nat} {v : Value} (h : lv_has ls nL lv) (hl : zl lv i = some v) : ls[i]? = some (.val v) := h.2.2 (i, v) (zl_mem hl)
def zs1 (i : Nat) (v : Value) (lv : List (Nat × Value)) : List (Nat × Value) := (i, v) :: lv.filter (fun q => !(q.1 == i) && !(q.1 + 1 == i && q.2.category == 2))
def zs2 (i : Nat) (v : Value) (lv : List (Nat × Value)) : List (Nat × Value) := (i, v) :: lv.filter (fun q => !(q.1 == i) && (!(q.1 == i + 1) && !(q.1 + 1 == i && q.2.category == 2)))
def zpick (lv : List (Nat × Value)) : List Nat → List (Nat × Value)
  | [] => []
  | i :: t => match zl lv i with
    | some v => (i, v) :: zpick lv t
    | none => zpick lv t
theorem zpick_mem {lv : List (Nat × Value)} : ∀ {is : List Nat} {q : Nat × Value}, q ∈ zpick lv is → q ∈ lv
  | [], _, h => by cases h
  | i :: t, q, h => by
    simp only [zpick] at h
    cases hz : zl lv i with
    | none => rw [hz] at h; exact zpick_mem h
    | some v =>
      rw [hz] at h
      rcases List.mem_cons.mp h with rfl | h
      · exact zl_mem hz
      · exact zpick_mem h
theorem zl_sub {ls : Array Slot} {nL : Nat} {lv lv' : List (Nat × Value)} (h : lv_has ls nL lv) (is : List Nat) (hl : zpick lv is = lv') : lv_has ls nL lv' :=
  ⟨h.1, h.2.1, fun q hq => h.2.2 q (zpick_mem (is := is) (hl ▸ hq))⟩
abbrev zG : Type := va_G × (Nat → ClassId)
abbrev zTys (G : zG) : List (ClassId × FieldType) := zTysOf G.2
/-- the tables' words that a callee keeps -/
def zTb : List Cond := lw_tbl.filter goodWord
theorem zTb_good : GoodIn zTb zTb := fun w hw => ⟨hw, good_of_word (List.mem_filter.mp hw).2⟩
theorem zTb_tbl {w : Cond} (h : w ∈ zTb) : w ∈ lw_tbl := (List.mem_filter.mp h).1
def zNk : Cond → Bool
  | .fieldLinkNest .. => true
  | .methodLinkNest .. => true
  | _ => false
/-- the words of nest mates -/
def zN : List Cond := lw_tbl.filter zNk
theorem zN_on {w : Cond} (h : w ∈ zN) : w.onTables = true := by
  have h2 := (List.mem_filter.mp h).2
  cases w <;> first | rfl | (simp [zNk] at h2; done)
theorem zN_warm {w : Cond} (h : w ∈ zN) {s U : State} (hW : s.WarmedH U.vm) (hZ : va_Nw w s) : va_Nw w U := by
  have h2 := (List.mem_filter.mp h).2
  cases w <;> first | exact va_Nw.warmF hW hZ | exact va_Nw.warmM hW hZ | (simp [zNk] at h2; done)
def zC (p : Program) (s : State) (m : MethodId) (args : Array Value) (c : Code) (cc : ByteArray) (own : String) (nL b0 : Nat) (G : zG) : Prop :=
  p.tables.exec = Jvm.exec ∧ c.code = cc ∧ c.maxLocals = nL ∧ s.vm.findClass own = some m.cls ∧ (∀ w ∈ zTb, w.before args s = true) ∧ va_K G.1 vwCl (zTys G) s ∧ (∀ w ∈ zN, va_Nw w s) ∧ zT (z_A b0) s s.heap ∧ b0 ≤ s.heap.size
def zW (p : Program) (l : Launch) (e : Env) (R : Room) (s : State) (m : MethodId) (args : Array Value) (below : List Frame) (meth : Method) (c : Code) (nL b0 : Nat) (G : zG) (k n : Nat) (Q : State → Prop) (h : zH) (pc : Nat) (lv : List (Nat × Value)) (st : List Value) : Prop :=
  ∀ (H : Heap) (locs : List Loc) (ls : Array Slot), z_wf b0 h → H.size = h.1 → va_P G.1 vwCl (z_W b0 h) H → va_S (z_A b0) s.heap H locs → lv_has ls nL lv → W p l e R s m args below meth c H locs k n Q (F0 m pc ls st)
/-- what is known of a class of the world -/
def zCl (ci : Nat) (C : String) (T : u_T) (N : Nat) (ty : Nat → FieldType) : Prop :=
  vwCl[ci]? = some (C, T, N) ∧ ci < 4294967295 ∧ (∀ w ∈ u_ws C T N, w ∈ zTb) ∧ (∀ k, k < N → parseFieldDescriptor (T k).2.2.1 = some (ty k)) ∧ (∀ a, a < N → ∀ b, b < N → a ≠ b → (T a).2.1 ≠ (T b).2.1)
/-- field number k of class ci, as the class 'own' names it at 'index' -/
def zFd (own : String) (index ci k : Nat) (fty : FieldType) (fin : Bool) : Prop :=
  ∃ (C : String) (T : u_T) (N : Nat) (ty : Nat → FieldType), zCl ci C T N ty ∧ k < N ∧ ty k = fty ∧ (T k).2.2.2 = fin ∧
    (Cond.fieldLink own index (T k).1 (T k).2.1 (T k).2.2.1 ∈ zTb ∨ ∃ host, Cond.fieldLinkNest own index (T k).1 (T k).2.1 (T k).2.2.1 host ∈ zN)
/-- the same, of a final field in its class's own constructor -/
def zFf (own : String) (index ci k : Nat) (fty : FieldType) : Prop :=
  ∃ (C : String) (T : u_T) (N : Nat) (ty : Nat → FieldType), zCl ci C T N ty ∧ k < N ∧ ty k = fty ∧ (T k).2.2.2 = true ∧ (T k).1 = own ∧ Cond.fieldLink own index (T k).1 (T k).2.1 (T k).2.2.1 ∈ zTb
section ZL
variable {p : Program} {l : Launch} {e : Env} {R : Room} {s : State} {m : MethodId} {args : Array Value} {below : List Frame} {meth : Method} {c : Code} {Q : State → Prop}
variable {cc : ByteArray} {own : String} {nL b0 pc k n : Nat} {G : zG} {h : zH} {lv : List (Nat × Value)} {st : List Value}
theorem z_iconst (K : zC p s m args c cc own nL b0 G) {a : Int} {v : Int32} (hd : decode cc pc = .ok (.iconst a, 1)) (hv : Int32.ofInt a = v) (kk : zW p l e R s m args below meth c nL b0 G k n Q h (pc + 1) lv (.int v :: st)) : zW p l e R s m args below meth c nL b0 G k n Q h pc lv (st) :=
  fun H locs ls h0 h1 h2 h3 h4 => lv_iconst K.1 K.2.1 hd hv (kk H locs ls h0 h1 h2 h3 h4)
theorem z_bipush (K : zC p s m args c cc own nL b0 G) {a : Int} {v : Int32} (hd : decode cc pc = .ok (.bipush a, 2)) (hv : (Int8.ofInt a).toInt32 = v) (kk : zW p l e R s m args below meth c nL b0 G k n Q h (pc + 2) lv (.int v :: st)) : zW p l e R s m args below meth c nL b0 G k n Q h pc lv (st) :=
  fun H locs ls h0 h1 h2 h3 h4 => lv_bipush K.1 K.2.1 hd hv (kk H locs ls h0 h1 h2 h3 h4)
theorem z_sipush (K : zC p s m args c cc own nL b0 G) {a : Int} {v : Int32} (hd : decode cc pc = .ok (.sipush a, 3)) (hv : (Int16.ofInt a).toInt32 = v) (kk : zW p l e R s m args below meth c nL b0 G k n Q h (pc + 3) lv (.int v :: st)) : zW p l e R s m args below meth c nL b0 G k n Q h pc lv (st) :=
  fun H locs ls h0 h1 h2 h3 h4 => lv_sipush K.1 K.2.1 hd hv (kk H locs ls h0 h1 h2 h3 h4)
theorem z_lconst (K : zC p s m args c cc own nL b0 G) {a : Fin 2} {v : Int64} (hd : decode cc pc = .ok (.lconst a, 1)) (hv : Int64.ofNat (a : Nat) = v) (kk : zW p l e R s m args below meth c nL b0 G k n Q h (pc + 1) lv (.long v :: st)) : zW p l e R s m args below meth c nL b0 G k n Q h pc lv (st) :=
  fun H locs ls h0 h1 h2 h3 h4 => lv_lconst K.1 K.2.1 hd hv (kk H locs ls h0 h1 h2 h3 h4)
theorem z_null (K : zC p s m args c cc own nL b0 G)  (hd : decode cc pc = .ok (.aconst_null, 1))  (kk : zW p l e R s m args below meth c nL b0 G k n Q h (pc + 1) lv (.null :: st)) : zW p l e R s m args below meth c nL b0 G k n Q h pc lv (st) :=
  fun H locs ls h0 h1 h2 h3 h4 => lv_null K.1 K.2.1 hd  (kk H locs ls h0 h1 h2 h3 h4)
theorem z_iload_n (K : zC p s m args c cc own nL b0 G) {a : Fin 4} {x : Int32} (hd : decode cc pc = .ok (.iload_n a, 1)) (hl : zl lv a = some (.int x)) (kk : zW p l e R s m args below meth c nL b0 G k n Q h (pc + 1) lv (.int x :: st)) : zW p l e R s m args below meth c nL b0 G k n Q h pc lv st :=
  fun H locs ls h0 h1 h2 h3 h4 => lv_iload_n K.1 K.2.1 hd rfl (zl_at h4 hl) (kk H locs ls h0 h1 h2 h3 h4)
theorem z_iload (K : zC p s m args c cc own nL b0 G) {a : Nat} {x : Int32} (hd : decode cc pc = .ok (.iload a, 2)) (hl : zl lv a = some (.int x)) (kk : zW p l e R s m args below meth c nL b0 G k n Q h (pc + 2) lv (.int x :: st)) : zW p l e R s m args below meth c nL b0 G k n Q h pc lv st :=
  fun H locs ls h0 h1 h2 h3 h4 => lv_iload K.1 K.2.1 hd (zl_at h4 hl) (kk H locs ls h0 h1 h2 h3 h4)
theorem z_istore_n (K : zC p s m args c cc own nL b0 G) {a : Fin 4} {x : Int32} (hd : decode cc pc = .ok (.istore_n a, 1)) (hn : (a : Nat) < nL) (kk : zW p l e R s m args below meth c nL b0 G k n Q h (pc + 1) (zs1 a (.int x) lv) st) : zW p l e R s m args below meth c nL b0 G k n Q h pc lv (.int x :: st) :=
  fun H locs ls h0 h1 h2 h3 h4 => lv_istore_n K.1 K.2.1 hd rfl h4 hn rfl (fun ls' h4' => kk H locs ls' h0 h1 h2 h3 h4')
theorem z_istore (K : zC p s m args c cc own nL b0 G) {a : Nat} {x : Int32} (hd : decode cc pc = .ok (.istore a, 2)) (hn : a < nL) (kk : zW p l e R s m args below meth c nL b0 G k n Q h (pc + 2) (zs1 a (.int x) lv) st) : zW p l e R s m args below meth c nL b0 G k n Q h pc lv (.int x :: st) :=
  fun H locs ls h0 h1 h2 h3 h4 => lv_istore K.1 K.2.1 hd h4 hn rfl (fun ls' h4' => kk H locs ls' h0 h1 h2 h3 h4')
theorem z_lload_n (K : zC p s m args c cc own nL b0 G) {a : Fin 4} {x : Int64} (hd : decode cc pc = .ok (.lload_n a, 1)) (hl : zl lv a = some (.long x)) (kk : zW p l e R s m args below meth c nL b0 G k n Q h (pc + 1) lv (.long x :: st)) : zW p l e R s m args below meth c nL b0 G k n Q h pc lv st :=
  fun H locs ls h0 h1 h2 h3 h4 => lv_lload_n K.1 K.2.1 hd rfl (zl_at h4 hl) (kk H locs ls h0 h1 h2 h3 h4)
theorem z_lload (K : zC p s m args c cc own nL b0 G) {a : Nat} {x : Int64} (hd : decode cc pc = .ok (.lload a, 2)) (hl : zl lv a = some (.long x)) (kk : zW p l e R s m args below meth c nL b0 G k n Q h (pc + 2) lv (.long x :: st)) : zW p l e R s m args below meth c nL b0 G k n Q h pc lv st :=
  fun H locs ls h0 h1 h2 h3 h4 => lv_lload K.1 K.2.1 hd (zl_at h4 hl) (kk H locs ls h0 h1 h2 h3 h4)
theorem z_lstore_n (K : zC p s m args c cc own nL b0 G) {a : Fin 4} {x : Int64} (hd : decode cc pc = .ok (.lstore_n a, 1)) (hn : (a : Nat) + 1 < nL) (kk : zW p l e R s m args below meth c nL b0 G k n Q h (pc + 1) (zs2 a (.long x) lv) st) : zW p l e R s m args below meth c nL b0 G k n Q h pc lv (.long x :: st) :=
  fun H locs ls h0 h1 h2 h3 h4 => lv_lstore_n K.1 K.2.1 hd rfl h4 hn rfl (fun ls' h4' => kk H locs ls' h0 h1 h2 h3 h4')
theorem z_lstore (K : zC p s m args c cc own nL b0 G) {a : Nat} {x : Int64} (hd : decode cc pc = .ok (.lstore a, 2)) (hn : a + 1 < nL) (kk : zW p l e R s m args below meth c nL b0 G k n Q h (pc + 2) (zs2 a (.long x) lv) st) : zW p l e R s m args below meth c nL b0 G k n Q h pc lv (.long x :: st) :=
  fun H locs ls h0 h1 h2 h3 h4 => lv_lstore K.1 K.2.1 hd h4 hn rfl (fun ls' h4' => kk H locs ls' h0 h1 h2 h3 h4')
theorem z_aload_n (K : zC p s m args c cc own nL b0 G) {a : Fin 4} {x : Nat} (hd : decode cc pc = .ok (.aload_n a, 1)) (hl : zl lv a = some (.ref x)) (kk : zW p l e R s m args below meth c nL b0 G k n Q h (pc + 1) lv (.ref x :: st)) : zW p l e R s m args below meth c nL b0 G k n Q h pc lv st :=
  fun H locs ls h0 h1 h2 h3 h4 => lv_aload_n K.1 K.2.1 hd rfl (zl_at h4 hl) (kk H locs ls h0 h1 h2 h3 h4)
theorem z_aload (K : zC p s m args c cc own nL b0 G) {a : Nat} {x : Nat} (hd : decode cc pc = .ok (.aload a, 2)) (hl : zl lv a = some (.ref x)) (kk : zW p l e R s m args below meth c nL b0 G k n Q h (pc + 2) lv (.ref x :: st)) : zW p l e R s m args below meth c nL b0 G k n Q h pc lv st :=
  fun H locs ls h0 h1 h2 h3 h4 => lv_aload K.1 K.2.1 hd (zl_at h4 hl) (kk H locs ls h0 h1 h2 h3 h4)
theorem z_astore_n (K : zC p s m args c cc own nL b0 G) {a : Fin 4} {x : Nat} (hd : decode cc pc = .ok (.astore_n a, 1)) (hn : (a : Nat) < nL) (kk : zW p l e R s m args below meth c nL b0 G k n Q h (pc + 1) (zs1 a (.ref x) lv) st) : zW p l e R s m args below meth c nL b0 G k n Q h pc lv (.ref x :: st) :=
  fun H locs ls h0 h1 h2 h3 h4 => lv_astore_n K.1 K.2.1 hd rfl h4 hn rfl (fun ls' h4' => kk H locs ls' h0 h1 h2 h3 h4')
theorem z_astore (K : zC p s m args c cc own nL b0 G) {a : Nat} {x : Nat} (hd : decode cc pc = .ok (.astore a, 2)) (hn : a < nL) (kk : zW p l e R s m args below meth c nL b0 G k n Q h (pc + 2) (zs1 a (.ref x) lv) st) : zW p l e R s m args below meth c nL b0 G k n Q h pc lv (.ref x :: st) :=
  fun H locs ls h0 h1 h2 h3 h4 => lv_astore K.1 K.2.1 hd h4 hn rfl (fun ls' h4' => kk H locs ls' h0 h1 h2 h3 h4')
theorem z_iinc (K : zC p s m args c cc own nL b0 G) {a : Nat} {j : Int} {x : Int32} (hd : decode cc pc = .ok (.iinc a j, 3)) (hl : zl lv a = some (.int x)) (hn : a < nL) (kk : zW p l e R s m args below meth c nL b0 G k n Q h (pc + 3) (zs1 a (.int (x + Int32.ofInt j)) lv) st) : zW p l e R s m args below meth c nL b0 G k n Q h pc lv st :=
  fun H locs ls h0 h1 h2 h3 h4 => by
    obtain ⟨q, hq⟩ := zl_get hl
    exact lv_iinc K.1 K.2.1 hd h4 hq rfl hn rfl (fun ls' h4' => kk H locs ls' h0 h1 h2 h3 h4')
theorem z_iadd (K : zC p s m args c cc own nL b0 G) {x y : Int32} (hd : decode cc pc = .ok (.iadd, 1))  (kk : zW p l e R s m args below meth c nL b0 G k n Q h (pc + 1) lv (.int (x + y) :: st)) : zW p l e R s m args below meth c nL b0 G k n Q h pc lv (.int y :: .int x :: st) :=
  fun H locs ls h0 h1 h2 h3 h4 => lv_iadd K.1 K.2.1 hd  (kk H locs ls h0 h1 h2 h3 h4)
theorem z_isub (K : zC p s m args c cc own nL b0 G) {x y : Int32} (hd : decode cc pc = .ok (.isub, 1))  (kk : zW p l e R s m args below meth c nL b0 G k n Q h (pc + 1) lv (.int (x - y) :: st)) : zW p l e R s m args below meth c nL b0 G k n Q h pc lv (.int y :: .int x :: st) :=
  fun H locs ls h0 h1 h2 h3 h4 => lv_isub K.1 K.2.1 hd  (kk H locs ls h0 h1 h2 h3 h4)
theorem z_imul (K : zC p s m args c cc own nL b0 G) {x y : Int32} (hd : decode cc pc = .ok (.imul, 1))  (kk : zW p l e R s m args below meth c nL b0 G k n Q h (pc + 1) lv (.int (x * y) :: st)) : zW p l e R s m args below meth c nL b0 G k n Q h pc lv (.int y :: .int x :: st) :=
  fun H locs ls h0 h1 h2 h3 h4 => lv_imul K.1 K.2.1 hd  (kk H locs ls h0 h1 h2 h3 h4)
theorem z_iand (K : zC p s m args c cc own nL b0 G) {x y : Int32} (hd : decode cc pc = .ok (.iand, 1))  (kk : zW p l e R s m args below meth c nL b0 G k n Q h (pc + 1) lv (.int (x &&& y) :: st)) : zW p l e R s m args below meth c nL b0 G k n Q h pc lv (.int y :: .int x :: st) :=
  fun H locs ls h0 h1 h2 h3 h4 => lv_iand K.1 K.2.1 hd  (kk H locs ls h0 h1 h2 h3 h4)
theorem z_ior (K : zC p s m args c cc own nL b0 G) {x y : Int32} (hd : decode cc pc = .ok (.ior, 1))  (kk : zW p l e R s m args below meth c nL b0 G k n Q h (pc + 1) lv (.int (x ||| y) :: st)) : zW p l e R s m args below meth c nL b0 G k n Q h pc lv (.int y :: .int x :: st) :=
  fun H locs ls h0 h1 h2 h3 h4 => lv_ior K.1 K.2.1 hd  (kk H locs ls h0 h1 h2 h3 h4)
theorem z_ixor (K : zC p s m args c cc own nL b0 G) {x y : Int32} (hd : decode cc pc = .ok (.ixor, 1))  (kk : zW p l e R s m args below meth c nL b0 G k n Q h (pc + 1) lv (.int (x ^^^ y) :: st)) : zW p l e R s m args below meth c nL b0 G k n Q h pc lv (.int y :: .int x :: st) :=
  fun H locs ls h0 h1 h2 h3 h4 => lv_ixor K.1 K.2.1 hd  (kk H locs ls h0 h1 h2 h3 h4)
theorem z_ladd (K : zC p s m args c cc own nL b0 G) {x y : Int64} (hd : decode cc pc = .ok (.ladd, 1))  (kk : zW p l e R s m args below meth c nL b0 G k n Q h (pc + 1) lv (.long (x + y) :: st)) : zW p l e R s m args below meth c nL b0 G k n Q h pc lv (.long y :: .long x :: st) :=
  fun H locs ls h0 h1 h2 h3 h4 => lv_ladd K.1 K.2.1 hd  (kk H locs ls h0 h1 h2 h3 h4)
theorem z_lsub (K : zC p s m args c cc own nL b0 G) {x y : Int64} (hd : decode cc pc = .ok (.lsub, 1))  (kk : zW p l e R s m args below meth c nL b0 G k n Q h (pc + 1) lv (.long (x - y) :: st)) : zW p l e R s m args below meth c nL b0 G k n Q h pc lv (.long y :: .long x :: st) :=
  fun H locs ls h0 h1 h2 h3 h4 => lv_lsub K.1 K.2.1 hd  (kk H locs ls h0 h1 h2 h3 h4)
theorem z_lmul (K : zC p s m args c cc own nL b0 G) {x y : Int64} (hd : decode cc pc = .ok (.lmul, 1))  (kk : zW p l e R s m args below meth c nL b0 G k n Q h (pc + 1) lv (.long (x * y) :: st)) : zW p l e R s m args below meth c nL b0 G k n Q h pc lv (.long y :: .long x :: st) :=
  fun H locs ls h0 h1 h2 h3 h4 => lv_lmul K.1 K.2.1 hd  (kk H locs ls h0 h1 h2 h3 h4)
theorem z_land (K : zC p s m args c cc own nL b0 G) {x y : Int64} (hd : decode cc pc = .ok (.land, 1))  (kk : zW p l e R s m args below meth c nL b0 G k n Q h (pc + 1) lv (.long (x &&& y) :: st)) : zW p l e R s m args below meth c nL b0 G k n Q h pc lv (.long y :: .long x :: st) :=
  fun H locs ls h0 h1 h2 h3 h4 => lv_land K.1 K.2.1 hd  (kk H locs ls h0 h1 h2 h3 h4)
theorem z_lor (K : zC p s m args c cc own nL b0 G) {x y : Int64} (hd : decode cc pc = .ok (.lor, 1))  (kk : zW p l e R s m args below meth c nL b0 G k n Q h (pc + 1) lv (.long (x ||| y) :: st)) : zW p l e R s m args below meth c nL b0 G k n Q h pc lv (.long y :: .long x :: st) :=
  fun H locs ls h0 h1 h2 h3 h4 => lv_lor K.1 K.2.1 hd  (kk H locs ls h0 h1 h2 h3 h4)
theorem z_lxor (K : zC p s m args c cc own nL b0 G) {x y : Int64} (hd : decode cc pc = .ok (.lxor, 1))  (kk : zW p l e R s m args below meth c nL b0 G k n Q h (pc + 1) lv (.long (x ^^^ y) :: st)) : zW p l e R s m args below meth c nL b0 G k n Q h pc lv (.long y :: .long x :: st) :=
  fun H locs ls h0 h1 h2 h3 h4 => lv_lxor K.1 K.2.1 hd  (kk H locs ls h0 h1 h2 h3 h4)
theorem z_idiv (K : zC p s m args c cc own nL b0 G) {x y : Int32} (hd : decode cc pc = .ok (.idiv, 1)) (hne : ¬ y = 0) (kk : zW p l e R s m args below meth c nL b0 G k n Q h (pc + 1) lv (.int (x / y) :: st)) : zW p l e R s m args below meth c nL b0 G k n Q h pc lv (.int y :: .int x :: st) :=
  fun H locs ls h0 h1 h2 h3 h4 => lv_idiv K.1 K.2.1 hd hne (kk H locs ls h0 h1 h2 h3 h4)
theorem z_irem (K : zC p s m args c cc own nL b0 G) {x y : Int32} (hd : decode cc pc = .ok (.irem, 1)) (hne : ¬ y = 0) (kk : zW p l e R s m args below meth c nL b0 G k n Q h (pc + 1) lv (.int (x - x / y * y) :: st)) : zW p l e R s m args below meth c nL b0 G k n Q h pc lv (.int y :: .int x :: st) :=
  fun H locs ls h0 h1 h2 h3 h4 => lv_irem K.1 K.2.1 hd hne (kk H locs ls h0 h1 h2 h3 h4)
theorem z_ldiv (K : zC p s m args c cc own nL b0 G) {x y : Int64} (hd : decode cc pc = .ok (.ldiv, 1)) (hne : ¬ y = 0) (kk : zW p l e R s m args below meth c nL b0 G k n Q h (pc + 1) lv (.long (x / y) :: st)) : zW p l e R s m args below meth c nL b0 G k n Q h pc lv (.long y :: .long x :: st) :=
  fun H locs ls h0 h1 h2 h3 h4 => lv_ldiv K.1 K.2.1 hd hne (kk H locs ls h0 h1 h2 h3 h4)
theorem z_lrem (K : zC p s m args c cc own nL b0 G) {x y : Int64} (hd : decode cc pc = .ok (.lrem, 1)) (hne : ¬ y = 0) (kk : zW p l e R s m args below meth c nL b0 G k n Q h (pc + 1) lv (.long (x - x / y * y) :: st)) : zW p l e R s m args below meth c nL b0 G k n Q h pc lv (.long y :: .long x :: st) :=
  fun H locs ls h0 h1 h2 h3 h4 => lv_lrem K.1 K.2.1 hd hne (kk H locs ls h0 h1 h2 h3 h4)
theorem z_ineg (K : zC p s m args c cc own nL b0 G) {x : Int32} (hd : decode cc pc = .ok (.ineg, 1))  (kk : zW p l e R s m args below meth c nL b0 G k n Q h (pc + 1) lv (.int (-x) :: st)) : zW p l e R s m args below meth c nL b0 G k n Q h pc lv (.int x :: st) :=
  fun H locs ls h0 h1 h2 h3 h4 => lv_ineg K.1 K.2.1 hd  (kk H locs ls h0 h1 h2 h3 h4)
theorem z_lneg (K : zC p s m args c cc own nL b0 G) {x : Int64} (hd : decode cc pc = .ok (.lneg, 1))  (kk : zW p l e R s m args below meth c nL b0 G k n Q h (pc + 1) lv (.long (-x) :: st)) : zW p l e R s m args below meth c nL b0 G k n Q h pc lv (.long x :: st) :=
  fun H locs ls h0 h1 h2 h3 h4 => lv_lneg K.1 K.2.1 hd  (kk H locs ls h0 h1 h2 h3 h4)
theorem z_ishl (K : zC p s m args c cc own nL b0 G) {x y : Int32} (hd : decode cc pc = .ok (.ishl, 1))  (kk : zW p l e R s m args below meth c nL b0 G k n Q h (pc + 1) lv (.int (x <<< (y &&& 31)) :: st)) : zW p l e R s m args below meth c nL b0 G k n Q h pc lv (.int y :: .int x :: st) :=
  fun H locs ls h0 h1 h2 h3 h4 => lv_ishl K.1 K.2.1 hd  (kk H locs ls h0 h1 h2 h3 h4)
theorem z_ishr (K : zC p s m args c cc own nL b0 G) {x y : Int32} (hd : decode cc pc = .ok (.ishr, 1))  (kk : zW p l e R s m args below meth c nL b0 G k n Q h (pc + 1) lv (.int (x >>> (y &&& 31)) :: st)) : zW p l e R s m args below meth c nL b0 G k n Q h pc lv (.int y :: .int x :: st) :=
  fun H locs ls h0 h1 h2 h3 h4 => lv_ishr K.1 K.2.1 hd  (kk H locs ls h0 h1 h2 h3 h4)
theorem z_iushr (K : zC p s m args c cc own nL b0 G) {x y : Int32} (hd : decode cc pc = .ok (.iushr, 1))  (kk : zW p l e R s m args below meth c nL b0 G k n Q h (pc + 1) lv (.int ((x.toUInt32 >>> (y.toUInt32 &&& Int32.toUInt32 31)).toInt32) :: st)) : zW p l e R s m args below meth c nL b0 G k n Q h pc lv (.int y :: .int x :: st) :=
  fun H locs ls h0 h1 h2 h3 h4 => lv_iushr K.1 K.2.1 hd rfl (kk H locs ls h0 h1 h2 h3 h4)
theorem z_lshl (K : zC p s m args c cc own nL b0 G) {x : Int64} {y : Int32} (hd : decode cc pc = .ok (.lshl, 1))  (kk : zW p l e R s m args below meth c nL b0 G k n Q h (pc + 1) lv (.long (x <<< (y.toInt64 &&& 63)) :: st)) : zW p l e R s m args below meth c nL b0 G k n Q h pc lv (.int y :: .long x :: st) :=
  fun H locs ls h0 h1 h2 h3 h4 => lv_lshl K.1 K.2.1 hd rfl (kk H locs ls h0 h1 h2 h3 h4)
theorem z_lshr (K : zC p s m args c cc own nL b0 G) {x : Int64} {y : Int32} (hd : decode cc pc = .ok (.lshr, 1))  (kk : zW p l e R s m args below meth c nL b0 G k n Q h (pc + 1) lv (.long (x >>> (y.toInt64 &&& 63)) :: st)) : zW p l e R s m args below meth c nL b0 G k n Q h pc lv (.int y :: .long x :: st) :=
  fun H locs ls h0 h1 h2 h3 h4 => lv_lshr K.1 K.2.1 hd rfl (kk H locs ls h0 h1 h2 h3 h4)
theorem z_lushr (K : zC p s m args c cc own nL b0 G) {x : Int64} {y : Int32} (hd : decode cc pc = .ok (.lushr, 1))  (kk : zW p l e R s m args below meth c nL b0 G k n Q h (pc + 1) lv (.long ((x.toUInt64 >>> (y.toInt64.toUInt64 &&& Int64.toUInt64 63)).toInt64) :: st)) : zW p l e R s m args below meth c nL b0 G k n Q h pc lv (.int y :: .long x :: st) :=
  fun H locs ls h0 h1 h2 h3 h4 => lv_lushr K.1 K.2.1 hd rfl (kk H locs ls h0 h1 h2 h3 h4)
theorem z_i2l (K : zC p s m args c cc own nL b0 G) {x : Int32} (hd : decode cc pc = .ok (.i2l, 1))  (kk : zW p l e R s m args below meth c nL b0 G k n Q h (pc + 1) lv (.long x.toInt64 :: st)) : zW p l e R s m args below meth c nL b0 G k n Q h pc lv (.int x :: st) :=
  fun H locs ls h0 h1 h2 h3 h4 => lv_i2l K.1 K.2.1 hd rfl (kk H locs ls h0 h1 h2 h3 h4)
theorem z_l2i (K : zC p s m args c cc own nL b0 G) {x : Int64} (hd : decode cc pc = .ok (.l2i, 1))  (kk : zW p l e R s m args below meth c nL b0 G k n Q h (pc + 1) lv (.int x.toInt32 :: st)) : zW p l e R s m args below meth c nL b0 G k n Q h pc lv (.long x :: st) :=
  fun H locs ls h0 h1 h2 h3 h4 => lv_l2i K.1 K.2.1 hd rfl (kk H locs ls h0 h1 h2 h3 h4)
theorem z_lcmp (K : zC p s m args c cc own nL b0 G) {x y : Int64} (hd : decode cc pc = .ok (.lcmp, 1))  (kk : zW p l e R s m args below meth c nL b0 G k n Q h (pc + 1) lv (.int (lg_cmp x y) :: st)) : zW p l e R s m args below meth c nL b0 G k n Q h pc lv (.long y :: .long x :: st) :=
  fun H locs ls h0 h1 h2 h3 h4 => W.lcmp K.1 K.2.1 hd  (kk H locs ls h0 h1 h2 h3 h4)
theorem z_dup (K : zC p s m args c cc own nL b0 G) {va : Value} (hd : decode cc pc = .ok (.dup, 1)) (h9 : va.category = 1) (kk : zW p l e R s m args below meth c nL b0 G k n Q h (pc + 1) lv (va :: va :: st)) : zW p l e R s m args below meth c nL b0 G k n Q h pc lv (va :: st) :=
  fun H locs ls h0 h1 h2 h3 h4 => lv_dup K.1 K.2.1 hd h9 (kk H locs ls h0 h1 h2 h3 h4)
theorem z_pop (K : zC p s m args c cc own nL b0 G) {va : Value} (hd : decode cc pc = .ok (.pop, 1)) (h9 : va.category = 1) (kk : zW p l e R s m args below meth c nL b0 G k n Q h (pc + 1) lv (st)) : zW p l e R s m args below meth c nL b0 G k n Q h pc lv (va :: st) :=
  fun H locs ls h0 h1 h2 h3 h4 => lv_pop K.1 K.2.1 hd h9 (kk H locs ls h0 h1 h2 h3 h4)
theorem z_dup_x1 (K : zC p s m args c cc own nL b0 G) {va vb : Value} (hd : decode cc pc = .ok (.dup_x1, 1)) (h9 : va.category = 1) (h8 : vb.category = 1) (kk : zW p l e R s m args below meth c nL b0 G k n Q h (pc + 1) lv (va :: vb :: va :: st)) : zW p l e R s m args below meth c nL b0 G k n Q h pc lv (va :: vb :: st) :=
  fun H locs ls h0 h1 h2 h3 h4 => lv_dup_x1 K.1 K.2.1 hd h9 h8 (kk H locs ls h0 h1 h2 h3 h4)
theorem z_dup_x2 (K : zC p s m args c cc own nL b0 G) {va vb vd : Value} (hd : decode cc pc = .ok (.dup_x2, 1)) (h9 : va.category = 1) (h8 : vb.category = 1) (h7 : vd.category = 1) (kk : zW p l e R s m args below meth c nL b0 G k n Q h (pc + 1) lv (va :: vb :: vd :: va :: st)) : zW p l e R s m args below meth c nL b0 G k n Q h pc lv (va :: vb :: vd :: st) :=
  fun H locs ls h0 h1 h2 h3 h4 => lv_dup_x2 K.1 K.2.1 hd h9 h8 h7 (kk H locs ls h0 h1 h2 h3 h4)
theorem z_dup2_11 (K : zC p s m args c cc own nL b0 G) {va vb : Value} (hd : decode cc pc = .ok (.dup2, 1)) (h9 : va.category = 1) (h8 : vb.category = 1) (kk : zW p l e R s m args below meth c nL b0 G k n Q h (pc + 1) lv (va :: vb :: va :: vb :: st)) : zW p l e R s m args below meth c nL b0 G k n Q h pc lv (va :: vb :: st) :=
  fun H locs ls h0 h1 h2 h3 h4 => lv_dup2_11 K.1 K.2.1 hd h9 h8 (kk H locs ls h0 h1 h2 h3 h4)
theorem z_dup2_2 (K : zC p s m args c cc own nL b0 G) {va : Value} (hd : decode cc pc = .ok (.dup2, 1)) (h9 : va.category = 2) (kk : zW p l e R s m args below meth c nL b0 G k n Q h (pc + 1) lv (va :: va :: st)) : zW p l e R s m args below meth c nL b0 G k n Q h pc lv (va :: st) :=
  fun H locs ls h0 h1 h2 h3 h4 => lv_dup2_2 K.1 K.2.1 hd h9 (kk H locs ls h0 h1 h2 h3 h4)
theorem z_pop2_2 (K : zC p s m args c cc own nL b0 G) {va : Value} (hd : decode cc pc = .ok (.pop2, 1)) (h9 : va.category = 2) (kk : zW p l e R s m args below meth c nL b0 G k n Q h (pc + 1) lv (st)) : zW p l e R s m args below meth c nL b0 G k n Q h pc lv (va :: st) :=
  fun H locs ls h0 h1 h2 h3 h4 => lv_pop2_2 K.1 K.2.1 hd h9 (kk H locs ls h0 h1 h2 h3 h4)
theorem z_if_eq (K : zC p s m args c cc own nL b0 G) {x : Int32} {off : Int} {tgt : Nat} (hd : decode cc pc = .ok (.ifCond .eq off, 3)) (ht : (pc : Int) + off = (tgt : Int)) (kt : x = 0 → zW p l e R s m args below meth c nL b0 G k n Q h tgt lv st) (kf : ¬ x = 0 → zW p l e R s m args below meth c nL b0 G k n Q h (pc + 3) lv st) : zW p l e R s m args below meth c nL b0 G k n Q h pc lv (.int x :: st) :=
  fun H locs ls h0 h1 h2 h3 h4 => lv_if_eq K.1 K.2.1 hd ht (fun q => kt q H locs ls h0 h1 h2 h3 h4) (fun q => kf q H locs ls h0 h1 h2 h3 h4)
theorem z_icmp_eq (K : zC p s m args c cc own nL b0 G) {x y : Int32} {off : Int} {tgt : Nat} (hd : decode cc pc = .ok (.if_icmp .eq off, 3)) (ht : (pc : Int) + off = (tgt : Int)) (kt : x = y → zW p l e R s m args below meth c nL b0 G k n Q h tgt lv st) (kf : ¬ x = y → zW p l e R s m args below meth c nL b0 G k n Q h (pc + 3) lv st) : zW p l e R s m args below meth c nL b0 G k n Q h pc lv (.int y :: .int x :: st) :=
  fun H locs ls h0 h1 h2 h3 h4 => lv_icmp_eq K.1 K.2.1 hd ht (fun q => kt q H locs ls h0 h1 h2 h3 h4) (fun q => kf q H locs ls h0 h1 h2 h3 h4)
theorem z_if_ne (K : zC p s m args c cc own nL b0 G) {x : Int32} {off : Int} {tgt : Nat} (hd : decode cc pc = .ok (.ifCond .ne off, 3)) (ht : (pc : Int) + off = (tgt : Int)) (kt : ¬ x = 0 → zW p l e R s m args below meth c nL b0 G k n Q h tgt lv st) (kf : x = 0 → zW p l e R s m args below meth c nL b0 G k n Q h (pc + 3) lv st) : zW p l e R s m args below meth c nL b0 G k n Q h pc lv (.int x :: st) :=
  fun H locs ls h0 h1 h2 h3 h4 => lv_if_ne K.1 K.2.1 hd ht (fun q => kt q H locs ls h0 h1 h2 h3 h4) (fun q => kf q H locs ls h0 h1 h2 h3 h4)
theorem z_icmp_ne (K : zC p s m args c cc own nL b0 G) {x y : Int32} {off : Int} {tgt : Nat} (hd : decode cc pc = .ok (.if_icmp .ne off, 3)) (ht : (pc : Int) + off = (tgt : Int)) (kt : ¬ x = y → zW p l e R s m args below meth c nL b0 G k n Q h tgt lv st) (kf : x = y → zW p l e R s m args below meth c nL b0 G k n Q h (pc + 3) lv st) : zW p l e R s m args below meth c nL b0 G k n Q h pc lv (.int y :: .int x :: st) :=
  fun H locs ls h0 h1 h2 h3 h4 => lv_icmp_ne K.1 K.2.1 hd ht (fun q => kt q H locs ls h0 h1 h2 h3 h4) (fun q => kf q H locs ls h0 h1 h2 h3 h4)
theorem z_if_lt (K : zC p s m args c cc own nL b0 G) {x : Int32} {off : Int} {tgt : Nat} (hd : decode cc pc = .ok (.ifCond .lt off, 3)) (ht : (pc : Int) + off = (tgt : Int)) (kt : x < 0 → zW p l e R s m args below meth c nL b0 G k n Q h tgt lv st) (kf : ¬ x < 0 → zW p l e R s m args below meth c nL b0 G k n Q h (pc + 3) lv st) : zW p l e R s m args below meth c nL b0 G k n Q h pc lv (.int x :: st) :=
  fun H locs ls h0 h1 h2 h3 h4 => lv_if_lt K.1 K.2.1 hd ht (fun q => kt q H locs ls h0 h1 h2 h3 h4) (fun q => kf q H locs ls h0 h1 h2 h3 h4)
theorem z_icmp_lt (K : zC p s m args c cc own nL b0 G) {x y : Int32} {off : Int} {tgt : Nat} (hd : decode cc pc = .ok (.if_icmp .lt off, 3)) (ht : (pc : Int) + off = (tgt : Int)) (kt : x < y → zW p l e R s m args below meth c nL b0 G k n Q h tgt lv st) (kf : ¬ x < y → zW p l e R s m args below meth c nL b0 G k n Q h (pc + 3) lv st) : zW p l e R s m args below meth c nL b0 G k n Q h pc lv (.int y :: .int x :: st) :=
  fun H locs ls h0 h1 h2 h3 h4 => lv_icmp_lt K.1 K.2.1 hd ht (fun q => kt q H locs ls h0 h1 h2 h3 h4) (fun q => kf q H locs ls h0 h1 h2 h3 h4)
theorem z_if_ge (K : zC p s m args c cc own nL b0 G) {x : Int32} {off : Int} {tgt : Nat} (hd : decode cc pc = .ok (.ifCond .ge off, 3)) (ht : (pc : Int) + off = (tgt : Int)) (kt : 0 ≤ x → zW p l e R s m args below meth c nL b0 G k n Q h tgt lv st) (kf : ¬ 0 ≤ x → zW p l e R s m args below meth c nL b0 G k n Q h (pc + 3) lv st) : zW p l e R s m args below meth c nL b0 G k n Q h pc lv (.int x :: st) :=
  fun H locs ls h0 h1 h2 h3 h4 => lv_if_ge K.1 K.2.1 hd ht (fun q => kt q H locs ls h0 h1 h2 h3 h4) (fun q => kf q H locs ls h0 h1 h2 h3 h4)
theorem z_icmp_ge (K : zC p s m args c cc own nL b0 G) {x y : Int32} {off : Int} {tgt : Nat} (hd : decode cc pc = .ok (.if_icmp .ge off, 3)) (ht : (pc : Int) + off = (tgt : Int)) (kt : y ≤ x → zW p l e R s m args below meth c nL b0 G k n Q h tgt lv st) (kf : ¬ y ≤ x → zW p l e R s m args below meth c nL b0 G k n Q h (pc + 3) lv st) : zW p l e R s m args below meth c nL b0 G k n Q h pc lv (.int y :: .int x :: st) :=
  fun H locs ls h0 h1 h2 h3 h4 => lv_icmp_ge K.1 K.2.1 hd ht (fun q => kt q H locs ls h0 h1 h2 h3 h4) (fun q => kf q H locs ls h0 h1 h2 h3 h4)
theorem z_if_gt (K : zC p s m args c cc own nL b0 G) {x : Int32} {off : Int} {tgt : Nat} (hd : decode cc pc = .ok (.ifCond .gt off, 3)) (ht : (pc : Int) + off = (tgt : Int)) (kt : 0 < x → zW p l e R s m args below meth c nL b0 G k n Q h tgt lv st) (kf : ¬ 0 < x → zW p l e R s m args below meth c nL b0 G k n Q h (pc + 3) lv st) : zW p l e R s m args below meth c nL b0 G k n Q h pc lv (.int x :: st) :=
  fun H locs ls h0 h1 h2 h3 h4 => lv_if_gt K.1 K.2.1 hd ht (fun q => kt q H locs ls h0 h1 h2 h3 h4) (fun q => kf q H locs ls h0 h1 h2 h3 h4)
theorem z_icmp_gt (K : zC p s m args c cc own nL b0 G) {x y : Int32} {off : Int} {tgt : Nat} (hd : decode cc pc = .ok (.if_icmp .gt off, 3)) (ht : (pc : Int) + off = (tgt : Int)) (kt : y < x → zW p l e R s m args below meth c nL b0 G k n Q h tgt lv st) (kf : ¬ y < x → zW p l e R s m args below meth c nL b0 G k n Q h (pc + 3) lv st) : zW p l e R s m args below meth c nL b0 G k n Q h pc lv (.int y :: .int x :: st) :=
  fun H locs ls h0 h1 h2 h3 h4 => lv_icmp_gt K.1 K.2.1 hd ht (fun q => kt q H locs ls h0 h1 h2 h3 h4) (fun q => kf q H locs ls h0 h1 h2 h3 h4)
theorem z_if_le (K : zC p s m args c cc own nL b0 G) {x : Int32} {off : Int} {tgt : Nat} (hd : decode cc pc = .ok (.ifCond .le off, 3)) (ht : (pc : Int) + off = (tgt : Int)) (kt : x ≤ 0 → zW p l e R s m args below meth c nL b0 G k n Q h tgt lv st) (kf : ¬ x ≤ 0 → zW p l e R s m args below meth c nL b0 G k n Q h (pc + 3) lv st) : zW p l e R s m args below meth c nL b0 G k n Q h pc lv (.int x :: st) :=
  fun H locs ls h0 h1 h2 h3 h4 => lv_if_le K.1 K.2.1 hd ht (fun q => kt q H locs ls h0 h1 h2 h3 h4) (fun q => kf q H locs ls h0 h1 h2 h3 h4)
theorem z_icmp_le (K : zC p s m args c cc own nL b0 G) {x y : Int32} {off : Int} {tgt : Nat} (hd : decode cc pc = .ok (.if_icmp .le off, 3)) (ht : (pc : Int) + off = (tgt : Int)) (kt : x ≤ y → zW p l e R s m args below meth c nL b0 G k n Q h tgt lv st) (kf : ¬ x ≤ y → zW p l e R s m args below meth c nL b0 G k n Q h (pc + 3) lv st) : zW p l e R s m args below meth c nL b0 G k n Q h pc lv (.int y :: .int x :: st) :=
  fun H locs ls h0 h1 h2 h3 h4 => lv_icmp_le K.1 K.2.1 hd ht (fun q => kt q H locs ls h0 h1 h2 h3 h4) (fun q => kf q H locs ls h0 h1 h2 h3 h4)
theorem z_goto (K : zC p s m args c cc own nL b0 G) {off : Int} {tgt : Nat} (hd : decode cc pc = .ok (.goto off, 3)) (ht : (pc : Int) + off = (tgt : Int)) (kk : zW p l e R s m args below meth c nL b0 G k n Q h tgt lv st) : zW p l e R s m args below meth c nL b0 G k n Q h pc lv st :=
  fun H locs ls h0 h1 h2 h3 h4 => lv_goto K.1 K.2.1 hd ht (kk H locs ls h0 h1 h2 h3 h4)
theorem z_ldc (K : zC p s m args c cc own nL b0 G) {index : Nat} {v : Int32} (hd : decode cc pc = .ok (.ldc index, 2)) (hw : Cond.constant own index v ∈ zTb) (kk : zW p l e R s m args below meth c nL b0 G k n Q h (pc + 2) lv (.int v :: st)) : zW p l e R s m args below meth c nL b0 G k n Q h pc lv st :=
  fun H locs ls h0 h1 h2 h3 h4 => lv_ldc K.1 K.2.1 K.2.2.2.1 (K.2.2.2.2.1 _ hw) hd (kk H locs ls h0 h1 h2 h3 h4)
theorem z_ldcw (K : zC p s m args c cc own nL b0 G) {index : Nat} {v : Int32} (hd : decode cc pc = .ok (.ldc_w index, 3)) (hw : Cond.constant own index v ∈ zTb) (kk : zW p l e R s m args below meth c nL b0 G k n Q h (pc + 3) lv (.int v :: st)) : zW p l e R s m args below meth c nL b0 G k n Q h pc lv st :=
  fun H locs ls h0 h1 h2 h3 h4 => lv_ldcw K.1 K.2.1 K.2.2.2.1 (K.2.2.2.2.1 _ hw) hd (kk H locs ls h0 h1 h2 h3 h4)
theorem z_ldc2 (K : zC p s m args c cc own nL b0 G) {index : Nat} {v : Int64} (hd : decode cc pc = .ok (.ldc2_w index, 3)) (hw : Cond.constantLong own index v ∈ zTb) (kk : zW p l e R s m args below meth c nL b0 G k n Q h (pc + 3) lv (.long v :: st)) : zW p l e R s m args below meth c nL b0 G k n Q h pc lv st :=
  fun H locs ls h0 h1 h2 h3 h4 => lv_ldc2 K.1 K.2.1 K.2.2.2.1 (K.2.2.2.2.1 _ hw) hd (kk H locs ls h0 h1 h2 h3 h4)

theorem z_re (is : List Nat) {lv' : List (Nat × Value)} (hl : zpick lv is = lv') (kk : zW p l e R s m args below meth c nL b0 G k n Q h pc lv' st) : zW p l e R s m args below meth c nL b0 G k n Q h pc lv st :=
  fun H locs ls h0 h1 h2 h3 h4 => kk H locs ls h0 h1 h2 h3 (zl_sub h4 is hl)
theorem z_wid {k' n' : Nat} (hk : k ≤ k') (hn : n ≤ n') (kk : zW p l e R s m args below meth c nL b0 G k' n' Q h pc lv st) : zW p l e R s m args below meth c nL b0 G k n Q h pc lv st :=
  fun H locs ls h0 h1 h2 h3 h4 => W.widen hk hn (kk H locs ls h0 h1 h2 h3 h4)
theorem z_hp {h' : zH} (he : h = h') (kk : zW p l e R s m args below meth c nL b0 G k n Q h' pc lv st) : zW p l e R s m args below meth c nL b0 G k n Q h pc lv st := he ▸ kk
theorem z_st {st' : List Value} (he : st = st') (kk : zW p l e R s m args below meth c nL b0 G k n Q h pc lv st') : zW p l e R s m args below meth c nL b0 G k n Q h pc lv st := he ▸ kk
theorem z_get (K : zC p s m args c cc own nL b0 G) {index ci f a : Nat} {ty : FieldType} {fin : Bool} {fs : List Value} {v : Value} (hF : zFd own index ci f ty fin) (hf : h.2 a = .inr (ci, fs)) (hv : fs[f]? = some v) (hd : decode cc pc = .ok (.getfield index, 3))
    (kk : zW p l e R s m args below meth c nL b0 G k n Q h (pc + 3) lv (v :: st)) : zW p l e R s m args below meth c nL b0 G k n Q h pc lv (.ref a :: st) := fun H locs ls h0 h1 h2 h3 h4 => by
  obtain ⟨C, T, N, ty0, hC, hk, hty, hfin, hlink⟩ := hF
  obtain ⟨q1, q2⟩ := z_in h0 hf hC.2.1
  have he := z_Wget (h := h) q1 q2
  rw [hf] at he
  rcases hlink with hl | ⟨host, hl⟩
  · exact va_get K.1 K.2.1 K.2.2.2.2.1 hC.2.2.1 K.2.2.2.1 K.2.2.2.2.2.1 h2 (a - b0) he hC.1 f hk (K.2.2.2.2.1 _ hl) (fun _ h9 => h9) hv hd (kk H locs ls h0 h1 h2 h3 h4)
  · exact va_getN K.1 K.2.1 K.2.2.2.2.1 hC.2.2.1 K.2.2.2.1 K.2.2.2.2.2.1 h2 (a - b0) he hC.1 f hk (va_Nw.use (zN_on hl) (K.2.2.2.2.2.2.1 _ hl)) (fun _ h9 => h9) hv hd (kk H locs ls h0 h1 h2 h3 h4)
theorem z_fin {H1 : Heap} {H : Heap} {locs : List Loc} {ls : Array Slot} {a j : Nat} {v : va_E} {pc' : Nat} {st' : List Value} (h0 : z_wf b0 h) (h1 : H.size = h.1) (h2 : va_P G.1 vwCl (z_W b0 h) H) (h3 : va_S (z_A b0) s.heap H locs) (h4 : lv_has ls nL lv) (q1 : b0 ≤ a) (q2 : a < h.1)
    (hat : va_at G.1 vwCl (a, v) H1) (z : H1.size = H.size) (oq : ∀ q : Nat, q ≠ a → H1[q]? = H[q]?) (kk : zW p l e R s m args below meth c nL b0 G k n Q (h.1, va_up h.2 a v) pc' lv st') : W p l e R s m args below meth c H1 (locs ++ [⟨a, j⟩]) k n Q (F0 m pc' ls st') := by
  have g2 := h2.set (z_D b0 h) (z_Wget q1 q2) hat oq
  rw [z_Wset q1 q2] at g2
  exact kk H1 _ ls (z_wf_up h0 q1 q2) (z.trans h1) g2 (h3.put z oq q1) h4
theorem z_put (K : zC p s m args c cc own nL b0 G) {index ci f a : Nat} {ty : FieldType} {fs : List Value} {v : Value} (hF : zFd own index ci f ty false) (hf : h.2 a = .inr (ci, fs)) (hl : f < fs.length) (hn : narrow ty v = v) (hfit : fits ty v = true) (hd : decode cc pc = .ok (.putfield index, 3))
    (kk : zW p l e R s m args below meth c nL b0 G k n Q (h.1, va_up h.2 a (.inr (ci, fs.set f v))) (pc + 3) lv st) : zW p l e R s m args below meth c nL b0 G k n Q h pc lv (v :: .ref a :: st) := fun H locs ls h0 h1 h2 h3 h4 => by
  obtain ⟨C, T, N, ty0, hC, hk, hty, hfin, hlink⟩ := hF
  obtain ⟨q1, q2⟩ := z_in h0 hf hC.2.1
  have he := z_Wget (h := h) q1 q2
  rw [hf] at he
  have hps : parseFieldDescriptor (T f).2.2.1 = some ty := by rw [hC.2.2.2.1 f hk, hty]
  have hts := K.2.2.2.2.1
  have hK := K.2.2.2.2.2.1
  have hap := va_apart (own := own) hts hC.2.2.1 ty0 hC.2.2.2.1 hC.2.2.2.2 hK hC.1
  obtain ⟨r, g1, cell, c1, c2, c3, c4⟩ := h2 _ _ he
  have hr : r = (C, T, N) := Option.some.inj (g1.symm.trans hC.1)
  subst hr
  obtain ⟨hS, hfc, kC, hkC, hkind⟩ := hK.1 ci _ hC.1
  obtain ⟨cf, kf, fi, fl, hi, hsl⟩ := hS f hk
  have hlay := hts _ (hC.2.2.1 _ (u_in_lay hk))
  unfold u_lay at hlay
  rw [if_neg (by rw [hfin]; decide)] at hlay
  have hst := (u_facts hfc hkC (u_lays hts hC.2.2.1 hk) hi).1
  have h6 := u_store hfc hkC hkind hlay hi hps hn hfit
  rcases hlink with hl2 | ⟨host, hl2⟩
  · refine W.putK K.1 K.2.1 (f := fl) ⟨K.2.2.2.1, hts _ hl2, ⟨_, _, _, hi⟩, hst⟩ (by rw [c2]; exact h6) c1 c3 (by rw [hsl]; exact k2_hasslot (c4 f hk)) rfl rfl hd fun H' e1 e2 e3 => ?_
    rw [hsl] at e1 ⊢
    exact z_fin (v := .inr (ci, fs.set f v)) h0 h1 h2 h3 h4 q1 q2 ⟨_, hC.1, t_OB.to (V := updV (vp_V fs) f v) ⟨_, e1, c2, c3, t_set c4 hap hk v⟩ (fun j _ => vp_updV_set hl v j)⟩ e2 e3 kk
  · refine va_WputK K.1 K.2.1 (f := fl) K.2.2.2.1 (va_Nw.use (zN_on hl2) (K.2.2.2.2.2.2.1 _ hl2)) hi hst (by rw [c2]; exact h6) c1 c3 (by rw [hsl]; exact k2_hasslot (c4 f hk)) rfl rfl hd fun H' e1 e2 e3 => ?_
    rw [hsl] at e1 ⊢
    exact z_fin (v := .inr (ci, fs.set f v)) h0 h1 h2 h3 h4 q1 q2 ⟨_, hC.1, t_OB.to (V := updV (vp_V fs) f v) ⟨_, e1, c2, c3, t_set c4 hap hk v⟩ (fun j _ => vp_updV_set hl v j)⟩ e2 e3 kk
theorem z_putF (K : zC p s m args c cc own nL b0 G) (hin2 : meth.name = "<init>") {index ci f a : Nat} {ty : FieldType} {fs : List Value} {v : Value} (hF : zFf own index ci f ty) (hf : h.2 a = .inr (ci, fs)) (hl : f < fs.length) (hn : narrow ty v = v) (hfit : fits ty v = true) (hd : decode cc pc = .ok (.putfield index, 3))
    (kk : zW p l e R s m args below meth c nL b0 G k n Q (h.1, va_up h.2 a (.inr (ci, fs.set f v))) (pc + 3) lv st) : zW p l e R s m args below meth c nL b0 G k n Q h pc lv (v :: .ref a :: st) := fun H locs ls h0 h1 h2 h3 h4 => by
  obtain ⟨C, T, N, ty0, hC, hk, hty, hfin, hdecl, hl2⟩ := hF
  obtain ⟨q1, q2⟩ := z_in h0 hf hC.2.1
  have he := z_Wget (h := h) q1 q2
  rw [hf] at he
  have hps : parseFieldDescriptor (T f).2.2.1 = some ty := by rw [hC.2.2.2.1 f hk, hty]
  have hts := K.2.2.2.2.1
  have hK := K.2.2.2.2.2.1
  have hap := va_apart (own := own) hts hC.2.2.1 ty0 hC.2.2.2.1 hC.2.2.2.2 hK hC.1
  obtain ⟨r, g1, cell, c1, c2, c3, c4⟩ := h2 _ _ he
  have hr : r = (C, T, N) := Option.some.inj (g1.symm.trans hC.1)
  subst hr
  obtain ⟨hS, hfc, kC, hkC, hkind⟩ := hK.1 ci _ hC.1
  obtain ⟨cf, kf, fi, fl, hi, hsl⟩ := hS f hk
  have hlay := hts _ (hC.2.2.1 _ (u_in_lay hk))
  unfold u_lay at hlay
  rw [if_pos hfin] at hlay
  have hst := (u_facts hfc hkC (u_lays hts hC.2.2.1 hk) hi).1
  have hcf : m.cls = cf := by
    obtain ⟨_, _, c', _, _, _, -, -, hf', -, -, -, hown2, -⟩ := Cond.laysFinal_spec hlay
    have e1 : c' = cf := by have := hi.symm.trans hf'; simp at this; exact this.1.symm
    rw [hdecl] at hown2
    rw [← e1]; exact Option.some.inj (K.2.2.2.1.symm.trans hown2)
  have h6 := u_fits hfc hkC hkind (Or.inr hlay) hi hps hn hfit
  refine W.putFinK K.1 K.2.1 K.2.2.2.1 (hts _ hl2) hi hst hcf hin2 (by rw [c2]; exact h6) c1 c3 (by rw [hsl]; exact k2_hasslot (c4 f hk)) rfl rfl hd fun H' e1 e2 e3 => ?_
  rw [hsl] at e1 ⊢
  exact z_fin (v := .inr (ci, fs.set f v)) h0 h1 h2 h3 h4 q1 q2 ⟨_, hC.1, t_OB.to (V := updV (vp_V fs) f v) ⟨_, e1, c2, c3, t_set c4 hap hk v⟩ (fun j _ => vp_updV_set hl v j)⟩ e2 e3 kk
theorem z_iald (K : zC p s m args c cc own nL b0 G) {a N t0 : Nat} {cA : ClassId} {f : Nat → Int32} {i : Int32} (hf : h.2 a = .inl (cA, N, .inl f)) (ht : (zTys G)[t0]? = some (cA, .int)) (hin : vp_in i N) (hd : decode cc pc = .ok (.iaload, 1))
    (kk : zW p l e R s m args below meth c nL b0 G k n Q h (pc + 1) lv (.int (f i.toNatClampNeg) :: st)) : zW p l e R s m args below meth c nL b0 G k n Q h pc lv (.int i :: .ref a :: st) := fun H locs ls h0 h1 h2 h3 h4 => by
  obtain ⟨q1, q2⟩ := z_inl h0 hf
  have he := z_Wget (h := h) q1 q2
  rw [hf] at he
  exact va_iald K.1 K.2.1 K.2.2.2.2.2.1 h2 (a - b0) t0 he ht hin hd (kk H locs ls h0 h1 h2 h3 h4)
theorem z_iast (K : zC p s m args c cc own nL b0 G) {a N t0 : Nat} {cA : ClassId} {f : Nat → Int32} {i x : Int32} (hf : h.2 a = .inl (cA, N, .inl f)) (ht : (zTys G)[t0]? = some (cA, .int)) (hin : vp_in i N) (hd : decode cc pc = .ok (.iastore, 1))
    (kk : zW p l e R s m args below meth c nL b0 G k n Q (h.1, va_up h.2 a (.inl (cA, N, .inl (upd f i.toNatClampNeg x)))) (pc + 1) lv st) : zW p l e R s m args below meth c nL b0 G k n Q h pc lv (.int x :: .int i :: .ref a :: st) := fun H locs ls h0 h1 h2 h3 h4 => by
  obtain ⟨q1, q2⟩ := z_inl h0 hf
  have he := z_Wget (h := h) q1 q2
  rw [hf] at he
  refine W.iast K.1 K.2.1 (h2 _ _ he) ((K.2.2.2.2.2.1.2 t0 _ ht).1 N (fun j => .int (f j))) (fun q => by cases q) (by show ¬ (i < 0 ∨ (arrV _ _ _).slots.size ≤ _); rw [arrV_size]; exact hin) rfl rfl hd fun H1 e z oq => ?_
  refine z_fin h0 h1 h2 h3 h4 q1 q2 ?_ z oq kk
  show H1[a]? = some (vp_cell _ _)
  rw [e]
  rw [vp_cell_i, vp_cell_i, arrV_store]
  congr 2
  funext q
  by_cases hq : q = i.toNatClampNeg
  · subst hq
    simp [updV, upd]
  · simp [updV, upd, hq]
theorem z_zald (K : zC p s m args c cc own nL b0 G) {a N t0 : Nat} {cA : ClassId} {f : Nat → Int32} {i : Int32} (hf : h.2 a = .inl (cA, N, .inl f)) (ht : (zTys G)[t0]? = some (cA, .boolean)) (hin : vp_in i N) (hd : decode cc pc = .ok (.baload, 1))
    (kk : zW p l e R s m args below meth c nL b0 G k n Q h (pc + 1) lv (.int (f i.toNatClampNeg) :: st)) : zW p l e R s m args below meth c nL b0 G k n Q h pc lv (.int i :: .ref a :: st) := fun H locs ls h0 h1 h2 h3 h4 => by
  obtain ⟨q1, q2⟩ := z_inl h0 hf
  have he := z_Wget (h := h) q1 q2
  rw [hf] at he
  exact va_zald K.1 K.2.1 K.2.2.2.2.2.1 h2 (a - b0) t0 he ht hin hd (kk H locs ls h0 h1 h2 h3 h4)
theorem z_zast (K : zC p s m args c cc own nL b0 G) {a N t0 : Nat} {cA : ClassId} {f : Nat → Int32} {i x : Int32} (hf : h.2 a = .inl (cA, N, .inl f)) (ht : (zTys G)[t0]? = some (cA, .boolean)) (hin : vp_in i N) (hx : x = 0 ∨ x = 1) (hd : decode cc pc = .ok (.bastore, 1))
    (kk : zW p l e R s m args below meth c nL b0 G k n Q (h.1, va_up h.2 a (.inl (cA, N, .inl (upd f i.toNatClampNeg x)))) (pc + 1) lv st) : zW p l e R s m args below meth c nL b0 G k n Q h pc lv (.int x :: .int i :: .ref a :: st) := fun H locs ls h0 h1 h2 h3 h4 => by
  obtain ⟨q1, q2⟩ := z_inl h0 hf
  have he := z_Wget (h := h) q1 q2
  rw [hf] at he
  have hnx : vp_nar .boolean x = x := by rcases hx with rfl | rfl <;> rfl
  refine W.zast K.1 K.2.1 (h2 _ _ he) ((K.2.2.2.2.2.1.2 t0 _ ht).1 N (fun j => .int (f j))) (fun q => by cases q) (by show ¬ (i < 0 ∨ (arrV _ _ _).slots.size ≤ _); rw [arrV_size]; exact hin) rfl rfl hd fun H1 e z oq => ?_
  refine z_fin h0 h1 h2 h3 h4 q1 q2 ?_ z oq kk
  show H1[a]? = some (vp_cell _ _)
  rw [e]
  rw [vp_cell_i, vp_cell_i, arrV_store]
  congr 2
  funext q
  by_cases hq : q = i.toNatClampNeg
  · subst hq
    rcases hx with rfl | rfl <;> (simp [updV, upd]; try rfl)
  · simp [updV, upd, hq]
theorem z_alen (K : zC p s m args c cc own nL b0 G) {a t0 : Nat} {cA : ClassId} {x : vp_A} {ty : FieldType} (hf : h.2 a = .inl (cA, x)) (ht : (zTys G)[t0]? = some (cA, ty)) (hd : decode cc pc = .ok (.arraylength, 1))
    (kk : zW p l e R s m args below meth c nL b0 G k n Q h (pc + 1) lv (.int (nI x.1) :: st)) : zW p l e R s m args below meth c nL b0 G k n Q h pc lv (.ref a :: st) := fun H locs ls h0 h1 h2 h3 h4 => by
  obtain ⟨q1, q2⟩ := z_inl h0 hf
  have he := z_Wget (h := h) q1 q2
  rw [hf] at he
  exact va_alen K.1 K.2.1 K.2.2.2.2.2.1 h2 (a - b0) t0 he ht rfl hd (kk H locs ls h0 h1 h2 h3 h4)
theorem z_aald (K : zC p s m args c cc own nL b0 G) {a N t0 : Nat} {cA : ClassId} {C : String} {f : Nat → Option Nat} {i : Int32} (hf : h.2 a = .inl (cA, N, .inr (.inr (.inr (.inr f))))) (ht : (zTys G)[t0]? = some (cA, .object C)) (hin : vp_in i N) (hd : decode cc pc = .ok (.aaload, 1))
    (kk : zW p l e R s m args below meth c nL b0 G k n Q h (pc + 1) lv (va_rf (f i.toNatClampNeg) :: st)) : zW p l e R s m args below meth c nL b0 G k n Q h pc lv (.int i :: .ref a :: st) := fun H locs ls h0 h1 h2 h3 h4 => by
  obtain ⟨q1, q2⟩ := z_inl h0 hf
  have he := z_Wget (h := h) q1 q2
  rw [hf] at he
  exact va_aldq K.1 K.2.1 K.2.2.2.2.2.1 h2 (a - b0) t0 he ht hin hd (kk H locs ls h0 h1 h2 h3 h4)
theorem z_finN {H1 : Heap} {H : Heap} {locs : List Loc} {ls : Array Slot} {v : va_E} {pc' k' n' : Nat} {st' : List Value} (h0 : z_wf b0 h) (h1 : H.size = h.1) (h2 : va_P G.1 vwCl (z_W b0 h) H) (h3 : va_S (z_A b0) s.heap H locs) (h4 : lv_has ls nL lv)
    (hat : va_at G.1 vwCl (h.1, v) H1) (z : H1.size = H.size + 1) (oq : ∀ q : Nat, q < H.size → H1[q]? = H[q]?) (kk : zW p l e R s m args below meth c nL b0 G k' n' Q (h.1 + 1, va_up h.2 h.1 v) pc' lv st') : W p l e R s m args below meth c H1 locs k' n' Q (F0 m pc' ls st') := by
  have hk : ∀ (k : Nat) (x : Nat × va_E), (z_W b0 h)[k]? = some x → H1[x.1]? = H[x.1]? := fun k x hx => oq x.1 ((h2 k x hx).lt)
  have g2 : va_P G.1 vwCl (z_W b0 h ++ [(h.1, v)]) H1 := (h2.kept hk).app (fun k x hx => by
    have hz : k < 1 := (List.getElem?_eq_some_iff.mp hx).1
    rw [show k = 0 by omega] at hx
    cases hx
    exact hat)
  rw [z_Wpush h0.1] at g2
  exact kk H1 locs ls (z_wf_push h0) (by rw [z, h1]) g2 ⟨Nat.le_trans h3.1 (by omega), fun x g1 g3 => (oq x (Nat.lt_of_lt_of_le g1 h3.1)).trans (h3.2.1 x g1 g3), h3.2.2⟩ h4
/-- what 'new' at 'index' of 'own' makes -/
def zNw (own : String) (index ci N : Nat) (fs : List Value) : Prop :=
  ∃ (C : String) (T : u_T) (ty : Nat → FieldType), zCl ci C T N ty ∧ Cond.classLink own index C ∈ zTb ∧ Cond.instantiable C N ∈ zTb ∧ Cond.initialized C ∈ zTb ∧ ∀ j, j < N → defaultValue (ty j) = vp_V fs j
theorem z_new (K : zC p s m args c cc own nL b0 G) {index ci N : Nat} {fs : List Value} (hF : zNw own index ci N fs) (hc : k + 1 ≤ R.cells) (hs : n + N ≤ R.slots) (hd : decode cc pc = .ok (.new index, 3))
    (kk : zW p l e R s m args below meth c nL b0 G (k + 1) (n + N) Q (h.1 + 1, va_up h.2 h.1 (.inr (ci, fs))) (pc + 3) lv (.ref h.1 :: st)) : zW p l e R s m args below meth c nL b0 G k n Q h pc lv st := fun H locs ls h0 h1 h2 h3 h4 => by
  obtain ⟨C, T, ty, hC, w1, w2, w3, hfs⟩ := hF
  have hts := K.2.2.2.2.1
  have hKn := K.2.2.2.2.2.1.1 ci _ hC.1
  refine W.newcK K.1 K.2.1 K.2.2.2.1 (hts _ w1) (hts _ w2) (hts _ w3) rfl hd hc hs hKn.2.1 rfl fun H1 kC hkC e1 z1 o1 => ?_
  rw [h1] at e1 ⊢
  exact z_finN (v := .inr (ci, fs)) h0 h1 h2 h3 h4 ⟨_, hC.1, (u_born ty hts hC.2.2.1 hKn hkC e1 hC.2.2.2.1).to hfs⟩ z1 o1 kk
theorem z_newi (K : zC p s m args c cc own nL b0 G) {t0 N : Nat} {cA : ClassId} {x : Int32} (ht : (zTys G)[t0]? = some (cA, .int)) (hw : Cond.arrayClass .int ∈ zTb) (hx : x = nI N) (hN : N < 100000000) (hc : k + 1 ≤ R.cells) (hs : n + N ≤ R.slots) (hd : decode cc pc = .ok (.newarray .int, 2))
    (kk : zW p l e R s m args below meth c nL b0 G (k + 1) (n + N) Q (h.1 + 1, va_up h.2 h.1 (.inl (cA, N, .inl (fun _ => 0)))) (pc + 2) lv (.ref h.1 :: st)) : zW p l e R s m args below meth c nL b0 G k n Q h pc lv (.int x :: st) := fun H locs ls h0 h1 h2 h3 h4 => by
  subst hx
  refine va_newaK (atype := .int) K.1 K.2.1 (K.2.2.2.2.1 _ hw) rfl hd rfl (nI_pos (by omega)) (nI_clamp (by omega)) (by show N * 4 ≤ _; omega) hc hs rfl fun H1 cB e1 z1 o1 hAr hNm => ?_
  have hcA : cB = cA := Option.some.inj (hNm.symm.trans (K.2.2.2.2.2.1.2 t0 _ ht).2)
  subst hcA
  rw [h1] at e1 ⊢
  refine z_finN h0 h1 h2 h3 h4 ?_ z1 o1 kk
  show H1[h.1]? = some (vp_cell _ _)
  rw [vp_cell_i]
  exact e1
theorem z_newz (K : zC p s m args c cc own nL b0 G) {t0 N : Nat} {cA : ClassId} {x : Int32} (ht : (zTys G)[t0]? = some (cA, .boolean)) (hw : Cond.arrayClass .boolean ∈ zTb) (hx : x = nI N) (hN : N < 100000000) (hc : k + 1 ≤ R.cells) (hs : n + N ≤ R.slots) (hd : decode cc pc = .ok (.newarray .boolean, 2))
    (kk : zW p l e R s m args below meth c nL b0 G (k + 1) (n + N) Q (h.1 + 1, va_up h.2 h.1 (.inl (cA, N, .inl (fun _ => 0)))) (pc + 2) lv (.ref h.1 :: st)) : zW p l e R s m args below meth c nL b0 G k n Q h pc lv (.int x :: st) := fun H locs ls h0 h1 h2 h3 h4 => by
  subst hx
  refine va_newaK (atype := .boolean) K.1 K.2.1 (K.2.2.2.2.1 _ hw) rfl hd rfl (nI_pos (by omega)) (nI_clamp (by omega)) (by show N * 1 ≤ _; omega) hc hs rfl fun H1 cB e1 z1 o1 hAr hNm => ?_
  have hcA : cB = cA := Option.some.inj (hNm.symm.trans (K.2.2.2.2.2.1.2 t0 _ ht).2)
  subst hcA
  rw [h1] at e1 ⊢
  refine z_finN h0 h1 h2 h3 h4 ?_ z1 o1 kk
  show H1[h.1]? = some (vp_cell _ _)
  rw [vp_cell_i]
  exact e1
/-! calls -/
abbrev zRm (d lw mc ms : Nat) : Room := { frames := d, cells := mc, slots := ms, locals := lw }
def zU (G : zG) (b0 : Nat) (h : zH) (U : State) : Prop := z_wf b0 h ∧ U.heap.size = h.1 ∧ va_P G.1 vwCl (z_W b0 h) U.heap ∧ va_K G.1 vwCl (zTys G) U ∧ (∀ w ∈ zN, va_Nw w U) ∧ zT (z_A b0) U U.heap
def zQ (G : zG) (b0 : Nat) (post : Option Value → zH → Prop) : Array Value → State → Outcome → State → Prop := fun _ st oc t => (∃ (r : Option Value) (h : zH), oc = .returned r ∧ post r h ∧ zU G b0 h t) ∧ va_F (z_A b0) st t
def zMet (l : Launch) (G : zG) (b0 : Nat) (y : MethodName) (code : ByteArray) (maxL : Nat) (ret : Option FieldType) (d lw mc ms : Nat) (as : List Value) (h : zH) (post : Option Value → zH → Prop) : Prop :=
  Met l y (.code y code maxL ret :: zTb) (zRm d lw mc ms) (va_Pc as (zU G b0 h)) (zQ G b0 post) mc ms (z_A b0)
theorem z_U {t : State} {H : Heap} {locs : List Loc} (K : zC p s m args c cc own nL b0 G) (h0 : z_wf b0 h) (h1 : H.size = h.1) (h2 : va_P G.1 vwCl (z_W b0 h) H) (h3 : va_S (z_A b0) s.heap H locs) (ht : t.heap = H) (hW : s.WarmedH t.vm) : zU G b0 h t :=
  ⟨h0, by rw [ht]; exact h1, by rw [ht]; exact h2, va_K.moved hW.alike K.2.2.2.2.2.1, fun w hw => zN_warm hw hW (K.2.2.2.2.2.2.1 w hw), by rw [ht]; exact zT_moved hW.alike (zT_kept K.2.2.2.2.2.2.2.1 (fun a ha hA => h3.2.1 a ha hA))⟩
theorem zU_blind (G : zG) (b0 : Nat) (h : zH) (as : List Value) : FrameBlind (va_Pc as (zU G b0 h)) := fun a U g mk q => by
  obtain ⟨q0, q1, q2, q3, q4, q5, q6⟩ := q
  exact ⟨q0, q1, q2, q3, va_K.moved (u := U) (U := U.calling g mk a) (Vm.Alike.refl U.vm) q4, fun w hw => va_Nw.same (zN_on hw) (u := U) rfl (q5 w hw), zT_moved (u := U) (U := U.calling g mk a) (Vm.Alike.refl U.vm) q6⟩
theorem z_after {H : Heap} {locs : List Loc} {ls : Array Slot} {mc ms : Nat} {stk : List Value} {a : Array Value} {post : Option Value → zH → Prop} (hr : va_Run p l e R s m args below meth c H locs k n mc ms (F0 m pc ls stk) st (zQ G b0 post a) (z_A b0)) (hS : va_S (z_A b0) s.heap H locs) (h4 : lv_has ls nL lv)
    (kk : ∀ (r : Option Value) (h' : zH), post r h' → zW p l e R s m args below meth c nL b0 G (k + mc) (n + ms) Q h' (pc + 3) lv (r.toList ++ st)) : W p l e R s m args below meth c H locs k n Q (F0 m pc ls stk) := by
  intro T hT X
  obtain ⟨v, st₀, t, T', L, h0, X', hL, e1, e2, ⟨⟨r, u, hv, hp, hb⟩, hz, hk⟩, stp⟩ := hr T hT X
  cases hv
  rw [h0] at hz hk
  obtain ⟨t2, a1, b1⟩ := kk v u hp T'.heap (locs ++ L) ls hb.1 (by rw [e1]; exact hb.2.1) (by rw [e1]; exact hb.2.2.1)
    ⟨Nat.le_trans hS.1 (by rw [e1]; exact hz), fun q h1 h2 => by rw [e1, hk q (Nat.lt_of_lt_of_le h1 hS.1) h2]; exact hS.2.1 q h1 h2, fun q hq => by
      rcases List.mem_append.mp hq with h | h
      · exact hS.2.2 q h
      · exact hL q h⟩ h4 T' rfl X'
  exact ⟨t2, stp t2 a1, b1⟩
/-- what a call of y at 'index' of 'own' needs of the tables: kind 0 virtual, 1 special, 2 static -/
def zCa (own : String) (index : Nat) (y : MethodName) (code : ByteArray) (maxL : Nat) (ret : Option FieldType) (np : Nat) : Prop :=
  (Cond.code y code maxL ret ∈ zTb ∧ Cond.initialized y.cls ∈ zTb ∧ y.cls ≠ "java/lang/invoke/MethodHandle" ∧ y.cls ≠ "java/lang/invoke/VarHandle" ∧ (parseMethodDescriptor y.desc).map (fun d => d.parameters.length) = some np) ∧
    (Cond.methodLink own index y ∈ zTb ∨ ∃ host, Cond.methodLinkNest own index y host ∈ zN)
theorem zGood {y : MethodName} {code : ByteArray} {maxL : Nat} {ret : Option FieldType} (hc : Cond.code y code maxL ret ∈ zTb) : GoodIn zTb (.code y code maxL ret :: zTb) := fun w hw => by
  rcases List.mem_cons.mp hw with rfl | h
  · exact zTb_good _ hc
  · exact zTb_good _ h
theorem z_callV (K : zC p s m args c cc own nL b0 G) {index ci np maxL d lw mc ms a : Nat} {y : MethodName} {code : ByteArray} {ret : Option FieldType} {As fs stk : List Value} {T : u_T} {N : Nat} {post : Option Value → zH → Prop} (hM : zMet l G b0 y code maxL ret d lw mc ms (.ref a :: As) h post) (hc : zCa own index y code maxL ret np)
    (hi : Cond.instanceMethod y ∈ zTb) (hsel : Cond.selects y.cls y y ∈ zTb) (hcl : vwCl[ci]? = some (y.cls, T, N)) (hci : ci < 4294967295) (hf : h.2 a = .inr (ci, fs)) (hn : As.length = np) (hst : stk = As.reverse ++ .ref a :: st) (hR : d + 1 ≤ R.frames ∧ 8 + (maxL + 11) + lw ≤ R.locals ∧ k + mc ≤ R.cells ∧ n + ms ≤ R.slots) (hW : (st.map fun v => v.category).sum ≤ 8) (hd : decode cc pc = .ok (.invokevirtual index, 3))
    (kk : ∀ (r : Option Value) (h' : zH), post r h' → zW p l e R s m args below meth c nL b0 G (k + mc) (n + ms) Q h' (pc + 3) lv (r.toList ++ st)) : zW p l e R s m args below meth c nL b0 G k n Q h pc lv stk := fun H locs ls h0 h1 h2 h3 h4 => by
  obtain ⟨q1, q2⟩ := z_in h0 hf hci
  have he := z_Wget (h := h) q1 q2
  rw [hf] at he
  have hts := K.2.2.2.2.1
  obtain ⟨⟨w1, w2, w3, w4, w5⟩, hl⟩ := hc
  have hpre : PreV s H y.cls a (va_Pc (.ref a :: As) (zU G b0 h)) As := ⟨zU_blind G b0 h _, va_recv K.2.2.2.2.2.1 h2 hcl he, fun U hU hWm => ⟨rfl, z_U K h0 h1 h2 h3 hU hWm⟩⟩
  rcases hl with hl | ⟨host, hl⟩
  · exact z_after (va_runV (As := As) (rest := st) ⟨K.1, K.2.1, K.2.2.1, K.2.2.2.1, hts⟩ hM ⟨callB_of np hts (zGood w1) rfl rfl rfl (hts _ w2) (hts _ hl) ⟨w3, w4, w5⟩ ⟨hR.1, hR.2.1⟩, hts _ hi, hts _ hsel⟩ hpre rfl hn h4.1 hst (lv_room hW) hd hR.2.2) h3 h4 kk
  · exact z_after (va_runVN (As := As) (rest := st) ⟨K.1, K.2.1, K.2.2.1, K.2.2.2.1, hts⟩ hM ⟨va_cnB np hts (zGood w1) rfl rfl rfl (K.2.2.2.2.2.2.1 _ hl) (hts _ w2) ⟨w3, w4, w5⟩ ⟨hR.1, hR.2.1⟩, hts _ hi, hts _ hsel⟩ hpre rfl hn h4.1 hst (lv_room hW) hd hR.2.2) h3 h4 kk
theorem z_callI (K : zC p s m args c cc own nL b0 G) {index np maxL d lw mc ms a : Nat} {y : MethodName} {code : ByteArray} {As stk : List Value} {post : Option Value → zH → Prop} (hM : zMet l G b0 y code maxL none d lw mc ms (.ref a :: As) h post) (hc : zCa own index y code maxL none np)
    (hi : Cond.instanceMethod y ∈ zTb) (hy : y.name = "<init>") (hn : As.length = np) (hst : stk = As.reverse ++ .ref a :: st) (hR : d + 1 ≤ R.frames ∧ 8 + (maxL + 11) + lw ≤ R.locals ∧ k + mc ≤ R.cells ∧ n + ms ≤ R.slots) (hW : (st.map fun v => v.category).sum ≤ 8) (hd : decode cc pc = .ok (.invokespecial index, 3))
    (kk : ∀ (r : Option Value) (h' : zH), post r h' → zW p l e R s m args below meth c nL b0 G (k + mc) (n + ms) Q h' (pc + 3) lv (r.toList ++ st)) : zW p l e R s m args below meth c nL b0 G k n Q h pc lv stk := fun H locs ls h0 h1 h2 h3 h4 => by
  have hts := K.2.2.2.2.1
  obtain ⟨⟨w1, w2, w3, w4, w5⟩, hl⟩ := hc
  have hpre : PreS s H (va_Pc (.ref a :: As) (zU G b0 h)) (.ref a :: As) := ⟨zU_blind G b0 h _, fun U hU hWm => ⟨rfl, z_U K h0 h1 h2 h3 hU hWm⟩⟩
  rcases hl with hl | ⟨host, hl⟩
  · exact z_after (va_runI (As := As) (rest := st) ⟨K.1, K.2.1, K.2.2.1, K.2.2.2.1, hts⟩ hM ⟨callB_of np hts (zGood w1) rfl rfl rfl (hts _ w2) (hts _ hl) ⟨w3, w4, w5⟩ ⟨hR.1, hR.2.1⟩, hy, hts _ hi⟩ hpre rfl hn h4.1 hst (lv_room hW) hd hR.2.2) h3 h4 kk
  · exact z_after (va_runIN (As := As) (rest := st) ⟨K.1, K.2.1, K.2.2.1, K.2.2.2.1, hts⟩ hM ⟨va_cnB np hts (zGood w1) rfl rfl rfl (K.2.2.2.2.2.2.1 _ hl) (hts _ w2) ⟨w3, w4, w5⟩ ⟨hR.1, hR.2.1⟩, hy, hts _ hi⟩ hpre rfl hn h4.1 hst (lv_room hW) hd hR.2.2) h3 h4 kk
theorem z_callS (K : zC p s m args c cc own nL b0 G) {index np maxL d lw mc ms : Nat} {y : MethodName} {code : ByteArray} {ret : Option FieldType} {As stk : List Value} {post : Option Value → zH → Prop} (hM : zMet l G b0 y code maxL ret d lw mc ms As h post) (hc : zCa own index y code maxL ret np)
    (hi : Cond.static y ∈ zTb) (hn : As.length = np) (hst : stk = As.reverse ++ st) (hR : d + 1 ≤ R.frames ∧ 8 + (maxL + 11) + lw ≤ R.locals ∧ k + mc ≤ R.cells ∧ n + ms ≤ R.slots) (hW : (st.map fun v => v.category).sum ≤ 8) (hd : decode cc pc = .ok (.invokestatic index, 3))
    (kk : ∀ (r : Option Value) (h' : zH), post r h' → zW p l e R s m args below meth c nL b0 G (k + mc) (n + ms) Q h' (pc + 3) lv (r.toList ++ st)) : zW p l e R s m args below meth c nL b0 G k n Q h pc lv stk := fun H locs ls h0 h1 h2 h3 h4 => by
  have hts := K.2.2.2.2.1
  obtain ⟨⟨w1, w2, w3, w4, w5⟩, hl⟩ := hc
  have hpre : PreS s H (va_Pc As (zU G b0 h)) As := ⟨zU_blind G b0 h _, fun U hU hWm => ⟨rfl, z_U K h0 h1 h2 h3 hU hWm⟩⟩
  rcases hl with hl | ⟨host, hl⟩
  · exact z_after (va_runS (As := As) (rest := st) ⟨K.1, K.2.1, K.2.2.1, K.2.2.2.1, hts⟩ hM ⟨callB_of np hts (zGood w1) rfl rfl rfl (hts _ w2) (hts _ hl) ⟨w3, w4, w5⟩ ⟨hR.1, hR.2.1⟩, hts _ hi⟩ hpre rfl hn h4.1 hst (lv_room hW) hd hR.2.2) h3 h4 kk
  · exact z_after (va_runSN (As := As) (rest := st) ⟨K.1, K.2.1, K.2.2.1, K.2.2.2.1, hts⟩ hM ⟨va_cnB np hts (zGood w1) rfl rfl rfl (K.2.2.2.2.2.2.1 _ hl) (hts _ w2) ⟨w3, w4, w5⟩ ⟨hR.1, hR.2.1⟩, hts _ hi, trivial⟩ hpre rfl hn h4.1 hst (lv_room hW) hd hR.2.2) h3 h4 kk
theorem z_obj (K : zC p s m args c cc own nL b0 G) {index a : Nat} (w1 : Cond.methodLink own index Lib.objectInit ∈ zTb) (w2 : Cond.instanceMethod Lib.objectInit ∈ zTb) (w3 : Cond.code Lib.objectInit ⟨#[0xb1]⟩ 1 none ∈ zTb) (hd : decode cc pc = .ok (.invokespecial index, 3)) (hR : 1 ≤ R.frames ∧ (st.map fun v => v.category).sum + 12 ≤ R.locals)
    (kk : zW p l e R s m args below meth c nL b0 G k n Q h (pc + 3) lv st) : zW p l e R s m args below meth c nL b0 G k n Q h pc lv (.ref a :: st) := fun H locs ls h0 h1 h2 h3 h4 => by
  have hts := K.2.2.2.2.1
  refine W.objInit K.1 K.2.1 K.2.2.2.1 (hts _ w1) (hts _ w2) (hts _ w3) rfl (by rw [K.2.2.1]; exact h4.1) rfl hd hR.1 (by show 2 * 0 + _ + 12 ≤ _; omega) ?_
  exact W.eq (g2 := F0 m (pc + 3) ls st) rfl (kk H locs ls h0 h1 h2 h3 h4)
/-! answers -/
variable {post : Option Value → zH → Prop}
theorem z_iret (K : zC p s m args c cc own nL b0 G) {v : Int32} (hr : meth.sig.returnType = some .int) (hlocks : meth.locks = false) (hd : decode cc pc = .ok (.ireturn, 1)) (hp : post (some (.int v)) h) : zW p l e R s m args below meth c nL b0 G k n (MQ below (zQ G b0 post) args s k n (z_A b0)) h pc lv [.int v] :=
  fun H locs ls h0 h1 h2 h3 h4 => W.iret K.1 K.2.1 hr (fun t ht hW => ⟨⟨_, h, rfl, hp, z_U K h0 h1 h2 h3 ht hW⟩, h3.F ht⟩) h3.2.2 hd hlocks
theorem z_zret (K : zC p s m args c cc own nL b0 G) {v : Int32} (hr : meth.sig.returnType = some .boolean) (hlocks : meth.locks = false) (hd : decode cc pc = .ok (.ireturn, 1)) (hv : narrow .boolean (.int v) = .int v) (hp : post (some (.int v)) h) : zW p l e R s m args below meth c nL b0 G k n (MQ below (zQ G b0 post) args s k n (z_A b0)) h pc lv [.int v] :=
  fun H locs ls h0 h1 h2 h3 h4 => W.zret K.1 K.2.1 hr hv (fun t ht hW => ⟨⟨_, h, rfl, hp, z_U K h0 h1 h2 h3 ht hW⟩, h3.F ht⟩) h3.2.2 hd hlocks
theorem z_lret (K : zC p s m args c cc own nL b0 G) {v : Int64} (hr : meth.sig.returnType = some .long) (hlocks : meth.locks = false) (hd : decode cc pc = .ok (.lreturn, 1)) (hp : post (some (.long v)) h) : zW p l e R s m args below meth c nL b0 G k n (MQ below (zQ G b0 post) args s k n (z_A b0)) h pc lv [.long v] :=
  fun H locs ls h0 h1 h2 h3 h4 => W.lret K.1 K.2.1 hr (fun t ht hW => ⟨⟨_, h, rfl, hp, z_U K h0 h1 h2 h3 ht hW⟩, h3.F ht⟩) h3.2.2 hd hlocks
theorem z_vret (K : zC p s m args c cc own nL b0 G) (hr : meth.sig.returnType = none) (hlocks : meth.locks = false) (hd : decode cc pc = .ok (.return_, 1)) (hp : post none h) : zW p l e R s m args below meth c nL b0 G k n (MQ below (zQ G b0 post) args s k n (z_A b0)) h pc lv [] :=
  fun H locs ls h0 h1 h2 h3 h4 => W.vret K.1 K.2.1 hr (fun t ht hW => ⟨⟨_, h, rfl, hp, z_U K h0 h1 h2 h3 ht hW⟩, h3.F ht⟩) h3.2.2 hd hlocks
theorem z_aret (K : zC p s m args c cc own nL b0 G) {a : Nat} {rt : FieldType} (hr : meth.sig.returnType = some rt) (hrt : (∃ n, rt = .object n) ∨ ∃ t, rt = .array t) (hlocks : meth.locks = false) (hd : decode cc pc = .ok (.areturn, 1)) (hp : post (some (.ref a)) h) : zW p l e R s m args below meth c nL b0 G k n (MQ below (zQ G b0 post) args s k n (z_A b0)) h pc lv [.ref a] :=
  fun H locs ls h0 h1 h2 h3 h4 => W.aret K.1 K.2.1 hr hrt (Or.inr ⟨a, rfl⟩) (fun t ht hW => ⟨⟨_, h, rfl, hp, z_U K h0 h1 h2 h3 ht hW⟩, h3.F ht⟩) h3.2.2 hd hlocks
end ZL
/-- a method's contract, out of the walk of its body -/
theorem z_met {l : Launch} {G : zG} {b0 d lw mc ms maxL : Nat} {y : MethodName} {cc : ByteArray} {ret : Option FieldType} {as : List Value} {h : zH} {post : Option Value → zH → Prop} (hy : plainName y.cls = true) (hl : (lg_sl as).length ≤ maxL)
    (body : ∀ (p : Program) (e : Env) (s : State) (m : MethodId) (below : List Frame) (meth : Method) (c : Code), zC p s m as.toArray c cc y.cls maxL b0 G → meth.sig.returnType = ret → meth.locks = false → meth.name = y.name →
      zW p l e (zRm d lw mc ms) s m as.toArray below meth c maxL b0 G 0 0 (MQ below (zQ G b0 post) as.toArray s mc ms (z_A b0)) h 0 (lv_args 0 as) []) : zMet l G b0 y cc maxL ret d lw mc ms as h post := by
  refine Met.ofW (cc := cc) (maxL := maxL) (ret := ret) hy rfl ?_
  intro p e s m args below meth c s₁ B hml hv
  obtain ⟨rfl, q0, q1, q2, q3, q4, q5⟩ := hv
  have hts := atoms_spec (ws := .code y cc maxL ret :: zTb) B.pre
  have hown : s.vm.findClass y.cls = some m.cls := findClass_of_methodNamed B.named
  have hb0 : b0 ≤ s.heap.size := by rw [q1]; exact q0.1
  have K : zC p s m as.toArray c cc y.cls maxL b0 G := ⟨B.exec, B.bytes, hml, hown, fun w hw => hts w (List.mem_cons_of_mem _ hw), q3, q4, q5, hb0⟩
  rw [lg_entry_eq]
  exact body p e s m below meth c K B.returns B.notSynchronized (name_of_methodNamed B.named B.method).1 s.heap [] _ q0 q1 q2 va_S.rf (lv_entry as hl)
end
section
theorem zTb_of {w : Cond} (h : w ∈ tables_1) (g : goodWord w = true) : w ∈ zTb := List.mem_filter.mpr ⟨List.mem_append_right _ h, g⟩
theorem zN_of {w : Cond} (h : w ∈ tables_1) (g : zNk w = true) : w ∈ zN := List.mem_filter.mpr ⟨List.mem_append_right _ h, g⟩
set_option maxRecDepth 20000 in
theorem zTb_sel {q : MethodName × Nat} (h : q ∈ lw_privs) (g : goodWord (Cond.selects q.1.cls q.1 q.1) = true) : Cond.selects q.1.cls q.1 q.1 ∈ zTb := List.mem_filter.mpr ⟨List.mem_append_left _ (List.mem_map.mpr ⟨q, h, rfl⟩), g⟩
theorem tm1 {w : Cond} (h : w ∈ tables_1_1) : w ∈ tables_1 := List.mem_append_left _ h
theorem tm2 {w : Cond} (h : w ∈ tables_1_2) : w ∈ tables_1 := List.mem_append_right _ (List.mem_append_left _ h)
theorem tm3 {w : Cond} (h : w ∈ tables_1_3) : w ∈ tables_1 := List.mem_append_right _ (List.mem_append_right _ (List.mem_append_left _ h))
theorem tm4 {w : Cond} (h : w ∈ tables_1_4) : w ∈ tables_1 := List.mem_append_right _ (List.mem_append_right _ (List.mem_append_right _ h))
theorem ws_M : ∀ w ∈ u_ws R_M F_M 5, w ∈ zTb := fun w hw => by
  obtain ⟨k, hk, rfl⟩ := List.mem_map.mp hw
  have hk2 := List.mem_range.mp hk
  match k, hk2 with
  | 0, _ => exact zTb_of (tm3 (List.mem_of_getElem? (i := 226) rfl)) rfl
  | 1, _ => exact zTb_of (tm3 (List.mem_of_getElem? (i := 228) rfl)) rfl
  | 2, _ => exact zTb_of (tm3 (List.mem_of_getElem? (i := 230) rfl)) rfl
  | 3, _ => exact zTb_of (tm3 (List.mem_of_getElem? (i := 232) rfl)) rfl
  | 4, _ => exact zTb_of (tm3 (List.mem_of_getElem? (i := 234) rfl)) rfl
set_option maxRecDepth 20000 in
theorem zcl_M : zCl 0 R_M F_M 5 t_M := ⟨rfl, by decide, ws_M, t_M_ok, n_M⟩
set_option maxRecDepth 20000 in
theorem ini_M : Cond.initialized R_M ∈ zTb := zTb_of (tm1 (List.mem_of_getElem? (i := 10) rfl)) rfl
theorem ws_N : ∀ w ∈ u_ws R_N F_N 3, w ∈ zTb := fun w hw => by
  obtain ⟨k, hk, rfl⟩ := List.mem_map.mp hw
  have hk2 := List.mem_range.mp hk
  match k, hk2 with
  | 0, _ => exact zTb_of (tm1 (List.mem_of_getElem? (i := 49) rfl)) rfl
  | 1, _ => exact zTb_of (tm1 (List.mem_of_getElem? (i := 51) rfl)) rfl
  | 2, _ => exact zTb_of (tm1 (List.mem_of_getElem? (i := 53) rfl)) rfl
set_option maxRecDepth 20000 in
theorem zcl_N : zCl 1 R_N F_N 3 t_N := ⟨rfl, by decide, ws_N, t_N_ok, n_N⟩
set_option maxRecDepth 20000 in
theorem ini_N : Cond.initialized R_N ∈ zTb := zTb_of (tm1 (List.mem_of_getElem? (i := 3) rfl)) rfl
theorem ws_P : ∀ w ∈ u_ws R_P F_P 6, w ∈ zTb := fun w hw => by
  obtain ⟨k, hk, rfl⟩ := List.mem_map.mp hw
  have hk2 := List.mem_range.mp hk
  match k, hk2 with
  | 0, _ => exact zTb_of (tm2 (List.mem_of_getElem? (i := 62) rfl)) rfl
  | 1, _ => exact zTb_of (tm2 (List.mem_of_getElem? (i := 64) rfl)) rfl
  | 2, _ => exact zTb_of (tm2 (List.mem_of_getElem? (i := 66) rfl)) rfl
  | 3, _ => exact zTb_of (tm2 (List.mem_of_getElem? (i := 68) rfl)) rfl
  | 4, _ => exact zTb_of (tm2 (List.mem_of_getElem? (i := 70) rfl)) rfl
  | 5, _ => exact zTb_of (tm2 (List.mem_of_getElem? (i := 72) rfl)) rfl
set_option maxRecDepth 20000 in
theorem zcl_P : zCl 2 R_P F_P 6 t_P := ⟨rfl, by decide, ws_P, t_P_ok, n_P⟩
set_option maxRecDepth 20000 in
theorem ini_P : Cond.initialized R_P ∈ zTb := zTb_of (tm1 (List.mem_of_getElem? (i := 9) rfl)) rfl
theorem ws_Q : ∀ w ∈ u_ws R_Q F_Q 10, w ∈ zTb := fun w hw => by
  obtain ⟨k, hk, rfl⟩ := List.mem_map.mp hw
  have hk2 := List.mem_range.mp hk
  match k, hk2 with
  | 0, _ => exact zTb_of (tm1 (List.mem_of_getElem? (i := 150) rfl)) rfl
  | 1, _ => exact zTb_of (tm1 (List.mem_of_getElem? (i := 152) rfl)) rfl
  | 2, _ => exact zTb_of (tm1 (List.mem_of_getElem? (i := 154) rfl)) rfl
  | 3, _ => exact zTb_of (tm1 (List.mem_of_getElem? (i := 156) rfl)) rfl
  | 4, _ => exact zTb_of (tm1 (List.mem_of_getElem? (i := 158) rfl)) rfl
  | 5, _ => exact zTb_of (tm1 (List.mem_of_getElem? (i := 160) rfl)) rfl
  | 6, _ => exact zTb_of (tm1 (List.mem_of_getElem? (i := 162) rfl)) rfl
  | 7, _ => exact zTb_of (tm1 (List.mem_of_getElem? (i := 164) rfl)) rfl
  | 8, _ => exact zTb_of (tm1 (List.mem_of_getElem? (i := 166) rfl)) rfl
  | 9, _ => exact zTb_of (tm1 (List.mem_of_getElem? (i := 168) rfl)) rfl
set_option maxRecDepth 20000 in
theorem zcl_Q : zCl 3 R_Q F_Q 10 t_Q := ⟨rfl, by decide, ws_Q, t_Q_ok, n_Q⟩
set_option maxRecDepth 20000 in
theorem ini_Q : Cond.initialized R_Q ∈ zTb := zTb_of (tm1 (List.mem_of_getElem? (i := 6) rfl)) rfl
theorem ws_R : ∀ w ∈ u_ws R_R F_R 5, w ∈ zTb := fun w hw => by
  obtain ⟨k, hk, rfl⟩ := List.mem_map.mp hw
  have hk2 := List.mem_range.mp hk
  match k, hk2 with
  | 0, _ => exact zTb_of (tm1 (List.mem_of_getElem? (i := 63) rfl)) rfl
  | 1, _ => exact zTb_of (tm1 (List.mem_of_getElem? (i := 65) rfl)) rfl
  | 2, _ => exact zTb_of (tm1 (List.mem_of_getElem? (i := 67) rfl)) rfl
  | 3, _ => exact zTb_of (tm1 (List.mem_of_getElem? (i := 69) rfl)) rfl
  | 4, _ => exact zTb_of (tm1 (List.mem_of_getElem? (i := 71) rfl)) rfl
set_option maxRecDepth 20000 in
theorem zcl_R : zCl 4 R_R F_R 5 t_R := ⟨rfl, by decide, ws_R, t_R_ok, n_R⟩
set_option maxRecDepth 20000 in
theorem ini_R : Cond.initialized R_R ∈ zTb := zTb_of (tm1 (List.mem_of_getElem? (i := 2) rfl)) rfl
theorem ws_D : ∀ w ∈ u_ws R_D F_D 10, w ∈ zTb := fun w hw => by
  obtain ⟨k, hk, rfl⟩ := List.mem_map.mp hw
  have hk2 := List.mem_range.mp hk
  match k, hk2 with
  | 0, _ => exact zTb_of (tm1 (List.mem_of_getElem? (i := 98) rfl)) rfl
  | 1, _ => exact zTb_of (tm1 (List.mem_of_getElem? (i := 100) rfl)) rfl
  | 2, _ => exact zTb_of (tm1 (List.mem_of_getElem? (i := 102) rfl)) rfl
  | 3, _ => exact zTb_of (tm1 (List.mem_of_getElem? (i := 104) rfl)) rfl
  | 4, _ => exact zTb_of (tm1 (List.mem_of_getElem? (i := 106) rfl)) rfl
  | 5, _ => exact zTb_of (tm1 (List.mem_of_getElem? (i := 108) rfl)) rfl
  | 6, _ => exact zTb_of (tm1 (List.mem_of_getElem? (i := 110) rfl)) rfl
  | 7, _ => exact zTb_of (tm1 (List.mem_of_getElem? (i := 112) rfl)) rfl
  | 8, _ => exact zTb_of (tm1 (List.mem_of_getElem? (i := 114) rfl)) rfl
  | 9, _ => exact zTb_of (tm1 (List.mem_of_getElem? (i := 116) rfl)) rfl
set_option maxRecDepth 20000 in
theorem zcl_D : zCl 5 R_D F_D 10 t_D := ⟨rfl, by decide, ws_D, t_D_ok, n_D⟩
set_option maxRecDepth 20000 in
theorem ini_D : Cond.initialized R_D ∈ zTb := zTb_of (tm1 (List.mem_of_getElem? (i := 5) rfl)) rfl
theorem ws_E : ∀ w ∈ u_ws R_E F_E 10, w ∈ zTb := fun w hw => by
  obtain ⟨k, hk, rfl⟩ := List.mem_map.mp hw
  have hk2 := List.mem_range.mp hk
  match k, hk2 with
  | 0, _ => exact zTb_of (tm2 (List.mem_of_getElem? (i := 13) rfl)) rfl
  | 1, _ => exact zTb_of (tm2 (List.mem_of_getElem? (i := 15) rfl)) rfl
  | 2, _ => exact zTb_of (tm2 (List.mem_of_getElem? (i := 17) rfl)) rfl
  | 3, _ => exact zTb_of (tm2 (List.mem_of_getElem? (i := 19) rfl)) rfl
  | 4, _ => exact zTb_of (tm2 (List.mem_of_getElem? (i := 21) rfl)) rfl
  | 5, _ => exact zTb_of (tm2 (List.mem_of_getElem? (i := 23) rfl)) rfl
  | 6, _ => exact zTb_of (tm2 (List.mem_of_getElem? (i := 25) rfl)) rfl
  | 7, _ => exact zTb_of (tm2 (List.mem_of_getElem? (i := 27) rfl)) rfl
  | 8, _ => exact zTb_of (tm2 (List.mem_of_getElem? (i := 29) rfl)) rfl
  | 9, _ => exact zTb_of (tm2 (List.mem_of_getElem? (i := 31) rfl)) rfl
set_option maxRecDepth 20000 in
theorem zcl_E : zCl 6 R_E F_E 10 t_E := ⟨rfl, by decide, ws_E, t_E_ok, n_E⟩
set_option maxRecDepth 20000 in
theorem ini_E : Cond.initialized R_E ∈ zTb := zTb_of (tm1 (List.mem_of_getElem? (i := 8) rfl)) rfl
theorem ws_C : ∀ w ∈ u_ws R_C F_C 13, w ∈ zTb := fun w hw => by
  obtain ⟨k, hk, rfl⟩ := List.mem_map.mp hw
  have hk2 := List.mem_range.mp hk
  match k, hk2 with
  | 0, _ => exact zTb_of (tm1 (List.mem_of_getElem? (i := 208) rfl)) rfl
  | 1, _ => exact zTb_of (tm1 (List.mem_of_getElem? (i := 210) rfl)) rfl
  | 2, _ => exact zTb_of (tm1 (List.mem_of_getElem? (i := 212) rfl)) rfl
  | 3, _ => exact zTb_of (tm1 (List.mem_of_getElem? (i := 214) rfl)) rfl
  | 4, _ => exact zTb_of (tm1 (List.mem_of_getElem? (i := 216) rfl)) rfl
  | 5, _ => exact zTb_of (tm1 (List.mem_of_getElem? (i := 218) rfl)) rfl
  | 6, _ => exact zTb_of (tm1 (List.mem_of_getElem? (i := 220) rfl)) rfl
  | 7, _ => exact zTb_of (tm1 (List.mem_of_getElem? (i := 222) rfl)) rfl
  | 8, _ => exact zTb_of (tm1 (List.mem_of_getElem? (i := 224) rfl)) rfl
  | 9, _ => exact zTb_of (tm1 (List.mem_of_getElem? (i := 226) rfl)) rfl
  | 10, _ => exact zTb_of (tm1 (List.mem_of_getElem? (i := 228) rfl)) rfl
  | 11, _ => exact zTb_of (tm1 (List.mem_of_getElem? (i := 230) rfl)) rfl
  | 12, _ => exact zTb_of (tm1 (List.mem_of_getElem? (i := 232) rfl)) rfl
set_option maxRecDepth 20000 in
theorem zcl_C : zCl 7 R_C F_C 13 t_C := ⟨rfl, by decide, ws_C, t_C_ok, n_C⟩
set_option maxRecDepth 20000 in
theorem ini_C : Cond.initialized R_C ∈ zTb := zTb_of (tm1 (List.mem_of_getElem? (i := 7) rfl)) rfl
theorem ws_X : ∀ w ∈ u_ws R_X F_X 7, w ∈ zTb := fun w hw => by
  obtain ⟨k, hk, rfl⟩ := List.mem_map.mp hw
  have hk2 := List.mem_range.mp hk
  match k, hk2 with
  | 0, _ => exact zTb_of (tm2 (List.mem_of_getElem? (i := 83) rfl)) rfl
  | 1, _ => exact zTb_of (tm2 (List.mem_of_getElem? (i := 85) rfl)) rfl
  | 2, _ => exact zTb_of (tm2 (List.mem_of_getElem? (i := 87) rfl)) rfl
  | 3, _ => exact zTb_of (tm2 (List.mem_of_getElem? (i := 89) rfl)) rfl
  | 4, _ => exact zTb_of (tm2 (List.mem_of_getElem? (i := 91) rfl)) rfl
  | 5, _ => exact zTb_of (tm2 (List.mem_of_getElem? (i := 93) rfl)) rfl
  | 6, _ => exact zTb_of (tm2 (List.mem_of_getElem? (i := 95) rfl)) rfl
set_option maxRecDepth 20000 in
theorem zcl_X : zCl 8 R_X F_X 7 t_X := ⟨rfl, by decide, ws_X, t_X_ok, n_X⟩
set_option maxRecDepth 20000 in
theorem ini_X : Cond.initialized R_X ∈ zTb := zTb_of (tm1 (List.mem_of_getElem? (i := 1) rfl)) rfl
set_option maxRecDepth 20000 in
theorem nw_L_7 : zNw R_law 7 8 7 [.null, .null, .null, .null, .null, .null, .null] := ⟨R_X, F_X, t_X, zcl_X, zTb_of (tm1 (List.mem_of_getElem? (i := 12) rfl)) rfl, zTb_of (tm1 (List.mem_of_getElem? (i := 13) rfl)) rfl, ini_X, by decide +kernel⟩
set_option maxRecDepth 20000 in
theorem nw_X_7 : zNw R_X 7 4 5 [.null, .null, .null, .null, .int 0] := ⟨R_R, F_R, t_R, zcl_R, zTb_of (tm1 (List.mem_of_getElem? (i := 20) rfl)) rfl, zTb_of (tm1 (List.mem_of_getElem? (i := 21) rfl)) rfl, ini_R, by decide +kernel⟩
set_option maxRecDepth 20000 in
theorem nw_R_21 : zNw R_R 21 1 3 [.null, .int 0, .int 0] := ⟨R_N, F_N, t_N, zcl_N, zTb_of (tm1 (List.mem_of_getElem? (i := 26) rfl)) rfl, zTb_of (tm1 (List.mem_of_getElem? (i := 27) rfl)) rfl, ini_N, by decide +kernel⟩
set_option maxRecDepth 20000 in
theorem fd_N_15 : zFd R_N 15 1 0 (.array .int) true := ⟨R_N, F_N, 3, t_N, zcl_N, by decide, rfl, rfl, Or.inl (zTb_of (tm1 (List.mem_of_getElem? (i := 35) rfl)) rfl)⟩
set_option maxRecDepth 20000 in
theorem ff_N_15 : zFf R_N 15 1 0 (.array .int) := ⟨R_N, F_N, 3, t_N, zcl_N, by decide, rfl, rfl, rfl, zTb_of (tm1 (List.mem_of_getElem? (i := 35) rfl)) rfl⟩
set_option maxRecDepth 20000 in
theorem fd_R_59 : zFd R_R 59 1 0 (.array .int) true := ⟨R_N, F_N, 3, t_N, zcl_N, by decide, rfl, rfl, Or.inl (zTb_of (tm1 (List.mem_of_getElem? (i := 36) rfl)) rfl)⟩
set_option maxRecDepth 20000 in
theorem fd_D_123 : zFd R_D 123 1 0 (.array .int) true := ⟨R_N, F_N, 3, t_N, zcl_N, by decide, rfl, rfl, Or.inl (zTb_of (tm1 (List.mem_of_getElem? (i := 37) rfl)) rfl)⟩
set_option maxRecDepth 20000 in
theorem fd_X_112 : zFd R_X 112 1 0 (.array .int) true := ⟨R_N, F_N, 3, t_N, zcl_N, by decide, rfl, rfl, Or.inl (zTb_of (tm1 (List.mem_of_getElem? (i := 38) rfl)) rfl)⟩
set_option maxRecDepth 20000 in
theorem fd_N_21 : zFd R_N 21 1 1 (.int) false := ⟨R_N, F_N, 3, t_N, zcl_N, by decide, rfl, rfl, Or.inl (zTb_of (tm1 (List.mem_of_getElem? (i := 39) rfl)) rfl)⟩
set_option maxRecDepth 20000 in
theorem fd_D_57 : zFd R_D 57 1 1 (.int) false := ⟨R_N, F_N, 3, t_N, zcl_N, by decide, rfl, rfl, Or.inl (zTb_of (tm1 (List.mem_of_getElem? (i := 40) rfl)) rfl)⟩
set_option maxRecDepth 20000 in
theorem fd_R_49 : zFd R_R 49 1 1 (.int) false := ⟨R_N, F_N, 3, t_N, zcl_N, by decide, rfl, rfl, Or.inl (zTb_of (tm1 (List.mem_of_getElem? (i := 41) rfl)) rfl)⟩
set_option maxRecDepth 20000 in
theorem fd_X_106 : zFd R_X 106 1 1 (.int) false := ⟨R_N, F_N, 3, t_N, zcl_N, by decide, rfl, rfl, Or.inl (zTb_of (tm1 (List.mem_of_getElem? (i := 42) rfl)) rfl)⟩
set_option maxRecDepth 20000 in
theorem fd_R_30 : zFd R_R 30 1 2 (.boolean) false := ⟨R_N, F_N, 3, t_N, zcl_N, by decide, rfl, rfl, Or.inl (zTb_of (tm1 (List.mem_of_getElem? (i := 43) rfl)) rfl)⟩
set_option maxRecDepth 20000 in
theorem fd_N_25 : zFd R_N 25 1 2 (.boolean) false := ⟨R_N, F_N, 3, t_N, zcl_N, by decide, rfl, rfl, Or.inl (zTb_of (tm1 (List.mem_of_getElem? (i := 44) rfl)) rfl)⟩
set_option maxRecDepth 20000 in
theorem fd_D_45 : zFd R_D 45 1 2 (.boolean) false := ⟨R_N, F_N, 3, t_N, zcl_N, by decide, rfl, rfl, Or.inl (zTb_of (tm1 (List.mem_of_getElem? (i := 45) rfl)) rfl)⟩
set_option maxRecDepth 20000 in
theorem fd_E_98 : zFd R_E 98 1 2 (.boolean) false := ⟨R_N, F_N, 3, t_N, zcl_N, by decide, rfl, rfl, Or.inl (zTb_of (tm1 (List.mem_of_getElem? (i := 46) rfl)) rfl)⟩
set_option maxRecDepth 20000 in
theorem fd_C_187 : zFd R_C 187 1 2 (.boolean) false := ⟨R_N, F_N, 3, t_N, zcl_N, by decide, rfl, rfl, Or.inl (zTb_of (tm1 (List.mem_of_getElem? (i := 47) rfl)) rfl)⟩
set_option maxRecDepth 20000 in
theorem fd_X_140 : zFd R_X 140 1 2 (.boolean) false := ⟨R_N, F_N, 3, t_N, zcl_N, by decide, rfl, rfl, Or.inl (zTb_of (tm1 (List.mem_of_getElem? (i := 48) rfl)) rfl)⟩
set_option maxRecDepth 20000 in
theorem fd_R_9 : zFd R_R 9 4 0 (.array .int) true := ⟨R_R, F_R, 5, t_R, zcl_R, by decide, rfl, rfl, Or.inl (zTb_of (tm1 (List.mem_of_getElem? (i := 57) rfl)) rfl)⟩
set_option maxRecDepth 20000 in
theorem ff_R_9 : zFf R_R 9 4 0 (.array .int) := ⟨R_R, F_R, 5, t_R, zcl_R, by decide, rfl, rfl, rfl, zTb_of (tm1 (List.mem_of_getElem? (i := 57) rfl)) rfl⟩
set_option maxRecDepth 20000 in
theorem fd_R_15 : zFd R_R 15 4 1 (.array .int) true := ⟨R_R, F_R, 5, t_R, zcl_R, by decide, rfl, rfl, Or.inl (zTb_of (tm1 (List.mem_of_getElem? (i := 58) rfl)) rfl)⟩
set_option maxRecDepth 20000 in
theorem ff_R_15 : zFf R_R 15 4 1 (.array .int) := ⟨R_R, F_R, 5, t_R, zcl_R, by decide, rfl, rfl, rfl, zTb_of (tm1 (List.mem_of_getElem? (i := 58) rfl)) rfl⟩
set_option maxRecDepth 20000 in
theorem fd_R_18 : zFd R_R 18 4 2 (.array .int) true := ⟨R_R, F_R, 5, t_R, zcl_R, by decide, rfl, rfl, Or.inl (zTb_of (tm1 (List.mem_of_getElem? (i := 59) rfl)) rfl)⟩
set_option maxRecDepth 20000 in
theorem ff_R_18 : zFf R_R 18 4 2 (.array .int) := ⟨R_R, F_R, 5, t_R, zcl_R, by decide, rfl, rfl, rfl, zTb_of (tm1 (List.mem_of_getElem? (i := 59) rfl)) rfl⟩
set_option maxRecDepth 20000 in
theorem fd_R_26 : zFd R_R 26 4 3 (.object "ChordPoints$Num") true := ⟨R_R, F_R, 5, t_R, zcl_R, by decide, rfl, rfl, Or.inl (zTb_of (tm1 (List.mem_of_getElem? (i := 60) rfl)) rfl)⟩
set_option maxRecDepth 20000 in
theorem ff_R_26 : zFf R_R 26 4 3 (.object "ChordPoints$Num") := ⟨R_R, F_R, 5, t_R, zcl_R, by decide, rfl, rfl, rfl, zTb_of (tm1 (List.mem_of_getElem? (i := 60) rfl)) rfl⟩
set_option maxRecDepth 20000 in
theorem fd_C_101 : zFd R_C 101 4 4 (.boolean) false := ⟨R_R, F_R, 5, t_R, zcl_R, by decide, rfl, rfl, Or.inl (zTb_of (tm1 (List.mem_of_getElem? (i := 61) rfl)) rfl)⟩
set_option maxRecDepth 20000 in
theorem fd_R_118 : zFd R_R 118 4 4 (.boolean) false := ⟨R_R, F_R, 5, t_R, zcl_R, by decide, rfl, rfl, Or.inl (zTb_of (tm1 (List.mem_of_getElem? (i := 62) rfl)) rfl)⟩
set_option maxRecDepth 20000 in
theorem nw_X_10 : zNw R_X 10 5 10 [.null, .null, .null, .null, .null, .null, .long 0, .long 0, .long 0, .long 0] := ⟨R_D, F_D, t_D, zcl_D, zTb_of (tm1 (List.mem_of_getElem? (i := 74) rfl)) rfl, zTb_of (tm1 (List.mem_of_getElem? (i := 75) rfl)) rfl, ini_D, by decide +kernel⟩
set_option maxRecDepth 20000 in
theorem nw_D_9 : zNw R_D 9 1 3 [.null, .int 0, .int 0] := ⟨R_N, F_N, t_N, zcl_N, zTb_of (tm1 (List.mem_of_getElem? (i := 80) rfl)) rfl, zTb_of (tm1 (List.mem_of_getElem? (i := 27) rfl)) rfl, ini_N, by decide +kernel⟩
set_option maxRecDepth 20000 in
theorem kc_D_36 : Cond.constantLong R_D 36 (2) ∈ zTb := zTb_of (tm1 (List.mem_of_getElem? (i := 82) rfl)) rfl
set_option maxRecDepth 20000 in
theorem kc_N_29 : Cond.constantLong R_N 29 (1000000000) ∈ zTb := zTb_of (tm1 (List.mem_of_getElem? (i := 87) rfl)) rfl
set_option maxRecDepth 20000 in
theorem fd_D_32 : zFd R_D 32 5 0 (.object "ChordPoints$Reckoner") true := ⟨R_D, F_D, 10, t_D, zcl_D, by decide, rfl, rfl, Or.inl (zTb_of (tm1 (List.mem_of_getElem? (i := 88) rfl)) rfl)⟩
set_option maxRecDepth 20000 in
theorem ff_D_32 : zFf R_D 32 5 0 (.object "ChordPoints$Reckoner") := ⟨R_D, F_D, 10, t_D, zcl_D, by decide, rfl, rfl, rfl, zTb_of (tm1 (List.mem_of_getElem? (i := 88) rfl)) rfl⟩
set_option maxRecDepth 20000 in
theorem fd_D_14 : zFd R_D 14 5 1 (.object "ChordPoints$Num") true := ⟨R_D, F_D, 10, t_D, zcl_D, by decide, rfl, rfl, Or.inl (zTb_of (tm1 (List.mem_of_getElem? (i := 89) rfl)) rfl)⟩
set_option maxRecDepth 20000 in
theorem ff_D_14 : zFf R_D 14 5 1 (.object "ChordPoints$Num") := ⟨R_D, F_D, 10, t_D, zcl_D, by decide, rfl, rfl, rfl, zTb_of (tm1 (List.mem_of_getElem? (i := 89) rfl)) rfl⟩
set_option maxRecDepth 20000 in
theorem fd_D_20 : zFd R_D 20 5 2 (.object "ChordPoints$Num") true := ⟨R_D, F_D, 10, t_D, zcl_D, by decide, rfl, rfl, Or.inl (zTb_of (tm1 (List.mem_of_getElem? (i := 90) rfl)) rfl)⟩
set_option maxRecDepth 20000 in
theorem ff_D_20 : zFf R_D 20 5 2 (.object "ChordPoints$Num") := ⟨R_D, F_D, 10, t_D, zcl_D, by decide, rfl, rfl, rfl, zTb_of (tm1 (List.mem_of_getElem? (i := 90) rfl)) rfl⟩
set_option maxRecDepth 20000 in
theorem fd_D_23 : zFd R_D 23 5 3 (.object "ChordPoints$Num") false := ⟨R_D, F_D, 10, t_D, zcl_D, by decide, rfl, rfl, Or.inl (zTb_of (tm1 (List.mem_of_getElem? (i := 91) rfl)) rfl)⟩
set_option maxRecDepth 20000 in
theorem fd_D_26 : zFd R_D 26 5 4 (.object "ChordPoints$Num") false := ⟨R_D, F_D, 10, t_D, zcl_D, by decide, rfl, rfl, Or.inl (zTb_of (tm1 (List.mem_of_getElem? (i := 92) rfl)) rfl)⟩
set_option maxRecDepth 20000 in
theorem fd_D_29 : zFd R_D 29 5 5 (.object "ChordPoints$Num") false := ⟨R_D, F_D, 10, t_D, zcl_D, by decide, rfl, rfl, Or.inl (zTb_of (tm1 (List.mem_of_getElem? (i := 93) rfl)) rfl)⟩
set_option maxRecDepth 20000 in
theorem fd_D_96 : zFd R_D 96 5 6 (.long) false := ⟨R_D, F_D, 10, t_D, zcl_D, by decide, rfl, rfl, Or.inl (zTb_of (tm1 (List.mem_of_getElem? (i := 94) rfl)) rfl)⟩
set_option maxRecDepth 20000 in
theorem fd_D_100 : zFd R_D 100 5 7 (.long) false := ⟨R_D, F_D, 10, t_D, zcl_D, by decide, rfl, rfl, Or.inl (zTb_of (tm1 (List.mem_of_getElem? (i := 95) rfl)) rfl)⟩
set_option maxRecDepth 20000 in
theorem fd_D_103 : zFd R_D 103 5 8 (.long) false := ⟨R_D, F_D, 10, t_D, zcl_D, by decide, rfl, rfl, Or.inl (zTb_of (tm1 (List.mem_of_getElem? (i := 96) rfl)) rfl)⟩
set_option maxRecDepth 20000 in
theorem fd_D_106 : zFd R_D 106 5 9 (.long) false := ⟨R_D, F_D, 10, t_D, zcl_D, by decide, rfl, rfl, Or.inl (zTb_of (tm1 (List.mem_of_getElem? (i := 97) rfl)) rfl)⟩
set_option maxRecDepth 20000 in
theorem nw_X_15 : zNw R_X 15 3 10 [.null, .null, .null, .null, .null, .null, .null, .null, .null, .null] := ⟨R_Q, F_Q, t_Q, zcl_Q, zTb_of (tm1 (List.mem_of_getElem? (i := 119) rfl)) rfl, zTb_of (tm1 (List.mem_of_getElem? (i := 120) rfl)) rfl, ini_Q, by decide +kernel⟩
set_option maxRecDepth 20000 in
theorem nw_Q_9 : zNw R_Q 9 1 3 [.null, .int 0, .int 0] := ⟨R_N, F_N, t_N, zcl_N, zTb_of (tm1 (List.mem_of_getElem? (i := 125) rfl)) rfl, zTb_of (tm1 (List.mem_of_getElem? (i := 27) rfl)) rfl, ini_N, by decide +kernel⟩
set_option maxRecDepth 20000 in
theorem fd_Q_14 : zFd R_Q 14 3 0 (.object "ChordPoints$Num") true := ⟨R_Q, F_Q, 10, t_Q, zcl_Q, by decide, rfl, rfl, Or.inl (zTb_of (tm1 (List.mem_of_getElem? (i := 127) rfl)) rfl)⟩
set_option maxRecDepth 20000 in
theorem ff_Q_14 : zFf R_Q 14 3 0 (.object "ChordPoints$Num") := ⟨R_Q, F_Q, 10, t_Q, zcl_Q, by decide, rfl, rfl, rfl, zTb_of (tm1 (List.mem_of_getElem? (i := 127) rfl)) rfl⟩
set_option maxRecDepth 20000 in
theorem fd_C_77 : zFd R_C 77 3 0 (.object "ChordPoints$Num") true := ⟨R_Q, F_Q, 10, t_Q, zcl_Q, by decide, rfl, rfl, Or.inl (zTb_of (tm1 (List.mem_of_getElem? (i := 128) rfl)) rfl)⟩
set_option maxRecDepth 20000 in
theorem fd_E_107 : zFd R_E 107 3 0 (.object "ChordPoints$Num") true := ⟨R_Q, F_Q, 10, t_Q, zcl_Q, by decide, rfl, rfl, Or.inl (zTb_of (tm1 (List.mem_of_getElem? (i := 129) rfl)) rfl)⟩
set_option maxRecDepth 20000 in
theorem fd_Q_20 : zFd R_Q 20 3 1 (.object "ChordPoints$Num") true := ⟨R_Q, F_Q, 10, t_Q, zcl_Q, by decide, rfl, rfl, Or.inl (zTb_of (tm1 (List.mem_of_getElem? (i := 130) rfl)) rfl)⟩
set_option maxRecDepth 20000 in
theorem ff_Q_20 : zFf R_Q 20 3 1 (.object "ChordPoints$Num") := ⟨R_Q, F_Q, 10, t_Q, zcl_Q, by decide, rfl, rfl, rfl, zTb_of (tm1 (List.mem_of_getElem? (i := 130) rfl)) rfl⟩
set_option maxRecDepth 20000 in
theorem fd_E_124 : zFd R_E 124 3 1 (.object "ChordPoints$Num") true := ⟨R_Q, F_Q, 10, t_Q, zcl_Q, by decide, rfl, rfl, Or.inl (zTb_of (tm1 (List.mem_of_getElem? (i := 131) rfl)) rfl)⟩
set_option maxRecDepth 20000 in
theorem fd_Q_23 : zFd R_Q 23 3 2 (.object "ChordPoints$Num") true := ⟨R_Q, F_Q, 10, t_Q, zcl_Q, by decide, rfl, rfl, Or.inl (zTb_of (tm1 (List.mem_of_getElem? (i := 132) rfl)) rfl)⟩
set_option maxRecDepth 20000 in
theorem ff_Q_23 : zFf R_Q 23 3 2 (.object "ChordPoints$Num") := ⟨R_Q, F_Q, 10, t_Q, zcl_Q, by decide, rfl, rfl, rfl, zTb_of (tm1 (List.mem_of_getElem? (i := 132) rfl)) rfl⟩
set_option maxRecDepth 20000 in
theorem fd_C_88 : zFd R_C 88 3 2 (.object "ChordPoints$Num") true := ⟨R_Q, F_Q, 10, t_Q, zcl_Q, by decide, rfl, rfl, Or.inl (zTb_of (tm1 (List.mem_of_getElem? (i := 133) rfl)) rfl)⟩
set_option maxRecDepth 20000 in
theorem fd_E_115 : zFd R_E 115 3 2 (.object "ChordPoints$Num") true := ⟨R_Q, F_Q, 10, t_Q, zcl_Q, by decide, rfl, rfl, Or.inl (zTb_of (tm1 (List.mem_of_getElem? (i := 134) rfl)) rfl)⟩
set_option maxRecDepth 20000 in
theorem fd_Q_26 : zFd R_Q 26 3 3 (.object "ChordPoints$Num") true := ⟨R_Q, F_Q, 10, t_Q, zcl_Q, by decide, rfl, rfl, Or.inl (zTb_of (tm1 (List.mem_of_getElem? (i := 135) rfl)) rfl)⟩
set_option maxRecDepth 20000 in
theorem ff_Q_26 : zFf R_Q 26 3 3 (.object "ChordPoints$Num") := ⟨R_Q, F_Q, 10, t_Q, zcl_Q, by decide, rfl, rfl, rfl, zTb_of (tm1 (List.mem_of_getElem? (i := 135) rfl)) rfl⟩
set_option maxRecDepth 20000 in
theorem fd_E_118 : zFd R_E 118 3 3 (.object "ChordPoints$Num") true := ⟨R_Q, F_Q, 10, t_Q, zcl_Q, by decide, rfl, rfl, Or.inl (zTb_of (tm1 (List.mem_of_getElem? (i := 136) rfl)) rfl)⟩
set_option maxRecDepth 20000 in
theorem fd_C_153 : zFd R_C 153 3 3 (.object "ChordPoints$Num") true := ⟨R_Q, F_Q, 10, t_Q, zcl_Q, by decide, rfl, rfl, Or.inl (zTb_of (tm1 (List.mem_of_getElem? (i := 137) rfl)) rfl)⟩
set_option maxRecDepth 20000 in
theorem fd_Q_29 : zFd R_Q 29 3 4 (.object "ChordPoints$Num") true := ⟨R_Q, F_Q, 10, t_Q, zcl_Q, by decide, rfl, rfl, Or.inl (zTb_of (tm1 (List.mem_of_getElem? (i := 138) rfl)) rfl)⟩
set_option maxRecDepth 20000 in
theorem ff_Q_29 : zFf R_Q 29 3 4 (.object "ChordPoints$Num") := ⟨R_Q, F_Q, 10, t_Q, zcl_Q, by decide, rfl, rfl, rfl, zTb_of (tm1 (List.mem_of_getElem? (i := 138) rfl)) rfl⟩
set_option maxRecDepth 20000 in
theorem fd_E_121 : zFd R_E 121 3 4 (.object "ChordPoints$Num") true := ⟨R_Q, F_Q, 10, t_Q, zcl_Q, by decide, rfl, rfl, Or.inl (zTb_of (tm1 (List.mem_of_getElem? (i := 139) rfl)) rfl)⟩
set_option maxRecDepth 20000 in
theorem fd_Q_32 : zFd R_Q 32 3 5 (.object "ChordPoints$Num") true := ⟨R_Q, F_Q, 10, t_Q, zcl_Q, by decide, rfl, rfl, Or.inl (zTb_of (tm1 (List.mem_of_getElem? (i := 140) rfl)) rfl)⟩
set_option maxRecDepth 20000 in
theorem ff_Q_32 : zFf R_Q 32 3 5 (.object "ChordPoints$Num") := ⟨R_Q, F_Q, 10, t_Q, zcl_Q, by decide, rfl, rfl, rfl, zTb_of (tm1 (List.mem_of_getElem? (i := 140) rfl)) rfl⟩
set_option maxRecDepth 20000 in
theorem fd_C_150 : zFd R_C 150 3 5 (.object "ChordPoints$Num") true := ⟨R_Q, F_Q, 10, t_Q, zcl_Q, by decide, rfl, rfl, Or.inl (zTb_of (tm1 (List.mem_of_getElem? (i := 141) rfl)) rfl)⟩
set_option maxRecDepth 20000 in
theorem fd_Q_35 : zFd R_Q 35 3 6 (.object "ChordPoints$Num") true := ⟨R_Q, F_Q, 10, t_Q, zcl_Q, by decide, rfl, rfl, Or.inl (zTb_of (tm1 (List.mem_of_getElem? (i := 142) rfl)) rfl)⟩
set_option maxRecDepth 20000 in
theorem ff_Q_35 : zFf R_Q 35 3 6 (.object "ChordPoints$Num") := ⟨R_Q, F_Q, 10, t_Q, zcl_Q, by decide, rfl, rfl, rfl, zTb_of (tm1 (List.mem_of_getElem? (i := 142) rfl)) rfl⟩
set_option maxRecDepth 20000 in
theorem fd_C_156 : zFd R_C 156 3 6 (.object "ChordPoints$Num") true := ⟨R_Q, F_Q, 10, t_Q, zcl_Q, by decide, rfl, rfl, Or.inl (zTb_of (tm1 (List.mem_of_getElem? (i := 143) rfl)) rfl)⟩
set_option maxRecDepth 20000 in
theorem fd_Q_38 : zFd R_Q 38 3 7 (.object "ChordPoints$Num") true := ⟨R_Q, F_Q, 10, t_Q, zcl_Q, by decide, rfl, rfl, Or.inl (zTb_of (tm1 (List.mem_of_getElem? (i := 144) rfl)) rfl)⟩
set_option maxRecDepth 20000 in
theorem ff_Q_38 : zFf R_Q 38 3 7 (.object "ChordPoints$Num") := ⟨R_Q, F_Q, 10, t_Q, zcl_Q, by decide, rfl, rfl, rfl, zTb_of (tm1 (List.mem_of_getElem? (i := 144) rfl)) rfl⟩
set_option maxRecDepth 20000 in
theorem fd_C_165 : zFd R_C 165 3 7 (.object "ChordPoints$Num") true := ⟨R_Q, F_Q, 10, t_Q, zcl_Q, by decide, rfl, rfl, Or.inl (zTb_of (tm1 (List.mem_of_getElem? (i := 145) rfl)) rfl)⟩
set_option maxRecDepth 20000 in
theorem fd_Q_41 : zFd R_Q 41 3 8 (.object "ChordPoints$Num") true := ⟨R_Q, F_Q, 10, t_Q, zcl_Q, by decide, rfl, rfl, Or.inl (zTb_of (tm1 (List.mem_of_getElem? (i := 146) rfl)) rfl)⟩
set_option maxRecDepth 20000 in
theorem ff_Q_41 : zFf R_Q 41 3 8 (.object "ChordPoints$Num") := ⟨R_Q, F_Q, 10, t_Q, zcl_Q, by decide, rfl, rfl, rfl, zTb_of (tm1 (List.mem_of_getElem? (i := 146) rfl)) rfl⟩
set_option maxRecDepth 20000 in
theorem fd_C_159 : zFd R_C 159 3 8 (.object "ChordPoints$Num") true := ⟨R_Q, F_Q, 10, t_Q, zcl_Q, by decide, rfl, rfl, Or.inl (zTb_of (tm1 (List.mem_of_getElem? (i := 147) rfl)) rfl)⟩
set_option maxRecDepth 20000 in
theorem fd_Q_44 : zFd R_Q 44 3 9 (.object "ChordPoints$Num") true := ⟨R_Q, F_Q, 10, t_Q, zcl_Q, by decide, rfl, rfl, Or.inl (zTb_of (tm1 (List.mem_of_getElem? (i := 148) rfl)) rfl)⟩
set_option maxRecDepth 20000 in
theorem ff_Q_44 : zFf R_Q 44 3 9 (.object "ChordPoints$Num") := ⟨R_Q, F_Q, 10, t_Q, zcl_Q, by decide, rfl, rfl, rfl, zTb_of (tm1 (List.mem_of_getElem? (i := 148) rfl)) rfl⟩
set_option maxRecDepth 20000 in
theorem fd_C_162 : zFd R_C 162 3 9 (.object "ChordPoints$Num") true := ⟨R_Q, F_Q, 10, t_Q, zcl_Q, by decide, rfl, rfl, Or.inl (zTb_of (tm1 (List.mem_of_getElem? (i := 149) rfl)) rfl)⟩
set_option maxRecDepth 20000 in
theorem kc_Q_51 : Cond.constantLong R_Q 51 (2) ∈ zTb := zTb_of (tm1 (List.mem_of_getElem? (i := 176) rfl)) rfl
set_option maxRecDepth 20000 in
theorem kc_Q_63 : Cond.constantLong R_Q 63 (4) ∈ zTb := zTb_of (tm1 (List.mem_of_getElem? (i := 183) rfl)) rfl
set_option maxRecDepth 20000 in
theorem nw_X_28 : zNw R_X 28 7 13 [.null, .null, .null, .null, .null, .null, .null, .null, .null, .null, .null, .null, .null] := ⟨R_C, F_C, t_C, zcl_C, zTb_of (tm1 (List.mem_of_getElem? (i := 187) rfl)) rfl, zTb_of (tm1 (List.mem_of_getElem? (i := 188) rfl)) rfl, ini_C, by decide +kernel⟩
set_option maxRecDepth 20000 in
theorem nw_C_9 : zNw R_C 9 1 3 [.null, .int 0, .int 0] := ⟨R_N, F_N, t_N, zcl_N, zTb_of (tm1 (List.mem_of_getElem? (i := 193) rfl)) rfl, zTb_of (tm1 (List.mem_of_getElem? (i := 27) rfl)) rfl, ini_N, by decide +kernel⟩
set_option maxRecDepth 20000 in
theorem fd_C_47 : zFd R_C 47 7 0 (.object "ChordPoints$Equation") true := ⟨R_C, F_C, 13, t_C, zcl_C, by decide, rfl, rfl, Or.inl (zTb_of (tm1 (List.mem_of_getElem? (i := 195) rfl)) rfl)⟩
set_option maxRecDepth 20000 in
theorem ff_C_47 : zFf R_C 47 7 0 (.object "ChordPoints$Equation") := ⟨R_C, F_C, 13, t_C, zcl_C, by decide, rfl, rfl, rfl, zTb_of (tm1 (List.mem_of_getElem? (i := 195) rfl)) rfl⟩
set_option maxRecDepth 20000 in
theorem fd_C_51 : zFd R_C 51 7 1 (.object "ChordPoints$Reckoner") true := ⟨R_C, F_C, 13, t_C, zcl_C, by decide, rfl, rfl, Or.inl (zTb_of (tm1 (List.mem_of_getElem? (i := 196) rfl)) rfl)⟩
set_option maxRecDepth 20000 in
theorem ff_C_51 : zFf R_C 51 7 1 (.object "ChordPoints$Reckoner") := ⟨R_C, F_C, 13, t_C, zcl_C, by decide, rfl, rfl, rfl, zTb_of (tm1 (List.mem_of_getElem? (i := 196) rfl)) rfl⟩
set_option maxRecDepth 20000 in
theorem fd_C_55 : zFd R_C 55 7 2 (.object "ChordPoints$Divisors") true := ⟨R_C, F_C, 13, t_C, zcl_C, by decide, rfl, rfl, Or.inl (zTb_of (tm1 (List.mem_of_getElem? (i := 197) rfl)) rfl)⟩
set_option maxRecDepth 20000 in
theorem ff_C_55 : zFf R_C 55 7 2 (.object "ChordPoints$Divisors") := ⟨R_C, F_C, 13, t_C, zcl_C, by decide, rfl, rfl, rfl, zTb_of (tm1 (List.mem_of_getElem? (i := 197) rfl)) rfl⟩
set_option maxRecDepth 20000 in
theorem fd_C_14 : zFd R_C 14 7 3 (.object "ChordPoints$Num") true := ⟨R_C, F_C, 13, t_C, zcl_C, by decide, rfl, rfl, Or.inl (zTb_of (tm1 (List.mem_of_getElem? (i := 198) rfl)) rfl)⟩
set_option maxRecDepth 20000 in
theorem ff_C_14 : zFf R_C 14 7 3 (.object "ChordPoints$Num") := ⟨R_C, F_C, 13, t_C, zcl_C, by decide, rfl, rfl, rfl, zTb_of (tm1 (List.mem_of_getElem? (i := 198) rfl)) rfl⟩
set_option maxRecDepth 20000 in
theorem fd_C_20 : zFd R_C 20 7 4 (.object "ChordPoints$Num") true := ⟨R_C, F_C, 13, t_C, zcl_C, by decide, rfl, rfl, Or.inl (zTb_of (tm1 (List.mem_of_getElem? (i := 199) rfl)) rfl)⟩
set_option maxRecDepth 20000 in
theorem ff_C_20 : zFf R_C 20 7 4 (.object "ChordPoints$Num") := ⟨R_C, F_C, 13, t_C, zcl_C, by decide, rfl, rfl, rfl, zTb_of (tm1 (List.mem_of_getElem? (i := 199) rfl)) rfl⟩
set_option maxRecDepth 20000 in
theorem fd_C_23 : zFd R_C 23 7 5 (.object "ChordPoints$Num") true := ⟨R_C, F_C, 13, t_C, zcl_C, by decide, rfl, rfl, Or.inl (zTb_of (tm1 (List.mem_of_getElem? (i := 200) rfl)) rfl)⟩
set_option maxRecDepth 20000 in
theorem ff_C_23 : zFf R_C 23 7 5 (.object "ChordPoints$Num") := ⟨R_C, F_C, 13, t_C, zcl_C, by decide, rfl, rfl, rfl, zTb_of (tm1 (List.mem_of_getElem? (i := 200) rfl)) rfl⟩
set_option maxRecDepth 20000 in
theorem fd_C_26 : zFd R_C 26 7 6 (.object "ChordPoints$Num") true := ⟨R_C, F_C, 13, t_C, zcl_C, by decide, rfl, rfl, Or.inl (zTb_of (tm1 (List.mem_of_getElem? (i := 201) rfl)) rfl)⟩
set_option maxRecDepth 20000 in
theorem ff_C_26 : zFf R_C 26 7 6 (.object "ChordPoints$Num") := ⟨R_C, F_C, 13, t_C, zcl_C, by decide, rfl, rfl, rfl, zTb_of (tm1 (List.mem_of_getElem? (i := 201) rfl)) rfl⟩
set_option maxRecDepth 20000 in
theorem fd_C_29 : zFd R_C 29 7 7 (.object "ChordPoints$Num") true := ⟨R_C, F_C, 13, t_C, zcl_C, by decide, rfl, rfl, Or.inl (zTb_of (tm1 (List.mem_of_getElem? (i := 202) rfl)) rfl)⟩
set_option maxRecDepth 20000 in
theorem ff_C_29 : zFf R_C 29 7 7 (.object "ChordPoints$Num") := ⟨R_C, F_C, 13, t_C, zcl_C, by decide, rfl, rfl, rfl, zTb_of (tm1 (List.mem_of_getElem? (i := 202) rfl)) rfl⟩
set_option maxRecDepth 20000 in
theorem fd_C_32 : zFd R_C 32 7 8 (.object "ChordPoints$Num") true := ⟨R_C, F_C, 13, t_C, zcl_C, by decide, rfl, rfl, Or.inl (zTb_of (tm1 (List.mem_of_getElem? (i := 203) rfl)) rfl)⟩
set_option maxRecDepth 20000 in
theorem ff_C_32 : zFf R_C 32 7 8 (.object "ChordPoints$Num") := ⟨R_C, F_C, 13, t_C, zcl_C, by decide, rfl, rfl, rfl, zTb_of (tm1 (List.mem_of_getElem? (i := 203) rfl)) rfl⟩
set_option maxRecDepth 20000 in
theorem fd_C_35 : zFd R_C 35 7 9 (.object "ChordPoints$Num") true := ⟨R_C, F_C, 13, t_C, zcl_C, by decide, rfl, rfl, Or.inl (zTb_of (tm1 (List.mem_of_getElem? (i := 204) rfl)) rfl)⟩
set_option maxRecDepth 20000 in
theorem ff_C_35 : zFf R_C 35 7 9 (.object "ChordPoints$Num") := ⟨R_C, F_C, 13, t_C, zcl_C, by decide, rfl, rfl, rfl, zTb_of (tm1 (List.mem_of_getElem? (i := 204) rfl)) rfl⟩
set_option maxRecDepth 20000 in
theorem fd_C_38 : zFd R_C 38 7 10 (.object "ChordPoints$Num") true := ⟨R_C, F_C, 13, t_C, zcl_C, by decide, rfl, rfl, Or.inl (zTb_of (tm1 (List.mem_of_getElem? (i := 205) rfl)) rfl)⟩
set_option maxRecDepth 20000 in
theorem ff_C_38 : zFf R_C 38 7 10 (.object "ChordPoints$Num") := ⟨R_C, F_C, 13, t_C, zcl_C, by decide, rfl, rfl, rfl, zTb_of (tm1 (List.mem_of_getElem? (i := 205) rfl)) rfl⟩
set_option maxRecDepth 20000 in
theorem fd_C_41 : zFd R_C 41 7 11 (.object "ChordPoints$Num") true := ⟨R_C, F_C, 13, t_C, zcl_C, by decide, rfl, rfl, Or.inl (zTb_of (tm1 (List.mem_of_getElem? (i := 206) rfl)) rfl)⟩
set_option maxRecDepth 20000 in
theorem ff_C_41 : zFf R_C 41 7 11 (.object "ChordPoints$Num") := ⟨R_C, F_C, 13, t_C, zcl_C, by decide, rfl, rfl, rfl, zTb_of (tm1 (List.mem_of_getElem? (i := 206) rfl)) rfl⟩
set_option maxRecDepth 20000 in
theorem fd_C_44 : zFd R_C 44 7 12 (.object "ChordPoints$Num") true := ⟨R_C, F_C, 13, t_C, zcl_C, by decide, rfl, rfl, Or.inl (zTb_of (tm1 (List.mem_of_getElem? (i := 207) rfl)) rfl)⟩
set_option maxRecDepth 20000 in
theorem ff_C_44 : zFf R_C 44 7 12 (.object "ChordPoints$Num") := ⟨R_C, F_C, 13, t_C, zcl_C, by decide, rfl, rfl, rfl, zTb_of (tm1 (List.mem_of_getElem? (i := 207) rfl)) rfl⟩
set_option maxRecDepth 20000 in
theorem nw_X_37 : zNw R_X 37 6 10 [.null, .null, .null, .null, .null, .null, .null, .null, .null, .null] := ⟨R_E, F_E, t_E, zcl_E, zTb_of (tm1 (List.mem_of_getElem? (i := 235) rfl)) rfl, zTb_of (tm1 (List.mem_of_getElem? (i := 236) rfl)) rfl, ini_E, by decide +kernel⟩
set_option maxRecDepth 20000 in
theorem nw_E_9 : zNw R_E 9 1 3 [.null, .int 0, .int 0] := ⟨R_N, F_N, t_N, zcl_N, zTb_of (tm2 (List.mem_of_getElem? (i := 1) rfl)) rfl, zTb_of (tm1 (List.mem_of_getElem? (i := 27) rfl)) rfl, ini_N, by decide +kernel⟩
set_option maxRecDepth 20000 in
theorem fd_E_38 : zFd R_E 38 6 0 (.object "ChordPoints$Equation") true := ⟨R_E, F_E, 10, t_E, zcl_E, by decide, rfl, rfl, Or.inl (zTb_of (tm2 (List.mem_of_getElem? (i := 3) rfl)) rfl)⟩
set_option maxRecDepth 20000 in
theorem ff_E_38 : zFf R_E 38 6 0 (.object "ChordPoints$Equation") := ⟨R_E, F_E, 10, t_E, zcl_E, by decide, rfl, rfl, rfl, zTb_of (tm2 (List.mem_of_getElem? (i := 3) rfl)) rfl⟩
set_option maxRecDepth 20000 in
theorem fd_E_42 : zFd R_E 42 6 1 (.object "ChordPoints$Reckoner") true := ⟨R_E, F_E, 10, t_E, zcl_E, by decide, rfl, rfl, Or.inl (zTb_of (tm2 (List.mem_of_getElem? (i := 4) rfl)) rfl)⟩
set_option maxRecDepth 20000 in
theorem ff_E_42 : zFf R_E 42 6 1 (.object "ChordPoints$Reckoner") := ⟨R_E, F_E, 10, t_E, zcl_E, by decide, rfl, rfl, rfl, zTb_of (tm2 (List.mem_of_getElem? (i := 4) rfl)) rfl⟩
set_option maxRecDepth 20000 in
theorem fd_E_46 : zFd R_E 46 6 2 (.object "ChordPoints$Divisors") true := ⟨R_E, F_E, 10, t_E, zcl_E, by decide, rfl, rfl, Or.inl (zTb_of (tm2 (List.mem_of_getElem? (i := 5) rfl)) rfl)⟩
set_option maxRecDepth 20000 in
theorem ff_E_46 : zFf R_E 46 6 2 (.object "ChordPoints$Divisors") := ⟨R_E, F_E, 10, t_E, zcl_E, by decide, rfl, rfl, rfl, zTb_of (tm2 (List.mem_of_getElem? (i := 5) rfl)) rfl⟩
set_option maxRecDepth 20000 in
theorem fd_E_14 : zFd R_E 14 6 3 (.object "ChordPoints$Num") true := ⟨R_E, F_E, 10, t_E, zcl_E, by decide, rfl, rfl, Or.inl (zTb_of (tm2 (List.mem_of_getElem? (i := 6) rfl)) rfl)⟩
set_option maxRecDepth 20000 in
theorem ff_E_14 : zFf R_E 14 6 3 (.object "ChordPoints$Num") := ⟨R_E, F_E, 10, t_E, zcl_E, by decide, rfl, rfl, rfl, zTb_of (tm2 (List.mem_of_getElem? (i := 6) rfl)) rfl⟩
set_option maxRecDepth 20000 in
theorem fd_E_20 : zFd R_E 20 6 4 (.object "ChordPoints$Num") true := ⟨R_E, F_E, 10, t_E, zcl_E, by decide, rfl, rfl, Or.inl (zTb_of (tm2 (List.mem_of_getElem? (i := 7) rfl)) rfl)⟩
set_option maxRecDepth 20000 in
theorem ff_E_20 : zFf R_E 20 6 4 (.object "ChordPoints$Num") := ⟨R_E, F_E, 10, t_E, zcl_E, by decide, rfl, rfl, rfl, zTb_of (tm2 (List.mem_of_getElem? (i := 7) rfl)) rfl⟩
set_option maxRecDepth 20000 in
theorem fd_E_23 : zFd R_E 23 6 5 (.object "ChordPoints$Num") true := ⟨R_E, F_E, 10, t_E, zcl_E, by decide, rfl, rfl, Or.inl (zTb_of (tm2 (List.mem_of_getElem? (i := 8) rfl)) rfl)⟩
set_option maxRecDepth 20000 in
theorem ff_E_23 : zFf R_E 23 6 5 (.object "ChordPoints$Num") := ⟨R_E, F_E, 10, t_E, zcl_E, by decide, rfl, rfl, rfl, zTb_of (tm2 (List.mem_of_getElem? (i := 8) rfl)) rfl⟩
set_option maxRecDepth 20000 in
theorem fd_E_26 : zFd R_E 26 6 6 (.object "ChordPoints$Num") true := ⟨R_E, F_E, 10, t_E, zcl_E, by decide, rfl, rfl, Or.inl (zTb_of (tm2 (List.mem_of_getElem? (i := 9) rfl)) rfl)⟩
set_option maxRecDepth 20000 in
theorem ff_E_26 : zFf R_E 26 6 6 (.object "ChordPoints$Num") := ⟨R_E, F_E, 10, t_E, zcl_E, by decide, rfl, rfl, rfl, zTb_of (tm2 (List.mem_of_getElem? (i := 9) rfl)) rfl⟩
set_option maxRecDepth 20000 in
theorem fd_E_29 : zFd R_E 29 6 7 (.object "ChordPoints$Num") true := ⟨R_E, F_E, 10, t_E, zcl_E, by decide, rfl, rfl, Or.inl (zTb_of (tm2 (List.mem_of_getElem? (i := 10) rfl)) rfl)⟩
set_option maxRecDepth 20000 in
theorem ff_E_29 : zFf R_E 29 6 7 (.object "ChordPoints$Num") := ⟨R_E, F_E, 10, t_E, zcl_E, by decide, rfl, rfl, rfl, zTb_of (tm2 (List.mem_of_getElem? (i := 10) rfl)) rfl⟩
set_option maxRecDepth 20000 in
theorem fd_E_32 : zFd R_E 32 6 8 (.object "ChordPoints$Num") true := ⟨R_E, F_E, 10, t_E, zcl_E, by decide, rfl, rfl, Or.inl (zTb_of (tm2 (List.mem_of_getElem? (i := 11) rfl)) rfl)⟩
set_option maxRecDepth 20000 in
theorem ff_E_32 : zFf R_E 32 6 8 (.object "ChordPoints$Num") := ⟨R_E, F_E, 10, t_E, zcl_E, by decide, rfl, rfl, rfl, zTb_of (tm2 (List.mem_of_getElem? (i := 11) rfl)) rfl⟩
set_option maxRecDepth 20000 in
theorem fd_E_35 : zFd R_E 35 6 9 (.object "ChordPoints$Num") true := ⟨R_E, F_E, 10, t_E, zcl_E, by decide, rfl, rfl, Or.inl (zTb_of (tm2 (List.mem_of_getElem? (i := 12) rfl)) rfl)⟩
set_option maxRecDepth 20000 in
theorem ff_E_35 : zFf R_E 35 6 9 (.object "ChordPoints$Num") := ⟨R_E, F_E, 10, t_E, zcl_E, by decide, rfl, rfl, rfl, zTb_of (tm2 (List.mem_of_getElem? (i := 12) rfl)) rfl⟩
set_option maxRecDepth 20000 in
theorem nw_X_44 : zNw R_X 44 2 6 [.null, .null, .null, .null, .null, .int 0] := ⟨R_P, F_P, t_P, zcl_P, zTb_of (tm2 (List.mem_of_getElem? (i := 34) rfl)) rfl, zTb_of (tm2 (List.mem_of_getElem? (i := 35) rfl)) rfl, ini_P, by decide +kernel⟩
set_option maxRecDepth 20000 in
theorem nw_P_9 : zNw R_P 9 1 3 [.null, .int 0, .int 0] := ⟨R_N, F_N, t_N, zcl_N, zTb_of (tm2 (List.mem_of_getElem? (i := 40) rfl)) rfl, zTb_of (tm1 (List.mem_of_getElem? (i := 27) rfl)) rfl, ini_N, by decide +kernel⟩
set_option maxRecDepth 20000 in
theorem fd_P_14 : zFd R_P 14 2 0 (.object "ChordPoints$Num") true := ⟨R_P, F_P, 6, t_P, zcl_P, by decide, rfl, rfl, Or.inl (zTb_of (tm2 (List.mem_of_getElem? (i := 42) rfl)) rfl)⟩
set_option maxRecDepth 20000 in
theorem ff_P_14 : zFf R_P 14 2 0 (.object "ChordPoints$Num") := ⟨R_P, F_P, 6, t_P, zcl_P, by decide, rfl, rfl, rfl, zTb_of (tm2 (List.mem_of_getElem? (i := 42) rfl)) rfl⟩
set_option maxRecDepth 20000 in
theorem fd_C_65 : zFd R_C 65 2 0 (.object "ChordPoints$Num") true := ⟨R_P, F_P, 6, t_P, zcl_P, by decide, rfl, rfl, Or.inl (zTb_of (tm2 (List.mem_of_getElem? (i := 43) rfl)) rfl)⟩
set_option maxRecDepth 20000 in
theorem fd_E_64 : zFd R_E 64 2 0 (.object "ChordPoints$Num") true := ⟨R_P, F_P, 6, t_P, zcl_P, by decide, rfl, rfl, Or.inl (zTb_of (tm2 (List.mem_of_getElem? (i := 44) rfl)) rfl)⟩
set_option maxRecDepth 20000 in
theorem fd_P_20 : zFd R_P 20 2 1 (.object "ChordPoints$Num") true := ⟨R_P, F_P, 6, t_P, zcl_P, by decide, rfl, rfl, Or.inl (zTb_of (tm2 (List.mem_of_getElem? (i := 45) rfl)) rfl)⟩
set_option maxRecDepth 20000 in
theorem ff_P_20 : zFf R_P 20 2 1 (.object "ChordPoints$Num") := ⟨R_P, F_P, 6, t_P, zcl_P, by decide, rfl, rfl, rfl, zTb_of (tm2 (List.mem_of_getElem? (i := 45) rfl)) rfl⟩
set_option maxRecDepth 20000 in
theorem fd_C_82 : zFd R_C 82 2 1 (.object "ChordPoints$Num") true := ⟨R_P, F_P, 6, t_P, zcl_P, by decide, rfl, rfl, Or.inl (zTb_of (tm2 (List.mem_of_getElem? (i := 46) rfl)) rfl)⟩
set_option maxRecDepth 20000 in
theorem fd_E_71 : zFd R_E 71 2 1 (.object "ChordPoints$Num") true := ⟨R_P, F_P, 6, t_P, zcl_P, by decide, rfl, rfl, Or.inl (zTb_of (tm2 (List.mem_of_getElem? (i := 47) rfl)) rfl)⟩
set_option maxRecDepth 20000 in
theorem fd_P_23 : zFd R_P 23 2 2 (.object "ChordPoints$Num") true := ⟨R_P, F_P, 6, t_P, zcl_P, by decide, rfl, rfl, Or.inl (zTb_of (tm2 (List.mem_of_getElem? (i := 48) rfl)) rfl)⟩
set_option maxRecDepth 20000 in
theorem ff_P_23 : zFf R_P 23 2 2 (.object "ChordPoints$Num") := ⟨R_P, F_P, 6, t_P, zcl_P, by decide, rfl, rfl, rfl, zTb_of (tm2 (List.mem_of_getElem? (i := 48) rfl)) rfl⟩
set_option maxRecDepth 20000 in
theorem fd_C_68 : zFd R_C 68 2 2 (.object "ChordPoints$Num") true := ⟨R_P, F_P, 6, t_P, zcl_P, by decide, rfl, rfl, Or.inl (zTb_of (tm2 (List.mem_of_getElem? (i := 49) rfl)) rfl)⟩
set_option maxRecDepth 20000 in
theorem fd_E_80 : zFd R_E 80 2 2 (.object "ChordPoints$Num") true := ⟨R_P, F_P, 6, t_P, zcl_P, by decide, rfl, rfl, Or.inl (zTb_of (tm2 (List.mem_of_getElem? (i := 50) rfl)) rfl)⟩
set_option maxRecDepth 20000 in
theorem fd_X_102 : zFd R_X 102 2 2 (.object "ChordPoints$Num") true := ⟨R_P, F_P, 6, t_P, zcl_P, by decide, rfl, rfl, Or.inl (zTb_of (tm2 (List.mem_of_getElem? (i := 51) rfl)) rfl)⟩
set_option maxRecDepth 20000 in
theorem fd_P_26 : zFd R_P 26 2 3 (.object "ChordPoints$Num") true := ⟨R_P, F_P, 6, t_P, zcl_P, by decide, rfl, rfl, Or.inl (zTb_of (tm2 (List.mem_of_getElem? (i := 52) rfl)) rfl)⟩
set_option maxRecDepth 20000 in
theorem ff_P_26 : zFf R_P 26 2 3 (.object "ChordPoints$Num") := ⟨R_P, F_P, 6, t_P, zcl_P, by decide, rfl, rfl, rfl, zTb_of (tm2 (List.mem_of_getElem? (i := 52) rfl)) rfl⟩
set_option maxRecDepth 20000 in
theorem fd_E_74 : zFd R_E 74 2 3 (.object "ChordPoints$Num") true := ⟨R_P, F_P, 6, t_P, zcl_P, by decide, rfl, rfl, Or.inl (zTb_of (tm2 (List.mem_of_getElem? (i := 53) rfl)) rfl)⟩
set_option maxRecDepth 20000 in
theorem fd_C_141 : zFd R_C 141 2 3 (.object "ChordPoints$Num") true := ⟨R_P, F_P, 6, t_P, zcl_P, by decide, rfl, rfl, Or.inl (zTb_of (tm2 (List.mem_of_getElem? (i := 54) rfl)) rfl)⟩
set_option maxRecDepth 20000 in
theorem fd_P_29 : zFd R_P 29 2 4 (.object "ChordPoints$Num") true := ⟨R_P, F_P, 6, t_P, zcl_P, by decide, rfl, rfl, Or.inl (zTb_of (tm2 (List.mem_of_getElem? (i := 55) rfl)) rfl)⟩
set_option maxRecDepth 20000 in
theorem ff_P_29 : zFf R_P 29 2 4 (.object "ChordPoints$Num") := ⟨R_P, F_P, 6, t_P, zcl_P, by decide, rfl, rfl, rfl, zTb_of (tm2 (List.mem_of_getElem? (i := 55) rfl)) rfl⟩
set_option maxRecDepth 20000 in
theorem fd_C_91 : zFd R_C 91 2 4 (.object "ChordPoints$Num") true := ⟨R_P, F_P, 6, t_P, zcl_P, by decide, rfl, rfl, Or.inl (zTb_of (tm2 (List.mem_of_getElem? (i := 56) rfl)) rfl)⟩
set_option maxRecDepth 20000 in
theorem fd_E_77 : zFd R_E 77 2 4 (.object "ChordPoints$Num") true := ⟨R_P, F_P, 6, t_P, zcl_P, by decide, rfl, rfl, Or.inl (zTb_of (tm2 (List.mem_of_getElem? (i := 57) rfl)) rfl)⟩
set_option maxRecDepth 20000 in
theorem fd_P_32 : zFd R_P 32 2 5 (.boolean) false := ⟨R_P, F_P, 6, t_P, zcl_P, by decide, rfl, rfl, Or.inl (zTb_of (tm2 (List.mem_of_getElem? (i := 58) rfl)) rfl)⟩
set_option maxRecDepth 20000 in
theorem fd_C_59 : zFd R_C 59 2 5 (.boolean) false := ⟨R_P, F_P, 6, t_P, zcl_P, by decide, rfl, rfl, Or.inl (zTb_of (tm2 (List.mem_of_getElem? (i := 59) rfl)) rfl)⟩
set_option maxRecDepth 20000 in
theorem fd_E_58 : zFd R_E 58 2 5 (.boolean) false := ⟨R_P, F_P, 6, t_P, zcl_P, by decide, rfl, rfl, Or.inl (zTb_of (tm2 (List.mem_of_getElem? (i := 60) rfl)) rfl)⟩
set_option maxRecDepth 20000 in
theorem fd_X_98 : zFd R_X 98 2 5 (.boolean) false := ⟨R_P, F_P, 6, t_P, zcl_P, by decide, rfl, rfl, Or.inl (zTb_of (tm2 (List.mem_of_getElem? (i := 61) rfl)) rfl)⟩
set_option maxRecDepth 20000 in
theorem fd_X_57 : zFd R_X 57 8 0 (.array (.object "ChordPoints$Point")) true := ⟨R_X, F_X, 7, t_X, zcl_X, by decide, rfl, rfl, Or.inl (zTb_of (tm2 (List.mem_of_getElem? (i := 76) rfl)) rfl)⟩
set_option maxRecDepth 20000 in
theorem ff_X_57 : zFf R_X 57 8 0 (.array (.object "ChordPoints$Point")) := ⟨R_X, F_X, 7, t_X, zcl_X, by decide, rfl, rfl, rfl, zTb_of (tm2 (List.mem_of_getElem? (i := 76) rfl)) rfl⟩
set_option maxRecDepth 20000 in
theorem fd_X_18 : zFd R_X 18 8 1 (.object "ChordPoints$Equation") true := ⟨R_X, F_X, 7, t_X, zcl_X, by decide, rfl, rfl, Or.inl (zTb_of (tm2 (List.mem_of_getElem? (i := 77) rfl)) rfl)⟩
set_option maxRecDepth 20000 in
theorem ff_X_18 : zFf R_X 18 8 1 (.object "ChordPoints$Equation") := ⟨R_X, F_X, 7, t_X, zcl_X, by decide, rfl, rfl, rfl, zTb_of (tm2 (List.mem_of_getElem? (i := 77) rfl)) rfl⟩
set_option maxRecDepth 20000 in
theorem fd_X_33 : zFd R_X 33 8 2 (.object "ChordPoints$Chords") true := ⟨R_X, F_X, 7, t_X, zcl_X, by decide, rfl, rfl, Or.inl (zTb_of (tm2 (List.mem_of_getElem? (i := 78) rfl)) rfl)⟩
set_option maxRecDepth 20000 in
theorem ff_X_33 : zFf R_X 33 8 2 (.object "ChordPoints$Chords") := ⟨R_X, F_X, 7, t_X, zcl_X, by decide, rfl, rfl, rfl, zTb_of (tm2 (List.mem_of_getElem? (i := 78) rfl)) rfl⟩
set_option maxRecDepth 20000 in
theorem fd_X_40 : zFd R_X 40 8 3 (.object "ChordPoints$Entry") true := ⟨R_X, F_X, 7, t_X, zcl_X, by decide, rfl, rfl, Or.inl (zTb_of (tm2 (List.mem_of_getElem? (i := 79) rfl)) rfl)⟩
set_option maxRecDepth 20000 in
theorem ff_X_40 : zFf R_X 40 8 3 (.object "ChordPoints$Entry") := ⟨R_X, F_X, 7, t_X, zcl_X, by decide, rfl, rfl, rfl, zTb_of (tm2 (List.mem_of_getElem? (i := 79) rfl)) rfl⟩
set_option maxRecDepth 20000 in
theorem fd_X_47 : zFd R_X 47 8 4 (.object "ChordPoints$Point") true := ⟨R_X, F_X, 7, t_X, zcl_X, by decide, rfl, rfl, Or.inl (zTb_of (tm2 (List.mem_of_getElem? (i := 80) rfl)) rfl)⟩
set_option maxRecDepth 20000 in
theorem ff_X_47 : zFf R_X 47 8 4 (.object "ChordPoints$Point") := ⟨R_X, F_X, 7, t_X, zcl_X, by decide, rfl, rfl, rfl, zTb_of (tm2 (List.mem_of_getElem? (i := 80) rfl)) rfl⟩
set_option maxRecDepth 20000 in
theorem fd_X_51 : zFd R_X 51 8 5 (.object "ChordPoints$Point") true := ⟨R_X, F_X, 7, t_X, zcl_X, by decide, rfl, rfl, Or.inl (zTb_of (tm2 (List.mem_of_getElem? (i := 81) rfl)) rfl)⟩
set_option maxRecDepth 20000 in
theorem ff_X_51 : zFf R_X 51 8 5 (.object "ChordPoints$Point") := ⟨R_X, F_X, 7, t_X, zcl_X, by decide, rfl, rfl, rfl, zTb_of (tm2 (List.mem_of_getElem? (i := 81) rfl)) rfl⟩
set_option maxRecDepth 20000 in
theorem fd_X_54 : zFd R_X 54 8 6 (.object "ChordPoints$Point") true := ⟨R_X, F_X, 7, t_X, zcl_X, by decide, rfl, rfl, Or.inl (zTb_of (tm2 (List.mem_of_getElem? (i := 82) rfl)) rfl)⟩
set_option maxRecDepth 20000 in
theorem ff_X_54 : zFf R_X 54 8 6 (.object "ChordPoints$Point") := ⟨R_X, F_X, 7, t_X, zcl_X, by decide, rfl, rfl, rfl, zTb_of (tm2 (List.mem_of_getElem? (i := 82) rfl)) rfl⟩
set_option maxRecDepth 20000 in
theorem kc_X_143 : Cond.constant R_X 143 (-99999) ∈ zTb := zTb_of (tm2 (List.mem_of_getElem? (i := 105) rfl)) rfl
set_option maxRecDepth 20000 in
theorem kc_X_144 : Cond.constant R_X 144 (99999) ∈ zTb := zTb_of (tm2 (List.mem_of_getElem? (i := 106) rfl)) rfl
set_option maxRecDepth 20000 in
theorem kc_R_78 : Cond.constantLong R_R 78 (1000000000) ∈ zTb := zTb_of (tm2 (List.mem_of_getElem? (i := 130) rfl)) rfl
set_option maxRecDepth 20000 in
theorem kc_E_146 : Cond.constantLong R_E 146 (9) ∈ zTb := zTb_of (tm2 (List.mem_of_getElem? (i := 141) rfl)) rfl
set_option maxRecDepth 20000 in
theorem kc_R_70 : Cond.constant R_R 70 (1000000000) ∈ zTb := zTb_of (tm2 (List.mem_of_getElem? (i := 160) rfl)) rfl
set_option maxRecDepth 20000 in
theorem kc_E_151 : Cond.constantLong R_E 151 (8) ∈ zTb := zTb_of (tm2 (List.mem_of_getElem? (i := 173) rfl)) rfl
set_option maxRecDepth 20000 in
theorem kc_E_153 : Cond.constantLong R_E 153 (27) ∈ zTb := zTb_of (tm2 (List.mem_of_getElem? (i := 174) rfl)) rfl
set_option maxRecDepth 20000 in
theorem kc_D_56 : Cond.constant R_D 56 (100000) ∈ zTb := zTb_of (tm3 (List.mem_of_getElem? (i := 3) rfl)) rfl
set_option maxRecDepth 20000 in
theorem kc_D_121 : Cond.constantLong R_D 121 (1000000000) ∈ zTb := zTb_of (tm3 (List.mem_of_getElem? (i := 18) rfl)) rfl
set_option maxRecDepth 20000 in
theorem kc_D_109 : Cond.constantLong R_D 109 (2000000000) ∈ zTb := zTb_of (tm3 (List.mem_of_getElem? (i := 19) rfl)) rfl
set_option maxRecDepth 20000 in
theorem kc_X_93 : Cond.constant R_X 93 (-1000000) ∈ zTb := zTb_of (tm3 (List.mem_of_getElem? (i := 164) rfl)) rfl
set_option maxRecDepth 20000 in
theorem kc_X_94 : Cond.constant R_X 94 (1000000) ∈ zTb := zTb_of (tm3 (List.mem_of_getElem? (i := 165) rfl)) rfl
set_option maxRecDepth 20000 in
theorem nw_L_10 : zNw R_law 10 0 5 [.int 0, .null, .null, .null, .null] := ⟨R_M, F_M, t_M, zcl_M, zTb_of (tm3 (List.mem_of_getElem? (i := 206) rfl)) rfl, zTb_of (tm3 (List.mem_of_getElem? (i := 207) rfl)) rfl, ini_M, by decide +kernel⟩
set_option maxRecDepth 20000 in
theorem kc_M_34 : Cond.constantLong R_M 34 (1000000000) ∈ zTb := zTb_of (tm3 (List.mem_of_getElem? (i := 220) rfl)) rfl
set_option maxRecDepth 20000 in
theorem fd_M_30 : zFd R_M 30 0 0 (.int) false := ⟨R_M, F_M, 5, t_M, zcl_M, by decide, rfl, rfl, Or.inl (zTb_of (tm3 (List.mem_of_getElem? (i := 221) rfl)) rfl)⟩
set_option maxRecDepth 20000 in
theorem fd_M_9 : zFd R_M 9 0 1 (.array .int) true := ⟨R_M, F_M, 5, t_M, zcl_M, by decide, rfl, rfl, Or.inl (zTb_of (tm3 (List.mem_of_getElem? (i := 222) rfl)) rfl)⟩
set_option maxRecDepth 20000 in
theorem ff_M_9 : zFf R_M 9 0 1 (.array .int) := ⟨R_M, F_M, 5, t_M, zcl_M, by decide, rfl, rfl, rfl, zTb_of (tm3 (List.mem_of_getElem? (i := 222) rfl)) rfl⟩
set_option maxRecDepth 20000 in
theorem fd_M_13 : zFd R_M 13 0 2 (.array .int) true := ⟨R_M, F_M, 5, t_M, zcl_M, by decide, rfl, rfl, Or.inl (zTb_of (tm3 (List.mem_of_getElem? (i := 223) rfl)) rfl)⟩
set_option maxRecDepth 20000 in
theorem ff_M_13 : zFf R_M 13 0 2 (.array .int) := ⟨R_M, F_M, 5, t_M, zcl_M, by decide, rfl, rfl, rfl, zTb_of (tm3 (List.mem_of_getElem? (i := 223) rfl)) rfl⟩
set_option maxRecDepth 20000 in
theorem fd_M_16 : zFd R_M 16 0 3 (.array .int) true := ⟨R_M, F_M, 5, t_M, zcl_M, by decide, rfl, rfl, Or.inl (zTb_of (tm3 (List.mem_of_getElem? (i := 224) rfl)) rfl)⟩
set_option maxRecDepth 20000 in
theorem ff_M_16 : zFf R_M 16 0 3 (.array .int) := ⟨R_M, F_M, 5, t_M, zcl_M, by decide, rfl, rfl, rfl, zTb_of (tm3 (List.mem_of_getElem? (i := 224) rfl)) rfl⟩
set_option maxRecDepth 20000 in
theorem fd_M_19 : zFd R_M 19 0 4 (.array .boolean) true := ⟨R_M, F_M, 5, t_M, zcl_M, by decide, rfl, rfl, Or.inl (zTb_of (tm3 (List.mem_of_getElem? (i := 225) rfl)) rfl)⟩
set_option maxRecDepth 20000 in
theorem ff_M_19 : zFf R_M 19 0 4 (.array .boolean) := ⟨R_M, F_M, 5, t_M, zcl_M, by decide, rfl, rfl, rfl, zTb_of (tm3 (List.mem_of_getElem? (i := 225) rfl)) rfl⟩
set_option maxRecDepth 20000 in
theorem kc_M_90 : Cond.constant R_M 90 (-99999) ∈ zTb := zTb_of (tm4 (List.mem_of_getElem? (i := 5) rfl)) rfl
set_option maxRecDepth 20000 in
theorem kc_M_91 : Cond.constant R_M 91 (99999) ∈ zTb := zTb_of (tm4 (List.mem_of_getElem? (i := 6) rfl)) rfl
set_option maxRecDepth 20000 in
theorem kc_M_73 : Cond.constantLong R_M 73 (4) ∈ zTb := zTb_of (tm4 (List.mem_of_getElem? (i := 7) rfl)) rfl
set_option maxRecDepth 20000 in
theorem kc_M_75 : Cond.constantLong R_M 75 (2) ∈ zTb := zTb_of (tm4 (List.mem_of_getElem? (i := 8) rfl)) rfl
set_option maxRecDepth 20000 in
theorem kc_M_77 : Cond.constantLong R_M 77 (9) ∈ zTb := zTb_of (tm4 (List.mem_of_getElem? (i := 9) rfl)) rfl
set_option maxRecDepth 20000 in
theorem kc_M_52 : Cond.constant R_M 52 (1000000000) ∈ zTb := zTb_of (tm4 (List.mem_of_getElem? (i := 34) rfl)) rfl
set_option maxRecDepth 20000 in
theorem kc_M_86 : Cond.constantLong R_M 86 (8) ∈ zTb := zTb_of (tm4 (List.mem_of_getElem? (i := 43) rfl)) rfl
set_option maxRecDepth 20000 in
theorem kc_M_88 : Cond.constantLong R_M 88 (27) ∈ zTb := zTb_of (tm4 (List.mem_of_getElem? (i := 44) rfl)) rfl
set_option maxRecDepth 20000 in
theorem kc_M_128 : Cond.constantLong R_M 128 (3) ∈ zTb := zTb_of (tm4 (List.mem_of_getElem? (i := 112) rfl)) rfl
set_option maxRecDepth 20000 in
theorem kc_M_147 : Cond.constant R_M 147 (-1000000) ∈ zTb := zTb_of (tm4 (List.mem_of_getElem? (i := 141) rfl)) rfl
set_option maxRecDepth 20000 in
theorem kc_M_148 : Cond.constant R_M 148 (1000000) ∈ zTb := zTb_of (tm4 (List.mem_of_getElem? (i := 142) rfl)) rfl
set_option maxRecDepth 20000 in
theorem kc_M_149 : Cond.constant R_M 149 (1048576) ∈ zTb := zTb_of (tm4 (List.mem_of_getElem? (i := 143) rfl)) rfl
set_option maxRecDepth 20000 in
theorem kc_L_23 : Cond.constantLong R_law 23 (4294967295) ∈ zTb := zTb_of (tm4 (List.mem_of_getElem? (i := 176) rfl)) rfl
set_option maxRecDepth 20000 in
theorem cd_X_init : Cond.code y_X_init b_X_init 4 none ∈ zTb := zTb_of (tm1 (List.mem_of_getElem? (i := 16) rfl)) rfl
set_option maxRecDepth 20000 in
theorem im_X_init : Cond.instanceMethod y_X_init ∈ zTb := zTb_of (tm1 (List.mem_of_getElem? (i := 15) rfl)) rfl
set_option maxRecDepth 20000 in
theorem cd_R_init : Cond.code y_R_init b_R_init 1 none ∈ zTb := zTb_of (tm1 (List.mem_of_getElem? (i := 24) rfl)) rfl
set_option maxRecDepth 20000 in
theorem im_R_init : Cond.instanceMethod y_R_init ∈ zTb := zTb_of (tm1 (List.mem_of_getElem? (i := 23) rfl)) rfl
set_option maxRecDepth 20000 in
theorem cd_N_init : Cond.code y_N_init b_N_init 2 none ∈ zTb := zTb_of (tm1 (List.mem_of_getElem? (i := 30) rfl)) rfl
set_option maxRecDepth 20000 in
theorem im_N_init : Cond.instanceMethod y_N_init ∈ zTb := zTb_of (tm1 (List.mem_of_getElem? (i := 29) rfl)) rfl
set_option maxRecDepth 20000 in
theorem cd_D_init : Cond.code y_D_init b_D_init 2 none ∈ zTb := zTb_of (tm1 (List.mem_of_getElem? (i := 78) rfl)) rfl
set_option maxRecDepth 20000 in
theorem im_D_init : Cond.instanceMethod y_D_init ∈ zTb := zTb_of (tm1 (List.mem_of_getElem? (i := 77) rfl)) rfl
set_option maxRecDepth 20000 in
theorem cd_N_become_J : Cond.code y_N_become_J b_N_become_J 7 none ∈ zTb := zTb_of (tm1 (List.mem_of_getElem? (i := 86) rfl)) rfl
set_option maxRecDepth 20000 in
theorem im_N_become_J : Cond.instanceMethod y_N_become_J ∈ zTb := zTb_of (tm1 (List.mem_of_getElem? (i := 84) rfl)) rfl
set_option maxRecDepth 20000 in
theorem se_N_become_J : Cond.selects y_N_become_J.cls y_N_become_J y_N_become_J ∈ zTb := zTb_of (tm1 (List.mem_of_getElem? (i := 85) rfl)) rfl
set_option maxRecDepth 20000 in
theorem cd_Q_init : Cond.code y_Q_init b_Q_init 1 none ∈ zTb := zTb_of (tm1 (List.mem_of_getElem? (i := 123) rfl)) rfl
set_option maxRecDepth 20000 in
theorem im_Q_init : Cond.instanceMethod y_Q_init ∈ zTb := zTb_of (tm1 (List.mem_of_getElem? (i := 122) rfl)) rfl
set_option maxRecDepth 20000 in
theorem cd_Q_become : Cond.code y_Q_become b_Q_become 11 none ∈ zTb := zTb_of (tm1 (List.mem_of_getElem? (i := 174) rfl)) rfl
set_option maxRecDepth 20000 in
theorem im_Q_become : Cond.instanceMethod y_Q_become ∈ zTb := zTb_of (tm1 (List.mem_of_getElem? (i := 172) rfl)) rfl
set_option maxRecDepth 20000 in
theorem se_Q_become : Cond.selects y_Q_become.cls y_Q_become y_Q_become ∈ zTb := zTb_of (tm1 (List.mem_of_getElem? (i := 173) rfl)) rfl
set_option maxRecDepth 20000 in
theorem cd_Q_b4 : Cond.code y_Q_b4 b_Q_b4 6 (some .long) ∈ zTb := zTb_of (tm1 (List.mem_of_getElem? (i := 179) rfl)) rfl
set_option maxRecDepth 20000 in
theorem sm_Q_b4 : Cond.static y_Q_b4 ∈ zTb := zTb_of (tm1 (List.mem_of_getElem? (i := 178) rfl)) rfl
set_option maxRecDepth 20000 in
theorem cd_Q_b6 : Cond.code y_Q_b6 b_Q_b6 4 (some .long) ∈ zTb := zTb_of (tm1 (List.mem_of_getElem? (i := 182) rfl)) rfl
set_option maxRecDepth 20000 in
theorem sm_Q_b6 : Cond.static y_Q_b6 ∈ zTb := zTb_of (tm1 (List.mem_of_getElem? (i := 181) rfl)) rfl
set_option maxRecDepth 20000 in
theorem cd_Q_b8 : Cond.code y_Q_b8 b_Q_b8 10 (some .long) ∈ zTb := zTb_of (tm1 (List.mem_of_getElem? (i := 186) rfl)) rfl
set_option maxRecDepth 20000 in
theorem sm_Q_b8 : Cond.static y_Q_b8 ∈ zTb := zTb_of (tm1 (List.mem_of_getElem? (i := 185) rfl)) rfl
set_option maxRecDepth 20000 in
theorem cd_C_init : Cond.code y_C_init b_C_init 4 none ∈ zTb := zTb_of (tm1 (List.mem_of_getElem? (i := 191) rfl)) rfl
set_option maxRecDepth 20000 in
theorem im_C_init : Cond.instanceMethod y_C_init ∈ zTb := zTb_of (tm1 (List.mem_of_getElem? (i := 190) rfl)) rfl
set_option maxRecDepth 20000 in
theorem cd_E_init : Cond.code y_E_init b_E_init 4 none ∈ zTb := zTb_of (tm1 (List.mem_of_getElem? (i := 239) rfl)) rfl
set_option maxRecDepth 20000 in
theorem im_E_init : Cond.instanceMethod y_E_init ∈ zTb := zTb_of (tm1 (List.mem_of_getElem? (i := 238) rfl)) rfl
set_option maxRecDepth 20000 in
theorem cd_P_init : Cond.code y_P_init b_P_init 1 none ∈ zTb := zTb_of (tm2 (List.mem_of_getElem? (i := 38) rfl)) rfl
set_option maxRecDepth 20000 in
theorem im_P_init : Cond.instanceMethod y_P_init ∈ zTb := zTb_of (tm2 (List.mem_of_getElem? (i := 37) rfl)) rfl
set_option maxRecDepth 20000 in
theorem cd_X_curve : Cond.code y_X_curve b_X_curve 7 (some .int) ∈ zTb := zTb_of (tm2 (List.mem_of_getElem? (i := 101) rfl)) rfl
set_option maxRecDepth 20000 in
theorem im_X_curve : Cond.instanceMethod y_X_curve ∈ zTb := zTb_of (tm2 (List.mem_of_getElem? (i := 99) rfl)) rfl
set_option maxRecDepth 20000 in
theorem se_X_curve : Cond.selects y_X_curve.cls y_X_curve y_X_curve ∈ zTb := zTb_of (tm2 (List.mem_of_getElem? (i := 100) rfl)) rfl
set_option maxRecDepth 20000 in
theorem cd_X_isCoefficient : Cond.code y_X_isCoefficient b_X_isCoefficient 1 (some .boolean) ∈ zTb := zTb_of (tm2 (List.mem_of_getElem? (i := 104) rfl)) rfl
set_option maxRecDepth 20000 in
theorem sm_X_isCoefficient : Cond.static y_X_isCoefficient ∈ zTb := zTb_of (tm2 (List.mem_of_getElem? (i := 103) rfl)) rfl
set_option maxRecDepth 20000 in
theorem cd_E_isSingular : Cond.code y_E_isSingular b_E_isSingular 11 (some .boolean) ∈ zTb := zTb_of (tm2 (List.mem_of_getElem? (i := 110) rfl)) rfl
set_option maxRecDepth 20000 in
theorem im_E_isSingular : Cond.instanceMethod y_E_isSingular ∈ zTb := zTb_of (tm2 (List.mem_of_getElem? (i := 108) rfl)) rfl
set_option maxRecDepth 20000 in
theorem se_E_isSingular : Cond.selects y_E_isSingular.cls y_E_isSingular y_E_isSingular ∈ zTb := zTb_of (tm2 (List.mem_of_getElem? (i := 109) rfl)) rfl
set_option maxRecDepth 20000 in
theorem cd_Q_b2 : Cond.code y_Q_b2 b_Q_b2 4 (some .long) ∈ zTb := zTb_of (tm2 (List.mem_of_getElem? (i := 113) rfl)) rfl
set_option maxRecDepth 20000 in
theorem sm_Q_b2 : Cond.static y_Q_b2 ∈ zTb := zTb_of (tm2 (List.mem_of_getElem? (i := 112) rfl)) rfl
set_option maxRecDepth 20000 in
theorem cd_R_multiply : Cond.code y_R_multiply b_R_multiply 15 none ∈ zTb := zTb_of (tm2 (List.mem_of_getElem? (i := 121) rfl)) rfl
set_option maxRecDepth 20000 in
theorem im_R_multiply : Cond.instanceMethod y_R_multiply ∈ zTb := zTb_of (tm2 (List.mem_of_getElem? (i := 119) rfl)) rfl
set_option maxRecDepth 20000 in
theorem se_R_multiply : Cond.selects y_R_multiply.cls y_R_multiply y_R_multiply ∈ zTb := zTb_of (tm2 (List.mem_of_getElem? (i := 120) rfl)) rfl
set_option maxRecDepth 20000 in
theorem cd_R_lose : Cond.code y_R_lose b_R_lose 2 none ∈ zTb := zTb_of (tm2 (List.mem_of_getElem? (i := 125) rfl)) rfl
set_option maxRecDepth 20000 in
theorem im_R_lose : Cond.instanceMethod y_R_lose ∈ zTb := zTb_of (tm2 (List.mem_of_getElem? (i := 124) rfl)) rfl
set_option maxRecDepth 20000 in
theorem se_R_lose : Cond.selects y_R_lose.cls y_R_lose y_R_lose ∈ zTb := zTb_sel (q := (y_R_lose, 5)) (List.mem_append_left _ (List.mem_of_getElem? (i := 0) rfl)) rfl
set_option maxRecDepth 20000 in
theorem cd_N_becomeZero : Cond.code y_N_becomeZero b_N_becomeZero 1 none ∈ zTb := zTb_of (tm2 (List.mem_of_getElem? (i := 129) rfl)) rfl
set_option maxRecDepth 20000 in
theorem im_N_becomeZero : Cond.instanceMethod y_N_becomeZero ∈ zTb := zTb_of (tm2 (List.mem_of_getElem? (i := 127) rfl)) rfl
set_option maxRecDepth 20000 in
theorem se_N_becomeZero : Cond.selects y_N_becomeZero.cls y_N_becomeZero y_N_becomeZero ∈ zTb := zTb_of (tm2 (List.mem_of_getElem? (i := 128) rfl)) rfl
set_option maxRecDepth 20000 in
theorem cd_R_store : Cond.code y_R_store b_R_store 6 none ∈ zTb := zTb_of (tm2 (List.mem_of_getElem? (i := 134) rfl)) rfl
set_option maxRecDepth 20000 in
theorem im_R_store : Cond.instanceMethod y_R_store ∈ zTb := zTb_of (tm2 (List.mem_of_getElem? (i := 133) rfl)) rfl
set_option maxRecDepth 20000 in
theorem se_R_store : Cond.selects y_R_store.cls y_R_store y_R_store ∈ zTb := zTb_sel (q := (y_R_store, 5)) (List.mem_append_left _ (List.mem_of_getElem? (i := 1) rfl)) rfl
set_option maxRecDepth 20000 in
theorem cd_R_subtractProduct : Cond.code y_R_subtractProduct b_R_subtractProduct 4 none ∈ zTb := zTb_of (tm2 (List.mem_of_getElem? (i := 145) rfl)) rfl
set_option maxRecDepth 20000 in
theorem im_R_subtractProduct : Cond.instanceMethod y_R_subtractProduct ∈ zTb := zTb_of (tm2 (List.mem_of_getElem? (i := 143) rfl)) rfl
set_option maxRecDepth 20000 in
theorem se_R_subtractProduct : Cond.selects y_R_subtractProduct.cls y_R_subtractProduct y_R_subtractProduct ∈ zTb := zTb_of (tm2 (List.mem_of_getElem? (i := 144) rfl)) rfl
set_option maxRecDepth 20000 in
theorem cd_R_addSigned : Cond.code y_R_addSigned b_R_addSigned 5 none ∈ zTb := zTb_of (tm2 (List.mem_of_getElem? (i := 150) rfl)) rfl
set_option maxRecDepth 20000 in
theorem im_R_addSigned : Cond.instanceMethod y_R_addSigned ∈ zTb := zTb_of (tm2 (List.mem_of_getElem? (i := 149) rfl)) rfl
set_option maxRecDepth 20000 in
theorem se_R_addSigned : Cond.selects y_R_addSigned.cls y_R_addSigned y_R_addSigned ∈ zTb := zTb_sel (q := (y_R_addSigned, 5)) (List.mem_append_left _ (List.mem_of_getElem? (i := 2) rfl)) rfl
set_option maxRecDepth 20000 in
theorem cd_R_addSizes : Cond.code y_R_addSizes b_R_addSizes 8 none ∈ zTb := zTb_of (tm2 (List.mem_of_getElem? (i := 154) rfl)) rfl
set_option maxRecDepth 20000 in
theorem im_R_addSizes : Cond.instanceMethod y_R_addSizes ∈ zTb := zTb_of (tm2 (List.mem_of_getElem? (i := 153) rfl)) rfl
set_option maxRecDepth 20000 in
theorem se_R_addSizes : Cond.selects y_R_addSizes.cls y_R_addSizes y_R_addSizes ∈ zTb := zTb_sel (q := (y_R_addSizes, 5)) (List.mem_append_left _ (List.mem_of_getElem? (i := 3) rfl)) rfl
set_option maxRecDepth 20000 in
theorem cd_N_limb : Cond.code y_N_limb b_N_limb 2 (some .int) ∈ zTb := zTb_of (tm2 (List.mem_of_getElem? (i := 159) rfl)) rfl
set_option maxRecDepth 20000 in
theorem im_N_limb : Cond.instanceMethod y_N_limb ∈ zTb := zTb_of (tm2 (List.mem_of_getElem? (i := 157) rfl)) rfl
set_option maxRecDepth 20000 in
theorem se_N_limb : Cond.selects y_N_limb.cls y_N_limb y_N_limb ∈ zTb := zTb_of (tm2 (List.mem_of_getElem? (i := 158) rfl)) rfl
set_option maxRecDepth 20000 in
theorem cd_N_settle : Cond.code y_N_settle b_N_settle 4 none ∈ zTb := zTb_of (tm2 (List.mem_of_getElem? (i := 164) rfl)) rfl
set_option maxRecDepth 20000 in
theorem im_N_settle : Cond.instanceMethod y_N_settle ∈ zTb := zTb_of (tm2 (List.mem_of_getElem? (i := 162) rfl)) rfl
set_option maxRecDepth 20000 in
theorem se_N_settle : Cond.selects y_N_settle.cls y_N_settle y_N_settle ∈ zTb := zTb_of (tm2 (List.mem_of_getElem? (i := 163) rfl)) rfl
set_option maxRecDepth 20000 in
theorem cd_N_compareSize : Cond.code y_N_compareSize b_N_compareSize 3 (some .int) ∈ zTb := zTb_of (tm2 (List.mem_of_getElem? (i := 168) rfl)) rfl
set_option maxRecDepth 20000 in
theorem im_N_compareSize : Cond.instanceMethod y_N_compareSize ∈ zTb := zTb_of (tm2 (List.mem_of_getElem? (i := 166) rfl)) rfl
set_option maxRecDepth 20000 in
theorem se_N_compareSize : Cond.selects y_N_compareSize.cls y_N_compareSize y_N_compareSize ∈ zTb := zTb_of (tm2 (List.mem_of_getElem? (i := 167) rfl)) rfl
set_option maxRecDepth 20000 in
theorem cd_R_subtractSizes : Cond.code y_R_subtractSizes b_R_subtractSizes 9 none ∈ zTb := zTb_of (tm2 (List.mem_of_getElem? (i := 172) rfl)) rfl
set_option maxRecDepth 20000 in
theorem im_R_subtractSizes : Cond.instanceMethod y_R_subtractSizes ∈ zTb := zTb_of (tm2 (List.mem_of_getElem? (i := 171) rfl)) rfl
set_option maxRecDepth 20000 in
theorem se_R_subtractSizes : Cond.selects y_R_subtractSizes.cls y_R_subtractSizes y_R_subtractSizes ∈ zTb := zTb_sel (q := (y_R_subtractSizes, 5)) (List.mem_append_left _ (List.mem_of_getElem? (i := 4) rfl)) rfl
set_option maxRecDepth 20000 in
theorem cd_N_isZero : Cond.code y_N_isZero b_N_isZero 1 (some .boolean) ∈ zTb := zTb_of (tm2 (List.mem_of_getElem? (i := 178) rfl)) rfl
set_option maxRecDepth 20000 in
theorem im_N_isZero : Cond.instanceMethod y_N_isZero ∈ zTb := zTb_of (tm2 (List.mem_of_getElem? (i := 176) rfl)) rfl
set_option maxRecDepth 20000 in
theorem se_N_isZero : Cond.selects y_N_isZero.cls y_N_isZero y_N_isZero ∈ zTb := zTb_of (tm2 (List.mem_of_getElem? (i := 177) rfl)) rfl
set_option maxRecDepth 20000 in
theorem cd_P_becomeNone : Cond.code y_P_becomeNone b_P_becomeNone 1 none ∈ zTb := zTb_of (tm2 (List.mem_of_getElem? (i := 182) rfl)) rfl
set_option maxRecDepth 20000 in
theorem im_P_becomeNone : Cond.instanceMethod y_P_becomeNone ∈ zTb := zTb_of (tm2 (List.mem_of_getElem? (i := 180) rfl)) rfl
set_option maxRecDepth 20000 in
theorem se_P_becomeNone : Cond.selects y_P_becomeNone.cls y_P_becomeNone y_P_becomeNone ∈ zTb := zTb_of (tm2 (List.mem_of_getElem? (i := 181) rfl)) rfl
set_option maxRecDepth 20000 in
theorem cd_X_none : Cond.code y_X_none b_X_none 2 (some .boolean) ∈ zTb := zTb_of (tm2 (List.mem_of_getElem? (i := 186) rfl)) rfl
set_option maxRecDepth 20000 in
theorem im_X_none : Cond.instanceMethod y_X_none ∈ zTb := zTb_of (tm2 (List.mem_of_getElem? (i := 184) rfl)) rfl
set_option maxRecDepth 20000 in
theorem se_X_none : Cond.selects y_X_none.cls y_X_none y_X_none ∈ zTb := zTb_of (tm2 (List.mem_of_getElem? (i := 185) rfl)) rfl
set_option maxRecDepth 20000 in
theorem cd_X_isSlot : Cond.code y_X_isSlot b_X_isSlot 1 (some .boolean) ∈ zTb := zTb_of (tm2 (List.mem_of_getElem? (i := 189) rfl)) rfl
set_option maxRecDepth 20000 in
theorem sm_X_isSlot : Cond.static y_X_isSlot ∈ zTb := zTb_of (tm2 (List.mem_of_getElem? (i := 188) rfl)) rfl
set_option maxRecDepth 20000 in
theorem cd_X_point : Cond.code y_X_point b_X_point 10 (some .int) ∈ zTb := zTb_of (tm2 (List.mem_of_getElem? (i := 193) rfl)) rfl
set_option maxRecDepth 20000 in
theorem im_X_point : Cond.instanceMethod y_X_point ∈ zTb := zTb_of (tm2 (List.mem_of_getElem? (i := 191) rfl)) rfl
set_option maxRecDepth 20000 in
theorem se_X_point : Cond.selects y_X_point.cls y_X_point y_X_point ∈ zTb := zTb_of (tm2 (List.mem_of_getElem? (i := 192) rfl)) rfl
set_option maxRecDepth 20000 in
theorem cd_E_read : Cond.code y_E_read b_E_read 10 (some .boolean) ∈ zTb := zTb_of (tm2 (List.mem_of_getElem? (i := 197) rfl)) rfl
set_option maxRecDepth 20000 in
theorem im_E_read : Cond.instanceMethod y_E_read ∈ zTb := zTb_of (tm2 (List.mem_of_getElem? (i := 195) rfl)) rfl
set_option maxRecDepth 20000 in
theorem se_E_read : Cond.selects y_E_read.cls y_E_read y_E_read ∈ zTb := zTb_of (tm2 (List.mem_of_getElem? (i := 196) rfl)) rfl
set_option maxRecDepth 20000 in
theorem cd_E_takeLowestTerms : Cond.code y_E_takeLowestTerms b_E_takeLowestTerms 7 none ∈ zTb := zTb_of (tm2 (List.mem_of_getElem? (i := 201) rfl)) rfl
set_option maxRecDepth 20000 in
theorem im_E_takeLowestTerms : Cond.instanceMethod y_E_takeLowestTerms ∈ zTb := zTb_of (tm2 (List.mem_of_getElem? (i := 200) rfl)) rfl
set_option maxRecDepth 20000 in
theorem se_E_takeLowestTerms : Cond.selects y_E_takeLowestTerms.cls y_E_takeLowestTerms y_E_takeLowestTerms ∈ zTb := zTb_sel (q := (y_E_takeLowestTerms, 10)) (List.mem_append_left _ (List.mem_of_getElem? (i := 5) rfl)) rfl
set_option maxRecDepth 20000 in
theorem cd_D_common : Cond.code y_D_common b_D_common 5 none ∈ zTb := zTb_of (tm2 (List.mem_of_getElem? (i := 205) rfl)) rfl
set_option maxRecDepth 20000 in
theorem im_D_common : Cond.instanceMethod y_D_common ∈ zTb := zTb_of (tm2 (List.mem_of_getElem? (i := 203) rfl)) rfl
set_option maxRecDepth 20000 in
theorem se_D_common : Cond.selects y_D_common.cls y_D_common y_D_common ∈ zTb := zTb_of (tm2 (List.mem_of_getElem? (i := 204) rfl)) rfl
set_option maxRecDepth 20000 in
theorem cd_N_become_N : Cond.code y_N_become_N b_N_become_N 2 none ∈ zTb := zTb_of (tm2 (List.mem_of_getElem? (i := 209) rfl)) rfl
set_option maxRecDepth 20000 in
theorem im_N_become_N : Cond.instanceMethod y_N_become_N ∈ zTb := zTb_of (tm2 (List.mem_of_getElem? (i := 207) rfl)) rfl
set_option maxRecDepth 20000 in
theorem se_N_become_N : Cond.selects y_N_become_N.cls y_N_become_N y_N_become_N ∈ zTb := zTb_of (tm2 (List.mem_of_getElem? (i := 208) rfl)) rfl
set_option maxRecDepth 20000 in
theorem cd_D_shorten : Cond.code y_D_shorten b_D_shorten 2 none ∈ zTb := zTb_of (tm2 (List.mem_of_getElem? (i := 216) rfl)) rfl
set_option maxRecDepth 20000 in
theorem im_D_shorten : Cond.instanceMethod y_D_shorten ∈ zTb := zTb_of (tm2 (List.mem_of_getElem? (i := 215) rfl)) rfl
set_option maxRecDepth 20000 in
theorem se_D_shorten : Cond.selects y_D_shorten.cls y_D_shorten y_D_shorten ∈ zTb := zTb_sel (q := (y_D_shorten, 10)) (List.mem_append_left _ (List.mem_of_getElem? (i := 6) rfl)) rfl
set_option maxRecDepth 20000 in
theorem cd_R_divide : Cond.code y_R_divide b_R_divide 12 none ∈ zTb := zTb_of (tm2 (List.mem_of_getElem? (i := 221) rfl)) rfl
set_option maxRecDepth 20000 in
theorem im_R_divide : Cond.instanceMethod y_R_divide ∈ zTb := zTb_of (tm2 (List.mem_of_getElem? (i := 219) rfl)) rfl
set_option maxRecDepth 20000 in
theorem se_R_divide : Cond.selects y_R_divide.cls y_R_divide y_R_divide ∈ zTb := zTb_of (tm2 (List.mem_of_getElem? (i := 220) rfl)) rfl
set_option maxRecDepth 20000 in
theorem cd_R_scaleUp : Cond.code y_R_scaleUp b_R_scaleUp 10 (some .int) ∈ zTb := zTb_of (tm2 (List.mem_of_getElem? (i := 226) rfl)) rfl
set_option maxRecDepth 20000 in
theorem im_R_scaleUp : Cond.instanceMethod y_R_scaleUp ∈ zTb := zTb_of (tm2 (List.mem_of_getElem? (i := 225) rfl)) rfl
set_option maxRecDepth 20000 in
theorem se_R_scaleUp : Cond.selects y_R_scaleUp.cls y_R_scaleUp y_R_scaleUp ∈ zTb := zTb_sel (q := (y_R_scaleUp, 5)) (List.mem_append_left _ (List.mem_of_getElem? (i := 7) rfl)) rfl
set_option maxRecDepth 20000 in
theorem cd_R_guessLimb : Cond.code y_R_guessLimb b_R_guessLimb 16 (some .long) ∈ zTb := zTb_of (tm2 (List.mem_of_getElem? (i := 230) rfl)) rfl
set_option maxRecDepth 20000 in
theorem im_R_guessLimb : Cond.instanceMethod y_R_guessLimb ∈ zTb := zTb_of (tm2 (List.mem_of_getElem? (i := 229) rfl)) rfl
set_option maxRecDepth 20000 in
theorem se_R_guessLimb : Cond.selects y_R_guessLimb.cls y_R_guessLimb y_R_guessLimb ∈ zTb := zTb_sel (q := (y_R_guessLimb, 5)) (List.mem_append_left _ (List.mem_of_getElem? (i := 8) rfl)) rfl
set_option maxRecDepth 20000 in
theorem cd_R_takeMultiple : Cond.code y_R_takeMultiple b_R_takeMultiple 11 (some .int) ∈ zTb := zTb_of (tm2 (List.mem_of_getElem? (i := 234) rfl)) rfl
set_option maxRecDepth 20000 in
theorem im_R_takeMultiple : Cond.instanceMethod y_R_takeMultiple ∈ zTb := zTb_of (tm2 (List.mem_of_getElem? (i := 233) rfl)) rfl
set_option maxRecDepth 20000 in
theorem se_R_takeMultiple : Cond.selects y_R_takeMultiple.cls y_R_takeMultiple y_R_takeMultiple ∈ zTb := zTb_sel (q := (y_R_takeMultiple, 5)) (List.mem_append_left _ (List.mem_of_getElem? (i := 9) rfl)) rfl
set_option maxRecDepth 20000 in
theorem cd_R_giveBack : Cond.code y_R_giveBack b_R_giveBack 6 none ∈ zTb := zTb_of (tm2 (List.mem_of_getElem? (i := 238) rfl)) rfl
set_option maxRecDepth 20000 in
theorem im_R_giveBack : Cond.instanceMethod y_R_giveBack ∈ zTb := zTb_of (tm2 (List.mem_of_getElem? (i := 237) rfl)) rfl
set_option maxRecDepth 20000 in
theorem se_R_giveBack : Cond.selects y_R_giveBack.cls y_R_giveBack y_R_giveBack ∈ zTb := zTb_sel (q := (y_R_giveBack, 5)) (List.mem_append_left _ (List.mem_of_getElem? (i := 10) rfl)) rfl
set_option maxRecDepth 20000 in
theorem cd_R_scaleDown : Cond.code y_R_scaleDown b_R_scaleDown 8 none ∈ zTb := zTb_of (tm3 (List.mem_of_getElem? (i := 2) rfl)) rfl
set_option maxRecDepth 20000 in
theorem im_R_scaleDown : Cond.instanceMethod y_R_scaleDown ∈ zTb := zTb_of (tm3 (List.mem_of_getElem? (i := 1) rfl)) rfl
set_option maxRecDepth 20000 in
theorem se_R_scaleDown : Cond.selects y_R_scaleDown.cls y_R_scaleDown y_R_scaleDown ∈ zTb := zTb_sel (q := (y_R_scaleDown, 5)) (List.mem_append_left _ (List.mem_of_getElem? (i := 11) rfl)) rfl
set_option maxRecDepth 20000 in
theorem cd_D_followLeadingDigits : Cond.code y_D_followLeadingDigits b_D_followLeadingDigits 16 (some .boolean) ∈ zTb := zTb_of (tm3 (List.mem_of_getElem? (i := 7) rfl)) rfl
set_option maxRecDepth 20000 in
theorem im_D_followLeadingDigits : Cond.instanceMethod y_D_followLeadingDigits ∈ zTb := zTb_of (tm3 (List.mem_of_getElem? (i := 6) rfl)) rfl
set_option maxRecDepth 20000 in
theorem se_D_followLeadingDigits : Cond.selects y_D_followLeadingDigits.cls y_D_followLeadingDigits y_D_followLeadingDigits ∈ zTb := zTb_sel (q := (y_D_followLeadingDigits, 10)) (List.mem_append_left _ (List.mem_of_getElem? (i := 12) rfl)) rfl
set_option maxRecDepth 20000 in
theorem cd_N_limbDigits : Cond.code y_N_limbDigits b_N_limbDigits 2 (some .int) ∈ zTb := zTb_of (tm3 (List.mem_of_getElem? (i := 11) rfl)) rfl
set_option maxRecDepth 20000 in
theorem sm_N_limbDigits : Cond.static y_N_limbDigits ∈ zTb := zTb_of (tm3 (List.mem_of_getElem? (i := 10) rfl)) rfl
set_option maxRecDepth 20000 in
theorem cd_D_leading : Cond.code y_D_leading b_D_leading 6 (some .long) ∈ zTb := zTb_of (tm3 (List.mem_of_getElem? (i := 16) rfl)) rfl
set_option maxRecDepth 20000 in
theorem sm_D_leading : Cond.static y_D_leading ∈ zTb := zTb_of (tm3 (List.mem_of_getElem? (i := 15) rfl)) rfl
set_option maxRecDepth 20000 in
theorem cd_D_mix : Cond.code y_D_mix b_D_mix 15 none ∈ zTb := zTb_of (tm3 (List.mem_of_getElem? (i := 26) rfl)) rfl
set_option maxRecDepth 20000 in
theorem im_D_mix : Cond.instanceMethod y_D_mix ∈ zTb := zTb_of (tm3 (List.mem_of_getElem? (i := 25) rfl)) rfl
set_option maxRecDepth 20000 in
theorem se_D_mix : Cond.selects y_D_mix.cls y_D_mix y_D_mix ∈ zTb := zTb_sel (q := (y_D_mix, 10)) (List.mem_append_left _ (List.mem_of_getElem? (i := 13) rfl)) rfl
set_option maxRecDepth 20000 in
theorem cd_N_lowPart : Cond.code y_N_lowPart b_N_lowPart 1 (some .long) ∈ zTb := zTb_of (tm3 (List.mem_of_getElem? (i := 34) rfl)) rfl
set_option maxRecDepth 20000 in
theorem im_N_lowPart : Cond.instanceMethod y_N_lowPart ∈ zTb := zTb_of (tm3 (List.mem_of_getElem? (i := 32) rfl)) rfl
set_option maxRecDepth 20000 in
theorem se_N_lowPart : Cond.selects y_N_lowPart.cls y_N_lowPart y_N_lowPart ∈ zTb := zTb_of (tm3 (List.mem_of_getElem? (i := 33) rfl)) rfl
set_option maxRecDepth 20000 in
theorem cd_D_commonOfLongs : Cond.code y_D_commonOfLongs b_D_commonOfLongs 11 (some .long) ∈ zTb := zTb_of (tm3 (List.mem_of_getElem? (i := 38) rfl)) rfl
set_option maxRecDepth 20000 in
theorem sm_D_commonOfLongs : Cond.static y_D_commonOfLongs ∈ zTb := zTb_of (tm3 (List.mem_of_getElem? (i := 37) rfl)) rfl
set_option maxRecDepth 20000 in
theorem cd_N_changeSign : Cond.code y_N_changeSign b_N_changeSign 1 none ∈ zTb := zTb_of (tm3 (List.mem_of_getElem? (i := 43) rfl)) rfl
set_option maxRecDepth 20000 in
theorem im_N_changeSign : Cond.instanceMethod y_N_changeSign ∈ zTb := zTb_of (tm3 (List.mem_of_getElem? (i := 41) rfl)) rfl
set_option maxRecDepth 20000 in
theorem se_N_changeSign : Cond.selects y_N_changeSign.cls y_N_changeSign y_N_changeSign ∈ zTb := zTb_of (tm3 (List.mem_of_getElem? (i := 42) rfl)) rfl
set_option maxRecDepth 20000 in
theorem cd_E_isOnCurve : Cond.code y_E_isOnCurve b_E_isOnCurve 1 (some .boolean) ∈ zTb := zTb_of (tm3 (List.mem_of_getElem? (i := 47) rfl)) rfl
set_option maxRecDepth 20000 in
theorem im_E_isOnCurve : Cond.instanceMethod y_E_isOnCurve ∈ zTb := zTb_of (tm3 (List.mem_of_getElem? (i := 46) rfl)) rfl
set_option maxRecDepth 20000 in
theorem se_E_isOnCurve : Cond.selects y_E_isOnCurve.cls y_E_isOnCurve y_E_isOnCurve ∈ zTb := zTb_sel (q := (y_E_isOnCurve, 10)) (List.mem_append_left _ (List.mem_of_getElem? (i := 14) rfl)) rfl
set_option maxRecDepth 20000 in
theorem cd_R_addProduct : Cond.code y_R_addProduct b_R_addProduct 4 none ∈ zTb := zTb_of (tm3 (List.mem_of_getElem? (i := 51) rfl)) rfl
set_option maxRecDepth 20000 in
theorem im_R_addProduct : Cond.instanceMethod y_R_addProduct ∈ zTb := zTb_of (tm3 (List.mem_of_getElem? (i := 49) rfl)) rfl
set_option maxRecDepth 20000 in
theorem se_R_addProduct : Cond.selects y_R_addProduct.cls y_R_addProduct y_R_addProduct ∈ zTb := zTb_of (tm3 (List.mem_of_getElem? (i := 50) rfl)) rfl
set_option maxRecDepth 20000 in
theorem cd_N_isLike : Cond.code y_N_isLike b_N_isLike 2 (some .boolean) ∈ zTb := zTb_of (tm3 (List.mem_of_getElem? (i := 55) rfl)) rfl
set_option maxRecDepth 20000 in
theorem im_N_isLike : Cond.instanceMethod y_N_isLike ∈ zTb := zTb_of (tm3 (List.mem_of_getElem? (i := 53) rfl)) rfl
set_option maxRecDepth 20000 in
theorem se_N_isLike : Cond.selects y_N_isLike.cls y_N_isLike y_N_isLike ∈ zTb := zTb_of (tm3 (List.mem_of_getElem? (i := 54) rfl)) rfl
set_option maxRecDepth 20000 in
theorem cd_X_sum : Cond.code y_X_sum b_X_sum 4 (some .int) ∈ zTb := zTb_of (tm3 (List.mem_of_getElem? (i := 61) rfl)) rfl
set_option maxRecDepth 20000 in
theorem im_X_sum : Cond.instanceMethod y_X_sum ∈ zTb := zTb_of (tm3 (List.mem_of_getElem? (i := 59) rfl)) rfl
set_option maxRecDepth 20000 in
theorem se_X_sum : Cond.selects y_X_sum.cls y_X_sum y_X_sum ∈ zTb := zTb_of (tm3 (List.mem_of_getElem? (i := 60) rfl)) rfl
set_option maxRecDepth 20000 in
theorem cd_C_join : Cond.code y_C_join b_C_join 4 (some .boolean) ∈ zTb := zTb_of (tm3 (List.mem_of_getElem? (i := 65) rfl)) rfl
set_option maxRecDepth 20000 in
theorem im_C_join : Cond.instanceMethod y_C_join ∈ zTb := zTb_of (tm3 (List.mem_of_getElem? (i := 63) rfl)) rfl
set_option maxRecDepth 20000 in
theorem se_C_join : Cond.selects y_C_join.cls y_C_join y_C_join ∈ zTb := zTb_of (tm3 (List.mem_of_getElem? (i := 64) rfl)) rfl
set_option maxRecDepth 20000 in
theorem cd_P_become : Cond.code y_P_become b_P_become 2 none ∈ zTb := zTb_of (tm3 (List.mem_of_getElem? (i := 69) rfl)) rfl
set_option maxRecDepth 20000 in
theorem im_P_become : Cond.instanceMethod y_P_become ∈ zTb := zTb_of (tm3 (List.mem_of_getElem? (i := 67) rfl)) rfl
set_option maxRecDepth 20000 in
theorem se_P_become : Cond.selects y_P_become.cls y_P_become y_P_become ∈ zTb := zTb_of (tm3 (List.mem_of_getElem? (i := 68) rfl)) rfl
set_option maxRecDepth 20000 in
theorem cd_C_measureGap : Cond.code y_C_measureGap b_C_measureGap 3 none ∈ zTb := zTb_of (tm3 (List.mem_of_getElem? (i := 74) rfl)) rfl
set_option maxRecDepth 20000 in
theorem im_C_measureGap : Cond.instanceMethod y_C_measureGap ∈ zTb := zTb_of (tm3 (List.mem_of_getElem? (i := 73) rfl)) rfl
set_option maxRecDepth 20000 in
theorem se_C_measureGap : Cond.selects y_C_measureGap.cls y_C_measureGap y_C_measureGap ∈ zTb := zTb_sel (q := (y_C_measureGap, 13)) (List.mem_append_left _ (List.mem_of_getElem? (i := 15) rfl)) rfl
set_option maxRecDepth 20000 in
theorem cd_R_subtract : Cond.code y_R_subtract b_R_subtract 4 none ∈ zTb := zTb_of (tm3 (List.mem_of_getElem? (i := 79) rfl)) rfl
set_option maxRecDepth 20000 in
theorem im_R_subtract : Cond.instanceMethod y_R_subtract ∈ zTb := zTb_of (tm3 (List.mem_of_getElem? (i := 77) rfl)) rfl
set_option maxRecDepth 20000 in
theorem se_R_subtract : Cond.selects y_R_subtract.cls y_R_subtract y_R_subtract ∈ zTb := zTb_of (tm3 (List.mem_of_getElem? (i := 78) rfl)) rfl
set_option maxRecDepth 20000 in
theorem cd_C_gatherHeights : Cond.code y_C_gatherHeights b_C_gatherHeights 3 none ∈ zTb := zTb_of (tm3 (List.mem_of_getElem? (i := 84) rfl)) rfl
set_option maxRecDepth 20000 in
theorem im_C_gatherHeights : Cond.instanceMethod y_C_gatherHeights ∈ zTb := zTb_of (tm3 (List.mem_of_getElem? (i := 83) rfl)) rfl
set_option maxRecDepth 20000 in
theorem se_C_gatherHeights : Cond.selects y_C_gatherHeights.cls y_C_gatherHeights y_C_gatherHeights ∈ zTb := zTb_sel (q := (y_C_gatherHeights, 13)) (List.mem_append_right _ (List.mem_append_left _ (List.mem_of_getElem? (i := 0) rfl))) rfl
set_option maxRecDepth 20000 in
theorem cd_R_add : Cond.code y_R_add b_R_add 4 none ∈ zTb := zTb_of (tm3 (List.mem_of_getElem? (i := 88) rfl)) rfl
set_option maxRecDepth 20000 in
theorem im_R_add : Cond.instanceMethod y_R_add ∈ zTb := zTb_of (tm3 (List.mem_of_getElem? (i := 86) rfl)) rfl
set_option maxRecDepth 20000 in
theorem se_R_add : Cond.selects y_R_add.cls y_R_add y_R_add ∈ zTb := zTb_of (tm3 (List.mem_of_getElem? (i := 87) rfl)) rfl
set_option maxRecDepth 20000 in
theorem cd_C_drawChord : Cond.code y_C_drawChord b_C_drawChord 3 none ∈ zTb := zTb_of (tm3 (List.mem_of_getElem? (i := 93) rfl)) rfl
set_option maxRecDepth 20000 in
theorem im_C_drawChord : Cond.instanceMethod y_C_drawChord ∈ zTb := zTb_of (tm3 (List.mem_of_getElem? (i := 92) rfl)) rfl
set_option maxRecDepth 20000 in
theorem se_C_drawChord : Cond.selects y_C_drawChord.cls y_C_drawChord y_C_drawChord ∈ zTb := zTb_sel (q := (y_C_drawChord, 13)) (List.mem_append_right _ (List.mem_append_left _ (List.mem_of_getElem? (i := 1) rfl))) rfl
set_option maxRecDepth 20000 in
theorem cd_P_isLike : Cond.code y_P_isLike b_P_isLike 2 (some .boolean) ∈ zTb := zTb_of (tm3 (List.mem_of_getElem? (i := 97) rfl)) rfl
set_option maxRecDepth 20000 in
theorem im_P_isLike : Cond.instanceMethod y_P_isLike ∈ zTb := zTb_of (tm3 (List.mem_of_getElem? (i := 95) rfl)) rfl
set_option maxRecDepth 20000 in
theorem se_P_isLike : Cond.selects y_P_isLike.cls y_P_isLike y_P_isLike ∈ zTb := zTb_of (tm3 (List.mem_of_getElem? (i := 96) rfl)) rfl
set_option maxRecDepth 20000 in
theorem cd_C_drawTangent : Cond.code y_C_drawTangent b_C_drawTangent 2 none ∈ zTb := zTb_of (tm3 (List.mem_of_getElem? (i := 102) rfl)) rfl
set_option maxRecDepth 20000 in
theorem im_C_drawTangent : Cond.instanceMethod y_C_drawTangent ∈ zTb := zTb_of (tm3 (List.mem_of_getElem? (i := 101) rfl)) rfl
set_option maxRecDepth 20000 in
theorem se_C_drawTangent : Cond.selects y_C_drawTangent.cls y_C_drawTangent y_C_drawTangent ∈ zTb := zTb_sel (q := (y_C_drawTangent, 13)) (List.mem_append_right _ (List.mem_append_left _ (List.mem_of_getElem? (i := 2) rfl))) rfl
set_option maxRecDepth 20000 in
theorem cd_C_findShare : Cond.code y_C_findShare b_C_findShare 1 none ∈ zTb := zTb_of (tm3 (List.mem_of_getElem? (i := 108) rfl)) rfl
set_option maxRecDepth 20000 in
theorem im_C_findShare : Cond.instanceMethod y_C_findShare ∈ zTb := zTb_of (tm3 (List.mem_of_getElem? (i := 107) rfl)) rfl
set_option maxRecDepth 20000 in
theorem se_C_findShare : Cond.selects y_C_findShare.cls y_C_findShare y_C_findShare ∈ zTb := zTb_sel (q := (y_C_findShare, 13)) (List.mem_append_right _ (List.mem_append_left _ (List.mem_of_getElem? (i := 3) rfl))) rfl
set_option maxRecDepth 20000 in
theorem cd_D_root : Cond.code y_D_root b_D_root 4 none ∈ zTb := zTb_of (tm3 (List.mem_of_getElem? (i := 115) rfl)) rfl
set_option maxRecDepth 20000 in
theorem im_D_root : Cond.instanceMethod y_D_root ∈ zTb := zTb_of (tm3 (List.mem_of_getElem? (i := 113) rfl)) rfl
set_option maxRecDepth 20000 in
theorem se_D_root : Cond.selects y_D_root.cls y_D_root y_D_root ∈ zTb := zTb_of (tm3 (List.mem_of_getElem? (i := 114) rfl)) rfl
set_option maxRecDepth 20000 in
theorem cd_N_digitCount : Cond.code y_N_digitCount b_N_digitCount 1 (some .int) ∈ zTb := zTb_of (tm3 (List.mem_of_getElem? (i := 120) rfl)) rfl
set_option maxRecDepth 20000 in
theorem im_N_digitCount : Cond.instanceMethod y_N_digitCount ∈ zTb := zTb_of (tm3 (List.mem_of_getElem? (i := 118) rfl)) rfl
set_option maxRecDepth 20000 in
theorem se_N_digitCount : Cond.selects y_N_digitCount.cls y_N_digitCount y_N_digitCount ∈ zTb := zTb_of (tm3 (List.mem_of_getElem? (i := 119) rfl)) rfl
set_option maxRecDepth 20000 in
theorem cd_D_powerOfTen : Cond.code y_D_powerOfTen b_D_powerOfTen 4 none ∈ zTb := zTb_of (tm3 (List.mem_of_getElem? (i := 124) rfl)) rfl
set_option maxRecDepth 20000 in
theorem sm_D_powerOfTen : Cond.static y_D_powerOfTen ∈ zTb := zTb_of (tm3 (List.mem_of_getElem? (i := 123) rfl)) rfl
set_option maxRecDepth 20000 in
theorem cd_C_placeX : Cond.code y_C_placeX b_C_placeX 2 (some .boolean) ∈ zTb := zTb_of (tm3 (List.mem_of_getElem? (i := 129) rfl)) rfl
set_option maxRecDepth 20000 in
theorem im_C_placeX : Cond.instanceMethod y_C_placeX ∈ zTb := zTb_of (tm3 (List.mem_of_getElem? (i := 128) rfl)) rfl
set_option maxRecDepth 20000 in
theorem se_C_placeX : Cond.selects y_C_placeX.cls y_C_placeX y_C_placeX ∈ zTb := zTb_sel (q := (y_C_placeX, 13)) (List.mem_append_right _ (List.mem_append_left _ (List.mem_of_getElem? (i := 4) rfl))) rfl
set_option maxRecDepth 20000 in
theorem cd_C_placeY : Cond.code y_C_placeY b_C_placeY 4 none ∈ zTb := zTb_of (tm3 (List.mem_of_getElem? (i := 135) rfl)) rfl
set_option maxRecDepth 20000 in
theorem im_C_placeY : Cond.instanceMethod y_C_placeY ∈ zTb := zTb_of (tm3 (List.mem_of_getElem? (i := 134) rfl)) rfl
set_option maxRecDepth 20000 in
theorem se_C_placeY : Cond.selects y_C_placeY.cls y_C_placeY y_C_placeY ∈ zTb := zTb_sel (q := (y_C_placeY, 13)) (List.mem_append_right _ (List.mem_append_left _ (List.mem_of_getElem? (i := 5) rfl))) rfl
set_option maxRecDepth 20000 in
theorem cd_C_turnOver : Cond.code y_C_turnOver b_C_turnOver 2 none ∈ zTb := zTb_of (tm3 (List.mem_of_getElem? (i := 139) rfl)) rfl
set_option maxRecDepth 20000 in
theorem im_C_turnOver : Cond.instanceMethod y_C_turnOver ∈ zTb := zTb_of (tm3 (List.mem_of_getElem? (i := 137) rfl)) rfl
set_option maxRecDepth 20000 in
theorem se_C_turnOver : Cond.selects y_C_turnOver.cls y_C_turnOver y_C_turnOver ∈ zTb := zTb_of (tm3 (List.mem_of_getElem? (i := 138) rfl)) rfl
set_option maxRecDepth 20000 in
theorem cd_X_keep : Cond.code y_X_keep b_X_keep 3 (some .int) ∈ zTb := zTb_of (tm3 (List.mem_of_getElem? (i := 144) rfl)) rfl
set_option maxRecDepth 20000 in
theorem im_X_keep : Cond.instanceMethod y_X_keep ∈ zTb := zTb_of (tm3 (List.mem_of_getElem? (i := 143) rfl)) rfl
set_option maxRecDepth 20000 in
theorem se_X_keep : Cond.selects y_X_keep.cls y_X_keep y_X_keep ∈ zTb := zTb_sel (q := (y_X_keep, 7)) (List.mem_append_right _ (List.mem_append_left _ (List.mem_of_getElem? (i := 6) rfl))) rfl
set_option maxRecDepth 20000 in
theorem cd_P_isLongerThan : Cond.code y_P_isLongerThan b_P_isLongerThan 2 (some .boolean) ∈ zTb := zTb_of (tm3 (List.mem_of_getElem? (i := 148) rfl)) rfl
set_option maxRecDepth 20000 in
theorem im_P_isLongerThan : Cond.instanceMethod y_P_isLongerThan ∈ zTb := zTb_of (tm3 (List.mem_of_getElem? (i := 146) rfl)) rfl
set_option maxRecDepth 20000 in
theorem se_P_isLongerThan : Cond.selects y_P_isLongerThan.cls y_P_isLongerThan y_P_isLongerThan ∈ zTb := zTb_of (tm3 (List.mem_of_getElem? (i := 147) rfl)) rfl
set_option maxRecDepth 20000 in
theorem cd_P_isWiderThan : Cond.code y_P_isWiderThan b_P_isWiderThan 2 (some .boolean) ∈ zTb := zTb_of (tm3 (List.mem_of_getElem? (i := 152) rfl)) rfl
set_option maxRecDepth 20000 in
theorem im_P_isWiderThan : Cond.instanceMethod y_P_isWiderThan ∈ zTb := zTb_of (tm3 (List.mem_of_getElem? (i := 150) rfl)) rfl
set_option maxRecDepth 20000 in
theorem se_P_isWiderThan : Cond.selects y_P_isWiderThan.cls y_P_isWiderThan y_P_isWiderThan ∈ zTb := zTb_of (tm3 (List.mem_of_getElem? (i := 151) rfl)) rfl
set_option maxRecDepth 20000 in
theorem cd_X_less : Cond.code y_X_less b_X_less 4 (some .int) ∈ zTb := zTb_of (tm3 (List.mem_of_getElem? (i := 158) rfl)) rfl
set_option maxRecDepth 20000 in
theorem im_X_less : Cond.instanceMethod y_X_less ∈ zTb := zTb_of (tm3 (List.mem_of_getElem? (i := 156) rfl)) rfl
set_option maxRecDepth 20000 in
theorem se_X_less : Cond.selects y_X_less.cls y_X_less y_X_less ∈ zTb := zTb_of (tm3 (List.mem_of_getElem? (i := 157) rfl)) rfl
set_option maxRecDepth 20000 in
theorem cd_X_times : Cond.code y_X_times b_X_times 6 (some .int) ∈ zTb := zTb_of (tm3 (List.mem_of_getElem? (i := 163) rfl)) rfl
set_option maxRecDepth 20000 in
theorem im_X_times : Cond.instanceMethod y_X_times ∈ zTb := zTb_of (tm3 (List.mem_of_getElem? (i := 161) rfl)) rfl
set_option maxRecDepth 20000 in
theorem se_X_times : Cond.selects y_X_times.cls y_X_times y_X_times ∈ zTb := zTb_of (tm3 (List.mem_of_getElem? (i := 162) rfl)) rfl
set_option maxRecDepth 20000 in
theorem cd_X_order : Cond.code y_X_order b_X_order 3 (some .int) ∈ zTb := zTb_of (tm3 (List.mem_of_getElem? (i := 170) rfl)) rfl
set_option maxRecDepth 20000 in
theorem im_X_order : Cond.instanceMethod y_X_order ∈ zTb := zTb_of (tm3 (List.mem_of_getElem? (i := 168) rfl)) rfl
set_option maxRecDepth 20000 in
theorem se_X_order : Cond.selects y_X_order.cls y_X_order y_X_order ∈ zTb := zTb_of (tm3 (List.mem_of_getElem? (i := 169) rfl)) rfl
set_option maxRecDepth 20000 in
theorem cd_X_isNone : Cond.code y_X_isNone b_X_isNone 2 (some .boolean) ∈ zTb := zTb_of (tm3 (List.mem_of_getElem? (i := 174) rfl)) rfl
set_option maxRecDepth 20000 in
theorem im_X_isNone : Cond.instanceMethod y_X_isNone ∈ zTb := zTb_of (tm3 (List.mem_of_getElem? (i := 172) rfl)) rfl
set_option maxRecDepth 20000 in
theorem se_X_isNone : Cond.selects y_X_isNone.cls y_X_isNone y_X_isNone ∈ zTb := zTb_of (tm3 (List.mem_of_getElem? (i := 173) rfl)) rfl
set_option maxRecDepth 20000 in
theorem cd_X_same : Cond.code y_X_same b_X_same 3 (some .boolean) ∈ zTb := zTb_of (tm3 (List.mem_of_getElem? (i := 178) rfl)) rfl
set_option maxRecDepth 20000 in
theorem im_X_same : Cond.instanceMethod y_X_same ∈ zTb := zTb_of (tm3 (List.mem_of_getElem? (i := 176) rfl)) rfl
set_option maxRecDepth 20000 in
theorem se_X_same : Cond.selects y_X_same.cls y_X_same y_X_same ∈ zTb := zTb_of (tm3 (List.mem_of_getElem? (i := 177) rfl)) rfl
set_option maxRecDepth 20000 in
theorem cd_X_digits : Cond.code y_X_digits b_X_digits 3 (some .int) ∈ zTb := zTb_of (tm3 (List.mem_of_getElem? (i := 183) rfl)) rfl
set_option maxRecDepth 20000 in
theorem im_X_digits : Cond.instanceMethod y_X_digits ∈ zTb := zTb_of (tm3 (List.mem_of_getElem? (i := 181) rfl)) rfl
set_option maxRecDepth 20000 in
theorem se_X_digits : Cond.selects y_X_digits.cls y_X_digits y_X_digits ∈ zTb := zTb_of (tm3 (List.mem_of_getElem? (i := 182) rfl)) rfl
set_option maxRecDepth 20000 in
theorem cd_X_hasNumber : Cond.code y_X_hasNumber b_X_hasNumber 3 (some .boolean) ∈ zTb := zTb_of (tm3 (List.mem_of_getElem? (i := 187) rfl)) rfl
set_option maxRecDepth 20000 in
theorem im_X_hasNumber : Cond.instanceMethod y_X_hasNumber ∈ zTb := zTb_of (tm3 (List.mem_of_getElem? (i := 186) rfl)) rfl
set_option maxRecDepth 20000 in
theorem se_X_hasNumber : Cond.selects y_X_hasNumber.cls y_X_hasNumber y_X_hasNumber ∈ zTb := zTb_sel (q := (y_X_hasNumber, 7)) (List.mem_append_right _ (List.mem_append_left _ (List.mem_of_getElem? (i := 7) rfl))) rfl
set_option maxRecDepth 20000 in
theorem cd_P_number : Cond.code y_P_number b_P_number 2 (some (.object "ChordPoints$Num")) ∈ zTb := zTb_of (tm3 (List.mem_of_getElem? (i := 191) rfl)) rfl
set_option maxRecDepth 20000 in
theorem im_P_number : Cond.instanceMethod y_P_number ∈ zTb := zTb_of (tm3 (List.mem_of_getElem? (i := 189) rfl)) rfl
set_option maxRecDepth 20000 in
theorem se_P_number : Cond.selects y_P_number.cls y_P_number y_P_number ∈ zTb := zTb_of (tm3 (List.mem_of_getElem? (i := 190) rfl)) rfl
set_option maxRecDepth 20000 in
theorem cd_X_digitAt : Cond.code y_X_digitAt b_X_digitAt 6 (some .int) ∈ zTb := zTb_of (tm3 (List.mem_of_getElem? (i := 196) rfl)) rfl
set_option maxRecDepth 20000 in
theorem im_X_digitAt : Cond.instanceMethod y_X_digitAt ∈ zTb := zTb_of (tm3 (List.mem_of_getElem? (i := 194) rfl)) rfl
set_option maxRecDepth 20000 in
theorem se_X_digitAt : Cond.selects y_X_digitAt.cls y_X_digitAt y_X_digitAt ∈ zTb := zTb_of (tm3 (List.mem_of_getElem? (i := 195) rfl)) rfl
set_option maxRecDepth 20000 in
theorem cd_N_digitAbove : Cond.code y_N_digitAbove b_N_digitAbove 2 (some .int) ∈ zTb := zTb_of (tm3 (List.mem_of_getElem? (i := 200) rfl)) rfl
set_option maxRecDepth 20000 in
theorem im_N_digitAbove : Cond.instanceMethod y_N_digitAbove ∈ zTb := zTb_of (tm3 (List.mem_of_getElem? (i := 198) rfl)) rfl
set_option maxRecDepth 20000 in
theorem se_N_digitAbove : Cond.selects y_N_digitAbove.cls y_N_digitAbove y_N_digitAbove ∈ zTb := zTb_of (tm3 (List.mem_of_getElem? (i := 199) rfl)) rfl
set_option maxRecDepth 20000 in
theorem cd_X_sign : Cond.code y_X_sign b_X_sign 4 (some .int) ∈ zTb := zTb_of (tm3 (List.mem_of_getElem? (i := 204) rfl)) rfl
set_option maxRecDepth 20000 in
theorem im_X_sign : Cond.instanceMethod y_X_sign ∈ zTb := zTb_of (tm3 (List.mem_of_getElem? (i := 202) rfl)) rfl
set_option maxRecDepth 20000 in
theorem se_X_sign : Cond.selects y_X_sign.cls y_X_sign y_X_sign ∈ zTb := zTb_of (tm3 (List.mem_of_getElem? (i := 203) rfl)) rfl
set_option maxRecDepth 20000 in
theorem cd_M_init : Cond.code y_M_init b_M_init 1 none ∈ zTb := zTb_of (tm3 (List.mem_of_getElem? (i := 210) rfl)) rfl
set_option maxRecDepth 20000 in
theorem im_M_init : Cond.instanceMethod y_M_init ∈ zTb := zTb_of (tm3 (List.mem_of_getElem? (i := 209) rfl)) rfl
set_option maxRecDepth 20000 in
theorem cd_M_forget : Cond.code y_M_forget b_M_forget 2 none ∈ zTb := zTb_of (tm3 (List.mem_of_getElem? (i := 215) rfl)) rfl
set_option maxRecDepth 20000 in
theorem im_M_forget : Cond.instanceMethod y_M_forget ∈ zTb := zTb_of (tm3 (List.mem_of_getElem? (i := 214) rfl)) rfl
set_option maxRecDepth 20000 in
theorem se_M_forget : Cond.selects y_M_forget.cls y_M_forget y_M_forget ∈ zTb := zTb_sel (q := (y_M_forget, 5)) (List.mem_append_right _ (List.mem_append_left _ (List.mem_of_getElem? (i := 8) rfl))) rfl
set_option maxRecDepth 20000 in
theorem cd_M_set : Cond.code y_M_set b_M_set 6 none ∈ zTb := zTb_of (tm3 (List.mem_of_getElem? (i := 219) rfl)) rfl
set_option maxRecDepth 20000 in
theorem im_M_set : Cond.instanceMethod y_M_set ∈ zTb := zTb_of (tm3 (List.mem_of_getElem? (i := 218) rfl)) rfl
set_option maxRecDepth 20000 in
theorem se_M_set : Cond.selects y_M_set.cls y_M_set y_M_set ∈ zTb := zTb_sel (q := (y_M_set, 5)) (List.mem_append_right _ (List.mem_append_left _ (List.mem_of_getElem? (i := 9) rfl))) rfl
set_option maxRecDepth 20000 in
theorem cd_M_curve : Cond.code y_M_curve b_M_curve 14 (some .int) ∈ zTb := zTb_of (tm4 (List.mem_of_getElem? (i := 1) rfl)) rfl
set_option maxRecDepth 20000 in
theorem im_M_curve : Cond.instanceMethod y_M_curve ∈ zTb := zTb_of (tm3 (List.mem_of_getElem? (i := 239) rfl)) rfl
set_option maxRecDepth 20000 in
theorem se_M_curve : Cond.selects y_M_curve.cls y_M_curve y_M_curve ∈ zTb := zTb_of (tm4 (List.mem_of_getElem? (i := 0) rfl)) rfl
set_option maxRecDepth 20000 in
theorem cd_M_isIn : Cond.code y_M_isIn b_M_isIn 1 (some .boolean) ∈ zTb := zTb_of (tm4 (List.mem_of_getElem? (i := 4) rfl)) rfl
set_option maxRecDepth 20000 in
theorem sm_M_isIn : Cond.static y_M_isIn ∈ zTb := zTb_of (tm4 (List.mem_of_getElem? (i := 3) rfl)) rfl
set_option maxRecDepth 20000 in
theorem cd_M_product : Cond.code y_M_product b_M_product 10 none ∈ zTb := zTb_of (tm4 (List.mem_of_getElem? (i := 13) rfl)) rfl
set_option maxRecDepth 20000 in
theorem im_M_product : Cond.instanceMethod y_M_product ∈ zTb := zTb_of (tm4 (List.mem_of_getElem? (i := 12) rfl)) rfl
set_option maxRecDepth 20000 in
theorem se_M_product : Cond.selects y_M_product.cls y_M_product y_M_product ∈ zTb := zTb_sel (q := (y_M_product, 5)) (List.mem_append_right _ (List.mem_append_left _ (List.mem_of_getElem? (i := 10) rfl))) rfl
set_option maxRecDepth 20000 in
theorem cd_M_multiply : Cond.code y_M_multiply b_M_multiply 13 none ∈ zTb := zTb_of (tm4 (List.mem_of_getElem? (i := 17) rfl)) rfl
set_option maxRecDepth 20000 in
theorem im_M_multiply : Cond.instanceMethod y_M_multiply ∈ zTb := zTb_of (tm4 (List.mem_of_getElem? (i := 16) rfl)) rfl
set_option maxRecDepth 20000 in
theorem se_M_multiply : Cond.selects y_M_multiply.cls y_M_multiply y_M_multiply ∈ zTb := zTb_sel (q := (y_M_multiply, 5)) (List.mem_append_right _ (List.mem_append_left _ (List.mem_of_getElem? (i := 11) rfl))) rfl
set_option maxRecDepth 20000 in
theorem cd_M_trim : Cond.code y_M_trim b_M_trim 4 none ∈ zTb := zTb_of (tm4 (List.mem_of_getElem? (i := 21) rfl)) rfl
set_option maxRecDepth 20000 in
theorem im_M_trim : Cond.instanceMethod y_M_trim ∈ zTb := zTb_of (tm4 (List.mem_of_getElem? (i := 20) rfl)) rfl
set_option maxRecDepth 20000 in
theorem se_M_trim : Cond.selects y_M_trim.cls y_M_trim y_M_trim ∈ zTb := zTb_sel (q := (y_M_trim, 5)) (List.mem_append_right _ (List.mem_append_left _ (List.mem_of_getElem? (i := 12) rfl))) rfl
set_option maxRecDepth 20000 in
theorem cd_M_add : Cond.code y_M_add b_M_add 7 none ∈ zTb := zTb_of (tm4 (List.mem_of_getElem? (i := 25) rfl)) rfl
set_option maxRecDepth 20000 in
theorem im_M_add : Cond.instanceMethod y_M_add ∈ zTb := zTb_of (tm4 (List.mem_of_getElem? (i := 24) rfl)) rfl
set_option maxRecDepth 20000 in
theorem se_M_add : Cond.selects y_M_add.cls y_M_add y_M_add ∈ zTb := zTb_sel (q := (y_M_add, 5)) (List.mem_append_right _ (List.mem_append_left _ (List.mem_of_getElem? (i := 13) rfl))) rfl
set_option maxRecDepth 20000 in
theorem cd_M_copy : Cond.code y_M_copy b_M_copy 4 none ∈ zTb := zTb_of (tm4 (List.mem_of_getElem? (i := 29) rfl)) rfl
set_option maxRecDepth 20000 in
theorem im_M_copy : Cond.instanceMethod y_M_copy ∈ zTb := zTb_of (tm4 (List.mem_of_getElem? (i := 28) rfl)) rfl
set_option maxRecDepth 20000 in
theorem se_M_copy : Cond.selects y_M_copy.cls y_M_copy y_M_copy ∈ zTb := zTb_sel (q := (y_M_copy, 5)) (List.mem_append_right _ (List.mem_append_left _ (List.mem_of_getElem? (i := 14) rfl))) rfl
set_option maxRecDepth 20000 in
theorem cd_M_addSizes : Cond.code y_M_addSizes b_M_addSizes 10 none ∈ zTb := zTb_of (tm4 (List.mem_of_getElem? (i := 33) rfl)) rfl
set_option maxRecDepth 20000 in
theorem im_M_addSizes : Cond.instanceMethod y_M_addSizes ∈ zTb := zTb_of (tm4 (List.mem_of_getElem? (i := 32) rfl)) rfl
set_option maxRecDepth 20000 in
theorem se_M_addSizes : Cond.selects y_M_addSizes.cls y_M_addSizes y_M_addSizes ∈ zTb := zTb_sel (q := (y_M_addSizes, 5)) (List.mem_append_right _ (List.mem_append_left _ (List.mem_of_getElem? (i := 15) rfl))) rfl
set_option maxRecDepth 20000 in
theorem cd_M_compare : Cond.code y_M_compare b_M_compare 4 (some .int) ∈ zTb := zTb_of (tm4 (List.mem_of_getElem? (i := 38) rfl)) rfl
set_option maxRecDepth 20000 in
theorem im_M_compare : Cond.instanceMethod y_M_compare ∈ zTb := zTb_of (tm4 (List.mem_of_getElem? (i := 37) rfl)) rfl
set_option maxRecDepth 20000 in
theorem se_M_compare : Cond.selects y_M_compare.cls y_M_compare y_M_compare ∈ zTb := zTb_sel (q := (y_M_compare, 5)) (List.mem_append_right _ (List.mem_append_right _ (List.mem_append_left _ (List.mem_of_getElem? (i := 0) rfl)))) rfl
set_option maxRecDepth 20000 in
theorem cd_M_takeSizes : Cond.code y_M_takeSizes b_M_takeSizes 10 none ∈ zTb := zTb_of (tm4 (List.mem_of_getElem? (i := 42) rfl)) rfl
set_option maxRecDepth 20000 in
theorem im_M_takeSizes : Cond.instanceMethod y_M_takeSizes ∈ zTb := zTb_of (tm4 (List.mem_of_getElem? (i := 41) rfl)) rfl
set_option maxRecDepth 20000 in
theorem se_M_takeSizes : Cond.selects y_M_takeSizes.cls y_M_takeSizes y_M_takeSizes ∈ zTb := zTb_sel (q := (y_M_takeSizes, 5)) (List.mem_append_right _ (List.mem_append_right _ (List.mem_append_left _ (List.mem_of_getElem? (i := 1) rfl)))) rfl
set_option maxRecDepth 20000 in
theorem cd_M_none : Cond.code y_M_none b_M_none 2 (some .boolean) ∈ zTb := zTb_of (tm4 (List.mem_of_getElem? (i := 48) rfl)) rfl
set_option maxRecDepth 20000 in
theorem im_M_none : Cond.instanceMethod y_M_none ∈ zTb := zTb_of (tm4 (List.mem_of_getElem? (i := 46) rfl)) rfl
set_option maxRecDepth 20000 in
theorem se_M_none : Cond.selects y_M_none.cls y_M_none y_M_none ∈ zTb := zTb_of (tm4 (List.mem_of_getElem? (i := 47) rfl)) rfl
set_option maxRecDepth 20000 in
theorem cd_M_isSlot : Cond.code y_M_isSlot b_M_isSlot 1 (some .boolean) ∈ zTb := zTb_of (tm4 (List.mem_of_getElem? (i := 51) rfl)) rfl
set_option maxRecDepth 20000 in
theorem sm_M_isSlot : Cond.static y_M_isSlot ∈ zTb := zTb_of (tm4 (List.mem_of_getElem? (i := 50) rfl)) rfl
set_option maxRecDepth 20000 in
theorem cd_M_point : Cond.code y_M_point b_M_point 10 (some .int) ∈ zTb := zTb_of (tm4 (List.mem_of_getElem? (i := 55) rfl)) rfl
set_option maxRecDepth 20000 in
theorem im_M_point : Cond.instanceMethod y_M_point ∈ zTb := zTb_of (tm4 (List.mem_of_getElem? (i := 53) rfl)) rfl
set_option maxRecDepth 20000 in
theorem se_M_point : Cond.selects y_M_point.cls y_M_point y_M_point ∈ zTb := zTb_of (tm4 (List.mem_of_getElem? (i := 54) rfl)) rfl
set_option maxRecDepth 20000 in
theorem cd_M_fraction : Cond.code y_M_fraction b_M_fraction 7 none ∈ zTb := zTb_of (tm4 (List.mem_of_getElem? (i := 59) rfl)) rfl
set_option maxRecDepth 20000 in
theorem im_M_fraction : Cond.instanceMethod y_M_fraction ∈ zTb := zTb_of (tm4 (List.mem_of_getElem? (i := 58) rfl)) rfl
set_option maxRecDepth 20000 in
theorem se_M_fraction : Cond.selects y_M_fraction.cls y_M_fraction y_M_fraction ∈ zTb := zTb_sel (q := (y_M_fraction, 5)) (List.mem_append_right _ (List.mem_append_right _ (List.mem_append_left _ (List.mem_of_getElem? (i := 2) rfl)))) rfl
set_option maxRecDepth 20000 in
theorem cd_M_common : Cond.code y_M_common b_M_common 4 none ∈ zTb := zTb_of (tm4 (List.mem_of_getElem? (i := 63) rfl)) rfl
set_option maxRecDepth 20000 in
theorem im_M_common : Cond.instanceMethod y_M_common ∈ zTb := zTb_of (tm4 (List.mem_of_getElem? (i := 62) rfl)) rfl
set_option maxRecDepth 20000 in
theorem se_M_common : Cond.selects y_M_common.cls y_M_common y_M_common ∈ zTb := zTb_sel (q := (y_M_common, 5)) (List.mem_append_right _ (List.mem_append_right _ (List.mem_append_left _ (List.mem_of_getElem? (i := 3) rfl)))) rfl
set_option maxRecDepth 20000 in
theorem cd_M_divide : Cond.code y_M_divide b_M_divide 10 none ∈ zTb := zTb_of (tm4 (List.mem_of_getElem? (i := 67) rfl)) rfl
set_option maxRecDepth 20000 in
theorem im_M_divide : Cond.instanceMethod y_M_divide ∈ zTb := zTb_of (tm4 (List.mem_of_getElem? (i := 66) rfl)) rfl
set_option maxRecDepth 20000 in
theorem se_M_divide : Cond.selects y_M_divide.cls y_M_divide y_M_divide ∈ zTb := zTb_sel (q := (y_M_divide, 5)) (List.mem_append_right _ (List.mem_append_right _ (List.mem_append_left _ (List.mem_of_getElem? (i := 4) rfl)))) rfl
set_option maxRecDepth 20000 in
theorem cd_M_timesSmall : Cond.code y_M_timesSmall b_M_timesSmall 9 none ∈ zTb := zTb_of (tm4 (List.mem_of_getElem? (i := 71) rfl)) rfl
set_option maxRecDepth 20000 in
theorem im_M_timesSmall : Cond.instanceMethod y_M_timesSmall ∈ zTb := zTb_of (tm4 (List.mem_of_getElem? (i := 70) rfl)) rfl
set_option maxRecDepth 20000 in
theorem se_M_timesSmall : Cond.selects y_M_timesSmall.cls y_M_timesSmall y_M_timesSmall ∈ zTb := zTb_sel (q := (y_M_timesSmall, 5)) (List.mem_append_right _ (List.mem_append_right _ (List.mem_append_left _ (List.mem_of_getElem? (i := 5) rfl)))) rfl
set_option maxRecDepth 20000 in
theorem cd_M_place : Cond.code y_M_place b_M_place 26 (some .int) ∈ zTb := zTb_of (tm4 (List.mem_of_getElem? (i := 75) rfl)) rfl
set_option maxRecDepth 20000 in
theorem im_M_place : Cond.instanceMethod y_M_place ∈ zTb := zTb_of (tm4 (List.mem_of_getElem? (i := 74) rfl)) rfl
set_option maxRecDepth 20000 in
theorem se_M_place : Cond.selects y_M_place.cls y_M_place y_M_place ∈ zTb := zTb_sel (q := (y_M_place, 5)) (List.mem_append_right _ (List.mem_append_right _ (List.mem_append_left _ (List.mem_of_getElem? (i := 6) rfl)))) rfl
set_option maxRecDepth 20000 in
theorem cd_M_bySmall : Cond.code y_M_bySmall b_M_bySmall 8 none ∈ zTb := zTb_of (tm4 (List.mem_of_getElem? (i := 79) rfl)) rfl
set_option maxRecDepth 20000 in
theorem im_M_bySmall : Cond.instanceMethod y_M_bySmall ∈ zTb := zTb_of (tm4 (List.mem_of_getElem? (i := 78) rfl)) rfl
set_option maxRecDepth 20000 in
theorem se_M_bySmall : Cond.selects y_M_bySmall.cls y_M_bySmall y_M_bySmall ∈ zTb := zTb_sel (q := (y_M_bySmall, 5)) (List.mem_append_right _ (List.mem_append_right _ (List.mem_append_left _ (List.mem_of_getElem? (i := 7) rfl)))) rfl
set_option maxRecDepth 20000 in
theorem cd_M_share : Cond.code y_M_share b_M_share 5 none ∈ zTb := zTb_of (tm4 (List.mem_of_getElem? (i := 83) rfl)) rfl
set_option maxRecDepth 20000 in
theorem im_M_share : Cond.instanceMethod y_M_share ∈ zTb := zTb_of (tm4 (List.mem_of_getElem? (i := 82) rfl)) rfl
set_option maxRecDepth 20000 in
theorem se_M_share : Cond.selects y_M_share.cls y_M_share y_M_share ∈ zTb := zTb_sel (q := (y_M_share, 5)) (List.mem_append_right _ (List.mem_append_right _ (List.mem_append_left _ (List.mem_of_getElem? (i := 8) rfl)))) rfl
set_option maxRecDepth 20000 in
theorem cd_M_more : Cond.code y_M_more b_M_more 5 none ∈ zTb := zTb_of (tm4 (List.mem_of_getElem? (i := 87) rfl)) rfl
set_option maxRecDepth 20000 in
theorem im_M_more : Cond.instanceMethod y_M_more ∈ zTb := zTb_of (tm4 (List.mem_of_getElem? (i := 86) rfl)) rfl
set_option maxRecDepth 20000 in
theorem se_M_more : Cond.selects y_M_more.cls y_M_more y_M_more ∈ zTb := zTb_sel (q := (y_M_more, 5)) (List.mem_append_right _ (List.mem_append_right _ (List.mem_append_left _ (List.mem_of_getElem? (i := 9) rfl)))) rfl
set_option maxRecDepth 20000 in
theorem cd_M_isSame : Cond.code y_M_isSame b_M_isSame 3 (some .boolean) ∈ zTb := zTb_of (tm4 (List.mem_of_getElem? (i := 91) rfl)) rfl
set_option maxRecDepth 20000 in
theorem im_M_isSame : Cond.instanceMethod y_M_isSame ∈ zTb := zTb_of (tm4 (List.mem_of_getElem? (i := 90) rfl)) rfl
set_option maxRecDepth 20000 in
theorem se_M_isSame : Cond.selects y_M_isSame.cls y_M_isSame y_M_isSame ∈ zTb := zTb_sel (q := (y_M_isSame, 5)) (List.mem_append_right _ (List.mem_append_right _ (List.mem_append_left _ (List.mem_of_getElem? (i := 10) rfl)))) rfl
set_option maxRecDepth 20000 in
theorem cd_M_move : Cond.code y_M_move b_M_move 4 none ∈ zTb := zTb_of (tm4 (List.mem_of_getElem? (i := 95) rfl)) rfl
set_option maxRecDepth 20000 in
theorem im_M_move : Cond.instanceMethod y_M_move ∈ zTb := zTb_of (tm4 (List.mem_of_getElem? (i := 94) rfl)) rfl
set_option maxRecDepth 20000 in
theorem se_M_move : Cond.selects y_M_move.cls y_M_move y_M_move ∈ zTb := zTb_sel (q := (y_M_move, 5)) (List.mem_append_right _ (List.mem_append_right _ (List.mem_append_left _ (List.mem_of_getElem? (i := 11) rfl)))) rfl
set_option maxRecDepth 20000 in
theorem cd_M_sum : Cond.code y_M_sum b_M_sum 4 (some .int) ∈ zTb := zTb_of (tm4 (List.mem_of_getElem? (i := 99) rfl)) rfl
set_option maxRecDepth 20000 in
theorem im_M_sum : Cond.instanceMethod y_M_sum ∈ zTb := zTb_of (tm4 (List.mem_of_getElem? (i := 97) rfl)) rfl
set_option maxRecDepth 20000 in
theorem se_M_sum : Cond.selects y_M_sum.cls y_M_sum y_M_sum ∈ zTb := zTb_of (tm4 (List.mem_of_getElem? (i := 98) rfl)) rfl
set_option maxRecDepth 20000 in
theorem cd_M_join : Cond.code y_M_join b_M_join 1 none ∈ zTb := zTb_of (tm4 (List.mem_of_getElem? (i := 103) rfl)) rfl
set_option maxRecDepth 20000 in
theorem im_M_join : Cond.instanceMethod y_M_join ∈ zTb := zTb_of (tm4 (List.mem_of_getElem? (i := 102) rfl)) rfl
set_option maxRecDepth 20000 in
theorem se_M_join : Cond.selects y_M_join.cls y_M_join y_M_join ∈ zTb := zTb_sel (q := (y_M_join, 5)) (List.mem_append_right _ (List.mem_append_right _ (List.mem_append_left _ (List.mem_of_getElem? (i := 12) rfl)))) rfl
set_option maxRecDepth 20000 in
theorem cd_M_isOther : Cond.code y_M_isOther b_M_isOther 1 (some .boolean) ∈ zTb := zTb_of (tm4 (List.mem_of_getElem? (i := 107) rfl)) rfl
set_option maxRecDepth 20000 in
theorem im_M_isOther : Cond.instanceMethod y_M_isOther ∈ zTb := zTb_of (tm4 (List.mem_of_getElem? (i := 106) rfl)) rfl
set_option maxRecDepth 20000 in
theorem se_M_isOther : Cond.selects y_M_isOther.cls y_M_isOther y_M_isOther ∈ zTb := zTb_sel (q := (y_M_isOther, 5)) (List.mem_append_right _ (List.mem_append_right _ (List.mem_append_left _ (List.mem_of_getElem? (i := 13) rfl)))) rfl
set_option maxRecDepth 20000 in
theorem cd_M_touch : Cond.code y_M_touch b_M_touch 1 none ∈ zTb := zTb_of (tm4 (List.mem_of_getElem? (i := 111) rfl)) rfl
set_option maxRecDepth 20000 in
theorem im_M_touch : Cond.instanceMethod y_M_touch ∈ zTb := zTb_of (tm4 (List.mem_of_getElem? (i := 110) rfl)) rfl
set_option maxRecDepth 20000 in
theorem se_M_touch : Cond.selects y_M_touch.cls y_M_touch y_M_touch ∈ zTb := zTb_sel (q := (y_M_touch, 5)) (List.mem_append_right _ (List.mem_append_right _ (List.mem_append_left _ (List.mem_of_getElem? (i := 14) rfl)))) rfl
set_option maxRecDepth 20000 in
theorem cd_M_finish : Cond.code y_M_finish b_M_finish 1 none ∈ zTb := zTb_of (tm4 (List.mem_of_getElem? (i := 116) rfl)) rfl
set_option maxRecDepth 20000 in
theorem im_M_finish : Cond.instanceMethod y_M_finish ∈ zTb := zTb_of (tm4 (List.mem_of_getElem? (i := 115) rfl)) rfl
set_option maxRecDepth 20000 in
theorem se_M_finish : Cond.selects y_M_finish.cls y_M_finish y_M_finish ∈ zTb := zTb_sel (q := (y_M_finish, 5)) (List.mem_append_right _ (List.mem_append_right _ (List.mem_append_left _ (List.mem_of_getElem? (i := 15) rfl)))) rfl
set_option maxRecDepth 20000 in
theorem cd_M_settle : Cond.code y_M_settle b_M_settle 2 (some .int) ∈ zTb := zTb_of (tm4 (List.mem_of_getElem? (i := 120) rfl)) rfl
set_option maxRecDepth 20000 in
theorem im_M_settle : Cond.instanceMethod y_M_settle ∈ zTb := zTb_of (tm4 (List.mem_of_getElem? (i := 119) rfl)) rfl
set_option maxRecDepth 20000 in
theorem se_M_settle : Cond.selects y_M_settle.cls y_M_settle y_M_settle ∈ zTb := zTb_sel (q := (y_M_settle, 5)) (List.mem_append_right _ (List.mem_append_right _ (List.mem_append_right _ (List.mem_of_getElem? (i := 0) rfl)))) rfl
set_option maxRecDepth 20000 in
theorem cd_M_isTooLong : Cond.code y_M_isTooLong b_M_isTooLong 2 (some .boolean) ∈ zTb := zTb_of (tm4 (List.mem_of_getElem? (i := 124) rfl)) rfl
set_option maxRecDepth 20000 in
theorem im_M_isTooLong : Cond.instanceMethod y_M_isTooLong ∈ zTb := zTb_of (tm4 (List.mem_of_getElem? (i := 123) rfl)) rfl
set_option maxRecDepth 20000 in
theorem se_M_isTooLong : Cond.selects y_M_isTooLong.cls y_M_isTooLong y_M_isTooLong ∈ zTb := zTb_sel (q := (y_M_isTooLong, 5)) (List.mem_append_right _ (List.mem_append_right _ (List.mem_append_right _ (List.mem_of_getElem? (i := 1) rfl)))) rfl
set_option maxRecDepth 20000 in
theorem cd_M_digitsOf : Cond.code y_M_digitsOf b_M_digitsOf 4 (some .int) ∈ zTb := zTb_of (tm4 (List.mem_of_getElem? (i := 128) rfl)) rfl
set_option maxRecDepth 20000 in
theorem im_M_digitsOf : Cond.instanceMethod y_M_digitsOf ∈ zTb := zTb_of (tm4 (List.mem_of_getElem? (i := 127) rfl)) rfl
set_option maxRecDepth 20000 in
theorem se_M_digitsOf : Cond.selects y_M_digitsOf.cls y_M_digitsOf y_M_digitsOf ∈ zTb := zTb_sel (q := (y_M_digitsOf, 5)) (List.mem_append_right _ (List.mem_append_right _ (List.mem_append_right _ (List.mem_of_getElem? (i := 2) rfl)))) rfl
set_option maxRecDepth 20000 in
theorem cd_M_less : Cond.code y_M_less b_M_less 4 (some .int) ∈ zTb := zTb_of (tm4 (List.mem_of_getElem? (i := 132) rfl)) rfl
set_option maxRecDepth 20000 in
theorem im_M_less : Cond.instanceMethod y_M_less ∈ zTb := zTb_of (tm4 (List.mem_of_getElem? (i := 130) rfl)) rfl
set_option maxRecDepth 20000 in
theorem se_M_less : Cond.selects y_M_less.cls y_M_less y_M_less ∈ zTb := zTb_of (tm4 (List.mem_of_getElem? (i := 131) rfl)) rfl
set_option maxRecDepth 20000 in
theorem cd_M_turn : Cond.code y_M_turn b_M_turn 2 none ∈ zTb := zTb_of (tm4 (List.mem_of_getElem? (i := 136) rfl)) rfl
set_option maxRecDepth 20000 in
theorem im_M_turn : Cond.instanceMethod y_M_turn ∈ zTb := zTb_of (tm4 (List.mem_of_getElem? (i := 135) rfl)) rfl
set_option maxRecDepth 20000 in
theorem se_M_turn : Cond.selects y_M_turn.cls y_M_turn y_M_turn ∈ zTb := zTb_sel (q := (y_M_turn, 5)) (List.mem_append_right _ (List.mem_append_right _ (List.mem_append_right _ (List.mem_of_getElem? (i := 3) rfl)))) rfl
set_option maxRecDepth 20000 in
theorem cd_M_times : Cond.code y_M_times b_M_times 6 (some .int) ∈ zTb := zTb_of (tm4 (List.mem_of_getElem? (i := 140) rfl)) rfl
set_option maxRecDepth 20000 in
theorem im_M_times : Cond.instanceMethod y_M_times ∈ zTb := zTb_of (tm4 (List.mem_of_getElem? (i := 138) rfl)) rfl
set_option maxRecDepth 20000 in
theorem se_M_times : Cond.selects y_M_times.cls y_M_times y_M_times ∈ zTb := zTb_of (tm4 (List.mem_of_getElem? (i := 139) rfl)) rfl
set_option maxRecDepth 20000 in
theorem cd_M_isFar : Cond.code y_M_isFar b_M_isFar 1 (some .boolean) ∈ zTb := zTb_of (tm4 (List.mem_of_getElem? (i := 147) rfl)) rfl
set_option maxRecDepth 20000 in
theorem im_M_isFar : Cond.instanceMethod y_M_isFar ∈ zTb := zTb_of (tm4 (List.mem_of_getElem? (i := 146) rfl)) rfl
set_option maxRecDepth 20000 in
theorem se_M_isFar : Cond.selects y_M_isFar.cls y_M_isFar y_M_isFar ∈ zTb := zTb_sel (q := (y_M_isFar, 5)) (List.mem_append_right _ (List.mem_append_right _ (List.mem_append_right _ (List.mem_of_getElem? (i := 4) rfl)))) rfl
set_option maxRecDepth 20000 in
theorem cd_M_order : Cond.code y_M_order b_M_order 3 (some .int) ∈ zTb := zTb_of (tm4 (List.mem_of_getElem? (i := 151) rfl)) rfl
set_option maxRecDepth 20000 in
theorem im_M_order : Cond.instanceMethod y_M_order ∈ zTb := zTb_of (tm4 (List.mem_of_getElem? (i := 149) rfl)) rfl
set_option maxRecDepth 20000 in
theorem se_M_order : Cond.selects y_M_order.cls y_M_order y_M_order ∈ zTb := zTb_of (tm4 (List.mem_of_getElem? (i := 150) rfl)) rfl
set_option maxRecDepth 20000 in
theorem cd_M_isNone : Cond.code y_M_isNone b_M_isNone 2 (some .boolean) ∈ zTb := zTb_of (tm4 (List.mem_of_getElem? (i := 155) rfl)) rfl
set_option maxRecDepth 20000 in
theorem im_M_isNone : Cond.instanceMethod y_M_isNone ∈ zTb := zTb_of (tm4 (List.mem_of_getElem? (i := 153) rfl)) rfl
set_option maxRecDepth 20000 in
theorem se_M_isNone : Cond.selects y_M_isNone.cls y_M_isNone y_M_isNone ∈ zTb := zTb_of (tm4 (List.mem_of_getElem? (i := 154) rfl)) rfl
set_option maxRecDepth 20000 in
theorem cd_M_same : Cond.code y_M_same b_M_same 3 (some .boolean) ∈ zTb := zTb_of (tm4 (List.mem_of_getElem? (i := 159) rfl)) rfl
set_option maxRecDepth 20000 in
theorem im_M_same : Cond.instanceMethod y_M_same ∈ zTb := zTb_of (tm4 (List.mem_of_getElem? (i := 157) rfl)) rfl
set_option maxRecDepth 20000 in
theorem se_M_same : Cond.selects y_M_same.cls y_M_same y_M_same ∈ zTb := zTb_of (tm4 (List.mem_of_getElem? (i := 158) rfl)) rfl
set_option maxRecDepth 20000 in
theorem cd_M_digits : Cond.code y_M_digits b_M_digits 3 (some .int) ∈ zTb := zTb_of (tm4 (List.mem_of_getElem? (i := 163) rfl)) rfl
set_option maxRecDepth 20000 in
theorem im_M_digits : Cond.instanceMethod y_M_digits ∈ zTb := zTb_of (tm4 (List.mem_of_getElem? (i := 161) rfl)) rfl
set_option maxRecDepth 20000 in
theorem se_M_digits : Cond.selects y_M_digits.cls y_M_digits y_M_digits ∈ zTb := zTb_of (tm4 (List.mem_of_getElem? (i := 162) rfl)) rfl
set_option maxRecDepth 20000 in
theorem cd_M_take : Cond.code y_M_take b_M_take 4 (some .boolean) ∈ zTb := zTb_of (tm4 (List.mem_of_getElem? (i := 167) rfl)) rfl
set_option maxRecDepth 20000 in
theorem im_M_take : Cond.instanceMethod y_M_take ∈ zTb := zTb_of (tm4 (List.mem_of_getElem? (i := 166) rfl)) rfl
set_option maxRecDepth 20000 in
theorem se_M_take : Cond.selects y_M_take.cls y_M_take y_M_take ∈ zTb := zTb_sel (q := (y_M_take, 5)) (List.mem_append_right _ (List.mem_append_right _ (List.mem_append_right _ (List.mem_of_getElem? (i := 5) rfl)))) rfl
set_option maxRecDepth 20000 in
theorem cd_M_digitAt : Cond.code y_M_digitAt b_M_digitAt 8 (some .int) ∈ zTb := zTb_of (tm4 (List.mem_of_getElem? (i := 171) rfl)) rfl
set_option maxRecDepth 20000 in
theorem im_M_digitAt : Cond.instanceMethod y_M_digitAt ∈ zTb := zTb_of (tm4 (List.mem_of_getElem? (i := 169) rfl)) rfl
set_option maxRecDepth 20000 in
theorem se_M_digitAt : Cond.selects y_M_digitAt.cls y_M_digitAt y_M_digitAt ∈ zTb := zTb_of (tm4 (List.mem_of_getElem? (i := 170) rfl)) rfl
set_option maxRecDepth 20000 in
theorem cd_M_sign : Cond.code y_M_sign b_M_sign 3 (some .int) ∈ zTb := zTb_of (tm4 (List.mem_of_getElem? (i := 175) rfl)) rfl
set_option maxRecDepth 20000 in
theorem im_M_sign : Cond.instanceMethod y_M_sign ∈ zTb := zTb_of (tm4 (List.mem_of_getElem? (i := 173) rfl)) rfl
set_option maxRecDepth 20000 in
theorem se_M_sign : Cond.selects y_M_sign.cls y_M_sign y_M_sign ∈ zTb := zTb_of (tm4 (List.mem_of_getElem? (i := 174) rfl)) rfl
set_option maxRecDepth 20000 in
theorem ca_L_9 : zCa R_law 9 y_X_init b_X_init 4 none 0 := ⟨⟨cd_X_init, ini_X, by decide +kernel, by decide +kernel, by decide +kernel⟩, Or.inl (zTb_of (tm1 (List.mem_of_getElem? (i := 14) rfl)) rfl)⟩
set_option maxRecDepth 20000 in
theorem ca_X_9 : zCa R_X 9 y_R_init b_R_init 1 none 0 := ⟨⟨cd_R_init, ini_R, by decide +kernel, by decide +kernel, by decide +kernel⟩, Or.inr ⟨_, zN_of (tm1 (List.mem_of_getElem? (i := 22) rfl)) rfl⟩⟩
set_option maxRecDepth 20000 in
theorem ca_R_23 : zCa R_R 23 y_N_init b_N_init 2 none 1 := ⟨⟨cd_N_init, ini_N, by decide +kernel, by decide +kernel, by decide +kernel⟩, Or.inl (zTb_of (tm1 (List.mem_of_getElem? (i := 28) rfl)) rfl)⟩
set_option maxRecDepth 20000 in
theorem ca_X_12 : zCa R_X 12 y_D_init b_D_init 2 none 1 := ⟨⟨cd_D_init, ini_D, by decide +kernel, by decide +kernel, by decide +kernel⟩, Or.inl (zTb_of (tm1 (List.mem_of_getElem? (i := 76) rfl)) rfl)⟩
set_option maxRecDepth 20000 in
theorem ca_D_11 : zCa R_D 11 y_N_init b_N_init 2 none 1 := ⟨⟨cd_N_init, ini_N, by decide +kernel, by decide +kernel, by decide +kernel⟩, Or.inl (zTb_of (tm1 (List.mem_of_getElem? (i := 81) rfl)) rfl)⟩
set_option maxRecDepth 20000 in
theorem ca_D_38 : zCa R_D 38 y_N_become_J b_N_become_J 7 none 1 := ⟨⟨cd_N_become_J, ini_N, by decide +kernel, by decide +kernel, by decide +kernel⟩, Or.inl (zTb_of (tm1 (List.mem_of_getElem? (i := 83) rfl)) rfl)⟩
set_option maxRecDepth 20000 in
theorem ca_X_17 : zCa R_X 17 y_Q_init b_Q_init 1 none 0 := ⟨⟨cd_Q_init, ini_Q, by decide +kernel, by decide +kernel, by decide +kernel⟩, Or.inr ⟨_, zN_of (tm1 (List.mem_of_getElem? (i := 121) rfl)) rfl⟩⟩
set_option maxRecDepth 20000 in
theorem ca_Q_11 : zCa R_Q 11 y_N_init b_N_init 2 none 1 := ⟨⟨cd_N_init, ini_N, by decide +kernel, by decide +kernel, by decide +kernel⟩, Or.inl (zTb_of (tm1 (List.mem_of_getElem? (i := 126) rfl)) rfl)⟩
set_option maxRecDepth 20000 in
theorem ca_X_24 : zCa R_X 24 y_Q_become b_Q_become 11 none 5 := ⟨⟨cd_Q_become, ini_Q, by decide +kernel, by decide +kernel, by decide +kernel⟩, Or.inl (zTb_of (tm1 (List.mem_of_getElem? (i := 171) rfl)) rfl)⟩
set_option maxRecDepth 20000 in
theorem ca_Q_47 : zCa R_Q 47 y_N_become_J b_N_become_J 7 none 1 := ⟨⟨cd_N_become_J, ini_N, by decide +kernel, by decide +kernel, by decide +kernel⟩, Or.inl (zTb_of (tm1 (List.mem_of_getElem? (i := 175) rfl)) rfl)⟩
set_option maxRecDepth 20000 in
theorem ca_Q_53 : zCa R_Q 53 y_Q_b4 b_Q_b4 6 (some .long) 3 := ⟨⟨cd_Q_b4, ini_Q, by decide +kernel, by decide +kernel, by decide +kernel⟩, Or.inl (zTb_of (tm1 (List.mem_of_getElem? (i := 177) rfl)) rfl)⟩
set_option maxRecDepth 20000 in
theorem ca_Q_56 : zCa R_Q 56 y_Q_b6 b_Q_b6 4 (some .long) 2 := ⟨⟨cd_Q_b6, ini_Q, by decide +kernel, by decide +kernel, by decide +kernel⟩, Or.inl (zTb_of (tm1 (List.mem_of_getElem? (i := 180) rfl)) rfl)⟩
set_option maxRecDepth 20000 in
theorem ca_Q_60 : zCa R_Q 60 y_Q_b8 b_Q_b8 10 (some .long) 5 := ⟨⟨cd_Q_b8, ini_Q, by decide +kernel, by decide +kernel, by decide +kernel⟩, Or.inl (zTb_of (tm1 (List.mem_of_getElem? (i := 184) rfl)) rfl)⟩
set_option maxRecDepth 20000 in
theorem ca_X_30 : zCa R_X 30 y_C_init b_C_init 4 none 3 := ⟨⟨cd_C_init, ini_C, by decide +kernel, by decide +kernel, by decide +kernel⟩, Or.inl (zTb_of (tm1 (List.mem_of_getElem? (i := 189) rfl)) rfl)⟩
set_option maxRecDepth 20000 in
theorem ca_C_11 : zCa R_C 11 y_N_init b_N_init 2 none 1 := ⟨⟨cd_N_init, ini_N, by decide +kernel, by decide +kernel, by decide +kernel⟩, Or.inl (zTb_of (tm1 (List.mem_of_getElem? (i := 194) rfl)) rfl)⟩
set_option maxRecDepth 20000 in
theorem ca_X_39 : zCa R_X 39 y_E_init b_E_init 4 none 3 := ⟨⟨cd_E_init, ini_E, by decide +kernel, by decide +kernel, by decide +kernel⟩, Or.inl (zTb_of (tm1 (List.mem_of_getElem? (i := 237) rfl)) rfl)⟩
set_option maxRecDepth 20000 in
theorem ca_E_11 : zCa R_E 11 y_N_init b_N_init 2 none 1 := ⟨⟨cd_N_init, ini_N, by decide +kernel, by decide +kernel, by decide +kernel⟩, Or.inl (zTb_of (tm2 (List.mem_of_getElem? (i := 2) rfl)) rfl)⟩
set_option maxRecDepth 20000 in
theorem ca_X_46 : zCa R_X 46 y_P_init b_P_init 1 none 0 := ⟨⟨cd_P_init, ini_P, by decide +kernel, by decide +kernel, by decide +kernel⟩, Or.inr ⟨_, zN_of (tm2 (List.mem_of_getElem? (i := 36) rfl)) rfl⟩⟩
set_option maxRecDepth 20000 in
theorem ca_P_11 : zCa R_P 11 y_N_init b_N_init 2 none 1 := ⟨⟨cd_N_init, ini_N, by decide +kernel, by decide +kernel, by decide +kernel⟩, Or.inl (zTb_of (tm2 (List.mem_of_getElem? (i := 41) rfl)) rfl)⟩
set_option maxRecDepth 20000 in
theorem ca_L_13 : zCa R_law 13 y_X_curve b_X_curve 7 (some .int) 5 := ⟨⟨cd_X_curve, ini_X, by decide +kernel, by decide +kernel, by decide +kernel⟩, Or.inl (zTb_of (tm2 (List.mem_of_getElem? (i := 98) rfl)) rfl)⟩
set_option maxRecDepth 20000 in
theorem ca_X_61 : zCa R_X 61 y_X_isCoefficient b_X_isCoefficient 1 (some .boolean) 1 := ⟨⟨cd_X_isCoefficient, ini_X, by decide +kernel, by decide +kernel, by decide +kernel⟩, Or.inl (zTb_of (tm2 (List.mem_of_getElem? (i := 102) rfl)) rfl)⟩
set_option maxRecDepth 20000 in
theorem ca_X_65 : zCa R_X 65 y_E_isSingular b_E_isSingular 11 (some .boolean) 5 := ⟨⟨cd_E_isSingular, ini_E, by decide +kernel, by decide +kernel, by decide +kernel⟩, Or.inl (zTb_of (tm2 (List.mem_of_getElem? (i := 107) rfl)) rfl)⟩
set_option maxRecDepth 20000 in
theorem ca_E_131 : zCa R_E 131 y_Q_b2 b_Q_b2 4 (some .long) 2 := ⟨⟨cd_Q_b2, ini_Q, by decide +kernel, by decide +kernel, by decide +kernel⟩, Or.inl (zTb_of (tm2 (List.mem_of_getElem? (i := 111) rfl)) rfl)⟩
set_option maxRecDepth 20000 in
theorem ca_E_89 : zCa R_E 89 y_N_become_J b_N_become_J 7 none 1 := ⟨⟨cd_N_become_J, ini_N, by decide +kernel, by decide +kernel, by decide +kernel⟩, Or.inl (zTb_of (tm2 (List.mem_of_getElem? (i := 114) rfl)) rfl)⟩
set_option maxRecDepth 20000 in
theorem ca_E_135 : zCa R_E 135 y_Q_b4 b_Q_b4 6 (some .long) 3 := ⟨⟨cd_Q_b4, ini_Q, by decide +kernel, by decide +kernel, by decide +kernel⟩, Or.inl (zTb_of (tm2 (List.mem_of_getElem? (i := 115) rfl)) rfl)⟩
set_option maxRecDepth 20000 in
theorem ca_E_139 : zCa R_E 139 y_Q_b6 b_Q_b6 4 (some .long) 2 := ⟨⟨cd_Q_b6, ini_Q, by decide +kernel, by decide +kernel, by decide +kernel⟩, Or.inl (zTb_of (tm2 (List.mem_of_getElem? (i := 116) rfl)) rfl)⟩
set_option maxRecDepth 20000 in
theorem ca_E_142 : zCa R_E 142 y_Q_b8 b_Q_b8 10 (some .long) 5 := ⟨⟨cd_Q_b8, ini_Q, by decide +kernel, by decide +kernel, by decide +kernel⟩, Or.inl (zTb_of (tm2 (List.mem_of_getElem? (i := 117) rfl)) rfl)⟩
set_option maxRecDepth 20000 in
theorem ca_E_104 : zCa R_E 104 y_R_multiply b_R_multiply 15 none 3 := ⟨⟨cd_R_multiply, ini_R, by decide +kernel, by decide +kernel, by decide +kernel⟩, Or.inl (zTb_of (tm2 (List.mem_of_getElem? (i := 118) rfl)) rfl)⟩
set_option maxRecDepth 20000 in
theorem ca_R_62 : zCa R_R 62 y_R_lose b_R_lose 2 none 1 := ⟨⟨cd_R_lose, ini_R, by decide +kernel, by decide +kernel, by decide +kernel⟩, Or.inl (zTb_of (tm2 (List.mem_of_getElem? (i := 122) rfl)) rfl)⟩
set_option maxRecDepth 20000 in
theorem ca_R_75 : zCa R_R 75 y_N_becomeZero b_N_becomeZero 1 none 0 := ⟨⟨cd_N_becomeZero, ini_N, by decide +kernel, by decide +kernel, by decide +kernel⟩, Or.inl (zTb_of (tm2 (List.mem_of_getElem? (i := 126) rfl)) rfl)⟩
set_option maxRecDepth 20000 in
theorem ca_R_80 : zCa R_R 80 y_R_store b_R_store 6 none 4 := ⟨⟨cd_R_store, ini_R, by decide +kernel, by decide +kernel, by decide +kernel⟩, Or.inl (zTb_of (tm2 (List.mem_of_getElem? (i := 131) rfl)) rfl)⟩
set_option maxRecDepth 20000 in
theorem ca_E_148 : zCa R_E 148 y_R_subtractProduct b_R_subtractProduct 4 none 3 := ⟨⟨cd_R_subtractProduct, ini_R, by decide +kernel, by decide +kernel, by decide +kernel⟩, Or.inl (zTb_of (tm2 (List.mem_of_getElem? (i := 142) rfl)) rfl)⟩
set_option maxRecDepth 20000 in
theorem ca_R_84 : zCa R_R 84 y_R_multiply b_R_multiply 15 none 3 := ⟨⟨cd_R_multiply, ini_R, by decide +kernel, by decide +kernel, by decide +kernel⟩, Or.inl (zTb_of (tm2 (List.mem_of_getElem? (i := 146) rfl)) rfl)⟩
set_option maxRecDepth 20000 in
theorem ca_R_34 : zCa R_R 34 y_R_addSigned b_R_addSigned 5 none 4 := ⟨⟨cd_R_addSigned, ini_R, by decide +kernel, by decide +kernel, by decide +kernel⟩, Or.inl (zTb_of (tm2 (List.mem_of_getElem? (i := 147) rfl)) rfl)⟩
set_option maxRecDepth 20000 in
theorem ca_R_38 : zCa R_R 38 y_R_addSizes b_R_addSizes 8 none 3 := ⟨⟨cd_R_addSizes, ini_R, by decide +kernel, by decide +kernel, by decide +kernel⟩, Or.inl (zTb_of (tm2 (List.mem_of_getElem? (i := 151) rfl)) rfl)⟩
set_option maxRecDepth 20000 in
theorem ca_R_66 : zCa R_R 66 y_N_limb b_N_limb 2 (some .int) 1 := ⟨⟨cd_N_limb, ini_N, by decide +kernel, by decide +kernel, by decide +kernel⟩, Or.inl (zTb_of (tm2 (List.mem_of_getElem? (i := 156) rfl)) rfl)⟩
set_option maxRecDepth 20000 in
theorem ca_R_71 : zCa R_R 71 y_N_settle b_N_settle 4 none 2 := ⟨⟨cd_N_settle, ini_N, by decide +kernel, by decide +kernel, by decide +kernel⟩, Or.inl (zTb_of (tm2 (List.mem_of_getElem? (i := 161) rfl)) rfl)⟩
set_option maxRecDepth 20000 in
theorem ca_R_42 : zCa R_R 42 y_N_compareSize b_N_compareSize 3 (some .int) 1 := ⟨⟨cd_N_compareSize, ini_N, by decide +kernel, by decide +kernel, by decide +kernel⟩, Or.inl (zTb_of (tm2 (List.mem_of_getElem? (i := 165) rfl)) rfl)⟩
set_option maxRecDepth 20000 in
theorem ca_R_46 : zCa R_R 46 y_R_subtractSizes b_R_subtractSizes 9 none 4 := ⟨⟨cd_R_subtractSizes, ini_R, by decide +kernel, by decide +kernel, by decide +kernel⟩, Or.inl (zTb_of (tm2 (List.mem_of_getElem? (i := 169) rfl)) rfl)⟩
set_option maxRecDepth 20000 in
theorem ca_E_155 : zCa R_E 155 y_N_isZero b_N_isZero 1 (some .boolean) 0 := ⟨⟨cd_N_isZero, ini_N, by decide +kernel, by decide +kernel, by decide +kernel⟩, Or.inl (zTb_of (tm2 (List.mem_of_getElem? (i := 175) rfl)) rfl)⟩
set_option maxRecDepth 20000 in
theorem ca_X_69 : zCa R_X 69 y_P_becomeNone b_P_becomeNone 1 none 0 := ⟨⟨cd_P_becomeNone, ini_P, by decide +kernel, by decide +kernel, by decide +kernel⟩, Or.inl (zTb_of (tm2 (List.mem_of_getElem? (i := 179) rfl)) rfl)⟩
set_option maxRecDepth 20000 in
theorem ca_L_18 : zCa R_law 18 y_X_none b_X_none 2 (some .boolean) 1 := ⟨⟨cd_X_none, ini_X, by decide +kernel, by decide +kernel, by decide +kernel⟩, Or.inl (zTb_of (tm2 (List.mem_of_getElem? (i := 183) rfl)) rfl)⟩
set_option maxRecDepth 20000 in
theorem ca_X_72 : zCa R_X 72 y_X_isSlot b_X_isSlot 1 (some .boolean) 1 := ⟨⟨cd_X_isSlot, ini_X, by decide +kernel, by decide +kernel, by decide +kernel⟩, Or.inl (zTb_of (tm2 (List.mem_of_getElem? (i := 187) rfl)) rfl)⟩
set_option maxRecDepth 20000 in
theorem ca_L_25 : zCa R_law 25 y_X_point b_X_point 10 (some .int) 5 := ⟨⟨cd_X_point, ini_X, by decide +kernel, by decide +kernel, by decide +kernel⟩, Or.inl (zTb_of (tm2 (List.mem_of_getElem? (i := 190) rfl)) rfl)⟩
set_option maxRecDepth 20000 in
theorem ca_X_75 : zCa R_X 75 y_E_read b_E_read 10 (some .boolean) 5 := ⟨⟨cd_E_read, ini_E, by decide +kernel, by decide +kernel, by decide +kernel⟩, Or.inl (zTb_of (tm2 (List.mem_of_getElem? (i := 194) rfl)) rfl)⟩
set_option maxRecDepth 20000 in
theorem ca_E_50 : zCa R_E 50 y_E_takeLowestTerms b_E_takeLowestTerms 7 none 4 := ⟨⟨cd_E_takeLowestTerms, ini_E, by decide +kernel, by decide +kernel, by decide +kernel⟩, Or.inl (zTb_of (tm2 (List.mem_of_getElem? (i := 198) rfl)) rfl)⟩
set_option maxRecDepth 20000 in
theorem ca_E_92 : zCa R_E 92 y_D_common b_D_common 5 none 3 := ⟨⟨cd_D_common, ini_D, by decide +kernel, by decide +kernel, by decide +kernel⟩, Or.inl (zTb_of (tm2 (List.mem_of_getElem? (i := 202) rfl)) rfl)⟩
set_option maxRecDepth 20000 in
theorem ca_D_42 : zCa R_D 42 y_N_become_N b_N_become_N 2 none 1 := ⟨⟨cd_N_become_N, ini_N, by decide +kernel, by decide +kernel, by decide +kernel⟩, Or.inl (zTb_of (tm2 (List.mem_of_getElem? (i := 206) rfl)) rfl)⟩
set_option maxRecDepth 20000 in
theorem ca_N_31 : zCa R_N 31 y_N_becomeZero b_N_becomeZero 1 none 0 := ⟨⟨cd_N_becomeZero, ini_N, by decide +kernel, by decide +kernel, by decide +kernel⟩, Or.inl (zTb_of (tm2 (List.mem_of_getElem? (i := 210) rfl)) rfl)⟩
set_option maxRecDepth 20000 in
theorem ca_D_49 : zCa R_D 49 y_N_compareSize b_N_compareSize 3 (some .int) 1 := ⟨⟨cd_N_compareSize, ini_N, by decide +kernel, by decide +kernel, by decide +kernel⟩, Or.inl (zTb_of (tm2 (List.mem_of_getElem? (i := 212) rfl)) rfl)⟩
set_option maxRecDepth 20000 in
theorem ca_D_53 : zCa R_D 53 y_D_shorten b_D_shorten 2 none 0 := ⟨⟨cd_D_shorten, ini_D, by decide +kernel, by decide +kernel, by decide +kernel⟩, Or.inl (zTb_of (tm2 (List.mem_of_getElem? (i := 213) rfl)) rfl)⟩
set_option maxRecDepth 20000 in
theorem ca_D_68 : zCa R_D 68 y_N_isZero b_N_isZero 1 (some .boolean) 0 := ⟨⟨cd_N_isZero, ini_N, by decide +kernel, by decide +kernel, by decide +kernel⟩, Or.inl (zTb_of (tm2 (List.mem_of_getElem? (i := 217) rfl)) rfl)⟩
set_option maxRecDepth 20000 in
theorem ca_D_79 : zCa R_D 79 y_R_divide b_R_divide 12 none 4 := ⟨⟨cd_R_divide, ini_R, by decide +kernel, by decide +kernel, by decide +kernel⟩, Or.inl (zTb_of (tm2 (List.mem_of_getElem? (i := 218) rfl)) rfl)⟩
set_option maxRecDepth 20000 in
theorem ca_R_87 : zCa R_R 87 y_N_become_N b_N_become_N 2 none 1 := ⟨⟨cd_N_become_N, ini_N, by decide +kernel, by decide +kernel, by decide +kernel⟩, Or.inl (zTb_of (tm2 (List.mem_of_getElem? (i := 222) rfl)) rfl)⟩
set_option maxRecDepth 20000 in
theorem ca_R_90 : zCa R_R 90 y_R_scaleUp b_R_scaleUp 10 (some .int) 3 := ⟨⟨cd_R_scaleUp, ini_R, by decide +kernel, by decide +kernel, by decide +kernel⟩, Or.inl (zTb_of (tm2 (List.mem_of_getElem? (i := 223) rfl)) rfl)⟩
set_option maxRecDepth 20000 in
theorem ca_R_94 : zCa R_R 94 y_R_guessLimb b_R_guessLimb 16 (some .long) 2 := ⟨⟨cd_R_guessLimb, ini_R, by decide +kernel, by decide +kernel, by decide +kernel⟩, Or.inl (zTb_of (tm2 (List.mem_of_getElem? (i := 227) rfl)) rfl)⟩
set_option maxRecDepth 20000 in
theorem ca_R_98 : zCa R_R 98 y_R_takeMultiple b_R_takeMultiple 11 (some .int) 3 := ⟨⟨cd_R_takeMultiple, ini_R, by decide +kernel, by decide +kernel, by decide +kernel⟩, Or.inl (zTb_of (tm2 (List.mem_of_getElem? (i := 231) rfl)) rfl)⟩
set_option maxRecDepth 20000 in
theorem ca_R_109 : zCa R_R 109 y_R_giveBack b_R_giveBack 6 none 2 := ⟨⟨cd_R_giveBack, ini_R, by decide +kernel, by decide +kernel, by decide +kernel⟩, Or.inl (zTb_of (tm2 (List.mem_of_getElem? (i := 235) rfl)) rfl)⟩
set_option maxRecDepth 20000 in
theorem ca_R_102 : zCa R_R 102 y_R_scaleDown b_R_scaleDown 8 none 2 := ⟨⟨cd_R_scaleDown, ini_R, by decide +kernel, by decide +kernel, by decide +kernel⟩, Or.inl (zTb_of (tm2 (List.mem_of_getElem? (i := 239) rfl)) rfl)⟩
set_option maxRecDepth 20000 in
theorem ca_D_61 : zCa R_D 61 y_D_followLeadingDigits b_D_followLeadingDigits 16 (some .boolean) 0 := ⟨⟨cd_D_followLeadingDigits, ini_D, by decide +kernel, by decide +kernel, by decide +kernel⟩, Or.inl (zTb_of (tm3 (List.mem_of_getElem? (i := 4) rfl)) rfl)⟩
set_option maxRecDepth 20000 in
theorem ca_D_85 : zCa R_D 85 y_N_limb b_N_limb 2 (some .int) 1 := ⟨⟨cd_N_limb, ini_N, by decide +kernel, by decide +kernel, by decide +kernel⟩, Or.inl (zTb_of (tm3 (List.mem_of_getElem? (i := 8) rfl)) rfl)⟩
set_option maxRecDepth 20000 in
theorem ca_D_89 : zCa R_D 89 y_N_limbDigits b_N_limbDigits 2 (some .int) 1 := ⟨⟨cd_N_limbDigits, ini_N, by decide +kernel, by decide +kernel, by decide +kernel⟩, Or.inl (zTb_of (tm3 (List.mem_of_getElem? (i := 9) rfl)) rfl)⟩
set_option maxRecDepth 20000 in
theorem ca_D_92 : zCa R_D 92 y_D_leading b_D_leading 6 (some .long) 3 := ⟨⟨cd_D_leading, ini_D, by decide +kernel, by decide +kernel, by decide +kernel⟩, Or.inl (zTb_of (tm3 (List.mem_of_getElem? (i := 14) rfl)) rfl)⟩
set_option maxRecDepth 20000 in
theorem ca_D_65 : zCa R_D 65 y_D_mix b_D_mix 15 none 0 := ⟨⟨cd_D_mix, ini_D, by decide +kernel, by decide +kernel, by decide +kernel⟩, Or.inl (zTb_of (tm3 (List.mem_of_getElem? (i := 23) rfl)) rfl)⟩
set_option maxRecDepth 20000 in
theorem ca_D_129 : zCa R_D 129 y_N_settle b_N_settle 4 none 2 := ⟨⟨cd_N_settle, ini_N, by decide +kernel, by decide +kernel, by decide +kernel⟩, Or.inl (zTb_of (tm3 (List.mem_of_getElem? (i := 30) rfl)) rfl)⟩
set_option maxRecDepth 20000 in
theorem ca_D_71 : zCa R_D 71 y_N_lowPart b_N_lowPart 1 (some .long) 0 := ⟨⟨cd_N_lowPart, ini_N, by decide +kernel, by decide +kernel, by decide +kernel⟩, Or.inl (zTb_of (tm3 (List.mem_of_getElem? (i := 31) rfl)) rfl)⟩
set_option maxRecDepth 20000 in
theorem ca_N_44 : zCa R_N 44 y_N_limb b_N_limb 2 (some .int) 1 := ⟨⟨cd_N_limb, ini_N, by decide +kernel, by decide +kernel, by decide +kernel⟩, Or.inl (zTb_of (tm3 (List.mem_of_getElem? (i := 35) rfl)) rfl)⟩
set_option maxRecDepth 20000 in
theorem ca_D_75 : zCa R_D 75 y_D_commonOfLongs b_D_commonOfLongs 11 (some .long) 2 := ⟨⟨cd_D_commonOfLongs, ini_D, by decide +kernel, by decide +kernel, by decide +kernel⟩, Or.inl (zTb_of (tm3 (List.mem_of_getElem? (i := 36) rfl)) rfl)⟩
set_option maxRecDepth 20000 in
theorem ca_E_83 : zCa R_E 83 y_R_divide b_R_divide 12 none 4 := ⟨⟨cd_R_divide, ini_R, by decide +kernel, by decide +kernel, by decide +kernel⟩, Or.inl (zTb_of (tm3 (List.mem_of_getElem? (i := 39) rfl)) rfl)⟩
set_option maxRecDepth 20000 in
theorem ca_E_101 : zCa R_E 101 y_N_changeSign b_N_changeSign 1 none 0 := ⟨⟨cd_N_changeSign, ini_N, by decide +kernel, by decide +kernel, by decide +kernel⟩, Or.inl (zTb_of (tm3 (List.mem_of_getElem? (i := 40) rfl)) rfl)⟩
set_option maxRecDepth 20000 in
theorem ca_E_54 : zCa R_E 54 y_E_isOnCurve b_E_isOnCurve 1 (some .boolean) 0 := ⟨⟨cd_E_isOnCurve, ini_E, by decide +kernel, by decide +kernel, by decide +kernel⟩, Or.inl (zTb_of (tm3 (List.mem_of_getElem? (i := 44) rfl)) rfl)⟩
set_option maxRecDepth 20000 in
theorem ca_E_112 : zCa R_E 112 y_R_addProduct b_R_addProduct 4 none 3 := ⟨⟨cd_R_addProduct, ini_R, by decide +kernel, by decide +kernel, by decide +kernel⟩, Or.inl (zTb_of (tm3 (List.mem_of_getElem? (i := 48) rfl)) rfl)⟩
set_option maxRecDepth 20000 in
theorem ca_E_127 : zCa R_E 127 y_N_isLike b_N_isLike 2 (some .boolean) 1 := ⟨⟨cd_N_isLike, ini_N, by decide +kernel, by decide +kernel, by decide +kernel⟩, Or.inl (zTb_of (tm3 (List.mem_of_getElem? (i := 52) rfl)) rfl)⟩
set_option maxRecDepth 20000 in
theorem ca_N_40 : zCa R_N 40 y_N_compareSize b_N_compareSize 3 (some .int) 1 := ⟨⟨cd_N_compareSize, ini_N, by decide +kernel, by decide +kernel, by decide +kernel⟩, Or.inl (zTb_of (tm3 (List.mem_of_getElem? (i := 56) rfl)) rfl)⟩
set_option maxRecDepth 20000 in
theorem ca_E_67 : zCa R_E 67 y_N_become_N b_N_become_N 2 none 1 := ⟨⟨cd_N_become_N, ini_N, by decide +kernel, by decide +kernel, by decide +kernel⟩, Or.inl (zTb_of (tm3 (List.mem_of_getElem? (i := 57) rfl)) rfl)⟩
set_option maxRecDepth 20000 in
theorem ca_L_30 : zCa R_law 30 y_X_sum b_X_sum 4 (some .int) 3 := ⟨⟨cd_X_sum, ini_X, by decide +kernel, by decide +kernel, by decide +kernel⟩, Or.inl (zTb_of (tm3 (List.mem_of_getElem? (i := 58) rfl)) rfl)⟩
set_option maxRecDepth 20000 in
theorem ca_X_79 : zCa R_X 79 y_C_join b_C_join 4 (some .boolean) 3 := ⟨⟨cd_C_join, ini_C, by decide +kernel, by decide +kernel, by decide +kernel⟩, Or.inl (zTb_of (tm3 (List.mem_of_getElem? (i := 62) rfl)) rfl)⟩
set_option maxRecDepth 20000 in
theorem ca_C_97 : zCa R_C 97 y_P_become b_P_become 2 none 1 := ⟨⟨cd_P_become, ini_P, by decide +kernel, by decide +kernel, by decide +kernel⟩, Or.inl (zTb_of (tm3 (List.mem_of_getElem? (i := 66) rfl)) rfl)⟩
set_option maxRecDepth 20000 in
theorem ca_P_36 : zCa R_P 36 y_N_become_N b_N_become_N 2 none 1 := ⟨⟨cd_N_become_N, ini_N, by decide +kernel, by decide +kernel, by decide +kernel⟩, Or.inl (zTb_of (tm3 (List.mem_of_getElem? (i := 70) rfl)) rfl)⟩
set_option maxRecDepth 20000 in
theorem ca_C_104 : zCa R_C 104 y_C_measureGap b_C_measureGap 3 none 2 := ⟨⟨cd_C_measureGap, ini_C, by decide +kernel, by decide +kernel, by decide +kernel⟩, Or.inl (zTb_of (tm3 (List.mem_of_getElem? (i := 71) rfl)) rfl)⟩
set_option maxRecDepth 20000 in
theorem ca_C_71 : zCa R_C 71 y_R_multiply b_R_multiply 15 none 3 := ⟨⟨cd_R_multiply, ini_R, by decide +kernel, by decide +kernel, by decide +kernel⟩, Or.inl (zTb_of (tm3 (List.mem_of_getElem? (i := 75) rfl)) rfl)⟩
set_option maxRecDepth 20000 in
theorem ca_C_144 : zCa R_C 144 y_R_subtract b_R_subtract 4 none 3 := ⟨⟨cd_R_subtract, ini_R, by decide +kernel, by decide +kernel, by decide +kernel⟩, Or.inl (zTb_of (tm3 (List.mem_of_getElem? (i := 76) rfl)) rfl)⟩
set_option maxRecDepth 20000 in
theorem ca_C_108 : zCa R_C 108 y_N_isZero b_N_isZero 1 (some .boolean) 0 := ⟨⟨cd_N_isZero, ini_N, by decide +kernel, by decide +kernel, by decide +kernel⟩, Or.inl (zTb_of (tm3 (List.mem_of_getElem? (i := 80) rfl)) rfl)⟩
set_option maxRecDepth 20000 in
theorem ca_C_112 : zCa R_C 112 y_C_gatherHeights b_C_gatherHeights 3 none 2 := ⟨⟨cd_C_gatherHeights, ini_C, by decide +kernel, by decide +kernel, by decide +kernel⟩, Or.inl (zTb_of (tm3 (List.mem_of_getElem? (i := 81) rfl)) rfl)⟩
set_option maxRecDepth 20000 in
theorem ca_C_147 : zCa R_C 147 y_R_add b_R_add 4 none 3 := ⟨⟨cd_R_add, ini_R, by decide +kernel, by decide +kernel, by decide +kernel⟩, Or.inl (zTb_of (tm3 (List.mem_of_getElem? (i := 85) rfl)) rfl)⟩
set_option maxRecDepth 20000 in
theorem ca_C_85 : zCa R_C 85 y_R_addProduct b_R_addProduct 4 none 3 := ⟨⟨cd_R_addProduct, ini_R, by decide +kernel, by decide +kernel, by decide +kernel⟩, Or.inl (zTb_of (tm3 (List.mem_of_getElem? (i := 89) rfl)) rfl)⟩
set_option maxRecDepth 20000 in
theorem ca_C_115 : zCa R_C 115 y_C_drawChord b_C_drawChord 3 none 2 := ⟨⟨cd_C_drawChord, ini_C, by decide +kernel, by decide +kernel, by decide +kernel⟩, Or.inl (zTb_of (tm3 (List.mem_of_getElem? (i := 90) rfl)) rfl)⟩
set_option maxRecDepth 20000 in
theorem ca_C_118 : zCa R_C 118 y_P_isLike b_P_isLike 2 (some .boolean) 1 := ⟨⟨cd_P_isLike, ini_P, by decide +kernel, by decide +kernel, by decide +kernel⟩, Or.inl (zTb_of (tm3 (List.mem_of_getElem? (i := 94) rfl)) rfl)⟩
set_option maxRecDepth 20000 in
theorem ca_P_40 : zCa R_P 40 y_N_isLike b_N_isLike 2 (some .boolean) 1 := ⟨⟨cd_N_isLike, ini_N, by decide +kernel, by decide +kernel, by decide +kernel⟩, Or.inl (zTb_of (tm3 (List.mem_of_getElem? (i := 98) rfl)) rfl)⟩
set_option maxRecDepth 20000 in
theorem ca_C_122 : zCa R_C 122 y_C_drawTangent b_C_drawTangent 2 none 1 := ⟨⟨cd_C_drawTangent, ini_C, by decide +kernel, by decide +kernel, by decide +kernel⟩, Or.inl (zTb_of (tm3 (List.mem_of_getElem? (i := 99) rfl)) rfl)⟩
set_option maxRecDepth 20000 in
theorem ca_C_168 : zCa R_C 168 y_R_subtractProduct b_R_subtractProduct 4 none 3 := ⟨⟨cd_R_subtractProduct, ini_R, by decide +kernel, by decide +kernel, by decide +kernel⟩, Or.inl (zTb_of (tm3 (List.mem_of_getElem? (i := 103) rfl)) rfl)⟩
set_option maxRecDepth 20000 in
theorem ca_C_125 : zCa R_C 125 y_P_becomeNone b_P_becomeNone 1 none 0 := ⟨⟨cd_P_becomeNone, ini_P, by decide +kernel, by decide +kernel, by decide +kernel⟩, Or.inl (zTb_of (tm3 (List.mem_of_getElem? (i := 104) rfl)) rfl)⟩
set_option maxRecDepth 20000 in
theorem ca_C_128 : zCa R_C 128 y_C_findShare b_C_findShare 1 none 0 := ⟨⟨cd_C_findShare, ini_C, by decide +kernel, by decide +kernel, by decide +kernel⟩, Or.inl (zTb_of (tm3 (List.mem_of_getElem? (i := 105) rfl)) rfl)⟩
set_option maxRecDepth 20000 in
theorem ca_C_171 : zCa R_C 171 y_D_common b_D_common 5 none 3 := ⟨⟨cd_D_common, ini_D, by decide +kernel, by decide +kernel, by decide +kernel⟩, Or.inl (zTb_of (tm3 (List.mem_of_getElem? (i := 109) rfl)) rfl)⟩
set_option maxRecDepth 20000 in
theorem ca_C_176 : zCa R_C 176 y_R_divide b_R_divide 12 none 4 := ⟨⟨cd_R_divide, ini_R, by decide +kernel, by decide +kernel, by decide +kernel⟩, Or.inl (zTb_of (tm3 (List.mem_of_getElem? (i := 110) rfl)) rfl)⟩
set_option maxRecDepth 20000 in
theorem ca_C_180 : zCa R_C 180 y_N_isLike b_N_isLike 2 (some .boolean) 1 := ⟨⟨cd_N_isLike, ini_N, by decide +kernel, by decide +kernel, by decide +kernel⟩, Or.inl (zTb_of (tm3 (List.mem_of_getElem? (i := 111) rfl)) rfl)⟩
set_option maxRecDepth 20000 in
theorem ca_C_183 : zCa R_C 183 y_D_root b_D_root 4 none 2 := ⟨⟨cd_D_root, ini_D, by decide +kernel, by decide +kernel, by decide +kernel⟩, Or.inl (zTb_of (tm3 (List.mem_of_getElem? (i := 112) rfl)) rfl)⟩
set_option maxRecDepth 20000 in
theorem ca_D_133 : zCa R_D 133 y_N_becomeZero b_N_becomeZero 1 none 0 := ⟨⟨cd_N_becomeZero, ini_N, by decide +kernel, by decide +kernel, by decide +kernel⟩, Or.inl (zTb_of (tm3 (List.mem_of_getElem? (i := 116) rfl)) rfl)⟩
set_option maxRecDepth 20000 in
theorem ca_D_136 : zCa R_D 136 y_N_digitCount b_N_digitCount 1 (some .int) 0 := ⟨⟨cd_N_digitCount, ini_N, by decide +kernel, by decide +kernel, by decide +kernel⟩, Or.inl (zTb_of (tm3 (List.mem_of_getElem? (i := 117) rfl)) rfl)⟩
set_option maxRecDepth 20000 in
theorem ca_N_48 : zCa R_N 48 y_N_limbDigits b_N_limbDigits 2 (some .int) 1 := ⟨⟨cd_N_limbDigits, ini_N, by decide +kernel, by decide +kernel, by decide +kernel⟩, Or.inl (zTb_of (tm3 (List.mem_of_getElem? (i := 121) rfl)) rfl)⟩
set_option maxRecDepth 20000 in
theorem ca_D_140 : zCa R_D 140 y_D_powerOfTen b_D_powerOfTen 4 none 2 := ⟨⟨cd_D_powerOfTen, ini_D, by decide +kernel, by decide +kernel, by decide +kernel⟩, Or.inl (zTb_of (tm3 (List.mem_of_getElem? (i := 122) rfl)) rfl)⟩
set_option maxRecDepth 20000 in
theorem ca_D_144 : zCa R_D 144 y_R_add b_R_add 4 none 3 := ⟨⟨cd_R_add, ini_R, by decide +kernel, by decide +kernel, by decide +kernel⟩, Or.inl (zTb_of (tm3 (List.mem_of_getElem? (i := 125) rfl)) rfl)⟩
set_option maxRecDepth 20000 in
theorem ca_C_131 : zCa R_C 131 y_C_placeX b_C_placeX 2 (some .boolean) 1 := ⟨⟨cd_C_placeX, ini_C, by decide +kernel, by decide +kernel, by decide +kernel⟩, Or.inl (zTb_of (tm3 (List.mem_of_getElem? (i := 126) rfl)) rfl)⟩
set_option maxRecDepth 20000 in
theorem ca_C_190 : zCa R_C 190 y_N_digitCount b_N_digitCount 1 (some .int) 0 := ⟨⟨cd_N_digitCount, ini_N, by decide +kernel, by decide +kernel, by decide +kernel⟩, Or.inl (zTb_of (tm3 (List.mem_of_getElem? (i := 130) rfl)) rfl)⟩
set_option maxRecDepth 20000 in
theorem ca_C_194 : zCa R_C 194 y_N_become_N b_N_become_N 2 none 1 := ⟨⟨cd_N_become_N, ini_N, by decide +kernel, by decide +kernel, by decide +kernel⟩, Or.inl (zTb_of (tm3 (List.mem_of_getElem? (i := 131) rfl)) rfl)⟩
set_option maxRecDepth 20000 in
theorem ca_C_134 : zCa R_C 134 y_C_placeY b_C_placeY 4 none 3 := ⟨⟨cd_C_placeY, ini_C, by decide +kernel, by decide +kernel, by decide +kernel⟩, Or.inl (zTb_of (tm3 (List.mem_of_getElem? (i := 132) rfl)) rfl)⟩
set_option maxRecDepth 20000 in
theorem ca_C_138 : zCa R_C 138 y_C_turnOver b_C_turnOver 2 none 1 := ⟨⟨cd_C_turnOver, ini_C, by decide +kernel, by decide +kernel, by decide +kernel⟩, Or.inl (zTb_of (tm3 (List.mem_of_getElem? (i := 136) rfl)) rfl)⟩
set_option maxRecDepth 20000 in
theorem ca_C_94 : zCa R_C 94 y_N_changeSign b_N_changeSign 1 none 0 := ⟨⟨cd_N_changeSign, ini_N, by decide +kernel, by decide +kernel, by decide +kernel⟩, Or.inl (zTb_of (tm3 (List.mem_of_getElem? (i := 140) rfl)) rfl)⟩
set_option maxRecDepth 20000 in
theorem ca_X_83 : zCa R_X 83 y_X_keep b_X_keep 3 (some .int) 2 := ⟨⟨cd_X_keep, ini_X, by decide +kernel, by decide +kernel, by decide +kernel⟩, Or.inl (zTb_of (tm3 (List.mem_of_getElem? (i := 141) rfl)) rfl)⟩
set_option maxRecDepth 20000 in
theorem ca_X_145 : zCa R_X 145 y_P_isLongerThan b_P_isLongerThan 2 (some .boolean) 1 := ⟨⟨cd_P_isLongerThan, ini_P, by decide +kernel, by decide +kernel, by decide +kernel⟩, Or.inl (zTb_of (tm3 (List.mem_of_getElem? (i := 145) rfl)) rfl)⟩
set_option maxRecDepth 20000 in
theorem ca_P_48 : zCa R_P 48 y_P_isWiderThan b_P_isWiderThan 2 (some .boolean) 1 := ⟨⟨cd_P_isWiderThan, ini_P, by decide +kernel, by decide +kernel, by decide +kernel⟩, Or.inl (zTb_of (tm3 (List.mem_of_getElem? (i := 149) rfl)) rfl)⟩
set_option maxRecDepth 20000 in
theorem ca_P_44 : zCa R_P 44 y_N_digitCount b_N_digitCount 1 (some .int) 0 := ⟨⟨cd_N_digitCount, ini_N, by decide +kernel, by decide +kernel, by decide +kernel⟩, Or.inl (zTb_of (tm3 (List.mem_of_getElem? (i := 153) rfl)) rfl)⟩
set_option maxRecDepth 20000 in
theorem ca_X_87 : zCa R_X 87 y_P_become b_P_become 2 none 1 := ⟨⟨cd_P_become, ini_P, by decide +kernel, by decide +kernel, by decide +kernel⟩, Or.inl (zTb_of (tm3 (List.mem_of_getElem? (i := 154) rfl)) rfl)⟩
set_option maxRecDepth 20000 in
theorem ca_L_35 : zCa R_law 35 y_X_less b_X_less 4 (some .int) 3 := ⟨⟨cd_X_less, ini_X, by decide +kernel, by decide +kernel, by decide +kernel⟩, Or.inl (zTb_of (tm3 (List.mem_of_getElem? (i := 155) rfl)) rfl)⟩
set_option maxRecDepth 20000 in
theorem ca_X_90 : zCa R_X 90 y_C_turnOver b_C_turnOver 2 none 1 := ⟨⟨cd_C_turnOver, ini_C, by decide +kernel, by decide +kernel, by decide +kernel⟩, Or.inl (zTb_of (tm3 (List.mem_of_getElem? (i := 159) rfl)) rfl)⟩
set_option maxRecDepth 20000 in
theorem ca_L_39 : zCa R_law 39 y_X_times b_X_times 6 (some .int) 3 := ⟨⟨cd_X_times, ini_X, by decide +kernel, by decide +kernel, by decide +kernel⟩, Or.inl (zTb_of (tm3 (List.mem_of_getElem? (i := 160) rfl)) rfl)⟩
set_option maxRecDepth 20000 in
theorem ca_X_95 : zCa R_X 95 y_P_isWiderThan b_P_isWiderThan 2 (some .boolean) 1 := ⟨⟨cd_P_isWiderThan, ini_P, by decide +kernel, by decide +kernel, by decide +kernel⟩, Or.inl (zTb_of (tm3 (List.mem_of_getElem? (i := 166) rfl)) rfl)⟩
set_option maxRecDepth 20000 in
theorem ca_L_43 : zCa R_law 43 y_X_order b_X_order 3 (some .int) 1 := ⟨⟨cd_X_order, ini_X, by decide +kernel, by decide +kernel, by decide +kernel⟩, Or.inl (zTb_of (tm3 (List.mem_of_getElem? (i := 167) rfl)) rfl)⟩
set_option maxRecDepth 20000 in
theorem ca_L_48 : zCa R_law 48 y_X_isNone b_X_isNone 2 (some .boolean) 1 := ⟨⟨cd_X_isNone, ini_X, by decide +kernel, by decide +kernel, by decide +kernel⟩, Or.inl (zTb_of (tm3 (List.mem_of_getElem? (i := 171) rfl)) rfl)⟩
set_option maxRecDepth 20000 in
theorem ca_L_52 : zCa R_law 52 y_X_same b_X_same 3 (some .boolean) 2 := ⟨⟨cd_X_same, ini_X, by decide +kernel, by decide +kernel, by decide +kernel⟩, Or.inl (zTb_of (tm3 (List.mem_of_getElem? (i := 175) rfl)) rfl)⟩
set_option maxRecDepth 20000 in
theorem ca_X_116 : zCa R_X 116 y_P_isLike b_P_isLike 2 (some .boolean) 1 := ⟨⟨cd_P_isLike, ini_P, by decide +kernel, by decide +kernel, by decide +kernel⟩, Or.inl (zTb_of (tm3 (List.mem_of_getElem? (i := 179) rfl)) rfl)⟩
set_option maxRecDepth 20000 in
theorem ca_L_57 : zCa R_law 57 y_X_digits b_X_digits 3 (some .int) 2 := ⟨⟨cd_X_digits, ini_X, by decide +kernel, by decide +kernel, by decide +kernel⟩, Or.inl (zTb_of (tm3 (List.mem_of_getElem? (i := 180) rfl)) rfl)⟩
set_option maxRecDepth 20000 in
theorem ca_X_120 : zCa R_X 120 y_X_hasNumber b_X_hasNumber 3 (some .boolean) 2 := ⟨⟨cd_X_hasNumber, ini_X, by decide +kernel, by decide +kernel, by decide +kernel⟩, Or.inl (zTb_of (tm3 (List.mem_of_getElem? (i := 184) rfl)) rfl)⟩
set_option maxRecDepth 20000 in
theorem ca_X_124 : zCa R_X 124 y_P_number b_P_number 2 (some (.object "ChordPoints$Num")) 1 := ⟨⟨cd_P_number, ini_P, by decide +kernel, by decide +kernel, by decide +kernel⟩, Or.inl (zTb_of (tm3 (List.mem_of_getElem? (i := 188) rfl)) rfl)⟩
set_option maxRecDepth 20000 in
theorem ca_X_128 : zCa R_X 128 y_N_digitCount b_N_digitCount 1 (some .int) 0 := ⟨⟨cd_N_digitCount, ini_N, by decide +kernel, by decide +kernel, by decide +kernel⟩, Or.inl (zTb_of (tm3 (List.mem_of_getElem? (i := 192) rfl)) rfl)⟩
set_option maxRecDepth 20000 in
theorem ca_L_62 : zCa R_law 62 y_X_digitAt b_X_digitAt 6 (some .int) 3 := ⟨⟨cd_X_digitAt, ini_X, by decide +kernel, by decide +kernel, by decide +kernel⟩, Or.inl (zTb_of (tm3 (List.mem_of_getElem? (i := 193) rfl)) rfl)⟩
set_option maxRecDepth 20000 in
theorem ca_X_132 : zCa R_X 132 y_N_digitAbove b_N_digitAbove 2 (some .int) 1 := ⟨⟨cd_N_digitAbove, ini_N, by decide +kernel, by decide +kernel, by decide +kernel⟩, Or.inl (zTb_of (tm3 (List.mem_of_getElem? (i := 197) rfl)) rfl)⟩
set_option maxRecDepth 20000 in
theorem ca_L_66 : zCa R_law 66 y_X_sign b_X_sign 4 (some .int) 2 := ⟨⟨cd_X_sign, ini_X, by decide +kernel, by decide +kernel, by decide +kernel⟩, Or.inl (zTb_of (tm3 (List.mem_of_getElem? (i := 201) rfl)) rfl)⟩
set_option maxRecDepth 20000 in
theorem ca_X_136 : zCa R_X 136 y_N_isZero b_N_isZero 1 (some .boolean) 0 := ⟨⟨cd_N_isZero, ini_N, by decide +kernel, by decide +kernel, by decide +kernel⟩, Or.inl (zTb_of (tm3 (List.mem_of_getElem? (i := 205) rfl)) rfl)⟩
set_option maxRecDepth 20000 in
theorem ca_L_12 : zCa R_law 12 y_M_init b_M_init 1 none 0 := ⟨⟨cd_M_init, ini_M, by decide +kernel, by decide +kernel, by decide +kernel⟩, Or.inl (zTb_of (tm3 (List.mem_of_getElem? (i := 208) rfl)) rfl)⟩
set_option maxRecDepth 20000 in
theorem ca_M_23 : zCa R_M 23 y_M_forget b_M_forget 2 none 0 := ⟨⟨cd_M_forget, ini_M, by decide +kernel, by decide +kernel, by decide +kernel⟩, Or.inl (zTb_of (tm3 (List.mem_of_getElem? (i := 212) rfl)) rfl)⟩
set_option maxRecDepth 20000 in
theorem ca_M_26 : zCa R_M 26 y_M_set b_M_set 6 none 2 := ⟨⟨cd_M_set, ini_M, by decide +kernel, by decide +kernel, by decide +kernel⟩, Or.inl (zTb_of (tm3 (List.mem_of_getElem? (i := 216) rfl)) rfl)⟩
set_option maxRecDepth 20000 in
theorem ca_L_17 : zCa R_law 17 y_M_curve b_M_curve 14 (some .int) 5 := ⟨⟨cd_M_curve, ini_M, by decide +kernel, by decide +kernel, by decide +kernel⟩, Or.inl (zTb_of (tm3 (List.mem_of_getElem? (i := 238) rfl)) rfl)⟩
set_option maxRecDepth 20000 in
theorem ca_M_69 : zCa R_M 69 y_M_isIn b_M_isIn 1 (some .boolean) 1 := ⟨⟨cd_M_isIn, ini_M, by decide +kernel, by decide +kernel, by decide +kernel⟩, Or.inl (zTb_of (tm4 (List.mem_of_getElem? (i := 2) rfl)) rfl)⟩
set_option maxRecDepth 20000 in
theorem ca_M_79 : zCa R_M 79 y_M_product b_M_product 10 none 5 := ⟨⟨cd_M_product, ini_M, by decide +kernel, by decide +kernel, by decide +kernel⟩, Or.inl (zTb_of (tm4 (List.mem_of_getElem? (i := 10) rfl)) rfl)⟩
set_option maxRecDepth 20000 in
theorem ca_M_92 : zCa R_M 92 y_M_multiply b_M_multiply 13 none 3 := ⟨⟨cd_M_multiply, ini_M, by decide +kernel, by decide +kernel, by decide +kernel⟩, Or.inl (zTb_of (tm4 (List.mem_of_getElem? (i := 14) rfl)) rfl)⟩
set_option maxRecDepth 20000 in
theorem ca_M_53 : zCa R_M 53 y_M_trim b_M_trim 4 none 2 := ⟨⟨cd_M_trim, ini_M, by decide +kernel, by decide +kernel, by decide +kernel⟩, Or.inl (zTb_of (tm4 (List.mem_of_getElem? (i := 18) rfl)) rfl)⟩
set_option maxRecDepth 20000 in
theorem ca_M_83 : zCa R_M 83 y_M_add b_M_add 7 none 4 := ⟨⟨cd_M_add, ini_M, by decide +kernel, by decide +kernel, by decide +kernel⟩, Or.inl (zTb_of (tm4 (List.mem_of_getElem? (i := 22) rfl)) rfl)⟩
set_option maxRecDepth 20000 in
theorem ca_M_40 : zCa R_M 40 y_M_copy b_M_copy 4 none 2 := ⟨⟨cd_M_copy, ini_M, by decide +kernel, by decide +kernel, by decide +kernel⟩, Or.inl (zTb_of (tm4 (List.mem_of_getElem? (i := 26) rfl)) rfl)⟩
set_option maxRecDepth 20000 in
theorem ca_M_44 : zCa R_M 44 y_M_addSizes b_M_addSizes 10 none 3 := ⟨⟨cd_M_addSizes, ini_M, by decide +kernel, by decide +kernel, by decide +kernel⟩, Or.inl (zTb_of (tm4 (List.mem_of_getElem? (i := 30) rfl)) rfl)⟩
set_option maxRecDepth 20000 in
theorem ca_M_36 : zCa R_M 36 y_M_compare b_M_compare 4 (some .int) 2 := ⟨⟨cd_M_compare, ini_M, by decide +kernel, by decide +kernel, by decide +kernel⟩, Or.inl (zTb_of (tm4 (List.mem_of_getElem? (i := 35) rfl)) rfl)⟩
set_option maxRecDepth 20000 in
theorem ca_M_48 : zCa R_M 48 y_M_takeSizes b_M_takeSizes 10 none 4 := ⟨⟨cd_M_takeSizes, ini_M, by decide +kernel, by decide +kernel, by decide +kernel⟩, Or.inl (zTb_of (tm4 (List.mem_of_getElem? (i := 39) rfl)) rfl)⟩
set_option maxRecDepth 20000 in
theorem ca_L_22 : zCa R_law 22 y_M_none b_M_none 2 (some .boolean) 1 := ⟨⟨cd_M_none, ini_M, by decide +kernel, by decide +kernel, by decide +kernel⟩, Or.inl (zTb_of (tm4 (List.mem_of_getElem? (i := 45) rfl)) rfl)⟩
set_option maxRecDepth 20000 in
theorem ca_M_95 : zCa R_M 95 y_M_isSlot b_M_isSlot 1 (some .boolean) 1 := ⟨⟨cd_M_isSlot, ini_M, by decide +kernel, by decide +kernel, by decide +kernel⟩, Or.inl (zTb_of (tm4 (List.mem_of_getElem? (i := 49) rfl)) rfl)⟩
set_option maxRecDepth 20000 in
theorem ca_L_29 : zCa R_law 29 y_M_point b_M_point 10 (some .int) 5 := ⟨⟨cd_M_point, ini_M, by decide +kernel, by decide +kernel, by decide +kernel⟩, Or.inl (zTb_of (tm4 (List.mem_of_getElem? (i := 52) rfl)) rfl)⟩
set_option maxRecDepth 20000 in
theorem ca_M_98 : zCa R_M 98 y_M_fraction b_M_fraction 7 none 4 := ⟨⟨cd_M_fraction, ini_M, by decide +kernel, by decide +kernel, by decide +kernel⟩, Or.inl (zTb_of (tm4 (List.mem_of_getElem? (i := 56) rfl)) rfl)⟩
set_option maxRecDepth 20000 in
theorem ca_M_115 : zCa R_M 115 y_M_common b_M_common 4 none 2 := ⟨⟨cd_M_common, ini_M, by decide +kernel, by decide +kernel, by decide +kernel⟩, Or.inl (zTb_of (tm4 (List.mem_of_getElem? (i := 60) rfl)) rfl)⟩
set_option maxRecDepth 20000 in
theorem ca_M_66 : zCa R_M 66 y_M_divide b_M_divide 10 none 3 := ⟨⟨cd_M_divide, ini_M, by decide +kernel, by decide +kernel, by decide +kernel⟩, Or.inl (zTb_of (tm4 (List.mem_of_getElem? (i := 64) rfl)) rfl)⟩
set_option maxRecDepth 20000 in
theorem ca_M_56 : zCa R_M 56 y_M_timesSmall b_M_timesSmall 9 none 2 := ⟨⟨cd_M_timesSmall, ini_M, by decide +kernel, by decide +kernel, by decide +kernel⟩, Or.inl (zTb_of (tm4 (List.mem_of_getElem? (i := 68) rfl)) rfl)⟩
set_option maxRecDepth 20000 in
theorem ca_M_59 : zCa R_M 59 y_M_place b_M_place 26 (some .int) 4 := ⟨⟨cd_M_place, ini_M, by decide +kernel, by decide +kernel, by decide +kernel⟩, Or.inl (zTb_of (tm4 (List.mem_of_getElem? (i := 72) rfl)) rfl)⟩
set_option maxRecDepth 20000 in
theorem ca_M_63 : zCa R_M 63 y_M_bySmall b_M_bySmall 8 none 2 := ⟨⟨cd_M_bySmall, ini_M, by decide +kernel, by decide +kernel, by decide +kernel⟩, Or.inl (zTb_of (tm4 (List.mem_of_getElem? (i := 76) rfl)) rfl)⟩
set_option maxRecDepth 20000 in
theorem ca_M_109 : zCa R_M 109 y_M_share b_M_share 5 none 3 := ⟨⟨cd_M_share, ini_M, by decide +kernel, by decide +kernel, by decide +kernel⟩, Or.inl (zTb_of (tm4 (List.mem_of_getElem? (i := 80) rfl)) rfl)⟩
set_option maxRecDepth 20000 in
theorem ca_M_102 : zCa R_M 102 y_M_more b_M_more 5 none 4 := ⟨⟨cd_M_more, ini_M, by decide +kernel, by decide +kernel, by decide +kernel⟩, Or.inl (zTb_of (tm4 (List.mem_of_getElem? (i := 84) rfl)) rfl)⟩
set_option maxRecDepth 20000 in
theorem ca_M_105 : zCa R_M 105 y_M_isSame b_M_isSame 3 (some .boolean) 2 := ⟨⟨cd_M_isSame, ini_M, by decide +kernel, by decide +kernel, by decide +kernel⟩, Or.inl (zTb_of (tm4 (List.mem_of_getElem? (i := 88) rfl)) rfl)⟩
set_option maxRecDepth 20000 in
theorem ca_M_112 : zCa R_M 112 y_M_move b_M_move 4 none 2 := ⟨⟨cd_M_move, ini_M, by decide +kernel, by decide +kernel, by decide +kernel⟩, Or.inl (zTb_of (tm4 (List.mem_of_getElem? (i := 92) rfl)) rfl)⟩
set_option maxRecDepth 20000 in
theorem ca_L_34 : zCa R_law 34 y_M_sum b_M_sum 4 (some .int) 3 := ⟨⟨cd_M_sum, ini_M, by decide +kernel, by decide +kernel, by decide +kernel⟩, Or.inl (zTb_of (tm4 (List.mem_of_getElem? (i := 96) rfl)) rfl)⟩
set_option maxRecDepth 20000 in
theorem ca_M_137 : zCa R_M 137 y_M_join b_M_join 1 none 0 := ⟨⟨cd_M_join, ini_M, by decide +kernel, by decide +kernel, by decide +kernel⟩, Or.inl (zTb_of (tm4 (List.mem_of_getElem? (i := 100) rfl)) rfl)⟩
set_option maxRecDepth 20000 in
theorem ca_M_118 : zCa R_M 118 y_M_isOther b_M_isOther 1 (some .boolean) 0 := ⟨⟨cd_M_isOther, ini_M, by decide +kernel, by decide +kernel, by decide +kernel⟩, Or.inl (zTb_of (tm4 (List.mem_of_getElem? (i := 104) rfl)) rfl)⟩
set_option maxRecDepth 20000 in
theorem ca_M_122 : zCa R_M 122 y_M_touch b_M_touch 1 none 0 := ⟨⟨cd_M_touch, ini_M, by decide +kernel, by decide +kernel, by decide +kernel⟩, Or.inl (zTb_of (tm4 (List.mem_of_getElem? (i := 108) rfl)) rfl)⟩
set_option maxRecDepth 20000 in
theorem ca_M_125 : zCa R_M 125 y_M_finish b_M_finish 1 none 0 := ⟨⟨cd_M_finish, ini_M, by decide +kernel, by decide +kernel, by decide +kernel⟩, Or.inl (zTb_of (tm4 (List.mem_of_getElem? (i := 113) rfl)) rfl)⟩
set_option maxRecDepth 20000 in
theorem ca_M_140 : zCa R_M 140 y_M_settle b_M_settle 2 (some .int) 1 := ⟨⟨cd_M_settle, ini_M, by decide +kernel, by decide +kernel, by decide +kernel⟩, Or.inl (zTb_of (tm4 (List.mem_of_getElem? (i := 117) rfl)) rfl)⟩
set_option maxRecDepth 20000 in
theorem ca_M_134 : zCa R_M 134 y_M_isTooLong b_M_isTooLong 2 (some .boolean) 1 := ⟨⟨cd_M_isTooLong, ini_M, by decide +kernel, by decide +kernel, by decide +kernel⟩, Or.inl (zTb_of (tm4 (List.mem_of_getElem? (i := 121) rfl)) rfl)⟩
set_option maxRecDepth 20000 in
theorem ca_M_130 : zCa R_M 130 y_M_digitsOf b_M_digitsOf 4 (some .int) 1 := ⟨⟨cd_M_digitsOf, ini_M, by decide +kernel, by decide +kernel, by decide +kernel⟩, Or.inl (zTb_of (tm4 (List.mem_of_getElem? (i := 125) rfl)) rfl)⟩
set_option maxRecDepth 20000 in
theorem ca_L_38 : zCa R_law 38 y_M_less b_M_less 4 (some .int) 3 := ⟨⟨cd_M_less, ini_M, by decide +kernel, by decide +kernel, by decide +kernel⟩, Or.inl (zTb_of (tm4 (List.mem_of_getElem? (i := 129) rfl)) rfl)⟩
set_option maxRecDepth 20000 in
theorem ca_M_143 : zCa R_M 143 y_M_turn b_M_turn 2 none 1 := ⟨⟨cd_M_turn, ini_M, by decide +kernel, by decide +kernel, by decide +kernel⟩, Or.inl (zTb_of (tm4 (List.mem_of_getElem? (i := 133) rfl)) rfl)⟩
set_option maxRecDepth 20000 in
theorem ca_L_42 : zCa R_law 42 y_M_times b_M_times 6 (some .int) 3 := ⟨⟨cd_M_times, ini_M, by decide +kernel, by decide +kernel, by decide +kernel⟩, Or.inl (zTb_of (tm4 (List.mem_of_getElem? (i := 137) rfl)) rfl)⟩
set_option maxRecDepth 20000 in
theorem ca_M_150 : zCa R_M 150 y_M_isFar b_M_isFar 1 (some .boolean) 0 := ⟨⟨cd_M_isFar, ini_M, by decide +kernel, by decide +kernel, by decide +kernel⟩, Or.inl (zTb_of (tm4 (List.mem_of_getElem? (i := 144) rfl)) rfl)⟩
set_option maxRecDepth 20000 in
theorem ca_L_47 : zCa R_law 47 y_M_order b_M_order 3 (some .int) 1 := ⟨⟨cd_M_order, ini_M, by decide +kernel, by decide +kernel, by decide +kernel⟩, Or.inl (zTb_of (tm4 (List.mem_of_getElem? (i := 148) rfl)) rfl)⟩
set_option maxRecDepth 20000 in
theorem ca_L_51 : zCa R_law 51 y_M_isNone b_M_isNone 2 (some .boolean) 1 := ⟨⟨cd_M_isNone, ini_M, by decide +kernel, by decide +kernel, by decide +kernel⟩, Or.inl (zTb_of (tm4 (List.mem_of_getElem? (i := 152) rfl)) rfl)⟩
set_option maxRecDepth 20000 in
theorem ca_L_56 : zCa R_law 56 y_M_same b_M_same 3 (some .boolean) 2 := ⟨⟨cd_M_same, ini_M, by decide +kernel, by decide +kernel, by decide +kernel⟩, Or.inl (zTb_of (tm4 (List.mem_of_getElem? (i := 156) rfl)) rfl)⟩
set_option maxRecDepth 20000 in
theorem ca_L_61 : zCa R_law 61 y_M_digits b_M_digits 3 (some .int) 2 := ⟨⟨cd_M_digits, ini_M, by decide +kernel, by decide +kernel, by decide +kernel⟩, Or.inl (zTb_of (tm4 (List.mem_of_getElem? (i := 160) rfl)) rfl)⟩
set_option maxRecDepth 20000 in
theorem ca_M_153 : zCa R_M 153 y_M_take b_M_take 4 (some .boolean) 2 := ⟨⟨cd_M_take, ini_M, by decide +kernel, by decide +kernel, by decide +kernel⟩, Or.inl (zTb_of (tm4 (List.mem_of_getElem? (i := 164) rfl)) rfl)⟩
set_option maxRecDepth 20000 in
theorem ca_L_65 : zCa R_law 65 y_M_digitAt b_M_digitAt 8 (some .int) 3 := ⟨⟨cd_M_digitAt, ini_M, by decide +kernel, by decide +kernel, by decide +kernel⟩, Or.inl (zTb_of (tm4 (List.mem_of_getElem? (i := 168) rfl)) rfl)⟩
set_option maxRecDepth 20000 in
theorem ca_L_69 : zCa R_law 69 y_M_sign b_M_sign 3 (some .int) 2 := ⟨⟨cd_M_sign, ini_M, by decide +kernel, by decide +kernel, by decide +kernel⟩, Or.inl (zTb_of (tm4 (List.mem_of_getElem? (i := 172) rfl)) rfl)⟩
set_option maxRecDepth 20000 in
theorem oi_M : Cond.methodLink R_M 1 Lib.objectInit ∈ zTb := zTb_of (tm3 (List.mem_of_getElem? (i := 211) rfl)) rfl
set_option maxRecDepth 20000 in
theorem oi_N : Cond.methodLink R_N 3 Lib.objectInit ∈ zTb := zTb_of (tm1 (List.mem_of_getElem? (i := 31) rfl)) rfl
set_option maxRecDepth 20000 in
theorem oi_P : Cond.methodLink R_P 3 Lib.objectInit ∈ zTb := zTb_of (tm2 (List.mem_of_getElem? (i := 39) rfl)) rfl
set_option maxRecDepth 20000 in
theorem oi_Q : Cond.methodLink R_Q 3 Lib.objectInit ∈ zTb := zTb_of (tm1 (List.mem_of_getElem? (i := 124) rfl)) rfl
set_option maxRecDepth 20000 in
theorem oi_R : Cond.methodLink R_R 3 Lib.objectInit ∈ zTb := zTb_of (tm1 (List.mem_of_getElem? (i := 25) rfl)) rfl
set_option maxRecDepth 20000 in
theorem oi_D : Cond.methodLink R_D 3 Lib.objectInit ∈ zTb := zTb_of (tm1 (List.mem_of_getElem? (i := 79) rfl)) rfl
set_option maxRecDepth 20000 in
theorem oi_E : Cond.methodLink R_E 3 Lib.objectInit ∈ zTb := zTb_of (tm2 (List.mem_of_getElem? (i := 0) rfl)) rfl
set_option maxRecDepth 20000 in
theorem oi_C : Cond.methodLink R_C 3 Lib.objectInit ∈ zTb := zTb_of (tm1 (List.mem_of_getElem? (i := 192) rfl)) rfl
set_option maxRecDepth 20000 in
theorem oi_X : Cond.methodLink R_X 1 Lib.objectInit ∈ zTb := zTb_of (tm1 (List.mem_of_getElem? (i := 17) rfl)) rfl
set_option maxRecDepth 20000 in
theorem oi_im : Cond.instanceMethod Lib.objectInit ∈ zTb := zTb_of (tm1 (List.mem_of_getElem? (i := 18) rfl)) rfl
set_option maxRecDepth 20000 in
theorem oi_cd : Cond.code Lib.objectInit ⟨#[0xb1]⟩ 1 none ∈ zTb := zTb_of (tm1 (List.mem_of_getElem? (i := 19) rfl)) rfl
set_option maxRecDepth 20000 in
theorem ac_int : Cond.arrayClass .int ∈ zTb := zTb_of (tm1 (List.mem_of_getElem? (i := 56) rfl)) rfl
set_option maxRecDepth 20000 in
theorem ac_bool : Cond.arrayClass .boolean ∈ zTb := zTb_of (tm3 (List.mem_of_getElem? (i := 237) rfl)) rfl
end
section
theorem d_M_init_0 : decode b_M_init 0 = .ok (.aload_n 0, 1) := by decide +kernel
theorem d_M_init_1 : decode b_M_init 1 = .ok (.invokespecial 1, 3) := by decide +kernel
theorem d_M_init_4 : decode b_M_init 4 = .ok (.aload_n 0, 1) := by decide +kernel
theorem d_M_init_5 : decode b_M_init 5 = .ok (.sipush 25760, 3) := by decide +kernel
theorem d_M_init_8 : decode b_M_init 8 = .ok (.newarray .int, 2) := by decide +kernel
theorem d_M_init_10 : decode b_M_init 10 = .ok (.putfield 9, 3) := by decide +kernel
theorem d_M_init_13 : decode b_M_init 13 = .ok (.aload_n 0, 1) := by decide +kernel
theorem d_M_init_14 : decode b_M_init 14 = .ok (.bipush 56, 2) := by decide +kernel
theorem d_M_init_16 : decode b_M_init 16 = .ok (.newarray .int, 2) := by decide +kernel
theorem d_M_init_18 : decode b_M_init 18 = .ok (.putfield 13, 3) := by decide +kernel
theorem d_M_init_21 : decode b_M_init 21 = .ok (.aload_n 0, 1) := by decide +kernel
theorem d_M_init_22 : decode b_M_init 22 = .ok (.bipush 56, 2) := by decide +kernel
theorem d_M_init_24 : decode b_M_init 24 = .ok (.newarray .int, 2) := by decide +kernel
theorem d_M_init_26 : decode b_M_init 26 = .ok (.putfield 16, 3) := by decide +kernel
theorem d_M_init_29 : decode b_M_init 29 = .ok (.aload_n 0, 1) := by decide +kernel
theorem d_M_init_30 : decode b_M_init 30 = .ok (.bipush 56, 2) := by decide +kernel
theorem d_M_init_32 : decode b_M_init 32 = .ok (.newarray .boolean, 2) := by decide +kernel
theorem d_M_init_34 : decode b_M_init 34 = .ok (.putfield 19, 3) := by decide +kernel
theorem d_M_init_37 : decode b_M_init 37 = .ok (.aload_n 0, 1) := by decide +kernel
theorem d_M_init_38 : decode b_M_init 38 = .ok (.invokevirtual 23, 3) := by decide +kernel
theorem d_M_init_41 : decode b_M_init 41 = .ok (.aload_n 0, 1) := by decide +kernel
theorem d_M_init_42 : decode b_M_init 42 = .ok (.bipush 28, 2) := by decide +kernel
theorem d_M_init_44 : decode b_M_init 44 = .ok (.lconst 1, 1) := by decide +kernel
theorem d_M_init_45 : decode b_M_init 45 = .ok (.invokevirtual 26, 3) := by decide +kernel
theorem d_M_init_48 : decode b_M_init 48 = .ok (.return_, 1) := by decide +kernel
theorem d_M_forget_0 : decode b_M_forget 0 = .ok (.iconst 0, 1) := by decide +kernel
theorem d_M_forget_1 : decode b_M_forget 1 = .ok (.istore_n 1, 1) := by decide +kernel
theorem d_M_forget_2 : decode b_M_forget 2 = .ok (.iload_n 1, 1) := by decide +kernel
theorem d_M_forget_3 : decode b_M_forget 3 = .ok (.bipush 8, 2) := by decide +kernel
theorem d_M_forget_5 : decode b_M_forget 5 = .ok (.if_icmp .ge 18, 3) := by decide +kernel
theorem d_M_forget_8 : decode b_M_forget 8 = .ok (.aload_n 0, 1) := by decide +kernel
theorem d_M_forget_9 : decode b_M_forget 9 = .ok (.getfield 19, 3) := by decide +kernel
theorem d_M_forget_12 : decode b_M_forget 12 = .ok (.iconst 3, 1) := by decide +kernel
theorem d_M_forget_13 : decode b_M_forget 13 = .ok (.iload_n 1, 1) := by decide +kernel
theorem d_M_forget_14 : decode b_M_forget 14 = .ok (.imul, 1) := by decide +kernel
theorem d_M_forget_15 : decode b_M_forget 15 = .ok (.iconst 1, 1) := by decide +kernel
theorem d_M_forget_16 : decode b_M_forget 16 = .ok (.bastore, 1) := by decide +kernel
theorem d_M_forget_17 : decode b_M_forget 17 = .ok (.iinc 1 1, 3) := by decide +kernel
theorem d_M_forget_20 : decode b_M_forget 20 = .ok (.goto (-18), 3) := by decide +kernel
theorem d_M_forget_23 : decode b_M_forget 23 = .ok (.return_, 1) := by decide +kernel
theorem d_M_set_0 : decode b_M_set 0 = .ok (.aload_n 0, 1) := by decide +kernel
theorem d_M_set_1 : decode b_M_set 1 = .ok (.getfield 13, 3) := by decide +kernel
theorem d_M_set_4 : decode b_M_set 4 = .ok (.iload_n 1, 1) := by decide +kernel
theorem d_M_set_5 : decode b_M_set 5 = .ok (.iconst 0, 1) := by decide +kernel
theorem d_M_set_6 : decode b_M_set 6 = .ok (.iastore, 1) := by decide +kernel
theorem d_M_set_7 : decode b_M_set 7 = .ok (.aload_n 0, 1) := by decide +kernel
theorem d_M_set_8 : decode b_M_set 8 = .ok (.getfield 16, 3) := by decide +kernel
theorem d_M_set_11 : decode b_M_set 11 = .ok (.iload_n 1, 1) := by decide +kernel
theorem d_M_set_12 : decode b_M_set 12 = .ok (.lload_n 2, 1) := by decide +kernel
theorem d_M_set_13 : decode b_M_set 13 = .ok (.lconst 0, 1) := by decide +kernel
theorem d_M_set_14 : decode b_M_set 14 = .ok (.lcmp, 1) := by decide +kernel
theorem d_M_set_15 : decode b_M_set 15 = .ok (.ifCond .le 7, 3) := by decide +kernel
theorem d_M_set_18 : decode b_M_set 18 = .ok (.iconst 1, 1) := by decide +kernel
theorem d_M_set_19 : decode b_M_set 19 = .ok (.goto 14, 3) := by decide +kernel
theorem d_M_set_22 : decode b_M_set 22 = .ok (.lload_n 2, 1) := by decide +kernel
theorem d_M_set_23 : decode b_M_set 23 = .ok (.lconst 0, 1) := by decide +kernel
theorem d_M_set_24 : decode b_M_set 24 = .ok (.lcmp, 1) := by decide +kernel
theorem d_M_set_25 : decode b_M_set 25 = .ok (.ifCond .ge 7, 3) := by decide +kernel
theorem d_M_set_28 : decode b_M_set 28 = .ok (.iconst (-1), 1) := by decide +kernel
theorem d_M_set_29 : decode b_M_set 29 = .ok (.goto 4, 3) := by decide +kernel
theorem d_M_set_32 : decode b_M_set 32 = .ok (.iconst 0, 1) := by decide +kernel
theorem d_M_set_33 : decode b_M_set 33 = .ok (.iastore, 1) := by decide +kernel
theorem d_M_set_34 : decode b_M_set 34 = .ok (.lload_n 2, 1) := by decide +kernel
theorem d_M_set_35 : decode b_M_set 35 = .ok (.lconst 0, 1) := by decide +kernel
theorem d_M_set_36 : decode b_M_set 36 = .ok (.lcmp, 1) := by decide +kernel
theorem d_M_set_37 : decode b_M_set 37 = .ok (.ifCond .le 8, 3) := by decide +kernel
theorem d_M_set_40 : decode b_M_set 40 = .ok (.lload_n 2, 1) := by decide +kernel
theorem d_M_set_41 : decode b_M_set 41 = .ok (.lneg, 1) := by decide +kernel
theorem d_M_set_42 : decode b_M_set 42 = .ok (.goto 4, 3) := by decide +kernel
theorem d_M_set_45 : decode b_M_set 45 = .ok (.lload_n 2, 1) := by decide +kernel
theorem d_M_set_46 : decode b_M_set 46 = .ok (.lstore 4, 2) := by decide +kernel
theorem d_M_set_48 : decode b_M_set 48 = .ok (.lload 4, 2) := by decide +kernel
theorem d_M_set_50 : decode b_M_set 50 = .ok (.lconst 0, 1) := by decide +kernel
theorem d_M_set_51 : decode b_M_set 51 = .ok (.lcmp, 1) := by decide +kernel
theorem d_M_set_52 : decode b_M_set 52 = .ok (.ifCond .eq 49, 3) := by decide +kernel
theorem d_M_set_55 : decode b_M_set 55 = .ok (.aload_n 0, 1) := by decide +kernel
theorem d_M_set_56 : decode b_M_set 56 = .ok (.getfield 9, 3) := by decide +kernel
theorem d_M_set_59 : decode b_M_set 59 = .ok (.sipush 460, 3) := by decide +kernel
theorem d_M_set_62 : decode b_M_set 62 = .ok (.iload_n 1, 1) := by decide +kernel
theorem d_M_set_63 : decode b_M_set 63 = .ok (.imul, 1) := by decide +kernel
theorem d_M_set_64 : decode b_M_set 64 = .ok (.aload_n 0, 1) := by decide +kernel
theorem d_M_set_65 : decode b_M_set 65 = .ok (.getfield 13, 3) := by decide +kernel
theorem d_M_set_68 : decode b_M_set 68 = .ok (.iload_n 1, 1) := by decide +kernel
theorem d_M_set_69 : decode b_M_set 69 = .ok (.iaload, 1) := by decide +kernel
theorem d_M_set_70 : decode b_M_set 70 = .ok (.iadd, 1) := by decide +kernel
theorem d_M_set_71 : decode b_M_set 71 = .ok (.lload 4, 2) := by decide +kernel
theorem d_M_set_73 : decode b_M_set 73 = .ok (.ldc2_w 34, 3) := by decide +kernel
theorem d_M_set_76 : decode b_M_set 76 = .ok (.lrem, 1) := by decide +kernel
theorem d_M_set_77 : decode b_M_set 77 = .ok (.lneg, 1) := by decide +kernel
theorem d_M_set_78 : decode b_M_set 78 = .ok (.l2i, 1) := by decide +kernel
theorem d_M_set_79 : decode b_M_set 79 = .ok (.iastore, 1) := by decide +kernel
theorem d_M_set_80 : decode b_M_set 80 = .ok (.aload_n 0, 1) := by decide +kernel
theorem d_M_set_81 : decode b_M_set 81 = .ok (.getfield 13, 3) := by decide +kernel
theorem d_M_set_84 : decode b_M_set 84 = .ok (.iload_n 1, 1) := by decide +kernel
theorem d_M_set_85 : decode b_M_set 85 = .ok (.dup2, 1) := by decide +kernel
theorem d_M_set_86 : decode b_M_set 86 = .ok (.iaload, 1) := by decide +kernel
theorem d_M_set_87 : decode b_M_set 87 = .ok (.iconst 1, 1) := by decide +kernel
theorem d_M_set_88 : decode b_M_set 88 = .ok (.iadd, 1) := by decide +kernel
theorem d_M_set_89 : decode b_M_set 89 = .ok (.iastore, 1) := by decide +kernel
theorem d_M_set_90 : decode b_M_set 90 = .ok (.lload 4, 2) := by decide +kernel
theorem d_M_set_92 : decode b_M_set 92 = .ok (.ldc2_w 34, 3) := by decide +kernel
theorem d_M_set_95 : decode b_M_set 95 = .ok (.ldiv, 1) := by decide +kernel
theorem d_M_set_96 : decode b_M_set 96 = .ok (.lstore 4, 2) := by decide +kernel
theorem d_M_set_98 : decode b_M_set 98 = .ok (.goto (-50), 3) := by decide +kernel
theorem d_M_set_101 : decode b_M_set 101 = .ok (.return_, 1) := by decide +kernel
theorem d_M_copy_0 : decode b_M_copy 0 = .ok (.aload_n 0, 1) := by decide +kernel
theorem d_M_copy_1 : decode b_M_copy 1 = .ok (.getfield 13, 3) := by decide +kernel
theorem d_M_copy_4 : decode b_M_copy 4 = .ok (.iload_n 2, 1) := by decide +kernel
theorem d_M_copy_5 : decode b_M_copy 5 = .ok (.aload_n 0, 1) := by decide +kernel
theorem d_M_copy_6 : decode b_M_copy 6 = .ok (.getfield 13, 3) := by decide +kernel
theorem d_M_copy_9 : decode b_M_copy 9 = .ok (.iload_n 1, 1) := by decide +kernel
theorem d_M_copy_10 : decode b_M_copy 10 = .ok (.iaload, 1) := by decide +kernel
theorem d_M_copy_11 : decode b_M_copy 11 = .ok (.iastore, 1) := by decide +kernel
theorem d_M_copy_12 : decode b_M_copy 12 = .ok (.aload_n 0, 1) := by decide +kernel
theorem d_M_copy_13 : decode b_M_copy 13 = .ok (.getfield 16, 3) := by decide +kernel
theorem d_M_copy_16 : decode b_M_copy 16 = .ok (.iload_n 2, 1) := by decide +kernel
theorem d_M_copy_17 : decode b_M_copy 17 = .ok (.aload_n 0, 1) := by decide +kernel
theorem d_M_copy_18 : decode b_M_copy 18 = .ok (.getfield 16, 3) := by decide +kernel
theorem d_M_copy_21 : decode b_M_copy 21 = .ok (.iload_n 1, 1) := by decide +kernel
theorem d_M_copy_22 : decode b_M_copy 22 = .ok (.iaload, 1) := by decide +kernel
theorem d_M_copy_23 : decode b_M_copy 23 = .ok (.iastore, 1) := by decide +kernel
theorem d_M_copy_24 : decode b_M_copy 24 = .ok (.iconst 0, 1) := by decide +kernel
theorem d_M_copy_25 : decode b_M_copy 25 = .ok (.istore_n 3, 1) := by decide +kernel
theorem d_M_copy_26 : decode b_M_copy 26 = .ok (.iload_n 3, 1) := by decide +kernel
theorem d_M_copy_27 : decode b_M_copy 27 = .ok (.aload_n 0, 1) := by decide +kernel
theorem d_M_copy_28 : decode b_M_copy 28 = .ok (.getfield 13, 3) := by decide +kernel
theorem d_M_copy_31 : decode b_M_copy 31 = .ok (.iload_n 1, 1) := by decide +kernel
theorem d_M_copy_32 : decode b_M_copy 32 = .ok (.iaload, 1) := by decide +kernel
theorem d_M_copy_33 : decode b_M_copy 33 = .ok (.if_icmp .ge 33, 3) := by decide +kernel
theorem d_M_copy_36 : decode b_M_copy 36 = .ok (.aload_n 0, 1) := by decide +kernel
theorem d_M_copy_37 : decode b_M_copy 37 = .ok (.getfield 9, 3) := by decide +kernel
theorem d_M_copy_40 : decode b_M_copy 40 = .ok (.sipush 460, 3) := by decide +kernel
theorem d_M_copy_43 : decode b_M_copy 43 = .ok (.iload_n 2, 1) := by decide +kernel
theorem d_M_copy_44 : decode b_M_copy 44 = .ok (.imul, 1) := by decide +kernel
theorem d_M_copy_45 : decode b_M_copy 45 = .ok (.iload_n 3, 1) := by decide +kernel
theorem d_M_copy_46 : decode b_M_copy 46 = .ok (.iadd, 1) := by decide +kernel
theorem d_M_copy_47 : decode b_M_copy 47 = .ok (.aload_n 0, 1) := by decide +kernel
theorem d_M_copy_48 : decode b_M_copy 48 = .ok (.getfield 9, 3) := by decide +kernel
theorem d_M_copy_51 : decode b_M_copy 51 = .ok (.sipush 460, 3) := by decide +kernel
theorem d_M_copy_54 : decode b_M_copy 54 = .ok (.iload_n 1, 1) := by decide +kernel
theorem d_M_copy_55 : decode b_M_copy 55 = .ok (.imul, 1) := by decide +kernel
theorem d_M_copy_56 : decode b_M_copy 56 = .ok (.iload_n 3, 1) := by decide +kernel
theorem d_M_copy_57 : decode b_M_copy 57 = .ok (.iadd, 1) := by decide +kernel
theorem d_M_copy_58 : decode b_M_copy 58 = .ok (.iaload, 1) := by decide +kernel
theorem d_M_copy_59 : decode b_M_copy 59 = .ok (.iastore, 1) := by decide +kernel
theorem d_M_copy_60 : decode b_M_copy 60 = .ok (.iinc 3 1, 3) := by decide +kernel
theorem d_M_copy_63 : decode b_M_copy 63 = .ok (.goto (-37), 3) := by decide +kernel
theorem d_M_copy_66 : decode b_M_copy 66 = .ok (.return_, 1) := by decide +kernel
theorem d_M_trim_0 : decode b_M_trim 0 = .ok (.iload_n 2, 1) := by decide +kernel
theorem d_M_trim_1 : decode b_M_trim 1 = .ok (.istore_n 3, 1) := by decide +kernel
theorem d_M_trim_2 : decode b_M_trim 2 = .ok (.iload_n 3, 1) := by decide +kernel
theorem d_M_trim_3 : decode b_M_trim 3 = .ok (.ifCond .le 26, 3) := by decide +kernel
theorem d_M_trim_6 : decode b_M_trim 6 = .ok (.aload_n 0, 1) := by decide +kernel
theorem d_M_trim_7 : decode b_M_trim 7 = .ok (.getfield 9, 3) := by decide +kernel
theorem d_M_trim_10 : decode b_M_trim 10 = .ok (.sipush 460, 3) := by decide +kernel
theorem d_M_trim_13 : decode b_M_trim 13 = .ok (.iload_n 1, 1) := by decide +kernel
theorem d_M_trim_14 : decode b_M_trim 14 = .ok (.imul, 1) := by decide +kernel
theorem d_M_trim_15 : decode b_M_trim 15 = .ok (.iload_n 3, 1) := by decide +kernel
theorem d_M_trim_16 : decode b_M_trim 16 = .ok (.iadd, 1) := by decide +kernel
theorem d_M_trim_17 : decode b_M_trim 17 = .ok (.iconst 1, 1) := by decide +kernel
theorem d_M_trim_18 : decode b_M_trim 18 = .ok (.isub, 1) := by decide +kernel
theorem d_M_trim_19 : decode b_M_trim 19 = .ok (.iaload, 1) := by decide +kernel
theorem d_M_trim_20 : decode b_M_trim 20 = .ok (.ifCond .ne 9, 3) := by decide +kernel
theorem d_M_trim_23 : decode b_M_trim 23 = .ok (.iinc 3 (-1), 3) := by decide +kernel
theorem d_M_trim_26 : decode b_M_trim 26 = .ok (.goto (-24), 3) := by decide +kernel
theorem d_M_trim_29 : decode b_M_trim 29 = .ok (.aload_n 0, 1) := by decide +kernel
theorem d_M_trim_30 : decode b_M_trim 30 = .ok (.getfield 13, 3) := by decide +kernel
theorem d_M_trim_33 : decode b_M_trim 33 = .ok (.iload_n 1, 1) := by decide +kernel
theorem d_M_trim_34 : decode b_M_trim 34 = .ok (.iload_n 3, 1) := by decide +kernel
theorem d_M_trim_35 : decode b_M_trim 35 = .ok (.iastore, 1) := by decide +kernel
theorem d_M_trim_36 : decode b_M_trim 36 = .ok (.aload_n 0, 1) := by decide +kernel
theorem d_M_trim_37 : decode b_M_trim 37 = .ok (.getfield 16, 3) := by decide +kernel
theorem d_M_trim_40 : decode b_M_trim 40 = .ok (.iload_n 1, 1) := by decide +kernel
theorem d_M_trim_41 : decode b_M_trim 41 = .ok (.iload_n 3, 1) := by decide +kernel
theorem d_M_trim_42 : decode b_M_trim 42 = .ok (.ifCond .ne 7, 3) := by decide +kernel
theorem d_M_trim_45 : decode b_M_trim 45 = .ok (.iconst 0, 1) := by decide +kernel
theorem d_M_trim_46 : decode b_M_trim 46 = .ok (.goto 9, 3) := by decide +kernel
theorem d_M_trim_49 : decode b_M_trim 49 = .ok (.aload_n 0, 1) := by decide +kernel
theorem d_M_trim_50 : decode b_M_trim 50 = .ok (.getfield 16, 3) := by decide +kernel
theorem d_M_trim_53 : decode b_M_trim 53 = .ok (.iload_n 1, 1) := by decide +kernel
theorem d_M_trim_54 : decode b_M_trim 54 = .ok (.iaload, 1) := by decide +kernel
theorem d_M_trim_55 : decode b_M_trim 55 = .ok (.iastore, 1) := by decide +kernel
theorem d_M_trim_56 : decode b_M_trim 56 = .ok (.return_, 1) := by decide +kernel
theorem d_M_compare_0 : decode b_M_compare 0 = .ok (.aload_n 0, 1) := by decide +kernel
theorem d_M_compare_1 : decode b_M_compare 1 = .ok (.getfield 13, 3) := by decide +kernel
theorem d_M_compare_4 : decode b_M_compare 4 = .ok (.iload_n 1, 1) := by decide +kernel
theorem d_M_compare_5 : decode b_M_compare 5 = .ok (.iaload, 1) := by decide +kernel
theorem d_M_compare_6 : decode b_M_compare 6 = .ok (.aload_n 0, 1) := by decide +kernel
theorem d_M_compare_7 : decode b_M_compare 7 = .ok (.getfield 13, 3) := by decide +kernel
theorem d_M_compare_10 : decode b_M_compare 10 = .ok (.iload_n 2, 1) := by decide +kernel
theorem d_M_compare_11 : decode b_M_compare 11 = .ok (.iaload, 1) := by decide +kernel
theorem d_M_compare_12 : decode b_M_compare 12 = .ok (.if_icmp .eq 17, 3) := by decide +kernel
theorem d_M_compare_15 : decode b_M_compare 15 = .ok (.aload_n 0, 1) := by decide +kernel
theorem d_M_compare_16 : decode b_M_compare 16 = .ok (.getfield 13, 3) := by decide +kernel
theorem d_M_compare_19 : decode b_M_compare 19 = .ok (.iload_n 1, 1) := by decide +kernel
theorem d_M_compare_20 : decode b_M_compare 20 = .ok (.iaload, 1) := by decide +kernel
theorem d_M_compare_21 : decode b_M_compare 21 = .ok (.aload_n 0, 1) := by decide +kernel
theorem d_M_compare_22 : decode b_M_compare 22 = .ok (.getfield 13, 3) := by decide +kernel
theorem d_M_compare_25 : decode b_M_compare 25 = .ok (.iload_n 2, 1) := by decide +kernel
theorem d_M_compare_26 : decode b_M_compare 26 = .ok (.iaload, 1) := by decide +kernel
theorem d_M_compare_27 : decode b_M_compare 27 = .ok (.isub, 1) := by decide +kernel
theorem d_M_compare_28 : decode b_M_compare 28 = .ok (.ireturn, 1) := by decide +kernel
theorem d_M_compare_29 : decode b_M_compare 29 = .ok (.aload_n 0, 1) := by decide +kernel
theorem d_M_compare_30 : decode b_M_compare 30 = .ok (.getfield 13, 3) := by decide +kernel
theorem d_M_compare_33 : decode b_M_compare 33 = .ok (.iload_n 1, 1) := by decide +kernel
theorem d_M_compare_34 : decode b_M_compare 34 = .ok (.iaload, 1) := by decide +kernel
theorem d_M_compare_35 : decode b_M_compare 35 = .ok (.iconst 1, 1) := by decide +kernel
theorem d_M_compare_36 : decode b_M_compare 36 = .ok (.isub, 1) := by decide +kernel
theorem d_M_compare_37 : decode b_M_compare 37 = .ok (.istore_n 3, 1) := by decide +kernel
theorem d_M_compare_38 : decode b_M_compare 38 = .ok (.iload_n 3, 1) := by decide +kernel
theorem d_M_compare_39 : decode b_M_compare 39 = .ok (.ifCond .lt 36, 3) := by decide +kernel
theorem d_M_compare_42 : decode b_M_compare 42 = .ok (.aload_n 0, 1) := by decide +kernel
theorem d_M_compare_43 : decode b_M_compare 43 = .ok (.getfield 9, 3) := by decide +kernel
theorem d_M_compare_46 : decode b_M_compare 46 = .ok (.sipush 460, 3) := by decide +kernel
theorem d_M_compare_49 : decode b_M_compare 49 = .ok (.iload_n 1, 1) := by decide +kernel
theorem d_M_compare_50 : decode b_M_compare 50 = .ok (.imul, 1) := by decide +kernel
theorem d_M_compare_51 : decode b_M_compare 51 = .ok (.iload_n 3, 1) := by decide +kernel
theorem d_M_compare_52 : decode b_M_compare 52 = .ok (.iadd, 1) := by decide +kernel
theorem d_M_compare_53 : decode b_M_compare 53 = .ok (.iaload, 1) := by decide +kernel
theorem d_M_compare_54 : decode b_M_compare 54 = .ok (.aload_n 0, 1) := by decide +kernel
theorem d_M_compare_55 : decode b_M_compare 55 = .ok (.getfield 9, 3) := by decide +kernel
theorem d_M_compare_58 : decode b_M_compare 58 = .ok (.sipush 460, 3) := by decide +kernel
theorem d_M_compare_61 : decode b_M_compare 61 = .ok (.iload_n 2, 1) := by decide +kernel
theorem d_M_compare_62 : decode b_M_compare 62 = .ok (.imul, 1) := by decide +kernel
theorem d_M_compare_63 : decode b_M_compare 63 = .ok (.iload_n 3, 1) := by decide +kernel
theorem d_M_compare_64 : decode b_M_compare 64 = .ok (.iadd, 1) := by decide +kernel
theorem d_M_compare_65 : decode b_M_compare 65 = .ok (.iaload, 1) := by decide +kernel
theorem d_M_compare_66 : decode b_M_compare 66 = .ok (.if_icmp .ne 9, 3) := by decide +kernel
theorem d_M_compare_69 : decode b_M_compare 69 = .ok (.iinc 3 (-1), 3) := by decide +kernel
theorem d_M_compare_72 : decode b_M_compare 72 = .ok (.goto (-34), 3) := by decide +kernel
theorem d_M_compare_75 : decode b_M_compare 75 = .ok (.iload_n 3, 1) := by decide +kernel
theorem d_M_compare_76 : decode b_M_compare 76 = .ok (.ifCond .ge 7, 3) := by decide +kernel
theorem d_M_compare_79 : decode b_M_compare 79 = .ok (.iconst 0, 1) := by decide +kernel
theorem d_M_compare_80 : decode b_M_compare 80 = .ok (.goto 28, 3) := by decide +kernel
theorem d_M_compare_83 : decode b_M_compare 83 = .ok (.aload_n 0, 1) := by decide +kernel
theorem d_M_compare_84 : decode b_M_compare 84 = .ok (.getfield 9, 3) := by decide +kernel
theorem d_M_compare_87 : decode b_M_compare 87 = .ok (.sipush 460, 3) := by decide +kernel
theorem d_M_compare_90 : decode b_M_compare 90 = .ok (.iload_n 1, 1) := by decide +kernel
theorem d_M_compare_91 : decode b_M_compare 91 = .ok (.imul, 1) := by decide +kernel
theorem d_M_compare_92 : decode b_M_compare 92 = .ok (.iload_n 3, 1) := by decide +kernel
theorem d_M_compare_93 : decode b_M_compare 93 = .ok (.iadd, 1) := by decide +kernel
theorem d_M_compare_94 : decode b_M_compare 94 = .ok (.iaload, 1) := by decide +kernel
theorem d_M_compare_95 : decode b_M_compare 95 = .ok (.aload_n 0, 1) := by decide +kernel
theorem d_M_compare_96 : decode b_M_compare 96 = .ok (.getfield 9, 3) := by decide +kernel
theorem d_M_compare_99 : decode b_M_compare 99 = .ok (.sipush 460, 3) := by decide +kernel
theorem d_M_compare_102 : decode b_M_compare 102 = .ok (.iload_n 2, 1) := by decide +kernel
theorem d_M_compare_103 : decode b_M_compare 103 = .ok (.imul, 1) := by decide +kernel
theorem d_M_compare_104 : decode b_M_compare 104 = .ok (.iload_n 3, 1) := by decide +kernel
theorem d_M_compare_105 : decode b_M_compare 105 = .ok (.iadd, 1) := by decide +kernel
theorem d_M_compare_106 : decode b_M_compare 106 = .ok (.iaload, 1) := by decide +kernel
theorem d_M_compare_107 : decode b_M_compare 107 = .ok (.isub, 1) := by decide +kernel
theorem d_M_compare_108 : decode b_M_compare 108 = .ok (.ireturn, 1) := by decide +kernel
theorem d_M_isSame_0 : decode b_M_isSame 0 = .ok (.aload_n 0, 1) := by decide +kernel
theorem d_M_isSame_1 : decode b_M_isSame 1 = .ok (.getfield 16, 3) := by decide +kernel
theorem d_M_isSame_4 : decode b_M_isSame 4 = .ok (.iload_n 1, 1) := by decide +kernel
theorem d_M_isSame_5 : decode b_M_isSame 5 = .ok (.iaload, 1) := by decide +kernel
theorem d_M_isSame_6 : decode b_M_isSame 6 = .ok (.aload_n 0, 1) := by decide +kernel
theorem d_M_isSame_7 : decode b_M_isSame 7 = .ok (.getfield 16, 3) := by decide +kernel
theorem d_M_isSame_10 : decode b_M_isSame 10 = .ok (.iload_n 2, 1) := by decide +kernel
theorem d_M_isSame_11 : decode b_M_isSame 11 = .ok (.iaload, 1) := by decide +kernel
theorem d_M_isSame_12 : decode b_M_isSame 12 = .ok (.if_icmp .ne 16, 3) := by decide +kernel
theorem d_M_isSame_15 : decode b_M_isSame 15 = .ok (.aload_n 0, 1) := by decide +kernel
theorem d_M_isSame_16 : decode b_M_isSame 16 = .ok (.iload_n 1, 1) := by decide +kernel
theorem d_M_isSame_17 : decode b_M_isSame 17 = .ok (.iload_n 2, 1) := by decide +kernel
theorem d_M_isSame_18 : decode b_M_isSame 18 = .ok (.invokevirtual 36, 3) := by decide +kernel
theorem d_M_isSame_21 : decode b_M_isSame 21 = .ok (.ifCond .ne 7, 3) := by decide +kernel
theorem d_M_isSame_24 : decode b_M_isSame 24 = .ok (.iconst 1, 1) := by decide +kernel
theorem d_M_isSame_25 : decode b_M_isSame 25 = .ok (.goto 4, 3) := by decide +kernel
theorem d_M_isSame_28 : decode b_M_isSame 28 = .ok (.iconst 0, 1) := by decide +kernel
theorem d_M_isSame_29 : decode b_M_isSame 29 = .ok (.ireturn, 1) := by decide +kernel
theorem d_M_add_0 : decode b_M_add 0 = .ok (.aload_n 0, 1) := by decide +kernel
theorem d_M_add_1 : decode b_M_add 1 = .ok (.getfield 16, 3) := by decide +kernel
theorem d_M_add_4 : decode b_M_add 4 = .ok (.iload_n 2, 1) := by decide +kernel
theorem d_M_add_5 : decode b_M_add 5 = .ok (.iaload, 1) := by decide +kernel
theorem d_M_add_6 : decode b_M_add 6 = .ok (.istore 5, 2) := by decide +kernel
theorem d_M_add_8 : decode b_M_add 8 = .ok (.aload_n 0, 1) := by decide +kernel
theorem d_M_add_9 : decode b_M_add 9 = .ok (.getfield 16, 3) := by decide +kernel
theorem d_M_add_12 : decode b_M_add 12 = .ok (.iload_n 3, 1) := by decide +kernel
theorem d_M_add_13 : decode b_M_add 13 = .ok (.iaload, 1) := by decide +kernel
theorem d_M_add_14 : decode b_M_add 14 = .ok (.iload 4, 2) := by decide +kernel
theorem d_M_add_16 : decode b_M_add 16 = .ok (.imul, 1) := by decide +kernel
theorem d_M_add_17 : decode b_M_add 17 = .ok (.istore 6, 2) := by decide +kernel
theorem d_M_add_19 : decode b_M_add 19 = .ok (.iload 6, 2) := by decide +kernel
theorem d_M_add_21 : decode b_M_add 21 = .ok (.ifCond .ne 12, 3) := by decide +kernel
theorem d_M_add_24 : decode b_M_add 24 = .ok (.aload_n 0, 1) := by decide +kernel
theorem d_M_add_25 : decode b_M_add 25 = .ok (.iload_n 2, 1) := by decide +kernel
theorem d_M_add_26 : decode b_M_add 26 = .ok (.iload_n 1, 1) := by decide +kernel
theorem d_M_add_27 : decode b_M_add 27 = .ok (.invokevirtual 40, 3) := by decide +kernel
theorem d_M_add_30 : decode b_M_add 30 = .ok (.goto 88, 3) := by decide +kernel
theorem d_M_add_33 : decode b_M_add 33 = .ok (.iload 5, 2) := by decide +kernel
theorem d_M_add_35 : decode b_M_add 35 = .ok (.ifCond .ne 20, 3) := by decide +kernel
theorem d_M_add_38 : decode b_M_add 38 = .ok (.aload_n 0, 1) := by decide +kernel
theorem d_M_add_39 : decode b_M_add 39 = .ok (.iload_n 3, 1) := by decide +kernel
theorem d_M_add_40 : decode b_M_add 40 = .ok (.iload_n 1, 1) := by decide +kernel
theorem d_M_add_41 : decode b_M_add 41 = .ok (.invokevirtual 40, 3) := by decide +kernel
theorem d_M_add_44 : decode b_M_add 44 = .ok (.aload_n 0, 1) := by decide +kernel
theorem d_M_add_45 : decode b_M_add 45 = .ok (.getfield 16, 3) := by decide +kernel
theorem d_M_add_48 : decode b_M_add 48 = .ok (.iload_n 1, 1) := by decide +kernel
theorem d_M_add_49 : decode b_M_add 49 = .ok (.iload 6, 2) := by decide +kernel
theorem d_M_add_51 : decode b_M_add 51 = .ok (.iastore, 1) := by decide +kernel
theorem d_M_add_52 : decode b_M_add 52 = .ok (.goto 66, 3) := by decide +kernel
theorem d_M_add_55 : decode b_M_add 55 = .ok (.iload 5, 2) := by decide +kernel
theorem d_M_add_57 : decode b_M_add 57 = .ok (.iload 6, 2) := by decide +kernel
theorem d_M_add_59 : decode b_M_add 59 = .ok (.if_icmp .ne 21, 3) := by decide +kernel
theorem d_M_add_62 : decode b_M_add 62 = .ok (.aload_n 0, 1) := by decide +kernel
theorem d_M_add_63 : decode b_M_add 63 = .ok (.iload_n 1, 1) := by decide +kernel
theorem d_M_add_64 : decode b_M_add 64 = .ok (.iload_n 2, 1) := by decide +kernel
theorem d_M_add_65 : decode b_M_add 65 = .ok (.iload_n 3, 1) := by decide +kernel
theorem d_M_add_66 : decode b_M_add 66 = .ok (.invokevirtual 44, 3) := by decide +kernel
theorem d_M_add_69 : decode b_M_add 69 = .ok (.aload_n 0, 1) := by decide +kernel
theorem d_M_add_70 : decode b_M_add 70 = .ok (.getfield 16, 3) := by decide +kernel
theorem d_M_add_73 : decode b_M_add 73 = .ok (.iload_n 1, 1) := by decide +kernel
theorem d_M_add_74 : decode b_M_add 74 = .ok (.iload 5, 2) := by decide +kernel
theorem d_M_add_76 : decode b_M_add 76 = .ok (.iastore, 1) := by decide +kernel
theorem d_M_add_77 : decode b_M_add 77 = .ok (.goto 41, 3) := by decide +kernel
theorem d_M_add_80 : decode b_M_add 80 = .ok (.aload_n 0, 1) := by decide +kernel
theorem d_M_add_81 : decode b_M_add 81 = .ok (.iload_n 2, 1) := by decide +kernel
theorem d_M_add_82 : decode b_M_add 82 = .ok (.iload_n 3, 1) := by decide +kernel
theorem d_M_add_83 : decode b_M_add 83 = .ok (.invokevirtual 36, 3) := by decide +kernel
theorem d_M_add_86 : decode b_M_add 86 = .ok (.ifCond .lt 23, 3) := by decide +kernel
theorem d_M_add_89 : decode b_M_add 89 = .ok (.aload_n 0, 1) := by decide +kernel
theorem d_M_add_90 : decode b_M_add 90 = .ok (.getfield 16, 3) := by decide +kernel
theorem d_M_add_93 : decode b_M_add 93 = .ok (.iload_n 1, 1) := by decide +kernel
theorem d_M_add_94 : decode b_M_add 94 = .ok (.iload 5, 2) := by decide +kernel
theorem d_M_add_96 : decode b_M_add 96 = .ok (.iastore, 1) := by decide +kernel
theorem d_M_add_97 : decode b_M_add 97 = .ok (.aload_n 0, 1) := by decide +kernel
theorem d_M_add_98 : decode b_M_add 98 = .ok (.iload_n 1, 1) := by decide +kernel
theorem d_M_add_99 : decode b_M_add 99 = .ok (.iload_n 2, 1) := by decide +kernel
theorem d_M_add_100 : decode b_M_add 100 = .ok (.iload_n 3, 1) := by decide +kernel
theorem d_M_add_101 : decode b_M_add 101 = .ok (.iload 5, 2) := by decide +kernel
theorem d_M_add_103 : decode b_M_add 103 = .ok (.invokevirtual 48, 3) := by decide +kernel
theorem d_M_add_106 : decode b_M_add 106 = .ok (.goto 12, 3) := by decide +kernel
theorem d_M_add_109 : decode b_M_add 109 = .ok (.aload_n 0, 1) := by decide +kernel
theorem d_M_add_110 : decode b_M_add 110 = .ok (.iload_n 1, 1) := by decide +kernel
theorem d_M_add_111 : decode b_M_add 111 = .ok (.iload_n 3, 1) := by decide +kernel
theorem d_M_add_112 : decode b_M_add 112 = .ok (.iload_n 2, 1) := by decide +kernel
theorem d_M_add_113 : decode b_M_add 113 = .ok (.iload 6, 2) := by decide +kernel
theorem d_M_add_115 : decode b_M_add 115 = .ok (.invokevirtual 48, 3) := by decide +kernel
theorem d_M_add_118 : decode b_M_add 118 = .ok (.return_, 1) := by decide +kernel
theorem d_M_addSizes_0 : decode b_M_addSizes 0 = .ok (.aload_n 0, 1) := by decide +kernel
theorem d_M_addSizes_1 : decode b_M_addSizes 1 = .ok (.getfield 13, 3) := by decide +kernel
theorem d_M_addSizes_4 : decode b_M_addSizes 4 = .ok (.iload_n 2, 1) := by decide +kernel
theorem d_M_addSizes_5 : decode b_M_addSizes 5 = .ok (.iaload, 1) := by decide +kernel
theorem d_M_addSizes_6 : decode b_M_addSizes 6 = .ok (.aload_n 0, 1) := by decide +kernel
theorem d_M_addSizes_7 : decode b_M_addSizes 7 = .ok (.getfield 13, 3) := by decide +kernel
theorem d_M_addSizes_10 : decode b_M_addSizes 10 = .ok (.iload_n 3, 1) := by decide +kernel
theorem d_M_addSizes_11 : decode b_M_addSizes 11 = .ok (.iaload, 1) := by decide +kernel
theorem d_M_addSizes_12 : decode b_M_addSizes 12 = .ok (.if_icmp .le 12, 3) := by decide +kernel
theorem d_M_addSizes_15 : decode b_M_addSizes 15 = .ok (.aload_n 0, 1) := by decide +kernel
theorem d_M_addSizes_16 : decode b_M_addSizes 16 = .ok (.getfield 13, 3) := by decide +kernel
theorem d_M_addSizes_19 : decode b_M_addSizes 19 = .ok (.iload_n 2, 1) := by decide +kernel
theorem d_M_addSizes_20 : decode b_M_addSizes 20 = .ok (.iaload, 1) := by decide +kernel
theorem d_M_addSizes_21 : decode b_M_addSizes 21 = .ok (.goto 9, 3) := by decide +kernel
theorem d_M_addSizes_24 : decode b_M_addSizes 24 = .ok (.aload_n 0, 1) := by decide +kernel
theorem d_M_addSizes_25 : decode b_M_addSizes 25 = .ok (.getfield 13, 3) := by decide +kernel
theorem d_M_addSizes_28 : decode b_M_addSizes 28 = .ok (.iload_n 3, 1) := by decide +kernel
theorem d_M_addSizes_29 : decode b_M_addSizes 29 = .ok (.iaload, 1) := by decide +kernel
theorem d_M_addSizes_30 : decode b_M_addSizes 30 = .ok (.istore 4, 2) := by decide +kernel
theorem d_M_addSizes_32 : decode b_M_addSizes 32 = .ok (.aload_n 0, 1) := by decide +kernel
theorem d_M_addSizes_33 : decode b_M_addSizes 33 = .ok (.getfield 13, 3) := by decide +kernel
theorem d_M_addSizes_36 : decode b_M_addSizes 36 = .ok (.iload_n 2, 1) := by decide +kernel
theorem d_M_addSizes_37 : decode b_M_addSizes 37 = .ok (.iaload, 1) := by decide +kernel
theorem d_M_addSizes_38 : decode b_M_addSizes 38 = .ok (.istore 5, 2) := by decide +kernel
theorem d_M_addSizes_40 : decode b_M_addSizes 40 = .ok (.aload_n 0, 1) := by decide +kernel
theorem d_M_addSizes_41 : decode b_M_addSizes 41 = .ok (.getfield 13, 3) := by decide +kernel
theorem d_M_addSizes_44 : decode b_M_addSizes 44 = .ok (.iload_n 3, 1) := by decide +kernel
theorem d_M_addSizes_45 : decode b_M_addSizes 45 = .ok (.iaload, 1) := by decide +kernel
theorem d_M_addSizes_46 : decode b_M_addSizes 46 = .ok (.istore 6, 2) := by decide +kernel
theorem d_M_addSizes_48 : decode b_M_addSizes 48 = .ok (.iconst 0, 1) := by decide +kernel
theorem d_M_addSizes_49 : decode b_M_addSizes 49 = .ok (.istore 7, 2) := by decide +kernel
theorem d_M_addSizes_51 : decode b_M_addSizes 51 = .ok (.iconst 0, 1) := by decide +kernel
theorem d_M_addSizes_52 : decode b_M_addSizes 52 = .ok (.istore 8, 2) := by decide +kernel
theorem d_M_addSizes_54 : decode b_M_addSizes 54 = .ok (.iload 8, 2) := by decide +kernel
theorem d_M_addSizes_56 : decode b_M_addSizes 56 = .ok (.iload 4, 2) := by decide +kernel
theorem d_M_addSizes_58 : decode b_M_addSizes 58 = .ok (.if_icmp .ge 106, 3) := by decide +kernel
theorem d_M_addSizes_61 : decode b_M_addSizes 61 = .ok (.iload 7, 2) := by decide +kernel
theorem d_M_addSizes_63 : decode b_M_addSizes 63 = .ok (.iload 8, 2) := by decide +kernel
theorem d_M_addSizes_65 : decode b_M_addSizes 65 = .ok (.iload 5, 2) := by decide +kernel
theorem d_M_addSizes_67 : decode b_M_addSizes 67 = .ok (.if_icmp .ge 19, 3) := by decide +kernel
theorem d_M_addSizes_70 : decode b_M_addSizes 70 = .ok (.aload_n 0, 1) := by decide +kernel
theorem d_M_addSizes_71 : decode b_M_addSizes 71 = .ok (.getfield 9, 3) := by decide +kernel
theorem d_M_addSizes_74 : decode b_M_addSizes 74 = .ok (.sipush 460, 3) := by decide +kernel
theorem d_M_addSizes_77 : decode b_M_addSizes 77 = .ok (.iload_n 2, 1) := by decide +kernel
theorem d_M_addSizes_78 : decode b_M_addSizes 78 = .ok (.imul, 1) := by decide +kernel
theorem d_M_addSizes_79 : decode b_M_addSizes 79 = .ok (.iload 8, 2) := by decide +kernel
theorem d_M_addSizes_81 : decode b_M_addSizes 81 = .ok (.iadd, 1) := by decide +kernel
theorem d_M_addSizes_82 : decode b_M_addSizes 82 = .ok (.iaload, 1) := by decide +kernel
theorem d_M_addSizes_83 : decode b_M_addSizes 83 = .ok (.goto 4, 3) := by decide +kernel
theorem d_M_addSizes_86 : decode b_M_addSizes 86 = .ok (.iconst 0, 1) := by decide +kernel
theorem d_M_addSizes_87 : decode b_M_addSizes 87 = .ok (.iadd, 1) := by decide +kernel
theorem d_M_addSizes_88 : decode b_M_addSizes 88 = .ok (.iload 8, 2) := by decide +kernel
theorem d_M_addSizes_90 : decode b_M_addSizes 90 = .ok (.iload 6, 2) := by decide +kernel
theorem d_M_addSizes_92 : decode b_M_addSizes 92 = .ok (.if_icmp .ge 19, 3) := by decide +kernel
theorem d_M_addSizes_95 : decode b_M_addSizes 95 = .ok (.aload_n 0, 1) := by decide +kernel
theorem d_M_addSizes_96 : decode b_M_addSizes 96 = .ok (.getfield 9, 3) := by decide +kernel
theorem d_M_addSizes_99 : decode b_M_addSizes 99 = .ok (.sipush 460, 3) := by decide +kernel
theorem d_M_addSizes_102 : decode b_M_addSizes 102 = .ok (.iload_n 3, 1) := by decide +kernel
theorem d_M_addSizes_103 : decode b_M_addSizes 103 = .ok (.imul, 1) := by decide +kernel
theorem d_M_addSizes_104 : decode b_M_addSizes 104 = .ok (.iload 8, 2) := by decide +kernel
theorem d_M_addSizes_106 : decode b_M_addSizes 106 = .ok (.iadd, 1) := by decide +kernel
end
section
theorem d_M_addSizes_107 : decode b_M_addSizes 107 = .ok (.iaload, 1) := by decide +kernel
theorem d_M_addSizes_108 : decode b_M_addSizes 108 = .ok (.goto 4, 3) := by decide +kernel
theorem d_M_addSizes_111 : decode b_M_addSizes 111 = .ok (.iconst 0, 1) := by decide +kernel
theorem d_M_addSizes_112 : decode b_M_addSizes 112 = .ok (.iadd, 1) := by decide +kernel
theorem d_M_addSizes_113 : decode b_M_addSizes 113 = .ok (.istore 9, 2) := by decide +kernel
theorem d_M_addSizes_115 : decode b_M_addSizes 115 = .ok (.iload 9, 2) := by decide +kernel
theorem d_M_addSizes_117 : decode b_M_addSizes 117 = .ok (.ldc 52, 2) := by decide +kernel
theorem d_M_addSizes_119 : decode b_M_addSizes 119 = .ok (.if_icmp .lt 7, 3) := by decide +kernel
theorem d_M_addSizes_122 : decode b_M_addSizes 122 = .ok (.iconst 1, 1) := by decide +kernel
theorem d_M_addSizes_123 : decode b_M_addSizes 123 = .ok (.goto 4, 3) := by decide +kernel
theorem d_M_addSizes_126 : decode b_M_addSizes 126 = .ok (.iconst 0, 1) := by decide +kernel
theorem d_M_addSizes_127 : decode b_M_addSizes 127 = .ok (.istore 7, 2) := by decide +kernel
theorem d_M_addSizes_129 : decode b_M_addSizes 129 = .ok (.aload_n 0, 1) := by decide +kernel
theorem d_M_addSizes_130 : decode b_M_addSizes 130 = .ok (.getfield 9, 3) := by decide +kernel
theorem d_M_addSizes_133 : decode b_M_addSizes 133 = .ok (.sipush 460, 3) := by decide +kernel
theorem d_M_addSizes_136 : decode b_M_addSizes 136 = .ok (.iload_n 1, 1) := by decide +kernel
theorem d_M_addSizes_137 : decode b_M_addSizes 137 = .ok (.imul, 1) := by decide +kernel
theorem d_M_addSizes_138 : decode b_M_addSizes 138 = .ok (.iload 8, 2) := by decide +kernel
theorem d_M_addSizes_140 : decode b_M_addSizes 140 = .ok (.iadd, 1) := by decide +kernel
theorem d_M_addSizes_141 : decode b_M_addSizes 141 = .ok (.iload 7, 2) := by decide +kernel
theorem d_M_addSizes_143 : decode b_M_addSizes 143 = .ok (.iconst 1, 1) := by decide +kernel
theorem d_M_addSizes_144 : decode b_M_addSizes 144 = .ok (.if_icmp .ne 11, 3) := by decide +kernel
theorem d_M_addSizes_147 : decode b_M_addSizes 147 = .ok (.iload 9, 2) := by decide +kernel
theorem d_M_addSizes_149 : decode b_M_addSizes 149 = .ok (.ldc 52, 2) := by decide +kernel
theorem d_M_addSizes_151 : decode b_M_addSizes 151 = .ok (.isub, 1) := by decide +kernel
theorem d_M_addSizes_152 : decode b_M_addSizes 152 = .ok (.goto 5, 3) := by decide +kernel
theorem d_M_addSizes_155 : decode b_M_addSizes 155 = .ok (.iload 9, 2) := by decide +kernel
theorem d_M_addSizes_157 : decode b_M_addSizes 157 = .ok (.iastore, 1) := by decide +kernel
theorem d_M_addSizes_158 : decode b_M_addSizes 158 = .ok (.iinc 8 1, 3) := by decide +kernel
theorem d_M_addSizes_161 : decode b_M_addSizes 161 = .ok (.goto (-107), 3) := by decide +kernel
theorem d_M_addSizes_164 : decode b_M_addSizes 164 = .ok (.aload_n 0, 1) := by decide +kernel
theorem d_M_addSizes_165 : decode b_M_addSizes 165 = .ok (.getfield 9, 3) := by decide +kernel
theorem d_M_addSizes_168 : decode b_M_addSizes 168 = .ok (.sipush 460, 3) := by decide +kernel
theorem d_M_addSizes_171 : decode b_M_addSizes 171 = .ok (.iload_n 1, 1) := by decide +kernel
theorem d_M_addSizes_172 : decode b_M_addSizes 172 = .ok (.imul, 1) := by decide +kernel
theorem d_M_addSizes_173 : decode b_M_addSizes 173 = .ok (.iload 4, 2) := by decide +kernel
theorem d_M_addSizes_175 : decode b_M_addSizes 175 = .ok (.iadd, 1) := by decide +kernel
theorem d_M_addSizes_176 : decode b_M_addSizes 176 = .ok (.iload 7, 2) := by decide +kernel
theorem d_M_addSizes_178 : decode b_M_addSizes 178 = .ok (.iastore, 1) := by decide +kernel
theorem d_M_addSizes_179 : decode b_M_addSizes 179 = .ok (.aload_n 0, 1) := by decide +kernel
theorem d_M_addSizes_180 : decode b_M_addSizes 180 = .ok (.getfield 13, 3) := by decide +kernel
theorem d_M_addSizes_183 : decode b_M_addSizes 183 = .ok (.iload_n 1, 1) := by decide +kernel
theorem d_M_addSizes_184 : decode b_M_addSizes 184 = .ok (.iload 4, 2) := by decide +kernel
theorem d_M_addSizes_186 : decode b_M_addSizes 186 = .ok (.iload 7, 2) := by decide +kernel
theorem d_M_addSizes_188 : decode b_M_addSizes 188 = .ok (.iadd, 1) := by decide +kernel
theorem d_M_addSizes_189 : decode b_M_addSizes 189 = .ok (.iastore, 1) := by decide +kernel
theorem d_M_addSizes_190 : decode b_M_addSizes 190 = .ok (.return_, 1) := by decide +kernel
theorem d_M_takeSizes_0 : decode b_M_takeSizes 0 = .ok (.aload_n 0, 1) := by decide +kernel
theorem d_M_takeSizes_1 : decode b_M_takeSizes 1 = .ok (.getfield 13, 3) := by decide +kernel
theorem d_M_takeSizes_4 : decode b_M_takeSizes 4 = .ok (.iload_n 2, 1) := by decide +kernel
theorem d_M_takeSizes_5 : decode b_M_takeSizes 5 = .ok (.iaload, 1) := by decide +kernel
theorem d_M_takeSizes_6 : decode b_M_takeSizes 6 = .ok (.istore 5, 2) := by decide +kernel
theorem d_M_takeSizes_8 : decode b_M_takeSizes 8 = .ok (.aload_n 0, 1) := by decide +kernel
theorem d_M_takeSizes_9 : decode b_M_takeSizes 9 = .ok (.getfield 13, 3) := by decide +kernel
theorem d_M_takeSizes_12 : decode b_M_takeSizes 12 = .ok (.iload_n 3, 1) := by decide +kernel
theorem d_M_takeSizes_13 : decode b_M_takeSizes 13 = .ok (.iaload, 1) := by decide +kernel
theorem d_M_takeSizes_14 : decode b_M_takeSizes 14 = .ok (.istore 6, 2) := by decide +kernel
theorem d_M_takeSizes_16 : decode b_M_takeSizes 16 = .ok (.iconst 0, 1) := by decide +kernel
theorem d_M_takeSizes_17 : decode b_M_takeSizes 17 = .ok (.istore 7, 2) := by decide +kernel
theorem d_M_takeSizes_19 : decode b_M_takeSizes 19 = .ok (.iconst 0, 1) := by decide +kernel
theorem d_M_takeSizes_20 : decode b_M_takeSizes 20 = .ok (.istore 8, 2) := by decide +kernel
theorem d_M_takeSizes_22 : decode b_M_takeSizes 22 = .ok (.iload 8, 2) := by decide +kernel
theorem d_M_takeSizes_24 : decode b_M_takeSizes 24 = .ok (.iload 5, 2) := by decide +kernel
theorem d_M_takeSizes_26 : decode b_M_takeSizes 26 = .ok (.if_icmp .ge 92, 3) := by decide +kernel
theorem d_M_takeSizes_29 : decode b_M_takeSizes 29 = .ok (.aload_n 0, 1) := by decide +kernel
theorem d_M_takeSizes_30 : decode b_M_takeSizes 30 = .ok (.getfield 9, 3) := by decide +kernel
theorem d_M_takeSizes_33 : decode b_M_takeSizes 33 = .ok (.sipush 460, 3) := by decide +kernel
theorem d_M_takeSizes_36 : decode b_M_takeSizes 36 = .ok (.iload_n 2, 1) := by decide +kernel
theorem d_M_takeSizes_37 : decode b_M_takeSizes 37 = .ok (.imul, 1) := by decide +kernel
theorem d_M_takeSizes_38 : decode b_M_takeSizes 38 = .ok (.iload 8, 2) := by decide +kernel
theorem d_M_takeSizes_40 : decode b_M_takeSizes 40 = .ok (.iadd, 1) := by decide +kernel
theorem d_M_takeSizes_41 : decode b_M_takeSizes 41 = .ok (.iaload, 1) := by decide +kernel
theorem d_M_takeSizes_42 : decode b_M_takeSizes 42 = .ok (.iload 7, 2) := by decide +kernel
theorem d_M_takeSizes_44 : decode b_M_takeSizes 44 = .ok (.isub, 1) := by decide +kernel
theorem d_M_takeSizes_45 : decode b_M_takeSizes 45 = .ok (.iload 8, 2) := by decide +kernel
theorem d_M_takeSizes_47 : decode b_M_takeSizes 47 = .ok (.iload 6, 2) := by decide +kernel
theorem d_M_takeSizes_49 : decode b_M_takeSizes 49 = .ok (.if_icmp .ge 19, 3) := by decide +kernel
theorem d_M_takeSizes_52 : decode b_M_takeSizes 52 = .ok (.aload_n 0, 1) := by decide +kernel
theorem d_M_takeSizes_53 : decode b_M_takeSizes 53 = .ok (.getfield 9, 3) := by decide +kernel
theorem d_M_takeSizes_56 : decode b_M_takeSizes 56 = .ok (.sipush 460, 3) := by decide +kernel
theorem d_M_takeSizes_59 : decode b_M_takeSizes 59 = .ok (.iload_n 3, 1) := by decide +kernel
theorem d_M_takeSizes_60 : decode b_M_takeSizes 60 = .ok (.imul, 1) := by decide +kernel
theorem d_M_takeSizes_61 : decode b_M_takeSizes 61 = .ok (.iload 8, 2) := by decide +kernel
theorem d_M_takeSizes_63 : decode b_M_takeSizes 63 = .ok (.iadd, 1) := by decide +kernel
theorem d_M_takeSizes_64 : decode b_M_takeSizes 64 = .ok (.iaload, 1) := by decide +kernel
theorem d_M_takeSizes_65 : decode b_M_takeSizes 65 = .ok (.goto 4, 3) := by decide +kernel
theorem d_M_takeSizes_68 : decode b_M_takeSizes 68 = .ok (.iconst 0, 1) := by decide +kernel
theorem d_M_takeSizes_69 : decode b_M_takeSizes 69 = .ok (.isub, 1) := by decide +kernel
theorem d_M_takeSizes_70 : decode b_M_takeSizes 70 = .ok (.istore 9, 2) := by decide +kernel
theorem d_M_takeSizes_72 : decode b_M_takeSizes 72 = .ok (.iload 9, 2) := by decide +kernel
theorem d_M_takeSizes_74 : decode b_M_takeSizes 74 = .ok (.ifCond .ge 7, 3) := by decide +kernel
theorem d_M_takeSizes_77 : decode b_M_takeSizes 77 = .ok (.iconst 1, 1) := by decide +kernel
theorem d_M_takeSizes_78 : decode b_M_takeSizes 78 = .ok (.goto 4, 3) := by decide +kernel
theorem d_M_takeSizes_81 : decode b_M_takeSizes 81 = .ok (.iconst 0, 1) := by decide +kernel
theorem d_M_takeSizes_82 : decode b_M_takeSizes 82 = .ok (.istore 7, 2) := by decide +kernel
theorem d_M_takeSizes_84 : decode b_M_takeSizes 84 = .ok (.aload_n 0, 1) := by decide +kernel
theorem d_M_takeSizes_85 : decode b_M_takeSizes 85 = .ok (.getfield 9, 3) := by decide +kernel
theorem d_M_takeSizes_88 : decode b_M_takeSizes 88 = .ok (.sipush 460, 3) := by decide +kernel
theorem d_M_takeSizes_91 : decode b_M_takeSizes 91 = .ok (.iload_n 1, 1) := by decide +kernel
theorem d_M_takeSizes_92 : decode b_M_takeSizes 92 = .ok (.imul, 1) := by decide +kernel
theorem d_M_takeSizes_93 : decode b_M_takeSizes 93 = .ok (.iload 8, 2) := by decide +kernel
theorem d_M_takeSizes_95 : decode b_M_takeSizes 95 = .ok (.iadd, 1) := by decide +kernel
theorem d_M_takeSizes_96 : decode b_M_takeSizes 96 = .ok (.iload 9, 2) := by decide +kernel
theorem d_M_takeSizes_98 : decode b_M_takeSizes 98 = .ok (.ifCond .ge 11, 3) := by decide +kernel
theorem d_M_takeSizes_101 : decode b_M_takeSizes 101 = .ok (.iload 9, 2) := by decide +kernel
theorem d_M_takeSizes_103 : decode b_M_takeSizes 103 = .ok (.ldc 52, 2) := by decide +kernel
theorem d_M_takeSizes_105 : decode b_M_takeSizes 105 = .ok (.iadd, 1) := by decide +kernel
theorem d_M_takeSizes_106 : decode b_M_takeSizes 106 = .ok (.goto 5, 3) := by decide +kernel
theorem d_M_takeSizes_109 : decode b_M_takeSizes 109 = .ok (.iload 9, 2) := by decide +kernel
theorem d_M_takeSizes_111 : decode b_M_takeSizes 111 = .ok (.iastore, 1) := by decide +kernel
theorem d_M_takeSizes_112 : decode b_M_takeSizes 112 = .ok (.iinc 8 1, 3) := by decide +kernel
theorem d_M_takeSizes_115 : decode b_M_takeSizes 115 = .ok (.goto (-93), 3) := by decide +kernel
theorem d_M_takeSizes_118 : decode b_M_takeSizes 118 = .ok (.aload_n 0, 1) := by decide +kernel
theorem d_M_takeSizes_119 : decode b_M_takeSizes 119 = .ok (.getfield 16, 3) := by decide +kernel
theorem d_M_takeSizes_122 : decode b_M_takeSizes 122 = .ok (.iload_n 1, 1) := by decide +kernel
theorem d_M_takeSizes_123 : decode b_M_takeSizes 123 = .ok (.iload 4, 2) := by decide +kernel
theorem d_M_takeSizes_125 : decode b_M_takeSizes 125 = .ok (.iastore, 1) := by decide +kernel
theorem d_M_takeSizes_126 : decode b_M_takeSizes 126 = .ok (.aload_n 0, 1) := by decide +kernel
theorem d_M_takeSizes_127 : decode b_M_takeSizes 127 = .ok (.iload_n 1, 1) := by decide +kernel
theorem d_M_takeSizes_128 : decode b_M_takeSizes 128 = .ok (.iload 5, 2) := by decide +kernel
theorem d_M_takeSizes_130 : decode b_M_takeSizes 130 = .ok (.invokevirtual 53, 3) := by decide +kernel
theorem d_M_takeSizes_133 : decode b_M_takeSizes 133 = .ok (.return_, 1) := by decide +kernel
theorem d_M_multiply_0 : decode b_M_multiply 0 = .ok (.aload_n 0, 1) := by decide +kernel
theorem d_M_multiply_1 : decode b_M_multiply 1 = .ok (.getfield 13, 3) := by decide +kernel
theorem d_M_multiply_4 : decode b_M_multiply 4 = .ok (.iload_n 2, 1) := by decide +kernel
theorem d_M_multiply_5 : decode b_M_multiply 5 = .ok (.iaload, 1) := by decide +kernel
theorem d_M_multiply_6 : decode b_M_multiply 6 = .ok (.aload_n 0, 1) := by decide +kernel
theorem d_M_multiply_7 : decode b_M_multiply 7 = .ok (.getfield 13, 3) := by decide +kernel
theorem d_M_multiply_10 : decode b_M_multiply 10 = .ok (.iload_n 3, 1) := by decide +kernel
theorem d_M_multiply_11 : decode b_M_multiply 11 = .ok (.iaload, 1) := by decide +kernel
theorem d_M_multiply_12 : decode b_M_multiply 12 = .ok (.iadd, 1) := by decide +kernel
theorem d_M_multiply_13 : decode b_M_multiply 13 = .ok (.istore 4, 2) := by decide +kernel
theorem d_M_multiply_15 : decode b_M_multiply 15 = .ok (.iconst 0, 1) := by decide +kernel
theorem d_M_multiply_16 : decode b_M_multiply 16 = .ok (.istore 5, 2) := by decide +kernel
theorem d_M_multiply_18 : decode b_M_multiply 18 = .ok (.iload 5, 2) := by decide +kernel
theorem d_M_multiply_20 : decode b_M_multiply 20 = .ok (.iload 4, 2) := by decide +kernel
theorem d_M_multiply_22 : decode b_M_multiply 22 = .ok (.if_icmp .ge 23, 3) := by decide +kernel
theorem d_M_multiply_25 : decode b_M_multiply 25 = .ok (.aload_n 0, 1) := by decide +kernel
theorem d_M_multiply_26 : decode b_M_multiply 26 = .ok (.getfield 9, 3) := by decide +kernel
theorem d_M_multiply_29 : decode b_M_multiply 29 = .ok (.sipush 460, 3) := by decide +kernel
theorem d_M_multiply_32 : decode b_M_multiply 32 = .ok (.iload_n 1, 1) := by decide +kernel
theorem d_M_multiply_33 : decode b_M_multiply 33 = .ok (.imul, 1) := by decide +kernel
theorem d_M_multiply_34 : decode b_M_multiply 34 = .ok (.iload 5, 2) := by decide +kernel
theorem d_M_multiply_36 : decode b_M_multiply 36 = .ok (.iadd, 1) := by decide +kernel
theorem d_M_multiply_37 : decode b_M_multiply 37 = .ok (.iconst 0, 1) := by decide +kernel
theorem d_M_multiply_38 : decode b_M_multiply 38 = .ok (.iastore, 1) := by decide +kernel
theorem d_M_multiply_39 : decode b_M_multiply 39 = .ok (.iinc 5 1, 3) := by decide +kernel
theorem d_M_multiply_42 : decode b_M_multiply 42 = .ok (.goto (-24), 3) := by decide +kernel
theorem d_M_multiply_45 : decode b_M_multiply 45 = .ok (.iconst 0, 1) := by decide +kernel
theorem d_M_multiply_46 : decode b_M_multiply 46 = .ok (.istore 5, 2) := by decide +kernel
theorem d_M_multiply_48 : decode b_M_multiply 48 = .ok (.iload 5, 2) := by decide +kernel
theorem d_M_multiply_50 : decode b_M_multiply 50 = .ok (.aload_n 0, 1) := by decide +kernel
theorem d_M_multiply_51 : decode b_M_multiply 51 = .ok (.getfield 13, 3) := by decide +kernel
theorem d_M_multiply_54 : decode b_M_multiply 54 = .ok (.iload_n 2, 1) := by decide +kernel
theorem d_M_multiply_55 : decode b_M_multiply 55 = .ok (.iaload, 1) := by decide +kernel
theorem d_M_multiply_56 : decode b_M_multiply 56 = .ok (.if_icmp .ge 142, 3) := by decide +kernel
theorem d_M_multiply_59 : decode b_M_multiply 59 = .ok (.lconst 0, 1) := by decide +kernel
theorem d_M_multiply_60 : decode b_M_multiply 60 = .ok (.lstore 6, 2) := by decide +kernel
theorem d_M_multiply_62 : decode b_M_multiply 62 = .ok (.aload_n 0, 1) := by decide +kernel
theorem d_M_multiply_63 : decode b_M_multiply 63 = .ok (.getfield 9, 3) := by decide +kernel
theorem d_M_multiply_66 : decode b_M_multiply 66 = .ok (.sipush 460, 3) := by decide +kernel
theorem d_M_multiply_69 : decode b_M_multiply 69 = .ok (.iload_n 2, 1) := by decide +kernel
theorem d_M_multiply_70 : decode b_M_multiply 70 = .ok (.imul, 1) := by decide +kernel
theorem d_M_multiply_71 : decode b_M_multiply 71 = .ok (.iload 5, 2) := by decide +kernel
theorem d_M_multiply_73 : decode b_M_multiply 73 = .ok (.iadd, 1) := by decide +kernel
theorem d_M_multiply_74 : decode b_M_multiply 74 = .ok (.iaload, 1) := by decide +kernel
theorem d_M_multiply_75 : decode b_M_multiply 75 = .ok (.i2l, 1) := by decide +kernel
theorem d_M_multiply_76 : decode b_M_multiply 76 = .ok (.lstore 8, 2) := by decide +kernel
theorem d_M_multiply_78 : decode b_M_multiply 78 = .ok (.iconst 0, 1) := by decide +kernel
theorem d_M_multiply_79 : decode b_M_multiply 79 = .ok (.istore 10, 2) := by decide +kernel
theorem d_M_multiply_81 : decode b_M_multiply 81 = .ok (.iload 10, 2) := by decide +kernel
theorem d_M_multiply_83 : decode b_M_multiply 83 = .ok (.aload_n 0, 1) := by decide +kernel
theorem d_M_multiply_84 : decode b_M_multiply 84 = .ok (.getfield 13, 3) := by decide +kernel
theorem d_M_multiply_87 : decode b_M_multiply 87 = .ok (.iload_n 3, 1) := by decide +kernel
theorem d_M_multiply_88 : decode b_M_multiply 88 = .ok (.iaload, 1) := by decide +kernel
theorem d_M_multiply_89 : decode b_M_multiply 89 = .ok (.if_icmp .ge 80, 3) := by decide +kernel
theorem d_M_multiply_92 : decode b_M_multiply 92 = .ok (.aload_n 0, 1) := by decide +kernel
theorem d_M_multiply_93 : decode b_M_multiply 93 = .ok (.getfield 9, 3) := by decide +kernel
theorem d_M_multiply_96 : decode b_M_multiply 96 = .ok (.sipush 460, 3) := by decide +kernel
theorem d_M_multiply_99 : decode b_M_multiply 99 = .ok (.iload_n 1, 1) := by decide +kernel
theorem d_M_multiply_100 : decode b_M_multiply 100 = .ok (.imul, 1) := by decide +kernel
theorem d_M_multiply_101 : decode b_M_multiply 101 = .ok (.iload 5, 2) := by decide +kernel
theorem d_M_multiply_103 : decode b_M_multiply 103 = .ok (.iadd, 1) := by decide +kernel
theorem d_M_multiply_104 : decode b_M_multiply 104 = .ok (.iload 10, 2) := by decide +kernel
theorem d_M_multiply_106 : decode b_M_multiply 106 = .ok (.iadd, 1) := by decide +kernel
theorem d_M_multiply_107 : decode b_M_multiply 107 = .ok (.iaload, 1) := by decide +kernel
theorem d_M_multiply_108 : decode b_M_multiply 108 = .ok (.i2l, 1) := by decide +kernel
theorem d_M_multiply_109 : decode b_M_multiply 109 = .ok (.lload 8, 2) := by decide +kernel
theorem d_M_multiply_111 : decode b_M_multiply 111 = .ok (.aload_n 0, 1) := by decide +kernel
theorem d_M_multiply_112 : decode b_M_multiply 112 = .ok (.getfield 9, 3) := by decide +kernel
theorem d_M_multiply_115 : decode b_M_multiply 115 = .ok (.sipush 460, 3) := by decide +kernel
theorem d_M_multiply_118 : decode b_M_multiply 118 = .ok (.iload_n 3, 1) := by decide +kernel
theorem d_M_multiply_119 : decode b_M_multiply 119 = .ok (.imul, 1) := by decide +kernel
theorem d_M_multiply_120 : decode b_M_multiply 120 = .ok (.iload 10, 2) := by decide +kernel
theorem d_M_multiply_122 : decode b_M_multiply 122 = .ok (.iadd, 1) := by decide +kernel
theorem d_M_multiply_123 : decode b_M_multiply 123 = .ok (.iaload, 1) := by decide +kernel
theorem d_M_multiply_124 : decode b_M_multiply 124 = .ok (.i2l, 1) := by decide +kernel
theorem d_M_multiply_125 : decode b_M_multiply 125 = .ok (.lmul, 1) := by decide +kernel
theorem d_M_multiply_126 : decode b_M_multiply 126 = .ok (.ladd, 1) := by decide +kernel
theorem d_M_multiply_127 : decode b_M_multiply 127 = .ok (.lload 6, 2) := by decide +kernel
theorem d_M_multiply_129 : decode b_M_multiply 129 = .ok (.ladd, 1) := by decide +kernel
theorem d_M_multiply_130 : decode b_M_multiply 130 = .ok (.lstore 11, 2) := by decide +kernel
theorem d_M_multiply_132 : decode b_M_multiply 132 = .ok (.aload_n 0, 1) := by decide +kernel
theorem d_M_multiply_133 : decode b_M_multiply 133 = .ok (.getfield 9, 3) := by decide +kernel
theorem d_M_multiply_136 : decode b_M_multiply 136 = .ok (.sipush 460, 3) := by decide +kernel
theorem d_M_multiply_139 : decode b_M_multiply 139 = .ok (.iload_n 1, 1) := by decide +kernel
theorem d_M_multiply_140 : decode b_M_multiply 140 = .ok (.imul, 1) := by decide +kernel
theorem d_M_multiply_141 : decode b_M_multiply 141 = .ok (.iload 5, 2) := by decide +kernel
theorem d_M_multiply_143 : decode b_M_multiply 143 = .ok (.iadd, 1) := by decide +kernel
theorem d_M_multiply_144 : decode b_M_multiply 144 = .ok (.iload 10, 2) := by decide +kernel
theorem d_M_multiply_146 : decode b_M_multiply 146 = .ok (.iadd, 1) := by decide +kernel
theorem d_M_multiply_147 : decode b_M_multiply 147 = .ok (.lload 11, 2) := by decide +kernel
theorem d_M_multiply_149 : decode b_M_multiply 149 = .ok (.ldc2_w 34, 3) := by decide +kernel
theorem d_M_multiply_152 : decode b_M_multiply 152 = .ok (.lrem, 1) := by decide +kernel
theorem d_M_multiply_153 : decode b_M_multiply 153 = .ok (.l2i, 1) := by decide +kernel
theorem d_M_multiply_154 : decode b_M_multiply 154 = .ok (.iastore, 1) := by decide +kernel
theorem d_M_multiply_155 : decode b_M_multiply 155 = .ok (.lload 11, 2) := by decide +kernel
theorem d_M_multiply_157 : decode b_M_multiply 157 = .ok (.ldc2_w 34, 3) := by decide +kernel
theorem d_M_multiply_160 : decode b_M_multiply 160 = .ok (.ldiv, 1) := by decide +kernel
theorem d_M_multiply_161 : decode b_M_multiply 161 = .ok (.lstore 6, 2) := by decide +kernel
theorem d_M_multiply_163 : decode b_M_multiply 163 = .ok (.iinc 10 1, 3) := by decide +kernel
theorem d_M_multiply_166 : decode b_M_multiply 166 = .ok (.goto (-85), 3) := by decide +kernel
theorem d_M_multiply_169 : decode b_M_multiply 169 = .ok (.aload_n 0, 1) := by decide +kernel
theorem d_M_multiply_170 : decode b_M_multiply 170 = .ok (.getfield 9, 3) := by decide +kernel
theorem d_M_multiply_173 : decode b_M_multiply 173 = .ok (.sipush 460, 3) := by decide +kernel
theorem d_M_multiply_176 : decode b_M_multiply 176 = .ok (.iload_n 1, 1) := by decide +kernel
theorem d_M_multiply_177 : decode b_M_multiply 177 = .ok (.imul, 1) := by decide +kernel
theorem d_M_multiply_178 : decode b_M_multiply 178 = .ok (.iload 5, 2) := by decide +kernel
theorem d_M_multiply_180 : decode b_M_multiply 180 = .ok (.iadd, 1) := by decide +kernel
theorem d_M_multiply_181 : decode b_M_multiply 181 = .ok (.aload_n 0, 1) := by decide +kernel
theorem d_M_multiply_182 : decode b_M_multiply 182 = .ok (.getfield 13, 3) := by decide +kernel
theorem d_M_multiply_185 : decode b_M_multiply 185 = .ok (.iload_n 3, 1) := by decide +kernel
theorem d_M_multiply_186 : decode b_M_multiply 186 = .ok (.iaload, 1) := by decide +kernel
theorem d_M_multiply_187 : decode b_M_multiply 187 = .ok (.iadd, 1) := by decide +kernel
theorem d_M_multiply_188 : decode b_M_multiply 188 = .ok (.lload 6, 2) := by decide +kernel
theorem d_M_multiply_190 : decode b_M_multiply 190 = .ok (.l2i, 1) := by decide +kernel
theorem d_M_multiply_191 : decode b_M_multiply 191 = .ok (.iastore, 1) := by decide +kernel
theorem d_M_multiply_192 : decode b_M_multiply 192 = .ok (.iinc 5 1, 3) := by decide +kernel
theorem d_M_multiply_195 : decode b_M_multiply 195 = .ok (.goto (-147), 3) := by decide +kernel
theorem d_M_multiply_198 : decode b_M_multiply 198 = .ok (.aload_n 0, 1) := by decide +kernel
theorem d_M_multiply_199 : decode b_M_multiply 199 = .ok (.getfield 16, 3) := by decide +kernel
theorem d_M_multiply_202 : decode b_M_multiply 202 = .ok (.iload_n 1, 1) := by decide +kernel
theorem d_M_multiply_203 : decode b_M_multiply 203 = .ok (.aload_n 0, 1) := by decide +kernel
theorem d_M_multiply_204 : decode b_M_multiply 204 = .ok (.getfield 16, 3) := by decide +kernel
theorem d_M_multiply_207 : decode b_M_multiply 207 = .ok (.iload_n 2, 1) := by decide +kernel
theorem d_M_multiply_208 : decode b_M_multiply 208 = .ok (.iaload, 1) := by decide +kernel
theorem d_M_multiply_209 : decode b_M_multiply 209 = .ok (.aload_n 0, 1) := by decide +kernel
theorem d_M_multiply_210 : decode b_M_multiply 210 = .ok (.getfield 16, 3) := by decide +kernel
theorem d_M_multiply_213 : decode b_M_multiply 213 = .ok (.iload_n 3, 1) := by decide +kernel
theorem d_M_multiply_214 : decode b_M_multiply 214 = .ok (.iaload, 1) := by decide +kernel
theorem d_M_multiply_215 : decode b_M_multiply 215 = .ok (.imul, 1) := by decide +kernel
theorem d_M_multiply_216 : decode b_M_multiply 216 = .ok (.iastore, 1) := by decide +kernel
theorem d_M_multiply_217 : decode b_M_multiply 217 = .ok (.aload_n 0, 1) := by decide +kernel
theorem d_M_multiply_218 : decode b_M_multiply 218 = .ok (.iload_n 1, 1) := by decide +kernel
theorem d_M_multiply_219 : decode b_M_multiply 219 = .ok (.iload 4, 2) := by decide +kernel
theorem d_M_multiply_221 : decode b_M_multiply 221 = .ok (.invokevirtual 53, 3) := by decide +kernel
theorem d_M_multiply_224 : decode b_M_multiply 224 = .ok (.return_, 1) := by decide +kernel
theorem d_M_timesSmall_0 : decode b_M_timesSmall 0 = .ok (.lconst 0, 1) := by decide +kernel
theorem d_M_timesSmall_1 : decode b_M_timesSmall 1 = .ok (.lstore 4, 2) := by decide +kernel
theorem d_M_timesSmall_3 : decode b_M_timesSmall 3 = .ok (.iconst 0, 1) := by decide +kernel
theorem d_M_timesSmall_4 : decode b_M_timesSmall 4 = .ok (.istore 6, 2) := by decide +kernel
theorem d_M_timesSmall_6 : decode b_M_timesSmall 6 = .ok (.iload 6, 2) := by decide +kernel
theorem d_M_timesSmall_8 : decode b_M_timesSmall 8 = .ok (.aload_n 0, 1) := by decide +kernel
theorem d_M_timesSmall_9 : decode b_M_timesSmall 9 = .ok (.getfield 13, 3) := by decide +kernel
theorem d_M_timesSmall_12 : decode b_M_timesSmall 12 = .ok (.iload_n 1, 1) := by decide +kernel
theorem d_M_timesSmall_13 : decode b_M_timesSmall 13 = .ok (.iaload, 1) := by decide +kernel
theorem d_M_timesSmall_14 : decode b_M_timesSmall 14 = .ok (.if_icmp .ge 58, 3) := by decide +kernel
theorem d_M_timesSmall_17 : decode b_M_timesSmall 17 = .ok (.aload_n 0, 1) := by decide +kernel
theorem d_M_timesSmall_18 : decode b_M_timesSmall 18 = .ok (.getfield 9, 3) := by decide +kernel
theorem d_M_timesSmall_21 : decode b_M_timesSmall 21 = .ok (.sipush 460, 3) := by decide +kernel
theorem d_M_timesSmall_24 : decode b_M_timesSmall 24 = .ok (.iload_n 1, 1) := by decide +kernel
theorem d_M_timesSmall_25 : decode b_M_timesSmall 25 = .ok (.imul, 1) := by decide +kernel
theorem d_M_timesSmall_26 : decode b_M_timesSmall 26 = .ok (.iload 6, 2) := by decide +kernel
theorem d_M_timesSmall_28 : decode b_M_timesSmall 28 = .ok (.iadd, 1) := by decide +kernel
theorem d_M_timesSmall_29 : decode b_M_timesSmall 29 = .ok (.iaload, 1) := by decide +kernel
theorem d_M_timesSmall_30 : decode b_M_timesSmall 30 = .ok (.i2l, 1) := by decide +kernel
theorem d_M_timesSmall_31 : decode b_M_timesSmall 31 = .ok (.lload_n 2, 1) := by decide +kernel
theorem d_M_timesSmall_32 : decode b_M_timesSmall 32 = .ok (.lmul, 1) := by decide +kernel
theorem d_M_timesSmall_33 : decode b_M_timesSmall 33 = .ok (.lload 4, 2) := by decide +kernel
theorem d_M_timesSmall_35 : decode b_M_timesSmall 35 = .ok (.ladd, 1) := by decide +kernel
theorem d_M_timesSmall_36 : decode b_M_timesSmall 36 = .ok (.lstore 7, 2) := by decide +kernel
theorem d_M_timesSmall_38 : decode b_M_timesSmall 38 = .ok (.aload_n 0, 1) := by decide +kernel
theorem d_M_timesSmall_39 : decode b_M_timesSmall 39 = .ok (.getfield 9, 3) := by decide +kernel
theorem d_M_timesSmall_42 : decode b_M_timesSmall 42 = .ok (.sipush 460, 3) := by decide +kernel
theorem d_M_timesSmall_45 : decode b_M_timesSmall 45 = .ok (.iload_n 1, 1) := by decide +kernel
theorem d_M_timesSmall_46 : decode b_M_timesSmall 46 = .ok (.imul, 1) := by decide +kernel
theorem d_M_timesSmall_47 : decode b_M_timesSmall 47 = .ok (.iload 6, 2) := by decide +kernel
theorem d_M_timesSmall_49 : decode b_M_timesSmall 49 = .ok (.iadd, 1) := by decide +kernel
theorem d_M_timesSmall_50 : decode b_M_timesSmall 50 = .ok (.lload 7, 2) := by decide +kernel
theorem d_M_timesSmall_52 : decode b_M_timesSmall 52 = .ok (.ldc2_w 34, 3) := by decide +kernel
theorem d_M_timesSmall_55 : decode b_M_timesSmall 55 = .ok (.lrem, 1) := by decide +kernel
theorem d_M_timesSmall_56 : decode b_M_timesSmall 56 = .ok (.l2i, 1) := by decide +kernel
theorem d_M_timesSmall_57 : decode b_M_timesSmall 57 = .ok (.iastore, 1) := by decide +kernel
theorem d_M_timesSmall_58 : decode b_M_timesSmall 58 = .ok (.lload 7, 2) := by decide +kernel
theorem d_M_timesSmall_60 : decode b_M_timesSmall 60 = .ok (.ldc2_w 34, 3) := by decide +kernel
theorem d_M_timesSmall_63 : decode b_M_timesSmall 63 = .ok (.ldiv, 1) := by decide +kernel
theorem d_M_timesSmall_64 : decode b_M_timesSmall 64 = .ok (.lstore 4, 2) := by decide +kernel
theorem d_M_timesSmall_66 : decode b_M_timesSmall 66 = .ok (.iinc 6 1, 3) := by decide +kernel
theorem d_M_timesSmall_69 : decode b_M_timesSmall 69 = .ok (.goto (-63), 3) := by decide +kernel
theorem d_M_timesSmall_72 : decode b_M_timesSmall 72 = .ok (.lload 4, 2) := by decide +kernel
theorem d_M_timesSmall_74 : decode b_M_timesSmall 74 = .ok (.lconst 0, 1) := by decide +kernel
theorem d_M_timesSmall_75 : decode b_M_timesSmall 75 = .ok (.lcmp, 1) := by decide +kernel
theorem d_M_timesSmall_76 : decode b_M_timesSmall 76 = .ok (.ifCond .le 33, 3) := by decide +kernel
theorem d_M_timesSmall_79 : decode b_M_timesSmall 79 = .ok (.aload_n 0, 1) := by decide +kernel
theorem d_M_timesSmall_80 : decode b_M_timesSmall 80 = .ok (.getfield 9, 3) := by decide +kernel
theorem d_M_timesSmall_83 : decode b_M_timesSmall 83 = .ok (.sipush 460, 3) := by decide +kernel
theorem d_M_timesSmall_86 : decode b_M_timesSmall 86 = .ok (.iload_n 1, 1) := by decide +kernel
theorem d_M_timesSmall_87 : decode b_M_timesSmall 87 = .ok (.imul, 1) := by decide +kernel
theorem d_M_timesSmall_88 : decode b_M_timesSmall 88 = .ok (.aload_n 0, 1) := by decide +kernel
theorem d_M_timesSmall_89 : decode b_M_timesSmall 89 = .ok (.getfield 13, 3) := by decide +kernel
theorem d_M_timesSmall_92 : decode b_M_timesSmall 92 = .ok (.iload_n 1, 1) := by decide +kernel
theorem d_M_timesSmall_93 : decode b_M_timesSmall 93 = .ok (.iaload, 1) := by decide +kernel
theorem d_M_timesSmall_94 : decode b_M_timesSmall 94 = .ok (.iadd, 1) := by decide +kernel
theorem d_M_timesSmall_95 : decode b_M_timesSmall 95 = .ok (.lload 4, 2) := by decide +kernel
theorem d_M_timesSmall_97 : decode b_M_timesSmall 97 = .ok (.l2i, 1) := by decide +kernel
theorem d_M_timesSmall_98 : decode b_M_timesSmall 98 = .ok (.iastore, 1) := by decide +kernel
theorem d_M_timesSmall_99 : decode b_M_timesSmall 99 = .ok (.aload_n 0, 1) := by decide +kernel
theorem d_M_timesSmall_100 : decode b_M_timesSmall 100 = .ok (.getfield 13, 3) := by decide +kernel
theorem d_M_timesSmall_103 : decode b_M_timesSmall 103 = .ok (.iload_n 1, 1) := by decide +kernel
theorem d_M_timesSmall_104 : decode b_M_timesSmall 104 = .ok (.dup2, 1) := by decide +kernel
theorem d_M_timesSmall_105 : decode b_M_timesSmall 105 = .ok (.iaload, 1) := by decide +kernel
theorem d_M_timesSmall_106 : decode b_M_timesSmall 106 = .ok (.iconst 1, 1) := by decide +kernel
theorem d_M_timesSmall_107 : decode b_M_timesSmall 107 = .ok (.iadd, 1) := by decide +kernel
theorem d_M_timesSmall_108 : decode b_M_timesSmall 108 = .ok (.iastore, 1) := by decide +kernel
theorem d_M_timesSmall_109 : decode b_M_timesSmall 109 = .ok (.return_, 1) := by decide +kernel
theorem d_M_bySmall_0 : decode b_M_bySmall 0 = .ok (.lconst 0, 1) := by decide +kernel
theorem d_M_bySmall_1 : decode b_M_bySmall 1 = .ok (.lstore_n 3, 1) := by decide +kernel
theorem d_M_bySmall_2 : decode b_M_bySmall 2 = .ok (.aload_n 0, 1) := by decide +kernel
theorem d_M_bySmall_3 : decode b_M_bySmall 3 = .ok (.getfield 13, 3) := by decide +kernel
theorem d_M_bySmall_6 : decode b_M_bySmall 6 = .ok (.iload_n 1, 1) := by decide +kernel
theorem d_M_bySmall_7 : decode b_M_bySmall 7 = .ok (.iaload, 1) := by decide +kernel
theorem d_M_bySmall_8 : decode b_M_bySmall 8 = .ok (.iconst 1, 1) := by decide +kernel
theorem d_M_bySmall_9 : decode b_M_bySmall 9 = .ok (.isub, 1) := by decide +kernel
theorem d_M_bySmall_10 : decode b_M_bySmall 10 = .ok (.istore 5, 2) := by decide +kernel
theorem d_M_bySmall_12 : decode b_M_bySmall 12 = .ok (.iload 5, 2) := by decide +kernel
theorem d_M_bySmall_14 : decode b_M_bySmall 14 = .ok (.ifCond .lt 56, 3) := by decide +kernel
theorem d_M_bySmall_17 : decode b_M_bySmall 17 = .ok (.lload_n 3, 1) := by decide +kernel
theorem d_M_bySmall_18 : decode b_M_bySmall 18 = .ok (.ldc2_w 34, 3) := by decide +kernel
theorem d_M_bySmall_21 : decode b_M_bySmall 21 = .ok (.lmul, 1) := by decide +kernel
theorem d_M_bySmall_22 : decode b_M_bySmall 22 = .ok (.aload_n 0, 1) := by decide +kernel
theorem d_M_bySmall_23 : decode b_M_bySmall 23 = .ok (.getfield 9, 3) := by decide +kernel
theorem d_M_bySmall_26 : decode b_M_bySmall 26 = .ok (.sipush 460, 3) := by decide +kernel
theorem d_M_bySmall_29 : decode b_M_bySmall 29 = .ok (.iload_n 1, 1) := by decide +kernel
theorem d_M_bySmall_30 : decode b_M_bySmall 30 = .ok (.imul, 1) := by decide +kernel
theorem d_M_bySmall_31 : decode b_M_bySmall 31 = .ok (.iload 5, 2) := by decide +kernel
theorem d_M_bySmall_33 : decode b_M_bySmall 33 = .ok (.iadd, 1) := by decide +kernel
theorem d_M_bySmall_34 : decode b_M_bySmall 34 = .ok (.iaload, 1) := by decide +kernel
theorem d_M_bySmall_35 : decode b_M_bySmall 35 = .ok (.i2l, 1) := by decide +kernel
theorem d_M_bySmall_36 : decode b_M_bySmall 36 = .ok (.ladd, 1) := by decide +kernel
theorem d_M_bySmall_37 : decode b_M_bySmall 37 = .ok (.lstore 6, 2) := by decide +kernel
theorem d_M_bySmall_39 : decode b_M_bySmall 39 = .ok (.aload_n 0, 1) := by decide +kernel
theorem d_M_bySmall_40 : decode b_M_bySmall 40 = .ok (.getfield 9, 3) := by decide +kernel
theorem d_M_bySmall_43 : decode b_M_bySmall 43 = .ok (.sipush 460, 3) := by decide +kernel
theorem d_M_bySmall_46 : decode b_M_bySmall 46 = .ok (.iload_n 1, 1) := by decide +kernel
theorem d_M_bySmall_47 : decode b_M_bySmall 47 = .ok (.imul, 1) := by decide +kernel
theorem d_M_bySmall_48 : decode b_M_bySmall 48 = .ok (.iload 5, 2) := by decide +kernel
theorem d_M_bySmall_50 : decode b_M_bySmall 50 = .ok (.iadd, 1) := by decide +kernel
theorem d_M_bySmall_51 : decode b_M_bySmall 51 = .ok (.lload 6, 2) := by decide +kernel
theorem d_M_bySmall_53 : decode b_M_bySmall 53 = .ok (.iload_n 2, 1) := by decide +kernel
theorem d_M_bySmall_54 : decode b_M_bySmall 54 = .ok (.i2l, 1) := by decide +kernel
theorem d_M_bySmall_55 : decode b_M_bySmall 55 = .ok (.ldiv, 1) := by decide +kernel
theorem d_M_bySmall_56 : decode b_M_bySmall 56 = .ok (.l2i, 1) := by decide +kernel
theorem d_M_bySmall_57 : decode b_M_bySmall 57 = .ok (.iastore, 1) := by decide +kernel
theorem d_M_bySmall_58 : decode b_M_bySmall 58 = .ok (.lload 6, 2) := by decide +kernel
theorem d_M_bySmall_60 : decode b_M_bySmall 60 = .ok (.iload_n 2, 1) := by decide +kernel
theorem d_M_bySmall_61 : decode b_M_bySmall 61 = .ok (.i2l, 1) := by decide +kernel
theorem d_M_bySmall_62 : decode b_M_bySmall 62 = .ok (.lrem, 1) := by decide +kernel
theorem d_M_bySmall_63 : decode b_M_bySmall 63 = .ok (.lstore_n 3, 1) := by decide +kernel
theorem d_M_bySmall_64 : decode b_M_bySmall 64 = .ok (.iinc 5 (-1), 3) := by decide +kernel
theorem d_M_bySmall_67 : decode b_M_bySmall 67 = .ok (.goto (-55), 3) := by decide +kernel
theorem d_M_bySmall_70 : decode b_M_bySmall 70 = .ok (.aload_n 0, 1) := by decide +kernel
theorem d_M_bySmall_71 : decode b_M_bySmall 71 = .ok (.iload_n 1, 1) := by decide +kernel
theorem d_M_bySmall_72 : decode b_M_bySmall 72 = .ok (.aload_n 0, 1) := by decide +kernel
theorem d_M_bySmall_73 : decode b_M_bySmall 73 = .ok (.getfield 13, 3) := by decide +kernel
theorem d_M_bySmall_76 : decode b_M_bySmall 76 = .ok (.iload_n 1, 1) := by decide +kernel
theorem d_M_bySmall_77 : decode b_M_bySmall 77 = .ok (.iaload, 1) := by decide +kernel
theorem d_M_bySmall_78 : decode b_M_bySmall 78 = .ok (.invokevirtual 53, 3) := by decide +kernel
theorem d_M_bySmall_81 : decode b_M_bySmall 81 = .ok (.return_, 1) := by decide +kernel
theorem d_M_divide_0 : decode b_M_divide 0 = .ok (.iload_n 1, 1) := by decide +kernel
theorem d_M_divide_1 : decode b_M_divide 1 = .ok (.ifCond .lt 17, 3) := by decide +kernel
theorem d_M_divide_4 : decode b_M_divide 4 = .ok (.aload_n 0, 1) := by decide +kernel
theorem d_M_divide_5 : decode b_M_divide 5 = .ok (.getfield 13, 3) := by decide +kernel
theorem d_M_divide_8 : decode b_M_divide 8 = .ok (.iload_n 1, 1) := by decide +kernel
theorem d_M_divide_9 : decode b_M_divide 9 = .ok (.iconst 0, 1) := by decide +kernel
theorem d_M_divide_10 : decode b_M_divide 10 = .ok (.iastore, 1) := by decide +kernel
theorem d_M_divide_11 : decode b_M_divide 11 = .ok (.aload_n 0, 1) := by decide +kernel
theorem d_M_divide_12 : decode b_M_divide 12 = .ok (.getfield 16, 3) := by decide +kernel
theorem d_M_divide_15 : decode b_M_divide 15 = .ok (.iload_n 1, 1) := by decide +kernel
theorem d_M_divide_16 : decode b_M_divide 16 = .ok (.iconst 0, 1) := by decide +kernel
theorem d_M_divide_17 : decode b_M_divide 17 = .ok (.iastore, 1) := by decide +kernel
theorem d_M_divide_18 : decode b_M_divide 18 = .ok (.aload_n 0, 1) := by decide +kernel
theorem d_M_divide_19 : decode b_M_divide 19 = .ok (.iload_n 2, 1) := by decide +kernel
theorem d_M_divide_20 : decode b_M_divide 20 = .ok (.iload_n 3, 1) := by decide +kernel
theorem d_M_divide_21 : decode b_M_divide 21 = .ok (.invokevirtual 36, 3) := by decide +kernel
theorem d_M_divide_24 : decode b_M_divide 24 = .ok (.ifCond .ge 4, 3) := by decide +kernel
theorem d_M_divide_27 : decode b_M_divide 27 = .ok (.return_, 1) := by decide +kernel
theorem d_M_divide_28 : decode b_M_divide 28 = .ok (.ldc 52, 2) := by decide +kernel
theorem d_M_divide_30 : decode b_M_divide 30 = .ok (.aload_n 0, 1) := by decide +kernel
theorem d_M_divide_31 : decode b_M_divide 31 = .ok (.getfield 9, 3) := by decide +kernel
theorem d_M_divide_34 : decode b_M_divide 34 = .ok (.sipush 460, 3) := by decide +kernel
end
section
theorem d_M_divide_37 : decode b_M_divide 37 = .ok (.iload_n 3, 1) := by decide +kernel
theorem d_M_divide_38 : decode b_M_divide 38 = .ok (.imul, 1) := by decide +kernel
theorem d_M_divide_39 : decode b_M_divide 39 = .ok (.aload_n 0, 1) := by decide +kernel
theorem d_M_divide_40 : decode b_M_divide 40 = .ok (.getfield 13, 3) := by decide +kernel
theorem d_M_divide_43 : decode b_M_divide 43 = .ok (.iload_n 3, 1) := by decide +kernel
theorem d_M_divide_44 : decode b_M_divide 44 = .ok (.iaload, 1) := by decide +kernel
theorem d_M_divide_45 : decode b_M_divide 45 = .ok (.iadd, 1) := by decide +kernel
theorem d_M_divide_46 : decode b_M_divide 46 = .ok (.iconst 1, 1) := by decide +kernel
theorem d_M_divide_47 : decode b_M_divide 47 = .ok (.isub, 1) := by decide +kernel
theorem d_M_divide_48 : decode b_M_divide 48 = .ok (.iaload, 1) := by decide +kernel
theorem d_M_divide_49 : decode b_M_divide 49 = .ok (.iconst 1, 1) := by decide +kernel
theorem d_M_divide_50 : decode b_M_divide 50 = .ok (.iadd, 1) := by decide +kernel
theorem d_M_divide_51 : decode b_M_divide 51 = .ok (.idiv, 1) := by decide +kernel
theorem d_M_divide_52 : decode b_M_divide 52 = .ok (.istore 4, 2) := by decide +kernel
theorem d_M_divide_54 : decode b_M_divide 54 = .ok (.aload_n 0, 1) := by decide +kernel
theorem d_M_divide_55 : decode b_M_divide 55 = .ok (.iload_n 2, 1) := by decide +kernel
theorem d_M_divide_56 : decode b_M_divide 56 = .ok (.iload 4, 2) := by decide +kernel
theorem d_M_divide_58 : decode b_M_divide 58 = .ok (.i2l, 1) := by decide +kernel
theorem d_M_divide_59 : decode b_M_divide 59 = .ok (.invokevirtual 56, 3) := by decide +kernel
theorem d_M_divide_62 : decode b_M_divide 62 = .ok (.aload_n 0, 1) := by decide +kernel
theorem d_M_divide_63 : decode b_M_divide 63 = .ok (.iload_n 3, 1) := by decide +kernel
theorem d_M_divide_64 : decode b_M_divide 64 = .ok (.iload 4, 2) := by decide +kernel
theorem d_M_divide_66 : decode b_M_divide 66 = .ok (.i2l, 1) := by decide +kernel
theorem d_M_divide_67 : decode b_M_divide 67 = .ok (.invokevirtual 56, 3) := by decide +kernel
theorem d_M_divide_70 : decode b_M_divide 70 = .ok (.aload_n 0, 1) := by decide +kernel
theorem d_M_divide_71 : decode b_M_divide 71 = .ok (.getfield 13, 3) := by decide +kernel
theorem d_M_divide_74 : decode b_M_divide 74 = .ok (.iload_n 3, 1) := by decide +kernel
theorem d_M_divide_75 : decode b_M_divide 75 = .ok (.iaload, 1) := by decide +kernel
theorem d_M_divide_76 : decode b_M_divide 76 = .ok (.istore 5, 2) := by decide +kernel
theorem d_M_divide_78 : decode b_M_divide 78 = .ok (.aload_n 0, 1) := by decide +kernel
theorem d_M_divide_79 : decode b_M_divide 79 = .ok (.getfield 13, 3) := by decide +kernel
theorem d_M_divide_82 : decode b_M_divide 82 = .ok (.iload_n 2, 1) := by decide +kernel
theorem d_M_divide_83 : decode b_M_divide 83 = .ok (.iaload, 1) := by decide +kernel
theorem d_M_divide_84 : decode b_M_divide 84 = .ok (.istore 6, 2) := by decide +kernel
theorem d_M_divide_86 : decode b_M_divide 86 = .ok (.aload_n 0, 1) := by decide +kernel
theorem d_M_divide_87 : decode b_M_divide 87 = .ok (.getfield 9, 3) := by decide +kernel
theorem d_M_divide_90 : decode b_M_divide 90 = .ok (.sipush 460, 3) := by decide +kernel
theorem d_M_divide_93 : decode b_M_divide 93 = .ok (.iload_n 2, 1) := by decide +kernel
theorem d_M_divide_94 : decode b_M_divide 94 = .ok (.imul, 1) := by decide +kernel
theorem d_M_divide_95 : decode b_M_divide 95 = .ok (.iload 6, 2) := by decide +kernel
theorem d_M_divide_97 : decode b_M_divide 97 = .ok (.iadd, 1) := by decide +kernel
theorem d_M_divide_98 : decode b_M_divide 98 = .ok (.iconst 0, 1) := by decide +kernel
theorem d_M_divide_99 : decode b_M_divide 99 = .ok (.iastore, 1) := by decide +kernel
theorem d_M_divide_100 : decode b_M_divide 100 = .ok (.aload_n 0, 1) := by decide +kernel
theorem d_M_divide_101 : decode b_M_divide 101 = .ok (.getfield 16, 3) := by decide +kernel
theorem d_M_divide_104 : decode b_M_divide 104 = .ok (.iload_n 2, 1) := by decide +kernel
theorem d_M_divide_105 : decode b_M_divide 105 = .ok (.iaload, 1) := by decide +kernel
theorem d_M_divide_106 : decode b_M_divide 106 = .ok (.istore 7, 2) := by decide +kernel
theorem d_M_divide_108 : decode b_M_divide 108 = .ok (.iload 6, 2) := by decide +kernel
theorem d_M_divide_110 : decode b_M_divide 110 = .ok (.iload 5, 2) := by decide +kernel
theorem d_M_divide_112 : decode b_M_divide 112 = .ok (.isub, 1) := by decide +kernel
theorem d_M_divide_113 : decode b_M_divide 113 = .ok (.istore 8, 2) := by decide +kernel
theorem d_M_divide_115 : decode b_M_divide 115 = .ok (.iload 8, 2) := by decide +kernel
theorem d_M_divide_117 : decode b_M_divide 117 = .ok (.ifCond .lt 40, 3) := by decide +kernel
theorem d_M_divide_120 : decode b_M_divide 120 = .ok (.aload_n 0, 1) := by decide +kernel
theorem d_M_divide_121 : decode b_M_divide 121 = .ok (.iload_n 2, 1) := by decide +kernel
theorem d_M_divide_122 : decode b_M_divide 122 = .ok (.iload_n 3, 1) := by decide +kernel
theorem d_M_divide_123 : decode b_M_divide 123 = .ok (.iload 8, 2) := by decide +kernel
theorem d_M_divide_125 : decode b_M_divide 125 = .ok (.iload 5, 2) := by decide +kernel
theorem d_M_divide_127 : decode b_M_divide 127 = .ok (.invokevirtual 59, 3) := by decide +kernel
theorem d_M_divide_130 : decode b_M_divide 130 = .ok (.istore 9, 2) := by decide +kernel
theorem d_M_divide_132 : decode b_M_divide 132 = .ok (.iload_n 1, 1) := by decide +kernel
theorem d_M_divide_133 : decode b_M_divide 133 = .ok (.ifCond .lt 18, 3) := by decide +kernel
theorem d_M_divide_136 : decode b_M_divide 136 = .ok (.aload_n 0, 1) := by decide +kernel
theorem d_M_divide_137 : decode b_M_divide 137 = .ok (.getfield 9, 3) := by decide +kernel
theorem d_M_divide_140 : decode b_M_divide 140 = .ok (.sipush 460, 3) := by decide +kernel
theorem d_M_divide_143 : decode b_M_divide 143 = .ok (.iload_n 1, 1) := by decide +kernel
theorem d_M_divide_144 : decode b_M_divide 144 = .ok (.imul, 1) := by decide +kernel
theorem d_M_divide_145 : decode b_M_divide 145 = .ok (.iload 8, 2) := by decide +kernel
theorem d_M_divide_147 : decode b_M_divide 147 = .ok (.iadd, 1) := by decide +kernel
theorem d_M_divide_148 : decode b_M_divide 148 = .ok (.iload 9, 2) := by decide +kernel
theorem d_M_divide_150 : decode b_M_divide 150 = .ok (.iastore, 1) := by decide +kernel
theorem d_M_divide_151 : decode b_M_divide 151 = .ok (.iinc 8 (-1), 3) := by decide +kernel
theorem d_M_divide_154 : decode b_M_divide 154 = .ok (.goto (-39), 3) := by decide +kernel
theorem d_M_divide_157 : decode b_M_divide 157 = .ok (.iload_n 1, 1) := by decide +kernel
theorem d_M_divide_158 : decode b_M_divide 158 = .ok (.ifCond .lt 22, 3) := by decide +kernel
theorem d_M_divide_161 : decode b_M_divide 161 = .ok (.aload_n 0, 1) := by decide +kernel
theorem d_M_divide_162 : decode b_M_divide 162 = .ok (.getfield 16, 3) := by decide +kernel
theorem d_M_divide_165 : decode b_M_divide 165 = .ok (.iload_n 1, 1) := by decide +kernel
theorem d_M_divide_166 : decode b_M_divide 166 = .ok (.iconst 1, 1) := by decide +kernel
theorem d_M_divide_167 : decode b_M_divide 167 = .ok (.iastore, 1) := by decide +kernel
theorem d_M_divide_168 : decode b_M_divide 168 = .ok (.aload_n 0, 1) := by decide +kernel
theorem d_M_divide_169 : decode b_M_divide 169 = .ok (.iload_n 1, 1) := by decide +kernel
theorem d_M_divide_170 : decode b_M_divide 170 = .ok (.iload 6, 2) := by decide +kernel
theorem d_M_divide_172 : decode b_M_divide 172 = .ok (.iload 5, 2) := by decide +kernel
theorem d_M_divide_174 : decode b_M_divide 174 = .ok (.isub, 1) := by decide +kernel
theorem d_M_divide_175 : decode b_M_divide 175 = .ok (.iconst 1, 1) := by decide +kernel
theorem d_M_divide_176 : decode b_M_divide 176 = .ok (.iadd, 1) := by decide +kernel
theorem d_M_divide_177 : decode b_M_divide 177 = .ok (.invokevirtual 53, 3) := by decide +kernel
theorem d_M_divide_180 : decode b_M_divide 180 = .ok (.aload_n 0, 1) := by decide +kernel
theorem d_M_divide_181 : decode b_M_divide 181 = .ok (.getfield 16, 3) := by decide +kernel
theorem d_M_divide_184 : decode b_M_divide 184 = .ok (.iload_n 2, 1) := by decide +kernel
theorem d_M_divide_185 : decode b_M_divide 185 = .ok (.iload 7, 2) := by decide +kernel
theorem d_M_divide_187 : decode b_M_divide 187 = .ok (.iastore, 1) := by decide +kernel
theorem d_M_divide_188 : decode b_M_divide 188 = .ok (.aload_n 0, 1) := by decide +kernel
theorem d_M_divide_189 : decode b_M_divide 189 = .ok (.iload_n 2, 1) := by decide +kernel
theorem d_M_divide_190 : decode b_M_divide 190 = .ok (.iload 5, 2) := by decide +kernel
theorem d_M_divide_192 : decode b_M_divide 192 = .ok (.invokevirtual 53, 3) := by decide +kernel
theorem d_M_divide_195 : decode b_M_divide 195 = .ok (.aload_n 0, 1) := by decide +kernel
theorem d_M_divide_196 : decode b_M_divide 196 = .ok (.iload_n 2, 1) := by decide +kernel
theorem d_M_divide_197 : decode b_M_divide 197 = .ok (.iload 4, 2) := by decide +kernel
theorem d_M_divide_199 : decode b_M_divide 199 = .ok (.invokevirtual 63, 3) := by decide +kernel
theorem d_M_divide_202 : decode b_M_divide 202 = .ok (.aload_n 0, 1) := by decide +kernel
theorem d_M_divide_203 : decode b_M_divide 203 = .ok (.iload_n 3, 1) := by decide +kernel
theorem d_M_divide_204 : decode b_M_divide 204 = .ok (.iload 4, 2) := by decide +kernel
theorem d_M_divide_206 : decode b_M_divide 206 = .ok (.invokevirtual 63, 3) := by decide +kernel
theorem d_M_divide_209 : decode b_M_divide 209 = .ok (.return_, 1) := by decide +kernel
theorem d_M_place_0 : decode b_M_place 0 = .ok (.sipush 460, 3) := by decide +kernel
theorem d_M_place_3 : decode b_M_place 3 = .ok (.iload_n 1, 1) := by decide +kernel
theorem d_M_place_4 : decode b_M_place 4 = .ok (.imul, 1) := by decide +kernel
theorem d_M_place_5 : decode b_M_place 5 = .ok (.iload_n 3, 1) := by decide +kernel
theorem d_M_place_6 : decode b_M_place 6 = .ok (.iadd, 1) := by decide +kernel
theorem d_M_place_7 : decode b_M_place 7 = .ok (.istore 5, 2) := by decide +kernel
theorem d_M_place_9 : decode b_M_place 9 = .ok (.sipush 460, 3) := by decide +kernel
theorem d_M_place_12 : decode b_M_place 12 = .ok (.iload_n 2, 1) := by decide +kernel
theorem d_M_place_13 : decode b_M_place 13 = .ok (.imul, 1) := by decide +kernel
theorem d_M_place_14 : decode b_M_place 14 = .ok (.istore 6, 2) := by decide +kernel
theorem d_M_place_16 : decode b_M_place 16 = .ok (.aload_n 0, 1) := by decide +kernel
theorem d_M_place_17 : decode b_M_place 17 = .ok (.getfield 9, 3) := by decide +kernel
theorem d_M_place_20 : decode b_M_place 20 = .ok (.iload 5, 2) := by decide +kernel
theorem d_M_place_22 : decode b_M_place 22 = .ok (.iload 4, 2) := by decide +kernel
theorem d_M_place_24 : decode b_M_place 24 = .ok (.iadd, 1) := by decide +kernel
theorem d_M_place_25 : decode b_M_place 25 = .ok (.iaload, 1) := by decide +kernel
theorem d_M_place_26 : decode b_M_place 26 = .ok (.i2l, 1) := by decide +kernel
theorem d_M_place_27 : decode b_M_place 27 = .ok (.ldc2_w 34, 3) := by decide +kernel
theorem d_M_place_30 : decode b_M_place 30 = .ok (.lmul, 1) := by decide +kernel
theorem d_M_place_31 : decode b_M_place 31 = .ok (.aload_n 0, 1) := by decide +kernel
theorem d_M_place_32 : decode b_M_place 32 = .ok (.getfield 9, 3) := by decide +kernel
theorem d_M_place_35 : decode b_M_place 35 = .ok (.iload 5, 2) := by decide +kernel
theorem d_M_place_37 : decode b_M_place 37 = .ok (.iload 4, 2) := by decide +kernel
theorem d_M_place_39 : decode b_M_place 39 = .ok (.iadd, 1) := by decide +kernel
theorem d_M_place_40 : decode b_M_place 40 = .ok (.iconst 1, 1) := by decide +kernel
theorem d_M_place_41 : decode b_M_place 41 = .ok (.isub, 1) := by decide +kernel
theorem d_M_place_42 : decode b_M_place 42 = .ok (.iaload, 1) := by decide +kernel
theorem d_M_place_43 : decode b_M_place 43 = .ok (.i2l, 1) := by decide +kernel
theorem d_M_place_44 : decode b_M_place 44 = .ok (.ladd, 1) := by decide +kernel
theorem d_M_place_45 : decode b_M_place 45 = .ok (.lstore 7, 2) := by decide +kernel
theorem d_M_place_47 : decode b_M_place 47 = .ok (.aload_n 0, 1) := by decide +kernel
theorem d_M_place_48 : decode b_M_place 48 = .ok (.getfield 9, 3) := by decide +kernel
theorem d_M_place_51 : decode b_M_place 51 = .ok (.iload 6, 2) := by decide +kernel
theorem d_M_place_53 : decode b_M_place 53 = .ok (.iload 4, 2) := by decide +kernel
theorem d_M_place_55 : decode b_M_place 55 = .ok (.iadd, 1) := by decide +kernel
theorem d_M_place_56 : decode b_M_place 56 = .ok (.iconst 1, 1) := by decide +kernel
theorem d_M_place_57 : decode b_M_place 57 = .ok (.isub, 1) := by decide +kernel
theorem d_M_place_58 : decode b_M_place 58 = .ok (.iaload, 1) := by decide +kernel
theorem d_M_place_59 : decode b_M_place 59 = .ok (.i2l, 1) := by decide +kernel
theorem d_M_place_60 : decode b_M_place 60 = .ok (.lstore 9, 2) := by decide +kernel
theorem d_M_place_62 : decode b_M_place 62 = .ok (.lload 7, 2) := by decide +kernel
theorem d_M_place_64 : decode b_M_place 64 = .ok (.lload 9, 2) := by decide +kernel
theorem d_M_place_66 : decode b_M_place 66 = .ok (.ldiv, 1) := by decide +kernel
theorem d_M_place_67 : decode b_M_place 67 = .ok (.lstore 11, 2) := by decide +kernel
theorem d_M_place_69 : decode b_M_place 69 = .ok (.lload 7, 2) := by decide +kernel
theorem d_M_place_71 : decode b_M_place 71 = .ok (.lload 9, 2) := by decide +kernel
theorem d_M_place_73 : decode b_M_place 73 = .ok (.lrem, 1) := by decide +kernel
theorem d_M_place_74 : decode b_M_place 74 = .ok (.lstore 13, 2) := by decide +kernel
theorem d_M_place_76 : decode b_M_place 76 = .ok (.iload 4, 2) := by decide +kernel
theorem d_M_place_78 : decode b_M_place 78 = .ok (.iconst 1, 1) := by decide +kernel
theorem d_M_place_79 : decode b_M_place 79 = .ok (.if_icmp .le 19, 3) := by decide +kernel
theorem d_M_place_82 : decode b_M_place 82 = .ok (.aload_n 0, 1) := by decide +kernel
theorem d_M_place_83 : decode b_M_place 83 = .ok (.getfield 9, 3) := by decide +kernel
theorem d_M_place_86 : decode b_M_place 86 = .ok (.iload 6, 2) := by decide +kernel
theorem d_M_place_88 : decode b_M_place 88 = .ok (.iload 4, 2) := by decide +kernel
theorem d_M_place_90 : decode b_M_place 90 = .ok (.iadd, 1) := by decide +kernel
theorem d_M_place_91 : decode b_M_place 91 = .ok (.iconst 2, 1) := by decide +kernel
theorem d_M_place_92 : decode b_M_place 92 = .ok (.isub, 1) := by decide +kernel
theorem d_M_place_93 : decode b_M_place 93 = .ok (.iaload, 1) := by decide +kernel
theorem d_M_place_94 : decode b_M_place 94 = .ok (.i2l, 1) := by decide +kernel
theorem d_M_place_95 : decode b_M_place 95 = .ok (.goto 4, 3) := by decide +kernel
theorem d_M_place_98 : decode b_M_place 98 = .ok (.lconst 0, 1) := by decide +kernel
theorem d_M_place_99 : decode b_M_place 99 = .ok (.lstore 15, 2) := by decide +kernel
theorem d_M_place_101 : decode b_M_place 101 = .ok (.iload 4, 2) := by decide +kernel
theorem d_M_place_103 : decode b_M_place 103 = .ok (.iconst 1, 1) := by decide +kernel
theorem d_M_place_104 : decode b_M_place 104 = .ok (.if_icmp .le 19, 3) := by decide +kernel
theorem d_M_place_107 : decode b_M_place 107 = .ok (.aload_n 0, 1) := by decide +kernel
theorem d_M_place_108 : decode b_M_place 108 = .ok (.getfield 9, 3) := by decide +kernel
theorem d_M_place_111 : decode b_M_place 111 = .ok (.iload 5, 2) := by decide +kernel
theorem d_M_place_113 : decode b_M_place 113 = .ok (.iload 4, 2) := by decide +kernel
theorem d_M_place_115 : decode b_M_place 115 = .ok (.iadd, 1) := by decide +kernel
theorem d_M_place_116 : decode b_M_place 116 = .ok (.iconst 2, 1) := by decide +kernel
theorem d_M_place_117 : decode b_M_place 117 = .ok (.isub, 1) := by decide +kernel
theorem d_M_place_118 : decode b_M_place 118 = .ok (.iaload, 1) := by decide +kernel
theorem d_M_place_119 : decode b_M_place 119 = .ok (.i2l, 1) := by decide +kernel
theorem d_M_place_120 : decode b_M_place 120 = .ok (.goto 4, 3) := by decide +kernel
theorem d_M_place_123 : decode b_M_place 123 = .ok (.lconst 0, 1) := by decide +kernel
theorem d_M_place_124 : decode b_M_place 124 = .ok (.lstore 17, 2) := by decide +kernel
theorem d_M_place_126 : decode b_M_place 126 = .ok (.lload 11, 2) := by decide +kernel
theorem d_M_place_128 : decode b_M_place 128 = .ok (.ldc2_w 34, 3) := by decide +kernel
theorem d_M_place_131 : decode b_M_place 131 = .ok (.lcmp, 1) := by decide +kernel
theorem d_M_place_132 : decode b_M_place 132 = .ok (.ifCond .ge 30, 3) := by decide +kernel
theorem d_M_place_135 : decode b_M_place 135 = .ok (.lload 13, 2) := by decide +kernel
theorem d_M_place_137 : decode b_M_place 137 = .ok (.ldc2_w 34, 3) := by decide +kernel
theorem d_M_place_140 : decode b_M_place 140 = .ok (.lcmp, 1) := by decide +kernel
theorem d_M_place_141 : decode b_M_place 141 = .ok (.ifCond .ge 37, 3) := by decide +kernel
theorem d_M_place_144 : decode b_M_place 144 = .ok (.lload 11, 2) := by decide +kernel
theorem d_M_place_146 : decode b_M_place 146 = .ok (.lload 15, 2) := by decide +kernel
theorem d_M_place_148 : decode b_M_place 148 = .ok (.lmul, 1) := by decide +kernel
theorem d_M_place_149 : decode b_M_place 149 = .ok (.lload 13, 2) := by decide +kernel
theorem d_M_place_151 : decode b_M_place 151 = .ok (.ldc2_w 34, 3) := by decide +kernel
theorem d_M_place_154 : decode b_M_place 154 = .ok (.lmul, 1) := by decide +kernel
theorem d_M_place_155 : decode b_M_place 155 = .ok (.lload 17, 2) := by decide +kernel
theorem d_M_place_157 : decode b_M_place 157 = .ok (.ladd, 1) := by decide +kernel
theorem d_M_place_158 : decode b_M_place 158 = .ok (.lcmp, 1) := by decide +kernel
theorem d_M_place_159 : decode b_M_place 159 = .ok (.ifCond .le 19, 3) := by decide +kernel
theorem d_M_place_162 : decode b_M_place 162 = .ok (.lload 11, 2) := by decide +kernel
theorem d_M_place_164 : decode b_M_place 164 = .ok (.lconst 1, 1) := by decide +kernel
theorem d_M_place_165 : decode b_M_place 165 = .ok (.lsub, 1) := by decide +kernel
theorem d_M_place_166 : decode b_M_place 166 = .ok (.lstore 11, 2) := by decide +kernel
theorem d_M_place_168 : decode b_M_place 168 = .ok (.lload 13, 2) := by decide +kernel
theorem d_M_place_170 : decode b_M_place 170 = .ok (.lload 9, 2) := by decide +kernel
theorem d_M_place_172 : decode b_M_place 172 = .ok (.ladd, 1) := by decide +kernel
theorem d_M_place_173 : decode b_M_place 173 = .ok (.lstore 13, 2) := by decide +kernel
theorem d_M_place_175 : decode b_M_place 175 = .ok (.goto (-49), 3) := by decide +kernel
theorem d_M_place_178 : decode b_M_place 178 = .ok (.lconst 0, 1) := by decide +kernel
theorem d_M_place_179 : decode b_M_place 179 = .ok (.lstore 19, 2) := by decide +kernel
theorem d_M_place_181 : decode b_M_place 181 = .ok (.iconst 0, 1) := by decide +kernel
theorem d_M_place_182 : decode b_M_place 182 = .ok (.istore 21, 2) := by decide +kernel
theorem d_M_place_184 : decode b_M_place 184 = .ok (.iload 21, 2) := by decide +kernel
theorem d_M_place_186 : decode b_M_place 186 = .ok (.iload 4, 2) := by decide +kernel
theorem d_M_place_188 : decode b_M_place 188 = .ok (.if_icmp .ge 92, 3) := by decide +kernel
theorem d_M_place_191 : decode b_M_place 191 = .ok (.aload_n 0, 1) := by decide +kernel
theorem d_M_place_192 : decode b_M_place 192 = .ok (.getfield 9, 3) := by decide +kernel
theorem d_M_place_195 : decode b_M_place 195 = .ok (.iload 5, 2) := by decide +kernel
theorem d_M_place_197 : decode b_M_place 197 = .ok (.iload 21, 2) := by decide +kernel
theorem d_M_place_199 : decode b_M_place 199 = .ok (.iadd, 1) := by decide +kernel
theorem d_M_place_200 : decode b_M_place 200 = .ok (.iaload, 1) := by decide +kernel
theorem d_M_place_201 : decode b_M_place 201 = .ok (.i2l, 1) := by decide +kernel
theorem d_M_place_202 : decode b_M_place 202 = .ok (.lload 11, 2) := by decide +kernel
theorem d_M_place_204 : decode b_M_place 204 = .ok (.aload_n 0, 1) := by decide +kernel
theorem d_M_place_205 : decode b_M_place 205 = .ok (.getfield 9, 3) := by decide +kernel
theorem d_M_place_208 : decode b_M_place 208 = .ok (.iload 6, 2) := by decide +kernel
theorem d_M_place_210 : decode b_M_place 210 = .ok (.iload 21, 2) := by decide +kernel
theorem d_M_place_212 : decode b_M_place 212 = .ok (.iadd, 1) := by decide +kernel
theorem d_M_place_213 : decode b_M_place 213 = .ok (.iaload, 1) := by decide +kernel
theorem d_M_place_214 : decode b_M_place 214 = .ok (.i2l, 1) := by decide +kernel
theorem d_M_place_215 : decode b_M_place 215 = .ok (.lmul, 1) := by decide +kernel
theorem d_M_place_216 : decode b_M_place 216 = .ok (.lsub, 1) := by decide +kernel
theorem d_M_place_217 : decode b_M_place 217 = .ok (.lload 19, 2) := by decide +kernel
theorem d_M_place_219 : decode b_M_place 219 = .ok (.ladd, 1) := by decide +kernel
theorem d_M_place_220 : decode b_M_place 220 = .ok (.lstore 22, 2) := by decide +kernel
theorem d_M_place_222 : decode b_M_place 222 = .ok (.lload 22, 2) := by decide +kernel
theorem d_M_place_224 : decode b_M_place 224 = .ok (.ldc2_w 34, 3) := by decide +kernel
theorem d_M_place_227 : decode b_M_place 227 = .ok (.lrem, 1) := by decide +kernel
theorem d_M_place_228 : decode b_M_place 228 = .ok (.lstore 24, 2) := by decide +kernel
theorem d_M_place_230 : decode b_M_place 230 = .ok (.lload 24, 2) := by decide +kernel
theorem d_M_place_232 : decode b_M_place 232 = .ok (.lconst 0, 1) := by decide +kernel
theorem d_M_place_233 : decode b_M_place 233 = .ok (.lcmp, 1) := by decide +kernel
theorem d_M_place_234 : decode b_M_place 234 = .ok (.ifCond .ge 12, 3) := by decide +kernel
theorem d_M_place_237 : decode b_M_place 237 = .ok (.lload 24, 2) := by decide +kernel
theorem d_M_place_239 : decode b_M_place 239 = .ok (.ldc2_w 34, 3) := by decide +kernel
theorem d_M_place_242 : decode b_M_place 242 = .ok (.ladd, 1) := by decide +kernel
theorem d_M_place_243 : decode b_M_place 243 = .ok (.goto 5, 3) := by decide +kernel
theorem d_M_place_246 : decode b_M_place 246 = .ok (.lload 24, 2) := by decide +kernel
theorem d_M_place_248 : decode b_M_place 248 = .ok (.lstore 24, 2) := by decide +kernel
theorem d_M_place_250 : decode b_M_place 250 = .ok (.aload_n 0, 1) := by decide +kernel
theorem d_M_place_251 : decode b_M_place 251 = .ok (.getfield 9, 3) := by decide +kernel
theorem d_M_place_254 : decode b_M_place 254 = .ok (.iload 5, 2) := by decide +kernel
theorem d_M_place_256 : decode b_M_place 256 = .ok (.iload 21, 2) := by decide +kernel
theorem d_M_place_258 : decode b_M_place 258 = .ok (.iadd, 1) := by decide +kernel
theorem d_M_place_259 : decode b_M_place 259 = .ok (.lload 24, 2) := by decide +kernel
theorem d_M_place_261 : decode b_M_place 261 = .ok (.l2i, 1) := by decide +kernel
theorem d_M_place_262 : decode b_M_place 262 = .ok (.iastore, 1) := by decide +kernel
theorem d_M_place_263 : decode b_M_place 263 = .ok (.lload 22, 2) := by decide +kernel
theorem d_M_place_265 : decode b_M_place 265 = .ok (.lload 24, 2) := by decide +kernel
theorem d_M_place_267 : decode b_M_place 267 = .ok (.lsub, 1) := by decide +kernel
theorem d_M_place_268 : decode b_M_place 268 = .ok (.ldc2_w 34, 3) := by decide +kernel
theorem d_M_place_271 : decode b_M_place 271 = .ok (.ldiv, 1) := by decide +kernel
theorem d_M_place_272 : decode b_M_place 272 = .ok (.lstore 19, 2) := by decide +kernel
theorem d_M_place_274 : decode b_M_place 274 = .ok (.iinc 21 1, 3) := by decide +kernel
theorem d_M_place_277 : decode b_M_place 277 = .ok (.goto (-93), 3) := by decide +kernel
theorem d_M_place_280 : decode b_M_place 280 = .ok (.aload_n 0, 1) := by decide +kernel
theorem d_M_place_281 : decode b_M_place 281 = .ok (.getfield 9, 3) := by decide +kernel
theorem d_M_place_284 : decode b_M_place 284 = .ok (.iload 5, 2) := by decide +kernel
theorem d_M_place_286 : decode b_M_place 286 = .ok (.iload 4, 2) := by decide +kernel
theorem d_M_place_288 : decode b_M_place 288 = .ok (.iadd, 1) := by decide +kernel
theorem d_M_place_289 : decode b_M_place 289 = .ok (.iaload, 1) := by decide +kernel
theorem d_M_place_290 : decode b_M_place 290 = .ok (.i2l, 1) := by decide +kernel
theorem d_M_place_291 : decode b_M_place 291 = .ok (.lload 19, 2) := by decide +kernel
theorem d_M_place_293 : decode b_M_place 293 = .ok (.ladd, 1) := by decide +kernel
theorem d_M_place_294 : decode b_M_place 294 = .ok (.lstore 21, 2) := by decide +kernel
theorem d_M_place_296 : decode b_M_place 296 = .ok (.lload 21, 2) := by decide +kernel
theorem d_M_place_298 : decode b_M_place 298 = .ok (.lconst 0, 1) := by decide +kernel
theorem d_M_place_299 : decode b_M_place 299 = .ok (.lcmp, 1) := by decide +kernel
theorem d_M_place_300 : decode b_M_place 300 = .ok (.ifCond .ge 102, 3) := by decide +kernel
theorem d_M_place_303 : decode b_M_place 303 = .ok (.lload 11, 2) := by decide +kernel
theorem d_M_place_305 : decode b_M_place 305 = .ok (.lconst 1, 1) := by decide +kernel
theorem d_M_place_306 : decode b_M_place 306 = .ok (.lsub, 1) := by decide +kernel
theorem d_M_place_307 : decode b_M_place 307 = .ok (.lstore 11, 2) := by decide +kernel
theorem d_M_place_309 : decode b_M_place 309 = .ok (.iconst 0, 1) := by decide +kernel
theorem d_M_place_310 : decode b_M_place 310 = .ok (.istore 23, 2) := by decide +kernel
theorem d_M_place_312 : decode b_M_place 312 = .ok (.iconst 0, 1) := by decide +kernel
theorem d_M_place_313 : decode b_M_place 313 = .ok (.istore 24, 2) := by decide +kernel
theorem d_M_place_315 : decode b_M_place 315 = .ok (.iload 24, 2) := by decide +kernel
theorem d_M_place_317 : decode b_M_place 317 = .ok (.iload 4, 2) := by decide +kernel
theorem d_M_place_319 : decode b_M_place 319 = .ok (.if_icmp .ge 75, 3) := by decide +kernel
theorem d_M_place_322 : decode b_M_place 322 = .ok (.aload_n 0, 1) := by decide +kernel
theorem d_M_place_323 : decode b_M_place 323 = .ok (.getfield 9, 3) := by decide +kernel
theorem d_M_place_326 : decode b_M_place 326 = .ok (.iload 5, 2) := by decide +kernel
theorem d_M_place_328 : decode b_M_place 328 = .ok (.iload 24, 2) := by decide +kernel
theorem d_M_place_330 : decode b_M_place 330 = .ok (.iadd, 1) := by decide +kernel
theorem d_M_place_331 : decode b_M_place 331 = .ok (.iaload, 1) := by decide +kernel
theorem d_M_place_332 : decode b_M_place 332 = .ok (.aload_n 0, 1) := by decide +kernel
theorem d_M_place_333 : decode b_M_place 333 = .ok (.getfield 9, 3) := by decide +kernel
theorem d_M_place_336 : decode b_M_place 336 = .ok (.iload 6, 2) := by decide +kernel
theorem d_M_place_338 : decode b_M_place 338 = .ok (.iload 24, 2) := by decide +kernel
theorem d_M_place_340 : decode b_M_place 340 = .ok (.iadd, 1) := by decide +kernel
theorem d_M_place_341 : decode b_M_place 341 = .ok (.iaload, 1) := by decide +kernel
theorem d_M_place_342 : decode b_M_place 342 = .ok (.iadd, 1) := by decide +kernel
theorem d_M_place_343 : decode b_M_place 343 = .ok (.iload 23, 2) := by decide +kernel
theorem d_M_place_345 : decode b_M_place 345 = .ok (.iadd, 1) := by decide +kernel
theorem d_M_place_346 : decode b_M_place 346 = .ok (.istore 25, 2) := by decide +kernel
theorem d_M_place_348 : decode b_M_place 348 = .ok (.iload 25, 2) := by decide +kernel
theorem d_M_place_350 : decode b_M_place 350 = .ok (.ldc 52, 2) := by decide +kernel
theorem d_M_place_352 : decode b_M_place 352 = .ok (.if_icmp .lt 7, 3) := by decide +kernel
theorem d_M_place_355 : decode b_M_place 355 = .ok (.iconst 1, 1) := by decide +kernel
theorem d_M_place_356 : decode b_M_place 356 = .ok (.goto 4, 3) := by decide +kernel
theorem d_M_place_359 : decode b_M_place 359 = .ok (.iconst 0, 1) := by decide +kernel
theorem d_M_place_360 : decode b_M_place 360 = .ok (.istore 23, 2) := by decide +kernel
theorem d_M_place_362 : decode b_M_place 362 = .ok (.aload_n 0, 1) := by decide +kernel
theorem d_M_place_363 : decode b_M_place 363 = .ok (.getfield 9, 3) := by decide +kernel
theorem d_M_place_366 : decode b_M_place 366 = .ok (.iload 5, 2) := by decide +kernel
theorem d_M_place_368 : decode b_M_place 368 = .ok (.iload 24, 2) := by decide +kernel
theorem d_M_place_370 : decode b_M_place 370 = .ok (.iadd, 1) := by decide +kernel
theorem d_M_place_371 : decode b_M_place 371 = .ok (.iload 23, 2) := by decide +kernel
theorem d_M_place_373 : decode b_M_place 373 = .ok (.iconst 1, 1) := by decide +kernel
theorem d_M_place_374 : decode b_M_place 374 = .ok (.if_icmp .ne 11, 3) := by decide +kernel
theorem d_M_place_377 : decode b_M_place 377 = .ok (.iload 25, 2) := by decide +kernel
theorem d_M_place_379 : decode b_M_place 379 = .ok (.ldc 52, 2) := by decide +kernel
theorem d_M_place_381 : decode b_M_place 381 = .ok (.isub, 1) := by decide +kernel
theorem d_M_place_382 : decode b_M_place 382 = .ok (.goto 5, 3) := by decide +kernel
theorem d_M_place_385 : decode b_M_place 385 = .ok (.iload 25, 2) := by decide +kernel
theorem d_M_place_387 : decode b_M_place 387 = .ok (.iastore, 1) := by decide +kernel
theorem d_M_place_388 : decode b_M_place 388 = .ok (.iinc 24 1, 3) := by decide +kernel
theorem d_M_place_391 : decode b_M_place 391 = .ok (.goto (-76), 3) := by decide +kernel
theorem d_M_place_394 : decode b_M_place 394 = .ok (.lload 21, 2) := by decide +kernel
theorem d_M_place_396 : decode b_M_place 396 = .ok (.iload 23, 2) := by decide +kernel
theorem d_M_place_398 : decode b_M_place 398 = .ok (.i2l, 1) := by decide +kernel
theorem d_M_place_399 : decode b_M_place 399 = .ok (.ladd, 1) := by decide +kernel
theorem d_M_place_400 : decode b_M_place 400 = .ok (.lstore 21, 2) := by decide +kernel
theorem d_M_place_402 : decode b_M_place 402 = .ok (.aload_n 0, 1) := by decide +kernel
theorem d_M_place_403 : decode b_M_place 403 = .ok (.getfield 9, 3) := by decide +kernel
theorem d_M_place_406 : decode b_M_place 406 = .ok (.iload 5, 2) := by decide +kernel
theorem d_M_place_408 : decode b_M_place 408 = .ok (.iload 4, 2) := by decide +kernel
theorem d_M_place_410 : decode b_M_place 410 = .ok (.iadd, 1) := by decide +kernel
theorem d_M_place_411 : decode b_M_place 411 = .ok (.lload 21, 2) := by decide +kernel
theorem d_M_place_413 : decode b_M_place 413 = .ok (.l2i, 1) := by decide +kernel
theorem d_M_place_414 : decode b_M_place 414 = .ok (.iastore, 1) := by decide +kernel
theorem d_M_place_415 : decode b_M_place 415 = .ok (.lload 11, 2) := by decide +kernel
theorem d_M_place_417 : decode b_M_place 417 = .ok (.l2i, 1) := by decide +kernel
theorem d_M_place_418 : decode b_M_place 418 = .ok (.ireturn, 1) := by decide +kernel
theorem d_M_common_0 : decode b_M_common 0 = .ok (.aload_n 0, 1) := by decide +kernel
theorem d_M_common_1 : decode b_M_common 1 = .ok (.iload_n 1, 1) := by decide +kernel
theorem d_M_common_2 : decode b_M_common 2 = .ok (.bipush 51, 2) := by decide +kernel
theorem d_M_common_4 : decode b_M_common 4 = .ok (.invokevirtual 40, 3) := by decide +kernel
theorem d_M_common_7 : decode b_M_common 7 = .ok (.aload_n 0, 1) := by decide +kernel
theorem d_M_common_8 : decode b_M_common 8 = .ok (.iload_n 2, 1) := by decide +kernel
theorem d_M_common_9 : decode b_M_common 9 = .ok (.bipush 52, 2) := by decide +kernel
theorem d_M_common_11 : decode b_M_common 11 = .ok (.invokevirtual 40, 3) := by decide +kernel
theorem d_M_common_14 : decode b_M_common 14 = .ok (.iconst 0, 1) := by decide +kernel
theorem d_M_common_15 : decode b_M_common 15 = .ok (.istore_n 3, 1) := by decide +kernel
theorem d_M_common_16 : decode b_M_common 16 = .ok (.aload_n 0, 1) := by decide +kernel
theorem d_M_common_17 : decode b_M_common 17 = .ok (.getfield 16, 3) := by decide +kernel
theorem d_M_common_20 : decode b_M_common 20 = .ok (.iload_n 3, 1) := by decide +kernel
theorem d_M_common_21 : decode b_M_common 21 = .ok (.ifCond .eq 8, 3) := by decide +kernel
theorem d_M_common_24 : decode b_M_common 24 = .ok (.bipush 51, 2) := by decide +kernel
theorem d_M_common_26 : decode b_M_common 26 = .ok (.goto 5, 3) := by decide +kernel
theorem d_M_common_29 : decode b_M_common 29 = .ok (.bipush 52, 2) := by decide +kernel
theorem d_M_common_31 : decode b_M_common 31 = .ok (.iaload, 1) := by decide +kernel
theorem d_M_common_32 : decode b_M_common 32 = .ok (.ifCond .eq 43, 3) := by decide +kernel
theorem d_M_common_35 : decode b_M_common 35 = .ok (.aload_n 0, 1) := by decide +kernel
theorem d_M_common_36 : decode b_M_common 36 = .ok (.iconst (-1), 1) := by decide +kernel
theorem d_M_common_37 : decode b_M_common 37 = .ok (.iload_n 3, 1) := by decide +kernel
theorem d_M_common_38 : decode b_M_common 38 = .ok (.ifCond .eq 8, 3) := by decide +kernel
theorem d_M_common_41 : decode b_M_common 41 = .ok (.bipush 52, 2) := by decide +kernel
theorem d_M_common_43 : decode b_M_common 43 = .ok (.goto 5, 3) := by decide +kernel
theorem d_M_common_46 : decode b_M_common 46 = .ok (.bipush 51, 2) := by decide +kernel
theorem d_M_common_48 : decode b_M_common 48 = .ok (.iload_n 3, 1) := by decide +kernel
theorem d_M_common_49 : decode b_M_common 49 = .ok (.ifCond .eq 8, 3) := by decide +kernel
theorem d_M_common_52 : decode b_M_common 52 = .ok (.bipush 51, 2) := by decide +kernel
theorem d_M_common_54 : decode b_M_common 54 = .ok (.goto 5, 3) := by decide +kernel
theorem d_M_common_57 : decode b_M_common 57 = .ok (.bipush 52, 2) := by decide +kernel
theorem d_M_common_59 : decode b_M_common 59 = .ok (.invokevirtual 66, 3) := by decide +kernel
theorem d_M_common_62 : decode b_M_common 62 = .ok (.iload_n 3, 1) := by decide +kernel
theorem d_M_common_63 : decode b_M_common 63 = .ok (.ifCond .ne 7, 3) := by decide +kernel
theorem d_M_common_66 : decode b_M_common 66 = .ok (.iconst 1, 1) := by decide +kernel
theorem d_M_common_67 : decode b_M_common 67 = .ok (.goto 4, 3) := by decide +kernel
theorem d_M_common_70 : decode b_M_common 70 = .ok (.iconst 0, 1) := by decide +kernel
theorem d_M_common_71 : decode b_M_common 71 = .ok (.istore_n 3, 1) := by decide +kernel
theorem d_M_common_72 : decode b_M_common 72 = .ok (.goto (-56), 3) := by decide +kernel
theorem d_M_common_75 : decode b_M_common 75 = .ok (.iload_n 3, 1) := by decide +kernel
theorem d_M_common_76 : decode b_M_common 76 = .ok (.ifCond .eq 11, 3) := by decide +kernel
theorem d_M_common_79 : decode b_M_common 79 = .ok (.aload_n 0, 1) := by decide +kernel
theorem d_M_common_80 : decode b_M_common 80 = .ok (.bipush 52, 2) := by decide +kernel
theorem d_M_common_82 : decode b_M_common 82 = .ok (.bipush 51, 2) := by decide +kernel
theorem d_M_common_84 : decode b_M_common 84 = .ok (.invokevirtual 40, 3) := by decide +kernel
theorem d_M_common_87 : decode b_M_common 87 = .ok (.aload_n 0, 1) := by decide +kernel
theorem d_M_common_88 : decode b_M_common 88 = .ok (.getfield 16, 3) := by decide +kernel
theorem d_M_common_91 : decode b_M_common 91 = .ok (.bipush 51, 2) := by decide +kernel
theorem d_M_common_93 : decode b_M_common 93 = .ok (.iconst 1, 1) := by decide +kernel
theorem d_M_common_94 : decode b_M_common 94 = .ok (.iastore, 1) := by decide +kernel
theorem d_M_common_95 : decode b_M_common 95 = .ok (.return_, 1) := by decide +kernel
end
section
theorem d_M_share_0 : decode b_M_share 0 = .ok (.aload_n 0, 1) := by decide +kernel
theorem d_M_share_1 : decode b_M_share 1 = .ok (.getfield 16, 3) := by decide +kernel
theorem d_M_share_4 : decode b_M_share 4 = .ok (.iload_n 2, 1) := by decide +kernel
theorem d_M_share_5 : decode b_M_share 5 = .ok (.iaload, 1) := by decide +kernel
theorem d_M_share_6 : decode b_M_share 6 = .ok (.aload_n 0, 1) := by decide +kernel
theorem d_M_share_7 : decode b_M_share 7 = .ok (.getfield 16, 3) := by decide +kernel
theorem d_M_share_10 : decode b_M_share 10 = .ok (.iload_n 3, 1) := by decide +kernel
theorem d_M_share_11 : decode b_M_share 11 = .ok (.iaload, 1) := by decide +kernel
theorem d_M_share_12 : decode b_M_share 12 = .ok (.imul, 1) := by decide +kernel
theorem d_M_share_13 : decode b_M_share 13 = .ok (.istore 4, 2) := by decide +kernel
theorem d_M_share_15 : decode b_M_share 15 = .ok (.aload_n 0, 1) := by decide +kernel
theorem d_M_share_16 : decode b_M_share 16 = .ok (.iload_n 2, 1) := by decide +kernel
theorem d_M_share_17 : decode b_M_share 17 = .ok (.bipush 53, 2) := by decide +kernel
theorem d_M_share_19 : decode b_M_share 19 = .ok (.invokevirtual 40, 3) := by decide +kernel
theorem d_M_share_22 : decode b_M_share 22 = .ok (.aload_n 0, 1) := by decide +kernel
theorem d_M_share_23 : decode b_M_share 23 = .ok (.iload_n 3, 1) := by decide +kernel
theorem d_M_share_24 : decode b_M_share 24 = .ok (.bipush 54, 2) := by decide +kernel
theorem d_M_share_26 : decode b_M_share 26 = .ok (.invokevirtual 40, 3) := by decide +kernel
theorem d_M_share_29 : decode b_M_share 29 = .ok (.aload_n 0, 1) := by decide +kernel
theorem d_M_share_30 : decode b_M_share 30 = .ok (.iload_n 1, 1) := by decide +kernel
theorem d_M_share_31 : decode b_M_share 31 = .ok (.bipush 53, 2) := by decide +kernel
theorem d_M_share_33 : decode b_M_share 33 = .ok (.bipush 54, 2) := by decide +kernel
theorem d_M_share_35 : decode b_M_share 35 = .ok (.invokevirtual 66, 3) := by decide +kernel
theorem d_M_share_38 : decode b_M_share 38 = .ok (.aload_n 0, 1) := by decide +kernel
theorem d_M_share_39 : decode b_M_share 39 = .ok (.getfield 16, 3) := by decide +kernel
theorem d_M_share_42 : decode b_M_share 42 = .ok (.iload_n 1, 1) := by decide +kernel
theorem d_M_share_43 : decode b_M_share 43 = .ok (.aload_n 0, 1) := by decide +kernel
theorem d_M_share_44 : decode b_M_share 44 = .ok (.getfield 16, 3) := by decide +kernel
theorem d_M_share_47 : decode b_M_share 47 = .ok (.iload_n 1, 1) := by decide +kernel
theorem d_M_share_48 : decode b_M_share 48 = .ok (.iaload, 1) := by decide +kernel
theorem d_M_share_49 : decode b_M_share 49 = .ok (.ifCond .ne 7, 3) := by decide +kernel
theorem d_M_share_52 : decode b_M_share 52 = .ok (.iconst 0, 1) := by decide +kernel
theorem d_M_share_53 : decode b_M_share 53 = .ok (.goto 5, 3) := by decide +kernel
theorem d_M_share_56 : decode b_M_share 56 = .ok (.iload 4, 2) := by decide +kernel
theorem d_M_share_58 : decode b_M_share 58 = .ok (.iastore, 1) := by decide +kernel
theorem d_M_share_59 : decode b_M_share 59 = .ok (.return_, 1) := by decide +kernel
theorem d_M_digitsOf_0 : decode b_M_digitsOf 0 = .ok (.aload_n 0, 1) := by decide +kernel
theorem d_M_digitsOf_1 : decode b_M_digitsOf 1 = .ok (.getfield 13, 3) := by decide +kernel
theorem d_M_digitsOf_4 : decode b_M_digitsOf 4 = .ok (.iload_n 1, 1) := by decide +kernel
theorem d_M_digitsOf_5 : decode b_M_digitsOf 5 = .ok (.iaload, 1) := by decide +kernel
theorem d_M_digitsOf_6 : decode b_M_digitsOf 6 = .ok (.ifCond .ne 5, 3) := by decide +kernel
theorem d_M_digitsOf_9 : decode b_M_digitsOf 9 = .ok (.iconst 1, 1) := by decide +kernel
theorem d_M_digitsOf_10 : decode b_M_digitsOf 10 = .ok (.ireturn, 1) := by decide +kernel
theorem d_M_digitsOf_11 : decode b_M_digitsOf 11 = .ok (.bipush 9, 2) := by decide +kernel
theorem d_M_digitsOf_13 : decode b_M_digitsOf 13 = .ok (.aload_n 0, 1) := by decide +kernel
theorem d_M_digitsOf_14 : decode b_M_digitsOf 14 = .ok (.getfield 13, 3) := by decide +kernel
theorem d_M_digitsOf_17 : decode b_M_digitsOf 17 = .ok (.iload_n 1, 1) := by decide +kernel
theorem d_M_digitsOf_18 : decode b_M_digitsOf 18 = .ok (.iaload, 1) := by decide +kernel
theorem d_M_digitsOf_19 : decode b_M_digitsOf 19 = .ok (.iconst 1, 1) := by decide +kernel
theorem d_M_digitsOf_20 : decode b_M_digitsOf 20 = .ok (.isub, 1) := by decide +kernel
theorem d_M_digitsOf_21 : decode b_M_digitsOf 21 = .ok (.imul, 1) := by decide +kernel
theorem d_M_digitsOf_22 : decode b_M_digitsOf 22 = .ok (.istore_n 2, 1) := by decide +kernel
theorem d_M_digitsOf_23 : decode b_M_digitsOf 23 = .ok (.aload_n 0, 1) := by decide +kernel
theorem d_M_digitsOf_24 : decode b_M_digitsOf 24 = .ok (.getfield 9, 3) := by decide +kernel
theorem d_M_digitsOf_27 : decode b_M_digitsOf 27 = .ok (.sipush 460, 3) := by decide +kernel
theorem d_M_digitsOf_30 : decode b_M_digitsOf 30 = .ok (.iload_n 1, 1) := by decide +kernel
theorem d_M_digitsOf_31 : decode b_M_digitsOf 31 = .ok (.imul, 1) := by decide +kernel
theorem d_M_digitsOf_32 : decode b_M_digitsOf 32 = .ok (.aload_n 0, 1) := by decide +kernel
theorem d_M_digitsOf_33 : decode b_M_digitsOf 33 = .ok (.getfield 13, 3) := by decide +kernel
theorem d_M_digitsOf_36 : decode b_M_digitsOf 36 = .ok (.iload_n 1, 1) := by decide +kernel
theorem d_M_digitsOf_37 : decode b_M_digitsOf 37 = .ok (.iaload, 1) := by decide +kernel
theorem d_M_digitsOf_38 : decode b_M_digitsOf 38 = .ok (.iadd, 1) := by decide +kernel
theorem d_M_digitsOf_39 : decode b_M_digitsOf 39 = .ok (.iconst 1, 1) := by decide +kernel
theorem d_M_digitsOf_40 : decode b_M_digitsOf 40 = .ok (.isub, 1) := by decide +kernel
theorem d_M_digitsOf_41 : decode b_M_digitsOf 41 = .ok (.iaload, 1) := by decide +kernel
theorem d_M_digitsOf_42 : decode b_M_digitsOf 42 = .ok (.istore_n 3, 1) := by decide +kernel
theorem d_M_digitsOf_43 : decode b_M_digitsOf 43 = .ok (.iload_n 3, 1) := by decide +kernel
theorem d_M_digitsOf_44 : decode b_M_digitsOf 44 = .ok (.ifCond .le 14, 3) := by decide +kernel
theorem d_M_digitsOf_47 : decode b_M_digitsOf 47 = .ok (.iinc 2 1, 3) := by decide +kernel
theorem d_M_digitsOf_50 : decode b_M_digitsOf 50 = .ok (.iload_n 3, 1) := by decide +kernel
theorem d_M_digitsOf_51 : decode b_M_digitsOf 51 = .ok (.bipush 10, 2) := by decide +kernel
theorem d_M_digitsOf_53 : decode b_M_digitsOf 53 = .ok (.idiv, 1) := by decide +kernel
theorem d_M_digitsOf_54 : decode b_M_digitsOf 54 = .ok (.istore_n 3, 1) := by decide +kernel
theorem d_M_digitsOf_55 : decode b_M_digitsOf 55 = .ok (.goto (-12), 3) := by decide +kernel
theorem d_M_digitsOf_58 : decode b_M_digitsOf 58 = .ok (.iload_n 2, 1) := by decide +kernel
theorem d_M_digitsOf_59 : decode b_M_digitsOf 59 = .ok (.ireturn, 1) := by decide +kernel
theorem d_M_curve_0 : decode b_M_curve 0 = .ok (.aload_n 0, 1) := by decide +kernel
theorem d_M_curve_1 : decode b_M_curve 1 = .ok (.iconst 0, 1) := by decide +kernel
theorem d_M_curve_2 : decode b_M_curve 2 = .ok (.putfield 30, 3) := by decide +kernel
theorem d_M_curve_5 : decode b_M_curve 5 = .ok (.iload_n 1, 1) := by decide +kernel
theorem d_M_curve_6 : decode b_M_curve 6 = .ok (.invokestatic 69, 3) := by decide +kernel
theorem d_M_curve_9 : decode b_M_curve 9 = .ok (.ifCond .eq 33, 3) := by decide +kernel
theorem d_M_curve_12 : decode b_M_curve 12 = .ok (.iload_n 2, 1) := by decide +kernel
theorem d_M_curve_13 : decode b_M_curve 13 = .ok (.invokestatic 69, 3) := by decide +kernel
theorem d_M_curve_16 : decode b_M_curve 16 = .ok (.ifCond .eq 26, 3) := by decide +kernel
theorem d_M_curve_19 : decode b_M_curve 19 = .ok (.iload_n 3, 1) := by decide +kernel
theorem d_M_curve_20 : decode b_M_curve 20 = .ok (.invokestatic 69, 3) := by decide +kernel
theorem d_M_curve_23 : decode b_M_curve 23 = .ok (.ifCond .eq 19, 3) := by decide +kernel
theorem d_M_curve_26 : decode b_M_curve 26 = .ok (.iload 4, 2) := by decide +kernel
theorem d_M_curve_28 : decode b_M_curve 28 = .ok (.invokestatic 69, 3) := by decide +kernel
theorem d_M_curve_31 : decode b_M_curve 31 = .ok (.ifCond .eq 11, 3) := by decide +kernel
theorem d_M_curve_34 : decode b_M_curve 34 = .ok (.iload 5, 2) := by decide +kernel
theorem d_M_curve_36 : decode b_M_curve 36 = .ok (.invokestatic 69, 3) := by decide +kernel
theorem d_M_curve_39 : decode b_M_curve 39 = .ok (.ifCond .ne 5, 3) := by decide +kernel
theorem d_M_curve_42 : decode b_M_curve 42 = .ok (.iconst (-1), 1) := by decide +kernel
theorem d_M_curve_43 : decode b_M_curve 43 = .ok (.ireturn, 1) := by decide +kernel
theorem d_M_curve_44 : decode b_M_curve 44 = .ok (.iload_n 1, 1) := by decide +kernel
theorem d_M_curve_45 : decode b_M_curve 45 = .ok (.i2l, 1) := by decide +kernel
theorem d_M_curve_46 : decode b_M_curve 46 = .ok (.iload_n 1, 1) := by decide +kernel
theorem d_M_curve_47 : decode b_M_curve 47 = .ok (.i2l, 1) := by decide +kernel
theorem d_M_curve_48 : decode b_M_curve 48 = .ok (.lmul, 1) := by decide +kernel
theorem d_M_curve_49 : decode b_M_curve 49 = .ok (.ldc2_w 73, 3) := by decide +kernel
theorem d_M_curve_52 : decode b_M_curve 52 = .ok (.iload_n 2, 1) := by decide +kernel
theorem d_M_curve_53 : decode b_M_curve 53 = .ok (.i2l, 1) := by decide +kernel
theorem d_M_curve_54 : decode b_M_curve 54 = .ok (.lmul, 1) := by decide +kernel
theorem d_M_curve_55 : decode b_M_curve 55 = .ok (.ladd, 1) := by decide +kernel
theorem d_M_curve_56 : decode b_M_curve 56 = .ok (.lstore 6, 2) := by decide +kernel
theorem d_M_curve_58 : decode b_M_curve 58 = .ok (.iload_n 1, 1) := by decide +kernel
theorem d_M_curve_59 : decode b_M_curve 59 = .ok (.i2l, 1) := by decide +kernel
theorem d_M_curve_60 : decode b_M_curve 60 = .ok (.iload_n 3, 1) := by decide +kernel
theorem d_M_curve_61 : decode b_M_curve 61 = .ok (.i2l, 1) := by decide +kernel
theorem d_M_curve_62 : decode b_M_curve 62 = .ok (.lmul, 1) := by decide +kernel
theorem d_M_curve_63 : decode b_M_curve 63 = .ok (.ldc2_w 75, 3) := by decide +kernel
theorem d_M_curve_66 : decode b_M_curve 66 = .ok (.iload 4, 2) := by decide +kernel
theorem d_M_curve_68 : decode b_M_curve 68 = .ok (.i2l, 1) := by decide +kernel
theorem d_M_curve_69 : decode b_M_curve 69 = .ok (.lmul, 1) := by decide +kernel
theorem d_M_curve_70 : decode b_M_curve 70 = .ok (.ladd, 1) := by decide +kernel
theorem d_M_curve_71 : decode b_M_curve 71 = .ok (.lstore 8, 2) := by decide +kernel
theorem d_M_curve_73 : decode b_M_curve 73 = .ok (.iload_n 3, 1) := by decide +kernel
theorem d_M_curve_74 : decode b_M_curve 74 = .ok (.i2l, 1) := by decide +kernel
theorem d_M_curve_75 : decode b_M_curve 75 = .ok (.iload_n 3, 1) := by decide +kernel
theorem d_M_curve_76 : decode b_M_curve 76 = .ok (.i2l, 1) := by decide +kernel
theorem d_M_curve_77 : decode b_M_curve 77 = .ok (.lmul, 1) := by decide +kernel
theorem d_M_curve_78 : decode b_M_curve 78 = .ok (.ldc2_w 73, 3) := by decide +kernel
theorem d_M_curve_81 : decode b_M_curve 81 = .ok (.iload 5, 2) := by decide +kernel
theorem d_M_curve_83 : decode b_M_curve 83 = .ok (.i2l, 1) := by decide +kernel
theorem d_M_curve_84 : decode b_M_curve 84 = .ok (.lmul, 1) := by decide +kernel
theorem d_M_curve_85 : decode b_M_curve 85 = .ok (.ladd, 1) := by decide +kernel
theorem d_M_curve_86 : decode b_M_curve 86 = .ok (.lstore 10, 2) := by decide +kernel
theorem d_M_curve_88 : decode b_M_curve 88 = .ok (.iload_n 1, 1) := by decide +kernel
theorem d_M_curve_89 : decode b_M_curve 89 = .ok (.i2l, 1) := by decide +kernel
theorem d_M_curve_90 : decode b_M_curve 90 = .ok (.iload_n 1, 1) := by decide +kernel
theorem d_M_curve_91 : decode b_M_curve 91 = .ok (.i2l, 1) := by decide +kernel
theorem d_M_curve_92 : decode b_M_curve 92 = .ok (.lmul, 1) := by decide +kernel
theorem d_M_curve_93 : decode b_M_curve 93 = .ok (.iload 5, 2) := by decide +kernel
theorem d_M_curve_95 : decode b_M_curve 95 = .ok (.i2l, 1) := by decide +kernel
theorem d_M_curve_96 : decode b_M_curve 96 = .ok (.lmul, 1) := by decide +kernel
theorem d_M_curve_97 : decode b_M_curve 97 = .ok (.iload_n 1, 1) := by decide +kernel
theorem d_M_curve_98 : decode b_M_curve 98 = .ok (.i2l, 1) := by decide +kernel
theorem d_M_curve_99 : decode b_M_curve 99 = .ok (.iload_n 3, 1) := by decide +kernel
theorem d_M_curve_100 : decode b_M_curve 100 = .ok (.i2l, 1) := by decide +kernel
theorem d_M_curve_101 : decode b_M_curve 101 = .ok (.lmul, 1) := by decide +kernel
theorem d_M_curve_102 : decode b_M_curve 102 = .ok (.iload 4, 2) := by decide +kernel
theorem d_M_curve_104 : decode b_M_curve 104 = .ok (.i2l, 1) := by decide +kernel
theorem d_M_curve_105 : decode b_M_curve 105 = .ok (.lmul, 1) := by decide +kernel
theorem d_M_curve_106 : decode b_M_curve 106 = .ok (.lsub, 1) := by decide +kernel
theorem d_M_curve_107 : decode b_M_curve 107 = .ok (.ldc2_w 73, 3) := by decide +kernel
theorem d_M_curve_110 : decode b_M_curve 110 = .ok (.iload_n 2, 1) := by decide +kernel
theorem d_M_curve_111 : decode b_M_curve 111 = .ok (.i2l, 1) := by decide +kernel
theorem d_M_curve_112 : decode b_M_curve 112 = .ok (.lmul, 1) := by decide +kernel
theorem d_M_curve_113 : decode b_M_curve 113 = .ok (.iload 5, 2) := by decide +kernel
theorem d_M_curve_115 : decode b_M_curve 115 = .ok (.i2l, 1) := by decide +kernel
theorem d_M_curve_116 : decode b_M_curve 116 = .ok (.lmul, 1) := by decide +kernel
theorem d_M_curve_117 : decode b_M_curve 117 = .ok (.ladd, 1) := by decide +kernel
theorem d_M_curve_118 : decode b_M_curve 118 = .ok (.iload_n 2, 1) := by decide +kernel
theorem d_M_curve_119 : decode b_M_curve 119 = .ok (.i2l, 1) := by decide +kernel
theorem d_M_curve_120 : decode b_M_curve 120 = .ok (.iload_n 3, 1) := by decide +kernel
theorem d_M_curve_121 : decode b_M_curve 121 = .ok (.i2l, 1) := by decide +kernel
theorem d_M_curve_122 : decode b_M_curve 122 = .ok (.lmul, 1) := by decide +kernel
theorem d_M_curve_123 : decode b_M_curve 123 = .ok (.iload_n 3, 1) := by decide +kernel
theorem d_M_curve_124 : decode b_M_curve 124 = .ok (.i2l, 1) := by decide +kernel
theorem d_M_curve_125 : decode b_M_curve 125 = .ok (.lmul, 1) := by decide +kernel
theorem d_M_curve_126 : decode b_M_curve 126 = .ok (.ladd, 1) := by decide +kernel
theorem d_M_curve_127 : decode b_M_curve 127 = .ok (.iload 4, 2) := by decide +kernel
theorem d_M_curve_129 : decode b_M_curve 129 = .ok (.i2l, 1) := by decide +kernel
theorem d_M_curve_130 : decode b_M_curve 130 = .ok (.iload 4, 2) := by decide +kernel
theorem d_M_curve_132 : decode b_M_curve 132 = .ok (.i2l, 1) := by decide +kernel
theorem d_M_curve_133 : decode b_M_curve 133 = .ok (.lmul, 1) := by decide +kernel
theorem d_M_curve_134 : decode b_M_curve 134 = .ok (.lsub, 1) := by decide +kernel
theorem d_M_curve_135 : decode b_M_curve 135 = .ok (.lstore 12, 2) := by decide +kernel
theorem d_M_curve_137 : decode b_M_curve 137 = .ok (.aload_n 0, 1) := by decide +kernel
theorem d_M_curve_138 : decode b_M_curve 138 = .ok (.bipush 45, 2) := by decide +kernel
theorem d_M_curve_140 : decode b_M_curve 140 = .ok (.lload 6, 2) := by decide +kernel
theorem d_M_curve_142 : decode b_M_curve 142 = .ok (.lload 8, 2) := by decide +kernel
theorem d_M_curve_144 : decode b_M_curve 144 = .ok (.lload 10, 2) := by decide +kernel
theorem d_M_curve_146 : decode b_M_curve 146 = .ok (.ldc2_w 77, 3) := by decide +kernel
theorem d_M_curve_149 : decode b_M_curve 149 = .ok (.invokevirtual 79, 3) := by decide +kernel
theorem d_M_curve_152 : decode b_M_curve 152 = .ok (.aload_n 0, 1) := by decide +kernel
theorem d_M_curve_153 : decode b_M_curve 153 = .ok (.bipush 46, 2) := by decide +kernel
theorem d_M_curve_155 : decode b_M_curve 155 = .ok (.lload 6, 2) := by decide +kernel
theorem d_M_curve_157 : decode b_M_curve 157 = .ok (.lload 6, 2) := by decide +kernel
theorem d_M_curve_159 : decode b_M_curve 159 = .ok (.lload 12, 2) := by decide +kernel
theorem d_M_curve_161 : decode b_M_curve 161 = .ok (.lconst 1, 1) := by decide +kernel
theorem d_M_curve_162 : decode b_M_curve 162 = .ok (.invokevirtual 79, 3) := by decide +kernel
theorem d_M_curve_165 : decode b_M_curve 165 = .ok (.aload_n 0, 1) := by decide +kernel
theorem d_M_curve_166 : decode b_M_curve 166 = .ok (.bipush 45, 2) := by decide +kernel
theorem d_M_curve_168 : decode b_M_curve 168 = .ok (.bipush 45, 2) := by decide +kernel
theorem d_M_curve_170 : decode b_M_curve 170 = .ok (.bipush 46, 2) := by decide +kernel
theorem d_M_curve_172 : decode b_M_curve 172 = .ok (.iconst (-1), 1) := by decide +kernel
theorem d_M_curve_173 : decode b_M_curve 173 = .ok (.invokevirtual 83, 3) := by decide +kernel
theorem d_M_curve_176 : decode b_M_curve 176 = .ok (.aload_n 0, 1) := by decide +kernel
theorem d_M_curve_177 : decode b_M_curve 177 = .ok (.bipush 46, 2) := by decide +kernel
theorem d_M_curve_179 : decode b_M_curve 179 = .ok (.lload 8, 2) := by decide +kernel
theorem d_M_curve_181 : decode b_M_curve 181 = .ok (.lload 8, 2) := by decide +kernel
theorem d_M_curve_183 : decode b_M_curve 183 = .ok (.lload 8, 2) := by decide +kernel
theorem d_M_curve_185 : decode b_M_curve 185 = .ok (.ldc2_w 86, 3) := by decide +kernel
theorem d_M_curve_188 : decode b_M_curve 188 = .ok (.invokevirtual 79, 3) := by decide +kernel
theorem d_M_curve_191 : decode b_M_curve 191 = .ok (.aload_n 0, 1) := by decide +kernel
theorem d_M_curve_192 : decode b_M_curve 192 = .ok (.bipush 45, 2) := by decide +kernel
theorem d_M_curve_194 : decode b_M_curve 194 = .ok (.bipush 45, 2) := by decide +kernel
theorem d_M_curve_196 : decode b_M_curve 196 = .ok (.bipush 46, 2) := by decide +kernel
theorem d_M_curve_198 : decode b_M_curve 198 = .ok (.iconst (-1), 1) := by decide +kernel
theorem d_M_curve_199 : decode b_M_curve 199 = .ok (.invokevirtual 83, 3) := by decide +kernel
theorem d_M_curve_202 : decode b_M_curve 202 = .ok (.aload_n 0, 1) := by decide +kernel
theorem d_M_curve_203 : decode b_M_curve 203 = .ok (.bipush 46, 2) := by decide +kernel
theorem d_M_curve_205 : decode b_M_curve 205 = .ok (.lload 10, 2) := by decide +kernel
theorem d_M_curve_207 : decode b_M_curve 207 = .ok (.lload 10, 2) := by decide +kernel
theorem d_M_curve_209 : decode b_M_curve 209 = .ok (.ldc2_w 88, 3) := by decide +kernel
theorem d_M_curve_212 : decode b_M_curve 212 = .ok (.lconst 1, 1) := by decide +kernel
theorem d_M_curve_213 : decode b_M_curve 213 = .ok (.invokevirtual 79, 3) := by decide +kernel
theorem d_M_curve_216 : decode b_M_curve 216 = .ok (.aload_n 0, 1) := by decide +kernel
theorem d_M_curve_217 : decode b_M_curve 217 = .ok (.bipush 45, 2) := by decide +kernel
theorem d_M_curve_219 : decode b_M_curve 219 = .ok (.bipush 45, 2) := by decide +kernel
theorem d_M_curve_221 : decode b_M_curve 221 = .ok (.bipush 46, 2) := by decide +kernel
theorem d_M_curve_223 : decode b_M_curve 223 = .ok (.iconst (-1), 1) := by decide +kernel
theorem d_M_curve_224 : decode b_M_curve 224 = .ok (.invokevirtual 83, 3) := by decide +kernel
theorem d_M_curve_227 : decode b_M_curve 227 = .ok (.aload_n 0, 1) := by decide +kernel
theorem d_M_curve_228 : decode b_M_curve 228 = .ok (.getfield 16, 3) := by decide +kernel
theorem d_M_curve_231 : decode b_M_curve 231 = .ok (.bipush 45, 2) := by decide +kernel
theorem d_M_curve_233 : decode b_M_curve 233 = .ok (.iaload, 1) := by decide +kernel
theorem d_M_curve_234 : decode b_M_curve 234 = .ok (.ifCond .ne 5, 3) := by decide +kernel
theorem d_M_curve_237 : decode b_M_curve 237 = .ok (.iconst 5, 1) := by decide +kernel
theorem d_M_curve_238 : decode b_M_curve 238 = .ok (.ireturn, 1) := by decide +kernel
theorem d_M_curve_239 : decode b_M_curve 239 = .ok (.aload_n 0, 1) := by decide +kernel
theorem d_M_curve_240 : decode b_M_curve 240 = .ok (.bipush 24, 2) := by decide +kernel
theorem d_M_curve_242 : decode b_M_curve 242 = .ok (.iload_n 1, 1) := by decide +kernel
theorem d_M_curve_243 : decode b_M_curve 243 = .ok (.i2l, 1) := by decide +kernel
theorem d_M_curve_244 : decode b_M_curve 244 = .ok (.invokevirtual 26, 3) := by decide +kernel
theorem d_M_curve_247 : decode b_M_curve 247 = .ok (.aload_n 0, 1) := by decide +kernel
theorem d_M_curve_248 : decode b_M_curve 248 = .ok (.bipush 25, 2) := by decide +kernel
theorem d_M_curve_250 : decode b_M_curve 250 = .ok (.iload_n 2, 1) := by decide +kernel
theorem d_M_curve_251 : decode b_M_curve 251 = .ok (.i2l, 1) := by decide +kernel
theorem d_M_curve_252 : decode b_M_curve 252 = .ok (.invokevirtual 26, 3) := by decide +kernel
theorem d_M_curve_255 : decode b_M_curve 255 = .ok (.aload_n 0, 1) := by decide +kernel
theorem d_M_curve_256 : decode b_M_curve 256 = .ok (.bipush 26, 2) := by decide +kernel
theorem d_M_curve_258 : decode b_M_curve 258 = .ok (.iload_n 3, 1) := by decide +kernel
theorem d_M_curve_259 : decode b_M_curve 259 = .ok (.i2l, 1) := by decide +kernel
theorem d_M_curve_260 : decode b_M_curve 260 = .ok (.invokevirtual 26, 3) := by decide +kernel
theorem d_M_curve_263 : decode b_M_curve 263 = .ok (.aload_n 0, 1) := by decide +kernel
theorem d_M_curve_264 : decode b_M_curve 264 = .ok (.bipush 27, 2) := by decide +kernel
theorem d_M_curve_266 : decode b_M_curve 266 = .ok (.iload 4, 2) := by decide +kernel
theorem d_M_curve_268 : decode b_M_curve 268 = .ok (.i2l, 1) := by decide +kernel
theorem d_M_curve_269 : decode b_M_curve 269 = .ok (.invokevirtual 26, 3) := by decide +kernel
theorem d_M_curve_272 : decode b_M_curve 272 = .ok (.aload_n 0, 1) := by decide +kernel
theorem d_M_curve_273 : decode b_M_curve 273 = .ok (.bipush 28, 2) := by decide +kernel
theorem d_M_curve_275 : decode b_M_curve 275 = .ok (.iload 5, 2) := by decide +kernel
theorem d_M_curve_277 : decode b_M_curve 277 = .ok (.i2l, 1) := by decide +kernel
theorem d_M_curve_278 : decode b_M_curve 278 = .ok (.invokevirtual 26, 3) := by decide +kernel
theorem d_M_curve_281 : decode b_M_curve 281 = .ok (.aload_n 0, 1) := by decide +kernel
theorem d_M_curve_282 : decode b_M_curve 282 = .ok (.invokevirtual 23, 3) := by decide +kernel
theorem d_M_curve_285 : decode b_M_curve 285 = .ok (.iconst 0, 1) := by decide +kernel
theorem d_M_curve_286 : decode b_M_curve 286 = .ok (.ireturn, 1) := by decide +kernel
theorem d_M_isIn_0 : decode b_M_isIn 0 = .ok (.iload_n 0, 1) := by decide +kernel
theorem d_M_isIn_1 : decode b_M_isIn 1 = .ok (.ldc 90, 2) := by decide +kernel
theorem d_M_isIn_3 : decode b_M_isIn 3 = .ok (.if_icmp .lt 13, 3) := by decide +kernel
theorem d_M_isIn_6 : decode b_M_isIn 6 = .ok (.iload_n 0, 1) := by decide +kernel
theorem d_M_isIn_7 : decode b_M_isIn 7 = .ok (.ldc 91, 2) := by decide +kernel
theorem d_M_isIn_9 : decode b_M_isIn 9 = .ok (.if_icmp .gt 7, 3) := by decide +kernel
theorem d_M_isIn_12 : decode b_M_isIn 12 = .ok (.iconst 1, 1) := by decide +kernel
theorem d_M_isIn_13 : decode b_M_isIn 13 = .ok (.goto 4, 3) := by decide +kernel
theorem d_M_isIn_16 : decode b_M_isIn 16 = .ok (.iconst 0, 1) := by decide +kernel
theorem d_M_isIn_17 : decode b_M_isIn 17 = .ok (.ireturn, 1) := by decide +kernel
theorem d_M_product_0 : decode b_M_product 0 = .ok (.aload_n 0, 1) := by decide +kernel
theorem d_M_product_1 : decode b_M_product 1 = .ok (.bipush 47, 2) := by decide +kernel
theorem d_M_product_3 : decode b_M_product 3 = .ok (.lload_n 2, 1) := by decide +kernel
theorem d_M_product_4 : decode b_M_product 4 = .ok (.invokevirtual 26, 3) := by decide +kernel
theorem d_M_product_7 : decode b_M_product 7 = .ok (.aload_n 0, 1) := by decide +kernel
theorem d_M_product_8 : decode b_M_product 8 = .ok (.bipush 48, 2) := by decide +kernel
theorem d_M_product_10 : decode b_M_product 10 = .ok (.lload 4, 2) := by decide +kernel
theorem d_M_product_12 : decode b_M_product 12 = .ok (.invokevirtual 26, 3) := by decide +kernel
theorem d_M_product_15 : decode b_M_product 15 = .ok (.aload_n 0, 1) := by decide +kernel
theorem d_M_product_16 : decode b_M_product 16 = .ok (.bipush 49, 2) := by decide +kernel
theorem d_M_product_18 : decode b_M_product 18 = .ok (.bipush 47, 2) := by decide +kernel
theorem d_M_product_20 : decode b_M_product 20 = .ok (.bipush 48, 2) := by decide +kernel
theorem d_M_product_22 : decode b_M_product 22 = .ok (.invokevirtual 92, 3) := by decide +kernel
theorem d_M_product_25 : decode b_M_product 25 = .ok (.aload_n 0, 1) := by decide +kernel
theorem d_M_product_26 : decode b_M_product 26 = .ok (.bipush 47, 2) := by decide +kernel
theorem d_M_product_28 : decode b_M_product 28 = .ok (.lload 6, 2) := by decide +kernel
theorem d_M_product_30 : decode b_M_product 30 = .ok (.invokevirtual 26, 3) := by decide +kernel
theorem d_M_product_33 : decode b_M_product 33 = .ok (.aload_n 0, 1) := by decide +kernel
theorem d_M_product_34 : decode b_M_product 34 = .ok (.bipush 48, 2) := by decide +kernel
theorem d_M_product_36 : decode b_M_product 36 = .ok (.bipush 49, 2) := by decide +kernel
theorem d_M_product_38 : decode b_M_product 38 = .ok (.bipush 47, 2) := by decide +kernel
theorem d_M_product_40 : decode b_M_product 40 = .ok (.invokevirtual 92, 3) := by decide +kernel
theorem d_M_product_43 : decode b_M_product 43 = .ok (.aload_n 0, 1) := by decide +kernel
theorem d_M_product_44 : decode b_M_product 44 = .ok (.bipush 47, 2) := by decide +kernel
theorem d_M_product_46 : decode b_M_product 46 = .ok (.lload 8, 2) := by decide +kernel
theorem d_M_product_48 : decode b_M_product 48 = .ok (.invokevirtual 26, 3) := by decide +kernel
theorem d_M_product_51 : decode b_M_product 51 = .ok (.aload_n 0, 1) := by decide +kernel
theorem d_M_product_52 : decode b_M_product 52 = .ok (.iload_n 1, 1) := by decide +kernel
theorem d_M_product_53 : decode b_M_product 53 = .ok (.bipush 48, 2) := by decide +kernel
theorem d_M_product_55 : decode b_M_product 55 = .ok (.bipush 47, 2) := by decide +kernel
theorem d_M_product_57 : decode b_M_product 57 = .ok (.invokevirtual 92, 3) := by decide +kernel
theorem d_M_product_60 : decode b_M_product 60 = .ok (.return_, 1) := by decide +kernel
theorem d_M_isSlot_0 : decode b_M_isSlot 0 = .ok (.iload_n 0, 1) := by decide +kernel
theorem d_M_isSlot_1 : decode b_M_isSlot 1 = .ok (.ifCond .lt 13, 3) := by decide +kernel
theorem d_M_isSlot_4 : decode b_M_isSlot 4 = .ok (.iload_n 0, 1) := by decide +kernel
theorem d_M_isSlot_5 : decode b_M_isSlot 5 = .ok (.bipush 8, 2) := by decide +kernel
theorem d_M_isSlot_7 : decode b_M_isSlot 7 = .ok (.if_icmp .ge 7, 3) := by decide +kernel
theorem d_M_isSlot_10 : decode b_M_isSlot 10 = .ok (.iconst 1, 1) := by decide +kernel
theorem d_M_isSlot_11 : decode b_M_isSlot 11 = .ok (.goto 4, 3) := by decide +kernel
theorem d_M_isSlot_14 : decode b_M_isSlot 14 = .ok (.iconst 0, 1) := by decide +kernel
theorem d_M_isSlot_15 : decode b_M_isSlot 15 = .ok (.ireturn, 1) := by decide +kernel
theorem d_M_move_0 : decode b_M_move 0 = .ok (.aload_n 0, 1) := by decide +kernel
theorem d_M_move_1 : decode b_M_move 1 = .ok (.getfield 19, 3) := by decide +kernel
theorem d_M_move_4 : decode b_M_move 4 = .ok (.iload_n 2, 1) := by decide +kernel
theorem d_M_move_5 : decode b_M_move 5 = .ok (.aload_n 0, 1) := by decide +kernel
theorem d_M_move_6 : decode b_M_move 6 = .ok (.getfield 19, 3) := by decide +kernel
theorem d_M_move_9 : decode b_M_move 9 = .ok (.iload_n 1, 1) := by decide +kernel
theorem d_M_move_10 : decode b_M_move 10 = .ok (.baload, 1) := by decide +kernel
theorem d_M_move_11 : decode b_M_move 11 = .ok (.bastore, 1) := by decide +kernel
theorem d_M_move_12 : decode b_M_move 12 = .ok (.iconst 0, 1) := by decide +kernel
theorem d_M_move_13 : decode b_M_move 13 = .ok (.istore_n 3, 1) := by decide +kernel
theorem d_M_move_14 : decode b_M_move 14 = .ok (.iload_n 3, 1) := by decide +kernel
theorem d_M_move_15 : decode b_M_move 15 = .ok (.iconst 3, 1) := by decide +kernel
theorem d_M_move_16 : decode b_M_move 16 = .ok (.if_icmp .ge 28, 3) := by decide +kernel
theorem d_M_move_19 : decode b_M_move 19 = .ok (.aload_n 0, 1) := by decide +kernel
theorem d_M_move_20 : decode b_M_move 20 = .ok (.getfield 19, 3) := by decide +kernel
theorem d_M_move_23 : decode b_M_move 23 = .ok (.iload_n 1, 1) := by decide +kernel
theorem d_M_move_24 : decode b_M_move 24 = .ok (.baload, 1) := by decide +kernel
theorem d_M_move_25 : decode b_M_move 25 = .ok (.ifCond .ne 19, 3) := by decide +kernel
theorem d_M_move_28 : decode b_M_move 28 = .ok (.aload_n 0, 1) := by decide +kernel
theorem d_M_move_29 : decode b_M_move 29 = .ok (.iload_n 1, 1) := by decide +kernel
theorem d_M_move_30 : decode b_M_move 30 = .ok (.iload_n 3, 1) := by decide +kernel
theorem d_M_move_31 : decode b_M_move 31 = .ok (.iadd, 1) := by decide +kernel
theorem d_M_move_32 : decode b_M_move 32 = .ok (.iload_n 2, 1) := by decide +kernel
theorem d_M_move_33 : decode b_M_move 33 = .ok (.iload_n 3, 1) := by decide +kernel
theorem d_M_move_34 : decode b_M_move 34 = .ok (.iadd, 1) := by decide +kernel
theorem d_M_move_35 : decode b_M_move 35 = .ok (.invokevirtual 40, 3) := by decide +kernel
theorem d_M_move_38 : decode b_M_move 38 = .ok (.iinc 3 1, 3) := by decide +kernel
theorem d_M_move_41 : decode b_M_move 41 = .ok (.goto (-27), 3) := by decide +kernel
theorem d_M_move_44 : decode b_M_move 44 = .ok (.return_, 1) := by decide +kernel
theorem d_M_none_0 : decode b_M_none 0 = .ok (.aload_n 0, 1) := by decide +kernel
theorem d_M_none_1 : decode b_M_none 1 = .ok (.iconst 0, 1) := by decide +kernel
theorem d_M_none_2 : decode b_M_none 2 = .ok (.putfield 30, 3) := by decide +kernel
theorem d_M_none_5 : decode b_M_none 5 = .ok (.iload_n 1, 1) := by decide +kernel
theorem d_M_none_6 : decode b_M_none 6 = .ok (.invokestatic 95, 3) := by decide +kernel
theorem d_M_none_9 : decode b_M_none 9 = .ok (.ifCond .eq 12, 3) := by decide +kernel
theorem d_M_none_12 : decode b_M_none 12 = .ok (.aload_n 0, 1) := by decide +kernel
theorem d_M_none_13 : decode b_M_none 13 = .ok (.getfield 19, 3) := by decide +kernel
theorem d_M_none_16 : decode b_M_none 16 = .ok (.iconst 3, 1) := by decide +kernel
theorem d_M_none_17 : decode b_M_none 17 = .ok (.iload_n 1, 1) := by decide +kernel
theorem d_M_none_18 : decode b_M_none 18 = .ok (.imul, 1) := by decide +kernel
theorem d_M_none_19 : decode b_M_none 19 = .ok (.iconst 1, 1) := by decide +kernel
theorem d_M_none_20 : decode b_M_none 20 = .ok (.bastore, 1) := by decide +kernel
theorem d_M_none_21 : decode b_M_none 21 = .ok (.iload_n 1, 1) := by decide +kernel
theorem d_M_none_22 : decode b_M_none 22 = .ok (.invokestatic 95, 3) := by decide +kernel
theorem d_M_none_25 : decode b_M_none 25 = .ok (.ireturn, 1) := by decide +kernel
theorem d_M_more_0 : decode b_M_more 0 = .ok (.aload_n 0, 1) := by decide +kernel
theorem d_M_more_1 : decode b_M_more 1 = .ok (.bipush 47, 2) := by decide +kernel
theorem d_M_more_3 : decode b_M_more 3 = .ok (.iload_n 2, 1) := by decide +kernel
theorem d_M_more_4 : decode b_M_more 4 = .ok (.iload_n 3, 1) := by decide +kernel
theorem d_M_more_5 : decode b_M_more 5 = .ok (.invokevirtual 92, 3) := by decide +kernel
theorem d_M_more_8 : decode b_M_more 8 = .ok (.aload_n 0, 1) := by decide +kernel
theorem d_M_more_9 : decode b_M_more 9 = .ok (.bipush 48, 2) := by decide +kernel
theorem d_M_more_11 : decode b_M_more 11 = .ok (.bipush 47, 2) := by decide +kernel
theorem d_M_more_13 : decode b_M_more 13 = .ok (.iload 4, 2) := by decide +kernel
theorem d_M_more_15 : decode b_M_more 15 = .ok (.invokevirtual 92, 3) := by decide +kernel
theorem d_M_more_18 : decode b_M_more 18 = .ok (.aload_n 0, 1) := by decide +kernel
theorem d_M_more_19 : decode b_M_more 19 = .ok (.iload_n 1, 1) := by decide +kernel
theorem d_M_more_20 : decode b_M_more 20 = .ok (.iload_n 1, 1) := by decide +kernel
theorem d_M_more_21 : decode b_M_more 21 = .ok (.bipush 48, 2) := by decide +kernel
theorem d_M_more_23 : decode b_M_more 23 = .ok (.iconst 1, 1) := by decide +kernel
theorem d_M_more_24 : decode b_M_more 24 = .ok (.invokevirtual 83, 3) := by decide +kernel
theorem d_M_more_27 : decode b_M_more 27 = .ok (.return_, 1) := by decide +kernel
theorem d_M_point_0 : decode b_M_point 0 = .ok (.aload_n 0, 1) := by decide +kernel
theorem d_M_point_1 : decode b_M_point 1 = .ok (.iconst 0, 1) := by decide +kernel
theorem d_M_point_2 : decode b_M_point 2 = .ok (.putfield 30, 3) := by decide +kernel
theorem d_M_point_5 : decode b_M_point 5 = .ok (.iload_n 1, 1) := by decide +kernel
theorem d_M_point_6 : decode b_M_point 6 = .ok (.invokestatic 95, 3) := by decide +kernel
theorem d_M_point_9 : decode b_M_point 9 = .ok (.ifCond .eq 17, 3) := by decide +kernel
theorem d_M_point_12 : decode b_M_point 12 = .ok (.lload 4, 2) := by decide +kernel
theorem d_M_point_14 : decode b_M_point 14 = .ok (.lconst 0, 1) := by decide +kernel
theorem d_M_point_15 : decode b_M_point 15 = .ok (.lcmp, 1) := by decide +kernel
theorem d_M_point_16 : decode b_M_point 16 = .ok (.ifCond .eq 10, 3) := by decide +kernel
theorem d_M_point_19 : decode b_M_point 19 = .ok (.lload 8, 2) := by decide +kernel
theorem d_M_point_21 : decode b_M_point 21 = .ok (.lconst 0, 1) := by decide +kernel
theorem d_M_point_22 : decode b_M_point 22 = .ok (.lcmp, 1) := by decide +kernel
theorem d_M_point_23 : decode b_M_point 23 = .ok (.ifCond .ne 5, 3) := by decide +kernel
theorem d_M_point_26 : decode b_M_point 26 = .ok (.iconst (-1), 1) := by decide +kernel
theorem d_M_point_27 : decode b_M_point 27 = .ok (.ireturn, 1) := by decide +kernel
theorem d_M_point_28 : decode b_M_point 28 = .ok (.aload_n 0, 1) := by decide +kernel
theorem d_M_point_29 : decode b_M_point 29 = .ok (.bipush 30, 2) := by decide +kernel
theorem d_M_point_31 : decode b_M_point 31 = .ok (.bipush 33, 2) := by decide +kernel
theorem d_M_point_33 : decode b_M_point 33 = .ok (.lload_n 2, 1) := by decide +kernel
theorem d_M_point_34 : decode b_M_point 34 = .ok (.lload 4, 2) := by decide +kernel
theorem d_M_point_36 : decode b_M_point 36 = .ok (.invokevirtual 98, 3) := by decide +kernel
theorem d_M_point_39 : decode b_M_point 39 = .ok (.aload_n 0, 1) := by decide +kernel
theorem d_M_point_40 : decode b_M_point 40 = .ok (.bipush 31, 2) := by decide +kernel
theorem d_M_point_42 : decode b_M_point 42 = .ok (.bipush 34, 2) := by decide +kernel
theorem d_M_point_44 : decode b_M_point 44 = .ok (.lload 6, 2) := by decide +kernel
theorem d_M_point_46 : decode b_M_point 46 = .ok (.lload 8, 2) := by decide +kernel
theorem d_M_point_48 : decode b_M_point 48 = .ok (.invokevirtual 98, 3) := by decide +kernel
theorem d_M_point_51 : decode b_M_point 51 = .ok (.aload_n 0, 1) := by decide +kernel
theorem d_M_point_52 : decode b_M_point 52 = .ok (.bipush 42, 2) := by decide +kernel
theorem d_M_point_54 : decode b_M_point 54 = .ok (.bipush 33, 2) := by decide +kernel
theorem d_M_point_56 : decode b_M_point 56 = .ok (.bipush 33, 2) := by decide +kernel
theorem d_M_point_58 : decode b_M_point 58 = .ok (.invokevirtual 92, 3) := by decide +kernel
theorem d_M_point_61 : decode b_M_point 61 = .ok (.aload_n 0, 1) := by decide +kernel
theorem d_M_point_62 : decode b_M_point 62 = .ok (.bipush 43, 2) := by decide +kernel
end
section
theorem d_M_point_64 : decode b_M_point 64 = .ok (.bipush 42, 2) := by decide +kernel
theorem d_M_point_66 : decode b_M_point 66 = .ok (.bipush 33, 2) := by decide +kernel
theorem d_M_point_68 : decode b_M_point 68 = .ok (.invokevirtual 92, 3) := by decide +kernel
theorem d_M_point_71 : decode b_M_point 71 = .ok (.aload_n 0, 1) := by decide +kernel
theorem d_M_point_72 : decode b_M_point 72 = .ok (.bipush 45, 2) := by decide +kernel
theorem d_M_point_74 : decode b_M_point 74 = .ok (.lconst 0, 1) := by decide +kernel
theorem d_M_point_75 : decode b_M_point 75 = .ok (.invokevirtual 26, 3) := by decide +kernel
theorem d_M_point_78 : decode b_M_point 78 = .ok (.aload_n 0, 1) := by decide +kernel
theorem d_M_point_79 : decode b_M_point 79 = .ok (.bipush 45, 2) := by decide +kernel
theorem d_M_point_81 : decode b_M_point 81 = .ok (.bipush 31, 2) := by decide +kernel
theorem d_M_point_83 : decode b_M_point 83 = .ok (.bipush 31, 2) := by decide +kernel
theorem d_M_point_85 : decode b_M_point 85 = .ok (.bipush 43, 2) := by decide +kernel
theorem d_M_point_87 : decode b_M_point 87 = .ok (.invokevirtual 102, 3) := by decide +kernel
theorem d_M_point_90 : decode b_M_point 90 = .ok (.aload_n 0, 1) := by decide +kernel
theorem d_M_point_91 : decode b_M_point 91 = .ok (.bipush 44, 2) := by decide +kernel
theorem d_M_point_93 : decode b_M_point 93 = .ok (.bipush 30, 2) := by decide +kernel
theorem d_M_point_95 : decode b_M_point 95 = .ok (.bipush 31, 2) := by decide +kernel
theorem d_M_point_97 : decode b_M_point 97 = .ok (.invokevirtual 92, 3) := by decide +kernel
theorem d_M_point_100 : decode b_M_point 100 = .ok (.aload_n 0, 1) := by decide +kernel
theorem d_M_point_101 : decode b_M_point 101 = .ok (.bipush 49, 2) := by decide +kernel
theorem d_M_point_103 : decode b_M_point 103 = .ok (.bipush 42, 2) := by decide +kernel
theorem d_M_point_105 : decode b_M_point 105 = .ok (.bipush 34, 2) := by decide +kernel
theorem d_M_point_107 : decode b_M_point 107 = .ok (.invokevirtual 92, 3) := by decide +kernel
theorem d_M_point_110 : decode b_M_point 110 = .ok (.aload_n 0, 1) := by decide +kernel
theorem d_M_point_111 : decode b_M_point 111 = .ok (.bipush 45, 2) := by decide +kernel
theorem d_M_point_113 : decode b_M_point 113 = .ok (.bipush 24, 2) := by decide +kernel
theorem d_M_point_115 : decode b_M_point 115 = .ok (.bipush 44, 2) := by decide +kernel
theorem d_M_point_117 : decode b_M_point 117 = .ok (.bipush 49, 2) := by decide +kernel
theorem d_M_point_119 : decode b_M_point 119 = .ok (.invokevirtual 102, 3) := by decide +kernel
theorem d_M_point_122 : decode b_M_point 122 = .ok (.aload_n 0, 1) := by decide +kernel
theorem d_M_point_123 : decode b_M_point 123 = .ok (.bipush 44, 2) := by decide +kernel
theorem d_M_point_125 : decode b_M_point 125 = .ok (.bipush 31, 2) := by decide +kernel
theorem d_M_point_127 : decode b_M_point 127 = .ok (.bipush 34, 2) := by decide +kernel
theorem d_M_point_129 : decode b_M_point 129 = .ok (.invokevirtual 92, 3) := by decide +kernel
theorem d_M_point_132 : decode b_M_point 132 = .ok (.aload_n 0, 1) := by decide +kernel
theorem d_M_point_133 : decode b_M_point 133 = .ok (.bipush 45, 2) := by decide +kernel
theorem d_M_point_135 : decode b_M_point 135 = .ok (.bipush 26, 2) := by decide +kernel
theorem d_M_point_137 : decode b_M_point 137 = .ok (.bipush 44, 2) := by decide +kernel
theorem d_M_point_139 : decode b_M_point 139 = .ok (.bipush 43, 2) := by decide +kernel
theorem d_M_point_141 : decode b_M_point 141 = .ok (.invokevirtual 102, 3) := by decide +kernel
theorem d_M_point_144 : decode b_M_point 144 = .ok (.aload_n 0, 1) := by decide +kernel
theorem d_M_point_145 : decode b_M_point 145 = .ok (.bipush 46, 2) := by decide +kernel
theorem d_M_point_147 : decode b_M_point 147 = .ok (.lconst 0, 1) := by decide +kernel
theorem d_M_point_148 : decode b_M_point 148 = .ok (.invokevirtual 26, 3) := by decide +kernel
theorem d_M_point_151 : decode b_M_point 151 = .ok (.aload_n 0, 1) := by decide +kernel
theorem d_M_point_152 : decode b_M_point 152 = .ok (.bipush 44, 2) := by decide +kernel
theorem d_M_point_154 : decode b_M_point 154 = .ok (.bipush 30, 2) := by decide +kernel
theorem d_M_point_156 : decode b_M_point 156 = .ok (.bipush 30, 2) := by decide +kernel
theorem d_M_point_158 : decode b_M_point 158 = .ok (.invokevirtual 92, 3) := by decide +kernel
theorem d_M_point_161 : decode b_M_point 161 = .ok (.aload_n 0, 1) := by decide +kernel
theorem d_M_point_162 : decode b_M_point 162 = .ok (.bipush 49, 2) := by decide +kernel
theorem d_M_point_164 : decode b_M_point 164 = .ok (.lconst 1, 1) := by decide +kernel
theorem d_M_point_165 : decode b_M_point 165 = .ok (.invokevirtual 26, 3) := by decide +kernel
theorem d_M_point_168 : decode b_M_point 168 = .ok (.aload_n 0, 1) := by decide +kernel
theorem d_M_point_169 : decode b_M_point 169 = .ok (.bipush 46, 2) := by decide +kernel
theorem d_M_point_171 : decode b_M_point 171 = .ok (.bipush 30, 2) := by decide +kernel
theorem d_M_point_173 : decode b_M_point 173 = .ok (.bipush 44, 2) := by decide +kernel
theorem d_M_point_175 : decode b_M_point 175 = .ok (.bipush 49, 2) := by decide +kernel
theorem d_M_point_177 : decode b_M_point 177 = .ok (.invokevirtual 102, 3) := by decide +kernel
theorem d_M_point_180 : decode b_M_point 180 = .ok (.aload_n 0, 1) := by decide +kernel
theorem d_M_point_181 : decode b_M_point 181 = .ok (.bipush 46, 2) := by decide +kernel
theorem d_M_point_183 : decode b_M_point 183 = .ok (.bipush 25, 2) := by decide +kernel
theorem d_M_point_185 : decode b_M_point 185 = .ok (.bipush 44, 2) := by decide +kernel
theorem d_M_point_187 : decode b_M_point 187 = .ok (.bipush 33, 2) := by decide +kernel
theorem d_M_point_189 : decode b_M_point 189 = .ok (.invokevirtual 102, 3) := by decide +kernel
theorem d_M_point_192 : decode b_M_point 192 = .ok (.aload_n 0, 1) := by decide +kernel
theorem d_M_point_193 : decode b_M_point 193 = .ok (.bipush 46, 2) := by decide +kernel
theorem d_M_point_195 : decode b_M_point 195 = .ok (.bipush 27, 2) := by decide +kernel
theorem d_M_point_197 : decode b_M_point 197 = .ok (.bipush 30, 2) := by decide +kernel
theorem d_M_point_199 : decode b_M_point 199 = .ok (.bipush 42, 2) := by decide +kernel
theorem d_M_point_201 : decode b_M_point 201 = .ok (.invokevirtual 102, 3) := by decide +kernel
theorem d_M_point_204 : decode b_M_point 204 = .ok (.aload_n 0, 1) := by decide +kernel
theorem d_M_point_205 : decode b_M_point 205 = .ok (.bipush 46, 2) := by decide +kernel
theorem d_M_point_207 : decode b_M_point 207 = .ok (.bipush 28, 2) := by decide +kernel
theorem d_M_point_209 : decode b_M_point 209 = .ok (.bipush 43, 2) := by decide +kernel
theorem d_M_point_211 : decode b_M_point 211 = .ok (.bipush 49, 2) := by decide +kernel
theorem d_M_point_213 : decode b_M_point 213 = .ok (.invokevirtual 102, 3) := by decide +kernel
theorem d_M_point_216 : decode b_M_point 216 = .ok (.aload_n 0, 1) := by decide +kernel
theorem d_M_point_217 : decode b_M_point 217 = .ok (.bipush 44, 2) := by decide +kernel
theorem d_M_point_219 : decode b_M_point 219 = .ok (.bipush 34, 2) := by decide +kernel
theorem d_M_point_221 : decode b_M_point 221 = .ok (.bipush 34, 2) := by decide +kernel
theorem d_M_point_223 : decode b_M_point 223 = .ok (.invokevirtual 92, 3) := by decide +kernel
theorem d_M_point_226 : decode b_M_point 226 = .ok (.aload_n 0, 1) := by decide +kernel
theorem d_M_point_227 : decode b_M_point 227 = .ok (.bipush 49, 2) := by decide +kernel
theorem d_M_point_229 : decode b_M_point 229 = .ok (.bipush 44, 2) := by decide +kernel
theorem d_M_point_231 : decode b_M_point 231 = .ok (.bipush 46, 2) := by decide +kernel
theorem d_M_point_233 : decode b_M_point 233 = .ok (.invokevirtual 92, 3) := by decide +kernel
theorem d_M_point_236 : decode b_M_point 236 = .ok (.aload_n 0, 1) := by decide +kernel
theorem d_M_point_237 : decode b_M_point 237 = .ok (.bipush 49, 2) := by decide +kernel
theorem d_M_point_239 : decode b_M_point 239 = .ok (.bipush 45, 2) := by decide +kernel
theorem d_M_point_241 : decode b_M_point 241 = .ok (.invokevirtual 105, 3) := by decide +kernel
theorem d_M_point_244 : decode b_M_point 244 = .ok (.ifCond .ne 5, 3) := by decide +kernel
theorem d_M_point_247 : decode b_M_point 247 = .ok (.iconst 0, 1) := by decide +kernel
theorem d_M_point_248 : decode b_M_point 248 = .ok (.ireturn, 1) := by decide +kernel
theorem d_M_point_249 : decode b_M_point 249 = .ok (.aload_n 0, 1) := by decide +kernel
theorem d_M_point_250 : decode b_M_point 250 = .ok (.getfield 19, 3) := by decide +kernel
theorem d_M_point_253 : decode b_M_point 253 = .ok (.bipush 30, 2) := by decide +kernel
theorem d_M_point_255 : decode b_M_point 255 = .ok (.iconst 0, 1) := by decide +kernel
theorem d_M_point_256 : decode b_M_point 256 = .ok (.bastore, 1) := by decide +kernel
theorem d_M_point_257 : decode b_M_point 257 = .ok (.aload_n 0, 1) := by decide +kernel
theorem d_M_point_258 : decode b_M_point 258 = .ok (.bipush 32, 2) := by decide +kernel
theorem d_M_point_260 : decode b_M_point 260 = .ok (.bipush 34, 2) := by decide +kernel
theorem d_M_point_262 : decode b_M_point 262 = .ok (.bipush 33, 2) := by decide +kernel
theorem d_M_point_264 : decode b_M_point 264 = .ok (.invokevirtual 109, 3) := by decide +kernel
theorem d_M_point_267 : decode b_M_point 267 = .ok (.aload_n 0, 1) := by decide +kernel
theorem d_M_point_268 : decode b_M_point 268 = .ok (.bipush 30, 2) := by decide +kernel
theorem d_M_point_270 : decode b_M_point 270 = .ok (.iconst 3, 1) := by decide +kernel
theorem d_M_point_271 : decode b_M_point 271 = .ok (.iload_n 1, 1) := by decide +kernel
theorem d_M_point_272 : decode b_M_point 272 = .ok (.imul, 1) := by decide +kernel
theorem d_M_point_273 : decode b_M_point 273 = .ok (.invokevirtual 112, 3) := by decide +kernel
theorem d_M_point_276 : decode b_M_point 276 = .ok (.iconst 1, 1) := by decide +kernel
theorem d_M_point_277 : decode b_M_point 277 = .ok (.ireturn, 1) := by decide +kernel
theorem d_M_fraction_0 : decode b_M_fraction 0 = .ok (.aload_n 0, 1) := by decide +kernel
theorem d_M_fraction_1 : decode b_M_fraction 1 = .ok (.bipush 45, 2) := by decide +kernel
theorem d_M_fraction_3 : decode b_M_fraction 3 = .ok (.lload_n 3, 1) := by decide +kernel
theorem d_M_fraction_4 : decode b_M_fraction 4 = .ok (.invokevirtual 26, 3) := by decide +kernel
theorem d_M_fraction_7 : decode b_M_fraction 7 = .ok (.aload_n 0, 1) := by decide +kernel
theorem d_M_fraction_8 : decode b_M_fraction 8 = .ok (.bipush 46, 2) := by decide +kernel
theorem d_M_fraction_10 : decode b_M_fraction 10 = .ok (.lload 5, 2) := by decide +kernel
theorem d_M_fraction_12 : decode b_M_fraction 12 = .ok (.invokevirtual 26, 3) := by decide +kernel
theorem d_M_fraction_15 : decode b_M_fraction 15 = .ok (.aload_n 0, 1) := by decide +kernel
theorem d_M_fraction_16 : decode b_M_fraction 16 = .ok (.bipush 45, 2) := by decide +kernel
theorem d_M_fraction_18 : decode b_M_fraction 18 = .ok (.bipush 46, 2) := by decide +kernel
theorem d_M_fraction_20 : decode b_M_fraction 20 = .ok (.invokevirtual 115, 3) := by decide +kernel
theorem d_M_fraction_23 : decode b_M_fraction 23 = .ok (.aload_n 0, 1) := by decide +kernel
theorem d_M_fraction_24 : decode b_M_fraction 24 = .ok (.iload_n 1, 1) := by decide +kernel
theorem d_M_fraction_25 : decode b_M_fraction 25 = .ok (.bipush 45, 2) := by decide +kernel
theorem d_M_fraction_27 : decode b_M_fraction 27 = .ok (.bipush 51, 2) := by decide +kernel
theorem d_M_fraction_29 : decode b_M_fraction 29 = .ok (.invokevirtual 109, 3) := by decide +kernel
theorem d_M_fraction_32 : decode b_M_fraction 32 = .ok (.aload_n 0, 1) := by decide +kernel
theorem d_M_fraction_33 : decode b_M_fraction 33 = .ok (.iload_n 2, 1) := by decide +kernel
theorem d_M_fraction_34 : decode b_M_fraction 34 = .ok (.bipush 46, 2) := by decide +kernel
theorem d_M_fraction_36 : decode b_M_fraction 36 = .ok (.bipush 51, 2) := by decide +kernel
theorem d_M_fraction_38 : decode b_M_fraction 38 = .ok (.invokevirtual 109, 3) := by decide +kernel
theorem d_M_fraction_41 : decode b_M_fraction 41 = .ok (.aload_n 0, 1) := by decide +kernel
theorem d_M_fraction_42 : decode b_M_fraction 42 = .ok (.getfield 16, 3) := by decide +kernel
theorem d_M_fraction_45 : decode b_M_fraction 45 = .ok (.iload_n 2, 1) := by decide +kernel
theorem d_M_fraction_46 : decode b_M_fraction 46 = .ok (.iaload, 1) := by decide +kernel
theorem d_M_fraction_47 : decode b_M_fraction 47 = .ok (.ifCond .ge 23, 3) := by decide +kernel
theorem d_M_fraction_50 : decode b_M_fraction 50 = .ok (.aload_n 0, 1) := by decide +kernel
theorem d_M_fraction_51 : decode b_M_fraction 51 = .ok (.getfield 16, 3) := by decide +kernel
theorem d_M_fraction_54 : decode b_M_fraction 54 = .ok (.iload_n 2, 1) := by decide +kernel
theorem d_M_fraction_55 : decode b_M_fraction 55 = .ok (.iconst 1, 1) := by decide +kernel
theorem d_M_fraction_56 : decode b_M_fraction 56 = .ok (.iastore, 1) := by decide +kernel
theorem d_M_fraction_57 : decode b_M_fraction 57 = .ok (.aload_n 0, 1) := by decide +kernel
theorem d_M_fraction_58 : decode b_M_fraction 58 = .ok (.getfield 16, 3) := by decide +kernel
theorem d_M_fraction_61 : decode b_M_fraction 61 = .ok (.iload_n 1, 1) := by decide +kernel
theorem d_M_fraction_62 : decode b_M_fraction 62 = .ok (.aload_n 0, 1) := by decide +kernel
theorem d_M_fraction_63 : decode b_M_fraction 63 = .ok (.getfield 16, 3) := by decide +kernel
theorem d_M_fraction_66 : decode b_M_fraction 66 = .ok (.iload_n 1, 1) := by decide +kernel
theorem d_M_fraction_67 : decode b_M_fraction 67 = .ok (.iaload, 1) := by decide +kernel
theorem d_M_fraction_68 : decode b_M_fraction 68 = .ok (.ineg, 1) := by decide +kernel
theorem d_M_fraction_69 : decode b_M_fraction 69 = .ok (.iastore, 1) := by decide +kernel
theorem d_M_fraction_70 : decode b_M_fraction 70 = .ok (.return_, 1) := by decide +kernel
theorem d_M_join_0 : decode b_M_join 0 = .ok (.aload_n 0, 1) := by decide +kernel
theorem d_M_join_1 : decode b_M_join 1 = .ok (.getfield 19, 3) := by decide +kernel
theorem d_M_join_4 : decode b_M_join 4 = .ok (.bipush 30, 2) := by decide +kernel
theorem d_M_join_6 : decode b_M_join 6 = .ok (.baload, 1) := by decide +kernel
theorem d_M_join_7 : decode b_M_join 7 = .ok (.ifCond .ne 13, 3) := by decide +kernel
theorem d_M_join_10 : decode b_M_join 10 = .ok (.aload_n 0, 1) := by decide +kernel
theorem d_M_join_11 : decode b_M_join 11 = .ok (.getfield 19, 3) := by decide +kernel
theorem d_M_join_14 : decode b_M_join 14 = .ok (.bipush 33, 2) := by decide +kernel
theorem d_M_join_16 : decode b_M_join 16 = .ok (.baload, 1) := by decide +kernel
theorem d_M_join_17 : decode b_M_join 17 = .ok (.ifCond .eq 27, 3) := by decide +kernel
theorem d_M_join_20 : decode b_M_join 20 = .ok (.aload_n 0, 1) := by decide +kernel
theorem d_M_join_21 : decode b_M_join 21 = .ok (.aload_n 0, 1) := by decide +kernel
theorem d_M_join_22 : decode b_M_join 22 = .ok (.getfield 19, 3) := by decide +kernel
theorem d_M_join_25 : decode b_M_join 25 = .ok (.bipush 30, 2) := by decide +kernel
theorem d_M_join_27 : decode b_M_join 27 = .ok (.baload, 1) := by decide +kernel
theorem d_M_join_28 : decode b_M_join 28 = .ok (.ifCond .eq 8, 3) := by decide +kernel
theorem d_M_join_31 : decode b_M_join 31 = .ok (.bipush 33, 2) := by decide +kernel
theorem d_M_join_33 : decode b_M_join 33 = .ok (.goto 5, 3) := by decide +kernel
theorem d_M_join_36 : decode b_M_join 36 = .ok (.bipush 30, 2) := by decide +kernel
theorem d_M_join_38 : decode b_M_join 38 = .ok (.bipush 36, 2) := by decide +kernel
theorem d_M_join_40 : decode b_M_join 40 = .ok (.invokevirtual 112, 3) := by decide +kernel
theorem d_M_join_43 : decode b_M_join 43 = .ok (.return_, 1) := by decide +kernel
theorem d_M_join_44 : decode b_M_join 44 = .ok (.aload_n 0, 1) := by decide +kernel
theorem d_M_join_45 : decode b_M_join 45 = .ok (.bipush 30, 2) := by decide +kernel
theorem d_M_join_47 : decode b_M_join 47 = .ok (.bipush 33, 2) := by decide +kernel
theorem d_M_join_49 : decode b_M_join 49 = .ok (.invokevirtual 105, 3) := by decide +kernel
theorem d_M_join_52 : decode b_M_join 52 = .ok (.ifCond .eq 37, 3) := by decide +kernel
theorem d_M_join_55 : decode b_M_join 55 = .ok (.aload_n 0, 1) := by decide +kernel
theorem d_M_join_56 : decode b_M_join 56 = .ok (.bipush 32, 2) := by decide +kernel
theorem d_M_join_58 : decode b_M_join 58 = .ok (.bipush 35, 2) := by decide +kernel
theorem d_M_join_60 : decode b_M_join 60 = .ok (.invokevirtual 105, 3) := by decide +kernel
theorem d_M_join_63 : decode b_M_join 63 = .ok (.ifCond .eq 26, 3) := by decide +kernel
theorem d_M_join_66 : decode b_M_join 66 = .ok (.aload_n 0, 1) := by decide +kernel
theorem d_M_join_67 : decode b_M_join 67 = .ok (.invokevirtual 118, 3) := by decide +kernel
theorem d_M_join_70 : decode b_M_join 70 = .ok (.ifCond .eq 14, 3) := by decide +kernel
theorem d_M_join_73 : decode b_M_join 73 = .ok (.aload_n 0, 1) := by decide +kernel
theorem d_M_join_74 : decode b_M_join 74 = .ok (.getfield 19, 3) := by decide +kernel
theorem d_M_join_77 : decode b_M_join 77 = .ok (.bipush 36, 2) := by decide +kernel
theorem d_M_join_79 : decode b_M_join 79 = .ok (.iconst 1, 1) := by decide +kernel
theorem d_M_join_80 : decode b_M_join 80 = .ok (.bastore, 1) := by decide +kernel
theorem d_M_join_81 : decode b_M_join 81 = .ok (.goto 7, 3) := by decide +kernel
theorem d_M_join_84 : decode b_M_join 84 = .ok (.aload_n 0, 1) := by decide +kernel
theorem d_M_join_85 : decode b_M_join 85 = .ok (.invokevirtual 122, 3) := by decide +kernel
theorem d_M_join_88 : decode b_M_join 88 = .ok (.return_, 1) := by decide +kernel
theorem d_M_join_89 : decode b_M_join 89 = .ok (.aload_n 0, 1) := by decide +kernel
theorem d_M_join_90 : decode b_M_join 90 = .ok (.bipush 47, 2) := by decide +kernel
theorem d_M_join_92 : decode b_M_join 92 = .ok (.bipush 32, 2) := by decide +kernel
theorem d_M_join_94 : decode b_M_join 94 = .ok (.bipush 32, 2) := by decide +kernel
theorem d_M_join_96 : decode b_M_join 96 = .ok (.invokevirtual 92, 3) := by decide +kernel
theorem d_M_join_99 : decode b_M_join 99 = .ok (.aload_n 0, 1) := by decide +kernel
theorem d_M_join_100 : decode b_M_join 100 = .ok (.bipush 48, 2) := by decide +kernel
theorem d_M_join_102 : decode b_M_join 102 = .ok (.bipush 35, 2) := by decide +kernel
theorem d_M_join_104 : decode b_M_join 104 = .ok (.bipush 35, 2) := by decide +kernel
theorem d_M_join_106 : decode b_M_join 106 = .ok (.invokevirtual 92, 3) := by decide +kernel
theorem d_M_join_109 : decode b_M_join 109 = .ok (.aload_n 0, 1) := by decide +kernel
theorem d_M_join_110 : decode b_M_join 110 = .ok (.bipush 45, 2) := by decide +kernel
theorem d_M_join_112 : decode b_M_join 112 = .ok (.bipush 33, 2) := by decide +kernel
theorem d_M_join_114 : decode b_M_join 114 = .ok (.bipush 47, 2) := by decide +kernel
theorem d_M_join_116 : decode b_M_join 116 = .ok (.invokevirtual 92, 3) := by decide +kernel
theorem d_M_join_119 : decode b_M_join 119 = .ok (.aload_n 0, 1) := by decide +kernel
theorem d_M_join_120 : decode b_M_join 120 = .ok (.bipush 46, 2) := by decide +kernel
theorem d_M_join_122 : decode b_M_join 122 = .ok (.bipush 30, 2) := by decide +kernel
theorem d_M_join_124 : decode b_M_join 124 = .ok (.bipush 48, 2) := by decide +kernel
theorem d_M_join_126 : decode b_M_join 126 = .ok (.invokevirtual 92, 3) := by decide +kernel
theorem d_M_join_129 : decode b_M_join 129 = .ok (.aload_n 0, 1) := by decide +kernel
theorem d_M_join_130 : decode b_M_join 130 = .ok (.bipush 43, 2) := by decide +kernel
theorem d_M_join_132 : decode b_M_join 132 = .ok (.bipush 45, 2) := by decide +kernel
theorem d_M_join_134 : decode b_M_join 134 = .ok (.bipush 46, 2) := by decide +kernel
theorem d_M_join_136 : decode b_M_join 136 = .ok (.iconst (-1), 1) := by decide +kernel
theorem d_M_join_137 : decode b_M_join 137 = .ok (.invokevirtual 83, 3) := by decide +kernel
theorem d_M_join_140 : decode b_M_join 140 = .ok (.aload_n 0, 1) := by decide +kernel
theorem d_M_join_141 : decode b_M_join 141 = .ok (.bipush 50, 2) := by decide +kernel
theorem d_M_join_143 : decode b_M_join 143 = .ok (.bipush 45, 2) := by decide +kernel
theorem d_M_join_145 : decode b_M_join 145 = .ok (.bipush 46, 2) := by decide +kernel
theorem d_M_join_147 : decode b_M_join 147 = .ok (.iconst 1, 1) := by decide +kernel
theorem d_M_join_148 : decode b_M_join 148 = .ok (.invokevirtual 83, 3) := by decide +kernel
theorem d_M_join_151 : decode b_M_join 151 = .ok (.aload_n 0, 1) := by decide +kernel
theorem d_M_join_152 : decode b_M_join 152 = .ok (.bipush 46, 2) := by decide +kernel
theorem d_M_join_154 : decode b_M_join 154 = .ok (.bipush 49, 2) := by decide +kernel
theorem d_M_join_156 : decode b_M_join 156 = .ok (.invokevirtual 40, 3) := by decide +kernel
theorem d_M_join_159 : decode b_M_join 159 = .ok (.aload_n 0, 1) := by decide +kernel
theorem d_M_join_160 : decode b_M_join 160 = .ok (.bipush 45, 2) := by decide +kernel
theorem d_M_join_162 : decode b_M_join 162 = .ok (.bipush 47, 2) := by decide +kernel
theorem d_M_join_164 : decode b_M_join 164 = .ok (.bipush 32, 2) := by decide +kernel
theorem d_M_join_166 : decode b_M_join 166 = .ok (.invokevirtual 92, 3) := by decide +kernel
theorem d_M_join_169 : decode b_M_join 169 = .ok (.aload_n 0, 1) := by decide +kernel
theorem d_M_join_170 : decode b_M_join 170 = .ok (.bipush 46, 2) := by decide +kernel
theorem d_M_join_172 : decode b_M_join 172 = .ok (.bipush 48, 2) := by decide +kernel
theorem d_M_join_174 : decode b_M_join 174 = .ok (.bipush 35, 2) := by decide +kernel
theorem d_M_join_176 : decode b_M_join 176 = .ok (.invokevirtual 92, 3) := by decide +kernel
theorem d_M_join_179 : decode b_M_join 179 = .ok (.aload_n 0, 1) := by decide +kernel
theorem d_M_join_180 : decode b_M_join 180 = .ok (.bipush 42, 2) := by decide +kernel
theorem d_M_join_182 : decode b_M_join 182 = .ok (.bipush 34, 2) := by decide +kernel
theorem d_M_join_184 : decode b_M_join 184 = .ok (.bipush 45, 2) := by decide +kernel
theorem d_M_join_186 : decode b_M_join 186 = .ok (.invokevirtual 92, 3) := by decide +kernel
theorem d_M_join_189 : decode b_M_join 189 = .ok (.aload_n 0, 1) := by decide +kernel
theorem d_M_join_190 : decode b_M_join 190 = .ok (.bipush 47, 2) := by decide +kernel
theorem d_M_join_192 : decode b_M_join 192 = .ok (.bipush 31, 2) := by decide +kernel
theorem d_M_join_194 : decode b_M_join 194 = .ok (.bipush 46, 2) := by decide +kernel
theorem d_M_join_196 : decode b_M_join 196 = .ok (.invokevirtual 92, 3) := by decide +kernel
theorem d_M_join_199 : decode b_M_join 199 = .ok (.aload_n 0, 1) := by decide +kernel
theorem d_M_join_200 : decode b_M_join 200 = .ok (.bipush 42, 2) := by decide +kernel
theorem d_M_join_202 : decode b_M_join 202 = .ok (.bipush 42, 2) := by decide +kernel
theorem d_M_join_204 : decode b_M_join 204 = .ok (.bipush 47, 2) := by decide +kernel
theorem d_M_join_206 : decode b_M_join 206 = .ok (.iconst (-1), 1) := by decide +kernel
theorem d_M_join_207 : decode b_M_join 207 = .ok (.invokevirtual 83, 3) := by decide +kernel
theorem d_M_join_210 : decode b_M_join 210 = .ok (.aload_n 0, 1) := by decide +kernel
theorem d_M_join_211 : decode b_M_join 211 = .ok (.bipush 47, 2) := by decide +kernel
theorem d_M_join_213 : decode b_M_join 213 = .ok (.bipush 39, 2) := by decide +kernel
theorem d_M_join_215 : decode b_M_join 215 = .ok (.invokevirtual 40, 3) := by decide +kernel
theorem d_M_join_218 : decode b_M_join 218 = .ok (.aload_n 0, 1) := by decide +kernel
theorem d_M_join_219 : decode b_M_join 219 = .ok (.bipush 47, 2) := by decide +kernel
theorem d_M_join_221 : decode b_M_join 221 = .ok (.bipush 32, 2) := by decide +kernel
theorem d_M_join_223 : decode b_M_join 223 = .ok (.bipush 35, 2) := by decide +kernel
theorem d_M_join_225 : decode b_M_join 225 = .ok (.invokevirtual 92, 3) := by decide +kernel
theorem d_M_join_228 : decode b_M_join 228 = .ok (.aload_n 0, 1) := by decide +kernel
theorem d_M_join_229 : decode b_M_join 229 = .ok (.bipush 44, 2) := by decide +kernel
theorem d_M_join_231 : decode b_M_join 231 = .ok (.bipush 47, 2) := by decide +kernel
theorem d_M_join_233 : decode b_M_join 233 = .ok (.bipush 43, 2) := by decide +kernel
theorem d_M_join_235 : decode b_M_join 235 = .ok (.invokevirtual 92, 3) := by decide +kernel
theorem d_M_join_238 : decode b_M_join 238 = .ok (.aload_n 0, 1) := by decide +kernel
theorem d_M_join_239 : decode b_M_join 239 = .ok (.invokevirtual 125, 3) := by decide +kernel
theorem d_M_join_242 : decode b_M_join 242 = .ok (.return_, 1) := by decide +kernel
theorem d_M_isOther_0 : decode b_M_isOther 0 = .ok (.aload_n 0, 1) := by decide +kernel
theorem d_M_isOther_1 : decode b_M_isOther 1 = .ok (.bipush 45, 2) := by decide +kernel
theorem d_M_isOther_3 : decode b_M_isOther 3 = .ok (.bipush 31, 2) := by decide +kernel
theorem d_M_isOther_5 : decode b_M_isOther 5 = .ok (.bipush 34, 2) := by decide +kernel
theorem d_M_isOther_7 : decode b_M_isOther 7 = .ok (.iconst 1, 1) := by decide +kernel
theorem d_M_isOther_8 : decode b_M_isOther 8 = .ok (.invokevirtual 83, 3) := by decide +kernel
theorem d_M_isOther_11 : decode b_M_isOther 11 = .ok (.aload_n 0, 1) := by decide +kernel
theorem d_M_isOther_12 : decode b_M_isOther 12 = .ok (.bipush 45, 2) := by decide +kernel
theorem d_M_isOther_14 : decode b_M_isOther 14 = .ok (.bipush 24, 2) := by decide +kernel
theorem d_M_isOther_16 : decode b_M_isOther 16 = .ok (.bipush 30, 2) := by decide +kernel
theorem d_M_isOther_18 : decode b_M_isOther 18 = .ok (.bipush 32, 2) := by decide +kernel
theorem d_M_isOther_20 : decode b_M_isOther 20 = .ok (.invokevirtual 102, 3) := by decide +kernel
theorem d_M_isOther_23 : decode b_M_isOther 23 = .ok (.aload_n 0, 1) := by decide +kernel
theorem d_M_isOther_24 : decode b_M_isOther 24 = .ok (.bipush 49, 2) := by decide +kernel
theorem d_M_isOther_26 : decode b_M_isOther 26 = .ok (.bipush 32, 2) := by decide +kernel
theorem d_M_isOther_28 : decode b_M_isOther 28 = .ok (.bipush 32, 2) := by decide +kernel
theorem d_M_isOther_30 : decode b_M_isOther 30 = .ok (.invokevirtual 92, 3) := by decide +kernel
theorem d_M_isOther_33 : decode b_M_isOther 33 = .ok (.aload_n 0, 1) := by decide +kernel
theorem d_M_isOther_34 : decode b_M_isOther 34 = .ok (.bipush 45, 2) := by decide +kernel
theorem d_M_isOther_36 : decode b_M_isOther 36 = .ok (.bipush 26, 2) := by decide +kernel
theorem d_M_isOther_38 : decode b_M_isOther 38 = .ok (.bipush 49, 2) := by decide +kernel
theorem d_M_isOther_40 : decode b_M_isOther 40 = .ok (.bipush 32, 2) := by decide +kernel
theorem d_M_isOther_42 : decode b_M_isOther 42 = .ok (.invokevirtual 102, 3) := by decide +kernel
theorem d_M_isOther_45 : decode b_M_isOther 45 = .ok (.aload_n 0, 1) := by decide +kernel
theorem d_M_isOther_46 : decode b_M_isOther 46 = .ok (.getfield 16, 3) := by decide +kernel
theorem d_M_isOther_49 : decode b_M_isOther 49 = .ok (.bipush 45, 2) := by decide +kernel
theorem d_M_isOther_51 : decode b_M_isOther 51 = .ok (.iaload, 1) := by decide +kernel
theorem d_M_isOther_52 : decode b_M_isOther 52 = .ok (.ifCond .ne 7, 3) := by decide +kernel
theorem d_M_isOther_55 : decode b_M_isOther 55 = .ok (.iconst 1, 1) := by decide +kernel
theorem d_M_isOther_56 : decode b_M_isOther 56 = .ok (.goto 4, 3) := by decide +kernel
theorem d_M_isOther_59 : decode b_M_isOther 59 = .ok (.iconst 0, 1) := by decide +kernel
theorem d_M_isOther_60 : decode b_M_isOther 60 = .ok (.ireturn, 1) := by decide +kernel
theorem d_M_touch_0 : decode b_M_touch 0 = .ok (.aload_n 0, 1) := by decide +kernel
theorem d_M_touch_1 : decode b_M_touch 1 = .ok (.bipush 49, 2) := by decide +kernel
theorem d_M_touch_3 : decode b_M_touch 3 = .ok (.bipush 32, 2) := by decide +kernel
theorem d_M_touch_5 : decode b_M_touch 5 = .ok (.bipush 32, 2) := by decide +kernel
theorem d_M_touch_7 : decode b_M_touch 7 = .ok (.invokevirtual 92, 3) := by decide +kernel
theorem d_M_touch_10 : decode b_M_touch 10 = .ok (.aload_n 0, 1) := by decide +kernel
theorem d_M_touch_11 : decode b_M_touch 11 = .ok (.bipush 43, 2) := by decide +kernel
theorem d_M_touch_13 : decode b_M_touch 13 = .ok (.bipush 31, 2) := by decide +kernel
theorem d_M_touch_15 : decode b_M_touch 15 = .ok (.bipush 31, 2) := by decide +kernel
theorem d_M_touch_17 : decode b_M_touch 17 = .ok (.iconst 1, 1) := by decide +kernel
theorem d_M_touch_18 : decode b_M_touch 18 = .ok (.invokevirtual 83, 3) := by decide +kernel
theorem d_M_touch_21 : decode b_M_touch 21 = .ok (.aload_n 0, 1) := by decide +kernel
theorem d_M_touch_22 : decode b_M_touch 22 = .ok (.bipush 43, 2) := by decide +kernel
theorem d_M_touch_24 : decode b_M_touch 24 = .ok (.bipush 24, 2) := by decide +kernel
theorem d_M_touch_26 : decode b_M_touch 26 = .ok (.bipush 30, 2) := by decide +kernel
theorem d_M_touch_28 : decode b_M_touch 28 = .ok (.bipush 32, 2) := by decide +kernel
theorem d_M_touch_30 : decode b_M_touch 30 = .ok (.invokevirtual 102, 3) := by decide +kernel
theorem d_M_touch_33 : decode b_M_touch 33 = .ok (.aload_n 0, 1) := by decide +kernel
theorem d_M_touch_34 : decode b_M_touch 34 = .ok (.bipush 43, 2) := by decide +kernel
theorem d_M_touch_36 : decode b_M_touch 36 = .ok (.bipush 26, 2) := by decide +kernel
theorem d_M_touch_38 : decode b_M_touch 38 = .ok (.bipush 49, 2) := by decide +kernel
theorem d_M_touch_40 : decode b_M_touch 40 = .ok (.bipush 32, 2) := by decide +kernel
theorem d_M_touch_42 : decode b_M_touch 42 = .ok (.invokevirtual 102, 3) := by decide +kernel
theorem d_M_touch_45 : decode b_M_touch 45 = .ok (.aload_n 0, 1) := by decide +kernel
theorem d_M_touch_46 : decode b_M_touch 46 = .ok (.bipush 42, 2) := by decide +kernel
theorem d_M_touch_48 : decode b_M_touch 48 = .ok (.bipush 30, 2) := by decide +kernel
theorem d_M_touch_50 : decode b_M_touch 50 = .ok (.bipush 30, 2) := by decide +kernel
theorem d_M_touch_52 : decode b_M_touch 52 = .ok (.invokevirtual 92, 3) := by decide +kernel
theorem d_M_touch_55 : decode b_M_touch 55 = .ok (.aload_n 0, 1) := by decide +kernel
theorem d_M_touch_56 : decode b_M_touch 56 = .ok (.bipush 50, 2) := by decide +kernel
theorem d_M_touch_58 : decode b_M_touch 58 = .ok (.ldc2_w 128, 3) := by decide +kernel
theorem d_M_touch_61 : decode b_M_touch 61 = .ok (.invokevirtual 26, 3) := by decide +kernel
theorem d_M_touch_64 : decode b_M_touch 64 = .ok (.aload_n 0, 1) := by decide +kernel
theorem d_M_touch_65 : decode b_M_touch 65 = .ok (.bipush 45, 2) := by decide +kernel
theorem d_M_touch_67 : decode b_M_touch 67 = .ok (.bipush 42, 2) := by decide +kernel
theorem d_M_touch_69 : decode b_M_touch 69 = .ok (.bipush 50, 2) := by decide +kernel
theorem d_M_touch_71 : decode b_M_touch 71 = .ok (.invokevirtual 92, 3) := by decide +kernel
theorem d_M_touch_74 : decode b_M_touch 74 = .ok (.aload_n 0, 1) := by decide +kernel
theorem d_M_touch_75 : decode b_M_touch 75 = .ok (.bipush 45, 2) := by decide +kernel
theorem d_M_touch_77 : decode b_M_touch 77 = .ok (.bipush 42, 2) := by decide +kernel
theorem d_M_touch_79 : decode b_M_touch 79 = .ok (.invokevirtual 40, 3) := by decide +kernel
theorem d_M_touch_82 : decode b_M_touch 82 = .ok (.aload_n 0, 1) := by decide +kernel
theorem d_M_touch_83 : decode b_M_touch 83 = .ok (.bipush 45, 2) := by decide +kernel
theorem d_M_touch_85 : decode b_M_touch 85 = .ok (.bipush 25, 2) := by decide +kernel
theorem d_M_touch_87 : decode b_M_touch 87 = .ok (.bipush 30, 2) := by decide +kernel
theorem d_M_touch_89 : decode b_M_touch 89 = .ok (.invokevirtual 92, 3) := by decide +kernel
theorem d_M_touch_92 : decode b_M_touch 92 = .ok (.aload_n 0, 1) := by decide +kernel
theorem d_M_touch_93 : decode b_M_touch 93 = .ok (.bipush 45, 2) := by decide +kernel
theorem d_M_touch_95 : decode b_M_touch 95 = .ok (.bipush 45, 2) := by decide +kernel
theorem d_M_touch_97 : decode b_M_touch 97 = .ok (.bipush 45, 2) := by decide +kernel
theorem d_M_touch_99 : decode b_M_touch 99 = .ok (.iconst 1, 1) := by decide +kernel
theorem d_M_touch_100 : decode b_M_touch 100 = .ok (.invokevirtual 83, 3) := by decide +kernel
theorem d_M_touch_103 : decode b_M_touch 103 = .ok (.aload_n 0, 1) := by decide +kernel
theorem d_M_touch_104 : decode b_M_touch 104 = .ok (.bipush 46, 2) := by decide +kernel
theorem d_M_touch_106 : decode b_M_touch 106 = .ok (.bipush 45, 2) := by decide +kernel
theorem d_M_touch_108 : decode b_M_touch 108 = .ok (.bipush 49, 2) := by decide +kernel
theorem d_M_touch_110 : decode b_M_touch 110 = .ok (.invokevirtual 92, 3) := by decide +kernel
theorem d_M_touch_113 : decode b_M_touch 113 = .ok (.aload_n 0, 1) := by decide +kernel
theorem d_M_touch_114 : decode b_M_touch 114 = .ok (.bipush 42, 2) := by decide +kernel
theorem d_M_touch_116 : decode b_M_touch 116 = .ok (.bipush 42, 2) := by decide +kernel
theorem d_M_touch_118 : decode b_M_touch 118 = .ok (.bipush 46, 2) := by decide +kernel
theorem d_M_touch_120 : decode b_M_touch 120 = .ok (.iconst 1, 1) := by decide +kernel
theorem d_M_touch_121 : decode b_M_touch 121 = .ok (.invokevirtual 83, 3) := by decide +kernel
theorem d_M_touch_124 : decode b_M_touch 124 = .ok (.aload_n 0, 1) := by decide +kernel
theorem d_M_touch_125 : decode b_M_touch 125 = .ok (.bipush 42, 2) := by decide +kernel
theorem d_M_touch_127 : decode b_M_touch 127 = .ok (.bipush 27, 2) := by decide +kernel
theorem d_M_touch_129 : decode b_M_touch 129 = .ok (.bipush 49, 2) := by decide +kernel
theorem d_M_touch_131 : decode b_M_touch 131 = .ok (.bipush 49, 2) := by decide +kernel
theorem d_M_touch_133 : decode b_M_touch 133 = .ok (.invokevirtual 102, 3) := by decide +kernel
theorem d_M_touch_136 : decode b_M_touch 136 = .ok (.aload_n 0, 1) := by decide +kernel
theorem d_M_touch_137 : decode b_M_touch 137 = .ok (.bipush 45, 2) := by decide +kernel
theorem d_M_touch_139 : decode b_M_touch 139 = .ok (.bipush 24, 2) := by decide +kernel
theorem d_M_touch_141 : decode b_M_touch 141 = .ok (.bipush 31, 2) := by decide +kernel
theorem d_M_touch_143 : decode b_M_touch 143 = .ok (.invokevirtual 92, 3) := by decide +kernel
theorem d_M_touch_146 : decode b_M_touch 146 = .ok (.aload_n 0, 1) := by decide +kernel
theorem d_M_touch_147 : decode b_M_touch 147 = .ok (.bipush 46, 2) := by decide +kernel
theorem d_M_touch_149 : decode b_M_touch 149 = .ok (.bipush 45, 2) := by decide +kernel
theorem d_M_touch_151 : decode b_M_touch 151 = .ok (.bipush 32, 2) := by decide +kernel
theorem d_M_touch_153 : decode b_M_touch 153 = .ok (.invokevirtual 92, 3) := by decide +kernel
theorem d_M_touch_156 : decode b_M_touch 156 = .ok (.aload_n 0, 1) := by decide +kernel
theorem d_M_touch_157 : decode b_M_touch 157 = .ok (.bipush 42, 2) := by decide +kernel
theorem d_M_touch_159 : decode b_M_touch 159 = .ok (.bipush 42, 2) := by decide +kernel
theorem d_M_touch_161 : decode b_M_touch 161 = .ok (.bipush 46, 2) := by decide +kernel
theorem d_M_touch_163 : decode b_M_touch 163 = .ok (.iconst (-1), 1) := by decide +kernel
theorem d_M_touch_164 : decode b_M_touch 164 = .ok (.invokevirtual 83, 3) := by decide +kernel
theorem d_M_touch_167 : decode b_M_touch 167 = .ok (.aload_n 0, 1) := by decide +kernel
theorem d_M_touch_168 : decode b_M_touch 168 = .ok (.bipush 44, 2) := by decide +kernel
theorem d_M_touch_170 : decode b_M_touch 170 = .ok (.bipush 32, 2) := by decide +kernel
theorem d_M_touch_172 : decode b_M_touch 172 = .ok (.bipush 43, 2) := by decide +kernel
theorem d_M_touch_174 : decode b_M_touch 174 = .ok (.invokevirtual 92, 3) := by decide +kernel
theorem d_M_touch_177 : decode b_M_touch 177 = .ok (.aload_n 0, 1) := by decide +kernel
end
section
theorem d_M_touch_178 : decode b_M_touch 178 = .ok (.bipush 50, 2) := by decide +kernel
theorem d_M_touch_180 : decode b_M_touch 180 = .ok (.bipush 30, 2) := by decide +kernel
theorem d_M_touch_182 : decode b_M_touch 182 = .ok (.bipush 30, 2) := by decide +kernel
theorem d_M_touch_184 : decode b_M_touch 184 = .ok (.iconst 1, 1) := by decide +kernel
theorem d_M_touch_185 : decode b_M_touch 185 = .ok (.invokevirtual 83, 3) := by decide +kernel
theorem d_M_touch_188 : decode b_M_touch 188 = .ok (.aload_n 0, 1) := by decide +kernel
theorem d_M_touch_189 : decode b_M_touch 189 = .ok (.bipush 30, 2) := by decide +kernel
theorem d_M_touch_191 : decode b_M_touch 191 = .ok (.bipush 49, 2) := by decide +kernel
theorem d_M_touch_193 : decode b_M_touch 193 = .ok (.invokevirtual 40, 3) := by decide +kernel
theorem d_M_touch_196 : decode b_M_touch 196 = .ok (.aload_n 0, 1) := by decide +kernel
theorem d_M_touch_197 : decode b_M_touch 197 = .ok (.bipush 31, 2) := by decide +kernel
theorem d_M_touch_199 : decode b_M_touch 199 = .ok (.bipush 39, 2) := by decide +kernel
theorem d_M_touch_201 : decode b_M_touch 201 = .ok (.invokevirtual 40, 3) := by decide +kernel
theorem d_M_touch_204 : decode b_M_touch 204 = .ok (.aload_n 0, 1) := by decide +kernel
theorem d_M_touch_205 : decode b_M_touch 205 = .ok (.invokevirtual 125, 3) := by decide +kernel
theorem d_M_touch_208 : decode b_M_touch 208 = .ok (.return_, 1) := by decide +kernel
theorem d_M_finish_0 : decode b_M_finish 0 = .ok (.aload_n 0, 1) := by decide +kernel
theorem d_M_finish_1 : decode b_M_finish 1 = .ok (.bipush 53, 2) := by decide +kernel
theorem d_M_finish_3 : decode b_M_finish 3 = .ok (.bipush 43, 2) := by decide +kernel
theorem d_M_finish_5 : decode b_M_finish 5 = .ok (.bipush 43, 2) := by decide +kernel
theorem d_M_finish_7 : decode b_M_finish 7 = .ok (.invokevirtual 92, 3) := by decide +kernel
theorem d_M_finish_10 : decode b_M_finish 10 = .ok (.aload_n 0, 1) := by decide +kernel
theorem d_M_finish_11 : decode b_M_finish 11 = .ok (.bipush 54, 2) := by decide +kernel
theorem d_M_finish_13 : decode b_M_finish 13 = .ok (.bipush 53, 2) := by decide +kernel
theorem d_M_finish_15 : decode b_M_finish 15 = .ok (.bipush 50, 2) := by decide +kernel
theorem d_M_finish_17 : decode b_M_finish 17 = .ok (.invokevirtual 92, 3) := by decide +kernel
theorem d_M_finish_20 : decode b_M_finish 20 = .ok (.aload_n 0, 1) := by decide +kernel
theorem d_M_finish_21 : decode b_M_finish 21 = .ok (.bipush 54, 2) := by decide +kernel
theorem d_M_finish_23 : decode b_M_finish 23 = .ok (.bipush 50, 2) := by decide +kernel
theorem d_M_finish_25 : decode b_M_finish 25 = .ok (.invokevirtual 40, 3) := by decide +kernel
theorem d_M_finish_28 : decode b_M_finish 28 = .ok (.aload_n 0, 1) := by decide +kernel
theorem d_M_finish_29 : decode b_M_finish 29 = .ok (.bipush 45, 2) := by decide +kernel
theorem d_M_finish_31 : decode b_M_finish 31 = .ok (.bipush 42, 2) := by decide +kernel
theorem d_M_finish_33 : decode b_M_finish 33 = .ok (.bipush 42, 2) := by decide +kernel
theorem d_M_finish_35 : decode b_M_finish 35 = .ok (.invokevirtual 92, 3) := by decide +kernel
theorem d_M_finish_38 : decode b_M_finish 38 = .ok (.aload_n 0, 1) := by decide +kernel
theorem d_M_finish_39 : decode b_M_finish 39 = .ok (.bipush 54, 2) := by decide +kernel
theorem d_M_finish_41 : decode b_M_finish 41 = .ok (.bipush 24, 2) := by decide +kernel
theorem d_M_finish_43 : decode b_M_finish 43 = .ok (.bipush 42, 2) := by decide +kernel
theorem d_M_finish_45 : decode b_M_finish 45 = .ok (.invokevirtual 92, 3) := by decide +kernel
theorem d_M_finish_48 : decode b_M_finish 48 = .ok (.aload_n 0, 1) := by decide +kernel
theorem d_M_finish_49 : decode b_M_finish 49 = .ok (.bipush 46, 2) := by decide +kernel
theorem d_M_finish_51 : decode b_M_finish 51 = .ok (.bipush 54, 2) := by decide +kernel
theorem d_M_finish_53 : decode b_M_finish 53 = .ok (.bipush 44, 2) := by decide +kernel
theorem d_M_finish_55 : decode b_M_finish 55 = .ok (.invokevirtual 92, 3) := by decide +kernel
theorem d_M_finish_58 : decode b_M_finish 58 = .ok (.aload_n 0, 1) := by decide +kernel
theorem d_M_finish_59 : decode b_M_finish 59 = .ok (.bipush 45, 2) := by decide +kernel
theorem d_M_finish_61 : decode b_M_finish 61 = .ok (.bipush 45, 2) := by decide +kernel
theorem d_M_finish_63 : decode b_M_finish 63 = .ok (.bipush 46, 2) := by decide +kernel
theorem d_M_finish_65 : decode b_M_finish 65 = .ok (.iconst 1, 1) := by decide +kernel
theorem d_M_finish_66 : decode b_M_finish 66 = .ok (.invokevirtual 83, 3) := by decide +kernel
theorem d_M_finish_69 : decode b_M_finish 69 = .ok (.aload_n 0, 1) := by decide +kernel
theorem d_M_finish_70 : decode b_M_finish 70 = .ok (.bipush 54, 2) := by decide +kernel
theorem d_M_finish_72 : decode b_M_finish 72 = .ok (.bipush 44, 2) := by decide +kernel
theorem d_M_finish_74 : decode b_M_finish 74 = .ok (.bipush 44, 2) := by decide +kernel
theorem d_M_finish_76 : decode b_M_finish 76 = .ok (.invokevirtual 92, 3) := by decide +kernel
theorem d_M_finish_79 : decode b_M_finish 79 = .ok (.aload_n 0, 1) := by decide +kernel
theorem d_M_finish_80 : decode b_M_finish 80 = .ok (.bipush 46, 2) := by decide +kernel
theorem d_M_finish_82 : decode b_M_finish 82 = .ok (.bipush 25, 2) := by decide +kernel
theorem d_M_finish_84 : decode b_M_finish 84 = .ok (.bipush 54, 2) := by decide +kernel
theorem d_M_finish_86 : decode b_M_finish 86 = .ok (.invokevirtual 92, 3) := by decide +kernel
theorem d_M_finish_89 : decode b_M_finish 89 = .ok (.aload_n 0, 1) := by decide +kernel
theorem d_M_finish_90 : decode b_M_finish 90 = .ok (.bipush 45, 2) := by decide +kernel
theorem d_M_finish_92 : decode b_M_finish 92 = .ok (.bipush 45, 2) := by decide +kernel
theorem d_M_finish_94 : decode b_M_finish 94 = .ok (.bipush 46, 2) := by decide +kernel
theorem d_M_finish_96 : decode b_M_finish 96 = .ok (.iconst (-1), 1) := by decide +kernel
theorem d_M_finish_97 : decode b_M_finish 97 = .ok (.invokevirtual 83, 3) := by decide +kernel
theorem d_M_finish_100 : decode b_M_finish 100 = .ok (.aload_n 0, 1) := by decide +kernel
theorem d_M_finish_101 : decode b_M_finish 101 = .ok (.bipush 45, 2) := by decide +kernel
theorem d_M_finish_103 : decode b_M_finish 103 = .ok (.bipush 45, 2) := by decide +kernel
theorem d_M_finish_105 : decode b_M_finish 105 = .ok (.bipush 50, 2) := by decide +kernel
theorem d_M_finish_107 : decode b_M_finish 107 = .ok (.iconst (-1), 1) := by decide +kernel
theorem d_M_finish_108 : decode b_M_finish 108 = .ok (.invokevirtual 83, 3) := by decide +kernel
theorem d_M_finish_111 : decode b_M_finish 111 = .ok (.aload_n 0, 1) := by decide +kernel
theorem d_M_finish_112 : decode b_M_finish 112 = .ok (.bipush 50, 2) := by decide +kernel
theorem d_M_finish_114 : decode b_M_finish 114 = .ok (.bipush 53, 2) := by decide +kernel
theorem d_M_finish_116 : decode b_M_finish 116 = .ok (.bipush 49, 2) := by decide +kernel
theorem d_M_finish_118 : decode b_M_finish 118 = .ok (.invokevirtual 92, 3) := by decide +kernel
theorem d_M_finish_121 : decode b_M_finish 121 = .ok (.aload_n 0, 1) := by decide +kernel
theorem d_M_finish_122 : decode b_M_finish 122 = .ok (.bipush 50, 2) := by decide +kernel
theorem d_M_finish_124 : decode b_M_finish 124 = .ok (.bipush 50, 2) := by decide +kernel
theorem d_M_finish_126 : decode b_M_finish 126 = .ok (.bipush 45, 2) := by decide +kernel
theorem d_M_finish_128 : decode b_M_finish 128 = .ok (.iconst (-1), 1) := by decide +kernel
theorem d_M_finish_129 : decode b_M_finish 129 = .ok (.invokevirtual 83, 3) := by decide +kernel
theorem d_M_finish_132 : decode b_M_finish 132 = .ok (.aload_n 0, 1) := by decide +kernel
theorem d_M_finish_133 : decode b_M_finish 133 = .ok (.bipush 46, 2) := by decide +kernel
theorem d_M_finish_135 : decode b_M_finish 135 = .ok (.bipush 42, 2) := by decide +kernel
theorem d_M_finish_137 : decode b_M_finish 137 = .ok (.bipush 50, 2) := by decide +kernel
theorem d_M_finish_139 : decode b_M_finish 139 = .ok (.invokevirtual 92, 3) := by decide +kernel
theorem d_M_finish_142 : decode b_M_finish 142 = .ok (.aload_n 0, 1) := by decide +kernel
theorem d_M_finish_143 : decode b_M_finish 143 = .ok (.bipush 50, 2) := by decide +kernel
theorem d_M_finish_145 : decode b_M_finish 145 = .ok (.bipush 24, 2) := by decide +kernel
theorem d_M_finish_147 : decode b_M_finish 147 = .ok (.bipush 45, 2) := by decide +kernel
theorem d_M_finish_149 : decode b_M_finish 149 = .ok (.invokevirtual 92, 3) := by decide +kernel
theorem d_M_finish_152 : decode b_M_finish 152 = .ok (.aload_n 0, 1) := by decide +kernel
theorem d_M_finish_153 : decode b_M_finish 153 = .ok (.bipush 49, 2) := by decide +kernel
theorem d_M_finish_155 : decode b_M_finish 155 = .ok (.bipush 50, 2) := by decide +kernel
theorem d_M_finish_157 : decode b_M_finish 157 = .ok (.bipush 44, 2) := by decide +kernel
theorem d_M_finish_159 : decode b_M_finish 159 = .ok (.invokevirtual 92, 3) := by decide +kernel
theorem d_M_finish_162 : decode b_M_finish 162 = .ok (.aload_n 0, 1) := by decide +kernel
theorem d_M_finish_163 : decode b_M_finish 163 = .ok (.bipush 46, 2) := by decide +kernel
theorem d_M_finish_165 : decode b_M_finish 165 = .ok (.bipush 46, 2) := by decide +kernel
theorem d_M_finish_167 : decode b_M_finish 167 = .ok (.bipush 49, 2) := by decide +kernel
theorem d_M_finish_169 : decode b_M_finish 169 = .ok (.iconst (-1), 1) := by decide +kernel
theorem d_M_finish_170 : decode b_M_finish 170 = .ok (.invokevirtual 83, 3) := by decide +kernel
theorem d_M_finish_173 : decode b_M_finish 173 = .ok (.aload_n 0, 1) := by decide +kernel
theorem d_M_finish_174 : decode b_M_finish 174 = .ok (.bipush 50, 2) := by decide +kernel
theorem d_M_finish_176 : decode b_M_finish 176 = .ok (.bipush 53, 2) := by decide +kernel
theorem d_M_finish_178 : decode b_M_finish 178 = .ok (.bipush 43, 2) := by decide +kernel
theorem d_M_finish_180 : decode b_M_finish 180 = .ok (.invokevirtual 92, 3) := by decide +kernel
theorem d_M_finish_183 : decode b_M_finish 183 = .ok (.aload_n 0, 1) := by decide +kernel
theorem d_M_finish_184 : decode b_M_finish 184 = .ok (.bipush 49, 2) := by decide +kernel
theorem d_M_finish_186 : decode b_M_finish 186 = .ok (.bipush 50, 2) := by decide +kernel
theorem d_M_finish_188 : decode b_M_finish 188 = .ok (.bipush 39, 2) := by decide +kernel
theorem d_M_finish_190 : decode b_M_finish 190 = .ok (.invokevirtual 92, 3) := by decide +kernel
theorem d_M_finish_193 : decode b_M_finish 193 = .ok (.aload_n 0, 1) := by decide +kernel
theorem d_M_finish_194 : decode b_M_finish 194 = .ok (.bipush 46, 2) := by decide +kernel
theorem d_M_finish_196 : decode b_M_finish 196 = .ok (.bipush 46, 2) := by decide +kernel
theorem d_M_finish_198 : decode b_M_finish 198 = .ok (.bipush 49, 2) := by decide +kernel
theorem d_M_finish_200 : decode b_M_finish 200 = .ok (.iconst (-1), 1) := by decide +kernel
theorem d_M_finish_201 : decode b_M_finish 201 = .ok (.invokevirtual 83, 3) := by decide +kernel
theorem d_M_finish_204 : decode b_M_finish 204 = .ok (.aload_n 0, 1) := by decide +kernel
theorem d_M_finish_205 : decode b_M_finish 205 = .ok (.bipush 50, 2) := by decide +kernel
theorem d_M_finish_207 : decode b_M_finish 207 = .ok (.bipush 54, 2) := by decide +kernel
theorem d_M_finish_209 : decode b_M_finish 209 = .ok (.bipush 44, 2) := by decide +kernel
theorem d_M_finish_211 : decode b_M_finish 211 = .ok (.invokevirtual 92, 3) := by decide +kernel
theorem d_M_finish_214 : decode b_M_finish 214 = .ok (.aload_n 0, 1) := by decide +kernel
theorem d_M_finish_215 : decode b_M_finish 215 = .ok (.bipush 49, 2) := by decide +kernel
theorem d_M_finish_217 : decode b_M_finish 217 = .ok (.bipush 26, 2) := by decide +kernel
theorem d_M_finish_219 : decode b_M_finish 219 = .ok (.bipush 50, 2) := by decide +kernel
theorem d_M_finish_221 : decode b_M_finish 221 = .ok (.invokevirtual 92, 3) := by decide +kernel
theorem d_M_finish_224 : decode b_M_finish 224 = .ok (.aload_n 0, 1) := by decide +kernel
theorem d_M_finish_225 : decode b_M_finish 225 = .ok (.bipush 46, 2) := by decide +kernel
theorem d_M_finish_227 : decode b_M_finish 227 = .ok (.bipush 46, 2) := by decide +kernel
theorem d_M_finish_229 : decode b_M_finish 229 = .ok (.bipush 49, 2) := by decide +kernel
theorem d_M_finish_231 : decode b_M_finish 231 = .ok (.iconst (-1), 1) := by decide +kernel
theorem d_M_finish_232 : decode b_M_finish 232 = .ok (.invokevirtual 83, 3) := by decide +kernel
theorem d_M_finish_235 : decode b_M_finish 235 = .ok (.aload_n 0, 1) := by decide +kernel
theorem d_M_finish_236 : decode b_M_finish 236 = .ok (.bipush 54, 2) := by decide +kernel
theorem d_M_finish_238 : decode b_M_finish 238 = .ok (.bipush 47, 2) := by decide +kernel
theorem d_M_finish_240 : decode b_M_finish 240 = .ok (.invokevirtual 40, 3) := by decide +kernel
theorem d_M_finish_243 : decode b_M_finish 243 = .ok (.aload_n 0, 1) := by decide +kernel
theorem d_M_finish_244 : decode b_M_finish 244 = .ok (.bipush 45, 2) := by decide +kernel
theorem d_M_finish_246 : decode b_M_finish 246 = .ok (.bipush 47, 2) := by decide +kernel
theorem d_M_finish_248 : decode b_M_finish 248 = .ok (.invokevirtual 115, 3) := by decide +kernel
theorem d_M_finish_251 : decode b_M_finish 251 = .ok (.aload_n 0, 1) := by decide +kernel
theorem d_M_finish_252 : decode b_M_finish 252 = .ok (.bipush 36, 2) := by decide +kernel
theorem d_M_finish_254 : decode b_M_finish 254 = .ok (.bipush 45, 2) := by decide +kernel
theorem d_M_finish_256 : decode b_M_finish 256 = .ok (.bipush 51, 2) := by decide +kernel
theorem d_M_finish_258 : decode b_M_finish 258 = .ok (.invokevirtual 109, 3) := by decide +kernel
theorem d_M_finish_261 : decode b_M_finish 261 = .ok (.aload_n 0, 1) := by decide +kernel
theorem d_M_finish_262 : decode b_M_finish 262 = .ok (.bipush 48, 2) := by decide +kernel
theorem d_M_finish_264 : decode b_M_finish 264 = .ok (.bipush 47, 2) := by decide +kernel
theorem d_M_finish_266 : decode b_M_finish 266 = .ok (.bipush 51, 2) := by decide +kernel
theorem d_M_finish_268 : decode b_M_finish 268 = .ok (.invokevirtual 109, 3) := by decide +kernel
theorem d_M_finish_271 : decode b_M_finish 271 = .ok (.aload_n 0, 1) := by decide +kernel
theorem d_M_finish_272 : decode b_M_finish 272 = .ok (.bipush 46, 2) := by decide +kernel
theorem d_M_finish_274 : decode b_M_finish 274 = .ok (.bipush 50, 2) := by decide +kernel
theorem d_M_finish_276 : decode b_M_finish 276 = .ok (.invokevirtual 115, 3) := by decide +kernel
theorem d_M_finish_279 : decode b_M_finish 279 = .ok (.aload_n 0, 1) := by decide +kernel
theorem d_M_finish_280 : decode b_M_finish 280 = .ok (.bipush 37, 2) := by decide +kernel
theorem d_M_finish_282 : decode b_M_finish 282 = .ok (.bipush 46, 2) := by decide +kernel
theorem d_M_finish_284 : decode b_M_finish 284 = .ok (.bipush 51, 2) := by decide +kernel
theorem d_M_finish_286 : decode b_M_finish 286 = .ok (.invokevirtual 109, 3) := by decide +kernel
theorem d_M_finish_289 : decode b_M_finish 289 = .ok (.aload_n 0, 1) := by decide +kernel
theorem d_M_finish_290 : decode b_M_finish 290 = .ok (.bipush 49, 2) := by decide +kernel
theorem d_M_finish_292 : decode b_M_finish 292 = .ok (.bipush 50, 2) := by decide +kernel
theorem d_M_finish_294 : decode b_M_finish 294 = .ok (.bipush 51, 2) := by decide +kernel
theorem d_M_finish_296 : decode b_M_finish 296 = .ok (.invokevirtual 109, 3) := by decide +kernel
theorem d_M_finish_299 : decode b_M_finish 299 = .ok (.aload_n 0, 1) := by decide +kernel
theorem d_M_finish_300 : decode b_M_finish 300 = .ok (.getfield 16, 3) := by decide +kernel
theorem d_M_finish_303 : decode b_M_finish 303 = .ok (.bipush 49, 2) := by decide +kernel
theorem d_M_finish_305 : decode b_M_finish 305 = .ok (.iaload, 1) := by decide +kernel
theorem d_M_finish_306 : decode b_M_finish 306 = .ok (.ifCond .ge 26, 3) := by decide +kernel
theorem d_M_finish_309 : decode b_M_finish 309 = .ok (.aload_n 0, 1) := by decide +kernel
theorem d_M_finish_310 : decode b_M_finish 310 = .ok (.getfield 16, 3) := by decide +kernel
theorem d_M_finish_313 : decode b_M_finish 313 = .ok (.bipush 49, 2) := by decide +kernel
theorem d_M_finish_315 : decode b_M_finish 315 = .ok (.iconst 1, 1) := by decide +kernel
theorem d_M_finish_316 : decode b_M_finish 316 = .ok (.iastore, 1) := by decide +kernel
theorem d_M_finish_317 : decode b_M_finish 317 = .ok (.aload_n 0, 1) := by decide +kernel
theorem d_M_finish_318 : decode b_M_finish 318 = .ok (.getfield 16, 3) := by decide +kernel
theorem d_M_finish_321 : decode b_M_finish 321 = .ok (.bipush 37, 2) := by decide +kernel
theorem d_M_finish_323 : decode b_M_finish 323 = .ok (.aload_n 0, 1) := by decide +kernel
theorem d_M_finish_324 : decode b_M_finish 324 = .ok (.getfield 16, 3) := by decide +kernel
theorem d_M_finish_327 : decode b_M_finish 327 = .ok (.bipush 37, 2) := by decide +kernel
theorem d_M_finish_329 : decode b_M_finish 329 = .ok (.iaload, 1) := by decide +kernel
theorem d_M_finish_330 : decode b_M_finish 330 = .ok (.ineg, 1) := by decide +kernel
theorem d_M_finish_331 : decode b_M_finish 331 = .ok (.iastore, 1) := by decide +kernel
theorem d_M_finish_332 : decode b_M_finish 332 = .ok (.aload_n 0, 1) := by decide +kernel
theorem d_M_finish_333 : decode b_M_finish 333 = .ok (.bipush 38, 2) := by decide +kernel
theorem d_M_finish_335 : decode b_M_finish 335 = .ok (.bipush 49, 2) := by decide +kernel
theorem d_M_finish_337 : decode b_M_finish 337 = .ok (.bipush 48, 2) := by decide +kernel
theorem d_M_finish_339 : decode b_M_finish 339 = .ok (.invokevirtual 109, 3) := by decide +kernel
theorem d_M_finish_342 : decode b_M_finish 342 = .ok (.aload_n 0, 1) := by decide +kernel
theorem d_M_finish_343 : decode b_M_finish 343 = .ok (.getfield 19, 3) := by decide +kernel
theorem d_M_finish_346 : decode b_M_finish 346 = .ok (.bipush 36, 2) := by decide +kernel
theorem d_M_finish_348 : decode b_M_finish 348 = .ok (.iconst 0, 1) := by decide +kernel
theorem d_M_finish_349 : decode b_M_finish 349 = .ok (.bastore, 1) := by decide +kernel
theorem d_M_finish_350 : decode b_M_finish 350 = .ok (.return_, 1) := by decide +kernel
theorem d_M_turn_0 : decode b_M_turn 0 = .ok (.aload_n 0, 1) := by decide +kernel
theorem d_M_turn_1 : decode b_M_turn 1 = .ok (.getfield 19, 3) := by decide +kernel
theorem d_M_turn_4 : decode b_M_turn 4 = .ok (.iload_n 1, 1) := by decide +kernel
theorem d_M_turn_5 : decode b_M_turn 5 = .ok (.baload, 1) := by decide +kernel
theorem d_M_turn_6 : decode b_M_turn 6 = .ok (.ifCond .eq 4, 3) := by decide +kernel
theorem d_M_turn_9 : decode b_M_turn 9 = .ok (.return_, 1) := by decide +kernel
theorem d_M_turn_10 : decode b_M_turn 10 = .ok (.aload_n 0, 1) := by decide +kernel
theorem d_M_turn_11 : decode b_M_turn 11 = .ok (.bipush 49, 2) := by decide +kernel
theorem d_M_turn_13 : decode b_M_turn 13 = .ok (.iload_n 1, 1) := by decide +kernel
theorem d_M_turn_14 : decode b_M_turn 14 = .ok (.iconst 2, 1) := by decide +kernel
theorem d_M_turn_15 : decode b_M_turn 15 = .ok (.iadd, 1) := by decide +kernel
theorem d_M_turn_16 : decode b_M_turn 16 = .ok (.iload_n 1, 1) := by decide +kernel
theorem d_M_turn_17 : decode b_M_turn 17 = .ok (.iconst 2, 1) := by decide +kernel
theorem d_M_turn_18 : decode b_M_turn 18 = .ok (.iadd, 1) := by decide +kernel
theorem d_M_turn_19 : decode b_M_turn 19 = .ok (.invokevirtual 92, 3) := by decide +kernel
theorem d_M_turn_22 : decode b_M_turn 22 = .ok (.aload_n 0, 1) := by decide +kernel
theorem d_M_turn_23 : decode b_M_turn 23 = .ok (.iload_n 1, 1) := by decide +kernel
theorem d_M_turn_24 : decode b_M_turn 24 = .ok (.iconst 1, 1) := by decide +kernel
theorem d_M_turn_25 : decode b_M_turn 25 = .ok (.iadd, 1) := by decide +kernel
theorem d_M_turn_26 : decode b_M_turn 26 = .ok (.bipush 24, 2) := by decide +kernel
theorem d_M_turn_28 : decode b_M_turn 28 = .ok (.iload_n 1, 1) := by decide +kernel
theorem d_M_turn_29 : decode b_M_turn 29 = .ok (.iload_n 1, 1) := by decide +kernel
theorem d_M_turn_30 : decode b_M_turn 30 = .ok (.iconst 2, 1) := by decide +kernel
theorem d_M_turn_31 : decode b_M_turn 31 = .ok (.iadd, 1) := by decide +kernel
theorem d_M_turn_32 : decode b_M_turn 32 = .ok (.invokevirtual 102, 3) := by decide +kernel
theorem d_M_turn_35 : decode b_M_turn 35 = .ok (.aload_n 0, 1) := by decide +kernel
theorem d_M_turn_36 : decode b_M_turn 36 = .ok (.iload_n 1, 1) := by decide +kernel
theorem d_M_turn_37 : decode b_M_turn 37 = .ok (.iconst 1, 1) := by decide +kernel
theorem d_M_turn_38 : decode b_M_turn 38 = .ok (.iadd, 1) := by decide +kernel
theorem d_M_turn_39 : decode b_M_turn 39 = .ok (.bipush 26, 2) := by decide +kernel
theorem d_M_turn_41 : decode b_M_turn 41 = .ok (.bipush 49, 2) := by decide +kernel
theorem d_M_turn_43 : decode b_M_turn 43 = .ok (.iload_n 1, 1) := by decide +kernel
theorem d_M_turn_44 : decode b_M_turn 44 = .ok (.iconst 2, 1) := by decide +kernel
theorem d_M_turn_45 : decode b_M_turn 45 = .ok (.iadd, 1) := by decide +kernel
theorem d_M_turn_46 : decode b_M_turn 46 = .ok (.invokevirtual 102, 3) := by decide +kernel
theorem d_M_turn_49 : decode b_M_turn 49 = .ok (.aload_n 0, 1) := by decide +kernel
theorem d_M_turn_50 : decode b_M_turn 50 = .ok (.getfield 16, 3) := by decide +kernel
theorem d_M_turn_53 : decode b_M_turn 53 = .ok (.iload_n 1, 1) := by decide +kernel
theorem d_M_turn_54 : decode b_M_turn 54 = .ok (.iconst 1, 1) := by decide +kernel
theorem d_M_turn_55 : decode b_M_turn 55 = .ok (.iadd, 1) := by decide +kernel
theorem d_M_turn_56 : decode b_M_turn 56 = .ok (.aload_n 0, 1) := by decide +kernel
theorem d_M_turn_57 : decode b_M_turn 57 = .ok (.getfield 16, 3) := by decide +kernel
theorem d_M_turn_60 : decode b_M_turn 60 = .ok (.iload_n 1, 1) := by decide +kernel
theorem d_M_turn_61 : decode b_M_turn 61 = .ok (.iconst 1, 1) := by decide +kernel
theorem d_M_turn_62 : decode b_M_turn 62 = .ok (.iadd, 1) := by decide +kernel
theorem d_M_turn_63 : decode b_M_turn 63 = .ok (.iaload, 1) := by decide +kernel
theorem d_M_turn_64 : decode b_M_turn 64 = .ok (.ineg, 1) := by decide +kernel
theorem d_M_turn_65 : decode b_M_turn 65 = .ok (.iastore, 1) := by decide +kernel
theorem d_M_turn_66 : decode b_M_turn 66 = .ok (.return_, 1) := by decide +kernel
theorem d_M_isTooLong_0 : decode b_M_isTooLong 0 = .ok (.aload_n 0, 1) := by decide +kernel
theorem d_M_isTooLong_1 : decode b_M_isTooLong 1 = .ok (.getfield 19, 3) := by decide +kernel
theorem d_M_isTooLong_4 : decode b_M_isTooLong 4 = .ok (.iload_n 1, 1) := by decide +kernel
theorem d_M_isTooLong_5 : decode b_M_isTooLong 5 = .ok (.baload, 1) := by decide +kernel
theorem d_M_isTooLong_6 : decode b_M_isTooLong 6 = .ok (.ifCond .eq 5, 3) := by decide +kernel
theorem d_M_isTooLong_9 : decode b_M_isTooLong 9 = .ok (.iconst 0, 1) := by decide +kernel
theorem d_M_isTooLong_10 : decode b_M_isTooLong 10 = .ok (.ireturn, 1) := by decide +kernel
theorem d_M_isTooLong_11 : decode b_M_isTooLong 11 = .ok (.aload_n 0, 1) := by decide +kernel
theorem d_M_isTooLong_12 : decode b_M_isTooLong 12 = .ok (.bipush 49, 2) := by decide +kernel
theorem d_M_isTooLong_14 : decode b_M_isTooLong 14 = .ok (.iload_n 1, 1) := by decide +kernel
theorem d_M_isTooLong_15 : decode b_M_isTooLong 15 = .ok (.iconst 2, 1) := by decide +kernel
theorem d_M_isTooLong_16 : decode b_M_isTooLong 16 = .ok (.iadd, 1) := by decide +kernel
theorem d_M_isTooLong_17 : decode b_M_isTooLong 17 = .ok (.iload_n 1, 1) := by decide +kernel
theorem d_M_isTooLong_18 : decode b_M_isTooLong 18 = .ok (.iconst 2, 1) := by decide +kernel
theorem d_M_isTooLong_19 : decode b_M_isTooLong 19 = .ok (.iadd, 1) := by decide +kernel
theorem d_M_isTooLong_20 : decode b_M_isTooLong 20 = .ok (.invokevirtual 92, 3) := by decide +kernel
theorem d_M_isTooLong_23 : decode b_M_isTooLong 23 = .ok (.aload_n 0, 1) := by decide +kernel
theorem d_M_isTooLong_24 : decode b_M_isTooLong 24 = .ok (.bipush 44, 2) := by decide +kernel
theorem d_M_isTooLong_26 : decode b_M_isTooLong 26 = .ok (.bipush 49, 2) := by decide +kernel
theorem d_M_isTooLong_28 : decode b_M_isTooLong 28 = .ok (.iload_n 1, 1) := by decide +kernel
theorem d_M_isTooLong_29 : decode b_M_isTooLong 29 = .ok (.iconst 2, 1) := by decide +kernel
theorem d_M_isTooLong_30 : decode b_M_isTooLong 30 = .ok (.iadd, 1) := by decide +kernel
theorem d_M_isTooLong_31 : decode b_M_isTooLong 31 = .ok (.invokevirtual 92, 3) := by decide +kernel
theorem d_M_isTooLong_34 : decode b_M_isTooLong 34 = .ok (.aload_n 0, 1) := by decide +kernel
theorem d_M_isTooLong_35 : decode b_M_isTooLong 35 = .ok (.iload_n 1, 1) := by decide +kernel
theorem d_M_isTooLong_36 : decode b_M_isTooLong 36 = .ok (.invokevirtual 130, 3) := by decide +kernel
theorem d_M_isTooLong_39 : decode b_M_isTooLong 39 = .ok (.bipush 120, 2) := by decide +kernel
theorem d_M_isTooLong_41 : decode b_M_isTooLong 41 = .ok (.if_icmp .gt 26, 3) := by decide +kernel
theorem d_M_isTooLong_44 : decode b_M_isTooLong 44 = .ok (.aload_n 0, 1) := by decide +kernel
theorem d_M_isTooLong_45 : decode b_M_isTooLong 45 = .ok (.iload_n 1, 1) := by decide +kernel
theorem d_M_isTooLong_46 : decode b_M_isTooLong 46 = .ok (.iconst 1, 1) := by decide +kernel
theorem d_M_isTooLong_47 : decode b_M_isTooLong 47 = .ok (.iadd, 1) := by decide +kernel
theorem d_M_isTooLong_48 : decode b_M_isTooLong 48 = .ok (.invokevirtual 130, 3) := by decide +kernel
theorem d_M_isTooLong_51 : decode b_M_isTooLong 51 = .ok (.bipush 120, 2) := by decide +kernel
theorem d_M_isTooLong_53 : decode b_M_isTooLong 53 = .ok (.if_icmp .gt 14, 3) := by decide +kernel
theorem d_M_isTooLong_56 : decode b_M_isTooLong 56 = .ok (.aload_n 0, 1) := by decide +kernel
theorem d_M_isTooLong_57 : decode b_M_isTooLong 57 = .ok (.bipush 44, 2) := by decide +kernel
theorem d_M_isTooLong_59 : decode b_M_isTooLong 59 = .ok (.invokevirtual 130, 3) := by decide +kernel
theorem d_M_isTooLong_62 : decode b_M_isTooLong 62 = .ok (.bipush 120, 2) := by decide +kernel
theorem d_M_isTooLong_64 : decode b_M_isTooLong 64 = .ok (.if_icmp .le 7, 3) := by decide +kernel
theorem d_M_isTooLong_67 : decode b_M_isTooLong 67 = .ok (.iconst 1, 1) := by decide +kernel
theorem d_M_isTooLong_68 : decode b_M_isTooLong 68 = .ok (.goto 4, 3) := by decide +kernel
theorem d_M_isTooLong_71 : decode b_M_isTooLong 71 = .ok (.iconst 0, 1) := by decide +kernel
theorem d_M_isTooLong_72 : decode b_M_isTooLong 72 = .ok (.ireturn, 1) := by decide +kernel
theorem d_M_settle_0 : decode b_M_settle 0 = .ok (.aload_n 0, 1) := by decide +kernel
theorem d_M_settle_1 : decode b_M_settle 1 = .ok (.bipush 36, 2) := by decide +kernel
theorem d_M_settle_3 : decode b_M_settle 3 = .ok (.invokevirtual 134, 3) := by decide +kernel
theorem d_M_settle_6 : decode b_M_settle 6 = .ok (.ifCond .eq 5, 3) := by decide +kernel
theorem d_M_settle_9 : decode b_M_settle 9 = .ok (.iconst 0, 1) := by decide +kernel
theorem d_M_settle_10 : decode b_M_settle 10 = .ok (.ireturn, 1) := by decide +kernel
theorem d_M_settle_11 : decode b_M_settle 11 = .ok (.aload_n 0, 1) := by decide +kernel
theorem d_M_settle_12 : decode b_M_settle 12 = .ok (.bipush 36, 2) := by decide +kernel
theorem d_M_settle_14 : decode b_M_settle 14 = .ok (.iconst 3, 1) := by decide +kernel
theorem d_M_settle_15 : decode b_M_settle 15 = .ok (.iload_n 1, 1) := by decide +kernel
theorem d_M_settle_16 : decode b_M_settle 16 = .ok (.imul, 1) := by decide +kernel
theorem d_M_settle_17 : decode b_M_settle 17 = .ok (.invokevirtual 112, 3) := by decide +kernel
theorem d_M_settle_20 : decode b_M_settle 20 = .ok (.iconst 1, 1) := by decide +kernel
theorem d_M_settle_21 : decode b_M_settle 21 = .ok (.ireturn, 1) := by decide +kernel
theorem d_M_sum_0 : decode b_M_sum 0 = .ok (.aload_n 0, 1) := by decide +kernel
theorem d_M_sum_1 : decode b_M_sum 1 = .ok (.iconst 0, 1) := by decide +kernel
theorem d_M_sum_2 : decode b_M_sum 2 = .ok (.putfield 30, 3) := by decide +kernel
theorem d_M_sum_5 : decode b_M_sum 5 = .ok (.iload_n 1, 1) := by decide +kernel
theorem d_M_sum_6 : decode b_M_sum 6 = .ok (.invokestatic 95, 3) := by decide +kernel
theorem d_M_sum_9 : decode b_M_sum 9 = .ok (.ifCond .eq 17, 3) := by decide +kernel
theorem d_M_sum_12 : decode b_M_sum 12 = .ok (.iload_n 2, 1) := by decide +kernel
theorem d_M_sum_13 : decode b_M_sum 13 = .ok (.invokestatic 95, 3) := by decide +kernel
theorem d_M_sum_16 : decode b_M_sum 16 = .ok (.ifCond .eq 10, 3) := by decide +kernel
theorem d_M_sum_19 : decode b_M_sum 19 = .ok (.iload_n 3, 1) := by decide +kernel
theorem d_M_sum_20 : decode b_M_sum 20 = .ok (.invokestatic 95, 3) := by decide +kernel
theorem d_M_sum_23 : decode b_M_sum 23 = .ok (.ifCond .ne 5, 3) := by decide +kernel
theorem d_M_sum_26 : decode b_M_sum 26 = .ok (.iconst (-1), 1) := by decide +kernel
theorem d_M_sum_27 : decode b_M_sum 27 = .ok (.ireturn, 1) := by decide +kernel
theorem d_M_sum_28 : decode b_M_sum 28 = .ok (.aload_n 0, 1) := by decide +kernel
theorem d_M_sum_29 : decode b_M_sum 29 = .ok (.iconst 3, 1) := by decide +kernel
theorem d_M_sum_30 : decode b_M_sum 30 = .ok (.iload_n 1, 1) := by decide +kernel
theorem d_M_sum_31 : decode b_M_sum 31 = .ok (.imul, 1) := by decide +kernel
theorem d_M_sum_32 : decode b_M_sum 32 = .ok (.bipush 30, 2) := by decide +kernel
theorem d_M_sum_34 : decode b_M_sum 34 = .ok (.invokevirtual 112, 3) := by decide +kernel
theorem d_M_sum_37 : decode b_M_sum 37 = .ok (.aload_n 0, 1) := by decide +kernel
theorem d_M_sum_38 : decode b_M_sum 38 = .ok (.iconst 3, 1) := by decide +kernel
theorem d_M_sum_39 : decode b_M_sum 39 = .ok (.iload_n 2, 1) := by decide +kernel
theorem d_M_sum_40 : decode b_M_sum 40 = .ok (.imul, 1) := by decide +kernel
theorem d_M_sum_41 : decode b_M_sum 41 = .ok (.bipush 33, 2) := by decide +kernel
theorem d_M_sum_43 : decode b_M_sum 43 = .ok (.invokevirtual 112, 3) := by decide +kernel
theorem d_M_sum_46 : decode b_M_sum 46 = .ok (.aload_n 0, 1) := by decide +kernel
theorem d_M_sum_47 : decode b_M_sum 47 = .ok (.invokevirtual 137, 3) := by decide +kernel
theorem d_M_sum_50 : decode b_M_sum 50 = .ok (.aload_n 0, 1) := by decide +kernel
theorem d_M_sum_51 : decode b_M_sum 51 = .ok (.iload_n 3, 1) := by decide +kernel
theorem d_M_sum_52 : decode b_M_sum 52 = .ok (.invokevirtual 140, 3) := by decide +kernel
theorem d_M_sum_55 : decode b_M_sum 55 = .ok (.ireturn, 1) := by decide +kernel
theorem d_M_less_0 : decode b_M_less 0 = .ok (.aload_n 0, 1) := by decide +kernel
theorem d_M_less_1 : decode b_M_less 1 = .ok (.iconst 0, 1) := by decide +kernel
theorem d_M_less_2 : decode b_M_less 2 = .ok (.putfield 30, 3) := by decide +kernel
theorem d_M_less_5 : decode b_M_less 5 = .ok (.iload_n 1, 1) := by decide +kernel
theorem d_M_less_6 : decode b_M_less 6 = .ok (.invokestatic 95, 3) := by decide +kernel
theorem d_M_less_9 : decode b_M_less 9 = .ok (.ifCond .eq 17, 3) := by decide +kernel
theorem d_M_less_12 : decode b_M_less 12 = .ok (.iload_n 2, 1) := by decide +kernel
theorem d_M_less_13 : decode b_M_less 13 = .ok (.invokestatic 95, 3) := by decide +kernel
theorem d_M_less_16 : decode b_M_less 16 = .ok (.ifCond .eq 10, 3) := by decide +kernel
theorem d_M_less_19 : decode b_M_less 19 = .ok (.iload_n 3, 1) := by decide +kernel
theorem d_M_less_20 : decode b_M_less 20 = .ok (.invokestatic 95, 3) := by decide +kernel
theorem d_M_less_23 : decode b_M_less 23 = .ok (.ifCond .ne 5, 3) := by decide +kernel
theorem d_M_less_26 : decode b_M_less 26 = .ok (.iconst (-1), 1) := by decide +kernel
theorem d_M_less_27 : decode b_M_less 27 = .ok (.ireturn, 1) := by decide +kernel
theorem d_M_less_28 : decode b_M_less 28 = .ok (.aload_n 0, 1) := by decide +kernel
theorem d_M_less_29 : decode b_M_less 29 = .ok (.iconst 3, 1) := by decide +kernel
theorem d_M_less_30 : decode b_M_less 30 = .ok (.iload_n 1, 1) := by decide +kernel
theorem d_M_less_31 : decode b_M_less 31 = .ok (.imul, 1) := by decide +kernel
theorem d_M_less_32 : decode b_M_less 32 = .ok (.bipush 30, 2) := by decide +kernel
theorem d_M_less_34 : decode b_M_less 34 = .ok (.invokevirtual 112, 3) := by decide +kernel
theorem d_M_less_37 : decode b_M_less 37 = .ok (.aload_n 0, 1) := by decide +kernel
theorem d_M_less_38 : decode b_M_less 38 = .ok (.iconst 3, 1) := by decide +kernel
theorem d_M_less_39 : decode b_M_less 39 = .ok (.iload_n 2, 1) := by decide +kernel
theorem d_M_less_40 : decode b_M_less 40 = .ok (.imul, 1) := by decide +kernel
theorem d_M_less_41 : decode b_M_less 41 = .ok (.bipush 33, 2) := by decide +kernel
theorem d_M_less_43 : decode b_M_less 43 = .ok (.invokevirtual 112, 3) := by decide +kernel
theorem d_M_less_46 : decode b_M_less 46 = .ok (.aload_n 0, 1) := by decide +kernel
theorem d_M_less_47 : decode b_M_less 47 = .ok (.bipush 33, 2) := by decide +kernel
theorem d_M_less_49 : decode b_M_less 49 = .ok (.invokevirtual 143, 3) := by decide +kernel
theorem d_M_less_52 : decode b_M_less 52 = .ok (.aload_n 0, 1) := by decide +kernel
theorem d_M_less_53 : decode b_M_less 53 = .ok (.invokevirtual 137, 3) := by decide +kernel
theorem d_M_less_56 : decode b_M_less 56 = .ok (.aload_n 0, 1) := by decide +kernel
theorem d_M_less_57 : decode b_M_less 57 = .ok (.iload_n 3, 1) := by decide +kernel
theorem d_M_less_58 : decode b_M_less 58 = .ok (.invokevirtual 140, 3) := by decide +kernel
theorem d_M_less_61 : decode b_M_less 61 = .ok (.ireturn, 1) := by decide +kernel
theorem d_M_isFar_0 : decode b_M_isFar 0 = .ok (.aload_n 0, 1) := by decide +kernel
theorem d_M_isFar_1 : decode b_M_isFar 1 = .ok (.getfield 19, 3) := by decide +kernel
theorem d_M_isFar_4 : decode b_M_isFar 4 = .ok (.bipush 36, 2) := by decide +kernel
theorem d_M_isFar_6 : decode b_M_isFar 6 = .ok (.baload, 1) := by decide +kernel
theorem d_M_isFar_7 : decode b_M_isFar 7 = .ok (.ifCond .eq 5, 3) := by decide +kernel
theorem d_M_isFar_10 : decode b_M_isFar 10 = .ok (.iconst 0, 1) := by decide +kernel
theorem d_M_isFar_11 : decode b_M_isFar 11 = .ok (.ireturn, 1) := by decide +kernel
theorem d_M_isFar_12 : decode b_M_isFar 12 = .ok (.aload_n 0, 1) := by decide +kernel
theorem d_M_isFar_13 : decode b_M_isFar 13 = .ok (.bipush 49, 2) := by decide +kernel
theorem d_M_isFar_15 : decode b_M_isFar 15 = .ok (.bipush 38, 2) := by decide +kernel
theorem d_M_isFar_17 : decode b_M_isFar 17 = .ok (.bipush 38, 2) := by decide +kernel
theorem d_M_isFar_19 : decode b_M_isFar 19 = .ok (.invokevirtual 92, 3) := by decide +kernel
theorem d_M_isFar_22 : decode b_M_isFar 22 = .ok (.aload_n 0, 1) := by decide +kernel
theorem d_M_isFar_23 : decode b_M_isFar 23 = .ok (.bipush 36, 2) := by decide +kernel
theorem d_M_isFar_25 : decode b_M_isFar 25 = .ok (.invokevirtual 130, 3) := by decide +kernel
theorem d_M_isFar_28 : decode b_M_isFar 28 = .ok (.sipush 340, 3) := by decide +kernel
theorem d_M_isFar_31 : decode b_M_isFar 31 = .ok (.if_icmp .gt 15, 3) := by decide +kernel
theorem d_M_isFar_34 : decode b_M_isFar 34 = .ok (.aload_n 0, 1) := by decide +kernel
theorem d_M_isFar_35 : decode b_M_isFar 35 = .ok (.bipush 49, 2) := by decide +kernel
theorem d_M_isFar_37 : decode b_M_isFar 37 = .ok (.invokevirtual 130, 3) := by decide +kernel
theorem d_M_isFar_40 : decode b_M_isFar 40 = .ok (.sipush 340, 3) := by decide +kernel
theorem d_M_isFar_43 : decode b_M_isFar 43 = .ok (.if_icmp .le 7, 3) := by decide +kernel
theorem d_M_isFar_46 : decode b_M_isFar 46 = .ok (.iconst 1, 1) := by decide +kernel
theorem d_M_isFar_47 : decode b_M_isFar 47 = .ok (.goto 4, 3) := by decide +kernel
theorem d_M_isFar_50 : decode b_M_isFar 50 = .ok (.iconst 0, 1) := by decide +kernel
theorem d_M_isFar_51 : decode b_M_isFar 51 = .ok (.ireturn, 1) := by decide +kernel
theorem d_M_times_0 : decode b_M_times 0 = .ok (.aload_n 0, 1) := by decide +kernel
end
section
theorem d_M_times_1 : decode b_M_times 1 = .ok (.iconst 0, 1) := by decide +kernel
theorem d_M_times_2 : decode b_M_times 2 = .ok (.putfield 30, 3) := by decide +kernel
theorem d_M_times_5 : decode b_M_times 5 = .ok (.iload_n 1, 1) := by decide +kernel
theorem d_M_times_6 : decode b_M_times 6 = .ok (.invokestatic 95, 3) := by decide +kernel
theorem d_M_times_9 : decode b_M_times 9 = .ok (.ifCond .eq 22, 3) := by decide +kernel
theorem d_M_times_12 : decode b_M_times 12 = .ok (.iload_n 3, 1) := by decide +kernel
theorem d_M_times_13 : decode b_M_times 13 = .ok (.invokestatic 95, 3) := by decide +kernel
theorem d_M_times_16 : decode b_M_times 16 = .ok (.ifCond .eq 15, 3) := by decide +kernel
theorem d_M_times_19 : decode b_M_times 19 = .ok (.iload_n 2, 1) := by decide +kernel
theorem d_M_times_20 : decode b_M_times 20 = .ok (.ldc 147, 2) := by decide +kernel
theorem d_M_times_22 : decode b_M_times 22 = .ok (.if_icmp .lt 9, 3) := by decide +kernel
theorem d_M_times_25 : decode b_M_times 25 = .ok (.iload_n 2, 1) := by decide +kernel
theorem d_M_times_26 : decode b_M_times 26 = .ok (.ldc 148, 2) := by decide +kernel
theorem d_M_times_28 : decode b_M_times 28 = .ok (.if_icmp .le 5, 3) := by decide +kernel
theorem d_M_times_31 : decode b_M_times 31 = .ok (.iconst (-1), 1) := by decide +kernel
theorem d_M_times_32 : decode b_M_times 32 = .ok (.ireturn, 1) := by decide +kernel
theorem d_M_times_33 : decode b_M_times 33 = .ok (.iload_n 2, 1) := by decide +kernel
theorem d_M_times_34 : decode b_M_times 34 = .ok (.ifCond .ge 8, 3) := by decide +kernel
theorem d_M_times_37 : decode b_M_times 37 = .ok (.iload_n 2, 1) := by decide +kernel
theorem d_M_times_38 : decode b_M_times 38 = .ok (.ineg, 1) := by decide +kernel
theorem d_M_times_39 : decode b_M_times 39 = .ok (.goto 4, 3) := by decide +kernel
theorem d_M_times_42 : decode b_M_times 42 = .ok (.iload_n 2, 1) := by decide +kernel
theorem d_M_times_43 : decode b_M_times 43 = .ok (.istore 4, 2) := by decide +kernel
theorem d_M_times_45 : decode b_M_times 45 = .ok (.ldc 149, 2) := by decide +kernel
theorem d_M_times_47 : decode b_M_times 47 = .ok (.istore 5, 2) := by decide +kernel
theorem d_M_times_49 : decode b_M_times 49 = .ok (.aload_n 0, 1) := by decide +kernel
theorem d_M_times_50 : decode b_M_times 50 = .ok (.getfield 19, 3) := by decide +kernel
theorem d_M_times_53 : decode b_M_times 53 = .ok (.bipush 36, 2) := by decide +kernel
theorem d_M_times_55 : decode b_M_times 55 = .ok (.iconst 1, 1) := by decide +kernel
theorem d_M_times_56 : decode b_M_times 56 = .ok (.bastore, 1) := by decide +kernel
theorem d_M_times_57 : decode b_M_times 57 = .ok (.iload 5, 2) := by decide +kernel
theorem d_M_times_59 : decode b_M_times 59 = .ok (.ifCond .le 79, 3) := by decide +kernel
theorem d_M_times_62 : decode b_M_times 62 = .ok (.aload_n 0, 1) := by decide +kernel
theorem d_M_times_63 : decode b_M_times 63 = .ok (.bipush 36, 2) := by decide +kernel
theorem d_M_times_65 : decode b_M_times 65 = .ok (.bipush 30, 2) := by decide +kernel
theorem d_M_times_67 : decode b_M_times 67 = .ok (.invokevirtual 112, 3) := by decide +kernel
theorem d_M_times_70 : decode b_M_times 70 = .ok (.aload_n 0, 1) := by decide +kernel
theorem d_M_times_71 : decode b_M_times 71 = .ok (.bipush 36, 2) := by decide +kernel
theorem d_M_times_73 : decode b_M_times 73 = .ok (.bipush 33, 2) := by decide +kernel
theorem d_M_times_75 : decode b_M_times 75 = .ok (.invokevirtual 112, 3) := by decide +kernel
theorem d_M_times_78 : decode b_M_times 78 = .ok (.aload_n 0, 1) := by decide +kernel
theorem d_M_times_79 : decode b_M_times 79 = .ok (.invokevirtual 137, 3) := by decide +kernel
theorem d_M_times_82 : decode b_M_times 82 = .ok (.aload_n 0, 1) := by decide +kernel
theorem d_M_times_83 : decode b_M_times 83 = .ok (.invokevirtual 150, 3) := by decide +kernel
theorem d_M_times_86 : decode b_M_times 86 = .ok (.ifCond .eq 5, 3) := by decide +kernel
theorem d_M_times_89 : decode b_M_times 89 = .ok (.iconst 0, 1) := by decide +kernel
theorem d_M_times_90 : decode b_M_times 90 = .ok (.ireturn, 1) := by decide +kernel
theorem d_M_times_91 : decode b_M_times 91 = .ok (.iload 4, 2) := by decide +kernel
theorem d_M_times_93 : decode b_M_times 93 = .ok (.iload 5, 2) := by decide +kernel
theorem d_M_times_95 : decode b_M_times 95 = .ok (.iand, 1) := by decide +kernel
theorem d_M_times_96 : decode b_M_times 96 = .ok (.ifCond .eq 33, 3) := by decide +kernel
theorem d_M_times_99 : decode b_M_times 99 = .ok (.aload_n 0, 1) := by decide +kernel
theorem d_M_times_100 : decode b_M_times 100 = .ok (.bipush 36, 2) := by decide +kernel
theorem d_M_times_102 : decode b_M_times 102 = .ok (.bipush 30, 2) := by decide +kernel
theorem d_M_times_104 : decode b_M_times 104 = .ok (.invokevirtual 112, 3) := by decide +kernel
theorem d_M_times_107 : decode b_M_times 107 = .ok (.aload_n 0, 1) := by decide +kernel
theorem d_M_times_108 : decode b_M_times 108 = .ok (.iconst 3, 1) := by decide +kernel
theorem d_M_times_109 : decode b_M_times 109 = .ok (.iload_n 1, 1) := by decide +kernel
theorem d_M_times_110 : decode b_M_times 110 = .ok (.imul, 1) := by decide +kernel
theorem d_M_times_111 : decode b_M_times 111 = .ok (.bipush 33, 2) := by decide +kernel
theorem d_M_times_113 : decode b_M_times 113 = .ok (.invokevirtual 112, 3) := by decide +kernel
theorem d_M_times_116 : decode b_M_times 116 = .ok (.aload_n 0, 1) := by decide +kernel
theorem d_M_times_117 : decode b_M_times 117 = .ok (.invokevirtual 137, 3) := by decide +kernel
theorem d_M_times_120 : decode b_M_times 120 = .ok (.aload_n 0, 1) := by decide +kernel
theorem d_M_times_121 : decode b_M_times 121 = .ok (.invokevirtual 150, 3) := by decide +kernel
theorem d_M_times_124 : decode b_M_times 124 = .ok (.ifCond .eq 5, 3) := by decide +kernel
theorem d_M_times_127 : decode b_M_times 127 = .ok (.iconst 0, 1) := by decide +kernel
theorem d_M_times_128 : decode b_M_times 128 = .ok (.ireturn, 1) := by decide +kernel
theorem d_M_times_129 : decode b_M_times 129 = .ok (.iload 5, 2) := by decide +kernel
theorem d_M_times_131 : decode b_M_times 131 = .ok (.iconst 1, 1) := by decide +kernel
theorem d_M_times_132 : decode b_M_times 132 = .ok (.ishr, 1) := by decide +kernel
theorem d_M_times_133 : decode b_M_times 133 = .ok (.istore 5, 2) := by decide +kernel
theorem d_M_times_135 : decode b_M_times 135 = .ok (.goto (-78), 3) := by decide +kernel
theorem d_M_times_138 : decode b_M_times 138 = .ok (.iload_n 2, 1) := by decide +kernel
theorem d_M_times_139 : decode b_M_times 139 = .ok (.ifCond .ge 9, 3) := by decide +kernel
theorem d_M_times_142 : decode b_M_times 142 = .ok (.aload_n 0, 1) := by decide +kernel
theorem d_M_times_143 : decode b_M_times 143 = .ok (.bipush 36, 2) := by decide +kernel
theorem d_M_times_145 : decode b_M_times 145 = .ok (.invokevirtual 143, 3) := by decide +kernel
theorem d_M_times_148 : decode b_M_times 148 = .ok (.aload_n 0, 1) := by decide +kernel
theorem d_M_times_149 : decode b_M_times 149 = .ok (.iload_n 3, 1) := by decide +kernel
theorem d_M_times_150 : decode b_M_times 150 = .ok (.invokevirtual 140, 3) := by decide +kernel
theorem d_M_times_153 : decode b_M_times 153 = .ok (.ireturn, 1) := by decide +kernel
theorem d_M_order_0 : decode b_M_order 0 = .ok (.aload_n 0, 1) := by decide +kernel
theorem d_M_order_1 : decode b_M_order 1 = .ok (.iconst 0, 1) := by decide +kernel
theorem d_M_order_2 : decode b_M_order 2 = .ok (.putfield 30, 3) := by decide +kernel
theorem d_M_order_5 : decode b_M_order 5 = .ok (.iload_n 1, 1) := by decide +kernel
theorem d_M_order_6 : decode b_M_order 6 = .ok (.invokestatic 95, 3) := by decide +kernel
theorem d_M_order_9 : decode b_M_order 9 = .ok (.ifCond .ne 5, 3) := by decide +kernel
theorem d_M_order_12 : decode b_M_order 12 = .ok (.iconst (-1), 1) := by decide +kernel
theorem d_M_order_13 : decode b_M_order 13 = .ok (.ireturn, 1) := by decide +kernel
theorem d_M_order_14 : decode b_M_order 14 = .ok (.aload_n 0, 1) := by decide +kernel
theorem d_M_order_15 : decode b_M_order 15 = .ok (.iconst 3, 1) := by decide +kernel
theorem d_M_order_16 : decode b_M_order 16 = .ok (.iload_n 1, 1) := by decide +kernel
theorem d_M_order_17 : decode b_M_order 17 = .ok (.imul, 1) := by decide +kernel
theorem d_M_order_18 : decode b_M_order 18 = .ok (.bipush 36, 2) := by decide +kernel
theorem d_M_order_20 : decode b_M_order 20 = .ok (.invokevirtual 112, 3) := by decide +kernel
theorem d_M_order_23 : decode b_M_order 23 = .ok (.iconst 1, 1) := by decide +kernel
theorem d_M_order_24 : decode b_M_order 24 = .ok (.istore_n 2, 1) := by decide +kernel
theorem d_M_order_25 : decode b_M_order 25 = .ok (.iload_n 2, 1) := by decide +kernel
theorem d_M_order_26 : decode b_M_order 26 = .ok (.bipush 12, 2) := by decide +kernel
theorem d_M_order_28 : decode b_M_order 28 = .ok (.if_icmp .gt 67, 3) := by decide +kernel
theorem d_M_order_31 : decode b_M_order 31 = .ok (.aload_n 0, 1) := by decide +kernel
theorem d_M_order_32 : decode b_M_order 32 = .ok (.getfield 19, 3) := by decide +kernel
theorem d_M_order_35 : decode b_M_order 35 = .ok (.bipush 36, 2) := by decide +kernel
theorem d_M_order_37 : decode b_M_order 37 = .ok (.baload, 1) := by decide +kernel
theorem d_M_order_38 : decode b_M_order 38 = .ok (.ifCond .eq 5, 3) := by decide +kernel
theorem d_M_order_41 : decode b_M_order 41 = .ok (.iload_n 2, 1) := by decide +kernel
theorem d_M_order_42 : decode b_M_order 42 = .ok (.ireturn, 1) := by decide +kernel
theorem d_M_order_43 : decode b_M_order 43 = .ok (.aload_n 0, 1) := by decide +kernel
theorem d_M_order_44 : decode b_M_order 44 = .ok (.getfield 13, 3) := by decide +kernel
theorem d_M_order_47 : decode b_M_order 47 = .ok (.bipush 38, 2) := by decide +kernel
theorem d_M_order_49 : decode b_M_order 49 = .ok (.iaload, 1) := by decide +kernel
theorem d_M_order_50 : decode b_M_order 50 = .ok (.iconst 1, 1) := by decide +kernel
theorem d_M_order_51 : decode b_M_order 51 = .ok (.if_icmp .gt 15, 3) := by decide +kernel
theorem d_M_order_54 : decode b_M_order 54 = .ok (.aload_n 0, 1) := by decide +kernel
theorem d_M_order_55 : decode b_M_order 55 = .ok (.getfield 9, 3) := by decide +kernel
theorem d_M_order_58 : decode b_M_order 58 = .ok (.sipush 17480, 3) := by decide +kernel
theorem d_M_order_61 : decode b_M_order 61 = .ok (.iaload, 1) := by decide +kernel
theorem d_M_order_62 : decode b_M_order 62 = .ok (.iconst 2, 1) := by decide +kernel
theorem d_M_order_63 : decode b_M_order 63 = .ok (.if_icmp .le 5, 3) := by decide +kernel
theorem d_M_order_66 : decode b_M_order 66 = .ok (.iconst 0, 1) := by decide +kernel
theorem d_M_order_67 : decode b_M_order 67 = .ok (.ireturn, 1) := by decide +kernel
theorem d_M_order_68 : decode b_M_order 68 = .ok (.aload_n 0, 1) := by decide +kernel
theorem d_M_order_69 : decode b_M_order 69 = .ok (.bipush 36, 2) := by decide +kernel
theorem d_M_order_71 : decode b_M_order 71 = .ok (.bipush 30, 2) := by decide +kernel
theorem d_M_order_73 : decode b_M_order 73 = .ok (.invokevirtual 112, 3) := by decide +kernel
theorem d_M_order_76 : decode b_M_order 76 = .ok (.aload_n 0, 1) := by decide +kernel
theorem d_M_order_77 : decode b_M_order 77 = .ok (.iconst 3, 1) := by decide +kernel
theorem d_M_order_78 : decode b_M_order 78 = .ok (.iload_n 1, 1) := by decide +kernel
theorem d_M_order_79 : decode b_M_order 79 = .ok (.imul, 1) := by decide +kernel
theorem d_M_order_80 : decode b_M_order 80 = .ok (.bipush 33, 2) := by decide +kernel
theorem d_M_order_82 : decode b_M_order 82 = .ok (.invokevirtual 112, 3) := by decide +kernel
theorem d_M_order_85 : decode b_M_order 85 = .ok (.aload_n 0, 1) := by decide +kernel
theorem d_M_order_86 : decode b_M_order 86 = .ok (.invokevirtual 137, 3) := by decide +kernel
theorem d_M_order_89 : decode b_M_order 89 = .ok (.iinc 2 1, 3) := by decide +kernel
theorem d_M_order_92 : decode b_M_order 92 = .ok (.goto (-67), 3) := by decide +kernel
theorem d_M_order_95 : decode b_M_order 95 = .ok (.iconst 0, 1) := by decide +kernel
theorem d_M_order_96 : decode b_M_order 96 = .ok (.ireturn, 1) := by decide +kernel
theorem d_M_isNone_0 : decode b_M_isNone 0 = .ok (.aload_n 0, 1) := by decide +kernel
theorem d_M_isNone_1 : decode b_M_isNone 1 = .ok (.iconst 0, 1) := by decide +kernel
theorem d_M_isNone_2 : decode b_M_isNone 2 = .ok (.putfield 30, 3) := by decide +kernel
theorem d_M_isNone_5 : decode b_M_isNone 5 = .ok (.iload_n 1, 1) := by decide +kernel
theorem d_M_isNone_6 : decode b_M_isNone 6 = .ok (.invokestatic 95, 3) := by decide +kernel
theorem d_M_isNone_9 : decode b_M_isNone 9 = .ok (.ifCond .eq 18, 3) := by decide +kernel
theorem d_M_isNone_12 : decode b_M_isNone 12 = .ok (.aload_n 0, 1) := by decide +kernel
theorem d_M_isNone_13 : decode b_M_isNone 13 = .ok (.getfield 19, 3) := by decide +kernel
theorem d_M_isNone_16 : decode b_M_isNone 16 = .ok (.iconst 3, 1) := by decide +kernel
theorem d_M_isNone_17 : decode b_M_isNone 17 = .ok (.iload_n 1, 1) := by decide +kernel
theorem d_M_isNone_18 : decode b_M_isNone 18 = .ok (.imul, 1) := by decide +kernel
theorem d_M_isNone_19 : decode b_M_isNone 19 = .ok (.baload, 1) := by decide +kernel
theorem d_M_isNone_20 : decode b_M_isNone 20 = .ok (.ifCond .eq 7, 3) := by decide +kernel
theorem d_M_isNone_23 : decode b_M_isNone 23 = .ok (.iconst 1, 1) := by decide +kernel
theorem d_M_isNone_24 : decode b_M_isNone 24 = .ok (.goto 4, 3) := by decide +kernel
theorem d_M_isNone_27 : decode b_M_isNone 27 = .ok (.iconst 0, 1) := by decide +kernel
theorem d_M_isNone_28 : decode b_M_isNone 28 = .ok (.ireturn, 1) := by decide +kernel
theorem d_M_same_0 : decode b_M_same 0 = .ok (.aload_n 0, 1) := by decide +kernel
theorem d_M_same_1 : decode b_M_same 1 = .ok (.iconst 0, 1) := by decide +kernel
theorem d_M_same_2 : decode b_M_same 2 = .ok (.putfield 30, 3) := by decide +kernel
theorem d_M_same_5 : decode b_M_same 5 = .ok (.iload_n 1, 1) := by decide +kernel
theorem d_M_same_6 : decode b_M_same 6 = .ok (.invokestatic 95, 3) := by decide +kernel
theorem d_M_same_9 : decode b_M_same 9 = .ok (.ifCond .eq 10, 3) := by decide +kernel
theorem d_M_same_12 : decode b_M_same 12 = .ok (.iload_n 2, 1) := by decide +kernel
theorem d_M_same_13 : decode b_M_same 13 = .ok (.invokestatic 95, 3) := by decide +kernel
theorem d_M_same_16 : decode b_M_same 16 = .ok (.ifCond .ne 5, 3) := by decide +kernel
theorem d_M_same_19 : decode b_M_same 19 = .ok (.iconst 0, 1) := by decide +kernel
theorem d_M_same_20 : decode b_M_same 20 = .ok (.ireturn, 1) := by decide +kernel
theorem d_M_same_21 : decode b_M_same 21 = .ok (.aload_n 0, 1) := by decide +kernel
theorem d_M_same_22 : decode b_M_same 22 = .ok (.getfield 19, 3) := by decide +kernel
theorem d_M_same_25 : decode b_M_same 25 = .ok (.iconst 3, 1) := by decide +kernel
theorem d_M_same_26 : decode b_M_same 26 = .ok (.iload_n 1, 1) := by decide +kernel
theorem d_M_same_27 : decode b_M_same 27 = .ok (.imul, 1) := by decide +kernel
theorem d_M_same_28 : decode b_M_same 28 = .ok (.baload, 1) := by decide +kernel
theorem d_M_same_29 : decode b_M_same 29 = .ok (.ifCond .ne 14, 3) := by decide +kernel
theorem d_M_same_32 : decode b_M_same 32 = .ok (.aload_n 0, 1) := by decide +kernel
theorem d_M_same_33 : decode b_M_same 33 = .ok (.getfield 19, 3) := by decide +kernel
theorem d_M_same_36 : decode b_M_same 36 = .ok (.iconst 3, 1) := by decide +kernel
theorem d_M_same_37 : decode b_M_same 37 = .ok (.iload_n 2, 1) := by decide +kernel
theorem d_M_same_38 : decode b_M_same 38 = .ok (.imul, 1) := by decide +kernel
theorem d_M_same_39 : decode b_M_same 39 = .ok (.baload, 1) := by decide +kernel
theorem d_M_same_40 : decode b_M_same 40 = .ok (.ifCond .eq 31, 3) := by decide +kernel
theorem d_M_same_43 : decode b_M_same 43 = .ok (.aload_n 0, 1) := by decide +kernel
theorem d_M_same_44 : decode b_M_same 44 = .ok (.getfield 19, 3) := by decide +kernel
theorem d_M_same_47 : decode b_M_same 47 = .ok (.iconst 3, 1) := by decide +kernel
theorem d_M_same_48 : decode b_M_same 48 = .ok (.iload_n 1, 1) := by decide +kernel
theorem d_M_same_49 : decode b_M_same 49 = .ok (.imul, 1) := by decide +kernel
theorem d_M_same_50 : decode b_M_same 50 = .ok (.baload, 1) := by decide +kernel
theorem d_M_same_51 : decode b_M_same 51 = .ok (.ifCond .eq 18, 3) := by decide +kernel
theorem d_M_same_54 : decode b_M_same 54 = .ok (.aload_n 0, 1) := by decide +kernel
theorem d_M_same_55 : decode b_M_same 55 = .ok (.getfield 19, 3) := by decide +kernel
theorem d_M_same_58 : decode b_M_same 58 = .ok (.iconst 3, 1) := by decide +kernel
theorem d_M_same_59 : decode b_M_same 59 = .ok (.iload_n 2, 1) := by decide +kernel
theorem d_M_same_60 : decode b_M_same 60 = .ok (.imul, 1) := by decide +kernel
theorem d_M_same_61 : decode b_M_same 61 = .ok (.baload, 1) := by decide +kernel
theorem d_M_same_62 : decode b_M_same 62 = .ok (.ifCond .eq 7, 3) := by decide +kernel
theorem d_M_same_65 : decode b_M_same 65 = .ok (.iconst 1, 1) := by decide +kernel
theorem d_M_same_66 : decode b_M_same 66 = .ok (.goto 4, 3) := by decide +kernel
theorem d_M_same_69 : decode b_M_same 69 = .ok (.iconst 0, 1) := by decide +kernel
theorem d_M_same_70 : decode b_M_same 70 = .ok (.ireturn, 1) := by decide +kernel
theorem d_M_same_71 : decode b_M_same 71 = .ok (.aload_n 0, 1) := by decide +kernel
theorem d_M_same_72 : decode b_M_same 72 = .ok (.iconst 3, 1) := by decide +kernel
theorem d_M_same_73 : decode b_M_same 73 = .ok (.iload_n 1, 1) := by decide +kernel
theorem d_M_same_74 : decode b_M_same 74 = .ok (.imul, 1) := by decide +kernel
theorem d_M_same_75 : decode b_M_same 75 = .ok (.iconst 3, 1) := by decide +kernel
theorem d_M_same_76 : decode b_M_same 76 = .ok (.iload_n 2, 1) := by decide +kernel
theorem d_M_same_77 : decode b_M_same 77 = .ok (.imul, 1) := by decide +kernel
theorem d_M_same_78 : decode b_M_same 78 = .ok (.invokevirtual 105, 3) := by decide +kernel
theorem d_M_same_81 : decode b_M_same 81 = .ok (.ifCond .eq 41, 3) := by decide +kernel
theorem d_M_same_84 : decode b_M_same 84 = .ok (.aload_n 0, 1) := by decide +kernel
theorem d_M_same_85 : decode b_M_same 85 = .ok (.iconst 3, 1) := by decide +kernel
theorem d_M_same_86 : decode b_M_same 86 = .ok (.iload_n 1, 1) := by decide +kernel
theorem d_M_same_87 : decode b_M_same 87 = .ok (.imul, 1) := by decide +kernel
theorem d_M_same_88 : decode b_M_same 88 = .ok (.iconst 1, 1) := by decide +kernel
theorem d_M_same_89 : decode b_M_same 89 = .ok (.iadd, 1) := by decide +kernel
theorem d_M_same_90 : decode b_M_same 90 = .ok (.iconst 3, 1) := by decide +kernel
theorem d_M_same_91 : decode b_M_same 91 = .ok (.iload_n 2, 1) := by decide +kernel
theorem d_M_same_92 : decode b_M_same 92 = .ok (.imul, 1) := by decide +kernel
theorem d_M_same_93 : decode b_M_same 93 = .ok (.iconst 1, 1) := by decide +kernel
theorem d_M_same_94 : decode b_M_same 94 = .ok (.iadd, 1) := by decide +kernel
theorem d_M_same_95 : decode b_M_same 95 = .ok (.invokevirtual 105, 3) := by decide +kernel
theorem d_M_same_98 : decode b_M_same 98 = .ok (.ifCond .eq 24, 3) := by decide +kernel
theorem d_M_same_101 : decode b_M_same 101 = .ok (.aload_n 0, 1) := by decide +kernel
theorem d_M_same_102 : decode b_M_same 102 = .ok (.iconst 3, 1) := by decide +kernel
theorem d_M_same_103 : decode b_M_same 103 = .ok (.iload_n 1, 1) := by decide +kernel
theorem d_M_same_104 : decode b_M_same 104 = .ok (.imul, 1) := by decide +kernel
theorem d_M_same_105 : decode b_M_same 105 = .ok (.iconst 2, 1) := by decide +kernel
theorem d_M_same_106 : decode b_M_same 106 = .ok (.iadd, 1) := by decide +kernel
theorem d_M_same_107 : decode b_M_same 107 = .ok (.iconst 3, 1) := by decide +kernel
theorem d_M_same_108 : decode b_M_same 108 = .ok (.iload_n 2, 1) := by decide +kernel
theorem d_M_same_109 : decode b_M_same 109 = .ok (.imul, 1) := by decide +kernel
theorem d_M_same_110 : decode b_M_same 110 = .ok (.iconst 2, 1) := by decide +kernel
theorem d_M_same_111 : decode b_M_same 111 = .ok (.iadd, 1) := by decide +kernel
theorem d_M_same_112 : decode b_M_same 112 = .ok (.invokevirtual 105, 3) := by decide +kernel
theorem d_M_same_115 : decode b_M_same 115 = .ok (.ifCond .eq 7, 3) := by decide +kernel
theorem d_M_same_118 : decode b_M_same 118 = .ok (.iconst 1, 1) := by decide +kernel
theorem d_M_same_119 : decode b_M_same 119 = .ok (.goto 4, 3) := by decide +kernel
theorem d_M_same_122 : decode b_M_same 122 = .ok (.iconst 0, 1) := by decide +kernel
theorem d_M_same_123 : decode b_M_same 123 = .ok (.ireturn, 1) := by decide +kernel
theorem d_M_take_0 : decode b_M_take 0 = .ok (.aload_n 0, 1) := by decide +kernel
theorem d_M_take_1 : decode b_M_take 1 = .ok (.iconst 0, 1) := by decide +kernel
theorem d_M_take_2 : decode b_M_take 2 = .ok (.putfield 30, 3) := by decide +kernel
theorem d_M_take_5 : decode b_M_take 5 = .ok (.iload_n 1, 1) := by decide +kernel
theorem d_M_take_6 : decode b_M_take 6 = .ok (.invokestatic 95, 3) := by decide +kernel
theorem d_M_take_9 : decode b_M_take 9 = .ok (.ifCond .eq 23, 3) := by decide +kernel
theorem d_M_take_12 : decode b_M_take 12 = .ok (.aload_n 0, 1) := by decide +kernel
theorem d_M_take_13 : decode b_M_take 13 = .ok (.getfield 19, 3) := by decide +kernel
theorem d_M_take_16 : decode b_M_take 16 = .ok (.iconst 3, 1) := by decide +kernel
theorem d_M_take_17 : decode b_M_take 17 = .ok (.iload_n 1, 1) := by decide +kernel
theorem d_M_take_18 : decode b_M_take 18 = .ok (.imul, 1) := by decide +kernel
theorem d_M_take_19 : decode b_M_take 19 = .ok (.baload, 1) := by decide +kernel
theorem d_M_take_20 : decode b_M_take 20 = .ok (.ifCond .ne 12, 3) := by decide +kernel
theorem d_M_take_23 : decode b_M_take 23 = .ok (.iload_n 2, 1) := by decide +kernel
theorem d_M_take_24 : decode b_M_take 24 = .ok (.ifCond .lt 8, 3) := by decide +kernel
theorem d_M_take_27 : decode b_M_take 27 = .ok (.iload_n 2, 1) := by decide +kernel
theorem d_M_take_28 : decode b_M_take 28 = .ok (.iconst 3, 1) := by decide +kernel
theorem d_M_take_29 : decode b_M_take 29 = .ok (.if_icmp .le 5, 3) := by decide +kernel
theorem d_M_take_32 : decode b_M_take 32 = .ok (.iconst 0, 1) := by decide +kernel
theorem d_M_take_33 : decode b_M_take 33 = .ok (.ireturn, 1) := by decide +kernel
theorem d_M_take_34 : decode b_M_take 34 = .ok (.iconst 3, 1) := by decide +kernel
theorem d_M_take_35 : decode b_M_take 35 = .ok (.iload_n 1, 1) := by decide +kernel
theorem d_M_take_36 : decode b_M_take 36 = .ok (.imul, 1) := by decide +kernel
theorem d_M_take_37 : decode b_M_take 37 = .ok (.istore_n 3, 1) := by decide +kernel
theorem d_M_take_38 : decode b_M_take 38 = .ok (.iload_n 2, 1) := by decide +kernel
theorem d_M_take_39 : decode b_M_take 39 = .ok (.ifCond .eq 8, 3) := by decide +kernel
theorem d_M_take_42 : decode b_M_take 42 = .ok (.iload_n 2, 1) := by decide +kernel
theorem d_M_take_43 : decode b_M_take 43 = .ok (.iconst 2, 1) := by decide +kernel
theorem d_M_take_44 : decode b_M_take 44 = .ok (.if_icmp .ne 22, 3) := by decide +kernel
theorem d_M_take_47 : decode b_M_take 47 = .ok (.aload_n 0, 1) := by decide +kernel
theorem d_M_take_48 : decode b_M_take 48 = .ok (.iload_n 2, 1) := by decide +kernel
theorem d_M_take_49 : decode b_M_take 49 = .ok (.ifCond .ne 7, 3) := by decide +kernel
theorem d_M_take_52 : decode b_M_take 52 = .ok (.iload_n 3, 1) := by decide +kernel
theorem d_M_take_53 : decode b_M_take 53 = .ok (.goto 6, 3) := by decide +kernel
theorem d_M_take_56 : decode b_M_take 56 = .ok (.iload_n 3, 1) := by decide +kernel
theorem d_M_take_57 : decode b_M_take 57 = .ok (.iconst 1, 1) := by decide +kernel
theorem d_M_take_58 : decode b_M_take 58 = .ok (.iadd, 1) := by decide +kernel
theorem d_M_take_59 : decode b_M_take 59 = .ok (.bipush 45, 2) := by decide +kernel
theorem d_M_take_61 : decode b_M_take 61 = .ok (.invokevirtual 40, 3) := by decide +kernel
theorem d_M_take_64 : decode b_M_take 64 = .ok (.iconst 1, 1) := by decide +kernel
theorem d_M_take_65 : decode b_M_take 65 = .ok (.ireturn, 1) := by decide +kernel
theorem d_M_take_66 : decode b_M_take 66 = .ok (.aload_n 0, 1) := by decide +kernel
theorem d_M_take_67 : decode b_M_take 67 = .ok (.bipush 45, 2) := by decide +kernel
theorem d_M_take_69 : decode b_M_take 69 = .ok (.iload_n 3, 1) := by decide +kernel
theorem d_M_take_70 : decode b_M_take 70 = .ok (.iconst 2, 1) := by decide +kernel
theorem d_M_take_71 : decode b_M_take 71 = .ok (.iadd, 1) := by decide +kernel
theorem d_M_take_72 : decode b_M_take 72 = .ok (.iload_n 3, 1) := by decide +kernel
theorem d_M_take_73 : decode b_M_take 73 = .ok (.iconst 2, 1) := by decide +kernel
theorem d_M_take_74 : decode b_M_take 74 = .ok (.iadd, 1) := by decide +kernel
theorem d_M_take_75 : decode b_M_take 75 = .ok (.invokevirtual 92, 3) := by decide +kernel
theorem d_M_take_78 : decode b_M_take 78 = .ok (.iload_n 2, 1) := by decide +kernel
theorem d_M_take_79 : decode b_M_take 79 = .ok (.iconst 3, 1) := by decide +kernel
theorem d_M_take_80 : decode b_M_take 80 = .ok (.if_icmp .ne 22, 3) := by decide +kernel
theorem d_M_take_83 : decode b_M_take 83 = .ok (.aload_n 0, 1) := by decide +kernel
theorem d_M_take_84 : decode b_M_take 84 = .ok (.bipush 46, 2) := by decide +kernel
theorem d_M_take_86 : decode b_M_take 86 = .ok (.bipush 45, 2) := by decide +kernel
theorem d_M_take_88 : decode b_M_take 88 = .ok (.iload_n 3, 1) := by decide +kernel
theorem d_M_take_89 : decode b_M_take 89 = .ok (.iconst 2, 1) := by decide +kernel
theorem d_M_take_90 : decode b_M_take 90 = .ok (.iadd, 1) := by decide +kernel
theorem d_M_take_91 : decode b_M_take 91 = .ok (.invokevirtual 92, 3) := by decide +kernel
theorem d_M_take_94 : decode b_M_take 94 = .ok (.aload_n 0, 1) := by decide +kernel
theorem d_M_take_95 : decode b_M_take 95 = .ok (.bipush 46, 2) := by decide +kernel
theorem d_M_take_97 : decode b_M_take 97 = .ok (.bipush 45, 2) := by decide +kernel
theorem d_M_take_99 : decode b_M_take 99 = .ok (.invokevirtual 40, 3) := by decide +kernel
theorem d_M_take_102 : decode b_M_take 102 = .ok (.iconst 1, 1) := by decide +kernel
theorem d_M_take_103 : decode b_M_take 103 = .ok (.ireturn, 1) := by decide +kernel
theorem d_M_digits_0 : decode b_M_digits 0 = .ok (.aload_n 0, 1) := by decide +kernel
theorem d_M_digits_1 : decode b_M_digits 1 = .ok (.iload_n 1, 1) := by decide +kernel
theorem d_M_digits_2 : decode b_M_digits 2 = .ok (.iload_n 2, 1) := by decide +kernel
theorem d_M_digits_3 : decode b_M_digits 3 = .ok (.invokevirtual 153, 3) := by decide +kernel
theorem d_M_digits_6 : decode b_M_digits 6 = .ok (.ifCond .eq 12, 3) := by decide +kernel
theorem d_M_digits_9 : decode b_M_digits 9 = .ok (.aload_n 0, 1) := by decide +kernel
theorem d_M_digits_10 : decode b_M_digits 10 = .ok (.bipush 45, 2) := by decide +kernel
theorem d_M_digits_12 : decode b_M_digits 12 = .ok (.invokevirtual 130, 3) := by decide +kernel
theorem d_M_digits_15 : decode b_M_digits 15 = .ok (.goto 4, 3) := by decide +kernel
theorem d_M_digits_18 : decode b_M_digits 18 = .ok (.iconst (-1), 1) := by decide +kernel
theorem d_M_digits_19 : decode b_M_digits 19 = .ok (.ireturn, 1) := by decide +kernel
theorem d_M_digitAt_0 : decode b_M_digitAt 0 = .ok (.aload_n 0, 1) := by decide +kernel
theorem d_M_digitAt_1 : decode b_M_digitAt 1 = .ok (.iload_n 1, 1) := by decide +kernel
theorem d_M_digitAt_2 : decode b_M_digitAt 2 = .ok (.iload_n 2, 1) := by decide +kernel
theorem d_M_digitAt_3 : decode b_M_digitAt 3 = .ok (.invokevirtual 153, 3) := by decide +kernel
theorem d_M_digitAt_6 : decode b_M_digitAt 6 = .ok (.ifCond .ne 5, 3) := by decide +kernel
theorem d_M_digitAt_9 : decode b_M_digitAt 9 = .ok (.iconst (-1), 1) := by decide +kernel
theorem d_M_digitAt_10 : decode b_M_digitAt 10 = .ok (.ireturn, 1) := by decide +kernel
theorem d_M_digitAt_11 : decode b_M_digitAt 11 = .ok (.aload_n 0, 1) := by decide +kernel
theorem d_M_digitAt_12 : decode b_M_digitAt 12 = .ok (.bipush 45, 2) := by decide +kernel
theorem d_M_digitAt_14 : decode b_M_digitAt 14 = .ok (.invokevirtual 130, 3) := by decide +kernel
theorem d_M_digitAt_17 : decode b_M_digitAt 17 = .ok (.istore 4, 2) := by decide +kernel
theorem d_M_digitAt_19 : decode b_M_digitAt 19 = .ok (.iload_n 3, 1) := by decide +kernel
theorem d_M_digitAt_20 : decode b_M_digitAt 20 = .ok (.ifCond .lt 9, 3) := by decide +kernel
theorem d_M_digitAt_23 : decode b_M_digitAt 23 = .ok (.iload_n 3, 1) := by decide +kernel
theorem d_M_digitAt_24 : decode b_M_digitAt 24 = .ok (.iload 4, 2) := by decide +kernel
theorem d_M_digitAt_26 : decode b_M_digitAt 26 = .ok (.if_icmp .lt 5, 3) := by decide +kernel
theorem d_M_digitAt_29 : decode b_M_digitAt 29 = .ok (.iconst (-1), 1) := by decide +kernel
theorem d_M_digitAt_30 : decode b_M_digitAt 30 = .ok (.ireturn, 1) := by decide +kernel
theorem d_M_digitAt_31 : decode b_M_digitAt 31 = .ok (.iload 4, 2) := by decide +kernel
theorem d_M_digitAt_33 : decode b_M_digitAt 33 = .ok (.iconst 1, 1) := by decide +kernel
theorem d_M_digitAt_34 : decode b_M_digitAt 34 = .ok (.isub, 1) := by decide +kernel
theorem d_M_digitAt_35 : decode b_M_digitAt 35 = .ok (.iload_n 3, 1) := by decide +kernel
theorem d_M_digitAt_36 : decode b_M_digitAt 36 = .ok (.isub, 1) := by decide +kernel
theorem d_M_digitAt_37 : decode b_M_digitAt 37 = .ok (.istore 5, 2) := by decide +kernel
theorem d_M_digitAt_39 : decode b_M_digitAt 39 = .ok (.aload_n 0, 1) := by decide +kernel
theorem d_M_digitAt_40 : decode b_M_digitAt 40 = .ok (.getfield 13, 3) := by decide +kernel
theorem d_M_digitAt_43 : decode b_M_digitAt 43 = .ok (.bipush 45, 2) := by decide +kernel
theorem d_M_digitAt_45 : decode b_M_digitAt 45 = .ok (.iaload, 1) := by decide +kernel
theorem d_M_digitAt_46 : decode b_M_digitAt 46 = .ok (.ifCond .ne 7, 3) := by decide +kernel
theorem d_M_digitAt_49 : decode b_M_digitAt 49 = .ok (.iconst 0, 1) := by decide +kernel
theorem d_M_digitAt_50 : decode b_M_digitAt 50 = .ok (.goto 17, 3) := by decide +kernel
theorem d_M_digitAt_53 : decode b_M_digitAt 53 = .ok (.aload_n 0, 1) := by decide +kernel
theorem d_M_digitAt_54 : decode b_M_digitAt 54 = .ok (.getfield 9, 3) := by decide +kernel
theorem d_M_digitAt_57 : decode b_M_digitAt 57 = .ok (.sipush 20700, 3) := by decide +kernel
theorem d_M_digitAt_60 : decode b_M_digitAt 60 = .ok (.iload 5, 2) := by decide +kernel
theorem d_M_digitAt_62 : decode b_M_digitAt 62 = .ok (.bipush 9, 2) := by decide +kernel
theorem d_M_digitAt_64 : decode b_M_digitAt 64 = .ok (.idiv, 1) := by decide +kernel
theorem d_M_digitAt_65 : decode b_M_digitAt 65 = .ok (.iadd, 1) := by decide +kernel
theorem d_M_digitAt_66 : decode b_M_digitAt 66 = .ok (.iaload, 1) := by decide +kernel
theorem d_M_digitAt_67 : decode b_M_digitAt 67 = .ok (.istore 6, 2) := by decide +kernel
theorem d_M_digitAt_69 : decode b_M_digitAt 69 = .ok (.iconst 0, 1) := by decide +kernel
theorem d_M_digitAt_70 : decode b_M_digitAt 70 = .ok (.istore 7, 2) := by decide +kernel
theorem d_M_digitAt_72 : decode b_M_digitAt 72 = .ok (.iload 7, 2) := by decide +kernel
theorem d_M_digitAt_74 : decode b_M_digitAt 74 = .ok (.iload 5, 2) := by decide +kernel
theorem d_M_digitAt_76 : decode b_M_digitAt 76 = .ok (.bipush 9, 2) := by decide +kernel
theorem d_M_digitAt_78 : decode b_M_digitAt 78 = .ok (.irem, 1) := by decide +kernel
theorem d_M_digitAt_79 : decode b_M_digitAt 79 = .ok (.if_icmp .ge 16, 3) := by decide +kernel
theorem d_M_digitAt_82 : decode b_M_digitAt 82 = .ok (.iload 6, 2) := by decide +kernel
theorem d_M_digitAt_84 : decode b_M_digitAt 84 = .ok (.bipush 10, 2) := by decide +kernel
theorem d_M_digitAt_86 : decode b_M_digitAt 86 = .ok (.idiv, 1) := by decide +kernel
theorem d_M_digitAt_87 : decode b_M_digitAt 87 = .ok (.istore 6, 2) := by decide +kernel
theorem d_M_digitAt_89 : decode b_M_digitAt 89 = .ok (.iinc 7 1, 3) := by decide +kernel
theorem d_M_digitAt_92 : decode b_M_digitAt 92 = .ok (.goto (-20), 3) := by decide +kernel
theorem d_M_digitAt_95 : decode b_M_digitAt 95 = .ok (.iload 6, 2) := by decide +kernel
theorem d_M_digitAt_97 : decode b_M_digitAt 97 = .ok (.bipush 10, 2) := by decide +kernel
theorem d_M_digitAt_99 : decode b_M_digitAt 99 = .ok (.irem, 1) := by decide +kernel
theorem d_M_digitAt_100 : decode b_M_digitAt 100 = .ok (.ireturn, 1) := by decide +kernel
theorem d_M_sign_0 : decode b_M_sign 0 = .ok (.aload_n 0, 1) := by decide +kernel
theorem d_M_sign_1 : decode b_M_sign 1 = .ok (.iload_n 1, 1) := by decide +kernel
theorem d_M_sign_2 : decode b_M_sign 2 = .ok (.iload_n 2, 1) := by decide +kernel
theorem d_M_sign_3 : decode b_M_sign 3 = .ok (.invokevirtual 153, 3) := by decide +kernel
theorem d_M_sign_6 : decode b_M_sign 6 = .ok (.ifCond .eq 15, 3) := by decide +kernel
theorem d_M_sign_9 : decode b_M_sign 9 = .ok (.aload_n 0, 1) := by decide +kernel
theorem d_M_sign_10 : decode b_M_sign 10 = .ok (.getfield 16, 3) := by decide +kernel
theorem d_M_sign_13 : decode b_M_sign 13 = .ok (.bipush 45, 2) := by decide +kernel
theorem d_M_sign_15 : decode b_M_sign 15 = .ok (.iaload, 1) := by decide +kernel
theorem d_M_sign_16 : decode b_M_sign 16 = .ok (.iconst 1, 1) := by decide +kernel
theorem d_M_sign_17 : decode b_M_sign 17 = .ok (.iadd, 1) := by decide +kernel
theorem d_M_sign_18 : decode b_M_sign 18 = .ok (.goto 4, 3) := by decide +kernel
theorem d_M_sign_21 : decode b_M_sign 21 = .ok (.iconst (-1), 1) := by decide +kernel
theorem d_M_sign_22 : decode b_M_sign 22 = .ok (.ireturn, 1) := by decide +kernel
end
section
/-! whole numbers: every int on stack and in locals is jI of an Int, every long kI of one -/
abbrev jI (z : Int) : Int32 := Int32.ofInt z
abbrev kI (z : Int) : Int64 := Int64.ofInt z
abbrev i32 (z : Int) : Prop := -2147483648 ≤ z ∧ z < 2147483648
abbrev i64 (z : Int) : Prop := -9223372036854775808 ≤ z ∧ z < 9223372036854775808
theorem jI_toInt {z : Int} (h : i32 z) : (jI z).toInt = z := Int32.toInt_ofInt_of_le (by simpa using h.1) (by simpa using h.2)
theorem kI_toInt {z : Int} (h : i64 z) : (kI z).toInt = z := Int64.toInt_ofInt_of_le (by simpa using h.1) (by simpa using h.2)
theorem jI_of (x : Int32) : ∃ z : Int, i32 z ∧ x = jI z := ⟨x.toInt, ⟨by simpa using Int32.le_toInt x, by have := Int32.toInt_lt x; simpa using this⟩, by simp [jI]⟩
theorem kI_of (x : Int64) : ∃ z : Int, i64 z ∧ x = kI z := ⟨x.toInt, ⟨by simpa using Int64.le_toInt x, by have := Int64.toInt_lt x; simpa using this⟩, by simp [kI]⟩
theorem jI_inj {a b : Int} (ha : i32 a) (hb : i32 b) : jI a = jI b ↔ a = b := ⟨fun h => by have := congrArg Int32.toInt h; rwa [jI_toInt ha, jI_toInt hb] at this, fun h => by rw [h]⟩
theorem kI_inj {a b : Int} (ha : i64 a) (hb : i64 b) : kI a = kI b ↔ a = b := ⟨fun h => by have := congrArg Int64.toInt h; rwa [kI_toInt ha, kI_toInt hb] at this, fun h => by rw [h]⟩
theorem jI_lt {a b : Int} (ha : i32 a) (hb : i32 b) : jI a < jI b ↔ a < b := by rw [Int32.lt_iff_toInt_lt, jI_toInt ha, jI_toInt hb]
theorem jI_le {a b : Int} (ha : i32 a) (hb : i32 b) : jI a ≤ jI b ↔ a ≤ b := by rw [Int32.le_iff_toInt_le, jI_toInt ha, jI_toInt hb]
theorem jI_0 : jI 0 = 0 := rfl
theorem jI_n0 {y : Int} (hy : i32 y) (h0 : 0 < y) : ¬ jI y = 0 := fun q => by
  have := (jI_inj (b := 0) hy ⟨by decide, by decide⟩).mp q
  omega
theorem kI_n0 {y : Int} (hy : i64 y) (h0 : 0 < y) : ¬ kI y = 0 := fun q => by
  have := (kI_inj (b := 0) hy ⟨by decide, by decide⟩).mp q
  omega
theorem jI_clamp {z : Int} (h0 : 0 ≤ z) (h : i32 z) : (jI z).toNatClampNeg = z.toNat := by
  show (jI z).toInt.toNat = z.toNat
  rw [jI_toInt h]
theorem jI_in {z : Int} {N : Nat} (h0 : 0 ≤ z) (h : z < N) (hN : N < 2147483648) : vp_in (jI z) N := by
  have hz : i32 z := ⟨by omega, by omega⟩
  rintro (q | q)
  · rw [← jI_0, jI_lt hz ⟨by decide, by decide⟩] at q; omega
  · rw [jI_clamp h0 hz] at q; omega
theorem jI_add (a b : Int) : jI a + jI b = jI (a + b) := (Int32.ofInt_add a b).symm
theorem jI_sub (a b : Int) : jI a - jI b = jI (a - b) := (Int32.ofInt_sub a b).symm
theorem jI_mul (a b : Int) : jI a * jI b = jI (a * b) := (Int32.ofInt_mul a b).symm
theorem jI_neg (a : Int) : - jI a = jI (- a) := (Int32.ofInt_neg a).symm
theorem kI_add (a b : Int) : kI a + kI b = kI (a + b) := (Int64.ofInt_add a b).symm
theorem kI_sub (a b : Int) : kI a - kI b = kI (a - b) := (Int64.ofInt_sub a b).symm
theorem kI_mul (a b : Int) : kI a * kI b = kI (a * b) := (Int64.ofInt_mul a b).symm
theorem kI_neg (a : Int) : - kI a = kI (- a) := (Int64.ofInt_neg a).symm
theorem jI_div {a b : Int} (ha : i32 a) (hb : i32 b) (h1 : b ≠ -1) : jI a / jI b = jI (a.tdiv b) := by
  apply Int32.toInt_inj.mp
  rw [Int32.toInt_div_of_ne_right _ _ (by
    intro h
    have := congrArg Int32.toInt h
    rw [jI_toInt hb] at this
    exact h1 this), jI_toInt ha, jI_toInt hb, jI_toInt]
  have h2 := Int.natAbs_tdiv a b
  have h3 : (a.tdiv b).natAbs ≤ a.natAbs := by rw [h2]; exact Nat.div_le_self _ _
  constructor
  · omega
  · by_cases hb0 : b = 0
    · subst hb0; simp
    · have h4 : b.natAbs ≠ 1 ∨ b = 1 := by omega
      rcases h4 with h4 | h4
      · have : 2 ≤ b.natAbs := by omega
        have h5 : (a.tdiv b).natAbs ≤ a.natAbs / 2 := by rw [h2]; exact Nat.div_le_div_left this (by decide)
        omega
      · subst h4; simp; omega
theorem kI_div {a b : Int} (ha : i64 a) (hb : i64 b) (h1 : b ≠ -1) : kI a / kI b = kI (a.tdiv b) := by
  apply Int64.toInt_inj.mp
  rw [Int64.toInt_div_of_ne_right _ _ (by
    intro h
    have := congrArg Int64.toInt h
    rw [kI_toInt hb] at this
    exact h1 this), kI_toInt ha, kI_toInt hb, kI_toInt]
  have h2 := Int.natAbs_tdiv a b
  have h3 : (a.tdiv b).natAbs ≤ a.natAbs := by rw [h2]; exact Nat.div_le_self _ _
  constructor
  · omega
  · by_cases hb0 : b = 0
    · subst hb0; simp
    · have h4 : b.natAbs ≠ 1 ∨ b = 1 := by omega
      rcases h4 with h4 | h4
      · have : 2 ≤ b.natAbs := by omega
        have h5 : (a.tdiv b).natAbs ≤ a.natAbs / 2 := by rw [h2]; exact Nat.div_le_div_left this (by decide)
        omega
      · subst h4; simp; omega
theorem jI_rem {a b : Int} (ha : i32 a) (hb : i32 b) (h1 : b ≠ -1) : jI a - jI a / jI b * jI b = jI (a.tmod b) := by
  rw [jI_div ha hb h1, jI_mul, jI_sub]
  congr 1
  have := Int.mul_tdiv_add_tmod a b
  rw [Int.mul_comm] at this
  omega
theorem kI_rem {a b : Int} (ha : i64 a) (hb : i64 b) (h1 : b ≠ -1) : kI a - kI a / kI b * kI b = kI (a.tmod b) := by
  rw [kI_div ha hb h1, kI_mul, kI_sub]
  congr 1
  have := Int.mul_tdiv_add_tmod a b
  rw [Int.mul_comm] at this
  omega
theorem jI_kI {a : Int} (ha : i32 a) : (jI a).toInt64 = kI a := by
  apply Int64.toInt_inj.mp
  rw [Int32.toInt_toInt64, jI_toInt ha, kI_toInt ⟨by omega, by omega⟩]
theorem kI_jI (a : Int) : (kI a).toInt32 = jI a := Int64.toInt32_ofInt
theorem lg_cmp_k {a b : Int} (ha : i64 a) (hb : i64 b) : lg_cmp (kI a) (kI b) = jI (if b < a then 1 else if a = b then 0 else -1) := by
  unfold lg_cmp
  simp only [gt_iff_lt, Int64.lt_iff_toInt_lt, kI_toInt ha, kI_toInt hb, kI_inj ha hb]
  by_cases h1 : b < a
  · rw [if_pos h1, if_pos h1]; rfl
  · rw [if_neg h1, if_neg h1]
    by_cases h2 : a = b
    · rw [if_pos h2, if_pos h2]; rfl
    · rw [if_neg h2, if_neg h2]; rfl
/-- a function changed at one place -/
def iu (f : Int → Int) (k v : Int) : Int → Int := fun j => if j = k then v else f j
theorem iu_self (f : Int → Int) (k v : Int) : iu f k v k = v := by simp [iu]
theorem iu_ne (f : Int → Int) {k j : Int} (v : Int) (h : j ≠ k) : iu f k v j = f j := by simp [iu, h]
theorem iu_upd (f : Int → Int) {k : Int} (v : Int) (h0 : 0 ≤ k) : upd (fun i : Nat => jI (f i)) k.toNat (jI v) = fun i : Nat => jI (iu f k v i) := by
  funext i
  simp only [upd, iu]
  by_cases hi : i = k.toNat
  · rw [if_pos hi, if_pos (by omega)]
  · rw [if_neg hi, if_neg (by omega)]
section ZI
variable {p : Program} {l : Launch} {e : Env} {R : Room} {s : State} {m : MethodId} {args : Array Value} {below : List Frame} {meth : Method} {c : Code} {Q : State → Prop}
variable {cc : ByteArray} {own : String} {nL b0 pc k n : Nat} {G : zG} {h : zH} {lv : List (Nat × Value)} {st : List Value}
theorem zi_iadd (K : zC p s m args c cc own nL b0 G) {x y : Int} (hd : decode cc pc = .ok (.iadd, 1))  (kk : zW p l e R s m args below meth c nL b0 G k n Q h (pc + 1) lv (.int (jI (x + y)) :: st)) : zW p l e R s m args below meth c nL b0 G k n Q h pc lv (.int (jI y) :: .int (jI x) :: st) :=
  z_iadd K hd  ((jI_add x y).symm ▸ kk)
theorem zi_isub (K : zC p s m args c cc own nL b0 G) {x y : Int} (hd : decode cc pc = .ok (.isub, 1))  (kk : zW p l e R s m args below meth c nL b0 G k n Q h (pc + 1) lv (.int (jI (x - y)) :: st)) : zW p l e R s m args below meth c nL b0 G k n Q h pc lv (.int (jI y) :: .int (jI x) :: st) :=
  z_isub K hd  ((jI_sub x y).symm ▸ kk)
theorem zi_imul (K : zC p s m args c cc own nL b0 G) {x y : Int} (hd : decode cc pc = .ok (.imul, 1))  (kk : zW p l e R s m args below meth c nL b0 G k n Q h (pc + 1) lv (.int (jI (x * y)) :: st)) : zW p l e R s m args below meth c nL b0 G k n Q h pc lv (.int (jI y) :: .int (jI x) :: st) :=
  z_imul K hd  ((jI_mul x y).symm ▸ kk)
theorem zi_ladd (K : zC p s m args c cc own nL b0 G) {x y : Int} (hd : decode cc pc = .ok (.ladd, 1))  (kk : zW p l e R s m args below meth c nL b0 G k n Q h (pc + 1) lv (.long (kI (x + y)) :: st)) : zW p l e R s m args below meth c nL b0 G k n Q h pc lv (.long (kI y) :: .long (kI x) :: st) :=
  z_ladd K hd  ((kI_add x y).symm ▸ kk)
theorem zi_lsub (K : zC p s m args c cc own nL b0 G) {x y : Int} (hd : decode cc pc = .ok (.lsub, 1))  (kk : zW p l e R s m args below meth c nL b0 G k n Q h (pc + 1) lv (.long (kI (x - y)) :: st)) : zW p l e R s m args below meth c nL b0 G k n Q h pc lv (.long (kI y) :: .long (kI x) :: st) :=
  z_lsub K hd  ((kI_sub x y).symm ▸ kk)
theorem zi_lmul (K : zC p s m args c cc own nL b0 G) {x y : Int} (hd : decode cc pc = .ok (.lmul, 1))  (kk : zW p l e R s m args below meth c nL b0 G k n Q h (pc + 1) lv (.long (kI (x * y)) :: st)) : zW p l e R s m args below meth c nL b0 G k n Q h pc lv (.long (kI y) :: .long (kI x) :: st) :=
  z_lmul K hd  ((kI_mul x y).symm ▸ kk)
theorem zi_ineg (K : zC p s m args c cc own nL b0 G) {x : Int} (hd : decode cc pc = .ok (.ineg, 1))  (kk : zW p l e R s m args below meth c nL b0 G k n Q h (pc + 1) lv (.int (jI (-x)) :: st)) : zW p l e R s m args below meth c nL b0 G k n Q h pc lv (.int (jI x) :: st) :=
  z_ineg K hd  ((jI_neg x).symm ▸ kk)
theorem zi_lneg (K : zC p s m args c cc own nL b0 G) {x : Int} (hd : decode cc pc = .ok (.lneg, 1))  (kk : zW p l e R s m args below meth c nL b0 G k n Q h (pc + 1) lv (.long (kI (-x)) :: st)) : zW p l e R s m args below meth c nL b0 G k n Q h pc lv (.long (kI x) :: st) :=
  z_lneg K hd  ((kI_neg x).symm ▸ kk)
theorem zi_i2l (K : zC p s m args c cc own nL b0 G) {x : Int} (hd : decode cc pc = .ok (.i2l, 1)) (hx : i32 x) (kk : zW p l e R s m args below meth c nL b0 G k n Q h (pc + 1) lv (.long (kI x) :: st)) : zW p l e R s m args below meth c nL b0 G k n Q h pc lv (.int (jI x) :: st) :=
  z_i2l K hd  ((jI_kI hx).symm ▸ kk)
theorem zi_l2i (K : zC p s m args c cc own nL b0 G) {x : Int} (hd : decode cc pc = .ok (.l2i, 1))  (kk : zW p l e R s m args below meth c nL b0 G k n Q h (pc + 1) lv (.int (jI x) :: st)) : zW p l e R s m args below meth c nL b0 G k n Q h pc lv (.long (kI x) :: st) :=
  z_l2i K hd  ((kI_jI x).symm ▸ kk)
theorem zi_lcmp (K : zC p s m args c cc own nL b0 G) {x y : Int} (hd : decode cc pc = .ok (.lcmp, 1)) (hx : i64 x) (hy : i64 y) (kk : zW p l e R s m args below meth c nL b0 G k n Q h (pc + 1) lv (.int (jI (if y < x then 1 else if x = y then 0 else -1)) :: st)) : zW p l e R s m args below meth c nL b0 G k n Q h pc lv (.long (kI y) :: .long (kI x) :: st) :=
  z_lcmp K hd  ((lg_cmp_k hx hy).symm ▸ kk)
theorem zi_idiv (K : zC p s m args c cc own nL b0 G) {x y : Int} (hd : decode cc pc = .ok (.idiv, 1)) (hx : i32 x) (hy : i32 y) (h0 : 0 < y) (kk : zW p l e R s m args below meth c nL b0 G k n Q h (pc + 1) lv (.int (jI (x.tdiv y)) :: st)) : zW p l e R s m args below meth c nL b0 G k n Q h pc lv (.int (jI y) :: .int (jI x) :: st) :=
  z_idiv K hd (jI_n0 hy h0) ((jI_div hx hy (by omega)).symm ▸ kk)
theorem zi_irem (K : zC p s m args c cc own nL b0 G) {x y : Int} (hd : decode cc pc = .ok (.irem, 1)) (hx : i32 x) (hy : i32 y) (h0 : 0 < y) (kk : zW p l e R s m args below meth c nL b0 G k n Q h (pc + 1) lv (.int (jI (x.tmod y)) :: st)) : zW p l e R s m args below meth c nL b0 G k n Q h pc lv (.int (jI y) :: .int (jI x) :: st) :=
  z_irem K hd (jI_n0 hy h0) ((jI_rem hx hy (by omega)).symm ▸ kk)
theorem zi_ldiv (K : zC p s m args c cc own nL b0 G) {x y : Int} (hd : decode cc pc = .ok (.ldiv, 1)) (hx : i64 x) (hy : i64 y) (h0 : 0 < y) (kk : zW p l e R s m args below meth c nL b0 G k n Q h (pc + 1) lv (.long (kI (x.tdiv y)) :: st)) : zW p l e R s m args below meth c nL b0 G k n Q h pc lv (.long (kI y) :: .long (kI x) :: st) :=
  z_ldiv K hd (kI_n0 hy h0) ((kI_div hx hy (by omega)).symm ▸ kk)
theorem zi_lrem (K : zC p s m args c cc own nL b0 G) {x y : Int} (hd : decode cc pc = .ok (.lrem, 1)) (hx : i64 x) (hy : i64 y) (h0 : 0 < y) (kk : zW p l e R s m args below meth c nL b0 G k n Q h (pc + 1) lv (.long (kI (x.tmod y)) :: st)) : zW p l e R s m args below meth c nL b0 G k n Q h pc lv (.long (kI y) :: .long (kI x) :: st) :=
  z_lrem K hd (kI_n0 hy h0) ((kI_rem hx hy (by omega)).symm ▸ kk)
theorem zi_if_eq (K : zC p s m args c cc own nL b0 G) {x : Int} {off : Int} {tgt : Nat} (hd : decode cc pc = .ok (.ifCond .eq off, 3)) (ht : (pc : Int) + off = (tgt : Int)) (hx : i32 x) (kt : x = 0 → zW p l e R s m args below meth c nL b0 G k n Q h tgt lv st) (kf : ¬ x = 0 → zW p l e R s m args below meth c nL b0 G k n Q h (pc + 3) lv st) : zW p l e R s m args below meth c nL b0 G k n Q h pc lv (.int (jI x) :: st) :=
  z_if_eq K hd ht (fun q => kt ((jI_inj (b := 0) hx ⟨by decide, by decide⟩).mp q)) (fun q => kf (fun z => q ((jI_inj (b := 0) hx ⟨by decide, by decide⟩).mpr z)))
theorem zi_icmp_eq (K : zC p s m args c cc own nL b0 G) {x y : Int} {off : Int} {tgt : Nat} (hd : decode cc pc = .ok (.if_icmp .eq off, 3)) (ht : (pc : Int) + off = (tgt : Int)) (hx : i32 x) (hy : i32 y) (kt : x = y → zW p l e R s m args below meth c nL b0 G k n Q h tgt lv st) (kf : ¬ x = y → zW p l e R s m args below meth c nL b0 G k n Q h (pc + 3) lv st) : zW p l e R s m args below meth c nL b0 G k n Q h pc lv (.int (jI y) :: .int (jI x) :: st) :=
  z_icmp_eq K hd ht (fun q => kt ((jI_inj hx hy).mp q)) (fun q => kf (fun z => q ((jI_inj hx hy).mpr z)))
theorem zi_if_ne (K : zC p s m args c cc own nL b0 G) {x : Int} {off : Int} {tgt : Nat} (hd : decode cc pc = .ok (.ifCond .ne off, 3)) (ht : (pc : Int) + off = (tgt : Int)) (hx : i32 x) (kt : ¬ x = 0 → zW p l e R s m args below meth c nL b0 G k n Q h tgt lv st) (kf : x = 0 → zW p l e R s m args below meth c nL b0 G k n Q h (pc + 3) lv st) : zW p l e R s m args below meth c nL b0 G k n Q h pc lv (.int (jI x) :: st) :=
  z_if_ne K hd ht (fun q => kt (fun z => q ((jI_inj (b := 0) hx ⟨by decide, by decide⟩).mpr z))) (fun q => kf ((jI_inj (b := 0) hx ⟨by decide, by decide⟩).mp q))
theorem zi_icmp_ne (K : zC p s m args c cc own nL b0 G) {x y : Int} {off : Int} {tgt : Nat} (hd : decode cc pc = .ok (.if_icmp .ne off, 3)) (ht : (pc : Int) + off = (tgt : Int)) (hx : i32 x) (hy : i32 y) (kt : ¬ x = y → zW p l e R s m args below meth c nL b0 G k n Q h tgt lv st) (kf : x = y → zW p l e R s m args below meth c nL b0 G k n Q h (pc + 3) lv st) : zW p l e R s m args below meth c nL b0 G k n Q h pc lv (.int (jI y) :: .int (jI x) :: st) :=
  z_icmp_ne K hd ht (fun q => kt (fun z => q ((jI_inj hx hy).mpr z))) (fun q => kf ((jI_inj hx hy).mp q))
theorem zi_if_lt (K : zC p s m args c cc own nL b0 G) {x : Int} {off : Int} {tgt : Nat} (hd : decode cc pc = .ok (.ifCond .lt off, 3)) (ht : (pc : Int) + off = (tgt : Int)) (hx : i32 x) (kt : x < 0 → zW p l e R s m args below meth c nL b0 G k n Q h tgt lv st) (kf : 0 ≤ x → zW p l e R s m args below meth c nL b0 G k n Q h (pc + 3) lv st) : zW p l e R s m args below meth c nL b0 G k n Q h pc lv (.int (jI x) :: st) :=
  z_if_lt K hd ht (fun q => kt ((jI_lt (b := 0) hx ⟨by decide, by decide⟩).mp q)) (fun q => kf (Int.not_lt.mp (fun z => q ((jI_lt (b := 0) hx ⟨by decide, by decide⟩).mpr z))))
theorem zi_icmp_lt (K : zC p s m args c cc own nL b0 G) {x y : Int} {off : Int} {tgt : Nat} (hd : decode cc pc = .ok (.if_icmp .lt off, 3)) (ht : (pc : Int) + off = (tgt : Int)) (hx : i32 x) (hy : i32 y) (kt : x < y → zW p l e R s m args below meth c nL b0 G k n Q h tgt lv st) (kf : y ≤ x → zW p l e R s m args below meth c nL b0 G k n Q h (pc + 3) lv st) : zW p l e R s m args below meth c nL b0 G k n Q h pc lv (.int (jI y) :: .int (jI x) :: st) :=
  z_icmp_lt K hd ht (fun q => kt ((jI_lt hx hy).mp q)) (fun q => kf (Int.not_lt.mp (fun z => q ((jI_lt hx hy).mpr z))))
theorem zi_if_ge (K : zC p s m args c cc own nL b0 G) {x : Int} {off : Int} {tgt : Nat} (hd : decode cc pc = .ok (.ifCond .ge off, 3)) (ht : (pc : Int) + off = (tgt : Int)) (hx : i32 x) (kt : 0 ≤ x → zW p l e R s m args below meth c nL b0 G k n Q h tgt lv st) (kf : x < 0 → zW p l e R s m args below meth c nL b0 G k n Q h (pc + 3) lv st) : zW p l e R s m args below meth c nL b0 G k n Q h pc lv (.int (jI x) :: st) :=
  z_if_ge K hd ht (fun q => kt ((jI_le (a := 0) ⟨by decide, by decide⟩ hx).mp q)) (fun q => kf (Int.not_le.mp (fun z => q ((jI_le (a := 0) ⟨by decide, by decide⟩ hx).mpr z))))
theorem zi_icmp_ge (K : zC p s m args c cc own nL b0 G) {x y : Int} {off : Int} {tgt : Nat} (hd : decode cc pc = .ok (.if_icmp .ge off, 3)) (ht : (pc : Int) + off = (tgt : Int)) (hx : i32 x) (hy : i32 y) (kt : y ≤ x → zW p l e R s m args below meth c nL b0 G k n Q h tgt lv st) (kf : x < y → zW p l e R s m args below meth c nL b0 G k n Q h (pc + 3) lv st) : zW p l e R s m args below meth c nL b0 G k n Q h pc lv (.int (jI y) :: .int (jI x) :: st) :=
  z_icmp_ge K hd ht (fun q => kt ((jI_le hy hx).mp q)) (fun q => kf (Int.not_le.mp (fun z => q ((jI_le hy hx).mpr z))))
theorem zi_if_gt (K : zC p s m args c cc own nL b0 G) {x : Int} {off : Int} {tgt : Nat} (hd : decode cc pc = .ok (.ifCond .gt off, 3)) (ht : (pc : Int) + off = (tgt : Int)) (hx : i32 x) (kt : 0 < x → zW p l e R s m args below meth c nL b0 G k n Q h tgt lv st) (kf : x ≤ 0 → zW p l e R s m args below meth c nL b0 G k n Q h (pc + 3) lv st) : zW p l e R s m args below meth c nL b0 G k n Q h pc lv (.int (jI x) :: st) :=
  z_if_gt K hd ht (fun q => kt ((jI_lt (a := 0) ⟨by decide, by decide⟩ hx).mp q)) (fun q => kf (Int.not_lt.mp (fun z => q ((jI_lt (a := 0) ⟨by decide, by decide⟩ hx).mpr z))))
theorem zi_icmp_gt (K : zC p s m args c cc own nL b0 G) {x y : Int} {off : Int} {tgt : Nat} (hd : decode cc pc = .ok (.if_icmp .gt off, 3)) (ht : (pc : Int) + off = (tgt : Int)) (hx : i32 x) (hy : i32 y) (kt : y < x → zW p l e R s m args below meth c nL b0 G k n Q h tgt lv st) (kf : x ≤ y → zW p l e R s m args below meth c nL b0 G k n Q h (pc + 3) lv st) : zW p l e R s m args below meth c nL b0 G k n Q h pc lv (.int (jI y) :: .int (jI x) :: st) :=
  z_icmp_gt K hd ht (fun q => kt ((jI_lt hy hx).mp q)) (fun q => kf (Int.not_lt.mp (fun z => q ((jI_lt hy hx).mpr z))))
theorem zi_if_le (K : zC p s m args c cc own nL b0 G) {x : Int} {off : Int} {tgt : Nat} (hd : decode cc pc = .ok (.ifCond .le off, 3)) (ht : (pc : Int) + off = (tgt : Int)) (hx : i32 x) (kt : x ≤ 0 → zW p l e R s m args below meth c nL b0 G k n Q h tgt lv st) (kf : 0 < x → zW p l e R s m args below meth c nL b0 G k n Q h (pc + 3) lv st) : zW p l e R s m args below meth c nL b0 G k n Q h pc lv (.int (jI x) :: st) :=
  z_if_le K hd ht (fun q => kt ((jI_le (b := 0) hx ⟨by decide, by decide⟩).mp q)) (fun q => kf (Int.not_le.mp (fun z => q ((jI_le (b := 0) hx ⟨by decide, by decide⟩).mpr z))))
theorem zi_icmp_le (K : zC p s m args c cc own nL b0 G) {x y : Int} {off : Int} {tgt : Nat} (hd : decode cc pc = .ok (.if_icmp .le off, 3)) (ht : (pc : Int) + off = (tgt : Int)) (hx : i32 x) (hy : i32 y) (kt : x ≤ y → zW p l e R s m args below meth c nL b0 G k n Q h tgt lv st) (kf : y < x → zW p l e R s m args below meth c nL b0 G k n Q h (pc + 3) lv st) : zW p l e R s m args below meth c nL b0 G k n Q h pc lv (.int (jI y) :: .int (jI x) :: st) :=
  z_icmp_le K hd ht (fun q => kt ((jI_le hx hy).mp q)) (fun q => kf (Int.not_le.mp (fun z => q ((jI_le hx hy).mpr z))))
theorem zi_iinc (K : zC p s m args c cc own nL b0 G) {a : Nat} {j x : Int} (hd : decode cc pc = .ok (.iinc a j, 3)) (hl : zl lv a = some (.int (jI x))) (hn : a < nL) (kk : zW p l e R s m args below meth c nL b0 G k n Q h (pc + 3) (zs1 a (.int (jI (x + j))) lv) st) : zW p l e R s m args below meth c nL b0 G k n Q h pc lv st :=
  z_iinc K hd hl hn ((jI_add x j).symm ▸ kk)
theorem zi_iald (K : zC p s m args c cc own nL b0 G) (t0 : Nat) {a N : Nat} {cA : ClassId} {f : Int → Int} {j : Int} (hf : h.2 a = .inl (cA, N, .inl (fun i : Nat => jI (f i)))) (ht : (zTys G)[t0]? = some (cA, .int)) (h0 : 0 ≤ j) (hj : j < N) (hN : N < 2147483648) (hd : decode cc pc = .ok (.iaload, 1)) (kk : zW p l e R s m args below meth c nL b0 G k n Q h (pc + 1) lv (.int (jI (f j)) :: st)) : zW p l e R s m args below meth c nL b0 G k n Q h pc lv (.int (jI j) :: .ref a :: st) :=
  z_iald K hf ht (jI_in h0 hj hN) hd (by rw [jI_clamp h0 ⟨by omega, by omega⟩, Int.toNat_of_nonneg h0]; exact kk)
theorem zi_zald (K : zC p s m args c cc own nL b0 G) (t0 : Nat) {a N : Nat} {cA : ClassId} {f : Int → Int} {j : Int} (hf : h.2 a = .inl (cA, N, .inl (fun i : Nat => jI (f i)))) (ht : (zTys G)[t0]? = some (cA, .boolean)) (h0 : 0 ≤ j) (hj : j < N) (hN : N < 2147483648) (hd : decode cc pc = .ok (.baload, 1)) (kk : zW p l e R s m args below meth c nL b0 G k n Q h (pc + 1) lv (.int (jI (f j)) :: st)) : zW p l e R s m args below meth c nL b0 G k n Q h pc lv (.int (jI j) :: .ref a :: st) :=
  z_zald K hf ht (jI_in h0 hj hN) hd (by rw [jI_clamp h0 ⟨by omega, by omega⟩, Int.toNat_of_nonneg h0]; exact kk)
theorem zi_iast (K : zC p s m args c cc own nL b0 G) (t0 : Nat) {a N : Nat} {cA : ClassId} {f : Int → Int} {j v : Int} (hf : h.2 a = .inl (cA, N, .inl (fun i : Nat => jI (f i)))) (ht : (zTys G)[t0]? = some (cA, .int)) (h0 : 0 ≤ j) (hj : j < N) (hN : N < 2147483648) (hd : decode cc pc = .ok (.iastore, 1)) (kk : zW p l e R s m args below meth c nL b0 G k n Q (h.1, va_up h.2 a (.inl (cA, N, .inl (fun i : Nat => jI (iu f j v i))))) (pc + 1) lv st) : zW p l e R s m args below meth c nL b0 G k n Q h pc lv (.int (jI v) :: .int (jI j) :: .ref a :: st) :=
  z_iast K hf ht (jI_in h0 hj hN) hd (by rw [jI_clamp h0 ⟨by omega, by omega⟩, iu_upd f v h0]; exact kk)
theorem zi_zast (K : zC p s m args c cc own nL b0 G) (t0 : Nat) {a N : Nat} {cA : ClassId} {f : Int → Int} {j v : Int} (hf : h.2 a = .inl (cA, N, .inl (fun i : Nat => jI (f i)))) (ht : (zTys G)[t0]? = some (cA, .boolean)) (h0 : 0 ≤ j) (hj : j < N) (hN : N < 2147483648) (hv : v = 0 ∨ v = 1) (hd : decode cc pc = .ok (.bastore, 1)) (kk : zW p l e R s m args below meth c nL b0 G k n Q (h.1, va_up h.2 a (.inl (cA, N, .inl (fun i : Nat => jI (iu f j v i))))) (pc + 1) lv st) : zW p l e R s m args below meth c nL b0 G k n Q h pc lv (.int (jI v) :: .int (jI j) :: .ref a :: st) :=
  z_zast K hf ht (jI_in h0 hj hN) (by rcases hv with rfl | rfl <;> decide) hd (by rw [jI_clamp h0 ⟨by omega, by omega⟩, iu_upd f v h0]; exact kk)
theorem cv_r (x y : Int) : i32 (if y < x then 1 else if x = y then 0 else -1) := by
  split
  · exact ⟨by decide, by decide⟩
  · split <;> exact ⟨by decide, by decide⟩
theorem cv_eq {x y : Int} : ((if y < x then (1 : Int) else if x = y then 0 else -1) = 0) → x = y := by
  intro h; by_cases h1 : y < x
  · rw [if_pos h1] at h; omega
  · rw [if_neg h1] at h
    by_cases h2 : x = y
    · rw [if_pos h2] at h; omega
    · rw [if_neg h2] at h; omega
theorem cv_eqn {x y : Int} : (¬ (if y < x then (1 : Int) else if x = y then 0 else -1) = 0) → ¬ x = y := by
  intro h; by_cases h1 : y < x
  · rw [if_pos h1] at h; omega
  · rw [if_neg h1] at h
    by_cases h2 : x = y
    · rw [if_pos h2] at h; omega
    · rw [if_neg h2] at h; omega
theorem zi_lc_eq (K : zC p s m args c cc own nL b0 G) {x y : Int} {off : Int} {tgt : Nat} (hd : decode cc pc = .ok (.lcmp, 1)) (hd2 : decode cc (pc + 1) = .ok (.ifCond .eq off, 3)) (ht : ((pc + 1 : Nat) : Int) + off = (tgt : Int)) (hx : i64 x) (hy : i64 y) (kt : x = y → zW p l e R s m args below meth c nL b0 G k n Q h tgt lv st) (kf : ¬ x = y → zW p l e R s m args below meth c nL b0 G k n Q h (pc + 1 + 3) lv st) : zW p l e R s m args below meth c nL b0 G k n Q h pc lv (.long (kI y) :: .long (kI x) :: st) :=
  zi_lcmp K hd hx hy (zi_if_eq K hd2 ht (cv_r x y) (fun q => kt (cv_eq q)) (fun q => kf (cv_eqn q)))
theorem cv_ne {x y : Int} : (¬ (if y < x then (1 : Int) else if x = y then 0 else -1) = 0) → ¬ x = y := by
  intro h; by_cases h1 : y < x
  · rw [if_pos h1] at h; omega
  · rw [if_neg h1] at h
    by_cases h2 : x = y
    · rw [if_pos h2] at h; omega
    · rw [if_neg h2] at h; omega
theorem cv_nen {x y : Int} : ((if y < x then (1 : Int) else if x = y then 0 else -1) = 0) → x = y := by
  intro h; by_cases h1 : y < x
  · rw [if_pos h1] at h; omega
  · rw [if_neg h1] at h
    by_cases h2 : x = y
    · rw [if_pos h2] at h; omega
    · rw [if_neg h2] at h; omega
theorem zi_lc_ne (K : zC p s m args c cc own nL b0 G) {x y : Int} {off : Int} {tgt : Nat} (hd : decode cc pc = .ok (.lcmp, 1)) (hd2 : decode cc (pc + 1) = .ok (.ifCond .ne off, 3)) (ht : ((pc + 1 : Nat) : Int) + off = (tgt : Int)) (hx : i64 x) (hy : i64 y) (kt : ¬ x = y → zW p l e R s m args below meth c nL b0 G k n Q h tgt lv st) (kf : x = y → zW p l e R s m args below meth c nL b0 G k n Q h (pc + 1 + 3) lv st) : zW p l e R s m args below meth c nL b0 G k n Q h pc lv (.long (kI y) :: .long (kI x) :: st) :=
  zi_lcmp K hd hx hy (zi_if_ne K hd2 ht (cv_r x y) (fun q => kt (cv_ne q)) (fun q => kf (cv_nen q)))
theorem cv_lt {x y : Int} : ((if y < x then (1 : Int) else if x = y then 0 else -1) < 0) → x < y := by
  intro h; by_cases h1 : y < x
  · rw [if_pos h1] at h; omega
  · rw [if_neg h1] at h
    by_cases h2 : x = y
    · rw [if_pos h2] at h; omega
    · rw [if_neg h2] at h; omega
theorem cv_ltn {x y : Int} : (0 ≤ (if y < x then (1 : Int) else if x = y then 0 else -1)) → y ≤ x := by
  intro h; by_cases h1 : y < x
  · rw [if_pos h1] at h; omega
  · rw [if_neg h1] at h
    by_cases h2 : x = y
    · rw [if_pos h2] at h; omega
    · rw [if_neg h2] at h; omega
theorem zi_lc_lt (K : zC p s m args c cc own nL b0 G) {x y : Int} {off : Int} {tgt : Nat} (hd : decode cc pc = .ok (.lcmp, 1)) (hd2 : decode cc (pc + 1) = .ok (.ifCond .lt off, 3)) (ht : ((pc + 1 : Nat) : Int) + off = (tgt : Int)) (hx : i64 x) (hy : i64 y) (kt : x < y → zW p l e R s m args below meth c nL b0 G k n Q h tgt lv st) (kf : y ≤ x → zW p l e R s m args below meth c nL b0 G k n Q h (pc + 1 + 3) lv st) : zW p l e R s m args below meth c nL b0 G k n Q h pc lv (.long (kI y) :: .long (kI x) :: st) :=
  zi_lcmp K hd hx hy (zi_if_lt K hd2 ht (cv_r x y) (fun q => kt (cv_lt q)) (fun q => kf (cv_ltn q)))
theorem cv_ge {x y : Int} : (0 ≤ (if y < x then (1 : Int) else if x = y then 0 else -1)) → y ≤ x := by
  intro h; by_cases h1 : y < x
  · rw [if_pos h1] at h; omega
  · rw [if_neg h1] at h
    by_cases h2 : x = y
    · rw [if_pos h2] at h; omega
    · rw [if_neg h2] at h; omega
theorem cv_gen {x y : Int} : ((if y < x then (1 : Int) else if x = y then 0 else -1) < 0) → x < y := by
  intro h; by_cases h1 : y < x
  · rw [if_pos h1] at h; omega
  · rw [if_neg h1] at h
    by_cases h2 : x = y
    · rw [if_pos h2] at h; omega
    · rw [if_neg h2] at h; omega
theorem zi_lc_ge (K : zC p s m args c cc own nL b0 G) {x y : Int} {off : Int} {tgt : Nat} (hd : decode cc pc = .ok (.lcmp, 1)) (hd2 : decode cc (pc + 1) = .ok (.ifCond .ge off, 3)) (ht : ((pc + 1 : Nat) : Int) + off = (tgt : Int)) (hx : i64 x) (hy : i64 y) (kt : y ≤ x → zW p l e R s m args below meth c nL b0 G k n Q h tgt lv st) (kf : x < y → zW p l e R s m args below meth c nL b0 G k n Q h (pc + 1 + 3) lv st) : zW p l e R s m args below meth c nL b0 G k n Q h pc lv (.long (kI y) :: .long (kI x) :: st) :=
  zi_lcmp K hd hx hy (zi_if_ge K hd2 ht (cv_r x y) (fun q => kt (cv_ge q)) (fun q => kf (cv_gen q)))
theorem cv_gt {x y : Int} : (0 < (if y < x then (1 : Int) else if x = y then 0 else -1)) → y < x := by
  intro h; by_cases h1 : y < x
  · rw [if_pos h1] at h; omega
  · rw [if_neg h1] at h
    by_cases h2 : x = y
    · rw [if_pos h2] at h; omega
    · rw [if_neg h2] at h; omega
theorem cv_gtn {x y : Int} : ((if y < x then (1 : Int) else if x = y then 0 else -1) ≤ 0) → x ≤ y := by
  intro h; by_cases h1 : y < x
  · rw [if_pos h1] at h; omega
  · rw [if_neg h1] at h
    by_cases h2 : x = y
    · rw [if_pos h2] at h; omega
    · rw [if_neg h2] at h; omega
theorem zi_lc_gt (K : zC p s m args c cc own nL b0 G) {x y : Int} {off : Int} {tgt : Nat} (hd : decode cc pc = .ok (.lcmp, 1)) (hd2 : decode cc (pc + 1) = .ok (.ifCond .gt off, 3)) (ht : ((pc + 1 : Nat) : Int) + off = (tgt : Int)) (hx : i64 x) (hy : i64 y) (kt : y < x → zW p l e R s m args below meth c nL b0 G k n Q h tgt lv st) (kf : x ≤ y → zW p l e R s m args below meth c nL b0 G k n Q h (pc + 1 + 3) lv st) : zW p l e R s m args below meth c nL b0 G k n Q h pc lv (.long (kI y) :: .long (kI x) :: st) :=
  zi_lcmp K hd hx hy (zi_if_gt K hd2 ht (cv_r x y) (fun q => kt (cv_gt q)) (fun q => kf (cv_gtn q)))
theorem cv_le {x y : Int} : ((if y < x then (1 : Int) else if x = y then 0 else -1) ≤ 0) → x ≤ y := by
  intro h; by_cases h1 : y < x
  · rw [if_pos h1] at h; omega
  · rw [if_neg h1] at h
    by_cases h2 : x = y
    · rw [if_pos h2] at h; omega
    · rw [if_neg h2] at h; omega
theorem cv_len {x y : Int} : (0 < (if y < x then (1 : Int) else if x = y then 0 else -1)) → y < x := by
  intro h; by_cases h1 : y < x
  · rw [if_pos h1] at h; omega
  · rw [if_neg h1] at h
    by_cases h2 : x = y
    · rw [if_pos h2] at h; omega
    · rw [if_neg h2] at h; omega
theorem zi_lc_le (K : zC p s m args c cc own nL b0 G) {x y : Int} {off : Int} {tgt : Nat} (hd : decode cc pc = .ok (.lcmp, 1)) (hd2 : decode cc (pc + 1) = .ok (.ifCond .le off, 3)) (ht : ((pc + 1 : Nat) : Int) + off = (tgt : Int)) (hx : i64 x) (hy : i64 y) (kt : x ≤ y → zW p l e R s m args below meth c nL b0 G k n Q h tgt lv st) (kf : y < x → zW p l e R s m args below meth c nL b0 G k n Q h (pc + 1 + 3) lv st) : zW p l e R s m args below meth c nL b0 G k n Q h pc lv (.long (kI y) :: .long (kI x) :: st) :=
  zi_lcmp K hd hx hy (zi_if_le K hd2 ht (cv_r x y) (fun q => kt (cv_le q)) (fun q => kf (cv_len q)))
end ZI
end
section
/-! THE REFERENCE: its object at the address a, its four arrays behind it. T: cells, sizes, signs, none, as functions on whole numbers -/
abbrev mT : Type := (Int → Int) × (Int → Int) × (Int → Int) × (Int → Int)
abbrev mC (T : mT) : Int → Int := T.1
abbrev mZ (T : mT) : Int → Int := T.2.1
abbrev mS (T : mT) : Int → Int := T.2.2.1
abbrev mN (T : mT) : Int → Int := T.2.2.2
def hm (G : zG) (h : zH) (a : Nat) (cd : Int) (T : mT) : zH := (h.1, fun q =>
  if q = a then .inr (0, [.int (jI cd), .ref (a + 1), .ref (a + 2), .ref (a + 3), .ref (a + 4)])
  else if q = a + 1 then .inl (G.2 0, 25760, .inl (fun i : Nat => jI (T.1 i)))
  else if q = a + 2 then .inl (G.2 0, 56, .inl (fun i : Nat => jI (T.2.1 i)))
  else if q = a + 3 then .inl (G.2 0, 56, .inl (fun i : Nat => jI (T.2.2.1 i)))
  else if q = a + 4 then .inl (G.2 1, 56, .inl (fun i : Nat => jI (T.2.2.2 i)))
  else h.2 q)
section HM
variable {G : zG} {h : zH} {a : Nat} {cd : Int} {T : mT}
theorem hm_0 : (hm G h a cd T).2 a = .inr (0, [.int (jI cd), .ref (a + 1), .ref (a + 2), .ref (a + 3), .ref (a + 4)]) := by simp [hm]
theorem hm_1 : (hm G h a cd T).2 (a + 1) = .inl (G.2 0, 25760, .inl (fun i : Nat => jI (T.1 i))) := by simp [hm]
theorem hm_2 : (hm G h a cd T).2 (a + 2) = .inl (G.2 0, 56, .inl (fun i : Nat => jI (T.2.1 i))) := by simp [hm]
theorem hm_3 : (hm G h a cd T).2 (a + 3) = .inl (G.2 0, 56, .inl (fun i : Nat => jI (T.2.2.1 i))) := by simp [hm]
theorem hm_4 : (hm G h a cd T).2 (a + 4) = .inl (G.2 1, 56, .inl (fun i : Nat => jI (T.2.2.2 i))) := by simp [hm]
theorem hm_s0 {v : Int} : ((hm G h a cd T).1, va_up (hm G h a cd T).2 a (.inr (0, ([.int (jI cd), .ref (a + 1), .ref (a + 2), .ref (a + 3), .ref (a + 4)] : List Value).set 0 (.int (jI v))))) = hm G h a v T := by
  refine Prod.ext rfl (funext fun q => ?_)
  by_cases h0 : q = a
  · subst h0; simp [hm, va_up]
  · simp [hm, va_up, h0]
theorem hm_s1 {f : Int → Int} : ((hm G h a cd T).1, va_up (hm G h a cd T).2 (a + 1) (.inl (G.2 0, 25760, .inl (fun i : Nat => jI (f i))))) = hm G h a cd (f, T.2) := by
  refine Prod.ext rfl (funext fun q => ?_)
  by_cases h0 : q = a + 1
  · subst h0; simp [hm, va_up]
  · simp [hm, va_up, h0]
theorem hm_s2 {f : Int → Int} : ((hm G h a cd T).1, va_up (hm G h a cd T).2 (a + 2) (.inl (G.2 0, 56, .inl (fun i : Nat => jI (f i))))) = hm G h a cd (T.1, f, T.2.2) := by
  refine Prod.ext rfl (funext fun q => ?_)
  by_cases h0 : q = a + 2
  · subst h0; simp [hm, va_up]
  · simp [hm, va_up, h0]
theorem hm_s3 {f : Int → Int} : ((hm G h a cd T).1, va_up (hm G h a cd T).2 (a + 3) (.inl (G.2 0, 56, .inl (fun i : Nat => jI (f i))))) = hm G h a cd (T.1, T.2.1, f, T.2.2.2) := by
  refine Prod.ext rfl (funext fun q => ?_)
  by_cases h0 : q = a + 3
  · subst h0; simp [hm, va_up]
  · simp [hm, va_up, h0]
theorem hm_s4 {f : Int → Int} : ((hm G h a cd T).1, va_up (hm G h a cd T).2 (a + 4) (.inl (G.2 1, 56, .inl (fun i : Nat => jI (f i))))) = hm G h a cd (T.1, T.2.1, T.2.2.1, f) := by
  refine Prod.ext rfl (funext fun q => ?_)
  by_cases h0 : q = a + 4
  · subst h0; simp [hm, va_up]
  · simp [hm, va_up, h0]
end HM
section ZM
variable {p : Program} {l : Launch} {e : Env} {R : Room} {s : State} {m : MethodId} {args : Array Value} {below : List Frame} {meth : Method} {c : Code} {Q : State → Prop}
variable {cc : ByteArray} {nL b0 pc k n : Nat} {G : zG} {h : zH} {lv : List (Nat × Value)} {st : List Value} {a : Nat} {cd : Int} {T : mT}
theorem zm_get (K : zC p s m args c cc R_M nL b0 G) {index f : Nat} {ty : FieldType} {fin : Bool} {v : Value} (hF : zFd R_M index 0 f ty fin) (hv : ([.int (jI cd), .ref (a + 1), .ref (a + 2), .ref (a + 3), .ref (a + 4)] : List Value)[f]? = some v) (hd : decode cc pc = .ok (.getfield index, 3)) (kk : zW p l e R s m args below meth c nL b0 G k n Q (hm G h a cd T) (pc + 3) lv (v :: st)) : zW p l e R s m args below meth c nL b0 G k n Q (hm G h a cd T) pc lv (.ref a :: st) := z_get K hF hm_0 hv hd kk
theorem zm_code (K : zC p s m args c cc R_M nL b0 G) {index : Nat} {v : Int} (hF : zFd R_M index 0 0 .int false) (hd : decode cc pc = .ok (.putfield index, 3)) (kk : zW p l e R s m args below meth c nL b0 G k n Q (hm G h a v T) (pc + 3) lv st) : zW p l e R s m args below meth c nL b0 G k n Q (hm G h a cd T) pc lv (.int (jI v) :: .ref a :: st) := z_put K hF hm_0 (Nat.le_of_ble_eq_true rfl) rfl rfl hd (z_hp hm_s0 kk)
theorem zm_cld (K : zC p s m args c cc R_M nL b0 G) {j : Int} (h0 : 0 ≤ j ∧ j < 25760) (hd : decode cc pc = .ok (.iaload, 1)) (kk : zW p l e R s m args below meth c nL b0 G k n Q (hm G h a cd T) (pc + 1) lv (.int (jI (T.1 j)) :: st)) : zW p l e R s m args below meth c nL b0 G k n Q (hm G h a cd T) pc lv (.int (jI j) :: .ref (a + 1) :: st) := zi_iald K 0 hm_1 rfl h0.1 h0.2 (by decide) hd kk
theorem zm_cst (K : zC p s m args c cc R_M nL b0 G) {j v : Int} (h0 : 0 ≤ j ∧ j < 25760) (hd : decode cc pc = .ok (.iastore, 1)) (kk : zW p l e R s m args below meth c nL b0 G k n Q (hm G h a cd (iu T.1 j v, T.2)) (pc + 1) lv st) : zW p l e R s m args below meth c nL b0 G k n Q (hm G h a cd T) pc lv (.int (jI v) :: .int (jI j) :: .ref (a + 1) :: st) := zi_iast K 0 hm_1 rfl h0.1 h0.2 (by decide) hd (z_hp hm_s1 kk)
theorem zm_zld (K : zC p s m args c cc R_M nL b0 G) {j : Int} (h0 : 0 ≤ j ∧ j < 56) (hd : decode cc pc = .ok (.iaload, 1)) (kk : zW p l e R s m args below meth c nL b0 G k n Q (hm G h a cd T) (pc + 1) lv (.int (jI (T.2.1 j)) :: st)) : zW p l e R s m args below meth c nL b0 G k n Q (hm G h a cd T) pc lv (.int (jI j) :: .ref (a + 2) :: st) := zi_iald K 0 hm_2 rfl h0.1 h0.2 (by decide) hd kk
theorem zm_zst (K : zC p s m args c cc R_M nL b0 G) {j v : Int} (h0 : 0 ≤ j ∧ j < 56) (hd : decode cc pc = .ok (.iastore, 1)) (kk : zW p l e R s m args below meth c nL b0 G k n Q (hm G h a cd (T.1, iu T.2.1 j v, T.2.2)) (pc + 1) lv st) : zW p l e R s m args below meth c nL b0 G k n Q (hm G h a cd T) pc lv (.int (jI v) :: .int (jI j) :: .ref (a + 2) :: st) := zi_iast K 0 hm_2 rfl h0.1 h0.2 (by decide) hd (z_hp hm_s2 kk)
theorem zm_sld (K : zC p s m args c cc R_M nL b0 G) {j : Int} (h0 : 0 ≤ j ∧ j < 56) (hd : decode cc pc = .ok (.iaload, 1)) (kk : zW p l e R s m args below meth c nL b0 G k n Q (hm G h a cd T) (pc + 1) lv (.int (jI (T.2.2.1 j)) :: st)) : zW p l e R s m args below meth c nL b0 G k n Q (hm G h a cd T) pc lv (.int (jI j) :: .ref (a + 3) :: st) := zi_iald K 0 hm_3 rfl h0.1 h0.2 (by decide) hd kk
theorem zm_sst (K : zC p s m args c cc R_M nL b0 G) {j v : Int} (h0 : 0 ≤ j ∧ j < 56) (hd : decode cc pc = .ok (.iastore, 1)) (kk : zW p l e R s m args below meth c nL b0 G k n Q (hm G h a cd (T.1, T.2.1, iu T.2.2.1 j v, T.2.2.2)) (pc + 1) lv st) : zW p l e R s m args below meth c nL b0 G k n Q (hm G h a cd T) pc lv (.int (jI v) :: .int (jI j) :: .ref (a + 3) :: st) := zi_iast K 0 hm_3 rfl h0.1 h0.2 (by decide) hd (z_hp hm_s3 kk)
theorem zm_nld (K : zC p s m args c cc R_M nL b0 G) {j : Int} (h0 : 0 ≤ j ∧ j < 56) (hd : decode cc pc = .ok (.baload, 1)) (kk : zW p l e R s m args below meth c nL b0 G k n Q (hm G h a cd T) (pc + 1) lv (.int (jI (T.2.2.2 j)) :: st)) : zW p l e R s m args below meth c nL b0 G k n Q (hm G h a cd T) pc lv (.int (jI j) :: .ref (a + 4) :: st) := zi_zald K 1 hm_4 rfl h0.1 h0.2 (by decide) hd kk
theorem zm_nst (K : zC p s m args c cc R_M nL b0 G) {j v : Int} (h0 : 0 ≤ j ∧ j < 56) (hv : v = 0 ∨ v = 1) (hd : decode cc pc = .ok (.bastore, 1)) (kk : zW p l e R s m args below meth c nL b0 G k n Q (hm G h a cd (T.1, T.2.1, T.2.2.1, iu T.2.2.2 j v)) (pc + 1) lv st) : zW p l e R s m args below meth c nL b0 G k n Q (hm G h a cd T) pc lv (.int (jI v) :: .int (jI j) :: .ref (a + 4) :: st) := zi_zast K 1 hm_4 rfl h0.1 h0.2 (by decide) hv hd (z_hp hm_s4 kk)
end ZM
/-- a method of the reference: from its state T to a state that 'post' tells; the answer r -/
abbrev mMet (l : Launch) (G : zG) (b0 : Nat) (y : MethodName) (code : ByteArray) (maxL : Nat) (ret : Option FieldType) (d lw : Nat) (h : zH) (a : Nat) (cd : Int) (as : List Value) (T : mT) (post : Option Value → mT → Prop) : Prop :=
  zMet l G b0 y code maxL ret d lw 0 0 (.ref a :: as) (hm G h a cd T) (fun r h' => ∃ T' : mT, h' = hm G h a cd T' ∧ post r T')
end
section
/-! numbers in registers: dv is the value of n cells from b on; Rg: the register r holds v in n cells; Fr: only the registers rs changed -/
abbrev BS : Int := 1000000000
def dv (f : Int → Int) (b : Int) : Nat → Int
  | 0 => 0
  | n + 1 => dv f b n + f (b + n) * BS ^ n
theorem BS_pos (n : Nat) : 0 < BS ^ n := Int.pow_pos (by decide)
theorem dv_congr {f g : Int → Int} {b c : Int} : ∀ {n : Nat}, (∀ k : Nat, k < n → f (b + k) = g (c + k)) → dv f b n = dv g c n
  | 0, _ => rfl
  | n + 1, h => by
    simp only [dv]
    rw [dv_congr (n := n) (fun k hk => h k (by omega)), h n (by omega)]
theorem dv_bd {f : Int → Int} {b : Int} : ∀ {n : Nat}, (∀ k : Nat, k < n → 0 ≤ f (b + k) ∧ f (b + k) < 1000000000) → 0 ≤ dv f b n ∧ dv f b n < BS ^ n
  | 0, _ => ⟨Int.le_refl _, by simp [dv]⟩
  | n + 1, h => by
    obtain ⟨h1, h2⟩ := dv_bd (n := n) (fun k hk => h k (by omega))
    obtain ⟨h3, h4⟩ := h n (by omega)
    have hp := BS_pos n
    simp only [dv]
    refine ⟨Int.add_nonneg h1 (Int.mul_nonneg h3 (Int.le_of_lt hp)), ?_⟩
    have h5 : f (b + n) * BS ^ n ≤ (1000000000 - 1) * BS ^ n := Int.mul_le_mul_of_nonneg_right (by omega) (Int.le_of_lt hp)
    have h6 : BS ^ (n + 1) = 1000000000 * BS ^ n := by rw [Int.pow_succ, Int.mul_comm]
    rw [Int.sub_mul, Int.one_mul] at h5
    rw [h6]
    omega
/-- cells of a register are digits -/
abbrev dg (f : Int → Int) (b : Int) (n : Nat) : Prop := ∀ k : Nat, k < n → 0 ≤ f (b + k) ∧ f (b + k) < 1000000000
def Rg (T : mT) (r : Int) (n : Nat) (v : Int) : Prop :=
  T.2.1 r = n ∧ n ≤ 459 ∧ dg T.1 (460 * r) n ∧ (∀ j : Nat, n = j + 1 → T.1 (460 * r + j) ≠ 0) ∧ T.2.2.1 r = v.sign ∧ (v.natAbs : Int) = dv T.1 (460 * r) n
def Fr (rs : List Int) (T T' : mT) : Prop :=
  T'.2.2.2 = T.2.2.2 ∧ ∀ q : Int, q ∉ rs → T'.2.1 q = T.2.1 q ∧ T'.2.2.1 q = T.2.2.1 q ∧ ∀ k : Int, 0 ≤ k → k < 460 → T'.1 (460 * q + k) = T.1 (460 * q + k)
theorem Fr.rf {rs : List Int} {T : mT} : Fr rs T T := ⟨rfl, fun _ _ => ⟨rfl, rfl, fun _ _ _ => rfl⟩⟩
theorem Fr.tr {rs : List Int} {T T' T'' : mT} (h : Fr rs T T') (h' : Fr rs T' T'') : Fr rs T T'' :=
  ⟨h'.1.trans h.1, fun q hq => ⟨(h'.2 q hq).1.trans (h.2 q hq).1, (h'.2 q hq).2.1.trans (h.2 q hq).2.1, fun k h0 h1 => ((h'.2 q hq).2.2 k h0 h1).trans ((h.2 q hq).2.2 k h0 h1)⟩⟩
theorem Fr.mono {rs rs' : List Int} {T T' : mT} (h : Fr rs T T') (hs : ∀ q ∈ rs, q ∈ rs') : Fr rs' T T' :=
  ⟨h.1, fun q hq => h.2 q (fun z => hq (hs q z))⟩
theorem Rg.fr {rs : List Int} {T T' : mT} {r v : Int} {n : Nat} (h : Rg T r n v) (hf : Fr rs T T') (hr : r ∉ rs) : Rg T' r n v := by
  obtain ⟨h1, h2, h3, h4, h5, h6⟩ := h
  obtain ⟨g1, g2, g3⟩ := hf.2 r hr
  have hc : ∀ k : Nat, k < 460 → T'.1 (460 * r + k) = T.1 (460 * r + k) := fun k hk => g3 k (by omega) (by omega)
  refine ⟨g1.trans h1, h2, fun k hk => ?_, fun j hj => ?_, g2.trans h5, ?_⟩
  · rw [hc k (by omega)]; exact h3 k hk
  · rw [hc j (by omega)]; exact h4 j hj
  · rw [h6]; exact dv_congr (fun k hk => (hc k (by omega)).symm)
theorem Rg.nn {T : mT} {r v : Int} {n : Nat} (h : Rg T r n v) : v.natAbs < BS ^ n := by
  have := (dv_bd h.2.2.1).2
  rw [← h.2.2.2.2.2] at this
  exact this
theorem Rg.zero {T : mT} {r v : Int} {n : Nat} (h : Rg T r n v) : n = 0 ↔ v = 0 := by
  obtain ⟨h1, h2, h3, h4, h5, h6⟩ := h
  constructor
  · intro hn
    subst hn
    simp only [dv] at h6
    omega
  · intro hv
    subst hv
    rcases n with _ | n
    · rfl
    · exfalso
      have hz : dv T.1 (460 * r) (n + 1) = 0 := by rw [← h6]; rfl
      simp only [dv] at hz
      have h7 := (dv_bd (n := n) (fun k hk => h3 k (by omega))).1
      have h8 := h3 n (by omega)
      have h9 := h4 n rfl
      have hp := BS_pos n
      have : 0 < T.1 (460 * r + n) * BS ^ n := Int.mul_pos (by omega) hp
      omega
/-- a number of n cells is at least BS^(n-1) -/
theorem Rg.ge {T : mT} {r v : Int} {n : Nat} (h : Rg T r (n + 1) v) : BS ^ n ≤ v.natAbs := by
  obtain ⟨h1, h2, h3, h4, h5, h6⟩ := h
  rw [h6]
  simp only [dv]
  have h7 := (dv_bd (n := n) (fun k hk => h3 k (by omega))).1
  have h8 := h3 n (by omega)
  have h9 := h4 n rfl
  have hp := BS_pos n
  have : 1 * BS ^ n ≤ T.1 (460 * r + n) * BS ^ n := Int.mul_le_mul_of_nonneg_right (by omega) (Int.le_of_lt hp)
  omega
theorem BS_mono {a b : Nat} (h : a ≤ b) : BS ^ a ≤ BS ^ b := by
  obtain ⟨c, rfl⟩ := Nat.exists_eq_add_of_le h
  rw [Int.pow_add]
  have h1 := BS_pos a
  have h2 := BS_pos c
  have : BS ^ a * 1 ≤ BS ^ a * BS ^ c := Int.mul_le_mul_of_nonneg_left (by omega) (Int.le_of_lt h1)
  omega
/-- and has no more cells than it needs -/
theorem Rg.le {T : mT} {r v : Int} {n m : Nat} (h : Rg T r n v) (hv : v.natAbs < BS ^ m) : n ≤ m := by
  rcases n with _ | n
  · exact Nat.zero_le _
  · have h1 := h.ge
    rcases Nat.lt_or_ge n m with h2 | h2
    · exact h2
    · have := BS_mono h2
      omega
end
section
section M1
variable {p : Program} {l : Launch} {e : Env} {R : Room} {s : State} {m : MethodId} {args : Array Value} {below : List Frame} {meth : Method} {c : Code} {Q : State → Prop} {b0 kc ks : Nat} {G : zG} {h : zH} {a : Nat} {cd : Int}
set_option maxHeartbeats 4000000 in
set_option maxRecDepth 100000 in
theorem lp_M_forget (K : zC p s m args c b_M_forget R_M 2 b0 G) (T : mT) (hx : ∀ N : Int → Int, (∀ q : Int, N q = if 0 ≤ q ∧ q < 24 ∧ q % 3 = 0 then 1 else T.2.2.2 q) → zW p l e R s m args below meth c 2 b0 G kc ks Q (hm G h a cd (T.1, T.2.1, T.2.2.1, N)) 23 [(0, .ref a)] []) :
    ∀ (j : Nat) (i : Int) (N : Int → Int), i + j = 8 → 0 ≤ i → (∀ q : Int, N q = if 0 ≤ q ∧ q < 3 * i ∧ q % 3 = 0 then 1 else T.2.2.2 q) → zW p l e R s m args below meth c 2 b0 G kc ks Q (hm G h a cd (T.1, T.2.1, T.2.2.1, N)) 2 [(0, .ref a), (1, .int (jI i))] [] := by
  intro j
  induction j with
  | zero =>
    intro i N hi h0 hN
    have hi8 : i = 8 := by omega
    subst hi8
    refine z_iload_n K d_M_forget_2 rfl ?_
    refine z_bipush (v := jI 8) K d_M_forget_3 rfl ?_
    refine zi_icmp_ge (tgt := 23) K d_M_forget_5 (by decide) (by omega) (by omega) (fun hc => ?_) (fun hc => absurd hc (by omega))
    exact z_re [0] rfl (hx N hN)
  | succ j ih =>
    intro i N hi h0 hN
    refine z_iload_n K d_M_forget_2 rfl ?_
    refine z_bipush (v := jI 8) K d_M_forget_3 rfl ?_
    refine zi_icmp_ge (tgt := 23) K d_M_forget_5 (by decide) (by omega) (by omega) (fun hc => absurd hc (by omega)) (fun hc => ?_)
    refine z_aload_n K d_M_forget_8 rfl ?_
    refine zm_get K fd_M_19 rfl d_M_forget_9 ?_
    refine z_iconst (v := jI 3) K d_M_forget_12 rfl ?_
    refine z_iload_n K d_M_forget_13 rfl ?_
    refine zi_imul K d_M_forget_14 ?_
    refine z_iconst (v := jI 1) K d_M_forget_15 rfl ?_
    refine zm_nst K (by omega) (by omega) d_M_forget_16 ?_
    refine zi_iinc K d_M_forget_17 rfl (by decide) ?_
    refine z_goto (tgt := 2) K d_M_forget_20 (by decide) ?_
    refine z_re [0, 1] rfl ?_
    refine ih (i + 1) _ (by omega) (by omega) (fun q => ?_)
    simp only [iu]
    rw [hN q]
    by_cases hq : q = 3 * i
    · rw [if_pos hq, if_pos (by omega)]
    · rw [if_neg hq]
      by_cases h1 : 0 ≤ q ∧ q < 3 * i ∧ q % 3 = 0
      · rw [if_pos h1, if_pos (by omega)]
      · rw [if_neg h1, if_neg (by omega)]
/-- forget(): none is true at the eight slots -/
theorem c_M_forget (l : Launch) (G : zG) (b0 : Nat) (h : zH) (a : Nat) (cd : Int) (T : mT) : mMet l G b0 y_M_forget b_M_forget 2 none 0 0 h a cd [] T (fun r T' => r = none ∧ ∃ N : Int → Int, T' = (T.1, T.2.1, T.2.2.1, N) ∧ ∀ q : Int, N q = if 0 ≤ q ∧ q < 24 ∧ q % 3 = 0 then 1 else T.2.2.2 q) :=
  z_met (by decide) (Nat.le_of_ble_eq_true rfl) fun p e s m below meth c K hr hlk hnm => by
  refine z_iconst (v := jI 0) K d_M_forget_0 rfl ?_
  refine z_istore_n K d_M_forget_1 (by decide) ?_
  refine z_re [0, 1] rfl ?_
  refine lp_M_forget K T (fun N hN => ?_) 8 0 T.2.2.2 (by omega) (by omega) (fun q => by rw [if_neg (by omega)])
  exact z_vret K hr hlk d_M_forget_23 ⟨_, rfl, rfl, N, rfl, hN⟩
theorem iu_iu (f : Int → Int) (k v w : Int) : iu (iu f k v) k w = iu f k w := by
  funext j
  simp only [iu]
  by_cases hj : j = k
  · rw [if_pos hj, if_pos hj]
  · rw [if_neg hj, if_neg hj, if_neg hj]
theorem tmod_neg_BS {m : Int} (h : 0 ≤ m) : (-m).tmod BS = -(m % BS) := by rw [Int.neg_tmod, Int.tmod_eq_emod_of_nonneg h]
theorem tdiv_neg_BS {m : Int} (h : 0 ≤ m) : (-m).tdiv BS = -(m / BS) := by rw [Int.neg_tdiv, Int.tdiv_eq_ediv_of_nonneg h]
theorem dv_iu {f : Int → Int} {b : Int} {n : Nat} {k v : Int} (hk : ∀ j : Nat, j < n → b + j ≠ k) : dv (iu f k v) b n = dv f b n := dv_congr (fun j hj => iu_ne f v (hk j hj))
set_option maxHeartbeats 4000000 in
set_option maxRecDepth 100000 in
theorem lp_M_set (K : zC p s m args c b_M_set R_M 6 b0 G) (T : mT) {r v : Int} (hr0 : 0 ≤ r ∧ r < 56) {v2 : Value} (hx : ∀ T' : mT, (∃ n : Nat, n ≤ 3 ∧ Rg T' r n v) → Fr [r] T T' → zW p l e R s m args below meth c 6 b0 G kc ks Q (hm G h a cd T') 101 [(0, .ref a), (1, .int (jI r))] []) :
    ∀ (j i : Nat) (w : Int) (C : Int → Int), i + j = 3 → 0 ≤ w → w ≤ 9223372036854775808 → w < BS ^ j → (∀ q : Int, q < 460 * r ∨ 460 * r + 460 ≤ q → C q = T.1 q) → dg C (460 * r) i → (∀ k : Nat, i = k + 1 → w ≠ 0 ∨ C (460 * r + k) ≠ 0) → (v.natAbs : Int) = dv C (460 * r) i + w * BS ^ i →
      zW p l e R s m args below meth c 6 b0 G kc ks Q (hm G h a cd (C, iu T.2.1 r i, iu T.2.2.1 r v.sign, T.2.2.2)) 48 [(0, .ref a), (1, .int (jI r)), (2, v2), (4, .long (kI (-w)))] [] := by
  have fin : ∀ (i : Nat) (C : Int → Int), i ≤ 3 → (∀ q : Int, q < 460 * r ∨ 460 * r + 460 ≤ q → C q = T.1 q) → dg C (460 * r) i → (∀ k : Nat, i = k + 1 → C (460 * r + k) ≠ 0) → (v.natAbs : Int) = dv C (460 * r) i → zW p l e R s m args below meth c 6 b0 G kc ks Q (hm G h a cd (C, iu T.2.1 r i, iu T.2.2.1 r v.sign, T.2.2.2)) 101 [(0, .ref a), (1, .int (jI r))] [] := fun i C hi hC hg ht hv => by
    refine hx _ ⟨i, hi, iu_self _ _ _, by omega, hg, ht, iu_self _ _ _, hv⟩ ⟨rfl, fun q hq => ?_⟩
    have hq2 : q ≠ r := fun z => hq (by rw [z]; exact List.mem_cons_self)
    refine ⟨iu_ne _ _ hq2, iu_ne _ _ hq2, fun k h0 h1 => hC _ ?_⟩
    omega
  intro j
  induction j with
  | zero =>
    intro i w C hi h0 hw64 hw hC hg ht hv
    have hw0 : w = 0 := by simp at hw; omega
    subst hw0
    refine z_lload K d_M_set_48 rfl ?_
    refine z_lconst (v := kI 0) K d_M_set_50 rfl ?_
    refine zi_lc_eq (tgt := 101) K d_M_set_51 d_M_set_52 (by decide) (by omega) (by omega) (fun hc => ?_) (fun hc => absurd (by omega) hc)
    refine z_re [0, 1] rfl (fin i C (by omega) hC hg (fun k hk => (ht k hk).resolve_left (fun z => z rfl)) (by omega))
  | succ j ih =>
    intro i w C hi h0 hw64 hw hC hg ht hv
    refine z_lload K d_M_set_48 rfl ?_
    refine z_lconst (v := kI 0) K d_M_set_50 rfl ?_
    refine zi_lc_eq (tgt := 101) K d_M_set_51 d_M_set_52 (by decide) (by omega) (by omega) (fun hc => ?_) (fun hc => ?_)
    · have hw0 : w = 0 := by omega
      subst hw0
      refine z_re [0, 1] rfl (fin i C (by omega) hC hg (fun k hk => (ht k hk).resolve_left (fun z => z rfl)) (by omega))
    · refine z_aload_n K d_M_set_55 rfl ?_
      refine zm_get K fd_M_9 rfl d_M_set_56 ?_
      refine z_sipush (v := jI 460) K d_M_set_59 rfl ?_
      refine z_iload_n K d_M_set_62 rfl ?_
      refine zi_imul K d_M_set_63 ?_
      refine z_aload_n K d_M_set_64 rfl ?_
      refine zm_get K fd_M_13 rfl d_M_set_65 ?_
      refine z_iload_n K d_M_set_68 rfl ?_
      refine zm_zld K (by omega) d_M_set_69 ?_
      simp only [iu_self]
      refine zi_iadd K d_M_set_70 ?_
      refine z_lload K d_M_set_71 rfl ?_
      refine z_ldc2 (v := kI 1000000000) K d_M_set_73 kc_M_34 ?_
      refine zi_lrem K d_M_set_76 (by omega) (by omega) (by omega) ?_
      refine zi_lneg K d_M_set_77 ?_
      refine zi_l2i K d_M_set_78 ?_
      refine zm_cst K (by omega) d_M_set_79 ?_
      refine z_aload_n K d_M_set_80 rfl ?_
      refine zm_get K fd_M_13 rfl d_M_set_81 ?_
      refine z_iload_n K d_M_set_84 rfl ?_
      refine z_dup2_11 K d_M_set_85 rfl rfl ?_
      refine zm_zld K (by omega) d_M_set_86 ?_
      refine z_iconst (v := jI 1) K d_M_set_87 rfl ?_
      refine zi_iadd K d_M_set_88 ?_
      refine zm_zst K (by omega) d_M_set_89 ?_
      refine z_lload K d_M_set_90 rfl ?_
      refine z_ldc2 (v := kI 1000000000) K d_M_set_92 kc_M_34 ?_
      refine zi_ldiv K d_M_set_95 (by omega) (by omega) (by omega) ?_
      refine z_lstore K d_M_set_96 (by decide) ?_
      refine z_goto (tgt := 48) K d_M_set_98 (by decide) ?_
      simp only [iu_self, iu_iu]
      rw [tmod_neg_BS h0, tdiv_neg_BS h0, Int.neg_neg]
      refine z_re [0, 1, 2, 4] rfl ?_
      have hm1 := Int.emod_nonneg w (show (BS : Int) ≠ 0 by decide)
      have hm2 := Int.emod_lt_of_pos w (show (0 : Int) < BS by decide)
      have hdm := Int.mul_ediv_add_emod w BS
      refine ih (i + 1) (w / BS) _ (by omega) (Int.ediv_nonneg h0 (by decide)) (Int.le_trans (Int.ediv_le_self _ h0) hw64) ?_ (fun q hq => ?_) (fun k hk => ?_) (fun k hk => ?_) ?_
      · apply Int.ediv_lt_of_lt_mul (by decide)
        rw [Int.pow_succ] at hw
        exact hw
      · rw [iu_ne _ _ (by omega)]; exact hC q hq
      · by_cases hki : k = i
        · subst hki; rw [iu_self]; exact ⟨hm1, hm2⟩
        · rw [iu_ne _ _ (by omega)]; exact hg k (by omega)
      · have : k = i := by omega
        subst this
        rw [iu_self]
        by_cases hz : w / BS = 0
        · refine Or.inr ?_
          rw [hz] at hdm
          omega
        · exact Or.inl hz
      · simp only [dv]
        rw [iu_self, dv_iu (fun j hj => by omega), hv, Int.pow_succ]
        grind
set_option maxHeartbeats 4000000 in
set_option maxRecDepth 100000 in
theorem t_M_set33 (K : zC p s m args c b_M_set R_M 6 b0 G) (T : mT) {r v : Int} (hr0 : 0 ≤ r ∧ r < 56) (hv : i64 v) (hx : ∀ T' : mT, (∃ n : Nat, n ≤ 3 ∧ Rg T' r n v) → Fr [r] T T' → zW p l e R s m args below meth c 6 b0 G kc ks Q (hm G h a cd T') 101 [(0, .ref a), (1, .int (jI r))] []) :
    zW p l e R s m args below meth c 6 b0 G kc ks Q (hm G h a cd (T.1, iu T.2.1 r 0, T.2.2)) 33 [(0, .ref a), (1, .int (jI r)), (2, .long (kI v))] [.int (jI v.sign), .int (jI r), .ref (a + 3)] := by
  refine zm_sst K (by omega) d_M_set_33 ?_
  have J : ∀ w : Int, w = v.natAbs → zW p l e R s m args below meth c 6 b0 G kc ks Q (hm G h a cd (T.1, iu T.2.1 r 0, iu T.2.2.1 r v.sign, T.2.2.2)) 46 [(0, .ref a), (1, .int (jI r)), (2, .long (kI v))] [.long (kI (-w))] := fun w hw => by
    refine z_lstore K d_M_set_46 (by decide) ?_
    refine z_re [0, 1, 2, 4] rfl ?_
    refine lp_M_set K T hr0 hx 3 0 w T.1 rfl (by omega) (by omega) ?_ (fun _ _ => rfl) (fun k hk => absurd hk (by omega)) (fun k hk => absurd hk (by omega)) (by simp [dv]; omega)
    have h2 : BS ^ 3 = 1000000000000000000000000000 := by decide
    omega
  refine z_lload_n K d_M_set_34 rfl ?_
  refine z_lconst (v := kI 0) K d_M_set_35 rfl ?_
  refine zi_lc_le (tgt := 45) K d_M_set_36 d_M_set_37 (by decide) (by omega) (by omega) (fun hc => ?_) (fun hc => ?_)
  · refine z_lload_n K d_M_set_45 rfl ?_
    refine z_st (st' := [.long (kI (-(-v)))]) (by rw [Int.neg_neg]) ?_
    exact J (-v) (by omega)
  · refine z_lload_n K d_M_set_40 rfl ?_
    refine zi_lneg K d_M_set_41 ?_
    refine z_goto (tgt := 46) K d_M_set_42 (by decide) ?_
    exact J v (by omega)
set_option maxHeartbeats 4000000 in
set_option maxRecDepth 100000 in
/-- set(r, v): the register r holds v -/
theorem c_M_set (l : Launch) (G : zG) (b0 : Nat) (h : zH) (a : Nat) (cd : Int) (T : mT) {r v : Int} (hr0 : 0 ≤ r ∧ r < 56) (hv : i64 v) : mMet l G b0 y_M_set b_M_set 6 none 0 0 h a cd [.int (jI r), .long (kI v)] T (fun o T' => o = none ∧ (∃ n : Nat, n ≤ 3 ∧ Rg T' r n v) ∧ Fr [r] T T') :=
  z_met (by decide) (Nat.le_of_ble_eq_true rfl) fun p e s m below meth c K hr hlk hnm => by
  refine z_aload_n K d_M_set_0 rfl ?_
  refine zm_get K fd_M_13 rfl d_M_set_1 ?_
  refine z_iload_n K d_M_set_4 rfl ?_
  refine z_iconst (v := jI 0) K d_M_set_5 rfl ?_
  refine zm_zst K (by omega) d_M_set_6 ?_
  refine z_aload_n K d_M_set_7 rfl ?_
  refine zm_get K fd_M_16 rfl d_M_set_8 ?_
  refine z_iload_n K d_M_set_11 rfl ?_
  refine z_lload_n K d_M_set_12 rfl ?_
  refine z_lconst (v := kI 0) K d_M_set_13 rfl ?_
  refine zi_lc_le (tgt := 22) K d_M_set_14 d_M_set_15 (by decide) (by omega) (by omega) (fun hc => ?_) (fun hc => ?_)
  · refine z_lload_n K d_M_set_22 rfl ?_
    refine z_lconst (v := kI 0) K d_M_set_23 rfl ?_
    refine zi_lc_ge (tgt := 32) K d_M_set_24 d_M_set_25 (by decide) (by omega) (by omega) (fun hc2 => ?_) (fun hc2 => ?_)
    · refine z_iconst (v := jI 0) K d_M_set_32 rfl ?_
      have hs : v.sign = 0 := by rw [show v = 0 by omega]; rfl
      have J := t_M_set33 (l := l) (e := e) (R := zRm 0 0 0 0) (below := below) (meth := meth) (kc := 0) (ks := 0) (h := h) (a := a) (cd := cd) K T hr0 hv (fun T' h1 h2 => z_vret (post := fun r_1 h' => ∃ T' : mT, h' = hm G h a cd T' ∧ r_1 = none ∧ (∃ n : Nat, n ≤ 3 ∧ Rg T' r n v) ∧ Fr [r] T T') K hr hlk d_M_set_101 ⟨_, rfl, rfl, h1, h2⟩)
      rw [hs] at J
      exact z_re [0, 1, 2] rfl J
    · refine z_iconst (v := jI (-1)) K d_M_set_28 rfl ?_
      refine z_goto (tgt := 33) K d_M_set_29 (by decide) ?_
      have hs : v.sign = -1 := Int.sign_eq_neg_one_of_neg (by omega)
      have J := t_M_set33 (l := l) (e := e) (R := zRm 0 0 0 0) (below := below) (meth := meth) (kc := 0) (ks := 0) (h := h) (a := a) (cd := cd) K T hr0 hv (fun T' h1 h2 => z_vret (post := fun r_1 h' => ∃ T' : mT, h' = hm G h a cd T' ∧ r_1 = none ∧ (∃ n : Nat, n ≤ 3 ∧ Rg T' r n v) ∧ Fr [r] T T') K hr hlk d_M_set_101 ⟨_, rfl, rfl, h1, h2⟩)
      rw [hs] at J
      exact z_re [0, 1, 2] rfl J
  · refine z_iconst (v := jI 1) K d_M_set_18 rfl ?_
    refine z_goto (tgt := 33) K d_M_set_19 (by decide) ?_
    have hs : v.sign = 1 := Int.sign_eq_one_of_pos (by omega)
    have J := t_M_set33 (l := l) (e := e) (R := zRm 0 0 0 0) (below := below) (meth := meth) (kc := 0) (ks := 0) (h := h) (a := a) (cd := cd) K T hr0 hv (fun T' h1 h2 => z_vret (post := fun r_1 h' => ∃ T' : mT, h' = hm G h a cd T' ∧ r_1 = none ∧ (∃ n : Nat, n ≤ 3 ∧ Rg T' r n v) ∧ Fr [r] T T') K hr hlk d_M_set_101 ⟨_, rfl, rfl, h1, h2⟩)
    rw [hs] at J
    exact z_re [0, 1, 2] rfl J
end M1
section M1b
variable {p : Program} {l : Launch} {e : Env} {R : Room} {s : State} {m : MethodId} {args : Array Value} {below : List Frame} {meth : Method} {c : Code} {Q : State → Prop} {b0 kc ks : Nat} {G : zG} {h : zH} {a : Nat} {cd : Int}
set_option maxHeartbeats 4000000 in
set_option maxRecDepth 100000 in
theorem lp_M_copy (K : zC p s m args c b_M_copy R_M 4 b0 G) (T : mT) {f t v : Int} {n : Nat} (hf : 0 ≤ f ∧ f < 56) (ht : 0 ≤ t ∧ t < 56) (hR : Rg T f n v) (hx : ∀ T' : mT, Rg T' t n v → Fr [t] T T' → zW p l e R s m args below meth c 4 b0 G kc ks Q (hm G h a cd T') 66 [(0, .ref a)] []) :
    ∀ (j i : Nat) (C : Int → Int), i + j = n → (∀ q : Int, C q = if 460 * t ≤ q ∧ q < 460 * t + i then T.1 (460 * f + (q - 460 * t)) else T.1 q) →
      zW p l e R s m args below meth c 4 b0 G kc ks Q (hm G h a cd (C, iu T.2.1 t n, iu T.2.2.1 t (T.2.2.1 f), T.2.2.2)) 26 [(0, .ref a), (1, .int (jI f)), (2, .int (jI t)), (3, .int (jI i))] [] := by
  have hR2 := hR
  obtain ⟨h1, h2, h3, h4, h5, h6⟩ := hR
  have hzf : iu T.2.1 t n f = n := by
    by_cases hq : f = t
    · rw [hq, iu_self]
    · rw [iu_ne _ _ hq, h1]
  intro j
  induction j with
  | zero =>
    intro i C hi hC
    refine z_iload_n K d_M_copy_26 rfl ?_
    refine z_aload_n K d_M_copy_27 rfl ?_
    refine zm_get K fd_M_13 rfl d_M_copy_28 ?_
    refine z_iload_n K d_M_copy_31 rfl ?_
    refine zm_zld K (by omega) d_M_copy_32 ?_
    dsimp only
    rw [hzf]
    refine zi_icmp_ge (tgt := 66) K d_M_copy_33 (by decide) (by omega) (by omega) (fun hc => ?_) (fun hc => absurd hc (by omega))
    refine z_re [0] rfl ?_
    have hin : i = n := by omega
    subst hin
    refine hx _ ⟨iu_self _ _ _, h2, fun k hk => ?_, fun k hk => ?_, (iu_self _ _ _).trans h5, ?_⟩ ⟨rfl, fun q hq => ?_⟩
    · dsimp only
      rw [hC, if_pos (by omega)]
      have := h3 k hk
      rwa [show 460 * f + (460 * t + (k : Int) - 460 * t) = 460 * f + k by omega]
    · dsimp only
      rw [hC, if_pos (by omega)]
      have := h4 k hk
      rwa [show 460 * f + (460 * t + (k : Int) - 460 * t) = 460 * f + k by omega]
    · rw [h6]
      refine dv_congr (fun k hk => ?_)
      dsimp only
      rw [hC, if_pos (by omega), show 460 * t + (k : Int) - 460 * t = k by omega]
    · have hq2 : q ≠ t := fun z => hq (by rw [z]; exact List.mem_cons_self)
      refine ⟨iu_ne _ _ hq2, iu_ne _ _ hq2, fun k g0 g1 => ?_⟩
      show C _ = _
      rw [hC, if_neg (by omega)]
  | succ j ih =>
    intro i C hi hC
    refine z_iload_n K d_M_copy_26 rfl ?_
    refine z_aload_n K d_M_copy_27 rfl ?_
    refine zm_get K fd_M_13 rfl d_M_copy_28 ?_
    refine z_iload_n K d_M_copy_31 rfl ?_
    refine zm_zld K (by omega) d_M_copy_32 ?_
    dsimp only
    rw [hzf]
    refine zi_icmp_ge (tgt := 66) K d_M_copy_33 (by decide) (by omega) (by omega) (fun hc => absurd hc (by omega)) (fun hc => ?_)
    refine z_aload_n K d_M_copy_36 rfl ?_
    refine zm_get K fd_M_9 rfl d_M_copy_37 ?_
    refine z_sipush (v := jI 460) K d_M_copy_40 rfl ?_
    refine z_iload_n K d_M_copy_43 rfl ?_
    refine zi_imul K d_M_copy_44 ?_
    refine z_iload_n K d_M_copy_45 rfl ?_
    refine zi_iadd K d_M_copy_46 ?_
    refine z_aload_n K d_M_copy_47 rfl ?_
    refine zm_get K fd_M_9 rfl d_M_copy_48 ?_
    refine z_sipush (v := jI 460) K d_M_copy_51 rfl ?_
    refine z_iload_n K d_M_copy_54 rfl ?_
    refine zi_imul K d_M_copy_55 ?_
    refine z_iload_n K d_M_copy_56 rfl ?_
    refine zi_iadd K d_M_copy_57 ?_
    refine zm_cld K (by omega) d_M_copy_58 ?_
    refine zm_cst K (by omega) d_M_copy_59 ?_
    refine zi_iinc K d_M_copy_60 rfl (by decide) ?_
    refine z_goto (tgt := 26) K d_M_copy_63 (by decide) ?_
    refine z_re [0, 1, 2, 3] rfl ?_
    refine ih (i + 1) _ (by omega) (fun q => ?_)
    simp only [iu]
    by_cases hq : q = 460 * t + i
    · subst hq
      rw [if_pos rfl, if_pos (by omega), hC, if_neg (by omega), show 460 * t + (i : Int) - 460 * t = i by omega]
    · rw [if_neg hq, hC]
      by_cases h7 : 460 * t ≤ q ∧ q < 460 * t + i
      · rw [if_pos h7, if_pos (by omega)]
      · rw [if_neg h7, if_neg (by omega)]
set_option maxHeartbeats 4000000 in
set_option maxRecDepth 100000 in
/-- copy(f, t): the register t holds what f holds -/
theorem c_M_copy (l : Launch) (G : zG) (b0 : Nat) (h : zH) (a : Nat) (cd : Int) (T : mT) {f t v : Int} {n : Nat} (hf : 0 ≤ f ∧ f < 56) (ht : 0 ≤ t ∧ t < 56) (hR : Rg T f n v) : mMet l G b0 y_M_copy b_M_copy 4 none 0 0 h a cd [.int (jI f), .int (jI t)] T (fun o T' => o = none ∧ Rg T' t n v ∧ Fr [t] T T') :=
  z_met (by decide) (Nat.le_of_ble_eq_true rfl) fun p e s m below meth c K hr hlk hnm => by
  refine z_aload_n K d_M_copy_0 rfl ?_
  refine zm_get K fd_M_13 rfl d_M_copy_1 ?_
  refine z_iload_n K d_M_copy_4 rfl ?_
  refine z_aload_n K d_M_copy_5 rfl ?_
  refine zm_get K fd_M_13 rfl d_M_copy_6 ?_
  refine z_iload_n K d_M_copy_9 rfl ?_
  refine zm_zld K (by omega) d_M_copy_10 ?_
  refine zm_zst K (by omega) d_M_copy_11 ?_
  refine z_aload_n K d_M_copy_12 rfl ?_
  refine zm_get K fd_M_16 rfl d_M_copy_13 ?_
  refine z_iload_n K d_M_copy_16 rfl ?_
  refine z_aload_n K d_M_copy_17 rfl ?_
  refine zm_get K fd_M_16 rfl d_M_copy_18 ?_
  refine z_iload_n K d_M_copy_21 rfl ?_
  refine zm_sld K (by omega) d_M_copy_22 ?_
  refine zm_sst K (by omega) d_M_copy_23 ?_
  refine z_iconst (v := jI 0) K d_M_copy_24 rfl ?_
  refine z_istore_n K d_M_copy_25 (by decide) ?_
  refine z_re [0, 1, 2, 3] rfl ?_
  rw [hR.1]
  exact lp_M_copy K T hf ht hR (fun T' h1 h2 => z_vret K hr hlk d_M_copy_66 ⟨_, rfl, rfl, h1, h2⟩) n 0 T.1 (by omega) (fun q => by rw [if_neg (by omega)])
set_option maxHeartbeats 4000000 in
set_option maxRecDepth 100000 in
theorem lp_M_trim (K : zC p s m args c b_M_trim R_M 4 b0 G) (T : mT) {r : Int} {N : Nat} (hr0 : 0 ≤ r ∧ r < 56) (hN : N ≤ 459) (hg : dg T.1 (460 * r) N) {w2 : Int} (hx : ∀ n : Nat, n ≤ N → (∀ j : Nat, n = j + 1 → T.1 (460 * r + j) ≠ 0) → dv T.1 (460 * r) n = dv T.1 (460 * r) N → zW p l e R s m args below meth c 4 b0 G kc ks Q (hm G h a cd T) 29 [(0, .ref a), (1, .int (jI r)), (3, .int (jI n))] []) :
    ∀ n : Nat, n ≤ N → dv T.1 (460 * r) n = dv T.1 (460 * r) N → zW p l e R s m args below meth c 4 b0 G kc ks Q (hm G h a cd T) 2 [(0, .ref a), (1, .int (jI r)), (2, .int (jI w2)), (3, .int (jI n))] [] := by
  intro n
  induction n with
  | zero =>
    intro hn hv
    refine z_iload_n K d_M_trim_2 rfl ?_
    refine zi_if_le (tgt := 29) K d_M_trim_3 (by decide) (by omega) (fun hc => ?_) (fun hc => absurd hc (by omega))
    exact z_re [0, 1, 3] rfl (hx 0 hn (fun j hj => absurd hj (by omega)) hv)
  | succ n ih =>
    intro hn hv
    have hgn := hg n (by omega)
    refine z_iload_n K d_M_trim_2 rfl ?_
    refine zi_if_le (tgt := 29) K d_M_trim_3 (by decide) (by omega) (fun hc => absurd hc (by omega)) (fun hc => ?_)
    refine z_aload_n K d_M_trim_6 rfl ?_
    refine zm_get K fd_M_9 rfl d_M_trim_7 ?_
    refine z_sipush (v := jI 460) K d_M_trim_10 rfl ?_
    refine z_iload_n K d_M_trim_13 rfl ?_
    refine zi_imul K d_M_trim_14 ?_
    refine z_iload_n K d_M_trim_15 rfl ?_
    refine zi_iadd K d_M_trim_16 ?_
    refine z_iconst (v := jI 1) K d_M_trim_17 rfl ?_
    refine zi_isub K d_M_trim_18 ?_
    refine zm_cld K (by omega) d_M_trim_19 ?_
    rw [show 460 * r + ((n + 1 : Nat) : Int) - 1 = 460 * r + n by omega]
    refine zi_if_ne (tgt := 29) K d_M_trim_20 (by decide) (by omega) (fun hc => ?_) (fun hc => ?_)
    · refine z_re [0, 1, 3] rfl (hx (n + 1) hn (fun j hj => ?_) hv)
      rw [show j = n by omega]; exact hc
    · refine zi_iinc K d_M_trim_23 rfl (by decide) ?_
      refine z_goto (tgt := 2) K d_M_trim_26 (by decide) ?_
      refine z_re [0, 1, 2, 3] rfl ?_
      rw [show ((n + 1 : Nat) : Int) + -1 = n by omega]
      refine ih (by omega) ?_
      rw [← hv]
      simp only [dv]
      rw [hc]
      omega
set_option maxHeartbeats 4000000 in
set_option maxRecDepth 100000 in
/-- trim(r, N): the size without the zeros on top; the sign of 0 is 0 -/
theorem c_M_trim (l : Launch) (G : zG) (b0 : Nat) (h : zH) (a : Nat) (cd : Int) (T : mT) {r : Int} {N : Nat} (hr0 : 0 ≤ r ∧ r < 56) (hN : N ≤ 459) (hg : dg T.1 (460 * r) N) : mMet l G b0 y_M_trim b_M_trim 4 none 0 0 h a cd [.int (jI r), .int (jI N)] T (fun o T' => o = none ∧ ∃ n : Nat, n ≤ N ∧ (∀ j : Nat, n = j + 1 → T.1 (460 * r + j) ≠ 0) ∧ dv T.1 (460 * r) n = dv T.1 (460 * r) N ∧ T' = (T.1, iu T.2.1 r n, iu T.2.2.1 r (if n = 0 then 0 else T.2.2.1 r), T.2.2.2)) :=
  z_met (by decide) (Nat.le_of_ble_eq_true rfl) fun p e s m below meth c K hr hlk hnm => by
  refine z_iload_n K d_M_trim_0 rfl ?_
  refine z_istore_n K d_M_trim_1 (by decide) ?_
  refine z_re [0, 1, 2, 3] rfl ?_
  refine lp_M_trim K T hr0 hN hg (fun n h1 h2 h3 => ?_) N (Nat.le_refl _) rfl
  refine z_aload_n K d_M_trim_29 rfl ?_
  refine zm_get K fd_M_13 rfl d_M_trim_30 ?_
  refine z_iload_n K d_M_trim_33 rfl ?_
  refine z_iload_n K d_M_trim_34 rfl ?_
  refine zm_zst K (by omega) d_M_trim_35 ?_
  refine z_aload_n K d_M_trim_36 rfl ?_
  refine zm_get K fd_M_16 rfl d_M_trim_37 ?_
  refine z_iload_n K d_M_trim_40 rfl ?_
  refine z_iload_n K d_M_trim_41 rfl ?_
  refine zi_if_ne (tgt := 49) K d_M_trim_42 (by decide) (by omega) (fun hc => ?_) (fun hc => ?_)
  · refine z_aload_n K d_M_trim_49 rfl ?_
    refine zm_get K fd_M_16 rfl d_M_trim_50 ?_
    refine z_iload_n K d_M_trim_53 rfl ?_
    refine zm_sld K (by omega) d_M_trim_54 ?_
    refine zm_sst K (by omega) d_M_trim_55 ?_
    exact z_vret K hr hlk d_M_trim_56 ⟨_, rfl, rfl, n, h1, h2, h3, by rw [if_neg (by omega)]⟩
  · refine z_iconst (v := jI 0) K d_M_trim_45 rfl ?_
    refine z_goto (tgt := 55) K d_M_trim_46 (by decide) ?_
    refine zm_sst K (by omega) d_M_trim_55 ?_
    exact z_vret K hr hlk d_M_trim_56 ⟨_, rfl, rfl, n, h1, h2, h3, by rw [if_pos (by omega)]⟩
end M1b
end
section
/-- the size of a register and the value of its cells, without its sign -/
def Mg (T : mT) (x : Int) (n : Nat) (u : Int) : Prop := T.2.1 x = n ∧ n ≤ 459 ∧ dg T.1 (460 * x) n ∧ dv T.1 (460 * x) n = u
theorem Rg.mg {T : mT} {r v : Int} {n : Nat} (h : Rg T r n v) : Mg T r n v.natAbs := ⟨h.1, h.2.1, h.2.2.1, h.2.2.2.2.2.symm⟩
/-- the cells of a register, and zeros behind them -/
def dx (f : Int → Int) (b : Int) (n : Nat) : Int → Int := fun j => if j < n then f (b + j) else 0
theorem dx_in {f : Int → Int} {b : Int} {n : Nat} {j : Int} (h : j < n) : dx f b n j = f (b + j) := if_pos h
theorem dx_out {f : Int → Int} {b : Int} {n : Nat} {j : Int} (h : (n : Int) ≤ j) : dx f b n j = 0 := if_neg (by omega)
theorem dv_dx {f : Int → Int} {b : Int} {n : Nat} : ∀ j : Nat, dv (dx f b n) 0 (n + j) = dv f b n
  | 0 => dv_congr (fun k hk => by rw [dx_in (by omega)]; congr 1; omega)
  | j + 1 => by
    show dv _ _ ((n + j) + 1) = _
    simp only [dv]
    rw [dv_dx j, dx_out (by omega)]
    omega
theorem dv_top {f : Int → Int} {b : Int} {n : Nat} (hg : dg f b (n + 1)) (hv : BS ^ n ≤ dv f b (n + 1)) : f (b + n) ≠ 0 := fun hz => by
  have h1 := (dv_bd (n := n) (fun k hk => hg k (by omega))).2
  simp only [dv] at hv
  rw [hz] at hv
  omega
theorem dv_lt {f g : Int → Int} {b c : Int} {i : Nat} : ∀ {n : Nat}, i < n → dg f b n → dg g c n → (∀ j : Nat, i < j → j < n → f (b + j) = g (c + j)) → f (b + i) < g (c + i) → dv f b n < dv g c n
  | 0, hi, _, _, _, _ => absurd hi (by omega)
  | n + 1, hi, hf, hg, he, hl => by
    have hf2 : dg f b n := fun k hk => hf k (by omega)
    have hg2 : dg g c n := fun k hk => hg k (by omega)
    simp only [dv]
    by_cases hn : i = n
    · subst hn
      have h1 := (dv_bd hf2).2
      have h2 := (dv_bd hg2).1
      have hp := BS_pos i
      have h3 : (f (b + i) + 1) * BS ^ i ≤ g (c + i) * BS ^ i := Int.mul_le_mul_of_nonneg_right (by omega) (Int.le_of_lt hp)
      rw [Int.add_mul, Int.one_mul] at h3
      omega
    · have h4 := dv_lt (n := n) (by omega) hf2 hg2 (fun j h1 h2 => he j h1 (by omega)) hl
      rw [he n (by omega) (by omega)]
      omega
theorem sgn3 (v : Int) : v.sign = -1 ∨ v.sign = 0 ∨ v.sign = 1 := by
  rcases Int.lt_trichotomy v 0 with h | h | h
  · exact Or.inl (Int.sign_eq_neg_one_of_neg h)
  · exact Or.inr (Or.inl (by rw [h]; rfl))
  · exact Or.inr (Or.inr (Int.sign_eq_one_of_pos h))
section M2
variable {p : Program} {l : Launch} {e : Env} {R : Room} {s : State} {m : MethodId} {args : Array Value} {below : List Frame} {meth : Method} {c : Code} {Q : State → Prop} {b0 kc ks : Nat} {G : zG} {h : zH} {a : Nat} {cd : Int}
set_option maxHeartbeats 4000000 in
set_option maxRecDepth 100000 in
theorem lp_M_compare (K : zC p s m args c b_M_compare R_M 4 b0 G) (T : mT) {x y : Int} {n : Nat} (hx0 : 0 ≤ x ∧ x < 56) (hy0 : 0 ≤ y ∧ y < 56) (hn : n ≤ 459) (hgx : dg T.1 (460 * x) n) (hgy : dg T.1 (460 * y) n) (hx : ∀ i : Nat, i ≤ n → (∀ j : Nat, i ≤ j → j < n → T.1 (460 * x + j) = T.1 (460 * y + j)) → (∀ j : Nat, i = j + 1 → T.1 (460 * x + j) ≠ T.1 (460 * y + j)) → zW p l e R s m args below meth c 4 b0 G kc ks Q (hm G h a cd T) 75 [(0, .ref a), (1, .int (jI x)), (2, .int (jI y)), (3, .int (jI (i - 1)))] []) :
    ∀ i : Nat, i ≤ n → (∀ j : Nat, i ≤ j → j < n → T.1 (460 * x + j) = T.1 (460 * y + j)) → zW p l e R s m args below meth c 4 b0 G kc ks Q (hm G h a cd T) 38 [(0, .ref a), (1, .int (jI x)), (2, .int (jI y)), (3, .int (jI (i - 1)))] [] := by
  intro i
  induction i with
  | zero =>
    intro hi he
    refine z_iload_n K d_M_compare_38 rfl ?_
    refine zi_if_lt (tgt := 75) K d_M_compare_39 (by decide) (by omega) (fun hc => ?_) (fun hc => absurd hc (by omega))
    exact hx 0 hi he (fun j hj => absurd hj (by omega))
  | succ i ih =>
    intro hi he
    have g1 := hgx i (by omega)
    have g2 := hgy i (by omega)
    rw [show ((i + 1 : Nat) : Int) - 1 = i by omega]
    refine z_iload_n K d_M_compare_38 rfl ?_
    refine zi_if_lt (tgt := 75) K d_M_compare_39 (by decide) (by omega) (fun hc => absurd hc (by omega)) (fun hc => ?_)
    refine z_aload_n K d_M_compare_42 rfl ?_
    refine zm_get K fd_M_9 rfl d_M_compare_43 ?_
    refine z_sipush (v := jI 460) K d_M_compare_46 rfl ?_
    refine z_iload_n K d_M_compare_49 rfl ?_
    refine zi_imul K d_M_compare_50 ?_
    refine z_iload_n K d_M_compare_51 rfl ?_
    refine zi_iadd K d_M_compare_52 ?_
    refine zm_cld K (by omega) d_M_compare_53 ?_
    refine z_aload_n K d_M_compare_54 rfl ?_
    refine zm_get K fd_M_9 rfl d_M_compare_55 ?_
    refine z_sipush (v := jI 460) K d_M_compare_58 rfl ?_
    refine z_iload_n K d_M_compare_61 rfl ?_
    refine zi_imul K d_M_compare_62 ?_
    refine z_iload_n K d_M_compare_63 rfl ?_
    refine zi_iadd K d_M_compare_64 ?_
    refine zm_cld K (by omega) d_M_compare_65 ?_
    refine zi_icmp_ne (tgt := 75) K d_M_compare_66 (by decide) (by omega) (by omega) (fun hc => ?_) (fun hc => ?_)
    · have := hx (i + 1) hi he (fun j hj => by rw [show j = i by omega]; exact hc)
      rwa [show ((i + 1 : Nat) : Int) - 1 = i by omega] at this
    · refine zi_iinc K d_M_compare_69 rfl (by decide) ?_
      refine z_goto (tgt := 38) K d_M_compare_72 (by decide) ?_
      refine z_re [0, 1, 2, 3] rfl ?_
      refine ih (by omega) (fun j h1 h2 => ?_)
      by_cases hj : j = i
      · rw [hj]; exact hc
      · exact he j (by omega) h2
set_option maxHeartbeats 4000000 in
set_option maxRecDepth 100000 in
/-- compare(x, y): the sign of |v| - |w| -/
theorem c_M_compare (l : Launch) (G : zG) (b0 : Nat) (h : zH) (a : Nat) (cd : Int) (T : mT) {x y v w : Int} {n k : Nat} (hx0 : 0 ≤ x ∧ x < 56) (hy0 : 0 ≤ y ∧ y < 56) (hx : Rg T x n v) (hy : Rg T y k w) : mMet l G b0 y_M_compare b_M_compare 4 (some .int) 0 0 h a cd [.int (jI x), .int (jI y)] T (fun o T' => T = T' ∧ ∃ z : Int, o = some (.int (jI z)) ∧ i32 z ∧ (z < 0 ↔ v.natAbs < w.natAbs) ∧ (z = 0 ↔ v.natAbs = w.natAbs)) :=
  z_met (by decide) (Nat.le_of_ble_eq_true rfl) fun p e s m below meth c K hr hlk hnm => by
  have hx1 := hx.1
  have hy1 := hy.1
  have hx2 := hx.2.1
  have hy2 := hy.2.1
  refine z_aload_n K d_M_compare_0 rfl ?_
  refine zm_get K fd_M_13 rfl d_M_compare_1 ?_
  refine z_iload_n K d_M_compare_4 rfl ?_
  refine zm_zld K (by omega) d_M_compare_5 ?_
  refine z_aload_n K d_M_compare_6 rfl ?_
  refine zm_get K fd_M_13 rfl d_M_compare_7 ?_
  refine z_iload_n K d_M_compare_10 rfl ?_
  refine zm_zld K (by omega) d_M_compare_11 ?_
  rw [hx1, hy1]
  refine zi_icmp_eq (tgt := 29) K d_M_compare_12 (by decide) (by omega) (by omega) (fun hc => ?_) (fun hc => ?_)
  · have hnk : n = k := by omega
    subst hnk
    refine z_aload_n K d_M_compare_29 rfl ?_
    refine zm_get K fd_M_13 rfl d_M_compare_30 ?_
    refine z_iload_n K d_M_compare_33 rfl ?_
    refine zm_zld K (by omega) d_M_compare_34 ?_
    refine z_iconst (v := jI 1) K d_M_compare_35 rfl ?_
    refine zi_isub K d_M_compare_36 ?_
    refine z_istore_n K d_M_compare_37 (by decide) ?_
    rw [hx1]
    refine z_re [0, 1, 2, 3] rfl ?_
    refine lp_M_compare K T hx0 hy0 hx2 hx.2.2.1 hy.2.2.1 (fun i hi he ht => ?_) n (Nat.le_refl _) (fun j h1 h2 => absurd h1 (by omega))
    refine z_iload_n K d_M_compare_75 rfl ?_
    refine zi_if_ge (tgt := 83) K d_M_compare_76 (by decide) (by omega) (fun hc => ?_) (fun hc => ?_)
    · obtain ⟨j, rfl⟩ : ∃ j, i = j + 1 := ⟨i - 1, by omega⟩
      have g1 := hx.2.2.1 j (by omega)
      have g2 := hy.2.2.1 j (by omega)
      have hne := ht j rfl
      rw [show ((j + 1 : Nat) : Int) - 1 = j by omega]
      refine z_aload_n K d_M_compare_83 rfl ?_
      refine zm_get K fd_M_9 rfl d_M_compare_84 ?_
      refine z_sipush (v := jI 460) K d_M_compare_87 rfl ?_
      refine z_iload_n K d_M_compare_90 rfl ?_
      refine zi_imul K d_M_compare_91 ?_
      refine z_iload_n K d_M_compare_92 rfl ?_
      refine zi_iadd K d_M_compare_93 ?_
      refine zm_cld K (by omega) d_M_compare_94 ?_
      refine z_aload_n K d_M_compare_95 rfl ?_
      refine zm_get K fd_M_9 rfl d_M_compare_96 ?_
      refine z_sipush (v := jI 460) K d_M_compare_99 rfl ?_
      refine z_iload_n K d_M_compare_102 rfl ?_
      refine zi_imul K d_M_compare_103 ?_
      refine z_iload_n K d_M_compare_104 rfl ?_
      refine zi_iadd K d_M_compare_105 ?_
      refine zm_cld K (by omega) d_M_compare_106 ?_
      refine zi_isub K d_M_compare_107 ?_
      refine z_iret K hr hlk d_M_compare_108 ⟨_, rfl, rfl, _, rfl, ⟨by omega, by omega⟩, ?_⟩
      have e1 := hx.2.2.2.2.2
      have e2 := hy.2.2.2.2.2
      rcases Int.lt_or_gt_of_ne hne with hl | hl
      · have := dv_lt (i := j) (by omega) hx.2.2.1 hy.2.2.1 (fun q h1 h2 => he q (by omega) h2) hl
        constructor <;> constructor <;> omega
      · have := dv_lt (i := j) (by omega) hy.2.2.1 hx.2.2.1 (fun q h1 h2 => (he q (by omega) h2).symm) hl
        constructor <;> constructor <;> omega
    · have hi0 : i = 0 := by omega
      subst hi0
      refine z_iconst (v := jI 0) K d_M_compare_79 rfl ?_
      refine z_goto (tgt := 108) K d_M_compare_80 (by decide) ?_
      refine z_iret K hr hlk d_M_compare_108 ⟨_, rfl, rfl, _, rfl, ⟨by decide, by decide⟩, ?_⟩
      have e1 := hx.2.2.2.2.2
      have e2 := hy.2.2.2.2.2
      rw [dv_congr (fun j hj => he j (by omega) hj), ← e2] at e1
      constructor <;> constructor <;> omega
  · refine z_aload_n K d_M_compare_15 rfl ?_
    refine zm_get K fd_M_13 rfl d_M_compare_16 ?_
    refine z_iload_n K d_M_compare_19 rfl ?_
    refine zm_zld K (by omega) d_M_compare_20 ?_
    refine z_aload_n K d_M_compare_21 rfl ?_
    refine zm_get K fd_M_13 rfl d_M_compare_22 ?_
    refine z_iload_n K d_M_compare_25 rfl ?_
    refine zm_zld K (by omega) d_M_compare_26 ?_
    refine zi_isub K d_M_compare_27 ?_
    rw [hx1, hy1]
    refine z_iret K hr hlk d_M_compare_28 ⟨_, rfl, rfl, _, rfl, ⟨by omega, by omega⟩, ?_⟩
    rcases Nat.lt_or_gt_of_ne (show n ≠ k by omega) with hl | hl
    · obtain ⟨j, rfl⟩ : ∃ j, k = j + 1 := ⟨k - 1, by omega⟩
      have h1 := hx.nn
      have h2 := hy.ge
      have h3 := BS_mono (show n ≤ j by omega)
      constructor <;> constructor <;> omega
    · obtain ⟨j, rfl⟩ : ∃ j, n = j + 1 := ⟨n - 1, by omega⟩
      have h1 := hy.nn
      have h2 := hx.ge
      have h3 := BS_mono (show k ≤ j by omega)
      constructor <;> constructor <;> omega
set_option maxHeartbeats 4000000 in
set_option maxRecDepth 100000 in
/-- isSame(x, y): whether both hold one number -/
theorem c_M_isSame (l : Launch) (G : zG) (b0 : Nat) (h : zH) (a : Nat) (cd : Int) (T : mT) {x y v w : Int} {n k : Nat} (hx0 : 0 ≤ x ∧ x < 56) (hy0 : 0 ≤ y ∧ y < 56) (hx : Rg T x n v) (hy : Rg T y k w) : mMet l G b0 y_M_isSame b_M_isSame 3 (some .boolean) 1 23 h a cd [.int (jI x), .int (jI y)] T (fun o T' => T = T' ∧ o = some (.int (jI (if v = w then 1 else 0)))) :=
  z_met (by decide) (Nat.le_of_ble_eq_true rfl) fun p e s m below meth c K hr hlk hnm => by
  have sv := Int.sign_mul_natAbs v
  have sw := Int.sign_mul_natAbs w
  have hsv : i32 v.sign := by have := sgn3 v; omega
  have hsw : i32 w.sign := by have := sgn3 w; omega
  refine z_aload_n K d_M_isSame_0 rfl ?_
  refine zm_get K fd_M_16 rfl d_M_isSame_1 ?_
  refine z_iload_n K d_M_isSame_4 rfl ?_
  refine zm_sld K (by omega) d_M_isSame_5 ?_
  refine z_aload_n K d_M_isSame_6 rfl ?_
  refine zm_get K fd_M_16 rfl d_M_isSame_7 ?_
  refine z_iload_n K d_M_isSame_10 rfl ?_
  refine zm_sld K (by omega) d_M_isSame_11 ?_
  rw [hx.2.2.2.2.1, hy.2.2.2.2.1]
  refine zi_icmp_ne (tgt := 28) K d_M_isSame_12 (by decide) hsv hsw (fun hc => ?_) (fun hc => ?_)
  · refine z_iconst (v := jI 0) K d_M_isSame_28 rfl ?_
    exact z_zret K hr hlk d_M_isSame_29 rfl ⟨_, rfl, rfl, by rw [if_neg (fun z => hc (by rw [z]))]⟩
  · refine z_aload_n K d_M_isSame_15 rfl ?_
    refine z_iload_n K d_M_isSame_16 rfl ?_
    refine z_iload_n K d_M_isSame_17 rfl ?_
    refine z_callV (ci := 0) (As := [.int (jI x), .int (jI y)]) K (c_M_compare l G b0 h a cd T hx0 hy0 hx hy) ca_M_36 im_M_compare se_M_compare rfl (by decide) hm_0 rfl rfl (by decide) (Nat.le_of_ble_eq_true rfl) d_M_isSame_18 (fun r h1 hp => ?_)
    obtain ⟨T1, rfl, rfl, z, rfl, hz, hz1, hz2⟩ := hp
    refine zi_if_ne (tgt := 28) K d_M_isSame_21 (by decide) hz (fun hc2 => ?_) (fun hc2 => ?_)
    · refine z_iconst (v := jI 0) K d_M_isSame_28 rfl ?_
      exact z_zret K hr hlk d_M_isSame_29 rfl ⟨_, rfl, rfl, by rw [if_neg (fun q => hc2 (hz2.mpr (by rw [q])))]⟩
    · refine z_iconst (v := jI 1) K d_M_isSame_24 rfl ?_
      refine z_goto (tgt := 29) K d_M_isSame_25 (by decide) ?_
      exact z_zret K hr hlk d_M_isSame_29 rfl ⟨_, rfl, rfl, by rw [if_pos (by rw [← sv, ← sw, hc, hz2.mp hc2])]⟩
end M2
end
section
theorem add_step {D P X Y cy d1 d2 c1 : Int} (hD : D + cy * P = X + Y) : D + (cy + d1 + d2 - c1 * 1000000000) * P + c1 * (P * 1000000000) = X + d1 * P + (Y + d2 * P) := by grind
theorem sub_step {D P X Y cy d1 d2 c1 : Int} (hD : D - cy * P = X - Y) : D + (d1 - cy - d2 + c1 * 1000000000) * P - c1 * (P * 1000000000) = X + d1 * P - (Y + d2 * P) := by grind
section M3
variable {p : Program} {l : Launch} {e : Env} {R : Room} {s : State} {m : MethodId} {args : Array Value} {below : List Frame} {meth : Method} {c : Code} {Q : State → Prop} {b0 kc ks : Nat} {G : zG} {h : zH} {a : Nat} {cd : Int}
set_option maxHeartbeats 4000000 in
set_option maxRecDepth 100000 in
theorem lp_M_addSizes (K : zC p s m args c b_M_addSizes R_M 10 b0 G) (T : mT) {r x y : Int} {n1 n2 N : Nat} (hr0 : 0 ≤ r ∧ r < 56) (hx0 : 0 ≤ x ∧ x < 56) (hy0 : 0 ≤ y ∧ y < 56) (h1N : n1 ≤ N) (h2N : n2 ≤ N) (hN : N ≤ 459) (hgx : dg T.1 (460 * x) n1) (hgy : dg T.1 (460 * y) n2)
    (hx : ∀ (C : Int → Int) (cy : Int), cy = 0 ∨ cy = 1 → (∀ q : Int, q < 460 * r ∨ 460 * r + N ≤ q → C q = T.1 q) → dg C (460 * r) N → dv C (460 * r) N + cy * BS ^ N = dv (dx T.1 (460 * x) n1) 0 N + dv (dx T.1 (460 * y) n2) 0 N → zW p l e R s m args below meth c 10 b0 G kc ks Q (hm G h a cd (C, T.2)) 164 [(0, .ref a), (1, .int (jI r)), (4, .int (jI N)), (7, .int (jI cy))] []) :
    ∀ (j i : Nat) (C : Int → Int) (cy : Int), i + j = N → cy = 0 ∨ cy = 1 → (∀ q : Int, q < 460 * r ∨ 460 * r + i ≤ q → C q = T.1 q) → dg C (460 * r) i → dv C (460 * r) i + cy * BS ^ i = dv (dx T.1 (460 * x) n1) 0 i + dv (dx T.1 (460 * y) n2) 0 i →
      zW p l e R s m args below meth c 10 b0 G kc ks Q (hm G h a cd (C, T.2)) 54 [(0, .ref a), (1, .int (jI r)), (2, .int (jI x)), (3, .int (jI y)), (4, .int (jI N)), (5, .int (jI n1)), (6, .int (jI n2)), (7, .int (jI cy)), (8, .int (jI i))] [] := by
  intro j
  induction j with
  | zero =>
    intro i C cy hi hcy hC hg hD
    refine z_iload K d_M_addSizes_54 rfl ?_
    refine z_iload K d_M_addSizes_56 rfl ?_
    refine zi_icmp_ge (tgt := 164) K d_M_addSizes_58 (by decide) (by omega) (by omega) (fun hc => ?_) (fun hc => absurd hc (by omega))
    have hiN : i = N := by omega
    subst hiN
    exact z_re [0, 1, 4, 7] rfl (hx C cy hcy hC hg hD)
  | succ j ih =>
    intro i C cy hi hcy hC hg hD
    have J157 : ∀ (w c1 : Int), (c1 = 0 ∨ c1 = 1) → w = cy + dx T.1 (460 * x) n1 i + dx T.1 (460 * y) n2 i → 0 ≤ w - c1 * 1000000000 → w - c1 * 1000000000 < 1000000000 → zW p l e R s m args below meth c 10 b0 G kc ks Q (hm G h a cd (C, T.2)) 157 [(0, .ref a), (1, .int (jI r)), (2, .int (jI x)), (3, .int (jI y)), (4, .int (jI N)), (5, .int (jI n1)), (6, .int (jI n2)), (7, .int (jI c1)), (8, .int (jI i))] [.int (jI (w - c1 * 1000000000)), .int (jI (460 * r + i)), .ref (a + 1)] := fun w c1 hc1 hw g1 g2 => by
      refine zm_cst K (by omega) d_M_addSizes_157 ?_
      refine zi_iinc K d_M_addSizes_158 rfl (by decide) ?_
      refine z_goto (tgt := 54) K d_M_addSizes_161 (by decide) ?_
      refine z_re [0, 1, 2, 3, 4, 5, 6, 7, 8] rfl ?_
      refine ih (i + 1) _ c1 (by omega) hc1 (fun q hq => ?_) (fun k hk => ?_) ?_
      · dsimp only
        rw [iu_ne _ _ (by omega)]; exact hC q (by omega)
      · dsimp only
        by_cases hki : k = i
        · subst hki; rw [iu_self]; exact ⟨g1, g2⟩
        · rw [iu_ne _ _ (by omega)]; exact hg k (by omega)
      · simp only [dv]
        rw [iu_self, dv_iu (fun q hq => by omega), Int.pow_succ, hw, Int.zero_add]
        exact add_step hD
    have J127 : ∀ (w c1 : Int), w = cy + dx T.1 (460 * x) n1 i + dx T.1 (460 * y) n2 i → 0 ≤ w → w < 2000000000 → (w < 1000000000 ∧ c1 = 0 ∨ 1000000000 ≤ w ∧ c1 = 1) → zW p l e R s m args below meth c 10 b0 G kc ks Q (hm G h a cd (C, T.2)) 127 [(0, .ref a), (1, .int (jI r)), (2, .int (jI x)), (3, .int (jI y)), (4, .int (jI N)), (5, .int (jI n1)), (6, .int (jI n2)), (8, .int (jI i)), (9, .int (jI w))] [.int (jI c1)] := fun w c1 hw g1 g2 hc1 => by
      refine z_istore K d_M_addSizes_127 (by decide) ?_
      refine z_aload_n K d_M_addSizes_129 rfl ?_
      refine zm_get K fd_M_9 rfl d_M_addSizes_130 ?_
      refine z_sipush (v := jI 460) K d_M_addSizes_133 rfl ?_
      refine z_iload_n K d_M_addSizes_136 rfl ?_
      refine zi_imul K d_M_addSizes_137 ?_
      refine z_iload K d_M_addSizes_138 rfl ?_
      refine zi_iadd K d_M_addSizes_140 ?_
      refine z_iload K d_M_addSizes_141 rfl ?_
      refine z_iconst (v := jI 1) K d_M_addSizes_143 rfl ?_
      refine zi_icmp_ne (tgt := 155) K d_M_addSizes_144 (by decide) (by omega) (by omega) (fun hc => ?_) (fun hc => ?_)
      · have hc0 : c1 = 0 := by omega
        subst hc0
        refine z_iload K d_M_addSizes_155 rfl ?_
        refine z_re [0, 1, 2, 3, 4, 5, 6, 7, 8] rfl ?_
        have := J157 w 0 (Or.inl rfl) hw (by omega) (by omega)
        rwa [show w - 0 * 1000000000 = w by omega] at this
      · subst hc
        refine z_iload K d_M_addSizes_147 rfl ?_
        refine z_ldc (v := jI 1000000000) K d_M_addSizes_149 kc_M_52 ?_
        refine zi_isub K d_M_addSizes_151 ?_
        refine z_goto (tgt := 157) K d_M_addSizes_152 (by decide) ?_
        refine z_re [0, 1, 2, 3, 4, 5, 6, 7, 8] rfl ?_
        have := J157 w 1 (Or.inr rfl) hw (by omega) (by omega)
        rwa [show w - 1 * 1000000000 = w - 1000000000 by omega] at this
    have J112 : ∀ d1 d2 : Int, d1 = dx T.1 (460 * x) n1 i → d2 = dx T.1 (460 * y) n2 i → 0 ≤ d1 → d1 < 1000000000 → 0 ≤ d2 → d2 < 1000000000 → zW p l e R s m args below meth c 10 b0 G kc ks Q (hm G h a cd (C, T.2)) 112 [(0, .ref a), (1, .int (jI r)), (2, .int (jI x)), (3, .int (jI y)), (4, .int (jI N)), (5, .int (jI n1)), (6, .int (jI n2)), (7, .int (jI cy)), (8, .int (jI i))] [.int (jI d2), .int (jI (cy + d1))] := fun d1 d2 e1 e2 g1 g2 g3 g4 => by
      refine zi_iadd K d_M_addSizes_112 ?_
      refine z_istore K d_M_addSizes_113 (by decide) ?_
      refine z_iload K d_M_addSizes_115 rfl ?_
      refine z_ldc (v := jI 1000000000) K d_M_addSizes_117 kc_M_52 ?_
      refine zi_icmp_lt (tgt := 126) K d_M_addSizes_119 (by decide) (by omega) (by omega) (fun hc => ?_) (fun hc => ?_)
      · refine z_iconst (v := jI 0) K d_M_addSizes_126 rfl ?_
        refine z_re [0, 1, 2, 3, 4, 5, 6, 8, 9] rfl ?_
        exact J127 (cy + d1 + d2) 0 (by rw [e1, e2]) (by omega) (by omega) (by omega)
      · refine z_iconst (v := jI 1) K d_M_addSizes_122 rfl ?_
        refine z_goto (tgt := 127) K d_M_addSizes_123 (by decide) ?_
        refine z_re [0, 1, 2, 3, 4, 5, 6, 8, 9] rfl ?_
        exact J127 (cy + d1 + d2) 1 (by rw [e1, e2]) (by omega) (by omega) (by omega)
    have J87 : ∀ d1 : Int, d1 = dx T.1 (460 * x) n1 i → 0 ≤ d1 → d1 < 1000000000 → zW p l e R s m args below meth c 10 b0 G kc ks Q (hm G h a cd (C, T.2)) 87 [(0, .ref a), (1, .int (jI r)), (2, .int (jI x)), (3, .int (jI y)), (4, .int (jI N)), (5, .int (jI n1)), (6, .int (jI n2)), (7, .int (jI cy)), (8, .int (jI i))] [.int (jI d1), .int (jI cy)] := fun d1 e1 g1 g2 => by
      refine zi_iadd K d_M_addSizes_87 ?_
      refine z_iload K d_M_addSizes_88 rfl ?_
      refine z_iload K d_M_addSizes_90 rfl ?_
      refine zi_icmp_ge (tgt := 111) K d_M_addSizes_92 (by decide) (by omega) (by omega) (fun hc => ?_) (fun hc => ?_)
      · refine z_iconst (v := jI 0) K d_M_addSizes_111 rfl ?_
        exact J112 d1 0 e1 (by rw [dx_out (by omega)]) g1 g2 (by omega) (by omega)
      · refine z_aload_n K d_M_addSizes_95 rfl ?_
        refine zm_get K fd_M_9 rfl d_M_addSizes_96 ?_
        refine z_sipush (v := jI 460) K d_M_addSizes_99 rfl ?_
        refine z_iload_n K d_M_addSizes_102 rfl ?_
        refine zi_imul K d_M_addSizes_103 ?_
        refine z_iload K d_M_addSizes_104 rfl ?_
        refine zi_iadd K d_M_addSizes_106 ?_
        refine zm_cld K (by omega) d_M_addSizes_107 ?_
        refine z_goto (tgt := 112) K d_M_addSizes_108 (by decide) ?_
        dsimp only
        have hg3 := hgy i (by omega)
        rw [hC _ (by omega)]
        exact J112 d1 _ e1 (by rw [dx_in (by omega)]) g1 g2 (by omega) (by omega)
    refine z_iload K d_M_addSizes_54 rfl ?_
    refine z_iload K d_M_addSizes_56 rfl ?_
    refine zi_icmp_ge (tgt := 164) K d_M_addSizes_58 (by decide) (by omega) (by omega) (fun hc => absurd hc (by omega)) (fun hc => ?_)
    refine z_iload K d_M_addSizes_61 rfl ?_
    refine z_iload K d_M_addSizes_63 rfl ?_
    refine z_iload K d_M_addSizes_65 rfl ?_
    refine zi_icmp_ge (tgt := 86) K d_M_addSizes_67 (by decide) (by omega) (by omega) (fun hc => ?_) (fun hc => ?_)
    · refine z_iconst (v := jI 0) K d_M_addSizes_86 rfl ?_
      exact J87 0 (by rw [dx_out (by omega)]) (by omega) (by omega)
    · refine z_aload_n K d_M_addSizes_70 rfl ?_
      refine zm_get K fd_M_9 rfl d_M_addSizes_71 ?_
      refine z_sipush (v := jI 460) K d_M_addSizes_74 rfl ?_
      refine z_iload_n K d_M_addSizes_77 rfl ?_
      refine zi_imul K d_M_addSizes_78 ?_
      refine z_iload K d_M_addSizes_79 rfl ?_
      refine zi_iadd K d_M_addSizes_81 ?_
      refine zm_cld K (by omega) d_M_addSizes_82 ?_
      refine z_goto (tgt := 87) K d_M_addSizes_83 (by decide) ?_
      dsimp only
      have hg3 := hgx i (by omega)
      rw [hC _ (by omega)]
      exact J87 _ (by rw [dx_in (by omega)]) (by omega) (by omega)
set_option maxHeartbeats 4000000 in
set_option maxRecDepth 100000 in
/-- addSizes(r, x, y): the cells of r hold the sum of what the cells of x and y hold -/
theorem c_M_addSizes (l : Launch) (G : zG) (b0 : Nat) (h : zH) (a : Nat) (cd : Int) (T : mT) {r x y u1 u2 : Int} {n1 n2 : Nat} (hr0 : 0 ≤ r ∧ r < 56) (hx0 : 0 ≤ x ∧ x < 56) (hy0 : 0 ≤ y ∧ y < 56) (hx : Mg T x n1 u1) (hy : Mg T y n2 u2) (hb1 : n1 ≤ 458) (hb2 : n2 ≤ 458) :
    mMet l G b0 y_M_addSizes b_M_addSizes 10 none 0 0 h a cd [.int (jI r), .int (jI x), .int (jI y)] T (fun o T' => o = none ∧ ∃ (N : Nat) (C : Int → Int), T' = (C, iu T.2.1 r N, T.2.2) ∧ N ≤ max n1 n2 + 1 ∧ dg C (460 * r) N ∧ dv C (460 * r) N = u1 + u2 ∧ (N = max n1 n2 ∨ ∃ j, N = j + 1 ∧ C (460 * r + j) ≠ 0) ∧ ∀ q : Int, q < 460 * r ∨ 460 * r + 460 ≤ q → C q = T.1 q) :=
  z_met (by decide) (Nat.le_of_ble_eq_true rfl) fun p e s m below meth c K hr hlk hnm => by
  obtain ⟨hx1, hx2, hx3, hx4⟩ := hx
  obtain ⟨hy1, hy2, hy3, hy4⟩ := hy
  have fin : ∀ (N : Nat) (C : Int → Int) (cy : Int), N = max n1 n2 → cy = 0 ∨ cy = 1 → (∀ q : Int, q < 460 * r ∨ 460 * r + N ≤ q → C q = T.1 q) → dg C (460 * r) N → dv C (460 * r) N + cy * BS ^ N = u1 + u2 → zW p l e (zRm 0 0 0 0) s m _ below meth c 10 b0 G 0 0 (MQ below (zQ G b0 (fun r_1 h' => ∃ T' : mT, h' = hm G h a cd T' ∧ r_1 = none ∧ ∃ (N : Nat) (C : Int → Int), T' = (C, iu T.2.1 r N, T.2.2) ∧ N ≤ max n1 n2 + 1 ∧ dg C (460 * r) N ∧ dv C (460 * r) N = u1 + u2 ∧ (N = max n1 n2 ∨ ∃ j, N = j + 1 ∧ C (460 * r + j) ≠ 0) ∧ ∀ q : Int, q < 460 * r ∨ 460 * r + 460 ≤ q → C q = T.1 q)) ([.ref a, .int (jI r), .int (jI x), .int (jI y)] : List Value).toArray s 0 0 (z_A b0)) (hm G h a cd (C, T.2)) 164 [(0, .ref a), (1, .int (jI r)), (4, .int (jI N)), (7, .int (jI cy))] [] := fun N C cy hN hcy hC hg hD => by
    have hNb : N ≤ 458 := by omega
    refine z_aload_n K d_M_addSizes_164 rfl ?_
    refine zm_get K fd_M_9 rfl d_M_addSizes_165 ?_
    refine z_sipush (v := jI 460) K d_M_addSizes_168 rfl ?_
    refine z_iload_n K d_M_addSizes_171 rfl ?_
    refine zi_imul K d_M_addSizes_172 ?_
    refine z_iload K d_M_addSizes_173 rfl ?_
    refine zi_iadd K d_M_addSizes_175 ?_
    refine z_iload K d_M_addSizes_176 rfl ?_
    refine zm_cst K (by omega) d_M_addSizes_178 ?_
    refine z_aload_n K d_M_addSizes_179 rfl ?_
    refine zm_get K fd_M_13 rfl d_M_addSizes_180 ?_
    refine z_iload_n K d_M_addSizes_183 rfl ?_
    refine z_iload K d_M_addSizes_184 rfl ?_
    refine z_iload K d_M_addSizes_186 rfl ?_
    refine zi_iadd K d_M_addSizes_188 ?_
    refine zm_zst K (by omega) d_M_addSizes_189 ?_
    refine z_vret K hr hlk d_M_addSizes_190 ⟨_, rfl, rfl, N + cy.toNat, iu C (460 * r + N) cy, ?_, by omega, fun k hk => ?_, ?_, ?_, fun q hq => ?_⟩
    · rw [show ((N + cy.toNat : Nat) : Int) = N + cy by omega]
    · by_cases hkN : k = N
      · subst hkN; rw [iu_self]; omega
      · rw [iu_ne _ _ (by omega)]; exact hg k (by omega)
    · rcases hcy with rfl | rfl
      · rw [show N + (0 : Int).toNat = N by simp, dv_iu (fun q hq => by omega)]; omega
      · rw [show N + (1 : Int).toNat = N + 1 by simp]
        simp only [dv]
        rw [iu_self, dv_iu (fun q hq => by omega)]; omega
    · rcases hcy with rfl | rfl
      · exact Or.inl (by simpa using hN)
      · exact Or.inr ⟨N, by simp, by rw [iu_self]; decide⟩
    · rw [iu_ne _ _ (by omega)]; exact hC q (by omega)
  have go : ∀ N : Nat, N = max n1 n2 → zW p l e (zRm 0 0 0 0) s m _ below meth c 10 b0 G 0 0 (MQ below (zQ G b0 (fun r_1 h' => ∃ T' : mT, h' = hm G h a cd T' ∧ r_1 = none ∧ ∃ (N : Nat) (C : Int → Int), T' = (C, iu T.2.1 r N, T.2.2) ∧ N ≤ max n1 n2 + 1 ∧ dg C (460 * r) N ∧ dv C (460 * r) N = u1 + u2 ∧ (N = max n1 n2 ∨ ∃ j, N = j + 1 ∧ C (460 * r + j) ≠ 0) ∧ ∀ q : Int, q < 460 * r ∨ 460 * r + 460 ≤ q → C q = T.1 q)) ([.ref a, .int (jI r), .int (jI x), .int (jI y)] : List Value).toArray s 0 0 (z_A b0)) (hm G h a cd T) 30 [(0, .ref a), (1, .int (jI r)), (2, .int (jI x)), (3, .int (jI y))] [.int (jI N)] := fun N hN => by
    refine z_istore K d_M_addSizes_30 (by decide) ?_
    refine z_aload_n K d_M_addSizes_32 rfl ?_
    refine zm_get K fd_M_13 rfl d_M_addSizes_33 ?_
    refine z_iload_n K d_M_addSizes_36 rfl ?_
    refine zm_zld K (by omega) d_M_addSizes_37 ?_
    refine z_istore K d_M_addSizes_38 (by decide) ?_
    refine z_aload_n K d_M_addSizes_40 rfl ?_
    refine zm_get K fd_M_13 rfl d_M_addSizes_41 ?_
    refine z_iload_n K d_M_addSizes_44 rfl ?_
    refine zm_zld K (by omega) d_M_addSizes_45 ?_
    refine z_istore K d_M_addSizes_46 (by decide) ?_
    refine z_iconst (v := jI 0) K d_M_addSizes_48 rfl ?_
    refine z_istore K d_M_addSizes_49 (by decide) ?_
    refine z_iconst (v := jI 0) K d_M_addSizes_51 rfl ?_
    refine z_istore K d_M_addSizes_52 (by decide) ?_
    rw [hx1, hy1]
    refine z_re [0, 1, 2, 3, 4, 5, 6, 7, 8] rfl ?_
    have e1 := dv_dx (f := T.1) (b := 460 * x) (n := n1) (N - n1)
    have e2 := dv_dx (f := T.1) (b := 460 * y) (n := n2) (N - n2)
    rw [show n1 + (N - n1) = N by omega] at e1
    rw [show n2 + (N - n2) = N by omega] at e2
    refine lp_M_addSizes K T hr0 hx0 hy0 (by omega) (by omega) (by omega) hx3 hy3 (fun C cy g1 g2 g3 g4 => fin N C cy hN g1 g2 g3 (by rw [g4, e1, e2, hx4, hy4])) N 0 T.1 0 (by omega) (Or.inl rfl) (fun q _ => rfl) (fun k hk => absurd hk (by omega)) (by simp [dv])
  refine z_aload_n K d_M_addSizes_0 rfl ?_
  refine zm_get K fd_M_13 rfl d_M_addSizes_1 ?_
  refine z_iload_n K d_M_addSizes_4 rfl ?_
  refine zm_zld K (by omega) d_M_addSizes_5 ?_
  refine z_aload_n K d_M_addSizes_6 rfl ?_
  refine zm_get K fd_M_13 rfl d_M_addSizes_7 ?_
  refine z_iload_n K d_M_addSizes_10 rfl ?_
  refine zm_zld K (by omega) d_M_addSizes_11 ?_
  rw [hx1, hy1]
  refine zi_icmp_le (tgt := 24) K d_M_addSizes_12 (by decide) (by omega) (by omega) (fun hc => ?_) (fun hc => ?_)
  · refine z_aload_n K d_M_addSizes_24 rfl ?_
    refine zm_get K fd_M_13 rfl d_M_addSizes_25 ?_
    refine z_iload_n K d_M_addSizes_28 rfl ?_
    refine zm_zld K (by omega) d_M_addSizes_29 ?_
    rw [hy1]
    exact z_re [0, 1, 2, 3] rfl (go n2 (by omega))
  · refine z_aload_n K d_M_addSizes_15 rfl ?_
    refine zm_get K fd_M_13 rfl d_M_addSizes_16 ?_
    refine z_iload_n K d_M_addSizes_19 rfl ?_
    refine zm_zld K (by omega) d_M_addSizes_20 ?_
    refine z_goto (tgt := 30) K d_M_addSizes_21 (by decide) ?_
    rw [hx1]
    exact z_re [0, 1, 2, 3] rfl (go n1 (by omega))
end M3
end
section
section M4
variable {p : Program} {l : Launch} {e : Env} {R : Room} {s : State} {m : MethodId} {args : Array Value} {below : List Frame} {meth : Method} {c : Code} {Q : State → Prop} {b0 kc ks : Nat} {G : zG} {h : zH} {a : Nat} {cd : Int}
set_option maxHeartbeats 4000000 in
set_option maxRecDepth 100000 in
theorem lp_M_takeSizes (K : zC p s m args c b_M_takeSizes R_M 10 b0 G) (T : mT) {r x y sg : Int} {n1 n2 : Nat} (hr0 : 0 ≤ r ∧ r < 56) (hx0 : 0 ≤ x ∧ x < 56) (hy0 : 0 ≤ y ∧ y < 56) (h2N : n2 ≤ n1) (hN : n1 ≤ 459) (hgx : dg T.1 (460 * x) n1) (hgy : dg T.1 (460 * y) n2)
    (hx : ∀ (C : Int → Int) (cy : Int), cy = 0 ∨ cy = 1 → (∀ q : Int, q < 460 * r ∨ 460 * r + n1 ≤ q → C q = T.1 q) → dg C (460 * r) n1 → dv C (460 * r) n1 - cy * BS ^ n1 = dv (dx T.1 (460 * x) n1) 0 n1 - dv (dx T.1 (460 * y) n2) 0 n1 → zW p l e R s m args below meth c 10 b0 G kc ks Q (hm G h a cd (C, T.2)) 118 [(0, .ref a), (1, .int (jI r)), (4, .int (jI sg)), (5, .int (jI n1))] []) :
    ∀ (j i : Nat) (C : Int → Int) (cy : Int), i + j = n1 → cy = 0 ∨ cy = 1 → (∀ q : Int, q < 460 * r ∨ 460 * r + i ≤ q → C q = T.1 q) → dg C (460 * r) i → dv C (460 * r) i - cy * BS ^ i = dv (dx T.1 (460 * x) n1) 0 i - dv (dx T.1 (460 * y) n2) 0 i →
      zW p l e R s m args below meth c 10 b0 G kc ks Q (hm G h a cd (C, T.2)) 22 [(0, .ref a), (1, .int (jI r)), (2, .int (jI x)), (3, .int (jI y)), (4, .int (jI sg)), (5, .int (jI n1)), (6, .int (jI n2)), (7, .int (jI cy)), (8, .int (jI i))] [] := by
  intro j
  induction j with
  | zero =>
    intro i C cy hi hcy hC hg hD
    refine z_iload K d_M_takeSizes_22 rfl ?_
    refine z_iload K d_M_takeSizes_24 rfl ?_
    refine zi_icmp_ge (tgt := 118) K d_M_takeSizes_26 (by decide) (by omega) (by omega) (fun hc => ?_) (fun hc => absurd hc (by omega))
    have hiN : i = n1 := by omega
    subst hiN
    exact z_re [0, 1, 4, 5] rfl (hx C cy hcy hC hg hD)
  | succ j ih =>
    intro i C cy hi hcy hC hg hD
    have hgi := hgx i (by omega)
    have J111 : ∀ (w c1 : Int), (c1 = 0 ∨ c1 = 1) → w = dx T.1 (460 * x) n1 i - cy - dx T.1 (460 * y) n2 i → 0 ≤ w + c1 * 1000000000 → w + c1 * 1000000000 < 1000000000 → zW p l e R s m args below meth c 10 b0 G kc ks Q (hm G h a cd (C, T.2)) 111 [(0, .ref a), (1, .int (jI r)), (2, .int (jI x)), (3, .int (jI y)), (4, .int (jI sg)), (5, .int (jI n1)), (6, .int (jI n2)), (7, .int (jI c1)), (8, .int (jI i))] [.int (jI (w + c1 * 1000000000)), .int (jI (460 * r + i)), .ref (a + 1)] := fun w c1 hc1 hw g1 g2 => by
      refine zm_cst K (by omega) d_M_takeSizes_111 ?_
      refine zi_iinc K d_M_takeSizes_112 rfl (by decide) ?_
      refine z_goto (tgt := 22) K d_M_takeSizes_115 (by decide) ?_
      refine z_re [0, 1, 2, 3, 4, 5, 6, 7, 8] rfl ?_
      refine ih (i + 1) _ c1 (by omega) hc1 (fun q hq => ?_) (fun k hk => ?_) ?_
      · dsimp only
        rw [iu_ne _ _ (by omega)]; exact hC q (by omega)
      · dsimp only
        by_cases hki : k = i
        · subst hki; rw [iu_self]; exact ⟨g1, g2⟩
        · rw [iu_ne _ _ (by omega)]; exact hg k (by omega)
      · simp only [dv]
        rw [iu_self, dv_iu (fun q hq => by omega), Int.pow_succ, hw, Int.zero_add]
        exact sub_step hD
    have J82 : ∀ (w c1 : Int), w = dx T.1 (460 * x) n1 i - cy - dx T.1 (460 * y) n2 i → -1000000000 ≤ w → w < 1000000000 → (w < 0 ∧ c1 = 1 ∨ 0 ≤ w ∧ c1 = 0) → zW p l e R s m args below meth c 10 b0 G kc ks Q (hm G h a cd (C, T.2)) 82 [(0, .ref a), (1, .int (jI r)), (2, .int (jI x)), (3, .int (jI y)), (4, .int (jI sg)), (5, .int (jI n1)), (6, .int (jI n2)), (8, .int (jI i)), (9, .int (jI w))] [.int (jI c1)] := fun w c1 hw g1 g2 hc1 => by
      refine z_istore K d_M_takeSizes_82 (by decide) ?_
      refine z_aload_n K d_M_takeSizes_84 rfl ?_
      refine zm_get K fd_M_9 rfl d_M_takeSizes_85 ?_
      refine z_sipush (v := jI 460) K d_M_takeSizes_88 rfl ?_
      refine z_iload_n K d_M_takeSizes_91 rfl ?_
      refine zi_imul K d_M_takeSizes_92 ?_
      refine z_iload K d_M_takeSizes_93 rfl ?_
      refine zi_iadd K d_M_takeSizes_95 ?_
      refine z_iload K d_M_takeSizes_96 rfl ?_
      refine zi_if_ge (tgt := 109) K d_M_takeSizes_98 (by decide) (by omega) (fun hc => ?_) (fun hc => ?_)
      · have hc0 : c1 = 0 := by omega
        subst hc0
        refine z_iload K d_M_takeSizes_109 rfl ?_
        refine z_re [0, 1, 2, 3, 4, 5, 6, 7, 8] rfl ?_
        have := J111 w 0 (Or.inl rfl) hw (by omega) (by omega)
        rwa [show w + 0 * 1000000000 = w by omega] at this
      · have hc0 : c1 = 1 := by omega
        subst hc0
        refine z_iload K d_M_takeSizes_101 rfl ?_
        refine z_ldc (v := jI 1000000000) K d_M_takeSizes_103 kc_M_52 ?_
        refine zi_iadd K d_M_takeSizes_105 ?_
        refine z_goto (tgt := 111) K d_M_takeSizes_106 (by decide) ?_
        refine z_re [0, 1, 2, 3, 4, 5, 6, 7, 8] rfl ?_
        have := J111 w 1 (Or.inr rfl) hw (by omega) (by omega)
        rwa [show w + 1 * 1000000000 = w + 1000000000 by omega] at this
    have J69 : ∀ d1 d2 : Int, d1 = dx T.1 (460 * x) n1 i → d2 = dx T.1 (460 * y) n2 i → 0 ≤ d1 → d1 < 1000000000 → 0 ≤ d2 → d2 < 1000000000 → zW p l e R s m args below meth c 10 b0 G kc ks Q (hm G h a cd (C, T.2)) 69 [(0, .ref a), (1, .int (jI r)), (2, .int (jI x)), (3, .int (jI y)), (4, .int (jI sg)), (5, .int (jI n1)), (6, .int (jI n2)), (7, .int (jI cy)), (8, .int (jI i))] [.int (jI d2), .int (jI (d1 - cy))] := fun d1 d2 e1 e2 g1 g2 g3 g4 => by
      refine zi_isub K d_M_takeSizes_69 ?_
      refine z_istore K d_M_takeSizes_70 (by decide) ?_
      refine z_iload K d_M_takeSizes_72 rfl ?_
      refine zi_if_ge (tgt := 81) K d_M_takeSizes_74 (by decide) (by omega) (fun hc => ?_) (fun hc => ?_)
      · refine z_iconst (v := jI 0) K d_M_takeSizes_81 rfl ?_
        refine z_re [0, 1, 2, 3, 4, 5, 6, 8, 9] rfl ?_
        exact J82 (d1 - cy - d2) 0 (by rw [e1, e2]) (by omega) (by omega) (by omega)
      · refine z_iconst (v := jI 1) K d_M_takeSizes_77 rfl ?_
        refine z_goto (tgt := 82) K d_M_takeSizes_78 (by decide) ?_
        refine z_re [0, 1, 2, 3, 4, 5, 6, 8, 9] rfl ?_
        exact J82 (d1 - cy - d2) 1 (by rw [e1, e2]) (by omega) (by omega) (by omega)
    refine z_iload K d_M_takeSizes_22 rfl ?_
    refine z_iload K d_M_takeSizes_24 rfl ?_
    refine zi_icmp_ge (tgt := 118) K d_M_takeSizes_26 (by decide) (by omega) (by omega) (fun hc => absurd hc (by omega)) (fun hc => ?_)
    refine z_aload_n K d_M_takeSizes_29 rfl ?_
    refine zm_get K fd_M_9 rfl d_M_takeSizes_30 ?_
    refine z_sipush (v := jI 460) K d_M_takeSizes_33 rfl ?_
    refine z_iload_n K d_M_takeSizes_36 rfl ?_
    refine zi_imul K d_M_takeSizes_37 ?_
    refine z_iload K d_M_takeSizes_38 rfl ?_
    refine zi_iadd K d_M_takeSizes_40 ?_
    refine zm_cld K (by omega) d_M_takeSizes_41 ?_
    refine z_iload K d_M_takeSizes_42 rfl ?_
    refine zi_isub K d_M_takeSizes_44 ?_
    refine z_iload K d_M_takeSizes_45 rfl ?_
    refine z_iload K d_M_takeSizes_47 rfl ?_
    dsimp only
    rw [hC (460 * x + i) (by omega)]
    have e1 : T.1 (460 * x + i) = dx T.1 (460 * x) n1 i := by rw [dx_in (by omega)]
    refine zi_icmp_ge (tgt := 68) K d_M_takeSizes_49 (by decide) (by omega) (by omega) (fun hc => ?_) (fun hc => ?_)
    · refine z_iconst (v := jI 0) K d_M_takeSizes_68 rfl ?_
      exact J69 _ 0 e1 (by rw [dx_out (by omega)]) (by omega) (by omega) (by omega) (by omega)
    · refine z_aload_n K d_M_takeSizes_52 rfl ?_
      refine zm_get K fd_M_9 rfl d_M_takeSizes_53 ?_
      refine z_sipush (v := jI 460) K d_M_takeSizes_56 rfl ?_
      refine z_iload_n K d_M_takeSizes_59 rfl ?_
      refine zi_imul K d_M_takeSizes_60 ?_
      refine z_iload K d_M_takeSizes_61 rfl ?_
      refine zi_iadd K d_M_takeSizes_63 ?_
      refine zm_cld K (by omega) d_M_takeSizes_64 ?_
      refine z_goto (tgt := 69) K d_M_takeSizes_65 (by decide) ?_
      dsimp only
      have hg3 := hgy i (by omega)
      rw [hC (460 * y + i) (by omega)]
      exact J69 _ _ e1 (by rw [dx_in (by omega)]) (by omega) (by omega) (by omega) (by omega)
set_option maxHeartbeats 4000000 in
set_option maxRecDepth 100000 in
/-- takeSizes(r, x, y, sg): the register r holds sg times the difference of the cells of x and y -/
theorem c_M_takeSizes (l : Launch) (G : zG) (b0 : Nat) (h : zH) (a : Nat) (cd : Int) (T : mT) {r x y u1 u2 sg : Int} {n1 n2 : Nat} (hr0 : 0 ≤ r ∧ r < 56) (hx0 : 0 ≤ x ∧ x < 56) (hy0 : 0 ≤ y ∧ y < 56) (hx : Mg T x n1 u1) (hy : Mg T y n2 u2) (h21 : n2 ≤ n1) (hu : u2 ≤ u1) :
    mMet l G b0 y_M_takeSizes b_M_takeSizes 10 none 1 23 h a cd [.int (jI r), .int (jI x), .int (jI y), .int (jI sg)] T (fun o T' => o = none ∧ ∃ (N : Nat) (C : Int → Int), T' = (C, iu T.2.1 r N, iu T.2.2.1 r (if N = 0 then 0 else sg), T.2.2.2) ∧ N ≤ n1 ∧ dg C (460 * r) N ∧ dv C (460 * r) N = u1 - u2 ∧ (∀ j : Nat, N = j + 1 → C (460 * r + j) ≠ 0) ∧ ∀ q : Int, q < 460 * r ∨ 460 * r + 460 ≤ q → C q = T.1 q) :=
  z_met (by decide) (Nat.le_of_ble_eq_true rfl) fun p e s m below meth c K hr hlk hnm => by
  obtain ⟨hx1, hx2, hx3, hx4⟩ := hx
  obtain ⟨hy1, hy2, hy3, hy4⟩ := hy
  refine z_aload_n K d_M_takeSizes_0 rfl ?_
  refine zm_get K fd_M_13 rfl d_M_takeSizes_1 ?_
  refine z_iload_n K d_M_takeSizes_4 rfl ?_
  refine zm_zld K (by omega) d_M_takeSizes_5 ?_
  refine z_istore K d_M_takeSizes_6 (by decide) ?_
  refine z_aload_n K d_M_takeSizes_8 rfl ?_
  refine zm_get K fd_M_13 rfl d_M_takeSizes_9 ?_
  refine z_iload_n K d_M_takeSizes_12 rfl ?_
  refine zm_zld K (by omega) d_M_takeSizes_13 ?_
  refine z_istore K d_M_takeSizes_14 (by decide) ?_
  refine z_iconst (v := jI 0) K d_M_takeSizes_16 rfl ?_
  refine z_istore K d_M_takeSizes_17 (by decide) ?_
  refine z_iconst (v := jI 0) K d_M_takeSizes_19 rfl ?_
  refine z_istore K d_M_takeSizes_20 (by decide) ?_
  rw [hx1, hy1]
  refine z_re [0, 1, 2, 3, 4, 5, 6, 7, 8] rfl ?_
  have e1 := dv_dx (f := T.1) (b := 460 * x) (n := n1) 0
  have e2 := dv_dx (f := T.1) (b := 460 * y) (n := n2) (n1 - n2)
  rw [Nat.add_zero] at e1
  rw [show n2 + (n1 - n2) = n1 by omega] at e2
  refine lp_M_takeSizes K T hr0 hx0 hy0 h21 hx2 hx3 hy3 (fun C cy g1 g2 g3 g4 => ?_) n1 0 T.1 0 (by omega) (Or.inl rfl) (fun q _ => rfl) (fun k hk => absurd hk (by omega)) (by simp [dv])
  rw [e1, e2, hx4, hy4] at g4
  have hb := (dv_bd g3).2
  have hcy : cy = 0 := by
    rcases g1 with h0 | h0
    · exact h0
    · rw [h0] at g4; omega
  subst hcy
  refine z_aload_n K d_M_takeSizes_118 rfl ?_
  refine zm_get K fd_M_16 rfl d_M_takeSizes_119 ?_
  refine z_iload_n K d_M_takeSizes_122 rfl ?_
  refine z_iload K d_M_takeSizes_123 rfl ?_
  refine zm_sst K (by omega) d_M_takeSizes_125 ?_
  refine z_aload_n K d_M_takeSizes_126 rfl ?_
  refine z_iload_n K d_M_takeSizes_127 rfl ?_
  refine z_iload K d_M_takeSizes_128 rfl ?_
  refine z_callV (ci := 0) (As := [.int (jI r), .int (jI n1)]) K (c_M_trim l G b0 h a cd (C, T.2.1, iu T.2.2.1 r sg, T.2.2.2) hr0 hx2 g3) ca_M_53 im_M_trim se_M_trim rfl (by decide) hm_0 rfl rfl (by decide) (Nat.le_of_ble_eq_true rfl) d_M_takeSizes_130 (fun o h1 hp => ?_)
  obtain ⟨T1, rfl, rfl, N, k1, k2, k3, rfl⟩ := hp
  refine z_vret K hr hlk d_M_takeSizes_133 ⟨_, rfl, rfl, N, C, ?_, k1, fun k hk => g3 k (by omega), by dsimp only at k3; rw [k3]; omega, k2, fun q hq => g2 q (by omega)⟩
  dsimp only
  rw [iu_iu, iu_self]
theorem Fr.of1 {T : mT} {C Z S : Int → Int} {r : Int} {zv sv : Int} (hZ : Z = iu T.2.1 r zv) (hS : S = iu T.2.2.1 r sv ∨ S = T.2.2.1) (hC : ∀ q : Int, q < 460 * r ∨ 460 * r + 460 ≤ q → C q = T.1 q) : Fr [r] T (C, Z, S, T.2.2.2) := by
  refine ⟨rfl, fun q hq => ?_⟩
  have hq2 : q ≠ r := fun z => hq (by rw [z]; exact List.mem_cons_self)
  refine ⟨?_, ?_, fun k h0 h1 => hC _ (by omega)⟩
  · show Z q = _
    rw [hZ, iu_ne _ _ hq2]
  · show S q = _
    rcases hS with h | h
    · rw [h, iu_ne _ _ hq2]
    · rw [h]
theorem sgn_pos_mul {v w : Int} (hv : v.sign ≠ 0) (h : v.sign = w.sign) : (v + w).sign = v.sign ∧ ((v + w).natAbs : Int) = v.natAbs + w.natAbs := by
  rcases sgn3 v with h1 | h1 | h1
  · have a1 : v < 0 := Int.neg_of_sign_eq_neg_one h1
    have a2 : w < 0 := Int.neg_of_sign_eq_neg_one (by omega)
    exact ⟨by rw [h1]; exact Int.sign_eq_neg_one_of_neg (by omega), by omega⟩
  · exact absurd h1 hv
  · have a1 : 0 < v := Int.pos_of_sign_eq_one h1
    have a2 : 0 < w := Int.pos_of_sign_eq_one (by omega)
    exact ⟨by rw [h1]; exact Int.sign_eq_one_of_pos (by omega), by omega⟩
/-- of different signs: the larger size takes the sign -/
theorem sgn_diff {v w : Int} (hv : v.sign ≠ 0) (hw : w.sign ≠ 0) (h : v.sign ≠ w.sign) (hl : w.natAbs ≤ v.natAbs) : ((v + w).natAbs : Int) = v.natAbs - w.natAbs ∧ ((v + w).natAbs ≠ 0 → (v + w).sign = v.sign) := by
  rcases sgn3 v with h1 | h1 | h1
  · have a1 : v < 0 := Int.neg_of_sign_eq_neg_one h1
    have a2 : 0 < w := Int.pos_of_sign_eq_one (by have := sgn3 w; omega)
    exact ⟨by omega, fun hn => by rw [h1]; exact Int.sign_eq_neg_one_of_neg (by omega)⟩
  · exact absurd h1 hv
  · have a1 : 0 < v := Int.pos_of_sign_eq_one h1
    have a2 : w < 0 := Int.neg_of_sign_eq_neg_one (by have := sgn3 w; omega)
    exact ⟨by omega, fun hn => by rw [h1]; exact Int.sign_eq_one_of_pos (by omega)⟩
end M4
end
section
theorem Rg.mk {T : mT} {C S : Int → Int} {r v sv : Int} {N : Nat} {X : Int → Int} (hN : N ≤ 459) (hg : dg C (460 * r) N) (ht : ∀ j : Nat, N = j + 1 → C (460 * r + j) ≠ 0) (hs : sv = v.sign) (hv : (v.natAbs : Int) = dv C (460 * r) N) : Rg (C, iu X r N, iu S r sv, T.2.2.2) r N v :=
  ⟨iu_self _ _ _, hN, hg, ht, (iu_self _ _ _).trans hs, hv⟩
theorem sg_mul {w sg : Int} (hs : sg = 1 ∨ sg = -1) : (sg * w).sign = w.sign * sg ∧ (sg * w).natAbs = w.natAbs := by
  rcases hs with rfl | rfl
  · simp
  · constructor
    · rw [show (-1 : Int) * w = -w by omega, Int.sign_neg]; omega
    · omega
theorem dv_pos {f : Int → Int} {b : Int} {N : Nat} (hg : dg f b N) (hN : N ≠ 0) (ht : ∀ j : Nat, N = j + 1 → f (b + j) ≠ 0) : 0 < dv f b N := by
  obtain ⟨j, rfl⟩ : ∃ j, N = j + 1 := ⟨N - 1, by omega⟩
  simp only [dv]
  have h1 := (dv_bd (n := j) (fun k hk => hg k (by omega))).1
  have h2 := hg j (by omega)
  have h3 := ht j rfl
  have := Int.mul_pos (show 0 < f (b + j) by omega) (BS_pos j)
  omega
section M5
variable {p : Program} {l : Launch} {e : Env} {R : Room} {s : State} {m : MethodId} {args : Array Value} {below : List Frame} {meth : Method} {c : Code} {Q : State → Prop} {b0 kc ks : Nat} {G : zG} {h : zH} {a : Nat} {cd : Int}
set_option maxHeartbeats 4000000 in
set_option maxRecDepth 100000 in
/-- add(r, x, y, sg): the register r holds v + sg w -/
theorem c_M_add (l : Launch) (G : zG) (b0 : Nat) (h : zH) (a : Nat) (cd : Int) (T : mT) {r x y v w sg : Int} {n1 n2 : Nat} (hr0 : 0 ≤ r ∧ r < 56) (hx0 : 0 ≤ x ∧ x < 56) (hy0 : 0 ≤ y ∧ y < 56) (hx : Rg T x n1 v) (hy : Rg T y n2 w) (hs : sg = 1 ∨ sg = -1) (hb1 : n1 ≤ 458) (hb2 : n2 ≤ 458) :
    mMet l G b0 y_M_add b_M_add 7 none 2 52 h a cd [.int (jI r), .int (jI x), .int (jI y), .int (jI sg)] T (fun o T' => o = none ∧ (∃ N : Nat, N ≤ max n1 n2 + 1 ∧ Rg T' r N (v + sg * w)) ∧ Fr [r] T T') :=
  z_met (by decide) (Nat.le_of_ble_eq_true rfl) fun p e s m below meth c K hr hlk hnm => by
  obtain ⟨e1, e2⟩ := sg_mul (w := w) hs
  have s1 := sgn3 v
  have s2 := sgn3 w
  have s3 := sgn3 (sg * w)
  have hsx := hx.2.2.2.2.1
  have hsy := hy.2.2.2.2.1
  refine z_aload_n K d_M_add_0 rfl ?_
  refine zm_get K fd_M_16 rfl d_M_add_1 ?_
  refine z_iload_n K d_M_add_4 rfl ?_
  refine zm_sld K (by omega) d_M_add_5 ?_
  refine z_istore K d_M_add_6 (by decide) ?_
  refine z_aload_n K d_M_add_8 rfl ?_
  refine zm_get K fd_M_16 rfl d_M_add_9 ?_
  refine z_iload_n K d_M_add_12 rfl ?_
  refine zm_sld K (by omega) d_M_add_13 ?_
  refine z_iload K d_M_add_14 rfl ?_
  refine zi_imul K d_M_add_16 ?_
  refine z_istore K d_M_add_17 (by decide) ?_
  refine z_iload K d_M_add_19 rfl ?_
  rw [hsx, hsy, ← e1]
  refine zi_if_ne (tgt := 33) K d_M_add_21 (by decide) (by omega) (fun hc => ?_) (fun hc => ?_)
  · refine z_iload K d_M_add_33 rfl ?_
    refine zi_if_ne (tgt := 55) K d_M_add_35 (by decide) (by omega) (fun hc2 => ?_) (fun hc2 => ?_)
    · refine z_iload K d_M_add_55 rfl ?_
      refine z_iload K d_M_add_57 rfl ?_
      refine zi_icmp_ne (tgt := 80) K d_M_add_59 (by decide) (by omega) (by omega) (fun hc3 => ?_) (fun hc3 => ?_)
      · refine z_aload_n K d_M_add_80 rfl ?_
        refine z_iload_n K d_M_add_81 rfl ?_
        refine z_iload_n K d_M_add_82 rfl ?_
        refine z_callV (ci := 0) (As := [.int (jI x), .int (jI y)]) K (c_M_compare l G b0 h a cd T hx0 hy0 hx hy) ca_M_36 im_M_compare se_M_compare rfl (by decide) hm_0 rfl rfl (by decide) (Nat.le_of_ble_eq_true rfl) d_M_add_83 (fun o h1 hp => ?_)
        obtain ⟨T1, rfl, rfl, z, rfl, hz, hz1, hz2⟩ := hp
        refine zi_if_lt (tgt := 109) K d_M_add_86 (by decide) hz (fun hc4 => ?_) (fun hc4 => ?_)
        · have hlt := hz1.mp hc4
          refine z_aload_n K d_M_add_109 rfl ?_
          refine z_iload_n K d_M_add_110 rfl ?_
          refine z_iload_n K d_M_add_111 rfl ?_
          refine z_iload_n K d_M_add_112 rfl ?_
          refine z_iload K d_M_add_113 rfl ?_
          refine z_callV (ci := 0) (As := [.int (jI r), .int (jI y), .int (jI x), .int (jI (sg * w).sign)]) K (c_M_takeSizes l G b0 h a cd T (sg := (sg * w).sign) hr0 hy0 hx0 hy.mg hx.mg (hx.le (by have := hy.nn; omega)) (by omega)) ca_M_48 im_M_takeSizes se_M_takeSizes rfl (by decide) hm_0 rfl rfl (by decide) (Nat.le_of_ble_eq_true rfl) d_M_add_115 (fun o h1 hp => ?_)
          obtain ⟨T1, rfl, rfl, N, C, rfl, k1, k2, k3, k4, k5⟩ := hp
          obtain ⟨f1, f2⟩ := sgn_diff (v := sg * w) (w := v) (by omega) (by omega) (fun q => hc3 q.symm) (by omega)
          have hval : ((v + sg * w).natAbs : Int) = dv C (460 * r) N := by rw [k3, Int.add_comm v, f1]; omega
          refine z_vret K hr hlk d_M_add_118 ⟨_, rfl, rfl, ⟨N, by omega, Rg.mk (T := T) (by have := hy.2.1; omega) k2 k4 ?_ hval⟩, Fr.of1 rfl (Or.inl rfl) k5⟩
          by_cases hN : N = 0
          · subst hN
            rw [if_pos rfl]
            simp only [dv] at hval
            rw [show v + sg * w = 0 by omega]; rfl
          · have := dv_pos k2 hN k4
            rw [if_neg hN, Int.add_comm v, f2 (by rw [Int.add_comm]; omega)]
        · have hge : w.natAbs ≤ v.natAbs := by
            have : ¬ v.natAbs < w.natAbs := fun q => by have := hz1.mpr q; omega
            omega
          refine z_aload_n K d_M_add_89 rfl ?_
          refine zm_get K fd_M_16 rfl d_M_add_90 ?_
          refine z_iload_n K d_M_add_93 rfl ?_
          refine z_iload K d_M_add_94 rfl ?_
          refine zm_sst K (by omega) d_M_add_96 ?_
          refine z_aload_n K d_M_add_97 rfl ?_
          refine z_iload_n K d_M_add_98 rfl ?_
          refine z_iload_n K d_M_add_99 rfl ?_
          refine z_iload_n K d_M_add_100 rfl ?_
          refine z_iload K d_M_add_101 rfl ?_
          refine z_callV (ci := 0) (As := [.int (jI r), .int (jI x), .int (jI y), .int (jI v.sign)]) K (c_M_takeSizes l G b0 h a cd (T.1, T.2.1, iu T.2.2.1 r v.sign, T.2.2.2) (sg := v.sign) hr0 hx0 hy0 hx.mg hy.mg (hy.le (by have := hx.nn; omega)) (by omega)) ca_M_48 im_M_takeSizes se_M_takeSizes rfl (by decide) hm_0 rfl rfl (by decide) (Nat.le_of_ble_eq_true rfl) d_M_add_103 (fun o h1 hp => ?_)
          obtain ⟨T1, rfl, rfl, N, C, rfl, k1, k2, k3, k4, k5⟩ := hp
          refine z_goto (tgt := 118) K d_M_add_106 (by decide) ?_
          dsimp only
          rw [iu_iu]
          obtain ⟨f1, f2⟩ := sgn_diff (v := v) (w := sg * w) (by omega) (by omega) hc3 (by omega)
          have hval : ((v + sg * w).natAbs : Int) = dv C (460 * r) N := by rw [k3, f1]; omega
          refine z_vret K hr hlk d_M_add_118 ⟨_, rfl, rfl, ⟨N, by omega, Rg.mk (T := T) (by have := hx.2.1; omega) k2 k4 ?_ hval⟩, Fr.of1 rfl (Or.inl rfl) k5⟩
          by_cases hN : N = 0
          · subst hN
            rw [if_pos rfl]
            simp only [dv] at hval
            rw [show v + sg * w = 0 by omega]; rfl
          · have := dv_pos k2 hN k4
            rw [if_neg hN, f2 (by omega)]
      · refine z_aload_n K d_M_add_62 rfl ?_
        refine z_iload_n K d_M_add_63 rfl ?_
        refine z_iload_n K d_M_add_64 rfl ?_
        refine z_iload_n K d_M_add_65 rfl ?_
        refine z_callV (ci := 0) (As := [.int (jI r), .int (jI x), .int (jI y)]) K (c_M_addSizes l G b0 h a cd T hr0 hx0 hy0 hx.mg hy.mg hb1 hb2) ca_M_44 im_M_addSizes se_M_addSizes rfl (by decide) hm_0 rfl rfl (by decide) (Nat.le_of_ble_eq_true rfl) d_M_add_66 (fun o h1 hp => ?_)
        obtain ⟨T1, rfl, rfl, N, C, rfl, k1, k2, k3, k4, k5⟩ := hp
        refine z_aload_n K d_M_add_69 rfl ?_
        refine zm_get K fd_M_16 rfl d_M_add_70 ?_
        refine z_iload_n K d_M_add_73 rfl ?_
        refine z_iload K d_M_add_74 rfl ?_
        refine zm_sst K (by omega) d_M_add_76 ?_
        refine z_goto (tgt := 118) K d_M_add_77 (by decide) ?_
        obtain ⟨f1, f2⟩ := sgn_pos_mul (v := v) (w := sg * w) (by omega) hc3
        have hval : ((v + sg * w).natAbs : Int) = dv C (460 * r) N := by rw [k3, f2]; omega
        refine z_vret K hr hlk d_M_add_118 ⟨_, rfl, rfl, ⟨N, by clear k4; omega, Rg.mk (T := T) (by clear k4; omega) k2 (fun j hj => ?_) f1.symm hval⟩, Fr.of1 rfl (Or.inl rfl) k5⟩
        rcases k4 with k4 | ⟨j2, k4, k6⟩
        · subst hj
          refine dv_top k2 ?_
          rw [k3]
          by_cases hmx : n1 = j + 1
          · subst hmx; have := hx.ge; omega
          · have hmy : n2 = j + 1 := by omega
            subst hmy; have := hy.ge; omega
        · rw [show j = j2 by omega]; exact k6
    · refine z_aload_n K d_M_add_38 rfl ?_
      refine z_iload_n K d_M_add_39 rfl ?_
      refine z_iload_n K d_M_add_40 rfl ?_
      refine z_callV (ci := 0) (As := [.int (jI y), .int (jI r)]) K (c_M_copy l G b0 h a cd T hy0 hr0 hy) ca_M_40 im_M_copy se_M_copy rfl (by decide) hm_0 rfl rfl (by decide) (Nat.le_of_ble_eq_true rfl) d_M_add_41 (fun o h1 hp => ?_)
      obtain ⟨T1, rfl, rfl, k1, k2⟩ := hp
      refine z_aload_n K d_M_add_44 rfl ?_
      refine zm_get K fd_M_16 rfl d_M_add_45 ?_
      refine z_iload_n K d_M_add_48 rfl ?_
      refine z_iload K d_M_add_49 rfl ?_
      refine zm_sst K (by omega) d_M_add_51 ?_
      refine z_goto (tgt := 118) K d_M_add_52 (by decide) ?_
      have hv0 : v = 0 := Int.sign_eq_zero_iff_zero.mp hc2
      subst hv0
      rw [Int.zero_add]
      refine z_vret K hr hlk d_M_add_118 ⟨_, rfl, rfl, ⟨n2, by omega, k1.1, k1.2.1, k1.2.2.1, k1.2.2.2.1, iu_self _ _ _, by rw [e2]; exact k1.2.2.2.2.2⟩, k2.1, fun q hq => ?_⟩
      have hq2 : q ≠ r := fun z => hq (by rw [z]; exact List.mem_cons_self)
      exact ⟨(k2.2 q hq).1, (iu_ne _ _ hq2).trans (k2.2 q hq).2.1, (k2.2 q hq).2.2⟩
  · refine z_aload_n K d_M_add_24 rfl ?_
    refine z_iload_n K d_M_add_25 rfl ?_
    refine z_iload_n K d_M_add_26 rfl ?_
    refine z_callV (ci := 0) (As := [.int (jI x), .int (jI r)]) K (c_M_copy l G b0 h a cd T hx0 hr0 hx) ca_M_40 im_M_copy se_M_copy rfl (by decide) hm_0 rfl rfl (by decide) (Nat.le_of_ble_eq_true rfl) d_M_add_27 (fun o h1 hp => ?_)
    obtain ⟨T1, rfl, rfl, k1, k2⟩ := hp
    refine z_goto (tgt := 118) K d_M_add_30 (by decide) ?_
    rw [Int.sign_eq_zero_iff_zero.mp hc, Int.add_zero]
    exact z_vret K hr hlk d_M_add_118 ⟨_, rfl, rfl, ⟨n1, by omega, k1⟩, k2⟩
end M5
end
section
theorem dv_add {f : Int → Int} {b : Int} {i : Nat} : ∀ j : Nat, dv f b (i + j) = dv f b i + BS ^ i * dv f (b + i) j
  | 0 => by simp [dv]
  | j + 1 => by
    show dv f b ((i + j) + 1) = _
    simp only [dv]
    rw [dv_add j, Int.pow_add, show b + ((i + j : Nat) : Int) = b + i + j by omega]
    grind
theorem dv_zero {f : Int → Int} {b : Int} : ∀ {n : Nat}, (∀ k : Nat, k < n → f (b + k) = 0) → dv f b n = 0
  | 0, _ => rfl
  | n + 1, h => by
    simp only [dv]
    rw [dv_zero (n := n) (fun k hk => h k (by omega)), h n (by omega)]
    omega
/-- a product of two cells -/
theorem mul_cell {x y : Int} (hx : 0 ≤ x ∧ x < 1000000000) (hy : 0 ≤ y ∧ y < 1000000000) : 0 ≤ x * y ∧ x * y ≤ 999999998000000001 := by
  refine ⟨Int.mul_nonneg hx.1 hy.1, ?_⟩
  have h1 : x * y ≤ 999999999 * y := Int.mul_le_mul_of_nonneg_right (by omega) hy.1
  omega
theorem tmod_pos {w b : Int} (h : 0 ≤ w) : w.tmod b = w % b := Int.tmod_eq_emod_of_nonneg h
theorem tdiv_pos {w b : Int} (h : 0 ≤ w) : w.tdiv b = w / b := Int.tdiv_eq_ediv_of_nonneg h
theorem mul_step {D P c w q m x y E F cy : Int} (hD : D + cy * P = E + x * F) (hw : w = c + x * y + cy) (hq : 1000000000 * q + m = w) : D + m * P + q * (P * 1000000000) = E + c * P + x * (F + y * P) := by grind
theorem mul_fin {A B D E X u P x cy Q : Int} (hA : A + P * E = X * u) (hD : D + cy * Q = E + x * u) : A + P * (D + cy * Q) = (X + x * P) * u := by
  rw [hD]
  grind
section M6
variable {p : Program} {l : Launch} {e : Env} {R : Room} {s : State} {m : MethodId} {args : Array Value} {below : List Frame} {meth : Method} {c : Code} {Q : State → Prop} {b0 kc ks : Nat} {G : zG} {h : zH} {a : Nat} {cd : Int}
set_option maxHeartbeats 4000000 in
set_option maxRecDepth 100000 in
theorem lp_M_mul0 (K : zC p s m args c b_M_multiply R_M 13 b0 G) (T : mT) {r x y : Int} {N : Nat} (hr0 : 0 ≤ r ∧ r < 56) (hN : N ≤ 459) (hx : ∀ C : Int → Int, (∀ q : Int, q < 460 * r ∨ 460 * r + N ≤ q → C q = T.1 q) → (∀ k : Nat, k < N → C (460 * r + k) = 0) → zW p l e R s m args below meth c 13 b0 G kc ks Q (hm G h a cd (C, T.2)) 45 [(0, .ref a), (1, .int (jI r)), (2, .int (jI x)), (3, .int (jI y)), (4, .int (jI N))] []) :
    ∀ (j i : Nat) (C : Int → Int), i + j = N → (∀ q : Int, q < 460 * r ∨ 460 * r + i ≤ q → C q = T.1 q) → (∀ k : Nat, k < i → C (460 * r + k) = 0) →
      zW p l e R s m args below meth c 13 b0 G kc ks Q (hm G h a cd (C, T.2)) 18 [(0, .ref a), (1, .int (jI r)), (2, .int (jI x)), (3, .int (jI y)), (4, .int (jI N)), (5, .int (jI i))] [] := by
  intro j
  induction j with
  | zero =>
    intro i C hi hC h0
    refine z_iload K d_M_multiply_18 rfl ?_
    refine z_iload K d_M_multiply_20 rfl ?_
    refine zi_icmp_ge (tgt := 45) K d_M_multiply_22 (by decide) (by omega) (by omega) (fun hc => ?_) (fun hc => absurd hc (by omega))
    have hiN : i = N := by omega
    subst hiN
    exact z_re [0, 1, 2, 3, 4] rfl (hx C hC h0)
  | succ j ih =>
    intro i C hi hC h0
    refine z_iload K d_M_multiply_18 rfl ?_
    refine z_iload K d_M_multiply_20 rfl ?_
    refine zi_icmp_ge (tgt := 45) K d_M_multiply_22 (by decide) (by omega) (by omega) (fun hc => absurd hc (by omega)) (fun hc => ?_)
    refine z_aload_n K d_M_multiply_25 rfl ?_
    refine zm_get K fd_M_9 rfl d_M_multiply_26 ?_
    refine z_sipush (v := jI 460) K d_M_multiply_29 rfl ?_
    refine z_iload_n K d_M_multiply_32 rfl ?_
    refine zi_imul K d_M_multiply_33 ?_
    refine z_iload K d_M_multiply_34 rfl ?_
    refine zi_iadd K d_M_multiply_36 ?_
    refine z_iconst (v := jI 0) K d_M_multiply_37 rfl ?_
    refine zm_cst K (by omega) d_M_multiply_38 ?_
    refine zi_iinc K d_M_multiply_39 rfl (by decide) ?_
    refine z_goto (tgt := 18) K d_M_multiply_42 (by decide) ?_
    refine z_re [0, 1, 2, 3, 4, 5] rfl ?_
    refine ih (i + 1) _ (by omega) (fun q hq => ?_) (fun k hk => ?_)
    · dsimp only
      rw [iu_ne _ _ (by omega)]; exact hC q (by omega)
    · dsimp only
      by_cases hki : k = i
      · subst hki; rw [iu_self]
      · rw [iu_ne _ _ (by omega)]; exact h0 k (by omega)
set_option maxHeartbeats 4000000 in
set_option maxRecDepth 100000 in
theorem lp_M_mul2 (K : zC p s m args c b_M_multiply R_M 13 b0 G) (T : mT) {r x y xv : Int} {n2 i N : Nat} (hr0 : 0 ≤ r ∧ r < 56) (hy0 : 0 ≤ y ∧ y < 56) (hry : r ≠ y) (hN : i + n2 < 460) (hy1 : T.2.1 y = n2) (hxv : 0 ≤ xv ∧ xv < 1000000000) (C0 : Int → Int) (hgy : dg C0 (460 * y) n2) (hg0 : dg C0 (460 * r + i) n2)
    (hx : ∀ (C : Int → Int) (cy : Int), 0 ≤ cy → cy < 1000000000 → (∀ q : Int, q < 460 * r + i ∨ 460 * r + i + n2 ≤ q → C q = C0 q) → dg C (460 * r + i) n2 → dv C (460 * r + i) n2 + cy * BS ^ n2 = dv C0 (460 * r + i) n2 + xv * dv C0 (460 * y) n2 → zW p l e R s m args below meth c 13 b0 G kc ks Q (hm G h a cd (C, T.2)) 169 [(0, .ref a), (1, .int (jI r)), (2, .int (jI x)), (3, .int (jI y)), (4, .int (jI N)), (5, .int (jI i)), (6, .long (kI cy))] []) :
    ∀ (j k : Nat) (C : Int → Int) (cy : Int), k + j = n2 → 0 ≤ cy → cy < 1000000000 → (∀ q : Int, q < 460 * r + i ∨ 460 * r + i + k ≤ q → C q = C0 q) → dg C (460 * r + i) k → dv C (460 * r + i) k + cy * BS ^ k = dv C0 (460 * r + i) k + xv * dv C0 (460 * y) k →
      zW p l e R s m args below meth c 13 b0 G kc ks Q (hm G h a cd (C, T.2)) 81 [(0, .ref a), (1, .int (jI r)), (2, .int (jI x)), (3, .int (jI y)), (4, .int (jI N)), (5, .int (jI i)), (6, .long (kI cy)), (8, .long (kI xv)), (10, .int (jI k))] [] := by
  intro j
  induction j with
  | zero =>
    intro k C cy hk hc0 hc1 hC hg hD
    refine z_iload K d_M_multiply_81 rfl ?_
    refine z_aload_n K d_M_multiply_83 rfl ?_
    refine zm_get K fd_M_13 rfl d_M_multiply_84 ?_
    refine z_iload_n K d_M_multiply_87 rfl ?_
    refine zm_zld K (by omega) d_M_multiply_88 ?_
    rw [hy1]
    refine zi_icmp_ge (tgt := 169) K d_M_multiply_89 (by decide) (by omega) (by omega) (fun hc => ?_) (fun hc => absurd hc (by omega))
    have hkn : k = n2 := by omega
    subst hkn
    exact z_re [0, 1, 2, 3, 4, 5, 6] rfl (hx C cy hc0 hc1 hC hg hD)
  | succ j ih =>
    intro k C cy hk hc0 hc1 hC hg hD
    have g1 := hg0 k (by omega)
    have g2 := hgy k (by omega)
    have e1 : C (460 * r + i + k) = C0 (460 * r + i + k) := hC _ (by omega)
    have e2 : C (460 * y + k) = C0 (460 * y + k) := hC _ (by omega)
    have g3 := mul_cell hxv g2
    refine z_iload K d_M_multiply_81 rfl ?_
    refine z_aload_n K d_M_multiply_83 rfl ?_
    refine zm_get K fd_M_13 rfl d_M_multiply_84 ?_
    refine z_iload_n K d_M_multiply_87 rfl ?_
    refine zm_zld K (by omega) d_M_multiply_88 ?_
    rw [hy1]
    refine zi_icmp_ge (tgt := 169) K d_M_multiply_89 (by decide) (by omega) (by omega) (fun hc => absurd hc (by omega)) (fun hc => ?_)
    refine z_aload_n K d_M_multiply_92 rfl ?_
    refine zm_get K fd_M_9 rfl d_M_multiply_93 ?_
    refine z_sipush (v := jI 460) K d_M_multiply_96 rfl ?_
    refine z_iload_n K d_M_multiply_99 rfl ?_
    refine zi_imul K d_M_multiply_100 ?_
    refine z_iload K d_M_multiply_101 rfl ?_
    refine zi_iadd K d_M_multiply_103 ?_
    refine z_iload K d_M_multiply_104 rfl ?_
    refine zi_iadd K d_M_multiply_106 ?_
    refine zm_cld K (by omega) d_M_multiply_107 ?_
    try dsimp only
    rw [e1]
    refine zi_i2l K d_M_multiply_108 (by omega) ?_
    refine z_lload K d_M_multiply_109 rfl ?_
    refine z_aload_n K d_M_multiply_111 rfl ?_
    refine zm_get K fd_M_9 rfl d_M_multiply_112 ?_
    refine z_sipush (v := jI 460) K d_M_multiply_115 rfl ?_
    refine z_iload_n K d_M_multiply_118 rfl ?_
    refine zi_imul K d_M_multiply_119 ?_
    refine z_iload K d_M_multiply_120 rfl ?_
    refine zi_iadd K d_M_multiply_122 ?_
    refine zm_cld K (by omega) d_M_multiply_123 ?_
    try dsimp only
    rw [e2]
    refine zi_i2l K d_M_multiply_124 (by omega) ?_
    refine zi_lmul K d_M_multiply_125 ?_
    refine zi_ladd K d_M_multiply_126 ?_
    refine z_lload K d_M_multiply_127 rfl ?_
    refine zi_ladd K d_M_multiply_129 ?_
    refine z_lstore K d_M_multiply_130 (by decide) ?_
    obtain ⟨w, hw⟩ : ∃ w : Int, w = C0 (460 * r + i + k) + xv * C0 (460 * y + k) + cy := ⟨_, rfl⟩
    rw [← hw]
    refine z_aload_n K d_M_multiply_132 rfl ?_
    refine zm_get K fd_M_9 rfl d_M_multiply_133 ?_
    refine z_sipush (v := jI 460) K d_M_multiply_136 rfl ?_
    refine z_iload_n K d_M_multiply_139 rfl ?_
    refine zi_imul K d_M_multiply_140 ?_
    refine z_iload K d_M_multiply_141 rfl ?_
    refine zi_iadd K d_M_multiply_143 ?_
    refine z_iload K d_M_multiply_144 rfl ?_
    refine zi_iadd K d_M_multiply_146 ?_
    refine z_lload K d_M_multiply_147 rfl ?_
    refine z_ldc2 (v := kI 1000000000) K d_M_multiply_149 kc_M_34 ?_
    refine zi_lrem K d_M_multiply_152 (by omega) (by omega) (by omega) ?_
    refine zi_l2i K d_M_multiply_153 ?_
    refine zm_cst K (by omega) d_M_multiply_154 ?_
    refine z_lload K d_M_multiply_155 rfl ?_
    refine z_ldc2 (v := kI 1000000000) K d_M_multiply_157 kc_M_34 ?_
    refine zi_ldiv K d_M_multiply_160 (by omega) (by omega) (by omega) ?_
    refine z_lstore K d_M_multiply_161 (by decide) ?_
    refine zi_iinc K d_M_multiply_163 rfl (by decide) ?_
    refine z_goto (tgt := 81) K d_M_multiply_166 (by decide) ?_
    rw [tmod_pos (by omega), tdiv_pos (by omega)]
    refine z_re [0, 1, 2, 3, 4, 5, 6, 8, 10] rfl ?_
    refine ih (k + 1) _ _ (by omega) (by omega) (by omega) (fun q hq => ?_) (fun q hq => ?_) ?_
    · dsimp only
      rw [iu_ne _ _ (by omega)]; exact hC q (by omega)
    · dsimp only
      by_cases hqk : q = k
      · subst hqk; rw [iu_self]; omega
      · rw [iu_ne _ _ (by omega)]; exact hg q (by omega)
    · simp only [dv]
      rw [iu_self, dv_iu (fun q hq => by omega), Int.pow_succ]
      exact mul_step hD hw (by omega)
set_option maxHeartbeats 4000000 in
set_option maxRecDepth 100000 in
theorem lp_M_mul1 (K : zC p s m args c b_M_multiply R_M 13 b0 G) (T : mT) {r x y : Int} {n1 n2 N : Nat} (hr0 : 0 ≤ r ∧ r < 56) (hx0 : 0 ≤ x ∧ x < 56) (hy0 : 0 ≤ y ∧ y < 56) (hrx : r ≠ x) (hry : r ≠ y) (hN : N = n1 + n2) (hN2 : N ≤ 459) (hx1 : T.2.1 x = n1) (hy1 : T.2.1 y = n2) (hgx : dg T.1 (460 * x) n1) (hgy : dg T.1 (460 * y) n2)
    (hx : ∀ C : Int → Int, (∀ q : Int, q < 460 * r ∨ 460 * r + 460 ≤ q → C q = T.1 q) → dg C (460 * r) N → dv C (460 * r) N = dv T.1 (460 * x) n1 * dv T.1 (460 * y) n2 → zW p l e R s m args below meth c 13 b0 G kc ks Q (hm G h a cd (C, T.2)) 198 [(0, .ref a), (1, .int (jI r)), (2, .int (jI x)), (3, .int (jI y)), (4, .int (jI N))] []) :
    ∀ (j i : Nat) (C : Int → Int), i + j = n1 → (∀ q : Int, q < 460 * r ∨ 460 * r + 460 ≤ q → C q = T.1 q) → dg C (460 * r) (i + n2) → (∀ k : Nat, i + n2 ≤ k → k < N → C (460 * r + k) = 0) → dv C (460 * r) (i + n2) = dv T.1 (460 * x) i * dv T.1 (460 * y) n2 →
      zW p l e R s m args below meth c 13 b0 G kc ks Q (hm G h a cd (C, T.2)) 48 [(0, .ref a), (1, .int (jI r)), (2, .int (jI x)), (3, .int (jI y)), (4, .int (jI N)), (5, .int (jI i))] [] := by
  intro j
  induction j with
  | zero =>
    intro i C hi hC hg h0 hD
    refine z_iload K d_M_multiply_48 rfl ?_
    refine z_aload_n K d_M_multiply_50 rfl ?_
    refine zm_get K fd_M_13 rfl d_M_multiply_51 ?_
    refine z_iload_n K d_M_multiply_54 rfl ?_
    refine zm_zld K (by omega) d_M_multiply_55 ?_
    rw [hx1]
    refine zi_icmp_ge (tgt := 198) K d_M_multiply_56 (by decide) (by omega) (by omega) (fun hc => ?_) (fun hc => absurd hc (by omega))
    have hin : i = n1 := by omega
    subst hin
    subst hN
    exact z_re [0, 1, 2, 3, 4] rfl (hx C hC hg hD)
  | succ j ih =>
    intro i C hi hC hg h0 hD
    have g1 := hgx i (by omega)
    have e1 : C (460 * x + i) = T.1 (460 * x + i) := hC _ (by omega)
    refine z_iload K d_M_multiply_48 rfl ?_
    refine z_aload_n K d_M_multiply_50 rfl ?_
    refine zm_get K fd_M_13 rfl d_M_multiply_51 ?_
    refine z_iload_n K d_M_multiply_54 rfl ?_
    refine zm_zld K (by omega) d_M_multiply_55 ?_
    rw [hx1]
    refine zi_icmp_ge (tgt := 198) K d_M_multiply_56 (by decide) (by omega) (by omega) (fun hc => absurd hc (by omega)) (fun hc => ?_)
    refine z_lconst (v := kI 0) K d_M_multiply_59 rfl ?_
    refine z_lstore K d_M_multiply_60 (by decide) ?_
    refine z_aload_n K d_M_multiply_62 rfl ?_
    refine zm_get K fd_M_9 rfl d_M_multiply_63 ?_
    refine z_sipush (v := jI 460) K d_M_multiply_66 rfl ?_
    refine z_iload_n K d_M_multiply_69 rfl ?_
    refine zi_imul K d_M_multiply_70 ?_
    refine z_iload K d_M_multiply_71 rfl ?_
    refine zi_iadd K d_M_multiply_73 ?_
    refine zm_cld K (by omega) d_M_multiply_74 ?_
    try dsimp only
    rw [e1]
    refine zi_i2l K d_M_multiply_75 (by omega) ?_
    refine z_lstore K d_M_multiply_76 (by decide) ?_
    refine z_iconst (v := jI 0) K d_M_multiply_78 rfl ?_
    refine z_istore K d_M_multiply_79 (by decide) ?_
    refine z_re [0, 1, 2, 3, 4, 5, 6, 8, 10] rfl ?_
    have ey : dv C (460 * y) n2 = dv T.1 (460 * y) n2 := dv_congr (fun k hk => hC _ (by omega))
    refine lp_M_mul2 K T hr0 hy0 hry (by omega) hy1 g1 C (fun k hk => by rw [hC _ (by omega)]; exact hgy k hk) (fun k hk => by rw [show 460 * r + (i : Int) + k = 460 * r + ((i + k : Nat) : Int) by omega]; exact hg (i + k) (by omega)) (fun C1 cy hc0 hc1 hC1 hg1 hD1 => ?_) n2 0 C 0 (by omega) (by omega) (by omega) (fun q _ => rfl) (fun k hk => absurd hk (by omega)) (by simp [dv])
    refine z_aload_n K d_M_multiply_169 rfl ?_
    refine zm_get K fd_M_9 rfl d_M_multiply_170 ?_
    refine z_sipush (v := jI 460) K d_M_multiply_173 rfl ?_
    refine z_iload_n K d_M_multiply_176 rfl ?_
    refine zi_imul K d_M_multiply_177 ?_
    refine z_iload K d_M_multiply_178 rfl ?_
    refine zi_iadd K d_M_multiply_180 ?_
    refine z_aload_n K d_M_multiply_181 rfl ?_
    refine zm_get K fd_M_13 rfl d_M_multiply_182 ?_
    refine z_iload_n K d_M_multiply_185 rfl ?_
    refine zm_zld K (by omega) d_M_multiply_186 ?_
    rw [hy1]
    refine zi_iadd K d_M_multiply_187 ?_
    refine z_lload K d_M_multiply_188 rfl ?_
    refine zi_l2i K d_M_multiply_190 ?_
    refine zm_cst K (by omega) d_M_multiply_191 ?_
    refine zi_iinc K d_M_multiply_192 rfl (by decide) ?_
    refine z_goto (tgt := 48) K d_M_multiply_195 (by decide) ?_
    refine z_re [0, 1, 2, 3, 4, 5] rfl ?_
    refine ih (i + 1) _ (by omega) (fun q hq => ?_) (fun k hk => ?_) (fun k g2 g3 => ?_) ?_
    · dsimp only
      rw [iu_ne _ _ (by omega), hC1 _ (by omega)]; exact hC q (by omega)
    · dsimp only
      by_cases hk1 : k = i + n2
      · subst hk1; rw [show 460 * r + ((i + n2 : Nat) : Int) = 460 * r + i + n2 by omega, iu_self]; omega
      · rw [iu_ne _ _ (by omega)]
        by_cases hk2 : k < i
        · rw [hC1 _ (by omega)]; exact hg k (by omega)
        · have := hg1 (k - i) (by omega)
          rwa [show 460 * r + (i : Int) + ((k - i : Nat) : Int) = 460 * r + k by omega] at this
    · dsimp only
      rw [iu_ne _ _ (by omega), hC1 _ (by omega)]; exact h0 k (by omega) g3
    · rw [show i + 1 + n2 = (i + n2) + 1 by omega]
      simp only [dv]
      rw [show 460 * r + ((i + n2 : Nat) : Int) = 460 * r + i + n2 by omega, iu_self, dv_iu (fun q hq => by omega), dv_add, dv_congr (g := C) (c := 460 * r) (n := i) (fun k hk => hC1 _ (by omega)), Int.pow_add]
      rw [dv_add] at hD
      rw [ey] at hD1
      have := mul_fin (x := T.1 (460 * x + i)) hD hD1 (B := 0)
      rw [← this]
      grind
set_option maxHeartbeats 4000000 in
set_option maxRecDepth 100000 in
/-- multiply(r, x, y): the register r holds v w; r is none of x and y -/
theorem c_M_multiply (l : Launch) (G : zG) (b0 : Nat) (h : zH) (a : Nat) (cd : Int) (T : mT) {r x y v w : Int} {n1 n2 : Nat} (hr0 : 0 ≤ r ∧ r < 56) (hx0 : 0 ≤ x ∧ x < 56) (hy0 : 0 ≤ y ∧ y < 56) (hrx : r ≠ x) (hry : r ≠ y) (hx : Rg T x n1 v) (hy : Rg T y n2 w) (hN : n1 + n2 ≤ 459) :
    mMet l G b0 y_M_multiply b_M_multiply 13 none 1 23 h a cd [.int (jI r), .int (jI x), .int (jI y)] T (fun o T' => o = none ∧ (∃ N : Nat, N ≤ n1 + n2 ∧ Rg T' r N (v * w)) ∧ Fr [r] T T') :=
  z_met (by decide) (Nat.le_of_ble_eq_true rfl) fun p e s m below meth c K hr hlk hnm => by
  have hx1 := hx.1
  have hy1 := hy.1
  refine z_aload_n K d_M_multiply_0 rfl ?_
  refine zm_get K fd_M_13 rfl d_M_multiply_1 ?_
  refine z_iload_n K d_M_multiply_4 rfl ?_
  refine zm_zld K (by omega) d_M_multiply_5 ?_
  refine z_aload_n K d_M_multiply_6 rfl ?_
  refine zm_get K fd_M_13 rfl d_M_multiply_7 ?_
  refine z_iload_n K d_M_multiply_10 rfl ?_
  refine zm_zld K (by omega) d_M_multiply_11 ?_
  refine zi_iadd K d_M_multiply_12 ?_
  refine z_istore K d_M_multiply_13 (by decide) ?_
  refine z_iconst (v := jI 0) K d_M_multiply_15 rfl ?_
  refine z_istore K d_M_multiply_16 (by decide) ?_
  rw [hx1, hy1, show (n1 : Int) + n2 = ((n1 + n2 : Nat) : Int) by omega]
  refine z_re [0, 1, 2, 3, 4, 5] rfl ?_
  refine lp_M_mul0 K T hr0 hN (fun C hC h0 => ?_) (n1 + n2) 0 T.1 (by omega) (fun q _ => rfl) (fun k hk => absurd hk (by omega))
  refine z_iconst (v := jI 0) K d_M_multiply_45 rfl ?_
  refine z_istore K d_M_multiply_46 (by decide) ?_
  refine z_re [0, 1, 2, 3, 4, 5] rfl ?_
  refine lp_M_mul1 K T hr0 hx0 hy0 hrx hry rfl hN hx1 hy1 hx.2.2.1 hy.2.2.1 (fun C1 hC1 hg1 hD1 => ?_) n1 0 C (by omega) (fun q hq => hC q (by omega)) (fun k hk => by rw [h0 k (by omega)]; omega) (fun k _ hk => h0 k hk) (by simp only [dv]; rw [dv_zero (fun k hk => h0 k (by omega))]; omega)
  refine z_aload_n K d_M_multiply_198 rfl ?_
  refine zm_get K fd_M_16 rfl d_M_multiply_199 ?_
  refine z_iload_n K d_M_multiply_202 rfl ?_
  refine z_aload_n K d_M_multiply_203 rfl ?_
  refine zm_get K fd_M_16 rfl d_M_multiply_204 ?_
  refine z_iload_n K d_M_multiply_207 rfl ?_
  refine zm_sld K (by omega) d_M_multiply_208 ?_
  refine z_aload_n K d_M_multiply_209 rfl ?_
  refine zm_get K fd_M_16 rfl d_M_multiply_210 ?_
  refine z_iload_n K d_M_multiply_213 rfl ?_
  refine zm_sld K (by omega) d_M_multiply_214 ?_
  refine zi_imul K d_M_multiply_215 ?_
  refine zm_sst K (by omega) d_M_multiply_216 ?_
  refine z_aload_n K d_M_multiply_217 rfl ?_
  refine z_iload_n K d_M_multiply_218 rfl ?_
  refine z_iload K d_M_multiply_219 rfl ?_
  dsimp only
  rw [hx.2.2.2.2.1, hy.2.2.2.2.1]
  refine z_callV (ci := 0) (As := [.int (jI r), .int (jI (n1 + n2 : Nat))]) K (c_M_trim l G b0 h a cd (C1, T.2.1, iu T.2.2.1 r (v.sign * w.sign), T.2.2.2) hr0 hN hg1) ca_M_53 im_M_trim se_M_trim rfl (by decide) hm_0 rfl rfl (by decide) (Nat.le_of_ble_eq_true rfl) d_M_multiply_221 (fun o h1 hp => ?_)
  obtain ⟨T1, rfl, rfl, N, k1, k2, k3, rfl⟩ := hp
  dsimp only at k2 k3 ⊢
  rw [iu_iu, iu_self]
  have hval : ((v * w).natAbs : Int) = dv C1 (460 * r) N := by
    rw [k3, hD1, ← hx.2.2.2.2.2, ← hy.2.2.2.2.2, Int.natAbs_mul]; rfl
  refine z_vret K hr hlk d_M_multiply_224 ⟨_, rfl, rfl, ⟨N, k1, Rg.mk (T := T) (by omega) (fun k hk => hg1 k (by omega)) k2 ?_ hval⟩, Fr.of1 rfl (Or.inl rfl) hC1⟩
  by_cases hN0 : N = 0
  · subst hN0
    rw [if_pos rfl]
    simp only [dv] at hval
    rw [show v * w = 0 by omega]; rfl
  · rw [if_neg hN0, Int.sign_mul]
end M6
end
section
theorem ts_step {D P c w q m v E cy : Int} (hD : D + cy * P = E * v) (hw : w = c * v + cy) (hq : 1000000000 * q + m = w) : D + m * P + q * (P * 1000000000) = (E + c * P) * v := by grind
theorem ts_bd {c v cy : Int} (hc : 0 ≤ c ∧ c < 1000000000) (hv : 0 < v ∧ v ≤ 1000000000) (hcy : 0 ≤ cy ∧ cy < v) : 0 ≤ c * v + cy ∧ c * v + cy < 1000000000 * v := by
  have h1 : c * v ≤ 999999999 * v := Int.mul_le_mul_of_nonneg_right (by omega) (by omega)
  have h2 := Int.mul_nonneg hc.1 (show 0 ≤ v by omega)
  omega
theorem bs_bd {c v rs : Int} (hc : 0 ≤ c ∧ c < 1000000000) (hrs : 0 ≤ rs ∧ rs < v) : 0 ≤ rs * 1000000000 + c ∧ rs * 1000000000 + c < 1000000000 * v := by omega
theorem iu_same (f : Int → Int) (k : Int) : iu f k (f k) = f := by
  funext j
  simp only [iu]
  by_cases hj : j = k
  · rw [if_pos hj, hj]
  · rw [if_neg hj]
theorem dv_lo {f : Int → Int} {b : Int} (n : Nat) : dv f b (n + 1) = f b + 1000000000 * dv f (b + 1) n := by
  rw [show n + 1 = 1 + n by omega, dv_add, show BS ^ 1 = 1000000000 by decide]
  simp [dv]
/-- one step of a division by a small number, from the top -/
theorem bs_step {H rs c v w : Int} (hv : 0 < v) (hrs : rs = H % v) (hw : w = rs * 1000000000 + c) (hc : 0 ≤ c ∧ c < 1000000000) : (c + 1000000000 * H) / v = w / v + 1000000000 * (H / v) ∧ (c + 1000000000 * H) % v = w % v := by
  have h1 := Int.mul_ediv_add_emod H v
  have e : c + 1000000000 * H = w + v * (1000000000 * (H / v)) := by
    rw [hw, hrs]
    grind
  rw [e, Int.add_mul_ediv_left _ _ (by omega), Int.add_mul_emod_self_left]
  exact ⟨rfl, rfl⟩
section M7
variable {p : Program} {l : Launch} {e : Env} {R : Room} {s : State} {m : MethodId} {args : Array Value} {below : List Frame} {meth : Method} {c : Code} {Q : State → Prop} {b0 kc ks : Nat} {G : zG} {h : zH} {a : Nat} {cd : Int}
set_option maxHeartbeats 4000000 in
set_option maxRecDepth 100000 in
theorem lp_M_timesSmall (K : zC p s m args c b_M_timesSmall R_M 9 b0 G) (T : mT) {r v : Int} {n : Nat} (hr0 : 0 ≤ r ∧ r < 56) (hv : 0 < v ∧ v ≤ 1000000000) (hn : n ≤ 458) (hr1 : T.2.1 r = n) (hg0 : dg T.1 (460 * r) n)
    (hx : ∀ (C : Int → Int) (cy : Int), 0 ≤ cy → cy < v → (∀ q : Int, q < 460 * r ∨ 460 * r + n ≤ q → C q = T.1 q) → dg C (460 * r) n → dv C (460 * r) n + cy * BS ^ n = dv T.1 (460 * r) n * v → zW p l e R s m args below meth c 9 b0 G kc ks Q (hm G h a cd (C, T.2)) 72 [(0, .ref a), (1, .int (jI r)), (4, .long (kI cy))] []) :
    ∀ (j i : Nat) (C : Int → Int) (cy : Int), i + j = n → 0 ≤ cy → cy < v → (∀ q : Int, q < 460 * r ∨ 460 * r + i ≤ q → C q = T.1 q) → dg C (460 * r) i → dv C (460 * r) i + cy * BS ^ i = dv T.1 (460 * r) i * v →
      zW p l e R s m args below meth c 9 b0 G kc ks Q (hm G h a cd (C, T.2)) 6 [(0, .ref a), (1, .int (jI r)), (2, .long (kI v)), (4, .long (kI cy)), (6, .int (jI i))] [] := by
  intro j
  induction j with
  | zero =>
    intro i C cy hi hc0 hc1 hC hg hD
    refine z_iload K d_M_timesSmall_6 rfl ?_
    refine z_aload_n K d_M_timesSmall_8 rfl ?_
    refine zm_get K fd_M_13 rfl d_M_timesSmall_9 ?_
    refine z_iload_n K d_M_timesSmall_12 rfl ?_
    refine zm_zld K (by omega) d_M_timesSmall_13 ?_
    rw [hr1]
    refine zi_icmp_ge (tgt := 72) K d_M_timesSmall_14 (by decide) (by omega) (by omega) (fun hc => ?_) (fun hc => absurd hc (by omega))
    have hin : i = n := by omega
    subst hin
    exact z_re [0, 1, 4] rfl (hx C cy hc0 hc1 hC hg hD)
  | succ j ih =>
    intro i C cy hi hc0 hc1 hC hg hD
    have g1 := hg0 i (by omega)
    have e1 : C (460 * r + i) = T.1 (460 * r + i) := hC _ (by omega)
    have g2 := ts_bd g1 hv ⟨hc0, hc1⟩
    refine z_iload K d_M_timesSmall_6 rfl ?_
    refine z_aload_n K d_M_timesSmall_8 rfl ?_
    refine zm_get K fd_M_13 rfl d_M_timesSmall_9 ?_
    refine z_iload_n K d_M_timesSmall_12 rfl ?_
    refine zm_zld K (by omega) d_M_timesSmall_13 ?_
    rw [hr1]
    refine zi_icmp_ge (tgt := 72) K d_M_timesSmall_14 (by decide) (by omega) (by omega) (fun hc => absurd hc (by omega)) (fun hc => ?_)
    refine z_aload_n K d_M_timesSmall_17 rfl ?_
    refine zm_get K fd_M_9 rfl d_M_timesSmall_18 ?_
    refine z_sipush (v := jI 460) K d_M_timesSmall_21 rfl ?_
    refine z_iload_n K d_M_timesSmall_24 rfl ?_
    refine zi_imul K d_M_timesSmall_25 ?_
    refine z_iload K d_M_timesSmall_26 rfl ?_
    refine zi_iadd K d_M_timesSmall_28 ?_
    refine zm_cld K (by omega) d_M_timesSmall_29 ?_
    try dsimp only
    rw [e1]
    refine zi_i2l K d_M_timesSmall_30 (by omega) ?_
    refine z_lload_n K d_M_timesSmall_31 rfl ?_
    refine zi_lmul K d_M_timesSmall_32 ?_
    refine z_lload K d_M_timesSmall_33 rfl ?_
    refine zi_ladd K d_M_timesSmall_35 ?_
    obtain ⟨w, hw⟩ : ∃ w : Int, w = T.1 (460 * r + i) * v + cy := ⟨_, rfl⟩
    rw [← hw]
    rw [← hw] at g2
    refine z_lstore K d_M_timesSmall_36 (by decide) ?_
    refine z_aload_n K d_M_timesSmall_38 rfl ?_
    refine zm_get K fd_M_9 rfl d_M_timesSmall_39 ?_
    refine z_sipush (v := jI 460) K d_M_timesSmall_42 rfl ?_
    refine z_iload_n K d_M_timesSmall_45 rfl ?_
    refine zi_imul K d_M_timesSmall_46 ?_
    refine z_iload K d_M_timesSmall_47 rfl ?_
    refine zi_iadd K d_M_timesSmall_49 ?_
    refine z_lload K d_M_timesSmall_50 rfl ?_
    refine z_ldc2 (v := kI 1000000000) K d_M_timesSmall_52 kc_M_34 ?_
    refine zi_lrem K d_M_timesSmall_55 (by omega) (by omega) (by omega) ?_
    refine zi_l2i K d_M_timesSmall_56 ?_
    refine zm_cst K (by omega) d_M_timesSmall_57 ?_
    refine z_lload K d_M_timesSmall_58 rfl ?_
    refine z_ldc2 (v := kI 1000000000) K d_M_timesSmall_60 kc_M_34 ?_
    refine zi_ldiv K d_M_timesSmall_63 (by omega) (by omega) (by omega) ?_
    refine z_lstore K d_M_timesSmall_64 (by decide) ?_
    refine zi_iinc K d_M_timesSmall_66 rfl (by decide) ?_
    refine z_goto (tgt := 6) K d_M_timesSmall_69 (by decide) ?_
    rw [tmod_pos (by omega), tdiv_pos (by omega)]
    refine z_re [0, 1, 2, 4, 6] rfl ?_
    refine ih (i + 1) _ _ (by omega) (by omega) (by omega) (fun q hq => ?_) (fun q hq => ?_) ?_
    · dsimp only
      rw [iu_ne _ _ (by omega)]; exact hC q (by omega)
    · dsimp only
      by_cases hqk : q = i
      · subst hqk; rw [iu_self]; omega
      · rw [iu_ne _ _ (by omega)]; exact hg q (by omega)
    · simp only [dv]
      rw [iu_self, dv_iu (fun q hq => by omega), Int.pow_succ]
      exact ts_step hD hw (by omega)
set_option maxHeartbeats 4000000 in
set_option maxRecDepth 100000 in
/-- timesSmall(r, v): the cells of r, times v -/
theorem c_M_timesSmall (l : Launch) (G : zG) (b0 : Nat) (h : zH) (a : Nat) (cd : Int) (T : mT) {r v u : Int} {n : Nat} (hr0 : 0 ≤ r ∧ r < 56) (hv : 0 < v ∧ v ≤ 1000000000) (hn : n ≤ 458) (hx : Mg T r n u) :
    mMet l G b0 y_M_timesSmall b_M_timesSmall 9 none 0 0 h a cd [.int (jI r), .long (kI v)] T (fun o T' => o = none ∧ ∃ (N : Nat) (C : Int → Int), T' = (C, iu T.2.1 r N, T.2.2) ∧ n ≤ N ∧ N ≤ n + 1 ∧ (N = n + 1 → C (460 * r + n) ≠ 0) ∧ dg C (460 * r) N ∧ dv C (460 * r) N = u * v ∧ ∀ q : Int, q < 460 * r ∨ 460 * r + 460 ≤ q → C q = T.1 q) :=
  z_met (by decide) (Nat.le_of_ble_eq_true rfl) fun p e s m below meth c K hr hlk hnm => by
  obtain ⟨hx1, hx2, hx3, hx4⟩ := hx
  refine z_lconst (v := kI 0) K d_M_timesSmall_0 rfl ?_
  refine z_lstore K d_M_timesSmall_1 (by decide) ?_
  refine z_iconst (v := jI 0) K d_M_timesSmall_3 rfl ?_
  refine z_istore K d_M_timesSmall_4 (by decide) ?_
  refine z_re [0, 1, 2, 4, 6] rfl ?_
  refine lp_M_timesSmall K T hr0 hv hn hx1 hx3 (fun C cy hc0 hc1 hC hg hD => ?_) n 0 T.1 0 (by omega) (by omega) (by omega) (fun q _ => rfl) (fun k hk => absurd hk (by omega)) (by simp [dv])
  rw [hx4] at hD
  refine z_lload K d_M_timesSmall_72 rfl ?_
  refine z_lconst (v := kI 0) K d_M_timesSmall_74 rfl ?_
  refine zi_lc_le (tgt := 109) K d_M_timesSmall_75 d_M_timesSmall_76 (by decide) (by omega) (by omega) (fun hc => ?_) (fun hc => ?_)
  · have hc2 : cy = 0 := by omega
    subst hc2
    refine z_vret K hr hlk d_M_timesSmall_109 ⟨_, rfl, rfl, n, C, by rw [← hx1, iu_same], Nat.le_refl _, by omega, fun q => absurd q (by omega), hg, by omega, fun q hq => hC q (by omega)⟩
  · refine z_aload_n K d_M_timesSmall_79 rfl ?_
    refine zm_get K fd_M_9 rfl d_M_timesSmall_80 ?_
    refine z_sipush (v := jI 460) K d_M_timesSmall_83 rfl ?_
    refine z_iload_n K d_M_timesSmall_86 rfl ?_
    refine zi_imul K d_M_timesSmall_87 ?_
    refine z_aload_n K d_M_timesSmall_88 rfl ?_
    refine zm_get K fd_M_13 rfl d_M_timesSmall_89 ?_
    refine z_iload_n K d_M_timesSmall_92 rfl ?_
    refine zm_zld K (by omega) d_M_timesSmall_93 ?_
    refine zi_iadd K d_M_timesSmall_94 ?_
    refine z_lload K d_M_timesSmall_95 rfl ?_
    refine zi_l2i K d_M_timesSmall_97 ?_
    try dsimp only
    rw [hx1]
    refine zm_cst K (by omega) d_M_timesSmall_98 ?_
    refine z_aload_n K d_M_timesSmall_99 rfl ?_
    refine zm_get K fd_M_13 rfl d_M_timesSmall_100 ?_
    refine z_iload_n K d_M_timesSmall_103 rfl ?_
    refine z_dup2_11 K d_M_timesSmall_104 rfl rfl ?_
    refine zm_zld K (by omega) d_M_timesSmall_105 ?_
    refine z_iconst (v := jI 1) K d_M_timesSmall_106 rfl ?_
    refine zi_iadd K d_M_timesSmall_107 ?_
    refine zm_zst K (by omega) d_M_timesSmall_108 ?_
    try dsimp only
    rw [hx1]
    refine z_vret K hr hlk d_M_timesSmall_109 ⟨_, rfl, rfl, n + 1, iu C (460 * r + n) cy, ?_, by omega, Nat.le_refl _, fun _ => by rw [iu_self]; omega, fun q hq => ?_, ?_, fun q hq => ?_⟩
    · rw [show ((n + 1 : Nat) : Int) = n + 1 by omega]
    · by_cases hqk : q = n
      · subst hqk; rw [iu_self]; omega
      · rw [iu_ne _ _ (by omega)]; exact hg q (by omega)
    · simp only [dv]
      rw [iu_self, dv_iu (fun q hq => by omega)]; omega
    · rw [iu_ne _ _ (by omega)]; exact hC q (by omega)
set_option maxHeartbeats 4000000 in
set_option maxRecDepth 100000 in
theorem lp_M_bySmall (K : zC p s m args c b_M_bySmall R_M 8 b0 G) (T : mT) {r v : Int} {n : Nat} (hr0 : 0 ≤ r ∧ r < 56) (hv : 0 < v ∧ v ≤ 1000000000) (hn : n ≤ 459) (hg0 : dg T.1 (460 * r) n)
    (hx : ∀ C : Int → Int, (∀ q : Int, q < 460 * r ∨ 460 * r + n ≤ q → C q = T.1 q) → dg C (460 * r) n → dv C (460 * r) n = dv T.1 (460 * r) n / v → zW p l e R s m args below meth c 8 b0 G kc ks Q (hm G h a cd (C, T.2)) 70 [(0, .ref a), (1, .int (jI r))] []) :
    ∀ (i : Nat) (C : Int → Int) (rs : Int), i ≤ n → (∀ q : Int, q < 460 * r + i ∨ 460 * r + n ≤ q → C q = T.1 q) → dg C (460 * r + i) (n - i) → dv C (460 * r + i) (n - i) = dv T.1 (460 * r + i) (n - i) / v → rs = dv T.1 (460 * r + i) (n - i) % v →
      zW p l e R s m args below meth c 8 b0 G kc ks Q (hm G h a cd (C, T.2)) 12 [(0, .ref a), (1, .int (jI r)), (2, .int (jI v)), (3, .long (kI rs)), (5, .int (jI (i - 1)))] [] := by
  intro i
  induction i with
  | zero =>
    intro C rs hi hC hg hD hR
    refine z_iload K d_M_bySmall_12 rfl ?_
    refine zi_if_lt (tgt := 70) K d_M_bySmall_14 (by decide) (by omega) (fun hc => ?_) (fun hc => absurd hc (by omega))
    simp only [Int.natCast_zero, Int.add_zero, Nat.sub_zero] at hC hg hD
    exact z_re [0, 1] rfl (hx C hC hg hD)
  | succ i ih =>
    intro C rs hi hC hg hD hR
    have g1 := hg0 i (by omega)
    have e1 : C (460 * r + i) = T.1 (460 * r + i) := hC _ (by omega)
    have r0 := Int.emod_nonneg (dv T.1 (460 * r + ((i + 1 : Nat) : Int)) (n - (i + 1))) (show v ≠ 0 by omega)
    have r1 := Int.emod_lt_of_pos (dv T.1 (460 * r + ((i + 1 : Nat) : Int)) (n - (i + 1))) hv.1
    rw [← hR] at r0 r1
    have g2 := bs_bd g1 ⟨r0, r1⟩
    rw [show ((i + 1 : Nat) : Int) - 1 = i by omega]
    refine z_iload K d_M_bySmall_12 rfl ?_
    refine zi_if_lt (tgt := 70) K d_M_bySmall_14 (by decide) (by omega) (fun hc => absurd hc (by omega)) (fun hc => ?_)
    refine z_lload_n K d_M_bySmall_17 rfl ?_
    refine z_ldc2 (v := kI 1000000000) K d_M_bySmall_18 kc_M_34 ?_
    refine zi_lmul K d_M_bySmall_21 ?_
    refine z_aload_n K d_M_bySmall_22 rfl ?_
    refine zm_get K fd_M_9 rfl d_M_bySmall_23 ?_
    refine z_sipush (v := jI 460) K d_M_bySmall_26 rfl ?_
    refine z_iload_n K d_M_bySmall_29 rfl ?_
    refine zi_imul K d_M_bySmall_30 ?_
    refine z_iload K d_M_bySmall_31 rfl ?_
    refine zi_iadd K d_M_bySmall_33 ?_
    refine zm_cld K (by omega) d_M_bySmall_34 ?_
    try dsimp only
    rw [e1]
    refine zi_i2l K d_M_bySmall_35 (by omega) ?_
    refine zi_ladd K d_M_bySmall_36 ?_
    obtain ⟨w, hw⟩ : ∃ w : Int, w = rs * 1000000000 + T.1 (460 * r + i) := ⟨_, rfl⟩
    rw [← hw]
    rw [← hw] at g2
    refine z_lstore K d_M_bySmall_37 (by decide) ?_
    refine z_aload_n K d_M_bySmall_39 rfl ?_
    refine zm_get K fd_M_9 rfl d_M_bySmall_40 ?_
    refine z_sipush (v := jI 460) K d_M_bySmall_43 rfl ?_
    refine z_iload_n K d_M_bySmall_46 rfl ?_
    refine zi_imul K d_M_bySmall_47 ?_
    refine z_iload K d_M_bySmall_48 rfl ?_
    refine zi_iadd K d_M_bySmall_50 ?_
    refine z_lload K d_M_bySmall_51 rfl ?_
    refine z_iload_n K d_M_bySmall_53 rfl ?_
    refine zi_i2l K d_M_bySmall_54 (by omega) ?_
    refine zi_ldiv K d_M_bySmall_55 (by omega) (by omega) (by omega) ?_
    refine zi_l2i K d_M_bySmall_56 ?_
    refine zm_cst K (by omega) d_M_bySmall_57 ?_
    refine z_lload K d_M_bySmall_58 rfl ?_
    refine z_iload_n K d_M_bySmall_60 rfl ?_
    refine zi_i2l K d_M_bySmall_61 (by omega) ?_
    refine zi_lrem K d_M_bySmall_62 (by omega) (by omega) (by omega) ?_
    refine z_lstore_n K d_M_bySmall_63 (by decide) ?_
    refine zi_iinc K d_M_bySmall_64 rfl (by decide) ?_
    refine z_goto (tgt := 12) K d_M_bySmall_67 (by decide) ?_
    rw [tmod_pos (by omega), tdiv_pos (by omega)]
    refine z_re [0, 1, 2, 3, 5] rfl ?_
    obtain ⟨s1, s2⟩ := bs_step hv.1 hR hw g1
    have q0 : 0 ≤ w / v := Int.ediv_nonneg g2.1 (by omega)
    have q1 : w / v < 1000000000 := Int.ediv_lt_of_lt_mul hv.1 g2.2
    have eT : dv T.1 (460 * r + i) (n - i) = T.1 (460 * r + i) + 1000000000 * dv T.1 (460 * r + ((i + 1 : Nat) : Int)) (n - (i + 1)) := by
      rw [show n - i = (n - (i + 1)) + 1 by omega, dv_lo, show 460 * r + (i : Int) + 1 = 460 * r + ((i + 1 : Nat) : Int) by omega]
    refine ih _ _ (by omega) (fun q hq => ?_) (fun k hk => ?_) ?_ (by rw [eT, s2])
    · dsimp only
      rw [iu_ne _ _ (by omega)]; exact hC q (by omega)
    · dsimp only
      by_cases hk0 : k = 0
      · subst hk0; rw [show 460 * r + (i : Int) + ((0 : Nat) : Int) = 460 * r + i by omega, iu_self]; exact ⟨q0, q1⟩
      · rw [iu_ne _ _ (by omega)]
        have := hg (k - 1) (by omega)
        rwa [show 460 * r + ((i + 1 : Nat) : Int) + ((k - 1 : Nat) : Int) = 460 * r + i + k by omega] at this
    · dsimp only
      rw [eT, s1, show n - i = (n - (i + 1)) + 1 by omega, dv_lo, iu_self, dv_iu (fun q hq => by omega), show 460 * r + (i : Int) + 1 = 460 * r + ((i + 1 : Nat) : Int) by omega, hD]
set_option maxHeartbeats 4000000 in
set_option maxRecDepth 100000 in
/-- bySmall(r, v): the cells of r, by v; what is left over is dropped -/
theorem c_M_bySmall (l : Launch) (G : zG) (b0 : Nat) (h : zH) (a : Nat) (cd : Int) (T : mT) {r v u : Int} {n : Nat} (hr0 : 0 ≤ r ∧ r < 56) (hv : 0 < v ∧ v ≤ 1000000000) (hx : Mg T r n u) :
    mMet l G b0 y_M_bySmall b_M_bySmall 8 none 1 23 h a cd [.int (jI r), .int (jI v)] T (fun o T' => o = none ∧ ∃ (N : Nat) (C : Int → Int), T' = (C, iu T.2.1 r N, iu T.2.2.1 r (if N = 0 then 0 else T.2.2.1 r), T.2.2.2) ∧ N ≤ n ∧ dg C (460 * r) N ∧ dv C (460 * r) N = u / v ∧ (∀ j : Nat, N = j + 1 → C (460 * r + j) ≠ 0) ∧ ∀ q : Int, q < 460 * r ∨ 460 * r + 460 ≤ q → C q = T.1 q) :=
  z_met (by decide) (Nat.le_of_ble_eq_true rfl) fun p e s m below meth c K hr hlk hnm => by
  obtain ⟨hx1, hx2, hx3, hx4⟩ := hx
  refine z_lconst (v := kI 0) K d_M_bySmall_0 rfl ?_
  refine z_lstore_n K d_M_bySmall_1 (by decide) ?_
  refine z_aload_n K d_M_bySmall_2 rfl ?_
  refine zm_get K fd_M_13 rfl d_M_bySmall_3 ?_
  refine z_iload_n K d_M_bySmall_6 rfl ?_
  refine zm_zld K (by omega) d_M_bySmall_7 ?_
  refine z_iconst (v := jI 1) K d_M_bySmall_8 rfl ?_
  refine zi_isub K d_M_bySmall_9 ?_
  refine z_istore K d_M_bySmall_10 (by decide) ?_
  rw [hx1]
  refine z_re [0, 1, 2, 3, 5] rfl ?_
  refine lp_M_bySmall K T hr0 hv hx2 hx3 (fun C hC hg hD => ?_) n T.1 0 (Nat.le_refl _) (fun q _ => rfl) (fun k hk => absurd hk (by omega)) (by simp [dv]) (by simp [dv])
  rw [hx4] at hD
  refine z_aload_n K d_M_bySmall_70 rfl ?_
  refine z_iload_n K d_M_bySmall_71 rfl ?_
  refine z_aload_n K d_M_bySmall_72 rfl ?_
  refine zm_get K fd_M_13 rfl d_M_bySmall_73 ?_
  refine z_iload_n K d_M_bySmall_76 rfl ?_
  refine zm_zld K (by omega) d_M_bySmall_77 ?_
  try dsimp only
  rw [hx1]
  refine z_callV (ci := 0) (As := [.int (jI r), .int (jI n)]) K (c_M_trim l G b0 h a cd (C, T.2) hr0 hx2 hg) ca_M_53 im_M_trim se_M_trim rfl (by decide) hm_0 rfl rfl (by decide) (Nat.le_of_ble_eq_true rfl) d_M_bySmall_78 (fun o h1 hp => ?_)
  obtain ⟨T1, rfl, rfl, N, k1, k2, k3, rfl⟩ := hp
  dsimp only at k2 k3 ⊢
  exact z_vret K hr hlk d_M_bySmall_81 ⟨_, rfl, rfl, N, C, rfl, k1, fun k hk => hg k (by omega), by rw [k3, hD], k2, fun q hq => hC q (by omega)⟩
end M7
end
section
/-! Knuth's guess of a cell of the quotient. W: the n + 1 cells on top, B: the divisor's n cells; 'two' the two highest of W, 'lead' the highest of B -/
theorem mul_lt_cancel {a b B : Int} (hB : 0 < B) (h : a * B < b * B) : a < b := Int.lt_of_mul_lt_mul_right h (Int.le_of_lt hB)
/-- the first guess is no less than what is due -/
theorem kd_first {W B P two lead Wl Bl : Int} (hP : 0 < P) (hW : W = Wl + P * two) (hWl : Wl < P) (hB : B = Bl + P * lead) (hBl : 0 ≤ Bl) (hl : 0 < lead) (h2 : 0 ≤ two) : W < (two / lead + 1) * B := by
  have h3 : two < (two / lead + 1) * lead := by
    have := Int.lt_mul_ediv_self_add (x := two) hl
    rw [Int.add_mul, Int.one_mul, Int.mul_comm]
    omega
  have h4 : 0 ≤ two / lead := Int.ediv_nonneg h2 (by omega)
  have h5 : (two / lead + 1) * B = (two / lead + 1) * Bl + P * ((two / lead + 1) * lead) := by rw [hB]; grind
  have h6 : P * (two + 1) ≤ P * ((two / lead + 1) * lead) := Int.mul_le_mul_of_nonneg_left (by omega) (by omega)
  have h7 := Int.mul_nonneg (show 0 ≤ two / lead + 1 by omega) hBl
  rw [Int.mul_add, Int.mul_one] at h6
  omega
/-- where the second cell says so, the guess is too large -/
theorem kd_dec {W B P two lead second third Wl Bl g r : Int} (hP : 0 < P) (hW : W = Wl + P * (third + 1000000000 * two)) (hWl : Wl < P) (hB : B = Bl + P * (second + 1000000000 * lead)) (hBl : 0 ≤ Bl) (hg : 0 ≤ g) (hr : two = g * lead + r) (h : r * 1000000000 + third < g * second) : W < g * B := by
  have h5 : g * B = g * Bl + P * (g * second + 1000000000 * (g * lead)) := by rw [hB]; grind
  have h6 : P * (third + 1000000000 * two + 1) ≤ P * (g * second + 1000000000 * (g * lead)) := Int.mul_le_mul_of_nonneg_left (by omega) (by omega)
  have h7 := Int.mul_nonneg hg hBl
  rw [Int.mul_add (b := third + 1000000000 * two), Int.mul_one] at h6
  omega
/-- where it doesn't, the guess is too large by one at most -/
theorem kd_exit {W B P two lead second third Wl Bl g r : Int} (hW0 : 0 ≤ W) (hB0 : 0 ≤ B) (hP : 0 < P) (hW : W = Wl + P * (third + 1000000000 * two)) (hWl : 0 ≤ Wl) (hB : B = Bl + P * (second + 1000000000 * lead)) (hBl : Bl < P) (hs : 0 ≤ second) (hs2 : second < 1000000000) (h3 : 0 ≤ third) (hl : 0 < lead) (hg : 0 ≤ g) (hg2 : g < 1000000000) (hr : two = g * lead + r) (h : 1000000000 ≤ r ∨ g * second ≤ r * 1000000000 + third) : (g - 1) * B ≤ W := by
  by_cases hg0 : g = 0
  · subst hg0
    rw [Int.zero_sub, Int.neg_mul, Int.one_mul]
    omega
  · have e : (g - 1) * B = (g - 1) * Bl + P * ((g - 1) * second + 1000000000 * ((g - 1) * lead)) := by rw [hB]; grind
    have e2 : (g - 1) * Bl ≤ (g - 1) * P := Int.mul_le_mul_of_nonneg_left (by omega) (by omega)
    have e3 : (g - 1) * P + P * ((g - 1) * second + 1000000000 * ((g - 1) * lead)) = P * (g - 1 + (g - 1) * second + 1000000000 * ((g - 1) * lead)) := by grind
    have e4 : g - 1 + (g - 1) * second + 1000000000 * ((g - 1) * lead) ≤ third + 1000000000 * two := by
      have a1 : (g - 1) * lead = g * lead - lead := by grind
      have a2 : (g - 1) * second = g * second - second := by grind
      have a3 : g * second ≤ g * 999999999 := Int.mul_le_mul_of_nonneg_left (by omega) hg
      rw [a1, a2]
      rcases h with h | h <;> omega
    have e5 := Int.mul_le_mul_of_nonneg_left e4 (show 0 ≤ P by omega)
    omega
theorem tm_emod (v : Int) : (if v.tmod 1000000000 < 0 then v.tmod 1000000000 + 1000000000 else v.tmod 1000000000) = v % 1000000000 := by
  have h1 := Int.tmod_eq_emod (a := v) (b := 1000000000)
  have h2 := Int.emod_nonneg v (show (1000000000 : Int) ≠ 0 by decide)
  have h3 := Int.emod_lt_of_pos v (show (0 : Int) < 1000000000 by decide)
  rw [h1]
  split at * <;> split <;> omega
theorem tm_ediv (v : Int) : (v - v % 1000000000).tdiv 1000000000 = v / 1000000000 := by
  have h1 := Int.mul_ediv_add_emod v 1000000000
  rw [show v - v % 1000000000 = 1000000000 * (v / 1000000000) by omega]
  exact Int.mul_tdiv_cancel_left _ (by decide)
theorem pl_step {D P c w q m b E F cy g : Int} (hD : D + cy * P = E - g * F) (hw : w = c - g * b + cy) (hq : 1000000000 * q + m = w) : D + m * P + q * (P * 1000000000) = E + c * P - g * (F + b * P) := by grind
section M8
variable {p : Program} {l : Launch} {e : Env} {R : Room} {s : State} {m : MethodId} {args : Array Value} {below : List Frame} {meth : Method} {c : Code} {Q : State → Prop} {b0 kc ks : Nat} {G : zG} {h : zH} {a : Nat} {cd : Int}
set_option maxHeartbeats 4000000 in
set_option maxRecDepth 100000 in
theorem lp_M_place1 (K : zC p s m args c b_M_place R_M 26 b0 G) (T : mT) {x y j n pa pb W B two lead second third : Int} (hB : 0 < B) (hW : 0 ≤ W) (hWB : W < 1000000000 * B) (hl : 500000000 ≤ lead ∧ lead < 1000000000) (h2 : 0 ≤ two) (h2b : two < 1000000000 * (lead + 1)) (hs : 0 ≤ second ∧ second < 1000000000) (h3 : 0 ≤ third ∧ third < 1000000000)
    (hdec : ∀ g r : Int, 0 ≤ g → 0 ≤ r → two = g * lead + r → r * 1000000000 + third < g * second → W < g * B) (hex : ∀ g r : Int, 0 ≤ g → 0 ≤ r → g < 1000000000 → two = g * lead + r → 1000000000 ≤ r ∨ g * second ≤ r * 1000000000 + third → (g - 1) * B ≤ W)
    (hx : ∀ g : Int, 0 ≤ g → g < 1000000000 → W < (g + 1) * B → (g - 1) * B ≤ W → zW p l e R s m args below meth c 26 b0 G kc ks Q (hm G h a cd T) 178 [(0, .ref a), (4, .int (jI n)), (5, .int (jI pa)), (6, .int (jI pb)), (11, .long (kI g))] []) :
    ∀ (N : Nat) (g r : Int), g ≤ N → 0 ≤ g → g ≤ 1000000002 → two = g * lead + r → 0 ≤ r → r < 1000000000 + lead → W < (g + 1) * B →
      zW p l e R s m args below meth c 26 b0 G kc ks Q (hm G h a cd T) 126 [(0, .ref a), (1, .int (jI x)), (2, .int (jI y)), (3, .int (jI j)), (4, .int (jI n)), (5, .int (jI pa)), (6, .int (jI pb)), (7, .long (kI two)), (9, .long (kI lead)), (11, .long (kI g)), (13, .long (kI r)), (15, .long (kI second)), (17, .long (kI third))] [] := by
  intro N
  induction N with
  | zero =>
    intro g r hN h0 hg hgr hr0 hr1 hq
    have hg0 : g = 0 := by omega
    subst hg0
    refine z_lload K d_M_place_126 rfl ?_
    refine z_ldc2 (v := kI 1000000000) K d_M_place_128 kc_M_34 ?_
    refine zi_lc_ge (tgt := 162) K d_M_place_131 d_M_place_132 (by decide) (by omega) (by omega) (fun hc => absurd hc (by omega)) (fun hc => ?_)
    have hf := hx 0 (by omega) (by omega) hq (by rw [Int.zero_sub, Int.neg_mul, Int.one_mul]; omega)
    refine z_lload K d_M_place_135 rfl ?_
    refine z_ldc2 (v := kI 1000000000) K d_M_place_137 kc_M_34 ?_
    refine zi_lc_ge (tgt := 178) K d_M_place_140 d_M_place_141 (by decide) (by omega) (by omega) (fun hc => ?_) (fun hc => ?_)
    · exact z_re [0, 4, 5, 6, 11] rfl hf
    · refine z_lload K d_M_place_144 rfl ?_
      refine z_lload K d_M_place_146 rfl ?_
      refine zi_lmul K d_M_place_148 ?_
      refine z_lload K d_M_place_149 rfl ?_
      refine z_ldc2 (v := kI 1000000000) K d_M_place_151 kc_M_34 ?_
      refine zi_lmul K d_M_place_154 ?_
      refine z_lload K d_M_place_155 rfl ?_
      refine zi_ladd K d_M_place_157 ?_
      refine zi_lc_le (tgt := 178) K d_M_place_158 d_M_place_159 (by decide) (by omega) (by omega) (fun hc => ?_) (fun hc => absurd hc (by omega))
      exact z_re [0, 4, 5, 6, 11] rfl hf
  | succ N ih =>
    intro g r hN h0 hg hgr hr0 hr1 hq
    have dec : W < g * B → r + lead < 1000000000 + lead ∨ 1000000000 ≤ g → zW p l e R s m args below meth c 26 b0 G kc ks Q (hm G h a cd T) 162 [(0, .ref a), (1, .int (jI x)), (2, .int (jI y)), (3, .int (jI j)), (4, .int (jI n)), (5, .int (jI pa)), (6, .int (jI pb)), (7, .long (kI two)), (9, .long (kI lead)), (11, .long (kI g)), (13, .long (kI r)), (15, .long (kI second)), (17, .long (kI third))] [] := fun hd1 hd2 => by
      have hg1 : 1 ≤ g := by
        by_cases q : 1 ≤ g
        · exact q
        · have : g = 0 := by omega
          subst this
          omega
      refine z_lload K d_M_place_162 rfl ?_
      refine z_lconst (v := kI 1) K d_M_place_164 rfl ?_
      refine zi_lsub K d_M_place_165 ?_
      refine z_lstore K d_M_place_166 (by decide) ?_
      refine z_lload K d_M_place_168 rfl ?_
      refine z_lload K d_M_place_170 rfl ?_
      refine zi_ladd K d_M_place_172 ?_
      refine z_lstore K d_M_place_173 (by decide) ?_
      refine z_goto (tgt := 126) K d_M_place_175 (by decide) ?_
      refine z_re [0, 1, 2, 3, 4, 5, 6, 7, 9, 11, 13, 15, 17] rfl ?_
      have e1 : (g - 1) * lead = g * lead - lead := by grind
      refine ih (g - 1) (r + lead) (by omega) (by omega) (by omega) (by omega) (by omega) ?_ (by rw [Int.sub_add_cancel]; exact hd1)
      rcases hd2 with q | q
      · exact q
      · have e2 : 999999999 * lead ≤ (g - 1) * lead := Int.mul_le_mul_of_nonneg_right (by omega) (by omega)
        omega
    refine z_lload K d_M_place_126 rfl ?_
    refine z_ldc2 (v := kI 1000000000) K d_M_place_128 kc_M_34 ?_
    refine zi_lc_ge (tgt := 162) K d_M_place_131 d_M_place_132 (by decide) (by omega) (by omega) (fun hc => ?_) (fun hc => ?_)
    · refine dec ?_ (Or.inr hc)
      have := Int.mul_le_mul_of_nonneg_right hc (Int.le_of_lt hB)
      omega
    · have hm1 : g * second ≤ g * 999999999 := Int.mul_le_mul_of_nonneg_left (by omega) h0
      have hm2 := Int.mul_nonneg h0 hs.1
      refine z_lload K d_M_place_135 rfl ?_
      refine z_ldc2 (v := kI 1000000000) K d_M_place_137 kc_M_34 ?_
      refine zi_lc_ge (tgt := 178) K d_M_place_140 d_M_place_141 (by decide) (by omega) (by omega) (fun hc2 => ?_) (fun hc2 => ?_)
      · exact z_re [0, 4, 5, 6, 11] rfl (hx g h0 hc hq (hex g r h0 hr0 hc hgr (Or.inl hc2)))
      · refine z_lload K d_M_place_144 rfl ?_
        refine z_lload K d_M_place_146 rfl ?_
        refine zi_lmul K d_M_place_148 ?_
        refine z_lload K d_M_place_149 rfl ?_
        refine z_ldc2 (v := kI 1000000000) K d_M_place_151 kc_M_34 ?_
        refine zi_lmul K d_M_place_154 ?_
        refine z_lload K d_M_place_155 rfl ?_
        refine zi_ladd K d_M_place_157 ?_
        refine zi_lc_le (tgt := 178) K d_M_place_158 d_M_place_159 (by decide) (by omega) (by omega) (fun hc3 => ?_) (fun hc3 => ?_)
        · exact z_re [0, 4, 5, 6, 11] rfl (hx g h0 hc hq (hex g r h0 hr0 hc hgr (Or.inr hc3)))
        · exact dec (hdec g r h0 hr0 hgr hc3) (Or.inl (by omega))
set_option maxHeartbeats 4000000 in
set_option maxRecDepth 100000 in
theorem lp_M_place2 (K : zC p s m args c b_M_place R_M 26 b0 G) (T : mT) {pa pb g : Int} {n : Nat} (hn : n ≤ 459) (hpa : 0 ≤ pa ∧ pa + n < 25760) (hpb : 0 ≤ pb ∧ pb + n < 25760) (hab : pa + n ≤ pb ∨ pb + n ≤ pa) (hg0 : 0 ≤ g ∧ g < 1000000000) (hga : dg T.1 pa n) (hgb : dg T.1 pb n)
    (hx : ∀ (C : Int → Int) (cy : Int), -1000000000 ≤ cy → cy ≤ 0 → (∀ q : Int, q < pa ∨ pa + n ≤ q → C q = T.1 q) → dg C pa n → dv C pa n + cy * BS ^ n = dv T.1 pa n - g * dv T.1 pb n → zW p l e R s m args below meth c 26 b0 G kc ks Q (hm G h a cd (C, T.2)) 280 [(0, .ref a), (4, .int (jI n)), (5, .int (jI pa)), (6, .int (jI pb)), (11, .long (kI g)), (19, .long (kI cy))] []) :
    ∀ (j k : Nat) (C : Int → Int) (cy : Int), k + j = n → -1000000000 ≤ cy → cy ≤ 0 → (∀ q : Int, q < pa ∨ pa + k ≤ q → C q = T.1 q) → dg C pa k → dv C pa k + cy * BS ^ k = dv T.1 pa k - g * dv T.1 pb k →
      zW p l e R s m args below meth c 26 b0 G kc ks Q (hm G h a cd (C, T.2)) 184 [(0, .ref a), (4, .int (jI n)), (5, .int (jI pa)), (6, .int (jI pb)), (11, .long (kI g)), (19, .long (kI cy)), (21, .int (jI k))] [] := by
  intro j
  induction j with
  | zero =>
    intro k C cy hk hc0 hc1 hC hg hD
    refine z_iload K d_M_place_184 rfl ?_
    refine z_iload K d_M_place_186 rfl ?_
    refine zi_icmp_ge (tgt := 280) K d_M_place_188 (by decide) (by omega) (by omega) (fun hc => ?_) (fun hc => absurd hc (by omega))
    have hkn : k = n := by omega
    subst hkn
    exact z_re [0, 4, 5, 6, 11, 19] rfl (hx C cy hc0 hc1 hC hg hD)
  | succ j ih =>
    intro k C cy hk hc0 hc1 hC hg hD
    have g1 := hga k (by omega)
    have g2 := hgb k (by omega)
    have e1 : C (pa + k) = T.1 (pa + k) := hC _ (by omega)
    have e2 : C (pb + k) = T.1 (pb + k) := hC _ (by omega)
    have g3 := mul_cell hg0 g2
    refine z_iload K d_M_place_184 rfl ?_
    refine z_iload K d_M_place_186 rfl ?_
    refine zi_icmp_ge (tgt := 280) K d_M_place_188 (by decide) (by omega) (by omega) (fun hc => absurd hc (by omega)) (fun hc => ?_)
    refine z_aload_n K d_M_place_191 rfl ?_
    refine zm_get K fd_M_9 rfl d_M_place_192 ?_
    refine z_iload K d_M_place_195 rfl ?_
    refine z_iload K d_M_place_197 rfl ?_
    refine zi_iadd K d_M_place_199 ?_
    refine zm_cld K (by omega) d_M_place_200 ?_
    try dsimp only
    rw [e1]
    refine zi_i2l K d_M_place_201 (by omega) ?_
    refine z_lload K d_M_place_202 rfl ?_
    refine z_aload_n K d_M_place_204 rfl ?_
    refine zm_get K fd_M_9 rfl d_M_place_205 ?_
    refine z_iload K d_M_place_208 rfl ?_
    refine z_iload K d_M_place_210 rfl ?_
    refine zi_iadd K d_M_place_212 ?_
    refine zm_cld K (by omega) d_M_place_213 ?_
    try dsimp only
    rw [e2]
    refine zi_i2l K d_M_place_214 (by omega) ?_
    refine zi_lmul K d_M_place_215 ?_
    refine zi_lsub K d_M_place_216 ?_
    refine z_lload K d_M_place_217 rfl ?_
    refine zi_ladd K d_M_place_219 ?_
    obtain ⟨w, hw⟩ : ∃ w : Int, w = T.1 (pa + k) - g * T.1 (pb + k) + cy := ⟨_, rfl⟩
    rw [← hw]
    have fin : zW p l e R s m args below meth c 26 b0 G kc ks Q (hm G h a cd (C, T.2)) 248 [(0, .ref a), (4, .int (jI n)), (5, .int (jI pa)), (6, .int (jI pb)), (11, .long (kI g)), (19, .long (kI cy)), (21, .int (jI k)), (22, .long (kI w))] [.long (kI (w % 1000000000))] := by
      have m0 := Int.emod_nonneg w (show (1000000000 : Int) ≠ 0 by decide)
      have m1 := Int.emod_lt_of_pos w (show (0 : Int) < 1000000000 by decide)
      refine z_lstore K d_M_place_248 (by decide) ?_
      refine z_aload_n K d_M_place_250 rfl ?_
      refine zm_get K fd_M_9 rfl d_M_place_251 ?_
      refine z_iload K d_M_place_254 rfl ?_
      refine z_iload K d_M_place_256 rfl ?_
      refine zi_iadd K d_M_place_258 ?_
      refine z_lload K d_M_place_259 rfl ?_
      refine zi_l2i K d_M_place_261 ?_
      refine zm_cst K (by omega) d_M_place_262 ?_
      refine z_lload K d_M_place_263 rfl ?_
      refine z_lload K d_M_place_265 rfl ?_
      refine zi_lsub K d_M_place_267 ?_
      refine z_ldc2 (v := kI 1000000000) K d_M_place_268 kc_M_34 ?_
      refine zi_ldiv K d_M_place_271 (by omega) (by omega) (by omega) ?_
      refine z_lstore K d_M_place_272 (by decide) ?_
      refine zi_iinc K d_M_place_274 rfl (by decide) ?_
      refine z_goto (tgt := 184) K d_M_place_277 (by decide) ?_
      rw [tm_ediv]
      refine z_re [0, 4, 5, 6, 11, 19, 21] rfl ?_
      refine ih (k + 1) _ _ (by omega) (by omega) (by omega) (fun q hq => ?_) (fun q hq => ?_) ?_
      · dsimp only
        rw [iu_ne _ _ (by omega)]; exact hC q (by omega)
      · dsimp only
        by_cases hqk : q = k
        · subst hqk; rw [iu_self]; omega
        · rw [iu_ne _ _ (by omega)]; exact hg q (by omega)
      · simp only [dv]
        rw [iu_self, dv_iu (fun q hq => by omega), Int.pow_succ]
        exact pl_step hD hw (by omega)
    have t0 := tm_emod w
    have t1 := Int.tmod_lt_of_pos w (show (0 : Int) < 1000000000 by decide)
    have t2 := Int.lt_tmod_of_pos w (show (0 : Int) < 1000000000 by decide)
    refine z_lstore K d_M_place_220 (by decide) ?_
    refine z_lload K d_M_place_222 rfl ?_
    refine z_ldc2 (v := kI 1000000000) K d_M_place_224 kc_M_34 ?_
    refine zi_lrem K d_M_place_227 (by omega) (by omega) (by omega) ?_
    refine z_lstore K d_M_place_228 (by decide) ?_
    refine z_lload K d_M_place_230 rfl ?_
    refine z_lconst (v := kI 0) K d_M_place_232 rfl ?_
    refine zi_lc_ge (tgt := 246) K d_M_place_233 d_M_place_234 (by decide) (by omega) (by omega) (fun hc2 => ?_) (fun hc2 => ?_)
    · rw [if_neg (by omega)] at t0
      refine z_lload K d_M_place_246 rfl ?_
      rw [← t0] at fin
      exact z_re [0, 4, 5, 6, 11, 19, 21, 22] rfl fin
    · rw [if_pos (by omega)] at t0
      refine z_lload K d_M_place_237 rfl ?_
      refine z_ldc2 (v := kI 1000000000) K d_M_place_239 kc_M_34 ?_
      refine zi_ladd K d_M_place_242 ?_
      refine z_goto (tgt := 248) K d_M_place_243 (by decide) ?_
      rw [← t0] at fin
      exact z_re [0, 4, 5, 6, 11, 19, 21, 22] rfl fin
set_option maxHeartbeats 4000000 in
set_option maxRecDepth 100000 in
theorem lp_M_place3 (K : zC p s m args c b_M_place R_M 26 b0 G) (T : mT) {pa pb g ls : Int} {n : Nat} (hn : n ≤ 459) (hpa : 0 ≤ pa ∧ pa + n < 25760) (hpb : 0 ≤ pb ∧ pb + n < 25760) (hab : pa + n ≤ pb ∨ pb + n ≤ pa) (hga : dg T.1 pa n) (hgb : dg T.1 pb n)
    (hx : ∀ (C : Int → Int) (cy : Int), cy = 0 ∨ cy = 1 → (∀ q : Int, q < pa ∨ pa + n ≤ q → C q = T.1 q) → dg C pa n → dv C pa n + cy * BS ^ n = dv T.1 pa n + dv T.1 pb n → zW p l e R s m args below meth c 26 b0 G kc ks Q (hm G h a cd (C, T.2)) 394 [(0, .ref a), (4, .int (jI n)), (5, .int (jI pa)), (11, .long (kI g)), (21, .long (kI ls)), (23, .int (jI cy))] []) :
    ∀ (j k : Nat) (C : Int → Int) (cy : Int), k + j = n → cy = 0 ∨ cy = 1 → (∀ q : Int, q < pa ∨ pa + k ≤ q → C q = T.1 q) → dg C pa k → dv C pa k + cy * BS ^ k = dv T.1 pa k + dv T.1 pb k →
      zW p l e R s m args below meth c 26 b0 G kc ks Q (hm G h a cd (C, T.2)) 315 [(0, .ref a), (4, .int (jI n)), (5, .int (jI pa)), (6, .int (jI pb)), (11, .long (kI g)), (21, .long (kI ls)), (23, .int (jI cy)), (24, .int (jI k))] [] := by
  intro j
  induction j with
  | zero =>
    intro k C cy hk hc0 hC hg hD
    refine z_iload K d_M_place_315 rfl ?_
    refine z_iload K d_M_place_317 rfl ?_
    refine zi_icmp_ge (tgt := 394) K d_M_place_319 (by decide) (by omega) (by omega) (fun hc => ?_) (fun hc => absurd hc (by omega))
    have hkn : k = n := by omega
    subst hkn
    exact z_re [0, 4, 5, 11, 21, 23] rfl (hx C cy hc0 hC hg hD)
  | succ j ih =>
    intro k C cy hk hc0 hC hg hD
    have g1 := hga k (by omega)
    have g2 := hgb k (by omega)
    have e1 : C (pa + k) = T.1 (pa + k) := hC _ (by omega)
    have e2 : C (pb + k) = T.1 (pb + k) := hC _ (by omega)
    have J387 : ∀ c1 : Int, (c1 = 0 ∨ c1 = 1) → 0 ≤ T.1 (pa + k) + T.1 (pb + k) + cy - c1 * 1000000000 → T.1 (pa + k) + T.1 (pb + k) + cy - c1 * 1000000000 < 1000000000 → zW p l e R s m args below meth c 26 b0 G kc ks Q (hm G h a cd (C, T.2)) 387 [(0, .ref a), (4, .int (jI n)), (5, .int (jI pa)), (6, .int (jI pb)), (11, .long (kI g)), (21, .long (kI ls)), (23, .int (jI c1)), (24, .int (jI k))] [.int (jI (T.1 (pa + k) + T.1 (pb + k) + cy - c1 * 1000000000)), .int (jI (pa + k)), .ref (a + 1)] := fun c1 hc1 k1 k2 => by
      refine zm_cst K (by omega) d_M_place_387 ?_
      refine zi_iinc K d_M_place_388 rfl (by decide) ?_
      refine z_goto (tgt := 315) K d_M_place_391 (by decide) ?_
      refine z_re [0, 4, 5, 6, 11, 21, 23, 24] rfl ?_
      refine ih (k + 1) _ c1 (by omega) hc1 (fun q hq => ?_) (fun q hq => ?_) ?_
      · dsimp only
        rw [iu_ne _ _ (by omega)]; exact hC q (by omega)
      · dsimp only
        by_cases hqk : q = k
        · subst hqk; rw [iu_self]; exact ⟨k1, k2⟩
        · rw [iu_ne _ _ (by omega)]; exact hg q (by omega)
      · simp only [dv]
        rw [iu_self, dv_iu (fun q hq => by omega), Int.pow_succ]
        have := add_step (d1 := T.1 (pa + k)) (d2 := T.1 (pb + k)) (c1 := c1) hD
        rw [show T.1 (pa + k) + T.1 (pb + k) + cy - c1 * 1000000000 = cy + T.1 (pa + k) + T.1 (pb + k) - c1 * 1000000000 by omega]
        exact this
    refine z_iload K d_M_place_315 rfl ?_
    refine z_iload K d_M_place_317 rfl ?_
    refine zi_icmp_ge (tgt := 394) K d_M_place_319 (by decide) (by omega) (by omega) (fun hc => absurd hc (by omega)) (fun hc => ?_)
    refine z_aload_n K d_M_place_322 rfl ?_
    refine zm_get K fd_M_9 rfl d_M_place_323 ?_
    refine z_iload K d_M_place_326 rfl ?_
    refine z_iload K d_M_place_328 rfl ?_
    refine zi_iadd K d_M_place_330 ?_
    refine zm_cld K (by omega) d_M_place_331 ?_
    try dsimp only
    rw [e1]
    refine z_aload_n K d_M_place_332 rfl ?_
    refine zm_get K fd_M_9 rfl d_M_place_333 ?_
    refine z_iload K d_M_place_336 rfl ?_
    refine z_iload K d_M_place_338 rfl ?_
    refine zi_iadd K d_M_place_340 ?_
    refine zm_cld K (by omega) d_M_place_341 ?_
    try dsimp only
    rw [e2]
    refine zi_iadd K d_M_place_342 ?_
    refine z_iload K d_M_place_343 rfl ?_
    refine zi_iadd K d_M_place_345 ?_
    refine z_istore K d_M_place_346 (by decide) ?_
    refine z_iload K d_M_place_348 rfl ?_
    refine z_ldc (v := jI 1000000000) K d_M_place_350 kc_M_52 ?_
    refine zi_icmp_lt (tgt := 359) K d_M_place_352 (by decide) (by omega) (by omega) (fun hc2 => ?_) (fun hc2 => ?_)
    · refine z_iconst (v := jI 0) K d_M_place_359 rfl ?_
      refine z_istore K d_M_place_360 (by decide) ?_
      refine z_aload_n K d_M_place_362 rfl ?_
      refine zm_get K fd_M_9 rfl d_M_place_363 ?_
      refine z_iload K d_M_place_366 rfl ?_
      refine z_iload K d_M_place_368 rfl ?_
      refine zi_iadd K d_M_place_370 ?_
      refine z_iload K d_M_place_371 rfl ?_
      refine z_iconst (v := jI 1) K d_M_place_373 rfl ?_
      refine zi_icmp_ne (tgt := 385) K d_M_place_374 (by decide) (by omega) (by omega) (fun hc3 => ?_) (fun hc3 => absurd hc3 (by omega))
      refine z_iload K d_M_place_385 rfl ?_
      have := J387 0 (Or.inl rfl) (by omega) (by omega)
      rw [show T.1 (pa + k) + T.1 (pb + k) + cy - 0 * 1000000000 = T.1 (pa + k) + T.1 (pb + k) + cy by omega] at this
      exact z_re [0, 4, 5, 6, 11, 21, 23, 24] rfl this
    · refine z_iconst (v := jI 1) K d_M_place_355 rfl ?_
      refine z_goto (tgt := 360) K d_M_place_356 (by decide) ?_
      refine z_istore K d_M_place_360 (by decide) ?_
      refine z_aload_n K d_M_place_362 rfl ?_
      refine zm_get K fd_M_9 rfl d_M_place_363 ?_
      refine z_iload K d_M_place_366 rfl ?_
      refine z_iload K d_M_place_368 rfl ?_
      refine zi_iadd K d_M_place_370 ?_
      refine z_iload K d_M_place_371 rfl ?_
      refine z_iconst (v := jI 1) K d_M_place_373 rfl ?_
      refine zi_icmp_ne (tgt := 385) K d_M_place_374 (by decide) (by omega) (by omega) (fun hc3 => absurd rfl hc3) (fun hc3 => ?_)
      refine z_iload K d_M_place_377 rfl ?_
      refine z_ldc (v := jI 1000000000) K d_M_place_379 kc_M_52 ?_
      refine zi_isub K d_M_place_381 ?_
      refine z_goto (tgt := 387) K d_M_place_382 (by decide) ?_
      have := J387 1 (Or.inr rfl) (by omega) (by omega)
      rw [show T.1 (pa + k) + T.1 (pb + k) + cy - 1 * 1000000000 = T.1 (pa + k) + T.1 (pb + k) + cy - 1000000000 by omega] at this
      exact z_re [0, 4, 5, 6, 11, 21, 23, 24] rfl this
end M8
end
section
theorem pl_zero {D ls Pn R B : Int} (hD0 : 0 ≤ D) (hD1 : D < Pn) (h : D + ls * Pn = R) (hR0 : 0 ≤ R) (hR1 : R < B) (hB : B ≤ Pn) : ls = 0 ∧ D = R := by
  have hP : 0 < Pn := by omega
  have h1 : ls < 1 := mul_lt_cancel hP (by rw [Int.one_mul]; omega)
  have h2 : -1 < ls := mul_lt_cancel hP (by rw [Int.neg_mul, Int.one_mul]; omega)
  have h3 : ls = 0 := by omega
  subst h3
  omega
/-- the highest cells of n + 1 and of n -/
theorem kd_parts1 (f : Int → Int) (pa pb : Int) : dv f pa 2 = 0 + 1 * (f (pa + 1) * 1000000000 + f pa) ∧ dv f pb 1 = 0 + 1 * f pb := by
  constructor
  · simp only [dv]
    rw [show BS ^ 1 = 1000000000 by decide]
    simp
    omega
  · simp [dv]
theorem kd_parts2 (f : Int → Int) (pa pb : Int) (t : Nat) : dv f pa (t + 3) = dv f pa t + BS ^ t * (f (pa + t) + 1000000000 * (f (pa + (t + 2)) * 1000000000 + f (pa + (t + 1)))) ∧ dv f pb (t + 2) = dv f pb t + BS ^ t * (f (pb + t) + 1000000000 * f (pb + (t + 1))) := by
  constructor
  · show dv f pa (((t + 1) + 1) + 1) = _
    simp only [dv]
    rw [show pa + ((t + 1 + 1 : Nat) : Int) = pa + (t + 2) by omega, show pa + ((t + 1 : Nat) : Int) = pa + (t + 1) by omega, Int.pow_succ, Int.pow_succ]
    grind
  · show dv f pb ((t + 1) + 1) = _
    simp only [dv]
    rw [show pb + ((t + 1 : Nat) : Int) = pb + (t + 1) by omega, Int.pow_succ]
    grind
section M9
variable {p : Program} {l : Launch} {e : Env} {R : Room} {s : State} {m : MethodId} {args : Array Value} {below : List Frame} {meth : Method} {c : Code} {Q : State → Prop} {b0 kc ks : Nat} {G : zG} {h : zH} {a : Nat} {cd : Int}
set_option maxHeartbeats 4000000 in
set_option maxRecDepth 100000 in
/-- from the guess to the end -/
theorem t_M_place178 (K : zC p s m args c b_M_place R_M 26 b0 G) (T : mT) {pa pb g W B : Int} {n : Nat} (hn : n ≤ 459) (hpa : 0 ≤ pa ∧ pa + n < 25760) (hpb : 0 ≤ pb ∧ pb + n < 25760) (hab : pa + n < pb ∨ pb + n ≤ pa) (hga : dg T.1 pa (n + 1)) (hgb : dg T.1 pb n) (hW : W = dv T.1 pa (n + 1)) (hB : B = dv T.1 pb n) (hg0 : 0 ≤ g) (hg1 : g < 1000000000) (hq1 : W < (g + 1) * B) (hq2 : (g - 1) * B ≤ W)
    (hx : ∀ (q : Int) (C : Int → Int), 0 ≤ q → q < 1000000000 → dg C pa n → C (pa + n) = 0 → dv C pa n = W - q * B → W - q * B < B → (∀ z : Int, z < pa ∨ pa + n < z → C z = T.1 z) → zW p l e R s m args below meth c 26 b0 G kc ks Q (hm G h a cd (C, T.2)) 418 [] [.int (jI q)]) :
    zW p l e R s m args below meth c 26 b0 G kc ks Q (hm G h a cd T) 178 [(0, .ref a), (4, .int (jI n)), (5, .int (jI pa)), (6, .int (jI pb)), (11, .long (kI g))] [] := by
  have hga2 : dg T.1 pa n := fun k hk => hga k (by omega)
  have gt := hga n (by omega)
  have bB := dv_bd hgb
  rw [← hB] at bB
  have last : ∀ (q : Int) (C : Int → Int) (ls : Int), 0 ≤ q → q < 1000000000 → dg C pa n → dv C pa n + ls * BS ^ n = W - q * B → 0 ≤ W - q * B → W - q * B < B → (∀ z : Int, z < pa ∨ pa + n ≤ z → C z = T.1 z) → zW p l e R s m args below meth c 26 b0 G kc ks Q (hm G h a cd (C, T.2)) 402 [(0, .ref a), (4, .int (jI n)), (5, .int (jI pa)), (11, .long (kI q)), (21, .long (kI ls))] [] := fun q C ls h0 h1 hg hD hR0 hR1 hC => by
    have hb := dv_bd hg
    obtain ⟨l0, l1⟩ := pl_zero hb.1 hb.2 hD hR0 hR1 (by omega)
    subst l0
    refine z_aload_n K d_M_place_402 rfl ?_
    refine zm_get K fd_M_9 rfl d_M_place_403 ?_
    refine z_iload K d_M_place_406 rfl ?_
    refine z_iload K d_M_place_408 rfl ?_
    refine zi_iadd K d_M_place_410 ?_
    refine z_lload K d_M_place_411 rfl ?_
    refine zi_l2i K d_M_place_413 ?_
    refine zm_cst K (by omega) d_M_place_414 ?_
    refine z_lload K d_M_place_415 rfl ?_
    refine zi_l2i K d_M_place_417 ?_
    refine z_re [] rfl (hx q _ h0 h1 (fun k hk => ?_) (iu_self _ _ _) ?_ hR1 (fun z hz => ?_))
    · dsimp only
      rw [iu_ne _ _ (by omega)]; exact hg k hk
    · dsimp only
      rw [dv_iu (fun q hq => by omega), l1]
    · dsimp only
      rw [iu_ne _ _ (by omega)]; exact hC z (by omega)
  refine z_lconst (v := kI 0) K d_M_place_178 rfl ?_
  refine z_lstore K d_M_place_179 (by decide) ?_
  refine z_iconst (v := jI 0) K d_M_place_181 rfl ?_
  refine z_istore K d_M_place_182 (by decide) ?_
  refine z_re [0, 4, 5, 6, 11, 19, 21] rfl ?_
  refine lp_M_place2 K T hn hpa hpb (by omega) ⟨hg0, hg1⟩ hga2 hgb (fun C cy hc0 hc1 hC hg hD => ?_) n 0 T.1 0 (by omega) (by omega) (by omega) (fun q _ => rfl) (fun k hk => absurd hk (by omega)) (by simp [dv])
  have e1 : C (pa + n) = T.1 (pa + n) := hC _ (by omega)
  have hWn : W = dv T.1 pa n + T.1 (pa + n) * BS ^ n := by rw [hW]; rfl
  have hb := dv_bd hg
  have tot : dv C pa n + (T.1 (pa + n) + cy) * BS ^ n = W - g * B := by
    rw [hWn, hB, Int.add_mul]
    omega
  refine z_aload_n K d_M_place_280 rfl ?_
  refine zm_get K fd_M_9 rfl d_M_place_281 ?_
  refine z_iload K d_M_place_284 rfl ?_
  refine z_iload K d_M_place_286 rfl ?_
  refine zi_iadd K d_M_place_288 ?_
  refine zm_cld K (by omega) d_M_place_289 ?_
  try dsimp only
  rw [e1]
  refine zi_i2l K d_M_place_290 (by omega) ?_
  refine z_lload K d_M_place_291 rfl ?_
  refine zi_ladd K d_M_place_293 ?_
  refine z_lstore K d_M_place_294 (by decide) ?_
  refine z_lload K d_M_place_296 rfl ?_
  refine z_lconst (v := kI 0) K d_M_place_298 rfl ?_
  refine zi_lc_ge (tgt := 402) K d_M_place_299 d_M_place_300 (by decide) (by omega) (by omega) (fun hc => ?_) (fun hc => ?_)
  · have := Int.mul_nonneg hc (Int.le_of_lt (BS_pos n))
    rw [Int.add_mul, Int.one_mul] at hq1
    exact z_re [0, 4, 5, 11, 21] rfl (last g C _ hg0 hg1 hg tot (by omega) (by omega) hC)
  · have hneg : (T.1 (pa + n) + cy) * BS ^ n ≤ -1 * BS ^ n := Int.mul_le_mul_of_nonneg_right (by omega) (Int.le_of_lt (BS_pos n))
    have e3 : (g - 1) * B = g * B - B := by grind
    have hg2 : 1 ≤ g := by
      by_cases q : 1 ≤ g
      · exact q
      · have : g = 0 := by omega
        subst this
        have : 0 ≤ W := by rw [hW]; exact (dv_bd hga).1
        omega
    refine z_lload K d_M_place_303 rfl ?_
    refine z_lconst (v := kI 1) K d_M_place_305 rfl ?_
    refine zi_lsub K d_M_place_306 ?_
    refine z_lstore K d_M_place_307 (by decide) ?_
    refine z_iconst (v := jI 0) K d_M_place_309 rfl ?_
    refine z_istore K d_M_place_310 (by decide) ?_
    refine z_iconst (v := jI 0) K d_M_place_312 rfl ?_
    refine z_istore K d_M_place_313 (by decide) ?_
    refine z_re [0, 4, 5, 6, 11, 21, 23, 24] rfl ?_
    refine lp_M_place3 K (C, T.2) hn hpa hpb (by omega) hg (fun k hk => by dsimp only; rw [hC _ (by omega)]; exact hgb k hk) (fun C2 c2 k0 k1 k2 k3 => ?_) n 0 C 0 (by omega) (Or.inl rfl) (fun q _ => rfl) (fun k hk => absurd hk (by omega)) (by simp [dv])
    dsimp only at k1 k3
    rw [dv_congr (g := T.1) (c := pb) (n := n) (f := C) (fun k hk => hC _ (by omega)), ← hB] at k3
    refine z_lload K d_M_place_394 rfl ?_
    refine z_iload K d_M_place_396 rfl ?_
    refine zi_i2l K d_M_place_398 (by omega) ?_
    refine zi_ladd K d_M_place_399 ?_
    refine z_lstore K d_M_place_400 (by decide) ?_
    refine z_re [0, 4, 5, 11, 21] rfl ?_
    refine last (g - 1) C2 _ (by omega) (by omega) k2 ?_ (by omega) (by omega) (fun z hz => by rw [k1 z hz]; exact hC z hz)
    rw [Int.add_mul]
    omega
set_option maxHeartbeats 4000000 in
set_option maxRecDepth 100000 in
/-- place(x, y, j, n): one cell of the quotient; the cells from j on of x become the rest -/
theorem c_M_place (l : Launch) (G : zG) (b0 : Nat) (h : zH) (a : Nat) (cd : Int) (T : mT) {x y W B : Int} {j n : Nat} (hx0 : 0 ≤ x ∧ x < 56) (hy0 : 0 ≤ y ∧ y < 56) (hxy : x ≠ y) (hn : 1 ≤ n) (hjn : j + n ≤ 459) (hga : dg T.1 (460 * x + j) (n + 1)) (hgb : dg T.1 (460 * y) n) (hW : W = dv T.1 (460 * x + j) (n + 1)) (hB : B = dv T.1 (460 * y) n) (hl : 500000000 ≤ T.1 (460 * y + (n - 1))) (hWB : W < 1000000000 * B) :
    mMet l G b0 y_M_place b_M_place 26 (some .int) 0 0 h a cd [.int (jI x), .int (jI y), .int (jI j), .int (jI n)] T (fun o T' => ∃ (q : Int) (C : Int → Int), o = some (.int (jI q)) ∧ T' = (C, T.2) ∧ 0 ≤ q ∧ q < 1000000000 ∧ dg C (460 * x + j) n ∧ C (460 * x + j + n) = 0 ∧ dv C (460 * x + j) n = W - q * B ∧ W - q * B < B ∧ ∀ z : Int, z < 460 * x + j ∨ 460 * x + j + n < z → C z = T.1 z) :=
  z_met (by decide) (Nat.le_of_ble_eq_true rfl) fun p e s m below meth c K hr hlk hnm => by
  have d1 := hga n (by omega)
  have d2 := hga (n - 1) (by omega)
  rw [show 460 * x + (j : Int) + ((n - 1 : Nat) : Int) = 460 * x + j + n - 1 by omega] at d2
  have d3 := hgb (n - 1) (by omega)
  rw [show 460 * y + ((n - 1 : Nat) : Int) = 460 * y + n - 1 by omega] at d3
  rw [show 460 * y + ((n : Int) - 1) = 460 * y + n - 1 by omega] at hl
  have bW := (dv_bd hga).1
  rw [← hW] at bW
  have bB := (dv_bd hgb).1
  rw [← hB] at bB
  have bB2 : 0 < B := by omega
  have fin : ∀ g : Int, 0 ≤ g → g < 1000000000 → W < (g + 1) * B → (g - 1) * B ≤ W → zW p l e (zRm 0 0 0 0) s m ([.ref a, .int (jI x), .int (jI y), .int (jI j), .int (jI n)] : List Value).toArray below meth c 26 b0 G 0 0 (MQ below (zQ G b0 (fun r_1 h' => ∃ T' : mT, h' = hm G h a cd T' ∧ ∃ (q : Int) (C : Int → Int), r_1 = some (.int (jI q)) ∧ T' = (C, T.2) ∧ 0 ≤ q ∧ q < 1000000000 ∧ dg C (460 * x + j) n ∧ C (460 * x + j + n) = 0 ∧ dv C (460 * x + j) n = W - q * B ∧ W - q * B < B ∧ ∀ z : Int, z < 460 * x + j ∨ 460 * x + j + n < z → C z = T.1 z)) ([.ref a, .int (jI x), .int (jI y), .int (jI j), .int (jI n)] : List Value).toArray s 0 0 (z_A b0)) (hm G h a cd T) 178 [(0, .ref a), (4, .int (jI n)), (5, .int (jI (460 * x + j))), (6, .int (jI (460 * y))), (11, .long (kI g))] [] := fun g h0 h1 h2 h3 =>
    t_M_place178 K T (by omega) (by omega) (by omega) (by omega) hga hgb hW hB h0 h1 h2 h3 (fun q C k0 k1 k2 k3 k4 k5 k6 => z_iret K hr hlk d_M_place_418 ⟨_, rfl, q, C, rfl, rfl, k0, k1, k2, k3, k4, k5, k6⟩)
  refine z_sipush (v := jI 460) K d_M_place_0 rfl ?_
  refine z_iload_n K d_M_place_3 rfl ?_
  refine zi_imul K d_M_place_4 ?_
  refine z_iload_n K d_M_place_5 rfl ?_
  refine zi_iadd K d_M_place_6 ?_
  refine z_istore K d_M_place_7 (by decide) ?_
  refine z_sipush (v := jI 460) K d_M_place_9 rfl ?_
  refine z_iload_n K d_M_place_12 rfl ?_
  refine zi_imul K d_M_place_13 ?_
  refine z_istore K d_M_place_14 (by decide) ?_
  refine z_aload_n K d_M_place_16 rfl ?_
  refine zm_get K fd_M_9 rfl d_M_place_17 ?_
  refine z_iload K d_M_place_20 rfl ?_
  refine z_iload K d_M_place_22 rfl ?_
  refine zi_iadd K d_M_place_24 ?_
  refine zm_cld K (by omega) d_M_place_25 ?_
  refine zi_i2l K d_M_place_26 (by omega) ?_
  refine z_ldc2 (v := kI 1000000000) K d_M_place_27 kc_M_34 ?_
  refine zi_lmul K d_M_place_30 ?_
  refine z_aload_n K d_M_place_31 rfl ?_
  refine zm_get K fd_M_9 rfl d_M_place_32 ?_
  refine z_iload K d_M_place_35 rfl ?_
  refine z_iload K d_M_place_37 rfl ?_
  refine zi_iadd K d_M_place_39 ?_
  refine z_iconst (v := jI 1) K d_M_place_40 rfl ?_
  refine zi_isub K d_M_place_41 ?_
  refine zm_cld K (by omega) d_M_place_42 ?_
  refine zi_i2l K d_M_place_43 (by omega) ?_
  refine zi_ladd K d_M_place_44 ?_
  refine z_lstore K d_M_place_45 (by decide) ?_
  refine z_aload_n K d_M_place_47 rfl ?_
  refine zm_get K fd_M_9 rfl d_M_place_48 ?_
  refine z_iload K d_M_place_51 rfl ?_
  refine z_iload K d_M_place_53 rfl ?_
  refine zi_iadd K d_M_place_55 ?_
  refine z_iconst (v := jI 1) K d_M_place_56 rfl ?_
  refine zi_isub K d_M_place_57 ?_
  refine zm_cld K (by omega) d_M_place_58 ?_
  refine zi_i2l K d_M_place_59 (by omega) ?_
  obtain ⟨two, h2⟩ : ∃ z : Int, z = T.1 (460 * x + j + n) * 1000000000 + T.1 (460 * x + j + n - 1) := ⟨_, rfl⟩
  obtain ⟨lead, hle⟩ : ∃ z : Int, z = T.1 (460 * y + n - 1) := ⟨_, rfl⟩
  rw [← h2, ← hle]
  rw [← hle] at hl d3
  have h20 : 0 ≤ two := by omega
  refine z_lstore K d_M_place_60 (by decide) ?_
  refine z_lload K d_M_place_62 rfl ?_
  refine z_lload K d_M_place_64 rfl ?_
  refine zi_ldiv K d_M_place_66 (by omega) (by omega) (by omega) ?_
  refine z_lstore K d_M_place_67 (by decide) ?_
  refine z_lload K d_M_place_69 rfl ?_
  refine z_lload K d_M_place_71 rfl ?_
  refine zi_lrem K d_M_place_73 (by omega) (by omega) (by omega) ?_
  refine z_lstore K d_M_place_74 (by decide) ?_
  refine z_iload K d_M_place_76 rfl ?_
  refine z_iconst (v := jI 1) K d_M_place_78 rfl ?_
  rw [tdiv_pos (by omega), tmod_pos (by omega)]
  have r0 := Int.emod_nonneg two (show lead ≠ 0 by omega)
  have r1 := Int.emod_lt_of_pos two (show 0 < lead by omega)
  have r2 := Int.mul_ediv_add_emod two lead
  have r3 : 0 ≤ two / lead := Int.ediv_nonneg (by omega) (by omega)
  refine zi_icmp_le (tgt := 98) K d_M_place_79 (by decide) (by omega) (by omega) (fun hc => ?_) (fun hc => ?_)
  · have hn1 : n = 1 := by omega
    subst hn1
    obtain ⟨w1, w2⟩ := kd_parts1 T.1 (460 * x + j) (460 * y)
    rw [← hW] at w1
    rw [← hB] at w2
    simp only [Int.natCast_one] at h2 hle ⊢
    rw [show 460 * x + (j : Int) + 1 - 1 = 460 * x + j by omega] at h2
    rw [show 460 * y + (1 : Int) - 1 = 460 * y by omega] at hle
    rw [← h2] at w1
    rw [← hle] at w2
    refine z_lconst (v := kI 0) K d_M_place_98 rfl ?_
    refine z_lstore K d_M_place_99 (by decide) ?_
    refine z_iload K d_M_place_101 rfl ?_
    refine z_iconst (v := jI 1) K d_M_place_103 rfl ?_
    refine zi_icmp_le (tgt := 123) K d_M_place_104 (by decide) (by omega) (by omega) (fun hc => ?_) (fun hc => absurd hc (by omega))
    refine z_lconst (v := kI 0) K d_M_place_123 rfl ?_
    refine z_lstore K d_M_place_124 (by decide) ?_
    refine z_re [0, 1, 2, 3, 4, 5, 6, 7, 9, 11, 13, 15, 17] rfl ?_
    have w3 : two < 1000000000 * (lead + 1) := by omega
    exact lp_M_place1 K T bB2 bW hWB ⟨hl, d3.2⟩ (by omega) w3 ⟨by omega, by omega⟩ ⟨by omega, by omega⟩ (fun g r q0 q1 q2 q3 => absurd q3 (by omega))
      (fun g r q0 q1 q2 q3 q4 => by
        have : (g - 1) * lead = g * lead - lead := by grind
        rw [w1, w2, Int.zero_add, Int.one_mul, Int.zero_add, Int.one_mul, this]
        omega)
      (fun g q0 q1 q2 q3 => fin g q0 q1 q2 q3) 1000000002 (two / lead) (two % lead) (by have := Int.ediv_lt_of_lt_mul (a := two) (b := 1000000002) (c := lead) (by omega) (by omega); omega) r3 (by have := Int.ediv_lt_of_lt_mul (a := two) (b := 1000000002) (c := lead) (by omega) (by omega); omega) (by rw [Int.mul_comm]; omega) r0 (by omega)
      (kd_first (P := 1) (Wl := 0) (Bl := 0) (by decide) w1 (by decide) w2 (by decide) (by omega) (by omega))
  · obtain ⟨t, rfl⟩ : ∃ t, n = t + 2 := ⟨n - 2, by omega⟩
    have d4 := hga t (by omega)
    have d5 := hgb t (by omega)
    have ex : 460 * x + (j : Int) + ((t + 2 : Nat) : Int) - 2 = 460 * x + j + t := by omega
    have ey : 460 * y + ((t + 2 : Nat) : Int) - 2 = 460 * y + t := by omega
    obtain ⟨w1, w2⟩ := kd_parts2 T.1 (460 * x + j) (460 * y) t
    rw [← hW] at w1
    rw [← hB] at w2
    rw [show 460 * x + (j : Int) + ((t + 2 : Nat) : Int) = 460 * x + j + (t + 2) by omega, show 460 * x + (j : Int) + (t + 2) - 1 = 460 * x + j + (t + 1) by omega] at h2
    rw [show 460 * y + ((t + 2 : Nat) : Int) - 1 = 460 * y + (t + 1) by omega] at hle
    rw [← h2] at w1
    rw [← hle] at w2
    have hP := BS_pos t
    have b1 := dv_bd (f := T.1) (b := 460 * x + j) (n := t) (fun k hk => hga k (by omega))
    have b2 := dv_bd (f := T.1) (b := 460 * y) (n := t) (fun k hk => hgb k (by omega))
    have w3 : two < 1000000000 * (lead + 1) := by
      have p1 : BS ^ t * (1000000000 * two) ≤ W := by
        have := Int.mul_nonneg (Int.le_of_lt hP) d4.1
        rw [w1, Int.mul_add]
        omega
      have p2 : B < BS ^ t * (1000000000 * (lead + 1)) := by
        have : BS ^ t * (T.1 (460 * y + t) + 1000000000 * lead + 1) ≤ BS ^ t * (1000000000 * (lead + 1)) := Int.mul_le_mul_of_nonneg_left (by omega) (Int.le_of_lt hP)
        rw [Int.mul_add _ _ 1, Int.mul_one] at this
        omega
      have p3 : (1000000000 * two) * BS ^ t < (1000000000 * (1000000000 * (lead + 1))) * BS ^ t := by
        rw [Int.mul_comm _ (BS ^ t), Int.mul_assoc, Int.mul_comm _ (BS ^ t)]
        omega
      have := mul_lt_cancel hP p3
      omega
    refine z_aload_n K d_M_place_82 rfl ?_
    refine zm_get K fd_M_9 rfl d_M_place_83 ?_
    refine z_iload K d_M_place_86 rfl ?_
    refine z_iload K d_M_place_88 rfl ?_
    refine zi_iadd K d_M_place_90 ?_
    refine z_iconst (v := jI 2) K d_M_place_91 rfl ?_
    refine zi_isub K d_M_place_92 ?_
    refine zm_cld K (by omega) d_M_place_93 ?_
    rw [ey]
    refine zi_i2l K d_M_place_94 (by omega) ?_
    refine z_goto (tgt := 99) K d_M_place_95 (by decide) ?_
    refine z_lstore K d_M_place_99 (by decide) ?_
    refine z_iload K d_M_place_101 rfl ?_
    refine z_iconst (v := jI 1) K d_M_place_103 rfl ?_
    refine zi_icmp_le (tgt := 123) K d_M_place_104 (by decide) (by omega) (by omega) (fun hc => absurd hc (by omega)) (fun hc => ?_)
    refine z_aload_n K d_M_place_107 rfl ?_
    refine zm_get K fd_M_9 rfl d_M_place_108 ?_
    refine z_iload K d_M_place_111 rfl ?_
    refine z_iload K d_M_place_113 rfl ?_
    refine zi_iadd K d_M_place_115 ?_
    refine z_iconst (v := jI 2) K d_M_place_116 rfl ?_
    refine zi_isub K d_M_place_117 ?_
    refine zm_cld K (by omega) d_M_place_118 ?_
    rw [ex]
    refine zi_i2l K d_M_place_119 (by omega) ?_
    refine z_goto (tgt := 124) K d_M_place_120 (by decide) ?_
    refine z_lstore K d_M_place_124 (by decide) ?_
    refine z_re [0, 1, 2, 3, 4, 5, 6, 7, 9, 11, 13, 15, 17] rfl ?_
    have f1 : W < (two / lead + 1) * B := by
      refine kd_first (P := BS ^ t * 1000000000) (Wl := dv T.1 (460 * x + j) t + BS ^ t * T.1 (460 * x + j + t)) (Bl := dv T.1 (460 * y) t + BS ^ t * T.1 (460 * y + t)) (by omega) (by rw [w1]; grind) ?_ (by rw [w2]; grind) ?_ (by omega) (by omega)
      · have : BS ^ t * (T.1 (460 * x + j + t) + 1) ≤ BS ^ t * 1000000000 := Int.mul_le_mul_of_nonneg_left (by omega) (Int.le_of_lt hP)
        rw [Int.mul_add, Int.mul_one] at this
        omega
      · have := Int.mul_nonneg (Int.le_of_lt hP) d5.1
        omega
    exact lp_M_place1 K T bB2 bW hWB ⟨hl, d3.2⟩ (by omega) w3 d5 d4 (fun g r q0 q1 q2 q3 => kd_dec hP w1 b1.2 w2 b2.1 q0 q2 q3)
      (fun g r q0 q1 q2 q3 q4 => kd_exit bW bB hP w1 b1.1 w2 b2.2 d5.1 d5.2 d4.1 (by omega) q0 q2 q3 q4)
      (fun g q0 q1 q2 q3 => fin g q0 q1 q2 q3) 1000000002 (two / lead) (two % lead) (by have := Int.ediv_lt_of_lt_mul (a := two) (b := 1000000002) (c := lead) (by omega) (by omega); omega) r3 (by have := Int.ediv_lt_of_lt_mul (a := two) (b := 1000000002) (c := lead) (by omega) (by omega); omega) (by rw [Int.mul_comm]; omega) r0 (by omega) f1
end M9
end
section
theorem norm_half {t b : Int} (ht : 1 ≤ t) (hb : 1 ≤ b) (h : 1000000000 < (t + 1) * (b + 1)) : 500000000 ≤ t * b := by
  have h1 := Int.mul_nonneg (show 0 ≤ t - 1 by omega) (show 0 ≤ b - 1 by omega)
  have e1 : (t - 1) * (b - 1) = t * b - t - b + 1 := by grind
  have e2 : (t + 1) * (b + 1) = t * b + t + b + 1 := by grind
  omega
theorem dv_hi {f : Int → Int} {b : Int} (n : Nat) : dv f b (n + 1) = dv f b n + f (b + n) * BS ^ n := rfl
section M10
variable {p : Program} {l : Launch} {e : Env} {R : Room} {s : State} {m : MethodId} {args : Array Value} {below : List Frame} {meth : Method} {c : Code} {Q : State → Prop} {b0 kc ks : Nat} {G : zG} {h : zH} {a : Nat} {cd : Int}
set_option maxHeartbeats 4000000 in
set_option maxRecDepth 100000 in
theorem lp_M_divide (K : zC p s m args c b_M_divide R_M 10 b0 G) (hRm : 1 ≤ R.frames ∧ 45 ≤ R.locals ∧ kc ≤ R.cells ∧ ks ≤ R.slots) (T : mT) {q x y by0 sg B A0 : Int} {n tp : Nat} (hq : q = -1 ∨ (0 ≤ q ∧ q < 56 ∧ q ≠ x ∧ q ≠ y)) (hx0 : 0 ≤ x ∧ x < 56) (hy0 : 0 ≤ y ∧ y < 56) (hxy : x ≠ y) (hn : 1 ≤ n) (htp : n ≤ tp) (htp2 : tp ≤ 458) (hgb : dg T.1 (460 * y) n) (hB : B = dv T.1 (460 * y) n) (hl : 500000000 ≤ T.1 (460 * y + (n - 1)))
    (hx : ∀ (C : Int → Int) (Qd : Int), dg C (460 * x) n → dv C (460 * x) n < B → A0 = dv C (460 * x) n + Qd * B → (0 ≤ q → dg C (460 * q) (tp - n + 1) ∧ dv C (460 * q) (tp - n + 1) = Qd) → (∀ z : Int, z < 460 * x ∨ 460 * x + 460 ≤ z → (q < 0 ∨ z < 460 * q ∨ 460 * q + 460 ≤ z) → C z = T.1 z) → zW p l e R s m args below meth c 10 b0 G kc ks Q (hm G h a cd (C, T.2)) 157 [(0, .ref a), (1, .int (jI q)), (2, .int (jI x)), (3, .int (jI y)), (4, .int (jI by0)), (5, .int (jI n)), (6, .int (jI tp)), (7, .int (jI sg))] []) :
    ∀ (i : Nat) (C : Int → Int) (Qd : Int), i + n ≤ tp + 1 → dg C (460 * x) (i + n) → dv C (460 * x + i) n < B → A0 = dv C (460 * x) (i + n) + BS ^ i * Qd * B → (0 ≤ q → dg C (460 * q + i) (tp - n + 1 - i) ∧ dv C (460 * q + i) (tp - n + 1 - i) = Qd) → (∀ z : Int, z < 460 * x ∨ 460 * x + 460 ≤ z → (q < 0 ∨ z < 460 * q ∨ 460 * q + 460 ≤ z) → C z = T.1 z) →
      zW p l e R s m args below meth c 10 b0 G kc ks Q (hm G h a cd (C, T.2)) 115 [(0, .ref a), (1, .int (jI q)), (2, .int (jI x)), (3, .int (jI y)), (4, .int (jI by0)), (5, .int (jI n)), (6, .int (jI tp)), (7, .int (jI sg)), (8, .int (jI (i - 1)))] [] := by
  intro i
  induction i with
  | zero =>
    intro C Qd hi hg hW hA hQ hC
    refine z_iload K d_M_divide_115 rfl ?_
    refine zi_if_lt (tgt := 157) K d_M_divide_117 (by decide) (by omega) (fun hc => ?_) (fun hc => absurd hc (by omega))
    simp only [Nat.zero_add, Int.natCast_zero, Int.add_zero, Nat.sub_zero, Int.pow_zero, Int.one_mul] at hg hW hA hQ
    exact z_re [0, 1, 2, 3, 4, 5, 6, 7] rfl (hx C Qd hg hW hA hQ hC)
  | succ i ih =>
    intro C Qd hi hg hW hA hQ hC
    rw [show ((i + 1 : Nat) : Int) - 1 = i by omega]
    have hgy : dg C (460 * y) n := fun k hk => by rw [hC _ (by omega) (by omega)]; exact hgb k hk
    have hBy : B = dv C (460 * y) n := by rw [hB]; exact dv_congr (fun k hk => (hC _ (by omega) (by omega)).symm)
    have hga : dg C (460 * x + i) (n + 1) := fun k hk => by
      have := hg (i + k) (by omega)
      rwa [show 460 * x + ((i + k : Nat) : Int) = 460 * x + i + k by omega] at this
    have hWlo : dv C (460 * x + i) (n + 1) = C (460 * x + i) + 1000000000 * dv C (460 * x + ((i + 1 : Nat) : Int)) n := by
      rw [dv_lo, show 460 * x + (i : Int) + 1 = 460 * x + ((i + 1 : Nat) : Int) by omega]
    have hc0 := hga 0 (by omega)
    rw [show 460 * x + (i : Int) + ((0 : Nat) : Int) = 460 * x + i by omega] at hc0
    refine z_iload K d_M_divide_115 rfl ?_
    refine zi_if_lt (tgt := 157) K d_M_divide_117 (by decide) (by omega) (fun hc => absurd hc (by omega)) (fun hc => ?_)
    refine z_aload_n K d_M_divide_120 rfl ?_
    refine z_iload_n K d_M_divide_121 rfl ?_
    refine z_iload_n K d_M_divide_122 rfl ?_
    refine z_iload K d_M_divide_123 rfl ?_
    refine z_iload K d_M_divide_125 rfl ?_
    refine z_callV (ci := 0) (As := [.int (jI x), .int (jI y), .int (jI i), .int (jI n)]) K (c_M_place l G b0 h a cd (C, T.2) hx0 hy0 hxy hn (by omega) hga hgy rfl hBy (by dsimp only; rw [hC _ (by omega) (by omega)]; exact hl) (by dsimp only; rw [hWlo]; omega)) ca_M_59 im_M_place se_M_place rfl (by decide) hm_0 rfl rfl (by omega) (Nat.le_of_ble_eq_true rfl) d_M_divide_127 (fun o h1 hp => ?_)
    obtain ⟨T1, rfl, dq, C1, rfl, rfl, k0, k1, k2, k3, k4, k5, k6⟩ := hp
    dsimp only at k4 k5 k6 ⊢
    have hA1 : A0 = dv C1 (460 * x) (i + n) + BS ^ i * (dq + 1000000000 * Qd) * B := by
      have a1 : dv C (460 * x) (i + 1 + n) = dv C (460 * x) i + BS ^ i * dv C (460 * x + i) (n + 1) := by
        rw [show i + 1 + n = i + (n + 1) by omega, dv_add]
      have a2 : dv C1 (460 * x) (i + n) = dv C (460 * x) i + BS ^ i * dv C1 (460 * x + i) n := by
        rw [dv_add, dv_congr (f := C1) (g := C) (c := 460 * x) (n := i) (fun k hk => k6 _ (by omega))]
      rw [hA, a1, a2, k4, Int.pow_succ]
      grind
    have hg1 : dg C1 (460 * x) (i + n) := fun k hk => by
      by_cases hki : k < i
      · rw [k6 _ (by omega)]; exact hg k (by omega)
      · have := k2 (k - i) (by omega)
        rwa [show 460 * x + (i : Int) + ((k - i : Nat) : Int) = 460 * x + k by omega] at this
    refine z_istore K d_M_divide_130 (by decide) ?_
    refine z_iload_n K d_M_divide_132 rfl ?_
    refine zi_if_lt (tgt := 151) K d_M_divide_133 (by decide) (by omega) (fun hcq => ?_) (fun hcq => ?_)
    · refine zi_iinc K d_M_divide_151 rfl (by decide) ?_
      refine z_goto (tgt := 115) K d_M_divide_154 (by decide) ?_
      refine z_re [0, 1, 2, 3, 4, 5, 6, 7, 8] rfl ?_
      exact ih C1 (dq + 1000000000 * Qd) (by omega) hg1 (by rw [k4]; exact k5) hA1 (fun z => absurd z (by omega)) (fun z z1 z2 => by rw [k6 _ (by omega)]; exact hC z z1 z2)
    · obtain ⟨q1, q2⟩ := hQ hcq
      refine z_aload_n K d_M_divide_136 rfl ?_
      refine zm_get K fd_M_9 rfl d_M_divide_137 ?_
      refine z_sipush (v := jI 460) K d_M_divide_140 rfl ?_
      refine z_iload_n K d_M_divide_143 rfl ?_
      refine zi_imul K d_M_divide_144 ?_
      refine z_iload K d_M_divide_145 rfl ?_
      refine zi_iadd K d_M_divide_147 ?_
      refine z_iload K d_M_divide_148 rfl ?_
      refine zm_cst K (by omega) d_M_divide_150 ?_
      refine zi_iinc K d_M_divide_151 rfl (by decide) ?_
      refine z_goto (tgt := 115) K d_M_divide_154 (by decide) ?_
      refine z_re [0, 1, 2, 3, 4, 5, 6, 7, 8] rfl ?_
      refine ih _ (dq + 1000000000 * Qd) (by omega) (fun k hk => ?_) ?_ ?_ (fun _ => ⟨fun k hk => ?_, ?_⟩) (fun z z1 z2 => ?_)
      · dsimp only
        rw [iu_ne _ _ (by omega)]; exact hg1 k hk
      · dsimp only
        rw [dv_iu (fun k hk => by omega), k4]; exact k5
      · dsimp only
        rw [dv_iu (fun k hk => by omega)]; exact hA1
      · dsimp only
        by_cases hk0 : k = 0
        · subst hk0; rw [show 460 * q + (i : Int) + ((0 : Nat) : Int) = 460 * q + i by omega, iu_self]; exact ⟨k0, k1⟩
        · rw [iu_ne _ _ (by omega), k6 _ (by omega)]
          have := q1 (k - 1) (by omega)
          rwa [show 460 * q + ((i + 1 : Nat) : Int) + ((k - 1 : Nat) : Int) = 460 * q + i + k by omega] at this
      · dsimp only
        rw [show tp - n + 1 - i = (tp - n + 1 - (i + 1)) + 1 by omega, dv_lo, iu_self, dv_iu (fun k hk => by omega), ← q2]
        congr 2
        rw [show 460 * q + (i : Int) + 1 = 460 * q + ((i + 1 : Nat) : Int) by omega]
        exact dv_congr (fun k hk => k6 _ (by omega))
      · dsimp only
        rw [iu_ne _ _ (by omega), k6 _ (by omega)]; exact hC z z1 z2
end M10
end
section
theorem Rg.uniq {T T' : mT} {r r' v : Int} {n m : Nat} (h : Rg T r n v) (h' : Rg T' r' m v) : n = m := Nat.le_antisymm (h.le h'.nn) (h'.le h.nn)
theorem tm_nat (v w : Int) : ((v.tmod w).natAbs : Int) = (v.natAbs : Int) % (w.natAbs : Int) := by rw [Int.natAbs_tmod]; rfl
theorem tm_sgn {v w : Int} (h : (v.tmod w).natAbs ≠ 0) : (v.tmod w).sign = v.sign := by
  rcases Int.lt_trichotomy v 0 with hv | hv | hv
  · have h1 : 0 ≤ (-v).tmod w := Int.tmod_nonneg _ (by omega)
    rw [Int.neg_tmod] at h1
    rw [Int.sign_eq_neg_one_of_neg hv, Int.sign_eq_neg_one_of_neg (by omega)]
  · subst hv; simp at h
  · have h1 : 0 ≤ v.tmod w := Int.tmod_nonneg _ (by omega)
    rw [Int.sign_eq_one_of_pos hv, Int.sign_eq_one_of_pos (by omega)]
theorem tm_small {v w : Int} (h : v.natAbs < w.natAbs) : v.tmod w = v := by
  have h1 : (v.tmod w).natAbs = v.natAbs := by rw [Int.natAbs_tmod, Nat.mod_eq_of_lt h]
  by_cases hv : v = 0
  · subst hv; simp
  · rw [← Int.sign_mul_natAbs (v.tmod w), tm_sgn (by omega), h1, Int.sign_mul_natAbs]
theorem Fr.of2 {T : mT} {C Z S : Int → Int} {r : Int} (rs : List Int) (hr : r ∈ rs) {zv sv : Int} (hZ : Z = iu T.2.1 r zv ∨ Z = T.2.1) (hS : S = iu T.2.2.1 r sv ∨ S = T.2.2.1) (hC : ∀ q : Int, q < 460 * r ∨ 460 * r + 460 ≤ q → C q = T.1 q) : Fr rs T (C, Z, S, T.2.2.2) := by
  refine ⟨rfl, fun q hq => ?_⟩
  have hq2 : q ≠ r := fun z => hq (by rw [z]; exact hr)
  refine ⟨?_, ?_, fun k h0 h1 => hC _ (by omega)⟩
  · show Z q = _
    rcases hZ with h | h
    · rw [h, iu_ne _ _ hq2]
    · rw [h]
  · show S q = _
    rcases hS with h | h
    · rw [h, iu_ne _ _ hq2]
    · rw [h]
/-- cells of a register that did not change -/
theorem dg_fr {f g : Int → Int} {b : Int} {n : Nat} (hg : dg f b n) (he : ∀ k : Nat, k < n → g (b + k) = f (b + k)) : dg g b n := fun k hk => by rw [he k hk]; exact hg k hk
section M11
variable {p : Program} {l : Launch} {e : Env} {R : Room} {s : State} {m : MethodId} {args : Array Value} {below : List Frame} {meth : Method} {c : Code} {Q : State → Prop} {b0 kc ks : Nat} {G : zG} {h : zH} {a : Nat} {cd : Int}
set_option maxHeartbeats 4000000 in
set_option maxRecDepth 100000 in
theorem t_M_divide180 (K : zC p s m args c b_M_divide R_M 10 b0 G) (hRm : 2 ≤ R.frames ∧ 50 ≤ R.locals ∧ kc ≤ R.cells ∧ ks ≤ R.slots) (T : mT) {q x y by0 v w : Int} {n tp : Nat} (hx0 : 0 ≤ x ∧ x < 56) (hy0 : 0 ≤ y ∧ y < 56) (hxy : x ≠ y) (hn : n ≤ 459) (hby : 0 < by0 ∧ by0 ≤ 1000000000) (hw : w ≠ 0) (hgx : dg T.1 (460 * x) n) (hvx : dv T.1 (460 * x) n = (v.natAbs : Int) % (w.natAbs : Int) * by0) (hzy : T.2.1 y = n) (hsy : T.2.2.1 y = w.sign) (hgy : dg T.1 (460 * y) n) (hvy : dv T.1 (460 * y) n = (w.natAbs : Int) * by0)
    (hx : ∀ T' : mT, (∃ N : Nat, Rg T' x N (v.tmod w)) → (∃ N : Nat, Rg T' y N w) → Fr [x, y] T T' → zW p l e R s m args below meth c 10 b0 G kc ks Q (hm G h a cd T') 209 [] []) :
    zW p l e R s m args below meth c 10 b0 G kc ks Q (hm G h a cd T) 180 [(0, .ref a), (1, .int (jI q)), (2, .int (jI x)), (3, .int (jI y)), (4, .int (jI by0)), (5, .int (jI n)), (6, .int (jI tp)), (7, .int (jI v.sign))] [] := by
  have hi32 : i32 by0 := ⟨by omega, by omega⟩
  refine z_aload_n K d_M_divide_180 rfl ?_
  refine zm_get K fd_M_16 rfl d_M_divide_181 ?_
  refine z_iload_n K d_M_divide_184 rfl ?_
  refine z_iload K d_M_divide_185 rfl ?_
  refine zm_sst K (by omega) d_M_divide_187 ?_
  refine z_aload_n K d_M_divide_188 rfl ?_
  refine z_iload_n K d_M_divide_189 rfl ?_
  refine z_iload K d_M_divide_190 rfl ?_
  refine z_callV (ci := 0) (As := [.int (jI x), .int (jI n)]) K (c_M_trim l G b0 h a cd (T.1, T.2.1, iu T.2.2.1 x v.sign, T.2.2.2) hx0 hn hgx) ca_M_53 im_M_trim se_M_trim rfl (by decide) hm_0 rfl rfl (by omega) (Nat.le_of_ble_eq_true rfl) d_M_divide_192 (fun o h1 hp => ?_)
  obtain ⟨T1, rfl, rfl, N, k1, k2, k3, rfl⟩ := hp
  dsimp only at k2 k3 ⊢
  rw [iu_iu, iu_self]
  refine z_aload_n K d_M_divide_195 rfl ?_
  refine z_iload_n K d_M_divide_196 rfl ?_
  refine z_iload K d_M_divide_197 rfl ?_
  refine z_callV (ci := 0) (As := [.int (jI x), .int (jI by0)]) K (c_M_bySmall l G b0 h a cd (T.1, iu T.2.1 x N, iu T.2.2.1 x (if N = 0 then 0 else v.sign), T.2.2.2) (u := (v.natAbs : Int) % (w.natAbs : Int) * by0) (n := N) hx0 hby ⟨iu_self _ _ _, by omega, fun k hk => hgx k (by omega), by rw [k3, hvx]⟩) ca_M_63 im_M_bySmall se_M_bySmall rfl (by decide) hm_0 rfl rfl (by omega) (Nat.le_of_ble_eq_true rfl) d_M_divide_199 (fun o h1 hp => ?_)
  obtain ⟨T1, rfl, rfl, N2, C2, rfl, j1, j2, j3, j4, j5⟩ := hp
  dsimp only at j5 ⊢
  rw [iu_iu, iu_iu, iu_self]
  rw [Int.mul_ediv_cancel _ (by omega), ← tm_nat] at j3
  have hyn : y ≠ x := fun z => hxy z.symm
  refine z_aload_n K d_M_divide_202 rfl ?_
  refine z_iload_n K d_M_divide_203 rfl ?_
  refine z_iload K d_M_divide_204 rfl ?_
  refine z_callV (ci := 0) (As := [.int (jI y), .int (jI by0)]) K (c_M_bySmall l G b0 h a cd (C2, iu T.2.1 x N2, iu T.2.2.1 x (if N2 = 0 then 0 else if N = 0 then 0 else v.sign), T.2.2.2) (u := (w.natAbs : Int) * by0) (n := n) hy0 hby ⟨(iu_ne _ _ hyn).trans hzy, hn, dg_fr hgy (fun k hk => j5 _ (by omega)), by rw [← hvy]; exact dv_congr (fun k hk => j5 _ (by omega))⟩) ca_M_63 im_M_bySmall se_M_bySmall rfl (by decide) hm_0 rfl rfl (by omega) (Nat.le_of_ble_eq_true rfl) d_M_divide_206 (fun o h1 hp => ?_)
  obtain ⟨T1, rfl, rfl, N3, C3, rfl, i1, i2, i3, i4, i5⟩ := hp
  dsimp only at i5 ⊢
  rw [iu_ne T.2.2.1 _ hyn, hsy]
  rw [Int.mul_ediv_cancel _ (by omega)] at i3
  refine z_re [] rfl (hx _ ⟨N2, ?_⟩ ⟨N3, ?_⟩ ?_)
  · refine ⟨(iu_ne _ _ hxy).trans (iu_self _ _ _), by omega, dg_fr j2 (fun k hk => i5 _ (by omega)), fun j hj => ?_, ?_, ?_⟩
    · dsimp only
      rw [i5 _ (by omega)]; exact j4 j hj
    · dsimp only
      rw [iu_ne _ _ hxy, iu_self]
      by_cases hN2 : N2 = 0
      · subst hN2
        rw [if_pos rfl]
        simp only [dv] at j3
        rw [show v.tmod w = 0 by omega]; rfl
      · have := dv_pos j2 hN2 j4
        rw [if_neg hN2, if_neg (by omega), tm_sgn (by omega)]
    · rw [← j3]
      exact dv_congr (fun k hk => (i5 _ (by omega)).symm)
  · refine ⟨iu_self _ _ _, by omega, i2, i4, ?_, i3.symm⟩
    dsimp only
    rw [iu_self]
    by_cases hN3 : N3 = 0
    · subst hN3
      simp only [dv] at i3
      omega
    · rw [if_neg hN3]
  · have f1 : Fr [x, y] T (C2, iu T.2.1 x N2, iu T.2.2.1 x (if N2 = 0 then 0 else if N = 0 then 0 else v.sign), T.2.2.2) := Fr.of2 _ (by simp) (Or.inl rfl) (Or.inl rfl) j5
    exact f1.tr (Fr.of2 (r := y) (sv := if N3 = 0 then 0 else w.sign) _ (by simp) (Or.inl rfl) (Or.inl rfl) i5)
set_option maxHeartbeats 4000000 in
set_option maxRecDepth 100000 in
theorem t_M_divide28 (K : zC p s m args c b_M_divide R_M 10 b0 G) (hRm : 2 ≤ R.frames ∧ 50 ≤ R.locals ∧ kc ≤ R.cells ∧ ks ≤ R.slots) (T : mT) {q x y v w : Int} {n1 n2 : Nat} (hq : q = -1 ∨ (0 ≤ q ∧ q < 56 ∧ q ≠ x ∧ q ≠ y)) (hx0 : 0 ≤ x ∧ x < 56) (hy0 : 0 ≤ y ∧ y < 56) (hxy : x ≠ y) (hx1 : Rg T x n1 v) (hy1 : Rg T y n2 w) (hw : w ≠ 0) (hb : n1 ≤ 457) (hvw : w.natAbs ≤ v.natAbs)
    (hx : ∀ T' : mT, (0 ≤ q → ∃ N : Nat, Rg T' q N ((v.natAbs : Int) / (w.natAbs : Int))) → (∃ N : Nat, Rg T' x N (v.tmod w)) → (∃ N : Nat, Rg T' y N w) → Fr [q, x, y] T T' → zW p l e R s m args below meth c 10 b0 G kc ks Q (hm G h a cd T') 209 [] []) :
    zW p l e R s m args below meth c 10 b0 G kc ks Q (hm G h a cd T) 28 [(0, .ref a), (1, .int (jI q)), (2, .int (jI x)), (3, .int (jI y))] [] := by
  obtain ⟨t, rfl⟩ : ∃ t, n2 = t + 1 := ⟨n2 - 1, by have := hy1.zero; omega⟩
  have hyx : y ≠ x := fun z => hxy z.symm
  have hxn := hx1.2.1
  have hyn := hy1.2.1
  have hnn : t + 1 ≤ n1 := hy1.le (by have := hx1.nn; omega)
  have tg := hy1.2.2.1 t (by omega)
  have tz := hy1.2.2.2.1 t rfl
  have hyv := hy1.2.2.2.2.2
  obtain ⟨tt, htt⟩ : ∃ tt : Int, tt = T.1 (460 * y + t) := ⟨_, rfl⟩
  rw [← htt] at tg tz
  obtain ⟨by0, hby0⟩ : ∃ z : Int, z = 1000000000 / (tt + 1) := ⟨_, rfl⟩
  have hP := BS_pos t
  have b1 := Int.mul_ediv_add_emod 1000000000 (tt + 1)
  have b2 := Int.emod_nonneg 1000000000 (show tt + 1 ≠ 0 by omega)
  have b3 := Int.emod_lt_of_pos 1000000000 (show 0 < tt + 1 by omega)
  rw [← hby0] at b1
  have b4 : 1 ≤ by0 := by
    by_cases z : 1 ≤ by0
    · exact z
    · have z2 : (tt + 1) * by0 ≤ (tt + 1) * 0 := Int.mul_le_mul_of_nonneg_left (by omega) (by omega)
      omega
  have b5 : by0 ≤ 500000000 := by
    have : 2 * by0 ≤ (tt + 1) * by0 := Int.mul_le_mul_of_nonneg_right (by omega) (by omega)
    omega
  have b6 : (tt + 1) * by0 ≤ 1000000000 := by omega
  have b7 : 500000000 ≤ tt * by0 := norm_half (by omega) b4 (by rw [Int.mul_add, Int.mul_one]; omega)
  refine z_ldc (v := jI 1000000000) K d_M_divide_28 kc_M_52 ?_
  refine z_aload_n K d_M_divide_30 rfl ?_
  refine zm_get K fd_M_9 rfl d_M_divide_31 ?_
  refine z_sipush (v := jI 460) K d_M_divide_34 rfl ?_
  refine z_iload_n K d_M_divide_37 rfl ?_
  refine zi_imul K d_M_divide_38 ?_
  refine z_aload_n K d_M_divide_39 rfl ?_
  refine zm_get K fd_M_13 rfl d_M_divide_40 ?_
  refine z_iload_n K d_M_divide_43 rfl ?_
  refine zm_zld K (by omega) d_M_divide_44 ?_
  refine zi_iadd K d_M_divide_45 ?_
  refine z_iconst (v := jI 1) K d_M_divide_46 rfl ?_
  refine zi_isub K d_M_divide_47 ?_
  rw [hy1.1, show 460 * y + ((t + 1 : Nat) : Int) - 1 = 460 * y + t by omega]
  refine zm_cld K (by omega) d_M_divide_48 ?_
  rw [← htt]
  refine z_iconst (v := jI 1) K d_M_divide_49 rfl ?_
  refine zi_iadd K d_M_divide_50 ?_
  refine zi_idiv K d_M_divide_51 (by omega) (by omega) (by omega) ?_
  refine z_istore K d_M_divide_52 (by decide) ?_
  rw [tdiv_pos (by decide), ← hby0]
  refine z_aload_n K d_M_divide_54 rfl ?_
  refine z_iload_n K d_M_divide_55 rfl ?_
  refine z_iload K d_M_divide_56 rfl ?_
  refine zi_i2l K d_M_divide_58 (by omega) ?_
  refine z_callV (ci := 0) (As := [.int (jI x), .long (kI by0)]) K (c_M_timesSmall l G b0 h a cd T hx0 (v := by0) ⟨by omega, by omega⟩ (by omega) hx1.mg) ca_M_56 im_M_timesSmall se_M_timesSmall rfl (by decide) hm_0 rfl rfl (by omega) (Nat.le_of_ble_eq_true rfl) d_M_divide_59 (fun o h1 hp => ?_)
  obtain ⟨T1, rfl, rfl, N1, C1, rfl, k1, k2, k3, k4, k5, k6⟩ := hp
  refine z_aload_n K d_M_divide_62 rfl ?_
  refine z_iload_n K d_M_divide_63 rfl ?_
  refine z_iload K d_M_divide_64 rfl ?_
  refine zi_i2l K d_M_divide_66 (by omega) ?_
  refine z_callV (ci := 0) (As := [.int (jI y), .long (kI by0)]) K (c_M_timesSmall l G b0 h a cd (C1, iu T.2.1 x N1, T.2.2) hy0 (v := by0) (u := w.natAbs) (n := t + 1) ⟨by omega, by omega⟩ (by omega) ⟨(iu_ne _ _ hyx).trans hy1.1, hyn, dg_fr hy1.2.2.1 (fun k hk => k6 _ (by omega)), by rw [hyv]; exact dv_congr (fun k hk => k6 _ (by omega))⟩) ca_M_56 im_M_timesSmall se_M_timesSmall rfl (by decide) hm_0 rfl rfl (by omega) (Nat.le_of_ble_eq_true rfl) d_M_divide_67 (fun o h1 hp => ?_)
  obtain ⟨T1, rfl, rfl, N2, C2, rfl, j1, j2, j3, j4, j5, j6⟩ := hp
  dsimp only at j6 ⊢
  have hwlt : (w.natAbs : Int) < (tt + 1) * BS ^ t := by
    rw [hyv, dv_hi, ← htt, Int.add_mul, Int.one_mul]
    have := (dv_bd (f := T.1) (b := 460 * y) (n := t) (fun k hk => hy1.2.2.1 k (by omega))).2
    omega
  have hwge : tt * BS ^ t ≤ (w.natAbs : Int) := by
    rw [hyv, dv_hi, ← htt]
    have := (dv_bd (f := T.1) (b := 460 * y) (n := t) (fun k hk => hy1.2.2.1 k (by omega))).1
    omega
  have hBlt : (w.natAbs : Int) * by0 < BS ^ (t + 1) := by
    have z1 : (w.natAbs : Int) * by0 < (tt + 1) * BS ^ t * by0 := Int.mul_lt_mul_of_pos_right hwlt (by omega)
    have z2 : (tt + 1) * by0 * BS ^ t ≤ 1000000000 * BS ^ t := Int.mul_le_mul_of_nonneg_right b6 (Int.le_of_lt hP)
    have z3 : (tt + 1) * BS ^ t * by0 = (tt + 1) * by0 * BS ^ t := by grind
    rw [Int.pow_succ, Int.mul_comm (BS ^ t)]
    show _ < 1000000000 * BS ^ t
    omega
  have hBge : tt * by0 * BS ^ t ≤ (w.natAbs : Int) * by0 := by
    have z1 : tt * BS ^ t * by0 ≤ (w.natAbs : Int) * by0 := Int.mul_le_mul_of_nonneg_right hwge (by omega)
    have z3 : tt * BS ^ t * by0 = tt * by0 * BS ^ t := by grind
    omega
  have hN2 : N2 = t + 1 := by
    by_cases z : N2 = t + 1
    · exact z
    · have z2 : N2 = t + 1 + 1 := by omega
      subst z2
      have z3 := j3 rfl
      have z4 := j4 (t + 1) (by omega)
      rw [dv_hi] at j5
      have z5 := (dv_bd (f := C2) (b := 460 * y) (n := t + 1) (fun k hk => j4 k (by omega))).1
      have z6 : 1 * BS ^ (t + 1) ≤ C2 (460 * y + ((t + 1 : Nat) : Int)) * BS ^ (t + 1) := Int.mul_le_mul_of_nonneg_right (by omega) (Int.le_of_lt (BS_pos (t + 1)))
      omega
  subst hN2
  have hlead : 500000000 ≤ C2 (460 * y + t) := by
    have z5 := (dv_bd (f := C2) (b := 460 * y) (n := t) (fun k hk => j4 k (by omega))).2
    rw [dv_hi] at j5
    have z6 : tt * by0 * BS ^ t < (C2 (460 * y + t) + 1) * BS ^ t := by rw [Int.add_mul, Int.one_mul]; omega
    have := mul_lt_cancel hP z6
    omega
  refine z_aload_n K d_M_divide_70 rfl ?_
  refine zm_get K fd_M_13 rfl d_M_divide_71 ?_
  refine z_iload_n K d_M_divide_74 rfl ?_
  refine zm_zld K (by omega) d_M_divide_75 ?_
  refine z_istore K d_M_divide_76 (by decide) ?_
  dsimp only
  rw [iu_self]
  refine z_aload_n K d_M_divide_78 rfl ?_
  refine zm_get K fd_M_13 rfl d_M_divide_79 ?_
  refine z_iload_n K d_M_divide_82 rfl ?_
  refine zm_zld K (by omega) d_M_divide_83 ?_
  refine z_istore K d_M_divide_84 (by decide) ?_
  dsimp only
  rw [iu_ne _ _ hxy, iu_self]
  refine z_aload_n K d_M_divide_86 rfl ?_
  refine zm_get K fd_M_9 rfl d_M_divide_87 ?_
  refine z_sipush (v := jI 460) K d_M_divide_90 rfl ?_
  refine z_iload_n K d_M_divide_93 rfl ?_
  refine zi_imul K d_M_divide_94 ?_
  refine z_iload K d_M_divide_95 rfl ?_
  refine zi_iadd K d_M_divide_97 ?_
  refine z_iconst (v := jI 0) K d_M_divide_98 rfl ?_
  refine zm_cst K (by omega) d_M_divide_99 ?_
  refine z_aload_n K d_M_divide_100 rfl ?_
  refine zm_get K fd_M_16 rfl d_M_divide_101 ?_
  refine z_iload_n K d_M_divide_104 rfl ?_
  refine zm_sld K (by omega) d_M_divide_105 ?_
  refine z_istore K d_M_divide_106 (by decide) ?_
  dsimp only
  rw [hx1.2.2.2.2.1]
  refine z_iload K d_M_divide_108 rfl ?_
  refine z_iload K d_M_divide_110 rfl ?_
  refine zi_isub K d_M_divide_112 ?_
  refine z_istore K d_M_divide_113 (by decide) ?_
  rw [show (N1 : Int) - ((t + 1 : Nat) : Int) = ((N1 - (t + 1) + 1 : Nat) : Int) - 1 by omega]
  refine z_re [0, 1, 2, 3, 4, 5, 6, 7, 8] rfl ?_
  have hB : (w.natAbs : Int) * by0 = dv (iu C2 (460 * x + N1) 0) (460 * y) (t + 1) := by rw [dv_iu (fun k hk => by omega)]; exact j5.symm
  have gX : dg (iu C2 (460 * x + N1) 0) (460 * x) (N1 + 1) := fun k hk => by
    by_cases z : k = N1
    · subst z; rw [iu_self]; omega
    · rw [iu_ne _ _ (by omega), j6 _ (by omega)]; exact k4 k (by omega)
  have vX : dv (iu C2 (460 * x + N1) 0) (460 * x) (N1 + 1) = (v.natAbs : Int) * by0 := by
    rw [dv_hi, iu_self, dv_iu (fun k hk => by omega), ← k5, dv_congr (f := C2) (g := C1) (c := 460 * x) (n := N1) (fun k hk => j6 _ (by omega))]
    omega
  refine lp_M_divide K ⟨by omega, by omega, by omega, by omega⟩ (iu C2 (460 * x + N1) 0, iu (iu T.2.1 x N1) y (t + 1 : Nat), T.2.2) hq hx0 hy0 hxy (by omega) (by omega) (by omega) (dg_fr j4 (fun k hk => iu_ne _ _ (by omega))) hB (by dsimp only; rw [show 460 * y + (((t + 1 : Nat) : Int) - 1) = 460 * y + t by omega, iu_ne _ _ (by omega)]; exact hlead) (A0 := (v.natAbs : Int) * by0) (fun C Qd g1 g2 g3 g4 g5 => ?_) (N1 - (t + 1) + 1) _ 0 (by omega) (fun k hk => gX k (by omega)) ?_ ?_ (fun _ => ?_) (fun z _ _ => rfl)
  · dsimp only at g5
    have hd := dv_bd g1
    have hQd : Qd = (v.natAbs : Int) / (w.natAbs : Int) ∧ dv C (460 * x) (t + 1) = (v.natAbs : Int) % (w.natAbs : Int) * by0 := by
      have w0 : 0 < (w.natAbs : Int) * by0 := Int.mul_pos (by omega) (by omega)
      have e1 : (v.natAbs : Int) * by0 / ((w.natAbs : Int) * by0) = Qd := by
        rw [g3, Int.add_mul_ediv_right _ _ (by omega), Int.ediv_eq_zero_of_lt hd.1 g2, Int.zero_add]
      have e2 : (v.natAbs : Int) * by0 % ((w.natAbs : Int) * by0) = dv C (460 * x) (t + 1) := by
        rw [g3, Int.add_mul_emod_self_right, Int.emod_eq_of_lt hd.1 g2]
      rw [← e1, ← e2, Int.mul_comm (v.natAbs : Int), Int.mul_comm (w.natAbs : Int), Int.mul_ediv_mul_of_pos _ _ (by omega), Int.mul_emod_mul_of_pos _ _ (by omega), Int.mul_comm by0]
      exact ⟨rfl, rfl⟩
    have fC : ∀ z : Int, z < 460 * x ∨ 460 * x + 460 ≤ z → z < 460 * y ∨ 460 * y + 460 ≤ z → (q < 0 ∨ z < 460 * q ∨ 460 * q + 460 ≤ z) → C z = T.1 z := fun z z1 z2 z3 => by rw [g5 z z1 z3, iu_ne _ _ (by omega), j6 z z2, k6 z z1]
    have gy : ∀ k : Nat, k < t + 1 → C (460 * y + k) = C2 (460 * y + k) := fun k hk => by rw [g5 _ (by omega) (by omega), iu_ne _ _ (by omega)]
    refine z_iload_n K d_M_divide_157 rfl ?_
    refine zi_if_lt (tgt := 180) K d_M_divide_158 (by decide) (by omega) (fun hc => ?_) (fun hc => ?_)
    · refine t_M_divide180 K hRm _ hx0 hy0 hxy hyn ⟨by omega, by omega⟩ hw g1 hQd.2 (iu_self _ _ _) hy1.2.2.2.2.1 (dg_fr j4 gy) (by rw [← j5]; exact dv_congr gy) (fun T' r1 r2 r3 => hx T' (fun z => absurd z (by omega)) r1 r2 ?_)
      refine ⟨r3.1, fun z hz => ?_⟩
      have z1 : z ≠ x := fun e => hz (by rw [e]; simp)
      have z2 : z ≠ y := fun e => hz (by rw [e]; simp)
      have r4 := r3.2 z (by simp [z1, z2])
      dsimp only at r4
      rw [iu_ne _ _ z2, iu_ne _ _ z1] at r4
      exact ⟨r4.1, r4.2.1, fun k h0 h1 => (r4.2.2 k h0 h1).trans (fC _ (by omega) (by omega) (by omega))⟩
    · obtain ⟨q1, q2⟩ := g4 hc
      have hq2 : 0 ≤ q ∧ q < 56 ∧ q ≠ x ∧ q ≠ y := by omega
      refine z_aload_n K d_M_divide_161 rfl ?_
      refine zm_get K fd_M_16 rfl d_M_divide_162 ?_
      refine z_iload_n K d_M_divide_165 rfl ?_
      refine z_iconst (v := jI 1) K d_M_divide_166 rfl ?_
      refine zm_sst K (by omega) d_M_divide_167 ?_
      refine z_aload_n K d_M_divide_168 rfl ?_
      refine z_iload_n K d_M_divide_169 rfl ?_
      refine z_iload K d_M_divide_170 rfl ?_
      refine z_iload K d_M_divide_172 rfl ?_
      refine zi_isub K d_M_divide_174 ?_
      refine z_iconst (v := jI 1) K d_M_divide_175 rfl ?_
      refine zi_iadd K d_M_divide_176 ?_
      rw [show (N1 : Int) - ((t + 1 : Nat) : Int) + 1 = ((N1 - (t + 1) + 1 : Nat) : Int) by omega]
      dsimp only
      refine z_callV (ci := 0) (As := [.int (jI q), .int (jI (N1 - (t + 1) + 1 : Nat))]) K (c_M_trim l G b0 h a cd (C, iu (iu T.2.1 x N1) y (t + 1 : Nat), iu T.2.2.1 q 1, T.2.2.2) ⟨hq2.1, hq2.2.1⟩ (by omega) q1) ca_M_53 im_M_trim se_M_trim rfl (by decide) hm_0 rfl rfl (by omega) (Nat.le_of_ble_eq_true rfl) d_M_divide_177 (fun o h1 hp => ?_)
      obtain ⟨T1, rfl, rfl, Nq, i1, i2, i3, rfl⟩ := hp
      dsimp only at i2 i3 ⊢
      rw [iu_iu, iu_self]
      have hyq : y ≠ q := fun z => hq2.2.2.2 z.symm
      have hxq : x ≠ q := fun z => hq2.2.2.1 z.symm
      refine t_M_divide180 K hRm _ hx0 hy0 hxy hyn ⟨by omega, by omega⟩ hw g1 hQd.2 ((iu_ne _ _ hyq).trans (iu_self _ _ _)) ((iu_ne _ _ hyq).trans hy1.2.2.2.2.1) (dg_fr j4 gy) (by rw [← j5]; exact dv_congr gy) (fun T' r1 r2 r3 => hx T' (fun _ => ⟨Nq, ?_⟩) r1 r2 ?_)
      · have hrg : Rg (C, iu (iu (iu T.2.1 x N1) y (t + 1 : Nat)) q Nq, iu T.2.2.1 q (if Nq = 0 then 0 else 1), T.2.2.2) q Nq ((v.natAbs : Int) / (w.natAbs : Int)) := by
          have hpos : 0 ≤ (v.natAbs : Int) / (w.natAbs : Int) := Int.ediv_nonneg (by omega) (by omega)
          have hval : (((v.natAbs : Int) / (w.natAbs : Int)).natAbs : Int) = dv C (460 * q) Nq := by rw [i3, q2, hQd.1]; omega
          refine ⟨iu_self _ _ _, by omega, fun k hk => q1 k (by omega), i2, ?_, hval⟩
          dsimp only
          rw [iu_self]
          by_cases z : Nq = 0
          · subst z
            simp only [dv] at hval
            rw [if_pos rfl, show (v.natAbs : Int) / (w.natAbs : Int) = 0 by omega]; rfl
          · have := dv_pos (f := C) (b := 460 * q) (fun k hk => q1 k (by omega)) z i2
            rw [if_neg z, Int.sign_eq_one_of_pos (by omega)]
        exact hrg.fr r3 (by simp [hq2.2.2.1, hq2.2.2.2])
      · refine ⟨r3.1, fun z hz => ?_⟩
        have z1 : z ≠ x := fun e => hz (by rw [e]; simp)
        have z2 : z ≠ y := fun e => hz (by rw [e]; simp)
        have z3 : z ≠ q := fun e => hz (by rw [e]; simp)
        have r4 := r3.2 z (by simp [z1, z2])
        dsimp only at r4
        rw [iu_ne _ _ z3, iu_ne _ _ z2, iu_ne _ _ z1, iu_ne _ _ z3] at r4
        exact ⟨r4.1, r4.2.1, fun k h0 h1 => (r4.2.2 k h0 h1).trans (fC _ (by omega) (by omega) (by omega))⟩
  · have e1 : dv (iu C2 (460 * x + N1) 0) (460 * x + ((N1 - (t + 1) + 1 : Nat) : Int)) (t + 1) < BS ^ t := by
      rw [dv_hi, show 460 * x + ((N1 - (t + 1) + 1 : Nat) : Int) + t = 460 * x + N1 by omega, iu_self]
      have := (dv_bd (f := iu C2 (460 * x + N1) 0) (b := 460 * x + ((N1 - (t + 1) + 1 : Nat) : Int)) (n := t) (fun k hk => by
        have := gX (N1 - (t + 1) + 1 + k) (by omega)
        rwa [show 460 * x + ((N1 - (t + 1) + 1 + k : Nat) : Int) = 460 * x + ((N1 - (t + 1) + 1 : Nat) : Int) + k by omega] at this)).2
      omega
    have e2 : 1 * BS ^ t ≤ tt * by0 * BS ^ t := Int.mul_le_mul_of_nonneg_right (by omega) (Int.le_of_lt hP)
    omega
  · rw [show N1 - (t + 1) + 1 + (t + 1) = N1 + 1 by omega, vX, Int.mul_zero, Int.zero_mul, Int.add_zero]
  · rw [show N1 - (t + 1) + 1 - (N1 - (t + 1) + 1) = 0 by omega]
    exact ⟨fun k hk => absurd hk (by omega), rfl⟩
set_option maxHeartbeats 4000000 in
set_option maxRecDepth 100000 in
/-- divide(q, x, y): the register q, if it is one, holds the quotient of the sizes; x holds the rest, with its own sign; y stays -/
theorem c_M_divide (l : Launch) (G : zG) (b0 : Nat) (h : zH) (a : Nat) (cd : Int) (T : mT) {q x y v w : Int} {n1 n2 : Nat} (hq : q = -1 ∨ (0 ≤ q ∧ q < 56 ∧ q ≠ x ∧ q ≠ y)) (hx0 : 0 ≤ x ∧ x < 56) (hy0 : 0 ≤ y ∧ y < 56) (hxy : x ≠ y) (hx1 : Rg T x n1 v) (hy1 : Rg T y n2 w) (hw : w ≠ 0) (hb : n1 ≤ 457) :
    mMet l G b0 y_M_divide b_M_divide 10 none 2 50 h a cd [.int (jI q), .int (jI x), .int (jI y)] T (fun o T' => o = none ∧ (0 ≤ q → ∃ N : Nat, Rg T' q N ((v.natAbs : Int) / (w.natAbs : Int))) ∧ (∃ N : Nat, Rg T' x N (v.tmod w)) ∧ (∃ N : Nat, Rg T' y N w) ∧ Fr [q, x, y] T T') :=
  z_met (by decide) (Nat.le_of_ble_eq_true rfl) fun p e s m below meth c K hr hlk hnm => by
  refine z_iload_n K d_M_divide_0 rfl ?_
  refine zi_if_lt (tgt := 18) K d_M_divide_1 (by decide) (by omega) (fun hc => ?_) (fun hc => ?_)
  · refine z_aload_n K d_M_divide_18 rfl ?_
    refine z_iload_n K d_M_divide_19 rfl ?_
    refine z_iload_n K d_M_divide_20 rfl ?_
    refine z_callV (ci := 0) (As := [.int (jI x), .int (jI y)]) K (c_M_compare l G b0 h a cd T hx0 hy0 hx1 hy1) ca_M_36 im_M_compare se_M_compare rfl (by decide) hm_0 rfl rfl (by decide) (Nat.le_of_ble_eq_true rfl) d_M_divide_21 (fun o h1 hp => ?_)
    obtain ⟨T1, rfl, rfl, z, rfl, hz, hz1, hz2⟩ := hp
    refine zi_if_ge (tgt := 28) K d_M_divide_24 (by decide) hz (fun hc2 => ?_) (fun hc2 => ?_)
    · have hvw : w.natAbs ≤ v.natAbs := by
        have : ¬ v.natAbs < w.natAbs := fun z => by have := hz1.mpr z; omega
        omega
      exact z_re [0, 1, 2, 3] rfl (t_M_divide28 K ⟨Nat.le_refl _, Nat.le_refl _, Nat.le_refl _, Nat.le_refl _⟩ T hq hx0 hy0 hxy hx1 hy1 hw hb hvw (fun T' r1 r2 r3 r4 => z_vret K hr hlk d_M_divide_209 ⟨_, rfl, rfl, r1, r2, r3, r4⟩))
    · have hvw := hz1.mp hc2
      exact z_vret K hr hlk d_M_divide_27 ⟨_, rfl, rfl, fun z => absurd z (by omega), ⟨n1, by rw [tm_small hvw]; exact hx1⟩, ⟨n2, hy1⟩, Fr.rf⟩
  · have hq2 : 0 ≤ q ∧ q < 56 ∧ q ≠ x ∧ q ≠ y := by omega
    refine z_aload_n K d_M_divide_4 rfl ?_
    refine zm_get K fd_M_13 rfl d_M_divide_5 ?_
    refine z_iload_n K d_M_divide_8 rfl ?_
    refine z_iconst (v := jI 0) K d_M_divide_9 rfl ?_
    refine zm_zst K (by omega) d_M_divide_10 ?_
    refine z_aload_n K d_M_divide_11 rfl ?_
    refine zm_get K fd_M_16 rfl d_M_divide_12 ?_
    refine z_iload_n K d_M_divide_15 rfl ?_
    refine z_iconst (v := jI 0) K d_M_divide_16 rfl ?_
    refine zm_sst K (by omega) d_M_divide_17 ?_
    have f0 : Fr [q, x, y] T (T.1, iu T.2.1 q 0, iu T.2.2.1 q 0, T.2.2.2) := Fr.of2 (r := q) _ (by simp) (Or.inl rfl) (Or.inl rfl) (fun z _ => rfl)
    have f1 : Fr [q] T (T.1, iu T.2.1 q 0, iu T.2.2.1 q 0, T.2.2.2) := Fr.of2 (r := q) _ (by simp) (Or.inl rfl) (Or.inl rfl) (fun z _ => rfl)
    have hx2 := hx1.fr f1 (by simp; exact fun z => hq2.2.2.1 z.symm)
    have hy2 := hy1.fr f1 (by simp; exact fun z => hq2.2.2.2 z.symm)
    refine z_aload_n K d_M_divide_18 rfl ?_
    refine z_iload_n K d_M_divide_19 rfl ?_
    refine z_iload_n K d_M_divide_20 rfl ?_
    refine z_callV (ci := 0) (As := [.int (jI x), .int (jI y)]) K (c_M_compare l G b0 h a cd _ hx0 hy0 hx2 hy2) ca_M_36 im_M_compare se_M_compare rfl (by decide) hm_0 rfl rfl (by decide) (Nat.le_of_ble_eq_true rfl) d_M_divide_21 (fun o h1 hp => ?_)
    obtain ⟨T1, rfl, rfl, z, rfl, hz, hz1, hz2⟩ := hp
    refine zi_if_ge (tgt := 28) K d_M_divide_24 (by decide) hz (fun hc2 => ?_) (fun hc2 => ?_)
    · have hvw : w.natAbs ≤ v.natAbs := by
        have : ¬ v.natAbs < w.natAbs := fun z => by have := hz1.mpr z; omega
        omega
      exact z_re [0, 1, 2, 3] rfl (t_M_divide28 K ⟨Nat.le_refl _, Nat.le_refl _, Nat.le_refl _, Nat.le_refl _⟩ _ hq hx0 hy0 hxy hx2 hy2 hw hb hvw (fun T' r1 r2 r3 r4 => z_vret K hr hlk d_M_divide_209 ⟨_, rfl, rfl, r1, r2, r3, f0.tr r4⟩))
    · have hvw := hz1.mp hc2
      refine z_vret K hr hlk d_M_divide_27 ⟨_, rfl, rfl, fun _ => ⟨0, ?_⟩, ⟨n1, by rw [tm_small hvw]; exact hx2⟩, ⟨n2, hy2⟩, f0⟩
      rw [Int.ediv_eq_zero_of_lt (by omega) (by omega)]
      exact ⟨iu_self _ _ _, by omega, fun k hk => absurd hk (by omega), fun j hj => absurd hj (by omega), (iu_self _ _ _).trans rfl, rfl⟩
end M11
end
section
/-! all registers at once: V tells what each holds -/
def RV (T : mT) (V : Int → Int) : Prop := ∀ r : Int, 0 ≤ r → r < 56 → ∃ n : Nat, Rg T r n (V r)
/-- so many cells are enough for it -/
def lt9 (v : Int) (m : Nat) : Prop := (v.natAbs : Int) < BS ^ m
theorem lt9_u {v : Int} {m : Nat} (h : lt9 v m) : (v.natAbs : Int) < BS ^ m := h
theorem lt9_mono {v : Int} {m n : Nat} (h : lt9 v m) (hm : m ≤ n) : lt9 v n := Int.lt_of_lt_of_le h (BS_mono hm)
theorem lt9_mul {v w : Int} {m n : Nat} (h : lt9 v m) (h' : lt9 w n) : lt9 (v * w) (m + n) := by
  show ((v * w).natAbs : Int) < _
  rw [Int.natAbs_mul, Int.pow_add]
  have h1 := BS_pos m
  have h2 := BS_pos n
  have h3 : (v.natAbs : Int) * (w.natAbs : Int) ≤ (v.natAbs : Int) * BS ^ n := Int.mul_le_mul_of_nonneg_left (Int.le_of_lt h') (by omega)
  have h4 : (v.natAbs : Int) * BS ^ n < BS ^ m * BS ^ n := Int.mul_lt_mul_of_pos_right h h2
  rw [Int.natCast_mul]
  omega
theorem lt9_add {v w : Int} {m n : Nat} (h : lt9 v m) (h' : lt9 w n) : lt9 (v + w) (max m n + 1) := by
  have h1 := lt9_u (lt9_mono h (Nat.le_max_left m n))
  have h2 := lt9_u (lt9_mono h' (Nat.le_max_right m n))
  have h3 : ((v + w).natAbs : Int) ≤ v.natAbs + w.natAbs := by omega
  show ((v + w).natAbs : Int) < _
  rw [Int.pow_succ]
  have := BS_pos (max m n)
  show _ < BS ^ (max m n) * 1000000000
  omega
theorem lt9_sub {v w : Int} {m n : Nat} (h : lt9 v m) (h' : lt9 w n) : lt9 (v - w) (max m n + 1) := by
  have := lt9_add (w := -w) h (by show ((-w).natAbs : Int) < _; rw [Int.natAbs_neg]; exact h')
  rwa [← Int.sub_eq_add_neg] at this
theorem RV.up {T T' : mT} {V : Int → Int} {r v : Int} {n : Nat} (h : RV T V) (hr : Rg T' r n v) (hf : Fr [r] T T') : RV T' (iu V r v) := fun q h0 h1 => by
  by_cases hq : q = r
  · subst hq; rw [iu_self]; exact ⟨n, hr⟩
  · obtain ⟨m, hm⟩ := h q h0 h1
    rw [iu_ne _ _ hq]
    exact ⟨m, hm.fr hf (by simp [hq])⟩
theorem RV.lt {T : mT} {V : Int → Int} {r : Int} {n m : Nat} (hr : Rg T r n (V r)) (hl : lt9 (V r) m) : n ≤ m := hr.le (by exact hl)
theorem zMet_imp {l : Launch} {G : zG} {b0 maxL d lw mc ms : Nat} {y : MethodName} {code : ByteArray} {ret : Option FieldType} {as : List Value} {h : zH} {post post' : Option Value → zH → Prop} (hM : zMet l G b0 y code maxL ret d lw mc ms as h post) (hi : ∀ r h', post r h' → post' r h') : zMet l G b0 y code maxL ret d lw mc ms as h post' := fun p e h1 h2 h3 s m args below h4 h5 h6 h7 => by
  obtain ⟨n, o, a1, a2, a3, ⟨⟨⟨r, h', e1, e2, e3⟩, e4⟩, e5⟩⟩ := hM p e h1 h2 h3 s m args below h4 h5 h6 h7
  exact ⟨n, o, a1, a2, a3, ⟨⟨⟨r, h', e1, hi r h' e2, e3⟩, e4⟩, e5⟩⟩
theorem td_nat (a b : Nat) : (a : Int).tdiv b = (a : Int).sign * (b : Int).sign * ((a : Int) / (b : Int)) := by
  rw [Int.tdiv_eq_ediv_of_nonneg (by omega)]
  by_cases ha : a = 0
  · subst ha; simp
  · by_cases hb : b = 0
    · subst hb; simp
    · rw [Int.sign_eq_one_of_pos (show (0 : Int) < a by omega), Int.sign_eq_one_of_pos (show (0 : Int) < b by omega)]; omega
theorem td_abs (x y : Int) : x.tdiv y = x.sign * y.sign * ((x.natAbs : Int) / (y.natAbs : Int)) := by
  obtain ⟨a, rfl | rfl⟩ := Int.eq_nat_or_neg x <;> obtain ⟨b, rfl | rfl⟩ := Int.eq_nat_or_neg y
  · exact td_nat a b
  · rw [Int.tdiv_neg, td_nat, Int.sign_neg, Int.natAbs_neg]; simp only [Int.natAbs_natCast]; grind
  · rw [Int.neg_tdiv, td_nat, Int.sign_neg, Int.natAbs_neg]; simp only [Int.natAbs_natCast]; grind
  · rw [Int.neg_tdiv, Int.tdiv_neg, td_nat, Int.sign_neg, Int.sign_neg, Int.natAbs_neg, Int.natAbs_neg]; simp only [Int.natAbs_natCast]; grind
theorem gcd_tm (x y : Int) : Int.gcd (x.tmod y) y = Int.gcd x y := by
  have h := Int.tmod_add_mul_tdiv x y
  have h2 := Int.gcd_add_mul_left_left y (x.tmod y) (x.tdiv y)
  rw [h] at h2
  exact h2.symm
section M12
variable {p : Program} {l : Launch} {e : Env} {R : Room} {s : State} {m : MethodId} {args : Array Value} {below : List Frame} {meth : Method} {c : Code} {Q : State → Prop} {b0 kc ks : Nat} {G : zG} {h : zH} {a : Nat} {cd : Int}
theorem v_M_set (l : Launch) (G : zG) (b0 : Nat) (h : zH) (a : Nat) (cd : Int) (T : mT) {V : Int → Int} {r v : Int} (hV : RV T V) (hr0 : 0 ≤ r ∧ r < 56) (hv : i64 v) : mMet l G b0 y_M_set b_M_set 6 none 0 0 h a cd [.int (jI r), .long (kI v)] T (fun o T' => o = none ∧ RV T' (iu V r v) ∧ T'.2.2.2 = T.2.2.2) := by
  have hc := c_M_set l G b0 h a cd T hr0 hv
  refine zMet_imp hc (fun o h' hp => ?_)
  obtain ⟨T1, e, rfl, ⟨n, _, h1⟩, h2⟩ := hp
  exact ⟨T1, e, rfl, hV.up h1 h2, h2.1⟩
theorem v_M_copy (l : Launch) (G : zG) (b0 : Nat) (h : zH) (a : Nat) (cd : Int) (T : mT) {V : Int → Int} {f t : Int} (hV : RV T V) (hf : 0 ≤ f ∧ f < 56) (ht : 0 ≤ t ∧ t < 56) : mMet l G b0 y_M_copy b_M_copy 4 none 0 0 h a cd [.int (jI f), .int (jI t)] T (fun o T' => o = none ∧ RV T' (iu V t (V f)) ∧ T'.2.2.2 = T.2.2.2) := by
  obtain ⟨n, hn⟩ := hV f hf.1 hf.2
  refine zMet_imp (c_M_copy l G b0 h a cd T hf ht hn) (fun o h' hp => ?_)
  obtain ⟨T1, e, rfl, h1, h2⟩ := hp
  exact ⟨T1, e, rfl, hV.up h1 h2, h2.1⟩
theorem v_M_isSame (l : Launch) (G : zG) (b0 : Nat) (h : zH) (a : Nat) (cd : Int) (T : mT) {V : Int → Int} {x y : Int} (hV : RV T V) (hx0 : 0 ≤ x ∧ x < 56) (hy0 : 0 ≤ y ∧ y < 56) : mMet l G b0 y_M_isSame b_M_isSame 3 (some .boolean) 1 23 h a cd [.int (jI x), .int (jI y)] T (fun o T' => T = T' ∧ o = some (.int (jI (if V x = V y then 1 else 0)))) := by
  obtain ⟨n, hn⟩ := hV x hx0.1 hx0.2
  obtain ⟨m, hm1⟩ := hV y hy0.1 hy0.2
  exact c_M_isSame l G b0 h a cd T hx0 hy0 hn hm1
/-- V: r := x + sg y -/
theorem v_M_add (l : Launch) (G : zG) (b0 : Nat) (h : zH) (a : Nat) (cd : Int) (T : mT) {V : Int → Int} {r x y sg : Int} (hV : RV T V) (hr0 : 0 ≤ r ∧ r < 56) (hx0 : 0 ≤ x ∧ x < 56) (hy0 : 0 ≤ y ∧ y < 56) (hs : sg = 1 ∨ sg = -1) (hb1 : lt9 (V x) 458) (hb2 : lt9 (V y) 458) : mMet l G b0 y_M_add b_M_add 7 none 2 52 h a cd [.int (jI r), .int (jI x), .int (jI y), .int (jI sg)] T (fun o T' => o = none ∧ RV T' (iu V r (V x + sg * V y)) ∧ T'.2.2.2 = T.2.2.2) := by
  obtain ⟨n, hn⟩ := hV x hx0.1 hx0.2
  obtain ⟨m, hm1⟩ := hV y hy0.1 hy0.2
  refine zMet_imp (c_M_add l G b0 h a cd T hr0 hx0 hy0 hn hm1 hs (RV.lt hn hb1) (RV.lt hm1 hb2)) (fun o h' hp => ?_)
  obtain ⟨T1, e, rfl, ⟨N, _, h1⟩, h2⟩ := hp
  exact ⟨T1, e, rfl, hV.up h1 h2, h2.1⟩
/-- V: r := x y -/
theorem v_M_multiply (l : Launch) (G : zG) (b0 : Nat) (h : zH) (a : Nat) (cd : Int) (T : mT) {V : Int → Int} {r x y : Int} {m n : Nat} (hV : RV T V) (hr0 : 0 ≤ r ∧ r < 56) (hx0 : 0 ≤ x ∧ x < 56) (hy0 : 0 ≤ y ∧ y < 56) (hrx : r ≠ x) (hry : r ≠ y) (hb1 : lt9 (V x) m) (hb2 : lt9 (V y) n) (hmn : m + n ≤ 459) : mMet l G b0 y_M_multiply b_M_multiply 13 none 1 23 h a cd [.int (jI r), .int (jI x), .int (jI y)] T (fun o T' => o = none ∧ RV T' (iu V r (V x * V y)) ∧ T'.2.2.2 = T.2.2.2) := by
  obtain ⟨n1, hn⟩ := hV x hx0.1 hx0.2
  obtain ⟨n2, hm1⟩ := hV y hy0.1 hy0.2
  refine zMet_imp (c_M_multiply l G b0 h a cd T hr0 hx0 hy0 hrx hry hn hm1 (by have := RV.lt hn hb1; have := RV.lt hm1 hb2; omega)) (fun o h' hp => ?_)
  obtain ⟨T1, e, rfl, ⟨N, _, h1⟩, h2⟩ := hp
  exact ⟨T1, e, rfl, hV.up h1 h2, h2.1⟩
/-- V: x := x rem y, q := |x| / |y| where q is a register -/
theorem v_M_divide (l : Launch) (G : zG) (b0 : Nat) (h : zH) (a : Nat) (cd : Int) (T : mT) {V : Int → Int} {q x y : Int} (hV : RV T V) (hq : q = -1 ∨ (0 ≤ q ∧ q < 56 ∧ q ≠ x ∧ q ≠ y)) (hx0 : 0 ≤ x ∧ x < 56) (hy0 : 0 ≤ y ∧ y < 56) (hxy : x ≠ y) (hw : V y ≠ 0) (hb : lt9 (V x) 457) : mMet l G b0 y_M_divide b_M_divide 10 none 2 50 h a cd [.int (jI q), .int (jI x), .int (jI y)] T (fun o T' => o = none ∧ RV T' (iu (iu V x ((V x).tmod (V y))) q (((V x).natAbs : Int) / ((V y).natAbs : Int))) ∧ T'.2.2.2 = T.2.2.2) := by
  obtain ⟨n1, hn⟩ := hV x hx0.1 hx0.2
  obtain ⟨n2, hm1⟩ := hV y hy0.1 hy0.2
  refine zMet_imp (c_M_divide l G b0 h a cd T hq hx0 hy0 hxy hn hm1 hw (RV.lt hn hb)) (fun o h' hp => ?_)
  obtain ⟨T1, e, rfl, h1, ⟨N2, h2⟩, ⟨N3, h3⟩, h4⟩ := hp
  refine ⟨T1, e, rfl, fun r r0 r1 => ?_, h4.1⟩
  by_cases e1 : r = q
  · subst e1; rw [iu_self]; exact h1 r0
  · rw [iu_ne _ _ e1]
    by_cases e2 : r = x
    · subst e2; rw [iu_self]; exact ⟨N2, h2⟩
    · rw [iu_ne _ _ e2]
      by_cases e3 : r = y
      · subst e3; exact ⟨N3, h3⟩
      · obtain ⟨m, hm2⟩ := hV r r0 r1
        exact ⟨m, hm2.fr h4 (by simp [e1, e2, e3])⟩
/-- signs[r] := s, where r holds something else than 0 -/
theorem RV.sign {T : mT} {V : Int → Int} {r sv : Int} (hV : RV T V) (hr : 0 ≤ r ∧ r < 56) (hv : V r ≠ 0 ∨ sv = 0) (hs : sv = 1 ∨ sv = -1 ∨ sv = 0 ∧ V r = 0) : RV (T.1, T.2.1, iu T.2.2.1 r sv, T.2.2.2) (iu V r (sv * (V r).natAbs)) := fun q h0 h1 => by
  by_cases hq : q = r
  · subst hq
    rw [iu_self]
    obtain ⟨n, k1, k2, k3, k4, k5, k6⟩ := hV q h0 h1
    refine ⟨n, k1, k2, k3, k4, ?_, ?_⟩
    · show iu T.2.2.1 q sv q = _
      rw [iu_self, Int.sign_mul]
      rcases hs with rfl | rfl | ⟨rfl, z⟩
      · rw [Int.sign_eq_one_of_pos (show (0 : Int) < ((V q).natAbs : Int) by omega)]; rfl
      · rw [Int.sign_eq_one_of_pos (show (0 : Int) < ((V q).natAbs : Int) by omega)]; rfl
      · simp
    · rw [← k6, Int.natAbs_mul]
      rcases hs with rfl | rfl | ⟨rfl, z⟩
      · simp
      · simp
      · rw [z]; simp
  · obtain ⟨n, k⟩ := hV q h0 h1
    rw [iu_ne _ _ hq]
    exact ⟨n, k.fr (rs := [r]) (Fr.of2 (r := r) (zv := 0) _ (by simp) (Or.inr rfl) (Or.inl rfl) (fun z _ => rfl)) (by simp [hq])⟩
set_option maxHeartbeats 4000000 in
set_option maxRecDepth 100000 in
/-- share(r, x, y): V: r := x / y, cut towards 0; the registers 53 and 54 are used up -/
theorem v_M_share (l : Launch) (G : zG) (b0 : Nat) (h : zH) (a : Nat) (cd : Int) (T : mT) {V : Int → Int} {r x y : Int} (hV : RV T V) (hr0 : 0 ≤ r ∧ r < 53) (hx0 : 0 ≤ x ∧ x < 53) (hy0 : 0 ≤ y ∧ y < 53) (hw : V y ≠ 0) (hb : lt9 (V x) 457) : mMet l G b0 y_M_share b_M_share 5 none 3 79 h a cd [.int (jI r), .int (jI x), .int (jI y)] T (fun o T' => o = none ∧ (∃ g1 g2 : Int, RV T' (iu (iu (iu V 53 g1) 54 g2) r ((V x).tdiv (V y)))) ∧ T'.2.2.2 = T.2.2.2) :=
  z_met (by decide) (Nat.le_of_ble_eq_true rfl) fun p e s m below meth c K hr hlk hnm => by
  obtain ⟨n1, hn⟩ := hV x hx0.1 (by omega)
  obtain ⟨n2, hm1⟩ := hV y hy0.1 (by omega)
  have s1 := sgn3 (V x)
  have s2 := sgn3 (V y)
  refine z_aload_n K d_M_share_0 rfl ?_
  refine zm_get K fd_M_16 rfl d_M_share_1 ?_
  refine z_iload_n K d_M_share_4 rfl ?_
  refine zm_sld K (by omega) d_M_share_5 ?_
  refine z_aload_n K d_M_share_6 rfl ?_
  refine zm_get K fd_M_16 rfl d_M_share_7 ?_
  refine z_iload_n K d_M_share_10 rfl ?_
  refine zm_sld K (by omega) d_M_share_11 ?_
  refine zi_imul K d_M_share_12 ?_
  rw [hn.2.2.2.2.1, hm1.2.2.2.2.1]
  refine z_istore K d_M_share_13 (by decide) ?_
  refine z_aload_n K d_M_share_15 rfl ?_
  refine z_iload_n K d_M_share_16 rfl ?_
  refine z_bipush (v := jI 53) K d_M_share_17 rfl ?_
  refine z_callV (ci := 0) (As := [.int (jI x), .int (jI 53)]) K (v_M_copy l G b0 h a cd T hV ⟨hx0.1, by omega⟩ ⟨by omega, by omega⟩) ca_M_40 im_M_copy se_M_copy rfl (by decide) hm_0 rfl rfl (by decide) (Nat.le_of_ble_eq_true rfl) d_M_share_19 (fun o h1 hp => ?_)
  obtain ⟨T1, rfl, rfl, hV1, hN1⟩ := hp
  refine z_aload_n K d_M_share_22 rfl ?_
  refine z_iload_n K d_M_share_23 rfl ?_
  refine z_bipush (v := jI 54) K d_M_share_24 rfl ?_
  refine z_callV (ci := 0) (As := [.int (jI y), .int (jI 54)]) K (v_M_copy l G b0 h a cd T1 hV1 ⟨hy0.1, by omega⟩ ⟨by omega, by omega⟩) ca_M_40 im_M_copy se_M_copy rfl (by decide) hm_0 rfl rfl (by decide) (Nat.le_of_ble_eq_true rfl) d_M_share_26 (fun o h1 hp => ?_)
  obtain ⟨T2, rfl, rfl, hV2, hN2⟩ := hp
  rw [iu_ne _ _ (show y ≠ 53 by omega)] at hV2
  have e1 : iu (iu V 53 (V x)) 54 (V y) 53 = V x := by rw [iu_ne _ _ (by decide), iu_self]
  have e2 : iu (iu V 53 (V x)) 54 (V y) 54 = V y := iu_self _ _ _
  refine z_aload_n K d_M_share_29 rfl ?_
  refine z_iload_n K d_M_share_30 rfl ?_
  refine z_bipush (v := jI 53) K d_M_share_31 rfl ?_
  refine z_bipush (v := jI 54) K d_M_share_33 rfl ?_
  refine z_callV (ci := 0) (As := [.int (jI r), .int (jI 53), .int (jI 54)]) K (v_M_divide l G b0 h a cd T2 hV2 (Or.inr ⟨hr0.1, by omega, by omega, by omega⟩) ⟨by omega, by omega⟩ ⟨by omega, by omega⟩ (by decide) (by rw [e2]; exact hw) (by rw [e1]; exact hb)) ca_M_66 im_M_divide se_M_divide rfl (by decide) hm_0 rfl rfl (by decide) (Nat.le_of_ble_eq_true rfl) d_M_share_35 (fun o h1 hp => ?_)
  obtain ⟨T3, rfl, rfl, hV3, hN3⟩ := hp
  rw [e1, e2] at hV3
  have hsw : iu (iu (iu (iu V 53 (V x)) 54 (V y)) 53 ((V x).tmod (V y))) r (((V x).natAbs : Int) / ((V y).natAbs : Int)) = iu (iu (iu V 53 ((V x).tmod (V y))) 54 (V y)) r (((V x).natAbs : Int) / ((V y).natAbs : Int)) := by
    congr 1
    funext z
    simp only [iu]
    by_cases a1 : z = 53
    · rw [if_pos a1, if_neg (by omega), if_pos a1]
    · rw [if_neg a1, if_neg a1, if_neg a1]
  rw [hsw] at hV3
  obtain ⟨n3, hn3⟩ := hV3 r hr0.1 (by omega)
  rw [iu_self] at hn3
  have hq0 : 0 ≤ ((V x).natAbs : Int) / ((V y).natAbs : Int) := Int.ediv_nonneg (by omega) (by omega)
  have htd := td_abs (V x) (V y)
  refine z_aload_n K d_M_share_38 rfl ?_
  refine zm_get K fd_M_16 rfl d_M_share_39 ?_
  refine z_iload_n K d_M_share_42 rfl ?_
  refine z_aload_n K d_M_share_43 rfl ?_
  refine zm_get K fd_M_16 rfl d_M_share_44 ?_
  refine z_iload_n K d_M_share_47 rfl ?_
  refine zm_sld K (by omega) d_M_share_48 ?_
  have s3 := sgn3 (((V x).natAbs : Int) / ((V y).natAbs : Int))
  rw [hn3.2.2.2.2.1]
  refine zi_if_ne (tgt := 56) K d_M_share_49 (by decide) (by omega) (fun hc => ?_) (fun hc => ?_)
  · refine z_iload K d_M_share_56 rfl ?_
    refine zm_sst K (by omega) d_M_share_58 ?_
    have hqn : ((V x).natAbs : Int) / ((V y).natAbs : Int) ≠ 0 := fun z => hc (by rw [z]; rfl)
    have hxn : V x ≠ 0 := fun z => hqn (by rw [z]; simp)
    have sx : (V x).sign ≠ 0 := fun z => hxn (Int.sign_eq_zero_iff_zero.mp z)
    have sy : (V y).sign ≠ 0 := fun z => hw (Int.sign_eq_zero_iff_zero.mp z)
    have hsv : (V x).sign * (V y).sign = 1 ∨ (V x).sign * (V y).sign = -1 := by
      rcases s1 with s1 | s1 | s1 <;> rcases s2 with s2 | s2 | s2 <;> rw [s1, s2] <;> simp_all
    have := RV.sign (r := r) (sv := (V x).sign * (V y).sign) hV3 ⟨hr0.1, by omega⟩ (Or.inl (by rw [iu_self]; exact hqn)) (by omega)
    rw [iu_self, iu_iu] at this
    refine z_vret K hr hlk d_M_share_59 ⟨_, rfl, rfl, ⟨(V x).tmod (V y), V y, ?_⟩, ?_⟩
    · rw [htd]
      have e5 : (((((V x).natAbs : Int) / ((V y).natAbs : Int)).natAbs : Nat) : Int) = ((V x).natAbs : Int) / ((V y).natAbs : Int) := by omega
      rw [e5] at this
      exact this
    · exact hN3.trans (hN2.trans hN1)
  · have hq2 : ((V x).natAbs : Int) / ((V y).natAbs : Int) = 0 := Int.sign_eq_zero_iff_zero.mp hc
    refine z_iconst (v := jI 0) K d_M_share_52 rfl ?_
    refine z_goto (tgt := 58) K d_M_share_53 (by decide) ?_
    refine zm_sst K (by omega) d_M_share_58 ?_
    have := RV.sign (r := r) (sv := 0) hV3 ⟨hr0.1, by omega⟩ (Or.inr rfl) (Or.inr (Or.inr ⟨rfl, by rw [iu_self]; exact hq2⟩))
    rw [iu_self, iu_iu, Int.zero_mul] at this
    refine z_vret K hr hlk d_M_share_59 ⟨_, rfl, rfl, ⟨(V x).tmod (V y), V y, ?_⟩, ?_⟩
    · rw [htd, hq2, Int.mul_zero]
      exact this
    · exact hN3.trans (hN2.trans hN1)
theorem RV.cong {T : mT} {V W : Int → Int} (h : RV T V) (e : ∀ r : Int, 0 ≤ r → r < 56 → V r = W r) : RV T W := fun r h0 h1 => by rw [← e r h0 h1]; exact h r h0 h1
set_option maxHeartbeats 4000000 in
set_option maxRecDepth 100000 in
theorem lp_M_common (K : zC p s m args c b_M_common R_M 4 b0 G) (hRm : 3 ≤ R.frames ∧ 79 ≤ R.locals ∧ kc ≤ R.cells ∧ ks ≤ R.slots) {V : Int → Int} {x0 y0 : Int} {N : Int → Int} (hx : ∀ (T' : mT) (g1 g2 : Int), RV T' (iu (iu V 51 g1) 52 g2) → T'.2.2.2 = N → ∀ tn : Int, (tn = 0 ∧ g2 = 0 ∧ (g1.natAbs : Int) = Int.gcd x0 y0 ∨ tn = 1 ∧ g1 = 0 ∧ (g2.natAbs : Int) = Int.gcd x0 y0) → zW p l e R s m args below meth c 4 b0 G kc ks Q (hm G h a cd T') 75 [(0, .ref a), (3, .int (jI tn))] []) :
    ∀ (j : Nat) (T : mT) (g1 g2 tn : Int), RV T (iu (iu V 51 g1) 52 g2) → T.2.2.2 = N → (tn = 0 ∧ g2.natAbs < j ∨ tn = 1 ∧ g1.natAbs < j) → Int.gcd g1 g2 = Int.gcd x0 y0 → lt9 g1 457 → lt9 g2 457 →
      zW p l e R s m args below meth c 4 b0 G kc ks Q (hm G h a cd T) 16 [(0, .ref a), (3, .int (jI tn))] [] := by
  intro j
  induction j with
  | zero => intro T g1 g2 tn hV hN ht; omega
  | succ j ih =>
    intro T g1 g2 tn hV hN ht hg hb1 hb2
    have e1 : iu (iu V 51 g1) 52 g2 51 = g1 := by rw [iu_ne _ _ (by decide), iu_self]
    have e2 : iu (iu V 51 g1) 52 g2 52 = g2 := iu_self _ _ _
    obtain ⟨n1, k1⟩ := hV 51 (by omega) (by omega)
    obtain ⟨n2, k2⟩ := hV 52 (by omega) (by omega)
    rw [e1] at k1
    rw [e2] at k2
    have s1 := sgn3 g1
    have s2 := sgn3 g2
    rcases ht with ⟨rfl, ht⟩ | ⟨rfl, ht⟩
    · refine z_aload_n K d_M_common_16 rfl ?_
      refine zm_get K fd_M_16 rfl d_M_common_17 ?_
      refine z_iload_n K d_M_common_20 rfl ?_
      refine zi_if_eq (tgt := 29) K d_M_common_21 (by decide) (by omega) (fun _ => ?_) (fun hc => absurd rfl hc)
      refine z_bipush (v := jI 52) K d_M_common_29 rfl ?_
      refine zm_sld K (by omega) d_M_common_31 ?_
      rw [k2.2.2.2.2.1]
      refine zi_if_eq (tgt := 75) K d_M_common_32 (by decide) (by omega) (fun hc => ?_) (fun hc => ?_)
      · have hz : g2 = 0 := Int.sign_eq_zero_iff_zero.mp hc
        subst hz
        refine hx T g1 0 hV hN 0 (Or.inl ⟨rfl, rfl, ?_⟩)
        rw [← hg, Int.gcd_zero_right]
      · have hz : g2 ≠ 0 := fun z => hc (by rw [z]; rfl)
        refine z_aload_n K d_M_common_35 rfl ?_
        refine z_iconst (v := jI (-1)) K d_M_common_36 rfl ?_
        refine z_iload_n K d_M_common_37 rfl ?_
        refine zi_if_eq (tgt := 46) K d_M_common_38 (by decide) (by omega) (fun _ => ?_) (fun hc => absurd rfl hc)
        refine z_bipush (v := jI 51) K d_M_common_46 rfl ?_
        refine z_iload_n K d_M_common_48 rfl ?_
        refine zi_if_eq (tgt := 57) K d_M_common_49 (by decide) (by omega) (fun _ => ?_) (fun hc => absurd rfl hc)
        refine z_bipush (v := jI 52) K d_M_common_57 rfl ?_
        refine z_callV (ci := 0) (As := [.int (jI (-1)), .int (jI 51), .int (jI 52)]) K (v_M_divide l G b0 h a cd T hV (Or.inl rfl) ⟨by omega, by omega⟩ ⟨by omega, by omega⟩ (by decide) (by rw [e2]; exact hz) (by rw [e1]; exact hb1)) ca_M_66 im_M_divide se_M_divide rfl (by decide) hm_0 rfl rfl (by omega) (Nat.le_of_ble_eq_true rfl) d_M_common_59 (fun o h1 hp => ?_)
        obtain ⟨T1, rfl, rfl, hV1, hN1⟩ := hp
        rw [e1, e2] at hV1
        refine z_iload_n K d_M_common_62 rfl ?_
        refine zi_if_ne (tgt := 70) K d_M_common_63 (by decide) (by omega) (fun hc => absurd rfl hc) (fun _ => ?_)
        refine z_iconst (v := jI 1) K d_M_common_66 rfl ?_
        refine z_goto (tgt := 71) K d_M_common_67 (by decide) ?_
        refine z_istore_n K d_M_common_71 (by decide) ?_
        refine z_goto (tgt := 16) K d_M_common_72 (by decide) ?_
        refine z_re [0, 3] rfl ?_
        have hmm := tm_nat g1 g2
        have hlt : (g1.tmod g2).natAbs < g2.natAbs := by rw [Int.natAbs_tmod]; exact Nat.mod_lt _ (by omega)
        refine ih T1 (g1.tmod g2) g2 1 (hV1.cong (fun r h0 h1 => ?_)) (hN1.trans hN) (Or.inr ⟨rfl, by omega⟩) ?_ ?_ hb2
        · simp only [iu]
          rw [if_neg (show r ≠ -1 by omega)]
          by_cases a1 : r = 51
          · rw [if_pos a1, if_neg (by omega), if_pos a1]
          · simp [a1]
        · rw [← hg, gcd_tm]
        · show ((g1.tmod g2).natAbs : Int) < _
          have : (g2.natAbs : Int) < BS ^ 457 := hb2
          omega
    · refine z_aload_n K d_M_common_16 rfl ?_
      refine zm_get K fd_M_16 rfl d_M_common_17 ?_
      refine z_iload_n K d_M_common_20 rfl ?_
      refine zi_if_eq (tgt := 29) K d_M_common_21 (by decide) (by omega) (fun hc => absurd hc (by decide)) (fun _ => ?_)
      refine z_bipush (v := jI 51) K d_M_common_24 rfl ?_
      refine z_goto (tgt := 31) K d_M_common_26 (by decide) ?_
      refine zm_sld K (by omega) d_M_common_31 ?_
      rw [k1.2.2.2.2.1]
      refine zi_if_eq (tgt := 75) K d_M_common_32 (by decide) (by omega) (fun hc => ?_) (fun hc => ?_)
      · have hz : g1 = 0 := Int.sign_eq_zero_iff_zero.mp hc
        subst hz
        refine hx T 0 g2 hV hN 1 (Or.inr ⟨rfl, rfl, ?_⟩)
        rw [← hg, Int.gcd_zero_left]
      · have hz : g1 ≠ 0 := fun z => hc (by rw [z]; rfl)
        refine z_aload_n K d_M_common_35 rfl ?_
        refine z_iconst (v := jI (-1)) K d_M_common_36 rfl ?_
        refine z_iload_n K d_M_common_37 rfl ?_
        refine zi_if_eq (tgt := 46) K d_M_common_38 (by decide) (by omega) (fun hc => absurd hc (by decide)) (fun _ => ?_)
        refine z_bipush (v := jI 52) K d_M_common_41 rfl ?_
        refine z_goto (tgt := 48) K d_M_common_43 (by decide) ?_
        refine z_iload_n K d_M_common_48 rfl ?_
        refine zi_if_eq (tgt := 57) K d_M_common_49 (by decide) (by omega) (fun hc => absurd hc (by decide)) (fun _ => ?_)
        refine z_bipush (v := jI 51) K d_M_common_52 rfl ?_
        refine z_goto (tgt := 59) K d_M_common_54 (by decide) ?_
        refine z_callV (ci := 0) (As := [.int (jI (-1)), .int (jI 52), .int (jI 51)]) K (v_M_divide l G b0 h a cd T hV (Or.inl rfl) ⟨by omega, by omega⟩ ⟨by omega, by omega⟩ (by decide) (by rw [e1]; exact hz) (by rw [e2]; exact hb2)) ca_M_66 im_M_divide se_M_divide rfl (by decide) hm_0 rfl rfl (by omega) (Nat.le_of_ble_eq_true rfl) d_M_common_59 (fun o h1 hp => ?_)
        obtain ⟨T1, rfl, rfl, hV1, hN1⟩ := hp
        rw [e1, e2] at hV1
        refine z_iload_n K d_M_common_62 rfl ?_
        refine zi_if_ne (tgt := 70) K d_M_common_63 (by decide) (by omega) (fun _ => ?_) (fun hc => absurd hc (by decide))
        refine z_iconst (v := jI 0) K d_M_common_70 rfl ?_
        refine z_istore_n K d_M_common_71 (by decide) ?_
        refine z_goto (tgt := 16) K d_M_common_72 (by decide) ?_
        refine z_re [0, 3] rfl ?_
        have hlt : (g2.tmod g1).natAbs < g1.natAbs := by rw [Int.natAbs_tmod]; exact Nat.mod_lt _ (by omega)
        refine ih T1 g1 (g2.tmod g1) 0 (hV1.cong (fun r h0 h1 => ?_)) (hN1.trans hN) (Or.inl ⟨rfl, by omega⟩) ?_ hb1 ?_
        · simp only [iu]
          rw [if_neg (show r ≠ -1 by omega)]
          by_cases a1 : r = 52
          · rw [if_pos a1, if_pos a1]
          · rw [if_neg a1, if_neg a1, if_neg a1]
        · rw [← hg, Int.gcd_comm g1, gcd_tm, Int.gcd_comm]
        · show ((g2.tmod g1).natAbs : Int) < _
          have : (g1.natAbs : Int) < BS ^ 457 := hb1
          omega
set_option maxHeartbeats 4000000 in
set_option maxRecDepth 100000 in
/-- common(x, y): V: 51 := the greatest common divisor; 52 is used up -/
theorem v_M_common (l : Launch) (G : zG) (b0 : Nat) (h : zH) (a : Nat) (cd : Int) (T : mT) {V : Int → Int} {x y : Int} (hV : RV T V) (hx0 : 0 ≤ x ∧ x < 51) (hy0 : 0 ≤ y ∧ y < 51) (hnz : V x ≠ 0 ∨ V y ≠ 0) (hb1 : lt9 (V x) 457) (hb2 : lt9 (V y) 457) : mMet l G b0 y_M_common b_M_common 4 none 3 79 h a cd [.int (jI x), .int (jI y)] T (fun o T' => o = none ∧ (∃ g : Int, RV T' (iu (iu V 52 g) 51 (Int.gcd (V x) (V y)))) ∧ T'.2.2.2 = T.2.2.2) :=
  z_met (by decide) (Nat.le_of_ble_eq_true rfl) fun p e s m below meth c K hr hlk hnm => by
  refine z_aload_n K d_M_common_0 rfl ?_
  refine z_iload_n K d_M_common_1 rfl ?_
  refine z_bipush (v := jI 51) K d_M_common_2 rfl ?_
  refine z_callV (ci := 0) (As := [.int (jI x), .int (jI 51)]) K (v_M_copy l G b0 h a cd T hV ⟨hx0.1, by omega⟩ ⟨by omega, by omega⟩) ca_M_40 im_M_copy se_M_copy rfl (by decide) hm_0 rfl rfl (by decide) (Nat.le_of_ble_eq_true rfl) d_M_common_4 (fun o h1 hp => ?_)
  obtain ⟨T1, rfl, rfl, hV1, hN1⟩ := hp
  refine z_aload_n K d_M_common_7 rfl ?_
  refine z_iload_n K d_M_common_8 rfl ?_
  refine z_bipush (v := jI 52) K d_M_common_9 rfl ?_
  refine z_callV (ci := 0) (As := [.int (jI y), .int (jI 52)]) K (v_M_copy l G b0 h a cd T1 hV1 ⟨hy0.1, by omega⟩ ⟨by omega, by omega⟩) ca_M_40 im_M_copy se_M_copy rfl (by decide) hm_0 rfl rfl (by decide) (Nat.le_of_ble_eq_true rfl) d_M_common_11 (fun o h1 hp => ?_)
  obtain ⟨T2, rfl, rfl, hV2, hN2⟩ := hp
  rw [iu_ne _ _ (show y ≠ 51 by omega)] at hV2
  refine z_iconst (v := jI 0) K d_M_common_14 rfl ?_
  refine z_istore_n K d_M_common_15 (by decide) ?_
  refine z_re [0, 3] rfl ?_
  have gpos : 0 < Int.gcd (V x) (V y) := by
    rcases Nat.eq_zero_or_pos (Int.gcd (V x) (V y)) with z | z
    · rw [Int.gcd_eq_zero_iff] at z
      omega
    · exact z
  refine lp_M_common K ⟨Nat.le_refl _, Nat.le_refl _, Nat.le_refl _, Nat.le_refl _⟩ (V := V) (x0 := V x) (y0 := V y) (N := T.2.2.2) (fun T' g1 g2 hV3 hN3 tn ht => ?_) ((V y).natAbs + 1) T2 (V x) (V y) 0 hV2 (hN2.trans hN1) (Or.inl ⟨rfl, by omega⟩) rfl hb1 hb2
  have e1 : iu (iu V 51 g1) 52 g2 51 = g1 := by rw [iu_ne _ _ (by decide), iu_self]
  have e2 : iu (iu V 51 g1) 52 g2 52 = g2 := iu_self _ _ _
  refine z_iload_n K d_M_common_75 rfl ?_
  rcases ht with ⟨rfl, rfl, hg⟩ | ⟨rfl, rfl, hg⟩
  · refine zi_if_eq (tgt := 87) K d_M_common_76 (by decide) (by omega) (fun _ => ?_) (fun hc => absurd rfl hc)
    refine z_aload_n K d_M_common_87 rfl ?_
    refine zm_get K fd_M_16 rfl d_M_common_88 ?_
    refine z_bipush (v := jI 51) K d_M_common_91 rfl ?_
    refine z_iconst (v := jI 1) K d_M_common_93 rfl ?_
    refine zm_sst K (by omega) d_M_common_94 ?_
    have := RV.sign (r := 51) (sv := 1) hV3 ⟨by omega, by omega⟩ (Or.inl (by rw [e1]; omega)) (Or.inl rfl)
    rw [e1] at this
    refine z_vret K hr hlk d_M_common_95 ⟨_, rfl, rfl, ⟨0, this.cong (fun r h0 h1 => ?_)⟩, hN3⟩
    simp only [iu]
    by_cases a1 : r = 51
    · rw [if_pos a1, if_pos a1]; omega
    · simp [a1]
  · refine zi_if_eq (tgt := 87) K d_M_common_76 (by decide) (by omega) (fun hc => absurd hc (by decide)) (fun _ => ?_)
    refine z_aload_n K d_M_common_79 rfl ?_
    refine z_bipush (v := jI 52) K d_M_common_80 rfl ?_
    refine z_bipush (v := jI 51) K d_M_common_82 rfl ?_
    refine z_callV (ci := 0) (As := [.int (jI 52), .int (jI 51)]) K (v_M_copy l G b0 h a cd T' hV3 ⟨by omega, by omega⟩ ⟨by omega, by omega⟩) ca_M_40 im_M_copy se_M_copy rfl (by decide) hm_0 rfl rfl (by decide) (Nat.le_of_ble_eq_true rfl) d_M_common_84 (fun o h1 hp => ?_)
    obtain ⟨T4, rfl, rfl, hV4, hN4⟩ := hp
    rw [e2] at hV4
    refine z_aload_n K d_M_common_87 rfl ?_
    refine zm_get K fd_M_16 rfl d_M_common_88 ?_
    refine z_bipush (v := jI 51) K d_M_common_91 rfl ?_
    refine z_iconst (v := jI 1) K d_M_common_93 rfl ?_
    refine zm_sst K (by omega) d_M_common_94 ?_
    have := RV.sign (r := 51) (sv := 1) hV4 ⟨by omega, by omega⟩ (Or.inl (by rw [iu_self]; omega)) (Or.inl rfl)
    rw [iu_self] at this
    refine z_vret K hr hlk d_M_common_95 ⟨_, rfl, rfl, ⟨g2, this.cong (fun r h0 h1 => ?_)⟩, hN4.trans hN3⟩
    simp only [iu]
    by_cases a1 : r = 51
    · rw [if_pos a1, if_pos a1]; omega
    · simp [a1]
end M12
end
section
section M13
variable {p : Program} {l : Launch} {e : Env} {R : Room} {s : State} {m : MethodId} {args : Array Value} {below : List Frame} {meth : Method} {c : Code} {Q : State → Prop} {b0 kc ks : Nat} {G : zG} {h : zH} {a : Nat} {cd : Int}
set_option maxHeartbeats 4000000 in
set_option maxRecDepth 100000 in
theorem c_M_isSlot (l : Launch) (G : zG) (b0 : Nat) (h : zH) {s0 : Int} (hs : i32 s0) : zMet l G b0 y_M_isSlot b_M_isSlot 1 (some .boolean) 0 0 0 0 [.int (jI s0)] h (fun o h' => h = h' ∧ o = some (.int (jI (if 0 ≤ s0 ∧ s0 < 8 then 1 else 0)))) :=
  z_met (by decide) (Nat.le_of_ble_eq_true rfl) fun p e s m below meth c K hr hlk hnm => by
  refine z_iload_n K d_M_isSlot_0 rfl ?_
  refine zi_if_lt (tgt := 14) K d_M_isSlot_1 (by decide) hs (fun hc => ?_) (fun hc => ?_)
  · refine z_iconst (v := jI 0) K d_M_isSlot_14 rfl ?_
    exact z_zret K hr hlk d_M_isSlot_15 rfl ⟨rfl, by rw [if_neg (by omega)]⟩
  · refine z_iload_n K d_M_isSlot_4 rfl ?_
    refine z_bipush (v := jI 8) K d_M_isSlot_5 rfl ?_
    refine zi_icmp_ge (tgt := 14) K d_M_isSlot_7 (by decide) hs (by omega) (fun hc2 => ?_) (fun hc2 => ?_)
    · refine z_iconst (v := jI 0) K d_M_isSlot_14 rfl ?_
      exact z_zret K hr hlk d_M_isSlot_15 rfl ⟨rfl, by rw [if_neg (by omega)]⟩
    · refine z_iconst (v := jI 1) K d_M_isSlot_10 rfl ?_
      refine z_goto (tgt := 15) K d_M_isSlot_11 (by decide) ?_
      exact z_zret K hr hlk d_M_isSlot_15 rfl ⟨rfl, by rw [if_pos (by omega)]⟩
set_option maxHeartbeats 4000000 in
set_option maxRecDepth 100000 in
theorem c_M_isIn (l : Launch) (G : zG) (b0 : Nat) (h : zH) {s0 : Int} (hs : i32 s0) : zMet l G b0 y_M_isIn b_M_isIn 1 (some .boolean) 0 0 0 0 [.int (jI s0)] h (fun o h' => h = h' ∧ o = some (.int (jI (if -99999 ≤ s0 ∧ s0 ≤ 99999 then 1 else 0)))) :=
  z_met (by decide) (Nat.le_of_ble_eq_true rfl) fun p e s m below meth c K hr hlk hnm => by
  refine z_iload_n K d_M_isIn_0 rfl ?_
  refine z_ldc (v := jI (-99999)) K d_M_isIn_1 (by rw [show jI (-99999) = -99999 by decide]; exact kc_M_90) ?_
  refine zi_icmp_lt (tgt := 16) K d_M_isIn_3 (by decide) hs (by omega) (fun hc => ?_) (fun hc => ?_)
  · refine z_iconst (v := jI 0) K d_M_isIn_16 rfl ?_
    exact z_zret K hr hlk d_M_isIn_17 rfl ⟨rfl, by rw [if_neg (by omega)]⟩
  · refine z_iload_n K d_M_isIn_6 rfl ?_
    refine z_ldc (v := jI 99999) K d_M_isIn_7 kc_M_91 ?_
    refine zi_icmp_gt (tgt := 16) K d_M_isIn_9 (by decide) hs (by omega) (fun hc2 => ?_) (fun hc2 => ?_)
    · refine z_iconst (v := jI 0) K d_M_isIn_16 rfl ?_
      exact z_zret K hr hlk d_M_isIn_17 rfl ⟨rfl, by rw [if_neg (by omega)]⟩
    · refine z_iconst (v := jI 1) K d_M_isIn_12 rfl ?_
      refine z_goto (tgt := 17) K d_M_isIn_13 (by decide) ?_
      exact z_zret K hr hlk d_M_isIn_17 rfl ⟨rfl, by rw [if_pos (by omega)]⟩
theorem w_M_multiply (l : Launch) (G : zG) (b0 : Nat) (h : zH) (a : Nat) (cd : Int) (T : mT) {V : Int → Int} {r x y v w : Int} {m n : Nat} (hV : RV T V) (hr0 : 0 ≤ r ∧ r < 56) (hx0 : 0 ≤ x ∧ x < 56) (hy0 : 0 ≤ y ∧ y < 56) (hrx : r ≠ x) (hry : r ≠ y) (hx : V x = v) (hy : V y = w) (hb1 : lt9 v m) (hb2 : lt9 w n) (hmn : m + n ≤ 459) : mMet l G b0 y_M_multiply b_M_multiply 13 none 1 23 h a cd [.int (jI r), .int (jI x), .int (jI y)] T (fun o T' => o = none ∧ RV T' (iu V r (v * w)) ∧ T'.2.2.2 = T.2.2.2) := by
  subst hx; subst hy
  exact v_M_multiply l G b0 h a cd T hV hr0 hx0 hy0 hrx hry hb1 hb2 hmn
theorem w_M_add (l : Launch) (G : zG) (b0 : Nat) (h : zH) (a : Nat) (cd : Int) (T : mT) {V : Int → Int} {r x y v w sg : Int} {m n : Nat} (hV : RV T V) (hr0 : 0 ≤ r ∧ r < 56) (hx0 : 0 ≤ x ∧ x < 56) (hy0 : 0 ≤ y ∧ y < 56) (hs : sg = 1 ∨ sg = -1) (hx : V x = v) (hy : V y = w) (hb1 : lt9 v m) (hb2 : lt9 w n) (hm1 : m ≤ 458) (hn1 : n ≤ 458) : mMet l G b0 y_M_add b_M_add 7 none 2 52 h a cd [.int (jI r), .int (jI x), .int (jI y), .int (jI sg)] T (fun o T' => o = none ∧ RV T' (iu V r (v + sg * w)) ∧ T'.2.2.2 = T.2.2.2) := by
  subst hx; subst hy
  exact v_M_add l G b0 h a cd T hV hr0 hx0 hy0 hs (lt9_mono hb1 hm1) (lt9_mono hb2 hn1)
theorem w_M_copy (l : Launch) (G : zG) (b0 : Nat) (h : zH) (a : Nat) (cd : Int) (T : mT) {V : Int → Int} {f t v : Int} (hV : RV T V) (hf : 0 ≤ f ∧ f < 56) (ht : 0 ≤ t ∧ t < 56) (hx : V f = v) : mMet l G b0 y_M_copy b_M_copy 4 none 0 0 h a cd [.int (jI f), .int (jI t)] T (fun o T' => o = none ∧ RV T' (iu V t v) ∧ T'.2.2.2 = T.2.2.2) := by
  subst hx
  exact v_M_copy l G b0 h a cd T hV hf ht
theorem w_M_share (l : Launch) (G : zG) (b0 : Nat) (h : zH) (a : Nat) (cd : Int) (T : mT) {V : Int → Int} {r x y v w : Int} {m : Nat} (hV : RV T V) (hr0 : 0 ≤ r ∧ r < 53) (hx0 : 0 ≤ x ∧ x < 53) (hy0 : 0 ≤ y ∧ y < 53) (hx : V x = v) (hy : V y = w) (hw : w ≠ 0) (hb : lt9 v m) (hm1 : m ≤ 457) : mMet l G b0 y_M_share b_M_share 5 none 3 79 h a cd [.int (jI r), .int (jI x), .int (jI y)] T (fun o T' => o = none ∧ (∃ g1 g2 : Int, RV T' (iu (iu (iu V 53 g1) 54 g2) r (v.tdiv w))) ∧ T'.2.2.2 = T.2.2.2) := by
  subst hx; subst hy
  exact v_M_share l G b0 h a cd T hV hr0 hx0 hy0 hw (lt9_mono hb hm1)
theorem w_M_common (l : Launch) (G : zG) (b0 : Nat) (h : zH) (a : Nat) (cd : Int) (T : mT) {V : Int → Int} {x y v w : Int} {m n : Nat} (hV : RV T V) (hx0 : 0 ≤ x ∧ x < 51) (hy0 : 0 ≤ y ∧ y < 51) (hx : V x = v) (hy : V y = w) (hnz : v ≠ 0 ∨ w ≠ 0) (hb1 : lt9 v m) (hb2 : lt9 w n) (hm1 : m ≤ 457) (hn1 : n ≤ 457) : mMet l G b0 y_M_common b_M_common 4 none 3 79 h a cd [.int (jI x), .int (jI y)] T (fun o T' => o = none ∧ (∃ g : Int, RV T' (iu (iu V 52 g) 51 (Int.gcd v w))) ∧ T'.2.2.2 = T.2.2.2) := by
  subst hx; subst hy
  exact v_M_common l G b0 h a cd T hV hx0 hy0 hnz (lt9_mono hb1 hm1) (lt9_mono hb2 hn1)
set_option maxHeartbeats 4000000 in
set_option maxRecDepth 100000 in
/-- more(r, x, y, z): V: r := r + x y z; 47 and 48 are used up -/
theorem v_M_more (l : Launch) (G : zG) (b0 : Nat) (h : zH) (a : Nat) (cd : Int) (T : mT) {V : Int → Int} {r x y z u v w t : Int} {m1 m2 m3 m4 : Nat} (hV : RV T V) (hr0 : 0 ≤ r ∧ r < 56 ∧ r ≠ 47 ∧ r ≠ 48) (hx0 : 0 ≤ x ∧ x < 56 ∧ x ≠ 47) (hy0 : 0 ≤ y ∧ y < 56 ∧ y ≠ 47) (hz0 : 0 ≤ z ∧ z < 56 ∧ z ≠ 47 ∧ z ≠ 48) (hr1 : V r = u) (hx1 : V x = v) (hy1 : V y = w) (hz1 : V z = t) (hb1 : lt9 u m1) (hb2 : lt9 v m2) (hb3 : lt9 w m3) (hb4 : lt9 t m4) (hm1 : m1 ≤ 458) (hm2 : m2 + m3 + m4 ≤ 458) :
    mMet l G b0 y_M_more b_M_more 5 none 3 78 h a cd [.int (jI r), .int (jI x), .int (jI y), .int (jI z)] T (fun o T' => o = none ∧ RV T' (iu (iu (iu V 47 (v * w)) 48 (v * w * t)) r (u + v * w * t)) ∧ T'.2.2.2 = T.2.2.2) :=
  z_met (by decide) (Nat.le_of_ble_eq_true rfl) fun p e s m below meth c K hr hlk hnm => by
  refine z_aload_n K d_M_more_0 rfl ?_
  refine z_bipush (v := jI 47) K d_M_more_1 rfl ?_
  refine z_iload_n K d_M_more_3 rfl ?_
  refine z_iload_n K d_M_more_4 rfl ?_
  refine z_callV (ci := 0) (As := [.int (jI 47), .int (jI x), .int (jI y)]) K (w_M_multiply l G b0 h a cd T hV (by omega) (by omega) (by omega) (by omega) (by omega) hx1 hy1 hb2 hb3 (by omega)) ca_M_92 im_M_multiply se_M_multiply rfl (by decide) hm_0 rfl rfl (by decide) (Nat.le_of_ble_eq_true rfl) d_M_more_5 (fun o h1 hp => ?_)
  obtain ⟨T1, rfl, rfl, hV1, hN1⟩ := hp
  refine z_aload_n K d_M_more_8 rfl ?_
  refine z_bipush (v := jI 48) K d_M_more_9 rfl ?_
  refine z_bipush (v := jI 47) K d_M_more_11 rfl ?_
  refine z_iload K d_M_more_13 rfl ?_
  refine z_callV (ci := 0) (As := [.int (jI 48), .int (jI 47), .int (jI z)]) K (w_M_multiply l G b0 h a cd T1 hV1 (by omega) (by omega) (by omega) (by omega) (by omega) (iu_self _ _ _) ((iu_ne _ _ (by omega)).trans hz1) (lt9_mul hb2 hb3) hb4 (by omega)) ca_M_92 im_M_multiply se_M_multiply rfl (by decide) hm_0 rfl rfl (by decide) (Nat.le_of_ble_eq_true rfl) d_M_more_15 (fun o h1 hp => ?_)
  obtain ⟨T2, rfl, rfl, hV2, hN2⟩ := hp
  refine z_aload_n K d_M_more_18 rfl ?_
  refine z_iload_n K d_M_more_19 rfl ?_
  refine z_iload_n K d_M_more_20 rfl ?_
  refine z_bipush (v := jI 48) K d_M_more_21 rfl ?_
  refine z_iconst (v := jI 1) K d_M_more_23 rfl ?_
  refine z_callV (ci := 0) (As := [.int (jI r), .int (jI r), .int (jI 48), .int (jI 1)]) K (w_M_add l G b0 h a cd T2 hV2 (by omega) (by omega) (by omega) (Or.inl rfl) ((iu_ne _ _ (by omega)).trans ((iu_ne _ _ (by omega)).trans hr1)) (iu_self _ _ _) hb1 (lt9_mul (lt9_mul hb2 hb3) hb4) hm1 hm2) ca_M_83 im_M_add se_M_add rfl (by decide) hm_0 rfl rfl (by decide) (Nat.le_of_ble_eq_true rfl) d_M_more_24 (fun o h1 hp => ?_)
  obtain ⟨T3, rfl, rfl, hV3, hN3⟩ := hp
  rw [Int.one_mul] at hV3
  exact z_vret K hr hlk d_M_more_27 ⟨_, rfl, rfl, hV3, hN3.trans (hN2.trans hN1)⟩
set_option maxHeartbeats 4000000 in
set_option maxRecDepth 100000 in
/-- product(r, a, b, c, d): V: r := a b c d; 47, 48 and 49 are used up -/
theorem v_M_product (l : Launch) (G : zG) (b0 : Nat) (h : zH) (a : Nat) (cd : Int) (T : mT) {V : Int → Int} {r u1 u2 u3 u4 : Int} (hV : RV T V) (hr0 : 0 ≤ r ∧ r < 56 ∧ r ≠ 47 ∧ r ≠ 48) (h1 : i64 u1) (h2 : i64 u2) (h3 : i64 u3) (h4 : i64 u4) :
    mMet l G b0 y_M_product b_M_product 10 none 2 55 h a cd [.int (jI r), .long (kI u1), .long (kI u2), .long (kI u3), .long (kI u4)] T (fun o T' => o = none ∧ (∃ g1 g2 g3 : Int, RV T' (iu (iu (iu (iu V 47 g1) 48 g2) 49 g3) r (u1 * u2 * u3 * u4))) ∧ T'.2.2.2 = T.2.2.2) :=
  z_met (by decide) (Nat.le_of_ble_eq_true rfl) fun p e s m below meth c K hr hlk hnm => by
  have big : ∀ u : Int, i64 u → lt9 u 3 := fun u hu => by
    show (u.natAbs : Int) < BS ^ 3
    have : BS ^ 3 = 1000000000000000000000000000 := by decide
    omega
  refine z_aload_n K d_M_product_0 rfl ?_
  refine z_bipush (v := jI 47) K d_M_product_1 rfl ?_
  refine z_lload_n K d_M_product_3 rfl ?_
  refine z_callV (ci := 0) (As := [.int (jI 47), .long (kI u1)]) K (v_M_set l G b0 h a cd T hV ⟨by omega, by omega⟩ h1) ca_M_26 im_M_set se_M_set rfl (by decide) hm_0 rfl rfl (by decide) (Nat.le_of_ble_eq_true rfl) d_M_product_4 (fun o h1 hp => ?_)
  obtain ⟨T1, rfl, rfl, hV1, hN1⟩ := hp
  refine z_aload_n K d_M_product_7 rfl ?_
  refine z_bipush (v := jI 48) K d_M_product_8 rfl ?_
  refine z_lload K d_M_product_10 rfl ?_
  refine z_callV (ci := 0) (As := [.int (jI 48), .long (kI u2)]) K (v_M_set l G b0 h a cd T1 hV1 ⟨by omega, by omega⟩ h2) ca_M_26 im_M_set se_M_set rfl (by decide) hm_0 rfl rfl (by decide) (Nat.le_of_ble_eq_true rfl) d_M_product_12 (fun o h1 hp => ?_)
  obtain ⟨T2, rfl, rfl, hV2, hN2⟩ := hp
  refine z_aload_n K d_M_product_15 rfl ?_
  refine z_bipush (v := jI 49) K d_M_product_16 rfl ?_
  refine z_bipush (v := jI 47) K d_M_product_18 rfl ?_
  refine z_bipush (v := jI 48) K d_M_product_20 rfl ?_
  refine z_callV (ci := 0) (As := [.int (jI 49), .int (jI 47), .int (jI 48)]) K (w_M_multiply l G b0 h a cd T2 hV2 (v := u1) (w := u2) (by omega) (by omega) (by omega) (by omega) (by omega) (by simp [iu]) (by simp [iu]) (big _ h1) (big _ h2) (by omega)) ca_M_92 im_M_multiply se_M_multiply rfl (by decide) hm_0 rfl rfl (by decide) (Nat.le_of_ble_eq_true rfl) d_M_product_22 (fun o h1 hp => ?_)
  obtain ⟨T3, rfl, rfl, hV3, hN3⟩ := hp
  refine z_aload_n K d_M_product_25 rfl ?_
  refine z_bipush (v := jI 47) K d_M_product_26 rfl ?_
  refine z_lload K d_M_product_28 rfl ?_
  refine z_callV (ci := 0) (As := [.int (jI 47), .long (kI u3)]) K (v_M_set l G b0 h a cd T3 hV3 ⟨by omega, by omega⟩ h3) ca_M_26 im_M_set se_M_set rfl (by decide) hm_0 rfl rfl (by decide) (Nat.le_of_ble_eq_true rfl) d_M_product_30 (fun o h1 hp => ?_)
  obtain ⟨T4, rfl, rfl, hV4, hN4⟩ := hp
  refine z_aload_n K d_M_product_33 rfl ?_
  refine z_bipush (v := jI 48) K d_M_product_34 rfl ?_
  refine z_bipush (v := jI 49) K d_M_product_36 rfl ?_
  refine z_bipush (v := jI 47) K d_M_product_38 rfl ?_
  refine z_callV (ci := 0) (As := [.int (jI 48), .int (jI 49), .int (jI 47)]) K (w_M_multiply l G b0 h a cd T4 hV4 (v := u1 * u2) (w := u3) (by omega) (by omega) (by omega) (by omega) (by omega) (by simp [iu]) (by simp [iu]) (lt9_mul (big _ h1) (big _ h2)) (big _ h3) (by omega)) ca_M_92 im_M_multiply se_M_multiply rfl (by decide) hm_0 rfl rfl (by decide) (Nat.le_of_ble_eq_true rfl) d_M_product_40 (fun o h1 hp => ?_)
  obtain ⟨T5, rfl, rfl, hV5, hN5⟩ := hp
  refine z_aload_n K d_M_product_43 rfl ?_
  refine z_bipush (v := jI 47) K d_M_product_44 rfl ?_
  refine z_lload K d_M_product_46 rfl ?_
  refine z_callV (ci := 0) (As := [.int (jI 47), .long (kI u4)]) K (v_M_set l G b0 h a cd T5 hV5 ⟨by omega, by omega⟩ h4) ca_M_26 im_M_set se_M_set rfl (by decide) hm_0 rfl rfl (by decide) (Nat.le_of_ble_eq_true rfl) d_M_product_48 (fun o h1 hp => ?_)
  obtain ⟨T6, rfl, rfl, hV6, hN6⟩ := hp
  refine z_aload_n K d_M_product_51 rfl ?_
  refine z_iload_n K d_M_product_52 rfl ?_
  refine z_bipush (v := jI 48) K d_M_product_53 rfl ?_
  refine z_bipush (v := jI 47) K d_M_product_55 rfl ?_
  refine z_callV (ci := 0) (As := [.int (jI r), .int (jI 48), .int (jI 47)]) K (w_M_multiply l G b0 h a cd T6 hV6 (v := u1 * u2 * u3) (w := u4) (by omega) (by omega) (by omega) (by omega) (by omega) (by simp [iu]) (by simp [iu]) (lt9_mul (lt9_mul (big _ h1) (big _ h2)) (big _ h3)) (big _ h4) (by omega)) ca_M_92 im_M_multiply se_M_multiply rfl (by decide) hm_0 rfl rfl (by decide) (Nat.le_of_ble_eq_true rfl) d_M_product_57 (fun o h1 hp => ?_)
  obtain ⟨T7, rfl, rfl, hV7, hN7⟩ := hp
  refine z_vret K hr hlk d_M_product_60 ⟨_, rfl, rfl, ⟨u4, u1 * u2 * u3, u1 * u2, hV7.cong (fun q _ _ => ?_)⟩, hN7.trans (hN6.trans (hN5.trans (hN4.trans (hN3.trans (hN2.trans hN1)))))⟩
  simp only [iu]
  by_cases a0 : q = r
  · simp [a0]
  · by_cases a1 : q = 47
    · simp [a0, a1]
    · by_cases a2 : q = 48
      · simp [a0, a2]
      · by_cases a3 : q = 49
        · simp [a0, a3]
        · simp [a0, a1, a2, a3]
end M13
end
section
theorem lt9_gcd {v w : Int} {m n : Nat} (hnz : v ≠ 0 ∨ w ≠ 0) (h : lt9 v m) (h' : lt9 w n) : lt9 ((Int.gcd v w : Nat) : Int) (max m n) := by
  show (((Int.gcd v w : Nat) : Int).natAbs : Int) < _
  rw [Int.natAbs_natCast]
  by_cases hv : v = 0
  · have hw : w ≠ 0 := by omega
    have := Int.gcd_le_natAbs_right v hw
    have := lt9_u (lt9_mono h' (Nat.le_max_right m n))
    omega
  · have := Int.gcd_le_natAbs_left w hv
    have := lt9_u (lt9_mono h (Nat.le_max_left m n))
    omega
theorem lt9_tdiv {v w : Int} {m : Nat} (h : lt9 v m) : lt9 (v.tdiv w) m := by
  show ((v.tdiv w).natAbs : Int) < _
  have h1 : (v.tdiv w).natAbs ≤ v.natAbs := by rw [Int.natAbs_tdiv]; exact Nat.div_le_self _ _
  have h2 : (v.natAbs : Int) < BS ^ m := h
  omega
theorem lt9_i64 {u : Int} (hu : i64 u) : lt9 u 3 := by
  show (u.natAbs : Int) < BS ^ 3
  have : BS ^ 3 = 1000000000000000000000000000 := by decide
  omega
theorem lt9_neg {v : Int} {m : Nat} (h : lt9 v m) : lt9 (-v) m := by
  show ((-v).natAbs : Int) < _
  rw [Int.natAbs_neg]; exact h
/-- a fraction in lowest terms, the lower part above 0 -/
def fUp (a b : Int) : Int := if b < 0 then -(a.tdiv (Int.gcd a b)) else a.tdiv (Int.gcd a b)
def fLo (a b : Int) : Int := if b < 0 then -(b.tdiv (Int.gcd a b)) else b.tdiv (Int.gcd a b)
theorem td_exact {a g : Int} (h : g ∣ a) : a.tdiv g * g = a := Int.tdiv_mul_cancel h
theorem gcd_pos2 {a b : Int} (hb : b ≠ 0) : 0 < ((Int.gcd a b : Nat) : Int) := by
  have := Int.gcd_pos_of_ne_zero_right a hb
  omega
theorem f_up (a b : Int) : (if b < 0 then -1 else 1) * a = fUp a b * (Int.gcd a b) := by
  have := td_exact (Int.gcd_dvd_left (a := a) (b := b))
  unfold fUp
  by_cases hb : b < 0
  · rw [if_pos hb, if_pos hb, Int.neg_mul (a.tdiv _), this]; omega
  · rw [if_neg hb, if_neg hb, this]; omega
theorem f_lo (a b : Int) : (if b < 0 then -1 else 1) * b = fLo a b * (Int.gcd a b) := by
  have := td_exact (Int.gcd_dvd_right (a := a) (b := b))
  unfold fLo
  by_cases hb : b < 0
  · rw [if_pos hb, if_pos hb, Int.neg_mul (b.tdiv _), this]; omega
  · rw [if_neg hb, if_neg hb, this]; omega
theorem f_pos {a b : Int} (hb : b ≠ 0) : 0 < fLo a b := by
  have h1 := f_lo a b
  have h2 := gcd_pos2 (a := a) hb
  have h3 : 0 < fLo a b * (Int.gcd a b) := by rw [← h1]; split <;> omega
  rcases Int.lt_trichotomy (fLo a b) 0 with q | q | q
  · have := Int.mul_neg_of_neg_of_pos q h2; omega
  · rw [q] at h3; omega
  · exact q
section M14
variable {p : Program} {l : Launch} {e : Env} {R : Room} {s : State} {m : MethodId} {args : Array Value} {below : List Frame} {meth : Method} {c : Code} {Q : State → Prop} {b0 kc ks : Nat} {G : zG} {h : zH} {a : Nat} {cd : Int}
set_option maxHeartbeats 4000000 in
set_option maxRecDepth 100000 in
/-- fraction(up, low, a, b): the fraction a / b in lowest terms -/
theorem v_M_fraction (l : Launch) (G : zG) (b0 : Nat) (h : zH) (a : Nat) (cd : Int) (T : mT) {V : Int → Int} {up lo u w : Int} (hV : RV T V) (hup : 0 ≤ up ∧ up < 45) (hlo : 0 ≤ lo ∧ lo < 45) (hne : up ≠ lo) (hu : i64 u) (hw : i64 w) (hw0 : w ≠ 0) :
    mMet l G b0 y_M_fraction b_M_fraction 7 none 4 103 h a cd [.int (jI up), .int (jI lo), .long (kI u), .long (kI w)] T (fun o T' => o = none ∧ (∃ V' : Int → Int, RV T' V' ∧ (∀ q : Int, q ≠ up → q ≠ lo → q < 45 ∨ q = 47 ∨ q = 48 ∨ q = 49 ∨ q = 50 → V' q = V q) ∧ V' up = fUp u w ∧ V' lo = fLo u w) ∧ T'.2.2.2 = T.2.2.2) :=
  z_met (by decide) (Nat.le_of_ble_eq_true rfl) fun p e s m below meth c K hr hlk hnm => by
  have g0 := gcd_pos2 (a := u) hw0
  refine z_aload_n K d_M_fraction_0 rfl ?_
  refine z_bipush (v := jI 45) K d_M_fraction_1 rfl ?_
  refine z_lload_n K d_M_fraction_3 rfl ?_
  refine z_callV (ci := 0) (As := [.int (jI 45), .long (kI u)]) K (v_M_set l G b0 h a cd T hV (by decide) hu) ca_M_26 im_M_set se_M_set rfl (by decide) hm_0 rfl rfl (by decide) (Nat.le_of_ble_eq_true rfl) d_M_fraction_4 (fun o h1 hp => ?_)
  obtain ⟨T1, rfl, rfl, hV1, hN1⟩ := hp
  refine z_aload_n K d_M_fraction_7 rfl ?_
  refine z_bipush (v := jI 46) K d_M_fraction_8 rfl ?_
  refine z_lload K d_M_fraction_10 rfl ?_
  refine z_callV (ci := 0) (As := [.int (jI 46), .long (kI w)]) K (v_M_set l G b0 h a cd T1 hV1 (by decide) hw) ca_M_26 im_M_set se_M_set rfl (by decide) hm_0 rfl rfl (by decide) (Nat.le_of_ble_eq_true rfl) d_M_fraction_12 (fun o h1 hp => ?_)
  obtain ⟨T2, rfl, rfl, hV2, hN2⟩ := hp
  refine z_aload_n K d_M_fraction_15 rfl ?_
  refine z_bipush (v := jI 45) K d_M_fraction_16 rfl ?_
  refine z_bipush (v := jI 46) K d_M_fraction_18 rfl ?_
  refine z_callV (ci := 0) (As := [.int (jI 45), .int (jI 46)]) K (w_M_common l G b0 h a cd T2 (v := u) (w := w) hV2 (by decide) (by decide) (by simp [iu]) (by simp [iu]) (Or.inr hw0) (lt9_i64 hu) (lt9_i64 hw) (by decide) (by decide)) ca_M_115 im_M_common se_M_common rfl (by decide) hm_0 rfl rfl (by decide) (Nat.le_of_ble_eq_true rfl) d_M_fraction_20 (fun o h1 hp => ?_)
  obtain ⟨T3, rfl, rfl, ⟨g3, hV3⟩, hN3⟩ := hp
  refine z_aload_n K d_M_fraction_23 rfl ?_
  refine z_iload_n K d_M_fraction_24 rfl ?_
  refine z_bipush (v := jI 45) K d_M_fraction_25 rfl ?_
  refine z_bipush (v := jI 51) K d_M_fraction_27 rfl ?_
  refine z_callV (ci := 0) (As := [.int (jI up), .int (jI 45), .int (jI 51)]) K (w_M_share l G b0 h a cd T3 (v := u) (w := Int.gcd u w) hV3 (by omega) (by decide) (by decide) (by simp [iu]) (by simp [iu]) (by omega) (lt9_i64 hu) (by decide)) ca_M_109 im_M_share se_M_share rfl (by decide) hm_0 rfl rfl (by decide) (Nat.le_of_ble_eq_true rfl) d_M_fraction_29 (fun o h1 hp => ?_)
  obtain ⟨T4, rfl, rfl, ⟨g4, g5, hV4⟩, hN4⟩ := hp
  refine z_aload_n K d_M_fraction_32 rfl ?_
  refine z_iload_n K d_M_fraction_33 rfl ?_
  refine z_bipush (v := jI 46) K d_M_fraction_34 rfl ?_
  refine z_bipush (v := jI 51) K d_M_fraction_36 rfl ?_
  refine z_callV (ci := 0) (As := [.int (jI lo), .int (jI 46), .int (jI 51)]) K (w_M_share l G b0 h a cd T4 (v := w) (w := Int.gcd u w) hV4 (by omega) (by decide) (by decide) (by rw [iu_ne _ _ (by omega)]; simp [iu]) (by rw [iu_ne _ _ (by omega)]; simp [iu]) (by omega) (lt9_i64 hw) (by decide)) ca_M_109 im_M_share se_M_share rfl (by decide) hm_0 rfl rfl (by decide) (Nat.le_of_ble_eq_true rfl) d_M_fraction_38 (fun o h1 hp => ?_)
  obtain ⟨T5, rfl, rfl, ⟨g6, g7, hV5⟩, hN5⟩ := hp
  have hN : T5.2.2.2 = T.2.2.2 := hN5.trans (hN4.trans (hN3.trans (hN2.trans hN1)))
  obtain ⟨W, hW⟩ : ∃ W : Int → Int, W = iu (iu (iu (iu (iu (iu (iu (iu (iu (iu V 45 u) 46 w) 52 g3) 51 (Int.gcd u w)) 53 g4) 54 g5) up (u.tdiv (Int.gcd u w))) 53 g6) 54 g7) lo (w.tdiv (Int.gcd u w)) := ⟨_, rfl⟩
  rw [← hW] at hV5
  have w1 : W lo = w.tdiv (Int.gcd u w) := by rw [hW, iu_self]
  have w2 : W up = u.tdiv (Int.gcd u w) := by rw [hW, iu_ne _ _ hne, iu_ne _ _ (by omega), iu_ne _ _ (by omega), iu_self]
  have w3 : ∀ q : Int, q ≠ up → q ≠ lo → q < 45 ∨ q = 47 ∨ q = 48 ∨ q = 49 ∨ q = 50 → W q = V q := fun q q1 q2 q3 => by
    rw [hW, iu_ne _ _ q2, iu_ne _ _ (by omega), iu_ne _ _ (by omega), iu_ne _ _ q1, iu_ne _ _ (by omega), iu_ne _ _ (by omega), iu_ne _ _ (by omega), iu_ne _ _ (by omega), iu_ne _ _ (by omega), iu_ne _ _ (by omega)]
  obtain ⟨n1, k1⟩ := hV5 lo hlo.1 (by omega)
  obtain ⟨n2, k2⟩ := hV5 up hup.1 (by omega)
  rw [w1] at k1
  rw [w2] at k2
  have s1 := sgn3 (w.tdiv (Int.gcd u w))
  have hlo2 := td_exact (Int.gcd_dvd_right (a := u) (b := w))
  refine z_aload_n K d_M_fraction_41 rfl ?_
  refine zm_get K fd_M_16 rfl d_M_fraction_42 ?_
  refine z_iload_n K d_M_fraction_45 rfl ?_
  refine zm_sld K (by omega) d_M_fraction_46 ?_
  rw [k1.2.2.2.2.1]
  refine zi_if_ge (tgt := 70) K d_M_fraction_47 (by decide) (by omega) (fun hc => ?_) (fun hc => ?_)
  · have hwp : ¬ w < 0 := fun z => by
      have h1 : (w.tdiv (Int.gcd u w)) * (Int.gcd u w) < 0 := by omega
      have h2 : w.tdiv (Int.gcd u w) < 0 := by
        rcases Int.lt_trichotomy (w.tdiv (Int.gcd u w)) 0 with q | q | q
        · exact q
        · rw [q] at h1; omega
        · have := Int.mul_pos q g0; omega
      rw [Int.sign_eq_neg_one_of_neg h2] at hc
      omega
    exact z_vret K hr hlk d_M_fraction_70 ⟨_, rfl, rfl, ⟨W, hV5, w3, by rw [w2]; unfold fUp; rw [if_neg hwp], by rw [w1]; unfold fLo; rw [if_neg hwp]⟩, hN⟩
  · have hneg : w.tdiv (Int.gcd u w) < 0 := Int.neg_of_sign_eq_neg_one (by omega)
    have hwn : w < 0 := by
      have : (w.tdiv (Int.gcd u w)) * (Int.gcd u w) < 0 := Int.mul_neg_of_neg_of_pos hneg g0
      omega
    refine z_aload_n K d_M_fraction_50 rfl ?_
    refine zm_get K fd_M_16 rfl d_M_fraction_51 ?_
    refine z_iload_n K d_M_fraction_54 rfl ?_
    refine z_iconst (v := jI 1) K d_M_fraction_55 rfl ?_
    refine zm_sst K (by omega) d_M_fraction_56 ?_
    have hV6 := RV.sign (r := lo) (sv := 1) hV5 ⟨hlo.1, by omega⟩ (Or.inl (by rw [w1]; omega)) (Or.inl rfl)
    refine z_aload_n K d_M_fraction_57 rfl ?_
    refine zm_get K fd_M_16 rfl d_M_fraction_58 ?_
    refine z_iload_n K d_M_fraction_61 rfl ?_
    refine z_aload_n K d_M_fraction_62 rfl ?_
    refine zm_get K fd_M_16 rfl d_M_fraction_63 ?_
    refine z_iload_n K d_M_fraction_66 rfl ?_
    refine zm_sld K (by omega) d_M_fraction_67 ?_
    dsimp only
    rw [iu_ne _ _ hne, k2.2.2.2.2.1]
    refine zi_ineg K d_M_fraction_68 ?_
    refine zm_sst K (by omega) d_M_fraction_69 ?_
    dsimp only
    have s2 := sgn3 (u.tdiv (Int.gcd u w))
    have e6 : iu W lo (1 * ((W lo).natAbs : Int)) up = u.tdiv (Int.gcd u w) := by rw [iu_ne _ _ hne, w2]
    have hV7 := RV.sign (r := up) (sv := -(u.tdiv (Int.gcd u w)).sign) hV6 ⟨hup.1, by omega⟩ (by
      rw [e6]
      by_cases z : u.tdiv (Int.gcd u w) = 0
      · right; rw [z]; rfl
      · left; exact z) (by
      rw [e6]
      rcases s2 with q | q | q
      · left; rw [q]; rfl
      · right; right; exact ⟨by rw [q]; rfl, Int.sign_eq_zero_iff_zero.mp q⟩
      · right; left; rw [q])
    rw [e6] at hV7
    refine z_vret K hr hlk d_M_fraction_70 ⟨_, rfl, rfl, ⟨_, hV7, fun q q1 q2 q3 => ?_, ?_, ?_⟩, hN⟩
    · rw [iu_ne _ _ q1, iu_ne _ _ q2]; exact w3 q q1 q2 q3
    · rw [iu_self, Int.neg_mul, Int.sign_mul_natAbs]; unfold fUp; rw [if_pos hwn]
    · rw [iu_ne _ _ (fun z => hne z.symm), iu_self, w1]; unfold fLo; rw [if_pos hwn]; omega
end M14
end
section
section M15
variable {p : Program} {l : Launch} {e : Env} {R : Room} {s : State} {m : MethodId} {args : Array Value} {below : List Frame} {meth : Method} {c : Code} {Q : State → Prop} {b0 kc ks : Nat} {G : zG} {h : zH} {a : Nat} {cd : Int}
set_option maxHeartbeats 4000000 in
set_option maxRecDepth 100000 in
theorem t_M_move (K : zC p s m args c b_M_move R_M 4 b0 G) (hRm : 1 ≤ R.frames ∧ 23 ≤ R.locals ∧ kc ≤ R.cells ∧ ks ≤ R.slots) {f t : Int} (hf : 0 ≤ f ∧ f < 54) (ht : 0 ≤ t ∧ t < 54) (j : Nat) (T : mT) {V : Int → Int} (hV : RV T V) (hj : j < 3) (hNf : T.2.2.2 f = 0)
    (hx : ∀ T' : mT, RV T' (iu V (t + j) (V (f + j))) → T'.2.2.2 = T.2.2.2 → zW p l e R s m args below meth c 4 b0 G kc ks Q (hm G h a cd T') 14 [(0, .ref a), (1, .int (jI f)), (2, .int (jI t)), (3, .int (jI (j + 1 : Int)))] []) :
    zW p l e R s m args below meth c 4 b0 G kc ks Q (hm G h a cd T) 14 [(0, .ref a), (1, .int (jI f)), (2, .int (jI t)), (3, .int (jI j))] [] := by
  refine z_iload_n K d_M_move_14 rfl ?_
  refine z_iconst (v := jI 3) K d_M_move_15 rfl ?_
  refine zi_icmp_ge (tgt := 44) K d_M_move_16 (by decide) (by omega) (by omega) (fun hc => absurd hc (by omega)) (fun hc => ?_)
  refine z_aload_n K d_M_move_19 rfl ?_
  refine zm_get K fd_M_19 rfl d_M_move_20 ?_
  refine z_iload_n K d_M_move_23 rfl ?_
  refine zm_nld K (by omega) d_M_move_24 ?_
  rw [hNf]
  refine zi_if_ne (tgt := 44) K d_M_move_25 (by decide) (by omega) (fun hc => absurd rfl hc) (fun _ => ?_)
  refine z_aload_n K d_M_move_28 rfl ?_
  refine z_iload_n K d_M_move_29 rfl ?_
  refine z_iload_n K d_M_move_30 rfl ?_
  refine zi_iadd K d_M_move_31 ?_
  refine z_iload_n K d_M_move_32 rfl ?_
  refine z_iload_n K d_M_move_33 rfl ?_
  refine zi_iadd K d_M_move_34 ?_
  refine z_callV (ci := 0) (As := [.int (jI (f + j)), .int (jI (t + j))]) K (v_M_copy l G b0 h a cd T hV (by omega) (by omega)) ca_M_40 im_M_copy se_M_copy rfl (by decide) hm_0 rfl rfl (by omega) (Nat.le_of_ble_eq_true rfl) d_M_move_35 (fun o h1 hp => ?_)
  obtain ⟨T1, rfl, rfl, hV1, hN1⟩ := hp
  refine zi_iinc K d_M_move_38 rfl (by decide) ?_
  refine z_goto (tgt := 14) K d_M_move_41 (by decide) ?_
  exact z_re [0, 1, 2, 3] rfl (hx T1 hV1 hN1)
set_option maxHeartbeats 4000000 in
set_option maxRecDepth 100000 in
/-- move(f, t): the point at t is that at f -/
theorem v_M_move (l : Launch) (G : zG) (b0 : Nat) (h : zH) (a : Nat) (cd : Int) (T : mT) {V : Int → Int} {f t : Int} (hV : RV T V) (hf : 0 ≤ f ∧ f < 54) (ht : 0 ≤ t ∧ t < 54) (hft : f = t ∨ f + 3 ≤ t ∨ t + 3 ≤ f) (hNf : T.2.2.2 f = 0 ∨ T.2.2.2 f = 1) :
    mMet l G b0 y_M_move b_M_move 4 none 1 23 h a cd [.int (jI f), .int (jI t)] T (fun o T' => o = none ∧ (∃ V' : Int → Int, RV T' V' ∧ (T.2.2.2 f = 0 → V' t = V f ∧ V' (t + 1) = V (f + 1) ∧ V' (t + 2) = V (f + 2)) ∧ (∀ q : Int, q < t ∨ t + 3 ≤ q → V' q = V q)) ∧ T'.2.2.2 = iu T.2.2.2 t (T.2.2.2 f)) :=
  z_met (by decide) (Nat.le_of_ble_eq_true rfl) fun p e s m below meth c K hr hlk hnm => by
  have hNf2 : iu T.2.2.2 t (T.2.2.2 f) f = T.2.2.2 f := by
    by_cases z : f = t
    · rw [z, iu_self]
    · rw [iu_ne _ _ z]
  refine z_aload_n K d_M_move_0 rfl ?_
  refine zm_get K fd_M_19 rfl d_M_move_1 ?_
  refine z_iload_n K d_M_move_4 rfl ?_
  refine z_aload_n K d_M_move_5 rfl ?_
  refine zm_get K fd_M_19 rfl d_M_move_6 ?_
  refine z_iload_n K d_M_move_9 rfl ?_
  refine zm_nld K (by omega) d_M_move_10 ?_
  refine zm_nst K (by omega) hNf d_M_move_11 ?_
  refine z_iconst (v := jI 0) K d_M_move_12 rfl ?_
  refine z_istore_n K d_M_move_13 (by decide) ?_
  refine z_re [0, 1, 2, 3] rfl ?_
  have hV0 : RV (T.1, T.2.1, T.2.2.1, iu T.2.2.2 t (T.2.2.2 f)) V := fun r h0 h1 => hV r h0 h1
  rcases hNf with hNf | hNf
  · refine t_M_move (j := 0) K ⟨Nat.le_refl _, Nat.le_refl _, Nat.le_refl _, Nat.le_refl _⟩ hf ht _ hV0 (by decide) (by dsimp only; rw [hNf2, hNf]) (fun T1 hV1 hN1 => ?_)
    refine t_M_move (j := 1) K ⟨Nat.le_refl _, Nat.le_refl _, Nat.le_refl _, Nat.le_refl _⟩ hf ht T1 hV1 (by decide) (by rw [hN1]; dsimp only; rw [hNf2, hNf]) (fun T2 hV2 hN2 => ?_)
    refine t_M_move (j := 2) K ⟨Nat.le_refl _, Nat.le_refl _, Nat.le_refl _, Nat.le_refl _⟩ hf ht T2 hV2 (by decide) (by rw [hN2, hN1]; dsimp only; rw [hNf2, hNf]) (fun T3 hV3 hN3 => ?_)
    refine z_iload_n K d_M_move_14 rfl ?_
    refine z_iconst (v := jI 3) K d_M_move_15 rfl ?_
    refine zi_icmp_ge (tgt := 44) K d_M_move_16 (by decide) (by decide) (by omega) (fun hc => ?_) (fun hc => absurd hc (by decide))
    refine z_vret K hr hlk d_M_move_44 ⟨_, rfl, rfl, ⟨_, hV3, fun _ => ?_, fun q hq => ?_⟩, hN3.trans (hN2.trans hN1)⟩
    · simp only [Int.natCast_zero, Int.add_zero, Int.natCast_one, show ((2 : Nat) : Int) = 2 from rfl]
      refine ⟨?_, ?_, ?_⟩
      · rw [iu_ne _ _ (by omega), iu_ne _ _ (by omega), iu_self]
      · rw [iu_ne _ _ (by omega), iu_self]
        by_cases z : f = t
        · subst z; rw [iu_ne _ _ (by omega)]
        · rw [iu_ne _ _ (by omega)]
      · rw [iu_self, iu_ne _ _ (by omega), iu_ne _ _ (by omega)]
    · rw [iu_ne _ _ (by omega), iu_ne _ _ (by omega), iu_ne _ _ (by omega)]
  · refine z_iload_n K d_M_move_14 rfl ?_
    refine z_iconst (v := jI 3) K d_M_move_15 rfl ?_
    refine zi_icmp_ge (tgt := 44) K d_M_move_16 (by decide) (by decide) (by omega) (fun hc => absurd hc (by decide)) (fun hc => ?_)
    refine z_aload_n K d_M_move_19 rfl ?_
    refine zm_get K fd_M_19 rfl d_M_move_20 ?_
    refine z_iload_n K d_M_move_23 rfl ?_
    refine zm_nld K (by omega) d_M_move_24 ?_
    dsimp only
    rw [hNf2, hNf]
    refine zi_if_ne (tgt := 44) K d_M_move_25 (by decide) (by omega) (fun _ => ?_) (fun hc => absurd hc (by decide))
    refine z_vret K hr hlk d_M_move_44 ⟨_, rfl, rfl, ⟨V, ?_, fun z => absurd z (by omega), fun q _ => rfl⟩, ?_⟩
    · rw [hNf] at hV0; exact hV0
    · rfl
end M15
end
section
theorem gnz_r {a b : Int} (hb : b ≠ 0) : ((Int.gcd a b : Nat) : Int) ≠ 0 := by have := Int.gcd_pos_of_ne_zero_right a hb; omega
theorem gnz_l {a b : Int} (ha : a ≠ 0) : ((Int.gcd a b : Nat) : Int) ≠ 0 := by have := Int.gcd_pos_of_ne_zero_left b ha; omega
/-- the x of the third point, before it is cut: top, and the lower parts w w and w w w -/
def fX (A1 A2 nn ww dd ss : Int) : Int := nn * nn + A1 * nn * ww - A2 * (ww * ww) - dd * dd * ss
def fY (A1 A3 nn ww dd vv kk X : Int) : Int := nn * (dd * dd * vv - X) - A1 * X * ww - dd * dd * dd * kk - A3 * (ww * ww * ww)
theorem ne30 {q k : Int} (hq : q < 30) (hk : 30 ≤ k) : q ≠ k := by omega
section M16
variable {p : Program} {l : Launch} {e : Env} {R : Room} {s : State} {m : MethodId} {args : Array Value} {below : List Frame} {meth : Method} {c : Code} {Q : State → Prop} {b0 kc ks : Nat} {G : zG} {h : zH} {a : Nat} {cd : Int}

set_option maxHeartbeats 4000000 in
set_option maxRecDepth 100000 in
theorem t_M_finish332 (K : zC p s m args c b_M_finish R_M 1 b0 G) (hRm : 4 ≤ R.frames ∧ 103 ≤ R.locals ∧ kc ≤ R.cells ∧ ks ≤ R.slots) (T : mT) {V : Int → Int} {v49 u48 : Int} {mm : Nat} (hV : RV T V) (f49 : V 49 = v49) (f48 : V 48 = u48) (h48 : u48 ≠ 0) (b49 : lt9 v49 mm) (hm1 : mm ≤ 457)
    (hx : ∀ (T' : mT) (V' : Int → Int), RV T' V' → (∀ q : Int, q < 38 → V' q = V q) → V' 38 = v49.tdiv u48 → T'.2.2.2 = iu T.2.2.2 36 0 → zW p l e R s m args below meth c 1 b0 G kc ks Q (hm G h a cd T') 350 [] []) :
    zW p l e R s m args below meth c 1 b0 G kc ks Q (hm G h a cd T) 332 [(0, .ref a)] [] := by
  refine z_aload_n K d_M_finish_332 rfl ?_
  refine z_bipush (v := jI 38) K d_M_finish_333 rfl ?_
  refine z_bipush (v := jI 49) K d_M_finish_335 rfl ?_
  refine z_bipush (v := jI 48) K d_M_finish_337 rfl ?_
  refine z_callV (ci := 0) (As := [.int (jI 38), .int (jI 49), .int (jI 48)]) K (w_M_share l G b0 h a cd T (v := v49) (w := u48) hV (by decide) (by decide) (by decide) f49 f48 h48 b49 hm1) ca_M_109 im_M_share se_M_share rfl (by decide) hm_0 rfl rfl (by omega) (Nat.le_of_ble_eq_true rfl) d_M_finish_339 (fun o h1 hp => ?_)
  obtain ⟨T1, rfl, rfl, ⟨y1, z1, hV1⟩, hN1⟩ := hp
  refine z_aload_n K d_M_finish_342 rfl ?_
  refine zm_get K fd_M_19 rfl d_M_finish_343 ?_
  refine z_bipush (v := jI 36) K d_M_finish_346 rfl ?_
  refine z_iconst (v := jI 0) K d_M_finish_348 rfl ?_
  refine zm_nst K (by omega) (by omega) d_M_finish_349 ?_
  refine z_re [] rfl (hx _ _ (fun r h0 h1 => hV1 r h0 h1) (fun q hq => ?_) (iu_self _ _ _) ?_)
  · rw [iu_ne _ _ (by omega), iu_ne _ _ (by omega), iu_ne _ _ (by omega)]
  · dsimp only
    rw [hN1]
set_option maxHeartbeats 4000000 in
set_option maxRecDepth 100000 in
theorem t_M_finish299 (K : zC p s m args c b_M_finish R_M 1 b0 G) (hRm : 4 ≤ R.frames ∧ 103 ≤ R.locals ∧ kc ≤ R.cells ∧ ks ≤ R.slots) (T : mT) {V : Int → Int} {X Y ww : Int} {mm : Nat} (hV : RV T V) (f36 : V 36 = X.tdiv (Int.gcd X (ww * ww))) (f48 : V 48 = (ww * ww).tdiv (Int.gcd X (ww * ww))) (f37 : V 37 = Y.tdiv (Int.gcd Y (ww * ww * ww))) (f49 : V 49 = (ww * ww * ww).tdiv (Int.gcd Y (ww * ww * ww))) (b49 : lt9 ((ww * ww * ww).tdiv (Int.gcd Y (ww * ww * ww))) mm) (hm1 : mm ≤ 457) (hw0 : ww ≠ 0)
    (hx : ∀ (T' : mT) (V' : Int → Int), RV T' V' → (∀ q : Int, q < 30 → V' q = V q) → V' 36 = fUp X (ww * ww) → V' 37 = fUp Y (ww * ww * ww) → V' 38 = (fLo Y (ww * ww * ww)).tdiv (fLo X (ww * ww)) → T'.2.2.2 = iu T.2.2.2 36 0 → zW p l e R s m args below meth c 1 b0 G kc ks Q (hm G h a cd T') 350 [] []) :
    zW p l e R s m args below meth c 1 b0 G kc ks Q (hm G h a cd T) 299 [(0, .ref a)] [] := by
  have hww : 0 < ww * ww := by
    rcases Int.lt_trichotomy ww 0 with q | q | q
    · exact Int.mul_pos_of_neg_of_neg q q
    · exact absurd q hw0
    · exact Int.mul_pos q q
  have h3 : ww * ww * ww ≠ 0 := Int.mul_ne_zero (by omega) hw0
  have r36 : X.tdiv (Int.gcd X (ww * ww)) = fUp X (ww * ww) := by unfold fUp; rw [if_neg (by omega)]
  have r48 : (ww * ww).tdiv (Int.gcd X (ww * ww)) = fLo X (ww * ww) := by unfold fLo; rw [if_neg (by omega)]
  have n48 : fLo X (ww * ww) ≠ 0 := by
    have := f_pos (a := X) (b := ww * ww) (by omega)
    omega
  rw [r36] at f36
  rw [r48] at f48
  obtain ⟨c3, hc3⟩ : ∃ z : Int, z = ww * ww * ww := ⟨_, rfl⟩
  rw [← hc3] at f37 f49 b49 h3 hx
  have hx49 := td_exact (Int.gcd_dvd_right (a := Y) (b := c3))
  have gp := gcd_pos2 (a := Y) h3
  obtain ⟨n1, k1⟩ := hV 49 (by decide) (by decide)
  obtain ⟨n2, k2⟩ := hV 37 (by decide) (by decide)
  rw [f49] at k1
  rw [f37] at k2
  have s1 := sgn3 (c3.tdiv (Int.gcd Y c3))
  refine z_aload_n K d_M_finish_299 rfl ?_
  refine zm_get K fd_M_16 rfl d_M_finish_300 ?_
  refine z_bipush (v := jI 49) K d_M_finish_303 rfl ?_
  refine zm_sld K (by omega) d_M_finish_305 ?_
  rw [k1.2.2.2.2.1]
  refine zi_if_ge (tgt := 332) K d_M_finish_306 (by decide) (by omega) (fun hc => ?_) (fun hc => ?_)
  · have hnn : ¬ c3 < 0 := fun z => by
      rcases Int.lt_trichotomy (c3.tdiv (Int.gcd Y c3)) 0 with q | q | q
      · rw [Int.sign_eq_neg_one_of_neg q] at hc; omega
      · rw [q] at hx49; omega
      · have := Int.mul_pos q gp; omega
    have e1 : Y.tdiv (Int.gcd Y c3) = fUp Y c3 := by unfold fUp; rw [if_neg hnn]
    have e2 : c3.tdiv (Int.gcd Y c3) = fLo Y c3 := by unfold fLo; rw [if_neg hnn]
    rw [e1] at f37
    rw [e2] at f49 b49
    exact t_M_finish332 K hRm T hV f49 f48 n48 b49 hm1 (fun T' V' q1 q2 q3 q4 => hx T' V' q1 (fun q hq => q2 q (by omega)) ((q2 36 (by decide)).trans f36) ((q2 37 (by decide)).trans f37) q3 q4)
  · have hneg : c3.tdiv (Int.gcd Y c3) < 0 := Int.neg_of_sign_eq_neg_one (by omega)
    have hnn : c3 < 0 := by
      have := Int.mul_neg_of_neg_of_pos hneg gp
      omega
    have e1 : -(Y.tdiv (Int.gcd Y c3)) = fUp Y c3 := by unfold fUp; rw [if_pos hnn]
    have e2 : -(c3.tdiv (Int.gcd Y c3)) = fLo Y c3 := by unfold fLo; rw [if_pos hnn]
    obtain ⟨v37, hv37⟩ : ∃ z : Int, z = Y.tdiv (Int.gcd Y c3) := ⟨_, rfl⟩
    obtain ⟨v49, hv49⟩ : ∃ z : Int, z = c3.tdiv (Int.gcd Y c3) := ⟨_, rfl⟩
    rw [← hv37] at f37 k2 e1
    rw [← hv49] at f49 b49 e2 hneg
    refine z_aload_n K d_M_finish_309 rfl ?_
    refine zm_get K fd_M_16 rfl d_M_finish_310 ?_
    refine z_bipush (v := jI 49) K d_M_finish_313 rfl ?_
    refine z_iconst (v := jI 1) K d_M_finish_315 rfl ?_
    refine zm_sst K (by omega) d_M_finish_316 ?_
    have hV6 := RV.sign (r := 49) (sv := 1) hV ⟨by decide, by decide⟩ (Or.inl (by rw [f49]; omega)) (Or.inl rfl)
    refine z_aload_n K d_M_finish_317 rfl ?_
    refine zm_get K fd_M_16 rfl d_M_finish_318 ?_
    refine z_bipush (v := jI 37) K d_M_finish_321 rfl ?_
    refine z_aload_n K d_M_finish_323 rfl ?_
    refine zm_get K fd_M_16 rfl d_M_finish_324 ?_
    refine z_bipush (v := jI 37) K d_M_finish_327 rfl ?_
    refine zm_sld K (by omega) d_M_finish_329 ?_
    dsimp only
    rw [iu_ne _ _ (by decide), k2.2.2.2.2.1]
    refine zi_ineg K d_M_finish_330 ?_
    refine zm_sst K (by omega) d_M_finish_331 ?_
    dsimp only
    have s2 := sgn3 v37
    have e6 : iu V 49 (1 * ((V 49).natAbs : Int)) 37 = v37 := by rw [iu_ne _ _ (by decide), f37]
    have hV7 := RV.sign (r := 37) (sv := -v37.sign) hV6 ⟨by decide, by decide⟩ (by
      rw [e6]
      by_cases z : v37 = 0
      · right; rw [z]; rfl
      · left; exact z) (by
      rw [e6]
      rcases s2 with q | q | q
      · left; rw [q]; rfl
      · right; right; exact ⟨by rw [q]; rfl, Int.sign_eq_zero_iff_zero.mp q⟩
      · right; left; rw [q])
    rw [e6, f49, Int.neg_mul, Int.sign_mul_natAbs] at hV7
    refine t_M_finish332 (V := iu (iu V 49 (1 * (v49.natAbs : Int))) 37 (-v37)) K hRm _ hV7 (v49 := fLo Y c3) (by rw [iu_ne _ _ (by decide), iu_self, ← e2]; omega) (by rw [iu_ne _ _ (by decide), iu_ne _ _ (by decide)]; exact f48) n48 (e2 ▸ lt9_neg b49) hm1 (fun T' V' q1 q2 q3 q4 => hx T' V' q1 (fun q hq => ?_) ?_ ?_ q3 q4)
    · rw [q2 q (by omega), iu_ne _ _ (by omega), iu_ne _ _ (by omega)]
    · rw [q2 36 (by decide), iu_ne _ _ (by decide), iu_ne _ _ (by decide), f36]
    · rw [q2 37 (by decide), iu_self, e1]
set_option maxHeartbeats 4000000 in
set_option maxRecDepth 100000 in
theorem v_M_finish (l : Launch) (G : zG) (b0 : Nat) (h : zH) (a : Nat) (cd : Int) (T : mT) {V : Int → Int} {dd nn ww ss vv kk A1 A2 A3 A4 A6 : Int} (hV : RV T V) (cA1 : V 24 = A1) (cA2 : V 25 = A2) (cA3 : V 26 = A3) (cA4 : V 27 = A4) (cA6 : V 28 = A6) (bA1 : lt9 A1 1) (bA2 : lt9 A2 1) (bA3 : lt9 A3 1) (bA4 : lt9 A4 1) (bA6 : lt9 A6 1) (fD : V 43 = dd) (fN : V 42 = nn) (fW : V 44 = ww) (fS : V 50 = ss) (fV : V 49 = vv) (fK : V 39 = kk) (bD : lt9 dd 77) (bN : lt9 nn 116) (bW : lt9 ww 115) (bS : lt9 ss 77) (bV : lt9 vv 76) (bK : lt9 kk 115) (hw0 : ww ≠ 0) :
    mMet l G b0 y_M_finish b_M_finish 1 none 4 103 h a cd [] T (fun o T' => o = none ∧ (∃ V' : Int → Int, RV T' V' ∧ (∀ q : Int, q < 30 → V' q = V q) ∧ V' 36 = fUp (fX A1 A2 nn ww dd ss) (ww * ww) ∧ V' 37 = fUp (fY A1 A3 nn ww dd vv kk (fX A1 A2 nn ww dd ss)) (ww * ww * ww) ∧ V' 38 = (fLo (fY A1 A3 nn ww dd vv kk (fX A1 A2 nn ww dd ss)) (ww * ww * ww)).tdiv (fLo (fX A1 A2 nn ww dd ss) (ww * ww))) ∧ T'.2.2.2 = iu T.2.2.2 36 0) :=
  z_met (by decide) (Nat.le_of_ble_eq_true rfl) fun p e s m below meth c K hr hlk hnm => by
  have g0 : ∀ q : Int, q < 30 → V q = V q := fun _ _ => rfl
  refine z_aload_n K d_M_finish_0 rfl ?_
  refine z_bipush (v := jI 53) K d_M_finish_1 rfl ?_
  refine z_bipush (v := jI 43) K d_M_finish_3 rfl ?_
  refine z_bipush (v := jI 43) K d_M_finish_5 rfl ?_
  refine z_callV (ci := 0) (As := [.int (jI 53), .int (jI 43), .int (jI 43)]) K (w_M_multiply l G b0 h a cd T (v := dd) (w := dd) hV (by decide) (by decide) (by decide) (by decide) (by decide) fD fD bD bD (by decide)) ca_M_92 im_M_multiply se_M_multiply rfl (by decide) hm_0 rfl rfl (by decide) (Nat.le_of_ble_eq_true rfl) d_M_finish_7 (fun o h1 hp => ?_)
  obtain ⟨T1, rfl, rfl, hV1, hN1⟩ := hp
  obtain ⟨x1, e1⟩ : ∃ z : Int, z = dd * dd := ⟨_, rfl⟩
  rw [← e1] at hV1
  have b1 : lt9 x1 154 := by rw [e1]; have z := lt9_mul bD bD; exact z
  obtain ⟨V1, eV1⟩ : ∃ W : Int → Int, W = iu V 53 x1 := ⟨_, rfl⟩
  rw [← eV1] at hV1
  have f1_43 : V1 43 = dd := (by rw [eV1, iu_ne _ _ (by decide)] : V1 43 = V 43).trans fD
  have f1_42 : V1 42 = nn := (by rw [eV1, iu_ne _ _ (by decide)] : V1 42 = V 42).trans fN
  have f1_44 : V1 44 = ww := (by rw [eV1, iu_ne _ _ (by decide)] : V1 44 = V 44).trans fW
  have f1_50 : V1 50 = ss := (by rw [eV1, iu_ne _ _ (by decide)] : V1 50 = V 50).trans fS
  have f1_49 : V1 49 = vv := (by rw [eV1, iu_ne _ _ (by decide)] : V1 49 = V 49).trans fV
  have f1_39 : V1 39 = kk := (by rw [eV1, iu_ne _ _ (by decide)] : V1 39 = V 39).trans fK
  have f1_53 : V1 53 = x1 := by rw [eV1, iu_self]
  have g1 : ∀ q : Int, q < 30 → V1 q = V q := fun q hq => (by rw [eV1, iu_ne _ _ (ne30 hq (by decide))] : V1 q = V q).trans (g0 q hq)
  refine z_aload_n K d_M_finish_10 rfl ?_
  refine z_bipush (v := jI 54) K d_M_finish_11 rfl ?_
  refine z_bipush (v := jI 53) K d_M_finish_13 rfl ?_
  refine z_bipush (v := jI 50) K d_M_finish_15 rfl ?_
  refine z_callV (ci := 0) (As := [.int (jI 54), .int (jI 53), .int (jI 50)]) K (w_M_multiply l G b0 h a cd T1 (v := x1) (w := ss) hV1 (by decide) (by decide) (by decide) (by decide) (by decide) f1_53 f1_50 b1 bS (by decide)) ca_M_92 im_M_multiply se_M_multiply rfl (by decide) hm_0 rfl rfl (by decide) (Nat.le_of_ble_eq_true rfl) d_M_finish_17 (fun o h1 hp => ?_)
  obtain ⟨T2, rfl, rfl, hV2, hN2⟩ := hp
  obtain ⟨x2, e2⟩ : ∃ z : Int, z = x1 * ss := ⟨_, rfl⟩
  rw [← e2] at hV2
  have b2 : lt9 x2 231 := by rw [e2]; have z := lt9_mul b1 bS; exact z
  obtain ⟨V2, eV2⟩ : ∃ W : Int → Int, W = iu V1 54 x2 := ⟨_, rfl⟩
  rw [← eV2] at hV2
  have f2_43 : V2 43 = dd := (by rw [eV2, iu_ne _ _ (by decide)] : V2 43 = V1 43).trans f1_43
  have f2_42 : V2 42 = nn := (by rw [eV2, iu_ne _ _ (by decide)] : V2 42 = V1 42).trans f1_42
  have f2_44 : V2 44 = ww := (by rw [eV2, iu_ne _ _ (by decide)] : V2 44 = V1 44).trans f1_44
  have f2_50 : V2 50 = ss := (by rw [eV2, iu_ne _ _ (by decide)] : V2 50 = V1 50).trans f1_50
  have f2_49 : V2 49 = vv := (by rw [eV2, iu_ne _ _ (by decide)] : V2 49 = V1 49).trans f1_49
  have f2_39 : V2 39 = kk := (by rw [eV2, iu_ne _ _ (by decide)] : V2 39 = V1 39).trans f1_39
  have f2_53 : V2 53 = x1 := (by rw [eV2, iu_ne _ _ (by decide)] : V2 53 = V1 53).trans f1_53
  have f2_54 : V2 54 = x2 := by rw [eV2, iu_self]
  have g2 : ∀ q : Int, q < 30 → V2 q = V q := fun q hq => (by rw [eV2, iu_ne _ _ (ne30 hq (by decide))] : V2 q = V1 q).trans (g1 q hq)
  refine z_aload_n K d_M_finish_20 rfl ?_
  refine z_bipush (v := jI 54) K d_M_finish_21 rfl ?_
  refine z_bipush (v := jI 50) K d_M_finish_23 rfl ?_
  refine z_callV (ci := 0) (As := [.int (jI 54), .int (jI 50)]) K (w_M_copy l G b0 h a cd T2 (v := x2) hV2 (by decide) (by decide) f2_54) ca_M_40 im_M_copy se_M_copy rfl (by decide) hm_0 rfl rfl (by decide) (Nat.le_of_ble_eq_true rfl) d_M_finish_25 (fun o h1 hp => ?_)
  obtain ⟨T3, rfl, rfl, hV3, hN3⟩ := hp
  obtain ⟨V3, eV3⟩ : ∃ W : Int → Int, W = iu V2 50 x2 := ⟨_, rfl⟩
  rw [← eV3] at hV3
  have f3_43 : V3 43 = dd := (by rw [eV3, iu_ne _ _ (by decide)] : V3 43 = V2 43).trans f2_43
  have f3_42 : V3 42 = nn := (by rw [eV3, iu_ne _ _ (by decide)] : V3 42 = V2 42).trans f2_42
  have f3_44 : V3 44 = ww := (by rw [eV3, iu_ne _ _ (by decide)] : V3 44 = V2 44).trans f2_44
  have f3_49 : V3 49 = vv := (by rw [eV3, iu_ne _ _ (by decide)] : V3 49 = V2 49).trans f2_49
  have f3_39 : V3 39 = kk := (by rw [eV3, iu_ne _ _ (by decide)] : V3 39 = V2 39).trans f2_39
  have f3_53 : V3 53 = x1 := (by rw [eV3, iu_ne _ _ (by decide)] : V3 53 = V2 53).trans f2_53
  have f3_54 : V3 54 = x2 := (by rw [eV3, iu_ne _ _ (by decide)] : V3 54 = V2 54).trans f2_54
  have f3_50 : V3 50 = x2 := by rw [eV3, iu_self]
  have g3 : ∀ q : Int, q < 30 → V3 q = V q := fun q hq => (by rw [eV3, iu_ne _ _ (ne30 hq (by decide))] : V3 q = V2 q).trans (g2 q hq)
  refine z_aload_n K d_M_finish_28 rfl ?_
  refine z_bipush (v := jI 45) K d_M_finish_29 rfl ?_
  refine z_bipush (v := jI 42) K d_M_finish_31 rfl ?_
  refine z_bipush (v := jI 42) K d_M_finish_33 rfl ?_
  refine z_callV (ci := 0) (As := [.int (jI 45), .int (jI 42), .int (jI 42)]) K (w_M_multiply l G b0 h a cd T3 (v := nn) (w := nn) hV3 (by decide) (by decide) (by decide) (by decide) (by decide) f3_42 f3_42 bN bN (by decide)) ca_M_92 im_M_multiply se_M_multiply rfl (by decide) hm_0 rfl rfl (by decide) (Nat.le_of_ble_eq_true rfl) d_M_finish_35 (fun o h1 hp => ?_)
  obtain ⟨T4, rfl, rfl, hV4, hN4⟩ := hp
  obtain ⟨x4, e4⟩ : ∃ z : Int, z = nn * nn := ⟨_, rfl⟩
  rw [← e4] at hV4
  have b4 : lt9 x4 232 := by rw [e4]; have z := lt9_mul bN bN; exact z
  obtain ⟨V4, eV4⟩ : ∃ W : Int → Int, W = iu V3 45 x4 := ⟨_, rfl⟩
  rw [← eV4] at hV4
  have f4_43 : V4 43 = dd := (by rw [eV4, iu_ne _ _ (by decide)] : V4 43 = V3 43).trans f3_43
  have f4_42 : V4 42 = nn := (by rw [eV4, iu_ne _ _ (by decide)] : V4 42 = V3 42).trans f3_42
  have f4_44 : V4 44 = ww := (by rw [eV4, iu_ne _ _ (by decide)] : V4 44 = V3 44).trans f3_44
  have f4_49 : V4 49 = vv := (by rw [eV4, iu_ne _ _ (by decide)] : V4 49 = V3 49).trans f3_49
  have f4_39 : V4 39 = kk := (by rw [eV4, iu_ne _ _ (by decide)] : V4 39 = V3 39).trans f3_39
  have f4_53 : V4 53 = x1 := (by rw [eV4, iu_ne _ _ (by decide)] : V4 53 = V3 53).trans f3_53
  have f4_54 : V4 54 = x2 := (by rw [eV4, iu_ne _ _ (by decide)] : V4 54 = V3 54).trans f3_54
  have f4_50 : V4 50 = x2 := (by rw [eV4, iu_ne _ _ (by decide)] : V4 50 = V3 50).trans f3_50
  have f4_45 : V4 45 = x4 := by rw [eV4, iu_self]
  have g4 : ∀ q : Int, q < 30 → V4 q = V q := fun q hq => (by rw [eV4, iu_ne _ _ (ne30 hq (by decide))] : V4 q = V3 q).trans (g3 q hq)
  refine z_aload_n K d_M_finish_38 rfl ?_
  refine z_bipush (v := jI 54) K d_M_finish_39 rfl ?_
  refine z_bipush (v := jI 24) K d_M_finish_41 rfl ?_
  refine z_bipush (v := jI 42) K d_M_finish_43 rfl ?_
  refine z_callV (ci := 0) (As := [.int (jI 54), .int (jI 24), .int (jI 42)]) K (w_M_multiply l G b0 h a cd T4 (v := A1) (w := nn) hV4 (by decide) (by decide) (by decide) (by decide) (by decide) ((g4 24 (by decide)).trans cA1) f4_42 bA1 bN (by decide)) ca_M_92 im_M_multiply se_M_multiply rfl (by decide) hm_0 rfl rfl (by decide) (Nat.le_of_ble_eq_true rfl) d_M_finish_45 (fun o h1 hp => ?_)
  obtain ⟨T5, rfl, rfl, hV5, hN5⟩ := hp
  obtain ⟨x5, e5⟩ : ∃ z : Int, z = A1 * nn := ⟨_, rfl⟩
  rw [← e5] at hV5
  have b5 : lt9 x5 117 := by rw [e5]; have z := lt9_mul bA1 bN; exact z
  obtain ⟨V5, eV5⟩ : ∃ W : Int → Int, W = iu V4 54 x5 := ⟨_, rfl⟩
  rw [← eV5] at hV5
  have f5_43 : V5 43 = dd := (by rw [eV5, iu_ne _ _ (by decide)] : V5 43 = V4 43).trans f4_43
  have f5_42 : V5 42 = nn := (by rw [eV5, iu_ne _ _ (by decide)] : V5 42 = V4 42).trans f4_42
  have f5_44 : V5 44 = ww := (by rw [eV5, iu_ne _ _ (by decide)] : V5 44 = V4 44).trans f4_44
  have f5_49 : V5 49 = vv := (by rw [eV5, iu_ne _ _ (by decide)] : V5 49 = V4 49).trans f4_49
  have f5_39 : V5 39 = kk := (by rw [eV5, iu_ne _ _ (by decide)] : V5 39 = V4 39).trans f4_39
  have f5_53 : V5 53 = x1 := (by rw [eV5, iu_ne _ _ (by decide)] : V5 53 = V4 53).trans f4_53
  have f5_50 : V5 50 = x2 := (by rw [eV5, iu_ne _ _ (by decide)] : V5 50 = V4 50).trans f4_50
  have f5_45 : V5 45 = x4 := (by rw [eV5, iu_ne _ _ (by decide)] : V5 45 = V4 45).trans f4_45
  have f5_54 : V5 54 = x5 := by rw [eV5, iu_self]
  have g5 : ∀ q : Int, q < 30 → V5 q = V q := fun q hq => (by rw [eV5, iu_ne _ _ (ne30 hq (by decide))] : V5 q = V4 q).trans (g4 q hq)
  refine z_aload_n K d_M_finish_48 rfl ?_
  refine z_bipush (v := jI 46) K d_M_finish_49 rfl ?_
  refine z_bipush (v := jI 54) K d_M_finish_51 rfl ?_
  refine z_bipush (v := jI 44) K d_M_finish_53 rfl ?_
  refine z_callV (ci := 0) (As := [.int (jI 46), .int (jI 54), .int (jI 44)]) K (w_M_multiply l G b0 h a cd T5 (v := x5) (w := ww) hV5 (by decide) (by decide) (by decide) (by decide) (by decide) f5_54 f5_44 b5 bW (by decide)) ca_M_92 im_M_multiply se_M_multiply rfl (by decide) hm_0 rfl rfl (by decide) (Nat.le_of_ble_eq_true rfl) d_M_finish_55 (fun o h1 hp => ?_)
  obtain ⟨T6, rfl, rfl, hV6, hN6⟩ := hp
  obtain ⟨x6, e6⟩ : ∃ z : Int, z = x5 * ww := ⟨_, rfl⟩
  rw [← e6] at hV6
  have b6 : lt9 x6 232 := by rw [e6]; have z := lt9_mul b5 bW; exact z
  obtain ⟨V6, eV6⟩ : ∃ W : Int → Int, W = iu V5 46 x6 := ⟨_, rfl⟩
  rw [← eV6] at hV6
  have f6_43 : V6 43 = dd := (by rw [eV6, iu_ne _ _ (by decide)] : V6 43 = V5 43).trans f5_43
  have f6_42 : V6 42 = nn := (by rw [eV6, iu_ne _ _ (by decide)] : V6 42 = V5 42).trans f5_42
  have f6_44 : V6 44 = ww := (by rw [eV6, iu_ne _ _ (by decide)] : V6 44 = V5 44).trans f5_44
  have f6_49 : V6 49 = vv := (by rw [eV6, iu_ne _ _ (by decide)] : V6 49 = V5 49).trans f5_49
  have f6_39 : V6 39 = kk := (by rw [eV6, iu_ne _ _ (by decide)] : V6 39 = V5 39).trans f5_39
  have f6_53 : V6 53 = x1 := (by rw [eV6, iu_ne _ _ (by decide)] : V6 53 = V5 53).trans f5_53
  have f6_50 : V6 50 = x2 := (by rw [eV6, iu_ne _ _ (by decide)] : V6 50 = V5 50).trans f5_50
  have f6_45 : V6 45 = x4 := (by rw [eV6, iu_ne _ _ (by decide)] : V6 45 = V5 45).trans f5_45
  have f6_54 : V6 54 = x5 := (by rw [eV6, iu_ne _ _ (by decide)] : V6 54 = V5 54).trans f5_54
  have f6_46 : V6 46 = x6 := by rw [eV6, iu_self]
  have g6 : ∀ q : Int, q < 30 → V6 q = V q := fun q hq => (by rw [eV6, iu_ne _ _ (ne30 hq (by decide))] : V6 q = V5 q).trans (g5 q hq)
  refine z_aload_n K d_M_finish_58 rfl ?_
  refine z_bipush (v := jI 45) K d_M_finish_59 rfl ?_
  refine z_bipush (v := jI 45) K d_M_finish_61 rfl ?_
  refine z_bipush (v := jI 46) K d_M_finish_63 rfl ?_
  refine z_iconst (v := jI 1) K d_M_finish_65 rfl ?_
  refine z_callV (ci := 0) (As := [.int (jI 45), .int (jI 45), .int (jI 46), .int (jI 1)]) K (w_M_add l G b0 h a cd T6 (v := x4) (w := x6) hV6 (by decide) (by decide) (by decide) (by decide) f6_45 f6_46 b4 b6 (by decide) (by decide)) ca_M_83 im_M_add se_M_add rfl (by decide) hm_0 rfl rfl (by decide) (Nat.le_of_ble_eq_true rfl) d_M_finish_66 (fun o h1 hp => ?_)
  obtain ⟨T7, rfl, rfl, hV7, hN7⟩ := hp
  obtain ⟨x7, e7⟩ : ∃ z : Int, z = x4 + x6 := ⟨_, rfl⟩
  rw [Int.one_mul, ← e7] at hV7
  have b7 : lt9 x7 233 := by rw [e7]; have z := lt9_add b4 b6; exact z
  obtain ⟨V7, eV7⟩ : ∃ W : Int → Int, W = iu V6 45 x7 := ⟨_, rfl⟩
  rw [← eV7] at hV7
  have f7_43 : V7 43 = dd := (by rw [eV7, iu_ne _ _ (by decide)] : V7 43 = V6 43).trans f6_43
  have f7_42 : V7 42 = nn := (by rw [eV7, iu_ne _ _ (by decide)] : V7 42 = V6 42).trans f6_42
  have f7_44 : V7 44 = ww := (by rw [eV7, iu_ne _ _ (by decide)] : V7 44 = V6 44).trans f6_44
  have f7_49 : V7 49 = vv := (by rw [eV7, iu_ne _ _ (by decide)] : V7 49 = V6 49).trans f6_49
  have f7_39 : V7 39 = kk := (by rw [eV7, iu_ne _ _ (by decide)] : V7 39 = V6 39).trans f6_39
  have f7_53 : V7 53 = x1 := (by rw [eV7, iu_ne _ _ (by decide)] : V7 53 = V6 53).trans f6_53
  have f7_50 : V7 50 = x2 := (by rw [eV7, iu_ne _ _ (by decide)] : V7 50 = V6 50).trans f6_50
  have f7_54 : V7 54 = x5 := (by rw [eV7, iu_ne _ _ (by decide)] : V7 54 = V6 54).trans f6_54
  have f7_46 : V7 46 = x6 := (by rw [eV7, iu_ne _ _ (by decide)] : V7 46 = V6 46).trans f6_46
  have f7_45 : V7 45 = x7 := by rw [eV7, iu_self]
  have g7 : ∀ q : Int, q < 30 → V7 q = V q := fun q hq => (by rw [eV7, iu_ne _ _ (ne30 hq (by decide))] : V7 q = V6 q).trans (g6 q hq)
  refine z_aload_n K d_M_finish_69 rfl ?_
  refine z_bipush (v := jI 54) K d_M_finish_70 rfl ?_
  refine z_bipush (v := jI 44) K d_M_finish_72 rfl ?_
  refine z_bipush (v := jI 44) K d_M_finish_74 rfl ?_
  refine z_callV (ci := 0) (As := [.int (jI 54), .int (jI 44), .int (jI 44)]) K (w_M_multiply l G b0 h a cd T7 (v := ww) (w := ww) hV7 (by decide) (by decide) (by decide) (by decide) (by decide) f7_44 f7_44 bW bW (by decide)) ca_M_92 im_M_multiply se_M_multiply rfl (by decide) hm_0 rfl rfl (by decide) (Nat.le_of_ble_eq_true rfl) d_M_finish_76 (fun o h1 hp => ?_)
  obtain ⟨T8, rfl, rfl, hV8, hN8⟩ := hp
  obtain ⟨x8, e8⟩ : ∃ z : Int, z = ww * ww := ⟨_, rfl⟩
  rw [← e8] at hV8
  have b8 : lt9 x8 230 := by rw [e8]; have z := lt9_mul bW bW; exact z
  obtain ⟨V8, eV8⟩ : ∃ W : Int → Int, W = iu V7 54 x8 := ⟨_, rfl⟩
  rw [← eV8] at hV8
  have f8_43 : V8 43 = dd := (by rw [eV8, iu_ne _ _ (by decide)] : V8 43 = V7 43).trans f7_43
  have f8_42 : V8 42 = nn := (by rw [eV8, iu_ne _ _ (by decide)] : V8 42 = V7 42).trans f7_42
  have f8_44 : V8 44 = ww := (by rw [eV8, iu_ne _ _ (by decide)] : V8 44 = V7 44).trans f7_44
  have f8_49 : V8 49 = vv := (by rw [eV8, iu_ne _ _ (by decide)] : V8 49 = V7 49).trans f7_49
  have f8_39 : V8 39 = kk := (by rw [eV8, iu_ne _ _ (by decide)] : V8 39 = V7 39).trans f7_39
  have f8_53 : V8 53 = x1 := (by rw [eV8, iu_ne _ _ (by decide)] : V8 53 = V7 53).trans f7_53
  have f8_50 : V8 50 = x2 := (by rw [eV8, iu_ne _ _ (by decide)] : V8 50 = V7 50).trans f7_50
  have f8_46 : V8 46 = x6 := (by rw [eV8, iu_ne _ _ (by decide)] : V8 46 = V7 46).trans f7_46
  have f8_45 : V8 45 = x7 := (by rw [eV8, iu_ne _ _ (by decide)] : V8 45 = V7 45).trans f7_45
  have f8_54 : V8 54 = x8 := by rw [eV8, iu_self]
  have g8 : ∀ q : Int, q < 30 → V8 q = V q := fun q hq => (by rw [eV8, iu_ne _ _ (ne30 hq (by decide))] : V8 q = V7 q).trans (g7 q hq)
  have nx8 : x8 ≠ 0 := by rw [e8]; exact Int.mul_ne_zero hw0 hw0
  refine z_aload_n K d_M_finish_79 rfl ?_
  refine z_bipush (v := jI 46) K d_M_finish_80 rfl ?_
  refine z_bipush (v := jI 25) K d_M_finish_82 rfl ?_
  refine z_bipush (v := jI 54) K d_M_finish_84 rfl ?_
  refine z_callV (ci := 0) (As := [.int (jI 46), .int (jI 25), .int (jI 54)]) K (w_M_multiply l G b0 h a cd T8 (v := A2) (w := x8) hV8 (by decide) (by decide) (by decide) (by decide) (by decide) ((g8 25 (by decide)).trans cA2) f8_54 bA2 b8 (by decide)) ca_M_92 im_M_multiply se_M_multiply rfl (by decide) hm_0 rfl rfl (by decide) (Nat.le_of_ble_eq_true rfl) d_M_finish_86 (fun o h1 hp => ?_)
  obtain ⟨T9, rfl, rfl, hV9, hN9⟩ := hp
  obtain ⟨x9, e9⟩ : ∃ z : Int, z = A2 * x8 := ⟨_, rfl⟩
  rw [← e9] at hV9
  have b9 : lt9 x9 231 := by rw [e9]; have z := lt9_mul bA2 b8; exact z
  obtain ⟨V9, eV9⟩ : ∃ W : Int → Int, W = iu V8 46 x9 := ⟨_, rfl⟩
  rw [← eV9] at hV9
  have f9_43 : V9 43 = dd := (by rw [eV9, iu_ne _ _ (by decide)] : V9 43 = V8 43).trans f8_43
  have f9_42 : V9 42 = nn := (by rw [eV9, iu_ne _ _ (by decide)] : V9 42 = V8 42).trans f8_42
  have f9_44 : V9 44 = ww := (by rw [eV9, iu_ne _ _ (by decide)] : V9 44 = V8 44).trans f8_44
  have f9_49 : V9 49 = vv := (by rw [eV9, iu_ne _ _ (by decide)] : V9 49 = V8 49).trans f8_49
  have f9_39 : V9 39 = kk := (by rw [eV9, iu_ne _ _ (by decide)] : V9 39 = V8 39).trans f8_39
  have f9_53 : V9 53 = x1 := (by rw [eV9, iu_ne _ _ (by decide)] : V9 53 = V8 53).trans f8_53
  have f9_50 : V9 50 = x2 := (by rw [eV9, iu_ne _ _ (by decide)] : V9 50 = V8 50).trans f8_50
  have f9_45 : V9 45 = x7 := (by rw [eV9, iu_ne _ _ (by decide)] : V9 45 = V8 45).trans f8_45
  have f9_54 : V9 54 = x8 := (by rw [eV9, iu_ne _ _ (by decide)] : V9 54 = V8 54).trans f8_54
  have f9_46 : V9 46 = x9 := by rw [eV9, iu_self]
  have g9 : ∀ q : Int, q < 30 → V9 q = V q := fun q hq => (by rw [eV9, iu_ne _ _ (ne30 hq (by decide))] : V9 q = V8 q).trans (g8 q hq)
  refine z_aload_n K d_M_finish_89 rfl ?_
  refine z_bipush (v := jI 45) K d_M_finish_90 rfl ?_
  refine z_bipush (v := jI 45) K d_M_finish_92 rfl ?_
  refine z_bipush (v := jI 46) K d_M_finish_94 rfl ?_
  refine z_iconst (v := jI (-1)) K d_M_finish_96 rfl ?_
  refine z_callV (ci := 0) (As := [.int (jI 45), .int (jI 45), .int (jI 46), .int (jI (-1))]) K (w_M_add l G b0 h a cd T9 (v := x7) (w := x9) hV9 (by decide) (by decide) (by decide) (by decide) f9_45 f9_46 b7 b9 (by decide) (by decide)) ca_M_83 im_M_add se_M_add rfl (by decide) hm_0 rfl rfl (by decide) (Nat.le_of_ble_eq_true rfl) d_M_finish_97 (fun o h1 hp => ?_)
  obtain ⟨T10, rfl, rfl, hV10, hN10⟩ := hp
  obtain ⟨x10, e10⟩ : ∃ z : Int, z = x7 - x9 := ⟨_, rfl⟩
  rw [Int.neg_mul, Int.one_mul, ← Int.sub_eq_add_neg, ← e10] at hV10
  have b10 : lt9 x10 234 := by rw [e10]; have z := lt9_sub b7 b9; exact z
  obtain ⟨V10, eV10⟩ : ∃ W : Int → Int, W = iu V9 45 x10 := ⟨_, rfl⟩
  rw [← eV10] at hV10
  have f10_43 : V10 43 = dd := (by rw [eV10, iu_ne _ _ (by decide)] : V10 43 = V9 43).trans f9_43
  have f10_42 : V10 42 = nn := (by rw [eV10, iu_ne _ _ (by decide)] : V10 42 = V9 42).trans f9_42
  have f10_44 : V10 44 = ww := (by rw [eV10, iu_ne _ _ (by decide)] : V10 44 = V9 44).trans f9_44
  have f10_49 : V10 49 = vv := (by rw [eV10, iu_ne _ _ (by decide)] : V10 49 = V9 49).trans f9_49
  have f10_39 : V10 39 = kk := (by rw [eV10, iu_ne _ _ (by decide)] : V10 39 = V9 39).trans f9_39
  have f10_53 : V10 53 = x1 := (by rw [eV10, iu_ne _ _ (by decide)] : V10 53 = V9 53).trans f9_53
  have f10_50 : V10 50 = x2 := (by rw [eV10, iu_ne _ _ (by decide)] : V10 50 = V9 50).trans f9_50
  have f10_54 : V10 54 = x8 := (by rw [eV10, iu_ne _ _ (by decide)] : V10 54 = V9 54).trans f9_54
  have f10_46 : V10 46 = x9 := (by rw [eV10, iu_ne _ _ (by decide)] : V10 46 = V9 46).trans f9_46
  have f10_45 : V10 45 = x10 := by rw [eV10, iu_self]
  have g10 : ∀ q : Int, q < 30 → V10 q = V q := fun q hq => (by rw [eV10, iu_ne _ _ (ne30 hq (by decide))] : V10 q = V9 q).trans (g9 q hq)
  refine z_aload_n K d_M_finish_100 rfl ?_
  refine z_bipush (v := jI 45) K d_M_finish_101 rfl ?_
  refine z_bipush (v := jI 45) K d_M_finish_103 rfl ?_
  refine z_bipush (v := jI 50) K d_M_finish_105 rfl ?_
  refine z_iconst (v := jI (-1)) K d_M_finish_107 rfl ?_
  refine z_callV (ci := 0) (As := [.int (jI 45), .int (jI 45), .int (jI 50), .int (jI (-1))]) K (w_M_add l G b0 h a cd T10 (v := x10) (w := x2) hV10 (by decide) (by decide) (by decide) (by decide) f10_45 f10_50 b10 b2 (by decide) (by decide)) ca_M_83 im_M_add se_M_add rfl (by decide) hm_0 rfl rfl (by decide) (Nat.le_of_ble_eq_true rfl) d_M_finish_108 (fun o h1 hp => ?_)
  obtain ⟨T11, rfl, rfl, hV11, hN11⟩ := hp
  obtain ⟨x11, e11⟩ : ∃ z : Int, z = x10 - x2 := ⟨_, rfl⟩
  rw [Int.neg_mul, Int.one_mul, ← Int.sub_eq_add_neg, ← e11] at hV11
  have b11 : lt9 x11 235 := by rw [e11]; have z := lt9_sub b10 b2; exact z
  obtain ⟨V11, eV11⟩ : ∃ W : Int → Int, W = iu V10 45 x11 := ⟨_, rfl⟩
  rw [← eV11] at hV11
  have f11_43 : V11 43 = dd := (by rw [eV11, iu_ne _ _ (by decide)] : V11 43 = V10 43).trans f10_43
  have f11_42 : V11 42 = nn := (by rw [eV11, iu_ne _ _ (by decide)] : V11 42 = V10 42).trans f10_42
  have f11_44 : V11 44 = ww := (by rw [eV11, iu_ne _ _ (by decide)] : V11 44 = V10 44).trans f10_44
  have f11_49 : V11 49 = vv := (by rw [eV11, iu_ne _ _ (by decide)] : V11 49 = V10 49).trans f10_49
  have f11_39 : V11 39 = kk := (by rw [eV11, iu_ne _ _ (by decide)] : V11 39 = V10 39).trans f10_39
  have f11_53 : V11 53 = x1 := (by rw [eV11, iu_ne _ _ (by decide)] : V11 53 = V10 53).trans f10_53
  have f11_50 : V11 50 = x2 := (by rw [eV11, iu_ne _ _ (by decide)] : V11 50 = V10 50).trans f10_50
  have f11_54 : V11 54 = x8 := (by rw [eV11, iu_ne _ _ (by decide)] : V11 54 = V10 54).trans f10_54
  have f11_46 : V11 46 = x9 := (by rw [eV11, iu_ne _ _ (by decide)] : V11 46 = V10 46).trans f10_46
  have f11_45 : V11 45 = x11 := by rw [eV11, iu_self]
  have g11 : ∀ q : Int, q < 30 → V11 q = V q := fun q hq => (by rw [eV11, iu_ne _ _ (ne30 hq (by decide))] : V11 q = V10 q).trans (g10 q hq)
  refine z_aload_n K d_M_finish_111 rfl ?_
  refine z_bipush (v := jI 50) K d_M_finish_112 rfl ?_
  refine z_bipush (v := jI 53) K d_M_finish_114 rfl ?_
  refine z_bipush (v := jI 49) K d_M_finish_116 rfl ?_
  refine z_callV (ci := 0) (As := [.int (jI 50), .int (jI 53), .int (jI 49)]) K (w_M_multiply l G b0 h a cd T11 (v := x1) (w := vv) hV11 (by decide) (by decide) (by decide) (by decide) (by decide) f11_53 f11_49 b1 bV (by decide)) ca_M_92 im_M_multiply se_M_multiply rfl (by decide) hm_0 rfl rfl (by decide) (Nat.le_of_ble_eq_true rfl) d_M_finish_118 (fun o h1 hp => ?_)
  obtain ⟨T12, rfl, rfl, hV12, hN12⟩ := hp
  obtain ⟨x12, e12⟩ : ∃ z : Int, z = x1 * vv := ⟨_, rfl⟩
  rw [← e12] at hV12
  have b12 : lt9 x12 230 := by rw [e12]; have z := lt9_mul b1 bV; exact z
  obtain ⟨V12, eV12⟩ : ∃ W : Int → Int, W = iu V11 50 x12 := ⟨_, rfl⟩
  rw [← eV12] at hV12
  have f12_43 : V12 43 = dd := (by rw [eV12, iu_ne _ _ (by decide)] : V12 43 = V11 43).trans f11_43
  have f12_42 : V12 42 = nn := (by rw [eV12, iu_ne _ _ (by decide)] : V12 42 = V11 42).trans f11_42
  have f12_44 : V12 44 = ww := (by rw [eV12, iu_ne _ _ (by decide)] : V12 44 = V11 44).trans f11_44
  have f12_49 : V12 49 = vv := (by rw [eV12, iu_ne _ _ (by decide)] : V12 49 = V11 49).trans f11_49
  have f12_39 : V12 39 = kk := (by rw [eV12, iu_ne _ _ (by decide)] : V12 39 = V11 39).trans f11_39
  have f12_53 : V12 53 = x1 := (by rw [eV12, iu_ne _ _ (by decide)] : V12 53 = V11 53).trans f11_53
  have f12_54 : V12 54 = x8 := (by rw [eV12, iu_ne _ _ (by decide)] : V12 54 = V11 54).trans f11_54
  have f12_46 : V12 46 = x9 := (by rw [eV12, iu_ne _ _ (by decide)] : V12 46 = V11 46).trans f11_46
  have f12_45 : V12 45 = x11 := (by rw [eV12, iu_ne _ _ (by decide)] : V12 45 = V11 45).trans f11_45
  have f12_50 : V12 50 = x12 := by rw [eV12, iu_self]
  have g12 : ∀ q : Int, q < 30 → V12 q = V q := fun q hq => (by rw [eV12, iu_ne _ _ (ne30 hq (by decide))] : V12 q = V11 q).trans (g11 q hq)
  refine z_aload_n K d_M_finish_121 rfl ?_
  refine z_bipush (v := jI 50) K d_M_finish_122 rfl ?_
  refine z_bipush (v := jI 50) K d_M_finish_124 rfl ?_
  refine z_bipush (v := jI 45) K d_M_finish_126 rfl ?_
  refine z_iconst (v := jI (-1)) K d_M_finish_128 rfl ?_
  refine z_callV (ci := 0) (As := [.int (jI 50), .int (jI 50), .int (jI 45), .int (jI (-1))]) K (w_M_add l G b0 h a cd T12 (v := x12) (w := x11) hV12 (by decide) (by decide) (by decide) (by decide) f12_50 f12_45 b12 b11 (by decide) (by decide)) ca_M_83 im_M_add se_M_add rfl (by decide) hm_0 rfl rfl (by decide) (Nat.le_of_ble_eq_true rfl) d_M_finish_129 (fun o h1 hp => ?_)
  obtain ⟨T13, rfl, rfl, hV13, hN13⟩ := hp
  obtain ⟨x13, e13⟩ : ∃ z : Int, z = x12 - x11 := ⟨_, rfl⟩
  rw [Int.neg_mul, Int.one_mul, ← Int.sub_eq_add_neg, ← e13] at hV13
  have b13 : lt9 x13 236 := by rw [e13]; have z := lt9_sub b12 b11; exact z
  obtain ⟨V13, eV13⟩ : ∃ W : Int → Int, W = iu V12 50 x13 := ⟨_, rfl⟩
  rw [← eV13] at hV13
  have f13_43 : V13 43 = dd := (by rw [eV13, iu_ne _ _ (by decide)] : V13 43 = V12 43).trans f12_43
  have f13_42 : V13 42 = nn := (by rw [eV13, iu_ne _ _ (by decide)] : V13 42 = V12 42).trans f12_42
  have f13_44 : V13 44 = ww := (by rw [eV13, iu_ne _ _ (by decide)] : V13 44 = V12 44).trans f12_44
  have f13_49 : V13 49 = vv := (by rw [eV13, iu_ne _ _ (by decide)] : V13 49 = V12 49).trans f12_49
  have f13_39 : V13 39 = kk := (by rw [eV13, iu_ne _ _ (by decide)] : V13 39 = V12 39).trans f12_39
  have f13_53 : V13 53 = x1 := (by rw [eV13, iu_ne _ _ (by decide)] : V13 53 = V12 53).trans f12_53
  have f13_54 : V13 54 = x8 := (by rw [eV13, iu_ne _ _ (by decide)] : V13 54 = V12 54).trans f12_54
  have f13_46 : V13 46 = x9 := (by rw [eV13, iu_ne _ _ (by decide)] : V13 46 = V12 46).trans f12_46
  have f13_45 : V13 45 = x11 := (by rw [eV13, iu_ne _ _ (by decide)] : V13 45 = V12 45).trans f12_45
  have f13_50 : V13 50 = x13 := by rw [eV13, iu_self]
  have g13 : ∀ q : Int, q < 30 → V13 q = V q := fun q hq => (by rw [eV13, iu_ne _ _ (ne30 hq (by decide))] : V13 q = V12 q).trans (g12 q hq)
  refine z_aload_n K d_M_finish_132 rfl ?_
  refine z_bipush (v := jI 46) K d_M_finish_133 rfl ?_
  refine z_bipush (v := jI 42) K d_M_finish_135 rfl ?_
  refine z_bipush (v := jI 50) K d_M_finish_137 rfl ?_
  refine z_callV (ci := 0) (As := [.int (jI 46), .int (jI 42), .int (jI 50)]) K (w_M_multiply l G b0 h a cd T13 (v := nn) (w := x13) hV13 (by decide) (by decide) (by decide) (by decide) (by decide) f13_42 f13_50 bN b13 (by decide)) ca_M_92 im_M_multiply se_M_multiply rfl (by decide) hm_0 rfl rfl (by decide) (Nat.le_of_ble_eq_true rfl) d_M_finish_139 (fun o h1 hp => ?_)
  obtain ⟨T14, rfl, rfl, hV14, hN14⟩ := hp
  obtain ⟨x14, e14⟩ : ∃ z : Int, z = nn * x13 := ⟨_, rfl⟩
  rw [← e14] at hV14
  have b14 : lt9 x14 352 := by rw [e14]; have z := lt9_mul bN b13; exact z
  obtain ⟨V14, eV14⟩ : ∃ W : Int → Int, W = iu V13 46 x14 := ⟨_, rfl⟩
  rw [← eV14] at hV14
  have f14_43 : V14 43 = dd := (by rw [eV14, iu_ne _ _ (by decide)] : V14 43 = V13 43).trans f13_43
  have f14_42 : V14 42 = nn := (by rw [eV14, iu_ne _ _ (by decide)] : V14 42 = V13 42).trans f13_42
  have f14_44 : V14 44 = ww := (by rw [eV14, iu_ne _ _ (by decide)] : V14 44 = V13 44).trans f13_44
  have f14_49 : V14 49 = vv := (by rw [eV14, iu_ne _ _ (by decide)] : V14 49 = V13 49).trans f13_49
  have f14_39 : V14 39 = kk := (by rw [eV14, iu_ne _ _ (by decide)] : V14 39 = V13 39).trans f13_39
  have f14_53 : V14 53 = x1 := (by rw [eV14, iu_ne _ _ (by decide)] : V14 53 = V13 53).trans f13_53
  have f14_54 : V14 54 = x8 := (by rw [eV14, iu_ne _ _ (by decide)] : V14 54 = V13 54).trans f13_54
  have f14_45 : V14 45 = x11 := (by rw [eV14, iu_ne _ _ (by decide)] : V14 45 = V13 45).trans f13_45
  have f14_50 : V14 50 = x13 := (by rw [eV14, iu_ne _ _ (by decide)] : V14 50 = V13 50).trans f13_50
  have f14_46 : V14 46 = x14 := by rw [eV14, iu_self]
  have g14 : ∀ q : Int, q < 30 → V14 q = V q := fun q hq => (by rw [eV14, iu_ne _ _ (ne30 hq (by decide))] : V14 q = V13 q).trans (g13 q hq)
  refine z_aload_n K d_M_finish_142 rfl ?_
  refine z_bipush (v := jI 50) K d_M_finish_143 rfl ?_
  refine z_bipush (v := jI 24) K d_M_finish_145 rfl ?_
  refine z_bipush (v := jI 45) K d_M_finish_147 rfl ?_
  refine z_callV (ci := 0) (As := [.int (jI 50), .int (jI 24), .int (jI 45)]) K (w_M_multiply l G b0 h a cd T14 (v := A1) (w := x11) hV14 (by decide) (by decide) (by decide) (by decide) (by decide) ((g14 24 (by decide)).trans cA1) f14_45 bA1 b11 (by decide)) ca_M_92 im_M_multiply se_M_multiply rfl (by decide) hm_0 rfl rfl (by decide) (Nat.le_of_ble_eq_true rfl) d_M_finish_149 (fun o h1 hp => ?_)
  obtain ⟨T15, rfl, rfl, hV15, hN15⟩ := hp
  obtain ⟨x15, e15⟩ : ∃ z : Int, z = A1 * x11 := ⟨_, rfl⟩
  rw [← e15] at hV15
  have b15 : lt9 x15 236 := by rw [e15]; have z := lt9_mul bA1 b11; exact z
  obtain ⟨V15, eV15⟩ : ∃ W : Int → Int, W = iu V14 50 x15 := ⟨_, rfl⟩
  rw [← eV15] at hV15
  have f15_43 : V15 43 = dd := (by rw [eV15, iu_ne _ _ (by decide)] : V15 43 = V14 43).trans f14_43
  have f15_42 : V15 42 = nn := (by rw [eV15, iu_ne _ _ (by decide)] : V15 42 = V14 42).trans f14_42
  have f15_44 : V15 44 = ww := (by rw [eV15, iu_ne _ _ (by decide)] : V15 44 = V14 44).trans f14_44
  have f15_49 : V15 49 = vv := (by rw [eV15, iu_ne _ _ (by decide)] : V15 49 = V14 49).trans f14_49
  have f15_39 : V15 39 = kk := (by rw [eV15, iu_ne _ _ (by decide)] : V15 39 = V14 39).trans f14_39
  have f15_53 : V15 53 = x1 := (by rw [eV15, iu_ne _ _ (by decide)] : V15 53 = V14 53).trans f14_53
  have f15_54 : V15 54 = x8 := (by rw [eV15, iu_ne _ _ (by decide)] : V15 54 = V14 54).trans f14_54
  have f15_45 : V15 45 = x11 := (by rw [eV15, iu_ne _ _ (by decide)] : V15 45 = V14 45).trans f14_45
  have f15_46 : V15 46 = x14 := (by rw [eV15, iu_ne _ _ (by decide)] : V15 46 = V14 46).trans f14_46
  have f15_50 : V15 50 = x15 := by rw [eV15, iu_self]
  have g15 : ∀ q : Int, q < 30 → V15 q = V q := fun q hq => (by rw [eV15, iu_ne _ _ (ne30 hq (by decide))] : V15 q = V14 q).trans (g14 q hq)
  refine z_aload_n K d_M_finish_152 rfl ?_
  refine z_bipush (v := jI 49) K d_M_finish_153 rfl ?_
  refine z_bipush (v := jI 50) K d_M_finish_155 rfl ?_
  refine z_bipush (v := jI 44) K d_M_finish_157 rfl ?_
  refine z_callV (ci := 0) (As := [.int (jI 49), .int (jI 50), .int (jI 44)]) K (w_M_multiply l G b0 h a cd T15 (v := x15) (w := ww) hV15 (by decide) (by decide) (by decide) (by decide) (by decide) f15_50 f15_44 b15 bW (by decide)) ca_M_92 im_M_multiply se_M_multiply rfl (by decide) hm_0 rfl rfl (by decide) (Nat.le_of_ble_eq_true rfl) d_M_finish_159 (fun o h1 hp => ?_)
  obtain ⟨T16, rfl, rfl, hV16, hN16⟩ := hp
  obtain ⟨x16, e16⟩ : ∃ z : Int, z = x15 * ww := ⟨_, rfl⟩
  rw [← e16] at hV16
  have b16 : lt9 x16 351 := by rw [e16]; have z := lt9_mul b15 bW; exact z
  obtain ⟨V16, eV16⟩ : ∃ W : Int → Int, W = iu V15 49 x16 := ⟨_, rfl⟩
  rw [← eV16] at hV16
  have f16_43 : V16 43 = dd := (by rw [eV16, iu_ne _ _ (by decide)] : V16 43 = V15 43).trans f15_43
  have f16_42 : V16 42 = nn := (by rw [eV16, iu_ne _ _ (by decide)] : V16 42 = V15 42).trans f15_42
  have f16_44 : V16 44 = ww := (by rw [eV16, iu_ne _ _ (by decide)] : V16 44 = V15 44).trans f15_44
  have f16_39 : V16 39 = kk := (by rw [eV16, iu_ne _ _ (by decide)] : V16 39 = V15 39).trans f15_39
  have f16_53 : V16 53 = x1 := (by rw [eV16, iu_ne _ _ (by decide)] : V16 53 = V15 53).trans f15_53
  have f16_54 : V16 54 = x8 := (by rw [eV16, iu_ne _ _ (by decide)] : V16 54 = V15 54).trans f15_54
  have f16_45 : V16 45 = x11 := (by rw [eV16, iu_ne _ _ (by decide)] : V16 45 = V15 45).trans f15_45
  have f16_46 : V16 46 = x14 := (by rw [eV16, iu_ne _ _ (by decide)] : V16 46 = V15 46).trans f15_46
  have f16_50 : V16 50 = x15 := (by rw [eV16, iu_ne _ _ (by decide)] : V16 50 = V15 50).trans f15_50
  have f16_49 : V16 49 = x16 := by rw [eV16, iu_self]
  have g16 : ∀ q : Int, q < 30 → V16 q = V q := fun q hq => (by rw [eV16, iu_ne _ _ (ne30 hq (by decide))] : V16 q = V15 q).trans (g15 q hq)
  refine z_aload_n K d_M_finish_162 rfl ?_
  refine z_bipush (v := jI 46) K d_M_finish_163 rfl ?_
  refine z_bipush (v := jI 46) K d_M_finish_165 rfl ?_
  refine z_bipush (v := jI 49) K d_M_finish_167 rfl ?_
  refine z_iconst (v := jI (-1)) K d_M_finish_169 rfl ?_
  refine z_callV (ci := 0) (As := [.int (jI 46), .int (jI 46), .int (jI 49), .int (jI (-1))]) K (w_M_add l G b0 h a cd T16 (v := x14) (w := x16) hV16 (by decide) (by decide) (by decide) (by decide) f16_46 f16_49 b14 b16 (by decide) (by decide)) ca_M_83 im_M_add se_M_add rfl (by decide) hm_0 rfl rfl (by decide) (Nat.le_of_ble_eq_true rfl) d_M_finish_170 (fun o h1 hp => ?_)
  obtain ⟨T17, rfl, rfl, hV17, hN17⟩ := hp
  obtain ⟨x17, e17⟩ : ∃ z : Int, z = x14 - x16 := ⟨_, rfl⟩
  rw [Int.neg_mul, Int.one_mul, ← Int.sub_eq_add_neg, ← e17] at hV17
  have b17 : lt9 x17 353 := by rw [e17]; have z := lt9_sub b14 b16; exact z
  obtain ⟨V17, eV17⟩ : ∃ W : Int → Int, W = iu V16 46 x17 := ⟨_, rfl⟩
  rw [← eV17] at hV17
  have f17_43 : V17 43 = dd := (by rw [eV17, iu_ne _ _ (by decide)] : V17 43 = V16 43).trans f16_43
  have f17_42 : V17 42 = nn := (by rw [eV17, iu_ne _ _ (by decide)] : V17 42 = V16 42).trans f16_42
  have f17_44 : V17 44 = ww := (by rw [eV17, iu_ne _ _ (by decide)] : V17 44 = V16 44).trans f16_44
  have f17_39 : V17 39 = kk := (by rw [eV17, iu_ne _ _ (by decide)] : V17 39 = V16 39).trans f16_39
  have f17_53 : V17 53 = x1 := (by rw [eV17, iu_ne _ _ (by decide)] : V17 53 = V16 53).trans f16_53
  have f17_54 : V17 54 = x8 := (by rw [eV17, iu_ne _ _ (by decide)] : V17 54 = V16 54).trans f16_54
  have f17_45 : V17 45 = x11 := (by rw [eV17, iu_ne _ _ (by decide)] : V17 45 = V16 45).trans f16_45
  have f17_50 : V17 50 = x15 := (by rw [eV17, iu_ne _ _ (by decide)] : V17 50 = V16 50).trans f16_50
  have f17_49 : V17 49 = x16 := (by rw [eV17, iu_ne _ _ (by decide)] : V17 49 = V16 49).trans f16_49
  have f17_46 : V17 46 = x17 := by rw [eV17, iu_self]
  have g17 : ∀ q : Int, q < 30 → V17 q = V q := fun q hq => (by rw [eV17, iu_ne _ _ (ne30 hq (by decide))] : V17 q = V16 q).trans (g16 q hq)
  refine z_aload_n K d_M_finish_173 rfl ?_
  refine z_bipush (v := jI 50) K d_M_finish_174 rfl ?_
  refine z_bipush (v := jI 53) K d_M_finish_176 rfl ?_
  refine z_bipush (v := jI 43) K d_M_finish_178 rfl ?_
  refine z_callV (ci := 0) (As := [.int (jI 50), .int (jI 53), .int (jI 43)]) K (w_M_multiply l G b0 h a cd T17 (v := x1) (w := dd) hV17 (by decide) (by decide) (by decide) (by decide) (by decide) f17_53 f17_43 b1 bD (by decide)) ca_M_92 im_M_multiply se_M_multiply rfl (by decide) hm_0 rfl rfl (by decide) (Nat.le_of_ble_eq_true rfl) d_M_finish_180 (fun o h1 hp => ?_)
  obtain ⟨T18, rfl, rfl, hV18, hN18⟩ := hp
  obtain ⟨x18, e18⟩ : ∃ z : Int, z = x1 * dd := ⟨_, rfl⟩
  rw [← e18] at hV18
  have b18 : lt9 x18 231 := by rw [e18]; have z := lt9_mul b1 bD; exact z
  obtain ⟨V18, eV18⟩ : ∃ W : Int → Int, W = iu V17 50 x18 := ⟨_, rfl⟩
  rw [← eV18] at hV18
  have f18_43 : V18 43 = dd := (by rw [eV18, iu_ne _ _ (by decide)] : V18 43 = V17 43).trans f17_43
  have f18_42 : V18 42 = nn := (by rw [eV18, iu_ne _ _ (by decide)] : V18 42 = V17 42).trans f17_42
  have f18_44 : V18 44 = ww := (by rw [eV18, iu_ne _ _ (by decide)] : V18 44 = V17 44).trans f17_44
  have f18_39 : V18 39 = kk := (by rw [eV18, iu_ne _ _ (by decide)] : V18 39 = V17 39).trans f17_39
  have f18_53 : V18 53 = x1 := (by rw [eV18, iu_ne _ _ (by decide)] : V18 53 = V17 53).trans f17_53
  have f18_54 : V18 54 = x8 := (by rw [eV18, iu_ne _ _ (by decide)] : V18 54 = V17 54).trans f17_54
  have f18_45 : V18 45 = x11 := (by rw [eV18, iu_ne _ _ (by decide)] : V18 45 = V17 45).trans f17_45
  have f18_49 : V18 49 = x16 := (by rw [eV18, iu_ne _ _ (by decide)] : V18 49 = V17 49).trans f17_49
  have f18_46 : V18 46 = x17 := (by rw [eV18, iu_ne _ _ (by decide)] : V18 46 = V17 46).trans f17_46
  have f18_50 : V18 50 = x18 := by rw [eV18, iu_self]
  have g18 : ∀ q : Int, q < 30 → V18 q = V q := fun q hq => (by rw [eV18, iu_ne _ _ (ne30 hq (by decide))] : V18 q = V17 q).trans (g17 q hq)
  refine z_aload_n K d_M_finish_183 rfl ?_
  refine z_bipush (v := jI 49) K d_M_finish_184 rfl ?_
  refine z_bipush (v := jI 50) K d_M_finish_186 rfl ?_
  refine z_bipush (v := jI 39) K d_M_finish_188 rfl ?_
  refine z_callV (ci := 0) (As := [.int (jI 49), .int (jI 50), .int (jI 39)]) K (w_M_multiply l G b0 h a cd T18 (v := x18) (w := kk) hV18 (by decide) (by decide) (by decide) (by decide) (by decide) f18_50 f18_39 b18 bK (by decide)) ca_M_92 im_M_multiply se_M_multiply rfl (by decide) hm_0 rfl rfl (by decide) (Nat.le_of_ble_eq_true rfl) d_M_finish_190 (fun o h1 hp => ?_)
  obtain ⟨T19, rfl, rfl, hV19, hN19⟩ := hp
  obtain ⟨x19, e19⟩ : ∃ z : Int, z = x18 * kk := ⟨_, rfl⟩
  rw [← e19] at hV19
  have b19 : lt9 x19 346 := by rw [e19]; have z := lt9_mul b18 bK; exact z
  obtain ⟨V19, eV19⟩ : ∃ W : Int → Int, W = iu V18 49 x19 := ⟨_, rfl⟩
  rw [← eV19] at hV19
  have f19_43 : V19 43 = dd := (by rw [eV19, iu_ne _ _ (by decide)] : V19 43 = V18 43).trans f18_43
  have f19_42 : V19 42 = nn := (by rw [eV19, iu_ne _ _ (by decide)] : V19 42 = V18 42).trans f18_42
  have f19_44 : V19 44 = ww := (by rw [eV19, iu_ne _ _ (by decide)] : V19 44 = V18 44).trans f18_44
  have f19_39 : V19 39 = kk := (by rw [eV19, iu_ne _ _ (by decide)] : V19 39 = V18 39).trans f18_39
  have f19_53 : V19 53 = x1 := (by rw [eV19, iu_ne _ _ (by decide)] : V19 53 = V18 53).trans f18_53
  have f19_54 : V19 54 = x8 := (by rw [eV19, iu_ne _ _ (by decide)] : V19 54 = V18 54).trans f18_54
  have f19_45 : V19 45 = x11 := (by rw [eV19, iu_ne _ _ (by decide)] : V19 45 = V18 45).trans f18_45
  have f19_46 : V19 46 = x17 := (by rw [eV19, iu_ne _ _ (by decide)] : V19 46 = V18 46).trans f18_46
  have f19_50 : V19 50 = x18 := (by rw [eV19, iu_ne _ _ (by decide)] : V19 50 = V18 50).trans f18_50
  have f19_49 : V19 49 = x19 := by rw [eV19, iu_self]
  have g19 : ∀ q : Int, q < 30 → V19 q = V q := fun q hq => (by rw [eV19, iu_ne _ _ (ne30 hq (by decide))] : V19 q = V18 q).trans (g18 q hq)
  refine z_aload_n K d_M_finish_193 rfl ?_
  refine z_bipush (v := jI 46) K d_M_finish_194 rfl ?_
  refine z_bipush (v := jI 46) K d_M_finish_196 rfl ?_
  refine z_bipush (v := jI 49) K d_M_finish_198 rfl ?_
  refine z_iconst (v := jI (-1)) K d_M_finish_200 rfl ?_
  refine z_callV (ci := 0) (As := [.int (jI 46), .int (jI 46), .int (jI 49), .int (jI (-1))]) K (w_M_add l G b0 h a cd T19 (v := x17) (w := x19) hV19 (by decide) (by decide) (by decide) (by decide) f19_46 f19_49 b17 b19 (by decide) (by decide)) ca_M_83 im_M_add se_M_add rfl (by decide) hm_0 rfl rfl (by decide) (Nat.le_of_ble_eq_true rfl) d_M_finish_201 (fun o h1 hp => ?_)
  obtain ⟨T20, rfl, rfl, hV20, hN20⟩ := hp
  obtain ⟨x20, e20⟩ : ∃ z : Int, z = x17 - x19 := ⟨_, rfl⟩
  rw [Int.neg_mul, Int.one_mul, ← Int.sub_eq_add_neg, ← e20] at hV20
  have b20 : lt9 x20 354 := by rw [e20]; have z := lt9_sub b17 b19; exact z
  obtain ⟨V20, eV20⟩ : ∃ W : Int → Int, W = iu V19 46 x20 := ⟨_, rfl⟩
  rw [← eV20] at hV20
  have f20_43 : V20 43 = dd := (by rw [eV20, iu_ne _ _ (by decide)] : V20 43 = V19 43).trans f19_43
  have f20_42 : V20 42 = nn := (by rw [eV20, iu_ne _ _ (by decide)] : V20 42 = V19 42).trans f19_42
  have f20_44 : V20 44 = ww := (by rw [eV20, iu_ne _ _ (by decide)] : V20 44 = V19 44).trans f19_44
  have f20_39 : V20 39 = kk := (by rw [eV20, iu_ne _ _ (by decide)] : V20 39 = V19 39).trans f19_39
  have f20_53 : V20 53 = x1 := (by rw [eV20, iu_ne _ _ (by decide)] : V20 53 = V19 53).trans f19_53
  have f20_54 : V20 54 = x8 := (by rw [eV20, iu_ne _ _ (by decide)] : V20 54 = V19 54).trans f19_54
  have f20_45 : V20 45 = x11 := (by rw [eV20, iu_ne _ _ (by decide)] : V20 45 = V19 45).trans f19_45
  have f20_50 : V20 50 = x18 := (by rw [eV20, iu_ne _ _ (by decide)] : V20 50 = V19 50).trans f19_50
  have f20_49 : V20 49 = x19 := (by rw [eV20, iu_ne _ _ (by decide)] : V20 49 = V19 49).trans f19_49
  have f20_46 : V20 46 = x20 := by rw [eV20, iu_self]
  have g20 : ∀ q : Int, q < 30 → V20 q = V q := fun q hq => (by rw [eV20, iu_ne _ _ (ne30 hq (by decide))] : V20 q = V19 q).trans (g19 q hq)
  refine z_aload_n K d_M_finish_204 rfl ?_
  refine z_bipush (v := jI 50) K d_M_finish_205 rfl ?_
  refine z_bipush (v := jI 54) K d_M_finish_207 rfl ?_
  refine z_bipush (v := jI 44) K d_M_finish_209 rfl ?_
  refine z_callV (ci := 0) (As := [.int (jI 50), .int (jI 54), .int (jI 44)]) K (w_M_multiply l G b0 h a cd T20 (v := x8) (w := ww) hV20 (by decide) (by decide) (by decide) (by decide) (by decide) f20_54 f20_44 b8 bW (by decide)) ca_M_92 im_M_multiply se_M_multiply rfl (by decide) hm_0 rfl rfl (by decide) (Nat.le_of_ble_eq_true rfl) d_M_finish_211 (fun o h1 hp => ?_)
  obtain ⟨T21, rfl, rfl, hV21, hN21⟩ := hp
  obtain ⟨x21, e21⟩ : ∃ z : Int, z = x8 * ww := ⟨_, rfl⟩
  rw [← e21] at hV21
  have b21 : lt9 x21 345 := by rw [e21]; have z := lt9_mul b8 bW; exact z
  obtain ⟨V21, eV21⟩ : ∃ W : Int → Int, W = iu V20 50 x21 := ⟨_, rfl⟩
  rw [← eV21] at hV21
  have f21_43 : V21 43 = dd := (by rw [eV21, iu_ne _ _ (by decide)] : V21 43 = V20 43).trans f20_43
  have f21_42 : V21 42 = nn := (by rw [eV21, iu_ne _ _ (by decide)] : V21 42 = V20 42).trans f20_42
  have f21_44 : V21 44 = ww := (by rw [eV21, iu_ne _ _ (by decide)] : V21 44 = V20 44).trans f20_44
  have f21_39 : V21 39 = kk := (by rw [eV21, iu_ne _ _ (by decide)] : V21 39 = V20 39).trans f20_39
  have f21_53 : V21 53 = x1 := (by rw [eV21, iu_ne _ _ (by decide)] : V21 53 = V20 53).trans f20_53
  have f21_54 : V21 54 = x8 := (by rw [eV21, iu_ne _ _ (by decide)] : V21 54 = V20 54).trans f20_54
  have f21_45 : V21 45 = x11 := (by rw [eV21, iu_ne _ _ (by decide)] : V21 45 = V20 45).trans f20_45
  have f21_49 : V21 49 = x19 := (by rw [eV21, iu_ne _ _ (by decide)] : V21 49 = V20 49).trans f20_49
  have f21_46 : V21 46 = x20 := (by rw [eV21, iu_ne _ _ (by decide)] : V21 46 = V20 46).trans f20_46
  have f21_50 : V21 50 = x21 := by rw [eV21, iu_self]
  have g21 : ∀ q : Int, q < 30 → V21 q = V q := fun q hq => (by rw [eV21, iu_ne _ _ (ne30 hq (by decide))] : V21 q = V20 q).trans (g20 q hq)
  have nx21 : x21 ≠ 0 := by rw [e21]; exact Int.mul_ne_zero nx8 hw0
  refine z_aload_n K d_M_finish_214 rfl ?_
  refine z_bipush (v := jI 49) K d_M_finish_215 rfl ?_
  refine z_bipush (v := jI 26) K d_M_finish_217 rfl ?_
  refine z_bipush (v := jI 50) K d_M_finish_219 rfl ?_
  refine z_callV (ci := 0) (As := [.int (jI 49), .int (jI 26), .int (jI 50)]) K (w_M_multiply l G b0 h a cd T21 (v := A3) (w := x21) hV21 (by decide) (by decide) (by decide) (by decide) (by decide) ((g21 26 (by decide)).trans cA3) f21_50 bA3 b21 (by decide)) ca_M_92 im_M_multiply se_M_multiply rfl (by decide) hm_0 rfl rfl (by decide) (Nat.le_of_ble_eq_true rfl) d_M_finish_221 (fun o h1 hp => ?_)
  obtain ⟨T22, rfl, rfl, hV22, hN22⟩ := hp
  obtain ⟨x22, e22⟩ : ∃ z : Int, z = A3 * x21 := ⟨_, rfl⟩
  rw [← e22] at hV22
  have b22 : lt9 x22 346 := by rw [e22]; have z := lt9_mul bA3 b21; exact z
  obtain ⟨V22, eV22⟩ : ∃ W : Int → Int, W = iu V21 49 x22 := ⟨_, rfl⟩
  rw [← eV22] at hV22
  have f22_43 : V22 43 = dd := (by rw [eV22, iu_ne _ _ (by decide)] : V22 43 = V21 43).trans f21_43
  have f22_42 : V22 42 = nn := (by rw [eV22, iu_ne _ _ (by decide)] : V22 42 = V21 42).trans f21_42
  have f22_44 : V22 44 = ww := (by rw [eV22, iu_ne _ _ (by decide)] : V22 44 = V21 44).trans f21_44
  have f22_39 : V22 39 = kk := (by rw [eV22, iu_ne _ _ (by decide)] : V22 39 = V21 39).trans f21_39
  have f22_53 : V22 53 = x1 := (by rw [eV22, iu_ne _ _ (by decide)] : V22 53 = V21 53).trans f21_53
  have f22_54 : V22 54 = x8 := (by rw [eV22, iu_ne _ _ (by decide)] : V22 54 = V21 54).trans f21_54
  have f22_45 : V22 45 = x11 := (by rw [eV22, iu_ne _ _ (by decide)] : V22 45 = V21 45).trans f21_45
  have f22_46 : V22 46 = x20 := (by rw [eV22, iu_ne _ _ (by decide)] : V22 46 = V21 46).trans f21_46
  have f22_50 : V22 50 = x21 := (by rw [eV22, iu_ne _ _ (by decide)] : V22 50 = V21 50).trans f21_50
  have f22_49 : V22 49 = x22 := by rw [eV22, iu_self]
  have g22 : ∀ q : Int, q < 30 → V22 q = V q := fun q hq => (by rw [eV22, iu_ne _ _ (ne30 hq (by decide))] : V22 q = V21 q).trans (g21 q hq)
  refine z_aload_n K d_M_finish_224 rfl ?_
  refine z_bipush (v := jI 46) K d_M_finish_225 rfl ?_
  refine z_bipush (v := jI 46) K d_M_finish_227 rfl ?_
  refine z_bipush (v := jI 49) K d_M_finish_229 rfl ?_
  refine z_iconst (v := jI (-1)) K d_M_finish_231 rfl ?_
  refine z_callV (ci := 0) (As := [.int (jI 46), .int (jI 46), .int (jI 49), .int (jI (-1))]) K (w_M_add l G b0 h a cd T22 (v := x20) (w := x22) hV22 (by decide) (by decide) (by decide) (by decide) f22_46 f22_49 b20 b22 (by decide) (by decide)) ca_M_83 im_M_add se_M_add rfl (by decide) hm_0 rfl rfl (by decide) (Nat.le_of_ble_eq_true rfl) d_M_finish_232 (fun o h1 hp => ?_)
  obtain ⟨T23, rfl, rfl, hV23, hN23⟩ := hp
  obtain ⟨x23, e23⟩ : ∃ z : Int, z = x20 - x22 := ⟨_, rfl⟩
  rw [Int.neg_mul, Int.one_mul, ← Int.sub_eq_add_neg, ← e23] at hV23
  have b23 : lt9 x23 355 := by rw [e23]; have z := lt9_sub b20 b22; exact z
  obtain ⟨V23, eV23⟩ : ∃ W : Int → Int, W = iu V22 46 x23 := ⟨_, rfl⟩
  rw [← eV23] at hV23
  have f23_43 : V23 43 = dd := (by rw [eV23, iu_ne _ _ (by decide)] : V23 43 = V22 43).trans f22_43
  have f23_42 : V23 42 = nn := (by rw [eV23, iu_ne _ _ (by decide)] : V23 42 = V22 42).trans f22_42
  have f23_44 : V23 44 = ww := (by rw [eV23, iu_ne _ _ (by decide)] : V23 44 = V22 44).trans f22_44
  have f23_39 : V23 39 = kk := (by rw [eV23, iu_ne _ _ (by decide)] : V23 39 = V22 39).trans f22_39
  have f23_53 : V23 53 = x1 := (by rw [eV23, iu_ne _ _ (by decide)] : V23 53 = V22 53).trans f22_53
  have f23_54 : V23 54 = x8 := (by rw [eV23, iu_ne _ _ (by decide)] : V23 54 = V22 54).trans f22_54
  have f23_45 : V23 45 = x11 := (by rw [eV23, iu_ne _ _ (by decide)] : V23 45 = V22 45).trans f22_45
  have f23_50 : V23 50 = x21 := (by rw [eV23, iu_ne _ _ (by decide)] : V23 50 = V22 50).trans f22_50
  have f23_49 : V23 49 = x22 := (by rw [eV23, iu_ne _ _ (by decide)] : V23 49 = V22 49).trans f22_49
  have f23_46 : V23 46 = x23 := by rw [eV23, iu_self]
  have g23 : ∀ q : Int, q < 30 → V23 q = V q := fun q hq => (by rw [eV23, iu_ne _ _ (ne30 hq (by decide))] : V23 q = V22 q).trans (g22 q hq)
  refine z_aload_n K d_M_finish_235 rfl ?_
  refine z_bipush (v := jI 54) K d_M_finish_236 rfl ?_
  refine z_bipush (v := jI 47) K d_M_finish_238 rfl ?_
  refine z_callV (ci := 0) (As := [.int (jI 54), .int (jI 47)]) K (w_M_copy l G b0 h a cd T23 (v := x8) hV23 (by decide) (by decide) f23_54) ca_M_40 im_M_copy se_M_copy rfl (by decide) hm_0 rfl rfl (by decide) (Nat.le_of_ble_eq_true rfl) d_M_finish_240 (fun o h1 hp => ?_)
  obtain ⟨T24, rfl, rfl, hV24, hN24⟩ := hp
  obtain ⟨V24, eV24⟩ : ∃ W : Int → Int, W = iu V23 47 x8 := ⟨_, rfl⟩
  rw [← eV24] at hV24
  have f24_43 : V24 43 = dd := (by rw [eV24, iu_ne _ _ (by decide)] : V24 43 = V23 43).trans f23_43
  have f24_42 : V24 42 = nn := (by rw [eV24, iu_ne _ _ (by decide)] : V24 42 = V23 42).trans f23_42
  have f24_44 : V24 44 = ww := (by rw [eV24, iu_ne _ _ (by decide)] : V24 44 = V23 44).trans f23_44
  have f24_39 : V24 39 = kk := (by rw [eV24, iu_ne _ _ (by decide)] : V24 39 = V23 39).trans f23_39
  have f24_53 : V24 53 = x1 := (by rw [eV24, iu_ne _ _ (by decide)] : V24 53 = V23 53).trans f23_53
  have f24_54 : V24 54 = x8 := (by rw [eV24, iu_ne _ _ (by decide)] : V24 54 = V23 54).trans f23_54
  have f24_45 : V24 45 = x11 := (by rw [eV24, iu_ne _ _ (by decide)] : V24 45 = V23 45).trans f23_45
  have f24_50 : V24 50 = x21 := (by rw [eV24, iu_ne _ _ (by decide)] : V24 50 = V23 50).trans f23_50
  have f24_49 : V24 49 = x22 := (by rw [eV24, iu_ne _ _ (by decide)] : V24 49 = V23 49).trans f23_49
  have f24_46 : V24 46 = x23 := (by rw [eV24, iu_ne _ _ (by decide)] : V24 46 = V23 46).trans f23_46
  have f24_47 : V24 47 = x8 := by rw [eV24, iu_self]
  have g24 : ∀ q : Int, q < 30 → V24 q = V q := fun q hq => (by rw [eV24, iu_ne _ _ (ne30 hq (by decide))] : V24 q = V23 q).trans (g23 q hq)
  refine z_aload_n K d_M_finish_243 rfl ?_
  refine z_bipush (v := jI 45) K d_M_finish_244 rfl ?_
  refine z_bipush (v := jI 47) K d_M_finish_246 rfl ?_
  refine z_callV (ci := 0) (As := [.int (jI 45), .int (jI 47)]) K (w_M_common l G b0 h a cd T24 (v := x11) (w := x8) hV24 (by decide) (by decide) f24_45 f24_47 (Or.inr nx8) b11 b8 (by decide) (by decide)) ca_M_115 im_M_common se_M_common rfl (by decide) hm_0 rfl rfl (by decide) (Nat.le_of_ble_eq_true rfl) d_M_finish_248 (fun o h1 hp => ?_)
  obtain ⟨T25, rfl, rfl, ⟨z25, hV25⟩, hN25⟩ := hp
  obtain ⟨x25, e25⟩ : ∃ z : Int, z = ((Int.gcd x11 x8 : Nat) : Int) := ⟨_, rfl⟩
  rw [← e25] at hV25
  have b25 : lt9 x25 235 := by rw [e25]; have z := lt9_gcd (Or.inr nx8) b11 b8; exact z
  obtain ⟨V25, eV25⟩ : ∃ W : Int → Int, W = iu (iu V24 52 z25) 51 x25 := ⟨_, rfl⟩
  rw [← eV25] at hV25
  have f25_43 : V25 43 = dd := (by rw [eV25, iu_ne _ _ (by decide), iu_ne _ _ (by decide)] : V25 43 = V24 43).trans f24_43
  have f25_42 : V25 42 = nn := (by rw [eV25, iu_ne _ _ (by decide), iu_ne _ _ (by decide)] : V25 42 = V24 42).trans f24_42
  have f25_44 : V25 44 = ww := (by rw [eV25, iu_ne _ _ (by decide), iu_ne _ _ (by decide)] : V25 44 = V24 44).trans f24_44
  have f25_39 : V25 39 = kk := (by rw [eV25, iu_ne _ _ (by decide), iu_ne _ _ (by decide)] : V25 39 = V24 39).trans f24_39
  have f25_53 : V25 53 = x1 := (by rw [eV25, iu_ne _ _ (by decide), iu_ne _ _ (by decide)] : V25 53 = V24 53).trans f24_53
  have f25_54 : V25 54 = x8 := (by rw [eV25, iu_ne _ _ (by decide), iu_ne _ _ (by decide)] : V25 54 = V24 54).trans f24_54
  have f25_45 : V25 45 = x11 := (by rw [eV25, iu_ne _ _ (by decide), iu_ne _ _ (by decide)] : V25 45 = V24 45).trans f24_45
  have f25_50 : V25 50 = x21 := (by rw [eV25, iu_ne _ _ (by decide), iu_ne _ _ (by decide)] : V25 50 = V24 50).trans f24_50
  have f25_49 : V25 49 = x22 := (by rw [eV25, iu_ne _ _ (by decide), iu_ne _ _ (by decide)] : V25 49 = V24 49).trans f24_49
  have f25_46 : V25 46 = x23 := (by rw [eV25, iu_ne _ _ (by decide), iu_ne _ _ (by decide)] : V25 46 = V24 46).trans f24_46
  have f25_47 : V25 47 = x8 := (by rw [eV25, iu_ne _ _ (by decide), iu_ne _ _ (by decide)] : V25 47 = V24 47).trans f24_47
  have f25_51 : V25 51 = x25 := by rw [eV25, iu_self]
  have g25 : ∀ q : Int, q < 30 → V25 q = V q := fun q hq => (by rw [eV25, iu_ne _ _ (ne30 hq (by decide)), iu_ne _ _ (ne30 hq (by decide))] : V25 q = V24 q).trans (g24 q hq)
  have nx25 : x25 ≠ 0 := by rw [e25]; exact gnz_r nx8
  refine z_aload_n K d_M_finish_251 rfl ?_
  refine z_bipush (v := jI 36) K d_M_finish_252 rfl ?_
  refine z_bipush (v := jI 45) K d_M_finish_254 rfl ?_
  refine z_bipush (v := jI 51) K d_M_finish_256 rfl ?_
  refine z_callV (ci := 0) (As := [.int (jI 36), .int (jI 45), .int (jI 51)]) K (w_M_share l G b0 h a cd T25 (v := x11) (w := x25) hV25 (by decide) (by decide) (by decide) f25_45 f25_51 nx25 b11 (by decide)) ca_M_109 im_M_share se_M_share rfl (by decide) hm_0 rfl rfl (by decide) (Nat.le_of_ble_eq_true rfl) d_M_finish_258 (fun o h1 hp => ?_)
  obtain ⟨T26, rfl, rfl, ⟨y26, z26, hV26⟩, hN26⟩ := hp
  obtain ⟨x26, e26⟩ : ∃ z : Int, z = (x11).tdiv x25 := ⟨_, rfl⟩
  rw [← e26] at hV26
  have b26 : lt9 x26 235 := by rw [e26]; have z := lt9_tdiv (w := x25) b11; exact z
  obtain ⟨V26, eV26⟩ : ∃ W : Int → Int, W = iu (iu (iu V25 53 y26) 54 z26) 36 x26 := ⟨_, rfl⟩
  rw [← eV26] at hV26
  have f26_43 : V26 43 = dd := (by rw [eV26, iu_ne _ _ (by decide), iu_ne _ _ (by decide), iu_ne _ _ (by decide)] : V26 43 = V25 43).trans f25_43
  have f26_42 : V26 42 = nn := (by rw [eV26, iu_ne _ _ (by decide), iu_ne _ _ (by decide), iu_ne _ _ (by decide)] : V26 42 = V25 42).trans f25_42
  have f26_44 : V26 44 = ww := (by rw [eV26, iu_ne _ _ (by decide), iu_ne _ _ (by decide), iu_ne _ _ (by decide)] : V26 44 = V25 44).trans f25_44
  have f26_39 : V26 39 = kk := (by rw [eV26, iu_ne _ _ (by decide), iu_ne _ _ (by decide), iu_ne _ _ (by decide)] : V26 39 = V25 39).trans f25_39
  have f26_45 : V26 45 = x11 := (by rw [eV26, iu_ne _ _ (by decide), iu_ne _ _ (by decide), iu_ne _ _ (by decide)] : V26 45 = V25 45).trans f25_45
  have f26_50 : V26 50 = x21 := (by rw [eV26, iu_ne _ _ (by decide), iu_ne _ _ (by decide), iu_ne _ _ (by decide)] : V26 50 = V25 50).trans f25_50
  have f26_49 : V26 49 = x22 := (by rw [eV26, iu_ne _ _ (by decide), iu_ne _ _ (by decide), iu_ne _ _ (by decide)] : V26 49 = V25 49).trans f25_49
  have f26_46 : V26 46 = x23 := (by rw [eV26, iu_ne _ _ (by decide), iu_ne _ _ (by decide), iu_ne _ _ (by decide)] : V26 46 = V25 46).trans f25_46
  have f26_47 : V26 47 = x8 := (by rw [eV26, iu_ne _ _ (by decide), iu_ne _ _ (by decide), iu_ne _ _ (by decide)] : V26 47 = V25 47).trans f25_47
  have f26_51 : V26 51 = x25 := (by rw [eV26, iu_ne _ _ (by decide), iu_ne _ _ (by decide), iu_ne _ _ (by decide)] : V26 51 = V25 51).trans f25_51
  have f26_36 : V26 36 = x26 := by rw [eV26, iu_self]
  have g26 : ∀ q : Int, q < 30 → V26 q = V q := fun q hq => (by rw [eV26, iu_ne _ _ (ne30 hq (by decide)), iu_ne _ _ (ne30 hq (by decide)), iu_ne _ _ (ne30 hq (by decide))] : V26 q = V25 q).trans (g25 q hq)
  refine z_aload_n K d_M_finish_261 rfl ?_
  refine z_bipush (v := jI 48) K d_M_finish_262 rfl ?_
  refine z_bipush (v := jI 47) K d_M_finish_264 rfl ?_
  refine z_bipush (v := jI 51) K d_M_finish_266 rfl ?_
  refine z_callV (ci := 0) (As := [.int (jI 48), .int (jI 47), .int (jI 51)]) K (w_M_share l G b0 h a cd T26 (v := x8) (w := x25) hV26 (by decide) (by decide) (by decide) f26_47 f26_51 nx25 b8 (by decide)) ca_M_109 im_M_share se_M_share rfl (by decide) hm_0 rfl rfl (by decide) (Nat.le_of_ble_eq_true rfl) d_M_finish_268 (fun o h1 hp => ?_)
  obtain ⟨T27, rfl, rfl, ⟨y27, z27, hV27⟩, hN27⟩ := hp
  obtain ⟨x27, e27⟩ : ∃ z : Int, z = (x8).tdiv x25 := ⟨_, rfl⟩
  rw [← e27] at hV27
  have b27 : lt9 x27 230 := by rw [e27]; have z := lt9_tdiv (w := x25) b8; exact z
  obtain ⟨V27, eV27⟩ : ∃ W : Int → Int, W = iu (iu (iu V26 53 y27) 54 z27) 48 x27 := ⟨_, rfl⟩
  rw [← eV27] at hV27
  have f27_43 : V27 43 = dd := (by rw [eV27, iu_ne _ _ (by decide), iu_ne _ _ (by decide), iu_ne _ _ (by decide)] : V27 43 = V26 43).trans f26_43
  have f27_42 : V27 42 = nn := (by rw [eV27, iu_ne _ _ (by decide), iu_ne _ _ (by decide), iu_ne _ _ (by decide)] : V27 42 = V26 42).trans f26_42
  have f27_44 : V27 44 = ww := (by rw [eV27, iu_ne _ _ (by decide), iu_ne _ _ (by decide), iu_ne _ _ (by decide)] : V27 44 = V26 44).trans f26_44
  have f27_39 : V27 39 = kk := (by rw [eV27, iu_ne _ _ (by decide), iu_ne _ _ (by decide), iu_ne _ _ (by decide)] : V27 39 = V26 39).trans f26_39
  have f27_45 : V27 45 = x11 := (by rw [eV27, iu_ne _ _ (by decide), iu_ne _ _ (by decide), iu_ne _ _ (by decide)] : V27 45 = V26 45).trans f26_45
  have f27_50 : V27 50 = x21 := (by rw [eV27, iu_ne _ _ (by decide), iu_ne _ _ (by decide), iu_ne _ _ (by decide)] : V27 50 = V26 50).trans f26_50
  have f27_49 : V27 49 = x22 := (by rw [eV27, iu_ne _ _ (by decide), iu_ne _ _ (by decide), iu_ne _ _ (by decide)] : V27 49 = V26 49).trans f26_49
  have f27_46 : V27 46 = x23 := (by rw [eV27, iu_ne _ _ (by decide), iu_ne _ _ (by decide), iu_ne _ _ (by decide)] : V27 46 = V26 46).trans f26_46
  have f27_47 : V27 47 = x8 := (by rw [eV27, iu_ne _ _ (by decide), iu_ne _ _ (by decide), iu_ne _ _ (by decide)] : V27 47 = V26 47).trans f26_47
  have f27_51 : V27 51 = x25 := (by rw [eV27, iu_ne _ _ (by decide), iu_ne _ _ (by decide), iu_ne _ _ (by decide)] : V27 51 = V26 51).trans f26_51
  have f27_36 : V27 36 = x26 := (by rw [eV27, iu_ne _ _ (by decide), iu_ne _ _ (by decide), iu_ne _ _ (by decide)] : V27 36 = V26 36).trans f26_36
  have f27_48 : V27 48 = x27 := by rw [eV27, iu_self]
  have g27 : ∀ q : Int, q < 30 → V27 q = V q := fun q hq => (by rw [eV27, iu_ne _ _ (ne30 hq (by decide)), iu_ne _ _ (ne30 hq (by decide)), iu_ne _ _ (ne30 hq (by decide))] : V27 q = V26 q).trans (g26 q hq)
  refine z_aload_n K d_M_finish_271 rfl ?_
  refine z_bipush (v := jI 46) K d_M_finish_272 rfl ?_
  refine z_bipush (v := jI 50) K d_M_finish_274 rfl ?_
  refine z_callV (ci := 0) (As := [.int (jI 46), .int (jI 50)]) K (w_M_common l G b0 h a cd T27 (v := x23) (w := x21) hV27 (by decide) (by decide) f27_46 f27_50 (Or.inr nx21) b23 b21 (by decide) (by decide)) ca_M_115 im_M_common se_M_common rfl (by decide) hm_0 rfl rfl (by decide) (Nat.le_of_ble_eq_true rfl) d_M_finish_276 (fun o h1 hp => ?_)
  obtain ⟨T28, rfl, rfl, ⟨z28, hV28⟩, hN28⟩ := hp
  obtain ⟨x28, e28⟩ : ∃ z : Int, z = ((Int.gcd x23 x21 : Nat) : Int) := ⟨_, rfl⟩
  rw [← e28] at hV28
  have b28 : lt9 x28 355 := by rw [e28]; have z := lt9_gcd (Or.inr nx21) b23 b21; exact z
  obtain ⟨V28, eV28⟩ : ∃ W : Int → Int, W = iu (iu V27 52 z28) 51 x28 := ⟨_, rfl⟩
  rw [← eV28] at hV28
  have f28_43 : V28 43 = dd := (by rw [eV28, iu_ne _ _ (by decide), iu_ne _ _ (by decide)] : V28 43 = V27 43).trans f27_43
  have f28_42 : V28 42 = nn := (by rw [eV28, iu_ne _ _ (by decide), iu_ne _ _ (by decide)] : V28 42 = V27 42).trans f27_42
  have f28_44 : V28 44 = ww := (by rw [eV28, iu_ne _ _ (by decide), iu_ne _ _ (by decide)] : V28 44 = V27 44).trans f27_44
  have f28_39 : V28 39 = kk := (by rw [eV28, iu_ne _ _ (by decide), iu_ne _ _ (by decide)] : V28 39 = V27 39).trans f27_39
  have f28_45 : V28 45 = x11 := (by rw [eV28, iu_ne _ _ (by decide), iu_ne _ _ (by decide)] : V28 45 = V27 45).trans f27_45
  have f28_50 : V28 50 = x21 := (by rw [eV28, iu_ne _ _ (by decide), iu_ne _ _ (by decide)] : V28 50 = V27 50).trans f27_50
  have f28_49 : V28 49 = x22 := (by rw [eV28, iu_ne _ _ (by decide), iu_ne _ _ (by decide)] : V28 49 = V27 49).trans f27_49
  have f28_46 : V28 46 = x23 := (by rw [eV28, iu_ne _ _ (by decide), iu_ne _ _ (by decide)] : V28 46 = V27 46).trans f27_46
  have f28_47 : V28 47 = x8 := (by rw [eV28, iu_ne _ _ (by decide), iu_ne _ _ (by decide)] : V28 47 = V27 47).trans f27_47
  have f28_36 : V28 36 = x26 := (by rw [eV28, iu_ne _ _ (by decide), iu_ne _ _ (by decide)] : V28 36 = V27 36).trans f27_36
  have f28_48 : V28 48 = x27 := (by rw [eV28, iu_ne _ _ (by decide), iu_ne _ _ (by decide)] : V28 48 = V27 48).trans f27_48
  have f28_51 : V28 51 = x28 := by rw [eV28, iu_self]
  have g28 : ∀ q : Int, q < 30 → V28 q = V q := fun q hq => (by rw [eV28, iu_ne _ _ (ne30 hq (by decide)), iu_ne _ _ (ne30 hq (by decide))] : V28 q = V27 q).trans (g27 q hq)
  have nx28 : x28 ≠ 0 := by rw [e28]; exact gnz_r nx21
  refine z_aload_n K d_M_finish_279 rfl ?_
  refine z_bipush (v := jI 37) K d_M_finish_280 rfl ?_
  refine z_bipush (v := jI 46) K d_M_finish_282 rfl ?_
  refine z_bipush (v := jI 51) K d_M_finish_284 rfl ?_
  refine z_callV (ci := 0) (As := [.int (jI 37), .int (jI 46), .int (jI 51)]) K (w_M_share l G b0 h a cd T28 (v := x23) (w := x28) hV28 (by decide) (by decide) (by decide) f28_46 f28_51 nx28 b23 (by decide)) ca_M_109 im_M_share se_M_share rfl (by decide) hm_0 rfl rfl (by decide) (Nat.le_of_ble_eq_true rfl) d_M_finish_286 (fun o h1 hp => ?_)
  obtain ⟨T29, rfl, rfl, ⟨y29, z29, hV29⟩, hN29⟩ := hp
  obtain ⟨x29, e29⟩ : ∃ z : Int, z = (x23).tdiv x28 := ⟨_, rfl⟩
  rw [← e29] at hV29
  have b29 : lt9 x29 355 := by rw [e29]; have z := lt9_tdiv (w := x28) b23; exact z
  obtain ⟨V29, eV29⟩ : ∃ W : Int → Int, W = iu (iu (iu V28 53 y29) 54 z29) 37 x29 := ⟨_, rfl⟩
  rw [← eV29] at hV29
  have f29_43 : V29 43 = dd := (by rw [eV29, iu_ne _ _ (by decide), iu_ne _ _ (by decide), iu_ne _ _ (by decide)] : V29 43 = V28 43).trans f28_43
  have f29_42 : V29 42 = nn := (by rw [eV29, iu_ne _ _ (by decide), iu_ne _ _ (by decide), iu_ne _ _ (by decide)] : V29 42 = V28 42).trans f28_42
  have f29_44 : V29 44 = ww := (by rw [eV29, iu_ne _ _ (by decide), iu_ne _ _ (by decide), iu_ne _ _ (by decide)] : V29 44 = V28 44).trans f28_44
  have f29_39 : V29 39 = kk := (by rw [eV29, iu_ne _ _ (by decide), iu_ne _ _ (by decide), iu_ne _ _ (by decide)] : V29 39 = V28 39).trans f28_39
  have f29_45 : V29 45 = x11 := (by rw [eV29, iu_ne _ _ (by decide), iu_ne _ _ (by decide), iu_ne _ _ (by decide)] : V29 45 = V28 45).trans f28_45
  have f29_50 : V29 50 = x21 := (by rw [eV29, iu_ne _ _ (by decide), iu_ne _ _ (by decide), iu_ne _ _ (by decide)] : V29 50 = V28 50).trans f28_50
  have f29_49 : V29 49 = x22 := (by rw [eV29, iu_ne _ _ (by decide), iu_ne _ _ (by decide), iu_ne _ _ (by decide)] : V29 49 = V28 49).trans f28_49
  have f29_46 : V29 46 = x23 := (by rw [eV29, iu_ne _ _ (by decide), iu_ne _ _ (by decide), iu_ne _ _ (by decide)] : V29 46 = V28 46).trans f28_46
  have f29_47 : V29 47 = x8 := (by rw [eV29, iu_ne _ _ (by decide), iu_ne _ _ (by decide), iu_ne _ _ (by decide)] : V29 47 = V28 47).trans f28_47
  have f29_36 : V29 36 = x26 := (by rw [eV29, iu_ne _ _ (by decide), iu_ne _ _ (by decide), iu_ne _ _ (by decide)] : V29 36 = V28 36).trans f28_36
  have f29_48 : V29 48 = x27 := (by rw [eV29, iu_ne _ _ (by decide), iu_ne _ _ (by decide), iu_ne _ _ (by decide)] : V29 48 = V28 48).trans f28_48
  have f29_51 : V29 51 = x28 := (by rw [eV29, iu_ne _ _ (by decide), iu_ne _ _ (by decide), iu_ne _ _ (by decide)] : V29 51 = V28 51).trans f28_51
  have f29_37 : V29 37 = x29 := by rw [eV29, iu_self]
  have g29 : ∀ q : Int, q < 30 → V29 q = V q := fun q hq => (by rw [eV29, iu_ne _ _ (ne30 hq (by decide)), iu_ne _ _ (ne30 hq (by decide)), iu_ne _ _ (ne30 hq (by decide))] : V29 q = V28 q).trans (g28 q hq)
  refine z_aload_n K d_M_finish_289 rfl ?_
  refine z_bipush (v := jI 49) K d_M_finish_290 rfl ?_
  refine z_bipush (v := jI 50) K d_M_finish_292 rfl ?_
  refine z_bipush (v := jI 51) K d_M_finish_294 rfl ?_
  refine z_callV (ci := 0) (As := [.int (jI 49), .int (jI 50), .int (jI 51)]) K (w_M_share l G b0 h a cd T29 (v := x21) (w := x28) hV29 (by decide) (by decide) (by decide) f29_50 f29_51 nx28 b21 (by decide)) ca_M_109 im_M_share se_M_share rfl (by decide) hm_0 rfl rfl (by decide) (Nat.le_of_ble_eq_true rfl) d_M_finish_296 (fun o h1 hp => ?_)
  obtain ⟨T30, rfl, rfl, ⟨y30, z30, hV30⟩, hN30⟩ := hp
  obtain ⟨x30, e30⟩ : ∃ z : Int, z = (x21).tdiv x28 := ⟨_, rfl⟩
  rw [← e30] at hV30
  have b30 : lt9 x30 345 := by rw [e30]; have z := lt9_tdiv (w := x28) b21; exact z
  obtain ⟨V30, eV30⟩ : ∃ W : Int → Int, W = iu (iu (iu V29 53 y30) 54 z30) 49 x30 := ⟨_, rfl⟩
  rw [← eV30] at hV30
  have f30_43 : V30 43 = dd := (by rw [eV30, iu_ne _ _ (by decide), iu_ne _ _ (by decide), iu_ne _ _ (by decide)] : V30 43 = V29 43).trans f29_43
  have f30_42 : V30 42 = nn := (by rw [eV30, iu_ne _ _ (by decide), iu_ne _ _ (by decide), iu_ne _ _ (by decide)] : V30 42 = V29 42).trans f29_42
  have f30_44 : V30 44 = ww := (by rw [eV30, iu_ne _ _ (by decide), iu_ne _ _ (by decide), iu_ne _ _ (by decide)] : V30 44 = V29 44).trans f29_44
  have f30_39 : V30 39 = kk := (by rw [eV30, iu_ne _ _ (by decide), iu_ne _ _ (by decide), iu_ne _ _ (by decide)] : V30 39 = V29 39).trans f29_39
  have f30_45 : V30 45 = x11 := (by rw [eV30, iu_ne _ _ (by decide), iu_ne _ _ (by decide), iu_ne _ _ (by decide)] : V30 45 = V29 45).trans f29_45
  have f30_50 : V30 50 = x21 := (by rw [eV30, iu_ne _ _ (by decide), iu_ne _ _ (by decide), iu_ne _ _ (by decide)] : V30 50 = V29 50).trans f29_50
  have f30_46 : V30 46 = x23 := (by rw [eV30, iu_ne _ _ (by decide), iu_ne _ _ (by decide), iu_ne _ _ (by decide)] : V30 46 = V29 46).trans f29_46
  have f30_47 : V30 47 = x8 := (by rw [eV30, iu_ne _ _ (by decide), iu_ne _ _ (by decide), iu_ne _ _ (by decide)] : V30 47 = V29 47).trans f29_47
  have f30_36 : V30 36 = x26 := (by rw [eV30, iu_ne _ _ (by decide), iu_ne _ _ (by decide), iu_ne _ _ (by decide)] : V30 36 = V29 36).trans f29_36
  have f30_48 : V30 48 = x27 := (by rw [eV30, iu_ne _ _ (by decide), iu_ne _ _ (by decide), iu_ne _ _ (by decide)] : V30 48 = V29 48).trans f29_48
  have f30_51 : V30 51 = x28 := (by rw [eV30, iu_ne _ _ (by decide), iu_ne _ _ (by decide), iu_ne _ _ (by decide)] : V30 51 = V29 51).trans f29_51
  have f30_37 : V30 37 = x29 := (by rw [eV30, iu_ne _ _ (by decide), iu_ne _ _ (by decide), iu_ne _ _ (by decide)] : V30 37 = V29 37).trans f29_37
  have f30_49 : V30 49 = x30 := by rw [eV30, iu_self]
  have g30 : ∀ q : Int, q < 30 → V30 q = V q := fun q hq => (by rw [eV30, iu_ne _ _ (ne30 hq (by decide)), iu_ne _ _ (ne30 hq (by decide)), iu_ne _ _ (ne30 hq (by decide))] : V30 q = V29 q).trans (g29 q hq)
  have hXe : x11 = fX A1 A2 nn ww dd ss := by
    unfold fX
    simp only [e11, e10, e7, e4, e6, e5, e9, e8, e2, e1]
  have hYe : x23 = fY A1 A3 nn ww dd vv kk (fX A1 A2 nn ww dd ss) := by
    rw [← hXe]
    unfold fY
    simp only [e23, e20, e17, e14, e13, e12, e1, e16, e15, e19, e18, e22, e21, e8]
  have hSe : x21 = ww * ww * ww := by rw [e21, e8]
  refine z_re [0] rfl (t_M_finish299 K ⟨Nat.le_refl _, Nat.le_refl _, Nat.le_refl _, Nat.le_refl _⟩ T30 (X := fX A1 A2 nn ww dd ss) (Y := fY A1 A3 nn ww dd vv kk (fX A1 A2 nn ww dd ss)) (ww := ww) hV30 (by rw [f30_36, e26, e25, hXe, e8]) (by rw [f30_48, e27, e25, hXe, e8]) (by rw [f30_37, e29, e28, hYe, hSe]) (by rw [f30_49, e30, e28, hYe, hSe]) (mm := 345) (by have z := b30; rw [e30, e28, hYe, hSe] at z; exact z) (by decide) hw0 (fun T' V' q1 q2 q3 q4 q5 q6 => z_vret K hr hlk d_M_finish_350 ⟨_, rfl, rfl, ⟨V', q1, fun q hq => (q2 q hq).trans (g30 q hq), q3, q4, q5⟩, ?_⟩))
  rw [q6, (hN30.trans (hN29.trans (hN28.trans (hN27.trans (hN26.trans (hN25.trans (hN24.trans (hN23.trans (hN22.trans (hN21.trans (hN20.trans (hN19.trans (hN18.trans (hN17.trans (hN16.trans (hN15.trans (hN14.trans (hN13.trans (hN12.trans (hN11.trans (hN10.trans (hN9.trans (hN8.trans (hN7.trans (hN6.trans (hN5.trans (hN4.trans (hN3.trans (hN2.trans (hN1.trans rfl))))))))))))))))))))))))))))))]
end M16
end
section
/-- the sum of two points on a curve, as the reference reckons it: nn / ww is the rise of the line, dd, ss, vv, kk as they stand in it -/
def fSum (A1 A2 A3 nn ww dd ss vv kk : Int) : Int × Int × Int :=
  (fUp (fX A1 A2 nn ww dd ss) (ww * ww), fUp (fY A1 A3 nn ww dd vv kk (fX A1 A2 nn ww dd ss)) (ww * ww * ww), (fLo (fY A1 A3 nn ww dd vv kk (fX A1 A2 nn ww dd ss)) (ww * ww * ww)).tdiv (fLo (fX A1 A2 nn ww dd ss) (ww * ww)))
def tD (A1 A3 x y z : Int) : Int := y + y + A1 * x * z + A3 * (z * z) * z
def tN (A1 A2 A4 x y z : Int) : Int := x * x * 3 + (A2 * x + A2 * x) * (z * z) + A4 * (z * z) * (z * z) - A1 * y * z
/-- the tangent -/
def fTouch (A1 A2 A3 A4 x y z : Int) : Int × Int × Int := fSum A1 A2 A3 (tN A1 A2 A4 x y z) (z * tD A1 A3 x y z) (tD A1 A3 x y z) (x + x) x y
/-- the chord -/
def cD (x1 z1 x2 z2 : Int) : Int := x2 * (z1 * z1) - x1 * (z2 * z2)
def cN (y1 z1 y2 z2 : Int) : Int := y2 * (z1 * z1 * z1) - y1 * (z2 * z2 * z2)
def fChord (A1 A2 A3 x1 y1 z1 x2 y2 z2 : Int) : Int × Int × Int := fSum A1 A2 A3 (cN y1 z1 y2 z2) (z1 * z2 * cD x1 z1 x2 z2) (cD x1 z1 x2 z2) (x2 * (z1 * z1) + x1 * (z2 * z2)) (x1 * (z2 * z2)) (y1 * (z2 * z2 * z2))
section M17
variable {p : Program} {l : Launch} {e : Env} {R : Room} {s : State} {m : MethodId} {args : Array Value} {below : List Frame} {meth : Method} {c : Code} {Q : State → Prop} {b0 kc ks : Nat} {G : zG} {h : zH} {a : Nat} {cd : Int}
set_option maxHeartbeats 4000000 in
set_option maxRecDepth 100000 in
theorem v_M_touch (l : Launch) (G : zG) (b0 : Nat) (h : zH) (a : Nat) (cd : Int) (T : mT) {V : Int → Int} {px py pz A1 A2 A3 A4 A6 : Int} (hV : RV T V) (cA1 : V 24 = A1) (cA2 : V 25 = A2) (cA3 : V 26 = A3) (cA4 : V 27 = A4) (cA6 : V 28 = A6) (bA1 : lt9 A1 1) (bA2 : lt9 A2 1) (bA3 : lt9 A3 1) (bA4 : lt9 A4 1) (bA6 : lt9 A6 1) (fx : V 30 = px) (fy : V 31 = py) (fz : V 32 = pz) (bx : lt9 px 38) (by1 : lt9 py 58) (bz : lt9 pz 19) (hw0 : pz * tD A1 A3 px py pz ≠ 0) :
    mMet l G b0 y_M_touch b_M_touch 1 none 5 123 h a cd [] T (fun o T' => o = none ∧ (∃ V' : Int → Int, RV T' V' ∧ (∀ q : Int, q < 30 → V' q = V q) ∧ V' 36 = (fTouch A1 A2 A3 A4 px py pz).1 ∧ V' 37 = (fTouch A1 A2 A3 A4 px py pz).2.1 ∧ V' 38 = (fTouch A1 A2 A3 A4 px py pz).2.2) ∧ T'.2.2.2 = iu T.2.2.2 36 0) :=
  z_met (by decide) (Nat.le_of_ble_eq_true rfl) fun p e s m below meth c K hr hlk hnm => by
  have g0 : ∀ q : Int, q < 30 → V q = V q := fun _ _ => rfl
  refine z_aload_n K d_M_touch_0 rfl ?_
  refine z_bipush (v := jI 49) K d_M_touch_1 rfl ?_
  refine z_bipush (v := jI 32) K d_M_touch_3 rfl ?_
  refine z_bipush (v := jI 32) K d_M_touch_5 rfl ?_
  refine z_callV (ci := 0) (As := [.int (jI 49), .int (jI 32), .int (jI 32)]) K (w_M_multiply l G b0 h a cd T (v := pz) (w := pz) hV (by decide) (by decide) (by decide) (by decide) (by decide) fz fz bz bz (by decide)) ca_M_92 im_M_multiply se_M_multiply rfl (by decide) hm_0 rfl rfl (by decide) (Nat.le_of_ble_eq_true rfl) d_M_touch_7 (fun o h1 hp => ?_)
  obtain ⟨T1, rfl, rfl, hV1, hN1⟩ := hp
  obtain ⟨x1, e1⟩ : ∃ z : Int, z = pz * pz := ⟨_, rfl⟩
  rw [← e1] at hV1
  have b1 : lt9 x1 38 := by rw [e1]; have z := lt9_mul bz bz; exact z
  obtain ⟨V1, eV1⟩ : ∃ W : Int → Int, W = iu V 49 x1 := ⟨_, rfl⟩
  rw [← eV1] at hV1
  have f1_30 : V1 30 = px := (by rw [eV1, iu_ne _ _ (by decide)] : V1 30 = V 30).trans fx
  have f1_31 : V1 31 = py := (by rw [eV1, iu_ne _ _ (by decide)] : V1 31 = V 31).trans fy
  have f1_32 : V1 32 = pz := (by rw [eV1, iu_ne _ _ (by decide)] : V1 32 = V 32).trans fz
  have f1_49 : V1 49 = x1 := by rw [eV1, iu_self]
  have g1 : ∀ q : Int, q < 30 → V1 q = V q := fun q hq => (by rw [eV1, iu_ne _ _ (ne30 hq (by decide))] : V1 q = V q).trans (g0 q hq)
  refine z_aload_n K d_M_touch_10 rfl ?_
  refine z_bipush (v := jI 43) K d_M_touch_11 rfl ?_
  refine z_bipush (v := jI 31) K d_M_touch_13 rfl ?_
  refine z_bipush (v := jI 31) K d_M_touch_15 rfl ?_
  refine z_iconst (v := jI 1) K d_M_touch_17 rfl ?_
  refine z_callV (ci := 0) (As := [.int (jI 43), .int (jI 31), .int (jI 31), .int (jI 1)]) K (w_M_add l G b0 h a cd T1 (v := py) (w := py) hV1 (by decide) (by decide) (by decide) (by decide) f1_31 f1_31 by1 by1 (by decide) (by decide)) ca_M_83 im_M_add se_M_add rfl (by decide) hm_0 rfl rfl (by decide) (Nat.le_of_ble_eq_true rfl) d_M_touch_18 (fun o h1 hp => ?_)
  obtain ⟨T2, rfl, rfl, hV2, hN2⟩ := hp
  obtain ⟨x2, e2⟩ : ∃ z : Int, z = py + py := ⟨_, rfl⟩
  rw [Int.one_mul, ← e2] at hV2
  have b2 : lt9 x2 59 := by rw [e2]; have z := lt9_add by1 by1; exact z
  obtain ⟨V2, eV2⟩ : ∃ W : Int → Int, W = iu V1 43 x2 := ⟨_, rfl⟩
  rw [← eV2] at hV2
  have f2_30 : V2 30 = px := (by rw [eV2, iu_ne _ _ (by decide)] : V2 30 = V1 30).trans f1_30
  have f2_31 : V2 31 = py := (by rw [eV2, iu_ne _ _ (by decide)] : V2 31 = V1 31).trans f1_31
  have f2_32 : V2 32 = pz := (by rw [eV2, iu_ne _ _ (by decide)] : V2 32 = V1 32).trans f1_32
  have f2_49 : V2 49 = x1 := (by rw [eV2, iu_ne _ _ (by decide)] : V2 49 = V1 49).trans f1_49
  have f2_43 : V2 43 = x2 := by rw [eV2, iu_self]
  have g2 : ∀ q : Int, q < 30 → V2 q = V q := fun q hq => (by rw [eV2, iu_ne _ _ (ne30 hq (by decide))] : V2 q = V1 q).trans (g1 q hq)
  refine z_aload_n K d_M_touch_21 rfl ?_
  refine z_bipush (v := jI 43) K d_M_touch_22 rfl ?_
  refine z_bipush (v := jI 24) K d_M_touch_24 rfl ?_
  refine z_bipush (v := jI 30) K d_M_touch_26 rfl ?_
  refine z_bipush (v := jI 32) K d_M_touch_28 rfl ?_
  refine z_callV (ci := 0) (As := [.int (jI 43), .int (jI 24), .int (jI 30), .int (jI 32)]) K (v_M_more l G b0 h a cd T2 (u := x2) (v := A1) (w := px) (t := pz) hV2 (by decide) (by decide) (by decide) (by decide) f2_43 ((g2 24 (by decide)).trans cA1) f2_30 f2_32 b2 bA1 bx bz (by decide) (by decide)) ca_M_102 im_M_more se_M_more rfl (by decide) hm_0 rfl rfl (by decide) (Nat.le_of_ble_eq_true rfl) d_M_touch_30 (fun o h1 hp => ?_)
  obtain ⟨T3, rfl, rfl, hV3, hN3⟩ := hp
  obtain ⟨x3, e3⟩ : ∃ z : Int, z = x2 + A1 * px * pz := ⟨_, rfl⟩
  rw [← e3] at hV3
  have b3 : lt9 x3 60 := by rw [e3]; have z := lt9_add b2 (lt9_mul (lt9_mul bA1 bx) bz); exact z
  obtain ⟨V3, eV3⟩ : ∃ W : Int → Int, W = iu (iu (iu V2 47 (A1 * px)) 48 (A1 * px * pz)) 43 x3 := ⟨_, rfl⟩
  rw [← eV3] at hV3
  have f3_30 : V3 30 = px := (by rw [eV3, iu_ne _ _ (by decide), iu_ne _ _ (by decide), iu_ne _ _ (by decide)] : V3 30 = V2 30).trans f2_30
  have f3_31 : V3 31 = py := (by rw [eV3, iu_ne _ _ (by decide), iu_ne _ _ (by decide), iu_ne _ _ (by decide)] : V3 31 = V2 31).trans f2_31
  have f3_32 : V3 32 = pz := (by rw [eV3, iu_ne _ _ (by decide), iu_ne _ _ (by decide), iu_ne _ _ (by decide)] : V3 32 = V2 32).trans f2_32
  have f3_49 : V3 49 = x1 := (by rw [eV3, iu_ne _ _ (by decide), iu_ne _ _ (by decide), iu_ne _ _ (by decide)] : V3 49 = V2 49).trans f2_49
  have f3_43 : V3 43 = x3 := by rw [eV3, iu_self]
  have g3 : ∀ q : Int, q < 30 → V3 q = V q := fun q hq => (by rw [eV3, iu_ne _ _ (ne30 hq (by decide)), iu_ne _ _ (ne30 hq (by decide)), iu_ne _ _ (ne30 hq (by decide))] : V3 q = V2 q).trans (g2 q hq)
  refine z_aload_n K d_M_touch_33 rfl ?_
  refine z_bipush (v := jI 43) K d_M_touch_34 rfl ?_
  refine z_bipush (v := jI 26) K d_M_touch_36 rfl ?_
  refine z_bipush (v := jI 49) K d_M_touch_38 rfl ?_
  refine z_bipush (v := jI 32) K d_M_touch_40 rfl ?_
  refine z_callV (ci := 0) (As := [.int (jI 43), .int (jI 26), .int (jI 49), .int (jI 32)]) K (v_M_more l G b0 h a cd T3 (u := x3) (v := A3) (w := x1) (t := pz) hV3 (by decide) (by decide) (by decide) (by decide) f3_43 ((g3 26 (by decide)).trans cA3) f3_49 f3_32 b3 bA3 b1 bz (by decide) (by decide)) ca_M_102 im_M_more se_M_more rfl (by decide) hm_0 rfl rfl (by decide) (Nat.le_of_ble_eq_true rfl) d_M_touch_42 (fun o h1 hp => ?_)
  obtain ⟨T4, rfl, rfl, hV4, hN4⟩ := hp
  obtain ⟨x4, e4⟩ : ∃ z : Int, z = x3 + A3 * x1 * pz := ⟨_, rfl⟩
  rw [← e4] at hV4
  have b4 : lt9 x4 61 := by rw [e4]; have z := lt9_add b3 (lt9_mul (lt9_mul bA3 b1) bz); exact z
  obtain ⟨V4, eV4⟩ : ∃ W : Int → Int, W = iu (iu (iu V3 47 (A3 * x1)) 48 (A3 * x1 * pz)) 43 x4 := ⟨_, rfl⟩
  rw [← eV4] at hV4
  have f4_30 : V4 30 = px := (by rw [eV4, iu_ne _ _ (by decide), iu_ne _ _ (by decide), iu_ne _ _ (by decide)] : V4 30 = V3 30).trans f3_30
  have f4_31 : V4 31 = py := (by rw [eV4, iu_ne _ _ (by decide), iu_ne _ _ (by decide), iu_ne _ _ (by decide)] : V4 31 = V3 31).trans f3_31
  have f4_32 : V4 32 = pz := (by rw [eV4, iu_ne _ _ (by decide), iu_ne _ _ (by decide), iu_ne _ _ (by decide)] : V4 32 = V3 32).trans f3_32
  have f4_49 : V4 49 = x1 := (by rw [eV4, iu_ne _ _ (by decide), iu_ne _ _ (by decide), iu_ne _ _ (by decide)] : V4 49 = V3 49).trans f3_49
  have f4_43 : V4 43 = x4 := by rw [eV4, iu_self]
  have g4 : ∀ q : Int, q < 30 → V4 q = V q := fun q hq => (by rw [eV4, iu_ne _ _ (ne30 hq (by decide)), iu_ne _ _ (ne30 hq (by decide)), iu_ne _ _ (ne30 hq (by decide))] : V4 q = V3 q).trans (g3 q hq)
  refine z_aload_n K d_M_touch_45 rfl ?_
  refine z_bipush (v := jI 42) K d_M_touch_46 rfl ?_
  refine z_bipush (v := jI 30) K d_M_touch_48 rfl ?_
  refine z_bipush (v := jI 30) K d_M_touch_50 rfl ?_
  refine z_callV (ci := 0) (As := [.int (jI 42), .int (jI 30), .int (jI 30)]) K (w_M_multiply l G b0 h a cd T4 (v := px) (w := px) hV4 (by decide) (by decide) (by decide) (by decide) (by decide) f4_30 f4_30 bx bx (by decide)) ca_M_92 im_M_multiply se_M_multiply rfl (by decide) hm_0 rfl rfl (by decide) (Nat.le_of_ble_eq_true rfl) d_M_touch_52 (fun o h1 hp => ?_)
  obtain ⟨T5, rfl, rfl, hV5, hN5⟩ := hp
  obtain ⟨x5, e5⟩ : ∃ z : Int, z = px * px := ⟨_, rfl⟩
  rw [← e5] at hV5
  have b5 : lt9 x5 76 := by rw [e5]; have z := lt9_mul bx bx; exact z
  obtain ⟨V5, eV5⟩ : ∃ W : Int → Int, W = iu V4 42 x5 := ⟨_, rfl⟩
  rw [← eV5] at hV5
  have f5_30 : V5 30 = px := (by rw [eV5, iu_ne _ _ (by decide)] : V5 30 = V4 30).trans f4_30
  have f5_31 : V5 31 = py := (by rw [eV5, iu_ne _ _ (by decide)] : V5 31 = V4 31).trans f4_31
  have f5_32 : V5 32 = pz := (by rw [eV5, iu_ne _ _ (by decide)] : V5 32 = V4 32).trans f4_32
  have f5_49 : V5 49 = x1 := (by rw [eV5, iu_ne _ _ (by decide)] : V5 49 = V4 49).trans f4_49
  have f5_43 : V5 43 = x4 := (by rw [eV5, iu_ne _ _ (by decide)] : V5 43 = V4 43).trans f4_43
  have f5_42 : V5 42 = x5 := by rw [eV5, iu_self]
  have g5 : ∀ q : Int, q < 30 → V5 q = V q := fun q hq => (by rw [eV5, iu_ne _ _ (ne30 hq (by decide))] : V5 q = V4 q).trans (g4 q hq)
  refine z_aload_n K d_M_touch_55 rfl ?_
  refine z_bipush (v := jI 50) K d_M_touch_56 rfl ?_
  refine z_ldc2 (v := kI 3) K d_M_touch_58 kc_M_128 ?_
  refine z_callV (ci := 0) (As := [.int (jI 50), .long (kI 3)]) K (v_M_set l G b0 h a cd T5 (v := 3) hV5 (by decide) (by decide)) ca_M_26 im_M_set se_M_set rfl (by decide) hm_0 rfl rfl (by decide) (Nat.le_of_ble_eq_true rfl) d_M_touch_61 (fun o h1 hp => ?_)
  obtain ⟨T6, rfl, rfl, hV6, hN6⟩ := hp
  obtain ⟨V6, eV6⟩ : ∃ W : Int → Int, W = iu V5 50 3 := ⟨_, rfl⟩
  rw [← eV6] at hV6
  have f6_30 : V6 30 = px := (by rw [eV6, iu_ne _ _ (by decide)] : V6 30 = V5 30).trans f5_30
  have f6_31 : V6 31 = py := (by rw [eV6, iu_ne _ _ (by decide)] : V6 31 = V5 31).trans f5_31
  have f6_32 : V6 32 = pz := (by rw [eV6, iu_ne _ _ (by decide)] : V6 32 = V5 32).trans f5_32
  have f6_49 : V6 49 = x1 := (by rw [eV6, iu_ne _ _ (by decide)] : V6 49 = V5 49).trans f5_49
  have f6_43 : V6 43 = x4 := (by rw [eV6, iu_ne _ _ (by decide)] : V6 43 = V5 43).trans f5_43
  have f6_42 : V6 42 = x5 := (by rw [eV6, iu_ne _ _ (by decide)] : V6 42 = V5 42).trans f5_42
  have f6_50 : V6 50 = 3 := by rw [eV6, iu_self]
  have g6 : ∀ q : Int, q < 30 → V6 q = V q := fun q hq => (by rw [eV6, iu_ne _ _ (ne30 hq (by decide))] : V6 q = V5 q).trans (g5 q hq)
  refine z_aload_n K d_M_touch_64 rfl ?_
  refine z_bipush (v := jI 45) K d_M_touch_65 rfl ?_
  refine z_bipush (v := jI 42) K d_M_touch_67 rfl ?_
  refine z_bipush (v := jI 50) K d_M_touch_69 rfl ?_
  refine z_callV (ci := 0) (As := [.int (jI 45), .int (jI 42), .int (jI 50)]) K (w_M_multiply l G b0 h a cd T6 (v := x5) (w := 3) hV6 (by decide) (by decide) (by decide) (by decide) (by decide) f6_42 f6_50 b5 (show lt9 3 1 from (by show ((3 : Int).natAbs : Int) < BS ^ 1; decide)) (by decide)) ca_M_92 im_M_multiply se_M_multiply rfl (by decide) hm_0 rfl rfl (by decide) (Nat.le_of_ble_eq_true rfl) d_M_touch_71 (fun o h1 hp => ?_)
  obtain ⟨T7, rfl, rfl, hV7, hN7⟩ := hp
  obtain ⟨x7, e7⟩ : ∃ z : Int, z = x5 * 3 := ⟨_, rfl⟩
  rw [← e7] at hV7
  have b7 : lt9 x7 77 := by rw [e7]; have z := lt9_mul b5 (show lt9 3 1 from (by show ((3 : Int).natAbs : Int) < BS ^ 1; decide)); exact z
  obtain ⟨V7, eV7⟩ : ∃ W : Int → Int, W = iu V6 45 x7 := ⟨_, rfl⟩
  rw [← eV7] at hV7
  have f7_30 : V7 30 = px := (by rw [eV7, iu_ne _ _ (by decide)] : V7 30 = V6 30).trans f6_30
  have f7_31 : V7 31 = py := (by rw [eV7, iu_ne _ _ (by decide)] : V7 31 = V6 31).trans f6_31
  have f7_32 : V7 32 = pz := (by rw [eV7, iu_ne _ _ (by decide)] : V7 32 = V6 32).trans f6_32
  have f7_49 : V7 49 = x1 := (by rw [eV7, iu_ne _ _ (by decide)] : V7 49 = V6 49).trans f6_49
  have f7_43 : V7 43 = x4 := (by rw [eV7, iu_ne _ _ (by decide)] : V7 43 = V6 43).trans f6_43
  have f7_42 : V7 42 = x5 := (by rw [eV7, iu_ne _ _ (by decide)] : V7 42 = V6 42).trans f6_42
  have f7_50 : V7 50 = 3 := (by rw [eV7, iu_ne _ _ (by decide)] : V7 50 = V6 50).trans f6_50
  have f7_45 : V7 45 = x7 := by rw [eV7, iu_self]
  have g7 : ∀ q : Int, q < 30 → V7 q = V q := fun q hq => (by rw [eV7, iu_ne _ _ (ne30 hq (by decide))] : V7 q = V6 q).trans (g6 q hq)
  refine z_aload_n K d_M_touch_74 rfl ?_
  refine z_bipush (v := jI 45) K d_M_touch_75 rfl ?_
  refine z_bipush (v := jI 42) K d_M_touch_77 rfl ?_
  refine z_callV (ci := 0) (As := [.int (jI 45), .int (jI 42)]) K (w_M_copy l G b0 h a cd T7 (v := x7) hV7 (by decide) (by decide) f7_45) ca_M_40 im_M_copy se_M_copy rfl (by decide) hm_0 rfl rfl (by decide) (Nat.le_of_ble_eq_true rfl) d_M_touch_79 (fun o h1 hp => ?_)
  obtain ⟨T8, rfl, rfl, hV8, hN8⟩ := hp
  obtain ⟨V8, eV8⟩ : ∃ W : Int → Int, W = iu V7 42 x7 := ⟨_, rfl⟩
  rw [← eV8] at hV8
  have f8_30 : V8 30 = px := (by rw [eV8, iu_ne _ _ (by decide)] : V8 30 = V7 30).trans f7_30
  have f8_31 : V8 31 = py := (by rw [eV8, iu_ne _ _ (by decide)] : V8 31 = V7 31).trans f7_31
  have f8_32 : V8 32 = pz := (by rw [eV8, iu_ne _ _ (by decide)] : V8 32 = V7 32).trans f7_32
  have f8_49 : V8 49 = x1 := (by rw [eV8, iu_ne _ _ (by decide)] : V8 49 = V7 49).trans f7_49
  have f8_43 : V8 43 = x4 := (by rw [eV8, iu_ne _ _ (by decide)] : V8 43 = V7 43).trans f7_43
  have f8_50 : V8 50 = 3 := (by rw [eV8, iu_ne _ _ (by decide)] : V8 50 = V7 50).trans f7_50
  have f8_45 : V8 45 = x7 := (by rw [eV8, iu_ne _ _ (by decide)] : V8 45 = V7 45).trans f7_45
  have f8_42 : V8 42 = x7 := by rw [eV8, iu_self]
  have g8 : ∀ q : Int, q < 30 → V8 q = V q := fun q hq => (by rw [eV8, iu_ne _ _ (ne30 hq (by decide))] : V8 q = V7 q).trans (g7 q hq)
  refine z_aload_n K d_M_touch_82 rfl ?_
  refine z_bipush (v := jI 45) K d_M_touch_83 rfl ?_
  refine z_bipush (v := jI 25) K d_M_touch_85 rfl ?_
  refine z_bipush (v := jI 30) K d_M_touch_87 rfl ?_
  refine z_callV (ci := 0) (As := [.int (jI 45), .int (jI 25), .int (jI 30)]) K (w_M_multiply l G b0 h a cd T8 (v := A2) (w := px) hV8 (by decide) (by decide) (by decide) (by decide) (by decide) ((g8 25 (by decide)).trans cA2) f8_30 bA2 bx (by decide)) ca_M_92 im_M_multiply se_M_multiply rfl (by decide) hm_0 rfl rfl (by decide) (Nat.le_of_ble_eq_true rfl) d_M_touch_89 (fun o h1 hp => ?_)
  obtain ⟨T9, rfl, rfl, hV9, hN9⟩ := hp
  obtain ⟨x9, e9⟩ : ∃ z : Int, z = A2 * px := ⟨_, rfl⟩
  rw [← e9] at hV9
  have b9 : lt9 x9 39 := by rw [e9]; have z := lt9_mul bA2 bx; exact z
  obtain ⟨V9, eV9⟩ : ∃ W : Int → Int, W = iu V8 45 x9 := ⟨_, rfl⟩
  rw [← eV9] at hV9
  have f9_30 : V9 30 = px := (by rw [eV9, iu_ne _ _ (by decide)] : V9 30 = V8 30).trans f8_30
  have f9_31 : V9 31 = py := (by rw [eV9, iu_ne _ _ (by decide)] : V9 31 = V8 31).trans f8_31
  have f9_32 : V9 32 = pz := (by rw [eV9, iu_ne _ _ (by decide)] : V9 32 = V8 32).trans f8_32
  have f9_49 : V9 49 = x1 := (by rw [eV9, iu_ne _ _ (by decide)] : V9 49 = V8 49).trans f8_49
  have f9_43 : V9 43 = x4 := (by rw [eV9, iu_ne _ _ (by decide)] : V9 43 = V8 43).trans f8_43
  have f9_50 : V9 50 = 3 := (by rw [eV9, iu_ne _ _ (by decide)] : V9 50 = V8 50).trans f8_50
  have f9_42 : V9 42 = x7 := (by rw [eV9, iu_ne _ _ (by decide)] : V9 42 = V8 42).trans f8_42
  have f9_45 : V9 45 = x9 := by rw [eV9, iu_self]
  have g9 : ∀ q : Int, q < 30 → V9 q = V q := fun q hq => (by rw [eV9, iu_ne _ _ (ne30 hq (by decide))] : V9 q = V8 q).trans (g8 q hq)
  refine z_aload_n K d_M_touch_92 rfl ?_
  refine z_bipush (v := jI 45) K d_M_touch_93 rfl ?_
  refine z_bipush (v := jI 45) K d_M_touch_95 rfl ?_
  refine z_bipush (v := jI 45) K d_M_touch_97 rfl ?_
  refine z_iconst (v := jI 1) K d_M_touch_99 rfl ?_
  refine z_callV (ci := 0) (As := [.int (jI 45), .int (jI 45), .int (jI 45), .int (jI 1)]) K (w_M_add l G b0 h a cd T9 (v := x9) (w := x9) hV9 (by decide) (by decide) (by decide) (by decide) f9_45 f9_45 b9 b9 (by decide) (by decide)) ca_M_83 im_M_add se_M_add rfl (by decide) hm_0 rfl rfl (by decide) (Nat.le_of_ble_eq_true rfl) d_M_touch_100 (fun o h1 hp => ?_)
  obtain ⟨T10, rfl, rfl, hV10, hN10⟩ := hp
  obtain ⟨x10, e10⟩ : ∃ z : Int, z = x9 + x9 := ⟨_, rfl⟩
  rw [Int.one_mul, ← e10] at hV10
  have b10 : lt9 x10 40 := by rw [e10]; have z := lt9_add b9 b9; exact z
  obtain ⟨V10, eV10⟩ : ∃ W : Int → Int, W = iu V9 45 x10 := ⟨_, rfl⟩
  rw [← eV10] at hV10
  have f10_30 : V10 30 = px := (by rw [eV10, iu_ne _ _ (by decide)] : V10 30 = V9 30).trans f9_30
  have f10_31 : V10 31 = py := (by rw [eV10, iu_ne _ _ (by decide)] : V10 31 = V9 31).trans f9_31
  have f10_32 : V10 32 = pz := (by rw [eV10, iu_ne _ _ (by decide)] : V10 32 = V9 32).trans f9_32
  have f10_49 : V10 49 = x1 := (by rw [eV10, iu_ne _ _ (by decide)] : V10 49 = V9 49).trans f9_49
  have f10_43 : V10 43 = x4 := (by rw [eV10, iu_ne _ _ (by decide)] : V10 43 = V9 43).trans f9_43
  have f10_50 : V10 50 = 3 := (by rw [eV10, iu_ne _ _ (by decide)] : V10 50 = V9 50).trans f9_50
  have f10_42 : V10 42 = x7 := (by rw [eV10, iu_ne _ _ (by decide)] : V10 42 = V9 42).trans f9_42
  have f10_45 : V10 45 = x10 := by rw [eV10, iu_self]
  have g10 : ∀ q : Int, q < 30 → V10 q = V q := fun q hq => (by rw [eV10, iu_ne _ _ (ne30 hq (by decide))] : V10 q = V9 q).trans (g9 q hq)
  refine z_aload_n K d_M_touch_103 rfl ?_
  refine z_bipush (v := jI 46) K d_M_touch_104 rfl ?_
  refine z_bipush (v := jI 45) K d_M_touch_106 rfl ?_
  refine z_bipush (v := jI 49) K d_M_touch_108 rfl ?_
  refine z_callV (ci := 0) (As := [.int (jI 46), .int (jI 45), .int (jI 49)]) K (w_M_multiply l G b0 h a cd T10 (v := x10) (w := x1) hV10 (by decide) (by decide) (by decide) (by decide) (by decide) f10_45 f10_49 b10 b1 (by decide)) ca_M_92 im_M_multiply se_M_multiply rfl (by decide) hm_0 rfl rfl (by decide) (Nat.le_of_ble_eq_true rfl) d_M_touch_110 (fun o h1 hp => ?_)
  obtain ⟨T11, rfl, rfl, hV11, hN11⟩ := hp
  obtain ⟨x11, e11⟩ : ∃ z : Int, z = x10 * x1 := ⟨_, rfl⟩
  rw [← e11] at hV11
  have b11 : lt9 x11 78 := by rw [e11]; have z := lt9_mul b10 b1; exact z
  obtain ⟨V11, eV11⟩ : ∃ W : Int → Int, W = iu V10 46 x11 := ⟨_, rfl⟩
  rw [← eV11] at hV11
  have f11_30 : V11 30 = px := (by rw [eV11, iu_ne _ _ (by decide)] : V11 30 = V10 30).trans f10_30
  have f11_31 : V11 31 = py := (by rw [eV11, iu_ne _ _ (by decide)] : V11 31 = V10 31).trans f10_31
  have f11_32 : V11 32 = pz := (by rw [eV11, iu_ne _ _ (by decide)] : V11 32 = V10 32).trans f10_32
  have f11_49 : V11 49 = x1 := (by rw [eV11, iu_ne _ _ (by decide)] : V11 49 = V10 49).trans f10_49
  have f11_43 : V11 43 = x4 := (by rw [eV11, iu_ne _ _ (by decide)] : V11 43 = V10 43).trans f10_43
  have f11_50 : V11 50 = 3 := (by rw [eV11, iu_ne _ _ (by decide)] : V11 50 = V10 50).trans f10_50
  have f11_42 : V11 42 = x7 := (by rw [eV11, iu_ne _ _ (by decide)] : V11 42 = V10 42).trans f10_42
  have f11_45 : V11 45 = x10 := (by rw [eV11, iu_ne _ _ (by decide)] : V11 45 = V10 45).trans f10_45
  have f11_46 : V11 46 = x11 := by rw [eV11, iu_self]
  have g11 : ∀ q : Int, q < 30 → V11 q = V q := fun q hq => (by rw [eV11, iu_ne _ _ (ne30 hq (by decide))] : V11 q = V10 q).trans (g10 q hq)
  refine z_aload_n K d_M_touch_113 rfl ?_
  refine z_bipush (v := jI 42) K d_M_touch_114 rfl ?_
  refine z_bipush (v := jI 42) K d_M_touch_116 rfl ?_
  refine z_bipush (v := jI 46) K d_M_touch_118 rfl ?_
  refine z_iconst (v := jI 1) K d_M_touch_120 rfl ?_
  refine z_callV (ci := 0) (As := [.int (jI 42), .int (jI 42), .int (jI 46), .int (jI 1)]) K (w_M_add l G b0 h a cd T11 (v := x7) (w := x11) hV11 (by decide) (by decide) (by decide) (by decide) f11_42 f11_46 b7 b11 (by decide) (by decide)) ca_M_83 im_M_add se_M_add rfl (by decide) hm_0 rfl rfl (by decide) (Nat.le_of_ble_eq_true rfl) d_M_touch_121 (fun o h1 hp => ?_)
  obtain ⟨T12, rfl, rfl, hV12, hN12⟩ := hp
  obtain ⟨x12, e12⟩ : ∃ z : Int, z = x7 + x11 := ⟨_, rfl⟩
  rw [Int.one_mul, ← e12] at hV12
  have b12 : lt9 x12 79 := by rw [e12]; have z := lt9_add b7 b11; exact z
  obtain ⟨V12, eV12⟩ : ∃ W : Int → Int, W = iu V11 42 x12 := ⟨_, rfl⟩
  rw [← eV12] at hV12
  have f12_30 : V12 30 = px := (by rw [eV12, iu_ne _ _ (by decide)] : V12 30 = V11 30).trans f11_30
  have f12_31 : V12 31 = py := (by rw [eV12, iu_ne _ _ (by decide)] : V12 31 = V11 31).trans f11_31
  have f12_32 : V12 32 = pz := (by rw [eV12, iu_ne _ _ (by decide)] : V12 32 = V11 32).trans f11_32
  have f12_49 : V12 49 = x1 := (by rw [eV12, iu_ne _ _ (by decide)] : V12 49 = V11 49).trans f11_49
  have f12_43 : V12 43 = x4 := (by rw [eV12, iu_ne _ _ (by decide)] : V12 43 = V11 43).trans f11_43
  have f12_50 : V12 50 = 3 := (by rw [eV12, iu_ne _ _ (by decide)] : V12 50 = V11 50).trans f11_50
  have f12_45 : V12 45 = x10 := (by rw [eV12, iu_ne _ _ (by decide)] : V12 45 = V11 45).trans f11_45
  have f12_46 : V12 46 = x11 := (by rw [eV12, iu_ne _ _ (by decide)] : V12 46 = V11 46).trans f11_46
  have f12_42 : V12 42 = x12 := by rw [eV12, iu_self]
  have g12 : ∀ q : Int, q < 30 → V12 q = V q := fun q hq => (by rw [eV12, iu_ne _ _ (ne30 hq (by decide))] : V12 q = V11 q).trans (g11 q hq)
  refine z_aload_n K d_M_touch_124 rfl ?_
  refine z_bipush (v := jI 42) K d_M_touch_125 rfl ?_
  refine z_bipush (v := jI 27) K d_M_touch_127 rfl ?_
  refine z_bipush (v := jI 49) K d_M_touch_129 rfl ?_
  refine z_bipush (v := jI 49) K d_M_touch_131 rfl ?_
  refine z_callV (ci := 0) (As := [.int (jI 42), .int (jI 27), .int (jI 49), .int (jI 49)]) K (v_M_more l G b0 h a cd T12 (u := x12) (v := A4) (w := x1) (t := x1) hV12 (by decide) (by decide) (by decide) (by decide) f12_42 ((g12 27 (by decide)).trans cA4) f12_49 f12_49 b12 bA4 b1 b1 (by decide) (by decide)) ca_M_102 im_M_more se_M_more rfl (by decide) hm_0 rfl rfl (by decide) (Nat.le_of_ble_eq_true rfl) d_M_touch_133 (fun o h1 hp => ?_)
  obtain ⟨T13, rfl, rfl, hV13, hN13⟩ := hp
  obtain ⟨x13, e13⟩ : ∃ z : Int, z = x12 + A4 * x1 * x1 := ⟨_, rfl⟩
  rw [← e13] at hV13
  have b13 : lt9 x13 80 := by rw [e13]; have z := lt9_add b12 (lt9_mul (lt9_mul bA4 b1) b1); exact z
  obtain ⟨V13, eV13⟩ : ∃ W : Int → Int, W = iu (iu (iu V12 47 (A4 * x1)) 48 (A4 * x1 * x1)) 42 x13 := ⟨_, rfl⟩
  rw [← eV13] at hV13
  have f13_30 : V13 30 = px := (by rw [eV13, iu_ne _ _ (by decide), iu_ne _ _ (by decide), iu_ne _ _ (by decide)] : V13 30 = V12 30).trans f12_30
  have f13_31 : V13 31 = py := (by rw [eV13, iu_ne _ _ (by decide), iu_ne _ _ (by decide), iu_ne _ _ (by decide)] : V13 31 = V12 31).trans f12_31
  have f13_32 : V13 32 = pz := (by rw [eV13, iu_ne _ _ (by decide), iu_ne _ _ (by decide), iu_ne _ _ (by decide)] : V13 32 = V12 32).trans f12_32
  have f13_49 : V13 49 = x1 := (by rw [eV13, iu_ne _ _ (by decide), iu_ne _ _ (by decide), iu_ne _ _ (by decide)] : V13 49 = V12 49).trans f12_49
  have f13_43 : V13 43 = x4 := (by rw [eV13, iu_ne _ _ (by decide), iu_ne _ _ (by decide), iu_ne _ _ (by decide)] : V13 43 = V12 43).trans f12_43
  have f13_50 : V13 50 = 3 := (by rw [eV13, iu_ne _ _ (by decide), iu_ne _ _ (by decide), iu_ne _ _ (by decide)] : V13 50 = V12 50).trans f12_50
  have f13_45 : V13 45 = x10 := (by rw [eV13, iu_ne _ _ (by decide), iu_ne _ _ (by decide), iu_ne _ _ (by decide)] : V13 45 = V12 45).trans f12_45
  have f13_46 : V13 46 = x11 := (by rw [eV13, iu_ne _ _ (by decide), iu_ne _ _ (by decide), iu_ne _ _ (by decide)] : V13 46 = V12 46).trans f12_46
  have f13_42 : V13 42 = x13 := by rw [eV13, iu_self]
  have g13 : ∀ q : Int, q < 30 → V13 q = V q := fun q hq => (by rw [eV13, iu_ne _ _ (ne30 hq (by decide)), iu_ne _ _ (ne30 hq (by decide)), iu_ne _ _ (ne30 hq (by decide))] : V13 q = V12 q).trans (g12 q hq)
  refine z_aload_n K d_M_touch_136 rfl ?_
  refine z_bipush (v := jI 45) K d_M_touch_137 rfl ?_
  refine z_bipush (v := jI 24) K d_M_touch_139 rfl ?_
  refine z_bipush (v := jI 31) K d_M_touch_141 rfl ?_
  refine z_callV (ci := 0) (As := [.int (jI 45), .int (jI 24), .int (jI 31)]) K (w_M_multiply l G b0 h a cd T13 (v := A1) (w := py) hV13 (by decide) (by decide) (by decide) (by decide) (by decide) ((g13 24 (by decide)).trans cA1) f13_31 bA1 by1 (by decide)) ca_M_92 im_M_multiply se_M_multiply rfl (by decide) hm_0 rfl rfl (by decide) (Nat.le_of_ble_eq_true rfl) d_M_touch_143 (fun o h1 hp => ?_)
  obtain ⟨T14, rfl, rfl, hV14, hN14⟩ := hp
  obtain ⟨x14, e14⟩ : ∃ z : Int, z = A1 * py := ⟨_, rfl⟩
  rw [← e14] at hV14
  have b14 : lt9 x14 59 := by rw [e14]; have z := lt9_mul bA1 by1; exact z
  obtain ⟨V14, eV14⟩ : ∃ W : Int → Int, W = iu V13 45 x14 := ⟨_, rfl⟩
  rw [← eV14] at hV14
  have f14_30 : V14 30 = px := (by rw [eV14, iu_ne _ _ (by decide)] : V14 30 = V13 30).trans f13_30
  have f14_31 : V14 31 = py := (by rw [eV14, iu_ne _ _ (by decide)] : V14 31 = V13 31).trans f13_31
  have f14_32 : V14 32 = pz := (by rw [eV14, iu_ne _ _ (by decide)] : V14 32 = V13 32).trans f13_32
  have f14_49 : V14 49 = x1 := (by rw [eV14, iu_ne _ _ (by decide)] : V14 49 = V13 49).trans f13_49
  have f14_43 : V14 43 = x4 := (by rw [eV14, iu_ne _ _ (by decide)] : V14 43 = V13 43).trans f13_43
  have f14_50 : V14 50 = 3 := (by rw [eV14, iu_ne _ _ (by decide)] : V14 50 = V13 50).trans f13_50
  have f14_46 : V14 46 = x11 := (by rw [eV14, iu_ne _ _ (by decide)] : V14 46 = V13 46).trans f13_46
  have f14_42 : V14 42 = x13 := (by rw [eV14, iu_ne _ _ (by decide)] : V14 42 = V13 42).trans f13_42
  have f14_45 : V14 45 = x14 := by rw [eV14, iu_self]
  have g14 : ∀ q : Int, q < 30 → V14 q = V q := fun q hq => (by rw [eV14, iu_ne _ _ (ne30 hq (by decide))] : V14 q = V13 q).trans (g13 q hq)
  refine z_aload_n K d_M_touch_146 rfl ?_
  refine z_bipush (v := jI 46) K d_M_touch_147 rfl ?_
  refine z_bipush (v := jI 45) K d_M_touch_149 rfl ?_
  refine z_bipush (v := jI 32) K d_M_touch_151 rfl ?_
  refine z_callV (ci := 0) (As := [.int (jI 46), .int (jI 45), .int (jI 32)]) K (w_M_multiply l G b0 h a cd T14 (v := x14) (w := pz) hV14 (by decide) (by decide) (by decide) (by decide) (by decide) f14_45 f14_32 b14 bz (by decide)) ca_M_92 im_M_multiply se_M_multiply rfl (by decide) hm_0 rfl rfl (by decide) (Nat.le_of_ble_eq_true rfl) d_M_touch_153 (fun o h1 hp => ?_)
  obtain ⟨T15, rfl, rfl, hV15, hN15⟩ := hp
  obtain ⟨x15, e15⟩ : ∃ z : Int, z = x14 * pz := ⟨_, rfl⟩
  rw [← e15] at hV15
  have b15 : lt9 x15 78 := by rw [e15]; have z := lt9_mul b14 bz; exact z
  obtain ⟨V15, eV15⟩ : ∃ W : Int → Int, W = iu V14 46 x15 := ⟨_, rfl⟩
  rw [← eV15] at hV15
  have f15_30 : V15 30 = px := (by rw [eV15, iu_ne _ _ (by decide)] : V15 30 = V14 30).trans f14_30
  have f15_31 : V15 31 = py := (by rw [eV15, iu_ne _ _ (by decide)] : V15 31 = V14 31).trans f14_31
  have f15_32 : V15 32 = pz := (by rw [eV15, iu_ne _ _ (by decide)] : V15 32 = V14 32).trans f14_32
  have f15_49 : V15 49 = x1 := (by rw [eV15, iu_ne _ _ (by decide)] : V15 49 = V14 49).trans f14_49
  have f15_43 : V15 43 = x4 := (by rw [eV15, iu_ne _ _ (by decide)] : V15 43 = V14 43).trans f14_43
  have f15_50 : V15 50 = 3 := (by rw [eV15, iu_ne _ _ (by decide)] : V15 50 = V14 50).trans f14_50
  have f15_42 : V15 42 = x13 := (by rw [eV15, iu_ne _ _ (by decide)] : V15 42 = V14 42).trans f14_42
  have f15_45 : V15 45 = x14 := (by rw [eV15, iu_ne _ _ (by decide)] : V15 45 = V14 45).trans f14_45
  have f15_46 : V15 46 = x15 := by rw [eV15, iu_self]
  have g15 : ∀ q : Int, q < 30 → V15 q = V q := fun q hq => (by rw [eV15, iu_ne _ _ (ne30 hq (by decide))] : V15 q = V14 q).trans (g14 q hq)
  refine z_aload_n K d_M_touch_156 rfl ?_
  refine z_bipush (v := jI 42) K d_M_touch_157 rfl ?_
  refine z_bipush (v := jI 42) K d_M_touch_159 rfl ?_
  refine z_bipush (v := jI 46) K d_M_touch_161 rfl ?_
  refine z_iconst (v := jI (-1)) K d_M_touch_163 rfl ?_
  refine z_callV (ci := 0) (As := [.int (jI 42), .int (jI 42), .int (jI 46), .int (jI (-1))]) K (w_M_add l G b0 h a cd T15 (v := x13) (w := x15) hV15 (by decide) (by decide) (by decide) (by decide) f15_42 f15_46 b13 b15 (by decide) (by decide)) ca_M_83 im_M_add se_M_add rfl (by decide) hm_0 rfl rfl (by decide) (Nat.le_of_ble_eq_true rfl) d_M_touch_164 (fun o h1 hp => ?_)
  obtain ⟨T16, rfl, rfl, hV16, hN16⟩ := hp
  obtain ⟨x16, e16⟩ : ∃ z : Int, z = x13 - x15 := ⟨_, rfl⟩
  rw [Int.neg_mul, Int.one_mul, ← Int.sub_eq_add_neg, ← e16] at hV16
  have b16 : lt9 x16 81 := by rw [e16]; have z := lt9_sub b13 b15; exact z
  obtain ⟨V16, eV16⟩ : ∃ W : Int → Int, W = iu V15 42 x16 := ⟨_, rfl⟩
  rw [← eV16] at hV16
  have f16_30 : V16 30 = px := (by rw [eV16, iu_ne _ _ (by decide)] : V16 30 = V15 30).trans f15_30
  have f16_31 : V16 31 = py := (by rw [eV16, iu_ne _ _ (by decide)] : V16 31 = V15 31).trans f15_31
  have f16_32 : V16 32 = pz := (by rw [eV16, iu_ne _ _ (by decide)] : V16 32 = V15 32).trans f15_32
  have f16_49 : V16 49 = x1 := (by rw [eV16, iu_ne _ _ (by decide)] : V16 49 = V15 49).trans f15_49
  have f16_43 : V16 43 = x4 := (by rw [eV16, iu_ne _ _ (by decide)] : V16 43 = V15 43).trans f15_43
  have f16_50 : V16 50 = 3 := (by rw [eV16, iu_ne _ _ (by decide)] : V16 50 = V15 50).trans f15_50
  have f16_45 : V16 45 = x14 := (by rw [eV16, iu_ne _ _ (by decide)] : V16 45 = V15 45).trans f15_45
  have f16_46 : V16 46 = x15 := (by rw [eV16, iu_ne _ _ (by decide)] : V16 46 = V15 46).trans f15_46
  have f16_42 : V16 42 = x16 := by rw [eV16, iu_self]
  have g16 : ∀ q : Int, q < 30 → V16 q = V q := fun q hq => (by rw [eV16, iu_ne _ _ (ne30 hq (by decide))] : V16 q = V15 q).trans (g15 q hq)
  refine z_aload_n K d_M_touch_167 rfl ?_
  refine z_bipush (v := jI 44) K d_M_touch_168 rfl ?_
  refine z_bipush (v := jI 32) K d_M_touch_170 rfl ?_
  refine z_bipush (v := jI 43) K d_M_touch_172 rfl ?_
  refine z_callV (ci := 0) (As := [.int (jI 44), .int (jI 32), .int (jI 43)]) K (w_M_multiply l G b0 h a cd T16 (v := pz) (w := x4) hV16 (by decide) (by decide) (by decide) (by decide) (by decide) f16_32 f16_43 bz b4 (by decide)) ca_M_92 im_M_multiply se_M_multiply rfl (by decide) hm_0 rfl rfl (by decide) (Nat.le_of_ble_eq_true rfl) d_M_touch_174 (fun o h1 hp => ?_)
  obtain ⟨T17, rfl, rfl, hV17, hN17⟩ := hp
  obtain ⟨x17, e17⟩ : ∃ z : Int, z = pz * x4 := ⟨_, rfl⟩
  rw [← e17] at hV17
  have b17 : lt9 x17 80 := by rw [e17]; have z := lt9_mul bz b4; exact z
  obtain ⟨V17, eV17⟩ : ∃ W : Int → Int, W = iu V16 44 x17 := ⟨_, rfl⟩
  rw [← eV17] at hV17
  have f17_30 : V17 30 = px := (by rw [eV17, iu_ne _ _ (by decide)] : V17 30 = V16 30).trans f16_30
  have f17_31 : V17 31 = py := (by rw [eV17, iu_ne _ _ (by decide)] : V17 31 = V16 31).trans f16_31
  have f17_32 : V17 32 = pz := (by rw [eV17, iu_ne _ _ (by decide)] : V17 32 = V16 32).trans f16_32
  have f17_49 : V17 49 = x1 := (by rw [eV17, iu_ne _ _ (by decide)] : V17 49 = V16 49).trans f16_49
  have f17_43 : V17 43 = x4 := (by rw [eV17, iu_ne _ _ (by decide)] : V17 43 = V16 43).trans f16_43
  have f17_50 : V17 50 = 3 := (by rw [eV17, iu_ne _ _ (by decide)] : V17 50 = V16 50).trans f16_50
  have f17_45 : V17 45 = x14 := (by rw [eV17, iu_ne _ _ (by decide)] : V17 45 = V16 45).trans f16_45
  have f17_46 : V17 46 = x15 := (by rw [eV17, iu_ne _ _ (by decide)] : V17 46 = V16 46).trans f16_46
  have f17_42 : V17 42 = x16 := (by rw [eV17, iu_ne _ _ (by decide)] : V17 42 = V16 42).trans f16_42
  have f17_44 : V17 44 = x17 := by rw [eV17, iu_self]
  have g17 : ∀ q : Int, q < 30 → V17 q = V q := fun q hq => (by rw [eV17, iu_ne _ _ (ne30 hq (by decide))] : V17 q = V16 q).trans (g16 q hq)
  refine z_aload_n K d_M_touch_177 rfl ?_
  refine z_bipush (v := jI 50) K d_M_touch_178 rfl ?_
  refine z_bipush (v := jI 30) K d_M_touch_180 rfl ?_
  refine z_bipush (v := jI 30) K d_M_touch_182 rfl ?_
  refine z_iconst (v := jI 1) K d_M_touch_184 rfl ?_
  refine z_callV (ci := 0) (As := [.int (jI 50), .int (jI 30), .int (jI 30), .int (jI 1)]) K (w_M_add l G b0 h a cd T17 (v := px) (w := px) hV17 (by decide) (by decide) (by decide) (by decide) f17_30 f17_30 bx bx (by decide) (by decide)) ca_M_83 im_M_add se_M_add rfl (by decide) hm_0 rfl rfl (by decide) (Nat.le_of_ble_eq_true rfl) d_M_touch_185 (fun o h1 hp => ?_)
  obtain ⟨T18, rfl, rfl, hV18, hN18⟩ := hp
  obtain ⟨x18, e18⟩ : ∃ z : Int, z = px + px := ⟨_, rfl⟩
  rw [Int.one_mul, ← e18] at hV18
  have b18 : lt9 x18 39 := by rw [e18]; have z := lt9_add bx bx; exact z
  obtain ⟨V18, eV18⟩ : ∃ W : Int → Int, W = iu V17 50 x18 := ⟨_, rfl⟩
  rw [← eV18] at hV18
  have f18_30 : V18 30 = px := (by rw [eV18, iu_ne _ _ (by decide)] : V18 30 = V17 30).trans f17_30
  have f18_31 : V18 31 = py := (by rw [eV18, iu_ne _ _ (by decide)] : V18 31 = V17 31).trans f17_31
  have f18_32 : V18 32 = pz := (by rw [eV18, iu_ne _ _ (by decide)] : V18 32 = V17 32).trans f17_32
  have f18_49 : V18 49 = x1 := (by rw [eV18, iu_ne _ _ (by decide)] : V18 49 = V17 49).trans f17_49
  have f18_43 : V18 43 = x4 := (by rw [eV18, iu_ne _ _ (by decide)] : V18 43 = V17 43).trans f17_43
  have f18_45 : V18 45 = x14 := (by rw [eV18, iu_ne _ _ (by decide)] : V18 45 = V17 45).trans f17_45
  have f18_46 : V18 46 = x15 := (by rw [eV18, iu_ne _ _ (by decide)] : V18 46 = V17 46).trans f17_46
  have f18_42 : V18 42 = x16 := (by rw [eV18, iu_ne _ _ (by decide)] : V18 42 = V17 42).trans f17_42
  have f18_44 : V18 44 = x17 := (by rw [eV18, iu_ne _ _ (by decide)] : V18 44 = V17 44).trans f17_44
  have f18_50 : V18 50 = x18 := by rw [eV18, iu_self]
  have g18 : ∀ q : Int, q < 30 → V18 q = V q := fun q hq => (by rw [eV18, iu_ne _ _ (ne30 hq (by decide))] : V18 q = V17 q).trans (g17 q hq)
  refine z_aload_n K d_M_touch_188 rfl ?_
  refine z_bipush (v := jI 30) K d_M_touch_189 rfl ?_
  refine z_bipush (v := jI 49) K d_M_touch_191 rfl ?_
  refine z_callV (ci := 0) (As := [.int (jI 30), .int (jI 49)]) K (w_M_copy l G b0 h a cd T18 (v := px) hV18 (by decide) (by decide) f18_30) ca_M_40 im_M_copy se_M_copy rfl (by decide) hm_0 rfl rfl (by decide) (Nat.le_of_ble_eq_true rfl) d_M_touch_193 (fun o h1 hp => ?_)
  obtain ⟨T19, rfl, rfl, hV19, hN19⟩ := hp
  obtain ⟨V19, eV19⟩ : ∃ W : Int → Int, W = iu V18 49 px := ⟨_, rfl⟩
  rw [← eV19] at hV19
  have f19_30 : V19 30 = px := (by rw [eV19, iu_ne _ _ (by decide)] : V19 30 = V18 30).trans f18_30
  have f19_31 : V19 31 = py := (by rw [eV19, iu_ne _ _ (by decide)] : V19 31 = V18 31).trans f18_31
  have f19_32 : V19 32 = pz := (by rw [eV19, iu_ne _ _ (by decide)] : V19 32 = V18 32).trans f18_32
  have f19_43 : V19 43 = x4 := (by rw [eV19, iu_ne _ _ (by decide)] : V19 43 = V18 43).trans f18_43
  have f19_45 : V19 45 = x14 := (by rw [eV19, iu_ne _ _ (by decide)] : V19 45 = V18 45).trans f18_45
  have f19_46 : V19 46 = x15 := (by rw [eV19, iu_ne _ _ (by decide)] : V19 46 = V18 46).trans f18_46
  have f19_42 : V19 42 = x16 := (by rw [eV19, iu_ne _ _ (by decide)] : V19 42 = V18 42).trans f18_42
  have f19_44 : V19 44 = x17 := (by rw [eV19, iu_ne _ _ (by decide)] : V19 44 = V18 44).trans f18_44
  have f19_50 : V19 50 = x18 := (by rw [eV19, iu_ne _ _ (by decide)] : V19 50 = V18 50).trans f18_50
  have f19_49 : V19 49 = px := by rw [eV19, iu_self]
  have g19 : ∀ q : Int, q < 30 → V19 q = V q := fun q hq => (by rw [eV19, iu_ne _ _ (ne30 hq (by decide))] : V19 q = V18 q).trans (g18 q hq)
  refine z_aload_n K d_M_touch_196 rfl ?_
  refine z_bipush (v := jI 31) K d_M_touch_197 rfl ?_
  refine z_bipush (v := jI 39) K d_M_touch_199 rfl ?_
  refine z_callV (ci := 0) (As := [.int (jI 31), .int (jI 39)]) K (w_M_copy l G b0 h a cd T19 (v := py) hV19 (by decide) (by decide) f19_31) ca_M_40 im_M_copy se_M_copy rfl (by decide) hm_0 rfl rfl (by decide) (Nat.le_of_ble_eq_true rfl) d_M_touch_201 (fun o h1 hp => ?_)
  obtain ⟨T20, rfl, rfl, hV20, hN20⟩ := hp
  obtain ⟨V20, eV20⟩ : ∃ W : Int → Int, W = iu V19 39 py := ⟨_, rfl⟩
  rw [← eV20] at hV20
  have f20_30 : V20 30 = px := (by rw [eV20, iu_ne _ _ (by decide)] : V20 30 = V19 30).trans f19_30
  have f20_31 : V20 31 = py := (by rw [eV20, iu_ne _ _ (by decide)] : V20 31 = V19 31).trans f19_31
  have f20_32 : V20 32 = pz := (by rw [eV20, iu_ne _ _ (by decide)] : V20 32 = V19 32).trans f19_32
  have f20_43 : V20 43 = x4 := (by rw [eV20, iu_ne _ _ (by decide)] : V20 43 = V19 43).trans f19_43
  have f20_45 : V20 45 = x14 := (by rw [eV20, iu_ne _ _ (by decide)] : V20 45 = V19 45).trans f19_45
  have f20_46 : V20 46 = x15 := (by rw [eV20, iu_ne _ _ (by decide)] : V20 46 = V19 46).trans f19_46
  have f20_42 : V20 42 = x16 := (by rw [eV20, iu_ne _ _ (by decide)] : V20 42 = V19 42).trans f19_42
  have f20_44 : V20 44 = x17 := (by rw [eV20, iu_ne _ _ (by decide)] : V20 44 = V19 44).trans f19_44
  have f20_50 : V20 50 = x18 := (by rw [eV20, iu_ne _ _ (by decide)] : V20 50 = V19 50).trans f19_50
  have f20_49 : V20 49 = px := (by rw [eV20, iu_ne _ _ (by decide)] : V20 49 = V19 49).trans f19_49
  have f20_39 : V20 39 = py := by rw [eV20, iu_self]
  have g20 : ∀ q : Int, q < 30 → V20 q = V q := fun q hq => (by rw [eV20, iu_ne _ _ (ne30 hq (by decide))] : V20 q = V19 q).trans (g19 q hq)
  have s43 : x4 = tD A1 A3 px py pz := by
    simp only [e4, e3, e2, e1, tD]
    try grind
  have s42 : x16 = tN A1 A2 A4 px py pz := by
    simp only [e16, e13, e12, e7, e5, e11, e10, e9, e1, e15, e14, tN]
    try grind
  have s44 : x17 = pz * tD A1 A3 px py pz := by
    simp only [e17, e4, e3, e2, e1, tD]
    try grind
  have s50 : x18 = px + px := by
    simp only [e18]
    try grind
  have s49 : px = px := rfl
  have s39 : py = py := rfl
  refine z_aload_n K d_M_touch_204 rfl ?_
  refine z_callV (ci := 0) (As := []) K (v_M_finish l G b0 h a cd T20 (V := V20) (dd := (tD A1 A3 px py pz)) (nn := (tN A1 A2 A4 px py pz)) (ww := (pz * tD A1 A3 px py pz)) (ss := (px + px)) (vv := (px)) (kk := (py)) hV20 ((g20 24 (by decide)).trans cA1) ((g20 25 (by decide)).trans cA2) ((g20 26 (by decide)).trans cA3) ((g20 27 (by decide)).trans cA4) ((g20 28 (by decide)).trans cA6) bA1 bA2 bA3 bA4 bA6 (f20_43.trans s43) (f20_42.trans s42) (f20_44.trans s44) (f20_50.trans s50) (f20_49.trans s49) (f20_39.trans s39) (s43 ▸ lt9_mono b4 (by decide)) (s42 ▸ lt9_mono b16 (by decide)) (s44 ▸ lt9_mono b17 (by decide)) (s50 ▸ lt9_mono b18 (by decide)) (s49 ▸ lt9_mono bx (by decide)) (s39 ▸ lt9_mono by1 (by decide)) hw0) ca_M_125 im_M_finish se_M_finish rfl (by decide) hm_0 rfl rfl (by decide) (Nat.le_of_ble_eq_true rfl) d_M_touch_205 (fun o h1 hp => ?_)
  obtain ⟨TT, rfl, rfl, ⟨V9, q1, q2, q3, q4, q5⟩, q6⟩ := hp
  exact z_vret K hr hlk d_M_touch_208 ⟨_, rfl, rfl, ⟨V9, q1, fun q hq => (q2 q hq).trans (g20 q hq), q3, q4, q5⟩, by rw [q6, (hN20.trans (hN19.trans (hN18.trans (hN17.trans (hN16.trans (hN15.trans (hN14.trans (hN13.trans (hN12.trans (hN11.trans (hN10.trans (hN9.trans (hN8.trans (hN7.trans (hN6.trans (hN5.trans (hN4.trans (hN3.trans (hN2.trans (hN1.trans rfl))))))))))))))))))))]⟩
end M17
end
section
/-- the point that the registers from b on hold -/
def PtAt (V N : Int → Int) (b : Int) (o : Option (Int × Int × Int)) : Prop := match o with
  | none => N b = 1
  | some (x, y, z) => N b = 0 ∧ V b = x ∧ V (b + 1) = y ∧ V (b + 2) = z
/-- sums, as the reference reckons them -/
def jn (A1 A2 A3 A4 : Int) : Option (Int × Int × Int) → Option (Int × Int × Int) → Option (Int × Int × Int)
  | none, q => q
  | some p, none => some p
  | some (x1, y1, z1), some (x2, y2, z2) => if x1 = x2 ∧ z1 = z2 then (if y1 + y2 + A1 * x1 * z1 + A3 * (z1 * z1) * z1 = 0 then none else some (fTouch A1 A2 A3 A4 x1 y1 z1)) else some (fChord A1 A2 A3 x1 y1 z1 x2 y2 z2)
/-- what a point must be so that sums of it can be reckoned -/
def capJ : Option (Int × Int × Int) → Prop
  | none => True
  | some (x, y, z) => lt9 x 38 ∧ lt9 y 58 ∧ lt9 z 19 ∧ z ≠ 0
theorem ne45 {q k : Int} (hq : q < 45) (hk : 45 ≤ k) : q ≠ k := by omega
theorem rm_ok {R : Room} {kc ks f w d lw mL : Nat} (h : f ≤ R.frames ∧ w ≤ R.locals ∧ kc ≤ R.cells ∧ ks ≤ R.slots) (h1 : d + 1 ≤ f) (h2 : 8 + (mL + 11) + lw ≤ w) : d + 1 ≤ R.frames ∧ 8 + (mL + 11) + lw ≤ R.locals ∧ kc + 0 ≤ R.cells ∧ ks + 0 ≤ R.slots := ⟨Nat.le_trans h1 h.1, Nat.le_trans h2 h.2.1, h.2.2.1, h.2.2.2⟩
section M18
variable {p : Program} {l : Launch} {e : Env} {R : Room} {s : State} {m : MethodId} {args : Array Value} {below : List Frame} {meth : Method} {c : Code} {Q : State → Prop} {b0 kc ks : Nat} {G : zG} {h : zH} {a : Nat} {cd : Int}
set_option maxHeartbeats 4000000 in
set_option maxRecDepth 100000 in
theorem v_M_isOther (l : Launch) (G : zG) (b0 : Nat) (h : zH) (a : Nat) (cd : Int) (T : mT) {V : Int → Int} {px py pz qy A1 A2 A3 A4 A6 : Int} (hV : RV T V) (cA1 : V 24 = A1) (cA2 : V 25 = A2) (cA3 : V 26 = A3) (cA4 : V 27 = A4) (cA6 : V 28 = A6) (bA1 : lt9 A1 1) (bA2 : lt9 A2 1) (bA3 : lt9 A3 1) (bA4 : lt9 A4 1) (bA6 : lt9 A6 1) (fx : V 30 = px) (fy : V 31 = py) (fz : V 32 = pz) (fq : V 34 = qy) (bx : lt9 px 38) (by1 : lt9 py 58) (bz : lt9 pz 19) (bq : lt9 qy 58) :
    mMet l G b0 y_M_isOther b_M_isOther 1 (some .boolean) 4 102 h a cd [] T (fun o T' => o = some (.int (jI (if py + qy + A1 * px * pz + A3 * (pz * pz) * pz = 0 then 1 else 0))) ∧ (∃ V' : Int → Int, RV T' V' ∧ ∀ q : Int, q < 45 → V' q = V q) ∧ T'.2.2.2 = T.2.2.2) :=
  z_met (by decide) (Nat.le_of_ble_eq_true rfl) fun p e s m below meth c K hr hlk hnm => by
  have g0 : ∀ q : Int, q < 45 → V q = V q := fun _ _ => rfl
  refine z_aload_n K d_M_isOther_0 rfl ?_
  refine z_bipush (v := jI 45) K d_M_isOther_1 rfl ?_
  refine z_bipush (v := jI 31) K d_M_isOther_3 rfl ?_
  refine z_bipush (v := jI 34) K d_M_isOther_5 rfl ?_
  refine z_iconst (v := jI 1) K d_M_isOther_7 rfl ?_
  refine z_callV (ci := 0) (As := [.int (jI 45), .int (jI 31), .int (jI 34), .int (jI 1)]) K (w_M_add l G b0 h a cd T (v := py) (w := qy) hV (by decide) (by decide) (by decide) (by decide) fy fq by1 bq (by decide) (by decide)) ca_M_83 im_M_add se_M_add rfl (by decide) hm_0 rfl rfl (by decide) (Nat.le_of_ble_eq_true rfl) d_M_isOther_8 (fun o h1 hp => ?_)
  obtain ⟨T1, rfl, rfl, hV1, hN1⟩ := hp
  obtain ⟨x1, e1⟩ : ∃ z : Int, z = py + qy := ⟨_, rfl⟩
  rw [Int.one_mul, ← e1] at hV1
  have b1 : lt9 x1 59 := by rw [e1]; have z := lt9_add by1 bq; exact z
  obtain ⟨V1, eV1⟩ : ∃ W : Int → Int, W = iu V 45 x1 := ⟨_, rfl⟩
  rw [← eV1] at hV1
  have f1_30 : V1 30 = px := (by rw [eV1, iu_ne _ _ (by decide)] : V1 30 = V 30).trans fx
  have f1_31 : V1 31 = py := (by rw [eV1, iu_ne _ _ (by decide)] : V1 31 = V 31).trans fy
  have f1_32 : V1 32 = pz := (by rw [eV1, iu_ne _ _ (by decide)] : V1 32 = V 32).trans fz
  have f1_34 : V1 34 = qy := (by rw [eV1, iu_ne _ _ (by decide)] : V1 34 = V 34).trans fq
  have f1_45 : V1 45 = x1 := by rw [eV1, iu_self]
  have g1 : ∀ q : Int, q < 45 → V1 q = V q := fun q hq => (by rw [eV1, iu_ne _ _ (ne45 hq (by decide))] : V1 q = V q).trans (g0 q hq)
  refine z_aload_n K d_M_isOther_11 rfl ?_
  refine z_bipush (v := jI 45) K d_M_isOther_12 rfl ?_
  refine z_bipush (v := jI 24) K d_M_isOther_14 rfl ?_
  refine z_bipush (v := jI 30) K d_M_isOther_16 rfl ?_
  refine z_bipush (v := jI 32) K d_M_isOther_18 rfl ?_
  refine z_callV (ci := 0) (As := [.int (jI 45), .int (jI 24), .int (jI 30), .int (jI 32)]) K (v_M_more l G b0 h a cd T1 (u := x1) (v := A1) (w := px) (t := pz) hV1 (by decide) (by decide) (by decide) (by decide) f1_45 ((g1 24 (by decide)).trans cA1) f1_30 f1_32 b1 bA1 bx bz (by decide) (by decide)) ca_M_102 im_M_more se_M_more rfl (by decide) hm_0 rfl rfl (by decide) (Nat.le_of_ble_eq_true rfl) d_M_isOther_20 (fun o h1 hp => ?_)
  obtain ⟨T2, rfl, rfl, hV2, hN2⟩ := hp
  obtain ⟨x2, e2⟩ : ∃ z : Int, z = x1 + A1 * px * pz := ⟨_, rfl⟩
  rw [← e2] at hV2
  have b2 : lt9 x2 60 := by rw [e2]; have z := lt9_add b1 (lt9_mul (lt9_mul bA1 bx) bz); exact z
  obtain ⟨V2, eV2⟩ : ∃ W : Int → Int, W = iu (iu (iu V1 47 (A1 * px)) 48 (A1 * px * pz)) 45 x2 := ⟨_, rfl⟩
  rw [← eV2] at hV2
  have f2_30 : V2 30 = px := (by rw [eV2, iu_ne _ _ (by decide), iu_ne _ _ (by decide), iu_ne _ _ (by decide)] : V2 30 = V1 30).trans f1_30
  have f2_31 : V2 31 = py := (by rw [eV2, iu_ne _ _ (by decide), iu_ne _ _ (by decide), iu_ne _ _ (by decide)] : V2 31 = V1 31).trans f1_31
  have f2_32 : V2 32 = pz := (by rw [eV2, iu_ne _ _ (by decide), iu_ne _ _ (by decide), iu_ne _ _ (by decide)] : V2 32 = V1 32).trans f1_32
  have f2_34 : V2 34 = qy := (by rw [eV2, iu_ne _ _ (by decide), iu_ne _ _ (by decide), iu_ne _ _ (by decide)] : V2 34 = V1 34).trans f1_34
  have f2_45 : V2 45 = x2 := by rw [eV2, iu_self]
  have g2 : ∀ q : Int, q < 45 → V2 q = V q := fun q hq => (by rw [eV2, iu_ne _ _ (ne45 hq (by decide)), iu_ne _ _ (ne45 hq (by decide)), iu_ne _ _ (ne45 hq (by decide))] : V2 q = V1 q).trans (g1 q hq)
  refine z_aload_n K d_M_isOther_23 rfl ?_
  refine z_bipush (v := jI 49) K d_M_isOther_24 rfl ?_
  refine z_bipush (v := jI 32) K d_M_isOther_26 rfl ?_
  refine z_bipush (v := jI 32) K d_M_isOther_28 rfl ?_
  refine z_callV (ci := 0) (As := [.int (jI 49), .int (jI 32), .int (jI 32)]) K (w_M_multiply l G b0 h a cd T2 (v := pz) (w := pz) hV2 (by decide) (by decide) (by decide) (by decide) (by decide) f2_32 f2_32 bz bz (by decide)) ca_M_92 im_M_multiply se_M_multiply rfl (by decide) hm_0 rfl rfl (by decide) (Nat.le_of_ble_eq_true rfl) d_M_isOther_30 (fun o h1 hp => ?_)
  obtain ⟨T3, rfl, rfl, hV3, hN3⟩ := hp
  obtain ⟨x3, e3⟩ : ∃ z : Int, z = pz * pz := ⟨_, rfl⟩
  rw [← e3] at hV3
  have b3 : lt9 x3 38 := by rw [e3]; have z := lt9_mul bz bz; exact z
  obtain ⟨V3, eV3⟩ : ∃ W : Int → Int, W = iu V2 49 x3 := ⟨_, rfl⟩
  rw [← eV3] at hV3
  have f3_30 : V3 30 = px := (by rw [eV3, iu_ne _ _ (by decide)] : V3 30 = V2 30).trans f2_30
  have f3_31 : V3 31 = py := (by rw [eV3, iu_ne _ _ (by decide)] : V3 31 = V2 31).trans f2_31
  have f3_32 : V3 32 = pz := (by rw [eV3, iu_ne _ _ (by decide)] : V3 32 = V2 32).trans f2_32
  have f3_34 : V3 34 = qy := (by rw [eV3, iu_ne _ _ (by decide)] : V3 34 = V2 34).trans f2_34
  have f3_45 : V3 45 = x2 := (by rw [eV3, iu_ne _ _ (by decide)] : V3 45 = V2 45).trans f2_45
  have f3_49 : V3 49 = x3 := by rw [eV3, iu_self]
  have g3 : ∀ q : Int, q < 45 → V3 q = V q := fun q hq => (by rw [eV3, iu_ne _ _ (ne45 hq (by decide))] : V3 q = V2 q).trans (g2 q hq)
  refine z_aload_n K d_M_isOther_33 rfl ?_
  refine z_bipush (v := jI 45) K d_M_isOther_34 rfl ?_
  refine z_bipush (v := jI 26) K d_M_isOther_36 rfl ?_
  refine z_bipush (v := jI 49) K d_M_isOther_38 rfl ?_
  refine z_bipush (v := jI 32) K d_M_isOther_40 rfl ?_
  refine z_callV (ci := 0) (As := [.int (jI 45), .int (jI 26), .int (jI 49), .int (jI 32)]) K (v_M_more l G b0 h a cd T3 (u := x2) (v := A3) (w := x3) (t := pz) hV3 (by decide) (by decide) (by decide) (by decide) f3_45 ((g3 26 (by decide)).trans cA3) f3_49 f3_32 b2 bA3 b3 bz (by decide) (by decide)) ca_M_102 im_M_more se_M_more rfl (by decide) hm_0 rfl rfl (by decide) (Nat.le_of_ble_eq_true rfl) d_M_isOther_42 (fun o h1 hp => ?_)
  obtain ⟨T4, rfl, rfl, hV4, hN4⟩ := hp
  obtain ⟨x4, e4⟩ : ∃ z : Int, z = x2 + A3 * x3 * pz := ⟨_, rfl⟩
  rw [← e4] at hV4
  have b4 : lt9 x4 61 := by rw [e4]; have z := lt9_add b2 (lt9_mul (lt9_mul bA3 b3) bz); exact z
  obtain ⟨V4, eV4⟩ : ∃ W : Int → Int, W = iu (iu (iu V3 47 (A3 * x3)) 48 (A3 * x3 * pz)) 45 x4 := ⟨_, rfl⟩
  rw [← eV4] at hV4
  have f4_30 : V4 30 = px := (by rw [eV4, iu_ne _ _ (by decide), iu_ne _ _ (by decide), iu_ne _ _ (by decide)] : V4 30 = V3 30).trans f3_30
  have f4_31 : V4 31 = py := (by rw [eV4, iu_ne _ _ (by decide), iu_ne _ _ (by decide), iu_ne _ _ (by decide)] : V4 31 = V3 31).trans f3_31
  have f4_32 : V4 32 = pz := (by rw [eV4, iu_ne _ _ (by decide), iu_ne _ _ (by decide), iu_ne _ _ (by decide)] : V4 32 = V3 32).trans f3_32
  have f4_34 : V4 34 = qy := (by rw [eV4, iu_ne _ _ (by decide), iu_ne _ _ (by decide), iu_ne _ _ (by decide)] : V4 34 = V3 34).trans f3_34
  have f4_49 : V4 49 = x3 := (by rw [eV4, iu_ne _ _ (by decide), iu_ne _ _ (by decide), iu_ne _ _ (by decide)] : V4 49 = V3 49).trans f3_49
  have f4_45 : V4 45 = x4 := by rw [eV4, iu_self]
  have g4 : ∀ q : Int, q < 45 → V4 q = V q := fun q hq => (by rw [eV4, iu_ne _ _ (ne45 hq (by decide)), iu_ne _ _ (ne45 hq (by decide)), iu_ne _ _ (ne45 hq (by decide))] : V4 q = V3 q).trans (g3 q hq)
  have hX : x4 = py + qy + A1 * px * pz + A3 * (pz * pz) * pz := by simp only [e4, e2, e1, e3]
  obtain ⟨n1, k1⟩ := hV4 45 (by decide) (by decide)
  rw [f4_45] at k1
  have s1 := sgn3 x4
  refine z_aload_n K d_M_isOther_45 rfl ?_
  refine zm_get K fd_M_16 rfl d_M_isOther_46 ?_
  refine z_bipush (v := jI 45) K d_M_isOther_49 rfl ?_
  refine zm_sld K (by omega) d_M_isOther_51 ?_
  rw [k1.2.2.2.2.1]
  refine zi_if_ne (tgt := 59) K d_M_isOther_52 (by decide) (by omega) (fun hc => ?_) (fun hc => ?_)
  · refine z_iconst (v := jI 0) K d_M_isOther_59 rfl ?_
    refine z_zret K hr hlk d_M_isOther_60 rfl ⟨_, rfl, ?_, ⟨_, hV4, g4⟩, (hN4.trans (hN3.trans (hN2.trans (hN1.trans rfl))))⟩
    rw [if_neg (fun z => hc (by rw [hX, z]; rfl))]
  · refine z_iconst (v := jI 1) K d_M_isOther_55 rfl ?_
    refine z_goto (tgt := 60) K d_M_isOther_56 (by decide) ?_
    refine z_zret K hr hlk d_M_isOther_60 rfl ⟨_, rfl, ?_, ⟨_, hV4, g4⟩, (hN4.trans (hN3.trans (hN2.trans (hN1.trans rfl))))⟩
    rw [if_pos (by rw [← hX]; exact Int.sign_eq_zero_iff_zero.mp hc)]
set_option maxHeartbeats 4000000 in
set_option maxRecDepth 100000 in
theorem t_M_join89 (K : zC p s m args c b_M_join R_M 1 b0 G) (hRm : 6 ≤ R.frames ∧ 143 ≤ R.locals ∧ kc ≤ R.cells ∧ ks ≤ R.slots) (T : mT) {V : Int → Int} {px py pz qx qy qz A1 A2 A3 A4 A6 : Int} (hV : RV T V) (cA1 : V 24 = A1) (cA2 : V 25 = A2) (cA3 : V 26 = A3) (cA4 : V 27 = A4) (cA6 : V 28 = A6) (bA1 : lt9 A1 1) (bA2 : lt9 A2 1) (bA3 : lt9 A3 1) (bA4 : lt9 A4 1) (bA6 : lt9 A6 1) (fx : V 30 = px) (fy : V 31 = py) (fz : V 32 = pz) (fqx : V 33 = qx) (fqy : V 34 = qy) (fqz : V 35 = qz) (bx : lt9 px 38) (by1 : lt9 py 58) (bz : lt9 pz 19) (bqx : lt9 qx 38) (bqy : lt9 qy 58) (bqz : lt9 qz 19) (hw0 : pz * qz * cD px pz qx qz ≠ 0)
    (hx : ∀ (T' : mT) (V' : Int → Int), RV T' V' → (∀ q : Int, q < 30 → V' q = V q) → V' 36 = (fChord A1 A2 A3 px py pz qx qy qz).1 → V' 37 = (fChord A1 A2 A3 px py pz qx qy qz).2.1 → V' 38 = (fChord A1 A2 A3 px py pz qx qy qz).2.2 → T'.2.2.2 = iu T.2.2.2 36 0 → zW p l e R s m args below meth c 1 b0 G kc ks Q (hm G h a cd T') 242 [(0, .ref a)] []) :
    zW p l e R s m args below meth c 1 b0 G kc ks Q (hm G h a cd T) 89 [(0, .ref a)] [] := by
  have g0 : ∀ q : Int, q < 30 → V q = V q := fun _ _ => rfl
  refine z_aload_n K d_M_join_89 rfl ?_
  refine z_bipush (v := jI 47) K d_M_join_90 rfl ?_
  refine z_bipush (v := jI 32) K d_M_join_92 rfl ?_
  refine z_bipush (v := jI 32) K d_M_join_94 rfl ?_
  refine z_callV (ci := 0) (As := [.int (jI 47), .int (jI 32), .int (jI 32)]) K (w_M_multiply l G b0 h a cd T (v := pz) (w := pz) hV (by decide) (by decide) (by decide) (by decide) (by decide) fz fz bz bz (by decide)) ca_M_92 im_M_multiply se_M_multiply rfl (by decide) hm_0 rfl rfl (rm_ok hRm (by decide) (by decide)) (Nat.le_of_ble_eq_true rfl) d_M_join_96 (fun o h1 hp => ?_)
  obtain ⟨T1, rfl, rfl, hV1, hN1⟩ := hp
  obtain ⟨x1, e1⟩ : ∃ z : Int, z = pz * pz := ⟨_, rfl⟩
  rw [← e1] at hV1
  have b1 : lt9 x1 38 := by rw [e1]; have z := lt9_mul bz bz; exact z
  obtain ⟨V1, eV1⟩ : ∃ W : Int → Int, W = iu V 47 x1 := ⟨_, rfl⟩
  rw [← eV1] at hV1
  have f1_30 : V1 30 = px := (by rw [eV1, iu_ne _ _ (by decide)] : V1 30 = V 30).trans fx
  have f1_31 : V1 31 = py := (by rw [eV1, iu_ne _ _ (by decide)] : V1 31 = V 31).trans fy
  have f1_32 : V1 32 = pz := (by rw [eV1, iu_ne _ _ (by decide)] : V1 32 = V 32).trans fz
  have f1_33 : V1 33 = qx := (by rw [eV1, iu_ne _ _ (by decide)] : V1 33 = V 33).trans fqx
  have f1_34 : V1 34 = qy := (by rw [eV1, iu_ne _ _ (by decide)] : V1 34 = V 34).trans fqy
  have f1_35 : V1 35 = qz := (by rw [eV1, iu_ne _ _ (by decide)] : V1 35 = V 35).trans fqz
  have f1_47 : V1 47 = x1 := by rw [eV1, iu_self]
  have g1 : ∀ q : Int, q < 30 → V1 q = V q := fun q hq => (by rw [eV1, iu_ne _ _ (ne30 hq (by decide))] : V1 q = V q).trans (g0 q hq)
  refine z_aload_n K d_M_join_99 rfl ?_
  refine z_bipush (v := jI 48) K d_M_join_100 rfl ?_
  refine z_bipush (v := jI 35) K d_M_join_102 rfl ?_
  refine z_bipush (v := jI 35) K d_M_join_104 rfl ?_
  refine z_callV (ci := 0) (As := [.int (jI 48), .int (jI 35), .int (jI 35)]) K (w_M_multiply l G b0 h a cd T1 (v := qz) (w := qz) hV1 (by decide) (by decide) (by decide) (by decide) (by decide) f1_35 f1_35 bqz bqz (by decide)) ca_M_92 im_M_multiply se_M_multiply rfl (by decide) hm_0 rfl rfl (rm_ok hRm (by decide) (by decide)) (Nat.le_of_ble_eq_true rfl) d_M_join_106 (fun o h1 hp => ?_)
  obtain ⟨T2, rfl, rfl, hV2, hN2⟩ := hp
  obtain ⟨x2, e2⟩ : ∃ z : Int, z = qz * qz := ⟨_, rfl⟩
  rw [← e2] at hV2
  have b2 : lt9 x2 38 := by rw [e2]; have z := lt9_mul bqz bqz; exact z
  obtain ⟨V2, eV2⟩ : ∃ W : Int → Int, W = iu V1 48 x2 := ⟨_, rfl⟩
  rw [← eV2] at hV2
  have f2_30 : V2 30 = px := (by rw [eV2, iu_ne _ _ (by decide)] : V2 30 = V1 30).trans f1_30
  have f2_31 : V2 31 = py := (by rw [eV2, iu_ne _ _ (by decide)] : V2 31 = V1 31).trans f1_31
  have f2_32 : V2 32 = pz := (by rw [eV2, iu_ne _ _ (by decide)] : V2 32 = V1 32).trans f1_32
  have f2_33 : V2 33 = qx := (by rw [eV2, iu_ne _ _ (by decide)] : V2 33 = V1 33).trans f1_33
  have f2_34 : V2 34 = qy := (by rw [eV2, iu_ne _ _ (by decide)] : V2 34 = V1 34).trans f1_34
  have f2_35 : V2 35 = qz := (by rw [eV2, iu_ne _ _ (by decide)] : V2 35 = V1 35).trans f1_35
  have f2_47 : V2 47 = x1 := (by rw [eV2, iu_ne _ _ (by decide)] : V2 47 = V1 47).trans f1_47
  have f2_48 : V2 48 = x2 := by rw [eV2, iu_self]
  have g2 : ∀ q : Int, q < 30 → V2 q = V q := fun q hq => (by rw [eV2, iu_ne _ _ (ne30 hq (by decide))] : V2 q = V1 q).trans (g1 q hq)
  refine z_aload_n K d_M_join_109 rfl ?_
  refine z_bipush (v := jI 45) K d_M_join_110 rfl ?_
  refine z_bipush (v := jI 33) K d_M_join_112 rfl ?_
  refine z_bipush (v := jI 47) K d_M_join_114 rfl ?_
  refine z_callV (ci := 0) (As := [.int (jI 45), .int (jI 33), .int (jI 47)]) K (w_M_multiply l G b0 h a cd T2 (v := qx) (w := x1) hV2 (by decide) (by decide) (by decide) (by decide) (by decide) f2_33 f2_47 bqx b1 (by decide)) ca_M_92 im_M_multiply se_M_multiply rfl (by decide) hm_0 rfl rfl (rm_ok hRm (by decide) (by decide)) (Nat.le_of_ble_eq_true rfl) d_M_join_116 (fun o h1 hp => ?_)
  obtain ⟨T3, rfl, rfl, hV3, hN3⟩ := hp
  obtain ⟨x3, e3⟩ : ∃ z : Int, z = qx * x1 := ⟨_, rfl⟩
  rw [← e3] at hV3
  have b3 : lt9 x3 76 := by rw [e3]; have z := lt9_mul bqx b1; exact z
  obtain ⟨V3, eV3⟩ : ∃ W : Int → Int, W = iu V2 45 x3 := ⟨_, rfl⟩
  rw [← eV3] at hV3
  have f3_30 : V3 30 = px := (by rw [eV3, iu_ne _ _ (by decide)] : V3 30 = V2 30).trans f2_30
  have f3_31 : V3 31 = py := (by rw [eV3, iu_ne _ _ (by decide)] : V3 31 = V2 31).trans f2_31
  have f3_32 : V3 32 = pz := (by rw [eV3, iu_ne _ _ (by decide)] : V3 32 = V2 32).trans f2_32
  have f3_33 : V3 33 = qx := (by rw [eV3, iu_ne _ _ (by decide)] : V3 33 = V2 33).trans f2_33
  have f3_34 : V3 34 = qy := (by rw [eV3, iu_ne _ _ (by decide)] : V3 34 = V2 34).trans f2_34
  have f3_35 : V3 35 = qz := (by rw [eV3, iu_ne _ _ (by decide)] : V3 35 = V2 35).trans f2_35
  have f3_47 : V3 47 = x1 := (by rw [eV3, iu_ne _ _ (by decide)] : V3 47 = V2 47).trans f2_47
  have f3_48 : V3 48 = x2 := (by rw [eV3, iu_ne _ _ (by decide)] : V3 48 = V2 48).trans f2_48
  have f3_45 : V3 45 = x3 := by rw [eV3, iu_self]
  have g3 : ∀ q : Int, q < 30 → V3 q = V q := fun q hq => (by rw [eV3, iu_ne _ _ (ne30 hq (by decide))] : V3 q = V2 q).trans (g2 q hq)
  refine z_aload_n K d_M_join_119 rfl ?_
  refine z_bipush (v := jI 46) K d_M_join_120 rfl ?_
  refine z_bipush (v := jI 30) K d_M_join_122 rfl ?_
  refine z_bipush (v := jI 48) K d_M_join_124 rfl ?_
  refine z_callV (ci := 0) (As := [.int (jI 46), .int (jI 30), .int (jI 48)]) K (w_M_multiply l G b0 h a cd T3 (v := px) (w := x2) hV3 (by decide) (by decide) (by decide) (by decide) (by decide) f3_30 f3_48 bx b2 (by decide)) ca_M_92 im_M_multiply se_M_multiply rfl (by decide) hm_0 rfl rfl (rm_ok hRm (by decide) (by decide)) (Nat.le_of_ble_eq_true rfl) d_M_join_126 (fun o h1 hp => ?_)
  obtain ⟨T4, rfl, rfl, hV4, hN4⟩ := hp
  obtain ⟨x4, e4⟩ : ∃ z : Int, z = px * x2 := ⟨_, rfl⟩
  rw [← e4] at hV4
  have b4 : lt9 x4 76 := by rw [e4]; have z := lt9_mul bx b2; exact z
  obtain ⟨V4, eV4⟩ : ∃ W : Int → Int, W = iu V3 46 x4 := ⟨_, rfl⟩
  rw [← eV4] at hV4
  have f4_30 : V4 30 = px := (by rw [eV4, iu_ne _ _ (by decide)] : V4 30 = V3 30).trans f3_30
  have f4_31 : V4 31 = py := (by rw [eV4, iu_ne _ _ (by decide)] : V4 31 = V3 31).trans f3_31
  have f4_32 : V4 32 = pz := (by rw [eV4, iu_ne _ _ (by decide)] : V4 32 = V3 32).trans f3_32
  have f4_33 : V4 33 = qx := (by rw [eV4, iu_ne _ _ (by decide)] : V4 33 = V3 33).trans f3_33
  have f4_34 : V4 34 = qy := (by rw [eV4, iu_ne _ _ (by decide)] : V4 34 = V3 34).trans f3_34
  have f4_35 : V4 35 = qz := (by rw [eV4, iu_ne _ _ (by decide)] : V4 35 = V3 35).trans f3_35
  have f4_47 : V4 47 = x1 := (by rw [eV4, iu_ne _ _ (by decide)] : V4 47 = V3 47).trans f3_47
  have f4_48 : V4 48 = x2 := (by rw [eV4, iu_ne _ _ (by decide)] : V4 48 = V3 48).trans f3_48
  have f4_45 : V4 45 = x3 := (by rw [eV4, iu_ne _ _ (by decide)] : V4 45 = V3 45).trans f3_45
  have f4_46 : V4 46 = x4 := by rw [eV4, iu_self]
  have g4 : ∀ q : Int, q < 30 → V4 q = V q := fun q hq => (by rw [eV4, iu_ne _ _ (ne30 hq (by decide))] : V4 q = V3 q).trans (g3 q hq)
  refine z_aload_n K d_M_join_129 rfl ?_
  refine z_bipush (v := jI 43) K d_M_join_130 rfl ?_
  refine z_bipush (v := jI 45) K d_M_join_132 rfl ?_
  refine z_bipush (v := jI 46) K d_M_join_134 rfl ?_
  refine z_iconst (v := jI (-1)) K d_M_join_136 rfl ?_
  refine z_callV (ci := 0) (As := [.int (jI 43), .int (jI 45), .int (jI 46), .int (jI (-1))]) K (w_M_add l G b0 h a cd T4 (v := x3) (w := x4) hV4 (by decide) (by decide) (by decide) (by decide) f4_45 f4_46 b3 b4 (by decide) (by decide)) ca_M_83 im_M_add se_M_add rfl (by decide) hm_0 rfl rfl (rm_ok hRm (by decide) (by decide)) (Nat.le_of_ble_eq_true rfl) d_M_join_137 (fun o h1 hp => ?_)
  obtain ⟨T5, rfl, rfl, hV5, hN5⟩ := hp
  obtain ⟨x5, e5⟩ : ∃ z : Int, z = x3 - x4 := ⟨_, rfl⟩
  rw [Int.neg_mul, Int.one_mul, ← Int.sub_eq_add_neg, ← e5] at hV5
  have b5 : lt9 x5 77 := by rw [e5]; have z := lt9_sub b3 b4; exact z
  obtain ⟨V5, eV5⟩ : ∃ W : Int → Int, W = iu V4 43 x5 := ⟨_, rfl⟩
  rw [← eV5] at hV5
  have f5_30 : V5 30 = px := (by rw [eV5, iu_ne _ _ (by decide)] : V5 30 = V4 30).trans f4_30
  have f5_31 : V5 31 = py := (by rw [eV5, iu_ne _ _ (by decide)] : V5 31 = V4 31).trans f4_31
  have f5_32 : V5 32 = pz := (by rw [eV5, iu_ne _ _ (by decide)] : V5 32 = V4 32).trans f4_32
  have f5_33 : V5 33 = qx := (by rw [eV5, iu_ne _ _ (by decide)] : V5 33 = V4 33).trans f4_33
  have f5_34 : V5 34 = qy := (by rw [eV5, iu_ne _ _ (by decide)] : V5 34 = V4 34).trans f4_34
  have f5_35 : V5 35 = qz := (by rw [eV5, iu_ne _ _ (by decide)] : V5 35 = V4 35).trans f4_35
  have f5_47 : V5 47 = x1 := (by rw [eV5, iu_ne _ _ (by decide)] : V5 47 = V4 47).trans f4_47
  have f5_48 : V5 48 = x2 := (by rw [eV5, iu_ne _ _ (by decide)] : V5 48 = V4 48).trans f4_48
  have f5_45 : V5 45 = x3 := (by rw [eV5, iu_ne _ _ (by decide)] : V5 45 = V4 45).trans f4_45
  have f5_46 : V5 46 = x4 := (by rw [eV5, iu_ne _ _ (by decide)] : V5 46 = V4 46).trans f4_46
  have f5_43 : V5 43 = x5 := by rw [eV5, iu_self]
  have g5 : ∀ q : Int, q < 30 → V5 q = V q := fun q hq => (by rw [eV5, iu_ne _ _ (ne30 hq (by decide))] : V5 q = V4 q).trans (g4 q hq)
  refine z_aload_n K d_M_join_140 rfl ?_
  refine z_bipush (v := jI 50) K d_M_join_141 rfl ?_
  refine z_bipush (v := jI 45) K d_M_join_143 rfl ?_
  refine z_bipush (v := jI 46) K d_M_join_145 rfl ?_
  refine z_iconst (v := jI 1) K d_M_join_147 rfl ?_
  refine z_callV (ci := 0) (As := [.int (jI 50), .int (jI 45), .int (jI 46), .int (jI 1)]) K (w_M_add l G b0 h a cd T5 (v := x3) (w := x4) hV5 (by decide) (by decide) (by decide) (by decide) f5_45 f5_46 b3 b4 (by decide) (by decide)) ca_M_83 im_M_add se_M_add rfl (by decide) hm_0 rfl rfl (rm_ok hRm (by decide) (by decide)) (Nat.le_of_ble_eq_true rfl) d_M_join_148 (fun o h1 hp => ?_)
  obtain ⟨T6, rfl, rfl, hV6, hN6⟩ := hp
  obtain ⟨x6, e6⟩ : ∃ z : Int, z = x3 + x4 := ⟨_, rfl⟩
  rw [Int.one_mul, ← e6] at hV6
  have b6 : lt9 x6 77 := by rw [e6]; have z := lt9_add b3 b4; exact z
  obtain ⟨V6, eV6⟩ : ∃ W : Int → Int, W = iu V5 50 x6 := ⟨_, rfl⟩
  rw [← eV6] at hV6
  have f6_30 : V6 30 = px := (by rw [eV6, iu_ne _ _ (by decide)] : V6 30 = V5 30).trans f5_30
  have f6_31 : V6 31 = py := (by rw [eV6, iu_ne _ _ (by decide)] : V6 31 = V5 31).trans f5_31
  have f6_32 : V6 32 = pz := (by rw [eV6, iu_ne _ _ (by decide)] : V6 32 = V5 32).trans f5_32
  have f6_33 : V6 33 = qx := (by rw [eV6, iu_ne _ _ (by decide)] : V6 33 = V5 33).trans f5_33
  have f6_34 : V6 34 = qy := (by rw [eV6, iu_ne _ _ (by decide)] : V6 34 = V5 34).trans f5_34
  have f6_35 : V6 35 = qz := (by rw [eV6, iu_ne _ _ (by decide)] : V6 35 = V5 35).trans f5_35
  have f6_47 : V6 47 = x1 := (by rw [eV6, iu_ne _ _ (by decide)] : V6 47 = V5 47).trans f5_47
  have f6_48 : V6 48 = x2 := (by rw [eV6, iu_ne _ _ (by decide)] : V6 48 = V5 48).trans f5_48
  have f6_45 : V6 45 = x3 := (by rw [eV6, iu_ne _ _ (by decide)] : V6 45 = V5 45).trans f5_45
  have f6_46 : V6 46 = x4 := (by rw [eV6, iu_ne _ _ (by decide)] : V6 46 = V5 46).trans f5_46
  have f6_43 : V6 43 = x5 := (by rw [eV6, iu_ne _ _ (by decide)] : V6 43 = V5 43).trans f5_43
  have f6_50 : V6 50 = x6 := by rw [eV6, iu_self]
  have g6 : ∀ q : Int, q < 30 → V6 q = V q := fun q hq => (by rw [eV6, iu_ne _ _ (ne30 hq (by decide))] : V6 q = V5 q).trans (g5 q hq)
  refine z_aload_n K d_M_join_151 rfl ?_
  refine z_bipush (v := jI 46) K d_M_join_152 rfl ?_
  refine z_bipush (v := jI 49) K d_M_join_154 rfl ?_
  refine z_callV (ci := 0) (As := [.int (jI 46), .int (jI 49)]) K (w_M_copy l G b0 h a cd T6 (v := x4) hV6 (by decide) (by decide) f6_46) ca_M_40 im_M_copy se_M_copy rfl (by decide) hm_0 rfl rfl (rm_ok hRm (by decide) (by decide)) (Nat.le_of_ble_eq_true rfl) d_M_join_156 (fun o h1 hp => ?_)
  obtain ⟨T7, rfl, rfl, hV7, hN7⟩ := hp
  obtain ⟨V7, eV7⟩ : ∃ W : Int → Int, W = iu V6 49 x4 := ⟨_, rfl⟩
  rw [← eV7] at hV7
  have f7_30 : V7 30 = px := (by rw [eV7, iu_ne _ _ (by decide)] : V7 30 = V6 30).trans f6_30
  have f7_31 : V7 31 = py := (by rw [eV7, iu_ne _ _ (by decide)] : V7 31 = V6 31).trans f6_31
  have f7_32 : V7 32 = pz := (by rw [eV7, iu_ne _ _ (by decide)] : V7 32 = V6 32).trans f6_32
  have f7_33 : V7 33 = qx := (by rw [eV7, iu_ne _ _ (by decide)] : V7 33 = V6 33).trans f6_33
  have f7_34 : V7 34 = qy := (by rw [eV7, iu_ne _ _ (by decide)] : V7 34 = V6 34).trans f6_34
  have f7_35 : V7 35 = qz := (by rw [eV7, iu_ne _ _ (by decide)] : V7 35 = V6 35).trans f6_35
  have f7_47 : V7 47 = x1 := (by rw [eV7, iu_ne _ _ (by decide)] : V7 47 = V6 47).trans f6_47
  have f7_48 : V7 48 = x2 := (by rw [eV7, iu_ne _ _ (by decide)] : V7 48 = V6 48).trans f6_48
  have f7_45 : V7 45 = x3 := (by rw [eV7, iu_ne _ _ (by decide)] : V7 45 = V6 45).trans f6_45
  have f7_46 : V7 46 = x4 := (by rw [eV7, iu_ne _ _ (by decide)] : V7 46 = V6 46).trans f6_46
  have f7_43 : V7 43 = x5 := (by rw [eV7, iu_ne _ _ (by decide)] : V7 43 = V6 43).trans f6_43
  have f7_50 : V7 50 = x6 := (by rw [eV7, iu_ne _ _ (by decide)] : V7 50 = V6 50).trans f6_50
  have f7_49 : V7 49 = x4 := by rw [eV7, iu_self]
  have g7 : ∀ q : Int, q < 30 → V7 q = V q := fun q hq => (by rw [eV7, iu_ne _ _ (ne30 hq (by decide))] : V7 q = V6 q).trans (g6 q hq)
  refine z_aload_n K d_M_join_159 rfl ?_
  refine z_bipush (v := jI 45) K d_M_join_160 rfl ?_
  refine z_bipush (v := jI 47) K d_M_join_162 rfl ?_
  refine z_bipush (v := jI 32) K d_M_join_164 rfl ?_
  refine z_callV (ci := 0) (As := [.int (jI 45), .int (jI 47), .int (jI 32)]) K (w_M_multiply l G b0 h a cd T7 (v := x1) (w := pz) hV7 (by decide) (by decide) (by decide) (by decide) (by decide) f7_47 f7_32 b1 bz (by decide)) ca_M_92 im_M_multiply se_M_multiply rfl (by decide) hm_0 rfl rfl (rm_ok hRm (by decide) (by decide)) (Nat.le_of_ble_eq_true rfl) d_M_join_166 (fun o h1 hp => ?_)
  obtain ⟨T8, rfl, rfl, hV8, hN8⟩ := hp
  obtain ⟨x8, e8⟩ : ∃ z : Int, z = x1 * pz := ⟨_, rfl⟩
  rw [← e8] at hV8
  have b8 : lt9 x8 57 := by rw [e8]; have z := lt9_mul b1 bz; exact z
  obtain ⟨V8, eV8⟩ : ∃ W : Int → Int, W = iu V7 45 x8 := ⟨_, rfl⟩
  rw [← eV8] at hV8
  have f8_30 : V8 30 = px := (by rw [eV8, iu_ne _ _ (by decide)] : V8 30 = V7 30).trans f7_30
  have f8_31 : V8 31 = py := (by rw [eV8, iu_ne _ _ (by decide)] : V8 31 = V7 31).trans f7_31
  have f8_32 : V8 32 = pz := (by rw [eV8, iu_ne _ _ (by decide)] : V8 32 = V7 32).trans f7_32
  have f8_33 : V8 33 = qx := (by rw [eV8, iu_ne _ _ (by decide)] : V8 33 = V7 33).trans f7_33
  have f8_34 : V8 34 = qy := (by rw [eV8, iu_ne _ _ (by decide)] : V8 34 = V7 34).trans f7_34
  have f8_35 : V8 35 = qz := (by rw [eV8, iu_ne _ _ (by decide)] : V8 35 = V7 35).trans f7_35
  have f8_47 : V8 47 = x1 := (by rw [eV8, iu_ne _ _ (by decide)] : V8 47 = V7 47).trans f7_47
  have f8_48 : V8 48 = x2 := (by rw [eV8, iu_ne _ _ (by decide)] : V8 48 = V7 48).trans f7_48
  have f8_46 : V8 46 = x4 := (by rw [eV8, iu_ne _ _ (by decide)] : V8 46 = V7 46).trans f7_46
  have f8_43 : V8 43 = x5 := (by rw [eV8, iu_ne _ _ (by decide)] : V8 43 = V7 43).trans f7_43
  have f8_50 : V8 50 = x6 := (by rw [eV8, iu_ne _ _ (by decide)] : V8 50 = V7 50).trans f7_50
  have f8_49 : V8 49 = x4 := (by rw [eV8, iu_ne _ _ (by decide)] : V8 49 = V7 49).trans f7_49
  have f8_45 : V8 45 = x8 := by rw [eV8, iu_self]
  have g8 : ∀ q : Int, q < 30 → V8 q = V q := fun q hq => (by rw [eV8, iu_ne _ _ (ne30 hq (by decide))] : V8 q = V7 q).trans (g7 q hq)
  refine z_aload_n K d_M_join_169 rfl ?_
  refine z_bipush (v := jI 46) K d_M_join_170 rfl ?_
  refine z_bipush (v := jI 48) K d_M_join_172 rfl ?_
  refine z_bipush (v := jI 35) K d_M_join_174 rfl ?_
  refine z_callV (ci := 0) (As := [.int (jI 46), .int (jI 48), .int (jI 35)]) K (w_M_multiply l G b0 h a cd T8 (v := x2) (w := qz) hV8 (by decide) (by decide) (by decide) (by decide) (by decide) f8_48 f8_35 b2 bqz (by decide)) ca_M_92 im_M_multiply se_M_multiply rfl (by decide) hm_0 rfl rfl (rm_ok hRm (by decide) (by decide)) (Nat.le_of_ble_eq_true rfl) d_M_join_176 (fun o h1 hp => ?_)
  obtain ⟨T9, rfl, rfl, hV9, hN9⟩ := hp
  obtain ⟨x9, e9⟩ : ∃ z : Int, z = x2 * qz := ⟨_, rfl⟩
  rw [← e9] at hV9
  have b9 : lt9 x9 57 := by rw [e9]; have z := lt9_mul b2 bqz; exact z
  obtain ⟨V9, eV9⟩ : ∃ W : Int → Int, W = iu V8 46 x9 := ⟨_, rfl⟩
  rw [← eV9] at hV9
  have f9_30 : V9 30 = px := (by rw [eV9, iu_ne _ _ (by decide)] : V9 30 = V8 30).trans f8_30
  have f9_31 : V9 31 = py := (by rw [eV9, iu_ne _ _ (by decide)] : V9 31 = V8 31).trans f8_31
  have f9_32 : V9 32 = pz := (by rw [eV9, iu_ne _ _ (by decide)] : V9 32 = V8 32).trans f8_32
  have f9_33 : V9 33 = qx := (by rw [eV9, iu_ne _ _ (by decide)] : V9 33 = V8 33).trans f8_33
  have f9_34 : V9 34 = qy := (by rw [eV9, iu_ne _ _ (by decide)] : V9 34 = V8 34).trans f8_34
  have f9_35 : V9 35 = qz := (by rw [eV9, iu_ne _ _ (by decide)] : V9 35 = V8 35).trans f8_35
  have f9_47 : V9 47 = x1 := (by rw [eV9, iu_ne _ _ (by decide)] : V9 47 = V8 47).trans f8_47
  have f9_48 : V9 48 = x2 := (by rw [eV9, iu_ne _ _ (by decide)] : V9 48 = V8 48).trans f8_48
  have f9_43 : V9 43 = x5 := (by rw [eV9, iu_ne _ _ (by decide)] : V9 43 = V8 43).trans f8_43
  have f9_50 : V9 50 = x6 := (by rw [eV9, iu_ne _ _ (by decide)] : V9 50 = V8 50).trans f8_50
  have f9_49 : V9 49 = x4 := (by rw [eV9, iu_ne _ _ (by decide)] : V9 49 = V8 49).trans f8_49
  have f9_45 : V9 45 = x8 := (by rw [eV9, iu_ne _ _ (by decide)] : V9 45 = V8 45).trans f8_45
  have f9_46 : V9 46 = x9 := by rw [eV9, iu_self]
  have g9 : ∀ q : Int, q < 30 → V9 q = V q := fun q hq => (by rw [eV9, iu_ne _ _ (ne30 hq (by decide))] : V9 q = V8 q).trans (g8 q hq)
  refine z_aload_n K d_M_join_179 rfl ?_
  refine z_bipush (v := jI 42) K d_M_join_180 rfl ?_
  refine z_bipush (v := jI 34) K d_M_join_182 rfl ?_
  refine z_bipush (v := jI 45) K d_M_join_184 rfl ?_
  refine z_callV (ci := 0) (As := [.int (jI 42), .int (jI 34), .int (jI 45)]) K (w_M_multiply l G b0 h a cd T9 (v := qy) (w := x8) hV9 (by decide) (by decide) (by decide) (by decide) (by decide) f9_34 f9_45 bqy b8 (by decide)) ca_M_92 im_M_multiply se_M_multiply rfl (by decide) hm_0 rfl rfl (rm_ok hRm (by decide) (by decide)) (Nat.le_of_ble_eq_true rfl) d_M_join_186 (fun o h1 hp => ?_)
  obtain ⟨T10, rfl, rfl, hV10, hN10⟩ := hp
  obtain ⟨x10, e10⟩ : ∃ z : Int, z = qy * x8 := ⟨_, rfl⟩
  rw [← e10] at hV10
  have b10 : lt9 x10 115 := by rw [e10]; have z := lt9_mul bqy b8; exact z
  obtain ⟨V10, eV10⟩ : ∃ W : Int → Int, W = iu V9 42 x10 := ⟨_, rfl⟩
  rw [← eV10] at hV10
  have f10_30 : V10 30 = px := (by rw [eV10, iu_ne _ _ (by decide)] : V10 30 = V9 30).trans f9_30
  have f10_31 : V10 31 = py := (by rw [eV10, iu_ne _ _ (by decide)] : V10 31 = V9 31).trans f9_31
  have f10_32 : V10 32 = pz := (by rw [eV10, iu_ne _ _ (by decide)] : V10 32 = V9 32).trans f9_32
  have f10_33 : V10 33 = qx := (by rw [eV10, iu_ne _ _ (by decide)] : V10 33 = V9 33).trans f9_33
  have f10_34 : V10 34 = qy := (by rw [eV10, iu_ne _ _ (by decide)] : V10 34 = V9 34).trans f9_34
  have f10_35 : V10 35 = qz := (by rw [eV10, iu_ne _ _ (by decide)] : V10 35 = V9 35).trans f9_35
  have f10_47 : V10 47 = x1 := (by rw [eV10, iu_ne _ _ (by decide)] : V10 47 = V9 47).trans f9_47
  have f10_48 : V10 48 = x2 := (by rw [eV10, iu_ne _ _ (by decide)] : V10 48 = V9 48).trans f9_48
  have f10_43 : V10 43 = x5 := (by rw [eV10, iu_ne _ _ (by decide)] : V10 43 = V9 43).trans f9_43
  have f10_50 : V10 50 = x6 := (by rw [eV10, iu_ne _ _ (by decide)] : V10 50 = V9 50).trans f9_50
  have f10_49 : V10 49 = x4 := (by rw [eV10, iu_ne _ _ (by decide)] : V10 49 = V9 49).trans f9_49
  have f10_45 : V10 45 = x8 := (by rw [eV10, iu_ne _ _ (by decide)] : V10 45 = V9 45).trans f9_45
  have f10_46 : V10 46 = x9 := (by rw [eV10, iu_ne _ _ (by decide)] : V10 46 = V9 46).trans f9_46
  have f10_42 : V10 42 = x10 := by rw [eV10, iu_self]
  have g10 : ∀ q : Int, q < 30 → V10 q = V q := fun q hq => (by rw [eV10, iu_ne _ _ (ne30 hq (by decide))] : V10 q = V9 q).trans (g9 q hq)
  refine z_aload_n K d_M_join_189 rfl ?_
  refine z_bipush (v := jI 47) K d_M_join_190 rfl ?_
  refine z_bipush (v := jI 31) K d_M_join_192 rfl ?_
  refine z_bipush (v := jI 46) K d_M_join_194 rfl ?_
  refine z_callV (ci := 0) (As := [.int (jI 47), .int (jI 31), .int (jI 46)]) K (w_M_multiply l G b0 h a cd T10 (v := py) (w := x9) hV10 (by decide) (by decide) (by decide) (by decide) (by decide) f10_31 f10_46 by1 b9 (by decide)) ca_M_92 im_M_multiply se_M_multiply rfl (by decide) hm_0 rfl rfl (rm_ok hRm (by decide) (by decide)) (Nat.le_of_ble_eq_true rfl) d_M_join_196 (fun o h1 hp => ?_)
  obtain ⟨T11, rfl, rfl, hV11, hN11⟩ := hp
  obtain ⟨x11, e11⟩ : ∃ z : Int, z = py * x9 := ⟨_, rfl⟩
  rw [← e11] at hV11
  have b11 : lt9 x11 115 := by rw [e11]; have z := lt9_mul by1 b9; exact z
  obtain ⟨V11, eV11⟩ : ∃ W : Int → Int, W = iu V10 47 x11 := ⟨_, rfl⟩
  rw [← eV11] at hV11
  have f11_30 : V11 30 = px := (by rw [eV11, iu_ne _ _ (by decide)] : V11 30 = V10 30).trans f10_30
  have f11_31 : V11 31 = py := (by rw [eV11, iu_ne _ _ (by decide)] : V11 31 = V10 31).trans f10_31
  have f11_32 : V11 32 = pz := (by rw [eV11, iu_ne _ _ (by decide)] : V11 32 = V10 32).trans f10_32
  have f11_33 : V11 33 = qx := (by rw [eV11, iu_ne _ _ (by decide)] : V11 33 = V10 33).trans f10_33
  have f11_34 : V11 34 = qy := (by rw [eV11, iu_ne _ _ (by decide)] : V11 34 = V10 34).trans f10_34
  have f11_35 : V11 35 = qz := (by rw [eV11, iu_ne _ _ (by decide)] : V11 35 = V10 35).trans f10_35
  have f11_48 : V11 48 = x2 := (by rw [eV11, iu_ne _ _ (by decide)] : V11 48 = V10 48).trans f10_48
  have f11_43 : V11 43 = x5 := (by rw [eV11, iu_ne _ _ (by decide)] : V11 43 = V10 43).trans f10_43
  have f11_50 : V11 50 = x6 := (by rw [eV11, iu_ne _ _ (by decide)] : V11 50 = V10 50).trans f10_50
  have f11_49 : V11 49 = x4 := (by rw [eV11, iu_ne _ _ (by decide)] : V11 49 = V10 49).trans f10_49
  have f11_45 : V11 45 = x8 := (by rw [eV11, iu_ne _ _ (by decide)] : V11 45 = V10 45).trans f10_45
  have f11_46 : V11 46 = x9 := (by rw [eV11, iu_ne _ _ (by decide)] : V11 46 = V10 46).trans f10_46
  have f11_42 : V11 42 = x10 := (by rw [eV11, iu_ne _ _ (by decide)] : V11 42 = V10 42).trans f10_42
  have f11_47 : V11 47 = x11 := by rw [eV11, iu_self]
  have g11 : ∀ q : Int, q < 30 → V11 q = V q := fun q hq => (by rw [eV11, iu_ne _ _ (ne30 hq (by decide))] : V11 q = V10 q).trans (g10 q hq)
  refine z_aload_n K d_M_join_199 rfl ?_
  refine z_bipush (v := jI 42) K d_M_join_200 rfl ?_
  refine z_bipush (v := jI 42) K d_M_join_202 rfl ?_
  refine z_bipush (v := jI 47) K d_M_join_204 rfl ?_
  refine z_iconst (v := jI (-1)) K d_M_join_206 rfl ?_
  refine z_callV (ci := 0) (As := [.int (jI 42), .int (jI 42), .int (jI 47), .int (jI (-1))]) K (w_M_add l G b0 h a cd T11 (v := x10) (w := x11) hV11 (by decide) (by decide) (by decide) (by decide) f11_42 f11_47 b10 b11 (by decide) (by decide)) ca_M_83 im_M_add se_M_add rfl (by decide) hm_0 rfl rfl (rm_ok hRm (by decide) (by decide)) (Nat.le_of_ble_eq_true rfl) d_M_join_207 (fun o h1 hp => ?_)
  obtain ⟨T12, rfl, rfl, hV12, hN12⟩ := hp
  obtain ⟨x12, e12⟩ : ∃ z : Int, z = x10 - x11 := ⟨_, rfl⟩
  rw [Int.neg_mul, Int.one_mul, ← Int.sub_eq_add_neg, ← e12] at hV12
  have b12 : lt9 x12 116 := by rw [e12]; have z := lt9_sub b10 b11; exact z
  obtain ⟨V12, eV12⟩ : ∃ W : Int → Int, W = iu V11 42 x12 := ⟨_, rfl⟩
  rw [← eV12] at hV12
  have f12_30 : V12 30 = px := (by rw [eV12, iu_ne _ _ (by decide)] : V12 30 = V11 30).trans f11_30
  have f12_31 : V12 31 = py := (by rw [eV12, iu_ne _ _ (by decide)] : V12 31 = V11 31).trans f11_31
  have f12_32 : V12 32 = pz := (by rw [eV12, iu_ne _ _ (by decide)] : V12 32 = V11 32).trans f11_32
  have f12_33 : V12 33 = qx := (by rw [eV12, iu_ne _ _ (by decide)] : V12 33 = V11 33).trans f11_33
  have f12_34 : V12 34 = qy := (by rw [eV12, iu_ne _ _ (by decide)] : V12 34 = V11 34).trans f11_34
  have f12_35 : V12 35 = qz := (by rw [eV12, iu_ne _ _ (by decide)] : V12 35 = V11 35).trans f11_35
  have f12_48 : V12 48 = x2 := (by rw [eV12, iu_ne _ _ (by decide)] : V12 48 = V11 48).trans f11_48
  have f12_43 : V12 43 = x5 := (by rw [eV12, iu_ne _ _ (by decide)] : V12 43 = V11 43).trans f11_43
  have f12_50 : V12 50 = x6 := (by rw [eV12, iu_ne _ _ (by decide)] : V12 50 = V11 50).trans f11_50
  have f12_49 : V12 49 = x4 := (by rw [eV12, iu_ne _ _ (by decide)] : V12 49 = V11 49).trans f11_49
  have f12_45 : V12 45 = x8 := (by rw [eV12, iu_ne _ _ (by decide)] : V12 45 = V11 45).trans f11_45
  have f12_46 : V12 46 = x9 := (by rw [eV12, iu_ne _ _ (by decide)] : V12 46 = V11 46).trans f11_46
  have f12_47 : V12 47 = x11 := (by rw [eV12, iu_ne _ _ (by decide)] : V12 47 = V11 47).trans f11_47
  have f12_42 : V12 42 = x12 := by rw [eV12, iu_self]
  have g12 : ∀ q : Int, q < 30 → V12 q = V q := fun q hq => (by rw [eV12, iu_ne _ _ (ne30 hq (by decide))] : V12 q = V11 q).trans (g11 q hq)
  refine z_aload_n K d_M_join_210 rfl ?_
  refine z_bipush (v := jI 47) K d_M_join_211 rfl ?_
  refine z_bipush (v := jI 39) K d_M_join_213 rfl ?_
  refine z_callV (ci := 0) (As := [.int (jI 47), .int (jI 39)]) K (w_M_copy l G b0 h a cd T12 (v := x11) hV12 (by decide) (by decide) f12_47) ca_M_40 im_M_copy se_M_copy rfl (by decide) hm_0 rfl rfl (rm_ok hRm (by decide) (by decide)) (Nat.le_of_ble_eq_true rfl) d_M_join_215 (fun o h1 hp => ?_)
  obtain ⟨T13, rfl, rfl, hV13, hN13⟩ := hp
  obtain ⟨V13, eV13⟩ : ∃ W : Int → Int, W = iu V12 39 x11 := ⟨_, rfl⟩
  rw [← eV13] at hV13
  have f13_30 : V13 30 = px := (by rw [eV13, iu_ne _ _ (by decide)] : V13 30 = V12 30).trans f12_30
  have f13_31 : V13 31 = py := (by rw [eV13, iu_ne _ _ (by decide)] : V13 31 = V12 31).trans f12_31
  have f13_32 : V13 32 = pz := (by rw [eV13, iu_ne _ _ (by decide)] : V13 32 = V12 32).trans f12_32
  have f13_33 : V13 33 = qx := (by rw [eV13, iu_ne _ _ (by decide)] : V13 33 = V12 33).trans f12_33
  have f13_34 : V13 34 = qy := (by rw [eV13, iu_ne _ _ (by decide)] : V13 34 = V12 34).trans f12_34
  have f13_35 : V13 35 = qz := (by rw [eV13, iu_ne _ _ (by decide)] : V13 35 = V12 35).trans f12_35
  have f13_48 : V13 48 = x2 := (by rw [eV13, iu_ne _ _ (by decide)] : V13 48 = V12 48).trans f12_48
  have f13_43 : V13 43 = x5 := (by rw [eV13, iu_ne _ _ (by decide)] : V13 43 = V12 43).trans f12_43
  have f13_50 : V13 50 = x6 := (by rw [eV13, iu_ne _ _ (by decide)] : V13 50 = V12 50).trans f12_50
  have f13_49 : V13 49 = x4 := (by rw [eV13, iu_ne _ _ (by decide)] : V13 49 = V12 49).trans f12_49
  have f13_45 : V13 45 = x8 := (by rw [eV13, iu_ne _ _ (by decide)] : V13 45 = V12 45).trans f12_45
  have f13_46 : V13 46 = x9 := (by rw [eV13, iu_ne _ _ (by decide)] : V13 46 = V12 46).trans f12_46
  have f13_47 : V13 47 = x11 := (by rw [eV13, iu_ne _ _ (by decide)] : V13 47 = V12 47).trans f12_47
  have f13_42 : V13 42 = x12 := (by rw [eV13, iu_ne _ _ (by decide)] : V13 42 = V12 42).trans f12_42
  have f13_39 : V13 39 = x11 := by rw [eV13, iu_self]
  have g13 : ∀ q : Int, q < 30 → V13 q = V q := fun q hq => (by rw [eV13, iu_ne _ _ (ne30 hq (by decide))] : V13 q = V12 q).trans (g12 q hq)
  refine z_aload_n K d_M_join_218 rfl ?_
  refine z_bipush (v := jI 47) K d_M_join_219 rfl ?_
  refine z_bipush (v := jI 32) K d_M_join_221 rfl ?_
  refine z_bipush (v := jI 35) K d_M_join_223 rfl ?_
  refine z_callV (ci := 0) (As := [.int (jI 47), .int (jI 32), .int (jI 35)]) K (w_M_multiply l G b0 h a cd T13 (v := pz) (w := qz) hV13 (by decide) (by decide) (by decide) (by decide) (by decide) f13_32 f13_35 bz bqz (by decide)) ca_M_92 im_M_multiply se_M_multiply rfl (by decide) hm_0 rfl rfl (rm_ok hRm (by decide) (by decide)) (Nat.le_of_ble_eq_true rfl) d_M_join_225 (fun o h1 hp => ?_)
  obtain ⟨T14, rfl, rfl, hV14, hN14⟩ := hp
  obtain ⟨x14, e14⟩ : ∃ z : Int, z = pz * qz := ⟨_, rfl⟩
  rw [← e14] at hV14
  have b14 : lt9 x14 38 := by rw [e14]; have z := lt9_mul bz bqz; exact z
  obtain ⟨V14, eV14⟩ : ∃ W : Int → Int, W = iu V13 47 x14 := ⟨_, rfl⟩
  rw [← eV14] at hV14
  have f14_30 : V14 30 = px := (by rw [eV14, iu_ne _ _ (by decide)] : V14 30 = V13 30).trans f13_30
  have f14_31 : V14 31 = py := (by rw [eV14, iu_ne _ _ (by decide)] : V14 31 = V13 31).trans f13_31
  have f14_32 : V14 32 = pz := (by rw [eV14, iu_ne _ _ (by decide)] : V14 32 = V13 32).trans f13_32
  have f14_33 : V14 33 = qx := (by rw [eV14, iu_ne _ _ (by decide)] : V14 33 = V13 33).trans f13_33
  have f14_34 : V14 34 = qy := (by rw [eV14, iu_ne _ _ (by decide)] : V14 34 = V13 34).trans f13_34
  have f14_35 : V14 35 = qz := (by rw [eV14, iu_ne _ _ (by decide)] : V14 35 = V13 35).trans f13_35
  have f14_48 : V14 48 = x2 := (by rw [eV14, iu_ne _ _ (by decide)] : V14 48 = V13 48).trans f13_48
  have f14_43 : V14 43 = x5 := (by rw [eV14, iu_ne _ _ (by decide)] : V14 43 = V13 43).trans f13_43
  have f14_50 : V14 50 = x6 := (by rw [eV14, iu_ne _ _ (by decide)] : V14 50 = V13 50).trans f13_50
  have f14_49 : V14 49 = x4 := (by rw [eV14, iu_ne _ _ (by decide)] : V14 49 = V13 49).trans f13_49
  have f14_45 : V14 45 = x8 := (by rw [eV14, iu_ne _ _ (by decide)] : V14 45 = V13 45).trans f13_45
  have f14_46 : V14 46 = x9 := (by rw [eV14, iu_ne _ _ (by decide)] : V14 46 = V13 46).trans f13_46
  have f14_42 : V14 42 = x12 := (by rw [eV14, iu_ne _ _ (by decide)] : V14 42 = V13 42).trans f13_42
  have f14_39 : V14 39 = x11 := (by rw [eV14, iu_ne _ _ (by decide)] : V14 39 = V13 39).trans f13_39
  have f14_47 : V14 47 = x14 := by rw [eV14, iu_self]
  have g14 : ∀ q : Int, q < 30 → V14 q = V q := fun q hq => (by rw [eV14, iu_ne _ _ (ne30 hq (by decide))] : V14 q = V13 q).trans (g13 q hq)
  refine z_aload_n K d_M_join_228 rfl ?_
  refine z_bipush (v := jI 44) K d_M_join_229 rfl ?_
  refine z_bipush (v := jI 47) K d_M_join_231 rfl ?_
  refine z_bipush (v := jI 43) K d_M_join_233 rfl ?_
  refine z_callV (ci := 0) (As := [.int (jI 44), .int (jI 47), .int (jI 43)]) K (w_M_multiply l G b0 h a cd T14 (v := x14) (w := x5) hV14 (by decide) (by decide) (by decide) (by decide) (by decide) f14_47 f14_43 b14 b5 (by decide)) ca_M_92 im_M_multiply se_M_multiply rfl (by decide) hm_0 rfl rfl (rm_ok hRm (by decide) (by decide)) (Nat.le_of_ble_eq_true rfl) d_M_join_235 (fun o h1 hp => ?_)
  obtain ⟨T15, rfl, rfl, hV15, hN15⟩ := hp
  obtain ⟨x15, e15⟩ : ∃ z : Int, z = x14 * x5 := ⟨_, rfl⟩
  rw [← e15] at hV15
  have b15 : lt9 x15 115 := by rw [e15]; have z := lt9_mul b14 b5; exact z
  obtain ⟨V15, eV15⟩ : ∃ W : Int → Int, W = iu V14 44 x15 := ⟨_, rfl⟩
  rw [← eV15] at hV15
  have f15_30 : V15 30 = px := (by rw [eV15, iu_ne _ _ (by decide)] : V15 30 = V14 30).trans f14_30
  have f15_31 : V15 31 = py := (by rw [eV15, iu_ne _ _ (by decide)] : V15 31 = V14 31).trans f14_31
  have f15_32 : V15 32 = pz := (by rw [eV15, iu_ne _ _ (by decide)] : V15 32 = V14 32).trans f14_32
  have f15_33 : V15 33 = qx := (by rw [eV15, iu_ne _ _ (by decide)] : V15 33 = V14 33).trans f14_33
  have f15_34 : V15 34 = qy := (by rw [eV15, iu_ne _ _ (by decide)] : V15 34 = V14 34).trans f14_34
  have f15_35 : V15 35 = qz := (by rw [eV15, iu_ne _ _ (by decide)] : V15 35 = V14 35).trans f14_35
  have f15_48 : V15 48 = x2 := (by rw [eV15, iu_ne _ _ (by decide)] : V15 48 = V14 48).trans f14_48
  have f15_43 : V15 43 = x5 := (by rw [eV15, iu_ne _ _ (by decide)] : V15 43 = V14 43).trans f14_43
  have f15_50 : V15 50 = x6 := (by rw [eV15, iu_ne _ _ (by decide)] : V15 50 = V14 50).trans f14_50
  have f15_49 : V15 49 = x4 := (by rw [eV15, iu_ne _ _ (by decide)] : V15 49 = V14 49).trans f14_49
  have f15_45 : V15 45 = x8 := (by rw [eV15, iu_ne _ _ (by decide)] : V15 45 = V14 45).trans f14_45
  have f15_46 : V15 46 = x9 := (by rw [eV15, iu_ne _ _ (by decide)] : V15 46 = V14 46).trans f14_46
  have f15_42 : V15 42 = x12 := (by rw [eV15, iu_ne _ _ (by decide)] : V15 42 = V14 42).trans f14_42
  have f15_39 : V15 39 = x11 := (by rw [eV15, iu_ne _ _ (by decide)] : V15 39 = V14 39).trans f14_39
  have f15_47 : V15 47 = x14 := (by rw [eV15, iu_ne _ _ (by decide)] : V15 47 = V14 47).trans f14_47
  have f15_44 : V15 44 = x15 := by rw [eV15, iu_self]
  have g15 : ∀ q : Int, q < 30 → V15 q = V q := fun q hq => (by rw [eV15, iu_ne _ _ (ne30 hq (by decide))] : V15 q = V14 q).trans (g14 q hq)
  have s43 : x5 = cD px pz qx qz := by
    simp only [e5, e3, e1, e4, e2, cD]
    try grind
  have s42 : x12 = cN py pz qy qz := by
    simp only [e12, e10, e8, e1, e11, e9, e2, cN]
    try grind
  have s44 : x15 = pz * qz * cD px pz qx qz := by
    simp only [e15, e14, e5, e3, e1, e4, e2, cD]
    try grind
  have s50 : x6 = qx * (pz * pz) + px * (qz * qz) := by
    simp only [e6, e3, e1, e4, e2]
    try grind
  have s49 : x4 = px * (qz * qz) := by
    simp only [e4, e2]
    try grind
  have s39 : x11 = py * (qz * qz * qz) := by
    simp only [e11, e9, e2]
    try grind
  refine z_aload_n K d_M_join_238 rfl ?_
  refine z_callV (ci := 0) (As := []) K (v_M_finish l G b0 h a cd T15 (V := V15) (dd := (cD px pz qx qz)) (nn := (cN py pz qy qz)) (ww := (pz * qz * cD px pz qx qz)) (ss := (qx * (pz * pz) + px * (qz * qz))) (vv := (px * (qz * qz))) (kk := (py * (qz * qz * qz))) hV15 ((g15 24 (by decide)).trans cA1) ((g15 25 (by decide)).trans cA2) ((g15 26 (by decide)).trans cA3) ((g15 27 (by decide)).trans cA4) ((g15 28 (by decide)).trans cA6) bA1 bA2 bA3 bA4 bA6 (f15_43.trans s43) (f15_42.trans s42) (f15_44.trans s44) (f15_50.trans s50) (f15_49.trans s49) (f15_39.trans s39) (s43 ▸ lt9_mono b5 (by decide)) (s42 ▸ lt9_mono b12 (by decide)) (s44 ▸ lt9_mono b15 (by decide)) (s50 ▸ lt9_mono b6 (by decide)) (s49 ▸ lt9_mono b4 (by decide)) (s39 ▸ lt9_mono b11 (by decide)) hw0) ca_M_125 im_M_finish se_M_finish rfl (by decide) hm_0 rfl rfl (rm_ok hRm (by decide) (by decide)) (Nat.le_of_ble_eq_true rfl) d_M_join_239 (fun o h1 hp => ?_)
  obtain ⟨TT, rfl, rfl, ⟨V9, q1, q2, q3, q4, q5⟩, q6⟩ := hp
  exact hx TT V9 q1 (fun q hq => (q2 q hq).trans (g15 q hq)) q3 q4 q5 (by rw [q6, (hN15.trans (hN14.trans (hN13.trans (hN12.trans (hN11.trans (hN10.trans (hN9.trans (hN8.trans (hN7.trans (hN6.trans (hN5.trans (hN4.trans (hN3.trans (hN2.trans (hN1.trans rfl)))))))))))))))])
end M18
end
section
theorem PtAt.bit {V N : Int → Int} {b : Int} {o : Option (Int × Int × Int)} (h : PtAt V N b o) : N b = 0 ∨ N b = 1 := by
  cases o with
  | none => exact Or.inr h
  | some p => exact Or.inl h.1
/-- a point that was moved -/
theorem PtAt.mv {V V' N N' : Int → Int} {f t : Int} {o : Option (Int × Int × Int)} (h : PtAt V N f o) (h1 : N f = 0 → V' t = V f ∧ V' (t + 1) = V (f + 1) ∧ V' (t + 2) = V (f + 2)) (h2 : N' t = N f) : PtAt V' N' t o := by
  cases o with
  | none => exact h2.trans h
  | some p =>
    obtain ⟨x, y, z⟩ := p
    obtain ⟨a1, a2, a3, a4⟩ := h
    obtain ⟨b1, b2, b3⟩ := h1 a1
    exact ⟨h2.trans a1, b1.trans a2, b2.trans a3, b3.trans a4⟩
section M19
variable {p : Program} {l : Launch} {e : Env} {R : Room} {s : State} {m : MethodId} {args : Array Value} {below : List Frame} {meth : Method} {c : Code} {Q : State → Prop} {b0 kc ks : Nat} {G : zG} {h : zH} {a : Nat} {cd : Int}
set_option maxHeartbeats 4000000 in
set_option maxRecDepth 100000 in
/-- join(): the point at 36 is the sum of those at 30 and 33 -/
theorem v_M_join (l : Launch) (G : zG) (b0 : Nat) (h : zH) (a : Nat) (cd : Int) (T : mT) {V : Int → Int} {A1 A2 A3 A4 A6 : Int} (hV : RV T V) (cA1 : V 24 = A1) (cA2 : V 25 = A2) (cA3 : V 26 = A3) (cA4 : V 27 = A4) (cA6 : V 28 = A6) (bA1 : lt9 A1 1) (bA2 : lt9 A2 1) (bA3 : lt9 A3 1) (bA4 : lt9 A4 1) (bA6 : lt9 A6 1) (P Q : Option (Int × Int × Int)) (hP : PtAt V T.2.2.2 30 P) (hQ : PtAt V T.2.2.2 33 Q) (cP : capJ P) (cQ : capJ Q)
    (hch : ∀ x1 y1 z1 x2 y2 z2 : Int, P = some (x1, y1, z1) → Q = some (x2, y2, z2) → ¬ (x1 = x2 ∧ z1 = z2) → cD x1 z1 x2 z2 ≠ 0) (hto : ∀ x1 y1 z1 y2 : Int, P = some (x1, y1, z1) → Q = some (x1, y2, z1) → y1 + y2 + A1 * x1 * z1 + A3 * (z1 * z1) * z1 ≠ 0 → tD A1 A3 x1 y1 z1 ≠ 0) :
    mMet l G b0 y_M_join b_M_join 1 none 6 143 h a cd [] T (fun o T' => o = none ∧ ∃ V' : Int → Int, RV T' V' ∧ (∀ q : Int, q < 30 → V' q = V q) ∧ PtAt V' T'.2.2.2 36 (jn A1 A2 A3 A4 P Q) ∧ ∀ q : Int, q ≠ 36 → T'.2.2.2 q = T.2.2.2 q) :=
  z_met (by decide) (Nat.le_of_ble_eq_true rfl) fun p e s m below meth c K hr hlk hnm => by
  have hQb := hQ.bit
  match P, Q, hP, hQ, cP, cQ, hch, hto with
  | none, Q, hP, hQ, _, _, _, _ =>
    have hP1 : T.2.2.2 30 = 1 := hP
    refine z_aload_n K d_M_join_0 rfl ?_
    refine zm_get K fd_M_19 rfl d_M_join_1 ?_
    refine z_bipush (v := jI 30) K d_M_join_4 rfl ?_
    refine zm_nld K (by omega) d_M_join_6 ?_
    rw [hP1]
    refine zi_if_ne (tgt := 20) K d_M_join_7 (by decide) (by decide) (fun _ => ?_) (fun hc => absurd hc (by decide))
    refine z_aload_n K d_M_join_20 rfl ?_
    refine z_aload_n K d_M_join_21 rfl ?_
    refine zm_get K fd_M_19 rfl d_M_join_22 ?_
    refine z_bipush (v := jI 30) K d_M_join_25 rfl ?_
    refine zm_nld K (by omega) d_M_join_27 ?_
    rw [hP1]
    refine zi_if_eq (tgt := 36) K d_M_join_28 (by decide) (by decide) (fun hc => absurd hc (by decide)) (fun _ => ?_)
    refine z_bipush (v := jI 33) K d_M_join_31 rfl ?_
    refine z_goto (tgt := 38) K d_M_join_33 (by decide) ?_
    refine z_bipush (v := jI 36) K d_M_join_38 rfl ?_
    refine z_callV (ci := 0) (As := [.int (jI 33), .int (jI 36)]) K (v_M_move l G b0 h a cd T hV (by decide) (by decide) (by decide) hQb) ca_M_112 im_M_move se_M_move rfl (by decide) hm_0 rfl rfl (by decide) (Nat.le_of_ble_eq_true rfl) d_M_join_40 (fun o h1 hp => ?_)
    obtain ⟨T1, rfl, rfl, ⟨V1, q1, q2, q3⟩, q4⟩ := hp
    refine z_vret K hr hlk d_M_join_43 ⟨_, rfl, rfl, V1, q1, fun q hq => q3 q (by omega), hQ.mv q2 (by rw [q4, iu_self]), fun q hq => by rw [q4, iu_ne _ _ hq]⟩
  | some (x1, y1, z1), none, hP, hQ, _, _, _, _ =>
    have hP1 : T.2.2.2 30 = 0 := hP.1
    have hQ1 : T.2.2.2 33 = 1 := hQ
    refine z_aload_n K d_M_join_0 rfl ?_
    refine zm_get K fd_M_19 rfl d_M_join_1 ?_
    refine z_bipush (v := jI 30) K d_M_join_4 rfl ?_
    refine zm_nld K (by omega) d_M_join_6 ?_
    rw [hP1]
    refine zi_if_ne (tgt := 20) K d_M_join_7 (by decide) (by decide) (fun hc => absurd rfl hc) (fun _ => ?_)
    refine z_aload_n K d_M_join_10 rfl ?_
    refine zm_get K fd_M_19 rfl d_M_join_11 ?_
    refine z_bipush (v := jI 33) K d_M_join_14 rfl ?_
    refine zm_nld K (by omega) d_M_join_16 ?_
    rw [hQ1]
    refine zi_if_eq (tgt := 44) K d_M_join_17 (by decide) (by decide) (fun hc => absurd hc (by decide)) (fun _ => ?_)
    refine z_aload_n K d_M_join_20 rfl ?_
    refine z_aload_n K d_M_join_21 rfl ?_
    refine zm_get K fd_M_19 rfl d_M_join_22 ?_
    refine z_bipush (v := jI 30) K d_M_join_25 rfl ?_
    refine zm_nld K (by omega) d_M_join_27 ?_
    rw [hP1]
    refine zi_if_eq (tgt := 36) K d_M_join_28 (by decide) (by decide) (fun _ => ?_) (fun hc => absurd rfl hc)
    refine z_bipush (v := jI 30) K d_M_join_36 rfl ?_
    refine z_bipush (v := jI 36) K d_M_join_38 rfl ?_
    refine z_callV (ci := 0) (As := [.int (jI 30), .int (jI 36)]) K (v_M_move l G b0 h a cd T hV (by decide) (by decide) (by decide) (Or.inl hP1)) ca_M_112 im_M_move se_M_move rfl (by decide) hm_0 rfl rfl (by decide) (Nat.le_of_ble_eq_true rfl) d_M_join_40 (fun o h1 hp => ?_)
    obtain ⟨T1, rfl, rfl, ⟨V1, q1, q2, q3⟩, q4⟩ := hp
    refine z_vret K hr hlk d_M_join_43 ⟨_, rfl, rfl, V1, q1, fun q hq => q3 q (by omega), PtAt.mv (o := some (x1, y1, z1)) hP q2 (by rw [q4, iu_self]), fun q hq => by rw [q4, iu_ne _ _ hq]⟩
  | some (x1, y1, z1), some (x2, y2, z2), hP, hQ, cP, cQ, hch, hto =>
    obtain ⟨hP1, fx, fy, fz⟩ := hP
    obtain ⟨hQ1, fqx, fqy, fqz⟩ := hQ
    obtain ⟨bx, by1, bz, nz⟩ := cP
    obtain ⟨bqx, bqy, bqz, nqz⟩ := cQ
    have fy : V 31 = y1 := fy
    have fz : V 32 = z1 := fz
    have fqy : V 34 = y2 := fqy
    have fqz : V 35 = z2 := fqz
    refine z_aload_n K d_M_join_0 rfl ?_
    refine zm_get K fd_M_19 rfl d_M_join_1 ?_
    refine z_bipush (v := jI 30) K d_M_join_4 rfl ?_
    refine zm_nld K (by omega) d_M_join_6 ?_
    rw [hP1]
    refine zi_if_ne (tgt := 20) K d_M_join_7 (by decide) (by decide) (fun hc => absurd rfl hc) (fun _ => ?_)
    refine z_aload_n K d_M_join_10 rfl ?_
    refine zm_get K fd_M_19 rfl d_M_join_11 ?_
    refine z_bipush (v := jI 33) K d_M_join_14 rfl ?_
    refine zm_nld K (by omega) d_M_join_16 ?_
    rw [hQ1]
    refine zi_if_eq (tgt := 44) K d_M_join_17 (by decide) (by decide) (fun _ => ?_) (fun hc => absurd rfl hc)
    have chord : ¬ (x1 = x2 ∧ z1 = z2) → zW p l e (zRm 6 143 0 0) s m ([.ref a] : List Value).toArray below meth c 1 b0 G 0 0 (MQ below (zQ G b0 (fun r_1 h' => ∃ T' : mT, h' = hm G h a cd T' ∧ r_1 = none ∧ ∃ V' : Int → Int, RV T' V' ∧ (∀ q : Int, q < 30 → V' q = V q) ∧ PtAt V' T'.2.2.2 36 (jn A1 A2 A3 A4 (some (x1, y1, z1)) (some (x2, y2, z2))) ∧ ∀ q : Int, q ≠ 36 → T'.2.2.2 q = T.2.2.2 q)) ([.ref a] : List Value).toArray s 0 0 (z_A b0)) (hm G h a cd T) 89 [(0, .ref a)] [] := fun hns => by
      have hw0 : z1 * z2 * cD x1 z1 x2 z2 ≠ 0 := Int.mul_ne_zero (Int.mul_ne_zero nz nqz) (hch x1 y1 z1 x2 y2 z2 rfl rfl hns)
      refine t_M_join89 K ⟨Nat.le_refl _, Nat.le_refl _, Nat.le_refl _, Nat.le_refl _⟩ T hV cA1 cA2 cA3 cA4 cA6 bA1 bA2 bA3 bA4 bA6 fx fy fz fqx fqy fqz bx by1 bz bqx bqy bqz hw0 (fun T' V' q1 q2 q3 q4 q5 q6 => ?_)
      refine z_vret K hr hlk d_M_join_242 ⟨_, rfl, rfl, V', q1, q2, ?_, fun q hq => by rw [q6, iu_ne _ _ hq]⟩
      have ej : jn A1 A2 A3 A4 (some (x1, y1, z1)) (some (x2, y2, z2)) = some (fChord A1 A2 A3 x1 y1 z1 x2 y2 z2) := by simp only [jn]; rw [if_neg hns]
      rw [ej]
      exact ⟨by rw [q6, iu_self], q3, q4, q5⟩
    refine z_aload_n K d_M_join_44 rfl ?_
    refine z_bipush (v := jI 30) K d_M_join_45 rfl ?_
    refine z_bipush (v := jI 33) K d_M_join_47 rfl ?_
    refine z_callV (ci := 0) (As := [.int (jI 30), .int (jI 33)]) K (v_M_isSame l G b0 h a cd T hV (by decide) (by decide)) ca_M_105 im_M_isSame se_M_isSame rfl (by decide) hm_0 rfl rfl (by decide) (Nat.le_of_ble_eq_true rfl) d_M_join_49 (fun o h1 hp => ?_)
    obtain ⟨T1, rfl, rfl, rfl⟩ := hp
    rw [fx, fqx]
    by_cases hx12 : x1 = x2
    · rw [if_pos hx12]
      refine zi_if_eq (tgt := 89) K d_M_join_52 (by decide) (by decide) (fun hc => absurd hc (by decide)) (fun _ => ?_)
      refine z_aload_n K d_M_join_55 rfl ?_
      refine z_bipush (v := jI 32) K d_M_join_56 rfl ?_
      refine z_bipush (v := jI 35) K d_M_join_58 rfl ?_
      refine z_callV (ci := 0) (As := [.int (jI 32), .int (jI 35)]) K (v_M_isSame l G b0 h a cd T hV (by decide) (by decide)) ca_M_105 im_M_isSame se_M_isSame rfl (by decide) hm_0 rfl rfl (by decide) (Nat.le_of_ble_eq_true rfl) d_M_join_60 (fun o h1 hp => ?_)
      obtain ⟨T1, rfl, rfl, rfl⟩ := hp
      rw [fz, fqz]
      by_cases hz12 : z1 = z2
      · rw [if_pos hz12]
        subst hx12
        subst hz12
        refine zi_if_eq (tgt := 89) K d_M_join_63 (by decide) (by decide) (fun hc => absurd hc (by decide)) (fun _ => ?_)
        refine z_aload_n K d_M_join_66 rfl ?_
        refine z_callV (ci := 0) (As := []) K (v_M_isOther l G b0 h a cd T hV cA1 cA2 cA3 cA4 cA6 bA1 bA2 bA3 bA4 bA6 fx fy fz fqy bx by1 bz bqy) ca_M_118 im_M_isOther se_M_isOther rfl (by decide) hm_0 rfl rfl (by decide) (Nat.le_of_ble_eq_true rfl) d_M_join_67 (fun o h1 hp => ?_)
        obtain ⟨T1, rfl, rfl, ⟨V1, q1, q2⟩, q3⟩ := hp
        by_cases h0 : y1 + y2 + A1 * x1 * z1 + A3 * (z1 * z1) * z1 = 0
        · rw [if_pos h0]
          refine zi_if_eq (tgt := 84) K d_M_join_70 (by decide) (by decide) (fun hc => absurd hc (by decide)) (fun _ => ?_)
          refine z_aload_n K d_M_join_73 rfl ?_
          refine zm_get K fd_M_19 rfl d_M_join_74 ?_
          refine z_bipush (v := jI 36) K d_M_join_77 rfl ?_
          refine z_iconst (v := jI 1) K d_M_join_79 rfl ?_
          refine zm_nst K (by decide) (Or.inr rfl) d_M_join_80 ?_
          refine z_goto (tgt := 88) K d_M_join_81 (by decide) ?_
          refine z_vret K hr hlk d_M_join_88 ⟨_, rfl, rfl, V1, fun r r0 r1 => q1 r r0 r1, fun q hq => q2 q (by omega), ?_, fun q hq => ?_⟩
          · simp only [jn]
            rw [if_pos ⟨trivial, trivial⟩, if_pos h0]
            exact iu_self _ _ _
          · dsimp only
            rw [iu_ne _ _ hq, q3]
        · rw [if_neg h0]
          refine zi_if_eq (tgt := 84) K d_M_join_70 (by decide) (by decide) (fun _ => ?_) (fun hc => absurd rfl hc)
          refine z_aload_n K d_M_join_84 rfl ?_
          have htd := hto x1 y1 z1 y2 rfl rfl h0
          refine z_callV (ci := 0) (As := []) K (v_M_touch l G b0 h a cd T1 q1 ((q2 24 (by decide)).trans cA1) ((q2 25 (by decide)).trans cA2) ((q2 26 (by decide)).trans cA3) ((q2 27 (by decide)).trans cA4) ((q2 28 (by decide)).trans cA6) bA1 bA2 bA3 bA4 bA6 ((q2 30 (by decide)).trans fx) ((q2 31 (by decide)).trans fy) ((q2 32 (by decide)).trans fz) bx by1 bz (Int.mul_ne_zero nz htd)) ca_M_122 im_M_touch se_M_touch rfl (by decide) hm_0 rfl rfl (by decide) (Nat.le_of_ble_eq_true rfl) d_M_join_85 (fun o h1 hp => ?_)
          obtain ⟨T2, rfl, rfl, ⟨V2, r1, r2, r3, r4, r5⟩, r6⟩ := hp
          refine z_vret K hr hlk d_M_join_88 ⟨_, rfl, rfl, V2, r1, fun q hq => (r2 q hq).trans (q2 q (by omega)), ?_, fun q hq => ?_⟩
          · simp only [jn]
            rw [if_pos ⟨trivial, trivial⟩, if_neg h0]
            exact ⟨by rw [r6, iu_self], r3, r4, r5⟩
          · rw [r6, iu_ne _ _ hq, q3]
      · rw [if_neg hz12]
        refine zi_if_eq (tgt := 89) K d_M_join_63 (by decide) (by decide) (fun _ => ?_) (fun hc => absurd rfl hc)
        exact chord (fun z => hz12 z.2)
    · rw [if_neg hx12]
      refine zi_if_eq (tgt := 89) K d_M_join_52 (by decide) (by decide) (fun _ => ?_) (fun hc => absurd rfl hc)
      exact chord (fun z => hx12 z.1)
end M19
end
section
/-- d is the number of digits of v (0 has one) -/
def IsDg (v : Int) (d : Nat) : Prop := 1 ≤ d ∧ v.natAbs < 10 ^ d ∧ (d = 1 ∨ 10 ^ (d - 1) ≤ v.natAbs)
theorem ten_mono {a b : Nat} (h : a ≤ b) : 10 ^ a ≤ 10 ^ b := Nat.pow_le_pow_right (by decide) h
theorem IsDg.gt {v : Int} {d k : Nat} (h : IsDg v d) (hk : 1 ≤ k) : k < d ↔ 10 ^ k ≤ v.natAbs := by
  obtain ⟨h1, h2, h3⟩ := h
  constructor
  · intro hl
    rcases h3 with h3 | h3
    · omega
    · have := ten_mono (show k ≤ d - 1 by omega)
      omega
  · intro hl
    by_cases q : k < d
    · exact q
    · have := ten_mono (show d ≤ k by omega)
      omega
theorem IsDg.uniq {v : Int} {d e : Nat} (h : IsDg v d) (h' : IsDg v e) : d = e := by
  rcases Nat.lt_trichotomy d e with q | q | q
  · have := (h'.gt h.1).mp q
    have := h.2.1
    omega
  · exact q
  · have := (h.gt h'.1).mp q
    have := h'.2.1
    omega
theorem BS_ten (n : Nat) : BS ^ n = ((10 ^ (9 * n) : Nat) : Int) := by
  rw [Nat.pow_mul, Int.natCast_pow]
  rfl
theorem ten_top {top low : Int} {n t : Nat} (hl0 : 0 ≤ low) (hl : low < BS ^ n) (ht : 1 ≤ t) (h1 : ((10 ^ (t - 1) : Nat) : Int) ≤ top) (h2 : top < ((10 ^ t : Nat) : Int)) : ((10 ^ (9 * n + t - 1) : Nat) : Int) ≤ low + top * BS ^ n ∧ low + top * BS ^ n < ((10 ^ (9 * n + t) : Nat) : Int) := by
  have hp := BS_pos n
  have e1 : ((10 ^ (9 * n + t - 1) : Nat) : Int) = ((10 ^ (t - 1) : Nat) : Int) * BS ^ n := by
    rw [BS_ten, ← Int.natCast_mul, ← Nat.pow_add]
    congr 2
    omega
  have e2 : ((10 ^ (9 * n + t) : Nat) : Int) = ((10 ^ t : Nat) : Int) * BS ^ n := by
    rw [BS_ten, ← Int.natCast_mul, ← Nat.pow_add]
    congr 2
    omega
  rw [e1, e2]
  have h3 : ((10 ^ (t - 1) : Nat) : Int) * BS ^ n ≤ top * BS ^ n := Int.mul_le_mul_of_nonneg_right h1 (Int.le_of_lt hp)
  have h4 : (top + 1) * BS ^ n ≤ ((10 ^ t : Nat) : Int) * BS ^ n := Int.mul_le_mul_of_nonneg_right (by omega) (Int.le_of_lt hp)
  rw [Int.add_mul, Int.one_mul] at h4
  omega
section M20
variable {p : Program} {l : Launch} {e : Env} {R : Room} {s : State} {m : MethodId} {args : Array Value} {below : List Frame} {meth : Method} {c : Code} {Q : State → Prop} {b0 kc ks : Nat} {G : zG} {h : zH} {a : Nat} {cd : Int}
set_option maxHeartbeats 4000000 in
set_option maxRecDepth 100000 in
theorem lp_M_digitsOf (K : zC p s m args c b_M_digitsOf R_M 4 b0 G) (T : mT) {r c0 : Int} {top : Nat} (hc0 : 0 ≤ c0 ∧ c0 < 10000) (htop : top < 10 ^ 9) (hx : ∀ i : Nat, i ≤ 9 → top < 10 ^ i → (i = 0 ∨ 10 ^ (i - 1) ≤ top) → zW p l e R s m args below meth c 4 b0 G kc ks Q (hm G h a cd T) 58 [(0, .ref a), (2, .int (jI (c0 + i)))] []) :
    ∀ (j i : Nat), i + j = 9 → (i = 0 ∨ 10 ^ (i - 1) ≤ top) → zW p l e R s m args below meth c 4 b0 G kc ks Q (hm G h a cd T) 43 [(0, .ref a), (1, .int (jI r)), (2, .int (jI (c0 + i))), (3, .int (jI (top / 10 ^ i : Nat)))] [] := by
  intro j
  induction j with
  | zero =>
    intro i hi hq
    have hi9 : i = 9 := by omega
    subst hi9
    have h0 : top / 10 ^ 9 = 0 := Nat.div_eq_of_lt htop
    rw [h0]
    refine z_iload_n K d_M_digitsOf_43 rfl ?_
    refine zi_if_le (tgt := 58) K d_M_digitsOf_44 (by decide) (by decide) (fun hc => ?_) (fun hc => absurd hc (by decide))
    exact z_re [0, 2] rfl (hx 9 (by omega) htop hq)
  | succ j ih =>
    intro i hi hq
    have hle : top / 10 ^ i ≤ top := Nat.div_le_self _ _
    have hdd : top / 10 ^ (i + 1) = top / 10 ^ i / 10 := by rw [Nat.pow_succ, ← Nat.div_div_eq_div_mul]
    have hz0 : top / 10 ^ i = 0 → top < 10 ^ i := fun h0 => by
      rcases (Nat.div_eq_zero_iff.mp h0) with z | z
      · exact absurd z (Nat.pos_iff_ne_zero.mp (Nat.pow_pos (by decide)))
      · exact z
    have hz1 : top / 10 ^ i ≠ 0 → 10 ^ i ≤ top := fun h0 => by
      by_cases z : 10 ^ i ≤ top
      · exact z
      · exact absurd (Nat.div_eq_of_lt (by omega)) h0
    have ih2 := fun hq2 => ih (i + 1) (by omega) hq2
    rw [hdd] at ih2
    generalize top / 10 ^ i = w at hle hz0 hz1 ih2 ⊢
    have h9 : (10 : Nat) ^ 9 = 1000000000 := by decide
    refine z_iload_n K d_M_digitsOf_43 rfl ?_
    refine zi_if_le (tgt := 58) K d_M_digitsOf_44 (by decide) (by omega) (fun hc => ?_) (fun hc => ?_)
    · exact z_re [0, 2] rfl (hx i (by omega) (hz0 (by omega)) hq)
    · refine zi_iinc K d_M_digitsOf_47 rfl (by decide) ?_
      refine z_iload_n K d_M_digitsOf_50 rfl ?_
      refine z_bipush (v := jI 10) K d_M_digitsOf_51 rfl ?_
      refine zi_idiv K d_M_digitsOf_53 (by omega) (by omega) (by omega) ?_
      refine z_istore_n K d_M_digitsOf_54 (by decide) ?_
      refine z_goto (tgt := 43) K d_M_digitsOf_55 (by decide) ?_
      rw [tdiv_pos (by omega), show (w : Int) / 10 = ((w / 10 : Nat) : Int) by omega, show c0 + (i : Int) + 1 = c0 + ((i + 1 : Nat) : Int) by omega]
      refine z_re [0, 1, 2, 3] rfl ?_
      exact ih2 (Or.inr (by simpa using hz1 (by omega)))
set_option maxHeartbeats 4000000 in
set_option maxRecDepth 100000 in
theorem lp_M_digitsOf0 (K : zC p s m args c b_M_digitsOf R_M 4 b0 G) (T : mT) {r c0 : Int} {top : Nat} (hc0 : 0 ≤ c0 ∧ c0 < 10000) (htop : top < 10 ^ 9) (hx : ∀ i : Nat, i ≤ 9 → top < 10 ^ i → (i = 0 ∨ 10 ^ (i - 1) ≤ top) → zW p l e R s m args below meth c 4 b0 G kc ks Q (hm G h a cd T) 58 [(0, .ref a), (2, .int (jI (c0 + i)))] []) :
    zW p l e R s m args below meth c 4 b0 G kc ks Q (hm G h a cd T) 43 [(0, .ref a), (1, .int (jI r)), (2, .int (jI c0)), (3, .int (jI top))] [] := by
  have := lp_M_digitsOf (r := r) K T hc0 htop hx 9 0 rfl (Or.inl rfl)
  rwa [Nat.pow_zero, Nat.div_one, Int.natCast_zero, Int.add_zero] at this
set_option maxHeartbeats 4000000 in
set_option maxRecDepth 100000 in
/-- digitsOf(r): how many digits its number has -/
theorem c_M_digitsOf (l : Launch) (G : zG) (b0 : Nat) (h : zH) (a : Nat) (cd : Int) (T : mT) {r v : Int} {n : Nat} (hr0 : 0 ≤ r ∧ r < 56) (hv : Rg T r n v) : mMet l G b0 y_M_digitsOf b_M_digitsOf 4 (some .int) 0 0 h a cd [.int (jI r)] T (fun o T' => T = T' ∧ ∃ d : Nat, o = some (.int (jI d)) ∧ IsDg v d ∧ d < 10000) :=
  z_met (by decide) (Nat.le_of_ble_eq_true rfl) fun p e s m below meth c K hr hlk hnm => by
  have hn := hv.2.1
  refine z_aload_n K d_M_digitsOf_0 rfl ?_
  refine zm_get K fd_M_13 rfl d_M_digitsOf_1 ?_
  refine z_iload_n K d_M_digitsOf_4 rfl ?_
  refine zm_zld K (by omega) d_M_digitsOf_5 ?_
  rw [hv.1]
  refine zi_if_ne (tgt := 11) K d_M_digitsOf_6 (by decide) (by omega) (fun hc => ?_) (fun hc => ?_)
  · obtain ⟨t, rfl⟩ : ∃ t, n = t + 1 := ⟨n - 1, by omega⟩
    have hg := hv.2.2.1 t (by omega)
    have hz := hv.2.2.2.1 t rfl
    obtain ⟨top, htop⟩ : ∃ m : Nat, T.1 (460 * r + t) = m := ⟨(T.1 (460 * r + t)).toNat, by omega⟩
    rw [htop] at hg hz
    refine z_bipush (v := jI 9) K d_M_digitsOf_11 rfl ?_
    refine z_aload_n K d_M_digitsOf_13 rfl ?_
    refine zm_get K fd_M_13 rfl d_M_digitsOf_14 ?_
    refine z_iload_n K d_M_digitsOf_17 rfl ?_
    refine zm_zld K (by omega) d_M_digitsOf_18 ?_
    rw [hv.1]
    refine z_iconst (v := jI 1) K d_M_digitsOf_19 rfl ?_
    refine zi_isub K d_M_digitsOf_20 ?_
    refine zi_imul K d_M_digitsOf_21 ?_
    refine z_istore_n K d_M_digitsOf_22 (by decide) ?_
    refine z_aload_n K d_M_digitsOf_23 rfl ?_
    refine zm_get K fd_M_9 rfl d_M_digitsOf_24 ?_
    refine z_sipush (v := jI 460) K d_M_digitsOf_27 rfl ?_
    refine z_iload_n K d_M_digitsOf_30 rfl ?_
    refine zi_imul K d_M_digitsOf_31 ?_
    refine z_aload_n K d_M_digitsOf_32 rfl ?_
    refine zm_get K fd_M_13 rfl d_M_digitsOf_33 ?_
    refine z_iload_n K d_M_digitsOf_36 rfl ?_
    refine zm_zld K (by omega) d_M_digitsOf_37 ?_
    rw [hv.1]
    refine zi_iadd K d_M_digitsOf_38 ?_
    refine z_iconst (v := jI 1) K d_M_digitsOf_39 rfl ?_
    refine zi_isub K d_M_digitsOf_40 ?_
    rw [show 460 * r + ((t + 1 : Nat) : Int) - 1 = 460 * r + t by omega, show 9 * (((t + 1 : Nat) : Int) - 1) = ((9 * t : Nat) : Int) by omega]
    refine zm_cld K (by omega) d_M_digitsOf_41 ?_
    rw [htop]
    refine z_istore_n K d_M_digitsOf_42 (by decide) ?_
    have h9 : (10 : Nat) ^ 9 = 1000000000 := by decide
    refine z_re [0, 1, 2, 3] rfl (lp_M_digitsOf0 K T (by omega) (by omega) (fun i hi h1 h2 => ?_))
    refine z_iload_n K d_M_digitsOf_58 rfl ?_
    · have hi1 : 1 ≤ i := by
        rcases h2 with h2 | h2
        · subst h2
          rw [Nat.pow_zero] at h1
          omega
        · by_cases z : 1 ≤ i
          · exact z
          · have : i = 0 := by omega
            subst this
            rw [Nat.pow_zero] at h1
            omega
      have h3 : 10 ^ (i - 1) ≤ top := by
        rcases h2 with h2 | h2
        · omega
        · exact h2
      have hlow := dv_bd (f := T.1) (b := 460 * r) (n := t) (fun k hk => hv.2.2.1 k (by omega))
      have htt := ten_top (top := top) hlow.1 hlow.2 hi1 (by exact_mod_cast h3) (by exact_mod_cast h1)
      rw [← htop, ← dv_hi, ← hv.2.2.2.2.2] at htt
      rw [show ((9 * t : Nat) : Int) + (i : Int) = ((9 * t + i : Nat) : Int) by omega]
      exact z_iret K hr hlk d_M_digitsOf_59 ⟨_, rfl, rfl, 9 * t + i, rfl, ⟨by omega, by exact_mod_cast htt.2, Or.inr (by exact_mod_cast htt.1)⟩, by omega⟩
  · have hv0 : v = 0 := hv.zero.mp (by omega)
    refine z_iconst (v := jI 1) K d_M_digitsOf_9 rfl ?_
    exact z_iret K hr hlk d_M_digitsOf_10 ⟨_, rfl, rfl, 1, rfl, ⟨by decide, by rw [hv0]; decide, Or.inl rfl⟩, by decide⟩
end M20
end
section
/-- the opposite point -/
def ngP (A1 A3 : Int) : Option (Int × Int × Int) → Option (Int × Int × Int)
  | none => none
  | some (x, y, z) => some (x, -(y + A1 * x * z + A3 * (z * z) * z), z)
def tlP : Option (Int × Int × Int) → Prop
  | none => False
  | some (x, y, z) => 10 ^ 120 ≤ x.natAbs ∨ 10 ^ 120 ≤ y.natAbs ∨ 10 ^ 120 ≤ (z * z * z).natAbs
def farP : Option (Int × Int × Int) → Prop
  | none => False
  | some (x, _, z) => 10 ^ 340 ≤ x.natAbs ∨ 10 ^ 340 ≤ (z * z).natAbs
theorem RV.dig {T : mT} {V : Int → Int} (l : Launch) (G : zG) (b0 : Nat) (h : zH) (a : Nat) (cd : Int) {r v : Int} (hV : RV T V) (hr0 : 0 ≤ r ∧ r < 56) (hv : V r = v) : mMet l G b0 y_M_digitsOf b_M_digitsOf 4 (some .int) 0 0 h a cd [.int (jI r)] T (fun o T' => T = T' ∧ ∃ d : Nat, o = some (.int (jI d)) ∧ IsDg v d ∧ d < 10000) := by
  obtain ⟨n, hn⟩ := hV r hr0.1 hr0.2
  rw [hv] at hn
  exact c_M_digitsOf l G b0 h a cd T hr0 hn
section M21
variable {p : Program} {l : Launch} {e : Env} {R : Room} {s : State} {m : MethodId} {args : Array Value} {below : List Frame} {meth : Method} {c : Code} {Q : State → Prop} {b0 kc ks : Nat} {G : zG} {h : zH} {a : Nat} {cd : Int}
set_option maxHeartbeats 4000000 in
set_option maxRecDepth 100000 in
/-- isTooLong(r) -/
theorem v_M_isTooLong (l : Launch) (G : zG) (b0 : Nat) (h : zH) (a : Nat) (cd : Int) (T : mT) {V : Int → Int} {r : Int} (P : Option (Int × Int × Int)) (hV : RV T V) (hr0 : 0 ≤ r ∧ r < 42) (hP : PtAt V T.2.2.2 r P) (cP : capJ P) :
    mMet l G b0 y_M_isTooLong b_M_isTooLong 2 (some .boolean) 2 55 h a cd [.int (jI r)] T (fun o T' => (∃ b : Int, o = some (.int (jI b)) ∧ (b = 0 ∨ b = 1) ∧ (b = 1 ↔ tlP P)) ∧ (∃ V' : Int → Int, RV T' V' ∧ ∀ q : Int, q < 44 → V' q = V q) ∧ T'.2.2.2 = T.2.2.2) :=
  z_met (by decide) (Nat.le_of_ble_eq_true rfl) fun p e s m below meth c K hr hlk hnm => by
  match P, hP, cP with
  | none, hP, _ =>
    have hP1 : T.2.2.2 r = 1 := hP
    refine z_aload_n K d_M_isTooLong_0 rfl ?_
    refine zm_get K fd_M_19 rfl d_M_isTooLong_1 ?_
    refine z_iload_n K d_M_isTooLong_4 rfl ?_
    refine zm_nld K (by omega) d_M_isTooLong_5 ?_
    rw [hP1]
    refine zi_if_eq (tgt := 11) K d_M_isTooLong_6 (by decide) (by decide) (fun hc => absurd hc (by decide)) (fun _ => ?_)
    refine z_iconst (v := jI 0) K d_M_isTooLong_9 rfl ?_
    exact z_zret K hr hlk d_M_isTooLong_10 rfl ⟨_, rfl, ⟨0, rfl, Or.inl rfl, by simp [tlP]⟩, ⟨V, hV, fun _ _ => rfl⟩, rfl⟩
  | some (x, y, z), hP, cP =>
    obtain ⟨hP1, fx, fy, fz⟩ := hP
    obtain ⟨bx, by1, bz, nz⟩ := cP
    refine z_aload_n K d_M_isTooLong_0 rfl ?_
    refine zm_get K fd_M_19 rfl d_M_isTooLong_1 ?_
    refine z_iload_n K d_M_isTooLong_4 rfl ?_
    refine zm_nld K (by omega) d_M_isTooLong_5 ?_
    rw [hP1]
    refine zi_if_eq (tgt := 11) K d_M_isTooLong_6 (by decide) (by decide) (fun _ => ?_) (fun hc => absurd rfl hc)
    refine z_aload_n K d_M_isTooLong_11 rfl ?_
    refine z_bipush (v := jI 49) K d_M_isTooLong_12 rfl ?_
    refine z_iload_n K d_M_isTooLong_14 rfl ?_
    refine z_iconst (v := jI 2) K d_M_isTooLong_15 rfl ?_
    refine zi_iadd K d_M_isTooLong_16 ?_
    refine z_iload_n K d_M_isTooLong_17 rfl ?_
    refine z_iconst (v := jI 2) K d_M_isTooLong_18 rfl ?_
    refine zi_iadd K d_M_isTooLong_19 ?_
    refine z_callV (ci := 0) (As := [.int (jI 49), .int (jI (r + 2)), .int (jI (r + 2))]) K (w_M_multiply l G b0 h a cd T (v := z) (w := z) hV (by decide) (by omega) (by omega) (by omega) (by omega) fz fz bz bz (by decide)) ca_M_92 im_M_multiply se_M_multiply rfl (by decide) hm_0 rfl rfl (by decide) (Nat.le_of_ble_eq_true rfl) d_M_isTooLong_20 (fun o h1 hp => ?_)
    obtain ⟨T1, rfl, rfl, hV1, hN1⟩ := hp
    refine z_aload_n K d_M_isTooLong_23 rfl ?_
    refine z_bipush (v := jI 44) K d_M_isTooLong_24 rfl ?_
    refine z_bipush (v := jI 49) K d_M_isTooLong_26 rfl ?_
    refine z_iload_n K d_M_isTooLong_28 rfl ?_
    refine z_iconst (v := jI 2) K d_M_isTooLong_29 rfl ?_
    refine zi_iadd K d_M_isTooLong_30 ?_
    refine z_callV (ci := 0) (As := [.int (jI 44), .int (jI 49), .int (jI (r + 2))]) K (w_M_multiply l G b0 h a cd T1 (v := z * z) (w := z) hV1 (by decide) (by decide) (by omega) (by decide) (by omega) (iu_self _ _ _) ((iu_ne _ _ (by omega)).trans fz) (lt9_mul bz bz) bz (by decide)) ca_M_92 im_M_multiply se_M_multiply rfl (by decide) hm_0 rfl rfl (by decide) (Nat.le_of_ble_eq_true rfl) d_M_isTooLong_31 (fun o h1 hp => ?_)
    obtain ⟨T2, rfl, rfl, hV2, hN2⟩ := hp
    have gq : ∀ q : Int, q < 44 → iu (iu V 49 (z * z)) 44 (z * z * z) q = V q := fun q hq => by rw [iu_ne _ _ (by omega), iu_ne _ _ (by omega)]
    refine z_aload_n K d_M_isTooLong_34 rfl ?_
    refine z_iload_n K d_M_isTooLong_35 rfl ?_
    refine z_callV (ci := 0) (As := [.int (jI r)]) K (RV.dig l G b0 h a cd hV2 (by omega) ((gq r (by omega)).trans fx)) ca_M_130 im_M_digitsOf se_M_digitsOf rfl (by decide) hm_0 rfl rfl (by decide) (Nat.le_of_ble_eq_true rfl) d_M_isTooLong_36 (fun o h1 hp => ?_)
    obtain ⟨T3, rfl, rfl, d1, rfl, hd1, hl1⟩ := hp
    refine z_bipush (v := jI 120) K d_M_isTooLong_39 rfl ?_
    refine zi_icmp_gt (tgt := 67) K d_M_isTooLong_41 (by decide) (by omega) (by omega) (fun hc => ?_) (fun hc => ?_)
    · refine z_iconst (v := jI 1) K d_M_isTooLong_67 rfl ?_
      refine z_goto (tgt := 72) K d_M_isTooLong_68 (by decide) ?_
      exact z_zret K hr hlk d_M_isTooLong_72 rfl ⟨_, rfl, ⟨1, rfl, Or.inr rfl, by simp only [tlP, true_iff]; exact Or.inl ((hd1.gt (by decide)).mp (by omega))⟩, ⟨_, hV2, gq⟩, hN2.trans hN1⟩
    · refine z_aload_n K d_M_isTooLong_44 rfl ?_
      refine z_iload_n K d_M_isTooLong_45 rfl ?_
      refine z_iconst (v := jI 1) K d_M_isTooLong_46 rfl ?_
      refine zi_iadd K d_M_isTooLong_47 ?_
      refine z_callV (ci := 0) (As := [.int (jI (r + 1))]) K (RV.dig l G b0 h a cd hV2 (by omega) ((gq (r + 1) (by omega)).trans fy)) ca_M_130 im_M_digitsOf se_M_digitsOf rfl (by decide) hm_0 rfl rfl (by decide) (Nat.le_of_ble_eq_true rfl) d_M_isTooLong_48 (fun o h1 hp => ?_)
      obtain ⟨T3, rfl, rfl, d2, rfl, hd2, hl2⟩ := hp
      refine z_bipush (v := jI 120) K d_M_isTooLong_51 rfl ?_
      refine zi_icmp_gt (tgt := 67) K d_M_isTooLong_53 (by decide) (by omega) (by omega) (fun hc2 => ?_) (fun hc2 => ?_)
      · refine z_iconst (v := jI 1) K d_M_isTooLong_67 rfl ?_
        refine z_goto (tgt := 72) K d_M_isTooLong_68 (by decide) ?_
        exact z_zret K hr hlk d_M_isTooLong_72 rfl ⟨_, rfl, ⟨1, rfl, Or.inr rfl, by simp only [tlP, true_iff]; exact Or.inr (Or.inl ((hd2.gt (by decide)).mp (by omega)))⟩, ⟨_, hV2, gq⟩, hN2.trans hN1⟩
      · refine z_aload_n K d_M_isTooLong_56 rfl ?_
        refine z_bipush (v := jI 44) K d_M_isTooLong_57 rfl ?_
        refine z_callV (ci := 0) (As := [.int (jI 44)]) K (RV.dig l G b0 h a cd hV2 (by decide) (iu_self _ _ _)) ca_M_130 im_M_digitsOf se_M_digitsOf rfl (by decide) hm_0 rfl rfl (by decide) (Nat.le_of_ble_eq_true rfl) d_M_isTooLong_59 (fun o h1 hp => ?_)
        obtain ⟨T3, rfl, rfl, d3, rfl, hd3, hl3⟩ := hp
        refine z_bipush (v := jI 120) K d_M_isTooLong_62 rfl ?_
        refine zi_icmp_le (tgt := 71) K d_M_isTooLong_64 (by decide) (by omega) (by omega) (fun hc3 => ?_) (fun hc3 => ?_)
        · refine z_iconst (v := jI 0) K d_M_isTooLong_71 rfl ?_
          refine z_zret K hr hlk d_M_isTooLong_72 rfl ⟨_, rfl, ⟨0, rfl, Or.inl rfl, ?_⟩, ⟨_, hV2, gq⟩, hN2.trans hN1⟩
          simp only [tlP]
          constructor
          · intro q; omega
          · intro q
            rcases q with q | q | q
            · have := (hd1.gt (k := 120) (by decide)).mpr q; omega
            · have := (hd2.gt (k := 120) (by decide)).mpr q; omega
            · have := (hd3.gt (k := 120) (by decide)).mpr q; omega
        · refine z_iconst (v := jI 1) K d_M_isTooLong_67 rfl ?_
          refine z_goto (tgt := 72) K d_M_isTooLong_68 (by decide) ?_
          exact z_zret K hr hlk d_M_isTooLong_72 rfl ⟨_, rfl, ⟨1, rfl, Or.inr rfl, by simp only [tlP, true_iff]; exact Or.inr (Or.inr ((hd3.gt (by decide)).mp (by omega)))⟩, ⟨_, hV2, gq⟩, hN2.trans hN1⟩
set_option maxHeartbeats 4000000 in
set_option maxRecDepth 100000 in
/-- isFar(): whether x at 36 has more than 340 digits -/
theorem v_M_isFar (l : Launch) (G : zG) (b0 : Nat) (h : zH) (a : Nat) (cd : Int) (T : mT) {V : Int → Int} (P : Option (Int × Int × Int)) (hV : RV T V) (hP : PtAt V T.2.2.2 36 P) (bP : ∀ x y z : Int, P = some (x, y, z) → lt9 z 200) :
    mMet l G b0 y_M_isFar b_M_isFar 1 (some .boolean) 2 55 h a cd [] T (fun o T' => (∃ b : Int, o = some (.int (jI b)) ∧ (b = 0 ∨ b = 1) ∧ (b = 1 ↔ farP P)) ∧ (∃ V' : Int → Int, RV T' V' ∧ ∀ q : Int, q < 49 → V' q = V q) ∧ T'.2.2.2 = T.2.2.2) :=
  z_met (by decide) (Nat.le_of_ble_eq_true rfl) fun p e s m below meth c K hr hlk hnm => by
  match P, hP, bP with
  | none, hP, _ =>
    have hP1 : T.2.2.2 36 = 1 := hP
    refine z_aload_n K d_M_isFar_0 rfl ?_
    refine zm_get K fd_M_19 rfl d_M_isFar_1 ?_
    refine z_bipush (v := jI 36) K d_M_isFar_4 rfl ?_
    refine zm_nld K (by omega) d_M_isFar_6 ?_
    rw [hP1]
    refine zi_if_eq (tgt := 12) K d_M_isFar_7 (by decide) (by decide) (fun hc => absurd hc (by decide)) (fun _ => ?_)
    refine z_iconst (v := jI 0) K d_M_isFar_10 rfl ?_
    exact z_zret K hr hlk d_M_isFar_11 rfl ⟨_, rfl, ⟨0, rfl, Or.inl rfl, by simp [farP]⟩, ⟨V, hV, fun _ _ => rfl⟩, rfl⟩
  | some (x, y, z), hP, bP =>
    obtain ⟨hP1, fx, fy, fz⟩ := hP
    have fz : V 38 = z := fz
    have bz := bP x y z rfl
    refine z_aload_n K d_M_isFar_0 rfl ?_
    refine zm_get K fd_M_19 rfl d_M_isFar_1 ?_
    refine z_bipush (v := jI 36) K d_M_isFar_4 rfl ?_
    refine zm_nld K (by omega) d_M_isFar_6 ?_
    rw [hP1]
    refine zi_if_eq (tgt := 12) K d_M_isFar_7 (by decide) (by decide) (fun _ => ?_) (fun hc => absurd rfl hc)
    refine z_aload_n K d_M_isFar_12 rfl ?_
    refine z_bipush (v := jI 49) K d_M_isFar_13 rfl ?_
    refine z_bipush (v := jI 38) K d_M_isFar_15 rfl ?_
    refine z_bipush (v := jI 38) K d_M_isFar_17 rfl ?_
    refine z_callV (ci := 0) (As := [.int (jI 49), .int (jI 38), .int (jI 38)]) K (w_M_multiply l G b0 h a cd T (v := z) (w := z) hV (by decide) (by decide) (by decide) (by decide) (by decide) fz fz bz bz (by decide)) ca_M_92 im_M_multiply se_M_multiply rfl (by decide) hm_0 rfl rfl (by decide) (Nat.le_of_ble_eq_true rfl) d_M_isFar_19 (fun o h1 hp => ?_)
    obtain ⟨T1, rfl, rfl, hV1, hN1⟩ := hp
    have gq : ∀ q : Int, q < 49 → iu V 49 (z * z) q = V q := fun q hq => by rw [iu_ne _ _ (by omega)]
    refine z_aload_n K d_M_isFar_22 rfl ?_
    refine z_bipush (v := jI 36) K d_M_isFar_23 rfl ?_
    refine z_callV (ci := 0) (As := [.int (jI 36)]) K (RV.dig l G b0 h a cd hV1 (by decide) ((gq 36 (by decide)).trans fx)) ca_M_130 im_M_digitsOf se_M_digitsOf rfl (by decide) hm_0 rfl rfl (by decide) (Nat.le_of_ble_eq_true rfl) d_M_isFar_25 (fun o h1 hp => ?_)
    obtain ⟨T3, rfl, rfl, d1, rfl, hd1, hl1⟩ := hp
    refine z_sipush (v := jI 340) K d_M_isFar_28 rfl ?_
    refine zi_icmp_gt (tgt := 46) K d_M_isFar_31 (by decide) (by omega) (by omega) (fun hc => ?_) (fun hc => ?_)
    · refine z_iconst (v := jI 1) K d_M_isFar_46 rfl ?_
      refine z_goto (tgt := 51) K d_M_isFar_47 (by decide) ?_
      exact z_zret K hr hlk d_M_isFar_51 rfl ⟨_, rfl, ⟨1, rfl, Or.inr rfl, by simp only [farP, true_iff]; exact Or.inl ((hd1.gt (by decide)).mp (by omega))⟩, ⟨_, hV1, gq⟩, hN1⟩
    · refine z_aload_n K d_M_isFar_34 rfl ?_
      refine z_bipush (v := jI 49) K d_M_isFar_35 rfl ?_
      refine z_callV (ci := 0) (As := [.int (jI 49)]) K (RV.dig l G b0 h a cd hV1 (by decide) (iu_self _ _ _)) ca_M_130 im_M_digitsOf se_M_digitsOf rfl (by decide) hm_0 rfl rfl (by decide) (Nat.le_of_ble_eq_true rfl) d_M_isFar_37 (fun o h1 hp => ?_)
      obtain ⟨T3, rfl, rfl, d2, rfl, hd2, hl2⟩ := hp
      refine z_sipush (v := jI 340) K d_M_isFar_40 rfl ?_
      refine zi_icmp_le (tgt := 50) K d_M_isFar_43 (by decide) (by omega) (by omega) (fun hc2 => ?_) (fun hc2 => ?_)
      · refine z_iconst (v := jI 0) K d_M_isFar_50 rfl ?_
        refine z_zret K hr hlk d_M_isFar_51 rfl ⟨_, rfl, ⟨0, rfl, Or.inl rfl, ?_⟩, ⟨_, hV1, gq⟩, hN1⟩
        simp only [farP]
        constructor
        · intro q; omega
        · intro q
          rcases q with q | q
          · have := (hd1.gt (k := 340) (by decide)).mpr q; omega
          · have := (hd2.gt (k := 340) (by decide)).mpr q; omega
      · refine z_iconst (v := jI 1) K d_M_isFar_46 rfl ?_
        refine z_goto (tgt := 51) K d_M_isFar_47 (by decide) ?_
        exact z_zret K hr hlk d_M_isFar_51 rfl ⟨_, rfl, ⟨1, rfl, Or.inr rfl, by simp only [farP, true_iff]; exact Or.inr ((hd2.gt (by decide)).mp (by omega))⟩, ⟨_, hV1, gq⟩, hN1⟩
set_option maxHeartbeats 4000000 in
set_option maxRecDepth 100000 in
/-- settle(to): the point at 36 goes into a slot if it isn't too long -/
theorem v_M_settle (l : Launch) (G : zG) (b0 : Nat) (h : zH) (a : Nat) (cd : Int) (T : mT) {V : Int → Int} {t : Int} (P : Option (Int × Int × Int)) (hV : RV T V) (ht : 0 ≤ t ∧ t < 8) (hP : PtAt V T.2.2.2 36 P) (cP : capJ P) :
    mMet l G b0 y_M_settle b_M_settle 2 (some .int) 3 76 h a cd [.int (jI t)] T (fun o T' => (∃ b : Int, o = some (.int (jI b)) ∧ ((b = 0 ∧ tlP P ∧ (∃ V' : Int → Int, RV T' V' ∧ ∀ q : Int, q < 44 → V' q = V q) ∧ T'.2.2.2 = T.2.2.2) ∨ (b = 1 ∧ ¬ tlP P ∧ (∃ V' : Int → Int, RV T' V' ∧ (∀ q : Int, q < 44 → q < 3 * t ∨ 3 * t + 3 ≤ q → V' q = V q) ∧ PtAt V' T'.2.2.2 (3 * t) P) ∧ ∀ q : Int, q ≠ 3 * t → T'.2.2.2 q = T.2.2.2 q)))) :=
  z_met (by decide) (Nat.le_of_ble_eq_true rfl) fun p e s m below meth c K hr hlk hnm => by
  refine z_aload_n K d_M_settle_0 rfl ?_
  refine z_bipush (v := jI 36) K d_M_settle_1 rfl ?_
  refine z_callV (ci := 0) (As := [.int (jI 36)]) K (v_M_isTooLong l G b0 h a cd T P hV (by decide) hP cP) ca_M_134 im_M_isTooLong se_M_isTooLong rfl (by decide) hm_0 rfl rfl (by decide) (Nat.le_of_ble_eq_true rfl) d_M_settle_3 (fun o h1 hp => ?_)
  obtain ⟨T1, rfl, ⟨b, rfl, hb, hb2⟩, ⟨V1, q1, q2⟩, q3⟩ := hp
  refine zi_if_eq (tgt := 11) K d_M_settle_6 (by decide) (by omega) (fun hc => ?_) (fun hc => ?_)
  · have hnt : ¬ tlP P := fun z => by have := hb2.mpr z; omega
    have hP1 : PtAt V1 T1.2.2.2 36 P := by
      rw [q3]
      cases P with
      | none => exact hP
      | some p =>
        obtain ⟨x, y, z⟩ := p
        exact ⟨hP.1, (q2 36 (by decide)).trans hP.2.1, (q2 37 (by decide)).trans hP.2.2.1, (q2 38 (by decide)).trans hP.2.2.2⟩
    refine z_aload_n K d_M_settle_11 rfl ?_
    refine z_bipush (v := jI 36) K d_M_settle_12 rfl ?_
    refine z_iconst (v := jI 3) K d_M_settle_14 rfl ?_
    refine z_iload_n K d_M_settle_15 rfl ?_
    refine zi_imul K d_M_settle_16 ?_
    refine z_callV (ci := 0) (As := [.int (jI 36), .int (jI (3 * t))]) K (v_M_move l G b0 h a cd T1 q1 (by decide) (by omega) (by omega) hP1.bit) ca_M_112 im_M_move se_M_move rfl (by decide) hm_0 rfl rfl (by decide) (Nat.le_of_ble_eq_true rfl) d_M_settle_17 (fun o h1 hp => ?_)
    obtain ⟨T2, rfl, rfl, ⟨V2, r1, r2, r3⟩, r4⟩ := hp
    refine z_iconst (v := jI 1) K d_M_settle_20 rfl ?_
    refine z_iret K hr hlk d_M_settle_21 ⟨_, rfl, 1, rfl, Or.inr ⟨rfl, hnt, ⟨V2, r1, fun q hq h2 => (r3 q h2).trans (q2 q hq), hP1.mv r2 (by rw [r4, iu_self])⟩, fun q hq => by rw [r4, iu_ne _ _ hq, q3]⟩⟩
  · refine z_iconst (v := jI 0) K d_M_settle_9 rfl ?_
    exact z_iret K hr hlk d_M_settle_10 ⟨_, rfl, 0, rfl, Or.inl ⟨rfl, hb2.mp (by omega), ⟨V1, q1, q2⟩, q3⟩⟩
end M21
end
