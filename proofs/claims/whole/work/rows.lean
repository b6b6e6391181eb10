section
-- ===== PART A: goes FIRST, ahead of the names: the tables' words, and 'selects' of the private methods out of them =====
/-- a private method of a class that the tables say can be made, by its rows of tables_1 -/
def lw_okq (q : MethodName × Nat) : Prop := (q.1.cls ≠ "java/lang/invoke/MethodHandle" ∧ q.1.cls ≠ "java/lang/invoke/VarHandle") ∧ Cond.instantiable q.1.cls q.2 ∈ tables_1 ∧ Cond.privateMethod q.1 ∈ tables_1 ∧ Cond.instanceMethod q.1 ∈ tables_1
theorem lw_p0 : lw_okq (⟨"ChordPoints$Reckoner", "lose", "(LChordPoints$Num;)V"⟩, 5) := ⟨⟨by decide +kernel, by decide +kernel⟩, List.mem_of_getElem? (i := 21) (by decide +kernel), List.mem_of_getElem? (i := 363) (by decide +kernel), List.mem_of_getElem? (i := 364) (by decide +kernel)⟩
theorem lw_p1 : lw_okq (⟨"ChordPoints$Reckoner", "store", "([IIZLChordPoints$Num;)V"⟩, 5) := ⟨⟨by decide +kernel, by decide +kernel⟩, List.mem_of_getElem? (i := 21) (by decide +kernel), List.mem_of_getElem? (i := 372) (by decide +kernel), List.mem_of_getElem? (i := 373) (by decide +kernel)⟩
theorem lw_p2 : lw_okq (⟨"ChordPoints$Reckoner", "addSigned", "(LChordPoints$Num;LChordPoints$Num;ZLChordPoints$Num;)V"⟩, 5) := ⟨⟨by decide +kernel, by decide +kernel⟩, List.mem_of_getElem? (i := 21) (by decide +kernel), List.mem_of_getElem? (i := 388) (by decide +kernel), List.mem_of_getElem? (i := 389) (by decide +kernel)⟩
theorem lw_p3 : lw_okq (⟨"ChordPoints$Reckoner", "addSizes", "(LChordPoints$Num;LChordPoints$Num;LChordPoints$Num;)V"⟩, 5) := ⟨⟨by decide +kernel, by decide +kernel⟩, List.mem_of_getElem? (i := 21) (by decide +kernel), List.mem_of_getElem? (i := 392) (by decide +kernel), List.mem_of_getElem? (i := 393) (by decide +kernel)⟩
theorem lw_p4 : lw_okq (⟨"ChordPoints$Reckoner", "subtractSizes", "(LChordPoints$Num;LChordPoints$Num;ZLChordPoints$Num;)V"⟩, 5) := ⟨⟨by decide +kernel, by decide +kernel⟩, List.mem_of_getElem? (i := 21) (by decide +kernel), List.mem_of_getElem? (i := 410) (by decide +kernel), List.mem_of_getElem? (i := 411) (by decide +kernel)⟩
theorem lw_p5 : lw_okq (⟨"ChordPoints$Entry", "takeLowestTerms", "(JJLChordPoints$Num;LChordPoints$Num;)V"⟩, 10) := ⟨⟨by decide +kernel, by decide +kernel⟩, List.mem_of_getElem? (i := 236) (by decide +kernel), List.mem_of_getElem? (i := 439) (by decide +kernel), List.mem_of_getElem? (i := 440) (by decide +kernel)⟩
theorem lw_p6 : lw_okq (⟨"ChordPoints$Divisors", "shorten", "()V"⟩, 10) := ⟨⟨by decide +kernel, by decide +kernel⟩, List.mem_of_getElem? (i := 75) (by decide +kernel), List.mem_of_getElem? (i := 454) (by decide +kernel), List.mem_of_getElem? (i := 455) (by decide +kernel)⟩
theorem lw_p7 : lw_okq (⟨"ChordPoints$Reckoner", "scaleUp", "(LChordPoints$Num;I[I)I"⟩, 5) := ⟨⟨by decide +kernel, by decide +kernel⟩, List.mem_of_getElem? (i := 21) (by decide +kernel), List.mem_of_getElem? (i := 464) (by decide +kernel), List.mem_of_getElem? (i := 465) (by decide +kernel)⟩
theorem lw_p8 : lw_okq (⟨"ChordPoints$Reckoner", "guessLimb", "(II)J"⟩, 5) := ⟨⟨by decide +kernel, by decide +kernel⟩, List.mem_of_getElem? (i := 21) (by decide +kernel), List.mem_of_getElem? (i := 468) (by decide +kernel), List.mem_of_getElem? (i := 469) (by decide +kernel)⟩
theorem lw_p9 : lw_okq (⟨"ChordPoints$Reckoner", "takeMultiple", "(JII)I"⟩, 5) := ⟨⟨by decide +kernel, by decide +kernel⟩, List.mem_of_getElem? (i := 21) (by decide +kernel), List.mem_of_getElem? (i := 472) (by decide +kernel), List.mem_of_getElem? (i := 473) (by decide +kernel)⟩
theorem lw_p10 : lw_okq (⟨"ChordPoints$Reckoner", "giveBack", "(II)V"⟩, 5) := ⟨⟨by decide +kernel, by decide +kernel⟩, List.mem_of_getElem? (i := 21) (by decide +kernel), List.mem_of_getElem? (i := 476) (by decide +kernel), List.mem_of_getElem? (i := 477) (by decide +kernel)⟩
theorem lw_p11 : lw_okq (⟨"ChordPoints$Reckoner", "scaleDown", "(II)V"⟩, 5) := ⟨⟨by decide +kernel, by decide +kernel⟩, List.mem_of_getElem? (i := 21) (by decide +kernel), List.mem_of_getElem? (i := 480) (by decide +kernel), List.mem_of_getElem? (i := 481) (by decide +kernel)⟩
theorem lw_p12 : lw_okq (⟨"ChordPoints$Divisors", "followLeadingDigits", "()Z"⟩, 10) := ⟨⟨by decide +kernel, by decide +kernel⟩, List.mem_of_getElem? (i := 75) (by decide +kernel), List.mem_of_getElem? (i := 485) (by decide +kernel), List.mem_of_getElem? (i := 486) (by decide +kernel)⟩
theorem lw_p13 : lw_okq (⟨"ChordPoints$Divisors", "mix", "()V"⟩, 10) := ⟨⟨by decide +kernel, by decide +kernel⟩, List.mem_of_getElem? (i := 75) (by decide +kernel), List.mem_of_getElem? (i := 504) (by decide +kernel), List.mem_of_getElem? (i := 505) (by decide +kernel)⟩
theorem lw_p14 : lw_okq (⟨"ChordPoints$Entry", "isOnCurve", "()Z"⟩, 10) := ⟨⟨by decide +kernel, by decide +kernel⟩, List.mem_of_getElem? (i := 236) (by decide +kernel), List.mem_of_getElem? (i := 525) (by decide +kernel), List.mem_of_getElem? (i := 526) (by decide +kernel)⟩
theorem lw_p15 : lw_okq (⟨"ChordPoints$Chords", "measureGap", "(LChordPoints$Point;LChordPoints$Point;)V"⟩, 13) := ⟨⟨by decide +kernel, by decide +kernel⟩, List.mem_of_getElem? (i := 188) (by decide +kernel), List.mem_of_getElem? (i := 552) (by decide +kernel), List.mem_of_getElem? (i := 553) (by decide +kernel)⟩
def lw_privs_1 : List (MethodName × Nat) := [(⟨"ChordPoints$Reckoner", "lose", "(LChordPoints$Num;)V"⟩, 5), (⟨"ChordPoints$Reckoner", "store", "([IIZLChordPoints$Num;)V"⟩, 5), (⟨"ChordPoints$Reckoner", "addSigned", "(LChordPoints$Num;LChordPoints$Num;ZLChordPoints$Num;)V"⟩, 5), (⟨"ChordPoints$Reckoner", "addSizes", "(LChordPoints$Num;LChordPoints$Num;LChordPoints$Num;)V"⟩, 5), (⟨"ChordPoints$Reckoner", "subtractSizes", "(LChordPoints$Num;LChordPoints$Num;ZLChordPoints$Num;)V"⟩, 5), (⟨"ChordPoints$Entry", "takeLowestTerms", "(JJLChordPoints$Num;LChordPoints$Num;)V"⟩, 10), (⟨"ChordPoints$Divisors", "shorten", "()V"⟩, 10), (⟨"ChordPoints$Reckoner", "scaleUp", "(LChordPoints$Num;I[I)I"⟩, 5), (⟨"ChordPoints$Reckoner", "guessLimb", "(II)J"⟩, 5), (⟨"ChordPoints$Reckoner", "takeMultiple", "(JII)I"⟩, 5), (⟨"ChordPoints$Reckoner", "giveBack", "(II)V"⟩, 5), (⟨"ChordPoints$Reckoner", "scaleDown", "(II)V"⟩, 5), (⟨"ChordPoints$Divisors", "followLeadingDigits", "()Z"⟩, 10), (⟨"ChordPoints$Divisors", "mix", "()V"⟩, 10), (⟨"ChordPoints$Entry", "isOnCurve", "()Z"⟩, 10), (⟨"ChordPoints$Chords", "measureGap", "(LChordPoints$Point;LChordPoints$Point;)V"⟩, 13)]
theorem lw_r1 : ∀ q ∈ lw_privs_1, lw_okq q := List.forall_mem_cons.mpr ⟨lw_p0, List.forall_mem_cons.mpr ⟨lw_p1, List.forall_mem_cons.mpr ⟨lw_p2, List.forall_mem_cons.mpr ⟨lw_p3, List.forall_mem_cons.mpr ⟨lw_p4, List.forall_mem_cons.mpr ⟨lw_p5, List.forall_mem_cons.mpr ⟨lw_p6, List.forall_mem_cons.mpr ⟨lw_p7, List.forall_mem_cons.mpr ⟨lw_p8, List.forall_mem_cons.mpr ⟨lw_p9, List.forall_mem_cons.mpr ⟨lw_p10, List.forall_mem_cons.mpr ⟨lw_p11, List.forall_mem_cons.mpr ⟨lw_p12, List.forall_mem_cons.mpr ⟨lw_p13, List.forall_mem_cons.mpr ⟨lw_p14, List.forall_mem_cons.mpr ⟨lw_p15, fun _ h => absurd h List.not_mem_nil⟩⟩⟩⟩⟩⟩⟩⟩⟩⟩⟩⟩⟩⟩⟩⟩
theorem lw_p16 : lw_okq (⟨"ChordPoints$Chords", "gatherHeights", "(LChordPoints$Point;LChordPoints$Point;)V"⟩, 13) := ⟨⟨by decide +kernel, by decide +kernel⟩, List.mem_of_getElem? (i := 188) (by decide +kernel), List.mem_of_getElem? (i := 562) (by decide +kernel), List.mem_of_getElem? (i := 563) (by decide +kernel)⟩
theorem lw_p17 : lw_okq (⟨"ChordPoints$Chords", "drawChord", "(LChordPoints$Point;LChordPoints$Point;)V"⟩, 13) := ⟨⟨by decide +kernel, by decide +kernel⟩, List.mem_of_getElem? (i := 188) (by decide +kernel), List.mem_of_getElem? (i := 571) (by decide +kernel), List.mem_of_getElem? (i := 572) (by decide +kernel)⟩
theorem lw_p18 : lw_okq (⟨"ChordPoints$Chords", "drawTangent", "(LChordPoints$Point;)V"⟩, 13) := ⟨⟨by decide +kernel, by decide +kernel⟩, List.mem_of_getElem? (i := 188) (by decide +kernel), List.mem_of_getElem? (i := 580) (by decide +kernel), List.mem_of_getElem? (i := 581) (by decide +kernel)⟩
theorem lw_p19 : lw_okq (⟨"ChordPoints$Chords", "findShare", "()V"⟩, 13) := ⟨⟨by decide +kernel, by decide +kernel⟩, List.mem_of_getElem? (i := 188) (by decide +kernel), List.mem_of_getElem? (i := 586) (by decide +kernel), List.mem_of_getElem? (i := 587) (by decide +kernel)⟩
theorem lw_p20 : lw_okq (⟨"ChordPoints$Chords", "placeX", "(LChordPoints$Point;)Z"⟩, 13) := ⟨⟨by decide +kernel, by decide +kernel⟩, List.mem_of_getElem? (i := 188) (by decide +kernel), List.mem_of_getElem? (i := 607) (by decide +kernel), List.mem_of_getElem? (i := 608) (by decide +kernel)⟩
theorem lw_p21 : lw_okq (⟨"ChordPoints$Chords", "placeY", "(LChordPoints$Point;LChordPoints$Point;LChordPoints$Point;)V"⟩, 13) := ⟨⟨by decide +kernel, by decide +kernel⟩, List.mem_of_getElem? (i := 188) (by decide +kernel), List.mem_of_getElem? (i := 613) (by decide +kernel), List.mem_of_getElem? (i := 614) (by decide +kernel)⟩
theorem lw_p22 : lw_okq (⟨"ChordPoints", "keep", "(LChordPoints$Point;I)I"⟩, 7) := ⟨⟨by decide +kernel, by decide +kernel⟩, List.mem_of_getElem? (i := 13) (by decide +kernel), List.mem_of_getElem? (i := 622) (by decide +kernel), List.mem_of_getElem? (i := 623) (by decide +kernel)⟩
theorem lw_p23 : lw_okq (⟨"ChordPoints", "hasNumber", "(II)Z"⟩, 7) := ⟨⟨by decide +kernel, by decide +kernel⟩, List.mem_of_getElem? (i := 13) (by decide +kernel), List.mem_of_getElem? (i := 665) (by decide +kernel), List.mem_of_getElem? (i := 666) (by decide +kernel)⟩
theorem lw_p24 : lw_okq (⟨"ChordPointsModel", "forget", "()V"⟩, 5) := ⟨⟨by decide +kernel, by decide +kernel⟩, List.mem_of_getElem? (i := 687) (by decide +kernel), List.mem_of_getElem? (i := 693) (by decide +kernel), List.mem_of_getElem? (i := 694) (by decide +kernel)⟩
theorem lw_p25 : lw_okq (⟨"ChordPointsModel", "set", "(IJ)V"⟩, 5) := ⟨⟨by decide +kernel, by decide +kernel⟩, List.mem_of_getElem? (i := 687) (by decide +kernel), List.mem_of_getElem? (i := 697) (by decide +kernel), List.mem_of_getElem? (i := 698) (by decide +kernel)⟩
theorem lw_p26 : lw_okq (⟨"ChordPointsModel", "product", "(IJJJJ)V"⟩, 5) := ⟨⟨by decide +kernel, by decide +kernel⟩, List.mem_of_getElem? (i := 687) (by decide +kernel), List.mem_of_getElem? (i := 731) (by decide +kernel), List.mem_of_getElem? (i := 732) (by decide +kernel)⟩
theorem lw_p27 : lw_okq (⟨"ChordPointsModel", "multiply", "(III)V"⟩, 5) := ⟨⟨by decide +kernel, by decide +kernel⟩, List.mem_of_getElem? (i := 687) (by decide +kernel), List.mem_of_getElem? (i := 735) (by decide +kernel), List.mem_of_getElem? (i := 736) (by decide +kernel)⟩
theorem lw_p28 : lw_okq (⟨"ChordPointsModel", "trim", "(II)V"⟩, 5) := ⟨⟨by decide +kernel, by decide +kernel⟩, List.mem_of_getElem? (i := 687) (by decide +kernel), List.mem_of_getElem? (i := 739) (by decide +kernel), List.mem_of_getElem? (i := 740) (by decide +kernel)⟩
theorem lw_p29 : lw_okq (⟨"ChordPointsModel", "add", "(IIII)V"⟩, 5) := ⟨⟨by decide +kernel, by decide +kernel⟩, List.mem_of_getElem? (i := 687) (by decide +kernel), List.mem_of_getElem? (i := 743) (by decide +kernel), List.mem_of_getElem? (i := 744) (by decide +kernel)⟩
theorem lw_p30 : lw_okq (⟨"ChordPointsModel", "copy", "(II)V"⟩, 5) := ⟨⟨by decide +kernel, by decide +kernel⟩, List.mem_of_getElem? (i := 687) (by decide +kernel), List.mem_of_getElem? (i := 747) (by decide +kernel), List.mem_of_getElem? (i := 748) (by decide +kernel)⟩
theorem lw_p31 : lw_okq (⟨"ChordPointsModel", "addSizes", "(III)V"⟩, 5) := ⟨⟨by decide +kernel, by decide +kernel⟩, List.mem_of_getElem? (i := 687) (by decide +kernel), List.mem_of_getElem? (i := 751) (by decide +kernel), List.mem_of_getElem? (i := 752) (by decide +kernel)⟩
def lw_privs_2 : List (MethodName × Nat) := [(⟨"ChordPoints$Chords", "gatherHeights", "(LChordPoints$Point;LChordPoints$Point;)V"⟩, 13), (⟨"ChordPoints$Chords", "drawChord", "(LChordPoints$Point;LChordPoints$Point;)V"⟩, 13), (⟨"ChordPoints$Chords", "drawTangent", "(LChordPoints$Point;)V"⟩, 13), (⟨"ChordPoints$Chords", "findShare", "()V"⟩, 13), (⟨"ChordPoints$Chords", "placeX", "(LChordPoints$Point;)Z"⟩, 13), (⟨"ChordPoints$Chords", "placeY", "(LChordPoints$Point;LChordPoints$Point;LChordPoints$Point;)V"⟩, 13), (⟨"ChordPoints", "keep", "(LChordPoints$Point;I)I"⟩, 7), (⟨"ChordPoints", "hasNumber", "(II)Z"⟩, 7), (⟨"ChordPointsModel", "forget", "()V"⟩, 5), (⟨"ChordPointsModel", "set", "(IJ)V"⟩, 5), (⟨"ChordPointsModel", "product", "(IJJJJ)V"⟩, 5), (⟨"ChordPointsModel", "multiply", "(III)V"⟩, 5), (⟨"ChordPointsModel", "trim", "(II)V"⟩, 5), (⟨"ChordPointsModel", "add", "(IIII)V"⟩, 5), (⟨"ChordPointsModel", "copy", "(II)V"⟩, 5), (⟨"ChordPointsModel", "addSizes", "(III)V"⟩, 5)]
theorem lw_r2 : ∀ q ∈ lw_privs_2, lw_okq q := List.forall_mem_cons.mpr ⟨lw_p16, List.forall_mem_cons.mpr ⟨lw_p17, List.forall_mem_cons.mpr ⟨lw_p18, List.forall_mem_cons.mpr ⟨lw_p19, List.forall_mem_cons.mpr ⟨lw_p20, List.forall_mem_cons.mpr ⟨lw_p21, List.forall_mem_cons.mpr ⟨lw_p22, List.forall_mem_cons.mpr ⟨lw_p23, List.forall_mem_cons.mpr ⟨lw_p24, List.forall_mem_cons.mpr ⟨lw_p25, List.forall_mem_cons.mpr ⟨lw_p26, List.forall_mem_cons.mpr ⟨lw_p27, List.forall_mem_cons.mpr ⟨lw_p28, List.forall_mem_cons.mpr ⟨lw_p29, List.forall_mem_cons.mpr ⟨lw_p30, List.forall_mem_cons.mpr ⟨lw_p31, fun _ h => absurd h List.not_mem_nil⟩⟩⟩⟩⟩⟩⟩⟩⟩⟩⟩⟩⟩⟩⟩⟩
theorem lw_p32 : lw_okq (⟨"ChordPointsModel", "compare", "(II)I"⟩, 5) := ⟨⟨by decide +kernel, by decide +kernel⟩, List.mem_of_getElem? (i := 687) (by decide +kernel), List.mem_of_getElem? (i := 756) (by decide +kernel), List.mem_of_getElem? (i := 757) (by decide +kernel)⟩
theorem lw_p33 : lw_okq (⟨"ChordPointsModel", "takeSizes", "(IIII)V"⟩, 5) := ⟨⟨by decide +kernel, by decide +kernel⟩, List.mem_of_getElem? (i := 687) (by decide +kernel), List.mem_of_getElem? (i := 760) (by decide +kernel), List.mem_of_getElem? (i := 761) (by decide +kernel)⟩
theorem lw_p34 : lw_okq (⟨"ChordPointsModel", "fraction", "(IIJJ)V"⟩, 5) := ⟨⟨by decide +kernel, by decide +kernel⟩, List.mem_of_getElem? (i := 687) (by decide +kernel), List.mem_of_getElem? (i := 777) (by decide +kernel), List.mem_of_getElem? (i := 778) (by decide +kernel)⟩
theorem lw_p35 : lw_okq (⟨"ChordPointsModel", "common", "(II)V"⟩, 5) := ⟨⟨by decide +kernel, by decide +kernel⟩, List.mem_of_getElem? (i := 687) (by decide +kernel), List.mem_of_getElem? (i := 781) (by decide +kernel), List.mem_of_getElem? (i := 782) (by decide +kernel)⟩
theorem lw_p36 : lw_okq (⟨"ChordPointsModel", "divide", "(III)V"⟩, 5) := ⟨⟨by decide +kernel, by decide +kernel⟩, List.mem_of_getElem? (i := 687) (by decide +kernel), List.mem_of_getElem? (i := 785) (by decide +kernel), List.mem_of_getElem? (i := 786) (by decide +kernel)⟩
theorem lw_p37 : lw_okq (⟨"ChordPointsModel", "timesSmall", "(IJ)V"⟩, 5) := ⟨⟨by decide +kernel, by decide +kernel⟩, List.mem_of_getElem? (i := 687) (by decide +kernel), List.mem_of_getElem? (i := 789) (by decide +kernel), List.mem_of_getElem? (i := 790) (by decide +kernel)⟩
theorem lw_p38 : lw_okq (⟨"ChordPointsModel", "place", "(IIII)I"⟩, 5) := ⟨⟨by decide +kernel, by decide +kernel⟩, List.mem_of_getElem? (i := 687) (by decide +kernel), List.mem_of_getElem? (i := 793) (by decide +kernel), List.mem_of_getElem? (i := 794) (by decide +kernel)⟩
theorem lw_p39 : lw_okq (⟨"ChordPointsModel", "bySmall", "(II)V"⟩, 5) := ⟨⟨by decide +kernel, by decide +kernel⟩, List.mem_of_getElem? (i := 687) (by decide +kernel), List.mem_of_getElem? (i := 797) (by decide +kernel), List.mem_of_getElem? (i := 798) (by decide +kernel)⟩
theorem lw_p40 : lw_okq (⟨"ChordPointsModel", "share", "(III)V"⟩, 5) := ⟨⟨by decide +kernel, by decide +kernel⟩, List.mem_of_getElem? (i := 687) (by decide +kernel), List.mem_of_getElem? (i := 801) (by decide +kernel), List.mem_of_getElem? (i := 802) (by decide +kernel)⟩
theorem lw_p41 : lw_okq (⟨"ChordPointsModel", "more", "(IIII)V"⟩, 5) := ⟨⟨by decide +kernel, by decide +kernel⟩, List.mem_of_getElem? (i := 687) (by decide +kernel), List.mem_of_getElem? (i := 805) (by decide +kernel), List.mem_of_getElem? (i := 806) (by decide +kernel)⟩
theorem lw_p42 : lw_okq (⟨"ChordPointsModel", "isSame", "(II)Z"⟩, 5) := ⟨⟨by decide +kernel, by decide +kernel⟩, List.mem_of_getElem? (i := 687) (by decide +kernel), List.mem_of_getElem? (i := 809) (by decide +kernel), List.mem_of_getElem? (i := 810) (by decide +kernel)⟩
theorem lw_p43 : lw_okq (⟨"ChordPointsModel", "move", "(II)V"⟩, 5) := ⟨⟨by decide +kernel, by decide +kernel⟩, List.mem_of_getElem? (i := 687) (by decide +kernel), List.mem_of_getElem? (i := 813) (by decide +kernel), List.mem_of_getElem? (i := 814) (by decide +kernel)⟩
theorem lw_p44 : lw_okq (⟨"ChordPointsModel", "join", "()V"⟩, 5) := ⟨⟨by decide +kernel, by decide +kernel⟩, List.mem_of_getElem? (i := 687) (by decide +kernel), List.mem_of_getElem? (i := 821) (by decide +kernel), List.mem_of_getElem? (i := 822) (by decide +kernel)⟩
theorem lw_p45 : lw_okq (⟨"ChordPointsModel", "isOther", "()Z"⟩, 5) := ⟨⟨by decide +kernel, by decide +kernel⟩, List.mem_of_getElem? (i := 687) (by decide +kernel), List.mem_of_getElem? (i := 825) (by decide +kernel), List.mem_of_getElem? (i := 826) (by decide +kernel)⟩
theorem lw_p46 : lw_okq (⟨"ChordPointsModel", "touch", "()V"⟩, 5) := ⟨⟨by decide +kernel, by decide +kernel⟩, List.mem_of_getElem? (i := 687) (by decide +kernel), List.mem_of_getElem? (i := 829) (by decide +kernel), List.mem_of_getElem? (i := 830) (by decide +kernel)⟩
theorem lw_p47 : lw_okq (⟨"ChordPointsModel", "finish", "()V"⟩, 5) := ⟨⟨by decide +kernel, by decide +kernel⟩, List.mem_of_getElem? (i := 687) (by decide +kernel), List.mem_of_getElem? (i := 834) (by decide +kernel), List.mem_of_getElem? (i := 835) (by decide +kernel)⟩
def lw_privs_3 : List (MethodName × Nat) := [(⟨"ChordPointsModel", "compare", "(II)I"⟩, 5), (⟨"ChordPointsModel", "takeSizes", "(IIII)V"⟩, 5), (⟨"ChordPointsModel", "fraction", "(IIJJ)V"⟩, 5), (⟨"ChordPointsModel", "common", "(II)V"⟩, 5), (⟨"ChordPointsModel", "divide", "(III)V"⟩, 5), (⟨"ChordPointsModel", "timesSmall", "(IJ)V"⟩, 5), (⟨"ChordPointsModel", "place", "(IIII)I"⟩, 5), (⟨"ChordPointsModel", "bySmall", "(II)V"⟩, 5), (⟨"ChordPointsModel", "share", "(III)V"⟩, 5), (⟨"ChordPointsModel", "more", "(IIII)V"⟩, 5), (⟨"ChordPointsModel", "isSame", "(II)Z"⟩, 5), (⟨"ChordPointsModel", "move", "(II)V"⟩, 5), (⟨"ChordPointsModel", "join", "()V"⟩, 5), (⟨"ChordPointsModel", "isOther", "()Z"⟩, 5), (⟨"ChordPointsModel", "touch", "()V"⟩, 5), (⟨"ChordPointsModel", "finish", "()V"⟩, 5)]
theorem lw_r3 : ∀ q ∈ lw_privs_3, lw_okq q := List.forall_mem_cons.mpr ⟨lw_p32, List.forall_mem_cons.mpr ⟨lw_p33, List.forall_mem_cons.mpr ⟨lw_p34, List.forall_mem_cons.mpr ⟨lw_p35, List.forall_mem_cons.mpr ⟨lw_p36, List.forall_mem_cons.mpr ⟨lw_p37, List.forall_mem_cons.mpr ⟨lw_p38, List.forall_mem_cons.mpr ⟨lw_p39, List.forall_mem_cons.mpr ⟨lw_p40, List.forall_mem_cons.mpr ⟨lw_p41, List.forall_mem_cons.mpr ⟨lw_p42, List.forall_mem_cons.mpr ⟨lw_p43, List.forall_mem_cons.mpr ⟨lw_p44, List.forall_mem_cons.mpr ⟨lw_p45, List.forall_mem_cons.mpr ⟨lw_p46, List.forall_mem_cons.mpr ⟨lw_p47, fun _ h => absurd h List.not_mem_nil⟩⟩⟩⟩⟩⟩⟩⟩⟩⟩⟩⟩⟩⟩⟩⟩
theorem lw_p48 : lw_okq (⟨"ChordPointsModel", "settle", "(I)I"⟩, 5) := ⟨⟨by decide +kernel, by decide +kernel⟩, List.mem_of_getElem? (i := 687) (by decide +kernel), List.mem_of_getElem? (i := 838) (by decide +kernel), List.mem_of_getElem? (i := 839) (by decide +kernel)⟩
theorem lw_p49 : lw_okq (⟨"ChordPointsModel", "isTooLong", "(I)Z"⟩, 5) := ⟨⟨by decide +kernel, by decide +kernel⟩, List.mem_of_getElem? (i := 687) (by decide +kernel), List.mem_of_getElem? (i := 842) (by decide +kernel), List.mem_of_getElem? (i := 843) (by decide +kernel)⟩
theorem lw_p50 : lw_okq (⟨"ChordPointsModel", "digitsOf", "(I)I"⟩, 5) := ⟨⟨by decide +kernel, by decide +kernel⟩, List.mem_of_getElem? (i := 687) (by decide +kernel), List.mem_of_getElem? (i := 846) (by decide +kernel), List.mem_of_getElem? (i := 847) (by decide +kernel)⟩
theorem lw_p51 : lw_okq (⟨"ChordPointsModel", "turn", "(I)V"⟩, 5) := ⟨⟨by decide +kernel, by decide +kernel⟩, List.mem_of_getElem? (i := 687) (by decide +kernel), List.mem_of_getElem? (i := 854) (by decide +kernel), List.mem_of_getElem? (i := 855) (by decide +kernel)⟩
theorem lw_p52 : lw_okq (⟨"ChordPointsModel", "isFar", "()Z"⟩, 5) := ⟨⟨by decide +kernel, by decide +kernel⟩, List.mem_of_getElem? (i := 687) (by decide +kernel), List.mem_of_getElem? (i := 865) (by decide +kernel), List.mem_of_getElem? (i := 866) (by decide +kernel)⟩
theorem lw_p53 : lw_okq (⟨"ChordPointsModel", "take", "(II)Z"⟩, 5) := ⟨⟨by decide +kernel, by decide +kernel⟩, List.mem_of_getElem? (i := 687) (by decide +kernel), List.mem_of_getElem? (i := 885) (by decide +kernel), List.mem_of_getElem? (i := 886) (by decide +kernel)⟩
def lw_privs_4 : List (MethodName × Nat) := [(⟨"ChordPointsModel", "settle", "(I)I"⟩, 5), (⟨"ChordPointsModel", "isTooLong", "(I)Z"⟩, 5), (⟨"ChordPointsModel", "digitsOf", "(I)I"⟩, 5), (⟨"ChordPointsModel", "turn", "(I)V"⟩, 5), (⟨"ChordPointsModel", "isFar", "()Z"⟩, 5), (⟨"ChordPointsModel", "take", "(II)Z"⟩, 5)]
theorem lw_r4 : ∀ q ∈ lw_privs_4, lw_okq q := List.forall_mem_cons.mpr ⟨lw_p48, List.forall_mem_cons.mpr ⟨lw_p49, List.forall_mem_cons.mpr ⟨lw_p50, List.forall_mem_cons.mpr ⟨lw_p51, List.forall_mem_cons.mpr ⟨lw_p52, List.forall_mem_cons.mpr ⟨lw_p53, fun _ h => absurd h List.not_mem_nil⟩⟩⟩⟩⟩⟩
def lw_privs : List (MethodName × Nat) := lw_privs_1 ++ (lw_privs_2 ++ (lw_privs_3 ++ (lw_privs_4)))
def lw_tbl : List Cond := k2_sels lw_privs ++ tables_1
theorem lw_privs_ok : ∀ q ∈ lw_privs, lw_okq q := by
  show ∀ q ∈ lw_privs_1 ++ (lw_privs_2 ++ (lw_privs_3 ++ (lw_privs_4))), lw_okq q
  exact List.forall_mem_append.mpr ⟨lw_r1, List.forall_mem_append.mpr ⟨lw_r2, List.forall_mem_append.mpr ⟨lw_r3, lw_r4⟩⟩⟩
-- ===== end of PART A; then your names; then what follows =====
/-! THE CLAIM OUT OF ONE WALK OF THE LAW'S BODY. Your part is whole_start (and what it stands on); all else here is the same for every law, but numbers. -/
def R_law : String := "ChordPointsLaw"
def lw_P (b : Addr) (xs : List Int32) (args : Array Value) (s : State) : Prop := args = #[.ref b] ∧ s.IntsAt b xs ∧ xs.length ≤ 5120 ∧ (Jvm.Cond.and given_1 narrow_1).before args s = true
def lw_Q (_ : Array Value) (s : State) (o : Outcome) (t : State) : Prop := o = .returned (some (.int 1)) ∧ Framed s o t [] 600000 7302250
def lw_Z (below : List Frame) (a : Array Value) (s : State) : State → Prop := fun t => ∃ o, t.status = .running ∧ Ended t below o ∧ lw_Q a s o t
/-- the law's own end, with 1 on the stack, nothing written that was there before, its room as the claim has it -/
theorem lw_ret {p : Program} {l : Launch} {e : Env} {s : State} {m : MethodId} {below : List Frame} {meth : Method} {c : Code} {b : Nat} (hx : p.tables.exec = Jvm.exec) (hb : c.code = code) (hr : meth.sig.returnType = ret) (hlocks : meth.locks = false) {pc : Nat} {H : Heap} {ls : Array Slot} (hdg : decode code pc = .ok (.ireturn, 1)) : W p l e room_1 s m #[Value.ref b] below meth c H [] 600000 7302250 (lw_Z below #[Value.ref b] s) (F0 m pc ls [.int 1]) := by
  intro T hT X
  obtain ⟨fs, hret, hrun, hended, hW, hframe⟩ := X.leave (v := some (.int 1)) (hlocks := hlocks) (fun h => by rw [hr] at h; cases h)
  have hmeth' : T.vm.method? m = some meth := X.method'
  refine ⟨T.setFrames fs, ?_, .returned (some (.int 1)), hrun, hended, rfl, ⟨_, rfl⟩, hW, hframe⟩
  jvm_step X.here [X.here.top, hx, hb, hdg, hmeth', hr, ret, narrow_b1]
  (try refine ⟨rfl, ?_⟩); (try refine ⟨rfl, ?_⟩)
  first | (intro acts; rw [hret _ acts rfl rfl rfl]) | rw [hret _ _ rfl rfl rfl]
  exact Steps.refl _
/-- what holds at the law's entry: the machine, the code, the tables' words (any of lw_tbl by 'hts w (by decide +kernel)'), the script of L ints xs at the cell b, what the Statement gives of the start (any of its parts by flat_of_before) -/
def lw_At (p : Program) (s : State) (m : MethodId) (meth : Method) (c : Code) (b L : Nat) (xs : Nat → Int32) : Prop :=
  p.tables.exec = Jvm.exec ∧ c.code = code ∧ meth.sig.returnType = ret ∧ c.maxLocals = 4 ∧ s.vm.findClass R_law = some m.cls ∧ (∀ w ∈ lw_tbl, w.before #[Value.ref b] s = true) ∧ va_X b L xs s s.heap ∧ b < s.heap.size ∧ meth.locks = false ∧ (Jvm.Cond.and given_1 narrow_1).before #[Value.ref b] s = true
end
section
def R_M : String := "ChordPointsModel"
def F_M : u_T := fun k => match k with
  | 0 => ("ChordPointsModel", "code", "I", false)
  | 1 => ("ChordPointsModel", "cells", "[I", true)
  | 2 => ("ChordPointsModel", "sizes", "[I", true)
  | 3 => ("ChordPointsModel", "signs", "[I", true)
  | _ => ("ChordPointsModel", "none", "[Z", true)
def t_M : Nat → FieldType := fun k => match k with
  | 0 => .int
  | 1 => .array .int
  | 2 => .array .int
  | 3 => .array .int
  | _ => .array .boolean
theorem n_M : ∀ a, a < 5 → ∀ b, b < 5 → a ≠ b → (F_M a).2.1 ≠ (F_M b).2.1 := by decide +kernel
theorem t_M_ok : ∀ k, k < 5 → parseFieldDescriptor (F_M k).2.2.1 = some (t_M k) := by decide +kernel
def R_N : String := "ChordPoints$Num"
def F_N : u_T := fun k => match k with
  | 0 => ("ChordPoints$Num", "limbs", "[I", true)
  | 1 => ("ChordPoints$Num", "length", "I", false)
  | _ => ("ChordPoints$Num", "below", "Z", false)
def t_N : Nat → FieldType := fun k => match k with
  | 0 => .array .int
  | 1 => .int
  | _ => .boolean
theorem n_N : ∀ a, a < 3 → ∀ b, b < 3 → a ≠ b → (F_N a).2.1 ≠ (F_N b).2.1 := by decide +kernel
theorem t_N_ok : ∀ k, k < 3 → parseFieldDescriptor (F_N k).2.2.1 = some (t_N k) := by decide +kernel
def R_P : String := "ChordPoints$Point"
def F_P : u_T := fun k => match k with
  | 0 => ("ChordPoints$Point", "a", "LChordPoints$Num;", true)
  | 1 => ("ChordPoints$Point", "b", "LChordPoints$Num;", true)
  | 2 => ("ChordPoints$Point", "e", "LChordPoints$Num;", true)
  | 3 => ("ChordPoints$Point", "e2", "LChordPoints$Num;", true)
  | 4 => ("ChordPoints$Point", "e3", "LChordPoints$Num;", true)
  | _ => ("ChordPoints$Point", "none", "Z", false)
def t_P : Nat → FieldType := fun k => match k with
  | 0 => .object "ChordPoints$Num"
  | 1 => .object "ChordPoints$Num"
  | 2 => .object "ChordPoints$Num"
  | 3 => .object "ChordPoints$Num"
  | 4 => .object "ChordPoints$Num"
  | _ => .boolean
theorem n_P : ∀ a, a < 6 → ∀ b, b < 6 → a ≠ b → (F_P a).2.1 ≠ (F_P b).2.1 := by decide +kernel
theorem t_P_ok : ∀ k, k < 6 → parseFieldDescriptor (F_P k).2.2.1 = some (t_P k) := by decide +kernel
def R_Q : String := "ChordPoints$Equation"
def F_Q : u_T := fun k => match k with
  | 0 => ("ChordPoints$Equation", "a1", "LChordPoints$Num;", true)
  | 1 => ("ChordPoints$Equation", "a2", "LChordPoints$Num;", true)
  | 2 => ("ChordPoints$Equation", "a3", "LChordPoints$Num;", true)
  | 3 => ("ChordPoints$Equation", "a4", "LChordPoints$Num;", true)
  | 4 => ("ChordPoints$Equation", "a6", "LChordPoints$Num;", true)
  | 5 => ("ChordPoints$Equation", "twiceA2", "LChordPoints$Num;", true)
  | 6 => ("ChordPoints$Equation", "twiceA6", "LChordPoints$Num;", true)
  | 7 => ("ChordPoints$Equation", "b4", "LChordPoints$Num;", true)
  | 8 => ("ChordPoints$Equation", "twiceB6", "LChordPoints$Num;", true)
  | _ => ("ChordPoints$Equation", "b8", "LChordPoints$Num;", true)
def t_Q : Nat → FieldType := fun k => match k with
  | 0 => .object "ChordPoints$Num"
  | 1 => .object "ChordPoints$Num"
  | 2 => .object "ChordPoints$Num"
  | 3 => .object "ChordPoints$Num"
  | 4 => .object "ChordPoints$Num"
  | 5 => .object "ChordPoints$Num"
  | 6 => .object "ChordPoints$Num"
  | 7 => .object "ChordPoints$Num"
  | 8 => .object "ChordPoints$Num"
  | _ => .object "ChordPoints$Num"
theorem n_Q : ∀ a, a < 10 → ∀ b, b < 10 → a ≠ b → (F_Q a).2.1 ≠ (F_Q b).2.1 := by decide +kernel
theorem t_Q_ok : ∀ k, k < 10 → parseFieldDescriptor (F_Q k).2.2.1 = some (t_Q k) := by decide +kernel
def R_R : String := "ChordPoints$Reckoner"
def F_R : u_T := fun k => match k with
  | 0 => ("ChordPoints$Reckoner", "row", "[I", true)
  | 1 => ("ChordPoints$Reckoner", "upper", "[I", true)
  | 2 => ("ChordPoints$Reckoner", "lower", "[I", true)
  | 3 => ("ChordPoints$Reckoner", "product", "LChordPoints$Num;", true)
  | _ => ("ChordPoints$Reckoner", "lost", "Z", false)
def t_R : Nat → FieldType := fun k => match k with
  | 0 => .array .int
  | 1 => .array .int
  | 2 => .array .int
  | 3 => .object "ChordPoints$Num"
  | _ => .boolean
theorem n_R : ∀ a, a < 5 → ∀ b, b < 5 → a ≠ b → (F_R a).2.1 ≠ (F_R b).2.1 := by decide +kernel
theorem t_R_ok : ∀ k, k < 5 → parseFieldDescriptor (F_R k).2.2.1 = some (t_R k) := by decide +kernel
def R_D : String := "ChordPoints$Divisors"
def F_D : u_T := fun k => match k with
  | 0 => ("ChordPoints$Divisors", "reckoner", "LChordPoints$Reckoner;", true)
  | 1 => ("ChordPoints$Divisors", "quotient", "LChordPoints$Num;", true)
  | 2 => ("ChordPoints$Divisors", "two", "LChordPoints$Num;", true)
  | 3 => ("ChordPoints$Divisors", "high", "LChordPoints$Num;", false)
  | 4 => ("ChordPoints$Divisors", "low", "LChordPoints$Num;", false)
  | 5 => ("ChordPoints$Divisors", "rest", "LChordPoints$Num;", false)
  | 6 => ("ChordPoints$Divisors", "highHigh", "J", false)
  | 7 => ("ChordPoints$Divisors", "highLow", "J", false)
  | 8 => ("ChordPoints$Divisors", "lowHigh", "J", false)
  | _ => ("ChordPoints$Divisors", "lowLow", "J", false)
def t_D : Nat → FieldType := fun k => match k with
  | 0 => .object "ChordPoints$Reckoner"
  | 1 => .object "ChordPoints$Num"
  | 2 => .object "ChordPoints$Num"
  | 3 => .object "ChordPoints$Num"
  | 4 => .object "ChordPoints$Num"
  | 5 => .object "ChordPoints$Num"
  | 6 => .long
  | 7 => .long
  | 8 => .long
  | _ => .long
theorem n_D : ∀ a, a < 10 → ∀ b, b < 10 → a ≠ b → (F_D a).2.1 ≠ (F_D b).2.1 := by decide +kernel
theorem t_D_ok : ∀ k, k < 10 → parseFieldDescriptor (F_D k).2.2.1 = some (t_D k) := by decide +kernel
def R_E : String := "ChordPoints$Entry"
def F_E : u_T := fun k => match k with
  | 0 => ("ChordPoints$Entry", "equation", "LChordPoints$Equation;", true)
  | 1 => ("ChordPoints$Entry", "reckoner", "LChordPoints$Reckoner;", true)
  | 2 => ("ChordPoints$Entry", "divisors", "LChordPoints$Divisors;", true)
  | 3 => ("ChordPoints$Entry", "xTop", "LChordPoints$Num;", true)
  | 4 => ("ChordPoints$Entry", "xBottom", "LChordPoints$Num;", true)
  | 5 => ("ChordPoints$Entry", "yTop", "LChordPoints$Num;", true)
  | 6 => ("ChordPoints$Entry", "yBottom", "LChordPoints$Num;", true)
  | 7 => ("ChordPoints$Entry", "first", "LChordPoints$Num;", true)
  | 8 => ("ChordPoints$Entry", "second", "LChordPoints$Num;", true)
  | _ => ("ChordPoints$Entry", "third", "LChordPoints$Num;", true)
def t_E : Nat → FieldType := fun k => match k with
  | 0 => .object "ChordPoints$Equation"
  | 1 => .object "ChordPoints$Reckoner"
  | 2 => .object "ChordPoints$Divisors"
  | 3 => .object "ChordPoints$Num"
  | 4 => .object "ChordPoints$Num"
  | 5 => .object "ChordPoints$Num"
  | 6 => .object "ChordPoints$Num"
  | 7 => .object "ChordPoints$Num"
  | 8 => .object "ChordPoints$Num"
  | _ => .object "ChordPoints$Num"
theorem n_E : ∀ a, a < 10 → ∀ b, b < 10 → a ≠ b → (F_E a).2.1 ≠ (F_E b).2.1 := by decide +kernel
theorem t_E_ok : ∀ k, k < 10 → parseFieldDescriptor (F_E k).2.2.1 = some (t_E k) := by decide +kernel
def R_C : String := "ChordPoints$Chords"
def F_C : u_T := fun k => match k with
  | 0 => ("ChordPoints$Chords", "equation", "LChordPoints$Equation;", true)
  | 1 => ("ChordPoints$Chords", "reckoner", "LChordPoints$Reckoner;", true)
  | 2 => ("ChordPoints$Chords", "divisors", "LChordPoints$Divisors;", true)
  | 3 => ("ChordPoints$Chords", "top", "LChordPoints$Num;", true)
  | 4 => ("ChordPoints$Chords", "bottom", "LChordPoints$Num;", true)
  | 5 => ("ChordPoints$Chords", "slope", "LChordPoints$Num;", true)
  | 6 => ("ChordPoints$Chords", "share", "LChordPoints$Num;", true)
  | 7 => ("ChordPoints$Chords", "left", "LChordPoints$Num;", true)
  | 8 => ("ChordPoints$Chords", "right", "LChordPoints$Num;", true)
  | 9 => ("ChordPoints$Chords", "first", "LChordPoints$Num;", true)
  | 10 => ("ChordPoints$Chords", "second", "LChordPoints$Num;", true)
  | 11 => ("ChordPoints$Chords", "twist", "LChordPoints$Num;", true)
  | _ => ("ChordPoints$Chords", "rest", "LChordPoints$Num;", true)
def t_C : Nat → FieldType := fun k => match k with
  | 0 => .object "ChordPoints$Equation"
  | 1 => .object "ChordPoints$Reckoner"
  | 2 => .object "ChordPoints$Divisors"
  | 3 => .object "ChordPoints$Num"
  | 4 => .object "ChordPoints$Num"
  | 5 => .object "ChordPoints$Num"
  | 6 => .object "ChordPoints$Num"
  | 7 => .object "ChordPoints$Num"
  | 8 => .object "ChordPoints$Num"
  | 9 => .object "ChordPoints$Num"
  | 10 => .object "ChordPoints$Num"
  | 11 => .object "ChordPoints$Num"
  | _ => .object "ChordPoints$Num"
theorem n_C : ∀ a, a < 13 → ∀ b, b < 13 → a ≠ b → (F_C a).2.1 ≠ (F_C b).2.1 := by decide +kernel
theorem t_C_ok : ∀ k, k < 13 → parseFieldDescriptor (F_C k).2.2.1 = some (t_C k) := by decide +kernel
def R_X : String := "ChordPoints"
def F_X : u_T := fun k => match k with
  | 0 => ("ChordPoints", "slots", "[LChordPoints$Point;", true)
  | 1 => ("ChordPoints", "equation", "LChordPoints$Equation;", true)
  | 2 => ("ChordPoints", "chords", "LChordPoints$Chords;", true)
  | 3 => ("ChordPoints", "entry", "LChordPoints$Entry;", true)
  | 4 => ("ChordPoints", "made", "LChordPoints$Point;", true)
  | 5 => ("ChordPoints", "halfway", "LChordPoints$Point;", true)
  | _ => ("ChordPoints", "base", "LChordPoints$Point;", true)
def t_X : Nat → FieldType := fun k => match k with
  | 0 => .array (.object "ChordPoints$Point")
  | 1 => .object "ChordPoints$Equation"
  | 2 => .object "ChordPoints$Chords"
  | 3 => .object "ChordPoints$Entry"
  | 4 => .object "ChordPoints$Point"
  | 5 => .object "ChordPoints$Point"
  | _ => .object "ChordPoints$Point"
theorem n_X : ∀ a, a < 7 → ∀ b, b < 7 → a ≠ b → (F_X a).2.1 ≠ (F_X b).2.1 := by decide +kernel
theorem t_X_ok : ∀ k, k < 7 → parseFieldDescriptor (F_X k).2.2.1 = some (t_X k) := by decide +kernel
abbrev vwCl : List vw_C := [(R_M, F_M, 5), (R_N, F_N, 3), (R_P, F_P, 6), (R_Q, F_Q, 10), (R_R, F_R, 5), (R_D, F_D, 10), (R_E, F_E, 10), (R_C, F_C, 13), (R_X, F_X, 7)]
abbrev zTysOf (g : Nat → ClassId) : List (ClassId × FieldType) := [(g 0, .int), (g 1, .boolean), (g 2, .object "ChordPoints$Point")]
def powN (j : Nat) : Nat := 10 ^ j
/-- the one static array: POWERS, as the Statement gives it -/
def zT (A : Nat → Prop) (U : State) (H : Heap) : Prop := ∃ t : Nat, va_Z "ChordPoints" "POWERS" "[I" (.ref t) A U H ∧ va_T .int t 10 (fun j => .int (nI (powN j))) A U H
theorem zT_moved {A : Nat → Prop} {u U : State} {H : Heap} (hvm : u.vm.Alike U.vm) (h : zT A u H) : zT A U H := by
  obtain ⟨t, h1, h2⟩ := h
  exact ⟨t, h1.moved hvm, h2.moved hvm⟩
theorem zT_kept {A : Nat → Prop} {U : State} {H H1 : Heap} (h : zT A U H) (hq : ∀ a : Nat, a < H.size → ¬ A a → H1[a]? = H[a]?) : zT A U H1 := by
  obtain ⟨t, h1, h2⟩ := h
  exact ⟨t, h1.kept hq, h2.kept hq⟩
abbrev b_X_init : ByteArray := prog_1_method_1_code
def y_X_init : MethodName := ⟨R_X, "<init>", "()V"⟩
abbrev b_R_init : ByteArray := prog_8_method_1_code
def y_R_init : MethodName := ⟨R_R, "<init>", "()V"⟩
abbrev b_N_init : ByteArray := prog_6_method_1_code
def y_N_init : MethodName := ⟨R_N, "<init>", "(I)V"⟩
abbrev b_D_init : ByteArray := prog_3_method_1_code
def y_D_init : MethodName := ⟨R_D, "<init>", "(LChordPoints$Reckoner;)V"⟩
abbrev b_N_become_J : ByteArray := prog_6_method_3_code
def y_N_become_J : MethodName := ⟨R_N, "become", "(J)V"⟩
abbrev b_Q_init : ByteArray := prog_5_method_1_code
def y_Q_init : MethodName := ⟨R_Q, "<init>", "()V"⟩
abbrev b_Q_become : ByteArray := prog_5_method_2_code
def y_Q_become : MethodName := ⟨R_Q, "become", "(JJJJJ)V"⟩
abbrev b_Q_b4 : ByteArray := prog_5_method_4_code
def y_Q_b4 : MethodName := ⟨R_Q, "b4", "(JJJ)J"⟩
abbrev b_Q_b6 : ByteArray := prog_5_method_5_code
def y_Q_b6 : MethodName := ⟨R_Q, "b6", "(JJ)J"⟩
abbrev b_Q_b8 : ByteArray := prog_5_method_6_code
def y_Q_b8 : MethodName := ⟨R_Q, "b8", "(JJJJJ)J"⟩
abbrev b_C_init : ByteArray := prog_2_method_1_code
def y_C_init : MethodName := ⟨R_C, "<init>", "(LChordPoints$Equation;LChordPoints$Reckoner;LChordPoints$Divisors;)V"⟩
abbrev b_E_init : ByteArray := prog_4_method_1_code
def y_E_init : MethodName := ⟨R_E, "<init>", "(LChordPoints$Equation;LChordPoints$Reckoner;LChordPoints$Divisors;)V"⟩
abbrev b_P_init : ByteArray := prog_7_method_1_code
def y_P_init : MethodName := ⟨R_P, "<init>", "()V"⟩
abbrev b_X_curve : ByteArray := prog_1_method_2_code
def y_X_curve : MethodName := ⟨R_X, "curve", "(IIIII)I"⟩
abbrev b_X_isCoefficient : ByteArray := prog_1_method_15_code
def y_X_isCoefficient : MethodName := ⟨R_X, "isCoefficient", "(I)Z"⟩
abbrev b_E_isSingular : ByteArray := prog_4_method_5_code
def y_E_isSingular : MethodName := ⟨R_E, "isSingular", "(JJJJJ)Z"⟩
abbrev b_Q_b2 : ByteArray := prog_5_method_3_code
def y_Q_b2 : MethodName := ⟨R_Q, "b2", "(JJ)J"⟩
abbrev b_R_multiply : ByteArray := prog_8_method_7_code
def y_R_multiply : MethodName := ⟨R_R, "multiply", "(LChordPoints$Num;LChordPoints$Num;LChordPoints$Num;)V"⟩
abbrev b_R_lose : ByteArray := prog_8_method_17_code
def y_R_lose : MethodName := ⟨R_R, "lose", "(LChordPoints$Num;)V"⟩
abbrev b_N_becomeZero : ByteArray := prog_6_method_2_code
def y_N_becomeZero : MethodName := ⟨R_N, "becomeZero", "()V"⟩
abbrev b_R_store : ByteArray := prog_8_method_16_code
def y_R_store : MethodName := ⟨R_R, "store", "([IIZLChordPoints$Num;)V"⟩
abbrev b_R_subtractProduct : ByteArray := prog_8_method_9_code
def y_R_subtractProduct : MethodName := ⟨R_R, "subtractProduct", "(LChordPoints$Num;LChordPoints$Num;LChordPoints$Num;)V"⟩
abbrev b_R_addSigned : ByteArray := prog_8_method_4_code
def y_R_addSigned : MethodName := ⟨R_R, "addSigned", "(LChordPoints$Num;LChordPoints$Num;ZLChordPoints$Num;)V"⟩
abbrev b_R_addSizes : ByteArray := prog_8_method_5_code
def y_R_addSizes : MethodName := ⟨R_R, "addSizes", "(LChordPoints$Num;LChordPoints$Num;LChordPoints$Num;)V"⟩
abbrev b_N_limb : ByteArray := prog_6_method_10_code
def y_N_limb : MethodName := ⟨R_N, "limb", "(I)I"⟩
abbrev b_N_settle : ByteArray := prog_6_method_5_code
def y_N_settle : MethodName := ⟨R_N, "settle", "(IZ)V"⟩
abbrev b_N_compareSize : ByteArray := prog_6_method_9_code
def y_N_compareSize : MethodName := ⟨R_N, "compareSize", "(LChordPoints$Num;)I"⟩
abbrev b_R_subtractSizes : ByteArray := prog_8_method_6_code
def y_R_subtractSizes : MethodName := ⟨R_R, "subtractSizes", "(LChordPoints$Num;LChordPoints$Num;ZLChordPoints$Num;)V"⟩
abbrev b_N_isZero : ByteArray := prog_6_method_7_code
def y_N_isZero : MethodName := ⟨R_N, "isZero", "()Z"⟩
abbrev b_P_becomeNone : ByteArray := prog_7_method_2_code
def y_P_becomeNone : MethodName := ⟨R_P, "becomeNone", "()V"⟩
abbrev b_X_none : ByteArray := prog_1_method_3_code
def y_X_none : MethodName := ⟨R_X, "none", "(I)Z"⟩
abbrev b_X_isSlot : ByteArray := prog_1_method_14_code
def y_X_isSlot : MethodName := ⟨R_X, "isSlot", "(I)Z"⟩
abbrev b_X_point : ByteArray := prog_1_method_4_code
def y_X_point : MethodName := ⟨R_X, "point", "(IJJJJ)I"⟩
abbrev b_E_read : ByteArray := prog_4_method_2_code
def y_E_read : MethodName := ⟨R_E, "read", "(JJJJLChordPoints$Point;)Z"⟩
abbrev b_E_takeLowestTerms : ByteArray := prog_4_method_3_code
def y_E_takeLowestTerms : MethodName := ⟨R_E, "takeLowestTerms", "(JJLChordPoints$Num;LChordPoints$Num;)V"⟩
abbrev b_D_common : ByteArray := prog_3_method_2_code
def y_D_common : MethodName := ⟨R_D, "common", "(LChordPoints$Num;LChordPoints$Num;LChordPoints$Num;)V"⟩
abbrev b_N_become_N : ByteArray := prog_6_method_4_code
def y_N_become_N : MethodName := ⟨R_N, "become", "(LChordPoints$Num;)V"⟩
abbrev b_D_shorten : ByteArray := prog_3_method_3_code
def y_D_shorten : MethodName := ⟨R_D, "shorten", "()V"⟩
abbrev b_R_divide : ByteArray := prog_8_method_10_code
def y_R_divide : MethodName := ⟨R_R, "divide", "(LChordPoints$Num;LChordPoints$Num;LChordPoints$Num;LChordPoints$Num;)V"⟩
abbrev b_R_scaleUp : ByteArray := prog_8_method_11_code
def y_R_scaleUp : MethodName := ⟨R_R, "scaleUp", "(LChordPoints$Num;I[I)I"⟩
abbrev b_R_guessLimb : ByteArray := prog_8_method_13_code
def y_R_guessLimb : MethodName := ⟨R_R, "guessLimb", "(II)J"⟩
abbrev b_R_takeMultiple : ByteArray := prog_8_method_14_code
def y_R_takeMultiple : MethodName := ⟨R_R, "takeMultiple", "(JII)I"⟩
abbrev b_R_giveBack : ByteArray := prog_8_method_15_code
def y_R_giveBack : MethodName := ⟨R_R, "giveBack", "(II)V"⟩
abbrev b_R_scaleDown : ByteArray := prog_8_method_12_code
def y_R_scaleDown : MethodName := ⟨R_R, "scaleDown", "(II)V"⟩
abbrev b_D_followLeadingDigits : ByteArray := prog_3_method_5_code
def y_D_followLeadingDigits : MethodName := ⟨R_D, "followLeadingDigits", "()Z"⟩
abbrev b_N_limbDigits : ByteArray := prog_6_method_14_code
def y_N_limbDigits : MethodName := ⟨R_N, "limbDigits", "(I)I"⟩
abbrev b_D_leading : ByteArray := prog_3_method_6_code
def y_D_leading : MethodName := ⟨R_D, "leading", "(LChordPoints$Num;II)J"⟩
abbrev b_D_mix : ByteArray := prog_3_method_7_code
def y_D_mix : MethodName := ⟨R_D, "mix", "()V"⟩
abbrev b_N_lowPart : ByteArray := prog_6_method_11_code
def y_N_lowPart : MethodName := ⟨R_N, "lowPart", "()J"⟩
abbrev b_D_commonOfLongs : ByteArray := prog_3_method_4_code
def y_D_commonOfLongs : MethodName := ⟨R_D, "commonOfLongs", "(JJ)J"⟩
abbrev b_N_changeSign : ByteArray := prog_6_method_6_code
def y_N_changeSign : MethodName := ⟨R_N, "changeSign", "()V"⟩
abbrev b_E_isOnCurve : ByteArray := prog_4_method_4_code
def y_E_isOnCurve : MethodName := ⟨R_E, "isOnCurve", "()Z"⟩
abbrev b_R_addProduct : ByteArray := prog_8_method_8_code
def y_R_addProduct : MethodName := ⟨R_R, "addProduct", "(LChordPoints$Num;LChordPoints$Num;LChordPoints$Num;)V"⟩
abbrev b_N_isLike : ByteArray := prog_6_method_8_code
def y_N_isLike : MethodName := ⟨R_N, "isLike", "(LChordPoints$Num;)Z"⟩
abbrev b_X_sum : ByteArray := prog_1_method_5_code
def y_X_sum : MethodName := ⟨R_X, "sum", "(III)I"⟩
abbrev b_C_join : ByteArray := prog_2_method_3_code
def y_C_join : MethodName := ⟨R_C, "join", "(LChordPoints$Point;LChordPoints$Point;LChordPoints$Point;)Z"⟩
abbrev b_P_become : ByteArray := prog_7_method_3_code
def y_P_become : MethodName := ⟨R_P, "become", "(LChordPoints$Point;)V"⟩
abbrev b_C_measureGap : ByteArray := prog_2_method_4_code
def y_C_measureGap : MethodName := ⟨R_C, "measureGap", "(LChordPoints$Point;LChordPoints$Point;)V"⟩
abbrev b_R_subtract : ByteArray := prog_8_method_3_code
def y_R_subtract : MethodName := ⟨R_R, "subtract", "(LChordPoints$Num;LChordPoints$Num;LChordPoints$Num;)V"⟩
abbrev b_C_gatherHeights : ByteArray := prog_2_method_5_code
def y_C_gatherHeights : MethodName := ⟨R_C, "gatherHeights", "(LChordPoints$Point;LChordPoints$Point;)V"⟩
abbrev b_R_add : ByteArray := prog_8_method_2_code
def y_R_add : MethodName := ⟨R_R, "add", "(LChordPoints$Num;LChordPoints$Num;LChordPoints$Num;)V"⟩
abbrev b_C_drawChord : ByteArray := prog_2_method_6_code
def y_C_drawChord : MethodName := ⟨R_C, "drawChord", "(LChordPoints$Point;LChordPoints$Point;)V"⟩
abbrev b_P_isLike : ByteArray := prog_7_method_4_code
def y_P_isLike : MethodName := ⟨R_P, "isLike", "(LChordPoints$Point;)Z"⟩
abbrev b_C_drawTangent : ByteArray := prog_2_method_7_code
def y_C_drawTangent : MethodName := ⟨R_C, "drawTangent", "(LChordPoints$Point;)V"⟩
abbrev b_C_findShare : ByteArray := prog_2_method_8_code
def y_C_findShare : MethodName := ⟨R_C, "findShare", "()V"⟩
abbrev b_D_root : ByteArray := prog_3_method_8_code
def y_D_root : MethodName := ⟨R_D, "root", "(LChordPoints$Num;LChordPoints$Num;)V"⟩
abbrev b_N_digitCount : ByteArray := prog_6_method_12_code
def y_N_digitCount : MethodName := ⟨R_N, "digitCount", "()I"⟩
abbrev b_D_powerOfTen : ByteArray := prog_3_method_9_code
def y_D_powerOfTen : MethodName := ⟨R_D, "powerOfTen", "(ILChordPoints$Num;)V"⟩
abbrev b_C_placeX : ByteArray := prog_2_method_9_code
def y_C_placeX : MethodName := ⟨R_C, "placeX", "(LChordPoints$Point;)Z"⟩
abbrev b_C_placeY : ByteArray := prog_2_method_10_code
def y_C_placeY : MethodName := ⟨R_C, "placeY", "(LChordPoints$Point;LChordPoints$Point;LChordPoints$Point;)V"⟩
abbrev b_C_turnOver : ByteArray := prog_2_method_2_code
def y_C_turnOver : MethodName := ⟨R_C, "turnOver", "(LChordPoints$Point;)V"⟩
abbrev b_X_keep : ByteArray := prog_1_method_17_code
def y_X_keep : MethodName := ⟨R_X, "keep", "(LChordPoints$Point;I)I"⟩
abbrev b_P_isLongerThan : ByteArray := prog_7_method_7_code
def y_P_isLongerThan : MethodName := ⟨R_P, "isLongerThan", "(I)Z"⟩
abbrev b_P_isWiderThan : ByteArray := prog_7_method_6_code
def y_P_isWiderThan : MethodName := ⟨R_P, "isWiderThan", "(I)Z"⟩
abbrev b_X_less : ByteArray := prog_1_method_6_code
def y_X_less : MethodName := ⟨R_X, "less", "(III)I"⟩
abbrev b_X_times : ByteArray := prog_1_method_7_code
def y_X_times : MethodName := ⟨R_X, "times", "(III)I"⟩
abbrev b_X_order : ByteArray := prog_1_method_8_code
def y_X_order : MethodName := ⟨R_X, "order", "(I)I"⟩
abbrev b_X_isNone : ByteArray := prog_1_method_9_code
def y_X_isNone : MethodName := ⟨R_X, "isNone", "(I)Z"⟩
abbrev b_X_same : ByteArray := prog_1_method_10_code
def y_X_same : MethodName := ⟨R_X, "same", "(II)Z"⟩
abbrev b_X_digits : ByteArray := prog_1_method_11_code
def y_X_digits : MethodName := ⟨R_X, "digits", "(II)I"⟩
abbrev b_X_hasNumber : ByteArray := prog_1_method_16_code
def y_X_hasNumber : MethodName := ⟨R_X, "hasNumber", "(II)Z"⟩
abbrev b_P_number : ByteArray := prog_7_method_5_code
def y_P_number : MethodName := ⟨R_P, "number", "(I)LChordPoints$Num;"⟩
abbrev b_X_digitAt : ByteArray := prog_1_method_12_code
def y_X_digitAt : MethodName := ⟨R_X, "digitAt", "(III)I"⟩
abbrev b_N_digitAbove : ByteArray := prog_6_method_13_code
def y_N_digitAbove : MethodName := ⟨R_N, "digitAbove", "(I)I"⟩
abbrev b_X_sign : ByteArray := prog_1_method_13_code
def y_X_sign : MethodName := ⟨R_X, "sign", "(II)I"⟩
abbrev b_M_init : ByteArray := prog_10_method_1_code
def y_M_init : MethodName := ⟨R_M, "<init>", "()V"⟩
abbrev b_M_forget : ByteArray := prog_10_method_3_code
def y_M_forget : MethodName := ⟨R_M, "forget", "()V"⟩
abbrev b_M_set : ByteArray := prog_10_method_4_code
def y_M_set : MethodName := ⟨R_M, "set", "(IJ)V"⟩
abbrev b_M_curve : ByteArray := prog_10_method_20_code
def y_M_curve : MethodName := ⟨R_M, "curve", "(IIIII)I"⟩
abbrev b_M_isIn : ByteArray := prog_10_method_21_code
def y_M_isIn : MethodName := ⟨R_M, "isIn", "(I)Z"⟩
abbrev b_M_product : ByteArray := prog_10_method_22_code
def y_M_product : MethodName := ⟨R_M, "product", "(IJJJJ)V"⟩
abbrev b_M_multiply : ByteArray := prog_10_method_12_code
def y_M_multiply : MethodName := ⟨R_M, "multiply", "(III)V"⟩
abbrev b_M_trim : ByteArray := prog_10_method_6_code
def y_M_trim : MethodName := ⟨R_M, "trim", "(II)V"⟩
abbrev b_M_add : ByteArray := prog_10_method_9_code
def y_M_add : MethodName := ⟨R_M, "add", "(IIII)V"⟩
abbrev b_M_copy : ByteArray := prog_10_method_5_code
def y_M_copy : MethodName := ⟨R_M, "copy", "(II)V"⟩
abbrev b_M_addSizes : ByteArray := prog_10_method_10_code
def y_M_addSizes : MethodName := ⟨R_M, "addSizes", "(III)V"⟩
abbrev b_M_compare : ByteArray := prog_10_method_7_code
def y_M_compare : MethodName := ⟨R_M, "compare", "(II)I"⟩
abbrev b_M_takeSizes : ByteArray := prog_10_method_11_code
def y_M_takeSizes : MethodName := ⟨R_M, "takeSizes", "(IIII)V"⟩
abbrev b_M_none : ByteArray := prog_10_method_25_code
def y_M_none : MethodName := ⟨R_M, "none", "(I)Z"⟩
abbrev b_M_isSlot : ByteArray := prog_10_method_23_code
def y_M_isSlot : MethodName := ⟨R_M, "isSlot", "(I)Z"⟩
abbrev b_M_point : ByteArray := prog_10_method_27_code
def y_M_point : MethodName := ⟨R_M, "point", "(IJJJJ)I"⟩
abbrev b_M_fraction : ByteArray := prog_10_method_28_code
def y_M_fraction : MethodName := ⟨R_M, "fraction", "(IIJJ)V"⟩
abbrev b_M_common : ByteArray := prog_10_method_17_code
def y_M_common : MethodName := ⟨R_M, "common", "(II)V"⟩
abbrev b_M_divide : ByteArray := prog_10_method_15_code
def y_M_divide : MethodName := ⟨R_M, "divide", "(III)V"⟩
abbrev b_M_timesSmall : ByteArray := prog_10_method_13_code
def y_M_timesSmall : MethodName := ⟨R_M, "timesSmall", "(IJ)V"⟩
abbrev b_M_place : ByteArray := prog_10_method_16_code
def y_M_place : MethodName := ⟨R_M, "place", "(IIII)I"⟩
abbrev b_M_bySmall : ByteArray := prog_10_method_14_code
def y_M_bySmall : MethodName := ⟨R_M, "bySmall", "(II)V"⟩
abbrev b_M_share : ByteArray := prog_10_method_18_code
def y_M_share : MethodName := ⟨R_M, "share", "(III)V"⟩
abbrev b_M_more : ByteArray := prog_10_method_26_code
def y_M_more : MethodName := ⟨R_M, "more", "(IIII)V"⟩
abbrev b_M_isSame : ByteArray := prog_10_method_8_code
def y_M_isSame : MethodName := ⟨R_M, "isSame", "(II)Z"⟩
abbrev b_M_move : ByteArray := prog_10_method_24_code
def y_M_move : MethodName := ⟨R_M, "move", "(II)V"⟩
abbrev b_M_sum : ByteArray := prog_10_method_36_code
def y_M_sum : MethodName := ⟨R_M, "sum", "(III)I"⟩
abbrev b_M_join : ByteArray := prog_10_method_29_code
def y_M_join : MethodName := ⟨R_M, "join", "()V"⟩
abbrev b_M_isOther : ByteArray := prog_10_method_30_code
def y_M_isOther : MethodName := ⟨R_M, "isOther", "()Z"⟩
abbrev b_M_touch : ByteArray := prog_10_method_31_code
def y_M_touch : MethodName := ⟨R_M, "touch", "()V"⟩
abbrev b_M_finish : ByteArray := prog_10_method_32_code
def y_M_finish : MethodName := ⟨R_M, "finish", "()V"⟩
abbrev b_M_settle : ByteArray := prog_10_method_35_code
def y_M_settle : MethodName := ⟨R_M, "settle", "(I)I"⟩
abbrev b_M_isTooLong : ByteArray := prog_10_method_34_code
def y_M_isTooLong : MethodName := ⟨R_M, "isTooLong", "(I)Z"⟩
abbrev b_M_digitsOf : ByteArray := prog_10_method_19_code
def y_M_digitsOf : MethodName := ⟨R_M, "digitsOf", "(I)I"⟩
abbrev b_M_less : ByteArray := prog_10_method_37_code
def y_M_less : MethodName := ⟨R_M, "less", "(III)I"⟩
abbrev b_M_turn : ByteArray := prog_10_method_33_code
def y_M_turn : MethodName := ⟨R_M, "turn", "(I)V"⟩
abbrev b_M_times : ByteArray := prog_10_method_39_code
def y_M_times : MethodName := ⟨R_M, "times", "(III)I"⟩
abbrev b_M_isFar : ByteArray := prog_10_method_38_code
def y_M_isFar : MethodName := ⟨R_M, "isFar", "()Z"⟩
abbrev b_M_order : ByteArray := prog_10_method_40_code
def y_M_order : MethodName := ⟨R_M, "order", "(I)I"⟩
abbrev b_M_isNone : ByteArray := prog_10_method_41_code
def y_M_isNone : MethodName := ⟨R_M, "isNone", "(I)Z"⟩
abbrev b_M_same : ByteArray := prog_10_method_42_code
def y_M_same : MethodName := ⟨R_M, "same", "(II)Z"⟩
abbrev b_M_digits : ByteArray := prog_10_method_44_code
def y_M_digits : MethodName := ⟨R_M, "digits", "(II)I"⟩
abbrev b_M_take : ByteArray := prog_10_method_43_code
def y_M_take : MethodName := ⟨R_M, "take", "(II)Z"⟩
abbrev b_M_digitAt : ByteArray := prog_10_method_45_code
def y_M_digitAt : MethodName := ⟨R_M, "digitAt", "(III)I"⟩
abbrev b_M_sign : ByteArray := prog_10_method_46_code
def y_M_sign : MethodName := ⟨R_M, "sign", "(II)I"⟩
end
section
/-! THE Z LAYER: the heap as a function on addresses, from the cell b0 on; one world for all methods; a row an instruction, with everything fixed hidden in zC -/
abbrev zH : Type := Nat × (Nat → va_E)
def z_L (b0 sz : Nat) : List Nat := List.range' b0 (sz - b0)
theorem z_mem {b0 sz a : Nat} : a ∈ z_L b0 sz ↔ b0 ≤ a ∧ a < sz := by
  simp only [z_L, List.mem_range'_1]; omega
abbrev z_A (b0 : Nat) : Nat → Prop := fun q => b0 ≤ q
abbrev z_W (b0 : Nat) (h : zH) : va_W := va_pl (z_L b0 h.1) h.2
theorem z_Wget {b0 : Nat} {h : zH} {a : Nat} (h1 : b0 ≤ a) (h2 : a < h.1) : (z_W b0 h)[a - b0]? = some (a, h.2 a) := by
  have hlt : a - b0 < h.1 - b0 := by omega
  simp only [z_W, va_pl, z_L, List.getElem?_map, List.getElem?_range' hlt, Option.map_some, Nat.one_mul, show b0 + (a - b0) = a by omega]
theorem z_Wat {b0 : Nat} {h : zH} {i : Nat} {q : Nat × va_E} (hq : (z_W b0 h)[i]? = some q) : q = (b0 + i, h.2 (b0 + i)) ∧ b0 + i < h.1 := by
  simp only [z_W, va_pl, z_L, List.getElem?_map, Option.map_eq_some_iff] at hq
  obtain ⟨a, ha, rfl⟩ := hq
  have hlt : i < h.1 - b0 := by simpa using (List.getElem?_eq_some_iff.mp ha).1
  rw [List.getElem?_range' hlt] at ha
  have := Option.some.inj ha
  simp only [Nat.one_mul] at this
  subst this
  exact ⟨rfl, by omega⟩
theorem z_D (b0 : Nat) (h : zH) : va_D (z_A b0) (z_W b0 h) := by
  refine ⟨fun i j p q hp hq he => ?_, fun k q hq => ?_⟩
  · have h1 := (z_Wat hp).1
    have h2 := (z_Wat hq).1
    rw [h1, h2] at he
    simp only at he
    omega
  · rw [(z_Wat hq).1]
    show b0 ≤ b0 + k
    omega
theorem z_Wset {b0 : Nat} {h : zH} {a : Nat} {v : va_E} (h1 : b0 ≤ a) (h2 : a < h.1) : (z_W b0 h).set (a - b0) (a, v) = z_W b0 (h.1, va_up h.2 a v) := by
  have e := va_pl_set (A := z_A b0) (X := []) (L := z_L b0 h.1) (f := h.2) (a := a) (k := a - b0) (e := v) (z_D b0 h) (z_mem.mpr ⟨h1, h2⟩) (z_Wget h1 h2)
  exact e
theorem z_Wpush {b0 : Nat} {h : zH} {v : va_E} (h1 : b0 ≤ h.1) : z_W b0 h ++ [(h.1, v)] = z_W b0 (h.1 + 1, va_up h.2 h.1 v) := by
  have e := va_pl_push (L := z_L b0 h.1) (f := h.2) (a := h.1) (e := v) (fun q => by have := (z_mem.mp q).2; omega)
  show va_pl (z_L b0 h.1) h.2 ++ [(h.1, v)] = va_pl (z_L b0 (h.1 + 1)) (va_up h.2 h.1 v)
  rw [e]
  congr 1
  simp only [z_L]
  rw [show h.1 + 1 - b0 = (h.1 - b0) + 1 by omega, List.range'_concat]
  simp only [Nat.one_mul, show b0 + (h.1 - b0) = h.1 by omega]
/-- what is not there: no class has this number -/
def z_junk : va_E := .inr (4294967295, [])
def z_wf (b0 : Nat) (h : zH) : Prop := b0 ≤ h.1 ∧ ∀ a : Nat, a < b0 ∨ h.1 ≤ a → h.2 a = z_junk
theorem z_in {b0 : Nat} {h : zH} {a ci : Nat} {fs : List Value} (hw : z_wf b0 h) (hf : h.2 a = .inr (ci, fs)) (hc : ci < 4294967295) : b0 ≤ a ∧ a < h.1 := by
  by_cases h1 : a < b0 ∨ h.1 ≤ a
  · rw [hw.2 a h1, z_junk] at hf
    cases hf
    omega
  · omega
theorem z_inl {b0 : Nat} {h : zH} {a : Nat} {x : ClassId × vp_A} (hw : z_wf b0 h) (hf : h.2 a = .inl x) : b0 ≤ a ∧ a < h.1 := by
  by_cases h1 : a < b0 ∨ h.1 ≤ a
  · rw [hw.2 a h1, z_junk] at hf
    cases hf
  · omega
theorem z_wf_up {b0 : Nat} {h : zH} {a : Nat} {v : va_E} (hw : z_wf b0 h) (h1 : b0 ≤ a) (h2 : a < h.1) : z_wf b0 (h.1, va_up h.2 a v) :=
  ⟨hw.1, fun q hq => by
    show va_up h.2 a v q = z_junk
    rw [va_up_ne _ _ (by have : q < b0 ∨ h.1 ≤ q := hq; omega)]
    exact hw.2 q hq⟩
theorem z_wf_push {b0 : Nat} {h : zH} {v : va_E} (hw : z_wf b0 h) : z_wf b0 (h.1 + 1, va_up h.2 h.1 v) :=
  ⟨Nat.le_succ_of_le hw.1, fun q hq => by
    show va_up h.2 h.1 v q = z_junk
    have hq2 : q < b0 ∨ h.1 + 1 ≤ q := hq
    have := hw.1
    rw [va_up_ne _ _ (by omega)]
    exact hw.2 q (by omega)⟩
-- the locals by their numbers
def zl : List (Nat × Value) → Nat → Option Value
  | [], _ => none
  | (j, v) :: t, i => bif Nat.beq j i then some v else zl t i
theorem zl_mem {lv : List (Nat × Value)} {i : Nat} {v : Value} (h : zl lv i = some v) : (i, v) ∈ lv := by
  induction lv with
  | nil => cases h
  | cons q t ih =>
    obtain ⟨j, w⟩ := q
    simp only [zl] at h
    cases hb : Nat.beq j i with
    | true =>
      rw [hb] at h
      have e : j = i := Nat.eq_of_beq_eq_true hb
      cases h
      subst e
      exact List.mem_cons_self
    | false =>
      rw [hb] at h
      exact List.mem_cons_of_mem _ (ih h)
theorem zl_get {lv : List (Nat × Value)} {i : Nat} {v : Value} (h : zl lv i = some v) : ∃ k : Nat, lv[k]? = some (i, v) := List.getElem?_of_mem (zl_mem h)
theorem zl_at {ls : Array Slot} {nL : Nat} {lv : List (Nat × Value)} {i : Nat} {v : Value} (h : lv_has ls nL lv) (hl : zl lv i = some v) : ls[i]? = some (.val v) := h.2.2 (i, v) (zl_mem hl)
def zs1 (i : Nat) (v : Value) (lv : List (Nat × Value)) : List (Nat × Value) := (i, v) :: lv.filter (fun q => !(q.1 == i) && !(q.1 + 1 == i && q.2.category == 2))
def zs2 (i : Nat) (v : Value) (lv : List (Nat × Value)) : List (Nat × Value) := (i, v) :: lv.filter (fun q => !(q.1 == i) && (!(q.1 == i + 1) && !(q.1 + 1 == i && q.2.category == 2)))
def zpick (lv : List (Nat × Value)) : List Nat → List (Nat × Value)
  | [] => []
  | i :: t => match zl lv i with
    | some v => (i, v) :: zpick lv t
    | none => zpick lv t
theorem zpick_mem {lv : List (Nat × Value)} : ∀ {is : List Nat} {q : Nat × Value}, q ∈ zpick lv is → q ∈ lv
  | [], _, h => by cases h
  | i :: t, q, h => by
    simp only [zpick] at h
    cases hz : zl lv i with
    | none => rw [hz] at h; exact zpick_mem h
    | some v =>
      rw [hz] at h
      rcases List.mem_cons.mp h with rfl | h
      · exact zl_mem hz
      · exact zpick_mem h
theorem zl_sub {ls : Array Slot} {nL : Nat} {lv lv' : List (Nat × Value)} (h : lv_has ls nL lv) (is : List Nat) (hl : zpick lv is = lv') : lv_has ls nL lv' :=
  ⟨h.1, h.2.1, fun q hq => h.2.2 q (zpick_mem (is := is) (hl ▸ hq))⟩
abbrev zG : Type := va_G × (Nat → ClassId)
abbrev zTys (G : zG) : List (ClassId × FieldType) := zTysOf G.2
/-- the tables' words that a callee keeps -/
def zTb : List Cond := lw_tbl.filter goodWord
theorem zTb_good : GoodIn zTb zTb := fun w hw => ⟨hw, good_of_word (List.mem_filter.mp hw).2⟩
theorem zTb_tbl {w : Cond} (h : w ∈ zTb) : w ∈ lw_tbl := (List.mem_filter.mp h).1
def zNk : Cond → Bool
  | .fieldLinkNest .. => true
  | .methodLinkNest .. => true
  | _ => false
/-- the words of nest mates -/
def zN : List Cond := lw_tbl.filter zNk
theorem zN_on {w : Cond} (h : w ∈ zN) : w.onTables = true := by
  have h2 := (List.mem_filter.mp h).2
  cases w <;> first | rfl | (simp [zNk] at h2; done)
theorem zN_warm {w : Cond} (h : w ∈ zN) {s U : State} (hW : s.WarmedH U.vm) (hZ : va_Nw w s) : va_Nw w U := by
  have h2 := (List.mem_filter.mp h).2
  cases w <;> first | exact va_Nw.warmF hW hZ | exact va_Nw.warmM hW hZ | (simp [zNk] at h2; done)
def zC (p : Program) (s : State) (m : MethodId) (args : Array Value) (c : Code) (cc : ByteArray) (own : String) (nL b0 : Nat) (G : zG) : Prop :=
  p.tables.exec = Jvm.exec ∧ c.code = cc ∧ c.maxLocals = nL ∧ s.vm.findClass own = some m.cls ∧ (∀ w ∈ zTb, w.before args s = true) ∧ va_K G.1 vwCl (zTys G) s ∧ (∀ w ∈ zN, va_Nw w s) ∧ zT (z_A b0) s s.heap ∧ b0 ≤ s.heap.size
def zW (p : Program) (l : Launch) (e : Env) (R : Room) (s : State) (m : MethodId) (args : Array Value) (below : List Frame) (meth : Method) (c : Code) (nL b0 : Nat) (G : zG) (k n : Nat) (Q : State → Prop) (h : zH) (pc : Nat) (lv : List (Nat × Value)) (st : List Value) : Prop :=
  ∀ (H : Heap) (locs : List Loc) (ls : Array Slot), z_wf b0 h → H.size = h.1 → va_P G.1 vwCl (z_W b0 h) H → va_S (z_A b0) s.heap H locs → lv_has ls nL lv → W p l e R s m args below meth c H locs k n Q (F0 m pc ls st)
/-- what is known of a class of the world -/
def zCl (ci : Nat) (C : String) (T : u_T) (N : Nat) (ty : Nat → FieldType) : Prop :=
  vwCl[ci]? = some (C, T, N) ∧ ci < 4294967295 ∧ (∀ w ∈ u_ws C T N, w ∈ zTb) ∧ (∀ k, k < N → parseFieldDescriptor (T k).2.2.1 = some (ty k)) ∧ (∀ a, a < N → ∀ b, b < N → a ≠ b → (T a).2.1 ≠ (T b).2.1)
/-- field number k of class ci, as the class 'own' names it at 'index' -/
def zFd (own : String) (index ci k : Nat) (fty : FieldType) (fin : Bool) : Prop :=
  ∃ (C : String) (T : u_T) (N : Nat) (ty : Nat → FieldType), zCl ci C T N ty ∧ k < N ∧ ty k = fty ∧ (T k).2.2.2 = fin ∧
    (Cond.fieldLink own index (T k).1 (T k).2.1 (T k).2.2.1 ∈ zTb ∨ ∃ host, Cond.fieldLinkNest own index (T k).1 (T k).2.1 (T k).2.2.1 host ∈ zN)
/-- the same, of a final field in its class's own constructor -/
def zFf (own : String) (index ci k : Nat) (fty : FieldType) : Prop :=
  ∃ (C : String) (T : u_T) (N : Nat) (ty : Nat → FieldType), zCl ci C T N ty ∧ k < N ∧ ty k = fty ∧ (T k).2.2.2 = true ∧ (T k).1 = own ∧ Cond.fieldLink own index (T k).1 (T k).2.1 (T k).2.2.1 ∈ zTb
section ZL
variable {p : Program} {l : Launch} {e : Env} {R : Room} {s : State} {m : MethodId} {args : Array Value} {below : List Frame} {meth : Method} {c : Code} {Q : State → Prop}
variable {cc : ByteArray} {own : String} {nL b0 pc k n : Nat} {G : zG} {h : zH} {lv : List (Nat × Value)} {st : List Value}
theorem z_iconst (K : zC p s m args c cc own nL b0 G) {a : Int} {v : Int32} (hd : decode cc pc = .ok (.iconst a, 1)) (hv : Int32.ofInt a = v) (kk : zW p l e R s m args below meth c nL b0 G k n Q h (pc + 1) lv (.int v :: st)) : zW p l e R s m args below meth c nL b0 G k n Q h pc lv (st) :=
  fun H locs ls h0 h1 h2 h3 h4 => lv_iconst K.1 K.2.1 hd hv (kk H locs ls h0 h1 h2 h3 h4)
theorem z_bipush (K : zC p s m args c cc own nL b0 G) {a : Int} {v : Int32} (hd : decode cc pc = .ok (.bipush a, 2)) (hv : (Int8.ofInt a).toInt32 = v) (kk : zW p l e R s m args below meth c nL b0 G k n Q h (pc + 2) lv (.int v :: st)) : zW p l e R s m args below meth c nL b0 G k n Q h pc lv (st) :=
  fun H locs ls h0 h1 h2 h3 h4 => lv_bipush K.1 K.2.1 hd hv (kk H locs ls h0 h1 h2 h3 h4)
theorem z_sipush (K : zC p s m args c cc own nL b0 G) {a : Int} {v : Int32} (hd : decode cc pc = .ok (.sipush a, 3)) (hv : (Int16.ofInt a).toInt32 = v) (kk : zW p l e R s m args below meth c nL b0 G k n Q h (pc + 3) lv (.int v :: st)) : zW p l e R s m args below meth c nL b0 G k n Q h pc lv (st) :=
  fun H locs ls h0 h1 h2 h3 h4 => lv_sipush K.1 K.2.1 hd hv (kk H locs ls h0 h1 h2 h3 h4)
theorem z_lconst (K : zC p s m args c cc own nL b0 G) {a : Fin 2} {v : Int64} (hd : decode cc pc = .ok (.lconst a, 1)) (hv : Int64.ofNat (a : Nat) = v) (kk : zW p l e R s m args below meth c nL b0 G k n Q h (pc + 1) lv (.long v :: st)) : zW p l e R s m args below meth c nL b0 G k n Q h pc lv (st) :=
  fun H locs ls h0 h1 h2 h3 h4 => lv_lconst K.1 K.2.1 hd hv (kk H locs ls h0 h1 h2 h3 h4)
theorem z_null (K : zC p s m args c cc own nL b0 G)  (hd : decode cc pc = .ok (.aconst_null, 1))  (kk : zW p l e R s m args below meth c nL b0 G k n Q h (pc + 1) lv (.null :: st)) : zW p l e R s m args below meth c nL b0 G k n Q h pc lv (st) :=
  fun H locs ls h0 h1 h2 h3 h4 => lv_null K.1 K.2.1 hd  (kk H locs ls h0 h1 h2 h3 h4)
theorem z_iload_n (K : zC p s m args c cc own nL b0 G) {a : Fin 4} {x : Int32} (hd : decode cc pc = .ok (.iload_n a, 1)) (hl : zl lv a = some (.int x)) (kk : zW p l e R s m args below meth c nL b0 G k n Q h (pc + 1) lv (.int x :: st)) : zW p l e R s m args below meth c nL b0 G k n Q h pc lv st :=
  fun H locs ls h0 h1 h2 h3 h4 => lv_iload_n K.1 K.2.1 hd rfl (zl_at h4 hl) (kk H locs ls h0 h1 h2 h3 h4)
theorem z_iload (K : zC p s m args c cc own nL b0 G) {a : Nat} {x : Int32} (hd : decode cc pc = .ok (.iload a, 2)) (hl : zl lv a = some (.int x)) (kk : zW p l e R s m args below meth c nL b0 G k n Q h (pc + 2) lv (.int x :: st)) : zW p l e R s m args below meth c nL b0 G k n Q h pc lv st :=
  fun H locs ls h0 h1 h2 h3 h4 => lv_iload K.1 K.2.1 hd (zl_at h4 hl) (kk H locs ls h0 h1 h2 h3 h4)
theorem z_istore_n (K : zC p s m args c cc own nL b0 G) {a : Fin 4} {x : Int32} (hd : decode cc pc = .ok (.istore_n a, 1)) (hn : (a : Nat) < nL) (kk : zW p l e R s m args below meth c nL b0 G k n Q h (pc + 1) (zs1 a (.int x) lv) st) : zW p l e R s m args below meth c nL b0 G k n Q h pc lv (.int x :: st) :=
  fun H locs ls h0 h1 h2 h3 h4 => lv_istore_n K.1 K.2.1 hd rfl h4 hn rfl (fun ls' h4' => kk H locs ls' h0 h1 h2 h3 h4')
theorem z_istore (K : zC p s m args c cc own nL b0 G) {a : Nat} {x : Int32} (hd : decode cc pc = .ok (.istore a, 2)) (hn : a < nL) (kk : zW p l e R s m args below meth c nL b0 G k n Q h (pc + 2) (zs1 a (.int x) lv) st) : zW p l e R s m args below meth c nL b0 G k n Q h pc lv (.int x :: st) :=
  fun H locs ls h0 h1 h2 h3 h4 => lv_istore K.1 K.2.1 hd h4 hn rfl (fun ls' h4' => kk H locs ls' h0 h1 h2 h3 h4')
theorem z_lload_n (K : zC p s m args c cc own nL b0 G) {a : Fin 4} {x : Int64} (hd : decode cc pc = .ok (.lload_n a, 1)) (hl : zl lv a = some (.long x)) (kk : zW p l e R s m args below meth c nL b0 G k n Q h (pc + 1) lv (.long x :: st)) : zW p l e R s m args below meth c nL b0 G k n Q h pc lv st :=
  fun H locs ls h0 h1 h2 h3 h4 => lv_lload_n K.1 K.2.1 hd rfl (zl_at h4 hl) (kk H locs ls h0 h1 h2 h3 h4)
theorem z_lload (K : zC p s m args c cc own nL b0 G) {a : Nat} {x : Int64} (hd : decode cc pc = .ok (.lload a, 2)) (hl : zl lv a = some (.long x)) (kk : zW p l e R s m args below meth c nL b0 G k n Q h (pc + 2) lv (.long x :: st)) : zW p l e R s m args below meth c nL b0 G k n Q h pc lv st :=
  fun H locs ls h0 h1 h2 h3 h4 => lv_lload K.1 K.2.1 hd (zl_at h4 hl) (kk H locs ls h0 h1 h2 h3 h4)
theorem z_lstore_n (K : zC p s m args c cc own nL b0 G) {a : Fin 4} {x : Int64} (hd : decode cc pc = .ok (.lstore_n a, 1)) (hn : (a : Nat) + 1 < nL) (kk : zW p l e R s m args below meth c nL b0 G k n Q h (pc + 1) (zs2 a (.long x) lv) st) : zW p l e R s m args below meth c nL b0 G k n Q h pc lv (.long x :: st) :=
  fun H locs ls h0 h1 h2 h3 h4 => lv_lstore_n K.1 K.2.1 hd rfl h4 hn rfl (fun ls' h4' => kk H locs ls' h0 h1 h2 h3 h4')
theorem z_lstore (K : zC p s m args c cc own nL b0 G) {a : Nat} {x : Int64} (hd : decode cc pc = .ok (.lstore a, 2)) (hn : a + 1 < nL) (kk : zW p l e R s m args below meth c nL b0 G k n Q h (pc + 2) (zs2 a (.long x) lv) st) : zW p l e R s m args below meth c nL b0 G k n Q h pc lv (.long x :: st) :=
  fun H locs ls h0 h1 h2 h3 h4 => lv_lstore K.1 K.2.1 hd h4 hn rfl (fun ls' h4' => kk H locs ls' h0 h1 h2 h3 h4')
theorem z_aload_n (K : zC p s m args c cc own nL b0 G) {a : Fin 4} {x : Nat} (hd : decode cc pc = .ok (.aload_n a, 1)) (hl : zl lv a = some (.ref x)) (kk : zW p l e R s m args below meth c nL b0 G k n Q h (pc + 1) lv (.ref x :: st)) : zW p l e R s m args below meth c nL b0 G k n Q h pc lv st :=
  fun H locs ls h0 h1 h2 h3 h4 => lv_aload_n K.1 K.2.1 hd rfl (zl_at h4 hl) (kk H locs ls h0 h1 h2 h3 h4)
theorem z_aload (K : zC p s m args c cc own nL b0 G) {a : Nat} {x : Nat} (hd : decode cc pc = .ok (.aload a, 2)) (hl : zl lv a = some (.ref x)) (kk : zW p l e R s m args below meth c nL b0 G k n Q h (pc + 2) lv (.ref x :: st)) : zW p l e R s m args below meth c nL b0 G k n Q h pc lv st :=
  fun H locs ls h0 h1 h2 h3 h4 => lv_aload K.1 K.2.1 hd (zl_at h4 hl) (kk H locs ls h0 h1 h2 h3 h4)
theorem z_astore_n (K : zC p s m args c cc own nL b0 G) {a : Fin 4} {x : Nat} (hd : decode cc pc = .ok (.astore_n a, 1)) (hn : (a : Nat) < nL) (kk : zW p l e R s m args below meth c nL b0 G k n Q h (pc + 1) (zs1 a (.ref x) lv) st) : zW p l e R s m args below meth c nL b0 G k n Q h pc lv (.ref x :: st) :=
  fun H locs ls h0 h1 h2 h3 h4 => lv_astore_n K.1 K.2.1 hd rfl h4 hn rfl (fun ls' h4' => kk H locs ls' h0 h1 h2 h3 h4')
theorem z_astore (K : zC p s m args c cc own nL b0 G) {a : Nat} {x : Nat} (hd : decode cc pc = .ok (.astore a, 2)) (hn : a < nL) (kk : zW p l e R s m args below meth c nL b0 G k n Q h (pc + 2) (zs1 a (.ref x) lv) st) : zW p l e R s m args below meth c nL b0 G k n Q h pc lv (.ref x :: st) :=
  fun H locs ls h0 h1 h2 h3 h4 => lv_astore K.1 K.2.1 hd h4 hn rfl (fun ls' h4' => kk H locs ls' h0 h1 h2 h3 h4')
theorem z_iinc (K : zC p s m args c cc own nL b0 G) {a : Nat} {j : Int} {x : Int32} (hd : decode cc pc = .ok (.iinc a j, 3)) (hl : zl lv a = some (.int x)) (hn : a < nL) (kk : zW p l e R s m args below meth c nL b0 G k n Q h (pc + 3) (zs1 a (.int (x + Int32.ofInt j)) lv) st) : zW p l e R s m args below meth c nL b0 G k n Q h pc lv st :=
  fun H locs ls h0 h1 h2 h3 h4 => by
    obtain ⟨q, hq⟩ := zl_get hl
    exact lv_iinc K.1 K.2.1 hd h4 hq rfl hn rfl (fun ls' h4' => kk H locs ls' h0 h1 h2 h3 h4')
theorem z_iadd (K : zC p s m args c cc own nL b0 G) {x y : Int32} (hd : decode cc pc = .ok (.iadd, 1))  (kk : zW p l e R s m args below meth c nL b0 G k n Q h (pc + 1) lv (.int (x + y) :: st)) : zW p l e R s m args below meth c nL b0 G k n Q h pc lv (.int y :: .int x :: st) :=
  fun H locs ls h0 h1 h2 h3 h4 => lv_iadd K.1 K.2.1 hd  (kk H locs ls h0 h1 h2 h3 h4)
theorem z_isub (K : zC p s m args c cc own nL b0 G) {x y : Int32} (hd : decode cc pc = .ok (.isub, 1))  (kk : zW p l e R s m args below meth c nL b0 G k n Q h (pc + 1) lv (.int (x - y) :: st)) : zW p l e R s m args below meth c nL b0 G k n Q h pc lv (.int y :: .int x :: st) :=
  fun H locs ls h0 h1 h2 h3 h4 => lv_isub K.1 K.2.1 hd  (kk H locs ls h0 h1 h2 h3 h4)
theorem z_imul (K : zC p s m args c cc own nL b0 G) {x y : Int32} (hd : decode cc pc = .ok (.imul, 1))  (kk : zW p l e R s m args below meth c nL b0 G k n Q h (pc + 1) lv (.int (x * y) :: st)) : zW p l e R s m args below meth c nL b0 G k n Q h pc lv (.int y :: .int x :: st) :=
  fun H locs ls h0 h1 h2 h3 h4 => lv_imul K.1 K.2.1 hd  (kk H locs ls h0 h1 h2 h3 h4)
theorem z_iand (K : zC p s m args c cc own nL b0 G) {x y : Int32} (hd : decode cc pc = .ok (.iand, 1))  (kk : zW p l e R s m args below meth c nL b0 G k n Q h (pc + 1) lv (.int (x &&& y) :: st)) : zW p l e R s m args below meth c nL b0 G k n Q h pc lv (.int y :: .int x :: st) :=
  fun H locs ls h0 h1 h2 h3 h4 => lv_iand K.1 K.2.1 hd  (kk H locs ls h0 h1 h2 h3 h4)
theorem z_ior (K : zC p s m args c cc own nL b0 G) {x y : Int32} (hd : decode cc pc = .ok (.ior, 1))  (kk : zW p l e R s m args below meth c nL b0 G k n Q h (pc + 1) lv (.int (x ||| y) :: st)) : zW p l e R s m args below meth c nL b0 G k n Q h pc lv (.int y :: .int x :: st) :=
  fun H locs ls h0 h1 h2 h3 h4 => lv_ior K.1 K.2.1 hd  (kk H locs ls h0 h1 h2 h3 h4)
theorem z_ixor (K : zC p s m args c cc own nL b0 G) {x y : Int32} (hd : decode cc pc = .ok (.ixor, 1))  (kk : zW p l e R s m args below meth c nL b0 G k n Q h (pc + 1) lv (.int (x ^^^ y) :: st)) : zW p l e R s m args below meth c nL b0 G k n Q h pc lv (.int y :: .int x :: st) :=
  fun H locs ls h0 h1 h2 h3 h4 => lv_ixor K.1 K.2.1 hd  (kk H locs ls h0 h1 h2 h3 h4)
theorem z_ladd (K : zC p s m args c cc own nL b0 G) {x y : Int64} (hd : decode cc pc = .ok (.ladd, 1))  (kk : zW p l e R s m args below meth c nL b0 G k n Q h (pc + 1) lv (.long (x + y) :: st)) : zW p l e R s m args below meth c nL b0 G k n Q h pc lv (.long y :: .long x :: st) :=
  fun H locs ls h0 h1 h2 h3 h4 => lv_ladd K.1 K.2.1 hd  (kk H locs ls h0 h1 h2 h3 h4)
theorem z_lsub (K : zC p s m args c cc own nL b0 G) {x y : Int64} (hd : decode cc pc = .ok (.lsub, 1))  (kk : zW p l e R s m args below meth c nL b0 G k n Q h (pc + 1) lv (.long (x - y) :: st)) : zW p l e R s m args below meth c nL b0 G k n Q h pc lv (.long y :: .long x :: st) :=
  fun H locs ls h0 h1 h2 h3 h4 => lv_lsub K.1 K.2.1 hd  (kk H locs ls h0 h1 h2 h3 h4)
theorem z_lmul (K : zC p s m args c cc own nL b0 G) {x y : Int64} (hd : decode cc pc = .ok (.lmul, 1))  (kk : zW p l e R s m args below meth c nL b0 G k n Q h (pc + 1) lv (.long (x * y) :: st)) : zW p l e R s m args below meth c nL b0 G k n Q h pc lv (.long y :: .long x :: st) :=
  fun H locs ls h0 h1 h2 h3 h4 => lv_lmul K.1 K.2.1 hd  (kk H locs ls h0 h1 h2 h3 h4)
theorem z_land (K : zC p s m args c cc own nL b0 G) {x y : Int64} (hd : decode cc pc = .ok (.land, 1))  (kk : zW p l e R s m args below meth c nL b0 G k n Q h (pc + 1) lv (.long (x &&& y) :: st)) : zW p l e R s m args below meth c nL b0 G k n Q h pc lv (.long y :: .long x :: st) :=
  fun H locs ls h0 h1 h2 h3 h4 => lv_land K.1 K.2.1 hd  (kk H locs ls h0 h1 h2 h3 h4)
theorem z_lor (K : zC p s m args c cc own nL b0 G) {x y : Int64} (hd : decode cc pc = .ok (.lor, 1))  (kk : zW p l e R s m args below meth c nL b0 G k n Q h (pc + 1) lv (.long (x ||| y) :: st)) : zW p l e R s m args below meth c nL b0 G k n Q h pc lv (.long y :: .long x :: st) :=
  fun H locs ls h0 h1 h2 h3 h4 => lv_lor K.1 K.2.1 hd  (kk H locs ls h0 h1 h2 h3 h4)
theorem z_lxor (K : zC p s m args c cc own nL b0 G) {x y : Int64} (hd : decode cc pc = .ok (.lxor, 1))  (kk : zW p l e R s m args below meth c nL b0 G k n Q h (pc + 1) lv (.long (x ^^^ y) :: st)) : zW p l e R s m args below meth c nL b0 G k n Q h pc lv (.long y :: .long x :: st) :=
  fun H locs ls h0 h1 h2 h3 h4 => lv_lxor K.1 K.2.1 hd  (kk H locs ls h0 h1 h2 h3 h4)
theorem z_idiv (K : zC p s m args c cc own nL b0 G) {x y : Int32} (hd : decode cc pc = .ok (.idiv, 1)) (hne : ¬ y = 0) (kk : zW p l e R s m args below meth c nL b0 G k n Q h (pc + 1) lv (.int (x / y) :: st)) : zW p l e R s m args below meth c nL b0 G k n Q h pc lv (.int y :: .int x :: st) :=
  fun H locs ls h0 h1 h2 h3 h4 => lv_idiv K.1 K.2.1 hd hne (kk H locs ls h0 h1 h2 h3 h4)
theorem z_irem (K : zC p s m args c cc own nL b0 G) {x y : Int32} (hd : decode cc pc = .ok (.irem, 1)) (hne : ¬ y = 0) (kk : zW p l e R s m args below meth c nL b0 G k n Q h (pc + 1) lv (.int (x - x / y * y) :: st)) : zW p l e R s m args below meth c nL b0 G k n Q h pc lv (.int y :: .int x :: st) :=
  fun H locs ls h0 h1 h2 h3 h4 => lv_irem K.1 K.2.1 hd hne (kk H locs ls h0 h1 h2 h3 h4)
theorem z_ldiv (K : zC p s m args c cc own nL b0 G) {x y : Int64} (hd : decode cc pc = .ok (.ldiv, 1)) (hne : ¬ y = 0) (kk : zW p l e R s m args below meth c nL b0 G k n Q h (pc + 1) lv (.long (x / y) :: st)) : zW p l e R s m args below meth c nL b0 G k n Q h pc lv (.long y :: .long x :: st) :=
  fun H locs ls h0 h1 h2 h3 h4 => lv_ldiv K.1 K.2.1 hd hne (kk H locs ls h0 h1 h2 h3 h4)
theorem z_lrem (K : zC p s m args c cc own nL b0 G) {x y : Int64} (hd : decode cc pc = .ok (.lrem, 1)) (hne : ¬ y = 0) (kk : zW p l e R s m args below meth c nL b0 G k n Q h (pc + 1) lv (.long (x - x / y * y) :: st)) : zW p l e R s m args below meth c nL b0 G k n Q h pc lv (.long y :: .long x :: st) :=
  fun H locs ls h0 h1 h2 h3 h4 => lv_lrem K.1 K.2.1 hd hne (kk H locs ls h0 h1 h2 h3 h4)
theorem z_ineg (K : zC p s m args c cc own nL b0 G) {x : Int32} (hd : decode cc pc = .ok (.ineg, 1))  (kk : zW p l e R s m args below meth c nL b0 G k n Q h (pc + 1) lv (.int (-x) :: st)) : zW p l e R s m args below meth c nL b0 G k n Q h pc lv (.int x :: st) :=
  fun H locs ls h0 h1 h2 h3 h4 => lv_ineg K.1 K.2.1 hd  (kk H locs ls h0 h1 h2 h3 h4)
theorem z_lneg (K : zC p s m args c cc own nL b0 G) {x : Int64} (hd : decode cc pc = .ok (.lneg, 1))  (kk : zW p l e R s m args below meth c nL b0 G k n Q h (pc + 1) lv (.long (-x) :: st)) : zW p l e R s m args below meth c nL b0 G k n Q h pc lv (.long x :: st) :=
  fun H locs ls h0 h1 h2 h3 h4 => lv_lneg K.1 K.2.1 hd  (kk H locs ls h0 h1 h2 h3 h4)
theorem z_ishl (K : zC p s m args c cc own nL b0 G) {x y : Int32} (hd : decode cc pc = .ok (.ishl, 1))  (kk : zW p l e R s m args below meth c nL b0 G k n Q h (pc + 1) lv (.int (x <<< (y &&& 31)) :: st)) : zW p l e R s m args below meth c nL b0 G k n Q h pc lv (.int y :: .int x :: st) :=
  fun H locs ls h0 h1 h2 h3 h4 => lv_ishl K.1 K.2.1 hd  (kk H locs ls h0 h1 h2 h3 h4)
theorem z_ishr (K : zC p s m args c cc own nL b0 G) {x y : Int32} (hd : decode cc pc = .ok (.ishr, 1))  (kk : zW p l e R s m args below meth c nL b0 G k n Q h (pc + 1) lv (.int (x >>> (y &&& 31)) :: st)) : zW p l e R s m args below meth c nL b0 G k n Q h pc lv (.int y :: .int x :: st) :=
  fun H locs ls h0 h1 h2 h3 h4 => lv_ishr K.1 K.2.1 hd  (kk H locs ls h0 h1 h2 h3 h4)
theorem z_iushr (K : zC p s m args c cc own nL b0 G) {x y : Int32} (hd : decode cc pc = .ok (.iushr, 1))  (kk : zW p l e R s m args below meth c nL b0 G k n Q h (pc + 1) lv (.int ((x.toUInt32 >>> (y.toUInt32 &&& Int32.toUInt32 31)).toInt32) :: st)) : zW p l e R s m args below meth c nL b0 G k n Q h pc lv (.int y :: .int x :: st) :=
  fun H locs ls h0 h1 h2 h3 h4 => lv_iushr K.1 K.2.1 hd rfl (kk H locs ls h0 h1 h2 h3 h4)
theorem z_lshl (K : zC p s m args c cc own nL b0 G) {x : Int64} {y : Int32} (hd : decode cc pc = .ok (.lshl, 1))  (kk : zW p l e R s m args below meth c nL b0 G k n Q h (pc + 1) lv (.long (x <<< (y.toInt64 &&& 63)) :: st)) : zW p l e R s m args below meth c nL b0 G k n Q h pc lv (.int y :: .long x :: st) :=
  fun H locs ls h0 h1 h2 h3 h4 => lv_lshl K.1 K.2.1 hd rfl (kk H locs ls h0 h1 h2 h3 h4)
theorem z_lshr (K : zC p s m args c cc own nL b0 G) {x : Int64} {y : Int32} (hd : decode cc pc = .ok (.lshr, 1))  (kk : zW p l e R s m args below meth c nL b0 G k n Q h (pc + 1) lv (.long (x >>> (y.toInt64 &&& 63)) :: st)) : zW p l e R s m args below meth c nL b0 G k n Q h pc lv (.int y :: .long x :: st) :=
  fun H locs ls h0 h1 h2 h3 h4 => lv_lshr K.1 K.2.1 hd rfl (kk H locs ls h0 h1 h2 h3 h4)
theorem z_lushr (K : zC p s m args c cc own nL b0 G) {x : Int64} {y : Int32} (hd : decode cc pc = .ok (.lushr, 1))  (kk : zW p l e R s m args below meth c nL b0 G k n Q h (pc + 1) lv (.long ((x.toUInt64 >>> (y.toInt64.toUInt64 &&& Int64.toUInt64 63)).toInt64) :: st)) : zW p l e R s m args below meth c nL b0 G k n Q h pc lv (.int y :: .long x :: st) :=
  fun H locs ls h0 h1 h2 h3 h4 => lv_lushr K.1 K.2.1 hd rfl (kk H locs ls h0 h1 h2 h3 h4)
theorem z_i2l (K : zC p s m args c cc own nL b0 G) {x : Int32} (hd : decode cc pc = .ok (.i2l, 1))  (kk : zW p l e R s m args below meth c nL b0 G k n Q h (pc + 1) lv (.long x.toInt64 :: st)) : zW p l e R s m args below meth c nL b0 G k n Q h pc lv (.int x :: st) :=
  fun H locs ls h0 h1 h2 h3 h4 => lv_i2l K.1 K.2.1 hd rfl (kk H locs ls h0 h1 h2 h3 h4)
theorem z_l2i (K : zC p s m args c cc own nL b0 G) {x : Int64} (hd : decode cc pc = .ok (.l2i, 1))  (kk : zW p l e R s m args below meth c nL b0 G k n Q h (pc + 1) lv (.int x.toInt32 :: st)) : zW p l e R s m args below meth c nL b0 G k n Q h pc lv (.long x :: st) :=
  fun H locs ls h0 h1 h2 h3 h4 => lv_l2i K.1 K.2.1 hd rfl (kk H locs ls h0 h1 h2 h3 h4)
theorem z_lcmp (K : zC p s m args c cc own nL b0 G) {x y : Int64} (hd : decode cc pc = .ok (.lcmp, 1))  (kk : zW p l e R s m args below meth c nL b0 G k n Q h (pc + 1) lv (.int (lg_cmp x y) :: st)) : zW p l e R s m args below meth c nL b0 G k n Q h pc lv (.long y :: .long x :: st) :=
  fun H locs ls h0 h1 h2 h3 h4 => W.lcmp K.1 K.2.1 hd  (kk H locs ls h0 h1 h2 h3 h4)
theorem z_dup (K : zC p s m args c cc own nL b0 G) {va : Value} (hd : decode cc pc = .ok (.dup, 1)) (h9 : va.category = 1) (kk : zW p l e R s m args below meth c nL b0 G k n Q h (pc + 1) lv (va :: va :: st)) : zW p l e R s m args below meth c nL b0 G k n Q h pc lv (va :: st) :=
  fun H locs ls h0 h1 h2 h3 h4 => lv_dup K.1 K.2.1 hd h9 (kk H locs ls h0 h1 h2 h3 h4)
theorem z_pop (K : zC p s m args c cc own nL b0 G) {va : Value} (hd : decode cc pc = .ok (.pop, 1)) (h9 : va.category = 1) (kk : zW p l e R s m args below meth c nL b0 G k n Q h (pc + 1) lv (st)) : zW p l e R s m args below meth c nL b0 G k n Q h pc lv (va :: st) :=
  fun H locs ls h0 h1 h2 h3 h4 => lv_pop K.1 K.2.1 hd h9 (kk H locs ls h0 h1 h2 h3 h4)
theorem z_dup_x1 (K : zC p s m args c cc own nL b0 G) {va vb : Value} (hd : decode cc pc = .ok (.dup_x1, 1)) (h9 : va.category = 1) (h8 : vb.category = 1) (kk : zW p l e R s m args below meth c nL b0 G k n Q h (pc + 1) lv (va :: vb :: va :: st)) : zW p l e R s m args below meth c nL b0 G k n Q h pc lv (va :: vb :: st) :=
  fun H locs ls h0 h1 h2 h3 h4 => lv_dup_x1 K.1 K.2.1 hd h9 h8 (kk H locs ls h0 h1 h2 h3 h4)
theorem z_dup_x2 (K : zC p s m args c cc own nL b0 G) {va vb vd : Value} (hd : decode cc pc = .ok (.dup_x2, 1)) (h9 : va.category = 1) (h8 : vb.category = 1) (h7 : vd.category = 1) (kk : zW p l e R s m args below meth c nL b0 G k n Q h (pc + 1) lv (va :: vb :: vd :: va :: st)) : zW p l e R s m args below meth c nL b0 G k n Q h pc lv (va :: vb :: vd :: st) :=
  fun H locs ls h0 h1 h2 h3 h4 => lv_dup_x2 K.1 K.2.1 hd h9 h8 h7 (kk H locs ls h0 h1 h2 h3 h4)
theorem z_dup2_11 (K : zC p s m args c cc own nL b0 G) {va vb : Value} (hd : decode cc pc = .ok (.dup2, 1)) (h9 : va.category = 1) (h8 : vb.category = 1) (kk : zW p l e R s m args below meth c nL b0 G k n Q h (pc + 1) lv (va :: vb :: va :: vb :: st)) : zW p l e R s m args below meth c nL b0 G k n Q h pc lv (va :: vb :: st) :=
  fun H locs ls h0 h1 h2 h3 h4 => lv_dup2_11 K.1 K.2.1 hd h9 h8 (kk H locs ls h0 h1 h2 h3 h4)
theorem z_dup2_2 (K : zC p s m args c cc own nL b0 G) {va : Value} (hd : decode cc pc = .ok (.dup2, 1)) (h9 : va.category = 2) (kk : zW p l e R s m args below meth c nL b0 G k n Q h (pc + 1) lv (va :: va :: st)) : zW p l e R s m args below meth c nL b0 G k n Q h pc lv (va :: st) :=
  fun H locs ls h0 h1 h2 h3 h4 => lv_dup2_2 K.1 K.2.1 hd h9 (kk H locs ls h0 h1 h2 h3 h4)
theorem z_pop2_2 (K : zC p s m args c cc own nL b0 G) {va : Value} (hd : decode cc pc = .ok (.pop2, 1)) (h9 : va.category = 2) (kk : zW p l e R s m args below meth c nL b0 G k n Q h (pc + 1) lv (st)) : zW p l e R s m args below meth c nL b0 G k n Q h pc lv (va :: st) :=
  fun H locs ls h0 h1 h2 h3 h4 => lv_pop2_2 K.1 K.2.1 hd h9 (kk H locs ls h0 h1 h2 h3 h4)
theorem z_if_eq (K : zC p s m args c cc own nL b0 G) {x : Int32} {off : Int} {tgt : Nat} (hd : decode cc pc = .ok (.ifCond .eq off, 3)) (ht : (pc : Int) + off = (tgt : Int)) (kt : x = 0 → zW p l e R s m args below meth c nL b0 G k n Q h tgt lv st) (kf : ¬ x = 0 → zW p l e R s m args below meth c nL b0 G k n Q h (pc + 3) lv st) : zW p l e R s m args below meth c nL b0 G k n Q h pc lv (.int x :: st) :=
  fun H locs ls h0 h1 h2 h3 h4 => lv_if_eq K.1 K.2.1 hd ht (fun q => kt q H locs ls h0 h1 h2 h3 h4) (fun q => kf q H locs ls h0 h1 h2 h3 h4)
theorem z_icmp_eq (K : zC p s m args c cc own nL b0 G) {x y : Int32} {off : Int} {tgt : Nat} (hd : decode cc pc = .ok (.if_icmp .eq off, 3)) (ht : (pc : Int) + off = (tgt : Int)) (kt : x = y → zW p l e R s m args below meth c nL b0 G k n Q h tgt lv st) (kf : ¬ x = y → zW p l e R s m args below meth c nL b0 G k n Q h (pc + 3) lv st) : zW p l e R s m args below meth c nL b0 G k n Q h pc lv (.int y :: .int x :: st) :=
  fun H locs ls h0 h1 h2 h3 h4 => lv_icmp_eq K.1 K.2.1 hd ht (fun q => kt q H locs ls h0 h1 h2 h3 h4) (fun q => kf q H locs ls h0 h1 h2 h3 h4)
theorem z_if_ne (K : zC p s m args c cc own nL b0 G) {x : Int32} {off : Int} {tgt : Nat} (hd : decode cc pc = .ok (.ifCond .ne off, 3)) (ht : (pc : Int) + off = (tgt : Int)) (kt : ¬ x = 0 → zW p l e R s m args below meth c nL b0 G k n Q h tgt lv st) (kf : x = 0 → zW p l e R s m args below meth c nL b0 G k n Q h (pc + 3) lv st) : zW p l e R s m args below meth c nL b0 G k n Q h pc lv (.int x :: st) :=
  fun H locs ls h0 h1 h2 h3 h4 => lv_if_ne K.1 K.2.1 hd ht (fun q => kt q H locs ls h0 h1 h2 h3 h4) (fun q => kf q H locs ls h0 h1 h2 h3 h4)
theorem z_icmp_ne (K : zC p s m args c cc own nL b0 G) {x y : Int32} {off : Int} {tgt : Nat} (hd : decode cc pc = .ok (.if_icmp .ne off, 3)) (ht : (pc : Int) + off = (tgt : Int)) (kt : ¬ x = y → zW p l e R s m args below meth c nL b0 G k n Q h tgt lv st) (kf : x = y → zW p l e R s m args below meth c nL b0 G k n Q h (pc + 3) lv st) : zW p l e R s m args below meth c nL b0 G k n Q h pc lv (.int y :: .int x :: st) :=
  fun H locs ls h0 h1 h2 h3 h4 => lv_icmp_ne K.1 K.2.1 hd ht (fun q => kt q H locs ls h0 h1 h2 h3 h4) (fun q => kf q H locs ls h0 h1 h2 h3 h4)
theorem z_if_lt (K : zC p s m args c cc own nL b0 G) {x : Int32} {off : Int} {tgt : Nat} (hd : decode cc pc = .ok (.ifCond .lt off, 3)) (ht : (pc : Int) + off = (tgt : Int)) (kt : x < 0 → zW p l e R s m args below meth c nL b0 G k n Q h tgt lv st) (kf : ¬ x < 0 → zW p l e R s m args below meth c nL b0 G k n Q h (pc + 3) lv st) : zW p l e R s m args below meth c nL b0 G k n Q h pc lv (.int x :: st) :=
  fun H locs ls h0 h1 h2 h3 h4 => lv_if_lt K.1 K.2.1 hd ht (fun q => kt q H locs ls h0 h1 h2 h3 h4) (fun q => kf q H locs ls h0 h1 h2 h3 h4)
theorem z_icmp_lt (K : zC p s m args c cc own nL b0 G) {x y : Int32} {off : Int} {tgt : Nat} (hd : decode cc pc = .ok (.if_icmp .lt off, 3)) (ht : (pc : Int) + off = (tgt : Int)) (kt : x < y → zW p l e R s m args below meth c nL b0 G k n Q h tgt lv st) (kf : ¬ x < y → zW p l e R s m args below meth c nL b0 G k n Q h (pc + 3) lv st) : zW p l e R s m args below meth c nL b0 G k n Q h pc lv (.int y :: .int x :: st) :=
  fun H locs ls h0 h1 h2 h3 h4 => lv_icmp_lt K.1 K.2.1 hd ht (fun q => kt q H locs ls h0 h1 h2 h3 h4) (fun q => kf q H locs ls h0 h1 h2 h3 h4)
theorem z_if_ge (K : zC p s m args c cc own nL b0 G) {x : Int32} {off : Int} {tgt : Nat} (hd : decode cc pc = .ok (.ifCond .ge off, 3)) (ht : (pc : Int) + off = (tgt : Int)) (kt : 0 ≤ x → zW p l e R s m args below meth c nL b0 G k n Q h tgt lv st) (kf : ¬ 0 ≤ x → zW p l e R s m args below meth c nL b0 G k n Q h (pc + 3) lv st) : zW p l e R s m args below meth c nL b0 G k n Q h pc lv (.int x :: st) :=
  fun H locs ls h0 h1 h2 h3 h4 => lv_if_ge K.1 K.2.1 hd ht (fun q => kt q H locs ls h0 h1 h2 h3 h4) (fun q => kf q H locs ls h0 h1 h2 h3 h4)
theorem z_icmp_ge (K : zC p s m args c cc own nL b0 G) {x y : Int32} {off : Int} {tgt : Nat} (hd : decode cc pc = .ok (.if_icmp .ge off, 3)) (ht : (pc : Int) + off = (tgt : Int)) (kt : y ≤ x → zW p l e R s m args below meth c nL b0 G k n Q h tgt lv st) (kf : ¬ y ≤ x → zW p l e R s m args below meth c nL b0 G k n Q h (pc + 3) lv st) : zW p l e R s m args below meth c nL b0 G k n Q h pc lv (.int y :: .int x :: st) :=
  fun H locs ls h0 h1 h2 h3 h4 => lv_icmp_ge K.1 K.2.1 hd ht (fun q => kt q H locs ls h0 h1 h2 h3 h4) (fun q => kf q H locs ls h0 h1 h2 h3 h4)
theorem z_if_gt (K : zC p s m args c cc own nL b0 G) {x : Int32} {off : Int} {tgt : Nat} (hd : decode cc pc = .ok (.ifCond .gt off, 3)) (ht : (pc : Int) + off = (tgt : Int)) (kt : 0 < x → zW p l e R s m args below meth c nL b0 G k n Q h tgt lv st) (kf : ¬ 0 < x → zW p l e R s m args below meth c nL b0 G k n Q h (pc + 3) lv st) : zW p l e R s m args below meth c nL b0 G k n Q h pc lv (.int x :: st) :=
  fun H locs ls h0 h1 h2 h3 h4 => lv_if_gt K.1 K.2.1 hd ht (fun q => kt q H locs ls h0 h1 h2 h3 h4) (fun q => kf q H locs ls h0 h1 h2 h3 h4)
theorem z_icmp_gt (K : zC p s m args c cc own nL b0 G) {x y : Int32} {off : Int} {tgt : Nat} (hd : decode cc pc = .ok (.if_icmp .gt off, 3)) (ht : (pc : Int) + off = (tgt : Int)) (kt : y < x → zW p l e R s m args below meth c nL b0 G k n Q h tgt lv st) (kf : ¬ y < x → zW p l e R s m args below meth c nL b0 G k n Q h (pc + 3) lv st) : zW p l e R s m args below meth c nL b0 G k n Q h pc lv (.int y :: .int x :: st) :=
  fun H locs ls h0 h1 h2 h3 h4 => lv_icmp_gt K.1 K.2.1 hd ht (fun q => kt q H locs ls h0 h1 h2 h3 h4) (fun q => kf q H locs ls h0 h1 h2 h3 h4)
theorem z_if_le (K : zC p s m args c cc own nL b0 G) {x : Int32} {off : Int} {tgt : Nat} (hd : decode cc pc = .ok (.ifCond .le off, 3)) (ht : (pc : Int) + off = (tgt : Int)) (kt : x ≤ 0 → zW p l e R s m args below meth c nL b0 G k n Q h tgt lv st) (kf : ¬ x ≤ 0 → zW p l e R s m args below meth c nL b0 G k n Q h (pc + 3) lv st) : zW p l e R s m args below meth c nL b0 G k n Q h pc lv (.int x :: st) :=
  fun H locs ls h0 h1 h2 h3 h4 => lv_if_le K.1 K.2.1 hd ht (fun q => kt q H locs ls h0 h1 h2 h3 h4) (fun q => kf q H locs ls h0 h1 h2 h3 h4)
theorem z_icmp_le (K : zC p s m args c cc own nL b0 G) {x y : Int32} {off : Int} {tgt : Nat} (hd : decode cc pc = .ok (.if_icmp .le off, 3)) (ht : (pc : Int) + off = (tgt : Int)) (kt : x ≤ y → zW p l e R s m args below meth c nL b0 G k n Q h tgt lv st) (kf : ¬ x ≤ y → zW p l e R s m args below meth c nL b0 G k n Q h (pc + 3) lv st) : zW p l e R s m args below meth c nL b0 G k n Q h pc lv (.int y :: .int x :: st) :=
  fun H locs ls h0 h1 h2 h3 h4 => lv_icmp_le K.1 K.2.1 hd ht (fun q => kt q H locs ls h0 h1 h2 h3 h4) (fun q => kf q H locs ls h0 h1 h2 h3 h4)
theorem z_goto (K : zC p s m args c cc own nL b0 G) {off : Int} {tgt : Nat} (hd : decode cc pc = .ok (.goto off, 3)) (ht : (pc : Int) + off = (tgt : Int)) (kk : zW p l e R s m args below meth c nL b0 G k n Q h tgt lv st) : zW p l e R s m args below meth c nL b0 G k n Q h pc lv st :=
  fun H locs ls h0 h1 h2 h3 h4 => lv_goto K.1 K.2.1 hd ht (kk H locs ls h0 h1 h2 h3 h4)
theorem z_ldc (K : zC p s m args c cc own nL b0 G) {index : Nat} {v : Int32} (hd : decode cc pc = .ok (.ldc index, 2)) (hw : Cond.constant own index v ∈ zTb) (kk : zW p l e R s m args below meth c nL b0 G k n Q h (pc + 2) lv (.int v :: st)) : zW p l e R s m args below meth c nL b0 G k n Q h pc lv st :=
  fun H locs ls h0 h1 h2 h3 h4 => lv_ldc K.1 K.2.1 K.2.2.2.1 (K.2.2.2.2.1 _ hw) hd (kk H locs ls h0 h1 h2 h3 h4)
theorem z_ldcw (K : zC p s m args c cc own nL b0 G) {index : Nat} {v : Int32} (hd : decode cc pc = .ok (.ldc_w index, 3)) (hw : Cond.constant own index v ∈ zTb) (kk : zW p l e R s m args below meth c nL b0 G k n Q h (pc + 3) lv (.int v :: st)) : zW p l e R s m args below meth c nL b0 G k n Q h pc lv st :=
  fun H locs ls h0 h1 h2 h3 h4 => lv_ldcw K.1 K.2.1 K.2.2.2.1 (K.2.2.2.2.1 _ hw) hd (kk H locs ls h0 h1 h2 h3 h4)
theorem z_ldc2 (K : zC p s m args c cc own nL b0 G) {index : Nat} {v : Int64} (hd : decode cc pc = .ok (.ldc2_w index, 3)) (hw : Cond.constantLong own index v ∈ zTb) (kk : zW p l e R s m args below meth c nL b0 G k n Q h (pc + 3) lv (.long v :: st)) : zW p l e R s m args below meth c nL b0 G k n Q h pc lv st :=
  fun H locs ls h0 h1 h2 h3 h4 => lv_ldc2 K.1 K.2.1 K.2.2.2.1 (K.2.2.2.2.1 _ hw) hd (kk H locs ls h0 h1 h2 h3 h4)

theorem z_re (is : List Nat) {lv' : List (Nat × Value)} (hl : zpick lv is = lv') (kk : zW p l e R s m args below meth c nL b0 G k n Q h pc lv' st) : zW p l e R s m args below meth c nL b0 G k n Q h pc lv st :=
  fun H locs ls h0 h1 h2 h3 h4 => kk H locs ls h0 h1 h2 h3 (zl_sub h4 is hl)
theorem z_wid {k' n' : Nat} (hk : k ≤ k') (hn : n ≤ n') (kk : zW p l e R s m args below meth c nL b0 G k' n' Q h pc lv st) : zW p l e R s m args below meth c nL b0 G k n Q h pc lv st :=
  fun H locs ls h0 h1 h2 h3 h4 => W.widen hk hn (kk H locs ls h0 h1 h2 h3 h4)
theorem z_hp {h' : zH} (he : h = h') (kk : zW p l e R s m args below meth c nL b0 G k n Q h' pc lv st) : zW p l e R s m args below meth c nL b0 G k n Q h pc lv st := he ▸ kk
theorem z_st {st' : List Value} (he : st = st') (kk : zW p l e R s m args below meth c nL b0 G k n Q h pc lv st') : zW p l e R s m args below meth c nL b0 G k n Q h pc lv st := he ▸ kk
theorem z_get (K : zC p s m args c cc own nL b0 G) {index ci f a : Nat} {ty : FieldType} {fin : Bool} {fs : List Value} {v : Value} (hF : zFd own index ci f ty fin) (hf : h.2 a = .inr (ci, fs)) (hv : fs[f]? = some v) (hd : decode cc pc = .ok (.getfield index, 3))
    (kk : zW p l e R s m args below meth c nL b0 G k n Q h (pc + 3) lv (v :: st)) : zW p l e R s m args below meth c nL b0 G k n Q h pc lv (.ref a :: st) := fun H locs ls h0 h1 h2 h3 h4 => by
  obtain ⟨C, T, N, ty0, hC, hk, hty, hfin, hlink⟩ := hF
  obtain ⟨q1, q2⟩ := z_in h0 hf hC.2.1
  have he := z_Wget (h := h) q1 q2
  rw [hf] at he
  rcases hlink with hl | ⟨host, hl⟩
  · exact va_get K.1 K.2.1 K.2.2.2.2.1 hC.2.2.1 K.2.2.2.1 K.2.2.2.2.2.1 h2 (a - b0) he hC.1 f hk (K.2.2.2.2.1 _ hl) (fun _ h9 => h9) hv hd (kk H locs ls h0 h1 h2 h3 h4)
  · exact va_getN K.1 K.2.1 K.2.2.2.2.1 hC.2.2.1 K.2.2.2.1 K.2.2.2.2.2.1 h2 (a - b0) he hC.1 f hk (va_Nw.use (zN_on hl) (K.2.2.2.2.2.2.1 _ hl)) (fun _ h9 => h9) hv hd (kk H locs ls h0 h1 h2 h3 h4)
theorem z_fin {H1 : Heap} {H : Heap} {locs : List Loc} {ls : Array Slot} {a j : Nat} {v : va_E} {pc' : Nat} {st' : List Value} (h0 : z_wf b0 h) (h1 : H.size = h.1) (h2 : va_P G.1 vwCl (z_W b0 h) H) (h3 : va_S (z_A b0) s.heap H locs) (h4 : lv_has ls nL lv) (q1 : b0 ≤ a) (q2 : a < h.1)
    (hat : va_at G.1 vwCl (a, v) H1) (z : H1.size = H.size) (oq : ∀ q : Nat, q ≠ a → H1[q]? = H[q]?) (kk : zW p l e R s m args below meth c nL b0 G k n Q (h.1, va_up h.2 a v) pc' lv st') : W p l e R s m args below meth c H1 (locs ++ [⟨a, j⟩]) k n Q (F0 m pc' ls st') := by
  have g2 := h2.set (z_D b0 h) (z_Wget q1 q2) hat oq
  rw [z_Wset q1 q2] at g2
  exact kk H1 _ ls (z_wf_up h0 q1 q2) (z.trans h1) g2 (h3.put z oq q1) h4
theorem z_put (K : zC p s m args c cc own nL b0 G) {index ci f a : Nat} {ty : FieldType} {fs : List Value} {v : Value} (hF : zFd own index ci f ty false) (hf : h.2 a = .inr (ci, fs)) (hl : f < fs.length) (hn : narrow ty v = v) (hfit : fits ty v = true) (hd : decode cc pc = .ok (.putfield index, 3))
    (kk : zW p l e R s m args below meth c nL b0 G k n Q (h.1, va_up h.2 a (.inr (ci, fs.set f v))) (pc + 3) lv st) : zW p l e R s m args below meth c nL b0 G k n Q h pc lv (v :: .ref a :: st) := fun H locs ls h0 h1 h2 h3 h4 => by
  obtain ⟨C, T, N, ty0, hC, hk, hty, hfin, hlink⟩ := hF
  obtain ⟨q1, q2⟩ := z_in h0 hf hC.2.1
  have he := z_Wget (h := h) q1 q2
  rw [hf] at he
  have hps : parseFieldDescriptor (T f).2.2.1 = some ty := by rw [hC.2.2.2.1 f hk, hty]
  have hts := K.2.2.2.2.1
  have hK := K.2.2.2.2.2.1
  have hap := va_apart (own := own) hts hC.2.2.1 ty0 hC.2.2.2.1 hC.2.2.2.2 hK hC.1
  obtain ⟨r, g1, cell, c1, c2, c3, c4⟩ := h2 _ _ he
  have hr : r = (C, T, N) := Option.some.inj (g1.symm.trans hC.1)
  subst hr
  obtain ⟨hS, hfc, kC, hkC, hkind⟩ := hK.1 ci _ hC.1
  obtain ⟨cf, kf, fi, fl, hi, hsl⟩ := hS f hk
  have hlay := hts _ (hC.2.2.1 _ (u_in_lay hk))
  unfold u_lay at hlay
  rw [if_neg (by rw [hfin]; decide)] at hlay
  have hst := (u_facts hfc hkC (u_lays hts hC.2.2.1 hk) hi).1
  have h6 := u_store hfc hkC hkind hlay hi hps hn hfit
  rcases hlink with hl2 | ⟨host, hl2⟩
  · refine W.putK K.1 K.2.1 (f := fl) ⟨K.2.2.2.1, hts _ hl2, ⟨_, _, _, hi⟩, hst⟩ (by rw [c2]; exact h6) c1 c3 (by rw [hsl]; exact k2_hasslot (c4 f hk)) rfl rfl hd fun H' e1 e2 e3 => ?_
    rw [hsl] at e1 ⊢
    exact z_fin (v := .inr (ci, fs.set f v)) h0 h1 h2 h3 h4 q1 q2 ⟨_, hC.1, t_OB.to (V := updV (vp_V fs) f v) ⟨_, e1, c2, c3, t_set c4 hap hk v⟩ (fun j _ => vp_updV_set hl v j)⟩ e2 e3 kk
  · refine va_WputK K.1 K.2.1 (f := fl) K.2.2.2.1 (va_Nw.use (zN_on hl2) (K.2.2.2.2.2.2.1 _ hl2)) hi hst (by rw [c2]; exact h6) c1 c3 (by rw [hsl]; exact k2_hasslot (c4 f hk)) rfl rfl hd fun H' e1 e2 e3 => ?_
    rw [hsl] at e1 ⊢
    exact z_fin (v := .inr (ci, fs.set f v)) h0 h1 h2 h3 h4 q1 q2 ⟨_, hC.1, t_OB.to (V := updV (vp_V fs) f v) ⟨_, e1, c2, c3, t_set c4 hap hk v⟩ (fun j _ => vp_updV_set hl v j)⟩ e2 e3 kk
theorem z_putF (K : zC p s m args c cc own nL b0 G) (hin2 : meth.name = "<init>") {index ci f a : Nat} {ty : FieldType} {fs : List Value} {v : Value} (hF : zFf own index ci f ty) (hf : h.2 a = .inr (ci, fs)) (hl : f < fs.length) (hn : narrow ty v = v) (hfit : fits ty v = true) (hd : decode cc pc = .ok (.putfield index, 3))
    (kk : zW p l e R s m args below meth c nL b0 G k n Q (h.1, va_up h.2 a (.inr (ci, fs.set f v))) (pc + 3) lv st) : zW p l e R s m args below meth c nL b0 G k n Q h pc lv (v :: .ref a :: st) := fun H locs ls h0 h1 h2 h3 h4 => by
  obtain ⟨C, T, N, ty0, hC, hk, hty, hfin, hdecl, hl2⟩ := hF
  obtain ⟨q1, q2⟩ := z_in h0 hf hC.2.1
  have he := z_Wget (h := h) q1 q2
  rw [hf] at he
  have hps : parseFieldDescriptor (T f).2.2.1 = some ty := by rw [hC.2.2.2.1 f hk, hty]
  have hts := K.2.2.2.2.1
  have hK := K.2.2.2.2.2.1
  have hap := va_apart (own := own) hts hC.2.2.1 ty0 hC.2.2.2.1 hC.2.2.2.2 hK hC.1
  obtain ⟨r, g1, cell, c1, c2, c3, c4⟩ := h2 _ _ he
  have hr : r = (C, T, N) := Option.some.inj (g1.symm.trans hC.1)
  subst hr
  obtain ⟨hS, hfc, kC, hkC, hkind⟩ := hK.1 ci _ hC.1
  obtain ⟨cf, kf, fi, fl, hi, hsl⟩ := hS f hk
  have hlay := hts _ (hC.2.2.1 _ (u_in_lay hk))
  unfold u_lay at hlay
  rw [if_pos hfin] at hlay
  have hst := (u_facts hfc hkC (u_lays hts hC.2.2.1 hk) hi).1
  have hcf : m.cls = cf := by
    obtain ⟨_, _, c', _, _, _, -, -, hf', -, -, -, hown2, -⟩ := Cond.laysFinal_spec hlay
    have e1 : c' = cf := by have := hi.symm.trans hf'; simp at this; exact this.1.symm
    rw [hdecl] at hown2
    rw [← e1]; exact Option.some.inj (K.2.2.2.1.symm.trans hown2)
  have h6 := u_fits hfc hkC hkind (Or.inr hlay) hi hps hn hfit
  refine W.putFinK K.1 K.2.1 K.2.2.2.1 (hts _ hl2) hi hst hcf hin2 (by rw [c2]; exact h6) c1 c3 (by rw [hsl]; exact k2_hasslot (c4 f hk)) rfl rfl hd fun H' e1 e2 e3 => ?_
  rw [hsl] at e1 ⊢
  exact z_fin (v := .inr (ci, fs.set f v)) h0 h1 h2 h3 h4 q1 q2 ⟨_, hC.1, t_OB.to (V := updV (vp_V fs) f v) ⟨_, e1, c2, c3, t_set c4 hap hk v⟩ (fun j _ => vp_updV_set hl v j)⟩ e2 e3 kk
theorem z_iald (K : zC p s m args c cc own nL b0 G) {a N t0 : Nat} {cA : ClassId} {f : Nat → Int32} {i : Int32} (hf : h.2 a = .inl (cA, N, .inl f)) (ht : (zTys G)[t0]? = some (cA, .int)) (hin : vp_in i N) (hd : decode cc pc = .ok (.iaload, 1))
    (kk : zW p l e R s m args below meth c nL b0 G k n Q h (pc + 1) lv (.int (f i.toNatClampNeg) :: st)) : zW p l e R s m args below meth c nL b0 G k n Q h pc lv (.int i :: .ref a :: st) := fun H locs ls h0 h1 h2 h3 h4 => by
  obtain ⟨q1, q2⟩ := z_inl h0 hf
  have he := z_Wget (h := h) q1 q2
  rw [hf] at he
  exact va_iald K.1 K.2.1 K.2.2.2.2.2.1 h2 (a - b0) t0 he ht hin hd (kk H locs ls h0 h1 h2 h3 h4)
theorem z_iast (K : zC p s m args c cc own nL b0 G) {a N t0 : Nat} {cA : ClassId} {f : Nat → Int32} {i x : Int32} (hf : h.2 a = .inl (cA, N, .inl f)) (ht : (zTys G)[t0]? = some (cA, .int)) (hin : vp_in i N) (hd : decode cc pc = .ok (.iastore, 1))
    (kk : zW p l e R s m args below meth c nL b0 G k n Q (h.1, va_up h.2 a (.inl (cA, N, .inl (upd f i.toNatClampNeg x)))) (pc + 1) lv st) : zW p l e R s m args below meth c nL b0 G k n Q h pc lv (.int x :: .int i :: .ref a :: st) := fun H locs ls h0 h1 h2 h3 h4 => by
  obtain ⟨q1, q2⟩ := z_inl h0 hf
  have he := z_Wget (h := h) q1 q2
  rw [hf] at he
  refine W.iast K.1 K.2.1 (h2 _ _ he) ((K.2.2.2.2.2.1.2 t0 _ ht).1 N (fun j => .int (f j))) (fun q => by cases q) (by show ¬ (i < 0 ∨ (arrV _ _ _).slots.size ≤ _); rw [arrV_size]; exact hin) rfl rfl hd fun H1 e z oq => ?_
  refine z_fin h0 h1 h2 h3 h4 q1 q2 ?_ z oq kk
  show H1[a]? = some (vp_cell _ _)
  rw [e]
  rw [vp_cell_i, vp_cell_i, arrV_store]
  congr 2
  funext q
  by_cases hq : q = i.toNatClampNeg
  · subst hq
    simp [updV, upd]
  · simp [updV, upd, hq]
theorem z_zald (K : zC p s m args c cc own nL b0 G) {a N t0 : Nat} {cA : ClassId} {f : Nat → Int32} {i : Int32} (hf : h.2 a = .inl (cA, N, .inl f)) (ht : (zTys G)[t0]? = some (cA, .boolean)) (hin : vp_in i N) (hd : decode cc pc = .ok (.baload, 1))
    (kk : zW p l e R s m args below meth c nL b0 G k n Q h (pc + 1) lv (.int (f i.toNatClampNeg) :: st)) : zW p l e R s m args below meth c nL b0 G k n Q h pc lv (.int i :: .ref a :: st) := fun H locs ls h0 h1 h2 h3 h4 => by
  obtain ⟨q1, q2⟩ := z_inl h0 hf
  have he := z_Wget (h := h) q1 q2
  rw [hf] at he
  exact va_zald K.1 K.2.1 K.2.2.2.2.2.1 h2 (a - b0) t0 he ht hin hd (kk H locs ls h0 h1 h2 h3 h4)
theorem z_zast (K : zC p s m args c cc own nL b0 G) {a N t0 : Nat} {cA : ClassId} {f : Nat → Int32} {i x : Int32} (hf : h.2 a = .inl (cA, N, .inl f)) (ht : (zTys G)[t0]? = some (cA, .boolean)) (hin : vp_in i N) (hx : x = 0 ∨ x = 1) (hd : decode cc pc = .ok (.bastore, 1))
    (kk : zW p l e R s m args below meth c nL b0 G k n Q (h.1, va_up h.2 a (.inl (cA, N, .inl (upd f i.toNatClampNeg x)))) (pc + 1) lv st) : zW p l e R s m args below meth c nL b0 G k n Q h pc lv (.int x :: .int i :: .ref a :: st) := fun H locs ls h0 h1 h2 h3 h4 => by
  obtain ⟨q1, q2⟩ := z_inl h0 hf
  have he := z_Wget (h := h) q1 q2
  rw [hf] at he
  have hnx : vp_nar .boolean x = x := by rcases hx with rfl | rfl <;> rfl
  refine W.zast K.1 K.2.1 (h2 _ _ he) ((K.2.2.2.2.2.1.2 t0 _ ht).1 N (fun j => .int (f j))) (fun q => by cases q) (by show ¬ (i < 0 ∨ (arrV _ _ _).slots.size ≤ _); rw [arrV_size]; exact hin) rfl rfl hd fun H1 e z oq => ?_
  refine z_fin h0 h1 h2 h3 h4 q1 q2 ?_ z oq kk
  show H1[a]? = some (vp_cell _ _)
  rw [e]
  rw [vp_cell_i, vp_cell_i, arrV_store]
  congr 2
  funext q
  by_cases hq : q = i.toNatClampNeg
  · subst hq
    rcases hx with rfl | rfl <;> (simp [updV, upd]; try rfl)
  · simp [updV, upd, hq]
theorem z_alen (K : zC p s m args c cc own nL b0 G) {a t0 : Nat} {cA : ClassId} {x : vp_A} {ty : FieldType} (hf : h.2 a = .inl (cA, x)) (ht : (zTys G)[t0]? = some (cA, ty)) (hd : decode cc pc = .ok (.arraylength, 1))
    (kk : zW p l e R s m args below meth c nL b0 G k n Q h (pc + 1) lv (.int (nI x.1) :: st)) : zW p l e R s m args below meth c nL b0 G k n Q h pc lv (.ref a :: st) := fun H locs ls h0 h1 h2 h3 h4 => by
  obtain ⟨q1, q2⟩ := z_inl h0 hf
  have he := z_Wget (h := h) q1 q2
  rw [hf] at he
  exact va_alen K.1 K.2.1 K.2.2.2.2.2.1 h2 (a - b0) t0 he ht rfl hd (kk H locs ls h0 h1 h2 h3 h4)
theorem z_aald (K : zC p s m args c cc own nL b0 G) {a N t0 : Nat} {cA : ClassId} {C : String} {f : Nat → Option Nat} {i : Int32} (hf : h.2 a = .inl (cA, N, .inr (.inr (.inr (.inr f))))) (ht : (zTys G)[t0]? = some (cA, .object C)) (hin : vp_in i N) (hd : decode cc pc = .ok (.aaload, 1))
    (kk : zW p l e R s m args below meth c nL b0 G k n Q h (pc + 1) lv (va_rf (f i.toNatClampNeg) :: st)) : zW p l e R s m args below meth c nL b0 G k n Q h pc lv (.int i :: .ref a :: st) := fun H locs ls h0 h1 h2 h3 h4 => by
  obtain ⟨q1, q2⟩ := z_inl h0 hf
  have he := z_Wget (h := h) q1 q2
  rw [hf] at he
  exact va_aldq K.1 K.2.1 K.2.2.2.2.2.1 h2 (a - b0) t0 he ht hin hd (kk H locs ls h0 h1 h2 h3 h4)
theorem z_finN {H1 : Heap} {H : Heap} {locs : List Loc} {ls : Array Slot} {v : va_E} {pc' k' n' : Nat} {st' : List Value} (h0 : z_wf b0 h) (h1 : H.size = h.1) (h2 : va_P G.1 vwCl (z_W b0 h) H) (h3 : va_S (z_A b0) s.heap H locs) (h4 : lv_has ls nL lv)
    (hat : va_at G.1 vwCl (h.1, v) H1) (z : H1.size = H.size + 1) (oq : ∀ q : Nat, q < H.size → H1[q]? = H[q]?) (kk : zW p l e R s m args below meth c nL b0 G k' n' Q (h.1 + 1, va_up h.2 h.1 v) pc' lv st') : W p l e R s m args below meth c H1 locs k' n' Q (F0 m pc' ls st') := by
  have hk : ∀ (k : Nat) (x : Nat × va_E), (z_W b0 h)[k]? = some x → H1[x.1]? = H[x.1]? := fun k x hx => oq x.1 ((h2 k x hx).lt)
  have g2 : va_P G.1 vwCl (z_W b0 h ++ [(h.1, v)]) H1 := (h2.kept hk).app (fun k x hx => by
    have hz : k < 1 := (List.getElem?_eq_some_iff.mp hx).1
    rw [show k = 0 by omega] at hx
    cases hx
    exact hat)
  rw [z_Wpush h0.1] at g2
  exact kk H1 locs ls (z_wf_push h0) (by rw [z, h1]) g2 ⟨Nat.le_trans h3.1 (by omega), fun x g1 g3 => (oq x (Nat.lt_of_lt_of_le g1 h3.1)).trans (h3.2.1 x g1 g3), h3.2.2⟩ h4
/-- what 'new' at 'index' of 'own' makes -/
def zNw (own : String) (index ci N : Nat) (fs : List Value) : Prop :=
  ∃ (C : String) (T : u_T) (ty : Nat → FieldType), zCl ci C T N ty ∧ Cond.classLink own index C ∈ zTb ∧ Cond.instantiable C N ∈ zTb ∧ Cond.initialized C ∈ zTb ∧ ∀ j, j < N → defaultValue (ty j) = vp_V fs j
theorem z_new (K : zC p s m args c cc own nL b0 G) {index ci N : Nat} {fs : List Value} (hF : zNw own index ci N fs) (hc : k + 1 ≤ R.cells) (hs : n + N ≤ R.slots) (hd : decode cc pc = .ok (.new index, 3))
    (kk : zW p l e R s m args below meth c nL b0 G (k + 1) (n + N) Q (h.1 + 1, va_up h.2 h.1 (.inr (ci, fs))) (pc + 3) lv (.ref h.1 :: st)) : zW p l e R s m args below meth c nL b0 G k n Q h pc lv st := fun H locs ls h0 h1 h2 h3 h4 => by
  obtain ⟨C, T, ty, hC, w1, w2, w3, hfs⟩ := hF
  have hts := K.2.2.2.2.1
  have hKn := K.2.2.2.2.2.1.1 ci _ hC.1
  refine W.newcK K.1 K.2.1 K.2.2.2.1 (hts _ w1) (hts _ w2) (hts _ w3) rfl hd hc hs hKn.2.1 rfl fun H1 kC hkC e1 z1 o1 => ?_
  rw [h1] at e1 ⊢
  exact z_finN (v := .inr (ci, fs)) h0 h1 h2 h3 h4 ⟨_, hC.1, (u_born ty hts hC.2.2.1 hKn hkC e1 hC.2.2.2.1).to hfs⟩ z1 o1 kk
theorem z_newi (K : zC p s m args c cc own nL b0 G) {t0 N : Nat} {cA : ClassId} {x : Int32} (ht : (zTys G)[t0]? = some (cA, .int)) (hw : Cond.arrayClass .int ∈ zTb) (hx : x = nI N) (hN : N < 100000000) (hc : k + 1 ≤ R.cells) (hs : n + N ≤ R.slots) (hd : decode cc pc = .ok (.newarray .int, 2))
    (kk : zW p l e R s m args below meth c nL b0 G (k + 1) (n + N) Q (h.1 + 1, va_up h.2 h.1 (.inl (cA, N, .inl (fun _ => 0)))) (pc + 2) lv (.ref h.1 :: st)) : zW p l e R s m args below meth c nL b0 G k n Q h pc lv (.int x :: st) := fun H locs ls h0 h1 h2 h3 h4 => by
  subst hx
  refine va_newaK (atype := .int) K.1 K.2.1 (K.2.2.2.2.1 _ hw) rfl hd rfl (nI_pos (by omega)) (nI_clamp (by omega)) (by show N * 4 ≤ _; omega) hc hs rfl fun H1 cB e1 z1 o1 hAr hNm => ?_
  have hcA : cB = cA := Option.some.inj (hNm.symm.trans (K.2.2.2.2.2.1.2 t0 _ ht).2)
  subst hcA
  rw [h1] at e1 ⊢
  refine z_finN h0 h1 h2 h3 h4 ?_ z1 o1 kk
  show H1[h.1]? = some (vp_cell _ _)
  rw [vp_cell_i]
  exact e1
theorem z_newz (K : zC p s m args c cc own nL b0 G) {t0 N : Nat} {cA : ClassId} {x : Int32} (ht : (zTys G)[t0]? = some (cA, .boolean)) (hw : Cond.arrayClass .boolean ∈ zTb) (hx : x = nI N) (hN : N < 100000000) (hc : k + 1 ≤ R.cells) (hs : n + N ≤ R.slots) (hd : decode cc pc = .ok (.newarray .boolean, 2))
    (kk : zW p l e R s m args below meth c nL b0 G (k + 1) (n + N) Q (h.1 + 1, va_up h.2 h.1 (.inl (cA, N, .inl (fun _ => 0)))) (pc + 2) lv (.ref h.1 :: st)) : zW p l e R s m args below meth c nL b0 G k n Q h pc lv (.int x :: st) := fun H locs ls h0 h1 h2 h3 h4 => by
  subst hx
  refine va_newaK (atype := .boolean) K.1 K.2.1 (K.2.2.2.2.1 _ hw) rfl hd rfl (nI_pos (by omega)) (nI_clamp (by omega)) (by show N * 1 ≤ _; omega) hc hs rfl fun H1 cB e1 z1 o1 hAr hNm => ?_
  have hcA : cB = cA := Option.some.inj (hNm.symm.trans (K.2.2.2.2.2.1.2 t0 _ ht).2)
  subst hcA
  rw [h1] at e1 ⊢
  refine z_finN h0 h1 h2 h3 h4 ?_ z1 o1 kk
  show H1[h.1]? = some (vp_cell _ _)
  rw [vp_cell_i]
  exact e1
/-! calls -/
abbrev zRm (d lw mc ms : Nat) : Room := { frames := d, cells := mc, slots := ms, locals := lw }
def zU (G : zG) (b0 : Nat) (h : zH) (U : State) : Prop := z_wf b0 h ∧ U.heap.size = h.1 ∧ va_P G.1 vwCl (z_W b0 h) U.heap ∧ va_K G.1 vwCl (zTys G) U ∧ (∀ w ∈ zN, va_Nw w U) ∧ zT (z_A b0) U U.heap
def zQ (G : zG) (b0 : Nat) (post : Option Value → zH → Prop) : Array Value → State → Outcome → State → Prop := fun _ st oc t => (∃ (r : Option Value) (h : zH), oc = .returned r ∧ post r h ∧ zU G b0 h t) ∧ va_F (z_A b0) st t
def zMet (l : Launch) (G : zG) (b0 : Nat) (y : MethodName) (code : ByteArray) (maxL : Nat) (ret : Option FieldType) (d lw mc ms : Nat) (as : List Value) (h : zH) (post : Option Value → zH → Prop) : Prop :=
  Met l y (.code y code maxL ret :: zTb) (zRm d lw mc ms) (va_Pc as (zU G b0 h)) (zQ G b0 post) mc ms (z_A b0)
theorem z_U {t : State} {H : Heap} {locs : List Loc} (K : zC p s m args c cc own nL b0 G) (h0 : z_wf b0 h) (h1 : H.size = h.1) (h2 : va_P G.1 vwCl (z_W b0 h) H) (h3 : va_S (z_A b0) s.heap H locs) (ht : t.heap = H) (hW : s.WarmedH t.vm) : zU G b0 h t :=
  ⟨h0, by rw [ht]; exact h1, by rw [ht]; exact h2, va_K.moved hW.alike K.2.2.2.2.2.1, fun w hw => zN_warm hw hW (K.2.2.2.2.2.2.1 w hw), by rw [ht]; exact zT_moved hW.alike (zT_kept K.2.2.2.2.2.2.2.1 (fun a ha hA => h3.2.1 a ha hA))⟩
theorem zU_blind (G : zG) (b0 : Nat) (h : zH) (as : List Value) : FrameBlind (va_Pc as (zU G b0 h)) := fun a U g mk q => by
  obtain ⟨q0, q1, q2, q3, q4, q5, q6⟩ := q
  exact ⟨q0, q1, q2, q3, va_K.moved (u := U) (U := U.calling g mk a) (Vm.Alike.refl U.vm) q4, fun w hw => va_Nw.same (zN_on hw) (u := U) rfl (q5 w hw), zT_moved (u := U) (U := U.calling g mk a) (Vm.Alike.refl U.vm) q6⟩
theorem z_after {H : Heap} {locs : List Loc} {ls : Array Slot} {mc ms : Nat} {stk : List Value} {a : Array Value} {post : Option Value → zH → Prop} (hr : va_Run p l e R s m args below meth c H locs k n mc ms (F0 m pc ls stk) st (zQ G b0 post a) (z_A b0)) (hS : va_S (z_A b0) s.heap H locs) (h4 : lv_has ls nL lv)
    (kk : ∀ (r : Option Value) (h' : zH), post r h' → zW p l e R s m args below meth c nL b0 G (k + mc) (n + ms) Q h' (pc + 3) lv (r.toList ++ st)) : W p l e R s m args below meth c H locs k n Q (F0 m pc ls stk) := by
  intro T hT X
  obtain ⟨v, st₀, t, T', L, h0, X', hL, e1, e2, ⟨⟨r, u, hv, hp, hb⟩, hz, hk⟩, stp⟩ := hr T hT X
  cases hv
  rw [h0] at hz hk
  obtain ⟨t2, a1, b1⟩ := kk v u hp T'.heap (locs ++ L) ls hb.1 (by rw [e1]; exact hb.2.1) (by rw [e1]; exact hb.2.2.1)
    ⟨Nat.le_trans hS.1 (by rw [e1]; exact hz), fun q h1 h2 => by rw [e1, hk q (Nat.lt_of_lt_of_le h1 hS.1) h2]; exact hS.2.1 q h1 h2, fun q hq => by
      rcases List.mem_append.mp hq with h | h
      · exact hS.2.2 q h
      · exact hL q h⟩ h4 T' rfl X'
  exact ⟨t2, stp t2 a1, b1⟩
/-- what a call of y at 'index' of 'own' needs of the tables: kind 0 virtual, 1 special, 2 static -/
def zCa (own : String) (index : Nat) (y : MethodName) (code : ByteArray) (maxL : Nat) (ret : Option FieldType) (np : Nat) : Prop :=
  (Cond.code y code maxL ret ∈ zTb ∧ Cond.initialized y.cls ∈ zTb ∧ y.cls ≠ "java/lang/invoke/MethodHandle" ∧ y.cls ≠ "java/lang/invoke/VarHandle" ∧ (parseMethodDescriptor y.desc).map (fun d => d.parameters.length) = some np) ∧
    (Cond.methodLink own index y ∈ zTb ∨ ∃ host, Cond.methodLinkNest own index y host ∈ zN)
theorem zGood {y : MethodName} {code : ByteArray} {maxL : Nat} {ret : Option FieldType} (hc : Cond.code y code maxL ret ∈ zTb) : GoodIn zTb (.code y code maxL ret :: zTb) := fun w hw => by
  rcases List.mem_cons.mp hw with rfl | h
  · exact zTb_good _ hc
  · exact zTb_good _ h
theorem z_callV (K : zC p s m args c cc own nL b0 G) {index ci np maxL d lw mc ms a : Nat} {y : MethodName} {code : ByteArray} {ret : Option FieldType} {As fs stk : List Value} {T : u_T} {N : Nat} {post : Option Value → zH → Prop} (hM : zMet l G b0 y code maxL ret d lw mc ms (.ref a :: As) h post) (hc : zCa own index y code maxL ret np)
    (hi : Cond.instanceMethod y ∈ zTb) (hsel : Cond.selects y.cls y y ∈ zTb) (hcl : vwCl[ci]? = some (y.cls, T, N)) (hci : ci < 4294967295) (hf : h.2 a = .inr (ci, fs)) (hn : As.length = np) (hst : stk = As.reverse ++ .ref a :: st) (hR : d + 1 ≤ R.frames ∧ 8 + (maxL + 11) + lw ≤ R.locals ∧ k + mc ≤ R.cells ∧ n + ms ≤ R.slots) (hW : (st.map fun v => v.category).sum ≤ 8) (hd : decode cc pc = .ok (.invokevirtual index, 3))
    (kk : ∀ (r : Option Value) (h' : zH), post r h' → zW p l e R s m args below meth c nL b0 G (k + mc) (n + ms) Q h' (pc + 3) lv (r.toList ++ st)) : zW p l e R s m args below meth c nL b0 G k n Q h pc lv stk := fun H locs ls h0 h1 h2 h3 h4 => by
  obtain ⟨q1, q2⟩ := z_in h0 hf hci
  have he := z_Wget (h := h) q1 q2
  rw [hf] at he
  have hts := K.2.2.2.2.1
  obtain ⟨⟨w1, w2, w3, w4, w5⟩, hl⟩ := hc
  have hpre : PreV s H y.cls a (va_Pc (.ref a :: As) (zU G b0 h)) As := ⟨zU_blind G b0 h _, va_recv K.2.2.2.2.2.1 h2 hcl he, fun U hU hWm => ⟨rfl, z_U K h0 h1 h2 h3 hU hWm⟩⟩
  rcases hl with hl | ⟨host, hl⟩
  · exact z_after (va_runV (As := As) (rest := st) ⟨K.1, K.2.1, K.2.2.1, K.2.2.2.1, hts⟩ hM ⟨callB_of np hts (zGood w1) rfl rfl rfl (hts _ w2) (hts _ hl) ⟨w3, w4, w5⟩ ⟨hR.1, hR.2.1⟩, hts _ hi, hts _ hsel⟩ hpre rfl hn h4.1 hst (lv_room hW) hd hR.2.2) h3 h4 kk
  · exact z_after (va_runVN (As := As) (rest := st) ⟨K.1, K.2.1, K.2.2.1, K.2.2.2.1, hts⟩ hM ⟨va_cnB np hts (zGood w1) rfl rfl rfl (K.2.2.2.2.2.2.1 _ hl) (hts _ w2) ⟨w3, w4, w5⟩ ⟨hR.1, hR.2.1⟩, hts _ hi, hts _ hsel⟩ hpre rfl hn h4.1 hst (lv_room hW) hd hR.2.2) h3 h4 kk
theorem z_callI (K : zC p s m args c cc own nL b0 G) {index np maxL d lw mc ms a : Nat} {y : MethodName} {code : ByteArray} {As stk : List Value} {post : Option Value → zH → Prop} (hM : zMet l G b0 y code maxL none d lw mc ms (.ref a :: As) h post) (hc : zCa own index y code maxL none np)
    (hi : Cond.instanceMethod y ∈ zTb) (hy : y.name = "<init>") (hn : As.length = np) (hst : stk = As.reverse ++ .ref a :: st) (hR : d + 1 ≤ R.frames ∧ 8 + (maxL + 11) + lw ≤ R.locals ∧ k + mc ≤ R.cells ∧ n + ms ≤ R.slots) (hW : (st.map fun v => v.category).sum ≤ 8) (hd : decode cc pc = .ok (.invokespecial index, 3))
    (kk : ∀ (r : Option Value) (h' : zH), post r h' → zW p l e R s m args below meth c nL b0 G (k + mc) (n + ms) Q h' (pc + 3) lv (r.toList ++ st)) : zW p l e R s m args below meth c nL b0 G k n Q h pc lv stk := fun H locs ls h0 h1 h2 h3 h4 => by
  have hts := K.2.2.2.2.1
  obtain ⟨⟨w1, w2, w3, w4, w5⟩, hl⟩ := hc
  have hpre : PreS s H (va_Pc (.ref a :: As) (zU G b0 h)) (.ref a :: As) := ⟨zU_blind G b0 h _, fun U hU hWm => ⟨rfl, z_U K h0 h1 h2 h3 hU hWm⟩⟩
  rcases hl with hl | ⟨host, hl⟩
  · exact z_after (va_runI (As := As) (rest := st) ⟨K.1, K.2.1, K.2.2.1, K.2.2.2.1, hts⟩ hM ⟨callB_of np hts (zGood w1) rfl rfl rfl (hts _ w2) (hts _ hl) ⟨w3, w4, w5⟩ ⟨hR.1, hR.2.1⟩, hy, hts _ hi⟩ hpre rfl hn h4.1 hst (lv_room hW) hd hR.2.2) h3 h4 kk
  · exact z_after (va_runIN (As := As) (rest := st) ⟨K.1, K.2.1, K.2.2.1, K.2.2.2.1, hts⟩ hM ⟨va_cnB np hts (zGood w1) rfl rfl rfl (K.2.2.2.2.2.2.1 _ hl) (hts _ w2) ⟨w3, w4, w5⟩ ⟨hR.1, hR.2.1⟩, hy, hts _ hi⟩ hpre rfl hn h4.1 hst (lv_room hW) hd hR.2.2) h3 h4 kk
theorem z_callS (K : zC p s m args c cc own nL b0 G) {index np maxL d lw mc ms : Nat} {y : MethodName} {code : ByteArray} {ret : Option FieldType} {As stk : List Value} {post : Option Value → zH → Prop} (hM : zMet l G b0 y code maxL ret d lw mc ms As h post) (hc : zCa own index y code maxL ret np)
    (hi : Cond.static y ∈ zTb) (hn : As.length = np) (hst : stk = As.reverse ++ st) (hR : d + 1 ≤ R.frames ∧ 8 + (maxL + 11) + lw ≤ R.locals ∧ k + mc ≤ R.cells ∧ n + ms ≤ R.slots) (hW : (st.map fun v => v.category).sum ≤ 8) (hd : decode cc pc = .ok (.invokestatic index, 3))
    (kk : ∀ (r : Option Value) (h' : zH), post r h' → zW p l e R s m args below meth c nL b0 G (k + mc) (n + ms) Q h' (pc + 3) lv (r.toList ++ st)) : zW p l e R s m args below meth c nL b0 G k n Q h pc lv stk := fun H locs ls h0 h1 h2 h3 h4 => by
  have hts := K.2.2.2.2.1
  obtain ⟨⟨w1, w2, w3, w4, w5⟩, hl⟩ := hc
  have hpre : PreS s H (va_Pc As (zU G b0 h)) As := ⟨zU_blind G b0 h _, fun U hU hWm => ⟨rfl, z_U K h0 h1 h2 h3 hU hWm⟩⟩
  rcases hl with hl | ⟨host, hl⟩
  · exact z_after (va_runS (As := As) (rest := st) ⟨K.1, K.2.1, K.2.2.1, K.2.2.2.1, hts⟩ hM ⟨callB_of np hts (zGood w1) rfl rfl rfl (hts _ w2) (hts _ hl) ⟨w3, w4, w5⟩ ⟨hR.1, hR.2.1⟩, hts _ hi⟩ hpre rfl hn h4.1 hst (lv_room hW) hd hR.2.2) h3 h4 kk
  · exact z_after (va_runSN (As := As) (rest := st) ⟨K.1, K.2.1, K.2.2.1, K.2.2.2.1, hts⟩ hM ⟨va_cnB np hts (zGood w1) rfl rfl rfl (K.2.2.2.2.2.2.1 _ hl) (hts _ w2) ⟨w3, w4, w5⟩ ⟨hR.1, hR.2.1⟩, hts _ hi, trivial⟩ hpre rfl hn h4.1 hst (lv_room hW) hd hR.2.2) h3 h4 kk
theorem z_obj (K : zC p s m args c cc own nL b0 G) {index a : Nat} (w1 : Cond.methodLink own index Lib.objectInit ∈ zTb) (w2 : Cond.instanceMethod Lib.objectInit ∈ zTb) (w3 : Cond.code Lib.objectInit ⟨#[0xb1]⟩ 1 none ∈ zTb) (hd : decode cc pc = .ok (.invokespecial index, 3)) (hR : 1 ≤ R.frames ∧ (st.map fun v => v.category).sum + 12 ≤ R.locals)
    (kk : zW p l e R s m args below meth c nL b0 G k n Q h (pc + 3) lv st) : zW p l e R s m args below meth c nL b0 G k n Q h pc lv (.ref a :: st) := fun H locs ls h0 h1 h2 h3 h4 => by
  have hts := K.2.2.2.2.1
  refine W.objInit K.1 K.2.1 K.2.2.2.1 (hts _ w1) (hts _ w2) (hts _ w3) rfl (by rw [K.2.2.1]; exact h4.1) rfl hd hR.1 (by show 2 * 0 + _ + 12 ≤ _; omega) ?_
  exact W.eq (g2 := F0 m (pc + 3) ls st) rfl (kk H locs ls h0 h1 h2 h3 h4)
/-! answers -/
variable {post : Option Value → zH → Prop}
theorem z_iret (K : zC p s m args c cc own nL b0 G) {v : Int32} (hr : meth.sig.returnType = some .int) (hlocks : meth.locks = false) (hd : decode cc pc = .ok (.ireturn, 1)) (hp : post (some (.int v)) h) : zW p l e R s m args below meth c nL b0 G k n (MQ below (zQ G b0 post) args s k n (z_A b0)) h pc lv [.int v] :=
  fun H locs ls h0 h1 h2 h3 h4 => W.iret K.1 K.2.1 hr (fun t ht hW => ⟨⟨_, h, rfl, hp, z_U K h0 h1 h2 h3 ht hW⟩, h3.F ht⟩) h3.2.2 hd hlocks
theorem z_zret (K : zC p s m args c cc own nL b0 G) {v : Int32} (hr : meth.sig.returnType = some .boolean) (hlocks : meth.locks = false) (hd : decode cc pc = .ok (.ireturn, 1)) (hv : narrow .boolean (.int v) = .int v) (hp : post (some (.int v)) h) : zW p l e R s m args below meth c nL b0 G k n (MQ below (zQ G b0 post) args s k n (z_A b0)) h pc lv [.int v] :=
  fun H locs ls h0 h1 h2 h3 h4 => W.zret K.1 K.2.1 hr hv (fun t ht hW => ⟨⟨_, h, rfl, hp, z_U K h0 h1 h2 h3 ht hW⟩, h3.F ht⟩) h3.2.2 hd hlocks
theorem z_lret (K : zC p s m args c cc own nL b0 G) {v : Int64} (hr : meth.sig.returnType = some .long) (hlocks : meth.locks = false) (hd : decode cc pc = .ok (.lreturn, 1)) (hp : post (some (.long v)) h) : zW p l e R s m args below meth c nL b0 G k n (MQ below (zQ G b0 post) args s k n (z_A b0)) h pc lv [.long v] :=
  fun H locs ls h0 h1 h2 h3 h4 => W.lret K.1 K.2.1 hr (fun t ht hW => ⟨⟨_, h, rfl, hp, z_U K h0 h1 h2 h3 ht hW⟩, h3.F ht⟩) h3.2.2 hd hlocks
theorem z_vret (K : zC p s m args c cc own nL b0 G) (hr : meth.sig.returnType = none) (hlocks : meth.locks = false) (hd : decode cc pc = .ok (.return_, 1)) (hp : post none h) : zW p l e R s m args below meth c nL b0 G k n (MQ below (zQ G b0 post) args s k n (z_A b0)) h pc lv [] :=
  fun H locs ls h0 h1 h2 h3 h4 => W.vret K.1 K.2.1 hr (fun t ht hW => ⟨⟨_, h, rfl, hp, z_U K h0 h1 h2 h3 ht hW⟩, h3.F ht⟩) h3.2.2 hd hlocks
theorem z_aret (K : zC p s m args c cc own nL b0 G) {a : Nat} {rt : FieldType} (hr : meth.sig.returnType = some rt) (hrt : (∃ n, rt = .object n) ∨ ∃ t, rt = .array t) (hlocks : meth.locks = false) (hd : decode cc pc = .ok (.areturn, 1)) (hp : post (some (.ref a)) h) : zW p l e R s m args below meth c nL b0 G k n (MQ below (zQ G b0 post) args s k n (z_A b0)) h pc lv [.ref a] :=
  fun H locs ls h0 h1 h2 h3 h4 => W.aret K.1 K.2.1 hr hrt (Or.inr ⟨a, rfl⟩) (fun t ht hW => ⟨⟨_, h, rfl, hp, z_U K h0 h1 h2 h3 ht hW⟩, h3.F ht⟩) h3.2.2 hd hlocks
end ZL
/-- a method's contract, out of the walk of its body -/
theorem z_met {l : Launch} {G : zG} {b0 d lw mc ms maxL : Nat} {y : MethodName} {cc : ByteArray} {ret : Option FieldType} {as : List Value} {h : zH} {post : Option Value → zH → Prop} (hy : plainName y.cls = true) (hl : (lg_sl as).length ≤ maxL)
    (body : ∀ (p : Program) (e : Env) (s : State) (m : MethodId) (below : List Frame) (meth : Method) (c : Code), zC p s m as.toArray c cc y.cls maxL b0 G → meth.sig.returnType = ret → meth.locks = false → meth.name = y.name →
      zW p l e (zRm d lw mc ms) s m as.toArray below meth c maxL b0 G 0 0 (MQ below (zQ G b0 post) as.toArray s mc ms (z_A b0)) h 0 (lv_args 0 as) []) : zMet l G b0 y cc maxL ret d lw mc ms as h post := by
  refine Met.ofW (cc := cc) (maxL := maxL) (ret := ret) hy rfl ?_
  intro p e s m args below meth c s₁ B hml hv
  obtain ⟨rfl, q0, q1, q2, q3, q4, q5⟩ := hv
  have hts := atoms_spec (ws := .code y cc maxL ret :: zTb) B.pre
  have hown : s.vm.findClass y.cls = some m.cls := findClass_of_methodNamed B.named
  have hb0 : b0 ≤ s.heap.size := by rw [q1]; exact q0.1
  have K : zC p s m as.toArray c cc y.cls maxL b0 G := ⟨B.exec, B.bytes, hml, hown, fun w hw => hts w (List.mem_cons_of_mem _ hw), q3, q4, q5, hb0⟩
  rw [lg_entry_eq]
  exact body p e s m below meth c K B.returns B.notSynchronized (name_of_methodNamed B.named B.method).1 s.heap [] _ q0 q1 q2 va_S.rf (lv_entry as hl)
end
section
theorem zTb_of {w : Cond} (h : w ∈ tables_1) (g : goodWord w = true) : w ∈ zTb := List.mem_filter.mpr ⟨List.mem_append_right _ h, g⟩
theorem zN_of {w : Cond} (h : w ∈ tables_1) (g : zNk w = true) : w ∈ zN := List.mem_filter.mpr ⟨List.mem_append_right _ h, g⟩
set_option maxRecDepth 20000 in
theorem zTb_sel {q : MethodName × Nat} (h : q ∈ lw_privs) (g : goodWord (Cond.selects q.1.cls q.1 q.1) = true) : Cond.selects q.1.cls q.1 q.1 ∈ zTb := List.mem_filter.mpr ⟨List.mem_append_left _ (List.mem_map.mpr ⟨q, h, rfl⟩), g⟩
theorem tm1 {w : Cond} (h : w ∈ tables_1_1) : w ∈ tables_1 := List.mem_append_left _ h
theorem tm2 {w : Cond} (h : w ∈ tables_1_2) : w ∈ tables_1 := List.mem_append_right _ (List.mem_append_left _ h)
theorem tm3 {w : Cond} (h : w ∈ tables_1_3) : w ∈ tables_1 := List.mem_append_right _ (List.mem_append_right _ (List.mem_append_left _ h))
theorem tm4 {w : Cond} (h : w ∈ tables_1_4) : w ∈ tables_1 := List.mem_append_right _ (List.mem_append_right _ (List.mem_append_right _ h))
theorem ws_M : ∀ w ∈ u_ws R_M F_M 5, w ∈ zTb := fun w hw => by
  obtain ⟨k, hk, rfl⟩ := List.mem_map.mp hw
  have hk2 := List.mem_range.mp hk
  match k, hk2 with
  | 0, _ => exact zTb_of (tm3 (List.mem_of_getElem? (i := 226) rfl)) rfl
  | 1, _ => exact zTb_of (tm3 (List.mem_of_getElem? (i := 228) rfl)) rfl
  | 2, _ => exact zTb_of (tm3 (List.mem_of_getElem? (i := 230) rfl)) rfl
  | 3, _ => exact zTb_of (tm3 (List.mem_of_getElem? (i := 232) rfl)) rfl
  | 4, _ => exact zTb_of (tm3 (List.mem_of_getElem? (i := 234) rfl)) rfl
set_option maxRecDepth 20000 in
theorem zcl_M : zCl 0 R_M F_M 5 t_M := ⟨rfl, by decide, ws_M, t_M_ok, n_M⟩
set_option maxRecDepth 20000 in
theorem ini_M : Cond.initialized R_M ∈ zTb := zTb_of (tm1 (List.mem_of_getElem? (i := 10) rfl)) rfl
theorem ws_N : ∀ w ∈ u_ws R_N F_N 3, w ∈ zTb := fun w hw => by
  obtain ⟨k, hk, rfl⟩ := List.mem_map.mp hw
  have hk2 := List.mem_range.mp hk
  match k, hk2 with
  | 0, _ => exact zTb_of (tm1 (List.mem_of_getElem? (i := 49) rfl)) rfl
  | 1, _ => exact zTb_of (tm1 (List.mem_of_getElem? (i := 51) rfl)) rfl
  | 2, _ => exact zTb_of (tm1 (List.mem_of_getElem? (i := 53) rfl)) rfl
set_option maxRecDepth 20000 in
theorem zcl_N : zCl 1 R_N F_N 3 t_N := ⟨rfl, by decide, ws_N, t_N_ok, n_N⟩
set_option maxRecDepth 20000 in
theorem ini_N : Cond.initialized R_N ∈ zTb := zTb_of (tm1 (List.mem_of_getElem? (i := 3) rfl)) rfl
theorem ws_P : ∀ w ∈ u_ws R_P F_P 6, w ∈ zTb := fun w hw => by
  obtain ⟨k, hk, rfl⟩ := List.mem_map.mp hw
  have hk2 := List.mem_range.mp hk
  match k, hk2 with
  | 0, _ => exact zTb_of (tm2 (List.mem_of_getElem? (i := 62) rfl)) rfl
  | 1, _ => exact zTb_of (tm2 (List.mem_of_getElem? (i := 64) rfl)) rfl
  | 2, _ => exact zTb_of (tm2 (List.mem_of_getElem? (i := 66) rfl)) rfl
  | 3, _ => exact zTb_of (tm2 (List.mem_of_getElem? (i := 68) rfl)) rfl
  | 4, _ => exact zTb_of (tm2 (List.mem_of_getElem? (i := 70) rfl)) rfl
  | 5, _ => exact zTb_of (tm2 (List.mem_of_getElem? (i := 72) rfl)) rfl
set_option maxRecDepth 20000 in
theorem zcl_P : zCl 2 R_P F_P 6 t_P := ⟨rfl, by decide, ws_P, t_P_ok, n_P⟩
set_option maxRecDepth 20000 in
theorem ini_P : Cond.initialized R_P ∈ zTb := zTb_of (tm1 (List.mem_of_getElem? (i := 9) rfl)) rfl
theorem ws_Q : ∀ w ∈ u_ws R_Q F_Q 10, w ∈ zTb := fun w hw => by
  obtain ⟨k, hk, rfl⟩ := List.mem_map.mp hw
  have hk2 := List.mem_range.mp hk
  match k, hk2 with
  | 0, _ => exact zTb_of (tm1 (List.mem_of_getElem? (i := 150) rfl)) rfl
  | 1, _ => exact zTb_of (tm1 (List.mem_of_getElem? (i := 152) rfl)) rfl
  | 2, _ => exact zTb_of (tm1 (List.mem_of_getElem? (i := 154) rfl)) rfl
  | 3, _ => exact zTb_of (tm1 (List.mem_of_getElem? (i := 156) rfl)) rfl
  | 4, _ => exact zTb_of (tm1 (List.mem_of_getElem? (i := 158) rfl)) rfl
  | 5, _ => exact zTb_of (tm1 (List.mem_of_getElem? (i := 160) rfl)) rfl
  | 6, _ => exact zTb_of (tm1 (List.mem_of_getElem? (i := 162) rfl)) rfl
  | 7, _ => exact zTb_of (tm1 (List.mem_of_getElem? (i := 164) rfl)) rfl
  | 8, _ => exact zTb_of (tm1 (List.mem_of_getElem? (i := 166) rfl)) rfl
  | 9, _ => exact zTb_of (tm1 (List.mem_of_getElem? (i := 168) rfl)) rfl
set_option maxRecDepth 20000 in
theorem zcl_Q : zCl 3 R_Q F_Q 10 t_Q := ⟨rfl, by decide, ws_Q, t_Q_ok, n_Q⟩
set_option maxRecDepth 20000 in
theorem ini_Q : Cond.initialized R_Q ∈ zTb := zTb_of (tm1 (List.mem_of_getElem? (i := 6) rfl)) rfl
theorem ws_R : ∀ w ∈ u_ws R_R F_R 5, w ∈ zTb := fun w hw => by
  obtain ⟨k, hk, rfl⟩ := List.mem_map.mp hw
  have hk2 := List.mem_range.mp hk
  match k, hk2 with
  | 0, _ => exact zTb_of (tm1 (List.mem_of_getElem? (i := 63) rfl)) rfl
  | 1, _ => exact zTb_of (tm1 (List.mem_of_getElem? (i := 65) rfl)) rfl
  | 2, _ => exact zTb_of (tm1 (List.mem_of_getElem? (i := 67) rfl)) rfl
  | 3, _ => exact zTb_of (tm1 (List.mem_of_getElem? (i := 69) rfl)) rfl
  | 4, _ => exact zTb_of (tm1 (List.mem_of_getElem? (i := 71) rfl)) rfl
set_option maxRecDepth 20000 in
theorem zcl_R : zCl 4 R_R F_R 5 t_R := ⟨rfl, by decide, ws_R, t_R_ok, n_R⟩
set_option maxRecDepth 20000 in
theorem ini_R : Cond.initialized R_R ∈ zTb := zTb_of (tm1 (List.mem_of_getElem? (i := 2) rfl)) rfl
theorem ws_D : ∀ w ∈ u_ws R_D F_D 10, w ∈ zTb := fun w hw => by
  obtain ⟨k, hk, rfl⟩ := List.mem_map.mp hw
  have hk2 := List.mem_range.mp hk
  match k, hk2 with
  | 0, _ => exact zTb_of (tm1 (List.mem_of_getElem? (i := 98) rfl)) rfl
  | 1, _ => exact zTb_of (tm1 (List.mem_of_getElem? (i := 100) rfl)) rfl
  | 2, _ => exact zTb_of (tm1 (List.mem_of_getElem? (i := 102) rfl)) rfl
  | 3, _ => exact zTb_of (tm1 (List.mem_of_getElem? (i := 104) rfl)) rfl
  | 4, _ => exact zTb_of (tm1 (List.mem_of_getElem? (i := 106) rfl)) rfl
  | 5, _ => exact zTb_of (tm1 (List.mem_of_getElem? (i := 108) rfl)) rfl
  | 6, _ => exact zTb_of (tm1 (List.mem_of_getElem? (i := 110) rfl)) rfl
  | 7, _ => exact zTb_of (tm1 (List.mem_of_getElem? (i := 112) rfl)) rfl
  | 8, _ => exact zTb_of (tm1 (List.mem_of_getElem? (i := 114) rfl)) rfl
  | 9, _ => exact zTb_of (tm1 (List.mem_of_getElem? (i := 116) rfl)) rfl
set_option maxRecDepth 20000 in
theorem zcl_D : zCl 5 R_D F_D 10 t_D := ⟨rfl, by decide, ws_D, t_D_ok, n_D⟩
set_option maxRecDepth 20000 in
theorem ini_D : Cond.initialized R_D ∈ zTb := zTb_of (tm1 (List.mem_of_getElem? (i := 5) rfl)) rfl
theorem ws_E : ∀ w ∈ u_ws R_E F_E 10, w ∈ zTb := fun w hw => by
  obtain ⟨k, hk, rfl⟩ := List.mem_map.mp hw
  have hk2 := List.mem_range.mp hk
  match k, hk2 with
  | 0, _ => exact zTb_of (tm2 (List.mem_of_getElem? (i := 13) rfl)) rfl
  | 1, _ => exact zTb_of (tm2 (List.mem_of_getElem? (i := 15) rfl)) rfl
  | 2, _ => exact zTb_of (tm2 (List.mem_of_getElem? (i := 17) rfl)) rfl
  | 3, _ => exact zTb_of (tm2 (List.mem_of_getElem? (i := 19) rfl)) rfl
  | 4, _ => exact zTb_of (tm2 (List.mem_of_getElem? (i := 21) rfl)) rfl
  | 5, _ => exact zTb_of (tm2 (List.mem_of_getElem? (i := 23) rfl)) rfl
  | 6, _ => exact zTb_of (tm2 (List.mem_of_getElem? (i := 25) rfl)) rfl
  | 7, _ => exact zTb_of (tm2 (List.mem_of_getElem? (i := 27) rfl)) rfl
  | 8, _ => exact zTb_of (tm2 (List.mem_of_getElem? (i := 29) rfl)) rfl
  | 9, _ => exact zTb_of (tm2 (List.mem_of_getElem? (i := 31) rfl)) rfl
set_option maxRecDepth 20000 in
theorem zcl_E : zCl 6 R_E F_E 10 t_E := ⟨rfl, by decide, ws_E, t_E_ok, n_E⟩
set_option maxRecDepth 20000 in
theorem ini_E : Cond.initialized R_E ∈ zTb := zTb_of (tm1 (List.mem_of_getElem? (i := 8) rfl)) rfl
theorem ws_C : ∀ w ∈ u_ws R_C F_C 13, w ∈ zTb := fun w hw => by
  obtain ⟨k, hk, rfl⟩ := List.mem_map.mp hw
  have hk2 := List.mem_range.mp hk
  match k, hk2 with
  | 0, _ => exact zTb_of (tm1 (List.mem_of_getElem? (i := 208) rfl)) rfl
  | 1, _ => exact zTb_of (tm1 (List.mem_of_getElem? (i := 210) rfl)) rfl
  | 2, _ => exact zTb_of (tm1 (List.mem_of_getElem? (i := 212) rfl)) rfl
  | 3, _ => exact zTb_of (tm1 (List.mem_of_getElem? (i := 214) rfl)) rfl
  | 4, _ => exact zTb_of (tm1 (List.mem_of_getElem? (i := 216) rfl)) rfl
  | 5, _ => exact zTb_of (tm1 (List.mem_of_getElem? (i := 218) rfl)) rfl
  | 6, _ => exact zTb_of (tm1 (List.mem_of_getElem? (i := 220) rfl)) rfl
  | 7, _ => exact zTb_of (tm1 (List.mem_of_getElem? (i := 222) rfl)) rfl
  | 8, _ => exact zTb_of (tm1 (List.mem_of_getElem? (i := 224) rfl)) rfl
  | 9, _ => exact zTb_of (tm1 (List.mem_of_getElem? (i := 226) rfl)) rfl
  | 10, _ => exact zTb_of (tm1 (List.mem_of_getElem? (i := 228) rfl)) rfl
  | 11, _ => exact zTb_of (tm1 (List.mem_of_getElem? (i := 230) rfl)) rfl
  | 12, _ => exact zTb_of (tm1 (List.mem_of_getElem? (i := 232) rfl)) rfl
set_option maxRecDepth 20000 in
theorem zcl_C : zCl 7 R_C F_C 13 t_C := ⟨rfl, by decide, ws_C, t_C_ok, n_C⟩
set_option maxRecDepth 20000 in
theorem ini_C : Cond.initialized R_C ∈ zTb := zTb_of (tm1 (List.mem_of_getElem? (i := 7) rfl)) rfl
theorem ws_X : ∀ w ∈ u_ws R_X F_X 7, w ∈ zTb := fun w hw => by
  obtain ⟨k, hk, rfl⟩ := List.mem_map.mp hw
  have hk2 := List.mem_range.mp hk
  match k, hk2 with
  | 0, _ => exact zTb_of (tm2 (List.mem_of_getElem? (i := 83) rfl)) rfl
  | 1, _ => exact zTb_of (tm2 (List.mem_of_getElem? (i := 85) rfl)) rfl
  | 2, _ => exact zTb_of (tm2 (List.mem_of_getElem? (i := 87) rfl)) rfl
  | 3, _ => exact zTb_of (tm2 (List.mem_of_getElem? (i := 89) rfl)) rfl
  | 4, _ => exact zTb_of (tm2 (List.mem_of_getElem? (i := 91) rfl)) rfl
  | 5, _ => exact zTb_of (tm2 (List.mem_of_getElem? (i := 93) rfl)) rfl
  | 6, _ => exact zTb_of (tm2 (List.mem_of_getElem? (i := 95) rfl)) rfl
set_option maxRecDepth 20000 in
theorem zcl_X : zCl 8 R_X F_X 7 t_X := ⟨rfl, by decide, ws_X, t_X_ok, n_X⟩
set_option maxRecDepth 20000 in
theorem ini_X : Cond.initialized R_X ∈ zTb := zTb_of (tm1 (List.mem_of_getElem? (i := 1) rfl)) rfl
set_option maxRecDepth 20000 in
theorem nw_L_7 : zNw R_law 7 8 7 [.null, .null, .null, .null, .null, .null, .null] := ⟨R_X, F_X, t_X, zcl_X, zTb_of (tm1 (List.mem_of_getElem? (i := 12) rfl)) rfl, zTb_of (tm1 (List.mem_of_getElem? (i := 13) rfl)) rfl, ini_X, by decide +kernel⟩
set_option maxRecDepth 20000 in
theorem nw_X_7 : zNw R_X 7 4 5 [.null, .null, .null, .null, .int 0] := ⟨R_R, F_R, t_R, zcl_R, zTb_of (tm1 (List.mem_of_getElem? (i := 20) rfl)) rfl, zTb_of (tm1 (List.mem_of_getElem? (i := 21) rfl)) rfl, ini_R, by decide +kernel⟩
set_option maxRecDepth 20000 in
theorem nw_R_21 : zNw R_R 21 1 3 [.null, .int 0, .int 0] := ⟨R_N, F_N, t_N, zcl_N, zTb_of (tm1 (List.mem_of_getElem? (i := 26) rfl)) rfl, zTb_of (tm1 (List.mem_of_getElem? (i := 27) rfl)) rfl, ini_N, by decide +kernel⟩
set_option maxRecDepth 20000 in
theorem fd_N_15 : zFd R_N 15 1 0 (.array .int) true := ⟨R_N, F_N, 3, t_N, zcl_N, by decide, rfl, rfl, Or.inl (zTb_of (tm1 (List.mem_of_getElem? (i := 35) rfl)) rfl)⟩
set_option maxRecDepth 20000 in
theorem ff_N_15 : zFf R_N 15 1 0 (.array .int) := ⟨R_N, F_N, 3, t_N, zcl_N, by decide, rfl, rfl, rfl, zTb_of (tm1 (List.mem_of_getElem? (i := 35) rfl)) rfl⟩
set_option maxRecDepth 20000 in
theorem fd_R_59 : zFd R_R 59 1 0 (.array .int) true := ⟨R_N, F_N, 3, t_N, zcl_N, by decide, rfl, rfl, Or.inl (zTb_of (tm1 (List.mem_of_getElem? (i := 36) rfl)) rfl)⟩
set_option maxRecDepth 20000 in
theorem fd_D_123 : zFd R_D 123 1 0 (.array .int) true := ⟨R_N, F_N, 3, t_N, zcl_N, by decide, rfl, rfl, Or.inl (zTb_of (tm1 (List.mem_of_getElem? (i := 37) rfl)) rfl)⟩
set_option maxRecDepth 20000 in
theorem fd_X_112 : zFd R_X 112 1 0 (.array .int) true := ⟨R_N, F_N, 3, t_N, zcl_N, by decide, rfl, rfl, Or.inl (zTb_of (tm1 (List.mem_of_getElem? (i := 38) rfl)) rfl)⟩
set_option maxRecDepth 20000 in
theorem fd_N_21 : zFd R_N 21 1 1 (.int) false := ⟨R_N, F_N, 3, t_N, zcl_N, by decide, rfl, rfl, Or.inl (zTb_of (tm1 (List.mem_of_getElem? (i := 39) rfl)) rfl)⟩
set_option maxRecDepth 20000 in
theorem fd_D_57 : zFd R_D 57 1 1 (.int) false := ⟨R_N, F_N, 3, t_N, zcl_N, by decide, rfl, rfl, Or.inl (zTb_of (tm1 (List.mem_of_getElem? (i := 40) rfl)) rfl)⟩
set_option maxRecDepth 20000 in
theorem fd_R_49 : zFd R_R 49 1 1 (.int) false := ⟨R_N, F_N, 3, t_N, zcl_N, by decide, rfl, rfl, Or.inl (zTb_of (tm1 (List.mem_of_getElem? (i := 41) rfl)) rfl)⟩
set_option maxRecDepth 20000 in
theorem fd_X_106 : zFd R_X 106 1 1 (.int) false := ⟨R_N, F_N, 3, t_N, zcl_N, by decide, rfl, rfl, Or.inl (zTb_of (tm1 (List.mem_of_getElem? (i := 42) rfl)) rfl)⟩
set_option maxRecDepth 20000 in
theorem fd_R_30 : zFd R_R 30 1 2 (.boolean) false := ⟨R_N, F_N, 3, t_N, zcl_N, by decide, rfl, rfl, Or.inl (zTb_of (tm1 (List.mem_of_getElem? (i := 43) rfl)) rfl)⟩
set_option maxRecDepth 20000 in
theorem fd_N_25 : zFd R_N 25 1 2 (.boolean) false := ⟨R_N, F_N, 3, t_N, zcl_N, by decide, rfl, rfl, Or.inl (zTb_of (tm1 (List.mem_of_getElem? (i := 44) rfl)) rfl)⟩
set_option maxRecDepth 20000 in
theorem fd_D_45 : zFd R_D 45 1 2 (.boolean) false := ⟨R_N, F_N, 3, t_N, zcl_N, by decide, rfl, rfl, Or.inl (zTb_of (tm1 (List.mem_of_getElem? (i := 45) rfl)) rfl)⟩
set_option maxRecDepth 20000 in
theorem fd_E_98 : zFd R_E 98 1 2 (.boolean) false := ⟨R_N, F_N, 3, t_N, zcl_N, by decide, rfl, rfl, Or.inl (zTb_of (tm1 (List.mem_of_getElem? (i := 46) rfl)) rfl)⟩
set_option maxRecDepth 20000 in
theorem fd_C_187 : zFd R_C 187 1 2 (.boolean) false := ⟨R_N, F_N, 3, t_N, zcl_N, by decide, rfl, rfl, Or.inl (zTb_of (tm1 (List.mem_of_getElem? (i := 47) rfl)) rfl)⟩
set_option maxRecDepth 20000 in
theorem fd_X_140 : zFd R_X 140 1 2 (.boolean) false := ⟨R_N, F_N, 3, t_N, zcl_N, by decide, rfl, rfl, Or.inl (zTb_of (tm1 (List.mem_of_getElem? (i := 48) rfl)) rfl)⟩
set_option maxRecDepth 20000 in
theorem fd_R_9 : zFd R_R 9 4 0 (.array .int) true := ⟨R_R, F_R, 5, t_R, zcl_R, by decide, rfl, rfl, Or.inl (zTb_of (tm1 (List.mem_of_getElem? (i := 57) rfl)) rfl)⟩
set_option maxRecDepth 20000 in
theorem ff_R_9 : zFf R_R 9 4 0 (.array .int) := ⟨R_R, F_R, 5, t_R, zcl_R, by decide, rfl, rfl, rfl, zTb_of (tm1 (List.mem_of_getElem? (i := 57) rfl)) rfl⟩
set_option maxRecDepth 20000 in
theorem fd_R_15 : zFd R_R 15 4 1 (.array .int) true := ⟨R_R, F_R, 5, t_R, zcl_R, by decide, rfl, rfl, Or.inl (zTb_of (tm1 (List.mem_of_getElem? (i := 58) rfl)) rfl)⟩
set_option maxRecDepth 20000 in
theorem ff_R_15 : zFf R_R 15 4 1 (.array .int) := ⟨R_R, F_R, 5, t_R, zcl_R, by decide, rfl, rfl, rfl, zTb_of (tm1 (List.mem_of_getElem? (i := 58) rfl)) rfl⟩
set_option maxRecDepth 20000 in
theorem fd_R_18 : zFd R_R 18 4 2 (.array .int) true := ⟨R_R, F_R, 5, t_R, zcl_R, by decide, rfl, rfl, Or.inl (zTb_of (tm1 (List.mem_of_getElem? (i := 59) rfl)) rfl)⟩
set_option maxRecDepth 20000 in
theorem ff_R_18 : zFf R_R 18 4 2 (.array .int) := ⟨R_R, F_R, 5, t_R, zcl_R, by decide, rfl, rfl, rfl, zTb_of (tm1 (List.mem_of_getElem? (i := 59) rfl)) rfl⟩
set_option maxRecDepth 20000 in
theorem fd_R_26 : zFd R_R 26 4 3 (.object "ChordPoints$Num") true := ⟨R_R, F_R, 5, t_R, zcl_R, by decide, rfl, rfl, Or.inl (zTb_of (tm1 (List.mem_of_getElem? (i := 60) rfl)) rfl)⟩
set_option maxRecDepth 20000 in
theorem ff_R_26 : zFf R_R 26 4 3 (.object "ChordPoints$Num") := ⟨R_R, F_R, 5, t_R, zcl_R, by decide, rfl, rfl, rfl, zTb_of (tm1 (List.mem_of_getElem? (i := 60) rfl)) rfl⟩
set_option maxRecDepth 20000 in
theorem fd_C_101 : zFd R_C 101 4 4 (.boolean) false := ⟨R_R, F_R, 5, t_R, zcl_R, by decide, rfl, rfl, Or.inl (zTb_of (tm1 (List.mem_of_getElem? (i := 61) rfl)) rfl)⟩
set_option maxRecDepth 20000 in
theorem fd_R_118 : zFd R_R 118 4 4 (.boolean) false := ⟨R_R, F_R, 5, t_R, zcl_R, by decide, rfl, rfl, Or.inl (zTb_of (tm1 (List.mem_of_getElem? (i := 62) rfl)) rfl)⟩
set_option maxRecDepth 20000 in
theorem nw_X_10 : zNw R_X 10 5 10 [.null, .null, .null, .null, .null, .null, .long 0, .long 0, .long 0, .long 0] := ⟨R_D, F_D, t_D, zcl_D, zTb_of (tm1 (List.mem_of_getElem? (i := 74) rfl)) rfl, zTb_of (tm1 (List.mem_of_getElem? (i := 75) rfl)) rfl, ini_D, by decide +kernel⟩
set_option maxRecDepth 20000 in
theorem nw_D_9 : zNw R_D 9 1 3 [.null, .int 0, .int 0] := ⟨R_N, F_N, t_N, zcl_N, zTb_of (tm1 (List.mem_of_getElem? (i := 80) rfl)) rfl, zTb_of (tm1 (List.mem_of_getElem? (i := 27) rfl)) rfl, ini_N, by decide +kernel⟩
set_option maxRecDepth 20000 in
theorem kc_D_36 : Cond.constantLong R_D 36 (2) ∈ zTb := zTb_of (tm1 (List.mem_of_getElem? (i := 82) rfl)) rfl
set_option maxRecDepth 20000 in
theorem kc_N_29 : Cond.constantLong R_N 29 (1000000000) ∈ zTb := zTb_of (tm1 (List.mem_of_getElem? (i := 87) rfl)) rfl
set_option maxRecDepth 20000 in
theorem fd_D_32 : zFd R_D 32 5 0 (.object "ChordPoints$Reckoner") true := ⟨R_D, F_D, 10, t_D, zcl_D, by decide, rfl, rfl, Or.inl (zTb_of (tm1 (List.mem_of_getElem? (i := 88) rfl)) rfl)⟩
set_option maxRecDepth 20000 in
theorem ff_D_32 : zFf R_D 32 5 0 (.object "ChordPoints$Reckoner") := ⟨R_D, F_D, 10, t_D, zcl_D, by decide, rfl, rfl, rfl, zTb_of (tm1 (List.mem_of_getElem? (i := 88) rfl)) rfl⟩
set_option maxRecDepth 20000 in
theorem fd_D_14 : zFd R_D 14 5 1 (.object "ChordPoints$Num") true := ⟨R_D, F_D, 10, t_D, zcl_D, by decide, rfl, rfl, Or.inl (zTb_of (tm1 (List.mem_of_getElem? (i := 89) rfl)) rfl)⟩
set_option maxRecDepth 20000 in
theorem ff_D_14 : zFf R_D 14 5 1 (.object "ChordPoints$Num") := ⟨R_D, F_D, 10, t_D, zcl_D, by decide, rfl, rfl, rfl, zTb_of (tm1 (List.mem_of_getElem? (i := 89) rfl)) rfl⟩
set_option maxRecDepth 20000 in
theorem fd_D_20 : zFd R_D 20 5 2 (.object "ChordPoints$Num") true := ⟨R_D, F_D, 10, t_D, zcl_D, by decide, rfl, rfl, Or.inl (zTb_of (tm1 (List.mem_of_getElem? (i := 90) rfl)) rfl)⟩
set_option maxRecDepth 20000 in
theorem ff_D_20 : zFf R_D 20 5 2 (.object "ChordPoints$Num") := ⟨R_D, F_D, 10, t_D, zcl_D, by decide, rfl, rfl, rfl, zTb_of (tm1 (List.mem_of_getElem? (i := 90) rfl)) rfl⟩
set_option maxRecDepth 20000 in
theorem fd_D_23 : zFd R_D 23 5 3 (.object "ChordPoints$Num") false := ⟨R_D, F_D, 10, t_D, zcl_D, by decide, rfl, rfl, Or.inl (zTb_of (tm1 (List.mem_of_getElem? (i := 91) rfl)) rfl)⟩
set_option maxRecDepth 20000 in
theorem fd_D_26 : zFd R_D 26 5 4 (.object "ChordPoints$Num") false := ⟨R_D, F_D, 10, t_D, zcl_D, by decide, rfl, rfl, Or.inl (zTb_of (tm1 (List.mem_of_getElem? (i := 92) rfl)) rfl)⟩
set_option maxRecDepth 20000 in
theorem fd_D_29 : zFd R_D 29 5 5 (.object "ChordPoints$Num") false := ⟨R_D, F_D, 10, t_D, zcl_D, by decide, rfl, rfl, Or.inl (zTb_of (tm1 (List.mem_of_getElem? (i := 93) rfl)) rfl)⟩
set_option maxRecDepth 20000 in
theorem fd_D_96 : zFd R_D 96 5 6 (.long) false := ⟨R_D, F_D, 10, t_D, zcl_D, by decide, rfl, rfl, Or.inl (zTb_of (tm1 (List.mem_of_getElem? (i := 94) rfl)) rfl)⟩
set_option maxRecDepth 20000 in
theorem fd_D_100 : zFd R_D 100 5 7 (.long) false := ⟨R_D, F_D, 10, t_D, zcl_D, by decide, rfl, rfl, Or.inl (zTb_of (tm1 (List.mem_of_getElem? (i := 95) rfl)) rfl)⟩
set_option maxRecDepth 20000 in
theorem fd_D_103 : zFd R_D 103 5 8 (.long) false := ⟨R_D, F_D, 10, t_D, zcl_D, by decide, rfl, rfl, Or.inl (zTb_of (tm1 (List.mem_of_getElem? (i := 96) rfl)) rfl)⟩
set_option maxRecDepth 20000 in
theorem fd_D_106 : zFd R_D 106 5 9 (.long) false := ⟨R_D, F_D, 10, t_D, zcl_D, by decide, rfl, rfl, Or.inl (zTb_of (tm1 (List.mem_of_getElem? (i := 97) rfl)) rfl)⟩
set_option maxRecDepth 20000 in
theorem nw_X_15 : zNw R_X 15 3 10 [.null, .null, .null, .null, .null, .null, .null, .null, .null, .null] := ⟨R_Q, F_Q, t_Q, zcl_Q, zTb_of (tm1 (List.mem_of_getElem? (i := 119) rfl)) rfl, zTb_of (tm1 (List.mem_of_getElem? (i := 120) rfl)) rfl, ini_Q, by decide +kernel⟩
set_option maxRecDepth 20000 in
theorem nw_Q_9 : zNw R_Q 9 1 3 [.null, .int 0, .int 0] := ⟨R_N, F_N, t_N, zcl_N, zTb_of (tm1 (List.mem_of_getElem? (i := 125) rfl)) rfl, zTb_of (tm1 (List.mem_of_getElem? (i := 27) rfl)) rfl, ini_N, by decide +kernel⟩
set_option maxRecDepth 20000 in
theorem fd_Q_14 : zFd R_Q 14 3 0 (.object "ChordPoints$Num") true := ⟨R_Q, F_Q, 10, t_Q, zcl_Q, by decide, rfl, rfl, Or.inl (zTb_of (tm1 (List.mem_of_getElem? (i := 127) rfl)) rfl)⟩
set_option maxRecDepth 20000 in
theorem ff_Q_14 : zFf R_Q 14 3 0 (.object "ChordPoints$Num") := ⟨R_Q, F_Q, 10, t_Q, zcl_Q, by decide, rfl, rfl, rfl, zTb_of (tm1 (List.mem_of_getElem? (i := 127) rfl)) rfl⟩
set_option maxRecDepth 20000 in
theorem fd_C_77 : zFd R_C 77 3 0 (.object "ChordPoints$Num") true := ⟨R_Q, F_Q, 10, t_Q, zcl_Q, by decide, rfl, rfl, Or.inl (zTb_of (tm1 (List.mem_of_getElem? (i := 128) rfl)) rfl)⟩
set_option maxRecDepth 20000 in
theorem fd_E_107 : zFd R_E 107 3 0 (.object "ChordPoints$Num") true := ⟨R_Q, F_Q, 10, t_Q, zcl_Q, by decide, rfl, rfl, Or.inl (zTb_of (tm1 (List.mem_of_getElem? (i := 129) rfl)) rfl)⟩
set_option maxRecDepth 20000 in
theorem fd_Q_20 : zFd R_Q 20 3 1 (.object "ChordPoints$Num") true := ⟨R_Q, F_Q, 10, t_Q, zcl_Q, by decide, rfl, rfl, Or.inl (zTb_of (tm1 (List.mem_of_getElem? (i := 130) rfl)) rfl)⟩
set_option maxRecDepth 20000 in
theorem ff_Q_20 : zFf R_Q 20 3 1 (.object "ChordPoints$Num") := ⟨R_Q, F_Q, 10, t_Q, zcl_Q, by decide, rfl, rfl, rfl, zTb_of (tm1 (List.mem_of_getElem? (i := 130) rfl)) rfl⟩
set_option maxRecDepth 20000 in
theorem fd_E_124 : zFd R_E 124 3 1 (.object "ChordPoints$Num") true := ⟨R_Q, F_Q, 10, t_Q, zcl_Q, by decide, rfl, rfl, Or.inl (zTb_of (tm1 (List.mem_of_getElem? (i := 131) rfl)) rfl)⟩
set_option maxRecDepth 20000 in
theorem fd_Q_23 : zFd R_Q 23 3 2 (.object "ChordPoints$Num") true := ⟨R_Q, F_Q, 10, t_Q, zcl_Q, by decide, rfl, rfl, Or.inl (zTb_of (tm1 (List.mem_of_getElem? (i := 132) rfl)) rfl)⟩
set_option maxRecDepth 20000 in
theorem ff_Q_23 : zFf R_Q 23 3 2 (.object "ChordPoints$Num") := ⟨R_Q, F_Q, 10, t_Q, zcl_Q, by decide, rfl, rfl, rfl, zTb_of (tm1 (List.mem_of_getElem? (i := 132) rfl)) rfl⟩
set_option maxRecDepth 20000 in
theorem fd_C_88 : zFd R_C 88 3 2 (.object "ChordPoints$Num") true := ⟨R_Q, F_Q, 10, t_Q, zcl_Q, by decide, rfl, rfl, Or.inl (zTb_of (tm1 (List.mem_of_getElem? (i := 133) rfl)) rfl)⟩
set_option maxRecDepth 20000 in
theorem fd_E_115 : zFd R_E 115 3 2 (.object "ChordPoints$Num") true := ⟨R_Q, F_Q, 10, t_Q, zcl_Q, by decide, rfl, rfl, Or.inl (zTb_of (tm1 (List.mem_of_getElem? (i := 134) rfl)) rfl)⟩
set_option maxRecDepth 20000 in
theorem fd_Q_26 : zFd R_Q 26 3 3 (.object "ChordPoints$Num") true := ⟨R_Q, F_Q, 10, t_Q, zcl_Q, by decide, rfl, rfl, Or.inl (zTb_of (tm1 (List.mem_of_getElem? (i := 135) rfl)) rfl)⟩
set_option maxRecDepth 20000 in
theorem ff_Q_26 : zFf R_Q 26 3 3 (.object "ChordPoints$Num") := ⟨R_Q, F_Q, 10, t_Q, zcl_Q, by decide, rfl, rfl, rfl, zTb_of (tm1 (List.mem_of_getElem? (i := 135) rfl)) rfl⟩
set_option maxRecDepth 20000 in
theorem fd_E_118 : zFd R_E 118 3 3 (.object "ChordPoints$Num") true := ⟨R_Q, F_Q, 10, t_Q, zcl_Q, by decide, rfl, rfl, Or.inl (zTb_of (tm1 (List.mem_of_getElem? (i := 136) rfl)) rfl)⟩
set_option maxRecDepth 20000 in
theorem fd_C_153 : zFd R_C 153 3 3 (.object "ChordPoints$Num") true := ⟨R_Q, F_Q, 10, t_Q, zcl_Q, by decide, rfl, rfl, Or.inl (zTb_of (tm1 (List.mem_of_getElem? (i := 137) rfl)) rfl)⟩
set_option maxRecDepth 20000 in
theorem fd_Q_29 : zFd R_Q 29 3 4 (.object "ChordPoints$Num") true := ⟨R_Q, F_Q, 10, t_Q, zcl_Q, by decide, rfl, rfl, Or.inl (zTb_of (tm1 (List.mem_of_getElem? (i := 138) rfl)) rfl)⟩
set_option maxRecDepth 20000 in
theorem ff_Q_29 : zFf R_Q 29 3 4 (.object "ChordPoints$Num") := ⟨R_Q, F_Q, 10, t_Q, zcl_Q, by decide, rfl, rfl, rfl, zTb_of (tm1 (List.mem_of_getElem? (i := 138) rfl)) rfl⟩
set_option maxRecDepth 20000 in
theorem fd_E_121 : zFd R_E 121 3 4 (.object "ChordPoints$Num") true := ⟨R_Q, F_Q, 10, t_Q, zcl_Q, by decide, rfl, rfl, Or.inl (zTb_of (tm1 (List.mem_of_getElem? (i := 139) rfl)) rfl)⟩
set_option maxRecDepth 20000 in
theorem fd_Q_32 : zFd R_Q 32 3 5 (.object "ChordPoints$Num") true := ⟨R_Q, F_Q, 10, t_Q, zcl_Q, by decide, rfl, rfl, Or.inl (zTb_of (tm1 (List.mem_of_getElem? (i := 140) rfl)) rfl)⟩
set_option maxRecDepth 20000 in
theorem ff_Q_32 : zFf R_Q 32 3 5 (.object "ChordPoints$Num") := ⟨R_Q, F_Q, 10, t_Q, zcl_Q, by decide, rfl, rfl, rfl, zTb_of (tm1 (List.mem_of_getElem? (i := 140) rfl)) rfl⟩
set_option maxRecDepth 20000 in
theorem fd_C_150 : zFd R_C 150 3 5 (.object "ChordPoints$Num") true := ⟨R_Q, F_Q, 10, t_Q, zcl_Q, by decide, rfl, rfl, Or.inl (zTb_of (tm1 (List.mem_of_getElem? (i := 141) rfl)) rfl)⟩
set_option maxRecDepth 20000 in
theorem fd_Q_35 : zFd R_Q 35 3 6 (.object "ChordPoints$Num") true := ⟨R_Q, F_Q, 10, t_Q, zcl_Q, by decide, rfl, rfl, Or.inl (zTb_of (tm1 (List.mem_of_getElem? (i := 142) rfl)) rfl)⟩
set_option maxRecDepth 20000 in
theorem ff_Q_35 : zFf R_Q 35 3 6 (.object "ChordPoints$Num") := ⟨R_Q, F_Q, 10, t_Q, zcl_Q, by decide, rfl, rfl, rfl, zTb_of (tm1 (List.mem_of_getElem? (i := 142) rfl)) rfl⟩
set_option maxRecDepth 20000 in
theorem fd_C_156 : zFd R_C 156 3 6 (.object "ChordPoints$Num") true := ⟨R_Q, F_Q, 10, t_Q, zcl_Q, by decide, rfl, rfl, Or.inl (zTb_of (tm1 (List.mem_of_getElem? (i := 143) rfl)) rfl)⟩
set_option maxRecDepth 20000 in
theorem fd_Q_38 : zFd R_Q 38 3 7 (.object "ChordPoints$Num") true := ⟨R_Q, F_Q, 10, t_Q, zcl_Q, by decide, rfl, rfl, Or.inl (zTb_of (tm1 (List.mem_of_getElem? (i := 144) rfl)) rfl)⟩
set_option maxRecDepth 20000 in
theorem ff_Q_38 : zFf R_Q 38 3 7 (.object "ChordPoints$Num") := ⟨R_Q, F_Q, 10, t_Q, zcl_Q, by decide, rfl, rfl, rfl, zTb_of (tm1 (List.mem_of_getElem? (i := 144) rfl)) rfl⟩
set_option maxRecDepth 20000 in
theorem fd_C_165 : zFd R_C 165 3 7 (.object "ChordPoints$Num") true := ⟨R_Q, F_Q, 10, t_Q, zcl_Q, by decide, rfl, rfl, Or.inl (zTb_of (tm1 (List.mem_of_getElem? (i := 145) rfl)) rfl)⟩
set_option maxRecDepth 20000 in
theorem fd_Q_41 : zFd R_Q 41 3 8 (.object "ChordPoints$Num") true := ⟨R_Q, F_Q, 10, t_Q, zcl_Q, by decide, rfl, rfl, Or.inl (zTb_of (tm1 (List.mem_of_getElem? (i := 146) rfl)) rfl)⟩
set_option maxRecDepth 20000 in
theorem ff_Q_41 : zFf R_Q 41 3 8 (.object "ChordPoints$Num") := ⟨R_Q, F_Q, 10, t_Q, zcl_Q, by decide, rfl, rfl, rfl, zTb_of (tm1 (List.mem_of_getElem? (i := 146) rfl)) rfl⟩
set_option maxRecDepth 20000 in
theorem fd_C_159 : zFd R_C 159 3 8 (.object "ChordPoints$Num") true := ⟨R_Q, F_Q, 10, t_Q, zcl_Q, by decide, rfl, rfl, Or.inl (zTb_of (tm1 (List.mem_of_getElem? (i := 147) rfl)) rfl)⟩
set_option maxRecDepth 20000 in
theorem fd_Q_44 : zFd R_Q 44 3 9 (.object "ChordPoints$Num") true := ⟨R_Q, F_Q, 10, t_Q, zcl_Q, by decide, rfl, rfl, Or.inl (zTb_of (tm1 (List.mem_of_getElem? (i := 148) rfl)) rfl)⟩
set_option maxRecDepth 20000 in
theorem ff_Q_44 : zFf R_Q 44 3 9 (.object "ChordPoints$Num") := ⟨R_Q, F_Q, 10, t_Q, zcl_Q, by decide, rfl, rfl, rfl, zTb_of (tm1 (List.mem_of_getElem? (i := 148) rfl)) rfl⟩
set_option maxRecDepth 20000 in
theorem fd_C_162 : zFd R_C 162 3 9 (.object "ChordPoints$Num") true := ⟨R_Q, F_Q, 10, t_Q, zcl_Q, by decide, rfl, rfl, Or.inl (zTb_of (tm1 (List.mem_of_getElem? (i := 149) rfl)) rfl)⟩
set_option maxRecDepth 20000 in
theorem kc_Q_51 : Cond.constantLong R_Q 51 (2) ∈ zTb := zTb_of (tm1 (List.mem_of_getElem? (i := 176) rfl)) rfl
set_option maxRecDepth 20000 in
theorem kc_Q_63 : Cond.constantLong R_Q 63 (4) ∈ zTb := zTb_of (tm1 (List.mem_of_getElem? (i := 183) rfl)) rfl
set_option maxRecDepth 20000 in
theorem nw_X_28 : zNw R_X 28 7 13 [.null, .null, .null, .null, .null, .null, .null, .null, .null, .null, .null, .null, .null] := ⟨R_C, F_C, t_C, zcl_C, zTb_of (tm1 (List.mem_of_getElem? (i := 187) rfl)) rfl, zTb_of (tm1 (List.mem_of_getElem? (i := 188) rfl)) rfl, ini_C, by decide +kernel⟩
set_option maxRecDepth 20000 in
theorem nw_C_9 : zNw R_C 9 1 3 [.null, .int 0, .int 0] := ⟨R_N, F_N, t_N, zcl_N, zTb_of (tm1 (List.mem_of_getElem? (i := 193) rfl)) rfl, zTb_of (tm1 (List.mem_of_getElem? (i := 27) rfl)) rfl, ini_N, by decide +kernel⟩
set_option maxRecDepth 20000 in
theorem fd_C_47 : zFd R_C 47 7 0 (.object "ChordPoints$Equation") true := ⟨R_C, F_C, 13, t_C, zcl_C, by decide, rfl, rfl, Or.inl (zTb_of (tm1 (List.mem_of_getElem? (i := 195) rfl)) rfl)⟩
set_option maxRecDepth 20000 in
theorem ff_C_47 : zFf R_C 47 7 0 (.object "ChordPoints$Equation") := ⟨R_C, F_C, 13, t_C, zcl_C, by decide, rfl, rfl, rfl, zTb_of (tm1 (List.mem_of_getElem? (i := 195) rfl)) rfl⟩
set_option maxRecDepth 20000 in
theorem fd_C_51 : zFd R_C 51 7 1 (.object "ChordPoints$Reckoner") true := ⟨R_C, F_C, 13, t_C, zcl_C, by decide, rfl, rfl, Or.inl (zTb_of (tm1 (List.mem_of_getElem? (i := 196) rfl)) rfl)⟩
set_option maxRecDepth 20000 in
theorem ff_C_51 : zFf R_C 51 7 1 (.object "ChordPoints$Reckoner") := ⟨R_C, F_C, 13, t_C, zcl_C, by decide, rfl, rfl, rfl, zTb_of (tm1 (List.mem_of_getElem? (i := 196) rfl)) rfl⟩
set_option maxRecDepth 20000 in
theorem fd_C_55 : zFd R_C 55 7 2 (.object "ChordPoints$Divisors") true := ⟨R_C, F_C, 13, t_C, zcl_C, by decide, rfl, rfl, Or.inl (zTb_of (tm1 (List.mem_of_getElem? (i := 197) rfl)) rfl)⟩
set_option maxRecDepth 20000 in
theorem ff_C_55 : zFf R_C 55 7 2 (.object "ChordPoints$Divisors") := ⟨R_C, F_C, 13, t_C, zcl_C, by decide, rfl, rfl, rfl, zTb_of (tm1 (List.mem_of_getElem? (i := 197) rfl)) rfl⟩
set_option maxRecDepth 20000 in
theorem fd_C_14 : zFd R_C 14 7 3 (.object "ChordPoints$Num") true := ⟨R_C, F_C, 13, t_C, zcl_C, by decide, rfl, rfl, Or.inl (zTb_of (tm1 (List.mem_of_getElem? (i := 198) rfl)) rfl)⟩
set_option maxRecDepth 20000 in
theorem ff_C_14 : zFf R_C 14 7 3 (.object "ChordPoints$Num") := ⟨R_C, F_C, 13, t_C, zcl_C, by decide, rfl, rfl, rfl, zTb_of (tm1 (List.mem_of_getElem? (i := 198) rfl)) rfl⟩
set_option maxRecDepth 20000 in
theorem fd_C_20 : zFd R_C 20 7 4 (.object "ChordPoints$Num") true := ⟨R_C, F_C, 13, t_C, zcl_C, by decide, rfl, rfl, Or.inl (zTb_of (tm1 (List.mem_of_getElem? (i := 199) rfl)) rfl)⟩
set_option maxRecDepth 20000 in
theorem ff_C_20 : zFf R_C 20 7 4 (.object "ChordPoints$Num") := ⟨R_C, F_C, 13, t_C, zcl_C, by decide, rfl, rfl, rfl, zTb_of (tm1 (List.mem_of_getElem? (i := 199) rfl)) rfl⟩
set_option maxRecDepth 20000 in
theorem fd_C_23 : zFd R_C 23 7 5 (.object "ChordPoints$Num") true := ⟨R_C, F_C, 13, t_C, zcl_C, by decide, rfl, rfl, Or.inl (zTb_of (tm1 (List.mem_of_getElem? (i := 200) rfl)) rfl)⟩
set_option maxRecDepth 20000 in
theorem ff_C_23 : zFf R_C 23 7 5 (.object "ChordPoints$Num") := ⟨R_C, F_C, 13, t_C, zcl_C, by decide, rfl, rfl, rfl, zTb_of (tm1 (List.mem_of_getElem? (i := 200) rfl)) rfl⟩
set_option maxRecDepth 20000 in
theorem fd_C_26 : zFd R_C 26 7 6 (.object "ChordPoints$Num") true := ⟨R_C, F_C, 13, t_C, zcl_C, by decide, rfl, rfl, Or.inl (zTb_of (tm1 (List.mem_of_getElem? (i := 201) rfl)) rfl)⟩
set_option maxRecDepth 20000 in
theorem ff_C_26 : zFf R_C 26 7 6 (.object "ChordPoints$Num") := ⟨R_C, F_C, 13, t_C, zcl_C, by decide, rfl, rfl, rfl, zTb_of (tm1 (List.mem_of_getElem? (i := 201) rfl)) rfl⟩
set_option maxRecDepth 20000 in
theorem fd_C_29 : zFd R_C 29 7 7 (.object "ChordPoints$Num") true := ⟨R_C, F_C, 13, t_C, zcl_C, by decide, rfl, rfl, Or.inl (zTb_of (tm1 (List.mem_of_getElem? (i := 202) rfl)) rfl)⟩
set_option maxRecDepth 20000 in
theorem ff_C_29 : zFf R_C 29 7 7 (.object "ChordPoints$Num") := ⟨R_C, F_C, 13, t_C, zcl_C, by decide, rfl, rfl, rfl, zTb_of (tm1 (List.mem_of_getElem? (i := 202) rfl)) rfl⟩
set_option maxRecDepth 20000 in
theorem fd_C_32 : zFd R_C 32 7 8 (.object "ChordPoints$Num") true := ⟨R_C, F_C, 13, t_C, zcl_C, by decide, rfl, rfl, Or.inl (zTb_of (tm1 (List.mem_of_getElem? (i := 203) rfl)) rfl)⟩
set_option maxRecDepth 20000 in
theorem ff_C_32 : zFf R_C 32 7 8 (.object "ChordPoints$Num") := ⟨R_C, F_C, 13, t_C, zcl_C, by decide, rfl, rfl, rfl, zTb_of (tm1 (List.mem_of_getElem? (i := 203) rfl)) rfl⟩
set_option maxRecDepth 20000 in
theorem fd_C_35 : zFd R_C 35 7 9 (.object "ChordPoints$Num") true := ⟨R_C, F_C, 13, t_C, zcl_C, by decide, rfl, rfl, Or.inl (zTb_of (tm1 (List.mem_of_getElem? (i := 204) rfl)) rfl)⟩
set_option maxRecDepth 20000 in
theorem ff_C_35 : zFf R_C 35 7 9 (.object "ChordPoints$Num") := ⟨R_C, F_C, 13, t_C, zcl_C, by decide, rfl, rfl, rfl, zTb_of (tm1 (List.mem_of_getElem? (i := 204) rfl)) rfl⟩
set_option maxRecDepth 20000 in
theorem fd_C_38 : zFd R_C 38 7 10 (.object "ChordPoints$Num") true := ⟨R_C, F_C, 13, t_C, zcl_C, by decide, rfl, rfl, Or.inl (zTb_of (tm1 (List.mem_of_getElem? (i := 205) rfl)) rfl)⟩
set_option maxRecDepth 20000 in
theorem ff_C_38 : zFf R_C 38 7 10 (.object "ChordPoints$Num") := ⟨R_C, F_C, 13, t_C, zcl_C, by decide, rfl, rfl, rfl, zTb_of (tm1 (List.mem_of_getElem? (i := 205) rfl)) rfl⟩
set_option maxRecDepth 20000 in
theorem fd_C_41 : zFd R_C 41 7 11 (.object "ChordPoints$Num") true := ⟨R_C, F_C, 13, t_C, zcl_C, by decide, rfl, rfl, Or.inl (zTb_of (tm1 (List.mem_of_getElem? (i := 206) rfl)) rfl)⟩
set_option maxRecDepth 20000 in
theorem ff_C_41 : zFf R_C 41 7 11 (.object "ChordPoints$Num") := ⟨R_C, F_C, 13, t_C, zcl_C, by decide, rfl, rfl, rfl, zTb_of (tm1 (List.mem_of_getElem? (i := 206) rfl)) rfl⟩
set_option maxRecDepth 20000 in
theorem fd_C_44 : zFd R_C 44 7 12 (.object "ChordPoints$Num") true := ⟨R_C, F_C, 13, t_C, zcl_C, by decide, rfl, rfl, Or.inl (zTb_of (tm1 (List.mem_of_getElem? (i := 207) rfl)) rfl)⟩
set_option maxRecDepth 20000 in
theorem ff_C_44 : zFf R_C 44 7 12 (.object "ChordPoints$Num") := ⟨R_C, F_C, 13, t_C, zcl_C, by decide, rfl, rfl, rfl, zTb_of (tm1 (List.mem_of_getElem? (i := 207) rfl)) rfl⟩
set_option maxRecDepth 20000 in
theorem nw_X_37 : zNw R_X 37 6 10 [.null, .null, .null, .null, .null, .null, .null, .null, .null, .null] := ⟨R_E, F_E, t_E, zcl_E, zTb_of (tm1 (List.mem_of_getElem? (i := 235) rfl)) rfl, zTb_of (tm1 (List.mem_of_getElem? (i := 236) rfl)) rfl, ini_E, by decide +kernel⟩
set_option maxRecDepth 20000 in
theorem nw_E_9 : zNw R_E 9 1 3 [.null, .int 0, .int 0] := ⟨R_N, F_N, t_N, zcl_N, zTb_of (tm2 (List.mem_of_getElem? (i := 1) rfl)) rfl, zTb_of (tm1 (List.mem_of_getElem? (i := 27) rfl)) rfl, ini_N, by decide +kernel⟩
set_option maxRecDepth 20000 in
theorem fd_E_38 : zFd R_E 38 6 0 (.object "ChordPoints$Equation") true := ⟨R_E, F_E, 10, t_E, zcl_E, by decide, rfl, rfl, Or.inl (zTb_of (tm2 (List.mem_of_getElem? (i := 3) rfl)) rfl)⟩
set_option maxRecDepth 20000 in
theorem ff_E_38 : zFf R_E 38 6 0 (.object "ChordPoints$Equation") := ⟨R_E, F_E, 10, t_E, zcl_E, by decide, rfl, rfl, rfl, zTb_of (tm2 (List.mem_of_getElem? (i := 3) rfl)) rfl⟩
set_option maxRecDepth 20000 in
theorem fd_E_42 : zFd R_E 42 6 1 (.object "ChordPoints$Reckoner") true := ⟨R_E, F_E, 10, t_E, zcl_E, by decide, rfl, rfl, Or.inl (zTb_of (tm2 (List.mem_of_getElem? (i := 4) rfl)) rfl)⟩
set_option maxRecDepth 20000 in
theorem ff_E_42 : zFf R_E 42 6 1 (.object "ChordPoints$Reckoner") := ⟨R_E, F_E, 10, t_E, zcl_E, by decide, rfl, rfl, rfl, zTb_of (tm2 (List.mem_of_getElem? (i := 4) rfl)) rfl⟩
set_option maxRecDepth 20000 in
theorem fd_E_46 : zFd R_E 46 6 2 (.object "ChordPoints$Divisors") true := ⟨R_E, F_E, 10, t_E, zcl_E, by decide, rfl, rfl, Or.inl (zTb_of (tm2 (List.mem_of_getElem? (i := 5) rfl)) rfl)⟩
set_option maxRecDepth 20000 in
theorem ff_E_46 : zFf R_E 46 6 2 (.object "ChordPoints$Divisors") := ⟨R_E, F_E, 10, t_E, zcl_E, by decide, rfl, rfl, rfl, zTb_of (tm2 (List.mem_of_getElem? (i := 5) rfl)) rfl⟩
set_option maxRecDepth 20000 in
theorem fd_E_14 : zFd R_E 14 6 3 (.object "ChordPoints$Num") true := ⟨R_E, F_E, 10, t_E, zcl_E, by decide, rfl, rfl, Or.inl (zTb_of (tm2 (List.mem_of_getElem? (i := 6) rfl)) rfl)⟩
set_option maxRecDepth 20000 in
theorem ff_E_14 : zFf R_E 14 6 3 (.object "ChordPoints$Num") := ⟨R_E, F_E, 10, t_E, zcl_E, by decide, rfl, rfl, rfl, zTb_of (tm2 (List.mem_of_getElem? (i := 6) rfl)) rfl⟩
set_option maxRecDepth 20000 in
theorem fd_E_20 : zFd R_E 20 6 4 (.object "ChordPoints$Num") true := ⟨R_E, F_E, 10, t_E, zcl_E, by decide, rfl, rfl, Or.inl (zTb_of (tm2 (List.mem_of_getElem? (i := 7) rfl)) rfl)⟩
set_option maxRecDepth 20000 in
theorem ff_E_20 : zFf R_E 20 6 4 (.object "ChordPoints$Num") := ⟨R_E, F_E, 10, t_E, zcl_E, by decide, rfl, rfl, rfl, zTb_of (tm2 (List.mem_of_getElem? (i := 7) rfl)) rfl⟩
set_option maxRecDepth 20000 in
theorem fd_E_23 : zFd R_E 23 6 5 (.object "ChordPoints$Num") true := ⟨R_E, F_E, 10, t_E, zcl_E, by decide, rfl, rfl, Or.inl (zTb_of (tm2 (List.mem_of_getElem? (i := 8) rfl)) rfl)⟩
set_option maxRecDepth 20000 in
theorem ff_E_23 : zFf R_E 23 6 5 (.object "ChordPoints$Num") := ⟨R_E, F_E, 10, t_E, zcl_E, by decide, rfl, rfl, rfl, zTb_of (tm2 (List.mem_of_getElem? (i := 8) rfl)) rfl⟩
set_option maxRecDepth 20000 in
theorem fd_E_26 : zFd R_E 26 6 6 (.object "ChordPoints$Num") true := ⟨R_E, F_E, 10, t_E, zcl_E, by decide, rfl, rfl, Or.inl (zTb_of (tm2 (List.mem_of_getElem? (i := 9) rfl)) rfl)⟩
set_option maxRecDepth 20000 in
theorem ff_E_26 : zFf R_E 26 6 6 (.object "ChordPoints$Num") := ⟨R_E, F_E, 10, t_E, zcl_E, by decide, rfl, rfl, rfl, zTb_of (tm2 (List.mem_of_getElem? (i := 9) rfl)) rfl⟩
set_option maxRecDepth 20000 in
theorem fd_E_29 : zFd R_E 29 6 7 (.object "ChordPoints$Num") true := ⟨R_E, F_E, 10, t_E, zcl_E, by decide, rfl, rfl, Or.inl (zTb_of (tm2 (List.mem_of_getElem? (i := 10) rfl)) rfl)⟩
set_option maxRecDepth 20000 in
theorem ff_E_29 : zFf R_E 29 6 7 (.object "ChordPoints$Num") := ⟨R_E, F_E, 10, t_E, zcl_E, by decide, rfl, rfl, rfl, zTb_of (tm2 (List.mem_of_getElem? (i := 10) rfl)) rfl⟩
set_option maxRecDepth 20000 in
theorem fd_E_32 : zFd R_E 32 6 8 (.object "ChordPoints$Num") true := ⟨R_E, F_E, 10, t_E, zcl_E, by decide, rfl, rfl, Or.inl (zTb_of (tm2 (List.mem_of_getElem? (i := 11) rfl)) rfl)⟩
set_option maxRecDepth 20000 in
theorem ff_E_32 : zFf R_E 32 6 8 (.object "ChordPoints$Num") := ⟨R_E, F_E, 10, t_E, zcl_E, by decide, rfl, rfl, rfl, zTb_of (tm2 (List.mem_of_getElem? (i := 11) rfl)) rfl⟩
set_option maxRecDepth 20000 in
theorem fd_E_35 : zFd R_E 35 6 9 (.object "ChordPoints$Num") true := ⟨R_E, F_E, 10, t_E, zcl_E, by decide, rfl, rfl, Or.inl (zTb_of (tm2 (List.mem_of_getElem? (i := 12) rfl)) rfl)⟩
set_option maxRecDepth 20000 in
theorem ff_E_35 : zFf R_E 35 6 9 (.object "ChordPoints$Num") := ⟨R_E, F_E, 10, t_E, zcl_E, by decide, rfl, rfl, rfl, zTb_of (tm2 (List.mem_of_getElem? (i := 12) rfl)) rfl⟩
set_option maxRecDepth 20000 in
theorem nw_X_44 : zNw R_X 44 2 6 [.null, .null, .null, .null, .null, .int 0] := ⟨R_P, F_P, t_P, zcl_P, zTb_of (tm2 (List.mem_of_getElem? (i := 34) rfl)) rfl, zTb_of (tm2 (List.mem_of_getElem? (i := 35) rfl)) rfl, ini_P, by decide +kernel⟩
set_option maxRecDepth 20000 in
theorem nw_P_9 : zNw R_P 9 1 3 [.null, .int 0, .int 0] := ⟨R_N, F_N, t_N, zcl_N, zTb_of (tm2 (List.mem_of_getElem? (i := 40) rfl)) rfl, zTb_of (tm1 (List.mem_of_getElem? (i := 27) rfl)) rfl, ini_N, by decide +kernel⟩
set_option maxRecDepth 20000 in
theorem fd_P_14 : zFd R_P 14 2 0 (.object "ChordPoints$Num") true := ⟨R_P, F_P, 6, t_P, zcl_P, by decide, rfl, rfl, Or.inl (zTb_of (tm2 (List.mem_of_getElem? (i := 42) rfl)) rfl)⟩
set_option maxRecDepth 20000 in
theorem ff_P_14 : zFf R_P 14 2 0 (.object "ChordPoints$Num") := ⟨R_P, F_P, 6, t_P, zcl_P, by decide, rfl, rfl, rfl, zTb_of (tm2 (List.mem_of_getElem? (i := 42) rfl)) rfl⟩
set_option maxRecDepth 20000 in
theorem fd_C_65 : zFd R_C 65 2 0 (.object "ChordPoints$Num") true := ⟨R_P, F_P, 6, t_P, zcl_P, by decide, rfl, rfl, Or.inl (zTb_of (tm2 (List.mem_of_getElem? (i := 43) rfl)) rfl)⟩
set_option maxRecDepth 20000 in
theorem fd_E_64 : zFd R_E 64 2 0 (.object "ChordPoints$Num") true := ⟨R_P, F_P, 6, t_P, zcl_P, by decide, rfl, rfl, Or.inl (zTb_of (tm2 (List.mem_of_getElem? (i := 44) rfl)) rfl)⟩
set_option maxRecDepth 20000 in
theorem fd_P_20 : zFd R_P 20 2 1 (.object "ChordPoints$Num") true := ⟨R_P, F_P, 6, t_P, zcl_P, by decide, rfl, rfl, Or.inl (zTb_of (tm2 (List.mem_of_getElem? (i := 45) rfl)) rfl)⟩
set_option maxRecDepth 20000 in
theorem ff_P_20 : zFf R_P 20 2 1 (.object "ChordPoints$Num") := ⟨R_P, F_P, 6, t_P, zcl_P, by decide, rfl, rfl, rfl, zTb_of (tm2 (List.mem_of_getElem? (i := 45) rfl)) rfl⟩
set_option maxRecDepth 20000 in
theorem fd_C_82 : zFd R_C 82 2 1 (.object "ChordPoints$Num") true := ⟨R_P, F_P, 6, t_P, zcl_P, by decide, rfl, rfl, Or.inl (zTb_of (tm2 (List.mem_of_getElem? (i := 46) rfl)) rfl)⟩
set_option maxRecDepth 20000 in
theorem fd_E_71 : zFd R_E 71 2 1 (.object "ChordPoints$Num") true := ⟨R_P, F_P, 6, t_P, zcl_P, by decide, rfl, rfl, Or.inl (zTb_of (tm2 (List.mem_of_getElem? (i := 47) rfl)) rfl)⟩
set_option maxRecDepth 20000 in
theorem fd_P_23 : zFd R_P 23 2 2 (.object "ChordPoints$Num") true := ⟨R_P, F_P, 6, t_P, zcl_P, by decide, rfl, rfl, Or.inl (zTb_of (tm2 (List.mem_of_getElem? (i := 48) rfl)) rfl)⟩
set_option maxRecDepth 20000 in
theorem ff_P_23 : zFf R_P 23 2 2 (.object "ChordPoints$Num") := ⟨R_P, F_P, 6, t_P, zcl_P, by decide, rfl, rfl, rfl, zTb_of (tm2 (List.mem_of_getElem? (i := 48) rfl)) rfl⟩
set_option maxRecDepth 20000 in
theorem fd_C_68 : zFd R_C 68 2 2 (.object "ChordPoints$Num") true := ⟨R_P, F_P, 6, t_P, zcl_P, by decide, rfl, rfl, Or.inl (zTb_of (tm2 (List.mem_of_getElem? (i := 49) rfl)) rfl)⟩
set_option maxRecDepth 20000 in
theorem fd_E_80 : zFd R_E 80 2 2 (.object "ChordPoints$Num") true := ⟨R_P, F_P, 6, t_P, zcl_P, by decide, rfl, rfl, Or.inl (zTb_of (tm2 (List.mem_of_getElem? (i := 50) rfl)) rfl)⟩
set_option maxRecDepth 20000 in
theorem fd_X_102 : zFd R_X 102 2 2 (.object "ChordPoints$Num") true := ⟨R_P, F_P, 6, t_P, zcl_P, by decide, rfl, rfl, Or.inl (zTb_of (tm2 (List.mem_of_getElem? (i := 51) rfl)) rfl)⟩
set_option maxRecDepth 20000 in
theorem fd_P_26 : zFd R_P 26 2 3 (.object "ChordPoints$Num") true := ⟨R_P, F_P, 6, t_P, zcl_P, by decide, rfl, rfl, Or.inl (zTb_of (tm2 (List.mem_of_getElem? (i := 52) rfl)) rfl)⟩
set_option maxRecDepth 20000 in
theorem ff_P_26 : zFf R_P 26 2 3 (.object "ChordPoints$Num") := ⟨R_P, F_P, 6, t_P, zcl_P, by decide, rfl, rfl, rfl, zTb_of (tm2 (List.mem_of_getElem? (i := 52) rfl)) rfl⟩
set_option maxRecDepth 20000 in
theorem fd_E_74 : zFd R_E 74 2 3 (.object "ChordPoints$Num") true := ⟨R_P, F_P, 6, t_P, zcl_P, by decide, rfl, rfl, Or.inl (zTb_of (tm2 (List.mem_of_getElem? (i := 53) rfl)) rfl)⟩
set_option maxRecDepth 20000 in
theorem fd_C_141 : zFd R_C 141 2 3 (.object "ChordPoints$Num") true := ⟨R_P, F_P, 6, t_P, zcl_P, by decide, rfl, rfl, Or.inl (zTb_of (tm2 (List.mem_of_getElem? (i := 54) rfl)) rfl)⟩
set_option maxRecDepth 20000 in
theorem fd_P_29 : zFd R_P 29 2 4 (.object "ChordPoints$Num") true := ⟨R_P, F_P, 6, t_P, zcl_P, by decide, rfl, rfl, Or.inl (zTb_of (tm2 (List.mem_of_getElem? (i := 55) rfl)) rfl)⟩
set_option maxRecDepth 20000 in
theorem ff_P_29 : zFf R_P 29 2 4 (.object "ChordPoints$Num") := ⟨R_P, F_P, 6, t_P, zcl_P, by decide, rfl, rfl, rfl, zTb_of (tm2 (List.mem_of_getElem? (i := 55) rfl)) rfl⟩
set_option maxRecDepth 20000 in
theorem fd_C_91 : zFd R_C 91 2 4 (.object "ChordPoints$Num") true := ⟨R_P, F_P, 6, t_P, zcl_P, by decide, rfl, rfl, Or.inl (zTb_of (tm2 (List.mem_of_getElem? (i := 56) rfl)) rfl)⟩
set_option maxRecDepth 20000 in
theorem fd_E_77 : zFd R_E 77 2 4 (.object "ChordPoints$Num") true := ⟨R_P, F_P, 6, t_P, zcl_P, by decide, rfl, rfl, Or.inl (zTb_of (tm2 (List.mem_of_getElem? (i := 57) rfl)) rfl)⟩
set_option maxRecDepth 20000 in
theorem fd_P_32 : zFd R_P 32 2 5 (.boolean) false := ⟨R_P, F_P, 6, t_P, zcl_P, by decide, rfl, rfl, Or.inl (zTb_of (tm2 (List.mem_of_getElem? (i := 58) rfl)) rfl)⟩
set_option maxRecDepth 20000 in
theorem fd_C_59 : zFd R_C 59 2 5 (.boolean) false := ⟨R_P, F_P, 6, t_P, zcl_P, by decide, rfl, rfl, Or.inl (zTb_of (tm2 (List.mem_of_getElem? (i := 59) rfl)) rfl)⟩
set_option maxRecDepth 20000 in
theorem fd_E_58 : zFd R_E 58 2 5 (.boolean) false := ⟨R_P, F_P, 6, t_P, zcl_P, by decide, rfl, rfl, Or.inl (zTb_of (tm2 (List.mem_of_getElem? (i := 60) rfl)) rfl)⟩
set_option maxRecDepth 20000 in
theorem fd_X_98 : zFd R_X 98 2 5 (.boolean) false := ⟨R_P, F_P, 6, t_P, zcl_P, by decide, rfl, rfl, Or.inl (zTb_of (tm2 (List.mem_of_getElem? (i := 61) rfl)) rfl)⟩
set_option maxRecDepth 20000 in
theorem fd_X_57 : zFd R_X 57 8 0 (.array (.object "ChordPoints$Point")) true := ⟨R_X, F_X, 7, t_X, zcl_X, by decide, rfl, rfl, Or.inl (zTb_of (tm2 (List.mem_of_getElem? (i := 76) rfl)) rfl)⟩
set_option maxRecDepth 20000 in
theorem ff_X_57 : zFf R_X 57 8 0 (.array (.object "ChordPoints$Point")) := ⟨R_X, F_X, 7, t_X, zcl_X, by decide, rfl, rfl, rfl, zTb_of (tm2 (List.mem_of_getElem? (i := 76) rfl)) rfl⟩
set_option maxRecDepth 20000 in
theorem fd_X_18 : zFd R_X 18 8 1 (.object "ChordPoints$Equation") true := ⟨R_X, F_X, 7, t_X, zcl_X, by decide, rfl, rfl, Or.inl (zTb_of (tm2 (List.mem_of_getElem? (i := 77) rfl)) rfl)⟩
set_option maxRecDepth 20000 in
theorem ff_X_18 : zFf R_X 18 8 1 (.object "ChordPoints$Equation") := ⟨R_X, F_X, 7, t_X, zcl_X, by decide, rfl, rfl, rfl, zTb_of (tm2 (List.mem_of_getElem? (i := 77) rfl)) rfl⟩
set_option maxRecDepth 20000 in
theorem fd_X_33 : zFd R_X 33 8 2 (.object "ChordPoints$Chords") true := ⟨R_X, F_X, 7, t_X, zcl_X, by decide, rfl, rfl, Or.inl (zTb_of (tm2 (List.mem_of_getElem? (i := 78) rfl)) rfl)⟩
set_option maxRecDepth 20000 in
theorem ff_X_33 : zFf R_X 33 8 2 (.object "ChordPoints$Chords") := ⟨R_X, F_X, 7, t_X, zcl_X, by decide, rfl, rfl, rfl, zTb_of (tm2 (List.mem_of_getElem? (i := 78) rfl)) rfl⟩
set_option maxRecDepth 20000 in
theorem fd_X_40 : zFd R_X 40 8 3 (.object "ChordPoints$Entry") true := ⟨R_X, F_X, 7, t_X, zcl_X, by decide, rfl, rfl, Or.inl (zTb_of (tm2 (List.mem_of_getElem? (i := 79) rfl)) rfl)⟩
set_option maxRecDepth 20000 in
theorem ff_X_40 : zFf R_X 40 8 3 (.object "ChordPoints$Entry") := ⟨R_X, F_X, 7, t_X, zcl_X, by decide, rfl, rfl, rfl, zTb_of (tm2 (List.mem_of_getElem? (i := 79) rfl)) rfl⟩
set_option maxRecDepth 20000 in
theorem fd_X_47 : zFd R_X 47 8 4 (.object "ChordPoints$Point") true := ⟨R_X, F_X, 7, t_X, zcl_X, by decide, rfl, rfl, Or.inl (zTb_of (tm2 (List.mem_of_getElem? (i := 80) rfl)) rfl)⟩
set_option maxRecDepth 20000 in
theorem ff_X_47 : zFf R_X 47 8 4 (.object "ChordPoints$Point") := ⟨R_X, F_X, 7, t_X, zcl_X, by decide, rfl, rfl, rfl, zTb_of (tm2 (List.mem_of_getElem? (i := 80) rfl)) rfl⟩
set_option maxRecDepth 20000 in
theorem fd_X_51 : zFd R_X 51 8 5 (.object "ChordPoints$Point") true := ⟨R_X, F_X, 7, t_X, zcl_X, by decide, rfl, rfl, Or.inl (zTb_of (tm2 (List.mem_of_getElem? (i := 81) rfl)) rfl)⟩
set_option maxRecDepth 20000 in
theorem ff_X_51 : zFf R_X 51 8 5 (.object "ChordPoints$Point") := ⟨R_X, F_X, 7, t_X, zcl_X, by decide, rfl, rfl, rfl, zTb_of (tm2 (List.mem_of_getElem? (i := 81) rfl)) rfl⟩
set_option maxRecDepth 20000 in
theorem fd_X_54 : zFd R_X 54 8 6 (.object "ChordPoints$Point") true := ⟨R_X, F_X, 7, t_X, zcl_X, by decide, rfl, rfl, Or.inl (zTb_of (tm2 (List.mem_of_getElem? (i := 82) rfl)) rfl)⟩
set_option maxRecDepth 20000 in
theorem ff_X_54 : zFf R_X 54 8 6 (.object "ChordPoints$Point") := ⟨R_X, F_X, 7, t_X, zcl_X, by decide, rfl, rfl, rfl, zTb_of (tm2 (List.mem_of_getElem? (i := 82) rfl)) rfl⟩
set_option maxRecDepth 20000 in
theorem kc_X_143 : Cond.constant R_X 143 (-99999) ∈ zTb := zTb_of (tm2 (List.mem_of_getElem? (i := 105) rfl)) rfl
set_option maxRecDepth 20000 in
theorem kc_X_144 : Cond.constant R_X 144 (99999) ∈ zTb := zTb_of (tm2 (List.mem_of_getElem? (i := 106) rfl)) rfl
set_option maxRecDepth 20000 in
theorem kc_R_78 : Cond.constantLong R_R 78 (1000000000) ∈ zTb := zTb_of (tm2 (List.mem_of_getElem? (i := 130) rfl)) rfl
set_option maxRecDepth 20000 in
theorem kc_E_146 : Cond.constantLong R_E 146 (9) ∈ zTb := zTb_of (tm2 (List.mem_of_getElem? (i := 141) rfl)) rfl
set_option maxRecDepth 20000 in
theorem kc_R_70 : Cond.constant R_R 70 (1000000000) ∈ zTb := zTb_of (tm2 (List.mem_of_getElem? (i := 160) rfl)) rfl
set_option maxRecDepth 20000 in
theorem kc_E_151 : Cond.constantLong R_E 151 (8) ∈ zTb := zTb_of (tm2 (List.mem_of_getElem? (i := 173) rfl)) rfl
set_option maxRecDepth 20000 in
theorem kc_E_153 : Cond.constantLong R_E 153 (27) ∈ zTb := zTb_of (tm2 (List.mem_of_getElem? (i := 174) rfl)) rfl
set_option maxRecDepth 20000 in
theorem kc_D_56 : Cond.constant R_D 56 (100000) ∈ zTb := zTb_of (tm3 (List.mem_of_getElem? (i := 3) rfl)) rfl
set_option maxRecDepth 20000 in
theorem kc_D_121 : Cond.constantLong R_D 121 (1000000000) ∈ zTb := zTb_of (tm3 (List.mem_of_getElem? (i := 18) rfl)) rfl
set_option maxRecDepth 20000 in
theorem kc_D_109 : Cond.constantLong R_D 109 (2000000000) ∈ zTb := zTb_of (tm3 (List.mem_of_getElem? (i := 19) rfl)) rfl
set_option maxRecDepth 20000 in
theorem kc_X_93 : Cond.constant R_X 93 (-1000000) ∈ zTb := zTb_of (tm3 (List.mem_of_getElem? (i := 164) rfl)) rfl
set_option maxRecDepth 20000 in
theorem kc_X_94 : Cond.constant R_X 94 (1000000) ∈ zTb := zTb_of (tm3 (List.mem_of_getElem? (i := 165) rfl)) rfl
set_option maxRecDepth 20000 in
theorem nw_L_10 : zNw R_law 10 0 5 [.int 0, .null, .null, .null, .null] := ⟨R_M, F_M, t_M, zcl_M, zTb_of (tm3 (List.mem_of_getElem? (i := 206) rfl)) rfl, zTb_of (tm3 (List.mem_of_getElem? (i := 207) rfl)) rfl, ini_M, by decide +kernel⟩
set_option maxRecDepth 20000 in
theorem kc_M_34 : Cond.constantLong R_M 34 (1000000000) ∈ zTb := zTb_of (tm3 (List.mem_of_getElem? (i := 220) rfl)) rfl
set_option maxRecDepth 20000 in
theorem fd_M_30 : zFd R_M 30 0 0 (.int) false := ⟨R_M, F_M, 5, t_M, zcl_M, by decide, rfl, rfl, Or.inl (zTb_of (tm3 (List.mem_of_getElem? (i := 221) rfl)) rfl)⟩
set_option maxRecDepth 20000 in
theorem fd_M_9 : zFd R_M 9 0 1 (.array .int) true := ⟨R_M, F_M, 5, t_M, zcl_M, by decide, rfl, rfl, Or.inl (zTb_of (tm3 (List.mem_of_getElem? (i := 222) rfl)) rfl)⟩
set_option maxRecDepth 20000 in
theorem ff_M_9 : zFf R_M 9 0 1 (.array .int) := ⟨R_M, F_M, 5, t_M, zcl_M, by decide, rfl, rfl, rfl, zTb_of (tm3 (List.mem_of_getElem? (i := 222) rfl)) rfl⟩
set_option maxRecDepth 20000 in
theorem fd_M_13 : zFd R_M 13 0 2 (.array .int) true := ⟨R_M, F_M, 5, t_M, zcl_M, by decide, rfl, rfl, Or.inl (zTb_of (tm3 (List.mem_of_getElem? (i := 223) rfl)) rfl)⟩
set_option maxRecDepth 20000 in
theorem ff_M_13 : zFf R_M 13 0 2 (.array .int) := ⟨R_M, F_M, 5, t_M, zcl_M, by decide, rfl, rfl, rfl, zTb_of (tm3 (List.mem_of_getElem? (i := 223) rfl)) rfl⟩
set_option maxRecDepth 20000 in
theorem fd_M_16 : zFd R_M 16 0 3 (.array .int) true := ⟨R_M, F_M, 5, t_M, zcl_M, by decide, rfl, rfl, Or.inl (zTb_of (tm3 (List.mem_of_getElem? (i := 224) rfl)) rfl)⟩
set_option maxRecDepth 20000 in
theorem ff_M_16 : zFf R_M 16 0 3 (.array .int) := ⟨R_M, F_M, 5, t_M, zcl_M, by decide, rfl, rfl, rfl, zTb_of (tm3 (List.mem_of_getElem? (i := 224) rfl)) rfl⟩
set_option maxRecDepth 20000 in
theorem fd_M_19 : zFd R_M 19 0 4 (.array .boolean) true := ⟨R_M, F_M, 5, t_M, zcl_M, by decide, rfl, rfl, Or.inl (zTb_of (tm3 (List.mem_of_getElem? (i := 225) rfl)) rfl)⟩
set_option maxRecDepth 20000 in
theorem ff_M_19 : zFf R_M 19 0 4 (.array .boolean) := ⟨R_M, F_M, 5, t_M, zcl_M, by decide, rfl, rfl, rfl, zTb_of (tm3 (List.mem_of_getElem? (i := 225) rfl)) rfl⟩
set_option maxRecDepth 20000 in
theorem kc_M_90 : Cond.constant R_M 90 (-99999) ∈ zTb := zTb_of (tm4 (List.mem_of_getElem? (i := 5) rfl)) rfl
set_option maxRecDepth 20000 in
theorem kc_M_91 : Cond.constant R_M 91 (99999) ∈ zTb := zTb_of (tm4 (List.mem_of_getElem? (i := 6) rfl)) rfl
set_option maxRecDepth 20000 in
theorem kc_M_73 : Cond.constantLong R_M 73 (4) ∈ zTb := zTb_of (tm4 (List.mem_of_getElem? (i := 7) rfl)) rfl
set_option maxRecDepth 20000 in
theorem kc_M_75 : Cond.constantLong R_M 75 (2) ∈ zTb := zTb_of (tm4 (List.mem_of_getElem? (i := 8) rfl)) rfl
set_option maxRecDepth 20000 in
theorem kc_M_77 : Cond.constantLong R_M 77 (9) ∈ zTb := zTb_of (tm4 (List.mem_of_getElem? (i := 9) rfl)) rfl
set_option maxRecDepth 20000 in
theorem kc_M_52 : Cond.constant R_M 52 (1000000000) ∈ zTb := zTb_of (tm4 (List.mem_of_getElem? (i := 34) rfl)) rfl
set_option maxRecDepth 20000 in
theorem kc_M_86 : Cond.constantLong R_M 86 (8) ∈ zTb := zTb_of (tm4 (List.mem_of_getElem? (i := 43) rfl)) rfl
set_option maxRecDepth 20000 in
theorem kc_M_88 : Cond.constantLong R_M 88 (27) ∈ zTb := zTb_of (tm4 (List.mem_of_getElem? (i := 44) rfl)) rfl
set_option maxRecDepth 20000 in
theorem kc_M_128 : Cond.constantLong R_M 128 (3) ∈ zTb := zTb_of (tm4 (List.mem_of_getElem? (i := 112) rfl)) rfl
set_option maxRecDepth 20000 in
theorem kc_M_147 : Cond.constant R_M 147 (-1000000) ∈ zTb := zTb_of (tm4 (List.mem_of_getElem? (i := 141) rfl)) rfl
set_option maxRecDepth 20000 in
theorem kc_M_148 : Cond.constant R_M 148 (1000000) ∈ zTb := zTb_of (tm4 (List.mem_of_getElem? (i := 142) rfl)) rfl
set_option maxRecDepth 20000 in
theorem kc_M_149 : Cond.constant R_M 149 (1048576) ∈ zTb := zTb_of (tm4 (List.mem_of_getElem? (i := 143) rfl)) rfl
set_option maxRecDepth 20000 in
theorem kc_L_23 : Cond.constantLong R_law 23 (4294967295) ∈ zTb := zTb_of (tm4 (List.mem_of_getElem? (i := 176) rfl)) rfl
set_option maxRecDepth 20000 in
theorem cd_X_init : Cond.code y_X_init b_X_init 4 none ∈ zTb := zTb_of (tm1 (List.mem_of_getElem? (i := 16) rfl)) rfl
set_option maxRecDepth 20000 in
theorem im_X_init : Cond.instanceMethod y_X_init ∈ zTb := zTb_of (tm1 (List.mem_of_getElem? (i := 15) rfl)) rfl
set_option maxRecDepth 20000 in
theorem cd_R_init : Cond.code y_R_init b_R_init 1 none ∈ zTb := zTb_of (tm1 (List.mem_of_getElem? (i := 24) rfl)) rfl
set_option maxRecDepth 20000 in
theorem im_R_init : Cond.instanceMethod y_R_init ∈ zTb := zTb_of (tm1 (List.mem_of_getElem? (i := 23) rfl)) rfl
set_option maxRecDepth 20000 in
theorem cd_N_init : Cond.code y_N_init b_N_init 2 none ∈ zTb := zTb_of (tm1 (List.mem_of_getElem? (i := 30) rfl)) rfl
set_option maxRecDepth 20000 in
theorem im_N_init : Cond.instanceMethod y_N_init ∈ zTb := zTb_of (tm1 (List.mem_of_getElem? (i := 29) rfl)) rfl
set_option maxRecDepth 20000 in
theorem cd_D_init : Cond.code y_D_init b_D_init 2 none ∈ zTb := zTb_of (tm1 (List.mem_of_getElem? (i := 78) rfl)) rfl
set_option maxRecDepth 20000 in
theorem im_D_init : Cond.instanceMethod y_D_init ∈ zTb := zTb_of (tm1 (List.mem_of_getElem? (i := 77) rfl)) rfl
set_option maxRecDepth 20000 in
theorem cd_N_become_J : Cond.code y_N_become_J b_N_become_J 7 none ∈ zTb := zTb_of (tm1 (List.mem_of_getElem? (i := 86) rfl)) rfl
set_option maxRecDepth 20000 in
theorem im_N_become_J : Cond.instanceMethod y_N_become_J ∈ zTb := zTb_of (tm1 (List.mem_of_getElem? (i := 84) rfl)) rfl
set_option maxRecDepth 20000 in
theorem se_N_become_J : Cond.selects y_N_become_J.cls y_N_become_J y_N_become_J ∈ zTb := zTb_of (tm1 (List.mem_of_getElem? (i := 85) rfl)) rfl
set_option maxRecDepth 20000 in
theorem cd_Q_init : Cond.code y_Q_init b_Q_init 1 none ∈ zTb := zTb_of (tm1 (List.mem_of_getElem? (i := 123) rfl)) rfl
set_option maxRecDepth 20000 in
theorem im_Q_init : Cond.instanceMethod y_Q_init ∈ zTb := zTb_of (tm1 (List.mem_of_getElem? (i := 122) rfl)) rfl
set_option maxRecDepth 20000 in
theorem cd_Q_become : Cond.code y_Q_become b_Q_become 11 none ∈ zTb := zTb_of (tm1 (List.mem_of_getElem? (i := 174) rfl)) rfl
set_option maxRecDepth 20000 in
theorem im_Q_become : Cond.instanceMethod y_Q_become ∈ zTb := zTb_of (tm1 (List.mem_of_getElem? (i := 172) rfl)) rfl
set_option maxRecDepth 20000 in
theorem se_Q_become : Cond.selects y_Q_become.cls y_Q_become y_Q_become ∈ zTb := zTb_of (tm1 (List.mem_of_getElem? (i := 173) rfl)) rfl
set_option maxRecDepth 20000 in
theorem cd_Q_b4 : Cond.code y_Q_b4 b_Q_b4 6 (some .long) ∈ zTb := zTb_of (tm1 (List.mem_of_getElem? (i := 179) rfl)) rfl
set_option maxRecDepth 20000 in
theorem sm_Q_b4 : Cond.static y_Q_b4 ∈ zTb := zTb_of (tm1 (List.mem_of_getElem? (i := 178) rfl)) rfl
set_option maxRecDepth 20000 in
theorem cd_Q_b6 : Cond.code y_Q_b6 b_Q_b6 4 (some .long) ∈ zTb := zTb_of (tm1 (List.mem_of_getElem? (i := 182) rfl)) rfl
set_option maxRecDepth 20000 in
theorem sm_Q_b6 : Cond.static y_Q_b6 ∈ zTb := zTb_of (tm1 (List.mem_of_getElem? (i := 181) rfl)) rfl
set_option maxRecDepth 20000 in
theorem cd_Q_b8 : Cond.code y_Q_b8 b_Q_b8 10 (some .long) ∈ zTb := zTb_of (tm1 (List.mem_of_getElem? (i := 186) rfl)) rfl
set_option maxRecDepth 20000 in
theorem sm_Q_b8 : Cond.static y_Q_b8 ∈ zTb := zTb_of (tm1 (List.mem_of_getElem? (i := 185) rfl)) rfl
set_option maxRecDepth 20000 in
theorem cd_C_init : Cond.code y_C_init b_C_init 4 none ∈ zTb := zTb_of (tm1 (List.mem_of_getElem? (i := 191) rfl)) rfl
set_option maxRecDepth 20000 in
theorem im_C_init : Cond.instanceMethod y_C_init ∈ zTb := zTb_of (tm1 (List.mem_of_getElem? (i := 190) rfl)) rfl
set_option maxRecDepth 20000 in
theorem cd_E_init : Cond.code y_E_init b_E_init 4 none ∈ zTb := zTb_of (tm1 (List.mem_of_getElem? (i := 239) rfl)) rfl
set_option maxRecDepth 20000 in
theorem im_E_init : Cond.instanceMethod y_E_init ∈ zTb := zTb_of (tm1 (List.mem_of_getElem? (i := 238) rfl)) rfl
set_option maxRecDepth 20000 in
theorem cd_P_init : Cond.code y_P_init b_P_init 1 none ∈ zTb := zTb_of (tm2 (List.mem_of_getElem? (i := 38) rfl)) rfl
set_option maxRecDepth 20000 in
theorem im_P_init : Cond.instanceMethod y_P_init ∈ zTb := zTb_of (tm2 (List.mem_of_getElem? (i := 37) rfl)) rfl
set_option maxRecDepth 20000 in
theorem cd_X_curve : Cond.code y_X_curve b_X_curve 7 (some .int) ∈ zTb := zTb_of (tm2 (List.mem_of_getElem? (i := 101) rfl)) rfl
set_option maxRecDepth 20000 in
theorem im_X_curve : Cond.instanceMethod y_X_curve ∈ zTb := zTb_of (tm2 (List.mem_of_getElem? (i := 99) rfl)) rfl
set_option maxRecDepth 20000 in
theorem se_X_curve : Cond.selects y_X_curve.cls y_X_curve y_X_curve ∈ zTb := zTb_of (tm2 (List.mem_of_getElem? (i := 100) rfl)) rfl
set_option maxRecDepth 20000 in
theorem cd_X_isCoefficient : Cond.code y_X_isCoefficient b_X_isCoefficient 1 (some .boolean) ∈ zTb := zTb_of (tm2 (List.mem_of_getElem? (i := 104) rfl)) rfl
set_option maxRecDepth 20000 in
theorem sm_X_isCoefficient : Cond.static y_X_isCoefficient ∈ zTb := zTb_of (tm2 (List.mem_of_getElem? (i := 103) rfl)) rfl
set_option maxRecDepth 20000 in
theorem cd_E_isSingular : Cond.code y_E_isSingular b_E_isSingular 11 (some .boolean) ∈ zTb := zTb_of (tm2 (List.mem_of_getElem? (i := 110) rfl)) rfl
set_option maxRecDepth 20000 in
theorem im_E_isSingular : Cond.instanceMethod y_E_isSingular ∈ zTb := zTb_of (tm2 (List.mem_of_getElem? (i := 108) rfl)) rfl
set_option maxRecDepth 20000 in
theorem se_E_isSingular : Cond.selects y_E_isSingular.cls y_E_isSingular y_E_isSingular ∈ zTb := zTb_of (tm2 (List.mem_of_getElem? (i := 109) rfl)) rfl
set_option maxRecDepth 20000 in
theorem cd_Q_b2 : Cond.code y_Q_b2 b_Q_b2 4 (some .long) ∈ zTb := zTb_of (tm2 (List.mem_of_getElem? (i := 113) rfl)) rfl
set_option maxRecDepth 20000 in
theorem sm_Q_b2 : Cond.static y_Q_b2 ∈ zTb := zTb_of (tm2 (List.mem_of_getElem? (i := 112) rfl)) rfl
set_option maxRecDepth 20000 in
theorem cd_R_multiply : Cond.code y_R_multiply b_R_multiply 15 none ∈ zTb := zTb_of (tm2 (List.mem_of_getElem? (i := 121) rfl)) rfl
set_option maxRecDepth 20000 in
theorem im_R_multiply : Cond.instanceMethod y_R_multiply ∈ zTb := zTb_of (tm2 (List.mem_of_getElem? (i := 119) rfl)) rfl
set_option maxRecDepth 20000 in
theorem se_R_multiply : Cond.selects y_R_multiply.cls y_R_multiply y_R_multiply ∈ zTb := zTb_of (tm2 (List.mem_of_getElem? (i := 120) rfl)) rfl
set_option maxRecDepth 20000 in
theorem cd_R_lose : Cond.code y_R_lose b_R_lose 2 none ∈ zTb := zTb_of (tm2 (List.mem_of_getElem? (i := 125) rfl)) rfl
set_option maxRecDepth 20000 in
theorem im_R_lose : Cond.instanceMethod y_R_lose ∈ zTb := zTb_of (tm2 (List.mem_of_getElem? (i := 124) rfl)) rfl
set_option maxRecDepth 20000 in
theorem se_R_lose : Cond.selects y_R_lose.cls y_R_lose y_R_lose ∈ zTb := zTb_sel (q := (y_R_lose, 5)) (List.mem_append_left _ (List.mem_of_getElem? (i := 0) rfl)) rfl
set_option maxRecDepth 20000 in
theorem cd_N_becomeZero : Cond.code y_N_becomeZero b_N_becomeZero 1 none ∈ zTb := zTb_of (tm2 (List.mem_of_getElem? (i := 129) rfl)) rfl
set_option maxRecDepth 20000 in
theorem im_N_becomeZero : Cond.instanceMethod y_N_becomeZero ∈ zTb := zTb_of (tm2 (List.mem_of_getElem? (i := 127) rfl)) rfl
set_option maxRecDepth 20000 in
theorem se_N_becomeZero : Cond.selects y_N_becomeZero.cls y_N_becomeZero y_N_becomeZero ∈ zTb := zTb_of (tm2 (List.mem_of_getElem? (i := 128) rfl)) rfl
set_option maxRecDepth 20000 in
theorem cd_R_store : Cond.code y_R_store b_R_store 6 none ∈ zTb := zTb_of (tm2 (List.mem_of_getElem? (i := 134) rfl)) rfl
set_option maxRecDepth 20000 in
theorem im_R_store : Cond.instanceMethod y_R_store ∈ zTb := zTb_of (tm2 (List.mem_of_getElem? (i := 133) rfl)) rfl
set_option maxRecDepth 20000 in
theorem se_R_store : Cond.selects y_R_store.cls y_R_store y_R_store ∈ zTb := zTb_sel (q := (y_R_store, 5)) (List.mem_append_left _ (List.mem_of_getElem? (i := 1) rfl)) rfl
set_option maxRecDepth 20000 in
theorem cd_R_subtractProduct : Cond.code y_R_subtractProduct b_R_subtractProduct 4 none ∈ zTb := zTb_of (tm2 (List.mem_of_getElem? (i := 145) rfl)) rfl
set_option maxRecDepth 20000 in
theorem im_R_subtractProduct : Cond.instanceMethod y_R_subtractProduct ∈ zTb := zTb_of (tm2 (List.mem_of_getElem? (i := 143) rfl)) rfl
set_option maxRecDepth 20000 in
theorem se_R_subtractProduct : Cond.selects y_R_subtractProduct.cls y_R_subtractProduct y_R_subtractProduct ∈ zTb := zTb_of (tm2 (List.mem_of_getElem? (i := 144) rfl)) rfl
set_option maxRecDepth 20000 in
theorem cd_R_addSigned : Cond.code y_R_addSigned b_R_addSigned 5 none ∈ zTb := zTb_of (tm2 (List.mem_of_getElem? (i := 150) rfl)) rfl
set_option maxRecDepth 20000 in
theorem im_R_addSigned : Cond.instanceMethod y_R_addSigned ∈ zTb := zTb_of (tm2 (List.mem_of_getElem? (i := 149) rfl)) rfl
set_option maxRecDepth 20000 in
theorem se_R_addSigned : Cond.selects y_R_addSigned.cls y_R_addSigned y_R_addSigned ∈ zTb := zTb_sel (q := (y_R_addSigned, 5)) (List.mem_append_left _ (List.mem_of_getElem? (i := 2) rfl)) rfl
set_option maxRecDepth 20000 in
theorem cd_R_addSizes : Cond.code y_R_addSizes b_R_addSizes 8 none ∈ zTb := zTb_of (tm2 (List.mem_of_getElem? (i := 154) rfl)) rfl
set_option maxRecDepth 20000 in
theorem im_R_addSizes : Cond.instanceMethod y_R_addSizes ∈ zTb := zTb_of (tm2 (List.mem_of_getElem? (i := 153) rfl)) rfl
set_option maxRecDepth 20000 in
theorem se_R_addSizes : Cond.selects y_R_addSizes.cls y_R_addSizes y_R_addSizes ∈ zTb := zTb_sel (q := (y_R_addSizes, 5)) (List.mem_append_left _ (List.mem_of_getElem? (i := 3) rfl)) rfl
set_option maxRecDepth 20000 in
theorem cd_N_limb : Cond.code y_N_limb b_N_limb 2 (some .int) ∈ zTb := zTb_of (tm2 (List.mem_of_getElem? (i := 159) rfl)) rfl
set_option maxRecDepth 20000 in
theorem im_N_limb : Cond.instanceMethod y_N_limb ∈ zTb := zTb_of (tm2 (List.mem_of_getElem? (i := 157) rfl)) rfl
set_option maxRecDepth 20000 in
theorem se_N_limb : Cond.selects y_N_limb.cls y_N_limb y_N_limb ∈ zTb := zTb_of (tm2 (List.mem_of_getElem? (i := 158) rfl)) rfl
set_option maxRecDepth 20000 in
theorem cd_N_settle : Cond.code y_N_settle b_N_settle 4 none ∈ zTb := zTb_of (tm2 (List.mem_of_getElem? (i := 164) rfl)) rfl
set_option maxRecDepth 20000 in
theorem im_N_settle : Cond.instanceMethod y_N_settle ∈ zTb := zTb_of (tm2 (List.mem_of_getElem? (i := 162) rfl)) rfl
set_option maxRecDepth 20000 in
theorem se_N_settle : Cond.selects y_N_settle.cls y_N_settle y_N_settle ∈ zTb := zTb_of (tm2 (List.mem_of_getElem? (i := 163) rfl)) rfl
set_option maxRecDepth 20000 in
theorem cd_N_compareSize : Cond.code y_N_compareSize b_N_compareSize 3 (some .int) ∈ zTb := zTb_of (tm2 (List.mem_of_getElem? (i := 168) rfl)) rfl
set_option maxRecDepth 20000 in
theorem im_N_compareSize : Cond.instanceMethod y_N_compareSize ∈ zTb := zTb_of (tm2 (List.mem_of_getElem? (i := 166) rfl)) rfl
set_option maxRecDepth 20000 in
theorem se_N_compareSize : Cond.selects y_N_compareSize.cls y_N_compareSize y_N_compareSize ∈ zTb := zTb_of (tm2 (List.mem_of_getElem? (i := 167) rfl)) rfl
set_option maxRecDepth 20000 in
theorem cd_R_subtractSizes : Cond.code y_R_subtractSizes b_R_subtractSizes 9 none ∈ zTb := zTb_of (tm2 (List.mem_of_getElem? (i := 172) rfl)) rfl
set_option maxRecDepth 20000 in
theorem im_R_subtractSizes : Cond.instanceMethod y_R_subtractSizes ∈ zTb := zTb_of (tm2 (List.mem_of_getElem? (i := 171) rfl)) rfl
set_option maxRecDepth 20000 in
theorem se_R_subtractSizes : Cond.selects y_R_subtractSizes.cls y_R_subtractSizes y_R_subtractSizes ∈ zTb := zTb_sel (q := (y_R_subtractSizes, 5)) (List.mem_append_left _ (List.mem_of_getElem? (i := 4) rfl)) rfl
set_option maxRecDepth 20000 in
theorem cd_N_isZero : Cond.code y_N_isZero b_N_isZero 1 (some .boolean) ∈ zTb := zTb_of (tm2 (List.mem_of_getElem? (i := 178) rfl)) rfl
set_option maxRecDepth 20000 in
theorem im_N_isZero : Cond.instanceMethod y_N_isZero ∈ zTb := zTb_of (tm2 (List.mem_of_getElem? (i := 176) rfl)) rfl
set_option maxRecDepth 20000 in
theorem se_N_isZero : Cond.selects y_N_isZero.cls y_N_isZero y_N_isZero ∈ zTb := zTb_of (tm2 (List.mem_of_getElem? (i := 177) rfl)) rfl
set_option maxRecDepth 20000 in
theorem cd_P_becomeNone : Cond.code y_P_becomeNone b_P_becomeNone 1 none ∈ zTb := zTb_of (tm2 (List.mem_of_getElem? (i := 182) rfl)) rfl
set_option maxRecDepth 20000 in
theorem im_P_becomeNone : Cond.instanceMethod y_P_becomeNone ∈ zTb := zTb_of (tm2 (List.mem_of_getElem? (i := 180) rfl)) rfl
set_option maxRecDepth 20000 in
theorem se_P_becomeNone : Cond.selects y_P_becomeNone.cls y_P_becomeNone y_P_becomeNone ∈ zTb := zTb_of (tm2 (List.mem_of_getElem? (i := 181) rfl)) rfl
set_option maxRecDepth 20000 in
theorem cd_X_none : Cond.code y_X_none b_X_none 2 (some .boolean) ∈ zTb := zTb_of (tm2 (List.mem_of_getElem? (i := 186) rfl)) rfl
set_option maxRecDepth 20000 in
theorem im_X_none : Cond.instanceMethod y_X_none ∈ zTb := zTb_of (tm2 (List.mem_of_getElem? (i := 184) rfl)) rfl
set_option maxRecDepth 20000 in
theorem se_X_none : Cond.selects y_X_none.cls y_X_none y_X_none ∈ zTb := zTb_of (tm2 (List.mem_of_getElem? (i := 185) rfl)) rfl
set_option maxRecDepth 20000 in
theorem cd_X_isSlot : Cond.code y_X_isSlot b_X_isSlot 1 (some .boolean) ∈ zTb := zTb_of (tm2 (List.mem_of_getElem? (i := 189) rfl)) rfl
set_option maxRecDepth 20000 in
theorem sm_X_isSlot : Cond.static y_X_isSlot ∈ zTb := zTb_of (tm2 (List.mem_of_getElem? (i := 188) rfl)) rfl
set_option maxRecDepth 20000 in
theorem cd_X_point : Cond.code y_X_point b_X_point 10 (some .int) ∈ zTb := zTb_of (tm2 (List.mem_of_getElem? (i := 193) rfl)) rfl
set_option maxRecDepth 20000 in
theorem im_X_point : Cond.instanceMethod y_X_point ∈ zTb := zTb_of (tm2 (List.mem_of_getElem? (i := 191) rfl)) rfl
set_option maxRecDepth 20000 in
theorem se_X_point : Cond.selects y_X_point.cls y_X_point y_X_point ∈ zTb := zTb_of (tm2 (List.mem_of_getElem? (i := 192) rfl)) rfl
set_option maxRecDepth 20000 in
theorem cd_E_read : Cond.code y_E_read b_E_read 10 (some .boolean) ∈ zTb := zTb_of (tm2 (List.mem_of_getElem? (i := 197) rfl)) rfl
set_option maxRecDepth 20000 in
theorem im_E_read : Cond.instanceMethod y_E_read ∈ zTb := zTb_of (tm2 (List.mem_of_getElem? (i := 195) rfl)) rfl
set_option maxRecDepth 20000 in
theorem se_E_read : Cond.selects y_E_read.cls y_E_read y_E_read ∈ zTb := zTb_of (tm2 (List.mem_of_getElem? (i := 196) rfl)) rfl
set_option maxRecDepth 20000 in
theorem cd_E_takeLowestTerms : Cond.code y_E_takeLowestTerms b_E_takeLowestTerms 7 none ∈ zTb := zTb_of (tm2 (List.mem_of_getElem? (i := 201) rfl)) rfl
set_option maxRecDepth 20000 in
theorem im_E_takeLowestTerms : Cond.instanceMethod y_E_takeLowestTerms ∈ zTb := zTb_of (tm2 (List.mem_of_getElem? (i := 200) rfl)) rfl
set_option maxRecDepth 20000 in
theorem se_E_takeLowestTerms : Cond.selects y_E_takeLowestTerms.cls y_E_takeLowestTerms y_E_takeLowestTerms ∈ zTb := zTb_sel (q := (y_E_takeLowestTerms, 10)) (List.mem_append_left _ (List.mem_of_getElem? (i := 5) rfl)) rfl
set_option maxRecDepth 20000 in
theorem cd_D_common : Cond.code y_D_common b_D_common 5 none ∈ zTb := zTb_of (tm2 (List.mem_of_getElem? (i := 205) rfl)) rfl
set_option maxRecDepth 20000 in
theorem im_D_common : Cond.instanceMethod y_D_common ∈ zTb := zTb_of (tm2 (List.mem_of_getElem? (i := 203) rfl)) rfl
set_option maxRecDepth 20000 in
theorem se_D_common : Cond.selects y_D_common.cls y_D_common y_D_common ∈ zTb := zTb_of (tm2 (List.mem_of_getElem? (i := 204) rfl)) rfl
set_option maxRecDepth 20000 in
theorem cd_N_become_N : Cond.code y_N_become_N b_N_become_N 2 none ∈ zTb := zTb_of (tm2 (List.mem_of_getElem? (i := 209) rfl)) rfl
set_option maxRecDepth 20000 in
theorem im_N_become_N : Cond.instanceMethod y_N_become_N ∈ zTb := zTb_of (tm2 (List.mem_of_getElem? (i := 207) rfl)) rfl
set_option maxRecDepth 20000 in
theorem se_N_become_N : Cond.selects y_N_become_N.cls y_N_become_N y_N_become_N ∈ zTb := zTb_of (tm2 (List.mem_of_getElem? (i := 208) rfl)) rfl
set_option maxRecDepth 20000 in
theorem cd_D_shorten : Cond.code y_D_shorten b_D_shorten 2 none ∈ zTb := zTb_of (tm2 (List.mem_of_getElem? (i := 216) rfl)) rfl
set_option maxRecDepth 20000 in
theorem im_D_shorten : Cond.instanceMethod y_D_shorten ∈ zTb := zTb_of (tm2 (List.mem_of_getElem? (i := 215) rfl)) rfl
set_option maxRecDepth 20000 in
theorem se_D_shorten : Cond.selects y_D_shorten.cls y_D_shorten y_D_shorten ∈ zTb := zTb_sel (q := (y_D_shorten, 10)) (List.mem_append_left _ (List.mem_of_getElem? (i := 6) rfl)) rfl
set_option maxRecDepth 20000 in
theorem cd_R_divide : Cond.code y_R_divide b_R_divide 12 none ∈ zTb := zTb_of (tm2 (List.mem_of_getElem? (i := 221) rfl)) rfl
set_option maxRecDepth 20000 in
theorem im_R_divide : Cond.instanceMethod y_R_divide ∈ zTb := zTb_of (tm2 (List.mem_of_getElem? (i := 219) rfl)) rfl
set_option maxRecDepth 20000 in
theorem se_R_divide : Cond.selects y_R_divide.cls y_R_divide y_R_divide ∈ zTb := zTb_of (tm2 (List.mem_of_getElem? (i := 220) rfl)) rfl
set_option maxRecDepth 20000 in
theorem cd_R_scaleUp : Cond.code y_R_scaleUp b_R_scaleUp 10 (some .int) ∈ zTb := zTb_of (tm2 (List.mem_of_getElem? (i := 226) rfl)) rfl
set_option maxRecDepth 20000 in
theorem im_R_scaleUp : Cond.instanceMethod y_R_scaleUp ∈ zTb := zTb_of (tm2 (List.mem_of_getElem? (i := 225) rfl)) rfl
set_option maxRecDepth 20000 in
theorem se_R_scaleUp : Cond.selects y_R_scaleUp.cls y_R_scaleUp y_R_scaleUp ∈ zTb := zTb_sel (q := (y_R_scaleUp, 5)) (List.mem_append_left _ (List.mem_of_getElem? (i := 7) rfl)) rfl
set_option maxRecDepth 20000 in
theorem cd_R_guessLimb : Cond.code y_R_guessLimb b_R_guessLimb 16 (some .long) ∈ zTb := zTb_of (tm2 (List.mem_of_getElem? (i := 230) rfl)) rfl
set_option maxRecDepth 20000 in
theorem im_R_guessLimb : Cond.instanceMethod y_R_guessLimb ∈ zTb := zTb_of (tm2 (List.mem_of_getElem? (i := 229) rfl)) rfl
set_option maxRecDepth 20000 in
theorem se_R_guessLimb : Cond.selects y_R_guessLimb.cls y_R_guessLimb y_R_guessLimb ∈ zTb := zTb_sel (q := (y_R_guessLimb, 5)) (List.mem_append_left _ (List.mem_of_getElem? (i := 8) rfl)) rfl
set_option maxRecDepth 20000 in
theorem cd_R_takeMultiple : Cond.code y_R_takeMultiple b_R_takeMultiple 11 (some .int) ∈ zTb := zTb_of (tm2 (List.mem_of_getElem? (i := 234) rfl)) rfl
set_option maxRecDepth 20000 in
theorem im_R_takeMultiple : Cond.instanceMethod y_R_takeMultiple ∈ zTb := zTb_of (tm2 (List.mem_of_getElem? (i := 233) rfl)) rfl
set_option maxRecDepth 20000 in
theorem se_R_takeMultiple : Cond.selects y_R_takeMultiple.cls y_R_takeMultiple y_R_takeMultiple ∈ zTb := zTb_sel (q := (y_R_takeMultiple, 5)) (List.mem_append_left _ (List.mem_of_getElem? (i := 9) rfl)) rfl
set_option maxRecDepth 20000 in
theorem cd_R_giveBack : Cond.code y_R_giveBack b_R_giveBack 6 none ∈ zTb := zTb_of (tm2 (List.mem_of_getElem? (i := 238) rfl)) rfl
set_option maxRecDepth 20000 in
theorem im_R_giveBack : Cond.instanceMethod y_R_giveBack ∈ zTb := zTb_of (tm2 (List.mem_of_getElem? (i := 237) rfl)) rfl
set_option maxRecDepth 20000 in
theorem se_R_giveBack : Cond.selects y_R_giveBack.cls y_R_giveBack y_R_giveBack ∈ zTb := zTb_sel (q := (y_R_giveBack, 5)) (List.mem_append_left _ (List.mem_of_getElem? (i := 10) rfl)) rfl
set_option maxRecDepth 20000 in
theorem cd_R_scaleDown : Cond.code y_R_scaleDown b_R_scaleDown 8 none ∈ zTb := zTb_of (tm3 (List.mem_of_getElem? (i := 2) rfl)) rfl
set_option maxRecDepth 20000 in
theorem im_R_scaleDown : Cond.instanceMethod y_R_scaleDown ∈ zTb := zTb_of (tm3 (List.mem_of_getElem? (i := 1) rfl)) rfl
set_option maxRecDepth 20000 in
theorem se_R_scaleDown : Cond.selects y_R_scaleDown.cls y_R_scaleDown y_R_scaleDown ∈ zTb := zTb_sel (q := (y_R_scaleDown, 5)) (List.mem_append_left _ (List.mem_of_getElem? (i := 11) rfl)) rfl
set_option maxRecDepth 20000 in
theorem cd_D_followLeadingDigits : Cond.code y_D_followLeadingDigits b_D_followLeadingDigits 16 (some .boolean) ∈ zTb := zTb_of (tm3 (List.mem_of_getElem? (i := 7) rfl)) rfl
set_option maxRecDepth 20000 in
theorem im_D_followLeadingDigits : Cond.instanceMethod y_D_followLeadingDigits ∈ zTb := zTb_of (tm3 (List.mem_of_getElem? (i := 6) rfl)) rfl
set_option maxRecDepth 20000 in
theorem se_D_followLeadingDigits : Cond.selects y_D_followLeadingDigits.cls y_D_followLeadingDigits y_D_followLeadingDigits ∈ zTb := zTb_sel (q := (y_D_followLeadingDigits, 10)) (List.mem_append_left _ (List.mem_of_getElem? (i := 12) rfl)) rfl
set_option maxRecDepth 20000 in
theorem cd_N_limbDigits : Cond.code y_N_limbDigits b_N_limbDigits 2 (some .int) ∈ zTb := zTb_of (tm3 (List.mem_of_getElem? (i := 11) rfl)) rfl
set_option maxRecDepth 20000 in
theorem sm_N_limbDigits : Cond.static y_N_limbDigits ∈ zTb := zTb_of (tm3 (List.mem_of_getElem? (i := 10) rfl)) rfl
set_option maxRecDepth 20000 in
theorem cd_D_leading : Cond.code y_D_leading b_D_leading 6 (some .long) ∈ zTb := zTb_of (tm3 (List.mem_of_getElem? (i := 16) rfl)) rfl
set_option maxRecDepth 20000 in
theorem sm_D_leading : Cond.static y_D_leading ∈ zTb := zTb_of (tm3 (List.mem_of_getElem? (i := 15) rfl)) rfl
set_option maxRecDepth 20000 in
theorem cd_D_mix : Cond.code y_D_mix b_D_mix 15 none ∈ zTb := zTb_of (tm3 (List.mem_of_getElem? (i := 26) rfl)) rfl
set_option maxRecDepth 20000 in
theorem im_D_mix : Cond.instanceMethod y_D_mix ∈ zTb := zTb_of (tm3 (List.mem_of_getElem? (i := 25) rfl)) rfl
set_option maxRecDepth 20000 in
theorem se_D_mix : Cond.selects y_D_mix.cls y_D_mix y_D_mix ∈ zTb := zTb_sel (q := (y_D_mix, 10)) (List.mem_append_left _ (List.mem_of_getElem? (i := 13) rfl)) rfl
set_option maxRecDepth 20000 in
theorem cd_N_lowPart : Cond.code y_N_lowPart b_N_lowPart 1 (some .long) ∈ zTb := zTb_of (tm3 (List.mem_of_getElem? (i := 34) rfl)) rfl
set_option maxRecDepth 20000 in
theorem im_N_lowPart : Cond.instanceMethod y_N_lowPart ∈ zTb := zTb_of (tm3 (List.mem_of_getElem? (i := 32) rfl)) rfl
set_option maxRecDepth 20000 in
theorem se_N_lowPart : Cond.selects y_N_lowPart.cls y_N_lowPart y_N_lowPart ∈ zTb := zTb_of (tm3 (List.mem_of_getElem? (i := 33) rfl)) rfl
set_option maxRecDepth 20000 in
theorem cd_D_commonOfLongs : Cond.code y_D_commonOfLongs b_D_commonOfLongs 11 (some .long) ∈ zTb := zTb_of (tm3 (List.mem_of_getElem? (i := 38) rfl)) rfl
set_option maxRecDepth 20000 in
theorem sm_D_commonOfLongs : Cond.static y_D_commonOfLongs ∈ zTb := zTb_of (tm3 (List.mem_of_getElem? (i := 37) rfl)) rfl
set_option maxRecDepth 20000 in
theorem cd_N_changeSign : Cond.code y_N_changeSign b_N_changeSign 1 none ∈ zTb := zTb_of (tm3 (List.mem_of_getElem? (i := 43) rfl)) rfl
set_option maxRecDepth 20000 in
theorem im_N_changeSign : Cond.instanceMethod y_N_changeSign ∈ zTb := zTb_of (tm3 (List.mem_of_getElem? (i := 41) rfl)) rfl
set_option maxRecDepth 20000 in
theorem se_N_changeSign : Cond.selects y_N_changeSign.cls y_N_changeSign y_N_changeSign ∈ zTb := zTb_of (tm3 (List.mem_of_getElem? (i := 42) rfl)) rfl
set_option maxRecDepth 20000 in
theorem cd_E_isOnCurve : Cond.code y_E_isOnCurve b_E_isOnCurve 1 (some .boolean) ∈ zTb := zTb_of (tm3 (List.mem_of_getElem? (i := 47) rfl)) rfl
set_option maxRecDepth 20000 in
theorem im_E_isOnCurve : Cond.instanceMethod y_E_isOnCurve ∈ zTb := zTb_of (tm3 (List.mem_of_getElem? (i := 46) rfl)) rfl
set_option maxRecDepth 20000 in
theorem se_E_isOnCurve : Cond.selects y_E_isOnCurve.cls y_E_isOnCurve y_E_isOnCurve ∈ zTb := zTb_sel (q := (y_E_isOnCurve, 10)) (List.mem_append_left _ (List.mem_of_getElem? (i := 14) rfl)) rfl
set_option maxRecDepth 20000 in
theorem cd_R_addProduct : Cond.code y_R_addProduct b_R_addProduct 4 none ∈ zTb := zTb_of (tm3 (List.mem_of_getElem? (i := 51) rfl)) rfl
set_option maxRecDepth 20000 in
theorem im_R_addProduct : Cond.instanceMethod y_R_addProduct ∈ zTb := zTb_of (tm3 (List.mem_of_getElem? (i := 49) rfl)) rfl
set_option maxRecDepth 20000 in
theorem se_R_addProduct : Cond.selects y_R_addProduct.cls y_R_addProduct y_R_addProduct ∈ zTb := zTb_of (tm3 (List.mem_of_getElem? (i := 50) rfl)) rfl
set_option maxRecDepth 20000 in
theorem cd_N_isLike : Cond.code y_N_isLike b_N_isLike 2 (some .boolean) ∈ zTb := zTb_of (tm3 (List.mem_of_getElem? (i := 55) rfl)) rfl
set_option maxRecDepth 20000 in
theorem im_N_isLike : Cond.instanceMethod y_N_isLike ∈ zTb := zTb_of (tm3 (List.mem_of_getElem? (i := 53) rfl)) rfl
set_option maxRecDepth 20000 in
theorem se_N_isLike : Cond.selects y_N_isLike.cls y_N_isLike y_N_isLike ∈ zTb := zTb_of (tm3 (List.mem_of_getElem? (i := 54) rfl)) rfl
set_option maxRecDepth 20000 in
theorem cd_X_sum : Cond.code y_X_sum b_X_sum 4 (some .int) ∈ zTb := zTb_of (tm3 (List.mem_of_getElem? (i := 61) rfl)) rfl
set_option maxRecDepth 20000 in
theorem im_X_sum : Cond.instanceMethod y_X_sum ∈ zTb := zTb_of (tm3 (List.mem_of_getElem? (i := 59) rfl)) rfl
set_option maxRecDepth 20000 in
theorem se_X_sum : Cond.selects y_X_sum.cls y_X_sum y_X_sum ∈ zTb := zTb_of (tm3 (List.mem_of_getElem? (i := 60) rfl)) rfl
set_option maxRecDepth 20000 in
theorem cd_C_join : Cond.code y_C_join b_C_join 4 (some .boolean) ∈ zTb := zTb_of (tm3 (List.mem_of_getElem? (i := 65) rfl)) rfl
set_option maxRecDepth 20000 in
theorem im_C_join : Cond.instanceMethod y_C_join ∈ zTb := zTb_of (tm3 (List.mem_of_getElem? (i := 63) rfl)) rfl
set_option maxRecDepth 20000 in
theorem se_C_join : Cond.selects y_C_join.cls y_C_join y_C_join ∈ zTb := zTb_of (tm3 (List.mem_of_getElem? (i := 64) rfl)) rfl
set_option maxRecDepth 20000 in
theorem cd_P_become : Cond.code y_P_become b_P_become 2 none ∈ zTb := zTb_of (tm3 (List.mem_of_getElem? (i := 69) rfl)) rfl
set_option maxRecDepth 20000 in
theorem im_P_become : Cond.instanceMethod y_P_become ∈ zTb := zTb_of (tm3 (List.mem_of_getElem? (i := 67) rfl)) rfl
set_option maxRecDepth 20000 in
theorem se_P_become : Cond.selects y_P_become.cls y_P_become y_P_become ∈ zTb := zTb_of (tm3 (List.mem_of_getElem? (i := 68) rfl)) rfl
set_option maxRecDepth 20000 in
theorem cd_C_measureGap : Cond.code y_C_measureGap b_C_measureGap 3 none ∈ zTb := zTb_of (tm3 (List.mem_of_getElem? (i := 74) rfl)) rfl
set_option maxRecDepth 20000 in
theorem im_C_measureGap : Cond.instanceMethod y_C_measureGap ∈ zTb := zTb_of (tm3 (List.mem_of_getElem? (i := 73) rfl)) rfl
set_option maxRecDepth 20000 in
theorem se_C_measureGap : Cond.selects y_C_measureGap.cls y_C_measureGap y_C_measureGap ∈ zTb := zTb_sel (q := (y_C_measureGap, 13)) (List.mem_append_left _ (List.mem_of_getElem? (i := 15) rfl)) rfl
set_option maxRecDepth 20000 in
theorem cd_R_subtract : Cond.code y_R_subtract b_R_subtract 4 none ∈ zTb := zTb_of (tm3 (List.mem_of_getElem? (i := 79) rfl)) rfl
set_option maxRecDepth 20000 in
theorem im_R_subtract : Cond.instanceMethod y_R_subtract ∈ zTb := zTb_of (tm3 (List.mem_of_getElem? (i := 77) rfl)) rfl
set_option maxRecDepth 20000 in
theorem se_R_subtract : Cond.selects y_R_subtract.cls y_R_subtract y_R_subtract ∈ zTb := zTb_of (tm3 (List.mem_of_getElem? (i := 78) rfl)) rfl
set_option maxRecDepth 20000 in
theorem cd_C_gatherHeights : Cond.code y_C_gatherHeights b_C_gatherHeights 3 none ∈ zTb := zTb_of (tm3 (List.mem_of_getElem? (i := 84) rfl)) rfl
set_option maxRecDepth 20000 in
theorem im_C_gatherHeights : Cond.instanceMethod y_C_gatherHeights ∈ zTb := zTb_of (tm3 (List.mem_of_getElem? (i := 83) rfl)) rfl
set_option maxRecDepth 20000 in
theorem se_C_gatherHeights : Cond.selects y_C_gatherHeights.cls y_C_gatherHeights y_C_gatherHeights ∈ zTb := zTb_sel (q := (y_C_gatherHeights, 13)) (List.mem_append_right _ (List.mem_append_left _ (List.mem_of_getElem? (i := 0) rfl))) rfl
set_option maxRecDepth 20000 in
theorem cd_R_add : Cond.code y_R_add b_R_add 4 none ∈ zTb := zTb_of (tm3 (List.mem_of_getElem? (i := 88) rfl)) rfl
set_option maxRecDepth 20000 in
theorem im_R_add : Cond.instanceMethod y_R_add ∈ zTb := zTb_of (tm3 (List.mem_of_getElem? (i := 86) rfl)) rfl
set_option maxRecDepth 20000 in
theorem se_R_add : Cond.selects y_R_add.cls y_R_add y_R_add ∈ zTb := zTb_of (tm3 (List.mem_of_getElem? (i := 87) rfl)) rfl
set_option maxRecDepth 20000 in
theorem cd_C_drawChord : Cond.code y_C_drawChord b_C_drawChord 3 none ∈ zTb := zTb_of (tm3 (List.mem_of_getElem? (i := 93) rfl)) rfl
set_option maxRecDepth 20000 in
theorem im_C_drawChord : Cond.instanceMethod y_C_drawChord ∈ zTb := zTb_of (tm3 (List.mem_of_getElem? (i := 92) rfl)) rfl
set_option maxRecDepth 20000 in
theorem se_C_drawChord : Cond.selects y_C_drawChord.cls y_C_drawChord y_C_drawChord ∈ zTb := zTb_sel (q := (y_C_drawChord, 13)) (List.mem_append_right _ (List.mem_append_left _ (List.mem_of_getElem? (i := 1) rfl))) rfl
set_option maxRecDepth 20000 in
theorem cd_P_isLike : Cond.code y_P_isLike b_P_isLike 2 (some .boolean) ∈ zTb := zTb_of (tm3 (List.mem_of_getElem? (i := 97) rfl)) rfl
set_option maxRecDepth 20000 in
theorem im_P_isLike : Cond.instanceMethod y_P_isLike ∈ zTb := zTb_of (tm3 (List.mem_of_getElem? (i := 95) rfl)) rfl
set_option maxRecDepth 20000 in
theorem se_P_isLike : Cond.selects y_P_isLike.cls y_P_isLike y_P_isLike ∈ zTb := zTb_of (tm3 (List.mem_of_getElem? (i := 96) rfl)) rfl
set_option maxRecDepth 20000 in
theorem cd_C_drawTangent : Cond.code y_C_drawTangent b_C_drawTangent 2 none ∈ zTb := zTb_of (tm3 (List.mem_of_getElem? (i := 102) rfl)) rfl
set_option maxRecDepth 20000 in
theorem im_C_drawTangent : Cond.instanceMethod y_C_drawTangent ∈ zTb := zTb_of (tm3 (List.mem_of_getElem? (i := 101) rfl)) rfl
set_option maxRecDepth 20000 in
theorem se_C_drawTangent : Cond.selects y_C_drawTangent.cls y_C_drawTangent y_C_drawTangent ∈ zTb := zTb_sel (q := (y_C_drawTangent, 13)) (List.mem_append_right _ (List.mem_append_left _ (List.mem_of_getElem? (i := 2) rfl))) rfl
set_option maxRecDepth 20000 in
theorem cd_C_findShare : Cond.code y_C_findShare b_C_findShare 1 none ∈ zTb := zTb_of (tm3 (List.mem_of_getElem? (i := 108) rfl)) rfl
set_option maxRecDepth 20000 in
theorem im_C_findShare : Cond.instanceMethod y_C_findShare ∈ zTb := zTb_of (tm3 (List.mem_of_getElem? (i := 107) rfl)) rfl
set_option maxRecDepth 20000 in
theorem se_C_findShare : Cond.selects y_C_findShare.cls y_C_findShare y_C_findShare ∈ zTb := zTb_sel (q := (y_C_findShare, 13)) (List.mem_append_right _ (List.mem_append_left _ (List.mem_of_getElem? (i := 3) rfl))) rfl
set_option maxRecDepth 20000 in
theorem cd_D_root : Cond.code y_D_root b_D_root 4 none ∈ zTb := zTb_of (tm3 (List.mem_of_getElem? (i := 115) rfl)) rfl
set_option maxRecDepth 20000 in
theorem im_D_root : Cond.instanceMethod y_D_root ∈ zTb := zTb_of (tm3 (List.mem_of_getElem? (i := 113) rfl)) rfl
set_option maxRecDepth 20000 in
theorem se_D_root : Cond.selects y_D_root.cls y_D_root y_D_root ∈ zTb := zTb_of (tm3 (List.mem_of_getElem? (i := 114) rfl)) rfl
set_option maxRecDepth 20000 in
theorem cd_N_digitCount : Cond.code y_N_digitCount b_N_digitCount 1 (some .int) ∈ zTb := zTb_of (tm3 (List.mem_of_getElem? (i := 120) rfl)) rfl
set_option maxRecDepth 20000 in
theorem im_N_digitCount : Cond.instanceMethod y_N_digitCount ∈ zTb := zTb_of (tm3 (List.mem_of_getElem? (i := 118) rfl)) rfl
set_option maxRecDepth 20000 in
theorem se_N_digitCount : Cond.selects y_N_digitCount.cls y_N_digitCount y_N_digitCount ∈ zTb := zTb_of (tm3 (List.mem_of_getElem? (i := 119) rfl)) rfl
set_option maxRecDepth 20000 in
theorem cd_D_powerOfTen : Cond.code y_D_powerOfTen b_D_powerOfTen 4 none ∈ zTb := zTb_of (tm3 (List.mem_of_getElem? (i := 124) rfl)) rfl
set_option maxRecDepth 20000 in
theorem sm_D_powerOfTen : Cond.static y_D_powerOfTen ∈ zTb := zTb_of (tm3 (List.mem_of_getElem? (i := 123) rfl)) rfl
set_option maxRecDepth 20000 in
theorem cd_C_placeX : Cond.code y_C_placeX b_C_placeX 2 (some .boolean) ∈ zTb := zTb_of (tm3 (List.mem_of_getElem? (i := 129) rfl)) rfl
set_option maxRecDepth 20000 in
theorem im_C_placeX : Cond.instanceMethod y_C_placeX ∈ zTb := zTb_of (tm3 (List.mem_of_getElem? (i := 128) rfl)) rfl
set_option maxRecDepth 20000 in
theorem se_C_placeX : Cond.selects y_C_placeX.cls y_C_placeX y_C_placeX ∈ zTb := zTb_sel (q := (y_C_placeX, 13)) (List.mem_append_right _ (List.mem_append_left _ (List.mem_of_getElem? (i := 4) rfl))) rfl
set_option maxRecDepth 20000 in
theorem cd_C_placeY : Cond.code y_C_placeY b_C_placeY 4 none ∈ zTb := zTb_of (tm3 (List.mem_of_getElem? (i := 135) rfl)) rfl
set_option maxRecDepth 20000 in
theorem im_C_placeY : Cond.instanceMethod y_C_placeY ∈ zTb := zTb_of (tm3 (List.mem_of_getElem? (i := 134) rfl)) rfl
set_option maxRecDepth 20000 in
theorem se_C_placeY : Cond.selects y_C_placeY.cls y_C_placeY y_C_placeY ∈ zTb := zTb_sel (q := (y_C_placeY, 13)) (List.mem_append_right _ (List.mem_append_left _ (List.mem_of_getElem? (i := 5) rfl))) rfl
set_option maxRecDepth 20000 in
theorem cd_C_turnOver : Cond.code y_C_turnOver b_C_turnOver 2 none ∈ zTb := zTb_of (tm3 (List.mem_of_getElem? (i := 139) rfl)) rfl
set_option maxRecDepth 20000 in
theorem im_C_turnOver : Cond.instanceMethod y_C_turnOver ∈ zTb := zTb_of (tm3 (List.mem_of_getElem? (i := 137) rfl)) rfl
set_option maxRecDepth 20000 in
theorem se_C_turnOver : Cond.selects y_C_turnOver.cls y_C_turnOver y_C_turnOver ∈ zTb := zTb_of (tm3 (List.mem_of_getElem? (i := 138) rfl)) rfl
set_option maxRecDepth 20000 in
theorem cd_X_keep : Cond.code y_X_keep b_X_keep 3 (some .int) ∈ zTb := zTb_of (tm3 (List.mem_of_getElem? (i := 144) rfl)) rfl
set_option maxRecDepth 20000 in
theorem im_X_keep : Cond.instanceMethod y_X_keep ∈ zTb := zTb_of (tm3 (List.mem_of_getElem? (i := 143) rfl)) rfl
set_option maxRecDepth 20000 in
theorem se_X_keep : Cond.selects y_X_keep.cls y_X_keep y_X_keep ∈ zTb := zTb_sel (q := (y_X_keep, 7)) (List.mem_append_right _ (List.mem_append_left _ (List.mem_of_getElem? (i := 6) rfl))) rfl
set_option maxRecDepth 20000 in
theorem cd_P_isLongerThan : Cond.code y_P_isLongerThan b_P_isLongerThan 2 (some .boolean) ∈ zTb := zTb_of (tm3 (List.mem_of_getElem? (i := 148) rfl)) rfl
set_option maxRecDepth 20000 in
theorem im_P_isLongerThan : Cond.instanceMethod y_P_isLongerThan ∈ zTb := zTb_of (tm3 (List.mem_of_getElem? (i := 146) rfl)) rfl
set_option maxRecDepth 20000 in
theorem se_P_isLongerThan : Cond.selects y_P_isLongerThan.cls y_P_isLongerThan y_P_isLongerThan ∈ zTb := zTb_of (tm3 (List.mem_of_getElem? (i := 147) rfl)) rfl
set_option maxRecDepth 20000 in
theorem cd_P_isWiderThan : Cond.code y_P_isWiderThan b_P_isWiderThan 2 (some .boolean) ∈ zTb := zTb_of (tm3 (List.mem_of_getElem? (i := 152) rfl)) rfl
set_option maxRecDepth 20000 in
theorem im_P_isWiderThan : Cond.instanceMethod y_P_isWiderThan ∈ zTb := zTb_of (tm3 (List.mem_of_getElem? (i := 150) rfl)) rfl
set_option maxRecDepth 20000 in
theorem se_P_isWiderThan : Cond.selects y_P_isWiderThan.cls y_P_isWiderThan y_P_isWiderThan ∈ zTb := zTb_of (tm3 (List.mem_of_getElem? (i := 151) rfl)) rfl
set_option maxRecDepth 20000 in
theorem cd_X_less : Cond.code y_X_less b_X_less 4 (some .int) ∈ zTb := zTb_of (tm3 (List.mem_of_getElem? (i := 158) rfl)) rfl
set_option maxRecDepth 20000 in
theorem im_X_less : Cond.instanceMethod y_X_less ∈ zTb := zTb_of (tm3 (List.mem_of_getElem? (i := 156) rfl)) rfl
set_option maxRecDepth 20000 in
theorem se_X_less : Cond.selects y_X_less.cls y_X_less y_X_less ∈ zTb := zTb_of (tm3 (List.mem_of_getElem? (i := 157) rfl)) rfl
set_option maxRecDepth 20000 in
theorem cd_X_times : Cond.code y_X_times b_X_times 6 (some .int) ∈ zTb := zTb_of (tm3 (List.mem_of_getElem? (i := 163) rfl)) rfl
set_option maxRecDepth 20000 in
theorem im_X_times : Cond.instanceMethod y_X_times ∈ zTb := zTb_of (tm3 (List.mem_of_getElem? (i := 161) rfl)) rfl
set_option maxRecDepth 20000 in
theorem se_X_times : Cond.selects y_X_times.cls y_X_times y_X_times ∈ zTb := zTb_of (tm3 (List.mem_of_getElem? (i := 162) rfl)) rfl
set_option maxRecDepth 20000 in
theorem cd_X_order : Cond.code y_X_order b_X_order 3 (some .int) ∈ zTb := zTb_of (tm3 (List.mem_of_getElem? (i := 170) rfl)) rfl
set_option maxRecDepth 20000 in
theorem im_X_order : Cond.instanceMethod y_X_order ∈ zTb := zTb_of (tm3 (List.mem_of_getElem? (i := 168) rfl)) rfl
set_option maxRecDepth 20000 in
theorem se_X_order : Cond.selects y_X_order.cls y_X_order y_X_order ∈ zTb := zTb_of (tm3 (List.mem_of_getElem? (i := 169) rfl)) rfl
set_option maxRecDepth 20000 in
theorem cd_X_isNone : Cond.code y_X_isNone b_X_isNone 2 (some .boolean) ∈ zTb := zTb_of (tm3 (List.mem_of_getElem? (i := 174) rfl)) rfl
set_option maxRecDepth 20000 in
theorem im_X_isNone : Cond.instanceMethod y_X_isNone ∈ zTb := zTb_of (tm3 (List.mem_of_getElem? (i := 172) rfl)) rfl
set_option maxRecDepth 20000 in
theorem se_X_isNone : Cond.selects y_X_isNone.cls y_X_isNone y_X_isNone ∈ zTb := zTb_of (tm3 (List.mem_of_getElem? (i := 173) rfl)) rfl
set_option maxRecDepth 20000 in
theorem cd_X_same : Cond.code y_X_same b_X_same 3 (some .boolean) ∈ zTb := zTb_of (tm3 (List.mem_of_getElem? (i := 178) rfl)) rfl
set_option maxRecDepth 20000 in
theorem im_X_same : Cond.instanceMethod y_X_same ∈ zTb := zTb_of (tm3 (List.mem_of_getElem? (i := 176) rfl)) rfl
set_option maxRecDepth 20000 in
theorem se_X_same : Cond.selects y_X_same.cls y_X_same y_X_same ∈ zTb := zTb_of (tm3 (List.mem_of_getElem? (i := 177) rfl)) rfl
set_option maxRecDepth 20000 in
theorem cd_X_digits : Cond.code y_X_digits b_X_digits 3 (some .int) ∈ zTb := zTb_of (tm3 (List.mem_of_getElem? (i := 183) rfl)) rfl
set_option maxRecDepth 20000 in
theorem im_X_digits : Cond.instanceMethod y_X_digits ∈ zTb := zTb_of (tm3 (List.mem_of_getElem? (i := 181) rfl)) rfl
set_option maxRecDepth 20000 in
theorem se_X_digits : Cond.selects y_X_digits.cls y_X_digits y_X_digits ∈ zTb := zTb_of (tm3 (List.mem_of_getElem? (i := 182) rfl)) rfl
set_option maxRecDepth 20000 in
theorem cd_X_hasNumber : Cond.code y_X_hasNumber b_X_hasNumber 3 (some .boolean) ∈ zTb := zTb_of (tm3 (List.mem_of_getElem? (i := 187) rfl)) rfl
set_option maxRecDepth 20000 in
theorem im_X_hasNumber : Cond.instanceMethod y_X_hasNumber ∈ zTb := zTb_of (tm3 (List.mem_of_getElem? (i := 186) rfl)) rfl
set_option maxRecDepth 20000 in
theorem se_X_hasNumber : Cond.selects y_X_hasNumber.cls y_X_hasNumber y_X_hasNumber ∈ zTb := zTb_sel (q := (y_X_hasNumber, 7)) (List.mem_append_right _ (List.mem_append_left _ (List.mem_of_getElem? (i := 7) rfl))) rfl
set_option maxRecDepth 20000 in
theorem cd_P_number : Cond.code y_P_number b_P_number 2 (some (.object "ChordPoints$Num")) ∈ zTb := zTb_of (tm3 (List.mem_of_getElem? (i := 191) rfl)) rfl
set_option maxRecDepth 20000 in
theorem im_P_number : Cond.instanceMethod y_P_number ∈ zTb := zTb_of (tm3 (List.mem_of_getElem? (i := 189) rfl)) rfl
set_option maxRecDepth 20000 in
theorem se_P_number : Cond.selects y_P_number.cls y_P_number y_P_number ∈ zTb := zTb_of (tm3 (List.mem_of_getElem? (i := 190) rfl)) rfl
set_option maxRecDepth 20000 in
theorem cd_X_digitAt : Cond.code y_X_digitAt b_X_digitAt 6 (some .int) ∈ zTb := zTb_of (tm3 (List.mem_of_getElem? (i := 196) rfl)) rfl
set_option maxRecDepth 20000 in
theorem im_X_digitAt : Cond.instanceMethod y_X_digitAt ∈ zTb := zTb_of (tm3 (List.mem_of_getElem? (i := 194) rfl)) rfl
set_option maxRecDepth 20000 in
theorem se_X_digitAt : Cond.selects y_X_digitAt.cls y_X_digitAt y_X_digitAt ∈ zTb := zTb_of (tm3 (List.mem_of_getElem? (i := 195) rfl)) rfl
set_option maxRecDepth 20000 in
theorem cd_N_digitAbove : Cond.code y_N_digitAbove b_N_digitAbove 2 (some .int) ∈ zTb := zTb_of (tm3 (List.mem_of_getElem? (i := 200) rfl)) rfl
set_option maxRecDepth 20000 in
theorem im_N_digitAbove : Cond.instanceMethod y_N_digitAbove ∈ zTb := zTb_of (tm3 (List.mem_of_getElem? (i := 198) rfl)) rfl
set_option maxRecDepth 20000 in
theorem se_N_digitAbove : Cond.selects y_N_digitAbove.cls y_N_digitAbove y_N_digitAbove ∈ zTb := zTb_of (tm3 (List.mem_of_getElem? (i := 199) rfl)) rfl
set_option maxRecDepth 20000 in
theorem cd_X_sign : Cond.code y_X_sign b_X_sign 4 (some .int) ∈ zTb := zTb_of (tm3 (List.mem_of_getElem? (i := 204) rfl)) rfl
set_option maxRecDepth 20000 in
theorem im_X_sign : Cond.instanceMethod y_X_sign ∈ zTb := zTb_of (tm3 (List.mem_of_getElem? (i := 202) rfl)) rfl
set_option maxRecDepth 20000 in
theorem se_X_sign : Cond.selects y_X_sign.cls y_X_sign y_X_sign ∈ zTb := zTb_of (tm3 (List.mem_of_getElem? (i := 203) rfl)) rfl
set_option maxRecDepth 20000 in
theorem cd_M_init : Cond.code y_M_init b_M_init 1 none ∈ zTb := zTb_of (tm3 (List.mem_of_getElem? (i := 210) rfl)) rfl
set_option maxRecDepth 20000 in
theorem im_M_init : Cond.instanceMethod y_M_init ∈ zTb := zTb_of (tm3 (List.mem_of_getElem? (i := 209) rfl)) rfl
set_option maxRecDepth 20000 in
theorem cd_M_forget : Cond.code y_M_forget b_M_forget 2 none ∈ zTb := zTb_of (tm3 (List.mem_of_getElem? (i := 215) rfl)) rfl
set_option maxRecDepth 20000 in
theorem im_M_forget : Cond.instanceMethod y_M_forget ∈ zTb := zTb_of (tm3 (List.mem_of_getElem? (i := 214) rfl)) rfl
set_option maxRecDepth 20000 in
theorem se_M_forget : Cond.selects y_M_forget.cls y_M_forget y_M_forget ∈ zTb := zTb_sel (q := (y_M_forget, 5)) (List.mem_append_right _ (List.mem_append_left _ (List.mem_of_getElem? (i := 8) rfl))) rfl
set_option maxRecDepth 20000 in
theorem cd_M_set : Cond.code y_M_set b_M_set 6 none ∈ zTb := zTb_of (tm3 (List.mem_of_getElem? (i := 219) rfl)) rfl
set_option maxRecDepth 20000 in
theorem im_M_set : Cond.instanceMethod y_M_set ∈ zTb := zTb_of (tm3 (List.mem_of_getElem? (i := 218) rfl)) rfl
set_option maxRecDepth 20000 in
theorem se_M_set : Cond.selects y_M_set.cls y_M_set y_M_set ∈ zTb := zTb_sel (q := (y_M_set, 5)) (List.mem_append_right _ (List.mem_append_left _ (List.mem_of_getElem? (i := 9) rfl))) rfl
set_option maxRecDepth 20000 in
theorem cd_M_curve : Cond.code y_M_curve b_M_curve 14 (some .int) ∈ zTb := zTb_of (tm4 (List.mem_of_getElem? (i := 1) rfl)) rfl
set_option maxRecDepth 20000 in
theorem im_M_curve : Cond.instanceMethod y_M_curve ∈ zTb := zTb_of (tm3 (List.mem_of_getElem? (i := 239) rfl)) rfl
set_option maxRecDepth 20000 in
theorem se_M_curve : Cond.selects y_M_curve.cls y_M_curve y_M_curve ∈ zTb := zTb_of (tm4 (List.mem_of_getElem? (i := 0) rfl)) rfl
set_option maxRecDepth 20000 in
theorem cd_M_isIn : Cond.code y_M_isIn b_M_isIn 1 (some .boolean) ∈ zTb := zTb_of (tm4 (List.mem_of_getElem? (i := 4) rfl)) rfl
set_option maxRecDepth 20000 in
theorem sm_M_isIn : Cond.static y_M_isIn ∈ zTb := zTb_of (tm4 (List.mem_of_getElem? (i := 3) rfl)) rfl
set_option maxRecDepth 20000 in
theorem cd_M_product : Cond.code y_M_product b_M_product 10 none ∈ zTb := zTb_of (tm4 (List.mem_of_getElem? (i := 13) rfl)) rfl
set_option maxRecDepth 20000 in
theorem im_M_product : Cond.instanceMethod y_M_product ∈ zTb := zTb_of (tm4 (List.mem_of_getElem? (i := 12) rfl)) rfl
set_option maxRecDepth 20000 in
theorem se_M_product : Cond.selects y_M_product.cls y_M_product y_M_product ∈ zTb := zTb_sel (q := (y_M_product, 5)) (List.mem_append_right _ (List.mem_append_left _ (List.mem_of_getElem? (i := 10) rfl))) rfl
set_option maxRecDepth 20000 in
theorem cd_M_multiply : Cond.code y_M_multiply b_M_multiply 13 none ∈ zTb := zTb_of (tm4 (List.mem_of_getElem? (i := 17) rfl)) rfl
set_option maxRecDepth 20000 in
theorem im_M_multiply : Cond.instanceMethod y_M_multiply ∈ zTb := zTb_of (tm4 (List.mem_of_getElem? (i := 16) rfl)) rfl
set_option maxRecDepth 20000 in
theorem se_M_multiply : Cond.selects y_M_multiply.cls y_M_multiply y_M_multiply ∈ zTb := zTb_sel (q := (y_M_multiply, 5)) (List.mem_append_right _ (List.mem_append_left _ (List.mem_of_getElem? (i := 11) rfl))) rfl
set_option maxRecDepth 20000 in
theorem cd_M_trim : Cond.code y_M_trim b_M_trim 4 none ∈ zTb := zTb_of (tm4 (List.mem_of_getElem? (i := 21) rfl)) rfl
set_option maxRecDepth 20000 in
theorem im_M_trim : Cond.instanceMethod y_M_trim ∈ zTb := zTb_of (tm4 (List.mem_of_getElem? (i := 20) rfl)) rfl
set_option maxRecDepth 20000 in
theorem se_M_trim : Cond.selects y_M_trim.cls y_M_trim y_M_trim ∈ zTb := zTb_sel (q := (y_M_trim, 5)) (List.mem_append_right _ (List.mem_append_left _ (List.mem_of_getElem? (i := 12) rfl))) rfl
set_option maxRecDepth 20000 in
theorem cd_M_add : Cond.code y_M_add b_M_add 7 none ∈ zTb := zTb_of (tm4 (List.mem_of_getElem? (i := 25) rfl)) rfl
set_option maxRecDepth 20000 in
theorem im_M_add : Cond.instanceMethod y_M_add ∈ zTb := zTb_of (tm4 (List.mem_of_getElem? (i := 24) rfl)) rfl
set_option maxRecDepth 20000 in
theorem se_M_add : Cond.selects y_M_add.cls y_M_add y_M_add ∈ zTb := zTb_sel (q := (y_M_add, 5)) (List.mem_append_right _ (List.mem_append_left _ (List.mem_of_getElem? (i := 13) rfl))) rfl
set_option maxRecDepth 20000 in
theorem cd_M_copy : Cond.code y_M_copy b_M_copy 4 none ∈ zTb := zTb_of (tm4 (List.mem_of_getElem? (i := 29) rfl)) rfl
set_option maxRecDepth 20000 in
theorem im_M_copy : Cond.instanceMethod y_M_copy ∈ zTb := zTb_of (tm4 (List.mem_of_getElem? (i := 28) rfl)) rfl
set_option maxRecDepth 20000 in
theorem se_M_copy : Cond.selects y_M_copy.cls y_M_copy y_M_copy ∈ zTb := zTb_sel (q := (y_M_copy, 5)) (List.mem_append_right _ (List.mem_append_left _ (List.mem_of_getElem? (i := 14) rfl))) rfl
set_option maxRecDepth 20000 in
theorem cd_M_addSizes : Cond.code y_M_addSizes b_M_addSizes 10 none ∈ zTb := zTb_of (tm4 (List.mem_of_getElem? (i := 33) rfl)) rfl
set_option maxRecDepth 20000 in
theorem im_M_addSizes : Cond.instanceMethod y_M_addSizes ∈ zTb := zTb_of (tm4 (List.mem_of_getElem? (i := 32) rfl)) rfl
set_option maxRecDepth 20000 in
theorem se_M_addSizes : Cond.selects y_M_addSizes.cls y_M_addSizes y_M_addSizes ∈ zTb := zTb_sel (q := (y_M_addSizes, 5)) (List.mem_append_right _ (List.mem_append_left _ (List.mem_of_getElem? (i := 15) rfl))) rfl
set_option maxRecDepth 20000 in
theorem cd_M_compare : Cond.code y_M_compare b_M_compare 4 (some .int) ∈ zTb := zTb_of (tm4 (List.mem_of_getElem? (i := 38) rfl)) rfl
set_option maxRecDepth 20000 in
theorem im_M_compare : Cond.instanceMethod y_M_compare ∈ zTb := zTb_of (tm4 (List.mem_of_getElem? (i := 37) rfl)) rfl
set_option maxRecDepth 20000 in
theorem se_M_compare : Cond.selects y_M_compare.cls y_M_compare y_M_compare ∈ zTb := zTb_sel (q := (y_M_compare, 5)) (List.mem_append_right _ (List.mem_append_right _ (List.mem_append_left _ (List.mem_of_getElem? (i := 0) rfl)))) rfl
set_option maxRecDepth 20000 in
theorem cd_M_takeSizes : Cond.code y_M_takeSizes b_M_takeSizes 10 none ∈ zTb := zTb_of (tm4 (List.mem_of_getElem? (i := 42) rfl)) rfl
set_option maxRecDepth 20000 in
theorem im_M_takeSizes : Cond.instanceMethod y_M_takeSizes ∈ zTb := zTb_of (tm4 (List.mem_of_getElem? (i := 41) rfl)) rfl
set_option maxRecDepth 20000 in
theorem se_M_takeSizes : Cond.selects y_M_takeSizes.cls y_M_takeSizes y_M_takeSizes ∈ zTb := zTb_sel (q := (y_M_takeSizes, 5)) (List.mem_append_right _ (List.mem_append_right _ (List.mem_append_left _ (List.mem_of_getElem? (i := 1) rfl)))) rfl
set_option maxRecDepth 20000 in
theorem cd_M_none : Cond.code y_M_none b_M_none 2 (some .boolean) ∈ zTb := zTb_of (tm4 (List.mem_of_getElem? (i := 48) rfl)) rfl
set_option maxRecDepth 20000 in
theorem im_M_none : Cond.instanceMethod y_M_none ∈ zTb := zTb_of (tm4 (List.mem_of_getElem? (i := 46) rfl)) rfl
set_option maxRecDepth 20000 in
theorem se_M_none : Cond.selects y_M_none.cls y_M_none y_M_none ∈ zTb := zTb_of (tm4 (List.mem_of_getElem? (i := 47) rfl)) rfl
set_option maxRecDepth 20000 in
theorem cd_M_isSlot : Cond.code y_M_isSlot b_M_isSlot 1 (some .boolean) ∈ zTb := zTb_of (tm4 (List.mem_of_getElem? (i := 51) rfl)) rfl
set_option maxRecDepth 20000 in
theorem sm_M_isSlot : Cond.static y_M_isSlot ∈ zTb := zTb_of (tm4 (List.mem_of_getElem? (i := 50) rfl)) rfl
set_option maxRecDepth 20000 in
theorem cd_M_point : Cond.code y_M_point b_M_point 10 (some .int) ∈ zTb := zTb_of (tm4 (List.mem_of_getElem? (i := 55) rfl)) rfl
set_option maxRecDepth 20000 in
theorem im_M_point : Cond.instanceMethod y_M_point ∈ zTb := zTb_of (tm4 (List.mem_of_getElem? (i := 53) rfl)) rfl
set_option maxRecDepth 20000 in
theorem se_M_point : Cond.selects y_M_point.cls y_M_point y_M_point ∈ zTb := zTb_of (tm4 (List.mem_of_getElem? (i := 54) rfl)) rfl
set_option maxRecDepth 20000 in
theorem cd_M_fraction : Cond.code y_M_fraction b_M_fraction 7 none ∈ zTb := zTb_of (tm4 (List.mem_of_getElem? (i := 59) rfl)) rfl
set_option maxRecDepth 20000 in
theorem im_M_fraction : Cond.instanceMethod y_M_fraction ∈ zTb := zTb_of (tm4 (List.mem_of_getElem? (i := 58) rfl)) rfl
set_option maxRecDepth 20000 in
theorem se_M_fraction : Cond.selects y_M_fraction.cls y_M_fraction y_M_fraction ∈ zTb := zTb_sel (q := (y_M_fraction, 5)) (List.mem_append_right _ (List.mem_append_right _ (List.mem_append_left _ (List.mem_of_getElem? (i := 2) rfl)))) rfl
set_option maxRecDepth 20000 in
theorem cd_M_common : Cond.code y_M_common b_M_common 4 none ∈ zTb := zTb_of (tm4 (List.mem_of_getElem? (i := 63) rfl)) rfl
set_option maxRecDepth 20000 in
theorem im_M_common : Cond.instanceMethod y_M_common ∈ zTb := zTb_of (tm4 (List.mem_of_getElem? (i := 62) rfl)) rfl
set_option maxRecDepth 20000 in
theorem se_M_common : Cond.selects y_M_common.cls y_M_common y_M_common ∈ zTb := zTb_sel (q := (y_M_common, 5)) (List.mem_append_right _ (List.mem_append_right _ (List.mem_append_left _ (List.mem_of_getElem? (i := 3) rfl)))) rfl
set_option maxRecDepth 20000 in
theorem cd_M_divide : Cond.code y_M_divide b_M_divide 10 none ∈ zTb := zTb_of (tm4 (List.mem_of_getElem? (i := 67) rfl)) rfl
set_option maxRecDepth 20000 in
theorem im_M_divide : Cond.instanceMethod y_M_divide ∈ zTb := zTb_of (tm4 (List.mem_of_getElem? (i := 66) rfl)) rfl
set_option maxRecDepth 20000 in
theorem se_M_divide : Cond.selects y_M_divide.cls y_M_divide y_M_divide ∈ zTb := zTb_sel (q := (y_M_divide, 5)) (List.mem_append_right _ (List.mem_append_right _ (List.mem_append_left _ (List.mem_of_getElem? (i := 4) rfl)))) rfl
set_option maxRecDepth 20000 in
theorem cd_M_timesSmall : Cond.code y_M_timesSmall b_M_timesSmall 9 none ∈ zTb := zTb_of (tm4 (List.mem_of_getElem? (i := 71) rfl)) rfl
set_option maxRecDepth 20000 in
theorem im_M_timesSmall : Cond.instanceMethod y_M_timesSmall ∈ zTb := zTb_of (tm4 (List.mem_of_getElem? (i := 70) rfl)) rfl
set_option maxRecDepth 20000 in
theorem se_M_timesSmall : Cond.selects y_M_timesSmall.cls y_M_timesSmall y_M_timesSmall ∈ zTb := zTb_sel (q := (y_M_timesSmall, 5)) (List.mem_append_right _ (List.mem_append_right _ (List.mem_append_left _ (List.mem_of_getElem? (i := 5) rfl)))) rfl
set_option maxRecDepth 20000 in
theorem cd_M_place : Cond.code y_M_place b_M_place 26 (some .int) ∈ zTb := zTb_of (tm4 (List.mem_of_getElem? (i := 75) rfl)) rfl
set_option maxRecDepth 20000 in
theorem im_M_place : Cond.instanceMethod y_M_place ∈ zTb := zTb_of (tm4 (List.mem_of_getElem? (i := 74) rfl)) rfl
set_option maxRecDepth 20000 in
theorem se_M_place : Cond.selects y_M_place.cls y_M_place y_M_place ∈ zTb := zTb_sel (q := (y_M_place, 5)) (List.mem_append_right _ (List.mem_append_right _ (List.mem_append_left _ (List.mem_of_getElem? (i := 6) rfl)))) rfl
set_option maxRecDepth 20000 in
theorem cd_M_bySmall : Cond.code y_M_bySmall b_M_bySmall 8 none ∈ zTb := zTb_of (tm4 (List.mem_of_getElem? (i := 79) rfl)) rfl
set_option maxRecDepth 20000 in
theorem im_M_bySmall : Cond.instanceMethod y_M_bySmall ∈ zTb := zTb_of (tm4 (List.mem_of_getElem? (i := 78) rfl)) rfl
set_option maxRecDepth 20000 in
theorem se_M_bySmall : Cond.selects y_M_bySmall.cls y_M_bySmall y_M_bySmall ∈ zTb := zTb_sel (q := (y_M_bySmall, 5)) (List.mem_append_right _ (List.mem_append_right _ (List.mem_append_left _ (List.mem_of_getElem? (i := 7) rfl)))) rfl
set_option maxRecDepth 20000 in
theorem cd_M_share : Cond.code y_M_share b_M_share 5 none ∈ zTb := zTb_of (tm4 (List.mem_of_getElem? (i := 83) rfl)) rfl
set_option maxRecDepth 20000 in
theorem im_M_share : Cond.instanceMethod y_M_share ∈ zTb := zTb_of (tm4 (List.mem_of_getElem? (i := 82) rfl)) rfl
set_option maxRecDepth 20000 in
theorem se_M_share : Cond.selects y_M_share.cls y_M_share y_M_share ∈ zTb := zTb_sel (q := (y_M_share, 5)) (List.mem_append_right _ (List.mem_append_right _ (List.mem_append_left _ (List.mem_of_getElem? (i := 8) rfl)))) rfl
set_option maxRecDepth 20000 in
theorem cd_M_more : Cond.code y_M_more b_M_more 5 none ∈ zTb := zTb_of (tm4 (List.mem_of_getElem? (i := 87) rfl)) rfl
set_option maxRecDepth 20000 in
theorem im_M_more : Cond.instanceMethod y_M_more ∈ zTb := zTb_of (tm4 (List.mem_of_getElem? (i := 86) rfl)) rfl
set_option maxRecDepth 20000 in
theorem se_M_more : Cond.selects y_M_more.cls y_M_more y_M_more ∈ zTb := zTb_sel (q := (y_M_more, 5)) (List.mem_append_right _ (List.mem_append_right _ (List.mem_append_left _ (List.mem_of_getElem? (i := 9) rfl)))) rfl
set_option maxRecDepth 20000 in
theorem cd_M_isSame : Cond.code y_M_isSame b_M_isSame 3 (some .boolean) ∈ zTb := zTb_of (tm4 (List.mem_of_getElem? (i := 91) rfl)) rfl
set_option maxRecDepth 20000 in
theorem im_M_isSame : Cond.instanceMethod y_M_isSame ∈ zTb := zTb_of (tm4 (List.mem_of_getElem? (i := 90) rfl)) rfl
set_option maxRecDepth 20000 in
theorem se_M_isSame : Cond.selects y_M_isSame.cls y_M_isSame y_M_isSame ∈ zTb := zTb_sel (q := (y_M_isSame, 5)) (List.mem_append_right _ (List.mem_append_right _ (List.mem_append_left _ (List.mem_of_getElem? (i := 10) rfl)))) rfl
set_option maxRecDepth 20000 in
theorem cd_M_move : Cond.code y_M_move b_M_move 4 none ∈ zTb := zTb_of (tm4 (List.mem_of_getElem? (i := 95) rfl)) rfl
set_option maxRecDepth 20000 in
theorem im_M_move : Cond.instanceMethod y_M_move ∈ zTb := zTb_of (tm4 (List.mem_of_getElem? (i := 94) rfl)) rfl
set_option maxRecDepth 20000 in
theorem se_M_move : Cond.selects y_M_move.cls y_M_move y_M_move ∈ zTb := zTb_sel (q := (y_M_move, 5)) (List.mem_append_right _ (List.mem_append_right _ (List.mem_append_left _ (List.mem_of_getElem? (i := 11) rfl)))) rfl
set_option maxRecDepth 20000 in
theorem cd_M_sum : Cond.code y_M_sum b_M_sum 4 (some .int) ∈ zTb := zTb_of (tm4 (List.mem_of_getElem? (i := 99) rfl)) rfl
set_option maxRecDepth 20000 in
theorem im_M_sum : Cond.instanceMethod y_M_sum ∈ zTb := zTb_of (tm4 (List.mem_of_getElem? (i := 97) rfl)) rfl
set_option maxRecDepth 20000 in
theorem se_M_sum : Cond.selects y_M_sum.cls y_M_sum y_M_sum ∈ zTb := zTb_of (tm4 (List.mem_of_getElem? (i := 98) rfl)) rfl
set_option maxRecDepth 20000 in
theorem cd_M_join : Cond.code y_M_join b_M_join 1 none ∈ zTb := zTb_of (tm4 (List.mem_of_getElem? (i := 103) rfl)) rfl
set_option maxRecDepth 20000 in
theorem im_M_join : Cond.instanceMethod y_M_join ∈ zTb := zTb_of (tm4 (List.mem_of_getElem? (i := 102) rfl)) rfl
set_option maxRecDepth 20000 in
theorem se_M_join : Cond.selects y_M_join.cls y_M_join y_M_join ∈ zTb := zTb_sel (q := (y_M_join, 5)) (List.mem_append_right _ (List.mem_append_right _ (List.mem_append_left _ (List.mem_of_getElem? (i := 12) rfl)))) rfl
set_option maxRecDepth 20000 in
theorem cd_M_isOther : Cond.code y_M_isOther b_M_isOther 1 (some .boolean) ∈ zTb := zTb_of (tm4 (List.mem_of_getElem? (i := 107) rfl)) rfl
set_option maxRecDepth 20000 in
theorem im_M_isOther : Cond.instanceMethod y_M_isOther ∈ zTb := zTb_of (tm4 (List.mem_of_getElem? (i := 106) rfl)) rfl
set_option maxRecDepth 20000 in
theorem se_M_isOther : Cond.selects y_M_isOther.cls y_M_isOther y_M_isOther ∈ zTb := zTb_sel (q := (y_M_isOther, 5)) (List.mem_append_right _ (List.mem_append_right _ (List.mem_append_left _ (List.mem_of_getElem? (i := 13) rfl)))) rfl
set_option maxRecDepth 20000 in
theorem cd_M_touch : Cond.code y_M_touch b_M_touch 1 none ∈ zTb := zTb_of (tm4 (List.mem_of_getElem? (i := 111) rfl)) rfl
set_option maxRecDepth 20000 in
theorem im_M_touch : Cond.instanceMethod y_M_touch ∈ zTb := zTb_of (tm4 (List.mem_of_getElem? (i := 110) rfl)) rfl
set_option maxRecDepth 20000 in
theorem se_M_touch : Cond.selects y_M_touch.cls y_M_touch y_M_touch ∈ zTb := zTb_sel (q := (y_M_touch, 5)) (List.mem_append_right _ (List.mem_append_right _ (List.mem_append_left _ (List.mem_of_getElem? (i := 14) rfl)))) rfl
set_option maxRecDepth 20000 in
theorem cd_M_finish : Cond.code y_M_finish b_M_finish 1 none ∈ zTb := zTb_of (tm4 (List.mem_of_getElem? (i := 116) rfl)) rfl
set_option maxRecDepth 20000 in
theorem im_M_finish : Cond.instanceMethod y_M_finish ∈ zTb := zTb_of (tm4 (List.mem_of_getElem? (i := 115) rfl)) rfl
set_option maxRecDepth 20000 in
theorem se_M_finish : Cond.selects y_M_finish.cls y_M_finish y_M_finish ∈ zTb := zTb_sel (q := (y_M_finish, 5)) (List.mem_append_right _ (List.mem_append_right _ (List.mem_append_left _ (List.mem_of_getElem? (i := 15) rfl)))) rfl
set_option maxRecDepth 20000 in
theorem cd_M_settle : Cond.code y_M_settle b_M_settle 2 (some .int) ∈ zTb := zTb_of (tm4 (List.mem_of_getElem? (i := 120) rfl)) rfl
set_option maxRecDepth 20000 in
theorem im_M_settle : Cond.instanceMethod y_M_settle ∈ zTb := zTb_of (tm4 (List.mem_of_getElem? (i := 119) rfl)) rfl
set_option maxRecDepth 20000 in
theorem se_M_settle : Cond.selects y_M_settle.cls y_M_settle y_M_settle ∈ zTb := zTb_sel (q := (y_M_settle, 5)) (List.mem_append_right _ (List.mem_append_right _ (List.mem_append_right _ (List.mem_of_getElem? (i := 0) rfl)))) rfl
set_option maxRecDepth 20000 in
theorem cd_M_isTooLong : Cond.code y_M_isTooLong b_M_isTooLong 2 (some .boolean) ∈ zTb := zTb_of (tm4 (List.mem_of_getElem? (i := 124) rfl)) rfl
set_option maxRecDepth 20000 in
theorem im_M_isTooLong : Cond.instanceMethod y_M_isTooLong ∈ zTb := zTb_of (tm4 (List.mem_of_getElem? (i := 123) rfl)) rfl
set_option maxRecDepth 20000 in
theorem se_M_isTooLong : Cond.selects y_M_isTooLong.cls y_M_isTooLong y_M_isTooLong ∈ zTb := zTb_sel (q := (y_M_isTooLong, 5)) (List.mem_append_right _ (List.mem_append_right _ (List.mem_append_right _ (List.mem_of_getElem? (i := 1) rfl)))) rfl
set_option maxRecDepth 20000 in
theorem cd_M_digitsOf : Cond.code y_M_digitsOf b_M_digitsOf 4 (some .int) ∈ zTb := zTb_of (tm4 (List.mem_of_getElem? (i := 128) rfl)) rfl
set_option maxRecDepth 20000 in
theorem im_M_digitsOf : Cond.instanceMethod y_M_digitsOf ∈ zTb := zTb_of (tm4 (List.mem_of_getElem? (i := 127) rfl)) rfl
set_option maxRecDepth 20000 in
theorem se_M_digitsOf : Cond.selects y_M_digitsOf.cls y_M_digitsOf y_M_digitsOf ∈ zTb := zTb_sel (q := (y_M_digitsOf, 5)) (List.mem_append_right _ (List.mem_append_right _ (List.mem_append_right _ (List.mem_of_getElem? (i := 2) rfl)))) rfl
set_option maxRecDepth 20000 in
theorem cd_M_less : Cond.code y_M_less b_M_less 4 (some .int) ∈ zTb := zTb_of (tm4 (List.mem_of_getElem? (i := 132) rfl)) rfl
set_option maxRecDepth 20000 in
theorem im_M_less : Cond.instanceMethod y_M_less ∈ zTb := zTb_of (tm4 (List.mem_of_getElem? (i := 130) rfl)) rfl
set_option maxRecDepth 20000 in
theorem se_M_less : Cond.selects y_M_less.cls y_M_less y_M_less ∈ zTb := zTb_of (tm4 (List.mem_of_getElem? (i := 131) rfl)) rfl
set_option maxRecDepth 20000 in
theorem cd_M_turn : Cond.code y_M_turn b_M_turn 2 none ∈ zTb := zTb_of (tm4 (List.mem_of_getElem? (i := 136) rfl)) rfl
set_option maxRecDepth 20000 in
theorem im_M_turn : Cond.instanceMethod y_M_turn ∈ zTb := zTb_of (tm4 (List.mem_of_getElem? (i := 135) rfl)) rfl
set_option maxRecDepth 20000 in
theorem se_M_turn : Cond.selects y_M_turn.cls y_M_turn y_M_turn ∈ zTb := zTb_sel (q := (y_M_turn, 5)) (List.mem_append_right _ (List.mem_append_right _ (List.mem_append_right _ (List.mem_of_getElem? (i := 3) rfl)))) rfl
set_option maxRecDepth 20000 in
theorem cd_M_times : Cond.code y_M_times b_M_times 6 (some .int) ∈ zTb := zTb_of (tm4 (List.mem_of_getElem? (i := 140) rfl)) rfl
set_option maxRecDepth 20000 in
theorem im_M_times : Cond.instanceMethod y_M_times ∈ zTb := zTb_of (tm4 (List.mem_of_getElem? (i := 138) rfl)) rfl
set_option maxRecDepth 20000 in
theorem se_M_times : Cond.selects y_M_times.cls y_M_times y_M_times ∈ zTb := zTb_of (tm4 (List.mem_of_getElem? (i := 139) rfl)) rfl
set_option maxRecDepth 20000 in
theorem cd_M_isFar : Cond.code y_M_isFar b_M_isFar 1 (some .boolean) ∈ zTb := zTb_of (tm4 (List.mem_of_getElem? (i := 147) rfl)) rfl
set_option maxRecDepth 20000 in
theorem im_M_isFar : Cond.instanceMethod y_M_isFar ∈ zTb := zTb_of (tm4 (List.mem_of_getElem? (i := 146) rfl)) rfl
set_option maxRecDepth 20000 in
theorem se_M_isFar : Cond.selects y_M_isFar.cls y_M_isFar y_M_isFar ∈ zTb := zTb_sel (q := (y_M_isFar, 5)) (List.mem_append_right _ (List.mem_append_right _ (List.mem_append_right _ (List.mem_of_getElem? (i := 4) rfl)))) rfl
set_option maxRecDepth 20000 in
theorem cd_M_order : Cond.code y_M_order b_M_order 3 (some .int) ∈ zTb := zTb_of (tm4 (List.mem_of_getElem? (i := 151) rfl)) rfl
set_option maxRecDepth 20000 in
theorem im_M_order : Cond.instanceMethod y_M_order ∈ zTb := zTb_of (tm4 (List.mem_of_getElem? (i := 149) rfl)) rfl
set_option maxRecDepth 20000 in
theorem se_M_order : Cond.selects y_M_order.cls y_M_order y_M_order ∈ zTb := zTb_of (tm4 (List.mem_of_getElem? (i := 150) rfl)) rfl
set_option maxRecDepth 20000 in
theorem cd_M_isNone : Cond.code y_M_isNone b_M_isNone 2 (some .boolean) ∈ zTb := zTb_of (tm4 (List.mem_of_getElem? (i := 155) rfl)) rfl
set_option maxRecDepth 20000 in
theorem im_M_isNone : Cond.instanceMethod y_M_isNone ∈ zTb := zTb_of (tm4 (List.mem_of_getElem? (i := 153) rfl)) rfl
set_option maxRecDepth 20000 in
theorem se_M_isNone : Cond.selects y_M_isNone.cls y_M_isNone y_M_isNone ∈ zTb := zTb_of (tm4 (List.mem_of_getElem? (i := 154) rfl)) rfl
set_option maxRecDepth 20000 in
theorem cd_M_same : Cond.code y_M_same b_M_same 3 (some .boolean) ∈ zTb := zTb_of (tm4 (List.mem_of_getElem? (i := 159) rfl)) rfl
set_option maxRecDepth 20000 in
theorem im_M_same : Cond.instanceMethod y_M_same ∈ zTb := zTb_of (tm4 (List.mem_of_getElem? (i := 157) rfl)) rfl
set_option maxRecDepth 20000 in
theorem se_M_same : Cond.selects y_M_same.cls y_M_same y_M_same ∈ zTb := zTb_of (tm4 (List.mem_of_getElem? (i := 158) rfl)) rfl
set_option maxRecDepth 20000 in
theorem cd_M_digits : Cond.code y_M_digits b_M_digits 3 (some .int) ∈ zTb := zTb_of (tm4 (List.mem_of_getElem? (i := 163) rfl)) rfl
set_option maxRecDepth 20000 in
theorem im_M_digits : Cond.instanceMethod y_M_digits ∈ zTb := zTb_of (tm4 (List.mem_of_getElem? (i := 161) rfl)) rfl
set_option maxRecDepth 20000 in
theorem se_M_digits : Cond.selects y_M_digits.cls y_M_digits y_M_digits ∈ zTb := zTb_of (tm4 (List.mem_of_getElem? (i := 162) rfl)) rfl
set_option maxRecDepth 20000 in
theorem cd_M_take : Cond.code y_M_take b_M_take 4 (some .boolean) ∈ zTb := zTb_of (tm4 (List.mem_of_getElem? (i := 167) rfl)) rfl
set_option maxRecDepth 20000 in
theorem im_M_take : Cond.instanceMethod y_M_take ∈ zTb := zTb_of (tm4 (List.mem_of_getElem? (i := 166) rfl)) rfl
set_option maxRecDepth 20000 in
theorem se_M_take : Cond.selects y_M_take.cls y_M_take y_M_take ∈ zTb := zTb_sel (q := (y_M_take, 5)) (List.mem_append_right _ (List.mem_append_right _ (List.mem_append_right _ (List.mem_of_getElem? (i := 5) rfl)))) rfl
set_option maxRecDepth 20000 in
theorem cd_M_digitAt : Cond.code y_M_digitAt b_M_digitAt 8 (some .int) ∈ zTb := zTb_of (tm4 (List.mem_of_getElem? (i := 171) rfl)) rfl
set_option maxRecDepth 20000 in
theorem im_M_digitAt : Cond.instanceMethod y_M_digitAt ∈ zTb := zTb_of (tm4 (List.mem_of_getElem? (i := 169) rfl)) rfl
set_option maxRecDepth 20000 in
theorem se_M_digitAt : Cond.selects y_M_digitAt.cls y_M_digitAt y_M_digitAt ∈ zTb := zTb_of (tm4 (List.mem_of_getElem? (i := 170) rfl)) rfl
set_option maxRecDepth 20000 in
theorem cd_M_sign : Cond.code y_M_sign b_M_sign 3 (some .int) ∈ zTb := zTb_of (tm4 (List.mem_of_getElem? (i := 175) rfl)) rfl
set_option maxRecDepth 20000 in
theorem im_M_sign : Cond.instanceMethod y_M_sign ∈ zTb := zTb_of (tm4 (List.mem_of_getElem? (i := 173) rfl)) rfl
set_option maxRecDepth 20000 in
theorem se_M_sign : Cond.selects y_M_sign.cls y_M_sign y_M_sign ∈ zTb := zTb_of (tm4 (List.mem_of_getElem? (i := 174) rfl)) rfl
set_option maxRecDepth 20000 in
theorem ca_L_9 : zCa R_law 9 y_X_init b_X_init 4 none 0 := ⟨⟨cd_X_init, ini_X, by decide +kernel, by decide +kernel, by decide +kernel⟩, Or.inl (zTb_of (tm1 (List.mem_of_getElem? (i := 14) rfl)) rfl)⟩
set_option maxRecDepth 20000 in
theorem ca_X_9 : zCa R_X 9 y_R_init b_R_init 1 none 0 := ⟨⟨cd_R_init, ini_R, by decide +kernel, by decide +kernel, by decide +kernel⟩, Or.inr ⟨_, zN_of (tm1 (List.mem_of_getElem? (i := 22) rfl)) rfl⟩⟩
set_option maxRecDepth 20000 in
theorem ca_R_23 : zCa R_R 23 y_N_init b_N_init 2 none 1 := ⟨⟨cd_N_init, ini_N, by decide +kernel, by decide +kernel, by decide +kernel⟩, Or.inl (zTb_of (tm1 (List.mem_of_getElem? (i := 28) rfl)) rfl)⟩
set_option maxRecDepth 20000 in
theorem ca_X_12 : zCa R_X 12 y_D_init b_D_init 2 none 1 := ⟨⟨cd_D_init, ini_D, by decide +kernel, by decide +kernel, by decide +kernel⟩, Or.inl (zTb_of (tm1 (List.mem_of_getElem? (i := 76) rfl)) rfl)⟩
set_option maxRecDepth 20000 in
theorem ca_D_11 : zCa R_D 11 y_N_init b_N_init 2 none 1 := ⟨⟨cd_N_init, ini_N, by decide +kernel, by decide +kernel, by decide +kernel⟩, Or.inl (zTb_of (tm1 (List.mem_of_getElem? (i := 81) rfl)) rfl)⟩
set_option maxRecDepth 20000 in
theorem ca_D_38 : zCa R_D 38 y_N_become_J b_N_become_J 7 none 1 := ⟨⟨cd_N_become_J, ini_N, by decide +kernel, by decide +kernel, by decide +kernel⟩, Or.inl (zTb_of (tm1 (List.mem_of_getElem? (i := 83) rfl)) rfl)⟩
set_option maxRecDepth 20000 in
theorem ca_X_17 : zCa R_X 17 y_Q_init b_Q_init 1 none 0 := ⟨⟨cd_Q_init, ini_Q, by decide +kernel, by decide +kernel, by decide +kernel⟩, Or.inr ⟨_, zN_of (tm1 (List.mem_of_getElem? (i := 121) rfl)) rfl⟩⟩
set_option maxRecDepth 20000 in
theorem ca_Q_11 : zCa R_Q 11 y_N_init b_N_init 2 none 1 := ⟨⟨cd_N_init, ini_N, by decide +kernel, by decide +kernel, by decide +kernel⟩, Or.inl (zTb_of (tm1 (List.mem_of_getElem? (i := 126) rfl)) rfl)⟩
set_option maxRecDepth 20000 in
theorem ca_X_24 : zCa R_X 24 y_Q_become b_Q_become 11 none 5 := ⟨⟨cd_Q_become, ini_Q, by decide +kernel, by decide +kernel, by decide +kernel⟩, Or.inl (zTb_of (tm1 (List.mem_of_getElem? (i := 171) rfl)) rfl)⟩
set_option maxRecDepth 20000 in
theorem ca_Q_47 : zCa R_Q 47 y_N_become_J b_N_become_J 7 none 1 := ⟨⟨cd_N_become_J, ini_N, by decide +kernel, by decide +kernel, by decide +kernel⟩, Or.inl (zTb_of (tm1 (List.mem_of_getElem? (i := 175) rfl)) rfl)⟩
set_option maxRecDepth 20000 in
theorem ca_Q_53 : zCa R_Q 53 y_Q_b4 b_Q_b4 6 (some .long) 3 := ⟨⟨cd_Q_b4, ini_Q, by decide +kernel, by decide +kernel, by decide +kernel⟩, Or.inl (zTb_of (tm1 (List.mem_of_getElem? (i := 177) rfl)) rfl)⟩
set_option maxRecDepth 20000 in
theorem ca_Q_56 : zCa R_Q 56 y_Q_b6 b_Q_b6 4 (some .long) 2 := ⟨⟨cd_Q_b6, ini_Q, by decide +kernel, by decide +kernel, by decide +kernel⟩, Or.inl (zTb_of (tm1 (List.mem_of_getElem? (i := 180) rfl)) rfl)⟩
set_option maxRecDepth 20000 in
theorem ca_Q_60 : zCa R_Q 60 y_Q_b8 b_Q_b8 10 (some .long) 5 := ⟨⟨cd_Q_b8, ini_Q, by decide +kernel, by decide +kernel, by decide +kernel⟩, Or.inl (zTb_of (tm1 (List.mem_of_getElem? (i := 184) rfl)) rfl)⟩
set_option maxRecDepth 20000 in
theorem ca_X_30 : zCa R_X 30 y_C_init b_C_init 4 none 3 := ⟨⟨cd_C_init, ini_C, by decide +kernel, by decide +kernel, by decide +kernel⟩, Or.inl (zTb_of (tm1 (List.mem_of_getElem? (i := 189) rfl)) rfl)⟩
set_option maxRecDepth 20000 in
theorem ca_C_11 : zCa R_C 11 y_N_init b_N_init 2 none 1 := ⟨⟨cd_N_init, ini_N, by decide +kernel, by decide +kernel, by decide +kernel⟩, Or.inl (zTb_of (tm1 (List.mem_of_getElem? (i := 194) rfl)) rfl)⟩
set_option maxRecDepth 20000 in
theorem ca_X_39 : zCa R_X 39 y_E_init b_E_init 4 none 3 := ⟨⟨cd_E_init, ini_E, by decide +kernel, by decide +kernel, by decide +kernel⟩, Or.inl (zTb_of (tm1 (List.mem_of_getElem? (i := 237) rfl)) rfl)⟩
set_option maxRecDepth 20000 in
theorem ca_E_11 : zCa R_E 11 y_N_init b_N_init 2 none 1 := ⟨⟨cd_N_init, ini_N, by decide +kernel, by decide +kernel, by decide +kernel⟩, Or.inl (zTb_of (tm2 (List.mem_of_getElem? (i := 2) rfl)) rfl)⟩
set_option maxRecDepth 20000 in
theorem ca_X_46 : zCa R_X 46 y_P_init b_P_init 1 none 0 := ⟨⟨cd_P_init, ini_P, by decide +kernel, by decide +kernel, by decide +kernel⟩, Or.inr ⟨_, zN_of (tm2 (List.mem_of_getElem? (i := 36) rfl)) rfl⟩⟩
set_option maxRecDepth 20000 in
theorem ca_P_11 : zCa R_P 11 y_N_init b_N_init 2 none 1 := ⟨⟨cd_N_init, ini_N, by decide +kernel, by decide +kernel, by decide +kernel⟩, Or.inl (zTb_of (tm2 (List.mem_of_getElem? (i := 41) rfl)) rfl)⟩
set_option maxRecDepth 20000 in
theorem ca_L_13 : zCa R_law 13 y_X_curve b_X_curve 7 (some .int) 5 := ⟨⟨cd_X_curve, ini_X, by decide +kernel, by decide +kernel, by decide +kernel⟩, Or.inl (zTb_of (tm2 (List.mem_of_getElem? (i := 98) rfl)) rfl)⟩
set_option maxRecDepth 20000 in
theorem ca_X_61 : zCa R_X 61 y_X_isCoefficient b_X_isCoefficient 1 (some .boolean) 1 := ⟨⟨cd_X_isCoefficient, ini_X, by decide +kernel, by decide +kernel, by decide +kernel⟩, Or.inl (zTb_of (tm2 (List.mem_of_getElem? (i := 102) rfl)) rfl)⟩
set_option maxRecDepth 20000 in
theorem ca_X_65 : zCa R_X 65 y_E_isSingular b_E_isSingular 11 (some .boolean) 5 := ⟨⟨cd_E_isSingular, ini_E, by decide +kernel, by decide +kernel, by decide +kernel⟩, Or.inl (zTb_of (tm2 (List.mem_of_getElem? (i := 107) rfl)) rfl)⟩
set_option maxRecDepth 20000 in
theorem ca_E_131 : zCa R_E 131 y_Q_b2 b_Q_b2 4 (some .long) 2 := ⟨⟨cd_Q_b2, ini_Q, by decide +kernel, by decide +kernel, by decide +kernel⟩, Or.inl (zTb_of (tm2 (List.mem_of_getElem? (i := 111) rfl)) rfl)⟩
set_option maxRecDepth 20000 in
theorem ca_E_89 : zCa R_E 89 y_N_become_J b_N_become_J 7 none 1 := ⟨⟨cd_N_become_J, ini_N, by decide +kernel, by decide +kernel, by decide +kernel⟩, Or.inl (zTb_of (tm2 (List.mem_of_getElem? (i := 114) rfl)) rfl)⟩
set_option maxRecDepth 20000 in
theorem ca_E_135 : zCa R_E 135 y_Q_b4 b_Q_b4 6 (some .long) 3 := ⟨⟨cd_Q_b4, ini_Q, by decide +kernel, by decide +kernel, by decide +kernel⟩, Or.inl (zTb_of (tm2 (List.mem_of_getElem? (i := 115) rfl)) rfl)⟩
set_option maxRecDepth 20000 in
theorem ca_E_139 : zCa R_E 139 y_Q_b6 b_Q_b6 4 (some .long) 2 := ⟨⟨cd_Q_b6, ini_Q, by decide +kernel, by decide +kernel, by decide +kernel⟩, Or.inl (zTb_of (tm2 (List.mem_of_getElem? (i := 116) rfl)) rfl)⟩
set_option maxRecDepth 20000 in
theorem ca_E_142 : zCa R_E 142 y_Q_b8 b_Q_b8 10 (some .long) 5 := ⟨⟨cd_Q_b8, ini_Q, by decide +kernel, by decide +kernel, by decide +kernel⟩, Or.inl (zTb_of (tm2 (List.mem_of_getElem? (i := 117) rfl)) rfl)⟩
set_option maxRecDepth 20000 in
theorem ca_E_104 : zCa R_E 104 y_R_multiply b_R_multiply 15 none 3 := ⟨⟨cd_R_multiply, ini_R, by decide +kernel, by decide +kernel, by decide +kernel⟩, Or.inl (zTb_of (tm2 (List.mem_of_getElem? (i := 118) rfl)) rfl)⟩
set_option maxRecDepth 20000 in
theorem ca_R_62 : zCa R_R 62 y_R_lose b_R_lose 2 none 1 := ⟨⟨cd_R_lose, ini_R, by decide +kernel, by decide +kernel, by decide +kernel⟩, Or.inl (zTb_of (tm2 (List.mem_of_getElem? (i := 122) rfl)) rfl)⟩
set_option maxRecDepth 20000 in
theorem ca_R_75 : zCa R_R 75 y_N_becomeZero b_N_becomeZero 1 none 0 := ⟨⟨cd_N_becomeZero, ini_N, by decide +kernel, by decide +kernel, by decide +kernel⟩, Or.inl (zTb_of (tm2 (List.mem_of_getElem? (i := 126) rfl)) rfl)⟩
set_option maxRecDepth 20000 in
theorem ca_R_80 : zCa R_R 80 y_R_store b_R_store 6 none 4 := ⟨⟨cd_R_store, ini_R, by decide +kernel, by decide +kernel, by decide +kernel⟩, Or.inl (zTb_of (tm2 (List.mem_of_getElem? (i := 131) rfl)) rfl)⟩
set_option maxRecDepth 20000 in
theorem ca_E_148 : zCa R_E 148 y_R_subtractProduct b_R_subtractProduct 4 none 3 := ⟨⟨cd_R_subtractProduct, ini_R, by decide +kernel, by decide +kernel, by decide +kernel⟩, Or.inl (zTb_of (tm2 (List.mem_of_getElem? (i := 142) rfl)) rfl)⟩
set_option maxRecDepth 20000 in
theorem ca_R_84 : zCa R_R 84 y_R_multiply b_R_multiply 15 none 3 := ⟨⟨cd_R_multiply, ini_R, by decide +kernel, by decide +kernel, by decide +kernel⟩, Or.inl (zTb_of (tm2 (List.mem_of_getElem? (i := 146) rfl)) rfl)⟩
set_option maxRecDepth 20000 in
theorem ca_R_34 : zCa R_R 34 y_R_addSigned b_R_addSigned 5 none 4 := ⟨⟨cd_R_addSigned, ini_R, by decide +kernel, by decide +kernel, by decide +kernel⟩, Or.inl (zTb_of (tm2 (List.mem_of_getElem? (i := 147) rfl)) rfl)⟩
set_option maxRecDepth 20000 in
theorem ca_R_38 : zCa R_R 38 y_R_addSizes b_R_addSizes 8 none 3 := ⟨⟨cd_R_addSizes, ini_R, by decide +kernel, by decide +kernel, by decide +kernel⟩, Or.inl (zTb_of (tm2 (List.mem_of_getElem? (i := 151) rfl)) rfl)⟩
set_option maxRecDepth 20000 in
theorem ca_R_66 : zCa R_R 66 y_N_limb b_N_limb 2 (some .int) 1 := ⟨⟨cd_N_limb, ini_N, by decide +kernel, by decide +kernel, by decide +kernel⟩, Or.inl (zTb_of (tm2 (List.mem_of_getElem? (i := 156) rfl)) rfl)⟩
set_option maxRecDepth 20000 in
theorem ca_R_71 : zCa R_R 71 y_N_settle b_N_settle 4 none 2 := ⟨⟨cd_N_settle, ini_N, by decide +kernel, by decide +kernel, by decide +kernel⟩, Or.inl (zTb_of (tm2 (List.mem_of_getElem? (i := 161) rfl)) rfl)⟩
set_option maxRecDepth 20000 in
theorem ca_R_42 : zCa R_R 42 y_N_compareSize b_N_compareSize 3 (some .int) 1 := ⟨⟨cd_N_compareSize, ini_N, by decide +kernel, by decide +kernel, by decide +kernel⟩, Or.inl (zTb_of (tm2 (List.mem_of_getElem? (i := 165) rfl)) rfl)⟩
set_option maxRecDepth 20000 in
theorem ca_R_46 : zCa R_R 46 y_R_subtractSizes b_R_subtractSizes 9 none 4 := ⟨⟨cd_R_subtractSizes, ini_R, by decide +kernel, by decide +kernel, by decide +kernel⟩, Or.inl (zTb_of (tm2 (List.mem_of_getElem? (i := 169) rfl)) rfl)⟩
set_option maxRecDepth 20000 in
theorem ca_E_155 : zCa R_E 155 y_N_isZero b_N_isZero 1 (some .boolean) 0 := ⟨⟨cd_N_isZero, ini_N, by decide +kernel, by decide +kernel, by decide +kernel⟩, Or.inl (zTb_of (tm2 (List.mem_of_getElem? (i := 175) rfl)) rfl)⟩
set_option maxRecDepth 20000 in
theorem ca_X_69 : zCa R_X 69 y_P_becomeNone b_P_becomeNone 1 none 0 := ⟨⟨cd_P_becomeNone, ini_P, by decide +kernel, by decide +kernel, by decide +kernel⟩, Or.inl (zTb_of (tm2 (List.mem_of_getElem? (i := 179) rfl)) rfl)⟩
set_option maxRecDepth 20000 in
theorem ca_L_18 : zCa R_law 18 y_X_none b_X_none 2 (some .boolean) 1 := ⟨⟨cd_X_none, ini_X, by decide +kernel, by decide +kernel, by decide +kernel⟩, Or.inl (zTb_of (tm2 (List.mem_of_getElem? (i := 183) rfl)) rfl)⟩
set_option maxRecDepth 20000 in
theorem ca_X_72 : zCa R_X 72 y_X_isSlot b_X_isSlot 1 (some .boolean) 1 := ⟨⟨cd_X_isSlot, ini_X, by decide +kernel, by decide +kernel, by decide +kernel⟩, Or.inl (zTb_of (tm2 (List.mem_of_getElem? (i := 187) rfl)) rfl)⟩
set_option maxRecDepth 20000 in
theorem ca_L_25 : zCa R_law 25 y_X_point b_X_point 10 (some .int) 5 := ⟨⟨cd_X_point, ini_X, by decide +kernel, by decide +kernel, by decide +kernel⟩, Or.inl (zTb_of (tm2 (List.mem_of_getElem? (i := 190) rfl)) rfl)⟩
set_option maxRecDepth 20000 in
theorem ca_X_75 : zCa R_X 75 y_E_read b_E_read 10 (some .boolean) 5 := ⟨⟨cd_E_read, ini_E, by decide +kernel, by decide +kernel, by decide +kernel⟩, Or.inl (zTb_of (tm2 (List.mem_of_getElem? (i := 194) rfl)) rfl)⟩
set_option maxRecDepth 20000 in
theorem ca_E_50 : zCa R_E 50 y_E_takeLowestTerms b_E_takeLowestTerms 7 none 4 := ⟨⟨cd_E_takeLowestTerms, ini_E, by decide +kernel, by decide +kernel, by decide +kernel⟩, Or.inl (zTb_of (tm2 (List.mem_of_getElem? (i := 198) rfl)) rfl)⟩
set_option maxRecDepth 20000 in
theorem ca_E_92 : zCa R_E 92 y_D_common b_D_common 5 none 3 := ⟨⟨cd_D_common, ini_D, by decide +kernel, by decide +kernel, by decide +kernel⟩, Or.inl (zTb_of (tm2 (List.mem_of_getElem? (i := 202) rfl)) rfl)⟩
set_option maxRecDepth 20000 in
theorem ca_D_42 : zCa R_D 42 y_N_become_N b_N_become_N 2 none 1 := ⟨⟨cd_N_become_N, ini_N, by decide +kernel, by decide +kernel, by decide +kernel⟩, Or.inl (zTb_of (tm2 (List.mem_of_getElem? (i := 206) rfl)) rfl)⟩
set_option maxRecDepth 20000 in
theorem ca_N_31 : zCa R_N 31 y_N_becomeZero b_N_becomeZero 1 none 0 := ⟨⟨cd_N_becomeZero, ini_N, by decide +kernel, by decide +kernel, by decide +kernel⟩, Or.inl (zTb_of (tm2 (List.mem_of_getElem? (i := 210) rfl)) rfl)⟩
set_option maxRecDepth 20000 in
theorem ca_D_49 : zCa R_D 49 y_N_compareSize b_N_compareSize 3 (some .int) 1 := ⟨⟨cd_N_compareSize, ini_N, by decide +kernel, by decide +kernel, by decide +kernel⟩, Or.inl (zTb_of (tm2 (List.mem_of_getElem? (i := 212) rfl)) rfl)⟩
set_option maxRecDepth 20000 in
theorem ca_D_53 : zCa R_D 53 y_D_shorten b_D_shorten 2 none 0 := ⟨⟨cd_D_shorten, ini_D, by decide +kernel, by decide +kernel, by decide +kernel⟩, Or.inl (zTb_of (tm2 (List.mem_of_getElem? (i := 213) rfl)) rfl)⟩
set_option maxRecDepth 20000 in
theorem ca_D_68 : zCa R_D 68 y_N_isZero b_N_isZero 1 (some .boolean) 0 := ⟨⟨cd_N_isZero, ini_N, by decide +kernel, by decide +kernel, by decide +kernel⟩, Or.inl (zTb_of (tm2 (List.mem_of_getElem? (i := 217) rfl)) rfl)⟩
set_option maxRecDepth 20000 in
theorem ca_D_79 : zCa R_D 79 y_R_divide b_R_divide 12 none 4 := ⟨⟨cd_R_divide, ini_R, by decide +kernel, by decide +kernel, by decide +kernel⟩, Or.inl (zTb_of (tm2 (List.mem_of_getElem? (i := 218) rfl)) rfl)⟩
set_option maxRecDepth 20000 in
theorem ca_R_87 : zCa R_R 87 y_N_become_N b_N_become_N 2 none 1 := ⟨⟨cd_N_become_N, ini_N, by decide +kernel, by decide +kernel, by decide +kernel⟩, Or.inl (zTb_of (tm2 (List.mem_of_getElem? (i := 222) rfl)) rfl)⟩
set_option maxRecDepth 20000 in
theorem ca_R_90 : zCa R_R 90 y_R_scaleUp b_R_scaleUp 10 (some .int) 3 := ⟨⟨cd_R_scaleUp, ini_R, by decide +kernel, by decide +kernel, by decide +kernel⟩, Or.inl (zTb_of (tm2 (List.mem_of_getElem? (i := 223) rfl)) rfl)⟩
set_option maxRecDepth 20000 in
theorem ca_R_94 : zCa R_R 94 y_R_guessLimb b_R_guessLimb 16 (some .long) 2 := ⟨⟨cd_R_guessLimb, ini_R, by decide +kernel, by decide +kernel, by decide +kernel⟩, Or.inl (zTb_of (tm2 (List.mem_of_getElem? (i := 227) rfl)) rfl)⟩
set_option maxRecDepth 20000 in
theorem ca_R_98 : zCa R_R 98 y_R_takeMultiple b_R_takeMultiple 11 (some .int) 3 := ⟨⟨cd_R_takeMultiple, ini_R, by decide +kernel, by decide +kernel, by decide +kernel⟩, Or.inl (zTb_of (tm2 (List.mem_of_getElem? (i := 231) rfl)) rfl)⟩
set_option maxRecDepth 20000 in
theorem ca_R_109 : zCa R_R 109 y_R_giveBack b_R_giveBack 6 none 2 := ⟨⟨cd_R_giveBack, ini_R, by decide +kernel, by decide +kernel, by decide +kernel⟩, Or.inl (zTb_of (tm2 (List.mem_of_getElem? (i := 235) rfl)) rfl)⟩
set_option maxRecDepth 20000 in
theorem ca_R_102 : zCa R_R 102 y_R_scaleDown b_R_scaleDown 8 none 2 := ⟨⟨cd_R_scaleDown, ini_R, by decide +kernel, by decide +kernel, by decide +kernel⟩, Or.inl (zTb_of (tm2 (List.mem_of_getElem? (i := 239) rfl)) rfl)⟩
set_option maxRecDepth 20000 in
theorem ca_D_61 : zCa R_D 61 y_D_followLeadingDigits b_D_followLeadingDigits 16 (some .boolean) 0 := ⟨⟨cd_D_followLeadingDigits, ini_D, by decide +kernel, by decide +kernel, by decide +kernel⟩, Or.inl (zTb_of (tm3 (List.mem_of_getElem? (i := 4) rfl)) rfl)⟩
set_option maxRecDepth 20000 in
theorem ca_D_85 : zCa R_D 85 y_N_limb b_N_limb 2 (some .int) 1 := ⟨⟨cd_N_limb, ini_N, by decide +kernel, by decide +kernel, by decide +kernel⟩, Or.inl (zTb_of (tm3 (List.mem_of_getElem? (i := 8) rfl)) rfl)⟩
set_option maxRecDepth 20000 in
theorem ca_D_89 : zCa R_D 89 y_N_limbDigits b_N_limbDigits 2 (some .int) 1 := ⟨⟨cd_N_limbDigits, ini_N, by decide +kernel, by decide +kernel, by decide +kernel⟩, Or.inl (zTb_of (tm3 (List.mem_of_getElem? (i := 9) rfl)) rfl)⟩
set_option maxRecDepth 20000 in
theorem ca_D_92 : zCa R_D 92 y_D_leading b_D_leading 6 (some .long) 3 := ⟨⟨cd_D_leading, ini_D, by decide +kernel, by decide +kernel, by decide +kernel⟩, Or.inl (zTb_of (tm3 (List.mem_of_getElem? (i := 14) rfl)) rfl)⟩
set_option maxRecDepth 20000 in
theorem ca_D_65 : zCa R_D 65 y_D_mix b_D_mix 15 none 0 := ⟨⟨cd_D_mix, ini_D, by decide +kernel, by decide +kernel, by decide +kernel⟩, Or.inl (zTb_of (tm3 (List.mem_of_getElem? (i := 23) rfl)) rfl)⟩
set_option maxRecDepth 20000 in
theorem ca_D_129 : zCa R_D 129 y_N_settle b_N_settle 4 none 2 := ⟨⟨cd_N_settle, ini_N, by decide +kernel, by decide +kernel, by decide +kernel⟩, Or.inl (zTb_of (tm3 (List.mem_of_getElem? (i := 30) rfl)) rfl)⟩
set_option maxRecDepth 20000 in
theorem ca_D_71 : zCa R_D 71 y_N_lowPart b_N_lowPart 1 (some .long) 0 := ⟨⟨cd_N_lowPart, ini_N, by decide +kernel, by decide +kernel, by decide +kernel⟩, Or.inl (zTb_of (tm3 (List.mem_of_getElem? (i := 31) rfl)) rfl)⟩
set_option maxRecDepth 20000 in
theorem ca_N_44 : zCa R_N 44 y_N_limb b_N_limb 2 (some .int) 1 := ⟨⟨cd_N_limb, ini_N, by decide +kernel, by decide +kernel, by decide +kernel⟩, Or.inl (zTb_of (tm3 (List.mem_of_getElem? (i := 35) rfl)) rfl)⟩
set_option maxRecDepth 20000 in
theorem ca_D_75 : zCa R_D 75 y_D_commonOfLongs b_D_commonOfLongs 11 (some .long) 2 := ⟨⟨cd_D_commonOfLongs, ini_D, by decide +kernel, by decide +kernel, by decide +kernel⟩, Or.inl (zTb_of (tm3 (List.mem_of_getElem? (i := 36) rfl)) rfl)⟩
set_option maxRecDepth 20000 in
theorem ca_E_83 : zCa R_E 83 y_R_divide b_R_divide 12 none 4 := ⟨⟨cd_R_divide, ini_R, by decide +kernel, by decide +kernel, by decide +kernel⟩, Or.inl (zTb_of (tm3 (List.mem_of_getElem? (i := 39) rfl)) rfl)⟩
set_option maxRecDepth 20000 in
theorem ca_E_101 : zCa R_E 101 y_N_changeSign b_N_changeSign 1 none 0 := ⟨⟨cd_N_changeSign, ini_N, by decide +kernel, by decide +kernel, by decide +kernel⟩, Or.inl (zTb_of (tm3 (List.mem_of_getElem? (i := 40) rfl)) rfl)⟩
set_option maxRecDepth 20000 in
theorem ca_E_54 : zCa R_E 54 y_E_isOnCurve b_E_isOnCurve 1 (some .boolean) 0 := ⟨⟨cd_E_isOnCurve, ini_E, by decide +kernel, by decide +kernel, by decide +kernel⟩, Or.inl (zTb_of (tm3 (List.mem_of_getElem? (i := 44) rfl)) rfl)⟩
set_option maxRecDepth 20000 in
theorem ca_E_112 : zCa R_E 112 y_R_addProduct b_R_addProduct 4 none 3 := ⟨⟨cd_R_addProduct, ini_R, by decide +kernel, by decide +kernel, by decide +kernel⟩, Or.inl (zTb_of (tm3 (List.mem_of_getElem? (i := 48) rfl)) rfl)⟩
set_option maxRecDepth 20000 in
theorem ca_E_127 : zCa R_E 127 y_N_isLike b_N_isLike 2 (some .boolean) 1 := ⟨⟨cd_N_isLike, ini_N, by decide +kernel, by decide +kernel, by decide +kernel⟩, Or.inl (zTb_of (tm3 (List.mem_of_getElem? (i := 52) rfl)) rfl)⟩
set_option maxRecDepth 20000 in
theorem ca_N_40 : zCa R_N 40 y_N_compareSize b_N_compareSize 3 (some .int) 1 := ⟨⟨cd_N_compareSize, ini_N, by decide +kernel, by decide +kernel, by decide +kernel⟩, Or.inl (zTb_of (tm3 (List.mem_of_getElem? (i := 56) rfl)) rfl)⟩
set_option maxRecDepth 20000 in
theorem ca_E_67 : zCa R_E 67 y_N_become_N b_N_become_N 2 none 1 := ⟨⟨cd_N_become_N, ini_N, by decide +kernel, by decide +kernel, by decide +kernel⟩, Or.inl (zTb_of (tm3 (List.mem_of_getElem? (i := 57) rfl)) rfl)⟩
set_option maxRecDepth 20000 in
theorem ca_L_30 : zCa R_law 30 y_X_sum b_X_sum 4 (some .int) 3 := ⟨⟨cd_X_sum, ini_X, by decide +kernel, by decide +kernel, by decide +kernel⟩, Or.inl (zTb_of (tm3 (List.mem_of_getElem? (i := 58) rfl)) rfl)⟩
set_option maxRecDepth 20000 in
theorem ca_X_79 : zCa R_X 79 y_C_join b_C_join 4 (some .boolean) 3 := ⟨⟨cd_C_join, ini_C, by decide +kernel, by decide +kernel, by decide +kernel⟩, Or.inl (zTb_of (tm3 (List.mem_of_getElem? (i := 62) rfl)) rfl)⟩
set_option maxRecDepth 20000 in
theorem ca_C_97 : zCa R_C 97 y_P_become b_P_become 2 none 1 := ⟨⟨cd_P_become, ini_P, by decide +kernel, by decide +kernel, by decide +kernel⟩, Or.inl (zTb_of (tm3 (List.mem_of_getElem? (i := 66) rfl)) rfl)⟩
set_option maxRecDepth 20000 in
theorem ca_P_36 : zCa R_P 36 y_N_become_N b_N_become_N 2 none 1 := ⟨⟨cd_N_become_N, ini_N, by decide +kernel, by decide +kernel, by decide +kernel⟩, Or.inl (zTb_of (tm3 (List.mem_of_getElem? (i := 70) rfl)) rfl)⟩
set_option maxRecDepth 20000 in
theorem ca_C_104 : zCa R_C 104 y_C_measureGap b_C_measureGap 3 none 2 := ⟨⟨cd_C_measureGap, ini_C, by decide +kernel, by decide +kernel, by decide +kernel⟩, Or.inl (zTb_of (tm3 (List.mem_of_getElem? (i := 71) rfl)) rfl)⟩
set_option maxRecDepth 20000 in
theorem ca_C_71 : zCa R_C 71 y_R_multiply b_R_multiply 15 none 3 := ⟨⟨cd_R_multiply, ini_R, by decide +kernel, by decide +kernel, by decide +kernel⟩, Or.inl (zTb_of (tm3 (List.mem_of_getElem? (i := 75) rfl)) rfl)⟩
set_option maxRecDepth 20000 in
theorem ca_C_144 : zCa R_C 144 y_R_subtract b_R_subtract 4 none 3 := ⟨⟨cd_R_subtract, ini_R, by decide +kernel, by decide +kernel, by decide +kernel⟩, Or.inl (zTb_of (tm3 (List.mem_of_getElem? (i := 76) rfl)) rfl)⟩
set_option maxRecDepth 20000 in
theorem ca_C_108 : zCa R_C 108 y_N_isZero b_N_isZero 1 (some .boolean) 0 := ⟨⟨cd_N_isZero, ini_N, by decide +kernel, by decide +kernel, by decide +kernel⟩, Or.inl (zTb_of (tm3 (List.mem_of_getElem? (i := 80) rfl)) rfl)⟩
set_option maxRecDepth 20000 in
theorem ca_C_112 : zCa R_C 112 y_C_gatherHeights b_C_gatherHeights 3 none 2 := ⟨⟨cd_C_gatherHeights, ini_C, by decide +kernel, by decide +kernel, by decide +kernel⟩, Or.inl (zTb_of (tm3 (List.mem_of_getElem? (i := 81) rfl)) rfl)⟩
set_option maxRecDepth 20000 in
theorem ca_C_147 : zCa R_C 147 y_R_add b_R_add 4 none 3 := ⟨⟨cd_R_add, ini_R, by decide +kernel, by decide +kernel, by decide +kernel⟩, Or.inl (zTb_of (tm3 (List.mem_of_getElem? (i := 85) rfl)) rfl)⟩
set_option maxRecDepth 20000 in
theorem ca_C_85 : zCa R_C 85 y_R_addProduct b_R_addProduct 4 none 3 := ⟨⟨cd_R_addProduct, ini_R, by decide +kernel, by decide +kernel, by decide +kernel⟩, Or.inl (zTb_of (tm3 (List.mem_of_getElem? (i := 89) rfl)) rfl)⟩
set_option maxRecDepth 20000 in
theorem ca_C_115 : zCa R_C 115 y_C_drawChord b_C_drawChord 3 none 2 := ⟨⟨cd_C_drawChord, ini_C, by decide +kernel, by decide +kernel, by decide +kernel⟩, Or.inl (zTb_of (tm3 (List.mem_of_getElem? (i := 90) rfl)) rfl)⟩
set_option maxRecDepth 20000 in
theorem ca_C_118 : zCa R_C 118 y_P_isLike b_P_isLike 2 (some .boolean) 1 := ⟨⟨cd_P_isLike, ini_P, by decide +kernel, by decide +kernel, by decide +kernel⟩, Or.inl (zTb_of (tm3 (List.mem_of_getElem? (i := 94) rfl)) rfl)⟩
set_option maxRecDepth 20000 in
theorem ca_P_40 : zCa R_P 40 y_N_isLike b_N_isLike 2 (some .boolean) 1 := ⟨⟨cd_N_isLike, ini_N, by decide +kernel, by decide +kernel, by decide +kernel⟩, Or.inl (zTb_of (tm3 (List.mem_of_getElem? (i := 98) rfl)) rfl)⟩
set_option maxRecDepth 20000 in
theorem ca_C_122 : zCa R_C 122 y_C_drawTangent b_C_drawTangent 2 none 1 := ⟨⟨cd_C_drawTangent, ini_C, by decide +kernel, by decide +kernel, by decide +kernel⟩, Or.inl (zTb_of (tm3 (List.mem_of_getElem? (i := 99) rfl)) rfl)⟩
set_option maxRecDepth 20000 in
theorem ca_C_168 : zCa R_C 168 y_R_subtractProduct b_R_subtractProduct 4 none 3 := ⟨⟨cd_R_subtractProduct, ini_R, by decide +kernel, by decide +kernel, by decide +kernel⟩, Or.inl (zTb_of (tm3 (List.mem_of_getElem? (i := 103) rfl)) rfl)⟩
set_option maxRecDepth 20000 in
theorem ca_C_125 : zCa R_C 125 y_P_becomeNone b_P_becomeNone 1 none 0 := ⟨⟨cd_P_becomeNone, ini_P, by decide +kernel, by decide +kernel, by decide +kernel⟩, Or.inl (zTb_of (tm3 (List.mem_of_getElem? (i := 104) rfl)) rfl)⟩
set_option maxRecDepth 20000 in
theorem ca_C_128 : zCa R_C 128 y_C_findShare b_C_findShare 1 none 0 := ⟨⟨cd_C_findShare, ini_C, by decide +kernel, by decide +kernel, by decide +kernel⟩, Or.inl (zTb_of (tm3 (List.mem_of_getElem? (i := 105) rfl)) rfl)⟩
set_option maxRecDepth 20000 in
theorem ca_C_171 : zCa R_C 171 y_D_common b_D_common 5 none 3 := ⟨⟨cd_D_common, ini_D, by decide +kernel, by decide +kernel, by decide +kernel⟩, Or.inl (zTb_of (tm3 (List.mem_of_getElem? (i := 109) rfl)) rfl)⟩
set_option maxRecDepth 20000 in
theorem ca_C_176 : zCa R_C 176 y_R_divide b_R_divide 12 none 4 := ⟨⟨cd_R_divide, ini_R, by decide +kernel, by decide +kernel, by decide +kernel⟩, Or.inl (zTb_of (tm3 (List.mem_of_getElem? (i := 110) rfl)) rfl)⟩
set_option maxRecDepth 20000 in
theorem ca_C_180 : zCa R_C 180 y_N_isLike b_N_isLike 2 (some .boolean) 1 := ⟨⟨cd_N_isLike, ini_N, by decide +kernel, by decide +kernel, by decide +kernel⟩, Or.inl (zTb_of (tm3 (List.mem_of_getElem? (i := 111) rfl)) rfl)⟩
set_option maxRecDepth 20000 in
theorem ca_C_183 : zCa R_C 183 y_D_root b_D_root 4 none 2 := ⟨⟨cd_D_root, ini_D, by decide +kernel, by decide +kernel, by decide +kernel⟩, Or.inl (zTb_of (tm3 (List.mem_of_getElem? (i := 112) rfl)) rfl)⟩
set_option maxRecDepth 20000 in
theorem ca_D_133 : zCa R_D 133 y_N_becomeZero b_N_becomeZero 1 none 0 := ⟨⟨cd_N_becomeZero, ini_N, by decide +kernel, by decide +kernel, by decide +kernel⟩, Or.inl (zTb_of (tm3 (List.mem_of_getElem? (i := 116) rfl)) rfl)⟩
set_option maxRecDepth 20000 in
theorem ca_D_136 : zCa R_D 136 y_N_digitCount b_N_digitCount 1 (some .int) 0 := ⟨⟨cd_N_digitCount, ini_N, by decide +kernel, by decide +kernel, by decide +kernel⟩, Or.inl (zTb_of (tm3 (List.mem_of_getElem? (i := 117) rfl)) rfl)⟩
set_option maxRecDepth 20000 in
theorem ca_N_48 : zCa R_N 48 y_N_limbDigits b_N_limbDigits 2 (some .int) 1 := ⟨⟨cd_N_limbDigits, ini_N, by decide +kernel, by decide +kernel, by decide +kernel⟩, Or.inl (zTb_of (tm3 (List.mem_of_getElem? (i := 121) rfl)) rfl)⟩
set_option maxRecDepth 20000 in
theorem ca_D_140 : zCa R_D 140 y_D_powerOfTen b_D_powerOfTen 4 none 2 := ⟨⟨cd_D_powerOfTen, ini_D, by decide +kernel, by decide +kernel, by decide +kernel⟩, Or.inl (zTb_of (tm3 (List.mem_of_getElem? (i := 122) rfl)) rfl)⟩
set_option maxRecDepth 20000 in
theorem ca_D_144 : zCa R_D 144 y_R_add b_R_add 4 none 3 := ⟨⟨cd_R_add, ini_R, by decide +kernel, by decide +kernel, by decide +kernel⟩, Or.inl (zTb_of (tm3 (List.mem_of_getElem? (i := 125) rfl)) rfl)⟩
set_option maxRecDepth 20000 in
theorem ca_C_131 : zCa R_C 131 y_C_placeX b_C_placeX 2 (some .boolean) 1 := ⟨⟨cd_C_placeX, ini_C, by decide +kernel, by decide +kernel, by decide +kernel⟩, Or.inl (zTb_of (tm3 (List.mem_of_getElem? (i := 126) rfl)) rfl)⟩
set_option maxRecDepth 20000 in
theorem ca_C_190 : zCa R_C 190 y_N_digitCount b_N_digitCount 1 (some .int) 0 := ⟨⟨cd_N_digitCount, ini_N, by decide +kernel, by decide +kernel, by decide +kernel⟩, Or.inl (zTb_of (tm3 (List.mem_of_getElem? (i := 130) rfl)) rfl)⟩
set_option maxRecDepth 20000 in
theorem ca_C_194 : zCa R_C 194 y_N_become_N b_N_become_N 2 none 1 := ⟨⟨cd_N_become_N, ini_N, by decide +kernel, by decide +kernel, by decide +kernel⟩, Or.inl (zTb_of (tm3 (List.mem_of_getElem? (i := 131) rfl)) rfl)⟩
set_option maxRecDepth 20000 in
theorem ca_C_134 : zCa R_C 134 y_C_placeY b_C_placeY 4 none 3 := ⟨⟨cd_C_placeY, ini_C, by decide +kernel, by decide +kernel, by decide +kernel⟩, Or.inl (zTb_of (tm3 (List.mem_of_getElem? (i := 132) rfl)) rfl)⟩
set_option maxRecDepth 20000 in
theorem ca_C_138 : zCa R_C 138 y_C_turnOver b_C_turnOver 2 none 1 := ⟨⟨cd_C_turnOver, ini_C, by decide +kernel, by decide +kernel, by decide +kernel⟩, Or.inl (zTb_of (tm3 (List.mem_of_getElem? (i := 136) rfl)) rfl)⟩
set_option maxRecDepth 20000 in
theorem ca_C_94 : zCa R_C 94 y_N_changeSign b_N_changeSign 1 none 0 := ⟨⟨cd_N_changeSign, ini_N, by decide +kernel, by decide +kernel, by decide +kernel⟩, Or.inl (zTb_of (tm3 (List.mem_of_getElem? (i := 140) rfl)) rfl)⟩
set_option maxRecDepth 20000 in
theorem ca_X_83 : zCa R_X 83 y_X_keep b_X_keep 3 (some .int) 2 := ⟨⟨cd_X_keep, ini_X, by decide +kernel, by decide +kernel, by decide +kernel⟩, Or.inl (zTb_of (tm3 (List.mem_of_getElem? (i := 141) rfl)) rfl)⟩
set_option maxRecDepth 20000 in
theorem ca_X_145 : zCa R_X 145 y_P_isLongerThan b_P_isLongerThan 2 (some .boolean) 1 := ⟨⟨cd_P_isLongerThan, ini_P, by decide +kernel, by decide +kernel, by decide +kernel⟩, Or.inl (zTb_of (tm3 (List.mem_of_getElem? (i := 145) rfl)) rfl)⟩
set_option maxRecDepth 20000 in
theorem ca_P_48 : zCa R_P 48 y_P_isWiderThan b_P_isWiderThan 2 (some .boolean) 1 := ⟨⟨cd_P_isWiderThan, ini_P, by decide +kernel, by decide +kernel, by decide +kernel⟩, Or.inl (zTb_of (tm3 (List.mem_of_getElem? (i := 149) rfl)) rfl)⟩
set_option maxRecDepth 20000 in
theorem ca_P_44 : zCa R_P 44 y_N_digitCount b_N_digitCount 1 (some .int) 0 := ⟨⟨cd_N_digitCount, ini_N, by decide +kernel, by decide +kernel, by decide +kernel⟩, Or.inl (zTb_of (tm3 (List.mem_of_getElem? (i := 153) rfl)) rfl)⟩
set_option maxRecDepth 20000 in
theorem ca_X_87 : zCa R_X 87 y_P_become b_P_become 2 none 1 := ⟨⟨cd_P_become, ini_P, by decide +kernel, by decide +kernel, by decide +kernel⟩, Or.inl (zTb_of (tm3 (List.mem_of_getElem? (i := 154) rfl)) rfl)⟩
set_option maxRecDepth 20000 in
theorem ca_L_35 : zCa R_law 35 y_X_less b_X_less 4 (some .int) 3 := ⟨⟨cd_X_less, ini_X, by decide +kernel, by decide +kernel, by decide +kernel⟩, Or.inl (zTb_of (tm3 (List.mem_of_getElem? (i := 155) rfl)) rfl)⟩
set_option maxRecDepth 20000 in
theorem ca_X_90 : zCa R_X 90 y_C_turnOver b_C_turnOver 2 none 1 := ⟨⟨cd_C_turnOver, ini_C, by decide +kernel, by decide +kernel, by decide +kernel⟩, Or.inl (zTb_of (tm3 (List.mem_of_getElem? (i := 159) rfl)) rfl)⟩
set_option maxRecDepth 20000 in
theorem ca_L_39 : zCa R_law 39 y_X_times b_X_times 6 (some .int) 3 := ⟨⟨cd_X_times, ini_X, by decide +kernel, by decide +kernel, by decide +kernel⟩, Or.inl (zTb_of (tm3 (List.mem_of_getElem? (i := 160) rfl)) rfl)⟩
set_option maxRecDepth 20000 in
theorem ca_X_95 : zCa R_X 95 y_P_isWiderThan b_P_isWiderThan 2 (some .boolean) 1 := ⟨⟨cd_P_isWiderThan, ini_P, by decide +kernel, by decide +kernel, by decide +kernel⟩, Or.inl (zTb_of (tm3 (List.mem_of_getElem? (i := 166) rfl)) rfl)⟩
set_option maxRecDepth 20000 in
theorem ca_L_43 : zCa R_law 43 y_X_order b_X_order 3 (some .int) 1 := ⟨⟨cd_X_order, ini_X, by decide +kernel, by decide +kernel, by decide +kernel⟩, Or.inl (zTb_of (tm3 (List.mem_of_getElem? (i := 167) rfl)) rfl)⟩
set_option maxRecDepth 20000 in
theorem ca_L_48 : zCa R_law 48 y_X_isNone b_X_isNone 2 (some .boolean) 1 := ⟨⟨cd_X_isNone, ini_X, by decide +kernel, by decide +kernel, by decide +kernel⟩, Or.inl (zTb_of (tm3 (List.mem_of_getElem? (i := 171) rfl)) rfl)⟩
set_option maxRecDepth 20000 in
theorem ca_L_52 : zCa R_law 52 y_X_same b_X_same 3 (some .boolean) 2 := ⟨⟨cd_X_same, ini_X, by decide +kernel, by decide +kernel, by decide +kernel⟩, Or.inl (zTb_of (tm3 (List.mem_of_getElem? (i := 175) rfl)) rfl)⟩
set_option maxRecDepth 20000 in
theorem ca_X_116 : zCa R_X 116 y_P_isLike b_P_isLike 2 (some .boolean) 1 := ⟨⟨cd_P_isLike, ini_P, by decide +kernel, by decide +kernel, by decide +kernel⟩, Or.inl (zTb_of (tm3 (List.mem_of_getElem? (i := 179) rfl)) rfl)⟩
set_option maxRecDepth 20000 in
theorem ca_L_57 : zCa R_law 57 y_X_digits b_X_digits 3 (some .int) 2 := ⟨⟨cd_X_digits, ini_X, by decide +kernel, by decide +kernel, by decide +kernel⟩, Or.inl (zTb_of (tm3 (List.mem_of_getElem? (i := 180) rfl)) rfl)⟩
set_option maxRecDepth 20000 in
theorem ca_X_120 : zCa R_X 120 y_X_hasNumber b_X_hasNumber 3 (some .boolean) 2 := ⟨⟨cd_X_hasNumber, ini_X, by decide +kernel, by decide +kernel, by decide +kernel⟩, Or.inl (zTb_of (tm3 (List.mem_of_getElem? (i := 184) rfl)) rfl)⟩
set_option maxRecDepth 20000 in
theorem ca_X_124 : zCa R_X 124 y_P_number b_P_number 2 (some (.object "ChordPoints$Num")) 1 := ⟨⟨cd_P_number, ini_P, by decide +kernel, by decide +kernel, by decide +kernel⟩, Or.inl (zTb_of (tm3 (List.mem_of_getElem? (i := 188) rfl)) rfl)⟩
set_option maxRecDepth 20000 in
theorem ca_X_128 : zCa R_X 128 y_N_digitCount b_N_digitCount 1 (some .int) 0 := ⟨⟨cd_N_digitCount, ini_N, by decide +kernel, by decide +kernel, by decide +kernel⟩, Or.inl (zTb_of (tm3 (List.mem_of_getElem? (i := 192) rfl)) rfl)⟩
set_option maxRecDepth 20000 in
theorem ca_L_62 : zCa R_law 62 y_X_digitAt b_X_digitAt 6 (some .int) 3 := ⟨⟨cd_X_digitAt, ini_X, by decide +kernel, by decide +kernel, by decide +kernel⟩, Or.inl (zTb_of (tm3 (List.mem_of_getElem? (i := 193) rfl)) rfl)⟩
set_option maxRecDepth 20000 in
theorem ca_X_132 : zCa R_X 132 y_N_digitAbove b_N_digitAbove 2 (some .int) 1 := ⟨⟨cd_N_digitAbove, ini_N, by decide +kernel, by decide +kernel, by decide +kernel⟩, Or.inl (zTb_of (tm3 (List.mem_of_getElem? (i := 197) rfl)) rfl)⟩
set_option maxRecDepth 20000 in
theorem ca_L_66 : zCa R_law 66 y_X_sign b_X_sign 4 (some .int) 2 := ⟨⟨cd_X_sign, ini_X, by decide +kernel, by decide +kernel, by decide +kernel⟩, Or.inl (zTb_of (tm3 (List.mem_of_getElem? (i := 201) rfl)) rfl)⟩
set_option maxRecDepth 20000 in
theorem ca_X_136 : zCa R_X 136 y_N_isZero b_N_isZero 1 (some .boolean) 0 := ⟨⟨cd_N_isZero, ini_N, by decide +kernel, by decide +kernel, by decide +kernel⟩, Or.inl (zTb_of (tm3 (List.mem_of_getElem? (i := 205) rfl)) rfl)⟩
set_option maxRecDepth 20000 in
theorem ca_L_12 : zCa R_law 12 y_M_init b_M_init 1 none 0 := ⟨⟨cd_M_init, ini_M, by decide +kernel, by decide +kernel, by decide +kernel⟩, Or.inl (zTb_of (tm3 (List.mem_of_getElem? (i := 208) rfl)) rfl)⟩
set_option maxRecDepth 20000 in
theorem ca_M_23 : zCa R_M 23 y_M_forget b_M_forget 2 none 0 := ⟨⟨cd_M_forget, ini_M, by decide +kernel, by decide +kernel, by decide +kernel⟩, Or.inl (zTb_of (tm3 (List.mem_of_getElem? (i := 212) rfl)) rfl)⟩
set_option maxRecDepth 20000 in
theorem ca_M_26 : zCa R_M 26 y_M_set b_M_set 6 none 2 := ⟨⟨cd_M_set, ini_M, by decide +kernel, by decide +kernel, by decide +kernel⟩, Or.inl (zTb_of (tm3 (List.mem_of_getElem? (i := 216) rfl)) rfl)⟩
set_option maxRecDepth 20000 in
theorem ca_L_17 : zCa R_law 17 y_M_curve b_M_curve 14 (some .int) 5 := ⟨⟨cd_M_curve, ini_M, by decide +kernel, by decide +kernel, by decide +kernel⟩, Or.inl (zTb_of (tm3 (List.mem_of_getElem? (i := 238) rfl)) rfl)⟩
set_option maxRecDepth 20000 in
theorem ca_M_69 : zCa R_M 69 y_M_isIn b_M_isIn 1 (some .boolean) 1 := ⟨⟨cd_M_isIn, ini_M, by decide +kernel, by decide +kernel, by decide +kernel⟩, Or.inl (zTb_of (tm4 (List.mem_of_getElem? (i := 2) rfl)) rfl)⟩
set_option maxRecDepth 20000 in
theorem ca_M_79 : zCa R_M 79 y_M_product b_M_product 10 none 5 := ⟨⟨cd_M_product, ini_M, by decide +kernel, by decide +kernel, by decide +kernel⟩, Or.inl (zTb_of (tm4 (List.mem_of_getElem? (i := 10) rfl)) rfl)⟩
set_option maxRecDepth 20000 in
theorem ca_M_92 : zCa R_M 92 y_M_multiply b_M_multiply 13 none 3 := ⟨⟨cd_M_multiply, ini_M, by decide +kernel, by decide +kernel, by decide +kernel⟩, Or.inl (zTb_of (tm4 (List.mem_of_getElem? (i := 14) rfl)) rfl)⟩
set_option maxRecDepth 20000 in
theorem ca_M_53 : zCa R_M 53 y_M_trim b_M_trim 4 none 2 := ⟨⟨cd_M_trim, ini_M, by decide +kernel, by decide +kernel, by decide +kernel⟩, Or.inl (zTb_of (tm4 (List.mem_of_getElem? (i := 18) rfl)) rfl)⟩
set_option maxRecDepth 20000 in
theorem ca_M_83 : zCa R_M 83 y_M_add b_M_add 7 none 4 := ⟨⟨cd_M_add, ini_M, by decide +kernel, by decide +kernel, by decide +kernel⟩, Or.inl (zTb_of (tm4 (List.mem_of_getElem? (i := 22) rfl)) rfl)⟩
set_option maxRecDepth 20000 in
theorem ca_M_40 : zCa R_M 40 y_M_copy b_M_copy 4 none 2 := ⟨⟨cd_M_copy, ini_M, by decide +kernel, by decide +kernel, by decide +kernel⟩, Or.inl (zTb_of (tm4 (List.mem_of_getElem? (i := 26) rfl)) rfl)⟩
set_option maxRecDepth 20000 in
theorem ca_M_44 : zCa R_M 44 y_M_addSizes b_M_addSizes 10 none 3 := ⟨⟨cd_M_addSizes, ini_M, by decide +kernel, by decide +kernel, by decide +kernel⟩, Or.inl (zTb_of (tm4 (List.mem_of_getElem? (i := 30) rfl)) rfl)⟩
set_option maxRecDepth 20000 in
theorem ca_M_36 : zCa R_M 36 y_M_compare b_M_compare 4 (some .int) 2 := ⟨⟨cd_M_compare, ini_M, by decide +kernel, by decide +kernel, by decide +kernel⟩, Or.inl (zTb_of (tm4 (List.mem_of_getElem? (i := 35) rfl)) rfl)⟩
set_option maxRecDepth 20000 in
theorem ca_M_48 : zCa R_M 48 y_M_takeSizes b_M_takeSizes 10 none 4 := ⟨⟨cd_M_takeSizes, ini_M, by decide +kernel, by decide +kernel, by decide +kernel⟩, Or.inl (zTb_of (tm4 (List.mem_of_getElem? (i := 39) rfl)) rfl)⟩
set_option maxRecDepth 20000 in
theorem ca_L_22 : zCa R_law 22 y_M_none b_M_none 2 (some .boolean) 1 := ⟨⟨cd_M_none, ini_M, by decide +kernel, by decide +kernel, by decide +kernel⟩, Or.inl (zTb_of (tm4 (List.mem_of_getElem? (i := 45) rfl)) rfl)⟩
set_option maxRecDepth 20000 in
theorem ca_M_95 : zCa R_M 95 y_M_isSlot b_M_isSlot 1 (some .boolean) 1 := ⟨⟨cd_M_isSlot, ini_M, by decide +kernel, by decide +kernel, by decide +kernel⟩, Or.inl (zTb_of (tm4 (List.mem_of_getElem? (i := 49) rfl)) rfl)⟩
set_option maxRecDepth 20000 in
theorem ca_L_29 : zCa R_law 29 y_M_point b_M_point 10 (some .int) 5 := ⟨⟨cd_M_point, ini_M, by decide +kernel, by decide +kernel, by decide +kernel⟩, Or.inl (zTb_of (tm4 (List.mem_of_getElem? (i := 52) rfl)) rfl)⟩
set_option maxRecDepth 20000 in
theorem ca_M_98 : zCa R_M 98 y_M_fraction b_M_fraction 7 none 4 := ⟨⟨cd_M_fraction, ini_M, by decide +kernel, by decide +kernel, by decide +kernel⟩, Or.inl (zTb_of (tm4 (List.mem_of_getElem? (i := 56) rfl)) rfl)⟩
set_option maxRecDepth 20000 in
theorem ca_M_115 : zCa R_M 115 y_M_common b_M_common 4 none 2 := ⟨⟨cd_M_common, ini_M, by decide +kernel, by decide +kernel, by decide +kernel⟩, Or.inl (zTb_of (tm4 (List.mem_of_getElem? (i := 60) rfl)) rfl)⟩
set_option maxRecDepth 20000 in
theorem ca_M_66 : zCa R_M 66 y_M_divide b_M_divide 10 none 3 := ⟨⟨cd_M_divide, ini_M, by decide +kernel, by decide +kernel, by decide +kernel⟩, Or.inl (zTb_of (tm4 (List.mem_of_getElem? (i := 64) rfl)) rfl)⟩
set_option maxRecDepth 20000 in
theorem ca_M_56 : zCa R_M 56 y_M_timesSmall b_M_timesSmall 9 none 2 := ⟨⟨cd_M_timesSmall, ini_M, by decide +kernel, by decide +kernel, by decide +kernel⟩, Or.inl (zTb_of (tm4 (List.mem_of_getElem? (i := 68) rfl)) rfl)⟩
set_option maxRecDepth 20000 in
theorem ca_M_59 : zCa R_M 59 y_M_place b_M_place 26 (some .int) 4 := ⟨⟨cd_M_place, ini_M, by decide +kernel, by decide +kernel, by decide +kernel⟩, Or.inl (zTb_of (tm4 (List.mem_of_getElem? (i := 72) rfl)) rfl)⟩
set_option maxRecDepth 20000 in
theorem ca_M_63 : zCa R_M 63 y_M_bySmall b_M_bySmall 8 none 2 := ⟨⟨cd_M_bySmall, ini_M, by decide +kernel, by decide +kernel, by decide +kernel⟩, Or.inl (zTb_of (tm4 (List.mem_of_getElem? (i := 76) rfl)) rfl)⟩
set_option maxRecDepth 20000 in
theorem ca_M_109 : zCa R_M 109 y_M_share b_M_share 5 none 3 := ⟨⟨cd_M_share, ini_M, by decide +kernel, by decide +kernel, by decide +kernel⟩, Or.inl (zTb_of (tm4 (List.mem_of_getElem? (i := 80) rfl)) rfl)⟩
set_option maxRecDepth 20000 in
theorem ca_M_102 : zCa R_M 102 y_M_more b_M_more 5 none 4 := ⟨⟨cd_M_more, ini_M, by decide +kernel, by decide +kernel, by decide +kernel⟩, Or.inl (zTb_of (tm4 (List.mem_of_getElem? (i := 84) rfl)) rfl)⟩
set_option maxRecDepth 20000 in
theorem ca_M_105 : zCa R_M 105 y_M_isSame b_M_isSame 3 (some .boolean) 2 := ⟨⟨cd_M_isSame, ini_M, by decide +kernel, by decide +kernel, by decide +kernel⟩, Or.inl (zTb_of (tm4 (List.mem_of_getElem? (i := 88) rfl)) rfl)⟩
set_option maxRecDepth 20000 in
theorem ca_M_112 : zCa R_M 112 y_M_move b_M_move 4 none 2 := ⟨⟨cd_M_move, ini_M, by decide +kernel, by decide +kernel, by decide +kernel⟩, Or.inl (zTb_of (tm4 (List.mem_of_getElem? (i := 92) rfl)) rfl)⟩
set_option maxRecDepth 20000 in
theorem ca_L_34 : zCa R_law 34 y_M_sum b_M_sum 4 (some .int) 3 := ⟨⟨cd_M_sum, ini_M, by decide +kernel, by decide +kernel, by decide +kernel⟩, Or.inl (zTb_of (tm4 (List.mem_of_getElem? (i := 96) rfl)) rfl)⟩
set_option maxRecDepth 20000 in
theorem ca_M_137 : zCa R_M 137 y_M_join b_M_join 1 none 0 := ⟨⟨cd_M_join, ini_M, by decide +kernel, by decide +kernel, by decide +kernel⟩, Or.inl (zTb_of (tm4 (List.mem_of_getElem? (i := 100) rfl)) rfl)⟩
set_option maxRecDepth 20000 in
theorem ca_M_118 : zCa R_M 118 y_M_isOther b_M_isOther 1 (some .boolean) 0 := ⟨⟨cd_M_isOther, ini_M, by decide +kernel, by decide +kernel, by decide +kernel⟩, Or.inl (zTb_of (tm4 (List.mem_of_getElem? (i := 104) rfl)) rfl)⟩
set_option maxRecDepth 20000 in
theorem ca_M_122 : zCa R_M 122 y_M_touch b_M_touch 1 none 0 := ⟨⟨cd_M_touch, ini_M, by decide +kernel, by decide +kernel, by decide +kernel⟩, Or.inl (zTb_of (tm4 (List.mem_of_getElem? (i := 108) rfl)) rfl)⟩
set_option maxRecDepth 20000 in
theorem ca_M_125 : zCa R_M 125 y_M_finish b_M_finish 1 none 0 := ⟨⟨cd_M_finish, ini_M, by decide +kernel, by decide +kernel, by decide +kernel⟩, Or.inl (zTb_of (tm4 (List.mem_of_getElem? (i := 113) rfl)) rfl)⟩
set_option maxRecDepth 20000 in
theorem ca_M_140 : zCa R_M 140 y_M_settle b_M_settle 2 (some .int) 1 := ⟨⟨cd_M_settle, ini_M, by decide +kernel, by decide +kernel, by decide +kernel⟩, Or.inl (zTb_of (tm4 (List.mem_of_getElem? (i := 117) rfl)) rfl)⟩
set_option maxRecDepth 20000 in
theorem ca_M_134 : zCa R_M 134 y_M_isTooLong b_M_isTooLong 2 (some .boolean) 1 := ⟨⟨cd_M_isTooLong, ini_M, by decide +kernel, by decide +kernel, by decide +kernel⟩, Or.inl (zTb_of (tm4 (List.mem_of_getElem? (i := 121) rfl)) rfl)⟩
set_option maxRecDepth 20000 in
theorem ca_M_130 : zCa R_M 130 y_M_digitsOf b_M_digitsOf 4 (some .int) 1 := ⟨⟨cd_M_digitsOf, ini_M, by decide +kernel, by decide +kernel, by decide +kernel⟩, Or.inl (zTb_of (tm4 (List.mem_of_getElem? (i := 125) rfl)) rfl)⟩
set_option maxRecDepth 20000 in
theorem ca_L_38 : zCa R_law 38 y_M_less b_M_less 4 (some .int) 3 := ⟨⟨cd_M_less, ini_M, by decide +kernel, by decide +kernel, by decide +kernel⟩, Or.inl (zTb_of (tm4 (List.mem_of_getElem? (i := 129) rfl)) rfl)⟩
set_option maxRecDepth 20000 in
theorem ca_M_143 : zCa R_M 143 y_M_turn b_M_turn 2 none 1 := ⟨⟨cd_M_turn, ini_M, by decide +kernel, by decide +kernel, by decide +kernel⟩, Or.inl (zTb_of (tm4 (List.mem_of_getElem? (i := 133) rfl)) rfl)⟩
set_option maxRecDepth 20000 in
theorem ca_L_42 : zCa R_law 42 y_M_times b_M_times 6 (some .int) 3 := ⟨⟨cd_M_times, ini_M, by decide +kernel, by decide +kernel, by decide +kernel⟩, Or.inl (zTb_of (tm4 (List.mem_of_getElem? (i := 137) rfl)) rfl)⟩
set_option maxRecDepth 20000 in
theorem ca_M_150 : zCa R_M 150 y_M_isFar b_M_isFar 1 (some .boolean) 0 := ⟨⟨cd_M_isFar, ini_M, by decide +kernel, by decide +kernel, by decide +kernel⟩, Or.inl (zTb_of (tm4 (List.mem_of_getElem? (i := 144) rfl)) rfl)⟩
set_option maxRecDepth 20000 in
theorem ca_L_47 : zCa R_law 47 y_M_order b_M_order 3 (some .int) 1 := ⟨⟨cd_M_order, ini_M, by decide +kernel, by decide +kernel, by decide +kernel⟩, Or.inl (zTb_of (tm4 (List.mem_of_getElem? (i := 148) rfl)) rfl)⟩
set_option maxRecDepth 20000 in
theorem ca_L_51 : zCa R_law 51 y_M_isNone b_M_isNone 2 (some .boolean) 1 := ⟨⟨cd_M_isNone, ini_M, by decide +kernel, by decide +kernel, by decide +kernel⟩, Or.inl (zTb_of (tm4 (List.mem_of_getElem? (i := 152) rfl)) rfl)⟩
set_option maxRecDepth 20000 in
theorem ca_L_56 : zCa R_law 56 y_M_same b_M_same 3 (some .boolean) 2 := ⟨⟨cd_M_same, ini_M, by decide +kernel, by decide +kernel, by decide +kernel⟩, Or.inl (zTb_of (tm4 (List.mem_of_getElem? (i := 156) rfl)) rfl)⟩
set_option maxRecDepth 20000 in
theorem ca_L_61 : zCa R_law 61 y_M_digits b_M_digits 3 (some .int) 2 := ⟨⟨cd_M_digits, ini_M, by decide +kernel, by decide +kernel, by decide +kernel⟩, Or.inl (zTb_of (tm4 (List.mem_of_getElem? (i := 160) rfl)) rfl)⟩
set_option maxRecDepth 20000 in
theorem ca_M_153 : zCa R_M 153 y_M_take b_M_take 4 (some .boolean) 2 := ⟨⟨cd_M_take, ini_M, by decide +kernel, by decide +kernel, by decide +kernel⟩, Or.inl (zTb_of (tm4 (List.mem_of_getElem? (i := 164) rfl)) rfl)⟩
set_option maxRecDepth 20000 in
theorem ca_L_65 : zCa R_law 65 y_M_digitAt b_M_digitAt 8 (some .int) 3 := ⟨⟨cd_M_digitAt, ini_M, by decide +kernel, by decide +kernel, by decide +kernel⟩, Or.inl (zTb_of (tm4 (List.mem_of_getElem? (i := 168) rfl)) rfl)⟩
set_option maxRecDepth 20000 in
theorem ca_L_69 : zCa R_law 69 y_M_sign b_M_sign 3 (some .int) 2 := ⟨⟨cd_M_sign, ini_M, by decide +kernel, by decide +kernel, by decide +kernel⟩, Or.inl (zTb_of (tm4 (List.mem_of_getElem? (i := 172) rfl)) rfl)⟩
set_option maxRecDepth 20000 in
theorem oi_M : Cond.methodLink R_M 1 Lib.objectInit ∈ zTb := zTb_of (tm3 (List.mem_of_getElem? (i := 211) rfl)) rfl
set_option maxRecDepth 20000 in
theorem oi_N : Cond.methodLink R_N 3 Lib.objectInit ∈ zTb := zTb_of (tm1 (List.mem_of_getElem? (i := 31) rfl)) rfl
set_option maxRecDepth 20000 in
theorem oi_P : Cond.methodLink R_P 3 Lib.objectInit ∈ zTb := zTb_of (tm2 (List.mem_of_getElem? (i := 39) rfl)) rfl
set_option maxRecDepth 20000 in
theorem oi_Q : Cond.methodLink R_Q 3 Lib.objectInit ∈ zTb := zTb_of (tm1 (List.mem_of_getElem? (i := 124) rfl)) rfl
set_option maxRecDepth 20000 in
theorem oi_R : Cond.methodLink R_R 3 Lib.objectInit ∈ zTb := zTb_of (tm1 (List.mem_of_getElem? (i := 25) rfl)) rfl
set_option maxRecDepth 20000 in
theorem oi_D : Cond.methodLink R_D 3 Lib.objectInit ∈ zTb := zTb_of (tm1 (List.mem_of_getElem? (i := 79) rfl)) rfl
set_option maxRecDepth 20000 in
theorem oi_E : Cond.methodLink R_E 3 Lib.objectInit ∈ zTb := zTb_of (tm2 (List.mem_of_getElem? (i := 0) rfl)) rfl
set_option maxRecDepth 20000 in
theorem oi_C : Cond.methodLink R_C 3 Lib.objectInit ∈ zTb := zTb_of (tm1 (List.mem_of_getElem? (i := 192) rfl)) rfl
set_option maxRecDepth 20000 in
theorem oi_X : Cond.methodLink R_X 1 Lib.objectInit ∈ zTb := zTb_of (tm1 (List.mem_of_getElem? (i := 17) rfl)) rfl
set_option maxRecDepth 20000 in
theorem oi_im : Cond.instanceMethod Lib.objectInit ∈ zTb := zTb_of (tm1 (List.mem_of_getElem? (i := 18) rfl)) rfl
set_option maxRecDepth 20000 in
theorem oi_cd : Cond.code Lib.objectInit ⟨#[0xb1]⟩ 1 none ∈ zTb := zTb_of (tm1 (List.mem_of_getElem? (i := 19) rfl)) rfl
set_option maxRecDepth 20000 in
theorem ac_int : Cond.arrayClass .int ∈ zTb := zTb_of (tm1 (List.mem_of_getElem? (i := 56) rfl)) rfl
set_option maxRecDepth 20000 in
theorem ac_bool : Cond.arrayClass .boolean ∈ zTb := zTb_of (tm3 (List.mem_of_getElem? (i := 237) rfl)) rfl
end
section
/-! whole numbers: every int on stack and in locals is jI of an Int, every long kI of one -/
abbrev jI (z : Int) : Int32 := Int32.ofInt z
abbrev kI (z : Int) : Int64 := Int64.ofInt z
abbrev i32 (z : Int) : Prop := -2147483648 ≤ z ∧ z < 2147483648
abbrev i64 (z : Int) : Prop := -9223372036854775808 ≤ z ∧ z < 9223372036854775808
theorem jI_toInt {z : Int} (h : i32 z) : (jI z).toInt = z := Int32.toInt_ofInt_of_le (by simpa using h.1) (by simpa using h.2)
theorem kI_toInt {z : Int} (h : i64 z) : (kI z).toInt = z := Int64.toInt_ofInt_of_le (by simpa using h.1) (by simpa using h.2)
theorem jI_of (x : Int32) : ∃ z : Int, i32 z ∧ x = jI z := ⟨x.toInt, ⟨by simpa using Int32.le_toInt x, by have := Int32.toInt_lt x; simpa using this⟩, by simp [jI]⟩
theorem kI_of (x : Int64) : ∃ z : Int, i64 z ∧ x = kI z := ⟨x.toInt, ⟨by simpa using Int64.le_toInt x, by have := Int64.toInt_lt x; simpa using this⟩, by simp [kI]⟩
theorem jI_inj {a b : Int} (ha : i32 a) (hb : i32 b) : jI a = jI b ↔ a = b := ⟨fun h => by have := congrArg Int32.toInt h; rwa [jI_toInt ha, jI_toInt hb] at this, fun h => by rw [h]⟩
theorem kI_inj {a b : Int} (ha : i64 a) (hb : i64 b) : kI a = kI b ↔ a = b := ⟨fun h => by have := congrArg Int64.toInt h; rwa [kI_toInt ha, kI_toInt hb] at this, fun h => by rw [h]⟩
theorem jI_lt {a b : Int} (ha : i32 a) (hb : i32 b) : jI a < jI b ↔ a < b := by rw [Int32.lt_iff_toInt_lt, jI_toInt ha, jI_toInt hb]
theorem jI_le {a b : Int} (ha : i32 a) (hb : i32 b) : jI a ≤ jI b ↔ a ≤ b := by rw [Int32.le_iff_toInt_le, jI_toInt ha, jI_toInt hb]
theorem jI_0 : jI 0 = 0 := rfl
theorem jI_n0 {y : Int} (hy : i32 y) (h0 : 0 < y) : ¬ jI y = 0 := fun q => by
  have := (jI_inj (b := 0) hy ⟨by decide, by decide⟩).mp q
  omega
theorem kI_n0 {y : Int} (hy : i64 y) (h0 : 0 < y) : ¬ kI y = 0 := fun q => by
  have := (kI_inj (b := 0) hy ⟨by decide, by decide⟩).mp q
  omega
theorem jI_clamp {z : Int} (h0 : 0 ≤ z) (h : i32 z) : (jI z).toNatClampNeg = z.toNat := by
  show (jI z).toInt.toNat = z.toNat
  rw [jI_toInt h]
theorem jI_in {z : Int} {N : Nat} (h0 : 0 ≤ z) (h : z < N) (hN : N < 2147483648) : vp_in (jI z) N := by
  have hz : i32 z := ⟨by omega, by omega⟩
  rintro (q | q)
  · rw [← jI_0, jI_lt hz ⟨by decide, by decide⟩] at q; omega
  · rw [jI_clamp h0 hz] at q; omega
theorem jI_add (a b : Int) : jI a + jI b = jI (a + b) := (Int32.ofInt_add a b).symm
theorem jI_sub (a b : Int) : jI a - jI b = jI (a - b) := (Int32.ofInt_sub a b).symm
theorem jI_mul (a b : Int) : jI a * jI b = jI (a * b) := (Int32.ofInt_mul a b).symm
theorem jI_neg (a : Int) : - jI a = jI (- a) := (Int32.ofInt_neg a).symm
theorem kI_add (a b : Int) : kI a + kI b = kI (a + b) := (Int64.ofInt_add a b).symm
theorem kI_sub (a b : Int) : kI a - kI b = kI (a - b) := (Int64.ofInt_sub a b).symm
theorem kI_mul (a b : Int) : kI a * kI b = kI (a * b) := (Int64.ofInt_mul a b).symm
theorem kI_neg (a : Int) : - kI a = kI (- a) := (Int64.ofInt_neg a).symm
theorem jI_div {a b : Int} (ha : i32 a) (hb : i32 b) (h1 : b ≠ -1) : jI a / jI b = jI (a.tdiv b) := by
  apply Int32.toInt_inj.mp
  rw [Int32.toInt_div_of_ne_right _ _ (by
    intro h
    have := congrArg Int32.toInt h
    rw [jI_toInt hb] at this
    exact h1 this), jI_toInt ha, jI_toInt hb, jI_toInt]
  have h2 := Int.natAbs_tdiv a b
  have h3 : (a.tdiv b).natAbs ≤ a.natAbs := by rw [h2]; exact Nat.div_le_self _ _
  constructor
  · omega
  · by_cases hb0 : b = 0
    · subst hb0; simp
    · have h4 : b.natAbs ≠ 1 ∨ b = 1 := by omega
      rcases h4 with h4 | h4
      · have : 2 ≤ b.natAbs := by omega
        have h5 : (a.tdiv b).natAbs ≤ a.natAbs / 2 := by rw [h2]; exact Nat.div_le_div_left this (by decide)
        omega
      · subst h4; simp; omega
theorem kI_div {a b : Int} (ha : i64 a) (hb : i64 b) (h1 : b ≠ -1) : kI a / kI b = kI (a.tdiv b) := by
  apply Int64.toInt_inj.mp
  rw [Int64.toInt_div_of_ne_right _ _ (by
    intro h
    have := congrArg Int64.toInt h
    rw [kI_toInt hb] at this
    exact h1 this), kI_toInt ha, kI_toInt hb, kI_toInt]
  have h2 := Int.natAbs_tdiv a b
  have h3 : (a.tdiv b).natAbs ≤ a.natAbs := by rw [h2]; exact Nat.div_le_self _ _
  constructor
  · omega
  · by_cases hb0 : b = 0
    · subst hb0; simp
    · have h4 : b.natAbs ≠ 1 ∨ b = 1 := by omega
      rcases h4 with h4 | h4
      · have : 2 ≤ b.natAbs := by omega
        have h5 : (a.tdiv b).natAbs ≤ a.natAbs / 2 := by rw [h2]; exact Nat.div_le_div_left this (by decide)
        omega
      · subst h4; simp; omega
theorem jI_rem {a b : Int} (ha : i32 a) (hb : i32 b) (h1 : b ≠ -1) : jI a - jI a / jI b * jI b = jI (a.tmod b) := by
  rw [jI_div ha hb h1, jI_mul, jI_sub]
  congr 1
  have := Int.mul_tdiv_add_tmod a b
  rw [Int.mul_comm] at this
  omega
theorem kI_rem {a b : Int} (ha : i64 a) (hb : i64 b) (h1 : b ≠ -1) : kI a - kI a / kI b * kI b = kI (a.tmod b) := by
  rw [kI_div ha hb h1, kI_mul, kI_sub]
  congr 1
  have := Int.mul_tdiv_add_tmod a b
  rw [Int.mul_comm] at this
  omega
theorem jI_kI {a : Int} (ha : i32 a) : (jI a).toInt64 = kI a := by
  apply Int64.toInt_inj.mp
  rw [Int32.toInt_toInt64, jI_toInt ha, kI_toInt ⟨by omega, by omega⟩]
theorem kI_jI (a : Int) : (kI a).toInt32 = jI a := Int64.toInt32_ofInt
theorem lg_cmp_k {a b : Int} (ha : i64 a) (hb : i64 b) : lg_cmp (kI a) (kI b) = jI (if b < a then 1 else if a = b then 0 else -1) := by
  unfold lg_cmp
  simp only [gt_iff_lt, Int64.lt_iff_toInt_lt, kI_toInt ha, kI_toInt hb, kI_inj ha hb]
  by_cases h1 : b < a
  · rw [if_pos h1, if_pos h1]; rfl
  · rw [if_neg h1, if_neg h1]
    by_cases h2 : a = b
    · rw [if_pos h2, if_pos h2]; rfl
    · rw [if_neg h2, if_neg h2]; rfl
/-- a function changed at one place -/
def iu (f : Int → Int) (k v : Int) : Int → Int := fun j => if j = k then v else f j
theorem iu_self (f : Int → Int) (k v : Int) : iu f k v k = v := by simp [iu]
theorem iu_ne (f : Int → Int) {k j : Int} (v : Int) (h : j ≠ k) : iu f k v j = f j := by simp [iu, h]
theorem iu_upd (f : Int → Int) {k : Int} (v : Int) (h0 : 0 ≤ k) : upd (fun i : Nat => jI (f i)) k.toNat (jI v) = fun i : Nat => jI (iu f k v i) := by
  funext i
  simp only [upd, iu]
  by_cases hi : i = k.toNat
  · rw [if_pos hi, if_pos (by omega)]
  · rw [if_neg hi, if_neg (by omega)]
section ZI
variable {p : Program} {l : Launch} {e : Env} {R : Room} {s : State} {m : MethodId} {args : Array Value} {below : List Frame} {meth : Method} {c : Code} {Q : State → Prop}
variable {cc : ByteArray} {own : String} {nL b0 pc k n : Nat} {G : zG} {h : zH} {lv : List (Nat × Value)} {st : List Value}
theorem zi_iadd (K : zC p s m args c cc own nL b0 G) {x y : Int} (hd : decode cc pc = .ok (.iadd, 1))  (kk : zW p l e R s m args below meth c nL b0 G k n Q h (pc + 1) lv (.int (jI (x + y)) :: st)) : zW p l e R s m args below meth c nL b0 G k n Q h pc lv (.int (jI y) :: .int (jI x) :: st) :=
  z_iadd K hd  ((jI_add x y).symm ▸ kk)
theorem zi_isub (K : zC p s m args c cc own nL b0 G) {x y : Int} (hd : decode cc pc = .ok (.isub, 1))  (kk : zW p l e R s m args below meth c nL b0 G k n Q h (pc + 1) lv (.int (jI (x - y)) :: st)) : zW p l e R s m args below meth c nL b0 G k n Q h pc lv (.int (jI y) :: .int (jI x) :: st) :=
  z_isub K hd  ((jI_sub x y).symm ▸ kk)
theorem zi_imul (K : zC p s m args c cc own nL b0 G) {x y : Int} (hd : decode cc pc = .ok (.imul, 1))  (kk : zW p l e R s m args below meth c nL b0 G k n Q h (pc + 1) lv (.int (jI (x * y)) :: st)) : zW p l e R s m args below meth c nL b0 G k n Q h pc lv (.int (jI y) :: .int (jI x) :: st) :=
  z_imul K hd  ((jI_mul x y).symm ▸ kk)
theorem zi_ladd (K : zC p s m args c cc own nL b0 G) {x y : Int} (hd : decode cc pc = .ok (.ladd, 1))  (kk : zW p l e R s m args below meth c nL b0 G k n Q h (pc + 1) lv (.long (kI (x + y)) :: st)) : zW p l e R s m args below meth c nL b0 G k n Q h pc lv (.long (kI y) :: .long (kI x) :: st) :=
  z_ladd K hd  ((kI_add x y).symm ▸ kk)
theorem zi_lsub (K : zC p s m args c cc own nL b0 G) {x y : Int} (hd : decode cc pc = .ok (.lsub, 1))  (kk : zW p l e R s m args below meth c nL b0 G k n Q h (pc + 1) lv (.long (kI (x - y)) :: st)) : zW p l e R s m args below meth c nL b0 G k n Q h pc lv (.long (kI y) :: .long (kI x) :: st) :=
  z_lsub K hd  ((kI_sub x y).symm ▸ kk)
theorem zi_lmul (K : zC p s m args c cc own nL b0 G) {x y : Int} (hd : decode cc pc = .ok (.lmul, 1))  (kk : zW p l e R s m args below meth c nL b0 G k n Q h (pc + 1) lv (.long (kI (x * y)) :: st)) : zW p l e R s m args below meth c nL b0 G k n Q h pc lv (.long (kI y) :: .long (kI x) :: st) :=
  z_lmul K hd  ((kI_mul x y).symm ▸ kk)
theorem zi_ineg (K : zC p s m args c cc own nL b0 G) {x : Int} (hd : decode cc pc = .ok (.ineg, 1))  (kk : zW p l e R s m args below meth c nL b0 G k n Q h (pc + 1) lv (.int (jI (-x)) :: st)) : zW p l e R s m args below meth c nL b0 G k n Q h pc lv (.int (jI x) :: st) :=
  z_ineg K hd  ((jI_neg x).symm ▸ kk)
theorem zi_lneg (K : zC p s m args c cc own nL b0 G) {x : Int} (hd : decode cc pc = .ok (.lneg, 1))  (kk : zW p l e R s m args below meth c nL b0 G k n Q h (pc + 1) lv (.long (kI (-x)) :: st)) : zW p l e R s m args below meth c nL b0 G k n Q h pc lv (.long (kI x) :: st) :=
  z_lneg K hd  ((kI_neg x).symm ▸ kk)
theorem zi_i2l (K : zC p s m args c cc own nL b0 G) {x : Int} (hd : decode cc pc = .ok (.i2l, 1)) (hx : i32 x) (kk : zW p l e R s m args below meth c nL b0 G k n Q h (pc + 1) lv (.long (kI x) :: st)) : zW p l e R s m args below meth c nL b0 G k n Q h pc lv (.int (jI x) :: st) :=
  z_i2l K hd  ((jI_kI hx).symm ▸ kk)
theorem zi_l2i (K : zC p s m args c cc own nL b0 G) {x : Int} (hd : decode cc pc = .ok (.l2i, 1))  (kk : zW p l e R s m args below meth c nL b0 G k n Q h (pc + 1) lv (.int (jI x) :: st)) : zW p l e R s m args below meth c nL b0 G k n Q h pc lv (.long (kI x) :: st) :=
  z_l2i K hd  ((kI_jI x).symm ▸ kk)
theorem zi_lcmp (K : zC p s m args c cc own nL b0 G) {x y : Int} (hd : decode cc pc = .ok (.lcmp, 1)) (hx : i64 x) (hy : i64 y) (kk : zW p l e R s m args below meth c nL b0 G k n Q h (pc + 1) lv (.int (jI (if y < x then 1 else if x = y then 0 else -1)) :: st)) : zW p l e R s m args below meth c nL b0 G k n Q h pc lv (.long (kI y) :: .long (kI x) :: st) :=
  z_lcmp K hd  ((lg_cmp_k hx hy).symm ▸ kk)
theorem zi_idiv (K : zC p s m args c cc own nL b0 G) {x y : Int} (hd : decode cc pc = .ok (.idiv, 1)) (hx : i32 x) (hy : i32 y) (h0 : 0 < y) (kk : zW p l e R s m args below meth c nL b0 G k n Q h (pc + 1) lv (.int (jI (x.tdiv y)) :: st)) : zW p l e R s m args below meth c nL b0 G k n Q h pc lv (.int (jI y) :: .int (jI x) :: st) :=
  z_idiv K hd (jI_n0 hy h0) ((jI_div hx hy (by omega)).symm ▸ kk)
theorem zi_irem (K : zC p s m args c cc own nL b0 G) {x y : Int} (hd : decode cc pc = .ok (.irem, 1)) (hx : i32 x) (hy : i32 y) (h0 : 0 < y) (kk : zW p l e R s m args below meth c nL b0 G k n Q h (pc + 1) lv (.int (jI (x.tmod y)) :: st)) : zW p l e R s m args below meth c nL b0 G k n Q h pc lv (.int (jI y) :: .int (jI x) :: st) :=
  z_irem K hd (jI_n0 hy h0) ((jI_rem hx hy (by omega)).symm ▸ kk)
theorem zi_ldiv (K : zC p s m args c cc own nL b0 G) {x y : Int} (hd : decode cc pc = .ok (.ldiv, 1)) (hx : i64 x) (hy : i64 y) (h0 : 0 < y) (kk : zW p l e R s m args below meth c nL b0 G k n Q h (pc + 1) lv (.long (kI (x.tdiv y)) :: st)) : zW p l e R s m args below meth c nL b0 G k n Q h pc lv (.long (kI y) :: .long (kI x) :: st) :=
  z_ldiv K hd (kI_n0 hy h0) ((kI_div hx hy (by omega)).symm ▸ kk)
theorem zi_lrem (K : zC p s m args c cc own nL b0 G) {x y : Int} (hd : decode cc pc = .ok (.lrem, 1)) (hx : i64 x) (hy : i64 y) (h0 : 0 < y) (kk : zW p l e R s m args below meth c nL b0 G k n Q h (pc + 1) lv (.long (kI (x.tmod y)) :: st)) : zW p l e R s m args below meth c nL b0 G k n Q h pc lv (.long (kI y) :: .long (kI x) :: st) :=
  z_lrem K hd (kI_n0 hy h0) ((kI_rem hx hy (by omega)).symm ▸ kk)
theorem zi_if_eq (K : zC p s m args c cc own nL b0 G) {x : Int} {off : Int} {tgt : Nat} (hd : decode cc pc = .ok (.ifCond .eq off, 3)) (ht : (pc : Int) + off = (tgt : Int)) (hx : i32 x) (kt : x = 0 → zW p l e R s m args below meth c nL b0 G k n Q h tgt lv st) (kf : ¬ x = 0 → zW p l e R s m args below meth c nL b0 G k n Q h (pc + 3) lv st) : zW p l e R s m args below meth c nL b0 G k n Q h pc lv (.int (jI x) :: st) :=
  z_if_eq K hd ht (fun q => kt ((jI_inj (b := 0) hx ⟨by decide, by decide⟩).mp q)) (fun q => kf (fun z => q ((jI_inj (b := 0) hx ⟨by decide, by decide⟩).mpr z)))
theorem zi_icmp_eq (K : zC p s m args c cc own nL b0 G) {x y : Int} {off : Int} {tgt : Nat} (hd : decode cc pc = .ok (.if_icmp .eq off, 3)) (ht : (pc : Int) + off = (tgt : Int)) (hx : i32 x) (hy : i32 y) (kt : x = y → zW p l e R s m args below meth c nL b0 G k n Q h tgt lv st) (kf : ¬ x = y → zW p l e R s m args below meth c nL b0 G k n Q h (pc + 3) lv st) : zW p l e R s m args below meth c nL b0 G k n Q h pc lv (.int (jI y) :: .int (jI x) :: st) :=
  z_icmp_eq K hd ht (fun q => kt ((jI_inj hx hy).mp q)) (fun q => kf (fun z => q ((jI_inj hx hy).mpr z)))
theorem zi_if_ne (K : zC p s m args c cc own nL b0 G) {x : Int} {off : Int} {tgt : Nat} (hd : decode cc pc = .ok (.ifCond .ne off, 3)) (ht : (pc : Int) + off = (tgt : Int)) (hx : i32 x) (kt : ¬ x = 0 → zW p l e R s m args below meth c nL b0 G k n Q h tgt lv st) (kf : x = 0 → zW p l e R s m args below meth c nL b0 G k n Q h (pc + 3) lv st) : zW p l e R s m args below meth c nL b0 G k n Q h pc lv (.int (jI x) :: st) :=
  z_if_ne K hd ht (fun q => kt (fun z => q ((jI_inj (b := 0) hx ⟨by decide, by decide⟩).mpr z))) (fun q => kf ((jI_inj (b := 0) hx ⟨by decide, by decide⟩).mp q))
theorem zi_icmp_ne (K : zC p s m args c cc own nL b0 G) {x y : Int} {off : Int} {tgt : Nat} (hd : decode cc pc = .ok (.if_icmp .ne off, 3)) (ht : (pc : Int) + off = (tgt : Int)) (hx : i32 x) (hy : i32 y) (kt : ¬ x = y → zW p l e R s m args below meth c nL b0 G k n Q h tgt lv st) (kf : x = y → zW p l e R s m args below meth c nL b0 G k n Q h (pc + 3) lv st) : zW p l e R s m args below meth c nL b0 G k n Q h pc lv (.int (jI y) :: .int (jI x) :: st) :=
  z_icmp_ne K hd ht (fun q => kt (fun z => q ((jI_inj hx hy).mpr z))) (fun q => kf ((jI_inj hx hy).mp q))
theorem zi_if_lt (K : zC p s m args c cc own nL b0 G) {x : Int} {off : Int} {tgt : Nat} (hd : decode cc pc = .ok (.ifCond .lt off, 3)) (ht : (pc : Int) + off = (tgt : Int)) (hx : i32 x) (kt : x < 0 → zW p l e R s m args below meth c nL b0 G k n Q h tgt lv st) (kf : 0 ≤ x → zW p l e R s m args below meth c nL b0 G k n Q h (pc + 3) lv st) : zW p l e R s m args below meth c nL b0 G k n Q h pc lv (.int (jI x) :: st) :=
  z_if_lt K hd ht (fun q => kt ((jI_lt (b := 0) hx ⟨by decide, by decide⟩).mp q)) (fun q => kf (Int.not_lt.mp (fun z => q ((jI_lt (b := 0) hx ⟨by decide, by decide⟩).mpr z))))
theorem zi_icmp_lt (K : zC p s m args c cc own nL b0 G) {x y : Int} {off : Int} {tgt : Nat} (hd : decode cc pc = .ok (.if_icmp .lt off, 3)) (ht : (pc : Int) + off = (tgt : Int)) (hx : i32 x) (hy : i32 y) (kt : x < y → zW p l e R s m args below meth c nL b0 G k n Q h tgt lv st) (kf : y ≤ x → zW p l e R s m args below meth c nL b0 G k n Q h (pc + 3) lv st) : zW p l e R s m args below meth c nL b0 G k n Q h pc lv (.int (jI y) :: .int (jI x) :: st) :=
  z_icmp_lt K hd ht (fun q => kt ((jI_lt hx hy).mp q)) (fun q => kf (Int.not_lt.mp (fun z => q ((jI_lt hx hy).mpr z))))
theorem zi_if_ge (K : zC p s m args c cc own nL b0 G) {x : Int} {off : Int} {tgt : Nat} (hd : decode cc pc = .ok (.ifCond .ge off, 3)) (ht : (pc : Int) + off = (tgt : Int)) (hx : i32 x) (kt : 0 ≤ x → zW p l e R s m args below meth c nL b0 G k n Q h tgt lv st) (kf : x < 0 → zW p l e R s m args below meth c nL b0 G k n Q h (pc + 3) lv st) : zW p l e R s m args below meth c nL b0 G k n Q h pc lv (.int (jI x) :: st) :=
  z_if_ge K hd ht (fun q => kt ((jI_le (a := 0) ⟨by decide, by decide⟩ hx).mp q)) (fun q => kf (Int.not_le.mp (fun z => q ((jI_le (a := 0) ⟨by decide, by decide⟩ hx).mpr z))))
theorem zi_icmp_ge (K : zC p s m args c cc own nL b0 G) {x y : Int} {off : Int} {tgt : Nat} (hd : decode cc pc = .ok (.if_icmp .ge off, 3)) (ht : (pc : Int) + off = (tgt : Int)) (hx : i32 x) (hy : i32 y) (kt : y ≤ x → zW p l e R s m args below meth c nL b0 G k n Q h tgt lv st) (kf : x < y → zW p l e R s m args below meth c nL b0 G k n Q h (pc + 3) lv st) : zW p l e R s m args below meth c nL b0 G k n Q h pc lv (.int (jI y) :: .int (jI x) :: st) :=
  z_icmp_ge K hd ht (fun q => kt ((jI_le hy hx).mp q)) (fun q => kf (Int.not_le.mp (fun z => q ((jI_le hy hx).mpr z))))
theorem zi_if_gt (K : zC p s m args c cc own nL b0 G) {x : Int} {off : Int} {tgt : Nat} (hd : decode cc pc = .ok (.ifCond .gt off, 3)) (ht : (pc : Int) + off = (tgt : Int)) (hx : i32 x) (kt : 0 < x → zW p l e R s m args below meth c nL b0 G k n Q h tgt lv st) (kf : x ≤ 0 → zW p l e R s m args below meth c nL b0 G k n Q h (pc + 3) lv st) : zW p l e R s m args below meth c nL b0 G k n Q h pc lv (.int (jI x) :: st) :=
  z_if_gt K hd ht (fun q => kt ((jI_lt (a := 0) ⟨by decide, by decide⟩ hx).mp q)) (fun q => kf (Int.not_lt.mp (fun z => q ((jI_lt (a := 0) ⟨by decide, by decide⟩ hx).mpr z))))
theorem zi_icmp_gt (K : zC p s m args c cc own nL b0 G) {x y : Int} {off : Int} {tgt : Nat} (hd : decode cc pc = .ok (.if_icmp .gt off, 3)) (ht : (pc : Int) + off = (tgt : Int)) (hx : i32 x) (hy : i32 y) (kt : y < x → zW p l e R s m args below meth c nL b0 G k n Q h tgt lv st) (kf : x ≤ y → zW p l e R s m args below meth c nL b0 G k n Q h (pc + 3) lv st) : zW p l e R s m args below meth c nL b0 G k n Q h pc lv (.int (jI y) :: .int (jI x) :: st) :=
  z_icmp_gt K hd ht (fun q => kt ((jI_lt hy hx).mp q)) (fun q => kf (Int.not_lt.mp (fun z => q ((jI_lt hy hx).mpr z))))
theorem zi_if_le (K : zC p s m args c cc own nL b0 G) {x : Int} {off : Int} {tgt : Nat} (hd : decode cc pc = .ok (.ifCond .le off, 3)) (ht : (pc : Int) + off = (tgt : Int)) (hx : i32 x) (kt : x ≤ 0 → zW p l e R s m args below meth c nL b0 G k n Q h tgt lv st) (kf : 0 < x → zW p l e R s m args below meth c nL b0 G k n Q h (pc + 3) lv st) : zW p l e R s m args below meth c nL b0 G k n Q h pc lv (.int (jI x) :: st) :=
  z_if_le K hd ht (fun q => kt ((jI_le (b := 0) hx ⟨by decide, by decide⟩).mp q)) (fun q => kf (Int.not_le.mp (fun z => q ((jI_le (b := 0) hx ⟨by decide, by decide⟩).mpr z))))
theorem zi_icmp_le (K : zC p s m args c cc own nL b0 G) {x y : Int} {off : Int} {tgt : Nat} (hd : decode cc pc = .ok (.if_icmp .le off, 3)) (ht : (pc : Int) + off = (tgt : Int)) (hx : i32 x) (hy : i32 y) (kt : x ≤ y → zW p l e R s m args below meth c nL b0 G k n Q h tgt lv st) (kf : y < x → zW p l e R s m args below meth c nL b0 G k n Q h (pc + 3) lv st) : zW p l e R s m args below meth c nL b0 G k n Q h pc lv (.int (jI y) :: .int (jI x) :: st) :=
  z_icmp_le K hd ht (fun q => kt ((jI_le hx hy).mp q)) (fun q => kf (Int.not_le.mp (fun z => q ((jI_le hx hy).mpr z))))
theorem zi_iinc (K : zC p s m args c cc own nL b0 G) {a : Nat} {j x : Int} (hd : decode cc pc = .ok (.iinc a j, 3)) (hl : zl lv a = some (.int (jI x))) (hn : a < nL) (kk : zW p l e R s m args below meth c nL b0 G k n Q h (pc + 3) (zs1 a (.int (jI (x + j))) lv) st) : zW p l e R s m args below meth c nL b0 G k n Q h pc lv st :=
  z_iinc K hd hl hn ((jI_add x j).symm ▸ kk)
theorem zi_iald (K : zC p s m args c cc own nL b0 G) (t0 : Nat) {a N : Nat} {cA : ClassId} {f : Int → Int} {j : Int} (hf : h.2 a = .inl (cA, N, .inl (fun i : Nat => jI (f i)))) (ht : (zTys G)[t0]? = some (cA, .int)) (h0 : 0 ≤ j) (hj : j < N) (hN : N < 2147483648) (hd : decode cc pc = .ok (.iaload, 1)) (kk : zW p l e R s m args below meth c nL b0 G k n Q h (pc + 1) lv (.int (jI (f j)) :: st)) : zW p l e R s m args below meth c nL b0 G k n Q h pc lv (.int (jI j) :: .ref a :: st) :=
  z_iald K hf ht (jI_in h0 hj hN) hd (by rw [jI_clamp h0 ⟨by omega, by omega⟩, Int.toNat_of_nonneg h0]; exact kk)
theorem zi_zald (K : zC p s m args c cc own nL b0 G) (t0 : Nat) {a N : Nat} {cA : ClassId} {f : Int → Int} {j : Int} (hf : h.2 a = .inl (cA, N, .inl (fun i : Nat => jI (f i)))) (ht : (zTys G)[t0]? = some (cA, .boolean)) (h0 : 0 ≤ j) (hj : j < N) (hN : N < 2147483648) (hd : decode cc pc = .ok (.baload, 1)) (kk : zW p l e R s m args below meth c nL b0 G k n Q h (pc + 1) lv (.int (jI (f j)) :: st)) : zW p l e R s m args below meth c nL b0 G k n Q h pc lv (.int (jI j) :: .ref a :: st) :=
  z_zald K hf ht (jI_in h0 hj hN) hd (by rw [jI_clamp h0 ⟨by omega, by omega⟩, Int.toNat_of_nonneg h0]; exact kk)
theorem zi_iast (K : zC p s m args c cc own nL b0 G) (t0 : Nat) {a N : Nat} {cA : ClassId} {f : Int → Int} {j v : Int} (hf : h.2 a = .inl (cA, N, .inl (fun i : Nat => jI (f i)))) (ht : (zTys G)[t0]? = some (cA, .int)) (h0 : 0 ≤ j) (hj : j < N) (hN : N < 2147483648) (hd : decode cc pc = .ok (.iastore, 1)) (kk : zW p l e R s m args below meth c nL b0 G k n Q (h.1, va_up h.2 a (.inl (cA, N, .inl (fun i : Nat => jI (iu f j v i))))) (pc + 1) lv st) : zW p l e R s m args below meth c nL b0 G k n Q h pc lv (.int (jI v) :: .int (jI j) :: .ref a :: st) :=
  z_iast K hf ht (jI_in h0 hj hN) hd (by rw [jI_clamp h0 ⟨by omega, by omega⟩, iu_upd f v h0]; exact kk)
theorem zi_zast (K : zC p s m args c cc own nL b0 G) (t0 : Nat) {a N : Nat} {cA : ClassId} {f : Int → Int} {j v : Int} (hf : h.2 a = .inl (cA, N, .inl (fun i : Nat => jI (f i)))) (ht : (zTys G)[t0]? = some (cA, .boolean)) (h0 : 0 ≤ j) (hj : j < N) (hN : N < 2147483648) (hv : v = 0 ∨ v = 1) (hd : decode cc pc = .ok (.bastore, 1)) (kk : zW p l e R s m args below meth c nL b0 G k n Q (h.1, va_up h.2 a (.inl (cA, N, .inl (fun i : Nat => jI (iu f j v i))))) (pc + 1) lv st) : zW p l e R s m args below meth c nL b0 G k n Q h pc lv (.int (jI v) :: .int (jI j) :: .ref a :: st) :=
  z_zast K hf ht (jI_in h0 hj hN) (by rcases hv with rfl | rfl <;> decide) hd (by rw [jI_clamp h0 ⟨by omega, by omega⟩, iu_upd f v h0]; exact kk)
end ZI
end
