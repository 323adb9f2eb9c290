section
-- ===== PART A: goes FIRST, ahead of the names: the tables' words, and 'selects' of the private methods out of them =====
/-- a private method of a class that the tables say can be made, by its rows of tables_1 -/
def lw_okq (q : MethodName × Nat) : Prop := (q.1.cls ≠ "java/lang/invoke/MethodHandle" ∧ q.1.cls ≠ "java/lang/invoke/VarHandle") ∧ Cond.instantiable q.1.cls q.2 ∈ tables_1 ∧ Cond.privateMethod q.1 ∈ tables_1 ∧ Cond.instanceMethod q.1 ∈ tables_1
theorem lw_p0 : lw_okq (⟨"ArborescenceFinder", "keepForUndo", "()V"⟩, 14) := ⟨⟨by decide +kernel, by decide +kernel⟩, List.mem_of_getElem? (i := 14) (by decide +kernel), List.mem_of_getElem? (i := 302) (by decide +kernel), List.mem_of_getElem? (i := 303) (by decide +kernel)⟩
theorem lw_p1 : lw_okq (⟨"ArborescenceFinder", "settleRecord", "(Z)V"⟩, 14) := ⟨⟨by decide +kernel, by decide +kernel⟩, List.mem_of_getElem? (i := 14) (by decide +kernel), List.mem_of_getElem? (i := 327) (by decide +kernel), List.mem_of_getElem? (i := 328) (by decide +kernel)⟩
theorem lw_p2 : lw_okq (⟨"ArborescenceFinder$GraphText", "takeDigit", "(II)I"⟩, 3) := ⟨⟨by decide +kernel, by decide +kernel⟩, List.mem_of_getElem? (i := 144) (by decide +kernel), List.mem_of_getElem? (i := 455) (by decide +kernel), List.mem_of_getElem? (i := 456) (by decide +kernel)⟩
theorem lw_p3 : lw_okq (⟨"ArborescenceFinder$GraphText", "takeSign", "(C)Z"⟩, 3) := ⟨⟨by decide +kernel, by decide +kernel⟩, List.mem_of_getElem? (i := 144) (by decide +kernel), List.mem_of_getElem? (i := 459) (by decide +kernel), List.mem_of_getElem? (i := 460) (by decide +kernel)⟩
theorem lw_p4 : lw_okq (⟨"ArborescenceFinder$GraphText", "readArc", "(LArborescenceFinder$Graph;)Z"⟩, 3) := ⟨⟨by decide +kernel, by decide +kernel⟩, List.mem_of_getElem? (i := 144) (by decide +kernel), List.mem_of_getElem? (i := 464) (by decide +kernel), List.mem_of_getElem? (i := 465) (by decide +kernel)⟩
theorem lw_p5 : lw_okq (⟨"ArborescenceFinder$GraphText", "takeNumber", "()I"⟩, 3) := ⟨⟨by decide +kernel, by decide +kernel⟩, List.mem_of_getElem? (i := 144) (by decide +kernel), List.mem_of_getElem? (i := 468) (by decide +kernel), List.mem_of_getElem? (i := 469) (by decide +kernel)⟩
theorem lw_p6 : lw_okq (⟨"ArborescenceFinder", "haveRecord", "()Z"⟩, 14) := ⟨⟨by decide +kernel, by decide +kernel⟩, List.mem_of_getElem? (i := 14) (by decide +kernel), List.mem_of_getElem? (i := 494) (by decide +kernel), List.mem_of_getElem? (i := 495) (by decide +kernel)⟩
theorem lw_p7 : lw_okq (⟨"ArborescenceFinder$Contraction", "prepare", "(LArborescenceFinder$Graph;[I)V"⟩, 5) := ⟨⟨by decide +kernel, by decide +kernel⟩, List.mem_of_getElem? (i := 166) (by decide +kernel), List.mem_of_getElem? (i := 502) (by decide +kernel), List.mem_of_getElem? (i := 503) (by decide +kernel)⟩
theorem lw_p8 : lw_okq (⟨"ArborescenceFinder$Contraction", "nextGroup", "(LArborescenceFinder$Graph;)I"⟩, 5) := ⟨⟨by decide +kernel, by decide +kernel⟩, List.mem_of_getElem? (i := 166) (by decide +kernel), List.mem_of_getElem? (i := 515) (by decide +kernel), List.mem_of_getElem? (i := 516) (by decide +kernel)⟩
theorem lw_p9 : lw_okq (⟨"ArborescenceFinder$Contraction", "readOff", "(LArborescenceFinder$Graph;)V"⟩, 5) := ⟨⟨by decide +kernel, by decide +kernel⟩, List.mem_of_getElem? (i := 166) (by decide +kernel), List.mem_of_getElem? (i := 519) (by decide +kernel), List.mem_of_getElem? (i := 520) (by decide +kernel)⟩
theorem lw_p10 : lw_okq (⟨"ArborescenceFinder$Contraction", "cheapestEntering", "(LArborescenceFinder$Graph;II)I"⟩, 5) := ⟨⟨by decide +kernel, by decide +kernel⟩, List.mem_of_getElem? (i := 166) (by decide +kernel), List.mem_of_getElem? (i := 524) (by decide +kernel), List.mem_of_getElem? (i := 525) (by decide +kernel)⟩
theorem lw_p11 : lw_okq (⟨"ArborescenceFinder$Contraction", "setDual", "(LArborescenceFinder$Graph;I)V"⟩, 5) := ⟨⟨by decide +kernel, by decide +kernel⟩, List.mem_of_getElem? (i := 166) (by decide +kernel), List.mem_of_getElem? (i := 532) (by decide +kernel), List.mem_of_getElem? (i := 533) (by decide +kernel)⟩
theorem lw_p12 : lw_okq (⟨"ArborescenceFinder$Contraction", "closesCycle", "(LArborescenceFinder$Graph;I)Z"⟩, 5) := ⟨⟨by decide +kernel, by decide +kernel⟩, List.mem_of_getElem? (i := 166) (by decide +kernel), List.mem_of_getElem? (i := 536) (by decide +kernel), List.mem_of_getElem? (i := 537) (by decide +kernel)⟩
theorem lw_p13 : lw_okq (⟨"ArborescenceFinder$Contraction", "groupBefore", "(LArborescenceFinder$Graph;I)I"⟩, 5) := ⟨⟨by decide +kernel, by decide +kernel⟩, List.mem_of_getElem? (i := 166) (by decide +kernel), List.mem_of_getElem? (i := 540) (by decide +kernel), List.mem_of_getElem? (i := 541) (by decide +kernel)⟩
theorem lw_p14 : lw_okq (⟨"ArborescenceFinder$Contraction", "uniteCycle", "(LArborescenceFinder$Graph;I)V"⟩, 5) := ⟨⟨by decide +kernel, by decide +kernel⟩, List.mem_of_getElem? (i := 166) (by decide +kernel), List.mem_of_getElem? (i := 544) (by decide +kernel), List.mem_of_getElem? (i := 545) (by decide +kernel)⟩
theorem lw_p15 : lw_okq (⟨"ArborescenceFinder", "recordedCost", "()I"⟩, 14) := ⟨⟨by decide +kernel, by decide +kernel⟩, List.mem_of_getElem? (i := 14) (by decide +kernel), List.mem_of_getElem? (i := 550) (by decide +kernel), List.mem_of_getElem? (i := 551) (by decide +kernel)⟩
def lw_privs_1 : List (MethodName × Nat) := [(⟨"ArborescenceFinder", "keepForUndo", "()V"⟩, 14), (⟨"ArborescenceFinder", "settleRecord", "(Z)V"⟩, 14), (⟨"ArborescenceFinder$GraphText", "takeDigit", "(II)I"⟩, 3), (⟨"ArborescenceFinder$GraphText", "takeSign", "(C)Z"⟩, 3), (⟨"ArborescenceFinder$GraphText", "readArc", "(LArborescenceFinder$Graph;)Z"⟩, 3), (⟨"ArborescenceFinder$GraphText", "takeNumber", "()I"⟩, 3), (⟨"ArborescenceFinder", "haveRecord", "()Z"⟩, 14), (⟨"ArborescenceFinder$Contraction", "prepare", "(LArborescenceFinder$Graph;[I)V"⟩, 5), (⟨"ArborescenceFinder$Contraction", "nextGroup", "(LArborescenceFinder$Graph;)I"⟩, 5), (⟨"ArborescenceFinder$Contraction", "readOff", "(LArborescenceFinder$Graph;)V"⟩, 5), (⟨"ArborescenceFinder$Contraction", "cheapestEntering", "(LArborescenceFinder$Graph;II)I"⟩, 5), (⟨"ArborescenceFinder$Contraction", "setDual", "(LArborescenceFinder$Graph;I)V"⟩, 5), (⟨"ArborescenceFinder$Contraction", "closesCycle", "(LArborescenceFinder$Graph;I)Z"⟩, 5), (⟨"ArborescenceFinder$Contraction", "groupBefore", "(LArborescenceFinder$Graph;I)I"⟩, 5), (⟨"ArborescenceFinder$Contraction", "uniteCycle", "(LArborescenceFinder$Graph;I)V"⟩, 5), (⟨"ArborescenceFinder", "recordedCost", "()I"⟩, 14)]
theorem lw_r1 : ∀ q ∈ lw_privs_1, lw_okq q := List.forall_mem_cons.mpr ⟨lw_p0, List.forall_mem_cons.mpr ⟨lw_p1, List.forall_mem_cons.mpr ⟨lw_p2, List.forall_mem_cons.mpr ⟨lw_p3, List.forall_mem_cons.mpr ⟨lw_p4, List.forall_mem_cons.mpr ⟨lw_p5, List.forall_mem_cons.mpr ⟨lw_p6, List.forall_mem_cons.mpr ⟨lw_p7, List.forall_mem_cons.mpr ⟨lw_p8, List.forall_mem_cons.mpr ⟨lw_p9, List.forall_mem_cons.mpr ⟨lw_p10, List.forall_mem_cons.mpr ⟨lw_p11, List.forall_mem_cons.mpr ⟨lw_p12, List.forall_mem_cons.mpr ⟨lw_p13, List.forall_mem_cons.mpr ⟨lw_p14, List.forall_mem_cons.mpr ⟨lw_p15, fun _ h => absurd h List.not_mem_nil⟩⟩⟩⟩⟩⟩⟩⟩⟩⟩⟩⟩⟩⟩⟩⟩
theorem lw_p16 : lw_okq (⟨"ArborescenceFinder", "cheapestWithout", "(I)I"⟩, 14) := ⟨⟨by decide +kernel, by decide +kernel⟩, List.mem_of_getElem? (i := 14) (by decide +kernel), List.mem_of_getElem? (i := 587) (by decide +kernel), List.mem_of_getElem? (i := 588) (by decide +kernel)⟩
theorem lw_p17 : lw_okq (⟨"ArborescenceFinder", "cheapestAmong", "(I)I"⟩, 14) := ⟨⟨by decide +kernel, by decide +kernel⟩, List.mem_of_getElem? (i := 14) (by decide +kernel), List.mem_of_getElem? (i := 591) (by decide +kernel), List.mem_of_getElem? (i := 592) (by decide +kernel)⟩
theorem lw_p18 : lw_okq (⟨"ArborescenceFinder", "cheapestWith", "(I)I"⟩, 14) := ⟨⟨by decide +kernel, by decide +kernel⟩, List.mem_of_getElem? (i := 14) (by decide +kernel), List.mem_of_getElem? (i := 599) (by decide +kernel), List.mem_of_getElem? (i := 600) (by decide +kernel)⟩
theorem lw_p19 : lw_okq (⟨"ArborescenceFinder", "isNecessary", "(I)Z"⟩, 14) := ⟨⟨by decide +kernel, by decide +kernel⟩, List.mem_of_getElem? (i := 14) (by decide +kernel), List.mem_of_getElem? (i := 620) (by decide +kernel), List.mem_of_getElem? (i := 621) (by decide +kernel)⟩
theorem lw_p20 : lw_okq (⟨"ArborescenceFinder$LimitedSearch", "prepare", "(LArborescenceFinder$Graph;[I)V"⟩, 7) := ⟨⟨by decide +kernel, by decide +kernel⟩, List.mem_of_getElem? (i := 194) (by decide +kernel), List.mem_of_getElem? (i := 633) (by decide +kernel), List.mem_of_getElem? (i := 634) (by decide +kernel)⟩
theorem lw_p21 : lw_okq (⟨"ArborescenceFinder$LimitedSearch", "take", "(LArborescenceFinder$Graph;)V"⟩, 7) := ⟨⟨by decide +kernel, by decide +kernel⟩, List.mem_of_getElem? (i := 194) (by decide +kernel), List.mem_of_getElem? (i := 642) (by decide +kernel), List.mem_of_getElem? (i := 643) (by decide +kernel)⟩
theorem lw_p22 : lw_okq (⟨"ArborescenceFinder$LimitedSearch", "isUseful", "(I)Z"⟩, 7) := ⟨⟨by decide +kernel, by decide +kernel⟩, List.mem_of_getElem? (i := 194) (by decide +kernel), List.mem_of_getElem? (i := 646) (by decide +kernel), List.mem_of_getElem? (i := 647) (by decide +kernel)⟩
theorem lw_p23 : lw_okq (⟨"ArborescenceFinder$LimitedSearch", "canTake", "(LArborescenceFinder$Graph;I)Z"⟩, 7) := ⟨⟨by decide +kernel, by decide +kernel⟩, List.mem_of_getElem? (i := 194) (by decide +kernel), List.mem_of_getElem? (i := 650) (by decide +kernel), List.mem_of_getElem? (i := 651) (by decide +kernel)⟩
theorem lw_p24 : lw_okq (⟨"ArborescenceFinder$PriceRounds", "setPricedCosts", "(LArborescenceFinder$Graph;)V"⟩, 3) := ⟨⟨by decide +kernel, by decide +kernel⟩, List.mem_of_getElem? (i := 224) (by decide +kernel), List.mem_of_getElem? (i := 669) (by decide +kernel), List.mem_of_getElem? (i := 670) (by decide +kernel)⟩
theorem lw_p25 : lw_okq (⟨"ArborescenceFinder$PriceRounds", "boundOf", "(LArborescenceFinder$Graph;LArborescenceFinder$Groups;)I"⟩, 3) := ⟨⟨by decide +kernel, by decide +kernel⟩, List.mem_of_getElem? (i := 224) (by decide +kernel), List.mem_of_getElem? (i := 674) (by decide +kernel), List.mem_of_getElem? (i := 675) (by decide +kernel)⟩
theorem lw_p26 : lw_okq (⟨"ArborescenceFinder$PriceRounds", "changePrices", "(LArborescenceFinder$Graph;LArborescenceFinder$Groups;I)V"⟩, 3) := ⟨⟨by decide +kernel, by decide +kernel⟩, List.mem_of_getElem? (i := 224) (by decide +kernel), List.mem_of_getElem? (i := 679) (by decide +kernel), List.mem_of_getElem? (i := 680) (by decide +kernel)⟩
theorem lw_p27 : lw_okq (⟨"ArborescenceFinder$TreeCounter", "fill", "(LArborescenceFinder$Graph;I)V"⟩, 1) := ⟨⟨by decide +kernel, by decide +kernel⟩, List.mem_of_getElem? (i := 242) (by decide +kernel), List.mem_of_getElem? (i := 699) (by decide +kernel), List.mem_of_getElem? (i := 700) (by decide +kernel)⟩
theorem lw_p28 : lw_okq (⟨"ArborescenceFinder$TreeCounter", "determinant", "(I)J"⟩, 1) := ⟨⟨by decide +kernel, by decide +kernel⟩, List.mem_of_getElem? (i := 242) (by decide +kernel), List.mem_of_getElem? (i := 704) (by decide +kernel), List.mem_of_getElem? (i := 705) (by decide +kernel)⟩
theorem lw_p29 : lw_okq (⟨"ArborescenceFinder$TreeCounter", "eliminate", "(IIJ)V"⟩, 1) := ⟨⟨by decide +kernel, by decide +kernel⟩, List.mem_of_getElem? (i := 242) (by decide +kernel), List.mem_of_getElem? (i := 708) (by decide +kernel), List.mem_of_getElem? (i := 709) (by decide +kernel)⟩
theorem lw_p30 : lw_okq (⟨"ArborescenceFinderModel", "clear", "(II)V"⟩, 27) := ⟨⟨by decide +kernel, by decide +kernel⟩, List.mem_of_getElem? (i := 725) (by decide +kernel), List.mem_of_getElem? (i := 731) (by decide +kernel), List.mem_of_getElem? (i := 732) (by decide +kernel)⟩
theorem lw_p31 : lw_okq (⟨"ArborescenceFinderModel", "keep", "()V"⟩, 27) := ⟨⟨by decide +kernel, by decide +kernel⟩, List.mem_of_getElem? (i := 725) (by decide +kernel), List.mem_of_getElem? (i := 824) (by decide +kernel), List.mem_of_getElem? (i := 825) (by decide +kernel)⟩
def lw_privs_2 : List (MethodName × Nat) := [(⟨"ArborescenceFinder", "cheapestWithout", "(I)I"⟩, 14), (⟨"ArborescenceFinder", "cheapestAmong", "(I)I"⟩, 14), (⟨"ArborescenceFinder", "cheapestWith", "(I)I"⟩, 14), (⟨"ArborescenceFinder", "isNecessary", "(I)Z"⟩, 14), (⟨"ArborescenceFinder$LimitedSearch", "prepare", "(LArborescenceFinder$Graph;[I)V"⟩, 7), (⟨"ArborescenceFinder$LimitedSearch", "take", "(LArborescenceFinder$Graph;)V"⟩, 7), (⟨"ArborescenceFinder$LimitedSearch", "isUseful", "(I)Z"⟩, 7), (⟨"ArborescenceFinder$LimitedSearch", "canTake", "(LArborescenceFinder$Graph;I)Z"⟩, 7), (⟨"ArborescenceFinder$PriceRounds", "setPricedCosts", "(LArborescenceFinder$Graph;)V"⟩, 3), (⟨"ArborescenceFinder$PriceRounds", "boundOf", "(LArborescenceFinder$Graph;LArborescenceFinder$Groups;)I"⟩, 3), (⟨"ArborescenceFinder$PriceRounds", "changePrices", "(LArborescenceFinder$Graph;LArborescenceFinder$Groups;I)V"⟩, 3), (⟨"ArborescenceFinder$TreeCounter", "fill", "(LArborescenceFinder$Graph;I)V"⟩, 1), (⟨"ArborescenceFinder$TreeCounter", "determinant", "(I)J"⟩, 1), (⟨"ArborescenceFinder$TreeCounter", "eliminate", "(IIJ)V"⟩, 1), (⟨"ArborescenceFinderModel", "clear", "(II)V"⟩, 27), (⟨"ArborescenceFinderModel", "keep", "()V"⟩, 27)]
theorem lw_r2 : ∀ q ∈ lw_privs_2, lw_okq q := List.forall_mem_cons.mpr ⟨lw_p16, List.forall_mem_cons.mpr ⟨lw_p17, List.forall_mem_cons.mpr ⟨lw_p18, List.forall_mem_cons.mpr ⟨lw_p19, List.forall_mem_cons.mpr ⟨lw_p20, List.forall_mem_cons.mpr ⟨lw_p21, List.forall_mem_cons.mpr ⟨lw_p22, List.forall_mem_cons.mpr ⟨lw_p23, List.forall_mem_cons.mpr ⟨lw_p24, List.forall_mem_cons.mpr ⟨lw_p25, List.forall_mem_cons.mpr ⟨lw_p26, List.forall_mem_cons.mpr ⟨lw_p27, List.forall_mem_cons.mpr ⟨lw_p28, List.forall_mem_cons.mpr ⟨lw_p29, List.forall_mem_cons.mpr ⟨lw_p30, List.forall_mem_cons.mpr ⟨lw_p31, fun _ h => absurd h List.not_mem_nil⟩⟩⟩⟩⟩⟩⟩⟩⟩⟩⟩⟩⟩⟩⟩⟩
theorem lw_p32 : lw_okq (⟨"ArborescenceFinderModel", "isNode", "(I)Z"⟩, 27) := ⟨⟨by decide +kernel, by decide +kernel⟩, List.mem_of_getElem? (i := 725) (by decide +kernel), List.mem_of_getElem? (i := 832) (by decide +kernel), List.mem_of_getElem? (i := 833) (by decide +kernel)⟩
theorem lw_p33 : lw_okq (⟨"ArborescenceFinderModel", "append", "(III)V"⟩, 27) := ⟨⟨by decide +kernel, by decide +kernel⟩, List.mem_of_getElem? (i := 725) (by decide +kernel), List.mem_of_getElem? (i := 836) (by decide +kernel), List.mem_of_getElem? (i := 837) (by decide +kernel)⟩
theorem lw_p34 : lw_okq (⟨"ArborescenceFinderModel", "reduced", "(I)I"⟩, 27) := ⟨⟨by decide +kernel, by decide +kernel⟩, List.mem_of_getElem? (i := 725) (by decide +kernel), List.mem_of_getElem? (i := 840) (by decide +kernel), List.mem_of_getElem? (i := 841) (by decide +kernel)⟩
theorem lw_p35 : lw_okq (⟨"ArborescenceFinderModel", "judge", "(Z)V"⟩, 27) := ⟨⟨by decide +kernel, by decide +kernel⟩, List.mem_of_getElem? (i := 725) (by decide +kernel), List.mem_of_getElem? (i := 847) (by decide +kernel), List.mem_of_getElem? (i := 848) (by decide +kernel)⟩
theorem lw_p36 : lw_okq (⟨"ArborescenceFinderModel", "isArc", "(I)Z"⟩, 27) := ⟨⟨by decide +kernel, by decide +kernel⟩, List.mem_of_getElem? (i := 725) (by decide +kernel), List.mem_of_getElem? (i := 855) (by decide +kernel), List.mem_of_getElem? (i := 856) (by decide +kernel)⟩
theorem lw_p37 : lw_okq (⟨"ArborescenceFinderModel", "isInTree", "(I)Z"⟩, 27) := ⟨⟨by decide +kernel, by decide +kernel⟩, List.mem_of_getElem? (i := 725) (by decide +kernel), List.mem_of_getElem? (i := 859) (by decide +kernel), List.mem_of_getElem? (i := 860) (by decide +kernel)⟩
theorem lw_p38 : lw_okq (⟨"ArborescenceFinderModel", "drawn", "(I)I"⟩, 27) := ⟨⟨by decide +kernel, by decide +kernel⟩, List.mem_of_getElem? (i := 725) (by decide +kernel), List.mem_of_getElem? (i := 879) (by decide +kernel), List.mem_of_getElem? (i := 880) (by decide +kernel)⟩
theorem lw_p39 : lw_okq (⟨"ArborescenceFinderModel", "parse", "()I"⟩, 27) := ⟨⟨by decide +kernel, by decide +kernel⟩, List.mem_of_getElem? (i := 725) (by decide +kernel), List.mem_of_getElem? (i := 923) (by decide +kernel), List.mem_of_getElem? (i := 924) (by decide +kernel)⟩
theorem lw_p40 : lw_okq (⟨"ArborescenceFinderModel", "digit", "(III)I"⟩, 27) := ⟨⟨by decide +kernel, by decide +kernel⟩, List.mem_of_getElem? (i := 725) (by decide +kernel), List.mem_of_getElem? (i := 927) (by decide +kernel), List.mem_of_getElem? (i := 928) (by decide +kernel)⟩
theorem lw_p41 : lw_okq (⟨"ArborescenceFinderModel", "sign", "(I)V"⟩, 27) := ⟨⟨by decide +kernel, by decide +kernel⟩, List.mem_of_getElem? (i := 725) (by decide +kernel), List.mem_of_getElem? (i := 931) (by decide +kernel), List.mem_of_getElem? (i := 932) (by decide +kernel)⟩
theorem lw_p42 : lw_okq (⟨"ArborescenceFinderModel", "hasRecord", "()Z"⟩, 27) := ⟨⟨by decide +kernel, by decide +kernel⟩, List.mem_of_getElem? (i := 725) (by decide +kernel), List.mem_of_getElem? (i := 955) (by decide +kernel), List.mem_of_getElem? (i := 956) (by decide +kernel)⟩
theorem lw_p43 : lw_okq (⟨"ArborescenceFinderModel", "useAll", "()V"⟩, 27) := ⟨⟨by decide +kernel, by decide +kernel⟩, List.mem_of_getElem? (i := 725) (by decide +kernel), List.mem_of_getElem? (i := 959) (by decide +kernel), List.mem_of_getElem? (i := 960) (by decide +kernel)⟩
theorem lw_p44 : lw_okq (⟨"ArborescenceFinderModel", "contracts", "()Z"⟩, 27) := ⟨⟨by decide +kernel, by decide +kernel⟩, List.mem_of_getElem? (i := 725) (by decide +kernel), List.mem_of_getElem? (i := 963) (by decide +kernel), List.mem_of_getElem? (i := 964) (by decide +kernel)⟩
theorem lw_p45 : lw_okq (⟨"ArborescenceFinderModel", "newGroup", "(I)I"⟩, 27) := ⟨⟨by decide +kernel, by decide +kernel⟩, List.mem_of_getElem? (i := 725) (by decide +kernel), List.mem_of_getElem? (i := 967) (by decide +kernel), List.mem_of_getElem? (i := 968) (by decide +kernel)⟩
theorem lw_p46 : lw_okq (⟨"ArborescenceFinderModel", "nextGroup", "()I"⟩, 27) := ⟨⟨by decide +kernel, by decide +kernel⟩, List.mem_of_getElem? (i := 725) (by decide +kernel), List.mem_of_getElem? (i := 971) (by decide +kernel), List.mem_of_getElem? (i := 972) (by decide +kernel)⟩
theorem lw_p47 : lw_okq (⟨"ArborescenceFinderModel", "topOf", "(I)I"⟩, 27) := ⟨⟨by decide +kernel, by decide +kernel⟩, List.mem_of_getElem? (i := 725) (by decide +kernel), List.mem_of_getElem? (i := 975) (by decide +kernel), List.mem_of_getElem? (i := 976) (by decide +kernel)⟩
def lw_privs_3 : List (MethodName × Nat) := [(⟨"ArborescenceFinderModel", "isNode", "(I)Z"⟩, 27), (⟨"ArborescenceFinderModel", "append", "(III)V"⟩, 27), (⟨"ArborescenceFinderModel", "reduced", "(I)I"⟩, 27), (⟨"ArborescenceFinderModel", "judge", "(Z)V"⟩, 27), (⟨"ArborescenceFinderModel", "isArc", "(I)Z"⟩, 27), (⟨"ArborescenceFinderModel", "isInTree", "(I)Z"⟩, 27), (⟨"ArborescenceFinderModel", "drawn", "(I)I"⟩, 27), (⟨"ArborescenceFinderModel", "parse", "()I"⟩, 27), (⟨"ArborescenceFinderModel", "digit", "(III)I"⟩, 27), (⟨"ArborescenceFinderModel", "sign", "(I)V"⟩, 27), (⟨"ArborescenceFinderModel", "hasRecord", "()Z"⟩, 27), (⟨"ArborescenceFinderModel", "useAll", "()V"⟩, 27), (⟨"ArborescenceFinderModel", "contracts", "()Z"⟩, 27), (⟨"ArborescenceFinderModel", "newGroup", "(I)I"⟩, 27), (⟨"ArborescenceFinderModel", "nextGroup", "()I"⟩, 27), (⟨"ArborescenceFinderModel", "topOf", "(I)I"⟩, 27)]
theorem lw_r3 : ∀ q ∈ lw_privs_3, lw_okq q := List.forall_mem_cons.mpr ⟨lw_p32, List.forall_mem_cons.mpr ⟨lw_p33, List.forall_mem_cons.mpr ⟨lw_p34, List.forall_mem_cons.mpr ⟨lw_p35, List.forall_mem_cons.mpr ⟨lw_p36, List.forall_mem_cons.mpr ⟨lw_p37, List.forall_mem_cons.mpr ⟨lw_p38, List.forall_mem_cons.mpr ⟨lw_p39, List.forall_mem_cons.mpr ⟨lw_p40, List.forall_mem_cons.mpr ⟨lw_p41, List.forall_mem_cons.mpr ⟨lw_p42, List.forall_mem_cons.mpr ⟨lw_p43, List.forall_mem_cons.mpr ⟨lw_p44, List.forall_mem_cons.mpr ⟨lw_p45, List.forall_mem_cons.mpr ⟨lw_p46, List.forall_mem_cons.mpr ⟨lw_p47, fun _ h => absurd h List.not_mem_nil⟩⟩⟩⟩⟩⟩⟩⟩⟩⟩⟩⟩⟩⟩⟩⟩
theorem lw_p48 : lw_okq (⟨"ArborescenceFinderModel", "selects", "(I)Z"⟩, 27) := ⟨⟨by decide +kernel, by decide +kernel⟩, List.mem_of_getElem? (i := 725) (by decide +kernel), List.mem_of_getElem? (i := 979) (by decide +kernel), List.mem_of_getElem? (i := 980) (by decide +kernel)⟩
theorem lw_p49 : lw_okq (⟨"ArborescenceFinderModel", "lowered", "(I)I"⟩, 27) := ⟨⟨by decide +kernel, by decide +kernel⟩, List.mem_of_getElem? (i := 725) (by decide +kernel), List.mem_of_getElem? (i := 983) (by decide +kernel), List.mem_of_getElem? (i := 984) (by decide +kernel)⟩
theorem lw_p50 : lw_okq (⟨"ArborescenceFinderModel", "closeCycle", "(I)V"⟩, 27) := ⟨⟨by decide +kernel, by decide +kernel⟩, List.mem_of_getElem? (i := 725) (by decide +kernel), List.mem_of_getElem? (i := 987) (by decide +kernel), List.mem_of_getElem? (i := 988) (by decide +kernel)⟩
theorem lw_p51 : lw_okq (⟨"ArborescenceFinderModel", "behind", "(I)I"⟩, 27) := ⟨⟨by decide +kernel, by decide +kernel⟩, List.mem_of_getElem? (i := 725) (by decide +kernel), List.mem_of_getElem? (i := 991) (by decide +kernel), List.mem_of_getElem? (i := 992) (by decide +kernel)⟩
theorem lw_p52 : lw_okq (⟨"ArborescenceFinderModel", "costOfRecord", "()I"⟩, 27) := ⟨⟨by decide +kernel, by decide +kernel⟩, List.mem_of_getElem? (i := 725) (by decide +kernel), List.mem_of_getElem? (i := 995) (by decide +kernel), List.mem_of_getElem? (i := 996) (by decide +kernel)⟩
theorem lw_p53 : lw_okq (⟨"ArborescenceFinderModel", "without", "(I)I"⟩, 27) := ⟨⟨by decide +kernel, by decide +kernel⟩, List.mem_of_getElem? (i := 725) (by decide +kernel), List.mem_of_getElem? (i := 1023) (by decide +kernel), List.mem_of_getElem? (i := 1024) (by decide +kernel)⟩
theorem lw_p54 : lw_okq (⟨"ArborescenceFinderModel", "sum", "()I"⟩, 27) := ⟨⟨by decide +kernel, by decide +kernel⟩, List.mem_of_getElem? (i := 725) (by decide +kernel), List.mem_of_getElem? (i := 1027) (by decide +kernel), List.mem_of_getElem? (i := 1028) (by decide +kernel)⟩
theorem lw_p55 : lw_okq (⟨"ArborescenceFinderModel", "with", "(I)I"⟩, 27) := ⟨⟨by decide +kernel, by decide +kernel⟩, List.mem_of_getElem? (i := 725) (by decide +kernel), List.mem_of_getElem? (i := 1035) (by decide +kernel), List.mem_of_getElem? (i := 1036) (by decide +kernel)⟩
theorem lw_p56 : lw_okq (⟨"ArborescenceFinderModel", "goThrough", "(I)V"⟩, 27) := ⟨⟨by decide +kernel, by decide +kernel⟩, List.mem_of_getElem? (i := 725) (by decide +kernel), List.mem_of_getElem? (i := 1055) (by decide +kernel), List.mem_of_getElem? (i := 1056) (by decide +kernel)⟩
theorem lw_p57 : lw_okq (⟨"ArborescenceFinderModel", "meetsOne", "(I)V"⟩, 27) := ⟨⟨by decide +kernel, by decide +kernel⟩, List.mem_of_getElem? (i := 725) (by decide +kernel), List.mem_of_getElem? (i := 1059) (by decide +kernel), List.mem_of_getElem? (i := 1060) (by decide +kernel)⟩
theorem lw_p58 : lw_okq (⟨"ArborescenceFinderModel", "isArborescence", "()Z"⟩, 27) := ⟨⟨by decide +kernel, by decide +kernel⟩, List.mem_of_getElem? (i := 725) (by decide +kernel), List.mem_of_getElem? (i := 1063) (by decide +kernel), List.mem_of_getElem? (i := 1064) (by decide +kernel)⟩
theorem lw_p59 : lw_okq (⟨"ArborescenceFinderModel", "isLimited", "()Z"⟩, 27) := ⟨⟨by decide +kernel, by decide +kernel⟩, List.mem_of_getElem? (i := 725) (by decide +kernel), List.mem_of_getElem? (i := 1067) (by decide +kernel), List.mem_of_getElem? (i := 1068) (by decide +kernel)⟩
theorem lw_p60 : lw_okq (⟨"ArborescenceFinderModel", "nextArc", "(II)I"⟩, 27) := ⟨⟨by decide +kernel, by decide +kernel⟩, List.mem_of_getElem? (i := 725) (by decide +kernel), List.mem_of_getElem? (i := 1071) (by decide +kernel), List.mem_of_getElem? (i := 1072) (by decide +kernel)⟩
theorem lw_p61 : lw_okq (⟨"ArborescenceFinderModel", "bids", "(II)Z"⟩, 27) := ⟨⟨by decide +kernel, by decide +kernel⟩, List.mem_of_getElem? (i := 725) (by decide +kernel), List.mem_of_getElem? (i := 1083) (by decide +kernel), List.mem_of_getElem? (i := 1084) (by decide +kernel)⟩
def lw_privs_4 : List (MethodName × Nat) := [(⟨"ArborescenceFinderModel", "selects", "(I)Z"⟩, 27), (⟨"ArborescenceFinderModel", "lowered", "(I)I"⟩, 27), (⟨"ArborescenceFinderModel", "closeCycle", "(I)V"⟩, 27), (⟨"ArborescenceFinderModel", "behind", "(I)I"⟩, 27), (⟨"ArborescenceFinderModel", "costOfRecord", "()I"⟩, 27), (⟨"ArborescenceFinderModel", "without", "(I)I"⟩, 27), (⟨"ArborescenceFinderModel", "sum", "()I"⟩, 27), (⟨"ArborescenceFinderModel", "with", "(I)I"⟩, 27), (⟨"ArborescenceFinderModel", "goThrough", "(I)V"⟩, 27), (⟨"ArborescenceFinderModel", "meetsOne", "(I)V"⟩, 27), (⟨"ArborescenceFinderModel", "isArborescence", "()Z"⟩, 27), (⟨"ArborescenceFinderModel", "isLimited", "()Z"⟩, 27), (⟨"ArborescenceFinderModel", "nextArc", "(II)I"⟩, 27), (⟨"ArborescenceFinderModel", "bids", "(II)Z"⟩, 27)]
theorem lw_r4 : ∀ q ∈ lw_privs_4, lw_okq q := List.forall_mem_cons.mpr ⟨lw_p48, List.forall_mem_cons.mpr ⟨lw_p49, List.forall_mem_cons.mpr ⟨lw_p50, List.forall_mem_cons.mpr ⟨lw_p51, List.forall_mem_cons.mpr ⟨lw_p52, List.forall_mem_cons.mpr ⟨lw_p53, List.forall_mem_cons.mpr ⟨lw_p54, List.forall_mem_cons.mpr ⟨lw_p55, List.forall_mem_cons.mpr ⟨lw_p56, List.forall_mem_cons.mpr ⟨lw_p57, List.forall_mem_cons.mpr ⟨lw_p58, List.forall_mem_cons.mpr ⟨lw_p59, List.forall_mem_cons.mpr ⟨lw_p60, List.forall_mem_cons.mpr ⟨lw_p61, fun _ h => absurd h List.not_mem_nil⟩⟩⟩⟩⟩⟩⟩⟩⟩⟩⟩⟩⟩⟩
def lw_privs : List (MethodName × Nat) := lw_privs_1 ++ (lw_privs_2 ++ (lw_privs_3 ++ (lw_privs_4)))
def lw_tbl : List Cond := k2_sels lw_privs ++ tables_1
theorem lw_privs_ok : ∀ q ∈ lw_privs, lw_okq q := by
  show ∀ q ∈ lw_privs_1 ++ (lw_privs_2 ++ (lw_privs_3 ++ (lw_privs_4))), lw_okq q
  exact List.forall_mem_append.mpr ⟨lw_r1, List.forall_mem_append.mpr ⟨lw_r2, List.forall_mem_append.mpr ⟨lw_r3, lw_r4⟩⟩⟩
end
section
def TX0 : u_T := fun k => match k with
  | 0 => ("ArborescenceFinder$Contraction", "result", "LArborescenceFinder$Groups;", true)
  | 1 => ("ArborescenceFinder$Contraction", "reduced", "[I", true)
  | 2 => ("ArborescenceFinder$Contraction", "selected", "[I", true)
  | 3 => ("ArborescenceFinder$Contraction", "topOf", "[I", true)
  | _ => ("ArborescenceFinder$Contraction", "entered", "[I", true)
def tyX0 : Nat → FieldType := fun k => match k with
  | 0 => .object "ArborescenceFinder$Groups"
  | 1 => .array .int
  | 2 => .array .int
  | 3 => .array .int
  | _ => .array .int
def TX1 : u_T := fun k => match k with
  | 0 => ("ArborescenceFinder$Graph", "nodeCount", "I", false)
  | 1 => ("ArborescenceFinder$Graph", "rootNode", "I", false)
  | 2 => ("ArborescenceFinder$Graph", "arcCount", "I", false)
  | 3 => ("ArborescenceFinder$Graph", "tailOf", "[I", true)
  | 4 => ("ArborescenceFinder$Graph", "headOf", "[I", true)
  | 5 => ("ArborescenceFinder$Graph", "costOf", "[I", true)
  | _ => ("ArborescenceFinder$Graph", "limitOf", "[I", true)
def tyX1 : Nat → FieldType := fun k => match k with
  | 0 => .int
  | 1 => .int
  | 2 => .int
  | 3 => .array .int
  | 4 => .array .int
  | 5 => .array .int
  | _ => .array .int
def TX2 : u_T := fun k => match k with
  | 0 => ("ArborescenceFinder$GraphText", "length", "I", false)
  | 1 => ("ArborescenceFinder$GraphText", "at", "I", false)
  | _ => ("ArborescenceFinder$GraphText", "signs", "[C", true)
def tyX2 : Nat → FieldType := fun k => match k with
  | 0 => .int
  | 1 => .int
  | _ => .array .char
def TX3 : u_T := fun k => match k with
  | 0 => ("ArborescenceFinder$Groups", "present", "Z", false)
  | 1 => ("ArborescenceFinder$Groups", "count", "I", false)
  | 2 => ("ArborescenceFinder$Groups", "nodeSet", "[I", true)
  | 3 => ("ArborescenceFinder$Groups", "dual", "[I", true)
  | 4 => ("ArborescenceFinder$Groups", "whole", "[I", true)
  | _ => ("ArborescenceFinder$Groups", "entering", "[I", true)
def tyX3 : Nat → FieldType := fun k => match k with
  | 0 => .boolean
  | 1 => .int
  | 2 => .array .int
  | 3 => .array .int
  | 4 => .array .int
  | _ => .array .int
def TX4 : u_T := fun k => match k with
  | 0 => ("ArborescenceFinder$LimitedSearch", "known", "Z", false)
  | 1 => ("ArborescenceFinder$LimitedSearch", "found", "Z", false)
  | 2 => ("ArborescenceFinder$LimitedSearch", "bestCost", "I", false)
  | 3 => ("ArborescenceFinder$LimitedSearch", "best", "[I", true)
  | 4 => ("ArborescenceFinder$LimitedSearch", "chosen", "[I", true)
  | 5 => ("ArborescenceFinder$LimitedSearch", "arcsLeft", "[I", true)
  | _ => ("ArborescenceFinder$LimitedSearch", "reduced", "[I", true)
def tyX4 : Nat → FieldType := fun k => match k with
  | 0 => .boolean
  | 1 => .boolean
  | 2 => .int
  | 3 => .array .int
  | 4 => .array .int
  | 5 => .array .int
  | _ => .array .int
def TX5 : u_T := fun k => match k with
  | 0 => ("ArborescenceFinder$PriceRounds", "greatestBound", "I", false)
  | 1 => ("ArborescenceFinder$PriceRounds", "priceOf", "[I", true)
  | _ => ("ArborescenceFinder$PriceRounds", "pricedCost", "[I", true)
def tyX5 : Nat → FieldType := fun k => match k with
  | 0 => .int
  | 1 => .array .int
  | _ => .array .int
def TX6 : u_T := fun k => match k with
  | 0 => ("ArborescenceFinder$State", "graph", "LArborescenceFinder$Graph;", true)
  | _ => ("ArborescenceFinder$State", "record", "LArborescenceFinder$Groups;", true)
def tyX6 : Nat → FieldType := fun k => match k with
  | 0 => .object "ArborescenceFinder$Graph"
  | _ => .object "ArborescenceFinder$Groups"
def TX7 : u_T := fun k => match k with
  | _ => ("ArborescenceFinder$TreeCounter", "matrix", "[[J", true)
def tyX7 : Nat → FieldType := fun k => match k with
  | _ => .array (.array .long)
def TX8 : u_T := fun k => match k with
  | 0 => ("ArborescenceFinder", "now", "LArborescenceFinder$State;", true)
  | 1 => ("ArborescenceFinder", "kept", "[LArborescenceFinder$State;", true)
  | 2 => ("ArborescenceFinder", "oldestKept", "I", false)
  | 3 => ("ArborescenceFinder", "keptCount", "I", false)
  | 4 => ("ArborescenceFinder", "slots", "[LArborescenceFinder$State;", true)
  | 5 => ("ArborescenceFinder", "slotFilled", "[Z", true)
  | 6 => ("ArborescenceFinder", "runCount", "I", false)
  | 7 => ("ArborescenceFinder", "reuseCount", "I", false)
  | 8 => ("ArborescenceFinder", "text", "LArborescenceFinder$GraphText;", true)
  | 9 => ("ArborescenceFinder", "draft", "LArborescenceFinder$Graph;", true)
  | 10 => ("ArborescenceFinder", "contraction", "LArborescenceFinder$Contraction;", true)
  | 11 => ("ArborescenceFinder", "limited", "LArborescenceFinder$LimitedSearch;", true)
  | 12 => ("ArborescenceFinder", "prices", "LArborescenceFinder$PriceRounds;", true)
  | _ => ("ArborescenceFinder", "counter", "LArborescenceFinder$TreeCounter;", true)
def tyX8 : Nat → FieldType := fun k => match k with
  | 0 => .object "ArborescenceFinder$State"
  | 1 => .array (.object "ArborescenceFinder$State")
  | 2 => .int
  | 3 => .int
  | 4 => .array (.object "ArborescenceFinder$State")
  | 5 => .array .boolean
  | 6 => .int
  | 7 => .int
  | 8 => .object "ArborescenceFinder$GraphText"
  | 9 => .object "ArborescenceFinder$Graph"
  | 10 => .object "ArborescenceFinder$Contraction"
  | 11 => .object "ArborescenceFinder$LimitedSearch"
  | 12 => .object "ArborescenceFinder$PriceRounds"
  | _ => .object "ArborescenceFinder$TreeCounter"
def TX9 : u_T := fun k => match k with
  | 0 => ("ArborescenceFinderModel", "w", "[I", true)
  | 1 => ("ArborescenceFinderModel", "past", "[I", true)
  | 2 => ("ArborescenceFinderModel", "changes", "I", false)
  | 3 => ("ArborescenceFinderModel", "slots", "[I", true)
  | 4 => ("ArborescenceFinderModel", "filled", "I", false)
  | 5 => ("ArborescenceFinderModel", "runs", "I", false)
  | 6 => ("ArborescenceFinderModel", "reuses", "I", false)
  | 7 => ("ArborescenceFinderModel", "text", "[I", true)
  | 8 => ("ArborescenceFinderModel", "length", "I", false)
  | 9 => ("ArborescenceFinderModel", "drawState", "J", false)
  | 10 => ("ArborescenceFinderModel", "at", "I", false)
  | 11 => ("ArborescenceFinderModel", "wrong", "I", false)
  | 12 => ("ArborescenceFinderModel", "read", "[I", true)
  | 13 => ("ArborescenceFinderModel", "price", "[I", true)
  | 14 => ("ArborescenceFinderModel", "isUsed", "[Z", true)
  | 15 => ("ArborescenceFinderModel", "set", "[I", true)
  | 16 => ("ArborescenceFinderModel", "dual", "[I", true)
  | 17 => ("ArborescenceFinderModel", "parent", "[I", true)
  | 18 => ("ArborescenceFinderModel", "selected", "[I", true)
  | 19 => ("ArborescenceFinderModel", "enters", "[I", true)
  | 20 => ("ArborescenceFinderModel", "groups", "I", false)
  | 21 => ("ArborescenceFinderModel", "chosen", "[I", true)
  | 22 => ("ArborescenceFinderModel", "bestArcs", "[I", true)
  | 23 => ("ArborescenceFinderModel", "bestCost", "I", false)
  | 24 => ("ArborescenceFinderModel", "counted", "J", false)
  | 25 => ("ArborescenceFinderModel", "prices", "[I", true)
  | _ => ("ArborescenceFinderModel", "bound", "I", false)
def tyX9 : Nat → FieldType := fun k => match k with
  | 0 => .array .int
  | 1 => .array .int
  | 2 => .int
  | 3 => .array .int
  | 4 => .int
  | 5 => .int
  | 6 => .int
  | 7 => .array .int
  | 8 => .int
  | 9 => .long
  | 10 => .int
  | 11 => .int
  | 12 => .array .int
  | 13 => .array .int
  | 14 => .array .boolean
  | 15 => .array .int
  | 16 => .array .int
  | 17 => .array .int
  | 18 => .array .int
  | 19 => .array .int
  | 20 => .int
  | 21 => .array .int
  | 22 => .array .int
  | 23 => .int
  | 24 => .long
  | 25 => .array .int
  | _ => .int
def am_cn : Nat → String := fun i => match i with
  | 0 => "ArborescenceFinder$Contraction"
  | 1 => "ArborescenceFinder$Graph"
  | 2 => "ArborescenceFinder$GraphText"
  | 3 => "ArborescenceFinder$Groups"
  | 4 => "ArborescenceFinder$LimitedSearch"
  | 5 => "ArborescenceFinder$PriceRounds"
  | 6 => "ArborescenceFinder$State"
  | 7 => "ArborescenceFinder$TreeCounter"
  | 8 => "ArborescenceFinder"
  | 9 => "ArborescenceFinderModel"
  | _ => "ArborescenceFinderLaw"
def am_TX : Nat → u_T := fun i => match i with
  | 0 => TX0
  | 1 => TX1
  | 2 => TX2
  | 3 => TX3
  | 4 => TX4
  | 5 => TX5
  | 6 => TX6
  | 7 => TX7
  | 8 => TX8
  | _ => TX9
def am_tyX : Nat → Nat → FieldType := fun i => match i with
  | 0 => tyX0
  | 1 => tyX1
  | 2 => tyX2
  | 3 => tyX3
  | 4 => tyX4
  | 5 => tyX5
  | 6 => tyX6
  | 7 => tyX7
  | 8 => tyX8
  | _ => tyX9
def am_nf : Nat → Nat := fun i => match i with
  | 0 => 5
  | 1 => 7
  | 2 => 3
  | 3 => 6
  | 4 => 7
  | 5 => 3
  | 6 => 2
  | 7 => 1
  | 8 => 14
  | _ => 27
def am_cl : List vw_C := (List.range 10).map (fun i => (am_cn i, am_TX i, am_nf i))
theorem am_nmX : ∀ i, i < 10 → ∀ a, a < am_nf i → ∀ b, b < am_nf i → a ≠ b → (am_TX i a).2.1 ≠ (am_TX i b).2.1 := by decide +kernel
theorem am_tyX_ok : ∀ i, i < 10 → ∀ k, k < am_nf i → parseFieldDescriptor (am_TX i k).2.2.1 = some (am_tyX i k) := by decide +kernel
def am_layP : List (List Nat) := [[244, 246, 248, 250, 252], [142, 144, 146, 148, 150, 152, 154], [216, 218, 220], [182, 184, 186, 188, 190, 192], [270, 272, 274, 276, 278, 280, 282], [296, 298, 300], [199, 201], [312], [330, 332, 334, 336, 338, 340, 342, 344, 346, 348, 350, 352, 354, 356], [823, 825, 827, 829, 831, 833, 835, 837, 839, 841, 843, 845, 847, 849, 851, 853, 855, 857, 859, 861, 863, 865, 867, 869, 871, 873, 875]]
theorem am_lay_ok : ((List.range 10).all fun i => (List.range (am_nf i)).all fun k => decide (lw_tbl[(am_layP.getD i []).getD k 0]? = some (u_lay (am_cn i) (am_TX i) k))) = true := by decide +kernel
/-- own class, index, class, field, place of its word -/
def am_flds : List (Nat × Nat × Nat × Nat × Nat) := [(1, 28, 1, 0, 99), (7, 20, 1, 0, 100), (8, 72, 1, 0, 101), (0, 62, 1, 0, 102), (2, 43, 1, 0, 103), (5, 61, 1, 0, 104), (4, 70, 1, 0, 105), (3, 47, 1, 0, 106), (1, 32, 1, 1, 107), (7, 30, 1, 1, 108), (0, 81, 1, 1, 109), (4, 78, 1, 1, 110), (8, 126, 1, 1, 111), (1, 35, 1, 2, 112), (5, 44, 1, 2, 113), (8, 91, 1, 2, 114), (7, 33, 1, 2, 115), (0, 72, 1, 2, 116), (2, 36, 1, 2, 117), (4, 81, 1, 2, 118), (3, 68, 1, 2, 119), (1, 9, 1, 3, 120), (5, 52, 1, 3, 121), (7, 40, 1, 3, 122), (4, 95, 1, 3, 123), (0, 97, 1, 3, 124), (3, 50, 1, 3, 125), (8, 136, 1, 3, 126), (1, 15, 1, 4, 127), (7, 36, 1, 4, 128), (3, 42, 1, 4, 129), (4, 84, 1, 4, 130), (0, 116, 1, 4, 131), (8, 139, 1, 4, 132), (1, 18, 1, 5, 133), (4, 31, 1, 5, 134), (5, 49, 1, 5, 135), (8, 118, 1, 5, 136), (3, 53, 1, 5, 137), (1, 21, 1, 6, 138), (4, 67, 1, 6, 139), (5, 64, 1, 6, 140), (8, 129, 1, 6, 141), (3, 24, 3, 0, 164), (0, 43, 3, 0, 165), (8, 170, 3, 0, 166), (3, 28, 3, 1, 167), (0, 104, 3, 1, 168), (8, 195, 3, 1, 169), (3, 9, 3, 2, 170), (0, 84, 3, 2, 171), (8, 198, 3, 2, 172), (3, 15, 3, 3, 173), (0, 94, 3, 3, 174), (8, 201, 3, 3, 175), (3, 18, 3, 4, 176), (0, 107, 3, 4, 177), (8, 204, 3, 4, 178), (3, 21, 3, 5, 179), (0, 119, 3, 5, 180), (8, 188, 3, 5, 181), (6, 10, 6, 0, 195), (8, 69, 6, 0, 196), (6, 19, 6, 1, 197), (8, 98, 6, 1, 198), (2, 15, 2, 0, 211), (8, 155, 2, 0, 212), (2, 19, 2, 1, 213), (8, 164, 2, 1, 214), (2, 9, 2, 2, 215), (0, 12, 0, 0, 235), (5, 28, 0, 0, 236), (4, 47, 0, 0, 237), (8, 260, 0, 0, 238), (0, 18, 0, 1, 239), (4, 42, 0, 1, 240), (0, 22, 0, 2, 241), (0, 25, 0, 3, 242), (0, 28, 0, 4, 243), (4, 24, 4, 0, 261), (4, 28, 4, 1, 262), (4, 98, 4, 2, 263), (8, 227, 4, 2, 264), (4, 9, 4, 3, 265), (8, 230, 4, 3, 266), (4, 15, 4, 4, 267), (4, 18, 4, 5, 268), (4, 21, 4, 6, 269), (5, 36, 5, 0, 291), (8, 241, 5, 0, 292), (5, 9, 5, 1, 293), (8, 244, 5, 1, 294), (5, 15, 5, 2, 295), (7, 11, 7, 0, 311), (8, 12, 8, 0, 316), (8, 16, 8, 1, 317), (8, 145, 8, 2, 318), (8, 142, 8, 3, 319), (8, 20, 8, 4, 320), (8, 23, 8, 5, 321), (8, 174, 8, 6, 322), (8, 177, 8, 7, 323), (8, 30, 8, 8, 324), (8, 37, 8, 9, 325), (8, 44, 8, 10, 326), (8, 51, 8, 11, 327), (8, 58, 8, 12, 328), (8, 65, 8, 13, 329), (9, 7, 9, 0, 796), (9, 13, 9, 1, 797), (9, 64, 9, 2, 798), (9, 16, 9, 3, 799), (9, 215, 9, 4, 800), (9, 159, 9, 5, 801), (9, 68, 9, 6, 802), (9, 19, 9, 7, 803), (9, 111, 9, 8, 804), (9, 98, 9, 9, 805), (9, 114, 9, 10, 806), (9, 117, 9, 11, 807), (9, 22, 9, 12, 808), (9, 25, 9, 13, 809), (9, 28, 9, 14, 810), (9, 32, 9, 15, 811), (9, 35, 9, 16, 812), (9, 38, 9, 17, 813), (9, 41, 9, 18, 814), (9, 44, 9, 19, 815), (9, 132, 9, 20, 816), (9, 47, 9, 21, 817), (9, 50, 9, 22, 818), (9, 190, 9, 23, 819), (9, 187, 9, 24, 820), (9, 53, 9, 25, 821), (9, 206, 9, 26, 822)]
theorem am_flds_ok : (am_flds.all fun q => decide (q.2.2.1 < 10 ∧ q.2.2.2.1 < am_nf q.2.2.1 ∧ lw_tbl[q.2.2.2.2]? = some (Cond.fieldLink (am_cn q.1) q.2.1 (am_cn q.2.2.1) (am_TX q.2.2.1 q.2.2.2.1).2.1 (am_TX q.2.2.1 q.2.2.2.1).2.2.1) ∧ (am_TX q.2.2.1 q.2.2.2.1).1 = am_cn q.2.2.1)) = true := by decide +kernel
/-- a method: name, bytes, locals, answer, own class, number of parameters, places: code, instance or static -/
def am_ms : List (MethodName × ByteArray × Nat × Option FieldType × Nat × Nat × Nat) := [
(⟨"ArborescenceFinder$Contraction", "<init>", "()V"⟩, prog_2_method_1_code, 1, none, 0, 0, 231),
(⟨"ArborescenceFinder$Contraction", "contract", "(LArborescenceFinder$Graph;[II)Z"⟩, prog_2_method_2_code, 6, (some .boolean), 0, 3, 562),
(⟨"ArborescenceFinder$Contraction", "prepare", "(LArborescenceFinder$Graph;[I)V"⟩, prog_2_method_3_code, 4, none, 0, 2, 566),
(⟨"ArborescenceFinder$Contraction", "nextGroup", "(LArborescenceFinder$Graph;)I"⟩, prog_2_method_4_code, 3, (some .int), 0, 1, 579),
(⟨"ArborescenceFinder$Contraction", "cheapestEntering", "(LArborescenceFinder$Graph;II)I"⟩, prog_2_method_5_code, 7, (some .int), 0, 3, 588),
(⟨"ArborescenceFinder$Contraction", "setDual", "(LArborescenceFinder$Graph;I)V"⟩, prog_2_method_6_code, 6, none, 0, 2, 596),
(⟨"ArborescenceFinder$Contraction", "groupBefore", "(LArborescenceFinder$Graph;I)I"⟩, prog_2_method_7_code, 3, (some .int), 0, 2, 604),
(⟨"ArborescenceFinder$Contraction", "closesCycle", "(LArborescenceFinder$Graph;I)Z"⟩, prog_2_method_8_code, 5, (some .boolean), 0, 2, 600),
(⟨"ArborescenceFinder$Contraction", "uniteCycle", "(LArborescenceFinder$Graph;I)V"⟩, prog_2_method_9_code, 7, none, 0, 2, 608),
(⟨"ArborescenceFinder$Contraction", "readOff", "(LArborescenceFinder$Graph;)V"⟩, prog_2_method_10_code, 5, none, 0, 1, 583),
(⟨"ArborescenceFinder$Graph", "<init>", "()V"⟩, prog_3_method_1_code, 1, none, 1, 0, 93),
(⟨"ArborescenceFinder$Graph", "clear", "(II)V"⟩, prog_3_method_2_code, 4, none, 1, 2, 98),
(⟨"ArborescenceFinder$Graph", "copyFrom", "(LArborescenceFinder$Graph;)V"⟩, prog_3_method_3_code, 2, none, 1, 1, 374),
(⟨"ArborescenceFinder$Graph", "hasNode", "(I)Z"⟩, prog_3_method_4_code, 2, (some .boolean), 1, 1, 399),
(⟨"ArborescenceFinder$Graph", "hasArc", "(I)Z"⟩, prog_3_method_5_code, 2, (some .boolean), 1, 1, 426),
(⟨"ArborescenceFinder$Graph", "append", "(III)V"⟩, prog_3_method_6_code, 4, none, 1, 3, 403),
(⟨"ArborescenceFinder$Graph", "delete", "(I)V"⟩, prog_3_method_7_code, 3, none, 1, 1, 438),
(⟨"ArborescenceFinder$Graph", "withoutRivals", "(I)I"⟩, prog_3_method_8_code, 4, (some .int), 1, 1, 667),
(⟨"ArborescenceFinder$Graph", "enters", "(II)Z"⟩, prog_3_method_9_code, 3, (some .boolean), 1, 2, 415),
(⟨"ArborescenceFinder$GraphText", "<init>", "()V"⟩, prog_4_method_1_code, 1, none, 2, 0, 209),
(⟨"ArborescenceFinder$GraphText", "append", "(I)V"⟩, prog_4_method_2_code, 2, none, 2, 1, 503),
(⟨"ArborescenceFinder$GraphText", "readInto", "(LArborescenceFinder$Graph;)Z"⟩, prog_4_method_3_code, 5, (some .boolean), 2, 1, 515),
(⟨"ArborescenceFinder$GraphText", "readArc", "(LArborescenceFinder$Graph;)Z"⟩, prog_4_method_4_code, 6, (some .boolean), 2, 1, 528),
(⟨"ArborescenceFinder$GraphText", "takeNumber", "()I"⟩, prog_4_method_5_code, 3, (some .int), 2, 0, 532),
(⟨"ArborescenceFinder$GraphText", "takeSign", "(C)Z"⟩, prog_4_method_6_code, 2, (some .boolean), 2, 1, 523),
(⟨"ArborescenceFinder$GraphText", "takeDigit", "(II)I"⟩, prog_4_method_7_code, 4, (some .int), 2, 2, 519),
(⟨"ArborescenceFinder$Groups", "<init>", "()V"⟩, prog_5_method_1_code, 1, none, 3, 0, 162),
(⟨"ArborescenceFinder$Groups", "copyFrom", "(LArborescenceFinder$Groups;)V"⟩, prog_5_method_2_code, 2, none, 3, 1, 381),
(⟨"ArborescenceFinder$Groups", "beginWithNodes", "(I)V"⟩, prog_5_method_3_code, 3, none, 3, 1, 570),
(⟨"ArborescenceFinder$Groups", "add", "(I)V"⟩, prog_5_method_4_code, 2, none, 3, 1, 574),
(⟨"ArborescenceFinder$Groups", "contains", "(LArborescenceFinder$Graph;I)Z"⟩, prog_5_method_5_code, 3, (some .boolean), 3, 2, 434),
(⟨"ArborescenceFinder$Groups", "costBy", "(LArborescenceFinder$Graph;[I)I"⟩, prog_5_method_6_code, 5, (some .int), 3, 2, 618),
(⟨"ArborescenceFinder$Groups", "arcsFrom", "(LArborescenceFinder$Graph;I)I"⟩, prog_5_method_7_code, 5, (some .int), 3, 2, 630),
(⟨"ArborescenceFinder$Groups", "reducedCostOf", "(LArborescenceFinder$Graph;I)I"⟩, prog_5_method_8_code, 5, (some .int), 3, 2, 411),
(⟨"ArborescenceFinder$Groups", "followNew", "(LArborescenceFinder$Graph;I)Z"⟩, prog_5_method_9_code, 3, (some .boolean), 3, 2, 407),
(⟨"ArborescenceFinder$Groups", "followRemoval", "(LArborescenceFinder$Graph;I)Z"⟩, prog_5_method_10_code, 4, (some .boolean), 3, 2, 430),
(⟨"ArborescenceFinder$Groups", "followCost", "(LArborescenceFinder$Graph;II)Z"⟩, prog_5_method_11_code, 6, (some .boolean), 3, 3, 446),
(⟨"ArborescenceFinder$LimitedSearch", "<init>", "()V"⟩, prog_6_method_1_code, 1, none, 4, 0, 259),
(⟨"ArborescenceFinder$LimitedSearch", "forget", "()V"⟩, prog_6_method_2_code, 1, none, 4, 0, 386),
(⟨"ArborescenceFinder$LimitedSearch", "find", "(LArborescenceFinder$Graph;LArborescenceFinder$Contraction;)Z"⟩, prog_6_method_3_code, 3, (some .boolean), 4, 2, 692),
(⟨"ArborescenceFinder$LimitedSearch", "prepare", "(LArborescenceFinder$Graph;[I)V"⟩, prog_6_method_4_code, 4, none, 4, 2, 697),
(⟨"ArborescenceFinder$LimitedSearch", "choose", "(LArborescenceFinder$LimitedSearch;LArborescenceFinder$Graph;II)V"⟩, prog_6_method_5_code, 6, none, 4, 4, 702),
(⟨"ArborescenceFinder$LimitedSearch", "isUseful", "(I)Z"⟩, prog_6_method_6_code, 2, (some .boolean), 4, 1, 710),
(⟨"ArborescenceFinder$LimitedSearch", "canTake", "(LArborescenceFinder$Graph;I)Z"⟩, prog_6_method_7_code, 5, (some .boolean), 4, 2, 714),
(⟨"ArborescenceFinder$LimitedSearch", "take", "(LArborescenceFinder$Graph;)V"⟩, prog_6_method_8_code, 4, none, 4, 1, 706),
(⟨"ArborescenceFinder$PriceRounds", "<init>", "()V"⟩, prog_7_method_1_code, 1, none, 5, 0, 289),
(⟨"ArborescenceFinder$PriceRounds", "play", "(LArborescenceFinder$Graph;LArborescenceFinder$Contraction;II)Z"⟩, prog_7_method_2_code, 7, (some .boolean), 5, 4, 729),
(⟨"ArborescenceFinder$PriceRounds", "setPricedCosts", "(LArborescenceFinder$Graph;)V"⟩, prog_7_method_3_code, 3, none, 5, 1, 733),
(⟨"ArborescenceFinder$PriceRounds", "boundOf", "(LArborescenceFinder$Graph;LArborescenceFinder$Groups;)I"⟩, prog_7_method_4_code, 5, (some .int), 5, 2, 738),
(⟨"ArborescenceFinder$PriceRounds", "changePrices", "(LArborescenceFinder$Graph;LArborescenceFinder$Groups;I)V"⟩, prog_7_method_5_code, 6, none, 5, 3, 743),
(⟨"ArborescenceFinder$State", "<init>", "()V"⟩, prog_8_method_1_code, 1, none, 6, 0, 87),
(⟨"ArborescenceFinder$State", "copyFrom", "(LArborescenceFinder$State;)V"⟩, prog_8_method_2_code, 2, none, 6, 1, 370),
(⟨"ArborescenceFinder$TreeCounter", "<init>", "()V"⟩, prog_9_method_1_code, 1, none, 7, 0, 307),
(⟨"ArborescenceFinder$TreeCounter", "countIn", "(LArborescenceFinder$Graph;I)J"⟩, prog_9_method_2_code, 3, (some .long), 7, 2, 759),
(⟨"ArborescenceFinder$TreeCounter", "fill", "(LArborescenceFinder$Graph;I)V"⟩, prog_9_method_3_code, 6, none, 7, 2, 763),
(⟨"ArborescenceFinder$TreeCounter", "determinant", "(I)J"⟩, prog_9_method_4_code, 5, (some .long), 7, 1, 768),
(⟨"ArborescenceFinder$TreeCounter", "eliminate", "(IIJ)V"⟩, prog_9_method_5_code, 7, none, 7, 3, 772),
(⟨"ArborescenceFinder", "<init>", "()V"⟩, prog_1_method_1_code, 2, none, 8, 0, 79),
(⟨"ArborescenceFinder", "begin", "(II)I"⟩, prog_1_method_2_code, 4, (some .int), 8, 2, 362),
(⟨"ArborescenceFinder", "addArc", "(III)I"⟩, prog_1_method_3_code, 6, (some .int), 8, 3, 395),
(⟨"ArborescenceFinder", "removeArc", "(I)I"⟩, prog_1_method_4_code, 3, (some .int), 8, 1, 422),
(⟨"ArborescenceFinder", "setCost", "(II)I"⟩, prog_1_method_5_code, 5, (some .int), 8, 2, 442),
(⟨"ArborescenceFinder", "setRoot", "(I)I"⟩, prog_1_method_6_code, 3, (some .int), 8, 1, 450),
(⟨"ArborescenceFinder", "setLimit", "(II)I"⟩, prog_1_method_7_code, 4, (some .int), 8, 2, 454),
(⟨"ArborescenceFinder", "addRandom", "(II)I"⟩, prog_1_method_8_code, 3, (some .int), 8, 2, 458),
(⟨"ArborescenceFinder", "nodes", "()I"⟩, prog_1_method_9_code, 1, (some .int), 8, 0, 475),
(⟨"ArborescenceFinder", "root", "()I"⟩, prog_1_method_10_code, 1, (some .int), 8, 0, 479),
(⟨"ArborescenceFinder", "arcs", "()I"⟩, prog_1_method_11_code, 1, (some .int), 8, 0, 483),
(⟨"ArborescenceFinder", "arc", "(II)I"⟩, prog_1_method_12_code, 4, (some .int), 8, 2, 487),
(⟨"ArborescenceFinder", "limit", "(I)I"⟩, prog_1_method_13_code, 2, (some .int), 8, 1, 491),
(⟨"ArborescenceFinder", "undo", "()I"⟩, prog_1_method_14_code, 1, (some .int), 8, 0, 495),
(⟨"ArborescenceFinder", "write", "(I)I"⟩, prog_1_method_15_code, 2, (some .int), 8, 1, 499),
(⟨"ArborescenceFinder", "wipe", "()I"⟩, prog_1_method_16_code, 2, (some .int), 8, 0, 507),
(⟨"ArborescenceFinder", "fault", "()I"⟩, prog_1_method_17_code, 1, (some .int), 8, 0, 511),
(⟨"ArborescenceFinder", "load", "()I"⟩, prog_1_method_18_code, 1, (some .int), 8, 0, 537),
(⟨"ArborescenceFinder", "isRecorded", "()I"⟩, prog_1_method_19_code, 1, (some .int), 8, 0, 542),
(⟨"ArborescenceFinder", "runs", "()I"⟩, prog_1_method_20_code, 1, (some .int), 8, 0, 546),
(⟨"ArborescenceFinder", "reuses", "()I"⟩, prog_1_method_21_code, 1, (some .int), 8, 0, 550),
(⟨"ArborescenceFinder", "cost", "()I"⟩, prog_1_method_22_code, 1, (some .int), 8, 0, 554),
(⟨"ArborescenceFinder", "enteringArc", "(I)I"⟩, prog_1_method_23_code, 2, (some .int), 8, 1, 622),
(⟨"ArborescenceFinder", "outDegree", "(I)I"⟩, prog_1_method_24_code, 2, (some .int), 8, 1, 626),
(⟨"ArborescenceFinder", "groups", "()I"⟩, prog_1_method_25_code, 1, (some .int), 8, 0, 634),
(⟨"ArborescenceFinder", "group", "(II)I"⟩, prog_1_method_26_code, 4, (some .int), 8, 2, 638),
(⟨"ArborescenceFinder", "reducedCost", "(I)I"⟩, prog_1_method_27_code, 2, (some .int), 8, 1, 642),
(⟨"ArborescenceFinder", "costWithout", "(I)I"⟩, prog_1_method_28_code, 2, (some .int), 8, 1, 647),
(⟨"ArborescenceFinder", "costWith", "(I)I"⟩, prog_1_method_29_code, 2, (some .int), 8, 1, 659),
(⟨"ArborescenceFinder", "slack", "(I)I"⟩, prog_1_method_30_code, 4, (some .int), 8, 1, 671),
(⟨"ArborescenceFinder", "secondBest", "(I)I"⟩, prog_1_method_31_code, 6, (some .int), 8, 1, 676),
(⟨"ArborescenceFinder", "necessary", "(I)I"⟩, prog_1_method_32_code, 4, (some .int), 8, 1, 680),
(⟨"ArborescenceFinder", "limitedCost", "()I"⟩, prog_1_method_33_code, 1, (some .int), 8, 0, 688),
(⟨"ArborescenceFinder", "limitedArc", "(I)I"⟩, prog_1_method_34_code, 2, (some .int), 8, 1, 718),
(⟨"ArborescenceFinder", "priceBound", "(II)I"⟩, prog_1_method_35_code, 3, (some .int), 8, 2, 722),
(⟨"ArborescenceFinder", "price", "(III)I"⟩, prog_1_method_36_code, 4, (some .int), 8, 3, 751),
(⟨"ArborescenceFinder", "arborescences", "()J"⟩, prog_1_method_37_code, 1, (some .long), 8, 0, 755),
(⟨"ArborescenceFinder", "arborescencesWith", "(I)J"⟩, prog_1_method_38_code, 3, (some .long), 8, 1, 776),
(⟨"ArborescenceFinder", "save", "(I)I"⟩, prog_1_method_39_code, 2, (some .int), 8, 1, 781),
(⟨"ArborescenceFinder", "restore", "(I)I"⟩, prog_1_method_40_code, 2, (some .int), 8, 1, 785),
(⟨"ArborescenceFinder", "keepForUndo", "()V"⟩, prog_1_method_41_code, 1, none, 8, 0, 366),
(⟨"ArborescenceFinder", "settleRecord", "(Z)V"⟩, prog_1_method_42_code, 2, none, 8, 1, 391),
(⟨"ArborescenceFinder", "haveRecord", "()Z"⟩, prog_1_method_43_code, 1, (some .boolean), 8, 0, 558),
(⟨"ArborescenceFinder", "recordedCost", "()I"⟩, prog_1_method_44_code, 1, (some .int), 8, 0, 614),
(⟨"ArborescenceFinder", "cheapestWithout", "(I)I"⟩, prog_1_method_45_code, 2, (some .int), 8, 1, 651),
(⟨"ArborescenceFinder", "cheapestWith", "(I)I"⟩, prog_1_method_46_code, 2, (some .int), 8, 1, 663),
(⟨"ArborescenceFinder", "cheapestAmong", "(I)I"⟩, prog_1_method_47_code, 3, (some .int), 8, 1, 655),
(⟨"ArborescenceFinder", "isNecessary", "(I)Z"⟩, prog_1_method_48_code, 3, (some .boolean), 8, 1, 684),
(⟨"ArborescenceFinder", "areRounds", "(II)Z"⟩, prog_1_method_49_code, 2, (some .boolean), 8, 2, 725),
(⟨"ArborescenceFinder", "appendRandom", "(LArborescenceFinder$Graph;II)V"⟩, prog_1_method_50_code, 8, none, 8, 3, 461),
(⟨"ArborescenceFinder", "nextRandom", "(J)J"⟩, prog_1_method_51_code, 2, (some .long), 8, 1, 464),
(⟨"ArborescenceFinder", "randomBelow", "(IJ)I"⟩, prog_1_method_52_code, 3, (some .int), 8, 2, 470),
(⟨"ArborescenceFinder", "isIn", "(II)Z"⟩, prog_1_method_53_code, 2, (some .boolean), 8, 2, 418),
(⟨"ArborescenceFinder", "isAllowed", "(II)Z"⟩, prog_1_method_54_code, 2, (some .boolean), 8, 2, 591),
(⟨"ArborescenceFinderModel", "<init>", "()V"⟩, prog_11_method_1_code, 1, none, 9, 0, 790),
(⟨"ArborescenceFinderModel", "isIn", "(III)Z"⟩, prog_11_method_2_code, 3, (some .boolean), 9, 3, 884),
(⟨"ArborescenceFinderModel", "isNode", "(I)Z"⟩, prog_11_method_3_code, 2, (some .boolean), 9, 1, 896),
(⟨"ArborescenceFinderModel", "isArc", "(I)Z"⟩, prog_11_method_4_code, 2, (some .boolean), 9, 1, 919),
(⟨"ArborescenceFinderModel", "clear", "(II)V"⟩, prog_11_method_5_code, 4, none, 9, 2, 795),
(⟨"ArborescenceFinderModel", "keep", "()V"⟩, prog_11_method_6_code, 2, none, 9, 0, 888),
(⟨"ArborescenceFinderModel", "judge", "(Z)V"⟩, prog_11_method_7_code, 2, none, 9, 1, 911),
(⟨"ArborescenceFinderModel", "begin", "(II)I"⟩, prog_11_method_8_code, 4, (some .int), 9, 2, 881),
(⟨"ArborescenceFinderModel", "append", "(III)V"⟩, prog_11_method_9_code, 4, none, 9, 3, 900),
(⟨"ArborescenceFinderModel", "addArc", "(III)I"⟩, prog_11_method_10_code, 4, (some .int), 9, 3, 892),
(⟨"ArborescenceFinderModel", "isInTree", "(I)Z"⟩, prog_11_method_11_code, 4, (some .boolean), 9, 1, 923),
(⟨"ArborescenceFinderModel", "removeArc", "(I)I"⟩, prog_11_method_12_code, 3, (some .int), 9, 1, 915),
(⟨"ArborescenceFinderModel", "setCost", "(II)I"⟩, prog_11_method_13_code, 6, (some .int), 9, 2, 927),
(⟨"ArborescenceFinderModel", "setRoot", "(I)I"⟩, prog_11_method_14_code, 3, (some .int), 9, 1, 931),
(⟨"ArborescenceFinderModel", "setLimit", "(II)I"⟩, prog_11_method_15_code, 4, (some .int), 9, 2, 935),
(⟨"ArborescenceFinderModel", "drawn", "(I)I"⟩, prog_11_method_16_code, 2, (some .int), 9, 1, 943),
(⟨"ArborescenceFinderModel", "addRandom", "(II)I"⟩, prog_11_method_17_code, 6, (some .int), 9, 2, 939),
(⟨"ArborescenceFinderModel", "nodes", "()I"⟩, prog_11_method_18_code, 1, (some .int), 9, 0, 951),
(⟨"ArborescenceFinderModel", "root", "()I"⟩, prog_11_method_19_code, 1, (some .int), 9, 0, 955),
(⟨"ArborescenceFinderModel", "arcs", "()I"⟩, prog_11_method_20_code, 1, (some .int), 9, 0, 959),
(⟨"ArborescenceFinderModel", "arc", "(II)I"⟩, prog_11_method_21_code, 3, (some .int), 9, 2, 963),
(⟨"ArborescenceFinderModel", "limit", "(I)I"⟩, prog_11_method_22_code, 2, (some .int), 9, 1, 967),
(⟨"ArborescenceFinderModel", "undo", "()I"⟩, prog_11_method_23_code, 2, (some .int), 9, 0, 971),
(⟨"ArborescenceFinderModel", "write", "(I)I"⟩, prog_11_method_24_code, 2, (some .int), 9, 1, 975),
(⟨"ArborescenceFinderModel", "wipe", "()I"⟩, prog_11_method_25_code, 2, (some .int), 9, 0, 979),
(⟨"ArborescenceFinderModel", "digit", "(III)I"⟩, prog_11_method_26_code, 5, (some .int), 9, 3, 991),
(⟨"ArborescenceFinderModel", "sign", "(I)V"⟩, prog_11_method_27_code, 2, none, 9, 1, 995),
(⟨"ArborescenceFinderModel", "parse", "()I"⟩, prog_11_method_28_code, 6, (some .int), 9, 0, 987),
(⟨"ArborescenceFinderModel", "fault", "()I"⟩, prog_11_method_29_code, 2, (some .int), 9, 0, 983),
(⟨"ArborescenceFinderModel", "load", "()I"⟩, prog_11_method_30_code, 3, (some .int), 9, 0, 999),
(⟨"ArborescenceFinderModel", "isEntered", "(III)Z"⟩, prog_11_method_31_code, 3, (some .boolean), 9, 3, 907),
(⟨"ArborescenceFinderModel", "lowered", "(I)I"⟩, prog_11_method_32_code, 4, (some .int), 9, 1, 1047),
(⟨"ArborescenceFinderModel", "topOf", "(I)I"⟩, prog_11_method_33_code, 3, (some .int), 9, 1, 1039),
(⟨"ArborescenceFinderModel", "newGroup", "(I)I"⟩, prog_11_method_34_code, 2, (some .int), 9, 1, 1031),
(⟨"ArborescenceFinderModel", "nextGroup", "()I"⟩, prog_11_method_35_code, 3, (some .int), 9, 0, 1035),
(⟨"ArborescenceFinderModel", "selects", "(I)Z"⟩, prog_11_method_36_code, 6, (some .boolean), 9, 1, 1043),
(⟨"ArborescenceFinderModel", "behind", "(I)I"⟩, prog_11_method_37_code, 2, (some .int), 9, 1, 1055),
(⟨"ArborescenceFinderModel", "closeCycle", "(I)V"⟩, prog_11_method_38_code, 6, none, 9, 1, 1051),
(⟨"ArborescenceFinderModel", "contracts", "()Z"⟩, prog_11_method_39_code, 5, (some .boolean), 9, 0, 1027),
(⟨"ArborescenceFinderModel", "useAll", "()V"⟩, prog_11_method_40_code, 2, none, 9, 0, 1023),
(⟨"ArborescenceFinderModel", "sum", "()I"⟩, prog_11_method_41_code, 3, (some .int), 9, 0, 1091),
(⟨"ArborescenceFinderModel", "hasRecord", "()Z"⟩, prog_11_method_42_code, 2, (some .boolean), 9, 0, 1019),
(⟨"ArborescenceFinderModel", "reduced", "(I)I"⟩, prog_11_method_43_code, 4, (some .int), 9, 1, 904),
(⟨"ArborescenceFinderModel", "isRecorded", "()I"⟩, prog_11_method_44_code, 1, (some .int), 9, 0, 1003),
(⟨"ArborescenceFinderModel", "runs", "()I"⟩, prog_11_method_45_code, 1, (some .int), 9, 0, 1007),
(⟨"ArborescenceFinderModel", "reuses", "()I"⟩, prog_11_method_46_code, 1, (some .int), 9, 0, 1011),
(⟨"ArborescenceFinderModel", "costOfRecord", "()I"⟩, prog_11_method_47_code, 3, (some .int), 9, 0, 1059),
(⟨"ArborescenceFinderModel", "cost", "()I"⟩, prog_11_method_48_code, 1, (some .int), 9, 0, 1015),
(⟨"ArborescenceFinderModel", "enteringArc", "(I)I"⟩, prog_11_method_49_code, 2, (some .int), 9, 1, 1063),
(⟨"ArborescenceFinderModel", "outDegree", "(I)I"⟩, prog_11_method_50_code, 4, (some .int), 9, 1, 1067),
(⟨"ArborescenceFinderModel", "groups", "()I"⟩, prog_11_method_51_code, 1, (some .int), 9, 0, 1071),
(⟨"ArborescenceFinderModel", "group", "(II)I"⟩, prog_11_method_52_code, 3, (some .int), 9, 2, 1075),
(⟨"ArborescenceFinderModel", "reducedCost", "(I)I"⟩, prog_11_method_53_code, 2, (some .int), 9, 1, 1079),
(⟨"ArborescenceFinderModel", "without", "(I)I"⟩, prog_11_method_54_code, 2, (some .int), 9, 1, 1087),
(⟨"ArborescenceFinderModel", "with", "(I)I"⟩, prog_11_method_55_code, 3, (some .int), 9, 1, 1099),
(⟨"ArborescenceFinderModel", "costWithout", "(I)I"⟩, prog_11_method_56_code, 2, (some .int), 9, 1, 1083),
(⟨"ArborescenceFinderModel", "costWith", "(I)I"⟩, prog_11_method_57_code, 2, (some .int), 9, 1, 1095),
(⟨"ArborescenceFinderModel", "slack", "(I)I"⟩, prog_11_method_58_code, 3, (some .int), 9, 1, 1103),
(⟨"ArborescenceFinderModel", "secondBest", "(I)I"⟩, prog_11_method_59_code, 6, (some .int), 9, 1, 1107),
(⟨"ArborescenceFinderModel", "necessary", "(I)I"⟩, prog_11_method_60_code, 5, (some .int), 9, 1, 1111),
(⟨"ArborescenceFinderModel", "nextArc", "(II)I"⟩, prog_11_method_61_code, 4, (some .int), 9, 2, 1135),
(⟨"ArborescenceFinderModel", "isArborescence", "()Z"⟩, prog_11_method_62_code, 4, (some .boolean), 9, 0, 1127),
(⟨"ArborescenceFinderModel", "isLimited", "()Z"⟩, prog_11_method_63_code, 4, (some .boolean), 9, 0, 1131),
(⟨"ArborescenceFinderModel", "meetsOne", "(I)V"⟩, prog_11_method_64_code, 5, none, 9, 1, 1123),
(⟨"ArborescenceFinderModel", "goThrough", "(I)V"⟩, prog_11_method_65_code, 4, none, 9, 1, 1119),
(⟨"ArborescenceFinderModel", "limitedCost", "()I"⟩, prog_11_method_66_code, 1, (some .int), 9, 0, 1115),
(⟨"ArborescenceFinderModel", "limitedArc", "(I)I"⟩, prog_11_method_67_code, 2, (some .int), 9, 1, 1139),
(⟨"ArborescenceFinderModel", "bids", "(II)Z"⟩, prog_11_method_68_code, 8, (some .boolean), 9, 2, 1147),
(⟨"ArborescenceFinderModel", "priceBound", "(II)I"⟩, prog_11_method_69_code, 3, (some .int), 9, 2, 1143),
(⟨"ArborescenceFinderModel", "price", "(III)I"⟩, prog_11_method_70_code, 4, (some .int), 9, 3, 1151),
(⟨"ArborescenceFinderModel", "arborescences", "()J"⟩, prog_11_method_71_code, 1, (some .long), 9, 0, 1155),
(⟨"ArborescenceFinderModel", "arborescencesWith", "(I)J"⟩, prog_11_method_72_code, 2, (some .long), 9, 1, 1159),
(⟨"ArborescenceFinderModel", "save", "(I)I"⟩, prog_11_method_73_code, 3, (some .int), 9, 1, 1164),
(⟨"ArborescenceFinderModel", "restore", "(I)I"⟩, prog_11_method_74_code, 3, (some .int), 9, 1, 1168)]
def am_m (y : Nat) : MethodName × ByteArray × Nat × Option FieldType × Nat × Nat × Nat := am_ms.getD y (x, code, maxLocals, ret, 10, 1, 0)
def am_y (y : Nat) : MethodName := (am_m y).1
def am_by (y : Nat) : ByteArray := (am_m y).2.1
def am_ml (y : Nat) : Nat := (am_m y).2.2.1
def am_rt (y : Nat) : Option FieldType := (am_m y).2.2.2.1
def am_ow (y : Nat) : Nat := (am_m y).2.2.2.2.1
def am_np (y : Nat) : Nat := (am_m y).2.2.2.2.2.1
theorem am_ms_len : am_ms.length = 185 := by decide +kernel
set_option maxRecDepth 20000 in
theorem am_codes : am_ms.map (fun q => Cond.code q.1 q.2.1 q.2.2.1 q.2.2.2.1) = am_ms.filterMap (fun q => lw_tbl[q.2.2.2.2.2.2]?) := rfl
theorem am_ms_ok : (am_ms.all fun q => decide (q.1.cls = am_cn q.2.2.2.2.1 ∧ (parseMethodDescriptor q.1.desc).map (fun d => d.parameters.length) = some q.2.2.2.2.2.1 ∧ plainName q.1.cls = true ∧ q.1.cls ≠ "java/lang/invoke/MethodHandle" ∧ q.1.cls ≠ "java/lang/invoke/VarHandle" ∧ q.2.2.1 ≤ 16 ∧ q.2.2.2.2.1 < 11)) = true := by decide +kernel
def am_iniP : List Nat := [68, 65, 67, 66, 69, 70, 64, 71, 63, 72, 62]
theorem am_ini_ok : ((List.range 11).all fun i => decide (lw_tbl[am_iniP.getD i 0]? = some (Cond.initialized (am_cn i)))) = true := by decide +kernel
def am_insP : List Nat := [228, 90, 206, 159, 256, 286, 84, 304, 76, 787]
theorem am_ins_ok : ((List.range 10).all fun i => decide (lw_tbl[am_insP.getD i 0]? = some (Cond.instantiable (am_cn i) (am_nf i)))) = true := by decide +kernel
def am_cls : List (Nat × Nat × Nat × Nat) := [(10, 7, 8, 75), (8, 9, 6, 83), (6, 7, 1, 89), (6, 16, 3, 158), (8, 27, 2, 205), (8, 34, 1, 225), (8, 41, 0, 227), (0, 9, 3, 233), (8, 48, 4, 255), (8, 55, 5, 285), (8, 62, 7, 303), (10, 10, 9, 786)]
theorem am_cls_ok : (am_cls.all fun q => decide (q.2.2.1 < 10 ∧ lw_tbl[q.2.2.2]? = some (Cond.classLink (am_cn q.1) q.2.1 (am_cn q.2.2.1)))) = true := by decide +kernel
def am_lcs : List (Nat × Nat × Int64 × Nat) := [(8, 281, 1103515245, 465), (8, 283, 12345, 466), (8, 285, 2147483648, 467), (8, 287, 65536, 471), (8, 251, -102, 777), (9, 96, 1103515245, 944), (9, 102, 12345, 945), (9, 104, 2147483648, 946), (9, 106, 65536, 947), (9, 213, -102, 1160)]
theorem am_lcs_ok : (am_lcs.all fun q => decide (lw_tbl[q.2.2.2]? = some (Cond.constantLong (am_cn q.1) q.2.1 q.2.2.1))) = true := by decide +kernel
/-- own class, index, kind (0 virtual, 1 static, 2 init, 3 init of a nest mate, 4 static of a nest mate, 5 Object.init, 6 Math.max, 7 arraycopy), method, places: link, instance or static, selects -/
def am_ivs : List (Nat × Nat × Nat × Nat × Nat × Nat × Nat) := [(10, 9, 2, 57, 77, 78, 0), (8, 3, 5, 0, 80, 0, 0), (8, 11, 3, 50, 85, 86, 0), (6, 1, 5, 0, 88, 0, 0), (6, 9, 2, 10, 91, 92, 0), (1, 3, 5, 0, 94, 0, 0), (1, 24, 0, 11, 95, 96, 97), (6, 18, 3, 26, 160, 161, 0), (3, 3, 5, 0, 163, 0, 0), (8, 29, 3, 19, 207, 208, 0), (2, 3, 5, 0, 210, 0, 0), (8, 36, 2, 10, 226, 92, 0), (8, 43, 3, 0, 229, 230, 0), (0, 3, 5, 0, 232, 0, 0), (0, 11, 3, 26, 234, 161, 0), (8, 50, 3, 37, 257, 258, 0), (4, 3, 5, 0, 260, 0, 0), (8, 57, 3, 45, 287, 288, 0), (5, 3, 5, 0, 290, 0, 0), (8, 64, 3, 52, 305, 306, 0), (7, 3, 5, 0, 308, 0, 0), (10, 13, 0, 58, 359, 360, 361), (8, 76, 0, 97, 363, 365, 0), (8, 148, 0, 51, 367, 368, 369), (6, 23, 0, 12, 371, 372, 373), (1, 38, 7, 0, 375, 0, 0), (6, 27, 0, 27, 378, 379, 380), (3, 32, 7, 0, 382, 0, 0), (8, 152, 0, 38, 383, 384, 385), (8, 79, 0, 11, 387, 96, 97), (8, 83, 0, 98, 388, 390, 1), (10, 18, 0, 59, 392, 393, 394), (8, 87, 0, 13, 396, 397, 398), (8, 94, 0, 15, 400, 401, 402), (8, 102, 0, 34, 404, 405, 406), (3, 60, 0, 33, 408, 409, 410), (3, 56, 0, 18, 412, 413, 414), (1, 44, 4, 109, 416, 417, 0), (10, 23, 0, 60, 419, 420, 421), (8, 108, 0, 14, 423, 424, 425), (8, 111, 0, 35, 427, 428, 429), (3, 64, 0, 30, 431, 432, 433), (8, 114, 0, 16, 435, 436, 437), (10, 28, 0, 61, 439, 440, 441), (8, 122, 0, 36, 443, 444, 445), (10, 32, 0, 62, 447, 448, 449), (10, 36, 0, 63, 451, 452, 453), (10, 40, 0, 64, 455, 456, 457), (8, 132, 1, 106, 459, 460, 0), (8, 273, 1, 107, 462, 463, 0), (8, 277, 1, 108, 468, 469, 0), (10, 44, 0, 65, 472, 473, 474), (10, 49, 0, 66, 476, 477, 478), (10, 53, 0, 67, 480, 481, 482), (10, 57, 0, 68, 484, 485, 486), (10, 61, 0, 69, 488, 489, 490), (10, 65, 0, 70, 492, 493, 494), (10, 69, 0, 71, 496, 497, 498), (8, 158, 0, 20, 500, 501, 502), (10, 73, 0, 72, 504, 505, 506), (10, 77, 0, 73, 508, 509, 510), (8, 160, 0, 21, 512, 513, 514), (2, 22, 0, 25, 516, 518, 2), (2, 26, 0, 24, 520, 522, 3), (2, 30, 0, 11, 524, 96, 97), (2, 39, 0, 22, 525, 527, 4), (2, 46, 0, 23, 529, 531, 5), (2, 50, 0, 15, 533, 401, 402), (10, 81, 0, 74, 534, 535, 536), (8, 167, 0, 12, 538, 372, 373), (10, 85, 0, 75, 539, 540, 541), (10, 89, 0, 76, 543, 544, 545), (10, 93, 0, 77, 547, 548, 549), (10, 97, 0, 78, 551, 552, 553), (8, 180, 0, 99, 555, 557, 6), (8, 256, 0, 1, 559, 560, 561), (0, 31, 0, 2, 563, 565, 7), (0, 68, 0, 28, 567, 568, 569), (3, 38, 0, 29, 571, 572, 573), (0, 75, 7, 0, 575, 0, 0), (0, 35, 0, 3, 576, 578, 8), (0, 39, 0, 9, 580, 582, 9), (0, 113, 4, 109, 584, 417, 0), (0, 47, 0, 4, 585, 587, 10), (0, 87, 4, 110, 589, 590, 0), (0, 91, 0, 18, 592, 413, 414), (0, 51, 0, 5, 593, 595, 11), (0, 55, 0, 7, 597, 599, 12), (0, 100, 0, 6, 601, 603, 13), (0, 59, 0, 8, 605, 607, 14), (0, 110, 0, 29, 609, 572, 573), (8, 263, 0, 27, 610, 379, 380), (8, 184, 0, 100, 611, 613, 15), (8, 266, 0, 31, 615, 616, 617), (10, 101, 0, 79, 619, 620, 621), (10, 105, 0, 80, 623, 624, 625), (8, 191, 0, 32, 627, 628, 629), (10, 109, 0, 81, 631, 632, 633), (10, 113, 0, 82, 635, 636, 637), (10, 117, 0, 83, 639, 640, 641), (8, 207, 0, 33, 643, 409, 410), (10, 121, 0, 84, 644, 645, 646), (8, 210, 0, 101, 648, 650, 16), (8, 270, 0, 103, 652, 654, 17), (10, 125, 0, 85, 656, 657, 658), (8, 214, 0, 102, 660, 662, 18), (8, 253, 0, 17, 664, 665, 666), (10, 129, 0, 86, 668, 669, 670), (8, 217, 0, 30, 672, 432, 433), (10, 133, 0, 87, 673, 674, 675), (10, 137, 0, 88, 677, 678, 679), (8, 220, 0, 104, 681, 683, 19), (10, 141, 0, 89, 685, 686, 687), (8, 223, 0, 39, 689, 690, 691), (4, 36, 0, 1, 693, 560, 561), (4, 43, 0, 40, 694, 696, 20), (4, 61, 7, 0, 698, 0, 0), (4, 51, 0, 31, 699, 616, 617), (4, 57, 1, 41, 700, 701, 0), (4, 74, 0, 44, 703, 705, 21), (4, 87, 0, 42, 707, 709, 22), (4, 91, 0, 43, 711, 713, 23), (10, 145, 0, 90, 715, 716, 717), (10, 149, 0, 91, 719, 720, 721), (8, 233, 1, 105, 723, 724, 0), (8, 237, 0, 46, 726, 727, 728), (5, 18, 0, 47, 730, 732, 24), (5, 22, 0, 1, 734, 560, 561), (5, 32, 0, 48, 735, 737, 25), (5, 55, 0, 31, 739, 616, 617), (5, 40, 0, 49, 740, 742, 26), (5, 67, 0, 32, 744, 628, 629), (5, 71, 6, 0, 745, 0, 0), (10, 153, 0, 92, 748, 749, 750), (10, 157, 0, 93, 752, 753, 754), (8, 247, 0, 53, 756, 757, 758), (7, 16, 0, 54, 760, 762, 27), (7, 43, 4, 110, 764, 590, 0), (7, 26, 0, 55, 765, 767, 28), (7, 47, 0, 56, 769, 771, 29), (10, 162, 0, 94, 773, 774, 775), (10, 167, 0, 95, 778, 779, 780), (10, 171, 0, 96, 782, 783, 784), (10, 12, 2, 111, 788, 789, 0), (9, 1, 5, 0, 791, 0, 0), (9, 56, 0, 115, 792, 794, 30), (10, 17, 0, 118, 878, 879, 880), (9, 60, 1, 112, 882, 883, 0), (9, 71, 0, 116, 885, 887, 31), (10, 22, 0, 120, 889, 890, 891), (9, 74, 0, 113, 893, 895, 32), (9, 78, 0, 119, 897, 899, 33), (9, 82, 0, 153, 901, 903, 34), (9, 135, 1, 141, 905, 906, 0), (9, 86, 0, 117, 908, 910, 35), (10, 27, 0, 122, 912, 913, 914), (9, 90, 0, 114, 916, 918, 36), (9, 93, 0, 121, 920, 922, 37), (10, 31, 0, 123, 924, 925, 926), (10, 35, 0, 124, 928, 929, 930), (10, 39, 0, 125, 932, 933, 934), (10, 43, 0, 127, 936, 937, 938), (9, 108, 0, 126, 940, 942, 38), (10, 48, 0, 128, 948, 949, 950), (10, 52, 0, 129, 952, 953, 954), (10, 56, 0, 130, 956, 957, 958), (10, 60, 0, 131, 960, 961, 962), (10, 64, 0, 132, 964, 965, 966), (10, 68, 0, 133, 968, 969, 970), (10, 72, 0, 134, 972, 973, 974), (10, 76, 0, 135, 976, 977, 978), (10, 80, 0, 139, 980, 981, 982), (9, 128, 0, 138, 984, 986, 39), (9, 120, 0, 136, 988, 990, 40), (9, 124, 0, 137, 992, 994, 41), (10, 84, 0, 140, 996, 997, 998), (10, 88, 0, 154, 1000, 1001, 1002), (10, 92, 0, 155, 1004, 1005, 1006), (10, 96, 0, 156, 1008, 1009, 1010), (10, 100, 0, 158, 1012, 1013, 1014), (9, 169, 0, 152, 1016, 1018, 42), (9, 162, 0, 150, 1020, 1022, 43), (9, 165, 0, 149, 1024, 1026, 44), (9, 147, 0, 144, 1028, 1030, 45), (9, 150, 0, 145, 1032, 1034, 46), (9, 138, 0, 143, 1036, 1038, 47), (9, 153, 0, 146, 1040, 1042, 48), (9, 141, 0, 142, 1044, 1046, 49), (9, 156, 0, 148, 1048, 1050, 50), (9, 144, 0, 147, 1052, 1054, 51), (9, 172, 0, 157, 1056, 1058, 52), (10, 104, 0, 159, 1060, 1061, 1062), (10, 108, 0, 160, 1064, 1065, 1066), (10, 112, 0, 161, 1068, 1069, 1070), (10, 116, 0, 162, 1072, 1073, 1074), (10, 120, 0, 163, 1076, 1077, 1078), (10, 124, 0, 166, 1080, 1081, 1082), (9, 178, 0, 164, 1084, 1086, 53), (9, 175, 0, 151, 1088, 1090, 54), (10, 128, 0, 167, 1092, 1093, 1094), (9, 181, 0, 165, 1096, 1098, 55), (10, 132, 0, 168, 1100, 1101, 1102), (10, 136, 0, 169, 1104, 1105, 1106), (10, 140, 0, 170, 1108, 1109, 1110), (10, 144, 0, 176, 1112, 1113, 1114), (9, 203, 0, 175, 1116, 1118, 56), (9, 196, 0, 174, 1120, 1122, 57), (9, 184, 0, 172, 1124, 1126, 58), (9, 193, 0, 173, 1128, 1130, 59), (9, 199, 0, 171, 1132, 1134, 60), (10, 148, 0, 177, 1136, 1137, 1138), (10, 152, 0, 179, 1140, 1141, 1142), (9, 209, 0, 178, 1144, 1146, 61), (10, 156, 0, 180, 1148, 1149, 1150), (10, 161, 0, 181, 1152, 1153, 1154), (10, 166, 0, 182, 1156, 1157, 1158), (10, 170, 0, 183, 1161, 1162, 1163), (10, 174, 0, 184, 1165, 1166, 1167)]
def am_ivok (q : Nat × Nat × Nat × Nat × Nat × Nat × Nat) : Bool := match q with
  | (w, k, 0, y, p, i, s) => decide (y < 185 ∧ am_ow y < 10 ∧ lw_tbl[p]? = some (Cond.methodLink (am_cn w) k (am_y y)) ∧ lw_tbl[i]? = some (Cond.instanceMethod (am_y y)) ∧ lw_tbl[s]? = some (Cond.selects (am_cn (am_ow y)) (am_y y) (am_y y)))
  | (w, k, 1, y, p, i, _) => decide (y < 185 ∧ lw_tbl[p]? = some (Cond.methodLink (am_cn w) k (am_y y)) ∧ lw_tbl[i]? = some (Cond.static (am_y y)) ∧ am_ow y = w)
  | (w, k, 2, y, p, i, _) => decide (y < 185 ∧ lw_tbl[p]? = some (Cond.methodLink (am_cn w) k (am_y y)) ∧ lw_tbl[i]? = some (Cond.instanceMethod (am_y y)) ∧ (am_y y).name = "<init>" ∧ am_rt y = none)
  | (w, k, 3, y, p, i, _) => decide (y < 185 ∧ lw_tbl[p]? = some (Cond.methodLinkNest (am_cn w) k (am_y y) "ArborescenceFinder") ∧ lw_tbl[i]? = some (Cond.instanceMethod (am_y y)) ∧ (am_y y).name = "<init>" ∧ am_rt y = none)
  | (w, k, 4, y, p, i, _) => decide (y < 185 ∧ lw_tbl[p]? = some (Cond.methodLinkNest (am_cn w) k (am_y y) "ArborescenceFinder") ∧ lw_tbl[i]? = some (Cond.static (am_y y)))
  | (w, k, 5, _, p, _, _) => decide (lw_tbl[p]? = some (Cond.methodLink (am_cn w) k objectInit))
  | (w, k, 6, _, p, _, _) => decide (lw_tbl[p]? = some (Cond.methodLink (am_cn w) k Lib.Math.max.name))
  | (w, k, 7, _, p, _, _) => decide (lw_tbl[p]? = some (Cond.methodLink (am_cn w) k arraycopyName))
  | _ => false
theorem am_ivs_ok : am_ivs.all am_ivok = true := by decide +kernel
theorem am_w_int : Cond.arrayClass .int ∈ lw_tbl := List.mem_of_getElem? (i := 157) (by decide +kernel)
theorem am_w_boolean : Cond.arrayClass .boolean ∈ lw_tbl := List.mem_of_getElem? (i := 223) (by decide +kernel)
theorem am_w_char : Cond.arrayClass .char ∈ lw_tbl := List.mem_of_getElem? (i := 224) (by decide +kernel)
theorem am_w_long : Cond.arrayClass .long ∈ lw_tbl := List.mem_of_getElem? (i := 315) (by decide +kernel)
theorem am_w_ovS : Cond.arrayOver (.object "ArborescenceFinder$State") ∈ lw_tbl := List.mem_of_getElem? (i := 204) (by decide +kernel)
theorem am_w_ovJ : Cond.arrayOver (.array .long) ∈ lw_tbl := List.mem_of_getElem? (i := 310) (by decide +kernel)
theorem am_w_clJ : Cond.classLink "ArborescenceFinder$TreeCounter" 9 "[[J" ∈ lw_tbl := List.mem_of_getElem? (i := 309) (by decide +kernel)
theorem am_w_ac1 : Cond.native arraycopyName ∈ lw_tbl := List.mem_of_getElem? (i := 377) (by decide +kernel)
theorem am_w_ac2 : Cond.static arraycopyName ∈ lw_tbl := List.mem_of_getElem? (i := 376) (by decide +kernel)
theorem am_w_ac3 : Cond.initialized "java/lang/System" ∈ lw_tbl := List.mem_of_getElem? (i := 73) (by decide +kernel)
theorem am_w_mx1 : Cond.static Lib.Math.max.name ∈ lw_tbl := List.mem_of_getElem? (i := 746) (by decide +kernel)
theorem am_w_mx2 : Cond.initialized "java/lang/Math" ∈ lw_tbl := List.mem_of_getElem? (i := 74) (by decide +kernel)
theorem am_w_mx3 : Cond.code Lib.Math.max.name Lib.Math.max.code 2 (some .int) ∈ lw_tbl := List.mem_of_getElem? (i := 747) (by decide +kernel)
theorem am_w_oi1 : Cond.instanceMethod objectInit ∈ lw_tbl := List.mem_of_getElem? (i := 81) (by decide +kernel)
theorem am_w_oi2 : Cond.code objectInit ⟨#[0xb1]⟩ 1 none ∈ lw_tbl := List.mem_of_getElem? (i := 82) (by decide +kernel)
def am_tb : List Cond := lw_tbl.filter goodWord
theorem am_in {w : Cond} (h : w ∈ lw_tbl) (hg : goodWord w = true) : w ∈ am_tb := List.mem_filter.mpr ⟨h, hg⟩
end
