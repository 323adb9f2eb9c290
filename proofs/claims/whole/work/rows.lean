section
-- ===== PART A: goes FIRST, ahead of the names: the tables' words, and 'selects' of the private methods out of them =====
/-- a private method of a class that the tables say can be made, by its rows of tables_1 -/
def lw_okq (q : MethodName × Nat) : Prop := (q.1.cls ≠ "java/lang/invoke/MethodHandle" ∧ q.1.cls ≠ "java/lang/invoke/VarHandle") ∧ Cond.instantiable q.1.cls q.2 ∈ tables_1 ∧ Cond.privateMethod q.1 ∈ tables_1 ∧ Cond.instanceMethod q.1 ∈ tables_1
theorem lw_p0 : lw_okq (⟨"ArborescenceFinder", "keepForUndo", "()V"⟩, 14) := ⟨⟨by decide +kernel, by decide +kernel⟩, List.mem_of_getElem? (i := 14) (by decide +kernel), List.mem_of_getElem? (i := 302) (by decide +kernel), List.mem_of_getElem? (i := 303) (by decide +kernel)⟩
theorem lw_p1 : lw_okq (⟨"ArborescenceFinder", "settleRecord", "(Z)V"⟩, 14) := ⟨⟨by decide +kernel, by decide +kernel⟩, List.mem_of_getElem? (i := 14) (by decide +kernel), List.mem_of_getElem? (i := 327) (by decide +kernel), List.mem_of_getElem? (i := 328) (by decide +kernel)⟩
theorem lw_p2 : lw_okq (⟨"ArborescenceFinder$GraphText", "takeDigit", "(II)I"⟩, 3) := ⟨⟨by decide +kernel, by decide +kernel⟩, List.mem_of_getElem? (i := 144) (by decide +kernel), List.mem_of_getElem? (i := 455) (by decide +kernel), List.mem_of_getElem? (i := 456) (by decide +kernel)⟩
theorem lw_p3 : lw_okq (⟨"ArborescenceFinder$GraphText", "takeSign", "(C)Z"⟩, 3) := ⟨⟨by decide +kernel, by decide +kernel⟩, List.mem_of_getElem? (i := 144) (by decide +kernel), List.mem_of_getElem? (i := 459) (by decide +kernel), List.mem_of_getElem? (i := 460) (by decide +kernel)⟩
theorem lw_p4 : lw_okq (⟨"ArborescenceFinder$GraphText", "readArc", "(LArborescenceFinder$Graph;)Z"⟩, 3) := ⟨⟨by decide +kernel, by decide +kernel⟩, List.mem_of_getElem? (i := 144) (by decide +kernel), List.mem_of_getElem? (i := 464) (by decide +kernel), List.mem_of_getElem? (i := 465) (by decide +kernel)⟩
theorem lw_p5 : lw_okq (⟨"ArborescenceFinder$GraphText", "takeNumber", "()I"⟩, 3) := ⟨⟨by decide +kernel, by decide +kernel⟩, List.mem_of_getElem? (i := 144) (by decide +kernel), List.mem_of_getElem? (i := 468) (by decide +kernel), List.mem_of_getElem? (i := 469) (by decide +kernel)⟩
theorem lw_p6 : lw_okq (⟨"ArborescenceFinder", "haveRecord", "()Z"⟩, 14) := ⟨⟨by decide +kernel, by decide +kernel⟩, List.mem_of_getElem? (i := 14) (by decide +kernel), List.mem_of_getElem? (i := 494) (by decide +kernel), List.mem_of_getElem? (i := 495) (by decide +kernel)⟩
theorem lw_p7 : lw_okq (⟨"ArborescenceFinder$Contraction", "prepare", "(LArborescenceFinder$Graph;[I)V"⟩, 5) := ⟨⟨by decide +kernel, by decide +kernel⟩, List.mem_of_getElem? (i := 166) (by decide +kernel), List.mem_of_getElem? (i := 502) (by decide +kernel), List.mem_of_getElem? (i := 503) (by decide +kernel)⟩
theorem lw_p8 : lw_okq (⟨"ArborescenceFinder$Contraction", "nextGroup", "(LArborescenceFinder$Graph;)I"⟩, 5) := ⟨⟨by decide +kernel, by decide +kernel⟩, List.mem_of_getElem? (i := 166) (by decide +kernel), List.mem_of_getElem? (i := 515) (by decide +kernel), List.mem_of_getElem? (i := 516) (by decide +kernel)⟩
theorem lw_p9 : lw_okq (⟨"ArborescenceFinder$Contraction", "readOff", "(LArborescenceFinder$Graph;)V"⟩, 5) := ⟨⟨by decide +kernel, by decide +kernel⟩, List.mem_of_getElem? (i := 166) (by decide +kernel), List.mem_of_getElem? (i := 519) (by decide +kernel), List.mem_of_getElem? (i := 520) (by decide +kernel)⟩
theorem lw_p10 : lw_okq (⟨"ArborescenceFinder$Contraction", "cheapestEntering", "(LArborescenceFinder$Graph;II)I"⟩, 5) := ⟨⟨by decide +kernel, by decide +kernel⟩, List.mem_of_getElem? (i := 166) (by decide +kernel), List.mem_of_getElem? (i := 524) (by decide +kernel), List.mem_of_getElem? (i := 525) (by decide +kernel)⟩
theorem lw_p11 : lw_okq (⟨"ArborescenceFinder$Contraction", "setDual", "(LArborescenceFinder$Graph;I)V"⟩, 5) := ⟨⟨by decide +kernel, by decide +kernel⟩, List.mem_of_getElem? (i := 166) (by decide +kernel), List.mem_of_getElem? (i := 532) (by decide +kernel), List.mem_of_getElem? (i := 533) (by decide +kernel)⟩
theorem lw_p12 : lw_okq (⟨"ArborescenceFinder$Contraction", "closesCycle", "(LArborescenceFinder$Graph;I)Z"⟩, 5) := ⟨⟨by decide +kernel, by decide +kernel⟩, List.mem_of_getElem? (i := 166) (by decide +kernel), List.mem_of_getElem? (i := 536) (by decide +kernel), List.mem_of_getElem? (i := 537) (by decide +kernel)⟩
theorem lw_p13 : lw_okq (⟨"ArborescenceFinder$Contraction", "groupBefore", "(LArborescenceFinder$Graph;I)I"⟩, 5) := ⟨⟨by decide +kernel, by decide +kernel⟩, List.mem_of_getElem? (i := 166) (by decide +kernel), List.mem_of_getElem? (i := 540) (by decide +kernel), List.mem_of_getElem? (i := 541) (by decide +kernel)⟩
theorem lw_p14 : lw_okq (⟨"ArborescenceFinder$Contraction", "uniteCycle", "(LArborescenceFinder$Graph;I)V"⟩, 5) := ⟨⟨by decide +kernel, by decide +kernel⟩, List.mem_of_getElem? (i := 166) (by decide +kernel), List.mem_of_getElem? (i := 544) (by decide +kernel), List.mem_of_getElem? (i := 545) (by decide +kernel)⟩
theorem lw_p15 : lw_okq (⟨"ArborescenceFinder", "recordedCost", "()I"⟩, 14) := ⟨⟨by decide +kernel, by decide +kernel⟩, List.mem_of_getElem? (i := 14) (by decide +kernel), List.mem_of_getElem? (i := 550) (by decide +kernel), List.mem_of_getElem? (i := 551) (by decide +kernel)⟩
def lw_privs_1 : List (MethodName × Nat) := [(⟨"ArborescenceFinder", "keepForUndo", "()V"⟩, 14), (⟨"ArborescenceFinder", "settleRecord", "(Z)V"⟩, 14), (⟨"ArborescenceFinder$GraphText", "takeDigit", "(II)I"⟩, 3), (⟨"ArborescenceFinder$GraphText", "takeSign", "(C)Z"⟩, 3), (⟨"ArborescenceFinder$GraphText", "readArc", "(LArborescenceFinder$Graph;)Z"⟩, 3), (⟨"ArborescenceFinder$GraphText", "takeNumber", "()I"⟩, 3), (⟨"ArborescenceFinder", "haveRecord", "()Z"⟩, 14), (⟨"ArborescenceFinder$Contraction", "prepare", "(LArborescenceFinder$Graph;[I)V"⟩, 5), (⟨"ArborescenceFinder$Contraction", "nextGroup", "(LArborescenceFinder$Graph;)I"⟩, 5), (⟨"ArborescenceFinder$Contraction", "readOff", "(LArborescenceFinder$Graph;)V"⟩, 5), (⟨"ArborescenceFinder$Contraction", "cheapestEntering", "(LArborescenceFinder$Graph;II)I"⟩, 5), (⟨"ArborescenceFinder$Contraction", "setDual", "(LArborescenceFinder$Graph;I)V"⟩, 5), (⟨"ArborescenceFinder$Contraction", "closesCycle", "(LArborescenceFinder$Graph;I)Z"⟩, 5), (⟨"ArborescenceFinder$Contraction", "groupBefore", "(LArborescenceFinder$Graph;I)I"⟩, 5), (⟨"ArborescenceFinder$Contraction", "uniteCycle", "(LArborescenceFinder$Graph;I)V"⟩, 5), (⟨"ArborescenceFinder", "recordedCost", "()I"⟩, 14)]
theorem lw_r1 : ∀ q ∈ lw_privs_1, lw_okq q := List.forall_mem_cons.mpr ⟨lw_p0, List.forall_mem_cons.mpr ⟨lw_p1, List.forall_mem_cons.mpr ⟨lw_p2, List.forall_mem_cons.mpr ⟨lw_p3, List.forall_mem_cons.mpr ⟨lw_p4, List.forall_mem_cons.mpr ⟨lw_p5, List.forall_mem_cons.mpr ⟨lw_p6, List.forall_mem_cons.mpr ⟨lw_p7, List.forall_mem_cons.mpr ⟨lw_p8, List.forall_mem_cons.mpr ⟨lw_p9, List.forall_mem_cons.mpr ⟨lw_p10, List.forall_mem_cons.mpr ⟨lw_p11, List.forall_mem_cons.mpr ⟨lw_p12, List.forall_mem_cons.mpr ⟨lw_p13, List.forall_mem_cons.mpr ⟨lw_p14, List.forall_mem_cons.mpr ⟨lw_p15, fun _ h => absurd h List.not_mem_nil⟩⟩⟩⟩⟩⟩⟩⟩⟩⟩⟩⟩⟩⟩⟩⟩
theorem lw_p16 : lw_okq (⟨"ArborescenceFinder", "cheapestWithout", "(I)I"⟩, 14) := ⟨⟨by decide +kernel, by decide +kernel⟩, List.mem_of_getElem? (i := 14) (by decide +kernel), List.mem_of_getElem? (i := 587) (by decide +kernel), List.mem_of_getElem? (i := 588) (by decide +kernel)⟩
theorem lw_p17 : lw_okq (⟨"ArborescenceFinder", "cheapestAmong", "(I)I"⟩, 14) := ⟨⟨by decide +kernel, by decide +kernel⟩, List.mem_of_getElem? (i := 14) (by decide +kernel), List.mem_of_getElem? (i := 591) (by decide +kernel), List.mem_of_getElem? (i := 592) (by decide +kernel)⟩
theorem lw_p18 : lw_okq (⟨"ArborescenceFinder", "cheapestWith", "(I)I"⟩, 14) := ⟨⟨by decide +kernel, by decide +kernel⟩, List.mem_of_getElem? (i := 14) (by decide +kernel), List.mem_of_getElem? (i := 599) (by decide +kernel), List.mem_of_getElem? (i := 600) (by decide +kernel)⟩
theorem lw_p19 : lw_okq (⟨"ArborescenceFinder", "isNecessary", "(I)Z"⟩, 14) := ⟨⟨by decide +kernel, by decide +kernel⟩, List.mem_of_getElem? (i := 14) (by decide +kernel), List.mem_of_getElem? (i := 620) (by decide +kernel), List.mem_of_getElem? (i := 621) (by decide +kernel)⟩
theorem lw_p20 : lw_okq (⟨"ArborescenceFinder$LimitedSearch", "prepare", "(LArborescenceFinder$Graph;[I)V"⟩, 7) := ⟨⟨by decide +kernel, by decide +kernel⟩, List.mem_of_getElem? (i := 194) (by decide +kernel), List.mem_of_getElem? (i := 633) (by decide +kernel), List.mem_of_getElem? (i := 634) (by decide +kernel)⟩
theorem lw_p21 : lw_okq (⟨"ArborescenceFinder$LimitedSearch", "take", "(LArborescenceFinder$Graph;)V"⟩, 7) := ⟨⟨by decide +kernel, by decide +kernel⟩, List.mem_of_getElem? (i := 194) (by decide +kernel), List.mem_of_getElem? (i := 642) (by decide +kernel), List.mem_of_getElem? (i := 643) (by decide +kernel)⟩
theorem lw_p22 : lw_okq (⟨"ArborescenceFinder$LimitedSearch", "isUseful", "(I)Z"⟩, 7) := ⟨⟨by decide +kernel, by decide +kernel⟩, List.mem_of_getElem? (i := 194) (by decide +kernel), List.mem_of_getElem? (i := 646) (by decide +kernel), List.mem_of_getElem? (i := 647) (by decide +kernel)⟩
theorem lw_p23 : lw_okq (⟨"ArborescenceFinder$LimitedSearch", "canTake", "(LArborescenceFinder$Graph;I)Z"⟩, 7) := ⟨⟨by decide +kernel, by decide +kernel⟩, List.mem_of_getElem? (i := 194) (by decide +kernel), List.mem_of_getElem? (i := 650) (by decide +kernel), List.mem_of_getElem? (i := 651) (by decide +kernel)⟩
theorem lw_p24 : lw_okq (⟨"ArborescenceFinder$PriceRounds", "setPricedCosts", "(LArborescenceFinder$Graph;)V"⟩, 3) := ⟨⟨by decide +kernel, by decide +kernel⟩, List.mem_of_getElem? (i := 224) (by decide +kernel), List.mem_of_getElem? (i := 669) (by decide +kernel), List.mem_of_getElem? (i := 670) (by decide +kernel)⟩
theorem lw_p25 : lw_okq (⟨"ArborescenceFinder$PriceRounds", "boundOf", "(LArborescenceFinder$Graph;LArborescenceFinder$Groups;)I"⟩, 3) := ⟨⟨by decide +kernel, by decide +kernel⟩, List.mem_of_getElem? (i := 224) (by decide +kernel), List.mem_of_getElem? (i := 674) (by decide +kernel), List.mem_of_getElem? (i := 675) (by decide +kernel)⟩
theorem lw_p26 : lw_okq (⟨"ArborescenceFinder$PriceRounds", "changePrices", "(LArborescenceFinder$Graph;LArborescenceFinder$Groups;I)V"⟩, 3) := ⟨⟨by decide +kernel, by decide +kernel⟩, List.mem_of_getElem? (i := 224) (by decide +kernel), List.mem_of_getElem? (i := 679) (by decide +kernel), List.mem_of_getElem? (i := 680) (by decide +kernel)⟩
theorem lw_p27 : lw_okq (⟨"ArborescenceFinder$TreeCounter", "fill", "(LArborescenceFinder$Graph;I)V"⟩, 1) := ⟨⟨by decide +kernel, by decide +kernel⟩, List.mem_of_getElem? (i := 242) (by decide +kernel), List.mem_of_getElem? (i := 699) (by decide +kernel), List.mem_of_getElem? (i := 700) (by decide +kernel)⟩
theorem lw_p28 : lw_okq (⟨"ArborescenceFinder$TreeCounter", "determinant", "(I)J"⟩, 1) := ⟨⟨by decide +kernel, by decide +kernel⟩, List.mem_of_getElem? (i := 242) (by decide +kernel), List.mem_of_getElem? (i := 704) (by decide +kernel), List.mem_of_getElem? (i := 705) (by decide +kernel)⟩
theorem lw_p29 : lw_okq (⟨"ArborescenceFinder$TreeCounter", "eliminate", "(IIJ)V"⟩, 1) := ⟨⟨by decide +kernel, by decide +kernel⟩, List.mem_of_getElem? (i := 242) (by decide +kernel), List.mem_of_getElem? (i := 708) (by decide +kernel), List.mem_of_getElem? (i := 709) (by decide +kernel)⟩
theorem lw_p30 : lw_okq (⟨"ArborescenceFinderModel", "clear", "(II)V"⟩, 27) := ⟨⟨by decide +kernel, by decide +kernel⟩, List.mem_of_getElem? (i := 725) (by decide +kernel), List.mem_of_getElem? (i := 731) (by decide +kernel), List.mem_of_getElem? (i := 732) (by decide +kernel)⟩
theorem lw_p31 : lw_okq (⟨"ArborescenceFinderModel", "keep", "()V"⟩, 27) := ⟨⟨by decide +kernel, by decide +kernel⟩, List.mem_of_getElem? (i := 725) (by decide +kernel), List.mem_of_getElem? (i := 824) (by decide +kernel), List.mem_of_getElem? (i := 825) (by decide +kernel)⟩
def lw_privs_2 : List (MethodName × Nat) := [(⟨"ArborescenceFinder", "cheapestWithout", "(I)I"⟩, 14), (⟨"ArborescenceFinder", "cheapestAmong", "(I)I"⟩, 14), (⟨"ArborescenceFinder", "cheapestWith", "(I)I"⟩, 14), (⟨"ArborescenceFinder", "isNecessary", "(I)Z"⟩, 14), (⟨"ArborescenceFinder$LimitedSearch", "prepare", "(LArborescenceFinder$Graph;[I)V"⟩, 7), (⟨"ArborescenceFinder$LimitedSearch", "take", "(LArborescenceFinder$Graph;)V"⟩, 7), (⟨"ArborescenceFinder$LimitedSearch", "isUseful", "(I)Z"⟩, 7), (⟨"ArborescenceFinder$LimitedSearch", "canTake", "(LArborescenceFinder$Graph;I)Z"⟩, 7), (⟨"ArborescenceFinder$PriceRounds", "setPricedCosts", "(LArborescenceFinder$Graph;)V"⟩, 3), (⟨"ArborescenceFinder$PriceRounds", "boundOf", "(LArborescenceFinder$Graph;LArborescenceFinder$Groups;)I"⟩, 3), (⟨"ArborescenceFinder$PriceRounds", "changePrices", "(LArborescenceFinder$Graph;LArborescenceFinder$Groups;I)V"⟩, 3), (⟨"ArborescenceFinder$TreeCounter", "fill", "(LArborescenceFinder$Graph;I)V"⟩, 1), (⟨"ArborescenceFinder$TreeCounter", "determinant", "(I)J"⟩, 1), (⟨"ArborescenceFinder$TreeCounter", "eliminate", "(IIJ)V"⟩, 1), (⟨"ArborescenceFinderModel", "clear", "(II)V"⟩, 27), (⟨"ArborescenceFinderModel", "keep", "()V"⟩, 27)]
theorem lw_r2 : ∀ q ∈ lw_privs_2, lw_okq q := List.forall_mem_cons.mpr ⟨lw_p16, List.forall_mem_cons.mpr ⟨lw_p17, List.forall_mem_cons.mpr ⟨lw_p18, List.forall_mem_cons.mpr ⟨lw_p19, List.forall_mem_cons.mpr ⟨lw_p20, List.forall_mem_cons.mpr ⟨lw_p21, List.forall_mem_cons.mpr ⟨lw_p22, List.forall_mem_cons.mpr ⟨lw_p23, List.forall_mem_cons.mpr ⟨lw_p24, List.forall_mem_cons.mpr ⟨lw_p25, List.forall_mem_cons.mpr ⟨lw_p26, List.forall_mem_cons.mpr ⟨lw_p27, List.forall_mem_cons.mpr ⟨lw_p28, List.forall_mem_cons.mpr ⟨lw_p29, List.forall_mem_cons.mpr ⟨lw_p30, List.forall_mem_cons.mpr ⟨lw_p31, fun _ h => absurd h List.not_mem_nil⟩⟩⟩⟩⟩⟩⟩⟩⟩⟩⟩⟩⟩⟩⟩⟩
theorem lw_p32 : lw_okq (⟨"ArborescenceFinderModel", "isNode", "(I)Z"⟩, 27) := ⟨⟨by decide +kernel, by decide +kernel⟩, List.mem_of_getElem? (i := 725) (by decide +kernel), List.mem_of_getElem? (i := 832) (by decide +kernel), List.mem_of_getElem? (i := 833) (by decide +kernel)⟩
theorem lw_p33 : lw_okq (⟨"ArborescenceFinderModel", "append", "(III)V"⟩, 27) := ⟨⟨by decide +kernel, by decide +kernel⟩, List.mem_of_getElem? (i := 725) (by decide +kernel), List.mem_of_getElem? (i := 836) (by decide +kernel), List.mem_of_getElem? (i := 837) (by decide +kernel)⟩
theorem lw_p34 : lw_okq (⟨"ArborescenceFinderModel", "reduced", "(I)I"⟩, 27) := ⟨⟨by decide +kernel, by decide +kernel⟩, List.mem_of_getElem? (i := 725) (by decide +kernel), List.mem_of_getElem? (i := 840) (by decide +kernel), List.mem_of_getElem? (i := 841) (by decide +kernel)⟩
theorem lw_p35 : lw_okq (⟨"ArborescenceFinderModel", "judge", "(Z)V"⟩, 27) := ⟨⟨by decide +kernel, by decide +kernel⟩, List.mem_of_getElem? (i := 725) (by decide +kernel), List.mem_of_getElem? (i := 847) (by decide +kernel), List.mem_of_getElem? (i := 848) (by decide +kernel)⟩
theorem lw_p36 : lw_okq (⟨"ArborescenceFinderModel", "isArc", "(I)Z"⟩, 27) := ⟨⟨by decide +kernel, by decide +kernel⟩, List.mem_of_getElem? (i := 725) (by decide +kernel), List.mem_of_getElem? (i := 855) (by decide +kernel), List.mem_of_getElem? (i := 856) (by decide +kernel)⟩
theorem lw_p37 : lw_okq (⟨"ArborescenceFinderModel", "isInTree", "(I)Z"⟩, 27) := ⟨⟨by decide +kernel, by decide +kernel⟩, List.mem_of_getElem? (i := 725) (by decide +kernel), List.mem_of_getElem? (i := 859) (by decide +kernel), List.mem_of_getElem? (i := 860) (by decide +kernel)⟩
theorem lw_p38 : lw_okq (⟨"ArborescenceFinderModel", "drawn", "(I)I"⟩, 27) := ⟨⟨by decide +kernel, by decide +kernel⟩, List.mem_of_getElem? (i := 725) (by decide +kernel), List.mem_of_getElem? (i := 879) (by decide +kernel), List.mem_of_getElem? (i := 880) (by decide +kernel)⟩
theorem lw_p39 : lw_okq (⟨"ArborescenceFinderModel", "parse", "()I"⟩, 27) := ⟨⟨by decide +kernel, by decide +kernel⟩, List.mem_of_getElem? (i := 725) (by decide +kernel), List.mem_of_getElem? (i := 923) (by decide +kernel), List.mem_of_getElem? (i := 924) (by decide +kernel)⟩
theorem lw_p40 : lw_okq (⟨"ArborescenceFinderModel", "digit", "(III)I"⟩, 27) := ⟨⟨by decide +kernel, by decide +kernel⟩, List.mem_of_getElem? (i := 725) (by decide +kernel), List.mem_of_getElem? (i := 927) (by decide +kernel), List.mem_of_getElem? (i := 928) (by decide +kernel)⟩
theorem lw_p41 : lw_okq (⟨"ArborescenceFinderModel", "sign", "(I)V"⟩, 27) := ⟨⟨by decide +kernel, by decide +kernel⟩, List.mem_of_getElem? (i := 725) (by decide +kernel), List.mem_of_getElem? (i := 931) (by decide +kernel), List.mem_of_getElem? (i := 932) (by decide +kernel)⟩
theorem lw_p42 : lw_okq (⟨"ArborescenceFinderModel", "hasRecord", "()Z"⟩, 27) := ⟨⟨by decide +kernel, by decide +kernel⟩, List.mem_of_getElem? (i := 725) (by decide +kernel), List.mem_of_getElem? (i := 955) (by decide +kernel), List.mem_of_getElem? (i := 956) (by decide +kernel)⟩
theorem lw_p43 : lw_okq (⟨"ArborescenceFinderModel", "useAll", "()V"⟩, 27) := ⟨⟨by decide +kernel, by decide +kernel⟩, List.mem_of_getElem? (i := 725) (by decide +kernel), List.mem_of_getElem? (i := 959) (by decide +kernel), List.mem_of_getElem? (i := 960) (by decide +kernel)⟩
theorem lw_p44 : lw_okq (⟨"ArborescenceFinderModel", "contracts", "()Z"⟩, 27) := ⟨⟨by decide +kernel, by decide +kernel⟩, List.mem_of_getElem? (i := 725) (by decide +kernel), List.mem_of_getElem? (i := 963) (by decide +kernel), List.mem_of_getElem? (i := 964) (by decide +kernel)⟩
theorem lw_p45 : lw_okq (⟨"ArborescenceFinderModel", "newGroup", "(I)I"⟩, 27) := ⟨⟨by decide +kernel, by decide +kernel⟩, List.mem_of_getElem? (i := 725) (by decide +kernel), List.mem_of_getElem? (i := 967) (by decide +kernel), List.mem_of_getElem? (i := 968) (by decide +kernel)⟩
theorem lw_p46 : lw_okq (⟨"ArborescenceFinderModel", "nextGroup", "()I"⟩, 27) := ⟨⟨by decide +kernel, by decide +kernel⟩, List.mem_of_getElem? (i := 725) (by decide +kernel), List.mem_of_getElem? (i := 971) (by decide +kernel), List.mem_of_getElem? (i := 972) (by decide +kernel)⟩
theorem lw_p47 : lw_okq (⟨"ArborescenceFinderModel", "topOf", "(I)I"⟩, 27) := ⟨⟨by decide +kernel, by decide +kernel⟩, List.mem_of_getElem? (i := 725) (by decide +kernel), List.mem_of_getElem? (i := 975) (by decide +kernel), List.mem_of_getElem? (i := 976) (by decide +kernel)⟩
def lw_privs_3 : List (MethodName × Nat) := [(⟨"ArborescenceFinderModel", "isNode", "(I)Z"⟩, 27), (⟨"ArborescenceFinderModel", "append", "(III)V"⟩, 27), (⟨"ArborescenceFinderModel", "reduced", "(I)I"⟩, 27), (⟨"ArborescenceFinderModel", "judge", "(Z)V"⟩, 27), (⟨"ArborescenceFinderModel", "isArc", "(I)Z"⟩, 27), (⟨"ArborescenceFinderModel", "isInTree", "(I)Z"⟩, 27), (⟨"ArborescenceFinderModel", "drawn", "(I)I"⟩, 27), (⟨"ArborescenceFinderModel", "parse", "()I"⟩, 27), (⟨"ArborescenceFinderModel", "digit", "(III)I"⟩, 27), (⟨"ArborescenceFinderModel", "sign", "(I)V"⟩, 27), (⟨"ArborescenceFinderModel", "hasRecord", "()Z"⟩, 27), (⟨"ArborescenceFinderModel", "useAll", "()V"⟩, 27), (⟨"ArborescenceFinderModel", "contracts", "()Z"⟩, 27), (⟨"ArborescenceFinderModel", "newGroup", "(I)I"⟩, 27), (⟨"ArborescenceFinderModel", "nextGroup", "()I"⟩, 27), (⟨"ArborescenceFinderModel", "topOf", "(I)I"⟩, 27)]
theorem lw_r3 : ∀ q ∈ lw_privs_3, lw_okq q := List.forall_mem_cons.mpr ⟨lw_p32, List.forall_mem_cons.mpr ⟨lw_p33, List.forall_mem_cons.mpr ⟨lw_p34, List.forall_mem_cons.mpr ⟨lw_p35, List.forall_mem_cons.mpr ⟨lw_p36, List.forall_mem_cons.mpr ⟨lw_p37, List.forall_mem_cons.mpr ⟨lw_p38, List.forall_mem_cons.mpr ⟨lw_p39, List.forall_mem_cons.mpr ⟨lw_p40, List.forall_mem_cons.mpr ⟨lw_p41, List.forall_mem_cons.mpr ⟨lw_p42, List.forall_mem_cons.mpr ⟨lw_p43, List.forall_mem_cons.mpr ⟨lw_p44, List.forall_mem_cons.mpr ⟨lw_p45, List.forall_mem_cons.mpr ⟨lw_p46, List.forall_mem_cons.mpr ⟨lw_p47, fun _ h => absurd h List.not_mem_nil⟩⟩⟩⟩⟩⟩⟩⟩⟩⟩⟩⟩⟩⟩⟩⟩
theorem lw_p48 : lw_okq (⟨"ArborescenceFinderModel", "selects", "(I)Z"⟩, 27) := ⟨⟨by decide +kernel, by decide +kernel⟩, List.mem_of_getElem? (i := 725) (by decide +kernel), List.mem_of_getElem? (i := 979) (by decide +kernel), List.mem_of_getElem? (i := 980) (by decide +kernel)⟩
theorem lw_p49 : lw_okq (⟨"ArborescenceFinderModel", "lowered", "(I)I"⟩, 27) := ⟨⟨by decide +kernel, by decide +kernel⟩, List.mem_of_getElem? (i := 725) (by decide +kernel), List.mem_of_getElem? (i := 983) (by decide +kernel), List.mem_of_getElem? (i := 984) (by decide +kernel)⟩
theorem lw_p50 : lw_okq (⟨"ArborescenceFinderModel", "closeCycle", "(I)V"⟩, 27) := ⟨⟨by decide +kernel, by decide +kernel⟩, List.mem_of_getElem? (i := 725) (by decide +kernel), List.mem_of_getElem? (i := 987) (by decide +kernel), List.mem_of_getElem? (i := 988) (by decide +kernel)⟩
theorem lw_p51 : lw_okq (⟨"ArborescenceFinderModel", "behind", "(I)I"⟩, 27) := ⟨⟨by decide +kernel, by decide +kernel⟩, List.mem_of_getElem? (i := 725) (by decide +kernel), List.mem_of_getElem? (i := 991) (by decide +kernel), List.mem_of_getElem? (i := 992) (by decide +kernel)⟩
theorem lw_p52 : lw_okq (⟨"ArborescenceFinderModel", "costOfRecord", "()I"⟩, 27) := ⟨⟨by decide +kernel, by decide +kernel⟩, List.mem_of_getElem? (i := 725) (by decide +kernel), List.mem_of_getElem? (i := 995) (by decide +kernel), List.mem_of_getElem? (i := 996) (by decide +kernel)⟩
theorem lw_p53 : lw_okq (⟨"ArborescenceFinderModel", "without", "(I)I"⟩, 27) := ⟨⟨by decide +kernel, by decide +kernel⟩, List.mem_of_getElem? (i := 725) (by decide +kernel), List.mem_of_getElem? (i := 1023) (by decide +kernel), List.mem_of_getElem? (i := 1024) (by decide +kernel)⟩
theorem lw_p54 : lw_okq (⟨"ArborescenceFinderModel", "sum", "()I"⟩, 27) := ⟨⟨by decide +kernel, by decide +kernel⟩, List.mem_of_getElem? (i := 725) (by decide +kernel), List.mem_of_getElem? (i := 1027) (by decide +kernel), List.mem_of_getElem? (i := 1028) (by decide +kernel)⟩
theorem lw_p55 : lw_okq (⟨"ArborescenceFinderModel", "with", "(I)I"⟩, 27) := ⟨⟨by decide +kernel, by decide +kernel⟩, List.mem_of_getElem? (i := 725) (by decide +kernel), List.mem_of_getElem? (i := 1035) (by decide +kernel), List.mem_of_getElem? (i := 1036) (by decide +kernel)⟩
theorem lw_p56 : lw_okq (⟨"ArborescenceFinderModel", "goThrough", "(I)V"⟩, 27) := ⟨⟨by decide +kernel, by decide +kernel⟩, List.mem_of_getElem? (i := 725) (by decide +kernel), List.mem_of_getElem? (i := 1055) (by decide +kernel), List.mem_of_getElem? (i := 1056) (by decide +kernel)⟩
theorem lw_p57 : lw_okq (⟨"ArborescenceFinderModel", "meetsOne", "(I)V"⟩, 27) := ⟨⟨by decide +kernel, by decide +kernel⟩, List.mem_of_getElem? (i := 725) (by decide +kernel), List.mem_of_getElem? (i := 1059) (by decide +kernel), List.mem_of_getElem? (i := 1060) (by decide +kernel)⟩
theorem lw_p58 : lw_okq (⟨"ArborescenceFinderModel", "isArborescence", "()Z"⟩, 27) := ⟨⟨by decide +kernel, by decide +kernel⟩, List.mem_of_getElem? (i := 725) (by decide +kernel), List.mem_of_getElem? (i := 1063) (by decide +kernel), List.mem_of_getElem? (i := 1064) (by decide +kernel)⟩
theorem lw_p59 : lw_okq (⟨"ArborescenceFinderModel", "isLimited", "()Z"⟩, 27) := ⟨⟨by decide +kernel, by decide +kernel⟩, List.mem_of_getElem? (i := 725) (by decide +kernel), List.mem_of_getElem? (i := 1067) (by decide +kernel), List.mem_of_getElem? (i := 1068) (by decide +kernel)⟩
theorem lw_p60 : lw_okq (⟨"ArborescenceFinderModel", "nextArc", "(II)I"⟩, 27) := ⟨⟨by decide +kernel, by decide +kernel⟩, List.mem_of_getElem? (i := 725) (by decide +kernel), List.mem_of_getElem? (i := 1071) (by decide +kernel), List.mem_of_getElem? (i := 1072) (by decide +kernel)⟩
theorem lw_p61 : lw_okq (⟨"ArborescenceFinderModel", "bids", "(II)Z"⟩, 27) := ⟨⟨by decide +kernel, by decide +kernel⟩, List.mem_of_getElem? (i := 725) (by decide +kernel), List.mem_of_getElem? (i := 1083) (by decide +kernel), List.mem_of_getElem? (i := 1084) (by decide +kernel)⟩
def lw_privs_4 : List (MethodName × Nat) := [(⟨"ArborescenceFinderModel", "selects", "(I)Z"⟩, 27), (⟨"ArborescenceFinderModel", "lowered", "(I)I"⟩, 27), (⟨"ArborescenceFinderModel", "closeCycle", "(I)V"⟩, 27), (⟨"ArborescenceFinderModel", "behind", "(I)I"⟩, 27), (⟨"ArborescenceFinderModel", "costOfRecord", "()I"⟩, 27), (⟨"ArborescenceFinderModel", "without", "(I)I"⟩, 27), (⟨"ArborescenceFinderModel", "sum", "()I"⟩, 27), (⟨"ArborescenceFinderModel", "with", "(I)I"⟩, 27), (⟨"ArborescenceFinderModel", "goThrough", "(I)V"⟩, 27), (⟨"ArborescenceFinderModel", "meetsOne", "(I)V"⟩, 27), (⟨"ArborescenceFinderModel", "isArborescence", "()Z"⟩, 27), (⟨"ArborescenceFinderModel", "isLimited", "()Z"⟩, 27), (⟨"ArborescenceFinderModel", "nextArc", "(II)I"⟩, 27), (⟨"ArborescenceFinderModel", "bids", "(II)Z"⟩, 27)]
theorem lw_r4 : ∀ q ∈ lw_privs_4, lw_okq q := List.forall_mem_cons.mpr ⟨lw_p48, List.forall_mem_cons.mpr ⟨lw_p49, List.forall_mem_cons.mpr ⟨lw_p50, List.forall_mem_cons.mpr ⟨lw_p51, List.forall_mem_cons.mpr ⟨lw_p52, List.forall_mem_cons.mpr ⟨lw_p53, List.forall_mem_cons.mpr ⟨lw_p54, List.forall_mem_cons.mpr ⟨lw_p55, List.forall_mem_cons.mpr ⟨lw_p56, List.forall_mem_cons.mpr ⟨lw_p57, List.forall_mem_cons.mpr ⟨lw_p58, List.forall_mem_cons.mpr ⟨lw_p59, List.forall_mem_cons.mpr ⟨lw_p60, List.forall_mem_cons.mpr ⟨lw_p61, fun _ h => absurd h List.not_mem_nil⟩⟩⟩⟩⟩⟩⟩⟩⟩⟩⟩⟩⟩⟩
def lw_privs : List (MethodName × Nat) := lw_privs_1 ++ (lw_privs_2 ++ (lw_privs_3 ++ (lw_privs_4)))
def lw_tbl : List Cond := k2_sels lw_privs ++ tables_1
theorem lw_privs_ok : ∀ q ∈ lw_privs, lw_okq q := by
  show ∀ q ∈ lw_privs_1 ++ (lw_privs_2 ++ (lw_privs_3 ++ (lw_privs_4))), lw_okq q
  exact List.forall_mem_append.mpr ⟨lw_r1, List.forall_mem_append.mpr ⟨lw_r2, List.forall_mem_append.mpr ⟨lw_r3, lw_r4⟩⟩⟩
end
section
def TX0 : u_T := fun k => match k with
  | 0 => ("ArborescenceFinder$Contraction", "result", "LArborescenceFinder$Groups;", true)
  | 1 => ("ArborescenceFinder$Contraction", "reduced", "[I", true)
  | 2 => ("ArborescenceFinder$Contraction", "selected", "[I", true)
  | 3 => ("ArborescenceFinder$Contraction", "topOf", "[I", true)
  | _ => ("ArborescenceFinder$Contraction", "entered", "[I", true)
def tyX0 : Nat → FieldType := fun k => match k with
  | 0 => .object "ArborescenceFinder$Groups"
  | 1 => .array .int
  | 2 => .array .int
  | 3 => .array .int
  | _ => .array .int
def TX1 : u_T := fun k => match k with
  | 0 => ("ArborescenceFinder$Graph", "nodeCount", "I", false)
  | 1 => ("ArborescenceFinder$Graph", "rootNode", "I", false)
  | 2 => ("ArborescenceFinder$Graph", "arcCount", "I", false)
  | 3 => ("ArborescenceFinder$Graph", "tailOf", "[I", true)
  | 4 => ("ArborescenceFinder$Graph", "headOf", "[I", true)
  | 5 => ("ArborescenceFinder$Graph", "costOf", "[I", true)
  | _ => ("ArborescenceFinder$Graph", "limitOf", "[I", true)
def tyX1 : Nat → FieldType := fun k => match k with
  | 0 => .int
  | 1 => .int
  | 2 => .int
  | 3 => .array .int
  | 4 => .array .int
  | 5 => .array .int
  | _ => .array .int
def TX2 : u_T := fun k => match k with
  | 0 => ("ArborescenceFinder$GraphText", "length", "I", false)
  | 1 => ("ArborescenceFinder$GraphText", "at", "I", false)
  | _ => ("ArborescenceFinder$GraphText", "signs", "[C", true)
def tyX2 : Nat → FieldType := fun k => match k with
  | 0 => .int
  | 1 => .int
  | _ => .array .char
def TX3 : u_T := fun k => match k with
  | 0 => ("ArborescenceFinder$Groups", "present", "Z", false)
  | 1 => ("ArborescenceFinder$Groups", "count", "I", false)
  | 2 => ("ArborescenceFinder$Groups", "nodeSet", "[I", true)
  | 3 => ("ArborescenceFinder$Groups", "dual", "[I", true)
  | 4 => ("ArborescenceFinder$Groups", "whole", "[I", true)
  | _ => ("ArborescenceFinder$Groups", "entering", "[I", true)
def tyX3 : Nat → FieldType := fun k => match k with
  | 0 => .boolean
  | 1 => .int
  | 2 => .array .int
  | 3 => .array .int
  | 4 => .array .int
  | _ => .array .int
def TX4 : u_T := fun k => match k with
  | 0 => ("ArborescenceFinder$LimitedSearch", "known", "Z", false)
  | 1 => ("ArborescenceFinder$LimitedSearch", "found", "Z", false)
  | 2 => ("ArborescenceFinder$LimitedSearch", "bestCost", "I", false)
  | 3 => ("ArborescenceFinder$LimitedSearch", "best", "[I", true)
  | 4 => ("ArborescenceFinder$LimitedSearch", "chosen", "[I", true)
  | 5 => ("ArborescenceFinder$LimitedSearch", "arcsLeft", "[I", true)
  | _ => ("ArborescenceFinder$LimitedSearch", "reduced", "[I", true)
def tyX4 : Nat → FieldType := fun k => match k with
  | 0 => .boolean
  | 1 => .boolean
  | 2 => .int
  | 3 => .array .int
  | 4 => .array .int
  | 5 => .array .int
  | _ => .array .int
def TX5 : u_T := fun k => match k with
  | 0 => ("ArborescenceFinder$PriceRounds", "greatestBound", "I", false)
  | 1 => ("ArborescenceFinder$PriceRounds", "priceOf", "[I", true)
  | _ => ("ArborescenceFinder$PriceRounds", "pricedCost", "[I", true)
def tyX5 : Nat → FieldType := fun k => match k with
  | 0 => .int
  | 1 => .array .int
  | _ => .array .int
def TX6 : u_T := fun k => match k with
  | 0 => ("ArborescenceFinder$State", "graph", "LArborescenceFinder$Graph;", true)
  | _ => ("ArborescenceFinder$State", "record", "LArborescenceFinder$Groups;", true)
def tyX6 : Nat → FieldType := fun k => match k with
  | 0 => .object "ArborescenceFinder$Graph"
  | _ => .object "ArborescenceFinder$Groups"
def TX7 : u_T := fun k => match k with
  | _ => ("ArborescenceFinder$TreeCounter", "matrix", "[[J", true)
def tyX7 : Nat → FieldType := fun k => match k with
  | _ => .array (.array .long)
def TX8 : u_T := fun k => match k with
  | 0 => ("ArborescenceFinder", "now", "LArborescenceFinder$State;", true)
  | 1 => ("ArborescenceFinder", "kept", "[LArborescenceFinder$State;", true)
  | 2 => ("ArborescenceFinder", "oldestKept", "I", false)
  | 3 => ("ArborescenceFinder", "keptCount", "I", false)
  | 4 => ("ArborescenceFinder", "slots", "[LArborescenceFinder$State;", true)
  | 5 => ("ArborescenceFinder", "slotFilled", "[Z", true)
  | 6 => ("ArborescenceFinder", "runCount", "I", false)
  | 7 => ("ArborescenceFinder", "reuseCount", "I", false)
  | 8 => ("ArborescenceFinder", "text", "LArborescenceFinder$GraphText;", true)
  | 9 => ("ArborescenceFinder", "draft", "LArborescenceFinder$Graph;", true)
  | 10 => ("ArborescenceFinder", "contraction", "LArborescenceFinder$Contraction;", true)
  | 11 => ("ArborescenceFinder", "limited", "LArborescenceFinder$LimitedSearch;", true)
  | 12 => ("ArborescenceFinder", "prices", "LArborescenceFinder$PriceRounds;", true)
  | _ => ("ArborescenceFinder", "counter", "LArborescenceFinder$TreeCounter;", true)
def tyX8 : Nat → FieldType := fun k => match k with
  | 0 => .object "ArborescenceFinder$State"
  | 1 => .array (.object "ArborescenceFinder$State")
  | 2 => .int
  | 3 => .int
  | 4 => .array (.object "ArborescenceFinder$State")
  | 5 => .array .boolean
  | 6 => .int
  | 7 => .int
  | 8 => .object "ArborescenceFinder$GraphText"
  | 9 => .object "ArborescenceFinder$Graph"
  | 10 => .object "ArborescenceFinder$Contraction"
  | 11 => .object "ArborescenceFinder$LimitedSearch"
  | 12 => .object "ArborescenceFinder$PriceRounds"
  | _ => .object "ArborescenceFinder$TreeCounter"
def TX9 : u_T := fun k => match k with
  | 0 => ("ArborescenceFinderModel", "w", "[I", true)
  | 1 => ("ArborescenceFinderModel", "past", "[I", true)
  | 2 => ("ArborescenceFinderModel", "changes", "I", false)
  | 3 => ("ArborescenceFinderModel", "slots", "[I", true)
  | 4 => ("ArborescenceFinderModel", "filled", "I", false)
  | 5 => ("ArborescenceFinderModel", "runs", "I", false)
  | 6 => ("ArborescenceFinderModel", "reuses", "I", false)
  | 7 => ("ArborescenceFinderModel", "text", "[I", true)
  | 8 => ("ArborescenceFinderModel", "length", "I", false)
  | 9 => ("ArborescenceFinderModel", "drawState", "J", false)
  | 10 => ("ArborescenceFinderModel", "at", "I", false)
  | 11 => ("ArborescenceFinderModel", "wrong", "I", false)
  | 12 => ("ArborescenceFinderModel", "read", "[I", true)
  | 13 => ("ArborescenceFinderModel", "price", "[I", true)
  | 14 => ("ArborescenceFinderModel", "isUsed", "[Z", true)
  | 15 => ("ArborescenceFinderModel", "set", "[I", true)
  | 16 => ("ArborescenceFinderModel", "dual", "[I", true)
  | 17 => ("ArborescenceFinderModel", "parent", "[I", true)
  | 18 => ("ArborescenceFinderModel", "selected", "[I", true)
  | 19 => ("ArborescenceFinderModel", "enters", "[I", true)
  | 20 => ("ArborescenceFinderModel", "groups", "I", false)
  | 21 => ("ArborescenceFinderModel", "chosen", "[I", true)
  | 22 => ("ArborescenceFinderModel", "bestArcs", "[I", true)
  | 23 => ("ArborescenceFinderModel", "bestCost", "I", false)
  | 24 => ("ArborescenceFinderModel", "counted", "J", false)
  | 25 => ("ArborescenceFinderModel", "prices", "[I", true)
  | _ => ("ArborescenceFinderModel", "bound", "I", false)
def tyX9 : Nat → FieldType := fun k => match k with
  | 0 => .array .int
  | 1 => .array .int
  | 2 => .int
  | 3 => .array .int
  | 4 => .int
  | 5 => .int
  | 6 => .int
  | 7 => .array .int
  | 8 => .int
  | 9 => .long
  | 10 => .int
  | 11 => .int
  | 12 => .array .int
  | 13 => .array .int
  | 14 => .array .boolean
  | 15 => .array .int
  | 16 => .array .int
  | 17 => .array .int
  | 18 => .array .int
  | 19 => .array .int
  | 20 => .int
  | 21 => .array .int
  | 22 => .array .int
  | 23 => .int
  | 24 => .long
  | 25 => .array .int
  | _ => .int
def am_cn : Nat → String := fun i => match i with
  | 0 => "ArborescenceFinder$Contraction"
  | 1 => "ArborescenceFinder$Graph"
  | 2 => "ArborescenceFinder$GraphText"
  | 3 => "ArborescenceFinder$Groups"
  | 4 => "ArborescenceFinder$LimitedSearch"
  | 5 => "ArborescenceFinder$PriceRounds"
  | 6 => "ArborescenceFinder$State"
  | 7 => "ArborescenceFinder$TreeCounter"
  | 8 => "ArborescenceFinder"
  | 9 => "ArborescenceFinderModel"
  | _ => "ArborescenceFinderLaw"
def am_TX : Nat → u_T := fun i => match i with
  | 0 => TX0
  | 1 => TX1
  | 2 => TX2
  | 3 => TX3
  | 4 => TX4
  | 5 => TX5
  | 6 => TX6
  | 7 => TX7
  | 8 => TX8
  | _ => TX9
def am_tyX : Nat → Nat → FieldType := fun i => match i with
  | 0 => tyX0
  | 1 => tyX1
  | 2 => tyX2
  | 3 => tyX3
  | 4 => tyX4
  | 5 => tyX5
  | 6 => tyX6
  | 7 => tyX7
  | 8 => tyX8
  | _ => tyX9
def am_nf : Nat → Nat := fun i => match i with
  | 0 => 5
  | 1 => 7
  | 2 => 3
  | 3 => 6
  | 4 => 7
  | 5 => 3
  | 6 => 2
  | 7 => 1
  | 8 => 14
  | _ => 27
def am_cl : List vw_C := (List.range 10).map (fun i => (am_cn i, am_TX i, am_nf i))
theorem am_nmX : ∀ i, i < 10 → ∀ a, a < am_nf i → ∀ b, b < am_nf i → a ≠ b → (am_TX i a).2.1 ≠ (am_TX i b).2.1 := by decide +kernel
theorem am_tyX_ok : ∀ i, i < 10 → ∀ k, k < am_nf i → parseFieldDescriptor (am_TX i k).2.2.1 = some (am_tyX i k) := by decide +kernel
def am_layP : List (List Nat) := [[244, 246, 248, 250, 252], [142, 144, 146, 148, 150, 152, 154], [216, 218, 220], [182, 184, 186, 188, 190, 192], [270, 272, 274, 276, 278, 280, 282], [296, 298, 300], [199, 201], [312], [330, 332, 334, 336, 338, 340, 342, 344, 346, 348, 350, 352, 354, 356], [823, 825, 827, 829, 831, 833, 835, 837, 839, 841, 843, 845, 847, 849, 851, 853, 855, 857, 859, 861, 863, 865, 867, 869, 871, 873, 875]]
theorem am_lay_ok : ((List.range 10).all fun i => (List.range (am_nf i)).all fun k => decide (lw_tbl[(am_layP.getD i []).getD k 0]? = some (u_lay (am_cn i) (am_TX i) k))) = true := by decide +kernel
/-- own class, index, class, field, place of its word -/
def am_flds : List (Nat × Nat × Nat × Nat × Nat) := [(1, 28, 1, 0, 99), (7, 20, 1, 0, 100), (8, 72, 1, 0, 101), (0, 62, 1, 0, 102), (2, 43, 1, 0, 103), (5, 61, 1, 0, 104), (4, 70, 1, 0, 105), (3, 47, 1, 0, 106), (1, 32, 1, 1, 107), (7, 30, 1, 1, 108), (0, 81, 1, 1, 109), (4, 78, 1, 1, 110), (8, 126, 1, 1, 111), (1, 35, 1, 2, 112), (5, 44, 1, 2, 113), (8, 91, 1, 2, 114), (7, 33, 1, 2, 115), (0, 72, 1, 2, 116), (2, 36, 1, 2, 117), (4, 81, 1, 2, 118), (3, 68, 1, 2, 119), (1, 9, 1, 3, 120), (5, 52, 1, 3, 121), (7, 40, 1, 3, 122), (4, 95, 1, 3, 123), (0, 97, 1, 3, 124), (3, 50, 1, 3, 125), (8, 136, 1, 3, 126), (1, 15, 1, 4, 127), (7, 36, 1, 4, 128), (3, 42, 1, 4, 129), (4, 84, 1, 4, 130), (0, 116, 1, 4, 131), (8, 139, 1, 4, 132), (1, 18, 1, 5, 133), (4, 31, 1, 5, 134), (5, 49, 1, 5, 135), (8, 118, 1, 5, 136), (3, 53, 1, 5, 137), (1, 21, 1, 6, 138), (4, 67, 1, 6, 139), (5, 64, 1, 6, 140), (8, 129, 1, 6, 141), (3, 24, 3, 0, 164), (0, 43, 3, 0, 165), (8, 170, 3, 0, 166), (3, 28, 3, 1, 167), (0, 104, 3, 1, 168), (8, 195, 3, 1, 169), (3, 9, 3, 2, 170), (0, 84, 3, 2, 171), (8, 198, 3, 2, 172), (3, 15, 3, 3, 173), (0, 94, 3, 3, 174), (8, 201, 3, 3, 175), (3, 18, 3, 4, 176), (0, 107, 3, 4, 177), (8, 204, 3, 4, 178), (3, 21, 3, 5, 179), (0, 119, 3, 5, 180), (8, 188, 3, 5, 181), (6, 10, 6, 0, 195), (8, 69, 6, 0, 196), (6, 19, 6, 1, 197), (8, 98, 6, 1, 198), (2, 15, 2, 0, 211), (8, 155, 2, 0, 212), (2, 19, 2, 1, 213), (8, 164, 2, 1, 214), (2, 9, 2, 2, 215), (0, 12, 0, 0, 235), (5, 28, 0, 0, 236), (4, 47, 0, 0, 237), (8, 260, 0, 0, 238), (0, 18, 0, 1, 239), (4, 42, 0, 1, 240), (0, 22, 0, 2, 241), (0, 25, 0, 3, 242), (0, 28, 0, 4, 243), (4, 24, 4, 0, 261), (4, 28, 4, 1, 262), (4, 98, 4, 2, 263), (8, 227, 4, 2, 264), (4, 9, 4, 3, 265), (8, 230, 4, 3, 266), (4, 15, 4, 4, 267), (4, 18, 4, 5, 268), (4, 21, 4, 6, 269), (5, 36, 5, 0, 291), (8, 241, 5, 0, 292), (5, 9, 5, 1, 293), (8, 244, 5, 1, 294), (5, 15, 5, 2, 295), (7, 11, 7, 0, 311), (8, 12, 8, 0, 316), (8, 16, 8, 1, 317), (8, 145, 8, 2, 318), (8, 142, 8, 3, 319), (8, 20, 8, 4, 320), (8, 23, 8, 5, 321), (8, 174, 8, 6, 322), (8, 177, 8, 7, 323), (8, 30, 8, 8, 324), (8, 37, 8, 9, 325), (8, 44, 8, 10, 326), (8, 51, 8, 11, 327), (8, 58, 8, 12, 328), (8, 65, 8, 13, 329), (9, 7, 9, 0, 796), (9, 13, 9, 1, 797), (9, 64, 9, 2, 798), (9, 16, 9, 3, 799), (9, 215, 9, 4, 800), (9, 159, 9, 5, 801), (9, 68, 9, 6, 802), (9, 19, 9, 7, 803), (9, 111, 9, 8, 804), (9, 98, 9, 9, 805), (9, 114, 9, 10, 806), (9, 117, 9, 11, 807), (9, 22, 9, 12, 808), (9, 25, 9, 13, 809), (9, 28, 9, 14, 810), (9, 32, 9, 15, 811), (9, 35, 9, 16, 812), (9, 38, 9, 17, 813), (9, 41, 9, 18, 814), (9, 44, 9, 19, 815), (9, 132, 9, 20, 816), (9, 47, 9, 21, 817), (9, 50, 9, 22, 818), (9, 190, 9, 23, 819), (9, 187, 9, 24, 820), (9, 53, 9, 25, 821), (9, 206, 9, 26, 822)]
theorem am_flds_ok : (am_flds.all fun q => decide (q.2.2.1 < 10 ∧ q.2.2.2.1 < am_nf q.2.2.1 ∧ lw_tbl[q.2.2.2.2]? = some (Cond.fieldLink (am_cn q.1) q.2.1 (am_cn q.2.2.1) (am_TX q.2.2.1 q.2.2.2.1).2.1 (am_TX q.2.2.1 q.2.2.2.1).2.2.1) ∧ (am_TX q.2.2.1 q.2.2.2.1).1 = am_cn q.2.2.1)) = true := by decide +kernel
/-- a method: name, bytes, locals, answer, own class, number of parameters, places: code, instance or static -/
def am_ms : List (MethodName × ByteArray × Nat × Option FieldType × Nat × Nat × Nat) := [
(⟨"ArborescenceFinder$Contraction", "<init>", "()V"⟩, prog_2_method_1_code, 1, none, 0, 0, 231),
(⟨"ArborescenceFinder$Contraction", "contract", "(LArborescenceFinder$Graph;[II)Z"⟩, prog_2_method_2_code, 6, (some .boolean), 0, 3, 562),
(⟨"ArborescenceFinder$Contraction", "prepare", "(LArborescenceFinder$Graph;[I)V"⟩, prog_2_method_3_code, 4, none, 0, 2, 566),
(⟨"ArborescenceFinder$Contraction", "nextGroup", "(LArborescenceFinder$Graph;)I"⟩, prog_2_method_4_code, 3, (some .int), 0, 1, 579),
(⟨"ArborescenceFinder$Contraction", "cheapestEntering", "(LArborescenceFinder$Graph;II)I"⟩, prog_2_method_5_code, 7, (some .int), 0, 3, 588),
(⟨"ArborescenceFinder$Contraction", "setDual", "(LArborescenceFinder$Graph;I)V"⟩, prog_2_method_6_code, 6, none, 0, 2, 596),
(⟨"ArborescenceFinder$Contraction", "groupBefore", "(LArborescenceFinder$Graph;I)I"⟩, prog_2_method_7_code, 3, (some .int), 0, 2, 604),
(⟨"ArborescenceFinder$Contraction", "closesCycle", "(LArborescenceFinder$Graph;I)Z"⟩, prog_2_method_8_code, 5, (some .boolean), 0, 2, 600),
(⟨"ArborescenceFinder$Contraction", "uniteCycle", "(LArborescenceFinder$Graph;I)V"⟩, prog_2_method_9_code, 7, none, 0, 2, 608),
(⟨"ArborescenceFinder$Contraction", "readOff", "(LArborescenceFinder$Graph;)V"⟩, prog_2_method_10_code, 5, none, 0, 1, 583),
(⟨"ArborescenceFinder$Graph", "<init>", "()V"⟩, prog_3_method_1_code, 1, none, 1, 0, 93),
(⟨"ArborescenceFinder$Graph", "clear", "(II)V"⟩, prog_3_method_2_code, 4, none, 1, 2, 98),
(⟨"ArborescenceFinder$Graph", "copyFrom", "(LArborescenceFinder$Graph;)V"⟩, prog_3_method_3_code, 2, none, 1, 1, 374),
(⟨"ArborescenceFinder$Graph", "hasNode", "(I)Z"⟩, prog_3_method_4_code, 2, (some .boolean), 1, 1, 399),
(⟨"ArborescenceFinder$Graph", "hasArc", "(I)Z"⟩, prog_3_method_5_code, 2, (some .boolean), 1, 1, 426),
(⟨"ArborescenceFinder$Graph", "append", "(III)V"⟩, prog_3_method_6_code, 4, none, 1, 3, 403),
(⟨"ArborescenceFinder$Graph", "delete", "(I)V"⟩, prog_3_method_7_code, 3, none, 1, 1, 438),
(⟨"ArborescenceFinder$Graph", "withoutRivals", "(I)I"⟩, prog_3_method_8_code, 4, (some .int), 1, 1, 667),
(⟨"ArborescenceFinder$Graph", "enters", "(II)Z"⟩, prog_3_method_9_code, 3, (some .boolean), 1, 2, 415),
(⟨"ArborescenceFinder$GraphText", "<init>", "()V"⟩, prog_4_method_1_code, 1, none, 2, 0, 209),
(⟨"ArborescenceFinder$GraphText", "append", "(I)V"⟩, prog_4_method_2_code, 2, none, 2, 1, 503),
(⟨"ArborescenceFinder$GraphText", "readInto", "(LArborescenceFinder$Graph;)Z"⟩, prog_4_method_3_code, 5, (some .boolean), 2, 1, 515),
(⟨"ArborescenceFinder$GraphText", "readArc", "(LArborescenceFinder$Graph;)Z"⟩, prog_4_method_4_code, 6, (some .boolean), 2, 1, 528),
(⟨"ArborescenceFinder$GraphText", "takeNumber", "()I"⟩, prog_4_method_5_code, 3, (some .int), 2, 0, 532),
(⟨"ArborescenceFinder$GraphText", "takeSign", "(C)Z"⟩, prog_4_method_6_code, 2, (some .boolean), 2, 1, 523),
(⟨"ArborescenceFinder$GraphText", "takeDigit", "(II)I"⟩, prog_4_method_7_code, 4, (some .int), 2, 2, 519),
(⟨"ArborescenceFinder$Groups", "<init>", "()V"⟩, prog_5_method_1_code, 1, none, 3, 0, 162),
(⟨"ArborescenceFinder$Groups", "copyFrom", "(LArborescenceFinder$Groups;)V"⟩, prog_5_method_2_code, 2, none, 3, 1, 381),
(⟨"ArborescenceFinder$Groups", "beginWithNodes", "(I)V"⟩, prog_5_method_3_code, 3, none, 3, 1, 570),
(⟨"ArborescenceFinder$Groups", "add", "(I)V"⟩, prog_5_method_4_code, 2, none, 3, 1, 574),
(⟨"ArborescenceFinder$Groups", "contains", "(LArborescenceFinder$Graph;I)Z"⟩, prog_5_method_5_code, 3, (some .boolean), 3, 2, 434),
(⟨"ArborescenceFinder$Groups", "costBy", "(LArborescenceFinder$Graph;[I)I"⟩, prog_5_method_6_code, 5, (some .int), 3, 2, 618),
(⟨"ArborescenceFinder$Groups", "arcsFrom", "(LArborescenceFinder$Graph;I)I"⟩, prog_5_method_7_code, 5, (some .int), 3, 2, 630),
(⟨"ArborescenceFinder$Groups", "reducedCostOf", "(LArborescenceFinder$Graph;I)I"⟩, prog_5_method_8_code, 5, (some .int), 3, 2, 411),
(⟨"ArborescenceFinder$Groups", "followNew", "(LArborescenceFinder$Graph;I)Z"⟩, prog_5_method_9_code, 3, (some .boolean), 3, 2, 407),
(⟨"ArborescenceFinder$Groups", "followRemoval", "(LArborescenceFinder$Graph;I)Z"⟩, prog_5_method_10_code, 4, (some .boolean), 3, 2, 430),
(⟨"ArborescenceFinder$Groups", "followCost", "(LArborescenceFinder$Graph;II)Z"⟩, prog_5_method_11_code, 6, (some .boolean), 3, 3, 446),
(⟨"ArborescenceFinder$LimitedSearch", "<init>", "()V"⟩, prog_6_method_1_code, 1, none, 4, 0, 259),
(⟨"ArborescenceFinder$LimitedSearch", "forget", "()V"⟩, prog_6_method_2_code, 1, none, 4, 0, 386),
(⟨"ArborescenceFinder$LimitedSearch", "find", "(LArborescenceFinder$Graph;LArborescenceFinder$Contraction;)Z"⟩, prog_6_method_3_code, 3, (some .boolean), 4, 2, 692),
(⟨"ArborescenceFinder$LimitedSearch", "prepare", "(LArborescenceFinder$Graph;[I)V"⟩, prog_6_method_4_code, 4, none, 4, 2, 697),
(⟨"ArborescenceFinder$LimitedSearch", "choose", "(LArborescenceFinder$LimitedSearch;LArborescenceFinder$Graph;II)V"⟩, prog_6_method_5_code, 6, none, 4, 4, 702),
(⟨"ArborescenceFinder$LimitedSearch", "isUseful", "(I)Z"⟩, prog_6_method_6_code, 2, (some .boolean), 4, 1, 710),
(⟨"ArborescenceFinder$LimitedSearch", "canTake", "(LArborescenceFinder$Graph;I)Z"⟩, prog_6_method_7_code, 5, (some .boolean), 4, 2, 714),
(⟨"ArborescenceFinder$LimitedSearch", "take", "(LArborescenceFinder$Graph;)V"⟩, prog_6_method_8_code, 4, none, 4, 1, 706),
(⟨"ArborescenceFinder$PriceRounds", "<init>", "()V"⟩, prog_7_method_1_code, 1, none, 5, 0, 289),
(⟨"ArborescenceFinder$PriceRounds", "play", "(LArborescenceFinder$Graph;LArborescenceFinder$Contraction;II)Z"⟩, prog_7_method_2_code, 7, (some .boolean), 5, 4, 729),
(⟨"ArborescenceFinder$PriceRounds", "setPricedCosts", "(LArborescenceFinder$Graph;)V"⟩, prog_7_method_3_code, 3, none, 5, 1, 733),
(⟨"ArborescenceFinder$PriceRounds", "boundOf", "(LArborescenceFinder$Graph;LArborescenceFinder$Groups;)I"⟩, prog_7_method_4_code, 5, (some .int), 5, 2, 738),
(⟨"ArborescenceFinder$PriceRounds", "changePrices", "(LArborescenceFinder$Graph;LArborescenceFinder$Groups;I)V"⟩, prog_7_method_5_code, 6, none, 5, 3, 743),
(⟨"ArborescenceFinder$State", "<init>", "()V"⟩, prog_8_method_1_code, 1, none, 6, 0, 87),
(⟨"ArborescenceFinder$State", "copyFrom", "(LArborescenceFinder$State;)V"⟩, prog_8_method_2_code, 2, none, 6, 1, 370),
(⟨"ArborescenceFinder$TreeCounter", "<init>", "()V"⟩, prog_9_method_1_code, 1, none, 7, 0, 307),
(⟨"ArborescenceFinder$TreeCounter", "countIn", "(LArborescenceFinder$Graph;I)J"⟩, prog_9_method_2_code, 3, (some .long), 7, 2, 759),
(⟨"ArborescenceFinder$TreeCounter", "fill", "(LArborescenceFinder$Graph;I)V"⟩, prog_9_method_3_code, 6, none, 7, 2, 763),
(⟨"ArborescenceFinder$TreeCounter", "determinant", "(I)J"⟩, prog_9_method_4_code, 5, (some .long), 7, 1, 768),
(⟨"ArborescenceFinder$TreeCounter", "eliminate", "(IIJ)V"⟩, prog_9_method_5_code, 7, none, 7, 3, 772),
(⟨"ArborescenceFinder", "<init>", "()V"⟩, prog_1_method_1_code, 2, none, 8, 0, 79),
(⟨"ArborescenceFinder", "begin", "(II)I"⟩, prog_1_method_2_code, 4, (some .int), 8, 2, 362),
(⟨"ArborescenceFinder", "addArc", "(III)I"⟩, prog_1_method_3_code, 6, (some .int), 8, 3, 395),
(⟨"ArborescenceFinder", "removeArc", "(I)I"⟩, prog_1_method_4_code, 3, (some .int), 8, 1, 422),
(⟨"ArborescenceFinder", "setCost", "(II)I"⟩, prog_1_method_5_code, 5, (some .int), 8, 2, 442),
(⟨"ArborescenceFinder", "setRoot", "(I)I"⟩, prog_1_method_6_code, 3, (some .int), 8, 1, 450),
(⟨"ArborescenceFinder", "setLimit", "(II)I"⟩, prog_1_method_7_code, 4, (some .int), 8, 2, 454),
(⟨"ArborescenceFinder", "addRandom", "(II)I"⟩, prog_1_method_8_code, 3, (some .int), 8, 2, 458),
(⟨"ArborescenceFinder", "nodes", "()I"⟩, prog_1_method_9_code, 1, (some .int), 8, 0, 475),
(⟨"ArborescenceFinder", "root", "()I"⟩, prog_1_method_10_code, 1, (some .int), 8, 0, 479),
(⟨"ArborescenceFinder", "arcs", "()I"⟩, prog_1_method_11_code, 1, (some .int), 8, 0, 483),
(⟨"ArborescenceFinder", "arc", "(II)I"⟩, prog_1_method_12_code, 4, (some .int), 8, 2, 487),
(⟨"ArborescenceFinder", "limit", "(I)I"⟩, prog_1_method_13_code, 2, (some .int), 8, 1, 491),
(⟨"ArborescenceFinder", "undo", "()I"⟩, prog_1_method_14_code, 1, (some .int), 8, 0, 495),
(⟨"ArborescenceFinder", "write", "(I)I"⟩, prog_1_method_15_code, 2, (some .int), 8, 1, 499),
(⟨"ArborescenceFinder", "wipe", "()I"⟩, prog_1_method_16_code, 2, (some .int), 8, 0, 507),
(⟨"ArborescenceFinder", "fault", "()I"⟩, prog_1_method_17_code, 1, (some .int), 8, 0, 511),
(⟨"ArborescenceFinder", "load", "()I"⟩, prog_1_method_18_code, 1, (some .int), 8, 0, 537),
(⟨"ArborescenceFinder", "isRecorded", "()I"⟩, prog_1_method_19_code, 1, (some .int), 8, 0, 542),
(⟨"ArborescenceFinder", "runs", "()I"⟩, prog_1_method_20_code, 1, (some .int), 8, 0, 546),
(⟨"ArborescenceFinder", "reuses", "()I"⟩, prog_1_method_21_code, 1, (some .int), 8, 0, 550),
(⟨"ArborescenceFinder", "cost", "()I"⟩, prog_1_method_22_code, 1, (some .int), 8, 0, 554),
(⟨"ArborescenceFinder", "enteringArc", "(I)I"⟩, prog_1_method_23_code, 2, (some .int), 8, 1, 622),
(⟨"ArborescenceFinder", "outDegree", "(I)I"⟩, prog_1_method_24_code, 2, (some .int), 8, 1, 626),
(⟨"ArborescenceFinder", "groups", "()I"⟩, prog_1_method_25_code, 1, (some .int), 8, 0, 634),
(⟨"ArborescenceFinder", "group", "(II)I"⟩, prog_1_method_26_code, 4, (some .int), 8, 2, 638),
(⟨"ArborescenceFinder", "reducedCost", "(I)I"⟩, prog_1_method_27_code, 2, (some .int), 8, 1, 642),
(⟨"ArborescenceFinder", "costWithout", "(I)I"⟩, prog_1_method_28_code, 2, (some .int), 8, 1, 647),
(⟨"ArborescenceFinder", "costWith", "(I)I"⟩, prog_1_method_29_code, 2, (some .int), 8, 1, 659),
(⟨"ArborescenceFinder", "slack", "(I)I"⟩, prog_1_method_30_code, 4, (some .int), 8, 1, 671),
(⟨"ArborescenceFinder", "secondBest", "(I)I"⟩, prog_1_method_31_code, 6, (some .int), 8, 1, 676),
(⟨"ArborescenceFinder", "necessary", "(I)I"⟩, prog_1_method_32_code, 4, (some .int), 8, 1, 680),
(⟨"ArborescenceFinder", "limitedCost", "()I"⟩, prog_1_method_33_code, 1, (some .int), 8, 0, 688),
(⟨"ArborescenceFinder", "limitedArc", "(I)I"⟩, prog_1_method_34_code, 2, (some .int), 8, 1, 718),
(⟨"ArborescenceFinder", "priceBound", "(II)I"⟩, prog_1_method_35_code, 3, (some .int), 8, 2, 722),
(⟨"ArborescenceFinder", "price", "(III)I"⟩, prog_1_method_36_code, 4, (some .int), 8, 3, 751),
(⟨"ArborescenceFinder", "arborescences", "()J"⟩, prog_1_method_37_code, 1, (some .long), 8, 0, 755),
(⟨"ArborescenceFinder", "arborescencesWith", "(I)J"⟩, prog_1_method_38_code, 3, (some .long), 8, 1, 776),
(⟨"ArborescenceFinder", "save", "(I)I"⟩, prog_1_method_39_code, 2, (some .int), 8, 1, 781),
(⟨"ArborescenceFinder", "restore", "(I)I"⟩, prog_1_method_40_code, 2, (some .int), 8, 1, 785),
(⟨"ArborescenceFinder", "keepForUndo", "()V"⟩, prog_1_method_41_code, 1, none, 8, 0, 366),
(⟨"ArborescenceFinder", "settleRecord", "(Z)V"⟩, prog_1_method_42_code, 2, none, 8, 1, 391),
(⟨"ArborescenceFinder", "haveRecord", "()Z"⟩, prog_1_method_43_code, 1, (some .boolean), 8, 0, 558),
(⟨"ArborescenceFinder", "recordedCost", "()I"⟩, prog_1_method_44_code, 1, (some .int), 8, 0, 614),
(⟨"ArborescenceFinder", "cheapestWithout", "(I)I"⟩, prog_1_method_45_code, 2, (some .int), 8, 1, 651),
(⟨"ArborescenceFinder", "cheapestWith", "(I)I"⟩, prog_1_method_46_code, 2, (some .int), 8, 1, 663),
(⟨"ArborescenceFinder", "cheapestAmong", "(I)I"⟩, prog_1_method_47_code, 3, (some .int), 8, 1, 655),
(⟨"ArborescenceFinder", "isNecessary", "(I)Z"⟩, prog_1_method_48_code, 3, (some .boolean), 8, 1, 684),
(⟨"ArborescenceFinder", "areRounds", "(II)Z"⟩, prog_1_method_49_code, 2, (some .boolean), 8, 2, 725),
(⟨"ArborescenceFinder", "appendRandom", "(LArborescenceFinder$Graph;II)V"⟩, prog_1_method_50_code, 8, none, 8, 3, 461),
(⟨"ArborescenceFinder", "nextRandom", "(J)J"⟩, prog_1_method_51_code, 2, (some .long), 8, 1, 464),
(⟨"ArborescenceFinder", "randomBelow", "(IJ)I"⟩, prog_1_method_52_code, 3, (some .int), 8, 2, 470),
(⟨"ArborescenceFinder", "isIn", "(II)Z"⟩, prog_1_method_53_code, 2, (some .boolean), 8, 2, 418),
(⟨"ArborescenceFinder", "isAllowed", "(II)Z"⟩, prog_1_method_54_code, 2, (some .boolean), 8, 2, 591),
(⟨"ArborescenceFinderModel", "<init>", "()V"⟩, prog_11_method_1_code, 1, none, 9, 0, 790),
(⟨"ArborescenceFinderModel", "isIn", "(III)Z"⟩, prog_11_method_2_code, 3, (some .boolean), 9, 3, 884),
(⟨"ArborescenceFinderModel", "isNode", "(I)Z"⟩, prog_11_method_3_code, 2, (some .boolean), 9, 1, 896),
(⟨"ArborescenceFinderModel", "isArc", "(I)Z"⟩, prog_11_method_4_code, 2, (some .boolean), 9, 1, 919),
(⟨"ArborescenceFinderModel", "clear", "(II)V"⟩, prog_11_method_5_code, 4, none, 9, 2, 795),
(⟨"ArborescenceFinderModel", "keep", "()V"⟩, prog_11_method_6_code, 2, none, 9, 0, 888),
(⟨"ArborescenceFinderModel", "judge", "(Z)V"⟩, prog_11_method_7_code, 2, none, 9, 1, 911),
(⟨"ArborescenceFinderModel", "begin", "(II)I"⟩, prog_11_method_8_code, 4, (some .int), 9, 2, 881),
(⟨"ArborescenceFinderModel", "append", "(III)V"⟩, prog_11_method_9_code, 4, none, 9, 3, 900),
(⟨"ArborescenceFinderModel", "addArc", "(III)I"⟩, prog_11_method_10_code, 4, (some .int), 9, 3, 892),
(⟨"ArborescenceFinderModel", "isInTree", "(I)Z"⟩, prog_11_method_11_code, 4, (some .boolean), 9, 1, 923),
(⟨"ArborescenceFinderModel", "removeArc", "(I)I"⟩, prog_11_method_12_code, 3, (some .int), 9, 1, 915),
(⟨"ArborescenceFinderModel", "setCost", "(II)I"⟩, prog_11_method_13_code, 6, (some .int), 9, 2, 927),
(⟨"ArborescenceFinderModel", "setRoot", "(I)I"⟩, prog_11_method_14_code, 3, (some .int), 9, 1, 931),
(⟨"ArborescenceFinderModel", "setLimit", "(II)I"⟩, prog_11_method_15_code, 4, (some .int), 9, 2, 935),
(⟨"ArborescenceFinderModel", "drawn", "(I)I"⟩, prog_11_method_16_code, 2, (some .int), 9, 1, 943),
(⟨"ArborescenceFinderModel", "addRandom", "(II)I"⟩, prog_11_method_17_code, 6, (some .int), 9, 2, 939),
(⟨"ArborescenceFinderModel", "nodes", "()I"⟩, prog_11_method_18_code, 1, (some .int), 9, 0, 951),
(⟨"ArborescenceFinderModel", "root", "()I"⟩, prog_11_method_19_code, 1, (some .int), 9, 0, 955),
(⟨"ArborescenceFinderModel", "arcs", "()I"⟩, prog_11_method_20_code, 1, (some .int), 9, 0, 959),
(⟨"ArborescenceFinderModel", "arc", "(II)I"⟩, prog_11_method_21_code, 3, (some .int), 9, 2, 963),
(⟨"ArborescenceFinderModel", "limit", "(I)I"⟩, prog_11_method_22_code, 2, (some .int), 9, 1, 967),
(⟨"ArborescenceFinderModel", "undo", "()I"⟩, prog_11_method_23_code, 2, (some .int), 9, 0, 971),
(⟨"ArborescenceFinderModel", "write", "(I)I"⟩, prog_11_method_24_code, 2, (some .int), 9, 1, 975),
(⟨"ArborescenceFinderModel", "wipe", "()I"⟩, prog_11_method_25_code, 2, (some .int), 9, 0, 979),
(⟨"ArborescenceFinderModel", "digit", "(III)I"⟩, prog_11_method_26_code, 5, (some .int), 9, 3, 991),
(⟨"ArborescenceFinderModel", "sign", "(I)V"⟩, prog_11_method_27_code, 2, none, 9, 1, 995),
(⟨"ArborescenceFinderModel", "parse", "()I"⟩, prog_11_method_28_code, 6, (some .int), 9, 0, 987),
(⟨"ArborescenceFinderModel", "fault", "()I"⟩, prog_11_method_29_code, 2, (some .int), 9, 0, 983),
(⟨"ArborescenceFinderModel", "load", "()I"⟩, prog_11_method_30_code, 3, (some .int), 9, 0, 999),
(⟨"ArborescenceFinderModel", "isEntered", "(III)Z"⟩, prog_11_method_31_code, 3, (some .boolean), 9, 3, 907),
(⟨"ArborescenceFinderModel", "lowered", "(I)I"⟩, prog_11_method_32_code, 4, (some .int), 9, 1, 1047),
(⟨"ArborescenceFinderModel", "topOf", "(I)I"⟩, prog_11_method_33_code, 3, (some .int), 9, 1, 1039),
(⟨"ArborescenceFinderModel", "newGroup", "(I)I"⟩, prog_11_method_34_code, 2, (some .int), 9, 1, 1031),
(⟨"ArborescenceFinderModel", "nextGroup", "()I"⟩, prog_11_method_35_code, 3, (some .int), 9, 0, 1035),
(⟨"ArborescenceFinderModel", "selects", "(I)Z"⟩, prog_11_method_36_code, 6, (some .boolean), 9, 1, 1043),
(⟨"ArborescenceFinderModel", "behind", "(I)I"⟩, prog_11_method_37_code, 2, (some .int), 9, 1, 1055),
(⟨"ArborescenceFinderModel", "closeCycle", "(I)V"⟩, prog_11_method_38_code, 6, none, 9, 1, 1051),
(⟨"ArborescenceFinderModel", "contracts", "()Z"⟩, prog_11_method_39_code, 5, (some .boolean), 9, 0, 1027),
(⟨"ArborescenceFinderModel", "useAll", "()V"⟩, prog_11_method_40_code, 2, none, 9, 0, 1023),
(⟨"ArborescenceFinderModel", "sum", "()I"⟩, prog_11_method_41_code, 3, (some .int), 9, 0, 1091),
(⟨"ArborescenceFinderModel", "hasRecord", "()Z"⟩, prog_11_method_42_code, 2, (some .boolean), 9, 0, 1019),
(⟨"ArborescenceFinderModel", "reduced", "(I)I"⟩, prog_11_method_43_code, 4, (some .int), 9, 1, 904),
(⟨"ArborescenceFinderModel", "isRecorded", "()I"⟩, prog_11_method_44_code, 1, (some .int), 9, 0, 1003),
(⟨"ArborescenceFinderModel", "runs", "()I"⟩, prog_11_method_45_code, 1, (some .int), 9, 0, 1007),
(⟨"ArborescenceFinderModel", "reuses", "()I"⟩, prog_11_method_46_code, 1, (some .int), 9, 0, 1011),
(⟨"ArborescenceFinderModel", "costOfRecord", "()I"⟩, prog_11_method_47_code, 3, (some .int), 9, 0, 1059),
(⟨"ArborescenceFinderModel", "cost", "()I"⟩, prog_11_method_48_code, 1, (some .int), 9, 0, 1015),
(⟨"ArborescenceFinderModel", "enteringArc", "(I)I"⟩, prog_11_method_49_code, 2, (some .int), 9, 1, 1063),
(⟨"ArborescenceFinderModel", "outDegree", "(I)I"⟩, prog_11_method_50_code, 4, (some .int), 9, 1, 1067),
(⟨"ArborescenceFinderModel", "groups", "()I"⟩, prog_11_method_51_code, 1, (some .int), 9, 0, 1071),
(⟨"ArborescenceFinderModel", "group", "(II)I"⟩, prog_11_method_52_code, 3, (some .int), 9, 2, 1075),
(⟨"ArborescenceFinderModel", "reducedCost", "(I)I"⟩, prog_11_method_53_code, 2, (some .int), 9, 1, 1079),
(⟨"ArborescenceFinderModel", "without", "(I)I"⟩, prog_11_method_54_code, 2, (some .int), 9, 1, 1087),
(⟨"ArborescenceFinderModel", "with", "(I)I"⟩, prog_11_method_55_code, 3, (some .int), 9, 1, 1099),
(⟨"ArborescenceFinderModel", "costWithout", "(I)I"⟩, prog_11_method_56_code, 2, (some .int), 9, 1, 1083),
(⟨"ArborescenceFinderModel", "costWith", "(I)I"⟩, prog_11_method_57_code, 2, (some .int), 9, 1, 1095),
(⟨"ArborescenceFinderModel", "slack", "(I)I"⟩, prog_11_method_58_code, 3, (some .int), 9, 1, 1103),
(⟨"ArborescenceFinderModel", "secondBest", "(I)I"⟩, prog_11_method_59_code, 6, (some .int), 9, 1, 1107),
(⟨"ArborescenceFinderModel", "necessary", "(I)I"⟩, prog_11_method_60_code, 5, (some .int), 9, 1, 1111),
(⟨"ArborescenceFinderModel", "nextArc", "(II)I"⟩, prog_11_method_61_code, 4, (some .int), 9, 2, 1135),
(⟨"ArborescenceFinderModel", "isArborescence", "()Z"⟩, prog_11_method_62_code, 4, (some .boolean), 9, 0, 1127),
(⟨"ArborescenceFinderModel", "isLimited", "()Z"⟩, prog_11_method_63_code, 4, (some .boolean), 9, 0, 1131),
(⟨"ArborescenceFinderModel", "meetsOne", "(I)V"⟩, prog_11_method_64_code, 5, none, 9, 1, 1123),
(⟨"ArborescenceFinderModel", "goThrough", "(I)V"⟩, prog_11_method_65_code, 4, none, 9, 1, 1119),
(⟨"ArborescenceFinderModel", "limitedCost", "()I"⟩, prog_11_method_66_code, 1, (some .int), 9, 0, 1115),
(⟨"ArborescenceFinderModel", "limitedArc", "(I)I"⟩, prog_11_method_67_code, 2, (some .int), 9, 1, 1139),
(⟨"ArborescenceFinderModel", "bids", "(II)Z"⟩, prog_11_method_68_code, 8, (some .boolean), 9, 2, 1147),
(⟨"ArborescenceFinderModel", "priceBound", "(II)I"⟩, prog_11_method_69_code, 3, (some .int), 9, 2, 1143),
(⟨"ArborescenceFinderModel", "price", "(III)I"⟩, prog_11_method_70_code, 4, (some .int), 9, 3, 1151),
(⟨"ArborescenceFinderModel", "arborescences", "()J"⟩, prog_11_method_71_code, 1, (some .long), 9, 0, 1155),
(⟨"ArborescenceFinderModel", "arborescencesWith", "(I)J"⟩, prog_11_method_72_code, 2, (some .long), 9, 1, 1159),
(⟨"ArborescenceFinderModel", "save", "(I)I"⟩, prog_11_method_73_code, 3, (some .int), 9, 1, 1164),
(⟨"ArborescenceFinderModel", "restore", "(I)I"⟩, prog_11_method_74_code, 3, (some .int), 9, 1, 1168)]
def am_m (y : Nat) : MethodName × ByteArray × Nat × Option FieldType × Nat × Nat × Nat := am_ms.getD y (x, code, maxLocals, ret, 10, 1, 0)
def am_y (y : Nat) : MethodName := (am_m y).1
def am_by (y : Nat) : ByteArray := (am_m y).2.1
def am_ml (y : Nat) : Nat := (am_m y).2.2.1
def am_rt (y : Nat) : Option FieldType := (am_m y).2.2.2.1
def am_ow (y : Nat) : Nat := (am_m y).2.2.2.2.1
def am_np (y : Nat) : Nat := (am_m y).2.2.2.2.2.1
theorem am_ms_len : am_ms.length = 185 := by decide +kernel
set_option maxRecDepth 20000 in
theorem am_codes : am_ms.map (fun q => Cond.code q.1 q.2.1 q.2.2.1 q.2.2.2.1) = am_ms.filterMap (fun q => lw_tbl[q.2.2.2.2.2.2]?) := rfl
theorem am_ms_ok : (am_ms.all fun q => decide (q.1.cls = am_cn q.2.2.2.2.1 ∧ (parseMethodDescriptor q.1.desc).map (fun d => d.parameters.length) = some q.2.2.2.2.2.1 ∧ plainName q.1.cls = true ∧ q.1.cls ≠ "java/lang/invoke/MethodHandle" ∧ q.1.cls ≠ "java/lang/invoke/VarHandle" ∧ q.2.2.1 ≤ 16 ∧ q.2.2.2.2.1 < 11)) = true := by decide +kernel
def am_iniP : List Nat := [68, 65, 67, 66, 69, 70, 64, 71, 63, 72, 62]
theorem am_ini_ok : ((List.range 11).all fun i => decide (lw_tbl[am_iniP.getD i 0]? = some (Cond.initialized (am_cn i)))) = true := by decide +kernel
def am_insP : List Nat := [228, 90, 206, 159, 256, 286, 84, 304, 76, 787]
theorem am_ins_ok : ((List.range 10).all fun i => decide (lw_tbl[am_insP.getD i 0]? = some (Cond.instantiable (am_cn i) (am_nf i)))) = true := by decide +kernel
def am_cls : List (Nat × Nat × Nat × Nat) := [(10, 7, 8, 75), (8, 9, 6, 83), (6, 7, 1, 89), (6, 16, 3, 158), (8, 27, 2, 205), (8, 34, 1, 225), (8, 41, 0, 227), (0, 9, 3, 233), (8, 48, 4, 255), (8, 55, 5, 285), (8, 62, 7, 303), (10, 10, 9, 786)]
theorem am_cls_ok : (am_cls.all fun q => decide (q.2.2.1 < 10 ∧ lw_tbl[q.2.2.2]? = some (Cond.classLink (am_cn q.1) q.2.1 (am_cn q.2.2.1)))) = true := by decide +kernel
def am_lcs : List (Nat × Nat × Int64 × Nat) := [(8, 281, 1103515245, 465), (8, 283, 12345, 466), (8, 285, 2147483648, 467), (8, 287, 65536, 471), (8, 251, -102, 777), (9, 96, 1103515245, 944), (9, 102, 12345, 945), (9, 104, 2147483648, 946), (9, 106, 65536, 947), (9, 213, -102, 1160)]
theorem am_lcs_ok : (am_lcs.all fun q => decide (lw_tbl[q.2.2.2]? = some (Cond.constantLong (am_cn q.1) q.2.1 q.2.2.1))) = true := by decide +kernel
/-- own class, index, kind (0 virtual, 1 static, 2 init, 3 init of a nest mate, 4 static of a nest mate, 5 Object.init, 6 Math.max, 7 arraycopy), method, places: link, instance or static, selects -/
def am_ivs : List (Nat × Nat × Nat × Nat × Nat × Nat × Nat) := [(10, 9, 2, 57, 77, 78, 0), (8, 3, 5, 0, 80, 0, 0), (8, 11, 3, 50, 85, 86, 0), (6, 1, 5, 0, 88, 0, 0), (6, 9, 2, 10, 91, 92, 0), (1, 3, 5, 0, 94, 0, 0), (1, 24, 0, 11, 95, 96, 97), (6, 18, 3, 26, 160, 161, 0), (3, 3, 5, 0, 163, 0, 0), (8, 29, 3, 19, 207, 208, 0), (2, 3, 5, 0, 210, 0, 0), (8, 36, 2, 10, 226, 92, 0), (8, 43, 3, 0, 229, 230, 0), (0, 3, 5, 0, 232, 0, 0), (0, 11, 3, 26, 234, 161, 0), (8, 50, 3, 37, 257, 258, 0), (4, 3, 5, 0, 260, 0, 0), (8, 57, 3, 45, 287, 288, 0), (5, 3, 5, 0, 290, 0, 0), (8, 64, 3, 52, 305, 306, 0), (7, 3, 5, 0, 308, 0, 0), (10, 13, 0, 58, 359, 360, 361), (8, 76, 0, 97, 363, 365, 0), (8, 148, 0, 51, 367, 368, 369), (6, 23, 0, 12, 371, 372, 373), (1, 38, 7, 0, 375, 0, 0), (6, 27, 0, 27, 378, 379, 380), (3, 32, 7, 0, 382, 0, 0), (8, 152, 0, 38, 383, 384, 385), (8, 79, 0, 11, 387, 96, 97), (8, 83, 0, 98, 388, 390, 1), (10, 18, 0, 59, 392, 393, 394), (8, 87, 0, 13, 396, 397, 398), (8, 94, 0, 15, 400, 401, 402), (8, 102, 0, 34, 404, 405, 406), (3, 60, 0, 33, 408, 409, 410), (3, 56, 0, 18, 412, 413, 414), (1, 44, 4, 109, 416, 417, 0), (10, 23, 0, 60, 419, 420, 421), (8, 108, 0, 14, 423, 424, 425), (8, 111, 0, 35, 427, 428, 429), (3, 64, 0, 30, 431, 432, 433), (8, 114, 0, 16, 435, 436, 437), (10, 28, 0, 61, 439, 440, 441), (8, 122, 0, 36, 443, 444, 445), (10, 32, 0, 62, 447, 448, 449), (10, 36, 0, 63, 451, 452, 453), (10, 40, 0, 64, 455, 456, 457), (8, 132, 1, 106, 459, 460, 0), (8, 273, 1, 107, 462, 463, 0), (8, 277, 1, 108, 468, 469, 0), (10, 44, 0, 65, 472, 473, 474), (10, 49, 0, 66, 476, 477, 478), (10, 53, 0, 67, 480, 481, 482), (10, 57, 0, 68, 484, 485, 486), (10, 61, 0, 69, 488, 489, 490), (10, 65, 0, 70, 492, 493, 494), (10, 69, 0, 71, 496, 497, 498), (8, 158, 0, 20, 500, 501, 502), (10, 73, 0, 72, 504, 505, 506), (10, 77, 0, 73, 508, 509, 510), (8, 160, 0, 21, 512, 513, 514), (2, 22, 0, 25, 516, 518, 2), (2, 26, 0, 24, 520, 522, 3), (2, 30, 0, 11, 524, 96, 97), (2, 39, 0, 22, 525, 527, 4), (2, 46, 0, 23, 529, 531, 5), (2, 50, 0, 15, 533, 401, 402), (10, 81, 0, 74, 534, 535, 536), (8, 167, 0, 12, 538, 372, 373), (10, 85, 0, 75, 539, 540, 541), (10, 89, 0, 76, 543, 544, 545), (10, 93, 0, 77, 547, 548, 549), (10, 97, 0, 78, 551, 552, 553), (8, 180, 0, 99, 555, 557, 6), (8, 256, 0, 1, 559, 560, 561), (0, 31, 0, 2, 563, 565, 7), (0, 68, 0, 28, 567, 568, 569), (3, 38, 0, 29, 571, 572, 573), (0, 75, 7, 0, 575, 0, 0), (0, 35, 0, 3, 576, 578, 8), (0, 39, 0, 9, 580, 582, 9), (0, 113, 4, 109, 584, 417, 0), (0, 47, 0, 4, 585, 587, 10), (0, 87, 4, 110, 589, 590, 0), (0, 91, 0, 18, 592, 413, 414), (0, 51, 0, 5, 593, 595, 11), (0, 55, 0, 7, 597, 599, 12), (0, 100, 0, 6, 601, 603, 13), (0, 59, 0, 8, 605, 607, 14), (0, 110, 0, 29, 609, 572, 573), (8, 263, 0, 27, 610, 379, 380), (8, 184, 0, 100, 611, 613, 15), (8, 266, 0, 31, 615, 616, 617), (10, 101, 0, 79, 619, 620, 621), (10, 105, 0, 80, 623, 624, 625), (8, 191, 0, 32, 627, 628, 629), (10, 109, 0, 81, 631, 632, 633), (10, 113, 0, 82, 635, 636, 637), (10, 117, 0, 83, 639, 640, 641), (8, 207, 0, 33, 643, 409, 410), (10, 121, 0, 84, 644, 645, 646), (8, 210, 0, 101, 648, 650, 16), (8, 270, 0, 103, 652, 654, 17), (10, 125, 0, 85, 656, 657, 658), (8, 214, 0, 102, 660, 662, 18), (8, 253, 0, 17, 664, 665, 666), (10, 129, 0, 86, 668, 669, 670), (8, 217, 0, 30, 672, 432, 433), (10, 133, 0, 87, 673, 674, 675), (10, 137, 0, 88, 677, 678, 679), (8, 220, 0, 104, 681, 683, 19), (10, 141, 0, 89, 685, 686, 687), (8, 223, 0, 39, 689, 690, 691), (4, 36, 0, 1, 693, 560, 561), (4, 43, 0, 40, 694, 696, 20), (4, 61, 7, 0, 698, 0, 0), (4, 51, 0, 31, 699, 616, 617), (4, 57, 1, 41, 700, 701, 0), (4, 74, 0, 44, 703, 705, 21), (4, 87, 0, 42, 707, 709, 22), (4, 91, 0, 43, 711, 713, 23), (10, 145, 0, 90, 715, 716, 717), (10, 149, 0, 91, 719, 720, 721), (8, 233, 1, 105, 723, 724, 0), (8, 237, 0, 46, 726, 727, 728), (5, 18, 0, 47, 730, 732, 24), (5, 22, 0, 1, 734, 560, 561), (5, 32, 0, 48, 735, 737, 25), (5, 55, 0, 31, 739, 616, 617), (5, 40, 0, 49, 740, 742, 26), (5, 67, 0, 32, 744, 628, 629), (5, 71, 6, 0, 745, 0, 0), (10, 153, 0, 92, 748, 749, 750), (10, 157, 0, 93, 752, 753, 754), (8, 247, 0, 53, 756, 757, 758), (7, 16, 0, 54, 760, 762, 27), (7, 43, 4, 110, 764, 590, 0), (7, 26, 0, 55, 765, 767, 28), (7, 47, 0, 56, 769, 771, 29), (10, 162, 0, 94, 773, 774, 775), (10, 167, 0, 95, 778, 779, 780), (10, 171, 0, 96, 782, 783, 784), (10, 12, 2, 111, 788, 789, 0), (9, 1, 5, 0, 791, 0, 0), (9, 56, 0, 115, 792, 794, 30), (10, 17, 0, 118, 878, 879, 880), (9, 60, 1, 112, 882, 883, 0), (9, 71, 0, 116, 885, 887, 31), (10, 22, 0, 120, 889, 890, 891), (9, 74, 0, 113, 893, 895, 32), (9, 78, 0, 119, 897, 899, 33), (9, 82, 0, 153, 901, 903, 34), (9, 135, 1, 141, 905, 906, 0), (9, 86, 0, 117, 908, 910, 35), (10, 27, 0, 122, 912, 913, 914), (9, 90, 0, 114, 916, 918, 36), (9, 93, 0, 121, 920, 922, 37), (10, 31, 0, 123, 924, 925, 926), (10, 35, 0, 124, 928, 929, 930), (10, 39, 0, 125, 932, 933, 934), (10, 43, 0, 127, 936, 937, 938), (9, 108, 0, 126, 940, 942, 38), (10, 48, 0, 128, 948, 949, 950), (10, 52, 0, 129, 952, 953, 954), (10, 56, 0, 130, 956, 957, 958), (10, 60, 0, 131, 960, 961, 962), (10, 64, 0, 132, 964, 965, 966), (10, 68, 0, 133, 968, 969, 970), (10, 72, 0, 134, 972, 973, 974), (10, 76, 0, 135, 976, 977, 978), (10, 80, 0, 139, 980, 981, 982), (9, 128, 0, 138, 984, 986, 39), (9, 120, 0, 136, 988, 990, 40), (9, 124, 0, 137, 992, 994, 41), (10, 84, 0, 140, 996, 997, 998), (10, 88, 0, 154, 1000, 1001, 1002), (10, 92, 0, 155, 1004, 1005, 1006), (10, 96, 0, 156, 1008, 1009, 1010), (10, 100, 0, 158, 1012, 1013, 1014), (9, 169, 0, 152, 1016, 1018, 42), (9, 162, 0, 150, 1020, 1022, 43), (9, 165, 0, 149, 1024, 1026, 44), (9, 147, 0, 144, 1028, 1030, 45), (9, 150, 0, 145, 1032, 1034, 46), (9, 138, 0, 143, 1036, 1038, 47), (9, 153, 0, 146, 1040, 1042, 48), (9, 141, 0, 142, 1044, 1046, 49), (9, 156, 0, 148, 1048, 1050, 50), (9, 144, 0, 147, 1052, 1054, 51), (9, 172, 0, 157, 1056, 1058, 52), (10, 104, 0, 159, 1060, 1061, 1062), (10, 108, 0, 160, 1064, 1065, 1066), (10, 112, 0, 161, 1068, 1069, 1070), (10, 116, 0, 162, 1072, 1073, 1074), (10, 120, 0, 163, 1076, 1077, 1078), (10, 124, 0, 166, 1080, 1081, 1082), (9, 178, 0, 164, 1084, 1086, 53), (9, 175, 0, 151, 1088, 1090, 54), (10, 128, 0, 167, 1092, 1093, 1094), (9, 181, 0, 165, 1096, 1098, 55), (10, 132, 0, 168, 1100, 1101, 1102), (10, 136, 0, 169, 1104, 1105, 1106), (10, 140, 0, 170, 1108, 1109, 1110), (10, 144, 0, 176, 1112, 1113, 1114), (9, 203, 0, 175, 1116, 1118, 56), (9, 196, 0, 174, 1120, 1122, 57), (9, 184, 0, 172, 1124, 1126, 58), (9, 193, 0, 173, 1128, 1130, 59), (9, 199, 0, 171, 1132, 1134, 60), (10, 148, 0, 177, 1136, 1137, 1138), (10, 152, 0, 179, 1140, 1141, 1142), (9, 209, 0, 178, 1144, 1146, 61), (10, 156, 0, 180, 1148, 1149, 1150), (10, 161, 0, 181, 1152, 1153, 1154), (10, 166, 0, 182, 1156, 1157, 1158), (10, 170, 0, 183, 1161, 1162, 1163), (10, 174, 0, 184, 1165, 1166, 1167)]
def am_ivok (q : Nat × Nat × Nat × Nat × Nat × Nat × Nat) : Bool := match q with
  | (w, k, 0, y, p, i, s) => decide (y < 185 ∧ am_ow y < 10 ∧ lw_tbl[p]? = some (Cond.methodLink (am_cn w) k (am_y y)) ∧ lw_tbl[i]? = some (Cond.instanceMethod (am_y y)) ∧ lw_tbl[s]? = some (Cond.selects (am_cn (am_ow y)) (am_y y) (am_y y)))
  | (w, k, 1, y, p, i, _) => decide (y < 185 ∧ lw_tbl[p]? = some (Cond.methodLink (am_cn w) k (am_y y)) ∧ lw_tbl[i]? = some (Cond.static (am_y y)) ∧ am_ow y = w)
  | (w, k, 2, y, p, i, _) => decide (y < 185 ∧ lw_tbl[p]? = some (Cond.methodLink (am_cn w) k (am_y y)) ∧ lw_tbl[i]? = some (Cond.instanceMethod (am_y y)) ∧ (am_y y).name = "<init>" ∧ am_rt y = none)
  | (w, k, 3, y, p, i, _) => decide (y < 185 ∧ lw_tbl[p]? = some (Cond.methodLinkNest (am_cn w) k (am_y y) "ArborescenceFinder") ∧ lw_tbl[i]? = some (Cond.instanceMethod (am_y y)) ∧ (am_y y).name = "<init>" ∧ am_rt y = none)
  | (w, k, 4, y, p, i, _) => decide (y < 185 ∧ lw_tbl[p]? = some (Cond.methodLinkNest (am_cn w) k (am_y y) "ArborescenceFinder") ∧ lw_tbl[i]? = some (Cond.static (am_y y)))
  | (w, k, 5, _, p, _, _) => decide (lw_tbl[p]? = some (Cond.methodLink (am_cn w) k objectInit))
  | (w, k, 6, _, p, _, _) => decide (lw_tbl[p]? = some (Cond.methodLink (am_cn w) k Lib.Math.max.name))
  | (w, k, 7, _, p, _, _) => decide (lw_tbl[p]? = some (Cond.methodLink (am_cn w) k arraycopyName))
  | _ => false
theorem am_ivs_ok : am_ivs.all am_ivok = true := by decide +kernel
theorem am_w_int : Cond.arrayClass .int ∈ lw_tbl := List.mem_of_getElem? (i := 157) (by decide +kernel)
theorem am_w_boolean : Cond.arrayClass .boolean ∈ lw_tbl := List.mem_of_getElem? (i := 223) (by decide +kernel)
theorem am_w_char : Cond.arrayClass .char ∈ lw_tbl := List.mem_of_getElem? (i := 224) (by decide +kernel)
theorem am_w_long : Cond.arrayClass .long ∈ lw_tbl := List.mem_of_getElem? (i := 315) (by decide +kernel)
theorem am_w_ovS : Cond.arrayOver (.object "ArborescenceFinder$State") ∈ lw_tbl := List.mem_of_getElem? (i := 204) (by decide +kernel)
theorem am_w_ovJ : Cond.arrayOver (.array .long) ∈ lw_tbl := List.mem_of_getElem? (i := 310) (by decide +kernel)
theorem am_w_clJ : Cond.classLink "ArborescenceFinder$TreeCounter" 9 "[[J" ∈ lw_tbl := List.mem_of_getElem? (i := 309) (by decide +kernel)
theorem am_w_ac1 : Cond.native arraycopyName ∈ lw_tbl := List.mem_of_getElem? (i := 377) (by decide +kernel)
theorem am_w_ac2 : Cond.static arraycopyName ∈ lw_tbl := List.mem_of_getElem? (i := 376) (by decide +kernel)
theorem am_w_ac3 : Cond.initialized "java/lang/System" ∈ lw_tbl := List.mem_of_getElem? (i := 73) (by decide +kernel)
theorem am_w_mx1 : Cond.static Lib.Math.max.name ∈ lw_tbl := List.mem_of_getElem? (i := 746) (by decide +kernel)
theorem am_w_mx2 : Cond.initialized "java/lang/Math" ∈ lw_tbl := List.mem_of_getElem? (i := 74) (by decide +kernel)
theorem am_w_mx3 : Cond.code Lib.Math.max.name Lib.Math.max.code 2 (some .int) ∈ lw_tbl := List.mem_of_getElem? (i := 747) (by decide +kernel)
theorem am_w_oi1 : Cond.instanceMethod objectInit ∈ lw_tbl := List.mem_of_getElem? (i := 81) (by decide +kernel)
theorem am_w_oi2 : Cond.code objectInit ⟨#[0xb1]⟩ 1 none ∈ lw_tbl := List.mem_of_getElem? (i := 82) (by decide +kernel)
def am_tb : List Cond := lw_tbl.filter goodWord
theorem am_in {w : Cond} (h : w ∈ lw_tbl) (hg : goodWord w = true) : w ∈ am_tb := List.mem_filter.mpr ⟨h, hg⟩
end
section
/-! A SMALL MACHINE of this claim's own: cells by number, ints and longs as plain functions of (cell, place), references in a list of shapes; its steps are the bytecode's. What it does, the Java machine does (part 04); all methods are then proved over it, by rewriting. -/
abbrev am_S : Type := List (Nat × Nat × (Nat → Nat))
abbrev am_I : Type := Nat → Nat → Int32
abbrev am_J : Type := Nat → Nat → Int64
abbrev am_L : Type := List (Option Value)
abbrev am_Q : Type := Option Value → am_S → am_I → am_J → Prop
def am_c0 : Nat × Nat × (Nat → Nat) := (99, 0, fun _ => 0)
def am_kd (S : am_S) (a : Nat) : Nat := (S.getD a am_c0).1
def am_ln (S : am_S) (a : Nat) : Nat := (S.getD a am_c0).2.1
def am_rf (S : am_S) (a k : Nat) : Nat := (S.getD a am_c0).2.2 k
def am_up {α : Type} (f : Nat → Nat → α) (a k : Nat) (x : α) : Nat → Nat → α := fun b j => if b = a ∧ j = k then x else f b j
def am_row {α : Type} (f : Nat → Nat → α) (a : Nat) (g : Nat → α) : Nat → Nat → α := fun b j => if b = a then g j else f b j
def am_sr (S : am_S) (a k r : Nat) : am_S := S.set a (am_kd S a, am_ln S a, fun j => if j = k then r else am_rf S a j)
/-- an index within -/
def am_ib (i : Int32) (n : Nat) : Prop := 0 ≤ i.toInt ∧ i.toInt < (n : Int)
def am_fty (ci k : Nat) : Nat := match am_tyX ci k with
  | .int => 0
  | .boolean => 1
  | .long => 2
  | _ => 3
def am_fl (w k : Nat) : Option (Nat × Nat) := (am_flds.find? (fun q => q.1 == w && q.2.1 == k)).map (fun q => (q.2.2.1, q.2.2.2.1))
def am_iv (w k : Nat) : Option (Nat × Nat) := (am_ivs.find? (fun q => q.1 == w && q.2.1 == k)).map (fun q => (q.2.2.1, q.2.2.2.1))
def am_ck (w k : Nat) : Option Nat := (am_cls.find? (fun q => q.1 == w && q.2.1 == k)).map (fun q => q.2.2.1)
def am_lc (w k : Nat) : Option Int64 := (am_lcs.find? (fun q => q.1 == w && q.2.1 == k)).map (fun q => q.2.2.1)
-- locals
def am_clr : Option Value → Option Value
  | some (.long _) => none
  | some (.double _) => none
  | o => o
def am_st1 (ls : am_L) (i : Nat) (v : Value) : am_L := match i with
  | 0 => ls.set 0 (some v)
  | j + 1 => (ls.modify j am_clr).set (j + 1) (some v)
def am_st2 (ls : am_L) (i : Nat) (v : Value) : am_L := (am_st1 ls i v).set (i + 1) none
def am_ld (ls : am_L) (i : Nat) : Option Value := ls.getD i none
def am_sl : List Value → am_L
  | [] => []
  | .long v :: t => some (.long v) :: none :: am_sl t
  | .double v :: t => some (.double v) :: none :: am_sl t
  | v :: t => some v :: am_sl t
def am_en (n : Nat) (as : List Value) : am_L := am_sl as ++ List.replicate (n - (am_sl as).length) none
def am_ct (st : List Value) : Nat := (st.map fun v => v.category).sum
def am_tg (pc : Nat) (off : Int) : Option Nat := if 0 ≤ (pc : Int) + off then some ((pc : Int) + off).toNat else none
def am_psh (r : Option Value) (st : List Value) : List Value := match r with
  | some v => v :: st
  | none => st
/-! steps that write no cell -/
abbrev am_N : Type := Nat × am_L × List Value
def am_ii (pc : Nat) (ls : am_L) (st : List Value) (f : Int32 → Int32 → Int32) : Option am_N := match st with
  | .int y :: .int x :: r => some (pc + 1, ls, .int (f x y) :: r)
  | _ => none
def am_ll (pc : Nat) (ls : am_L) (st : List Value) (f : Int64 → Int64 → Int64) : Option am_N := match st with
  | .long y :: .long x :: r => some (pc + 1, ls, .long (f x y) :: r)
  | _ => none
def am_lld (pc : Nat) (ls : am_L) (st : List Value) (f : Int64 → Int64 → Int64) : Option am_N := match st with
  | .long y :: .long x :: r => if y = 0 then none else some (pc + 1, ls, .long (f x y) :: r)
  | _ => none
def am_ldi (pc i : Nat) (ls : am_L) (st : List Value) : Option am_N := match am_ld ls i with
  | some (.int x) => some (pc, ls, .int x :: st)
  | _ => none
def am_ldl (pc i : Nat) (ls : am_L) (st : List Value) : Option am_N := match am_ld ls i with
  | some (.long x) => some (pc, ls, .long x :: st)
  | _ => none
def am_lda (pc i : Nat) (ls : am_L) (st : List Value) : Option am_N := match am_ld ls i with
  | some (.ref x) => some (pc, ls, .ref x :: st)
  | _ => none
def am_sti (pc i : Nat) (ls : am_L) (st : List Value) : Option am_N := match st with
  | .int x :: r => if i < ls.length then some (pc, am_st1 ls i (.int x), r) else none
  | _ => none
def am_sta (pc i : Nat) (ls : am_L) (st : List Value) : Option am_N := match st with
  | .ref x :: r => if i < ls.length then some (pc, am_st1 ls i (.ref x), r) else none
  | _ => none
def am_stl (pc i : Nat) (ls : am_L) (st : List Value) : Option am_N := match st with
  | .long x :: r => if i + 1 < ls.length then some (pc, am_st2 ls i (.long x), r) else none
  | _ => none
def am_br (pc : Nat) (off : Int) (ls : am_L) (r : List Value) (c : Prop) [Decidable c] : Option am_N := match am_tg pc off with
  | some t => some (if c then t else pc + 3, ls, r)
  | none => none
def am_if (pc : Nat) (off : Int) (ls : am_L) (r : List Value) (x y : Int32) : ClassFile.Cond → Option am_N
  | .eq => am_br pc off ls r (x = y)
  | .ne => am_br pc off ls r (x ≠ y)
  | .lt => am_br pc off ls r (x < y)
  | .ge => am_br pc off ls r (y ≤ x)
  | .gt => am_br pc off ls r (y < x)
  | .le => am_br pc off ls r (x ≤ y)
def am_gf (w pc k : Nat) (ls : am_L) (st : List Value) (S : am_S) (I : am_I) (J : am_J) : Option am_N := match st with
  | .ref a :: r => match am_fl w k with
    | some (ci, j) => if am_kd S a = ci ∧ a ≠ 0 then
        (match am_fty ci j with
        | 0 => some (pc + 3, ls, .int (I a j) :: r)
        | 1 => some (pc + 3, ls, .int (I a j) :: r)
        | 2 => some (pc + 3, ls, .long (J a j) :: r)
        | _ => if am_rf S a j = 0 then none else some (pc + 3, ls, .ref (am_rf S a j) :: r)) else none
    | none => none
  | _ => none
def am_al (pc : Nat) (ls : am_L) (st : List Value) (S : am_S) (I : am_I) (kd : Nat) : Option am_N := match st with
  | .int i :: .ref a :: r => if am_kd S a = kd ∧ 0 ≤ i.toInt ∧ i.toInt < (am_ln S a : Int) then some (pc + 1, ls, .int (I a i.toNatClampNeg) :: r) else none
  | _ => none
def am_jl (pc : Nat) (ls : am_L) (st : List Value) (S : am_S) (J : am_J) : Option am_N := match st with
  | .int i :: .ref a :: r => if am_kd S a = 23 ∧ 0 ≤ i.toInt ∧ i.toInt < (am_ln S a : Int) then some (pc + 1, ls, .long (J a i.toNatClampNeg) :: r) else none
  | _ => none
def am_ql (pc : Nat) (ls : am_L) (st : List Value) (S : am_S) : Option am_N := match st with
  | .int i :: .ref a :: r => if (am_kd S a = 24 ∨ am_kd S a = 25) ∧ (0 ≤ i.toInt ∧ i.toInt < (am_ln S a : Int)) ∧ am_rf S a i.toNatClampNeg ≠ 0 then some (pc + 1, ls, .ref (am_rf S a i.toNatClampNeg) :: r) else none
  | _ => none
def am_tsw (pc : Nat) (ls : am_L) (st : List Value) (df lo hi : Int) (os : Array Int) : Option am_N := match st with
  | .int x :: r => if x.toInt < lo ∨ hi < x.toInt then (match am_tg pc df with | some t => some (t, ls, r) | none => none)
      else (match os[(x.toInt - lo).toNat]? with | some o => (match am_tg pc o with | some t => some (t, ls, r) | none => none) | none => none)
  | _ => none
def am_pu (w pc : Nat) (ls : am_L) (st : List Value) (S : am_S) (I : am_I) (J : am_J) : Instr → Option am_N
  | .iconst n => some (pc + 1, ls, .int (Int32.ofInt n) :: st)
  | .bipush n => some (pc + 2, ls, .int (Int8.ofInt n).toInt32 :: st)
  | .sipush n => some (pc + 3, ls, .int (Int16.ofInt n).toInt32 :: st)
  | .lconst n => some (pc + 1, ls, .long (Int64.ofNat (n : Nat)) :: st)
  | .ldc2_w k => (match am_lc w k with | some v => some (pc + 3, ls, .long v :: st) | none => none)
  | .iload_n k => am_ldi (pc + 1) k ls st
  | .iload k => am_ldi (pc + 2) k ls st
  | .lload_n k => am_ldl (pc + 1) k ls st
  | .lload k => am_ldl (pc + 2) k ls st
  | .aload_n k => am_lda (pc + 1) k ls st
  | .aload k => am_lda (pc + 2) k ls st
  | .istore_n k => am_sti (pc + 1) k ls st
  | .istore k => am_sti (pc + 2) k ls st
  | .lstore_n k => am_stl (pc + 1) k ls st
  | .lstore k => am_stl (pc + 2) k ls st
  | .astore_n k => am_sta (pc + 1) k ls st
  | .astore k => am_sta (pc + 2) k ls st
  | .iinc k n => (match am_ld ls k with | some (.int x) => if k < ls.length then some (pc + 3, am_st1 ls k (.int (x + Int32.ofInt n)), st) else none | _ => none)
  | .iadd => am_ii pc ls st (fun x y => x + y)
  | .isub => am_ii pc ls st (fun x y => x - y)
  | .imul => am_ii pc ls st (fun x y => x * y)
  | .iand => am_ii pc ls st (fun x y => x &&& y)
  | .ior => am_ii pc ls st (fun x y => x ||| y)
  | .ixor => am_ii pc ls st (fun x y => x ^^^ y)
  | .ishl => am_ii pc ls st (fun x y => x <<< (y &&& 31))
  | .ishr => am_ii pc ls st (fun x y => x >>> (y &&& 31))
  | .iushr => am_ii pc ls st (fun x y => (x.toUInt32 >>> (y.toUInt32 &&& Int32.toUInt32 31)).toInt32)
  | .irem => (match st with | .int y :: .int x :: r => if y = 0 then none else some (pc + 1, ls, .int (x - x / y * y) :: r) | _ => none)
  | .ladd => am_ll pc ls st (fun x y => x + y)
  | .lsub => am_ll pc ls st (fun x y => x - y)
  | .lmul => am_ll pc ls st (fun x y => x * y)
  | .ldiv => am_lld pc ls st (fun x y => x / y)
  | .lrem => am_lld pc ls st (fun x y => x - x / y * y)
  | .lcmp => (match st with | .long y :: .long x :: r => some (pc + 1, ls, .int (lg_cmp x y) :: r) | _ => none)
  | .i2l => (match st with | .int x :: r => some (pc + 1, ls, .long x.toInt64 :: r) | _ => none)
  | .l2i => (match st with | .long x :: r => some (pc + 1, ls, .int x.toInt32 :: r) | _ => none)
  | .i2c => (match st with | .int x :: r => some (pc + 1, ls, .int (x.toUInt32 % 65536).toInt32 :: r) | _ => none)
  | .dup => (match st with | .int x :: r => some (pc + 1, ls, .int x :: .int x :: r) | .ref x :: r => some (pc + 1, ls, .ref x :: .ref x :: r) | _ => none)
  | .dup2 => (match st with | .int x :: .ref y :: r => some (pc + 1, ls, .int x :: .ref y :: .int x :: .ref y :: r) | _ => none)
  | .goto o => (match am_tg pc o with | some t => some (t, ls, st) | none => none)
  | .ifCond c o => (match st with | .int x :: r => am_if pc o ls r x 0 c | _ => none)
  | .if_icmp c o => (match st with | .int y :: .int x :: r => am_if pc o ls r x y c | _ => none)
  | .tableswitch df lo hi os => am_tsw pc ls st df lo hi os
  | .getfield k => am_gf w pc k ls st S I J
  | .iaload => am_al pc ls st S I 20
  | .baload => am_al pc ls st S I 21
  | .caload => am_al pc ls st S I 22
  | .laload => am_jl pc ls st S J
  | .aaload => am_ql pc ls st S
  | .arraylength => (match st with | .ref a :: r => if am_kd S a = 20 then some (pc + 1, ls, .int (Int32.ofNat (am_ln S a)) :: r) else none | _ => none)
  | .invokespecial k => (match st with | .ref _ :: r => if am_iv w k = some (5, 0) ∧ am_ct r ≤ 8 then some (pc + 3, ls, r) else none | _ => none)
  | .invokestatic k => (match st with | .int y :: .int x :: r => if am_iv w k = some (6, 0) ∧ am_ct r ≤ 8 then some (pc + 3, ls, .int (if x < y then y else x) :: r) else none | _ => none)
  | _ => none
/-! steps that write or make cells -/
abbrev am_M : Type := am_L × List Value × am_S × am_I × am_J
def am_as (ls : am_L) (st : List Value) (S : am_S) (I : am_I) (J : am_J) (kd : Nat) : Option am_M := match st with
  | .int x :: .int i :: .ref a :: r => if am_kd S a = kd ∧ a ≠ 0 ∧ (0 ≤ i.toInt ∧ i.toInt < (am_ln S a : Int)) then some (ls, r, S, am_up I a i.toNatClampNeg x, J) else none
  | _ => none
def am_isI (y : Nat) : Bool := decide ((am_y y).name = "<init>")
def am_fo (y ci j : Nat) : Bool := !(am_TX ci j).2.2.2 || (am_isI y && am_ow y == ci)
def am_pf (y w k : Nat) (ls : am_L) (st : List Value) (S : am_S) (I : am_I) (J : am_J) : Option am_M := match am_fl w k with
  | some (ci, j) => (match st with
    | .int x :: .ref a :: r => if am_fo y ci j = true ∧ am_kd S a = ci ∧ a ≠ 0 ∧ (am_fty ci j = 0 ∨ (am_fty ci j = 1 ∧ (x = 0 ∨ x = 1))) then some (ls, r, S, am_up I a j x, J) else none
    | .long x :: .ref a :: r => if am_fo y ci j = true ∧ am_kd S a = ci ∧ a ≠ 0 ∧ am_fty ci j = 2 then some (ls, r, S, I, am_up J a j x) else none
    | .ref v :: .ref a :: r => if am_fo y ci j = true ∧ am_kd S a = ci ∧ a ≠ 0 ∧ am_fty ci j = 3 ∧ v ≠ 0 ∧ v < S.length then some (ls, r, am_sr S a j v, I, J) else none
    | _ => none)
  | none => none
def am_mk (ls : am_L) (r : List Value) (S : am_S) (I : am_I) (J : am_J) (c : Nat × Nat × (Nat → Nat)) : am_M :=
  (ls, .ref S.length :: r, S ++ [c], am_row I S.length (fun _ => 0), am_row J S.length (fun _ => 0))
def am_atk : ArrayType → Nat
  | .int => 20
  | .boolean => 21
  | .char => 22
  | .long => 23
  | _ => 99
def am_me (y w : Nat) (ls : am_L) (st : List Value) (S : am_S) (I : am_I) (J : am_J) : Instr → Option am_M
  | .putfield k => am_pf y w k ls st S I J
  | .iastore => am_as ls st S I J 20
  | .bastore => (match st with | .int x :: r => if x = 0 ∨ x = 1 then am_as ls (.int x :: r) S I J 21 else none | _ => none)
  | .castore => (match st with | .int x :: r => if (x.toUInt32 % 65536).toInt32 = x then am_as ls (.int x :: r) S I J 22 else none | _ => none)
  | .lastore => (match st with
    | .long x :: .int i :: .ref a :: r => if am_kd S a = 23 ∧ a ≠ 0 ∧ (0 ≤ i.toInt ∧ i.toInt < (am_ln S a : Int)) then some (ls, r, S, I, am_up J a i.toNatClampNeg x) else none
    | _ => none)
  | .aastore => (match st with
    | .ref v :: .int i :: .ref a :: r => if am_kd S a = 24 ∧ a ≠ 0 ∧ (0 ≤ i.toInt ∧ i.toInt < (am_ln S a : Int)) ∧ am_kd S v = 6 ∧ v ≠ 0 then some (ls, r, am_sr S a i.toNatClampNeg v, I, J) else none
    | _ => none)
  | .new k => (match am_ck w k with | some ci => some (am_mk ls st S I J (ci, am_nf ci, fun _ => 0)) | none => none)
  | .newarray t => (match st with
    | .int n :: r => if am_atk t < 99 ∧ 0 ≤ n.toInt ∧ n.toInt < 10000 then some (am_mk ls r S I J (am_atk t, n.toNatClampNeg, fun _ => 0)) else none
    | _ => none)
  | .anewarray k => (match st with
    | .int n :: r => if am_ck w k = some 6 ∧ 0 ≤ n.toInt ∧ n.toInt < 10000 then some (am_mk ls r S I J (24, n.toNatClampNeg, fun _ => 0)) else none
    | _ => none)
  | .invokestatic k => (match st with
    | .int n :: .int dp :: .ref a :: .int sp :: .ref b :: r => if am_iv w k = some (7, 0) ∧ am_kd S a = 20 ∧ am_kd S b = 20 ∧ a ≠ 0 ∧ b ≠ 0 ∧ (0 ≤ n.toInt ∧ 0 ≤ dp.toInt ∧ 0 ≤ sp.toInt) ∧ sp.toInt + n.toInt ≤ (am_ln S b : Int) ∧ dp.toInt + n.toInt ≤ (am_ln S a : Int) ∧ am_ct r ≤ 8
        then some (ls, r, S, am_row I a (va_cpy (I b) (I a) sp.toNatClampNeg dp.toNatClampNeg n.toNatClampNeg), J) else none
    | _ => none)
  | _ => none
/-- new long[n][k]: the outer row first, then its rows -/
def am_grow (S : am_S) (n k : Nat) : am_S := S ++ (25, n, fun i => if i < n then S.length + 1 + i else 0) :: List.replicate n (23, k, fun _ => 0)
def am_clean {α : Type} (f : Nat → Nat → α) (a : Nat) (z : α) : Nat → Nat → α := fun b j => if a ≤ b then z else f b j
def am_gr (w : Nat) (ls : am_L) (st : List Value) (S : am_S) (I : am_I) (J : am_J) : Instr → Option am_M
  | .multianewarray k d => (match st with
    | .int m :: .int n :: r => if w = 7 ∧ k = 9 ∧ d = 2 ∧ (0 ≤ n.toInt ∧ n.toInt < 100) ∧ 0 ≤ m.toInt ∧ m.toInt < 100 then some (ls, .ref S.length :: r, am_grow S n.toNatClampNeg m.toNatClampNeg, am_clean I S.length 0, am_clean J S.length 0) else none
    | _ => none)
  | _ => none
/-! calls and returns -/
abbrev am_C3 : Type := Nat × List Value × List Value
def am_cv0 (w : Nat) (st : List Value) (S : am_S) : Instr → Option am_C3
  | .invokevirtual k => (match am_iv w k with
    | some (0, y) => (match st.drop (am_np y) with
      | .ref a :: r => if am_kd S a = am_ow y ∧ a ≠ 0 ∧ am_ct r ≤ 8 then some (y, .ref a :: (st.take (am_np y)).reverse, r) else none
      | _ => none)
    | _ => none)
  | .invokestatic k => (match am_iv w k with
    | some (1, y) => if am_np y ≤ st.length ∧ am_ct (st.drop (am_np y)) ≤ 8 then some (y, (st.take (am_np y)).reverse, st.drop (am_np y)) else none
    | some (4, y) => if am_np y ≤ st.length ∧ am_ct (st.drop (am_np y)) ≤ 8 then some (y, (st.take (am_np y)).reverse, st.drop (am_np y)) else none
    | _ => none)
  | .invokespecial k => (match am_iv w k with
    | some (2, y) => (match st.drop (am_np y) with
      | .ref a :: r => if am_ct r ≤ 8 then some (y, .ref a :: (st.take (am_np y)).reverse, r) else none
      | _ => none)
    | some (3, y) => (match st.drop (am_np y) with
      | .ref a :: r => if am_ct r ≤ 8 then some (y, .ref a :: (st.take (am_np y)).reverse, r) else none
      | _ => none)
    | _ => none)
  | _ => none
def am_re (y : Nat) (st : List Value) : Instr → Option (Option Value)
  | .ireturn => (match st, am_rt y with
    | [.int x], some .int => some (some (.int x))
    | [.int x], some .boolean => if x = 0 ∨ x = 1 then some (some (.int x)) else none
    | _, _ => none)
  | .lreturn => (match st, am_rt y with
    | [.long x], some .long => some (some (.long x))
    | _, _ => none)
  | .return_ => (match st, am_rt y with
    | [], none => some none
    | _, _ => none)
  | _ => none
def am_iln : Instr → Nat
  | .bipush _ | .iload _ | .lload _ | .aload _ | .istore _ | .lstore _ | .astore _ | .newarray _ => 2
  | .sipush _ | .ldc2_w _ | .iinc _ _ | .goto _ | .ifCond _ _ | .if_icmp _ _ | .getfield _ | .putfield _ | .new _ | .anewarray _ | .invokevirtual _ | .invokestatic _ | .invokespecial _ => 3
  | .multianewarray _ _ => 4
  | _ => 1
abbrev am_Z : Type := (Nat × am_M) ⊕ (Option Value ⊕ (Nat × am_C3))
/-- one instruction -/
def am_ex (y pc n : Nat) (ls : am_L) (st : List Value) (S : am_S) (I : am_I) (J : am_J) (i : Instr) : Option am_Z :=
  match am_pu (am_ow y) pc ls st S I J i with
  | some (pc', ls', st') => some (.inl (pc', ls', st', S, I, J))
  | none => match am_me y (am_ow y) ls st S I J i with
    | some m => some (.inl (pc + n, m))
    | none => match am_gr (am_ow y) ls st S I J i with
      | some m => some (.inl (pc + n, m))
      | none => match am_re y st i with
        | some r => some (.inr (.inl r))
        | none => match am_cv0 (am_ow y) st S i with
          | some c => some (.inr (.inr (pc + n, c)))
          | none => none
def am_isw : Instr → Bool
  | .tableswitch _ _ _ _ => true
  | _ => false
def am_step (y pc : Nat) (ls : am_L) (st : List Value) (S : am_S) (I : am_I) (J : am_J) : Option am_Z :=
  match decode (am_by y) pc with
  | .ok (i, n) => if am_isw i = true ∨ n = am_iln i then am_ex y pc n ls st S I J i else none
  | .error _ => none
abbrev am_Rel : Type := Nat → List Value → am_S → am_I → am_J → Option Value → am_S → am_I → am_J → Prop
def am_run (R : am_Rel) (y : Nat) : Nat → Nat → am_L → List Value → am_S → am_I → am_J → am_Q → Prop
  | 0, _, _, _, _, _, _, _ => False
  | n + 1, pc, ls, st, S, I, J, Q => match am_step y pc ls st S I J with
    | none => False
    | some (.inl (pc', ls', st', S', I', J')) => am_run R y n pc' ls' st' S' I' J' Q
    | some (.inr (.inl r)) => Q r S I J
    | some (.inr (.inr (pc', y', as, st'))) => ∃ r S1 I1 J1, R y' as S I J r S1 I1 J1 ∧ am_run R y n pc' ls (am_psh r st') S1 I1 J1 Q
def am_eq (r : Option Value) (S : am_S) (I : am_I) (J : am_J) : am_Q := fun r2 S2 I2 J2 => r2 = r ∧ S2 = S ∧ I2 = I ∧ J2 = J
def am_R : Nat → am_Rel
  | 0 => fun _ _ _ _ _ _ _ _ _ => False
  | d + 1 => fun y as S I J r S' I' J' => (am_sl as).length ≤ am_ml y ∧ ∃ n, am_run (am_R d) y n 0 (am_en (am_ml y) as) [] S I J (am_eq r S' I' J')
def am_T (d y pc : Nat) (ls : am_L) (st : List Value) (S : am_S) (I : am_I) (J : am_J) (Q : am_Q) : Prop := ∃ n, am_run (am_R d) y n pc ls st S I J Q
def am_C (d y : Nat) (as : List Value) (S : am_S) (I : am_I) (J : am_J) (Q : am_Q) : Prop := ∃ r S1 I1 J1, am_R d y as S I J r S1 I1 J1 ∧ Q r S1 I1 J1
def am_go (d y : Nat) (ls : am_L) (S : am_S) (I : am_I) (J : am_J) (Q : am_Q) : Option am_Z → Prop
  | none => False
  | some (.inl (pc', ls', st', S', I', J')) => am_T d y pc' ls' st' S' I' J' Q
  | some (.inr (.inl r)) => Q r S I J
  | some (.inr (.inr (pc', y', as, st'))) => am_C d y' as S I J (fun r S1 I1 J1 => am_T d y pc' ls (am_psh r st') S1 I1 J1 Q)
theorem am_T_un (d y pc : Nat) (ls : am_L) (st : List Value) (S : am_S) (I : am_I) (J : am_J) (Q : am_Q) : am_T d y pc ls st S I J Q = am_go d y ls S I J Q (am_step y pc ls st S I J) := by
  apply propext
  constructor
  · rintro ⟨n, h⟩
    cases n with
    | zero => exact h.elim
    | succ n =>
      unfold am_run at h
      cases hs : am_step y pc ls st S I J with
      | none => rw [hs] at h; exact h
      | some z =>
        rw [hs] at h
        match z, h with
        | .inl (pc', ls', st', S', I', J'), h => exact ⟨n, h⟩
        | .inr (.inl r), h => exact h
        | .inr (.inr (pc', y', as, st')), h =>
          obtain ⟨r, S1, I1, J1, h1, h2⟩ := h
          exact ⟨r, S1, I1, J1, h1, n, h2⟩
  · intro h
    cases hs : am_step y pc ls st S I J with
    | none => rw [hs] at h; exact h.elim
    | some z =>
      rw [hs] at h
      match z, hs, h with
      | .inl (pc', ls', st', S', I', J'), hs, ⟨n, h⟩ => exact ⟨n + 1, by unfold am_run; rw [hs]; exact h⟩
      | .inr (.inl r), hs, h => exact ⟨1, by unfold am_run; rw [hs]; exact h⟩
      | .inr (.inr (pc', y', as, st')), hs, ⟨r, S1, I1, J1, h1, n, h2⟩ => exact ⟨n + 1, by unfold am_run; rw [hs]; exact ⟨r, S1, I1, J1, h1, h2⟩⟩
theorem am_run_iff (R : am_Rel) (y : Nat) : ∀ (n pc : Nat) (ls : am_L) (st : List Value) (S : am_S) (I : am_I) (J : am_J) (Q : am_Q), am_run R y n pc ls st S I J Q ↔ ∃ r S1 I1 J1, am_run R y n pc ls st S I J (am_eq r S1 I1 J1) ∧ Q r S1 I1 J1 := by
  intro n
  induction n with
  | zero => intro pc ls st S I J Q; exact ⟨fun h => h.elim, fun ⟨_, _, _, _, h, _⟩ => h.elim⟩
  | succ n ih =>
    intro pc ls st S I J Q
    unfold am_run
    cases hs : am_step y pc ls st S I J with
    | none => exact ⟨fun h => h.elim, fun ⟨_, _, _, _, h, _⟩ => h.elim⟩
    | some z =>
      match z with
      | .inl (pc', ls', st', S', I', J') => exact ih pc' ls' st' S' I' J' Q
      | .inr (.inl r) =>
        constructor
        · intro h; exact ⟨r, S, I, J, ⟨rfl, rfl, rfl, rfl⟩, h⟩
        · rintro ⟨r1, S1, I1, J1, ⟨rfl, rfl, rfl, rfl⟩, h⟩; exact h
      | .inr (.inr (pc', y', as, st')) =>
        constructor
        · rintro ⟨r, S1, I1, J1, h1, h2⟩
          obtain ⟨r2, S2, I2, J2, h3, h4⟩ := (ih _ _ _ _ _ _ _).mp h2
          exact ⟨r2, S2, I2, J2, ⟨r, S1, I1, J1, h1, h3⟩, h4⟩
        · rintro ⟨r2, S2, I2, J2, ⟨r, S1, I1, J1, h1, h3⟩, h4⟩
          exact ⟨r, S1, I1, J1, h1, (ih _ _ _ _ _ _ _).mpr ⟨r2, S2, I2, J2, h3, h4⟩⟩
theorem am_C_un (d y : Nat) (as : List Value) (S : am_S) (I : am_I) (J : am_J) (Q : am_Q) (h : (am_sl as).length ≤ am_ml y) : am_C (d + 1) y as S I J Q = am_T d y 0 (am_en (am_ml y) as) [] S I J Q := by
  apply propext
  constructor
  · rintro ⟨r, S1, I1, J1, ⟨-, n, h1⟩, h2⟩
    exact ⟨n, (am_run_iff _ _ _ _ _ _ _ _ _ _).mpr ⟨r, S1, I1, J1, h1, h2⟩⟩
  · rintro ⟨n, h1⟩
    obtain ⟨r, S1, I1, J1, h2, h3⟩ := (am_run_iff _ _ _ _ _ _ _ _ _ _).mp h1
    exact ⟨r, S1, I1, J1, ⟨h, n, h2⟩, h3⟩
theorem am_T_mono {d y pc : Nat} {ls : am_L} {st : List Value} {S : am_S} {I : am_I} {J : am_J} {Q Q' : am_Q} (h : am_T d y pc ls st S I J Q) (hq : ∀ r S1 I1 J1, Q r S1 I1 J1 → Q' r S1 I1 J1) : am_T d y pc ls st S I J Q' := by
  obtain ⟨n, h⟩ := h
  obtain ⟨r, S1, I1, J1, h2, h3⟩ := (am_run_iff _ _ _ _ _ _ _ _ _ _).mp h
  exact ⟨n, (am_run_iff _ _ _ _ _ _ _ _ _ _).mpr ⟨r, S1, I1, J1, h2, hq _ _ _ _ h3⟩⟩
theorem am_C_mono {d y : Nat} {as : List Value} {S : am_S} {I : am_I} {J : am_J} {Q Q' : am_Q} (h : am_C d y as S I J Q) (hq : ∀ r S1 I1 J1, Q r S1 I1 J1 → Q' r S1 I1 J1) : am_C d y as S I J Q' := by
  obtain ⟨r, S1, I1, J1, h2, h3⟩ := h
  exact ⟨r, S1, I1, J1, h2, hq _ _ _ _ h3⟩
end
section
/-! THE JAVA MACHINE FOLLOWS the small machine: the world of cells -/
def am_ad (b h k : Nat) : Nat := if k = 0 then b else h + k
def am_cv (b h : Nat) : Value → Value
  | .ref k => .ref (am_ad b h k)
  | v => v
def am_or (h k : Nat) : Option Nat := if k = 0 then none else some (h + k)
def am_fv (h : Nat) (S : am_S) (I : am_I) (J : am_J) (a ci j : Nat) : Value := match am_fty ci j with
  | 0 => .int (I a j)
  | 1 => .int (I a j)
  | 2 => .long (J a j)
  | _ => va_rf (am_or h (am_rf S a j))
def am_E (cA : Nat → ClassId) (h : Nat) (S : am_S) (I : am_I) (J : am_J) (a : Nat) : va_E :=
  if am_kd S a < 10 then .inr (am_kd S a, (List.range (am_nf (am_kd S a))).map (am_fv h S I J a (am_kd S a)))
  else if am_kd S a = 23 then .inl (cA 23, am_ln S a, .inr (.inl (J a)))
  else if am_kd S a = 24 ∨ am_kd S a = 25 then .inl (cA (am_kd S a), am_ln S a, .inr (.inr (.inr (.inr (fun j => am_or h (am_rf S a j))))))
  else .inl (cA (am_kd S a), am_ln S a, .inl (I a))
def am_W (cA : Nat → ClassId) (h : Nat) (S : am_S) (I : am_I) (J : am_J) : va_W := (List.range (S.length - 1)).map (fun i => (h + (i + 1), am_E cA h S I J (i + 1)))
def am_tys (cA : Nat → ClassId) : List (ClassId × FieldType) := [(cA 20, .int), (cA 21, .boolean), (cA 22, .char), (cA 23, .long), (cA 24, .object "ArborescenceFinder$State"), (cA 25, .array .long)]
theorem am_kd_lt {S : am_S} {a k : Nat} (h : am_kd S a = k) (hk : k ≠ 99) : a < S.length := by
  rcases Nat.lt_or_ge a S.length with g | g
  · exact g
  · exfalso; apply hk; rw [← h]; unfold am_kd; rw [List.getD_eq_getElem?_getD, List.getElem?_eq_none g]; rfl
theorem am_W_get (cA : Nat → ClassId) (h : Nat) (S : am_S) (I : am_I) (J : am_J) (i : Nat) : (am_W cA h S I J)[i]? = if i < S.length - 1 then some (h + (i + 1), am_E cA h S I J (i + 1)) else none := by
  unfold am_W
  rw [List.getElem?_map]
  by_cases g : i < S.length - 1
  · rw [if_pos g, List.getElem?_range g]; rfl
  · rw [if_neg g, List.getElem?_eq_none (by rw [List.length_range]; omega)]; rfl
theorem am_W_at (cA : Nat → ClassId) (h : Nat) {S : am_S} (I : am_I) (J : am_J) {a : Nat} (h0 : a ≠ 0) (hl : a < S.length) : (am_W cA h S I J)[a - 1]? = some (h + a, am_E cA h S I J a) := by
  rw [am_W_get, if_pos (by omega)]
  rw [show a - 1 + 1 = a by omega]
theorem am_W_len (cA : Nat → ClassId) (h : Nat) (S : am_S) (I : am_I) (J : am_J) : (am_W cA h S I J).length = S.length - 1 := by
  unfold am_W; simp
theorem am_W_D (cA : Nat → ClassId) (h : Nat) (S : am_S) (I : am_I) (J : am_J) : va_D (fun q => h < q) (am_W cA h S I J) := by
  constructor
  · intro i j p q hp hq e
    rw [am_W_get] at hp hq
    split at hp
    · split at hq
      · cases hp; cases hq
        have e : h + (i + 1) = h + (j + 1) := e
        omega
      · cases hq
    · cases hp
  · intro k q hq
    rw [am_W_get] at hq
    split at hq
    · cases hq
      show h < h + (k + 1)
      omega
    · cases hq
/-- one cell changed -/
theorem am_W_set (cA : Nat → ClassId) (h : Nat) {S S' : am_S} {I I' : am_I} {J J' : am_J} {a : Nat} (h0 : a ≠ 0) (hl : a < S.length) (hS : S'.length = S.length) (ho : ∀ a', a' ≠ a → am_E cA h S' I' J' a' = am_E cA h S I J a') : (am_W cA h S I J).set (a - 1) (h + a, am_E cA h S' I' J' a) = am_W cA h S' I' J' := by
  apply List.ext_getElem?
  intro i
  rw [List.getElem?_set, am_W_len, am_W_get, am_W_get, hS]
  by_cases g : a - 1 = i
  · subst g
    rw [if_pos rfl, if_pos (by omega), if_pos (by omega), show a - 1 + 1 = a by omega]
  · rw [if_neg g]
    by_cases g2 : i < S.length - 1
    · rw [if_pos g2, if_pos g2, ho (i + 1) (by omega)]
    · rw [if_neg g2, if_neg g2]
/-- a cell made -/
theorem am_W_app (cA : Nat → ClassId) (h : Nat) {S : am_S} {I I' : am_I} {J J' : am_J} {c : Nat × Nat × (Nat → Nat)} (hl : 0 < S.length) (ho : ∀ a, a < S.length → am_E cA h (S ++ [c]) I' J' a = am_E cA h S I J a) : am_W cA h S I J ++ [(h + S.length, am_E cA h (S ++ [c]) I' J' S.length)] = am_W cA h (S ++ [c]) I' J' := by
  apply List.ext_getElem?
  intro i
  rw [am_W_get, List.length_append, List.length_singleton]
  by_cases g : i < S.length - 1
  · rw [List.getElem?_append_left (by rw [am_W_len]; exact g), am_W_get, if_pos g, if_pos (by omega), ho (i + 1) (by omega)]
  · rw [List.getElem?_append_right (by rw [am_W_len]; omega), am_W_len]
    by_cases g2 : i = S.length - 1
    · subst g2
      rw [if_pos (by omega), show S.length - 1 - (S.length - 1) = 0 by omega, show S.length - 1 + 1 = S.length by omega]; rfl
    · rw [if_neg (by omega), List.getElem?_eq_none (by simp; omega)]
theorem am_kd_app {S : am_S} {c : List (Nat × Nat × (Nat → Nat))} {a : Nat} (h : a < S.length) : am_kd (S ++ c) a = am_kd S a ∧ am_ln (S ++ c) a = am_ln S a ∧ am_rf (S ++ c) a = am_rf S a := by
  have e : (S ++ c).getD a am_c0 = S.getD a am_c0 := by
    rw [List.getD_eq_getElem?_getD, List.getD_eq_getElem?_getD, List.getElem?_append_left h]
  refine ⟨by unfold am_kd; rw [e], by unfold am_ln; rw [e], ?_⟩
  funext k
  unfold am_rf; rw [e]
theorem am_kd_new {S : am_S} {c : Nat × Nat × (Nat → Nat)} : am_kd (S ++ [c]) S.length = c.1 ∧ am_ln (S ++ [c]) S.length = c.2.1 ∧ am_rf (S ++ [c]) S.length = c.2.2 := by
  have e : (S ++ [c]).getD S.length am_c0 = c := by
    rw [List.getD_eq_getElem?_getD, List.getElem?_append_right (Nat.le_refl _)]; simp
  refine ⟨by unfold am_kd; rw [e], by unfold am_ln; rw [e], ?_⟩
  funext k
  unfold am_rf; rw [e]
theorem am_sr_other {S : am_S} {a k r a' : Nat} (h : a' ≠ a) : am_kd (am_sr S a k r) a' = am_kd S a' ∧ am_ln (am_sr S a k r) a' = am_ln S a' ∧ am_rf (am_sr S a k r) a' = am_rf S a' := by
  have e : (am_sr S a k r).getD a' am_c0 = S.getD a' am_c0 := by
    unfold am_sr
    rw [List.getD_eq_getElem?_getD, List.getD_eq_getElem?_getD, List.getElem?_set_ne (Ne.symm h)]
  refine ⟨by unfold am_kd; rw [e], by unfold am_ln; rw [e], ?_⟩
  funext j
  unfold am_rf; rw [e]
theorem am_sr_same {S : am_S} {a k r : Nat} (h : a < S.length) : am_kd (am_sr S a k r) a = am_kd S a ∧ am_ln (am_sr S a k r) a = am_ln S a ∧ am_rf (am_sr S a k r) a = (fun j => if j = k then r else am_rf S a j) := by
  have e : (am_sr S a k r).getD a am_c0 = (am_kd S a, am_ln S a, fun j => if j = k then r else am_rf S a j) := by
    show (S.set a (am_kd S a, am_ln S a, fun j => if j = k then r else am_rf S a j)).getD a am_c0 = _
    rw [List.getD_eq_getElem?_getD, List.getElem?_set_self h]; rfl
  refine ⟨by show ((am_sr S a k r).getD a am_c0).1 = _; rw [e], by show ((am_sr S a k r).getD a am_c0).2.1 = _; rw [e], ?_⟩
  funext j
  show ((am_sr S a k r).getD a am_c0).2.2 j = _
  rw [e]
theorem am_sr_len {S : am_S} {a k r : Nat} : (am_sr S a k r).length = S.length := by unfold am_sr; simp
theorem am_up_ne {α : Type} {f : Nat → Nat → α} {a k b : Nat} {x : α} (h : b ≠ a) : am_up f a k x b = f b := by
  funext j; unfold am_up; rw [if_neg (fun q => h q.1)]
theorem am_up_eq {α : Type} {f : Nat → Nat → α} {a k : Nat} {x : α} : am_up f a k x a = fun j => if j = k then x else f a j := by
  funext j; unfold am_up
  by_cases g : j = k
  · rw [if_pos ⟨rfl, g⟩, if_pos g]
  · rw [if_neg (fun q => g q.2), if_neg g]
theorem am_row_ne {α : Type} {f : Nat → Nat → α} {a b : Nat} {g : Nat → α} (h : b ≠ a) : am_row f a g b = f b := by
  funext j; unfold am_row; rw [if_neg h]
theorem am_row_eq {α : Type} {f : Nat → Nat → α} {a : Nat} {g : Nat → α} : am_row f a g a = g := by
  funext j; unfold am_row; rw [if_pos rfl]
/-- a cell looks the same if what it is made of is -/
theorem am_E_congr (cA : Nat → ClassId) (h : Nat) {S S' : am_S} {I I' : am_I} {J J' : am_J} {a : Nat} (h1 : am_kd S' a = am_kd S a ∧ am_ln S' a = am_ln S a ∧ am_rf S' a = am_rf S a) (h2 : I' a = I a) (h3 : J' a = J a) : am_E cA h S' I' J' a = am_E cA h S I J a := by
  obtain ⟨e1, e2, e3⟩ := h1
  have ef : am_fv h S' I' J' a = am_fv h S I J a := by
    funext ci j; unfold am_fv; rw [h2, h3, e3]
  unfold am_E
  rw [e1, e2, e3, h2, h3, ef]
theorem am_map_set {α : Type} (n j : Nat) (f : Nat → α) (v : α) : ((List.range n).map f).set j v = (List.range n).map (fun i => if i = j then v else f i) := by
  apply List.ext_getElem?
  intro i
  rw [List.getElem?_set, List.getElem?_map, List.getElem?_map]
  by_cases g : i < n
  · rw [List.getElem?_range g]
    by_cases e : j = i
    · subst e; simp [g]
    · simp [e, Ne.symm e]
  · rw [List.getElem?_eq_none (by simpa using g)]
    by_cases e : j = i
    · subst e; simp [g]
    · simp [e]
theorem am_cl_get {ci : Nat} (h : ci < 10) : am_cl[ci]? = some (am_cn ci, am_TX ci, am_nf ci) := by
  unfold am_cl
  rw [List.getElem?_map, List.getElem?_range h]; rfl
theorem am_fl_ok {w k ci j : Nat} (h : am_fl w k = some (ci, j)) : ci < 10 ∧ j < am_nf ci ∧ Cond.fieldLink (am_cn w) k (am_cn ci) (am_TX ci j).2.1 (am_TX ci j).2.2.1 ∈ am_tb ∧ (am_TX ci j).1 = am_cn ci := by
  unfold am_fl at h
  cases hq : am_flds.find? (fun q => q.1 == w && q.2.1 == k) with
  | none => rw [hq] at h; cases h
  | some q =>
    rw [hq] at h
    obtain ⟨w', k', ci', j', pl⟩ := q
    have h' : (ci', j') = (ci, j) := Option.some.inj h
    cases h'
    have h1 := List.find?_some hq
    simp only [Bool.and_eq_true, beq_iff_eq] at h1
    obtain ⟨rfl, rfl⟩ := h1
    have h2 := List.all_eq_true.mp am_flds_ok _ (List.mem_of_find?_eq_some hq)
    have h2 := of_decide_eq_true h2
    exact ⟨h2.1, h2.2.1, am_in (List.mem_of_getElem? h2.2.2.1) rfl, h2.2.2.2⟩
theorem am_lay_in {i : Nat} (hi : i < 10) : ∀ w ∈ u_ws (am_cn i) (am_TX i) (am_nf i), w ∈ am_tb := by
  intro w hw
  unfold u_ws at hw
  obtain ⟨k, hk, rfl⟩ := List.mem_map.mp hw
  have h1 := List.all_eq_true.mp am_lay_ok i (List.mem_range.mpr hi)
  have h2 := of_decide_eq_true (List.all_eq_true.mp h1 k hk)
  refine am_in (List.mem_of_getElem? h2) ?_
  unfold u_lay
  split <;> rfl
theorem am_lc_ok {w k : Nat} {v : Int64} (h : am_lc w k = some v) : Cond.constantLong (am_cn w) k v ∈ am_tb := by
  unfold am_lc at h
  cases hq : am_lcs.find? (fun q => q.1 == w && q.2.1 == k) with
  | none => rw [hq] at h; cases h
  | some q =>
    rw [hq] at h
    obtain ⟨w', k', v', pl⟩ := q
    have h' : v' = v := Option.some.inj h
    subst h'
    have h1 := List.find?_some hq
    simp only [Bool.and_eq_true, beq_iff_eq] at h1
    obtain ⟨rfl, rfl⟩ := h1
    have h2 := of_decide_eq_true (List.all_eq_true.mp am_lcs_ok _ (List.mem_of_find?_eq_some hq))
    exact am_in (List.mem_of_getElem? h2) rfl
theorem am_ck_ok {w k ci : Nat} (h : am_ck w k = some ci) : ci < 10 ∧ Cond.classLink (am_cn w) k (am_cn ci) ∈ am_tb := by
  unfold am_ck at h
  cases hq : am_cls.find? (fun q => q.1 == w && q.2.1 == k) with
  | none => rw [hq] at h; cases h
  | some q =>
    rw [hq] at h
    obtain ⟨w', k', c', pl⟩ := q
    have h' : c' = ci := Option.some.inj h
    subst h'
    have h1 := List.find?_some hq
    simp only [Bool.and_eq_true, beq_iff_eq] at h1
    obtain ⟨rfl, rfl⟩ := h1
    have h2 := of_decide_eq_true (List.all_eq_true.mp am_cls_ok _ (List.mem_of_find?_eq_some hq))
    exact ⟨h2.1, am_in (List.mem_of_getElem? h2.2) rfl⟩
theorem am_iv_ok {w k d y : Nat} (h : am_iv w k = some (d, y)) : ∃ p i s, am_ivok (w, k, d, y, p, i, s) = true := by
  unfold am_iv at h
  cases hq : am_ivs.find? (fun q => q.1 == w && q.2.1 == k) with
  | none => rw [hq] at h; cases h
  | some q =>
    rw [hq] at h
    obtain ⟨w', k', d', y', p, i, s⟩ := q
    have h' : (d', y') = (d, y) := Option.some.inj h
    cases h'
    have h1 := List.find?_some hq
    simp only [Bool.and_eq_true, beq_iff_eq] at h1
    obtain ⟨rfl, rfl⟩ := h1
    exact ⟨p, i, s, List.all_eq_true.mp am_ivs_ok _ (List.mem_of_find?_eq_some hq)⟩
-- locals
def am_LV (b h : Nat) (arr : Array Slot) (nL : Nat) (ls : am_L) : Prop := arr.size = nL ∧ ls.length = nL ∧ lv_wf arr ∧ ∀ (i : Nat) (v : Value), ls[i]? = some (some v) → arr[i]? = some (.val (am_cv b h v))
def am_lv (b h : Nat) (ls : am_L) : List (Nat × Value) := (List.range ls.length).filterMap (fun i => (ls.getD i none).map (fun v => (i, am_cv b h v)))
theorem am_lv_mem {b h : Nat} {ls : am_L} {q : Nat × Value} : q ∈ am_lv b h ls ↔ ∃ v, ls[q.1]? = some (some v) ∧ q.2 = am_cv b h v := by
  unfold am_lv
  rw [List.mem_filterMap]
  constructor
  · rintro ⟨i, hi, e⟩
    cases hg : ls.getD i none with
    | none => rw [hg] at e; cases e
    | some v =>
      rw [hg] at e
      cases e
      refine ⟨v, ?_, rfl⟩
      have hl : i < ls.length := List.mem_range.mp hi
      rw [List.getD_eq_getElem?_getD, List.getElem?_eq_getElem hl] at hg
      rw [List.getElem?_eq_getElem hl]
      exact congrArg some hg
  · rintro ⟨v, h1, h2⟩
    have hl : q.1 < ls.length := (List.getElem?_eq_some_iff.mp h1).1
    refine ⟨q.1, List.mem_range.mpr hl, ?_⟩
    rw [List.getD_eq_getElem?_getD, h1]
    show some (q.1, am_cv b h v) = some q
    rw [← h2]
theorem am_LV.has {b h : Nat} {arr : Array Slot} {nL : Nat} {ls : am_L} (g : am_LV b h arr nL ls) : lv_has arr nL (am_lv b h ls) := by
  refine ⟨g.1, g.2.2.1, fun q hq => ?_⟩
  obtain ⟨v, h1, h2⟩ := am_lv_mem.mp hq
  rw [h2]
  exact g.2.2.2 _ _ h1
theorem am_LV.at {b h : Nat} {arr : Array Slot} {nL : Nat} {ls : am_L} (g : am_LV b h arr nL ls) {i : Nat} {v : Value} (e : am_ld ls i = some v) : arr[i]? = some (.val (am_cv b h v)) := by
  unfold am_ld at e
  apply g.2.2.2
  rw [List.getD_eq_getElem?_getD] at e
  cases hg : ls[i]? with
  | none => rw [hg] at e; cases e
  | some o => rw [hg] at e; exact congrArg some e
theorem am_cat (b h : Nat) (v : Value) : (am_cv b h v).category = v.category := by cases v <;> rfl
theorem am_st1_len {ls : am_L} {i : Nat} {v : Value} : (am_st1 ls i v).length = ls.length := by
  cases i with
  | zero => simp [am_st1]
  | succ j => simp [am_st1]
theorem am_st1_get {ls : am_L} {i : Nat} {v w : Value} {j : Nat} (h : (am_st1 ls i v)[j]? = some (some w)) : (j = i ∧ w = v) ∨ (j ≠ i ∧ ls[j]? = some (some w) ∧ ¬ (j + 1 = i ∧ w.category = 2)) := by
  by_cases e : j = i
  · left
    subst e
    refine ⟨rfl, ?_⟩
    cases j with
    | zero =>
      have hl : 0 < ls.length := by have := (List.getElem?_eq_some_iff.mp h).1; simpa [am_st1] using this
      unfold am_st1 at h
      rw [List.getElem?_set_self hl] at h
      cases h; rfl
    | succ j =>
      have hl : j + 1 < ls.length := by have := (List.getElem?_eq_some_iff.mp h).1; simpa [am_st1] using this
      unfold am_st1 at h
      rw [List.getElem?_set_self (by simpa using hl)] at h
      cases h; rfl
  · right
    refine ⟨e, ?_⟩
    cases i with
    | zero =>
      unfold am_st1 at h
      rw [List.getElem?_set_ne (Ne.symm e)] at h
      exact ⟨h, by omega⟩
    | succ i =>
      unfold am_st1 at h
      rw [List.getElem?_set_ne (Ne.symm e), List.getElem?_modify] at h
      by_cases g : i = j
      · subst g
        cases hg : ls[i]? with
        | none => rw [hg] at h; cases h
        | some o =>
          rw [hg] at h
          have h : (if i = i then am_clr o else o) = some w := Option.some.inj h
          rw [if_pos rfl] at h
          cases o with
          | none => cases h
          | some u =>
            cases u <;> first | cases h; done | (cases h; exact ⟨rfl, fun q => by cases q.2⟩)
      · have h2 : ls[j]? = some (some w) := by
          cases hg : ls[j]? with
          | none => rw [hg] at h; cases h
          | some o =>
            rw [hg] at h
            have h : (if i = j then am_clr o else o) = some w := Option.some.inj h
            rw [if_neg g] at h
            rw [h]
        exact ⟨h2, by omega⟩
theorem am_LV.st1 {b h : Nat} {arr arr' : Array Slot} {nL : Nat} {ls : am_L} {i : Nat} {v : Value} (g : am_LV b h arr nL ls) (g' : lv_has arr' nL ((i, am_cv b h v) :: (am_lv b h ls).filter (fun q => !(q.1 == i) && !(q.1 + 1 == i && q.2.category == 2)))) : am_LV b h arr' nL (am_st1 ls i v) := by
  refine ⟨g'.1, by rw [am_st1_len]; exact g.2.1, g'.2.1, fun j w hw => ?_⟩
  refine g'.2.2 (j, am_cv b h w) ?_
  rcases am_st1_get hw with ⟨rfl, rfl⟩ | ⟨h1, h2, h3⟩
  · exact List.mem_cons_self
  · refine List.mem_cons_of_mem _ (List.mem_filter.mpr ⟨am_lv_mem.mpr ⟨w, h2, rfl⟩, ?_⟩)
    simp only [am_cat]
    simp [h1]
    exact Decidable.not_and_iff_not_or_not.mp h3
theorem am_LV.st2 {b h : Nat} {arr arr' : Array Slot} {nL : Nat} {ls : am_L} {i : Nat} {v : Value} (g : am_LV b h arr nL ls) (g' : lv_has arr' nL ((i, am_cv b h v) :: (am_lv b h ls).filter (fun q => !(q.1 == i) && (!(q.1 == i + 1) && !(q.1 + 1 == i && q.2.category == 2))))) : am_LV b h arr' nL (am_st2 ls i v) := by
  refine ⟨g'.1, by unfold am_st2; rw [List.length_set, am_st1_len]; exact g.2.1, g'.2.1, fun j w hw => ?_⟩
  refine g'.2.2 (j, am_cv b h w) ?_
  unfold am_st2 at hw
  by_cases e : j = i + 1
  · subst e
    by_cases hl : i + 1 < (am_st1 ls i v).length
    · rw [List.getElem?_set_self hl] at hw; cases hw
    · rw [List.getElem?_eq_none (by simpa using hl)] at hw; cases hw
  · rw [List.getElem?_set_ne (Ne.symm e)] at hw
    rcases am_st1_get hw with ⟨rfl, rfl⟩ | ⟨h1, h2, h3⟩
    · exact List.mem_cons_self
    · refine List.mem_cons_of_mem _ (List.mem_filter.mpr ⟨am_lv_mem.mpr ⟨w, h2, rfl⟩, ?_⟩)
      simp only [am_cat]
      simp [h1, e]
      exact Decidable.not_and_iff_not_or_not.mp h3
/-- the context of a method -/
def am_Cx (p : Program) (s : State) (m : MethodId) (args : Array Value) (meth : Method) (c : Code) (R : Room) (y : Nat) : Prop :=
  p.tables.exec = Jvm.exec ∧ c.code = am_by y ∧ c.maxLocals = am_ml y ∧ s.vm.findClass (am_cn (am_ow y)) = some m.cls ∧ (∀ w ∈ am_tb, w.before args s = true) ∧ (am_isI y = true → meth.name = "<init>") ∧ 1 ≤ R.frames ∧ 64 ≤ R.locals
/-- the class of the arrays of arrays is there -/
def am_AOA (t : FieldType) (U : State) : Prop := (Cond.arrayOver (.array t)).before #[] U = true
theorem am_AOA.moved {t : FieldType} {u U : State} (hvm : u.vm.Alike U.vm) (h : am_AOA t u) : am_AOA t U := by
  obtain ⟨comp, c, k, h1, h2, h3, h4, h5⟩ := arrayOverA_spec h
  obtain ⟨k', hk', he⟩ := hvm.2.2 _ _ h3
  have hi : (U.vm.classes.findIdx? fun (x : Class) => match x.kind with | .array component _ => component == comp | _ => false) = some c := by
    refine Eq.trans (va_idx_bare U.vm comp).symm ?_
    first | rw [hvm.bare_eq] | rw [← hvm.bare_eq]
    exact Eq.trans (va_idx_bare u.vm comp) h2
  have hkind : k'.kind = .array comp (.array t) := by rw [he]; exact h4
  have f1 : U.vm.findClass (FieldType.array t).toString = some comp := by rw [hvm.findClass]; exact h1
  have f2 : U.vm.findClass ("[" ++ (FieldType.array t).toString) = some c := by rw [hvm.findClass]; exact h5
  unfold am_AOA Cond.before Cond.holds
  simp only [Cond.value]
  rw [f1, Option.bind_some]
  refine (congrArg (fun o : Option Nat => (o.bind (fun c => (U.vm.classes[c]?).map fun (k : Class) => match k.kind with | .array _ ty => decide (ty = FieldType.array t) && decide (U.vm.findClass ("[" ++ (FieldType.array t).toString) = some c) | _ => false) == some true)) hi).trans ?_
  simp [hk', hkind, f2]
/-- the words on nest mates' methods, which are carried beside the tables' -/
def am_isN (w : Cond) : Bool := match w with
  | .methodLinkNest _ _ _ _ => true
  | _ => false
def am_Ns (s : State) : Prop := ∀ w ∈ lw_tbl, am_isN w = true → va_Nw w s
theorem am_Ns.warm {s U : State} (hW : s.WarmedH U.vm) (h : am_Ns s) : am_Ns U := by
  intro w hw hn
  cases w <;> first | exact va_Nw.warmM hW (h _ hw rfl) | (cases hn; done)
theorem am_Ns.same {s U : State} (hv : s.vm = U.vm) (h : am_Ns s) : am_Ns U := by
  intro w hw hn
  cases w <;> first | exact va_tabs rfl hv (h _ hw rfl) | (cases hn; done)
/-- the world of a run -/
def am_Wd (D : va_G) (cA : Nat → ClassId) (b h L : Nat) (s : State) (S : am_S) (I : am_I) (J : am_J) (H : Heap) (locs : List Loc) : Prop :=
  va_K D am_cl (am_tys cA) s ∧ va_P D am_cl (am_W cA h S I J) H ∧ va_S (fun q => h < q) s.heap H locs ∧ va_X b L (I 0) s s.heap ∧ b ≤ h ∧ h < s.heap.size ∧ am_kd S 0 = 20 ∧ am_ln S 0 = L ∧ va_AO "ArborescenceFinder$State" s ∧ am_AOA .long s ∧ am_Ns s
end
section
/-! steps that write no cell -/
section AMP
variable {p : Program} {l : Launch} {e : Env} {R : Room} {s : State} {m : MethodId} {args : Array Value} {below : List Frame} {meth : Method} {c : Code} {H : Heap} {locs : List Loc} {cells slots : Nat} {Q : State → Prop}
variable {cA : Nat → ClassId} {D : va_G} {b h L y pc n : Nat} {ls ls' : am_L} {st st' : List Value} {S : am_S} {I : am_I} {J : am_J} {arr : Array Slot} {pc' : Nat}
theorem am_ii_inv {f : Int32 → Int32 → Int32} (g : am_ii pc ls st f = some (pc', ls', st')) : ∃ x y r, st = .int y :: .int x :: r ∧ pc' = pc + 1 ∧ ls' = ls ∧ st' = .int (f x y) :: r := by
  unfold am_ii at g
  split at g
  · cases g; exact ⟨_, _, _, rfl, rfl, rfl, rfl⟩
  · cases g
theorem am_ll_inv {f : Int64 → Int64 → Int64} (g : am_ll pc ls st f = some (pc', ls', st')) : ∃ x y r, st = .long y :: .long x :: r ∧ pc' = pc + 1 ∧ ls' = ls ∧ st' = .long (f x y) :: r := by
  unfold am_ll at g
  split at g
  · cases g; exact ⟨_, _, _, rfl, rfl, rfl, rfl⟩
  · cases g
theorem am_lld_inv {f : Int64 → Int64 → Int64} (g : am_lld pc ls st f = some (pc', ls', st')) : ∃ x y r, ¬ y = 0 ∧ st = .long y :: .long x :: r ∧ pc' = pc + 1 ∧ ls' = ls ∧ st' = .long (f x y) :: r := by
  unfold am_lld at g
  split at g
  · split at g
    · cases g
    · next q => cases g; exact ⟨_, _, _, q, rfl, rfl, rfl, rfl⟩
  · cases g
theorem am_ldi_inv {i : Nat} (g : am_ldi pc i ls st = some (pc', ls', st')) : ∃ x, am_ld ls i = some (.int x) ∧ pc' = pc ∧ ls' = ls ∧ st' = .int x :: st := by
  unfold am_ldi at g
  split at g
  · next q => cases g; exact ⟨_, q, rfl, rfl, rfl⟩
  · cases g
theorem am_ldl_inv {i : Nat} (g : am_ldl pc i ls st = some (pc', ls', st')) : ∃ x, am_ld ls i = some (.long x) ∧ pc' = pc ∧ ls' = ls ∧ st' = .long x :: st := by
  unfold am_ldl at g
  split at g
  · next q => cases g; exact ⟨_, q, rfl, rfl, rfl⟩
  · cases g
theorem am_lda_inv {i : Nat} (g : am_lda pc i ls st = some (pc', ls', st')) : ∃ x, am_ld ls i = some (.ref x) ∧ pc' = pc ∧ ls' = ls ∧ st' = .ref x :: st := by
  unfold am_lda at g
  split at g
  · next q => cases g; exact ⟨_, q, rfl, rfl, rfl⟩
  · cases g
theorem am_sti_inv {i : Nat} (g : am_sti pc i ls st = some (pc', ls', st')) : ∃ x, st = .int x :: st' ∧ i < ls.length ∧ pc' = pc ∧ ls' = am_st1 ls i (.int x) := by
  unfold am_sti at g
  split at g
  · split at g
    · next q => cases g; exact ⟨_, rfl, q, rfl, rfl⟩
    · cases g
  · cases g
theorem am_sta_inv {i : Nat} (g : am_sta pc i ls st = some (pc', ls', st')) : ∃ x, st = .ref x :: st' ∧ i < ls.length ∧ pc' = pc ∧ ls' = am_st1 ls i (.ref x) := by
  unfold am_sta at g
  split at g
  · split at g
    · next q => cases g; exact ⟨_, rfl, q, rfl, rfl⟩
    · cases g
  · cases g
theorem am_stl_inv {i : Nat} (g : am_stl pc i ls st = some (pc', ls', st')) : ∃ x, st = .long x :: st' ∧ i + 1 < ls.length ∧ pc' = pc ∧ ls' = am_st2 ls i (.long x) := by
  unfold am_stl at g
  split at g
  · split at g
    · next q => cases g; exact ⟨_, rfl, q, rfl, rfl⟩
    · cases g
  · cases g
theorem am_tg_inv {off : Int} {t : Nat} (g : am_tg pc off = some t) : (pc : Int) + off = (t : Int) := by
  unfold am_tg at g
  split at g
  · next q => cases g; omega
  · cases g
theorem am_br_inv {off : Int} {c : Prop} [Decidable c] {r : List Value} (g : am_br pc off ls r c = some (pc', ls', st')) : ∃ t, am_tg pc off = some t ∧ pc' = (if c then t else pc + 3) ∧ ls' = ls ∧ st' = r := by
  unfold am_br at g
  split at g
  · next q => cases g; exact ⟨_, q, rfl, rfl, rfl⟩
  · cases g
theorem am_so_if {off : Int} {x z : Int32} {r : List Value} {cd : ClassFile.Cond} (hx : p.tables.exec = Jvm.exec) (hb : c.code = am_by y) (hd : decode (am_by y) pc = .ok (.if_icmp cd off, 3)) (g : am_if pc off ls r x z cd = some (pc', ls', st')) (kk : W p l e R s m args below meth c H locs cells slots Q (F0 m pc' arr (st'.map (am_cv b h)))) : W p l e R s m args below meth c H locs cells slots Q (F0 m pc arr (.int z :: .int x :: r.map (am_cv b h))) := by
  cases cd
  case eq =>
    obtain ⟨t, ht, rfl, rfl, rfl⟩ := am_br_inv (c := x = z) g
    exact lv_icmp_eq hx hb hd (am_tg_inv ht) (fun q => by rw [if_pos q] at kk; exact kk) (fun q => by rw [if_neg q] at kk; exact kk)
  case ne =>
    obtain ⟨t, ht, rfl, rfl, rfl⟩ := am_br_inv (c := x ≠ z) g
    exact lv_icmp_ne hx hb hd (am_tg_inv ht) (fun q => by rw [if_pos q] at kk; exact kk) (fun q => by rw [if_neg (fun z9 => z9 q)] at kk; exact kk)
  case lt =>
    obtain ⟨t, ht, rfl, rfl, rfl⟩ := am_br_inv (c := x < z) g
    exact lv_icmp_lt hx hb hd (am_tg_inv ht) (fun q => by rw [if_pos q] at kk; exact kk) (fun q => by rw [if_neg q] at kk; exact kk)
  case ge =>
    obtain ⟨t, ht, rfl, rfl, rfl⟩ := am_br_inv (c := z ≤ x) g
    exact lv_icmp_ge hx hb hd (am_tg_inv ht) (fun q => by rw [if_pos q] at kk; exact kk) (fun q => by rw [if_neg q] at kk; exact kk)
  case gt =>
    obtain ⟨t, ht, rfl, rfl, rfl⟩ := am_br_inv (c := z < x) g
    exact lv_icmp_gt hx hb hd (am_tg_inv ht) (fun q => by rw [if_pos q] at kk; exact kk) (fun q => by rw [if_neg q] at kk; exact kk)
  case le =>
    obtain ⟨t, ht, rfl, rfl, rfl⟩ := am_br_inv (c := x ≤ z) g
    exact lv_icmp_le hx hb hd (am_tg_inv ht) (fun q => by rw [if_pos q] at kk; exact kk) (fun q => by rw [if_neg q] at kk; exact kk)
theorem am_so_if0 {off : Int} {x : Int32} {r : List Value} {cd : ClassFile.Cond} (hx : p.tables.exec = Jvm.exec) (hb : c.code = am_by y) (hd : decode (am_by y) pc = .ok (.ifCond cd off, 3)) (g : am_if pc off ls r x 0 cd = some (pc', ls', st')) (kk : W p l e R s m args below meth c H locs cells slots Q (F0 m pc' arr (st'.map (am_cv b h)))) : W p l e R s m args below meth c H locs cells slots Q (F0 m pc arr (.int x :: r.map (am_cv b h))) := by
  cases cd
  case eq =>
    obtain ⟨t, ht, rfl, rfl, rfl⟩ := am_br_inv (c := x = 0) g
    exact lv_if_eq hx hb hd (am_tg_inv ht) (fun q => by rw [if_pos q] at kk; exact kk) (fun q => by rw [if_neg q] at kk; exact kk)
  case ne =>
    obtain ⟨t, ht, rfl, rfl, rfl⟩ := am_br_inv (c := x ≠ 0) g
    exact lv_if_ne hx hb hd (am_tg_inv ht) (fun q => by rw [if_pos q] at kk; exact kk) (fun q => by rw [if_neg (fun z9 => z9 q)] at kk; exact kk)
  case lt =>
    obtain ⟨t, ht, rfl, rfl, rfl⟩ := am_br_inv (c := x < 0) g
    exact lv_if_lt hx hb hd (am_tg_inv ht) (fun q => by rw [if_pos q] at kk; exact kk) (fun q => by rw [if_neg q] at kk; exact kk)
  case ge =>
    obtain ⟨t, ht, rfl, rfl, rfl⟩ := am_br_inv (c := 0 ≤ x) g
    exact lv_if_ge hx hb hd (am_tg_inv ht) (fun q => by rw [if_pos q] at kk; exact kk) (fun q => by rw [if_neg q] at kk; exact kk)
  case gt =>
    obtain ⟨t, ht, rfl, rfl, rfl⟩ := am_br_inv (c := 0 < x) g
    exact lv_if_gt hx hb hd (am_tg_inv ht) (fun q => by rw [if_pos q] at kk; exact kk) (fun q => by rw [if_neg q] at kk; exact kk)
  case le =>
    obtain ⟨t, ht, rfl, rfl, rfl⟩ := am_br_inv (c := x ≤ 0) g
    exact lv_if_le hx hb hd (am_tg_inv ht) (fun q => by rw [if_pos q] at kk; exact kk) (fun q => by rw [if_neg q] at kk; exact kk)
theorem am_E_obj {a ci : Nat} (h1 : am_kd S a = ci) (h2 : ci < 10) : am_E cA h S I J a = .inr (ci, (List.range (am_nf ci)).map (am_fv h S I J a ci)) := by
  unfold am_E; rw [h1, if_pos h2]
theorem am_E_int {a k : Nat} (h1 : am_kd S a = k) (h2 : k = 20 ∨ k = 21 ∨ k = 22) : am_E cA h S I J a = .inl (cA k, am_ln S a, .inl (I a)) := by
  unfold am_E; rw [h1, if_neg (by omega), if_neg (by omega), if_neg (by omega)]
theorem am_E_long {a : Nat} (h1 : am_kd S a = 23) : am_E cA h S I J a = .inl (cA 23, am_ln S a, .inr (.inl (J a))) := by
  unfold am_E; rw [h1, if_neg (by omega), if_pos rfl]
theorem am_E_ref {a k : Nat} (h1 : am_kd S a = k) (h2 : k = 24 ∨ k = 25) : am_E cA h S I J a = .inl (cA k, am_ln S a, .inr (.inr (.inr (.inr (fun j => am_or h (am_rf S a j)))))) := by
  unfold am_E; rw [h1, if_neg (by omega), if_neg (by omega), if_pos h2]
theorem am_so_gf {k : Nat} (Cx : am_Cx p s m args meth c R y) (Wd : am_Wd D cA b h L s S I J H locs) (hd : decode (am_by y) pc = .ok (.getfield k, 3)) (g : am_gf (am_ow y) pc k ls st S I J = some (pc', ls', st')) (kk : ls' = ls → W p l e R s m args below meth c H locs cells slots Q (F0 m pc' arr (st'.map (am_cv b h)))) : W p l e R s m args below meth c H locs cells slots Q (F0 m pc arr (st.map (am_cv b h))) := by
  obtain ⟨hx, hb, -, hown, hts, -, -, -⟩ := Cx
  obtain ⟨hK, hP, -⟩ := Wd
  unfold am_gf at g
  split at g
  case h_2 => cases g
  case h_1 a r =>
  split at g
  case h_2 => cases g
  case h_1 ci j hfl =>
  split at g
  case isFalse => cases g
  case isTrue hc =>
  obtain ⟨hkd, ha0⟩ := hc
  obtain ⟨hci, hj, hlink, hsame⟩ := am_fl_ok hfl
  have hlt : a < S.length := am_kd_lt hkd (by omega)
  have he := am_W_at cA h I J ha0 hlt
  rw [am_E_obj hkd hci] at he
  have hv : ((List.range (am_nf ci)).map (am_fv h S I J a ci))[j]? = some (am_fv h S I J a ci j) := by
    rw [List.getElem?_map, List.getElem?_range hj]; rfl
  have key : W p l e R s m args below meth c H locs cells slots Q (F0 m (pc + 3) arr (am_fv h S I J a ci j :: r.map (am_cv b h))) → W p l e R s m args below meth c H locs cells slots Q (F0 m pc arr ((Value.ref a :: r).map (am_cv b h))) := by
    intro k9
    show W p l e R s m args below meth c H locs cells slots Q (F0 m pc arr (.ref (am_ad b h a) :: r.map (am_cv b h)))
    have ead : am_ad b h a = h + a := by unfold am_ad; rw [if_neg ha0]
    rw [ead]
    exact va_get (D := D) (C := am_cn ci) (T := am_TX ci) (N := am_nf ci) (ref := am_cn ci) hx hb hts (am_lay_in hci) hown hK hP (a - 1) he (am_cl_get hci) j hj (hts _ hlink) (fun z hz => by rw [hsame] at hz; exact hz) hv hd k9
  split at g
  case h_1 e1 =>
    cases g
    apply key
    unfold am_fv; rw [e1]
    exact kk rfl
  case h_2 e1 =>
    cases g
    apply key
    unfold am_fv; rw [e1]
    exact kk rfl
  case h_3 e1 =>
    cases g
    apply key
    unfold am_fv; rw [e1]
    exact kk rfl
  case h_4 e1 e2 e3 =>
    split at g
    case isTrue => cases g
    case isFalse hn =>
    cases g
    apply key
    have ev : am_fv h S I J a ci j = .ref (am_ad b h (am_rf S a j)) := by
      unfold am_fv
      split
      · next q => exact absurd q e1
      · next q => exact absurd q e2
      · next q => exact absurd q e3
      · unfold am_or am_ad; rw [if_neg hn, if_neg hn]; rfl
    rw [ev]
    exact kk rfl
theorem am_ad_ne {a : Nat} (h0 : a ≠ 0) : am_ad b h a = h + a := by unfold am_ad; rw [if_neg h0]
theorem am_so_al {k : Nat} (hk : k = 20 ∨ k = 21 ∨ k = 22) {a : Nat} (hkd : am_kd S a = k) (h0 : a ≠ 0) : (am_W cA h S I J)[a - 1]? = some (h + a, .inl (cA k, am_ln S a, .inl (I a))) := by
  have hlt : a < S.length := am_kd_lt hkd (by omega)
  have he := am_W_at cA h I J h0 hlt
  rw [am_E_int hkd hk] at he
  exact he
set_option maxHeartbeats 4000000 in
theorem am_so_pu {i : Instr} (Cx : am_Cx p s m args meth c R y) (Wd : am_Wd D cA b h L s S I J H locs) (hcell : cells ≤ R.cells) (hslot : slots ≤ R.slots) (hd : decode (am_by y) pc = .ok (i, n)) (hn : am_isw i = true ∨ n = am_iln i) (g : am_pu (am_ow y) pc ls st S I J i = some (pc', ls', st')) (hl : am_LV b h arr (am_ml y) ls)
    (kk : ∀ arr' : Array Slot, am_LV b h arr' (am_ml y) ls' → W p l e R s m args below meth c H locs cells slots Q (F0 m pc' arr' (st'.map (am_cv b h)))) : W p l e R s m args below meth c H locs cells slots Q (F0 m pc arr (st.map (am_cv b h))) := by
  have hx := Cx.1
  have hb := Cx.2.1
  have hml := Cx.2.2.1
  have hown := Cx.2.2.2.1
  have hts := Cx.2.2.2.2.1
  have hfr := Cx.2.2.2.2.2.2.1
  have hlo := Cx.2.2.2.2.2.2.2
  have hK := Wd.1
  have hP := Wd.2.1
  have hS := Wd.2.2.1
  have hX := Wd.2.2.2.1
  have hbh := Wd.2.2.2.2.1
  have hhs := Wd.2.2.2.2.2.1
  have hk0 := Wd.2.2.2.2.2.2.1
  have hL0 := Wd.2.2.2.2.2.2.2.1
  have hsz : arr.size = am_ml y := hl.1
  have hll : ls.length = am_ml y := hl.2.1
  have hbA : ¬ (fun q => h < q) b := by show ¬ h < b; omega
  cases i
  case iconst k => have hn : n = 1 := by simpa [am_isw, am_iln] using hn
                   subst hn; cases g; exact lv_iconst hx hb hd rfl (kk _ hl)
  case bipush k => have hn : n = 2 := by simpa [am_isw, am_iln] using hn
                   subst hn; cases g; exact lv_bipush hx hb hd rfl (kk _ hl)
  case sipush k => have hn : n = 3 := by simpa [am_isw, am_iln] using hn
                   subst hn; cases g; exact lv_sipush hx hb hd rfl (kk _ hl)
  case lconst k => have hn : n = 1 := by simpa [am_isw, am_iln] using hn
                   subst hn; cases g; exact lv_lconst hx hb hd rfl (kk _ hl)
  case ldc2_w k =>
    have hn : n = 3 := by simpa [am_isw, am_iln] using hn
    subst hn
    simp only [am_pu] at g
    split at g
    · next q => cases g; exact lv_ldc2 hx hb hown (hts _ (am_lc_ok q)) hd (kk _ hl)
    · cases g
  case iload_n k =>
    have hn : n = 1 := by simpa [am_isw, am_iln] using hn
    subst hn
    obtain ⟨x, q, rfl, rfl, rfl⟩ := am_ldi_inv g
    exact lv_iload_n hx hb hd rfl (hl.at q) (kk _ hl)
  case iload k =>
    have hn : n = 2 := by simpa [am_isw, am_iln] using hn
    subst hn
    obtain ⟨x, q, rfl, rfl, rfl⟩ := am_ldi_inv g
    exact lv_iload hx hb hd (hl.at q) (kk _ hl)
  case lload_n k =>
    have hn : n = 1 := by simpa [am_isw, am_iln] using hn
    subst hn
    obtain ⟨x, q, rfl, rfl, rfl⟩ := am_ldl_inv g
    exact lv_lload_n hx hb hd rfl (hl.at q) (kk _ hl)
  case lload k =>
    have hn : n = 2 := by simpa [am_isw, am_iln] using hn
    subst hn
    obtain ⟨x, q, rfl, rfl, rfl⟩ := am_ldl_inv g
    exact lv_lload hx hb hd (hl.at q) (kk _ hl)
  case aload_n k =>
    have hn : n = 1 := by simpa [am_isw, am_iln] using hn
    subst hn
    obtain ⟨x, q, rfl, rfl, rfl⟩ := am_lda_inv g
    exact lv_aload_n hx hb hd rfl (hl.at q) (kk _ hl)
  case aload k =>
    have hn : n = 2 := by simpa [am_isw, am_iln] using hn
    subst hn
    obtain ⟨x, q, rfl, rfl, rfl⟩ := am_lda_inv g
    exact lv_aload hx hb hd (hl.at q) (kk _ hl)
  case istore_n k =>
    have hn : n = 1 := by simpa [am_isw, am_iln] using hn
    subst hn
    obtain ⟨x, rfl, q, rfl, rfl⟩ := am_sti_inv g
    exact lv_istore_n hx hb hd rfl hl.has (by omega) rfl (fun arr' h' => kk arr' (hl.st1 (v := .int x) h'))
  case istore k =>
    have hn : n = 2 := by simpa [am_isw, am_iln] using hn
    subst hn
    obtain ⟨x, rfl, q, rfl, rfl⟩ := am_sti_inv g
    exact lv_istore hx hb hd hl.has (by omega) rfl (fun arr' h' => kk arr' (hl.st1 (v := .int x) h'))
  case lstore_n k =>
    have hn : n = 1 := by simpa [am_isw, am_iln] using hn
    subst hn
    obtain ⟨x, rfl, q, rfl, rfl⟩ := am_stl_inv g
    exact lv_lstore_n hx hb hd rfl hl.has (by omega) rfl (fun arr' h' => kk arr' (hl.st2 (v := .long x) h'))
  case lstore k =>
    have hn : n = 2 := by simpa [am_isw, am_iln] using hn
    subst hn
    obtain ⟨x, rfl, q, rfl, rfl⟩ := am_stl_inv g
    exact lv_lstore hx hb hd hl.has (by omega) rfl (fun arr' h' => kk arr' (hl.st2 (v := .long x) h'))
  case astore_n k =>
    have hn : n = 1 := by simpa [am_isw, am_iln] using hn
    subst hn
    obtain ⟨x, rfl, q, rfl, rfl⟩ := am_sta_inv g
    exact lv_astore_n hx hb hd rfl hl.has (by omega) rfl (fun arr' h' => kk arr' (hl.st1 (v := .ref x) h'))
  case astore k =>
    have hn : n = 2 := by simpa [am_isw, am_iln] using hn
    subst hn
    obtain ⟨x, rfl, q, rfl, rfl⟩ := am_sta_inv g
    exact lv_astore hx hb hd hl.has (by omega) rfl (fun arr' h' => kk arr' (hl.st1 (v := .ref x) h'))
  case iinc k v =>
    have hn : n = 3 := by simpa [am_isw, am_iln] using hn
    subst hn
    simp only [am_pu] at g
    split at g
    · next x q =>
      split at g
      · next q2 =>
        cases g
        have hm : (k, Value.int x) ∈ am_lv b h ls := am_lv_mem.mpr ⟨.int x, by
          unfold am_ld at q
          rw [List.getD_eq_getElem?_getD, List.getElem?_eq_getElem q2] at q
          rw [List.getElem?_eq_getElem q2]; exact congrArg some q, rfl⟩
        obtain ⟨k9, hk9⟩ := List.getElem?_of_mem hm
        exact lv_iinc hx hb hd hl.has hk9 rfl (by omega) rfl (fun arr' h' => kk arr' (hl.st1 (v := .int (x + Int32.ofInt v)) h'))
      · cases g
    · cases g
  case iadd => have hn : n = 1 := by simpa [am_isw, am_iln] using hn
               subst hn; obtain ⟨x, z, r, rfl, rfl, rfl, rfl⟩ := am_ii_inv g; exact lv_iadd hx hb hd (kk _ hl)
  case isub => have hn : n = 1 := by simpa [am_isw, am_iln] using hn
               subst hn; obtain ⟨x, z, r, rfl, rfl, rfl, rfl⟩ := am_ii_inv g; exact lv_isub hx hb hd (kk _ hl)
  case imul => have hn : n = 1 := by simpa [am_isw, am_iln] using hn
               subst hn; obtain ⟨x, z, r, rfl, rfl, rfl, rfl⟩ := am_ii_inv g; exact lv_imul hx hb hd (kk _ hl)
  case iand => have hn : n = 1 := by simpa [am_isw, am_iln] using hn
               subst hn; obtain ⟨x, z, r, rfl, rfl, rfl, rfl⟩ := am_ii_inv g; exact lv_iand hx hb hd (kk _ hl)
  case ior => have hn : n = 1 := by simpa [am_isw, am_iln] using hn
              subst hn; obtain ⟨x, z, r, rfl, rfl, rfl, rfl⟩ := am_ii_inv g; exact lv_ior hx hb hd (kk _ hl)
  case ixor => have hn : n = 1 := by simpa [am_isw, am_iln] using hn
               subst hn; obtain ⟨x, z, r, rfl, rfl, rfl, rfl⟩ := am_ii_inv g; exact lv_ixor hx hb hd (kk _ hl)
  case ishl => have hn : n = 1 := by simpa [am_isw, am_iln] using hn
               subst hn; obtain ⟨x, z, r, rfl, rfl, rfl, rfl⟩ := am_ii_inv g; exact lv_ishl hx hb hd (kk _ hl)
  case ishr => have hn : n = 1 := by simpa [am_isw, am_iln] using hn
               subst hn; obtain ⟨x, z, r, rfl, rfl, rfl, rfl⟩ := am_ii_inv g; exact lv_ishr hx hb hd (kk _ hl)
  case iushr => have hn : n = 1 := by simpa [am_isw, am_iln] using hn
                subst hn; obtain ⟨x, z, r, rfl, rfl, rfl, rfl⟩ := am_ii_inv g; exact lv_iushr hx hb hd rfl (kk _ hl)
  case irem =>
    have hn : n = 1 := by simpa [am_isw, am_iln] using hn
    subst hn
    simp only [am_pu] at g
    split at g
    · split at g
      · cases g
      · next q => cases g; exact lv_irem hx hb hd q (kk _ hl)
    · cases g
  case ladd => have hn : n = 1 := by simpa [am_isw, am_iln] using hn
               subst hn; obtain ⟨x, z, r, rfl, rfl, rfl, rfl⟩ := am_ll_inv g; exact lv_ladd hx hb hd (kk _ hl)
  case lsub => have hn : n = 1 := by simpa [am_isw, am_iln] using hn
               subst hn; obtain ⟨x, z, r, rfl, rfl, rfl, rfl⟩ := am_ll_inv g; exact lv_lsub hx hb hd (kk _ hl)
  case lmul => have hn : n = 1 := by simpa [am_isw, am_iln] using hn
               subst hn; obtain ⟨x, z, r, rfl, rfl, rfl, rfl⟩ := am_ll_inv g; exact lv_lmul hx hb hd (kk _ hl)
  case ldiv => have hn : n = 1 := by simpa [am_isw, am_iln] using hn
               subst hn; obtain ⟨x, z, r, q, rfl, rfl, rfl, rfl⟩ := am_lld_inv g; exact lv_ldiv hx hb hd q (kk _ hl)
  case lrem => have hn : n = 1 := by simpa [am_isw, am_iln] using hn
               subst hn; obtain ⟨x, z, r, q, rfl, rfl, rfl, rfl⟩ := am_lld_inv g; exact lv_lrem hx hb hd q (kk _ hl)
  case lcmp =>
    have hn : n = 1 := by simpa [am_isw, am_iln] using hn
    subst hn
    simp only [am_pu] at g
    split at g
    · cases g; exact W.lcmp hx hb hd (kk _ hl)
    · cases g
  case i2l =>
    have hn : n = 1 := by simpa [am_isw, am_iln] using hn
    subst hn
    simp only [am_pu] at g
    split at g
    · cases g; exact lv_i2l hx hb hd rfl (kk _ hl)
    · cases g
  case l2i =>
    have hn : n = 1 := by simpa [am_isw, am_iln] using hn
    subst hn
    simp only [am_pu] at g
    split at g
    · cases g; exact lv_l2i hx hb hd rfl (kk _ hl)
    · cases g
  case i2c =>
    have hn : n = 1 := by simpa [am_isw, am_iln] using hn
    subst hn
    simp only [am_pu] at g
    split at g
    · cases g; exact lv_i2c hx hb hd rfl (kk _ hl)
    · cases g
  case dup =>
    have hn : n = 1 := by simpa [am_isw, am_iln] using hn
    subst hn
    simp only [am_pu] at g
    split at g
    · cases g; exact lv_dup hx hb hd rfl (kk _ hl)
    · cases g; exact lv_dup hx hb hd rfl (kk _ hl)
    · cases g
  case dup2 =>
    have hn : n = 1 := by simpa [am_isw, am_iln] using hn
    subst hn
    simp only [am_pu] at g
    split at g
    · cases g; exact lv_dup2_11 hx hb hd rfl rfl (kk _ hl)
    · cases g
  case goto o =>
    have hn : n = 3 := by simpa [am_isw, am_iln] using hn
    subst hn
    simp only [am_pu] at g
    split at g
    · next q => cases g; exact lv_goto hx hb hd (am_tg_inv q) (kk _ hl)
    · cases g
  case ifCond cd o =>
    have hn : n = 3 := by simpa [am_isw, am_iln] using hn
    subst hn
    simp only [am_pu] at g
    split at g
    · have e9 : ls' = ls := by cases cd <;> (obtain ⟨_, _, _, q, _⟩ := am_br_inv g; exact q)
      exact am_so_if0 hx hb hd g (kk _ (by rw [e9]; exact hl))
    · cases g
  case if_icmp cd o =>
    have hn : n = 3 := by simpa [am_isw, am_iln] using hn
    subst hn
    simp only [am_pu] at g
    split at g
    · have e9 : ls' = ls := by cases cd <;> (obtain ⟨_, _, _, q, _⟩ := am_br_inv g; exact q)
      exact am_so_if hx hb hd g (kk _ (by rw [e9]; exact hl))
    · cases g
  case tableswitch df lo hi os =>
    simp only [am_pu, am_tsw] at g
    split at g
    · split at g
      · next q =>
        split at g
        · next q2 => cases g; exact lv_tableOut hx hb hd q (am_tg_inv q2) (kk _ hl)
        · cases g
      · next q =>
        split at g
        · next q1 =>
          split at g
          · next q2 => cases g; exact lv_tableIn hx hb hd (fun z => q (Or.inl z)) (fun z => q (Or.inr z)) q1 (am_tg_inv q2) (kk _ hl)
          · cases g
        · cases g
    · cases g
  case getfield k =>
    have hn : n = 3 := by simpa [am_isw, am_iln] using hn
    subst hn
    exact am_so_gf Cx Wd hd g (fun e9 => kk _ (by rw [e9]; exact hl))
  case iaload =>
    have hn : n = 1 := by simpa [am_isw, am_iln] using hn
    subst hn
    simp only [am_pu, am_al] at g
    split at g
    · next i9 a r =>
      split at g
      · next q =>
        cases g
        obtain ⟨q1, q2⟩ := q
        by_cases h0 : a = 0
        · subst h0
          rw [hL0] at q2
          exact va_sld hx hb hX (by omega) hbA hS (vp_in_iff.mpr q2) hd (kk _ hl)
        · show W p l e R s m args below meth c H locs cells slots Q (F0 m pc arr (.int i9 :: .ref (am_ad b h a) :: r.map (am_cv b h)))
          rw [am_ad_ne h0]
          exact va_iald hx hb hK hP (a - 1) 0 (am_so_al (Or.inl rfl) q1 h0) rfl (vp_in_iff.mpr q2) hd (kk _ hl)
      · cases g
    · cases g
  case baload =>
    have hn : n = 1 := by simpa [am_isw, am_iln] using hn
    subst hn
    simp only [am_pu, am_al] at g
    split at g
    · next i9 a r =>
      split at g
      · next q =>
        cases g
        obtain ⟨q1, q2⟩ := q
        have h0 : a ≠ 0 := fun q => by subst q; rw [hk0] at q1; cases q1
        show W p l e R s m args below meth c H locs cells slots Q (F0 m pc arr (.int i9 :: .ref (am_ad b h a) :: r.map (am_cv b h)))
        rw [am_ad_ne h0]
        exact va_zald hx hb hK hP (a - 1) 1 (am_so_al (Or.inr (Or.inl rfl)) q1 h0) rfl (vp_in_iff.mpr q2) hd (kk _ hl)
      · cases g
    · cases g
  case caload =>
    have hn : n = 1 := by simpa [am_isw, am_iln] using hn
    subst hn
    simp only [am_pu, am_al] at g
    split at g
    · next i9 a r =>
      split at g
      · next q =>
        cases g
        obtain ⟨q1, q2⟩ := q
        have h0 : a ≠ 0 := fun q => by subst q; rw [hk0] at q1; cases q1
        show W p l e R s m args below meth c H locs cells slots Q (F0 m pc arr (.int i9 :: .ref (am_ad b h a) :: r.map (am_cv b h)))
        rw [am_ad_ne h0]
        exact va_cald hx hb hK hP (a - 1) 2 (am_so_al (Or.inr (Or.inr rfl)) q1 h0) rfl (vp_in_iff.mpr q2) hd (kk _ hl)
      · cases g
    · cases g
  case laload =>
    have hn : n = 1 := by simpa [am_isw, am_iln] using hn
    subst hn
    simp only [am_pu, am_jl] at g
    split at g
    · next i9 a r =>
      split at g
      · next q =>
        cases g
        obtain ⟨q1, q2⟩ := q
        have h0 : a ≠ 0 := fun q => by subst q; rw [hk0] at q1; cases q1
        have hlt : a < S.length := am_kd_lt q1 (by omega)
        have he := am_W_at cA h I J h0 hlt
        rw [am_E_long q1] at he
        show W p l e R s m args below meth c H locs cells slots Q (F0 m pc arr (.int i9 :: .ref (am_ad b h a) :: r.map (am_cv b h)))
        rw [am_ad_ne h0]
        exact va_lald hx hb hK hP (a - 1) 3 he rfl (vp_in_iff.mpr q2) hd (kk _ hl)
      · cases g
    · cases g
  case aaload =>
    have hn : n = 1 := by simpa [am_isw, am_iln] using hn
    subst hn
    simp only [am_pu, am_ql] at g
    split at g
    · next i9 a r =>
      split at g
      · next q =>
        cases g
        obtain ⟨q1, q2, q3⟩ := q
        have h0 : a ≠ 0 := fun q => by subst q; rw [hk0] at q1; omega
        have hlt : a < S.length := am_kd_lt (k := am_kd S a) rfl (by omega)
        have he := am_W_at cA h I J h0 hlt
        rw [am_E_ref rfl q1] at he
        show W p l e R s m args below meth c H locs cells slots Q (F0 m pc arr (.int i9 :: .ref (am_ad b h a) :: r.map (am_cv b h)))
        rw [am_ad_ne h0]
        have hvv : vp_in i9 (am_ln S a) := vp_in_iff.mpr q2
        have hlt9 : i9.toNatClampNeg < am_ln S a := Nat.not_le.mp fun q => hvv (Or.inr q)
        have key : ∀ (t0 : Nat) (ty : FieldType), (am_tys cA)[t0]? = some (cA (am_kd S a), ty) → ty.isReference = true → W p l e R s m args below meth c H locs cells slots Q (F0 m pc arr (.int i9 :: .ref (h + a) :: r.map (am_cv b h))) := by
          intro t0 ty ht hr
          refine W.aald (v := va_rf (am_or h (am_rf S a i9.toNatClampNeg))) (ty := ty) hx hb (hP (a - 1) _ he) ((hK.2 t0 _ ht).1 _ (fun j => va_rf (am_or h (am_rf S a j)))) hr (fun q => by cases q) (by show ¬ (i9 < 0 ∨ (arrV _ _ _).slots.size ≤ _); rw [arrV_size]; exact hvv) (by show (arrV _ _ _).slots[_]? = _; rw [arrV_read _ _ hlt9]) rfl rfl hd ?_
          have ev : va_rf (am_or h (am_rf S a i9.toNatClampNeg)) = .ref (am_ad b h (am_rf S a i9.toNatClampNeg)) := by
            unfold am_or am_ad; rw [if_neg q3, if_neg q3]; rfl
          rw [ev]
          exact kk _ hl
        rcases q1 with q1 | q1
        · exact key 4 (.object "ArborescenceFinder$State") (by rw [q1]; rfl) rfl
        · exact key 5 (.array .long) (by rw [q1]; rfl) rfl
      · cases g
    · cases g
  case arraylength =>
    have hn : n = 1 := by simpa [am_isw, am_iln] using hn
    subst hn
    simp only [am_pu] at g
    split at g
    · next a r =>
      split at g
      · next q =>
        cases g
        by_cases h0 : a = 0
        · subst h0
          rw [hL0] at kk
          exact va_slen (b := b) hx hb hX (by omega) hbA hS hd (kk _ hl)
        · show W p l e R s m args below meth c H locs cells slots Q (F0 m pc arr (.ref (am_ad b h a) :: r.map (am_cv b h)))
          rw [am_ad_ne h0]
          exact va_alen hx hb hK hP (a - 1) 0 (am_so_al (Or.inl rfl) q h0) rfl rfl hd (kk _ hl)
      · cases g
    · cases g
  case invokespecial k =>
    have hn : n = 3 := by simpa [am_isw, am_iln] using hn
    subst hn
    simp only [am_pu] at g
    split at g
    · next a r =>
      split at g
      · next q =>
        cases g
        obtain ⟨p9, i9, s9, q9⟩ := am_iv_ok q.1
        have q9 := of_decide_eq_true q9
        refine W.objInit hx hb hown (hts _ (am_in (List.mem_of_getElem? q9) rfl)) (hts _ (am_in am_w_oi1 rfl)) (hts _ (am_in am_w_oi2 rfl)) rfl (hsz.trans hml.symm) rfl hd hfr ?_ (kk _ hl)
        have h8 : (st'.map fun v => v.category).sum ≤ 8 := q.2
        have h9 : ((st'.map (am_cv b h)).map fun v => v.category).sum = (st'.map fun v => v.category).sum := by
          rw [List.map_map]; congr 1; apply List.map_congr_left; intro v _; exact am_cat b h v
        show 2 * 0 + _ + 12 ≤ _
        rw [h9]; omega
      · cases g
    · cases g
  case invokestatic k =>
    have hn : n = 3 := by simpa [am_isw, am_iln] using hn
    subst hn
    simp only [am_pu] at g
    split at g
    · next z x r =>
      split at g
      · next q =>
        cases g
        obtain ⟨p9, i9, s9, q9⟩ := am_iv_ok q.1
        have q9 := of_decide_eq_true q9
        have h8 : (r.map fun v => v.category).sum ≤ 8 := q.2
        have h9 : ((r.map (am_cv b h)).map fun v => v.category).sum = (r.map fun v => v.category).sum := by
          rw [List.map_map]; congr 1; apply List.map_congr_left; intro v _; exact am_cat b h v
        exact va_mmax hx hb (hml.trans hsz.symm) hown (hts _ (am_in (List.mem_of_getElem? q9) rfl)) (hts _ (am_in am_w_mx1 rfl)) (hts _ (am_in am_w_mx2 rfl)) (hts _ (am_in am_w_mx3 rfl)) hfr (by rw [h9]; omega) hcell hslot hd (kk _ hl)
      · cases g
    · cases g
  all_goals (exfalso; revert g; simp [am_pu])
end AMP
end
section
/-! steps that write or make cells -/
def am_nS (S : am_S) : Nat := (S.map (fun q => q.2.1)).sum
theorem am_tyk : ((List.range 10).all fun i => (List.range (am_nf i)).all fun k => match am_tyX i k with | .int => true | .boolean => true | .long => true | .object _ => true | .array _ => true | _ => false) = true := by decide +kernel
theorem am_sum_set {l : List Nat} : ∀ {a v : Nat}, l[a]? = some v → (l.set a v).sum = l.sum := by
  intro a v h
  have e : l.set a v = l := by
    apply List.ext_getElem?
    intro i
    rw [List.getElem?_set]
    by_cases g : a = i
    · subst g
      have := (List.getElem?_eq_some_iff.mp h).1
      rw [if_pos rfl, if_pos this, h]
    · rw [if_neg g]
  rw [e]
theorem am_nS_sr {S : am_S} {a k r : Nat} (h : a < S.length) : am_nS (am_sr S a k r) = am_nS S := by
  unfold am_nS am_sr
  rw [List.map_set]
  apply am_sum_set
  rw [List.getElem?_map, List.getElem?_eq_getElem h]
  show some _ = some _
  unfold am_ln
  rw [List.getD_eq_getElem?_getD, List.getElem?_eq_getElem h]; rfl
theorem am_nS_app {S T : am_S} : am_nS (S ++ T) = am_nS S + am_nS T := by unfold am_nS; rw [List.map_append, List.sum_append]
section AMM
variable {p : Program} {l : Launch} {e : Env} {R : Room} {s : State} {m : MethodId} {args : Array Value} {below : List Frame} {meth : Method} {c : Code} {H : Heap} {locs : List Loc} {cells slots : Nat} {Q : State → Prop}
variable {cA : Nat → ClassId} {D : va_G} {b h L y pc n n0 : Nat} {ls ls' : am_L} {st st' : List Value} {S S' : am_S} {I I' : am_I} {J J' : am_J} {arr : Array Slot} {pc' : Nat}
theorem am_size {g : JFrame} (k : H.size ≤ s.heap.size + cells → W p l e R s m args below meth c H locs cells slots Q g) : W p l e R s m args below meth c H locs cells slots Q g :=
  fun T hT X => k (by rw [← hT]; exact X.same.2.2.1) T hT X
/-- one cell rewritten -/
theorem am_Wd_put {a : Nat} {E : va_E} {H1 : Heap} {locs1 : List Loc} (Wd : am_Wd D cA b h L s S I J H locs) (h0 : a ≠ 0) (hl : a < S.length) (hS : S'.length = S.length) (ho : ∀ a', a' ≠ a → (am_kd S' a' = am_kd S a' ∧ am_ln S' a' = am_ln S a' ∧ am_rf S' a' = am_rf S a') ∧ I' a' = I a' ∧ J' a' = J a')
    (hE : am_E cA h S' I' J' a = E) (hP1 : va_P D am_cl ((am_W cA h S I J).set (a - 1) (h + a, E)) H1) (hS1 : va_S (fun q => h < q) s.heap H1 locs1) : am_Wd D cA b h L s S' I' J' H1 locs1 := by
  obtain ⟨hK, -, -, hX, hb, hs, hk, hL, hO1, hO2, hO3⟩ := Wd
  have e0 := ho 0 (Ne.symm h0)
  rw [← hE, am_W_set cA h h0 hl hS (fun a' ha' => am_E_congr cA h (ho a' ha').1 (ho a' ha').2.1 (ho a' ha').2.2)] at hP1
  exact ⟨hK, hP1, hS1, by rw [e0.2.1]; exact hX, hb, hs, by rw [e0.1.1]; exact hk, by rw [e0.1.2.1]; exact hL, hO1, hO2, hO3⟩
theorem am_new_q {q : Nat} {E : va_E} {H1 : Heap} (hl : 0 < S.length) (hP : va_P D am_cl (am_W cA h S I J ++ [(q, E)]) H1) (hD : va_D (fun q => h < q) (am_W cA h S I J ++ [(q, E)])) (hz : H1.size ≤ h + S.length + 1) : q = h + S.length := by
  have hlast : (am_W cA h S I J ++ [(q, E)])[S.length - 1]? = some (q, E) := by
    rw [List.getElem?_append_right (by rw [am_W_len]; omega), am_W_len]; simp
  have h1 : q < H1.size := (hP _ _ hlast).lt
  have h2 : h < q := hD.2 _ _ hlast
  rcases Nat.lt_or_ge q (h + S.length) with g | g
  · exfalso
    have hi : q - h - 1 < S.length - 1 := by omega
    have h3 : (am_W cA h S I J ++ [(q, E)])[q - h - 1]? = some (h + (q - h - 1 + 1), am_E cA h S I J (q - h - 1 + 1)) := by
      rw [List.getElem?_append_left (by rw [am_W_len]; exact hi), am_W_get, if_pos hi]
    have := hD.1 _ _ _ _ h3 hlast (by show h + (q - h - 1 + 1) = q; omega)
    omega
  · omega
/-- a cell made -/
theorem am_Wd_new {q : Nat} {E : va_E} {H1 : Heap} {locs1 : List Loc} {cl : Nat × Nat × (Nat → Nat)} (Wd : am_Wd D cA b h L s S I J H locs) (hE : am_E cA h (S ++ [cl]) (am_row I S.length (fun _ => 0)) (am_row J S.length (fun _ => 0)) S.length = E) (hP : va_P D am_cl (am_W cA h S I J ++ [(q, E)]) H1) (hD : va_D (fun q => h < q) (am_W cA h S I J ++ [(q, E)])) (hz : H1.size ≤ h + S.length + 1) (hS1 : va_S (fun q => h < q) s.heap H1 locs1) :
    q = h + S.length ∧ am_Wd D cA b h L s (S ++ [cl]) (am_row I S.length (fun _ => 0)) (am_row J S.length (fun _ => 0)) H1 locs1 := by
  obtain ⟨hK, -, -, hX, hb, hs, hk, hL, hO1, hO2, hO3⟩ := Wd
  have hl : 0 < S.length := am_kd_lt hk (by decide)
  have hq := am_new_q hl hP hD hz
  subst hq
  refine ⟨rfl, hK, ?_, hS1, ?_, hb, hs, ?_, ?_, hO1, hO2, hO3⟩
  · rw [← hE, am_W_app cA h hl (fun a ha => am_E_congr cA h (am_kd_app ha) (am_row_ne (by omega)) (am_row_ne (by omega)))] at hP
    exact hP
  · rw [am_row_ne (by omega)]; exact hX
  · rw [(am_kd_app hl).1]; exact hk
  · rw [(am_kd_app hl).2.1]; exact hL
theorem am_ini_in {i : Nat} (hi : i < 11) : Cond.initialized (am_cn i) ∈ am_tb := am_in (List.mem_of_getElem? (of_decide_eq_true (List.all_eq_true.mp am_ini_ok i (List.mem_range.mpr hi)))) rfl
theorem am_ins_in {i : Nat} (hi : i < 10) : Cond.instantiable (am_cn i) (am_nf i) ∈ am_tb := am_in (List.mem_of_getElem? (of_decide_eq_true (List.all_eq_true.mp am_ins_ok i (List.mem_range.mpr hi)))) rfl
theorem am_fv_une {a j a' ci : Nat} {x : Int32} (g : a' ≠ j) : am_fv h S (am_up I a j x) J a ci a' = am_fv h S I J a ci a' := by
  unfold am_fv
  rw [am_up_eq]
  simp only [if_neg g]
theorem am_fv_ueq {a j ci : Nat} {x : Int32} (g : am_fty ci j = 0 ∨ am_fty ci j = 1) : am_fv h S (am_up I a j x) J a ci j = .int x := by
  unfold am_fv
  rw [am_up_eq]
  rcases g with g | g <;> rw [g] <;> simp
/-- a field put: the object's row and its own list of values -/
theorem am_so_put {k ci j a : Nat} {v : Value} {r : List Value} {ty : FieldType} (Cx : am_Cx p s m args meth c R y) (Wd : am_Wd D cA b h L s S I J H locs) (hfl : am_fl (am_ow y) k = some (ci, j)) (hfo : am_fo y ci j = true) (hkd : am_kd S a = ci) (h0 : a ≠ 0) (hty : am_tyX ci j = ty) (hn : narrow ty v = v) (hfit : fits ty v = true) (hd : decode (am_by y) pc = .ok (.putfield k, 3))
    (hS : S'.length = S.length) (ho : ∀ a', a' ≠ a → (am_kd S' a' = am_kd S a' ∧ am_ln S' a' = am_ln S a' ∧ am_rf S' a' = am_rf S a') ∧ I' a' = I a' ∧ J' a' = J a') (hkd' : am_kd S' a = ci) (hfv : ∀ i, am_fv h S' I' J' a ci i = if i = j then v else am_fv h S I J a ci i)
    (kk : ∀ (H1 : Heap) (locs1 : List Loc), am_Wd D cA b h L s S' I' J' H1 locs1 → W p l e R s m args below meth c H1 locs1 cells slots Q (F0 m (pc + 3) arr r)) : W p l e R s m args below meth c H locs cells slots Q (F0 m pc arr (v :: .ref (h + a) :: r)) := by
  obtain ⟨hx, hb, -, hown, hts, hini, -, -⟩ := Cx
  have hK := Wd.1
  have hP := Wd.2.1
  have hS0 := Wd.2.2.1
  obtain ⟨hci, hj, hlink, hsame⟩ := am_fl_ok hfl
  have hlt : a < S.length := am_kd_lt hkd (by omega)
  have he := am_W_at cA h I J h0 hlt
  rw [am_E_obj hkd hci] at he
  have hE : am_E cA h S' I' J' a = .inr (ci, ((List.range (am_nf ci)).map (am_fv h S I J a ci)).set j v) := by
    rw [am_E_obj hkd' hci, am_map_set]
    congr 2
    apply List.map_congr_left
    intro i _
    exact hfv i
  have htyp := am_tyX_ok ci hci j hj
  rw [hty] at htyp
  have k2 : ∀ (H1 : Heap) (locs1 : List Loc), va_P D am_cl ((am_W cA h S I J).set (a - 1) (h + a, .inr (ci, ((List.range (am_nf ci)).map (am_fv h S I J a ci)).set j v))) H1 → va_D (fun q => h < q) ((am_W cA h S I J).set (a - 1) (h + a, .inr (ci, ((List.range (am_nf ci)).map (am_fv h S I J a ci)).set j v))) → va_S (fun q => h < q) s.heap H1 locs1 → W p l e R s m args below meth c H1 locs1 cells slots Q (F0 m (pc + 3) arr r) :=
    fun H1 locs1 g1 _ g3 => kk H1 locs1 (am_Wd_put Wd h0 hlt hS ho hE g1 g3)
  cases hf : (am_TX ci j).2.2.2 with
  | false =>
    exact va_put (D := D) (C := am_cn ci) (T := am_TX ci) (N := am_nf ci) (ref := am_cn ci) hx hb hts (am_lay_in hci) (am_tyX ci) (am_tyX_ok ci hci) (am_nmX ci hci) hown hK hP (am_W_D cA h S I J) hS0 (a - 1) he (am_cl_get hci) j hj (hts _ hlink) (fun z hz => by rw [hsame] at hz; exact hz) hf htyp hn hfit (by simpa using hj) hd k2
  | true =>
    unfold am_fo at hfo
    rw [hf] at hfo
    simp only [Bool.not_true, Bool.false_or, Bool.and_eq_true, beq_iff_eq] at hfo
    exact va_putF (D := D) (C := am_cn ci) (T := am_TX ci) (N := am_nf ci) (ref := am_cn ci) hx hb hts (am_lay_in hci) (am_tyX ci) (am_tyX_ok ci hci) (am_nmX ci hci) hown hK hP (am_W_D cA h S I J) hS0 (a - 1) he (am_cl_get hci) j hj (hts _ hlink) (fun z hz => by rw [hsame] at hz; exact hz) hf (hini hfo.1) (by rw [hsame, hfo.2]) htyp hn hfit (by simpa using hj) hd k2
theorem am_fty_of {ci j : Nat} : (am_fty ci j = 0 → am_tyX ci j = .int) ∧ (am_fty ci j = 1 → am_tyX ci j = .boolean) ∧ (am_fty ci j = 2 → am_tyX ci j = .long) := by
  unfold am_fty
  cases am_tyX ci j <;> simp
theorem am_fty_ref {ci j : Nat} (hci : ci < 10) (hj : j < am_nf ci) (h3 : am_fty ci j = 3) : ∃ ty, am_tyX ci j = ty ∧ (∀ a : Nat, narrow ty (.ref a) = .ref a ∧ fits ty (.ref a) = true) ∧ defaultValue ty = .null := by
  have h1 := List.all_eq_true.mp (List.all_eq_true.mp am_tyk ci (List.mem_range.mpr hci)) j (List.mem_range.mpr hj)
  refine ⟨_, rfl, ?_⟩
  unfold am_fty at h3
  revert h1 h3
  cases am_tyX ci j <;> simp [narrow, fits, defaultValue]
theorem am_bool_nar {x : Int32} (h : x = 0 ∨ x = 1) : narrow .boolean (.int x) = .int x ∧ fits .boolean (.int x) = true ∧ vp_nar .boolean x = x := by
  rcases h with rfl | rfl <;> exact ⟨by decide, by decide, by decide⟩
theorem am_char_nar {x : Int32} (h : (x.toUInt32 % 65536).toInt32 = x) : vp_nar .char x = x := by
  have := pk_vc x
  rw [h] at this
  exact this
set_option maxHeartbeats 4000000 in
theorem am_so_as {k t0 : Nat} {x : Int32} {a : Nat} {i : Int32} {r : List Value} (Wd : am_Wd D cA b h L s S I J H locs) (hk : k = 20 ∨ k = 21 ∨ k = 22) (hkd : am_kd S a = k) (h0 : a ≠ 0)
    (kk : ∀ (H1 : Heap) (locs1 : List Loc), am_Wd D cA b h L s S (am_up I a i.toNatClampNeg x) J H1 locs1 → W p l e R s m args below meth c H1 locs1 cells slots Q (F0 m (pc + 1) arr r)) :
    ∀ (H1 : Heap) (locs1 : List Loc), va_P D am_cl ((am_W cA h S I J).set (a - 1) (h + a, .inl (cA k, am_ln S a, .inl (upd (I a) i.toNatClampNeg x)))) H1 → va_D (fun q => h < q) ((am_W cA h S I J).set (a - 1) (h + a, .inl (cA k, am_ln S a, .inl (upd (I a) i.toNatClampNeg x)))) → va_S (fun q => h < q) s.heap H1 locs1 → W p l e R s m args below meth c H1 locs1 cells slots Q (F0 m (pc + 1) arr r) := by
  intro H1 locs1 g1 _ g3
  refine kk H1 locs1 (am_Wd_put Wd h0 (am_kd_lt hkd (by omega)) rfl (fun a' ha' => ⟨⟨rfl, rfl, rfl⟩, am_up_ne ha', rfl⟩) ?_ g1 g3)
  rw [am_E_int hkd hk, am_up_eq]
  rfl
theorem am_as_inv {k : Nat} (g : am_as ls st S I J k = some (ls', st', S', I', J')) : ∃ x i a, st = .int x :: .int i :: .ref a :: st' ∧ am_kd S a = k ∧ a ≠ 0 ∧ (0 ≤ i.toInt ∧ i.toInt < (am_ln S a : Int)) ∧ ls' = ls ∧ S' = S ∧ I' = am_up I a i.toNatClampNeg x ∧ J' = J := by
  unfold am_as at g
  split at g
  · split at g
    · next q => cases g; exact ⟨_, _, _, rfl, q.1, q.2.1, q.2.2, rfl, rfl, rfl, rfl⟩
    · cases g
  · cases g
set_option maxHeartbeats 4000000 in
theorem am_so_me {i : Instr} (Cx : am_Cx p s m args meth c R y) (Wd : am_Wd D cA b h L s S I J H locs) (hs0 : s.heap.size = h + n0) (hn0 : n0 + cells = S.length) (hcell : cells + (S'.length - S.length) ≤ R.cells) (hslot : slots + (am_nS S' - am_nS S) ≤ R.slots) (hd : decode (am_by y) pc = .ok (i, n)) (hn : am_isw i = true ∨ n = am_iln i) (hsz : arr.size = am_ml y) (g : am_me y (am_ow y) ls st S I J i = some (ls', st', S', I', J'))
    (kk : ∀ (H1 : Heap) (locs1 : List Loc), ls' = ls → am_Wd D cA b h L s S' I' J' H1 locs1 → W p l e R s m args below meth c H1 locs1 (cells + (S'.length - S.length)) (slots + (am_nS S' - am_nS S)) Q (F0 m (pc + n) arr (st'.map (am_cv b h)))) : W p l e R s m args below meth c H locs cells slots Q (F0 m pc arr (st.map (am_cv b h))) := by
  have hx := Cx.1
  have hb := Cx.2.1
  have hml := Cx.2.2.1
  have hown := Cx.2.2.2.1
  have hts := Cx.2.2.2.2.1
  have hfr := Cx.2.2.2.2.2.2.1
  have hlo := Cx.2.2.2.2.2.2.2
  have hK := Wd.1
  have hP := Wd.2.1
  have hS := Wd.2.2.1
  have hhs := Wd.2.2.2.2.2.1
  have hk0 := Wd.2.2.2.2.2.2.1
  have hl0 : 0 < S.length := am_kd_lt hk0 (by decide)
  have hA : ∀ q, s.heap.size ≤ q → (fun q => h < q) q := fun q hq => by show h < q; omega
  have hD := am_W_D cA h S I J
  have hlen1 : ∀ cl : Nat × Nat × (Nat → Nat), (S ++ [cl]).length - S.length = 1 := fun cl => by rw [List.length_append]; simp
  have hns1 : ∀ cl : Nat × Nat × (Nat → Nat), am_nS (S ++ [cl]) - am_nS S = cl.2.1 := fun cl => by rw [am_nS_app]; simp [am_nS]
  cases i
  case putfield k =>
    have hn : n = 3 := by simpa [am_isw, am_iln] using hn
    subst hn
    simp only [am_me, am_pf] at g
    split at g
    case h_2 => cases g
    case h_1 ci j hfl =>
    obtain ⟨hci, hj, -, -⟩ := am_fl_ok hfl
    split at g
    · next x a r =>
      split at g
      · next q =>
        cases g
        obtain ⟨q1, q2, q3, q4⟩ := q
        show W p l e R s m args below meth c H locs cells slots Q (F0 m pc arr (.int x :: .ref (am_ad b h a) :: st'.map (am_cv b h)))
        rw [am_ad_ne q3]
        have hfv : ∀ i, am_fv h S (am_up I a j x) J a ci i = if i = j then .int x else am_fv h S I J a ci i := by
          intro i
          by_cases e : i = j
          · subst e
            rw [if_pos rfl]
            exact am_fv_ueq (q4.elim Or.inl (fun q => Or.inr q.1))
          · rw [if_neg e]
            exact am_fv_une e
        have k3 : ∀ (H1 : Heap) (locs1 : List Loc), am_Wd D cA b h L s S (am_up I a j x) J H1 locs1 → W p l e R s m args below meth c H1 locs1 cells slots Q (F0 m (pc + 3) arr (st'.map (am_cv b h))) := fun H1 locs1 w => by
          have := kk H1 locs1 rfl w
          rw [Nat.sub_self, Nat.sub_self] at this
          exact this
        rcases q4 with q | q
        · exact am_so_put (ty := .int) Cx Wd hfl q1 q2 q3 (am_fty_of.1 q) rfl rfl hd rfl (fun a' ha' => ⟨⟨rfl, rfl, rfl⟩, am_up_ne ha', rfl⟩) q2 hfv k3
        · exact am_so_put (ty := .boolean) Cx Wd hfl q1 q2 q3 (am_fty_of.2.1 q.1) (am_bool_nar q.2).1 (am_bool_nar q.2).2.1 hd rfl (fun a' ha' => ⟨⟨rfl, rfl, rfl⟩, am_up_ne ha', rfl⟩) q2 hfv k3
      · cases g
    · next x a r =>
      split at g
      · next q =>
        cases g
        obtain ⟨q1, q2, q3, q4⟩ := q
        show W p l e R s m args below meth c H locs cells slots Q (F0 m pc arr (.long x :: .ref (am_ad b h a) :: st'.map (am_cv b h)))
        rw [am_ad_ne q3]
        have hfv : ∀ i, am_fv h S I (am_up J a j x) a ci i = if i = j then .long x else am_fv h S I J a ci i := by
          intro i
          unfold am_fv
          rw [am_up_eq]
          by_cases e : i = j
          · subst e
            rw [if_pos rfl, q4]
            simp
          · simp only [if_neg e]
        refine am_so_put (ty := .long) Cx Wd hfl q1 q2 q3 (am_fty_of.2.2 q4) rfl rfl hd rfl (fun a' ha' => ⟨⟨rfl, rfl, rfl⟩, rfl, am_up_ne ha'⟩) q2 hfv (fun H1 locs1 w => ?_)
        have := kk H1 locs1 rfl w
        rw [Nat.sub_self, Nat.sub_self] at this
        exact this
      · cases g
    · next v a r =>
      split at g
      · next q =>
        cases g
        obtain ⟨q1, q2, q3, q4, q5, q6⟩ := q
        show W p l e R s m args below meth c H locs cells slots Q (F0 m pc arr (.ref (am_ad b h v) :: .ref (am_ad b h a) :: st'.map (am_cv b h)))
        rw [am_ad_ne q3, am_ad_ne q5]
        have hlt : a < S.length := am_kd_lt q2 (by omega)
        have hfv : ∀ i, am_fv h (am_sr S a j v) I J a ci i = if i = j then .ref (h + v) else am_fv h S I J a ci i := by
          intro i
          unfold am_fv
          rw [(am_sr_same hlt).2.2]
          by_cases e : i = j
          · subst e
            rw [if_pos rfl, q4]
            simp [am_or, q5, va_rf]
          · simp only [if_neg e]
        obtain ⟨ty, t1, t2, -⟩ := am_fty_ref hci hj q4
        refine am_so_put (ty := ty) Cx Wd hfl q1 q2 q3 t1 (t2 _).1 (t2 _).2 hd am_sr_len (fun a' ha' => ⟨am_sr_other ha', rfl, rfl⟩) (by rw [(am_sr_same hlt).1]; exact q2) hfv (fun H1 locs1 w => ?_)
        have := kk H1 locs1 rfl w
        rw [am_sr_len, am_nS_sr hlt, Nat.sub_self, Nat.sub_self] at this
        exact this
      · cases g
    · cases g
  case iastore =>
    have hn : n = 1 := by simpa [am_isw, am_iln] using hn
    subst hn
    obtain ⟨x, i9, a, rfl, q1, q2, q3, rfl, rfl, rfl, rfl⟩ := am_as_inv g
    show W p l e R s m args below meth c H locs cells slots Q (F0 m pc arr (.int x :: .int i9 :: .ref (am_ad b h a) :: st'.map (am_cv b h)))
    rw [am_ad_ne q2]
    refine va_iast hx hb hK hP hD hS (a - 1) 0 (am_so_al (Or.inl rfl) q1 q2) rfl (vp_in_iff.mpr q3) hd (am_so_as (t0 := 0) Wd (Or.inl rfl) q1 q2 (fun H1 locs1 w => ?_))
    have := kk H1 locs1 rfl w
    rw [Nat.sub_self, Nat.sub_self] at this
    exact this
  case bastore =>
    have hn : n = 1 := by simpa [am_isw, am_iln] using hn
    subst hn
    simp only [am_me] at g
    split at g
    · next x0 r0 =>
      split at g
      · next q0 =>
        obtain ⟨x, i9, a, e9, q1, q2, q3, rfl, rfl, rfl, rfl⟩ := am_as_inv g
        cases e9
        show W p l e R s m args below meth c H locs cells slots Q (F0 m pc arr (.int x0 :: .int i9 :: .ref (am_ad b h a) :: st'.map (am_cv b h)))
        rw [am_ad_ne q2]
        have hv := (am_bool_nar q0).2.2
        have key := am_so_as (p := p) (l := l) (e := e) (R := R) (m := m) (args := args) (below := below) (meth := meth) (c := c) (cells := cells) (slots := slots) (Q := Q) (pc := pc) (arr := arr) (t0 := 0) (x := x0) (i := i9) (r := st'.map (am_cv b h)) Wd (Or.inr (Or.inl rfl)) q1 q2 (fun H1 locs1 w => by
          have := kk H1 locs1 rfl w
          rw [Nat.sub_self, Nat.sub_self] at this
          exact this)
        refine va_zast hx hb hK hP hD hS (a - 1) 1 (am_so_al (Or.inr (Or.inl rfl)) q1 q2) rfl (vp_in_iff.mpr q3) hd ?_
        rw [hv]
        exact key
      · cases g
    · cases g
  case castore =>
    have hn : n = 1 := by simpa [am_isw, am_iln] using hn
    subst hn
    simp only [am_me] at g
    split at g
    · next x0 r0 =>
      split at g
      · next q0 =>
        obtain ⟨x, i9, a, e9, q1, q2, q3, rfl, rfl, rfl, rfl⟩ := am_as_inv g
        cases e9
        show W p l e R s m args below meth c H locs cells slots Q (F0 m pc arr (.int x0 :: .int i9 :: .ref (am_ad b h a) :: st'.map (am_cv b h)))
        rw [am_ad_ne q2]
        have hv := am_char_nar q0
        have key := am_so_as (p := p) (l := l) (e := e) (R := R) (m := m) (args := args) (below := below) (meth := meth) (c := c) (cells := cells) (slots := slots) (Q := Q) (pc := pc) (arr := arr) (t0 := 0) (x := x0) (i := i9) (r := st'.map (am_cv b h)) Wd (Or.inr (Or.inr rfl)) q1 q2 (fun H1 locs1 w => by
          have := kk H1 locs1 rfl w
          rw [Nat.sub_self, Nat.sub_self] at this
          exact this)
        refine va_cast hx hb hK hP hD hS (a - 1) 2 (am_so_al (Or.inr (Or.inr rfl)) q1 q2) rfl (vp_in_iff.mpr q3) hd ?_
        rw [hv]
        exact key
      · cases g
    · cases g
  case lastore =>
    have hn : n = 1 := by simpa [am_isw, am_iln] using hn
    subst hn
    simp only [am_me] at g
    split at g
    · next x i9 a r =>
      split at g
      · next q =>
        cases g
        obtain ⟨q1, q2, q3⟩ := q
        have hlt : a < S.length := am_kd_lt q1 (by omega)
        have he := am_W_at cA h I J q2 hlt
        rw [am_E_long q1] at he
        show W p l e R s m args below meth c H locs cells slots Q (F0 m pc arr (.long x :: .int i9 :: .ref (am_ad b h a) :: st'.map (am_cv b h)))
        rw [am_ad_ne q2]
        refine va_last hx hb hK hP hD hS (a - 1) 3 he rfl (vp_in_iff.mpr q3) hd (fun H1 locs1 g1 _ g3 => ?_)
        have := kk H1 locs1 rfl (am_Wd_put Wd q2 hlt rfl (fun a' ha' => ⟨⟨rfl, rfl, rfl⟩, rfl, am_up_ne ha'⟩) (by rw [am_E_long q1, am_up_eq]; rfl) g1 g3)
        rw [Nat.sub_self, Nat.sub_self] at this
        exact this
      · cases g
    · cases g
  case aastore =>
    have hn : n = 1 := by simpa [am_isw, am_iln] using hn
    subst hn
    simp only [am_me] at g
    split at g
    · next v i9 a r =>
      split at g
      · next q =>
        cases g
        obtain ⟨q1, q2, q3, q4, q5⟩ := q
        have hlt : a < S.length := am_kd_lt q1 (by omega)
        have hltv : v < S.length := am_kd_lt q4 (by omega)
        have he := am_W_at cA h I J q2 hlt
        rw [am_E_ref q1 (Or.inl rfl)] at he
        have hev := am_W_at cA h I J q5 hltv
        rw [am_E_obj q4 (by omega)] at hev
        show W p l e R s m args below meth c H locs cells slots Q (F0 m pc arr (.ref (am_ad b h v) :: .int i9 :: .ref (am_ad b h a) :: st'.map (am_cv b h)))
        rw [am_ad_ne q2, am_ad_ne q5]
        have ef : (fun j => am_or h (if j = i9.toNatClampNeg then v else am_rf S a j)) = va_up (fun j => am_or h (am_rf S a j)) i9.toNatClampNeg (some (h + v)) := by
          funext j
          unfold va_up
          by_cases e : j = i9.toNatClampNeg
          · rw [if_pos e, if_pos e]; unfold am_or; rw [if_neg q5]
          · rw [if_neg e, if_neg e]
        refine va_astq hx hb hK hP hD hS (a - 1) 4 (v - 1) 6 he rfl hev (am_cl_get (by omega)) (vp_in_iff.mpr q3) hd (fun H1 locs1 g1 _ g3 => ?_)
        have := kk H1 locs1 rfl (am_Wd_put Wd q2 hlt am_sr_len (fun a' ha' => ⟨am_sr_other ha', rfl, rfl⟩) (by
          rw [am_E_ref (by rw [(am_sr_same hlt).1]; exact q1) (Or.inl rfl), (am_sr_same hlt).2.1, (am_sr_same hlt).2.2, ef]) g1 g3)
        rw [am_sr_len, am_nS_sr hlt, Nat.sub_self, Nat.sub_self] at this
        exact this
      · cases g
    · cases g
  case new k =>
    have hn : n = 3 := by simpa [am_isw, am_iln] using hn
    subst hn
    simp only [am_me] at g
    split at g
    · next ci q =>
      cases g
      obtain ⟨hci, hlink⟩ := am_ck_ok q
      simp only [hlen1, hns1] at hcell hslot kk
      have hfs : ∀ j, j < am_nf ci → defaultValue (am_tyX ci j) = vp_V ((List.range (am_nf ci)).map (am_fv h (S ++ [(ci, am_nf ci, fun _ => 0)]) (am_row I S.length (fun _ => 0)) (am_row J S.length (fun _ => 0)) S.length ci)) j := by
        intro j hj
        unfold vp_V
        rw [List.getD_eq_getElem?_getD, List.getElem?_map, List.getElem?_range hj]
        show _ = am_fv _ _ _ _ _ _ _
        have hk3 := List.all_eq_true.mp (List.all_eq_true.mp am_tyk ci (List.mem_range.mpr hci)) j (List.mem_range.mpr hj)
        unfold am_fv
        rw [am_row_eq, am_row_eq, am_kd_new.2.2]
        unfold am_fty
        revert hk3
        cases am_tyX ci j <;> simp [defaultValue, am_or, va_rf]
      refine va_new (C := am_cn ci) (T := am_TX ci) (N := am_nf ci) hx hb hts (am_lay_in hci) (am_tyX ci) (am_tyX_ok ci hci) hown (hts _ hlink) (hts _ (am_ins_in hci)) (hts _ (am_ini_in (by omega))) hK hP hD hS hA (am_cl_get hci) hfs hcell hslot hd (fun q9 H1 g1 g2 g3 => ?_)
      refine am_size (fun hz => ?_)
      obtain ⟨rfl, w⟩ := am_Wd_new (cl := (ci, am_nf ci, fun _ => 0)) Wd (by rw [am_E_obj am_kd_new.1 hci]) g1 g2 (by omega) g3
      have := kk H1 _ trivial w
      show W p l e R s m args below meth c H1 locs (cells + 1) (slots + am_nf ci) Q (F0 m (pc + 3) arr (.ref (h + S.length) :: st.map (am_cv b h)))
      rw [← am_ad_ne (b := b) (a := S.length) (by omega)]
      exact this
    · cases g
  case newarray t =>
    have hn : n = 2 := by simpa [am_isw, am_iln] using hn
    subst hn
    simp only [am_me] at g
    split at g
    · next n9 r =>
      split at g
      · next q =>
        cases g
        obtain ⟨q1, q2, q3⟩ := q
        simp only [hlen1, hns1] at hcell hslot kk
        have hnn : ¬ n9 < 0 := fun z => by have := Int32.lt_iff_toInt_lt.mp z; simp at this; omega
        have hcl : n9.toNatClampNeg < 10000 := by show n9.toInt.toNat < 10000; omega
        show W p l e R s m args below meth c H locs cells slots Q (F0 m pc arr (.int n9 :: r.map (am_cv b h)))
        cases t
        case int =>
          refine va_newa (a0 := (n9.toNatClampNeg, .inl (fun _ => 0))) hx hb (atype := .int) (hts _ (am_in am_w_int rfl)) (ty := .int) rfl hK hP hD hS hA (fun _ => rfl) hnn rfl (by show _ * 4 ≤ _; omega) hcell hslot hd (fun q9 cA9 H1 gK g1 g2 g3 => ?_)
          refine am_size (fun hz => ?_)
          have e1 := (gK.2 6 _ rfl).2
          have e2 := (hK.2 0 _ rfl).2
          have e3 : cA9 = cA 20 := Option.some.inj (Eq.trans (Eq.symm e1) e2)
          subst e3
          obtain ⟨rfl, w⟩ := am_Wd_new (cl := (20, n9.toNatClampNeg, fun _ => 0)) Wd (by rw [am_E_int am_kd_new.1 (Or.inl rfl), am_kd_new.2.1, am_row_eq]) g1 g2 (by omega) g3
          have := kk H1 _ trivial w
          rw [← am_ad_ne (b := b) (a := S.length) (by omega)]
          exact this
        case boolean =>
          refine va_newa (a0 := (n9.toNatClampNeg, .inl (fun _ => 0))) hx hb (atype := .boolean) (hts _ (am_in am_w_boolean rfl)) (ty := .boolean) rfl hK hP hD hS hA (fun _ => rfl) hnn rfl (by show _ * 1 ≤ _; omega) hcell hslot hd (fun q9 cA9 H1 gK g1 g2 g3 => ?_)
          refine am_size (fun hz => ?_)
          have e1 := (gK.2 6 _ rfl).2
          have e2 := (hK.2 1 _ rfl).2
          have e3 : cA9 = cA 21 := Option.some.inj (Eq.trans (Eq.symm e1) e2)
          subst e3
          obtain ⟨rfl, w⟩ := am_Wd_new (cl := (21, n9.toNatClampNeg, fun _ => 0)) Wd (by rw [am_E_int am_kd_new.1 (Or.inr (Or.inl rfl)), am_kd_new.2.1, am_row_eq]) g1 g2 (by omega) g3
          have := kk H1 _ trivial w
          rw [← am_ad_ne (b := b) (a := S.length) (by omega)]
          exact this
        case char =>
          refine va_newa (a0 := (n9.toNatClampNeg, .inl (fun _ => 0))) hx hb (atype := .char) (hts _ (am_in am_w_char rfl)) (ty := .char) rfl hK hP hD hS hA (fun _ => rfl) hnn rfl (by show _ * 2 ≤ _; omega) hcell hslot hd (fun q9 cA9 H1 gK g1 g2 g3 => ?_)
          refine am_size (fun hz => ?_)
          have e1 := (gK.2 6 _ rfl).2
          have e2 := (hK.2 2 _ rfl).2
          have e3 : cA9 = cA 22 := Option.some.inj (Eq.trans (Eq.symm e1) e2)
          subst e3
          obtain ⟨rfl, w⟩ := am_Wd_new (cl := (22, n9.toNatClampNeg, fun _ => 0)) Wd (by rw [am_E_int am_kd_new.1 (Or.inr (Or.inr rfl)), am_kd_new.2.1, am_row_eq]) g1 g2 (by omega) g3
          have := kk H1 _ trivial w
          rw [← am_ad_ne (b := b) (a := S.length) (by omega)]
          exact this
        case long =>
          refine va_newa (a0 := (n9.toNatClampNeg, .inr (.inl (fun _ => 0)))) hx hb (atype := .long) (hts _ (am_in am_w_long rfl)) (ty := .long) rfl hK hP hD hS hA (fun _ => rfl) hnn rfl (by show _ * 8 ≤ _; omega) hcell hslot hd (fun q9 cA9 H1 gK g1 g2 g3 => ?_)
          refine am_size (fun hz => ?_)
          have e1 := (gK.2 6 _ rfl).2
          have e2 := (hK.2 3 _ rfl).2
          have e3 : cA9 = cA 23 := Option.some.inj (Eq.trans (Eq.symm e1) e2)
          subst e3
          obtain ⟨rfl, w⟩ := am_Wd_new (cl := (23, n9.toNatClampNeg, fun _ => 0)) Wd (by rw [am_E_long am_kd_new.1, am_kd_new.2.1, am_row_eq]) g1 g2 (by omega) g3
          have := kk H1 _ trivial w
          rw [← am_ad_ne (b := b) (a := S.length) (by omega)]
          exact this
        all_goals exact absurd q1 (by decide)
      · cases g
    · cases g
  case anewarray k =>
    have hn : n = 3 := by simpa [am_isw, am_iln] using hn
    subst hn
    simp only [am_me] at g
    split at g
    · next n9 r =>
      split at g
      · next q =>
        cases g
        obtain ⟨q1, q2, q3⟩ := q
        simp only [hlen1, hns1] at hcell hslot kk
        have hnn : ¬ n9 < 0 := fun z => by have := Int32.lt_iff_toInt_lt.mp z; simp at this; omega
        have hcl : n9.toNatClampNeg < 10000 := by show n9.toInt.toNat < 10000; omega
        show W p l e R s m args below meth c H locs cells slots Q (F0 m pc arr (.int n9 :: r.map (am_cv b h)))
        refine va_newq (C := "ArborescenceFinder$State") hx hb hown (hts _ (am_ck_ok q1).2) Wd.2.2.2.2.2.2.2.2.1 hK hP hD hS hA hnn rfl (by omega) hcell hslot hd (fun q9 cA9 H1 gK g1 g2 g3 => ?_)
        refine am_size (fun hz => ?_)
        obtain ⟨_, _, _, _, _, e1⟩ := (gK.2 6 _ rfl).2
        obtain ⟨_, _, _, _, _, e2⟩ := (hK.2 4 _ rfl).2
        have e3 : cA9 = cA 24 := Option.some.inj (Eq.trans (Eq.symm e1) e2)
        subst e3
        obtain ⟨rfl, w⟩ := am_Wd_new (cl := (24, n9.toNatClampNeg, fun _ => 0)) Wd (by rw [am_E_ref am_kd_new.1 (Or.inl rfl), am_kd_new.2.1, am_kd_new.2.2]; rfl) g1 g2 (by omega) g3
        have := kk H1 _ trivial w
        rw [← am_ad_ne (b := b) (a := S.length) (by omega)]
        exact this
      · cases g
    · cases g
  case invokestatic k =>
    have hn : n = 3 := by simpa [am_isw, am_iln] using hn
    subst hn
    simp only [am_me] at g
    split at g
    · next n9 dp a sp b9 r =>
      split at g
      · next q =>
        cases g
        obtain ⟨q1, q2, q3, q4, q5, ⟨q6, q7, q8⟩, q9, q10, q11⟩ := q
        obtain ⟨p9, i9, s9, qv⟩ := am_iv_ok q1
        have qv := of_decide_eq_true qv
        have hlt : a < S.length := am_kd_lt q2 (by omega)
        have nn : ∀ z : Int32, 0 ≤ z.toInt → ¬ z < 0 ∧ (z.toNatClampNeg : Int) = z.toInt := fun z hz => ⟨fun q => by have := Int32.lt_iff_toInt_lt.mp q; simp at this; omega, by show ((z.toInt.toNat : Nat) : Int) = _; omega⟩
        have h9 : ((st'.map (am_cv b h)).map fun v => v.category).sum = am_ct st' := by
          unfold am_ct
          rw [List.map_map]; congr 1; apply List.map_congr_left; intro v _; exact am_cat b h v
        show W p l e R s m args below meth c H locs cells slots Q (F0 m pc arr (.int n9 :: .int dp :: .ref (am_ad b h a) :: .int sp :: .ref (am_ad b h b9) :: st'.map (am_cv b h)))
        rw [am_ad_ne q4, am_ad_ne q5]
        refine va_copyi (ty := .int) hx hb (hml.trans hsz.symm) hown (hts _ (am_in (List.mem_of_getElem? qv) rfl)) (hts _ (am_in am_w_ac1 rfl)) (hts _ (am_in am_w_ac2 rfl)) (hts _ (am_in am_w_ac3 rfl)) hK hP hD hS (b9 - 1) (a - 1) 0 0 (am_so_al (Or.inl rfl) q3 q5) (am_so_al (Or.inl rfl) q2 q4) rfl rfl rfl (nn sp q8).1 (nn dp q7).1 (nn n9 q6).1 ?_ ?_ (fun _ _ => rfl) hfr ?_ hd (fun H1 locs1 g1 _ g3 => ?_)
        · have := (nn sp q8).2; have := (nn n9 q6).2; omega
        · have := (nn dp q7).2; have := (nn n9 q6).2; omega
        · rw [h9]
          have : nativeFrameWords "java/lang/System" "arraycopy" 5 + 11 ≤ 56 := by decide +kernel
          omega
        · have := kk H1 locs1 rfl (am_Wd_put Wd q4 hlt rfl (fun a' ha' => ⟨⟨rfl, rfl, rfl⟩, am_row_ne ha', rfl⟩) (by rw [am_E_int q2 (Or.inl rfl), am_row_eq]) g1 g3)
          rw [Nat.sub_self, Nat.sub_self] at this
          exact this
      · cases g
    · cases g
  all_goals (exfalso; revert g; simp [am_me])
end AMM
end
section
/-! calls and whole runs -/
def am_Le (S : am_S) (I : am_I) (S' : am_S) (I' : am_I) : Prop := S.length ≤ S'.length ∧ am_nS S ≤ am_nS S' ∧ (0 < S.length → am_kd S' 0 = am_kd S 0 ∧ am_ln S' 0 = am_ln S 0 ∧ I' 0 = I 0)
theorem am_Le.rf {S : am_S} {I : am_I} : am_Le S I S I := ⟨Nat.le_refl _, Nat.le_refl _, fun _ => ⟨rfl, rfl, rfl⟩⟩
theorem am_Le.tr {S S' S'' : am_S} {I I' I'' : am_I} (h1 : am_Le S I S' I') (h2 : am_Le S' I' S'' I'') : am_Le S I S'' I'' := by
  refine ⟨Nat.le_trans h1.1 h2.1, Nat.le_trans h1.2.1 h2.2.1, fun h => ?_⟩
  obtain ⟨a1, a2, a3⟩ := h1.2.2 h
  obtain ⟨b1, b2, b3⟩ := h2.2.2 (Nat.lt_of_lt_of_le h h1.1)
  exact ⟨b1.trans a1, b2.trans a2, b3.trans a3⟩
theorem am_Le.up {S : am_S} {I : am_I} {a k : Nat} {x : Int32} (h0 : a ≠ 0) : am_Le S I S (am_up I a k x) := ⟨Nat.le_refl _, Nat.le_refl _, fun _ => ⟨rfl, rfl, am_up_ne (Ne.symm h0)⟩⟩
theorem am_Le.sr {S : am_S} {I : am_I} {a k v : Nat} (h0 : a ≠ 0) (hl : a < S.length) : am_Le S I (am_sr S a k v) I := ⟨by rw [am_sr_len]; exact Nat.le_refl _, by rw [am_nS_sr hl]; exact Nat.le_refl _, fun _ => ⟨(am_sr_other (Ne.symm h0)).1, (am_sr_other (Ne.symm h0)).2.1, rfl⟩⟩
theorem am_Le.mk {S : am_S} {I : am_I} {c : Nat × Nat × (Nat → Nat)} {f : Nat → Int32} : am_Le S I (S ++ [c]) (am_row I S.length f) := ⟨by rw [List.length_append]; omega, by rw [am_nS_app]; omega, fun h => ⟨(am_kd_app h).1, (am_kd_app h).2.1, am_row_ne (by omega)⟩⟩
theorem am_me_le {y w : Nat} {ls ls' : am_L} {st st' : List Value} {S S' : am_S} {I I' : am_I} {J J' : am_J} {i : Instr} (g : am_me y w ls st S I J i = some (ls', st', S', I', J')) : am_Le S I S' I' ∧ ls' = ls := by
  cases i
  case putfield k =>
    simp only [am_me, am_pf] at g
    split at g
    case h_2 => cases g
    case h_1 ci j hfl =>
    obtain ⟨hci, hj, -, -⟩ := am_fl_ok hfl
    split at g
    · split at g
      · next q => cases g; exact ⟨am_Le.up q.2.2.1, rfl⟩
      · cases g
    · split at g
      · cases g; exact ⟨am_Le.rf, rfl⟩
      · cases g
    · split at g
      · next q => cases g; exact ⟨am_Le.sr q.2.2.1 (am_kd_lt q.2.1 (by omega)), rfl⟩
      · cases g
    · cases g
  case iastore =>
    obtain ⟨x, i9, a, rfl, q1, q2, q3, rfl, rfl, rfl, rfl⟩ := am_as_inv g
    exact ⟨am_Le.up q2, rfl⟩
  case bastore =>
    simp only [am_me] at g
    split at g
    · split at g
      · obtain ⟨x, i9, a, -, q1, q2, q3, rfl, rfl, rfl, rfl⟩ := am_as_inv g
        exact ⟨am_Le.up q2, rfl⟩
      · cases g
    · cases g
  case castore =>
    simp only [am_me] at g
    split at g
    · split at g
      · obtain ⟨x, i9, a, -, q1, q2, q3, rfl, rfl, rfl, rfl⟩ := am_as_inv g
        exact ⟨am_Le.up q2, rfl⟩
      · cases g
    · cases g
  case lastore =>
    simp only [am_me] at g
    split at g
    · split at g
      · cases g; exact ⟨am_Le.rf, rfl⟩
      · cases g
    · cases g
  case aastore =>
    simp only [am_me] at g
    split at g
    · split at g
      · next q => cases g; exact ⟨am_Le.sr q.2.1 (am_kd_lt q.1 (by omega)), rfl⟩
      · cases g
    · cases g
  case new k =>
    simp only [am_me] at g
    split at g
    · cases g; exact ⟨am_Le.mk, rfl⟩
    · cases g
  case newarray t =>
    simp only [am_me] at g
    split at g
    · split at g
      · cases g; exact ⟨am_Le.mk, rfl⟩
      · cases g
    · cases g
  case anewarray k =>
    simp only [am_me] at g
    split at g
    · split at g
      · cases g; exact ⟨am_Le.mk, rfl⟩
      · cases g
    · cases g
  case invokestatic k =>
    simp only [am_me] at g
    split at g
    · split at g
      · next q => cases g; exact ⟨⟨Nat.le_refl _, Nat.le_refl _, fun _ => ⟨rfl, rfl, am_row_ne (Ne.symm q.2.2.2.1)⟩⟩, rfl⟩
      · cases g
    · cases g
  all_goals (exfalso; revert g; simp [am_me])
theorem am_gr_inv {w : Nat} {ls ls' : am_L} {st st' : List Value} {S S' : am_S} {I I' : am_I} {J J' : am_J} {i : Instr} (g : am_gr w ls st S I J i = some (ls', st', S', I', J')) :
    ∃ mm nn r, i = .multianewarray 9 2 ∧ w = 7 ∧ st = .int mm :: .int nn :: r ∧ (0 ≤ nn.toInt ∧ nn.toInt < 100) ∧ (0 ≤ mm.toInt ∧ mm.toInt < 100) ∧ ls' = ls ∧ st' = .ref S.length :: r ∧ S' = am_grow S nn.toNatClampNeg mm.toNatClampNeg ∧ I' = am_clean I S.length 0 ∧ J' = am_clean J S.length 0 := by
  cases i
  case multianewarray k d =>
    simp only [am_gr] at g
    split at g
    · split at g
      · next q =>
        obtain ⟨q1, q2, q3, q4, q5, q6⟩ := q
        subst q2 q3
        cases g
        exact ⟨_, _, _, rfl, q1, rfl, q4, ⟨q5, q6⟩, rfl, rfl, rfl, rfl, rfl⟩
      · cases g
    · cases g
  all_goals (exfalso; revert g; simp [am_gr])
theorem am_grow_app (S : am_S) (n k : Nat) : am_grow S n k = S ++ ((25, n, fun i => if i < n then S.length + 1 + i else 0) :: List.replicate n (23, k, fun _ => 0)) := rfl
theorem am_Le.gr {S : am_S} {I : am_I} {n k : Nat} : am_Le S I (am_grow S n k) (am_clean I S.length 0) := by
  refine ⟨by rw [am_grow_app, List.length_append]; omega, by rw [am_grow_app, am_nS_app]; omega, fun h => ⟨by rw [am_grow_app]; exact (am_kd_app h).1, by rw [am_grow_app]; exact (am_kd_app h).2.1, ?_⟩⟩
  funext j; unfold am_clean; rw [if_neg (by omega)]
/-- an instruction's outcomes, one by one -/
theorem am_ex_inv {y pc n : Nat} {ls : am_L} {st : List Value} {S : am_S} {I : am_I} {J : am_J} {i : Instr} {z : am_Z} (g : am_ex y pc n ls st S I J i = some z) :
    (∃ pc' ls' st', am_pu (am_ow y) pc ls st S I J i = some (pc', ls', st') ∧ z = .inl (pc', ls', st', S, I, J)) ∨ (∃ m, am_me y (am_ow y) ls st S I J i = some m ∧ z = .inl (pc + n, m)) ∨ (∃ m, am_gr (am_ow y) ls st S I J i = some m ∧ z = .inl (pc + n, m)) ∨ (∃ r, am_re y st i = some r ∧ z = .inr (.inl r)) ∨ (∃ c, am_cv0 (am_ow y) st S i = some c ∧ z = .inr (.inr (pc + n, c))) := by
  unfold am_ex at g
  split at g
  · next q => cases g; exact Or.inl ⟨_, _, _, q, rfl⟩
  · split at g
    · next q => cases g; exact Or.inr (Or.inl ⟨_, q, rfl⟩)
    · split at g
      · next q => cases g; exact Or.inr (Or.inr (Or.inl ⟨_, q, rfl⟩))
      · split at g
        · next q => cases g; exact Or.inr (Or.inr (Or.inr (Or.inl ⟨_, q, rfl⟩)))
        · split at g
          · next q => cases g; exact Or.inr (Or.inr (Or.inr (Or.inr ⟨_, q, rfl⟩)))
          · cases g
theorem am_step_inv {y pc : Nat} {ls : am_L} {st : List Value} {S : am_S} {I : am_I} {J : am_J} {z : am_Z} (g : am_step y pc ls st S I J = some z) : ∃ i n, decode (am_by y) pc = .ok (i, n) ∧ (am_isw i = true ∨ n = am_iln i) ∧ am_ex y pc n ls st S I J i = some z := by
  unfold am_step at g
  split at g
  · next i n q =>
    split at g
    · next q2 => exact ⟨i, n, q, q2, g⟩
    · cases g
  · cases g
theorem am_run_le {R : am_Rel} {y : Nat} (hR : ∀ y as S I J r S' I' J', R y as S I J r S' I' J' → am_Le S I S' I') {r : Option Value} {S' : am_S} {I' : am_I} {J' : am_J} : ∀ (n pc : Nat) (ls : am_L) (st : List Value) (S : am_S) (I : am_I) (J : am_J), am_run R y n pc ls st S I J (am_eq r S' I' J') → am_Le S I S' I' := by
  intro n
  induction n with
  | zero => intro pc ls st S I J h; exact h.elim
  | succ n ih =>
    intro pc ls st S I J h
    unfold am_run at h
    cases hs : am_step y pc ls st S I J with
    | none => rw [hs] at h; exact h.elim
    | some z =>
      rw [hs] at h
      obtain ⟨i, k, h1, h2, h3⟩ := am_step_inv hs
      rcases am_ex_inv h3 with ⟨pc', ls', st', q, rfl⟩ | ⟨⟨ls', st', S1, I1, J1⟩, q, rfl⟩ | ⟨⟨ls', st', S1, I1, J1⟩, q, rfl⟩ | ⟨r1, q, rfl⟩ | ⟨⟨y1, as1, st1⟩, q, rfl⟩
      · exact ih _ _ _ _ _ _ h
      · exact (am_me_le q).1.tr (ih _ _ _ _ _ _ h)
      · obtain ⟨mm, nn, rr, -, -, -, -, -, -, -, e1, e2, -⟩ := am_gr_inv q
        have := ih _ _ _ _ _ _ h
        rw [e1, e2] at this
        exact am_Le.gr.tr this
      · obtain ⟨rfl, rfl, rfl, rfl⟩ := h
        exact am_Le.rf
      · obtain ⟨r1, S1, I1, J1, g1, g2⟩ := h
        exact (hR _ _ _ _ _ _ _ _ _ g1).tr (ih _ _ _ _ _ _ g2)
theorem am_R_le : ∀ (d y : Nat) (as : List Value) (S : am_S) (I : am_I) (J : am_J) (r : Option Value) (S' : am_S) (I' : am_I) (J' : am_J), am_R d y as S I J r S' I' J' → am_Le S I S' I' := by
  intro d
  induction d with
  | zero => intro y as S I J r S' I' J' h; exact h.elim
  | succ d ih => intro y as S I J r S' I' J' ⟨_, n, h⟩; exact am_run_le ih n _ _ _ _ _ _ h
-- contracts
def am_ws (y : Nat) : List Cond := Cond.code (am_y y) (am_by y) (am_ml y) (am_rt y) :: am_tb
def am_rm (d : Nat) (S S' : am_S) : Room := { frames := d, cells := S'.length - S.length, slots := am_nS S' - am_nS S, locals := 64 * d }
def am_Pc (D : va_G) (cA : Nat → ClassId) (b h L : Nat) (as : List Value) (S : am_S) (I : am_I) (J : am_J) : Array Value → State → Prop :=
  va_Pc (as.map (am_cv b h)) (fun U => va_K D am_cl (am_tys cA) U ∧ va_P D am_cl (am_W cA h S I J) U.heap ∧ U.heap.size = h + S.length ∧ va_X b L (I 0) U U.heap ∧ b ≤ h ∧ am_kd S 0 = 20 ∧ am_ln S 0 = L ∧ va_AO "ArborescenceFinder$State" U ∧ am_AOA .long U ∧ am_Ns U)
def am_Qc (D : va_G) (cA : Nat → ClassId) (b h : Nat) (r : Option Value) (S' : am_S) (I' : am_I) (J' : am_J) : Array Value → State → Outcome → State → Prop :=
  fun _ st oc t => oc = .returned (r.map (am_cv b h)) ∧ va_P D am_cl (am_W cA h S' I' J') t.heap ∧ va_F (fun q => h < q) st t
theorem am_m_get {y : Nat} (h : y < am_ms.length) : am_ms[y]? = some (am_m y) := by
  unfold am_m
  rw [List.getD_eq_getElem?_getD, List.getElem?_eq_getElem h]; rfl
theorem am_code_in {y : Nat} (h : y < am_ms.length) : Cond.code (am_y y) (am_by y) (am_ml y) (am_rt y) ∈ am_tb := by
  refine am_in ?_ rfl
  have h1 : Cond.code (am_y y) (am_by y) (am_ml y) (am_rt y) ∈ am_ms.map (fun q => Cond.code q.1 q.2.1 q.2.2.1 q.2.2.2.1) := List.mem_map.mpr ⟨am_m y, List.mem_of_getElem? (am_m_get h), rfl⟩
  rw [am_codes] at h1
  obtain ⟨q, -, hq⟩ := List.mem_filterMap.mp h1
  exact List.mem_of_getElem? hq
theorem am_ms_at {y : Nat} (h : y < am_ms.length) : (am_y y).cls = am_cn (am_ow y) ∧ (parseMethodDescriptor (am_y y).desc).map (fun d => d.parameters.length) = some (am_np y) ∧ plainName (am_y y).cls = true ∧ (am_y y).cls ≠ "java/lang/invoke/MethodHandle" ∧ (am_y y).cls ≠ "java/lang/invoke/VarHandle" ∧ am_ml y ≤ 16 ∧ am_ow y < 11 :=
  of_decide_eq_true (List.all_eq_true.mp am_ms_ok _ (List.mem_of_getElem? (am_m_get h)))
theorem am_good_in {y : Nat} (h : y < am_ms.length) : GoodIn am_tb (am_ws y) := by
  intro w hw
  rcases List.mem_cons.mp hw with rfl | hw
  · exact ⟨am_code_in h, Or.inl rfl⟩
  · exact ⟨hw, good_of_word (List.mem_filter.mp hw).2⟩
section AMR
variable {p : Program} {l : Launch} {e : Env} {R : Room} {s : State} {m : MethodId} {args : Array Value} {below : List Frame} {meth : Method} {c : Code} {H : Heap} {locs : List Loc} {cells slots : Nat} {Q : State → Prop}
variable {cA : Nat → ClassId} {D : va_G} {b h L y pc n n0 : Nat} {ls ls' : am_L} {st st' : List Value} {S S' : am_S} {I I' : am_I} {J J' : am_J} {arr : Array Slot} {pc' : Nat}
theorem am_call {r : Option Value} {S1 : am_S} {I1 : am_I} {J1 : am_J} {st0 rest : List Value} {a : Array Value} {mc ms : Nat} (hr : va_Run p l e R s m args below meth c H locs cells slots mc ms (F0 m pc arr st0) rest (am_Qc D cA b h r S1 I1 J1 a) (fun q => h < q)) (Wd : am_Wd D cA b h L s S I J H locs) (hLe : am_Le S I S1 I1)
    (kk : ∀ (H1 : Heap) (locs1 : List Loc), am_Wd D cA b h L s S1 I1 J1 H1 locs1 → W p l e R s m args below meth c H1 locs1 (cells + mc) (slots + ms) Q (F0 m (pc + 3) arr ((r.map (am_cv b h)).toList ++ rest))) : W p l e R s m args below meth c H locs cells slots Q (F0 m pc arr st0) := by
  intro T hT X
  obtain ⟨v, st₀, t, T', L9, h0, X', hL, e1, e2, ⟨hv, hP1, hF1, hF2⟩, go⟩ := hr T hT X
  cases hv
  obtain ⟨hK, hP, hS, hX, hb, hs, hk, hL9, hO1, hO2, hO3⟩ := Wd
  obtain ⟨k1, k2, k3⟩ := hLe.2.2 (am_kd_lt hk (by decide))
  rw [h0] at hF1 hF2
  have w : am_Wd D cA b h L s S1 I1 J1 T'.heap (locs ++ L9) := by
    refine ⟨hK, by rw [e1]; exact hP1, ⟨Nat.le_trans hS.1 (by rw [e1]; exact hF1), fun q g1 g2 => ?_, fun q hq => ?_⟩, by rw [k3]; exact hX, hb, hs, k1.trans hk, k2.trans hL9, hO1, hO2, hO3⟩
    · rw [e1, hF2 q (Nat.lt_of_lt_of_le g1 hS.1) g2]
      exact hS.2.1 q g1 g2
    · rcases List.mem_append.mp hq with g | g
      · exact hS.2.2 q g
      · exact hL q g
  obtain ⟨t2, a1, b1⟩ := kk T'.heap (locs ++ L9) w T' rfl X'
  exact ⟨t2, go t2 a1, b1⟩
theorem am_sizeEq (Wd : am_Wd D cA b h L s S I J H locs) (hs0 : s.heap.size = h + n0) (hn0 : n0 + cells = S.length) (hz : H.size ≤ s.heap.size + cells) : H.size = h + S.length := by
  have hl : 0 < S.length := am_kd_lt Wd.2.2.2.2.2.2.1 (by decide)
  have h1 := Wd.2.2.1.1
  have h2 := Wd.2.2.2.2.2.1
  by_cases g : S.length = 1
  · omega
  · have he := am_W_at cA h I J (S := S) (a := S.length - 1) (by omega) (by omega)
    have := (Wd.2.1 _ _ he).lt
    have this : h + (S.length - 1) < H.size := this
    omega
theorem am_pre (Wd : am_Wd D cA b h L s S I J H locs) (hz : H.size = h + S.length) (as : List Value) : PreS s H (am_Pc D cA b h L as S I J) (as.map (am_cv b h)) := by
  obtain ⟨hK, hP, hS, hX, hb, hs, hk, hL9, hO1, hO2, hO3⟩ := Wd
  refine ⟨fun a U g mk q => ?_, fun U hU hW => ?_⟩
  · obtain ⟨q0, q1, q2, q3, q4, q5, q6, q7, q8, q9, q10⟩ := q
    exact ⟨q0, va_K.moved (u := U) (U := U.calling g mk a) (Vm.Alike.refl U.vm) q1, q2, q3, va_X.moved (u := U) (U := U.calling g mk a) (Vm.Alike.refl U.vm) q4, q5, q6, q7, va_AO.moved (u := U) (U := U.calling g mk a) (Vm.Alike.refl U.vm) q8, am_AOA.moved (u := U) (U := U.calling g mk a) (Vm.Alike.refl U.vm) q9, am_Ns.same (s := U) (U := U.calling g mk a) rfl q10⟩
  · refine ⟨rfl, va_K.moved hW.alike hK, by rw [hU]; exact hP, by rw [hU]; exact hz, va_X.moved hW.alike (hX.kept ?_), hb, hk, hL9, hO1.moved hW.alike, hO2.moved hW.alike, hO3.warm hW⟩
    rw [hU]
    exact hS.2.1 b (by omega) (by show ¬ h < b; omega)
theorem am_cat_sum (b h : Nat) (r : List Value) : ((r.map (am_cv b h)).map fun v => v.category).sum = am_ct r := by
  unfold am_ct
  rw [List.map_map]; congr 1; apply List.map_congr_left; intro v _; exact am_cat b h v
theorem am_psh_map (b h : Nat) (r : Option Value) (st : List Value) : (am_psh r st).map (am_cv b h) = (r.map (am_cv b h)).toList ++ st.map (am_cv b h) := by
  cases r <;> rfl
/-- the grid's making, in the machine -/
def am_GrOK (l : Launch) : Prop := ∀ {p : Program} {e : Env} {R : Room} {s : State} {m : MethodId} {args : Array Value} {below : List Frame} {meth : Method} {c : Code} {H : Heap} {locs : List Loc} {cells slots : Nat} {Q : State → Prop} {cA : Nat → ClassId} {D : va_G} {b h L y pc n0 : Nat} {S : am_S} {I : am_I} {J : am_J} {arr : Array Slot} {mm nn : Int32} {r : List Value},
  am_Cx p s m args meth c R y → am_Wd D cA b h L s S I J H locs → s.heap.size = h + n0 → n0 + cells = S.length → am_ow y = 7 → decode (am_by y) pc = .ok (.multianewarray 9 2, 4) → (0 ≤ nn.toInt ∧ nn.toInt < 100) → (0 ≤ mm.toInt ∧ mm.toInt < 100) →
  cells + ((am_grow S nn.toNatClampNeg mm.toNatClampNeg).length - S.length) ≤ R.cells → slots + (am_nS (am_grow S nn.toNatClampNeg mm.toNatClampNeg) - am_nS S) ≤ R.slots →
  (∀ (H1 : Heap) (locs1 : List Loc), am_Wd D cA b h L s (am_grow S nn.toNatClampNeg mm.toNatClampNeg) (am_clean I S.length 0) (am_clean J S.length 0) H1 locs1 → W p l e R s m args below meth c H1 locs1 (cells + ((am_grow S nn.toNatClampNeg mm.toNatClampNeg).length - S.length)) (slots + (am_nS (am_grow S nn.toNatClampNeg mm.toNatClampNeg) - am_nS S)) Q (F0 m (pc + 4) arr (.ref (am_ad b h S.length) :: r))) →
  W p l e R s m args below meth c H locs cells slots Q (F0 m pc arr (.int mm :: .int nn :: r))
/-- what a depth's calls are worth -/
def am_MetD (l : Launch) (d : Nat) : Prop := ∀ (y : Nat) (as : List Value) (S : am_S) (I : am_I) (J : am_J) (r : Option Value) (S' : am_S) (I' : am_I) (J' : am_J), y < am_ms.length → am_R d y as S I J r S' I' J' → ∀ (D : va_G) (cA : Nat → ClassId) (b h L : Nat), Met l (am_y y) (am_ws y) (am_rm d S S') (am_Pc D cA b h L as S I J) (am_Qc D cA b h r S' I' J') (S'.length - S.length) (am_nS S' - am_nS S) (fun q => h < q)
set_option maxHeartbeats 4000000 in
theorem am_so_call {d : Nat} (IH : am_MetD l d) {i : Instr} {y1 : Nat} {as1 st1 : List Value} {r1 : Option Value} {S1 : am_S} {I1 : am_I} {J1 : am_J} (Cx : am_Cx p s m args meth c R y) (hRm : d + 1 ≤ R.frames ∧ 64 * d + 35 ≤ R.locals) (Wd : am_Wd D cA b h L s S I J H locs) (hs0 : s.heap.size = h + n0) (hn0 : n0 + cells = S.length) (hsz : arr.size = am_ml y) (hd : decode (am_by y) pc = .ok (i, n)) (hn : am_isw i = true ∨ n = am_iln i) (g : am_cv0 (am_ow y) st S i = some (y1, as1, st1)) (hR1 : am_R d y1 as1 S I J r1 S1 I1 J1)
    (hcell : cells + (S1.length - S.length) ≤ R.cells) (hslot : slots + (am_nS S1 - am_nS S) ≤ R.slots)
    (kk : ∀ (H1 : Heap) (locs1 : List Loc), am_Wd D cA b h L s S1 I1 J1 H1 locs1 → W p l e R s m args below meth c H1 locs1 (cells + (S1.length - S.length)) (slots + (am_nS S1 - am_nS S)) Q (F0 m (pc + n) arr ((am_psh r1 st1).map (am_cv b h)))) : W p l e R s m args below meth c H locs cells slots Q (F0 m pc arr (st.map (am_cv b h))) := by
  refine am_size (fun hz0 => ?_)
  have hz := am_sizeEq Wd hs0 hn0 hz0
  have hx := Cx.1
  have hb := Cx.2.1
  have hml := Cx.2.2.1
  have hown := Cx.2.2.2.1
  have hts := Cx.2.2.2.2.1
  have hK := Wd.1
  have hP := Wd.2.1
  have hLe := am_R_le _ _ _ _ _ _ _ _ _ _ hR1
  have fin : ∀ {st0 : List Value} {a : Array Value}, n = 3 → va_Run p l e R s m args below meth c H locs cells slots (S1.length - S.length) (am_nS S1 - am_nS S) (F0 m pc arr st0) (st1.map (am_cv b h)) (am_Qc D cA b h r1 S1 I1 J1 a) (fun q => h < q) → W p l e R s m args below meth c H locs cells slots Q (F0 m pc arr st0) := by
    intro st0 a hn3 hr
    subst hn3
    refine am_call hr Wd hLe (fun H1 locs1 w => ?_)
    have := kk H1 locs1 w
    rw [am_psh_map] at this
    exact this
  have hfix : CallFix p m c (am_by y) (am_ml y) s args am_tb (am_cn (am_ow y)) := ⟨hx, hb, hml, hown, hts⟩
  cases i
  case invokevirtual k =>
    have hn : n = 3 := by simpa [am_isw, am_iln] using hn
    simp only [am_cv0] at g
    split at g
    · next y2 q =>
      split at g
      · next a r hdr =>
        split at g
        · next q2 =>
          cases g
          obtain ⟨k1, k2, k3⟩ := q2
          obtain ⟨p9, i9, s9, qv⟩ := am_iv_ok q
          obtain ⟨v1, v2, v3, v4, v5⟩ := of_decide_eq_true qv
          rw [← am_ms_len] at v1
          obtain ⟨t1, t2, t3, t4, t5, t6, t7⟩ := am_ms_at v1
          have hlen : (st.take (am_np y1)).length = am_np y1 := by
            have := congrArg List.length hdr
            rw [List.length_drop, List.length_cons] at this
            rw [List.length_take]; omega
          have hlt : a < S.length := am_kd_lt k1 (by omega)
          have he := am_W_at cA h I J k2 hlt
          rw [am_E_obj k1 v2] at he
          refine fin (a := (Value.ref (am_ad b h a) :: ((st.take (am_np y1)).reverse).map (am_cv b h)).toArray) hn (va_runV (C := am_cn (am_ow y1)) (b := am_ad b h a) (As := ((st.take (am_np y1)).reverse).map (am_cv b h)) (n := am_np y1) hfix (IH y1 _ S I J r1 S1 I1 J1 v1 hR1 D cA b h L) (cwV (am_np y1) hts ?_ rfl rfl rfl ⟨t1, t4, t5, t2⟩ ⟨hRm.1, ?_⟩) ⟨(am_pre Wd hz _).1, ?_, (am_pre Wd hz (.ref a :: (st.take (am_np y1)).reverse)).2⟩ rfl ?_ hsz ?_ ?_ (by rw [hd, hn]) ⟨hcell, hslot⟩)
          · intro w hw
            rcases List.mem_append.mp hw with hw | hw
            · simp only [List.mem_cons, List.not_mem_nil, or_false] at hw
              rcases hw with rfl | rfl | rfl | rfl
              · exact ⟨am_in (List.mem_of_getElem? v3) rfl, Or.inl rfl⟩
              · exact ⟨am_in (List.mem_of_getElem? v4) rfl, Or.inl rfl⟩
              · exact ⟨am_in (List.mem_of_getElem? v5) rfl, Or.inl rfl⟩
              · exact ⟨am_ini_in (by omega), Or.inl rfl⟩
            · exact am_good_in v1 w hw
          · show 8 + (am_ml y1 + 11) + 64 * d ≤ _; omega
          · rw [am_ad_ne k2]
            exact va_recv hK hP (am_cl_get v2) he
          · rw [List.length_map, List.length_reverse]; exact hlen
          · show st.map (am_cv b h) = _
            rw [← List.map_reverse, List.reverse_reverse]
            conv => lhs; rw [← List.take_append_drop (am_np y1) st, hdr]
            rw [List.map_append]; rfl
          · exact lv_room (by rw [am_cat_sum]; exact k3)
        · cases g
      · cases g
    · cases g
  case invokestatic k =>
    have hn : n = 3 := by simpa [am_isw, am_iln] using hn
    simp only [am_cv0] at g
    split at g
    · next y2 q =>
      split at g
      · next q2 =>
        cases g
        obtain ⟨p9, i9, s9, qv⟩ := am_iv_ok q
        obtain ⟨v1, v3, v4, v5⟩ := of_decide_eq_true qv
        rw [← am_ms_len] at v1
        obtain ⟨t1, t2, t3, t4, t5, t6, t7⟩ := am_ms_at v1
        refine fin (a := (((st.take (am_np y1)).reverse).map (am_cv b h)).toArray) hn (va_runS (As := ((st.take (am_np y1)).reverse).map (am_cv b h)) (n := am_np y1) hfix (IH y1 _ S I J r1 S1 I1 J1 v1 hR1 D cA b h L) (cwS (am_np y1) hts ?_ rfl rfl rfl ⟨by rw [t1, v5], t4, t5, t2⟩ ⟨hRm.1, ?_⟩) (am_pre Wd hz _) rfl ?_ hsz ?_ ?_ (by rw [hd, hn]) ⟨hcell, hslot⟩)
        · intro w hw
          rcases List.mem_append.mp hw with hw | hw
          · simp only [List.mem_cons, List.not_mem_nil, or_false] at hw
            rcases hw with rfl | rfl | rfl
            · exact ⟨am_in (List.mem_of_getElem? v3) rfl, Or.inl rfl⟩
            · exact ⟨am_in (List.mem_of_getElem? v4) rfl, Or.inl rfl⟩
            · exact ⟨am_ini_in (by omega), Or.inl rfl⟩
          · exact am_good_in v1 w hw
        · show 8 + (am_ml y1 + 11) + 64 * d ≤ _; omega
        · rw [List.length_map, List.length_reverse, List.length_take]; omega
        · show st.map (am_cv b h) = _
          rw [← List.map_reverse, List.reverse_reverse, ← List.map_append, List.take_append_drop]
        · exact lv_room (by rw [am_cat_sum]; exact q2.2)
      · cases g
    · next y2 q =>
      split at g
      · next q2 =>
        cases g
        obtain ⟨p9, i9, s9, qv⟩ := am_iv_ok q
        obtain ⟨v1, v3, v4⟩ := of_decide_eq_true qv
        rw [← am_ms_len] at v1
        obtain ⟨t1, t2, t3, t4, t5, t6, t7⟩ := am_ms_at v1
        refine fin (a := (((st.take (am_np y1)).reverse).map (am_cv b h)).toArray) hn (va_runSN (As := ((st.take (am_np y1)).reverse).map (am_cv b h)) (n := am_np y1) hfix (IH y1 _ S I J r1 S1 I1 J1 v1 hR1 D cA b h L) ⟨va_cnB (am_np y1) hts (am_good_in v1) rfl rfl rfl (Wd.2.2.2.2.2.2.2.2.2.2 _ (List.mem_of_getElem? v3) rfl) (hts _ (by rw [t1]; exact am_ini_in (by omega))) ⟨t4, t5, t2⟩ ⟨hRm.1, ?_⟩, hts _ (am_in (List.mem_of_getElem? v4) rfl), trivial⟩ (am_pre Wd hz _) rfl ?_ hsz ?_ ?_ (by rw [hd, hn]) ⟨hcell, hslot⟩)
        · show 8 + (am_ml y1 + 11) + 64 * d ≤ _; omega
        · rw [List.length_map, List.length_reverse, List.length_take]; omega
        · show st.map (am_cv b h) = _
          rw [← List.map_reverse, List.reverse_reverse, ← List.map_append, List.take_append_drop]
        · exact lv_room (by rw [am_cat_sum]; exact q2.2)
      · cases g
    · cases g
  case invokespecial k =>
    have hn : n = 3 := by simpa [am_isw, am_iln] using hn
    simp only [am_cv0] at g
    split at g
    · next y2 q =>
      split at g
      · next a r hdr =>
        split at g
        · next k3 =>
          cases g
          obtain ⟨p9, i9, s9, qv⟩ := am_iv_ok q
          obtain ⟨v1, v3, v4, v5, v6⟩ := of_decide_eq_true qv
          rw [← am_ms_len] at v1
          obtain ⟨t1, t2, t3, t4, t5, t6, t7⟩ := am_ms_at v1
          have hlen : (st.take (am_np y1)).length = am_np y1 := by
            have := congrArg List.length hdr
            rw [List.length_drop, List.length_cons] at this
            rw [List.length_take]; omega
          refine fin (a := (Value.ref (am_ad b h a) :: ((st.take (am_np y1)).reverse).map (am_cv b h)).toArray) hn (va_runI (b := am_ad b h a) (As := ((st.take (am_np y1)).reverse).map (am_cv b h)) (n := am_np y1) hfix (IH y1 _ S I J r1 S1 I1 J1 v1 hR1 D cA b h L) (cwI (am_np y1) hts (am_good_in v1) (by unfold am_ws; rw [v6]) rfl rfl (hts _ (by rw [t1]; exact am_ini_in (by omega))) (hts _ (am_in (List.mem_of_getElem? v3) rfl)) (hts _ (am_in (List.mem_of_getElem? v4) rfl)) v5 ⟨t4, t5, t2⟩ ⟨hRm.1, ?_⟩) (am_pre Wd hz (.ref a :: (st.take (am_np y1)).reverse)) rfl ?_ hsz ?_ ?_ (by rw [hd, hn]) ⟨hcell, hslot⟩)
          · show 8 + (am_ml y1 + 11) + 64 * d ≤ _; omega
          · rw [List.length_map, List.length_reverse]; exact hlen
          · show st.map (am_cv b h) = _
            rw [← List.map_reverse, List.reverse_reverse]
            conv => lhs; rw [← List.take_append_drop (am_np y1) st, hdr]
            rw [List.map_append]; rfl
          · exact lv_room (by rw [am_cat_sum]; exact k3)
        · cases g
      · cases g
    · next y2 q =>
      split at g
      · next a r hdr =>
        split at g
        · next k3 =>
          cases g
          obtain ⟨p9, i9, s9, qv⟩ := am_iv_ok q
          obtain ⟨v1, v3, v4, v5, v6⟩ := of_decide_eq_true qv
          rw [← am_ms_len] at v1
          obtain ⟨t1, t2, t3, t4, t5, t6, t7⟩ := am_ms_at v1
          have hlen : (st.take (am_np y1)).length = am_np y1 := by
            have := congrArg List.length hdr
            rw [List.length_drop, List.length_cons] at this
            rw [List.length_take]; omega
          refine fin (a := (Value.ref (am_ad b h a) :: ((st.take (am_np y1)).reverse).map (am_cv b h)).toArray) hn (va_runIN (b := am_ad b h a) (As := ((st.take (am_np y1)).reverse).map (am_cv b h)) (n := am_np y1) hfix (IH y1 _ S I J r1 S1 I1 J1 v1 hR1 D cA b h L) ⟨va_cnB (am_np y1) hts (am_good_in v1) (by unfold am_ws; rw [v6]) rfl rfl (Wd.2.2.2.2.2.2.2.2.2.2 _ (List.mem_of_getElem? v3) rfl) (hts _ (by rw [t1]; exact am_ini_in (by omega))) ⟨t4, t5, t2⟩ ⟨hRm.1, ?_⟩, v5, hts _ (am_in (List.mem_of_getElem? v4) rfl)⟩ (am_pre Wd hz (.ref a :: (st.take (am_np y1)).reverse)) rfl ?_ hsz ?_ ?_ (by rw [hd, hn]) ⟨hcell, hslot⟩)
          · show 8 + (am_ml y1 + 11) + 64 * d ≤ _; omega
          · rw [List.length_map, List.length_reverse]; exact hlen
          · show st.map (am_cv b h) = _
            rw [← List.map_reverse, List.reverse_reverse]
            conv => lhs; rw [← List.take_append_drop (am_np y1) st, hdr]
            rw [List.map_append]; rfl
          · exact lv_room (by rw [am_cat_sum]; exact k3)
        · cases g
      · cases g
    · cases g
  all_goals (exfalso; revert g; simp [am_cv0])
theorem am_re_iln {i : Instr} {r : Option Value} (g : am_re y st i = some r) : am_isw i = false ∧ am_iln i = 1 := by
  cases i
  case ireturn => exact ⟨rfl, rfl⟩
  case lreturn => exact ⟨rfl, rfl⟩
  case return_ => exact ⟨rfl, rfl⟩
  all_goals (exfalso; revert g; simp [am_re])
set_option maxHeartbeats 4000000 in
theorem am_so_run (hG : am_GrOK l) {d : Nat} (IH : am_MetD l d) (Cx : am_Cx p s m args meth c R y) (hRm : d + 1 ≤ R.frames ∧ 64 * d + 35 ≤ R.locals) {z0 : Nat} (hs0 : s.heap.size = h + n0) {r : Option Value} (hRc : S'.length ≤ n0 + R.cells) (hRs : am_nS S' ≤ z0 + R.slots)
    (kret : ∀ (H : Heap) (locs : List Loc) (arr : Array Slot) (pc : Nat) (i : Instr) (st : List Value), am_Wd D cA b h L s S' I' J' H locs → decode (am_by y) pc = .ok (i, 1) → am_re y st i = some r → W p l e R s m args below meth c H locs (S'.length - n0) (am_nS S' - z0) Q (F0 m pc arr (st.map (am_cv b h)))) :
    ∀ (k pc : Nat) (ls : am_L) (st : List Value) (S : am_S) (I : am_I) (J : am_J) (H : Heap) (locs : List Loc) (arr : Array Slot) (cells slots : Nat), am_run (am_R d) y k pc ls st S I J (am_eq r S' I' J') → am_Wd D cA b h L s S I J H locs → am_LV b h arr (am_ml y) ls → n0 + cells = S.length → z0 + slots = am_nS S → W p l e R s m args below meth c H locs cells slots Q (F0 m pc arr (st.map (am_cv b h))) := by
  intro k
  induction k with
  | zero => intro pc ls st S I J H locs arr cells slots hr; exact hr.elim
  | succ k ih =>
    intro pc ls st S I J H locs arr cells slots hr Wd hl hc hsl
    have hle := am_run_le (am_R_le d) _ _ _ _ _ _ _ hr
    unfold am_run at hr
    cases hs : am_step y pc ls st S I J with
    | none => rw [hs] at hr; exact hr.elim
    | some z =>
      rw [hs] at hr
      obtain ⟨i, n, h1, h2, h3⟩ := am_step_inv hs
      rcases am_ex_inv h3 with ⟨pc', ls', st', q, rfl⟩ | ⟨⟨ls', st', S1, I1, J1⟩, q, rfl⟩ | ⟨⟨ls', st', S1, I1, J1⟩, q, rfl⟩ | ⟨r1, q, rfl⟩ | ⟨⟨y1, as1, st1⟩, q, rfl⟩
      · exact am_so_pu Cx Wd (by have := hle.1; omega) (by have := hle.2.1; omega) h1 h2 q hl (fun arr' hl' => ih _ _ _ _ _ _ _ _ _ _ _ hr Wd hl' hc hsl)
      · have hle1 := am_run_le (am_R_le d) _ _ _ _ _ _ _ hr
        obtain ⟨hle0, e9⟩ := am_me_le q
        refine am_so_me Cx Wd hs0 hc (by have := hle1.1; have := hle0.1; omega) (by have := hle1.2.1; have := hle0.2.1; omega) h1 h2 hl.1 q (fun H1 locs1 _ w => ?_)
        exact ih _ _ _ _ _ _ _ _ _ _ _ hr w (by rw [e9]; exact hl) (by have := hle0.1; omega) (by have := hle0.2.1; omega)
      · have hle1 := am_run_le (am_R_le d) _ _ _ _ _ _ _ hr
        obtain ⟨mm, nn, rr, rfl, g1, rfl, g2, g3, rfl, rfl, rfl, rfl, rfl⟩ := am_gr_inv q
        have hn : n = 4 := by simpa [am_isw, am_iln] using h2
        subst hn
        have hle0 : am_Le S I _ _ := am_Le.gr (S := S) (I := I) (n := nn.toNatClampNeg) (k := mm.toNatClampNeg)
        refine hG Cx Wd hs0 hc g1 h1 g2 g3 (by have := hle1.1; have := hle0.1; omega) (by have := hle1.2.1; have := hle0.2.1; omega) (fun H1 locs1 w => ?_)
        exact ih _ _ _ _ _ _ _ _ _ _ _ hr w hl (by have := hle0.1; omega) (by have := hle0.2.1; omega)
      · obtain ⟨rfl, rfl, rfl, rfl⟩ := hr
        have e9 := am_re_iln q
        have hn : n = 1 := by rcases h2 with h2 | h2
                              · rw [e9.1] at h2; cases h2
                              · rw [h2, e9.2]
        subst hn
        have := kret H locs arr pc i st Wd h1 q
        rw [show S.length - n0 = cells by omega, show am_nS S - z0 = slots by omega] at this
        exact this
      · obtain ⟨r1, S1, I1, J1, g1, g2⟩ := hr
        have hle1 := am_run_le (am_R_le d) _ _ _ _ _ _ _ g2
        have hle0 := am_R_le _ _ _ _ _ _ _ _ _ _ g1
        refine am_so_call IH Cx hRm Wd hs0 hc hl.1 h1 h2 q g1 (by have := hle1.1; have := hle0.1; omega) (by have := hle1.2.1; have := hle0.2.1; omega) (fun H1 locs1 w => ?_)
        exact ih _ _ _ _ _ _ _ _ _ _ _ g2 w hl (by have := hle0.1; omega) (by have := hle0.2.1; omega)
theorem am_entry_mem (b h : Nat) : ∀ (as : List Value) (k i : Nat) (v : Value), (am_sl as)[i]? = some (some v) → (k + i, am_cv b h v) ∈ lv_args k (as.map (am_cv b h)) := by
  intro as
  induction as with
  | nil => intro k i v hi; cases hi
  | cons a t ih =>
    intro k i v hi
    have two : am_sl (a :: t) = some a :: none :: am_sl t → a.category = 2 → (k + i, am_cv b h v) ∈ lv_args k ((a :: t).map (am_cv b h)) := by
      intro hs hc
      rw [hs] at hi
      show _ ∈ (k, am_cv b h a) :: lv_args (if (am_cv b h a).category = 2 then k + 2 else k + 1) (t.map (am_cv b h))
      rw [am_cat, if_pos hc]
      match i, hi with
      | 0, hi => cases hi; exact List.mem_cons_self
      | 1, hi => cases hi
      | j + 2, hi =>
        have := ih (k + 2) j v hi
        rw [show k + 2 + j = k + (j + 2) by omega] at this
        exact List.mem_cons_of_mem _ this
    have one : am_sl (a :: t) = some a :: am_sl t → ¬ a.category = 2 → (k + i, am_cv b h v) ∈ lv_args k ((a :: t).map (am_cv b h)) := by
      intro hs hc
      rw [hs] at hi
      show _ ∈ (k, am_cv b h a) :: lv_args (if (am_cv b h a).category = 2 then k + 2 else k + 1) (t.map (am_cv b h))
      rw [am_cat, if_neg hc]
      match i, hi with
      | 0, hi => cases hi; exact List.mem_cons_self
      | j + 1, hi =>
        have := ih (k + 1) j v hi
        rw [show k + 1 + j = k + (j + 1) by omega] at this
        exact List.mem_cons_of_mem _ this
    cases a <;> first | exact two rfl rfl | exact one rfl (by simp [Value.category])
theorem am_sl_len (b h : Nat) : ∀ as : List Value, (lg_sl (as.map (am_cv b h))).length = (am_sl as).length := by
  intro as
  induction as with
  | nil => rfl
  | cons a t ih =>
    have e : lg_sl ((a :: t).map (am_cv b h)) = (if (am_cv b h a).category = 2 then [.val (am_cv b h a), .second] else [.val (am_cv b h a)]) ++ lg_sl (t.map (am_cv b h)) := by
      unfold lg_sl; rw [List.map_cons, List.flatMap_cons]
    rw [e, am_cat, List.length_append, ih]
    cases a <;> simp [am_sl, Value.category] <;> omega
theorem am_entry_LV {b h nL : Nat} {as : List Value} (hl : (am_sl as).length ≤ nL) : am_LV b h (lg_sl (as.map (am_cv b h)) ++ List.replicate (nL - (lg_sl (as.map (am_cv b h))).length) Slot.unset).toArray nL (am_en nL as) := by
  have h1 := lv_entry (as.map (am_cv b h)) (n := nL) (by rw [am_sl_len]; exact hl)
  refine ⟨h1.1, by unfold am_en; rw [List.length_append, List.length_replicate]; omega, h1.2.1, fun i v hv => ?_⟩
  have hi : (am_sl as)[i]? = some (some v) := by
    unfold am_en at hv
    by_cases g : i < (am_sl as).length
    · rw [List.getElem?_append_left g] at hv; exact hv
    · rw [List.getElem?_append_right (by omega), List.getElem?_replicate] at hv
      split at hv
      · cases hv
      · cases hv
  have := am_entry_mem b h as 0 i v hi
  rw [Nat.zero_add] at this
  exact h1.2.2 _ this
theorem am_met (hG : am_GrOK l) : ∀ d : Nat, am_MetD l d := by
  intro d
  induction d with
  | zero => intro y as S I J r S' I' J' _ hR; exact hR.elim
  | succ d ih =>
    intro y as S I J r S' I' J' hy hR D cA b h L
    obtain ⟨hlen, k, hrun⟩ := hR
    obtain ⟨t1, t2, t3, t4, t5, t6, t7⟩ := am_ms_at hy
    refine Met.ofW (cc := am_by y) (maxL := am_ml y) (ret := am_rt y) t3 rfl ?_
    intro p e s m args below meth c s₁ B hml hv
    obtain ⟨rfl, hK, hP, hsz, hX, hbh, hk0, hL0, hO1, hO2, hO3⟩ := hv
    have hts := atoms_spec (ws := am_ws y) B.pre
    have hown : s.vm.findClass (am_cn (am_ow y)) = some m.cls := by rw [← t1]; exact findClass_of_methodNamed B.named
    have hin : am_isI y = true → meth.name = "<init>" := fun q => (name_of_methodNamed B.named B.method).1.trans (of_decide_eq_true q)
    have hlocks := B.notSynchronized
    have hr := B.returns
    have hx := B.exec
    have hb := B.bytes
    have hle := am_run_le (am_R_le d) _ _ _ _ _ _ _ hrun
    have h1 : 0 < S.length := am_kd_lt hk0 (by decide)
    rw [lg_entry_eq]
    refine am_so_run (D := D) (cA := cA) (b := b) (h := h) (L := L) (n0 := S.length) (z0 := am_nS S) hG ih (y := y) ⟨hx, hb, hml, hown, fun w hw => hts w (List.mem_cons_of_mem _ hw), hin, ?_, ?_⟩ ⟨Nat.le_refl _, ?_⟩ hsz ?_ ?_ ?_ k 0 _ [] S I J s.heap [] _ 0 0 hrun ⟨hK, hP, va_S.rf, hX, hbh, by omega, hk0, hL0, hO1, hO2, hO3⟩ (am_entry_LV hlen) rfl rfl
    · show 1 ≤ d + 1; omega
    · show 64 ≤ 64 * (d + 1); omega
    · show 64 * d + 35 ≤ 64 * (d + 1); omega
    · show S'.length ≤ S.length + (S'.length - S.length); omega
    · show am_nS S' ≤ am_nS S + (am_nS S' - am_nS S); omega
    · intro H locs arr pc i st Wd hd hre
      have hq : ∀ t : State, t.heap = H → s.WarmedH t.vm → am_Qc D cA b h r S' I' J' (as.map (am_cv b h)).toArray s (.returned (r.map (am_cv b h))) t := fun t ht hW => ⟨rfl, by rw [ht]; exact Wd.2.1, Wd.2.2.1.F ht⟩
      cases i
      case ireturn =>
        simp only [am_re] at hre
        split at hre
        · next q => cases hre; exact W.iret hx hb (by rw [hr, q]) hq Wd.2.2.1.2.2 hd
        · next q =>
          split at hre
          · next q2 => cases hre; exact W.zret hx hb (by rw [hr, q]) (am_bool_nar q2).1 hq Wd.2.2.1.2.2 hd
          · cases hre
        · cases hre
      case lreturn =>
        simp only [am_re] at hre
        split at hre
        · next q => cases hre; exact W.lret hx hb (by rw [hr, q]) hq Wd.2.2.1.2.2 hd
        · cases hre
      case return_ =>
        simp only [am_re] at hre
        split at hre
        · next q => cases hre; exact W.vret hx hb (by rw [hr, q]) hq Wd.2.2.1.2.2 hd
        · cases hre
      all_goals (exfalso; revert hre; simp [am_re])
end AMR
end
section
/-! the small machine's steps as equations: an instruction, a row -/
section TR
variable {d y pc n : Nat} {ls : am_L} {st : List Value} {S : am_S} {I : am_I} {J : am_J} {Q : am_Q} {x z v : Int32} {u w : Int64} {a b ci j k : Nat}
theorem tr_un {i : Instr} (hd : decode (am_by y) pc = .ok (i, n)) (hn : (am_isw i || n == am_iln i) = true) : am_T d y pc ls st S I J Q = am_go d y ls S I J Q (am_ex y pc n ls st S I J i) := by
  rw [am_T_un]
  congr 1
  unfold am_step
  rw [hd]
  show (if am_isw i = true ∨ n = am_iln i then _ else _) = _
  rw [if_pos (by simpa using hn)]
theorem tr_pu {i : Instr} {pc' : Nat} {ls' : am_L} {st' : List Value} (hd : decode (am_by y) pc = .ok (i, n)) (hn : (am_isw i || n == am_iln i) = true) (h : am_pu (am_ow y) pc ls st S I J i = some (pc', ls', st')) : am_T d y pc ls st S I J Q = am_T d y pc' ls' st' S I J Q := by
  rw [tr_un hd hn]; unfold am_ex; rw [h]; rfl
theorem tr_iconst {m : Int} (hd : decode (am_by y) pc = .ok (.iconst m, 1)) (hv : Int32.ofInt m = v) : am_T d y pc ls st S I J Q = am_T d y (pc + 1) ls (.int v :: st) S I J Q := tr_pu hd rfl (by subst hv; rfl)
theorem tr_bipush {m : Int} (hd : decode (am_by y) pc = .ok (.bipush m, 2)) (hv : (Int8.ofInt m).toInt32 = v) : am_T d y pc ls st S I J Q = am_T d y (pc + 2) ls (.int v :: st) S I J Q := tr_pu hd rfl (by subst hv; rfl)
theorem tr_sipush {m : Int} (hd : decode (am_by y) pc = .ok (.sipush m, 3)) (hv : (Int16.ofInt m).toInt32 = v) : am_T d y pc ls st S I J Q = am_T d y (pc + 3) ls (.int v :: st) S I J Q := tr_pu hd rfl (by subst hv; rfl)
theorem tr_lconst {m : Fin 2} (hd : decode (am_by y) pc = .ok (.lconst m, 1)) (hv : Int64.ofNat (m : Nat) = u) : am_T d y pc ls st S I J Q = am_T d y (pc + 1) ls (.long u :: st) S I J Q := tr_pu hd rfl (by subst hv; rfl)
theorem tr_ldc2 (hd : decode (am_by y) pc = .ok (.ldc2_w k, 3)) (hv : am_lc (am_ow y) k = some u) : am_T d y pc ls st S I J Q = am_T d y (pc + 3) ls (.long u :: st) S I J Q := tr_pu hd rfl (by simp only [am_pu, hv])
theorem tr_iload_n {m : Fin 4} (hd : decode (am_by y) pc = .ok (.iload_n m, 1)) (h : am_ld ls m = some (.int x)) : am_T d y pc ls st S I J Q = am_T d y (pc + 1) ls (.int x :: st) S I J Q := tr_pu hd rfl (by simp only [am_pu, am_ldi, h])
theorem tr_iload (hd : decode (am_by y) pc = .ok (.iload k, 2)) (h : am_ld ls k = some (.int x)) : am_T d y pc ls st S I J Q = am_T d y (pc + 2) ls (.int x :: st) S I J Q := tr_pu hd rfl (by simp only [am_pu, am_ldi, h])
theorem tr_lload_n {m : Fin 4} (hd : decode (am_by y) pc = .ok (.lload_n m, 1)) (h : am_ld ls m = some (.long u)) : am_T d y pc ls st S I J Q = am_T d y (pc + 1) ls (.long u :: st) S I J Q := tr_pu hd rfl (by simp only [am_pu, am_ldl, h])
theorem tr_lload (hd : decode (am_by y) pc = .ok (.lload k, 2)) (h : am_ld ls k = some (.long u)) : am_T d y pc ls st S I J Q = am_T d y (pc + 2) ls (.long u :: st) S I J Q := tr_pu hd rfl (by simp only [am_pu, am_ldl, h])
theorem tr_aload_n {m : Fin 4} (hd : decode (am_by y) pc = .ok (.aload_n m, 1)) (h : am_ld ls m = some (.ref a)) : am_T d y pc ls st S I J Q = am_T d y (pc + 1) ls (.ref a :: st) S I J Q := tr_pu hd rfl (by simp only [am_pu, am_lda, h])
theorem tr_aload (hd : decode (am_by y) pc = .ok (.aload k, 2)) (h : am_ld ls k = some (.ref a)) : am_T d y pc ls st S I J Q = am_T d y (pc + 2) ls (.ref a :: st) S I J Q := tr_pu hd rfl (by simp only [am_pu, am_lda, h])
theorem tr_istore_n {m : Fin 4} {ls' : am_L} (hd : decode (am_by y) pc = .ok (.istore_n m, 1)) (h : m < ls.length) (he : am_st1 ls m (.int x) = ls') : am_T d y pc ls (.int x :: st) S I J Q = am_T d y (pc + 1) ls' st S I J Q := tr_pu hd rfl (by subst he; simp [am_pu, am_sti, h])
theorem tr_istore {ls' : am_L} (hd : decode (am_by y) pc = .ok (.istore k, 2)) (h : k < ls.length) (he : am_st1 ls k (.int x) = ls') : am_T d y pc ls (.int x :: st) S I J Q = am_T d y (pc + 2) ls' st S I J Q := tr_pu hd rfl (by subst he; simp [am_pu, am_sti, h])
theorem tr_lstore_n {m : Fin 4} {ls' : am_L} (hd : decode (am_by y) pc = .ok (.lstore_n m, 1)) (h : m + 1 < ls.length) (he : am_st2 ls m (.long u) = ls') : am_T d y pc ls (.long u :: st) S I J Q = am_T d y (pc + 1) ls' st S I J Q := tr_pu hd rfl (by subst he; simp [am_pu, am_stl, h])
theorem tr_lstore {ls' : am_L} (hd : decode (am_by y) pc = .ok (.lstore k, 2)) (h : k + 1 < ls.length) (he : am_st2 ls k (.long u) = ls') : am_T d y pc ls (.long u :: st) S I J Q = am_T d y (pc + 2) ls' st S I J Q := tr_pu hd rfl (by subst he; simp [am_pu, am_stl, h])
theorem tr_astore_n {m : Fin 4} {ls' : am_L} (hd : decode (am_by y) pc = .ok (.astore_n m, 1)) (h : m < ls.length) (he : am_st1 ls m (.ref a) = ls') : am_T d y pc ls (.ref a :: st) S I J Q = am_T d y (pc + 1) ls' st S I J Q := tr_pu hd rfl (by subst he; simp [am_pu, am_sta, h])
theorem tr_astore {ls' : am_L} (hd : decode (am_by y) pc = .ok (.astore k, 2)) (h : k < ls.length) (he : am_st1 ls k (.ref a) = ls') : am_T d y pc ls (.ref a :: st) S I J Q = am_T d y (pc + 2) ls' st S I J Q := tr_pu hd rfl (by subst he; simp [am_pu, am_sta, h])
theorem tr_iinc {m : Int} {ls' : am_L} (hd : decode (am_by y) pc = .ok (.iinc k m, 3)) (h1 : am_ld ls k = some (.int x)) (h : k < ls.length) (hv : Int32.ofInt m = v) (he : am_st1 ls k (.int (x + v)) = ls') : am_T d y pc ls st S I J Q = am_T d y (pc + 3) ls' st S I J Q := tr_pu hd rfl (by subst he; subst hv; simp [am_pu, h, h1])
theorem tr_iadd (hd : decode (am_by y) pc = .ok (.iadd, 1)) : am_T d y pc ls (.int z :: .int x :: st) S I J Q = am_T d y (pc + 1) ls (.int (x + z) :: st) S I J Q := tr_pu hd rfl rfl
theorem tr_isub (hd : decode (am_by y) pc = .ok (.isub, 1)) : am_T d y pc ls (.int z :: .int x :: st) S I J Q = am_T d y (pc + 1) ls (.int (x - z) :: st) S I J Q := tr_pu hd rfl rfl
theorem tr_imul (hd : decode (am_by y) pc = .ok (.imul, 1)) : am_T d y pc ls (.int z :: .int x :: st) S I J Q = am_T d y (pc + 1) ls (.int (x * z) :: st) S I J Q := tr_pu hd rfl rfl
theorem tr_iand (hd : decode (am_by y) pc = .ok (.iand, 1)) : am_T d y pc ls (.int z :: .int x :: st) S I J Q = am_T d y (pc + 1) ls (.int (x &&& z) :: st) S I J Q := tr_pu hd rfl rfl
theorem tr_ior (hd : decode (am_by y) pc = .ok (.ior, 1)) : am_T d y pc ls (.int z :: .int x :: st) S I J Q = am_T d y (pc + 1) ls (.int (x ||| z) :: st) S I J Q := tr_pu hd rfl rfl
theorem tr_ixor (hd : decode (am_by y) pc = .ok (.ixor, 1)) : am_T d y pc ls (.int z :: .int x :: st) S I J Q = am_T d y (pc + 1) ls (.int (x ^^^ z) :: st) S I J Q := tr_pu hd rfl rfl
theorem tr_ishl (hd : decode (am_by y) pc = .ok (.ishl, 1)) : am_T d y pc ls (.int z :: .int x :: st) S I J Q = am_T d y (pc + 1) ls (.int (x <<< (z &&& 31)) :: st) S I J Q := tr_pu hd rfl rfl
theorem tr_ishr (hd : decode (am_by y) pc = .ok (.ishr, 1)) : am_T d y pc ls (.int z :: .int x :: st) S I J Q = am_T d y (pc + 1) ls (.int (x >>> (z &&& 31)) :: st) S I J Q := tr_pu hd rfl rfl
/-- an unsigned shift -/
def am_ush (x z : Int32) : Int32 := (x.toUInt32 >>> (z.toUInt32 &&& Int32.toUInt32 31)).toInt32
theorem tr_iushr (hd : decode (am_by y) pc = .ok (.iushr, 1)) : am_T d y pc ls (.int z :: .int x :: st) S I J Q = am_T d y (pc + 1) ls (.int (am_ush x z) :: st) S I J Q := tr_pu hd rfl rfl
theorem tr_ob {P : Prop} {pc' : Nat} {ls' : am_L} {st' : List Value} {i : Instr} (hd : decode (am_by y) pc = .ok (i, n)) (hn : (am_isw i || n == am_iln i) = true) (h : P → am_pu (am_ow y) pc ls st S I J i = some (pc', ls', st')) (h0 : ¬ P → am_ex y pc n ls st S I J i = none) : am_T d y pc ls st S I J Q = (P ∧ am_T d y pc' ls' st' S I J Q) := by
  by_cases g : P
  · rw [tr_pu hd hn (h g)]; simp [g]
  · rw [tr_un hd hn, h0 g]; simp [g, am_go]
theorem tr_irem (hd : decode (am_by y) pc = .ok (.irem, 1)) : am_T d y pc ls (.int z :: .int x :: st) S I J Q = (z ≠ 0 ∧ am_T d y (pc + 1) ls (.int (x - x / z * z) :: st) S I J Q) := by
  refine tr_ob hd rfl (fun h => ?_) (fun h => ?_)
  · simp only [am_pu, if_neg h]
  · simp only [am_ex, am_pu, if_pos (Decidable.not_not.mp h), am_me, am_gr, am_re, am_cv0]
theorem tr_ladd (hd : decode (am_by y) pc = .ok (.ladd, 1)) : am_T d y pc ls (.long w :: .long u :: st) S I J Q = am_T d y (pc + 1) ls (.long (u + w) :: st) S I J Q := tr_pu hd rfl rfl
theorem tr_lsub (hd : decode (am_by y) pc = .ok (.lsub, 1)) : am_T d y pc ls (.long w :: .long u :: st) S I J Q = am_T d y (pc + 1) ls (.long (u - w) :: st) S I J Q := tr_pu hd rfl rfl
theorem tr_lmul (hd : decode (am_by y) pc = .ok (.lmul, 1)) : am_T d y pc ls (.long w :: .long u :: st) S I J Q = am_T d y (pc + 1) ls (.long (u * w) :: st) S I J Q := tr_pu hd rfl rfl
theorem tr_ldiv (hd : decode (am_by y) pc = .ok (.ldiv, 1)) : am_T d y pc ls (.long w :: .long u :: st) S I J Q = (w ≠ 0 ∧ am_T d y (pc + 1) ls (.long (u / w) :: st) S I J Q) := by
  refine tr_ob hd rfl (fun h => ?_) (fun h => ?_)
  · simp only [am_pu, am_lld, if_neg h]
  · simp only [am_ex, am_pu, am_lld, if_pos (Decidable.not_not.mp h), am_me, am_gr, am_re, am_cv0]
theorem tr_lrem (hd : decode (am_by y) pc = .ok (.lrem, 1)) : am_T d y pc ls (.long w :: .long u :: st) S I J Q = (w ≠ 0 ∧ am_T d y (pc + 1) ls (.long (u - u / w * w) :: st) S I J Q) := by
  refine tr_ob hd rfl (fun h => ?_) (fun h => ?_)
  · simp only [am_pu, am_lld, if_neg h]
  · simp only [am_ex, am_pu, am_lld, if_pos (Decidable.not_not.mp h), am_me, am_gr, am_re, am_cv0]
theorem tr_lcmp (hd : decode (am_by y) pc = .ok (.lcmp, 1)) : am_T d y pc ls (.long w :: .long u :: st) S I J Q = am_T d y (pc + 1) ls (.int (lg_cmp u w) :: st) S I J Q := tr_pu hd rfl rfl
theorem tr_i2l (hd : decode (am_by y) pc = .ok (.i2l, 1)) : am_T d y pc ls (.int x :: st) S I J Q = am_T d y (pc + 1) ls (.long x.toInt64 :: st) S I J Q := tr_pu hd rfl rfl
theorem tr_l2i (hd : decode (am_by y) pc = .ok (.l2i, 1)) : am_T d y pc ls (.long u :: st) S I J Q = am_T d y (pc + 1) ls (.int u.toInt32 :: st) S I J Q := tr_pu hd rfl rfl
def am_i2c (x : Int32) : Int32 := (x.toUInt32 % 65536).toInt32
theorem tr_i2c (hd : decode (am_by y) pc = .ok (.i2c, 1)) : am_T d y pc ls (.int x :: st) S I J Q = am_T d y (pc + 1) ls (.int (am_i2c x) :: st) S I J Q := tr_pu hd rfl rfl
theorem tr_dupi (hd : decode (am_by y) pc = .ok (.dup, 1)) : am_T d y pc ls (.int x :: st) S I J Q = am_T d y (pc + 1) ls (.int x :: .int x :: st) S I J Q := tr_pu hd rfl rfl
theorem tr_dupa (hd : decode (am_by y) pc = .ok (.dup, 1)) : am_T d y pc ls (.ref a :: st) S I J Q = am_T d y (pc + 1) ls (.ref a :: .ref a :: st) S I J Q := tr_pu hd rfl rfl
theorem tr_dup2 (hd : decode (am_by y) pc = .ok (.dup2, 1)) : am_T d y pc ls (.int x :: .ref a :: st) S I J Q = am_T d y (pc + 1) ls (.int x :: .ref a :: .int x :: .ref a :: st) S I J Q := tr_pu hd rfl rfl
theorem tr_goto {o : Int} {t : Nat} (hd : decode (am_by y) pc = .ok (.goto o, 3)) (ht : am_tg pc o = some t) : am_T d y pc ls st S I J Q = am_T d y t ls st S I J Q := tr_pu hd rfl (by simp only [am_pu, ht])
theorem tr_if {P : Prop} [Decidable P] {t pc1 : Nat} {i : Instr} {st' : List Value} (hd : decode (am_by y) pc = .ok (i, n)) (hn : (am_isw i || n == am_iln i) = true) (h : am_pu (am_ow y) pc ls st S I J i = some (if P then t else pc1, ls, st')) : am_T d y pc ls st S I J Q = if P then am_T d y t ls st' S I J Q else am_T d y pc1 ls st' S I J Q := by
  rw [tr_pu hd hn h]
  by_cases g : P
  · rw [if_pos g, if_pos g]
  · rw [if_neg g, if_neg g]
theorem tr_ifeq {o : Int} {t : Nat} (hd : decode (am_by y) pc = .ok (.ifCond .eq o, 3)) (ht : am_tg pc o = some t) : am_T d y pc ls (.int x :: st) S I J Q = if x = 0 then am_T d y t ls st S I J Q else am_T d y (pc + 3) ls st S I J Q := tr_if hd rfl (by simp only [am_pu, am_if, am_br, ht])
theorem tr_ifne {o : Int} {t : Nat} (hd : decode (am_by y) pc = .ok (.ifCond .ne o, 3)) (ht : am_tg pc o = some t) : am_T d y pc ls (.int x :: st) S I J Q = if x = 0 then am_T d y (pc + 3) ls st S I J Q else am_T d y t ls st S I J Q := by
  rw [tr_if (P := x ≠ 0) (t := t) (pc1 := pc + 3) (st' := st) hd rfl (by simp only [am_pu, am_if, am_br, ht])]
  by_cases g : x = 0 <;> simp [g]
theorem tr_iflt {o : Int} {t : Nat} (hd : decode (am_by y) pc = .ok (.ifCond .lt o, 3)) (ht : am_tg pc o = some t) : am_T d y pc ls (.int x :: st) S I J Q = if x < 0 then am_T d y t ls st S I J Q else am_T d y (pc + 3) ls st S I J Q := tr_if hd rfl (by simp only [am_pu, am_if, am_br, ht])
theorem tr_ifge {o : Int} {t : Nat} (hd : decode (am_by y) pc = .ok (.ifCond .ge o, 3)) (ht : am_tg pc o = some t) : am_T d y pc ls (.int x :: st) S I J Q = if 0 ≤ x then am_T d y t ls st S I J Q else am_T d y (pc + 3) ls st S I J Q := tr_if hd rfl (by simp only [am_pu, am_if, am_br, ht])
theorem tr_ifgt {o : Int} {t : Nat} (hd : decode (am_by y) pc = .ok (.ifCond .gt o, 3)) (ht : am_tg pc o = some t) : am_T d y pc ls (.int x :: st) S I J Q = if 0 < x then am_T d y t ls st S I J Q else am_T d y (pc + 3) ls st S I J Q := tr_if hd rfl (by simp only [am_pu, am_if, am_br, ht])
theorem tr_ifle {o : Int} {t : Nat} (hd : decode (am_by y) pc = .ok (.ifCond .le o, 3)) (ht : am_tg pc o = some t) : am_T d y pc ls (.int x :: st) S I J Q = if x ≤ 0 then am_T d y t ls st S I J Q else am_T d y (pc + 3) ls st S I J Q := tr_if hd rfl (by simp only [am_pu, am_if, am_br, ht])
theorem tr_icmpeq {o : Int} {t : Nat} (hd : decode (am_by y) pc = .ok (.if_icmp .eq o, 3)) (ht : am_tg pc o = some t) : am_T d y pc ls (.int z :: .int x :: st) S I J Q = if x = z then am_T d y t ls st S I J Q else am_T d y (pc + 3) ls st S I J Q := tr_if hd rfl (by simp only [am_pu, am_if, am_br, ht])
theorem tr_icmpne {o : Int} {t : Nat} (hd : decode (am_by y) pc = .ok (.if_icmp .ne o, 3)) (ht : am_tg pc o = some t) : am_T d y pc ls (.int z :: .int x :: st) S I J Q = if x = z then am_T d y (pc + 3) ls st S I J Q else am_T d y t ls st S I J Q := by
  rw [tr_if (P := x ≠ z) (t := t) (pc1 := pc + 3) (st' := st) hd rfl (by simp only [am_pu, am_if, am_br, ht])]
  by_cases g : x = z <;> simp [g]
theorem tr_icmplt {o : Int} {t : Nat} (hd : decode (am_by y) pc = .ok (.if_icmp .lt o, 3)) (ht : am_tg pc o = some t) : am_T d y pc ls (.int z :: .int x :: st) S I J Q = if x < z then am_T d y t ls st S I J Q else am_T d y (pc + 3) ls st S I J Q := tr_if hd rfl (by simp only [am_pu, am_if, am_br, ht])
theorem tr_icmpge {o : Int} {t : Nat} (hd : decode (am_by y) pc = .ok (.if_icmp .ge o, 3)) (ht : am_tg pc o = some t) : am_T d y pc ls (.int z :: .int x :: st) S I J Q = if z ≤ x then am_T d y t ls st S I J Q else am_T d y (pc + 3) ls st S I J Q := tr_if hd rfl (by simp only [am_pu, am_if, am_br, ht])
theorem tr_icmpgt {o : Int} {t : Nat} (hd : decode (am_by y) pc = .ok (.if_icmp .gt o, 3)) (ht : am_tg pc o = some t) : am_T d y pc ls (.int z :: .int x :: st) S I J Q = if z < x then am_T d y t ls st S I J Q else am_T d y (pc + 3) ls st S I J Q := tr_if hd rfl (by simp only [am_pu, am_if, am_br, ht])
theorem tr_icmple {o : Int} {t : Nat} (hd : decode (am_by y) pc = .ok (.if_icmp .le o, 3)) (ht : am_tg pc o = some t) : am_T d y pc ls (.int z :: .int x :: st) S I J Q = if x ≤ z then am_T d y t ls st S I J Q else am_T d y (pc + 3) ls st S I J Q := tr_if hd rfl (by simp only [am_pu, am_if, am_br, ht])
/-- an object of a class; an array of a kind with an index within -/
def am_is (S : am_S) (a ci : Nat) : Prop := am_kd S a = ci ∧ a ≠ 0
def am_ix (S : am_S) (a kd : Nat) (i : Int32) : Prop := am_kd S a = kd ∧ 0 ≤ i.toInt ∧ i.toInt < (am_ln S a : Int)
def am_ixw (S : am_S) (a kd : Nat) (i : Int32) : Prop := am_kd S a = kd ∧ a ≠ 0 ∧ (0 ≤ i.toInt ∧ i.toInt < (am_ln S a : Int))
theorem tr_geti (hd : decode (am_by y) pc = .ok (.getfield k, 3)) (hf : am_fl (am_ow y) k = some (ci, j)) (ht : am_fty ci j = 0 ∨ am_fty ci j = 1) : am_T d y pc ls (.ref a :: st) S I J Q = (am_is S a ci ∧ am_T d y (pc + 3) ls (.int (I a j) :: st) S I J Q) := by
  refine tr_ob hd rfl (fun h => ?_) (fun h => ?_)
  · unfold am_is at h; rcases ht with e | e <;> simp only [am_pu, am_gf, hf, if_pos h, e]
  · unfold am_is at h; simp only [am_ex, am_pu, am_gf, hf, if_neg h, am_me, am_gr, am_re, am_cv0]
theorem tr_getl (hd : decode (am_by y) pc = .ok (.getfield k, 3)) (hf : am_fl (am_ow y) k = some (ci, j)) (ht : am_fty ci j = 2) : am_T d y pc ls (.ref a :: st) S I J Q = (am_is S a ci ∧ am_T d y (pc + 3) ls (.long (J a j) :: st) S I J Q) := by
  refine tr_ob hd rfl (fun h => ?_) (fun h => ?_)
  · unfold am_is at h; simp only [am_pu, am_gf, hf, if_pos h, ht]
  · unfold am_is at h; simp only [am_ex, am_pu, am_gf, hf, if_neg h, am_me, am_gr, am_re, am_cv0]
theorem tr_geta (hd : decode (am_by y) pc = .ok (.getfield k, 3)) (hf : am_fl (am_ow y) k = some (ci, j)) (ht : am_fty ci j = 3) : am_T d y pc ls (.ref a :: st) S I J Q = ((am_is S a ci ∧ am_rf S a j ≠ 0) ∧ am_T d y (pc + 3) ls (.ref (am_rf S a j) :: st) S I J Q) := by
  refine tr_ob hd rfl (fun h => ?_) (fun h => ?_)
  · unfold am_is at h; simp only [am_pu, am_gf, hf, if_pos h.1, ht, if_neg h.2]
  · unfold am_is at h
    by_cases g : am_kd S a = ci ∧ a ≠ 0
    · have g2 : am_rf S a j = 0 := Decidable.byContradiction fun q => h ⟨g, q⟩
      simp only [am_ex, am_pu, am_gf, hf, if_pos g, ht, if_pos g2, am_me, am_gr, am_re, am_cv0]
    · simp only [am_ex, am_pu, am_gf, hf, if_neg g, am_me, am_gr, am_re, am_cv0]
theorem tr_iald (hd : decode (am_by y) pc = .ok (.iaload, 1)) : am_T d y pc ls (.int x :: .ref a :: st) S I J Q = (am_ix S a 20 x ∧ am_T d y (pc + 1) ls (.int (I a x.toNatClampNeg) :: st) S I J Q) := by
  refine tr_ob hd rfl (fun h => ?_) (fun h => ?_)
  · unfold am_ix at h; simp only [am_pu, am_al, if_pos h]
  · unfold am_ix at h; simp only [am_ex, am_pu, am_al, if_neg h, am_me, am_gr, am_re, am_cv0]
theorem tr_bald (hd : decode (am_by y) pc = .ok (.baload, 1)) : am_T d y pc ls (.int x :: .ref a :: st) S I J Q = (am_ix S a 21 x ∧ am_T d y (pc + 1) ls (.int (I a x.toNatClampNeg) :: st) S I J Q) := by
  refine tr_ob hd rfl (fun h => ?_) (fun h => ?_)
  · unfold am_ix at h; simp only [am_pu, am_al, if_pos h]
  · unfold am_ix at h; simp only [am_ex, am_pu, am_al, if_neg h, am_me, am_gr, am_re, am_cv0]
theorem tr_cald (hd : decode (am_by y) pc = .ok (.caload, 1)) : am_T d y pc ls (.int x :: .ref a :: st) S I J Q = (am_ix S a 22 x ∧ am_T d y (pc + 1) ls (.int (I a x.toNatClampNeg) :: st) S I J Q) := by
  refine tr_ob hd rfl (fun h => ?_) (fun h => ?_)
  · unfold am_ix at h; simp only [am_pu, am_al, if_pos h]
  · unfold am_ix at h; simp only [am_ex, am_pu, am_al, if_neg h, am_me, am_gr, am_re, am_cv0]
theorem tr_lald (hd : decode (am_by y) pc = .ok (.laload, 1)) : am_T d y pc ls (.int x :: .ref a :: st) S I J Q = (am_ix S a 23 x ∧ am_T d y (pc + 1) ls (.long (J a x.toNatClampNeg) :: st) S I J Q) := by
  refine tr_ob hd rfl (fun h => ?_) (fun h => ?_)
  · unfold am_ix at h; simp only [am_pu, am_jl, if_pos h]
  · unfold am_ix at h; simp only [am_ex, am_pu, am_jl, if_neg h, am_me, am_gr, am_re, am_cv0]
/-- a row of references with an index within, and a reference there -/
def am_ixq (S : am_S) (a : Nat) (i : Int32) : Prop := (am_kd S a = 24 ∨ am_kd S a = 25) ∧ (0 ≤ i.toInt ∧ i.toInt < (am_ln S a : Int)) ∧ am_rf S a i.toNatClampNeg ≠ 0
theorem tr_aald (hd : decode (am_by y) pc = .ok (.aaload, 1)) : am_T d y pc ls (.int x :: .ref a :: st) S I J Q = (am_ixq S a x ∧ am_T d y (pc + 1) ls (.ref (am_rf S a x.toNatClampNeg) :: st) S I J Q) := by
  refine tr_ob hd rfl (fun h => ?_) (fun h => ?_)
  · unfold am_ixq at h; simp only [am_pu, am_ql, if_pos h]
  · unfold am_ixq at h; simp only [am_ex, am_pu, am_ql, if_neg h, am_me, am_gr, am_re, am_cv0]
theorem tr_alen (hd : decode (am_by y) pc = .ok (.arraylength, 1)) : am_T d y pc ls (.ref a :: st) S I J Q = (am_kd S a = 20 ∧ am_T d y (pc + 1) ls (.int (Int32.ofNat (am_ln S a)) :: st) S I J Q) := by
  refine tr_ob hd rfl (fun h => ?_) (fun h => ?_)
  · simp only [am_pu, if_pos h]
  · simp only [am_ex, am_pu, if_neg h, am_me, am_gr, am_re, am_cv0]
theorem tr_oinit (hd : decode (am_by y) pc = .ok (.invokespecial k, 3)) (hv : am_iv (am_ow y) k = some (5, 0)) (hc : am_ct st ≤ 8) : am_T d y pc ls (.ref a :: st) S I J Q = am_T d y (pc + 3) ls st S I J Q := tr_pu hd rfl (by simp [am_pu, hv, hc])
theorem tr_max (hd : decode (am_by y) pc = .ok (.invokestatic k, 3)) (hv : am_iv (am_ow y) k = some (6, 0)) (hc : am_ct st ≤ 8) : am_T d y pc ls (.int z :: .int x :: st) S I J Q = am_T d y (pc + 3) ls (.int (if x < z then z else x) :: st) S I J Q := tr_pu hd rfl (by simp [am_pu, hv, hc])
-- writes
theorem tr_me {P : Prop} {ls' : am_L} {st' : List Value} {S' : am_S} {I' : am_I} {J' : am_J} {i : Instr} (hd : decode (am_by y) pc = .ok (i, n)) (hn : (am_isw i || n == am_iln i) = true) (hp : am_pu (am_ow y) pc ls st S I J i = none) (h : P → am_me y (am_ow y) ls st S I J i = some (ls', st', S', I', J')) (h0 : ¬ P → am_ex y pc n ls st S I J i = none) : am_T d y pc ls st S I J Q = (P ∧ am_T d y (pc + n) ls' st' S' I' J' Q) := by
  by_cases g : P
  · rw [tr_un hd hn]; unfold am_ex; rw [hp, h g]; simp [g, am_go]
  · rw [tr_un hd hn, h0 g]; simp [g, am_go]
theorem tr_puti (hd : decode (am_by y) pc = .ok (.putfield k, 3)) (hf : am_fl (am_ow y) k = some (ci, j)) (ht : am_fty ci j = 0) (ho : am_fo y ci j = true) : am_T d y pc ls (.int x :: .ref a :: st) S I J Q = (am_is S a ci ∧ am_T d y (pc + 3) ls st S (am_up I a j x) J Q) := by
  refine tr_me hd rfl rfl (fun h => ?_) (fun h => ?_)
  · unfold am_is at h; simp [am_me, am_pf, hf, ht, ho, h]
  · unfold am_is at h; simp only [am_ex, am_pu, am_me, am_pf, hf]; rw [if_neg (fun q => h ⟨q.2.1, q.2.2.1⟩)]; rfl
theorem tr_putz (hd : decode (am_by y) pc = .ok (.putfield k, 3)) (hf : am_fl (am_ow y) k = some (ci, j)) (ht : am_fty ci j = 1) (ho : am_fo y ci j = true) : am_T d y pc ls (.int x :: .ref a :: st) S I J Q = ((am_is S a ci ∧ (x = 0 ∨ x = 1)) ∧ am_T d y (pc + 3) ls st S (am_up I a j x) J Q) := by
  refine tr_me hd rfl rfl (fun h => ?_) (fun h => ?_)
  · unfold am_is at h; simp [am_me, am_pf, hf, ht, ho, h]
  · unfold am_is at h; simp only [am_ex, am_pu, am_me, am_pf, hf]; rw [if_neg (fun q => h ⟨⟨q.2.1, q.2.2.1⟩, q.2.2.2.elim (fun e => by rw [ht] at e; cases e) (fun e => e.2)⟩)]; rfl
theorem tr_putl (hd : decode (am_by y) pc = .ok (.putfield k, 3)) (hf : am_fl (am_ow y) k = some (ci, j)) (ht : am_fty ci j = 2) (ho : am_fo y ci j = true) : am_T d y pc ls (.long u :: .ref a :: st) S I J Q = (am_is S a ci ∧ am_T d y (pc + 3) ls st S I (am_up J a j u) Q) := by
  refine tr_me hd rfl rfl (fun h => ?_) (fun h => ?_)
  · unfold am_is at h; simp [am_me, am_pf, hf, ht, ho, h]
  · unfold am_is at h; simp only [am_ex, am_pu, am_me, am_pf, hf]; rw [if_neg (fun q => h ⟨q.2.1, q.2.2.1⟩)]; rfl
theorem tr_puta (hd : decode (am_by y) pc = .ok (.putfield k, 3)) (hf : am_fl (am_ow y) k = some (ci, j)) (ht : am_fty ci j = 3) (ho : am_fo y ci j = true) : am_T d y pc ls (.ref b :: .ref a :: st) S I J Q = ((am_is S a ci ∧ b ≠ 0 ∧ b < S.length) ∧ am_T d y (pc + 3) ls st (am_sr S a j b) I J Q) := by
  refine tr_me hd rfl rfl (fun h => ?_) (fun h => ?_)
  · unfold am_is at h; simp [am_me, am_pf, hf, ht, ho, h]
  · unfold am_is at h; simp only [am_ex, am_pu, am_me, am_pf, hf]; rw [if_neg (fun q => h ⟨⟨q.2.1, q.2.2.1⟩, q.2.2.2.2⟩)]; rfl
theorem tr_iast (hd : decode (am_by y) pc = .ok (.iastore, 1)) : am_T d y pc ls (.int z :: .int x :: .ref a :: st) S I J Q = (am_ixw S a 20 x ∧ am_T d y (pc + 1) ls st S (am_up I a x.toNatClampNeg z) J Q) := by
  refine tr_me hd rfl rfl (fun h => ?_) (fun h => ?_)
  · unfold am_ixw at h; simp only [am_me, am_as, if_pos h]
  · unfold am_ixw at h; simp only [am_ex, am_pu, am_me, am_as, if_neg h, am_gr, am_re, am_cv0]
theorem tr_bast (hd : decode (am_by y) pc = .ok (.bastore, 1)) : am_T d y pc ls (.int z :: .int x :: .ref a :: st) S I J Q = ((am_ixw S a 21 x ∧ (z = 0 ∨ z = 1)) ∧ am_T d y (pc + 1) ls st S (am_up I a x.toNatClampNeg z) J Q) := by
  refine tr_me hd rfl rfl (fun h => ?_) (fun h => ?_)
  · unfold am_ixw at h; simp only [am_me, am_as, if_pos h.2, if_pos h.1]
  · unfold am_ixw at h
    by_cases g : z = 0 ∨ z = 1
    · simp only [am_ex, am_pu, am_me, am_as, if_pos g]; rw [if_neg (fun q => h ⟨q, g⟩)]; rfl
    · simp only [am_ex, am_pu, am_me, if_neg g, am_gr, am_re, am_cv0]
theorem tr_cast (hd : decode (am_by y) pc = .ok (.castore, 1)) : am_T d y pc ls (.int z :: .int x :: .ref a :: st) S I J Q = ((am_ixw S a 22 x ∧ am_i2c z = z) ∧ am_T d y (pc + 1) ls st S (am_up I a x.toNatClampNeg z) J Q) := by
  refine tr_me hd rfl rfl (fun h => ?_) (fun h => ?_)
  · unfold am_ixw am_i2c at h; simp only [am_me, am_as, if_pos h.2, if_pos h.1]
  · unfold am_ixw am_i2c at h
    by_cases g : (z.toUInt32 % 65536).toInt32 = z
    · simp only [am_ex, am_pu, am_me, am_as, if_pos g]; rw [if_neg (fun q => h ⟨q, g⟩)]; rfl
    · simp only [am_ex, am_pu, am_me, if_neg g, am_gr, am_re, am_cv0]
theorem tr_last (hd : decode (am_by y) pc = .ok (.lastore, 1)) : am_T d y pc ls (.long u :: .int x :: .ref a :: st) S I J Q = (am_ixw S a 23 x ∧ am_T d y (pc + 1) ls st S I (am_up J a x.toNatClampNeg u) Q) := by
  refine tr_me hd rfl rfl (fun h => ?_) (fun h => ?_)
  · unfold am_ixw at h; simp only [am_me, if_pos h]
  · unfold am_ixw at h; simp only [am_ex, am_pu, am_me, if_neg h, am_gr, am_re, am_cv0]
theorem tr_aast (hd : decode (am_by y) pc = .ok (.aastore, 1)) : am_T d y pc ls (.ref b :: .int x :: .ref a :: st) S I J Q = ((am_kd S a = 24 ∧ a ≠ 0 ∧ (0 ≤ x.toInt ∧ x.toInt < (am_ln S a : Int)) ∧ am_kd S b = 6 ∧ b ≠ 0) ∧ am_T d y (pc + 1) ls st (am_sr S a x.toNatClampNeg b) I J Q) := by
  refine tr_me hd rfl rfl (fun h => ?_) (fun h => ?_)
  · simp only [am_me, if_pos h]
  · simp only [am_ex, am_pu, am_me, if_neg h, am_gr, am_re, am_cv0]
theorem tr_new (hd : decode (am_by y) pc = .ok (.new k, 3)) (hf : am_ck (am_ow y) k = some ci) : am_T d y pc ls st S I J Q = am_T d y (pc + 3) ls (.ref S.length :: st) (S ++ [(ci, am_nf ci, fun _ => 0)]) (am_row I S.length (fun _ => 0)) (am_row J S.length (fun _ => 0)) Q := by
  rw [tr_un hd rfl]; simp only [am_ex, am_pu, am_me, hf]; rfl
theorem tr_newa {t : ArrayType} (hd : decode (am_by y) pc = .ok (.newarray t, 2)) (ht : am_atk t < 99) : am_T d y pc ls (.int x :: st) S I J Q = ((0 ≤ x.toInt ∧ x.toInt < 10000) ∧ am_T d y (pc + 2) ls (.ref S.length :: st) (S ++ [(am_atk t, x.toNatClampNeg, fun _ => 0)]) (am_row I S.length (fun _ => 0)) (am_row J S.length (fun _ => 0)) Q) := by
  refine tr_me hd rfl rfl (fun h => ?_) (fun h => ?_)
  · simp only [am_me, if_pos (And.intro ht h)]; rfl
  · simp only [am_ex, am_pu, am_me, if_neg (fun q : _ ∧ _ => h q.2), am_gr, am_re, am_cv0]
theorem tr_newq (hd : decode (am_by y) pc = .ok (.anewarray k, 3)) (hf : am_ck (am_ow y) k = some 6) : am_T d y pc ls (.int x :: st) S I J Q = ((0 ≤ x.toInt ∧ x.toInt < 10000) ∧ am_T d y (pc + 3) ls (.ref S.length :: st) (S ++ [(24, x.toNatClampNeg, fun _ => 0)]) (am_row I S.length (fun _ => 0)) (am_row J S.length (fun _ => 0)) Q) := by
  refine tr_me hd rfl rfl (fun h => ?_) (fun h => ?_)
  · simp only [am_me, if_pos (And.intro hf h)]; rfl
  · simp only [am_ex, am_pu, am_me, if_neg (fun q : _ ∧ _ => h q.2), am_gr, am_re, am_cv0]
theorem tr_grid (hd : decode (am_by y) pc = .ok (.multianewarray 9 2, 4)) (hw : am_ow y = 7) : am_T d y pc ls (.int z :: .int x :: st) S I J Q = (((0 ≤ x.toInt ∧ x.toInt < 100) ∧ 0 ≤ z.toInt ∧ z.toInt < 100) ∧ am_T d y (pc + 4) ls (.ref S.length :: st) (am_grow S x.toNatClampNeg z.toNatClampNeg) (am_clean I S.length 0) (am_clean J S.length 0) Q) := by
  by_cases g : (0 ≤ x.toInt ∧ x.toInt < 100) ∧ 0 ≤ z.toInt ∧ z.toInt < 100
  · have e : am_gr (am_ow y) ls (.int z :: .int x :: st) S I J (.multianewarray 9 2) = some (ls, .ref S.length :: st, am_grow S x.toNatClampNeg z.toNatClampNeg, am_clean I S.length 0, am_clean J S.length 0) := by
      simp [am_gr, hw, g]
    rw [tr_un hd rfl]; simp only [am_ex, am_pu, am_me, e]; simp [g, am_go]
  · have e : am_gr (am_ow y) ls (.int z :: .int x :: st) S I J (.multianewarray 9 2) = none := by
      simp only [am_gr]; rw [if_neg (fun q => g q.2.2.2)]
    rw [tr_un hd rfl]; simp only [am_ex, am_pu, am_me, e, am_re, am_cv0]; simp [g, am_go]
/-- copying within rows -/
def am_cpy (S : am_S) (a b : Nat) (sp dp m : Int32) : Prop := am_kd S a = 20 ∧ am_kd S b = 20 ∧ a ≠ 0 ∧ b ≠ 0 ∧ (0 ≤ m.toInt ∧ 0 ≤ dp.toInt ∧ 0 ≤ sp.toInt) ∧ sp.toInt + m.toInt ≤ (am_ln S b : Int) ∧ dp.toInt + m.toInt ≤ (am_ln S a : Int)
theorem tr_copy {sp dp m : Int32} (hd : decode (am_by y) pc = .ok (.invokestatic k, 3)) (hv : am_iv (am_ow y) k = some (7, 0)) (hc : am_ct st ≤ 8) : am_T d y pc ls (.int m :: .int dp :: .ref a :: .int sp :: .ref b :: st) S I J Q = (am_cpy S a b sp dp m ∧ am_T d y (pc + 3) ls st S (am_row I a (va_cpy (I b) (I a) sp.toNatClampNeg dp.toNatClampNeg m.toNatClampNeg)) J Q) := by
  have hp : am_pu (am_ow y) pc ls (.int m :: .int dp :: .ref a :: .int sp :: .ref b :: st) S I J (.invokestatic k) = none := by
    simp only [am_pu]; rw [if_neg (fun q => by rw [hv] at q; exact absurd q.1 (by simp))]
  refine tr_me hd rfl hp (fun h => ?_) (fun h => ?_)
  · obtain ⟨h1, h2, h3, h4, h5, h6, h7⟩ := h
    simp only [am_me]; rw [if_pos ⟨hv, h1, h2, h3, h4, h5, h6, h7, hc⟩]
  · have hm : am_me y (am_ow y) ls (.int m :: .int dp :: .ref a :: .int sp :: .ref b :: st) S I J (.invokestatic k) = none := by
      simp only [am_me]; rw [if_neg (fun q => h ⟨q.2.1, q.2.2.1, q.2.2.2.1, q.2.2.2.2.1, q.2.2.2.2.2.1, q.2.2.2.2.2.2.1, q.2.2.2.2.2.2.2.1⟩)]
    simp only [am_ex, hp, hm, am_gr, am_re, am_cv0, hv]
-- returns
theorem tr_re {i : Instr} {r : Option Value} (hd : decode (am_by y) pc = .ok (i, n)) (hn : (am_isw i || n == am_iln i) = true) (h : am_ex y pc n ls st S I J i = some (.inr (.inl r))) : am_T d y pc ls st S I J Q = Q r S I J := by rw [tr_un hd hn, h]; rfl
theorem tr_ireti (hd : decode (am_by y) pc = .ok (.ireturn, 1)) (hr : am_rt y = some .int) : am_T d y pc ls [.int x] S I J Q = Q (some (.int x)) S I J := tr_re hd rfl (by simp only [am_ex, am_pu, am_me, am_gr, am_re, hr])
theorem tr_iretz (hd : decode (am_by y) pc = .ok (.ireturn, 1)) (hr : am_rt y = some .boolean) : am_T d y pc ls [.int x] S I J Q = ((x = 0 ∨ x = 1) ∧ Q (some (.int x)) S I J) := by
  by_cases g : x = 0 ∨ x = 1
  · rw [tr_re (r := some (.int x)) hd rfl (by simp only [am_ex, am_pu, am_me, am_gr, am_re, hr, if_pos g])]; simp [g]
  · rw [tr_un hd rfl]; simp only [am_ex, am_pu, am_me, am_gr, am_re, hr, if_neg g, am_cv0]; simp [g, am_go]
theorem tr_lret (hd : decode (am_by y) pc = .ok (.lreturn, 1)) (hr : am_rt y = some .long) : am_T d y pc ls [.long u] S I J Q = Q (some (.long u)) S I J := tr_re hd rfl (by simp only [am_ex, am_pu, am_me, am_gr, am_re, hr])
theorem tr_vret (hd : decode (am_by y) pc = .ok (.return_, 1)) (hr : am_rt y = none) : am_T d y pc ls [] S I J Q = Q none S I J := tr_re hd rfl (by simp only [am_ex, am_pu, am_me, am_gr, am_re, hr])
-- calls
theorem tr_call {i : Instr} {y1 : Nat} {as st' : List Value} (hd : decode (am_by y) pc = .ok (i, n)) (hn : (am_isw i || n == am_iln i) = true) (h1 : am_pu (am_ow y) pc ls st S I J i = none) (h2 : am_me y (am_ow y) ls st S I J i = none) (h3 : am_gr (am_ow y) ls st S I J i = none) (h4 : am_re y st i = none) (h5 : am_cv0 (am_ow y) st S i = some (y1, as, st')) : am_T d y pc ls st S I J Q = am_C d y1 as S I J (fun r S1 I1 J1 => am_T d y (pc + n) ls (am_psh r st') S1 I1 J1 Q) := by
  rw [tr_un hd hn]; unfold am_ex; rw [h1, h2, h3, h4, h5]; rfl
theorem tr_virt {y1 : Nat} {as st' : List Value} (hd : decode (am_by y) pc = .ok (.invokevirtual k, 3)) (hv : am_iv (am_ow y) k = some (0, y1)) (hdr : st.drop (am_np y1) = .ref a :: st') (has : (st.take (am_np y1)).reverse = as) (hc : am_ct st' ≤ 8) (ho : am_ow y1 = ci) : am_T d y pc ls st S I J Q = (am_is S a ci ∧ am_C d y1 (.ref a :: as) S I J (fun r S1 I1 J1 => am_T d y (pc + 3) ls (am_psh r st') S1 I1 J1 Q)) := by
  subst ho
  by_cases g : am_is S a (am_ow y1)
  · rw [tr_call hd rfl rfl rfl rfl rfl (by unfold am_is at g; simp only [am_cv0, hv, hdr]; rw [if_pos ⟨g.1, g.2, hc⟩, has])]; simp [g]
  · have : am_cv0 (am_ow y) st S (.invokevirtual k) = none := by unfold am_is at g; simp only [am_cv0, hv, hdr]; rw [if_neg (fun q => g ⟨q.1, q.2.1⟩)]
    rw [tr_un hd rfl]; simp only [am_ex, am_pu, am_me, am_gr, am_re, this]; simp [g, am_go]
theorem tr_pu_no (hv : am_iv (am_ow y) k = some (b, j)) (hb : b ≠ 6 ∧ b ≠ 7) : am_pu (am_ow y) pc ls st S I J (.invokestatic k) = none ∧ am_me y (am_ow y) ls st S I J (.invokestatic k) = none := by
  constructor
  · simp only [am_pu]
    split
    · rw [if_neg (fun q => by rw [hv] at q; exact hb.1 (congrArg Prod.fst (Option.some.inj q.1)))]
    · rfl
  · simp only [am_me]
    split
    · rw [if_neg (fun q => by rw [hv] at q; exact hb.2 (congrArg Prod.fst (Option.some.inj q.1)))]
    · rfl
theorem tr_stat {y1 : Nat} {as st' : List Value} (hd : decode (am_by y) pc = .ok (.invokestatic k, 3)) (hv : am_iv (am_ow y) k = some (1, y1) ∨ am_iv (am_ow y) k = some (4, y1)) (hl : am_np y1 ≤ st.length) (hdr : st.drop (am_np y1) = st') (has : (st.take (am_np y1)).reverse = as) (hc : am_ct st' ≤ 8) : am_T d y pc ls st S I J Q = am_C d y1 as S I J (fun r S1 I1 J1 => am_T d y (pc + 3) ls (am_psh r st') S1 I1 J1 Q) := by
  subst hdr; subst has
  rcases hv with hv | hv
  · exact tr_call hd rfl (tr_pu_no hv (by decide)).1 (tr_pu_no (pc := pc) hv (by decide)).2 rfl rfl (by simp only [am_cv0, hv]; rw [if_pos ⟨hl, hc⟩])
  · exact tr_call hd rfl (tr_pu_no hv (by decide)).1 (tr_pu_no (pc := pc) hv (by decide)).2 rfl rfl (by simp only [am_cv0, hv]; rw [if_pos ⟨hl, hc⟩])
theorem tr_spec {y1 : Nat} {as st' : List Value} (hd : decode (am_by y) pc = .ok (.invokespecial k, 3)) (hv : am_iv (am_ow y) k = some (2, y1) ∨ am_iv (am_ow y) k = some (3, y1)) (hdr : st.drop (am_np y1) = .ref a :: st') (has : (st.take (am_np y1)).reverse = as) (hc : am_ct st' ≤ 8) : am_T d y pc ls st S I J Q = am_C d y1 (.ref a :: as) S I J (fun r S1 I1 J1 => am_T d y (pc + 3) ls (am_psh r st') S1 I1 J1 Q) := by
  have hno : am_pu (am_ow y) pc ls st S I J (.invokespecial k) = none := by
    simp only [am_pu]
    split
    · rw [if_neg (fun q => by rcases hv with hv | hv <;> (rw [hv] at q; exact absurd q.1 (by simp)))]
    · rfl
  subst has
  rcases hv with hv | hv
  · exact tr_call hd rfl hno rfl rfl rfl (by simp only [am_cv0, hv, hdr]; rw [if_pos hc])
  · exact tr_call hd rfl hno rfl rfl rfl (by simp only [am_cv0, hv, hdr]; rw [if_pos hc])
theorem tr_en {as : List Value} {ls' : am_L} (h : (am_sl as).length ≤ am_ml y) (he : am_en (am_ml y) as = ls') : am_C (d + 1) y as S I J Q = am_T d y 0 ls' [] S I J Q := by
  subst he; exact am_C_un d y as S I J Q h
end TR
end
section
section RU
variable {d : Nat} {ls : am_L} {l0 l1 l2 l3 l4 l5 l6 l7 : Option Value} {st : List Value} {S : am_S} {I : am_I} {J : am_J} {Q : am_Q} {x0 x1 x2 x3 x4 x10 x11 x12 : Int32} {u0 u1 u2 u10 u11 : Int64} {a0 a1 a2 a3 a10 a11 a12 : Nat}
-- 10 Gra.<init>()V; heads []
theorem e10 : am_C (d + 1) 10 [.ref a0] S I J Q = am_T d 10 0 [some (.ref a0)] [] S I J Q := tr_en (Nat.le_of_ble_eq_true rfl) rfl
theorem r10_0 : am_T d 10 0 [some (.ref a0)] st S I J Q = am_T d 10 1 [some (.ref a0)] (.ref a0 :: st) S I J Q := tr_aload_n (m := 0) (by decide +kernel) rfl
theorem r10_1 : am_T d 10 1 ls [.ref a0] S I J Q = am_T d 10 4 ls [] S I J Q := tr_oinit (k := 3) (by decide +kernel) (by decide +kernel) (Nat.le_of_ble_eq_true rfl)
theorem r10_4 : am_T d 10 4 [some (.ref a0)] st S I J Q = am_T d 10 5 [some (.ref a0)] (.ref a0 :: st) S I J Q := tr_aload_n (m := 0) (by decide +kernel) rfl
theorem r10_5 : am_T d 10 5 ls st S I J Q = am_T d 10 7 ls (.int 32 :: st) S I J Q := tr_bipush (m := 32) (by decide +kernel) (by decide)
theorem r10_7 : am_T d 10 7 ls (.int x0 :: st) S I J Q = ((0 ≤ x0.toInt ∧ x0.toInt < 10000) ∧ am_T d 10 9 ls (.ref S.length :: st) (S ++ [(20, x0.toNatClampNeg, fun _ => 0)]) (am_row I S.length (fun _ => 0)) (am_row J S.length (fun _ => 0)) Q) := tr_newa (t := .int) (by decide +kernel) (by decide)
theorem r10_9 : am_T d 10 9 ls (.ref a1 :: .ref a0 :: st) S I J Q = ((am_is S a0 1 ∧ a1 ≠ 0 ∧ a1 < S.length) ∧ am_T d 10 12 ls st (am_sr S a0 3 a1) I J Q) := tr_puta (k := 9) (by decide +kernel) (by decide +kernel) (by decide +kernel) (by decide +kernel)
theorem r10_12 : am_T d 10 12 [some (.ref a0)] st S I J Q = am_T d 10 13 [some (.ref a0)] (.ref a0 :: st) S I J Q := tr_aload_n (m := 0) (by decide +kernel) rfl
theorem r10_13 : am_T d 10 13 ls st S I J Q = am_T d 10 15 ls (.int 32 :: st) S I J Q := tr_bipush (m := 32) (by decide +kernel) (by decide)
theorem r10_15 : am_T d 10 15 ls (.int x0 :: st) S I J Q = ((0 ≤ x0.toInt ∧ x0.toInt < 10000) ∧ am_T d 10 17 ls (.ref S.length :: st) (S ++ [(20, x0.toNatClampNeg, fun _ => 0)]) (am_row I S.length (fun _ => 0)) (am_row J S.length (fun _ => 0)) Q) := tr_newa (t := .int) (by decide +kernel) (by decide)
theorem r10_17 : am_T d 10 17 ls (.ref a1 :: .ref a0 :: st) S I J Q = ((am_is S a0 1 ∧ a1 ≠ 0 ∧ a1 < S.length) ∧ am_T d 10 20 ls st (am_sr S a0 4 a1) I J Q) := tr_puta (k := 15) (by decide +kernel) (by decide +kernel) (by decide +kernel) (by decide +kernel)
theorem r10_20 : am_T d 10 20 [some (.ref a0)] st S I J Q = am_T d 10 21 [some (.ref a0)] (.ref a0 :: st) S I J Q := tr_aload_n (m := 0) (by decide +kernel) rfl
theorem r10_21 : am_T d 10 21 ls st S I J Q = am_T d 10 23 ls (.int 32 :: st) S I J Q := tr_bipush (m := 32) (by decide +kernel) (by decide)
theorem r10_23 : am_T d 10 23 ls (.int x0 :: st) S I J Q = ((0 ≤ x0.toInt ∧ x0.toInt < 10000) ∧ am_T d 10 25 ls (.ref S.length :: st) (S ++ [(20, x0.toNatClampNeg, fun _ => 0)]) (am_row I S.length (fun _ => 0)) (am_row J S.length (fun _ => 0)) Q) := tr_newa (t := .int) (by decide +kernel) (by decide)
theorem r10_25 : am_T d 10 25 ls (.ref a1 :: .ref a0 :: st) S I J Q = ((am_is S a0 1 ∧ a1 ≠ 0 ∧ a1 < S.length) ∧ am_T d 10 28 ls st (am_sr S a0 5 a1) I J Q) := tr_puta (k := 18) (by decide +kernel) (by decide +kernel) (by decide +kernel) (by decide +kernel)
theorem r10_28 : am_T d 10 28 [some (.ref a0)] st S I J Q = am_T d 10 29 [some (.ref a0)] (.ref a0 :: st) S I J Q := tr_aload_n (m := 0) (by decide +kernel) rfl
theorem r10_29 : am_T d 10 29 ls st S I J Q = am_T d 10 31 ls (.int 8 :: st) S I J Q := tr_bipush (m := 8) (by decide +kernel) (by decide)
theorem r10_31 : am_T d 10 31 ls (.int x0 :: st) S I J Q = ((0 ≤ x0.toInt ∧ x0.toInt < 10000) ∧ am_T d 10 33 ls (.ref S.length :: st) (S ++ [(20, x0.toNatClampNeg, fun _ => 0)]) (am_row I S.length (fun _ => 0)) (am_row J S.length (fun _ => 0)) Q) := tr_newa (t := .int) (by decide +kernel) (by decide)
theorem r10_33 : am_T d 10 33 ls (.ref a1 :: .ref a0 :: st) S I J Q = ((am_is S a0 1 ∧ a1 ≠ 0 ∧ a1 < S.length) ∧ am_T d 10 36 ls st (am_sr S a0 6 a1) I J Q) := tr_puta (k := 21) (by decide +kernel) (by decide +kernel) (by decide +kernel) (by decide +kernel)
theorem r10_36 : am_T d 10 36 [some (.ref a0)] st S I J Q = am_T d 10 37 [some (.ref a0)] (.ref a0 :: st) S I J Q := tr_aload_n (m := 0) (by decide +kernel) rfl
theorem r10_37 : am_T d 10 37 ls st S I J Q = am_T d 10 38 ls (.int 5 :: st) S I J Q := tr_iconst (m := 5) (by decide +kernel) (by decide)
theorem r10_38 : am_T d 10 38 ls st S I J Q = am_T d 10 39 ls (.int 0 :: st) S I J Q := tr_iconst (m := 0) (by decide +kernel) (by decide)
theorem r10_39 : am_T d 10 39 ls [.int x2, .int x1, .ref a0] S I J Q = (am_is S a0 1 ∧ am_C d 11 [.ref a0, .int x1, .int x2] S I J (fun r S I J => am_T d 10 42 ls (am_psh r []) S I J Q)) := tr_virt (k := 24) (by decide +kernel) (by decide +kernel) rfl rfl (Nat.le_of_ble_eq_true rfl) (by decide +kernel)
theorem r10_42 : am_T d 10 42 ls [] S I J Q = Q none S I J := tr_vret (by decide +kernel) (by decide +kernel)
-- 11 Gra.clear(II)V; heads [17]
theorem e11 : am_C (d + 1) 11 [.ref a0, .int x1, .int x2] S I J Q = am_T d 11 0 [some (.ref a0), some (.int x1), some (.int x2), none] [] S I J Q := tr_en (Nat.le_of_ble_eq_true rfl) rfl
theorem r11_0 : am_T d 11 0 [some (.ref a0), l1, l2, l3] st S I J Q = am_T d 11 1 [some (.ref a0), l1, l2, l3] (.ref a0 :: st) S I J Q := tr_aload_n (m := 0) (by decide +kernel) rfl
theorem r11_1 : am_T d 11 1 [l0, some (.int x0), l2, l3] st S I J Q = am_T d 11 2 [l0, some (.int x0), l2, l3] (.int x0 :: st) S I J Q := tr_iload_n (m := 1) (by decide +kernel) rfl
theorem r11_2 : am_T d 11 2 ls (.int x0 :: .ref a0 :: st) S I J Q = (am_is S a0 1 ∧ am_T d 11 5 ls st S (am_up I a0 0 x0) J Q) := tr_puti (k := 28) (by decide +kernel) (by decide +kernel) (by decide +kernel) (by decide +kernel)
theorem r11_5 : am_T d 11 5 [some (.ref a0), l1, l2, l3] st S I J Q = am_T d 11 6 [some (.ref a0), l1, l2, l3] (.ref a0 :: st) S I J Q := tr_aload_n (m := 0) (by decide +kernel) rfl
theorem r11_6 : am_T d 11 6 [l0, l1, some (.int x0), l3] st S I J Q = am_T d 11 7 [l0, l1, some (.int x0), l3] (.int x0 :: st) S I J Q := tr_iload_n (m := 2) (by decide +kernel) rfl
theorem r11_7 : am_T d 11 7 ls (.int x0 :: .ref a0 :: st) S I J Q = (am_is S a0 1 ∧ am_T d 11 10 ls st S (am_up I a0 1 x0) J Q) := tr_puti (k := 32) (by decide +kernel) (by decide +kernel) (by decide +kernel) (by decide +kernel)
theorem r11_10 : am_T d 11 10 [some (.ref a0), l1, l2, l3] st S I J Q = am_T d 11 11 [some (.ref a0), l1, l2, l3] (.ref a0 :: st) S I J Q := tr_aload_n (m := 0) (by decide +kernel) rfl
theorem r11_11 : am_T d 11 11 ls st S I J Q = am_T d 11 12 ls (.int 0 :: st) S I J Q := tr_iconst (m := 0) (by decide +kernel) (by decide)
theorem r11_12 : am_T d 11 12 ls (.int x0 :: .ref a0 :: st) S I J Q = (am_is S a0 1 ∧ am_T d 11 15 ls st S (am_up I a0 2 x0) J Q) := tr_puti (k := 35) (by decide +kernel) (by decide +kernel) (by decide +kernel) (by decide +kernel)
theorem r11_15 : am_T d 11 15 ls st S I J Q = am_T d 11 16 ls (.int 0 :: st) S I J Q := tr_iconst (m := 0) (by decide +kernel) (by decide)
theorem r11_16 : am_T d 11 16 [l0, l1, l2, l3] (.int x0 :: st) S I J Q = am_T d 11 17 [l0, l1, am_clr l2, some (.int x0)] st S I J Q := tr_istore_n (m := 3) (by decide +kernel) (Nat.le_of_ble_eq_true rfl) rfl
theorem r11_17 : am_T d 11 17 [l0, l1, l2, some (.int x0)] st S I J Q = am_T d 11 18 [l0, l1, l2, some (.int x0)] (.int x0 :: st) S I J Q := tr_iload_n (m := 3) (by decide +kernel) rfl
theorem r11_18 : am_T d 11 18 ls st S I J Q = am_T d 11 20 ls (.int 8 :: st) S I J Q := tr_bipush (m := 8) (by decide +kernel) (by decide)
theorem r11_20 : am_T d 11 20 ls (.int x1 :: .int x0 :: st) S I J Q = if x1 ≤ x0 then am_T d 11 37 ls st S I J Q else am_T d 11 23 ls st S I J Q := tr_icmpge (o := 17) (by decide +kernel) rfl
theorem r11_23 : am_T d 11 23 [some (.ref a0), l1, l2, l3] st S I J Q = am_T d 11 24 [some (.ref a0), l1, l2, l3] (.ref a0 :: st) S I J Q := tr_aload_n (m := 0) (by decide +kernel) rfl
theorem r11_24 : am_T d 11 24 ls (.ref a0 :: st) S I J Q = ((am_is S a0 1 ∧ am_rf S a0 6 ≠ 0) ∧ am_T d 11 27 ls (.ref (am_rf S a0 6) :: st) S I J Q) := tr_geta (k := 21) (by decide +kernel) (by decide +kernel) (by decide +kernel)
theorem r11_27 : am_T d 11 27 [l0, l1, l2, some (.int x0)] st S I J Q = am_T d 11 28 [l0, l1, l2, some (.int x0)] (.int x0 :: st) S I J Q := tr_iload_n (m := 3) (by decide +kernel) rfl
theorem r11_28 : am_T d 11 28 ls st S I J Q = am_T d 11 30 ls (.int 7 :: st) S I J Q := tr_bipush (m := 7) (by decide +kernel) (by decide)
theorem r11_30 : am_T d 11 30 ls (.int x1 :: .int x0 :: .ref a0 :: st) S I J Q = (am_ixw S a0 20 x0 ∧ am_T d 11 31 ls st S (am_up I a0 x0.toNatClampNeg x1) J Q) := tr_iast (by decide +kernel)
theorem r11_31 : am_T d 11 31 [l0, l1, l2, some (.int x0)] st S I J Q = am_T d 11 34 [l0, l1, am_clr l2, some (.int (x0 + 1))] st S I J Q := tr_iinc (k := 3) (m := 1) (by decide +kernel) rfl (Nat.le_of_ble_eq_true rfl) (by decide) rfl
theorem r11_34 : am_T d 11 34 ls st S I J Q = am_T d 11 17 ls st S I J Q := tr_goto (o := -17) (by decide +kernel) rfl
theorem r11_37 : am_T d 11 37 ls [] S I J Q = Q none S I J := tr_vret (by decide +kernel) (by decide +kernel)
-- 12 Gra.copyFrom(LArborescenceFinder$Graph;)V; heads []
theorem e12 : am_C (d + 1) 12 [.ref a0, .ref a1] S I J Q = am_T d 12 0 [some (.ref a0), some (.ref a1)] [] S I J Q := tr_en (Nat.le_of_ble_eq_true rfl) rfl
theorem r12_0 : am_T d 12 0 [some (.ref a0), l1] st S I J Q = am_T d 12 1 [some (.ref a0), l1] (.ref a0 :: st) S I J Q := tr_aload_n (m := 0) (by decide +kernel) rfl
theorem r12_1 : am_T d 12 1 [l0, some (.ref a0)] st S I J Q = am_T d 12 2 [l0, some (.ref a0)] (.ref a0 :: st) S I J Q := tr_aload_n (m := 1) (by decide +kernel) rfl
theorem r12_2 : am_T d 12 2 ls (.ref a0 :: st) S I J Q = (am_is S a0 1 ∧ am_T d 12 5 ls (.int (I a0 0) :: st) S I J Q) := tr_geti (k := 28) (by decide +kernel) (by decide +kernel) (Or.inl (by decide +kernel))
theorem r12_5 : am_T d 12 5 ls (.int x0 :: .ref a0 :: st) S I J Q = (am_is S a0 1 ∧ am_T d 12 8 ls st S (am_up I a0 0 x0) J Q) := tr_puti (k := 28) (by decide +kernel) (by decide +kernel) (by decide +kernel) (by decide +kernel)
theorem r12_8 : am_T d 12 8 [some (.ref a0), l1] st S I J Q = am_T d 12 9 [some (.ref a0), l1] (.ref a0 :: st) S I J Q := tr_aload_n (m := 0) (by decide +kernel) rfl
theorem r12_9 : am_T d 12 9 [l0, some (.ref a0)] st S I J Q = am_T d 12 10 [l0, some (.ref a0)] (.ref a0 :: st) S I J Q := tr_aload_n (m := 1) (by decide +kernel) rfl
theorem r12_10 : am_T d 12 10 ls (.ref a0 :: st) S I J Q = (am_is S a0 1 ∧ am_T d 12 13 ls (.int (I a0 1) :: st) S I J Q) := tr_geti (k := 32) (by decide +kernel) (by decide +kernel) (Or.inl (by decide +kernel))
theorem r12_13 : am_T d 12 13 ls (.int x0 :: .ref a0 :: st) S I J Q = (am_is S a0 1 ∧ am_T d 12 16 ls st S (am_up I a0 1 x0) J Q) := tr_puti (k := 32) (by decide +kernel) (by decide +kernel) (by decide +kernel) (by decide +kernel)
theorem r12_16 : am_T d 12 16 [some (.ref a0), l1] st S I J Q = am_T d 12 17 [some (.ref a0), l1] (.ref a0 :: st) S I J Q := tr_aload_n (m := 0) (by decide +kernel) rfl
theorem r12_17 : am_T d 12 17 [l0, some (.ref a0)] st S I J Q = am_T d 12 18 [l0, some (.ref a0)] (.ref a0 :: st) S I J Q := tr_aload_n (m := 1) (by decide +kernel) rfl
theorem r12_18 : am_T d 12 18 ls (.ref a0 :: st) S I J Q = (am_is S a0 1 ∧ am_T d 12 21 ls (.int (I a0 2) :: st) S I J Q) := tr_geti (k := 35) (by decide +kernel) (by decide +kernel) (Or.inl (by decide +kernel))
theorem r12_21 : am_T d 12 21 ls (.int x0 :: .ref a0 :: st) S I J Q = (am_is S a0 1 ∧ am_T d 12 24 ls st S (am_up I a0 2 x0) J Q) := tr_puti (k := 35) (by decide +kernel) (by decide +kernel) (by decide +kernel) (by decide +kernel)
theorem r12_24 : am_T d 12 24 [l0, some (.ref a0)] st S I J Q = am_T d 12 25 [l0, some (.ref a0)] (.ref a0 :: st) S I J Q := tr_aload_n (m := 1) (by decide +kernel) rfl
theorem r12_25 : am_T d 12 25 ls (.ref a0 :: st) S I J Q = ((am_is S a0 1 ∧ am_rf S a0 3 ≠ 0) ∧ am_T d 12 28 ls (.ref (am_rf S a0 3) :: st) S I J Q) := tr_geta (k := 9) (by decide +kernel) (by decide +kernel) (by decide +kernel)
theorem r12_28 : am_T d 12 28 ls st S I J Q = am_T d 12 29 ls (.int 0 :: st) S I J Q := tr_iconst (m := 0) (by decide +kernel) (by decide)
theorem r12_29 : am_T d 12 29 [some (.ref a0), l1] st S I J Q = am_T d 12 30 [some (.ref a0), l1] (.ref a0 :: st) S I J Q := tr_aload_n (m := 0) (by decide +kernel) rfl
theorem r12_30 : am_T d 12 30 ls (.ref a0 :: st) S I J Q = ((am_is S a0 1 ∧ am_rf S a0 3 ≠ 0) ∧ am_T d 12 33 ls (.ref (am_rf S a0 3) :: st) S I J Q) := tr_geta (k := 9) (by decide +kernel) (by decide +kernel) (by decide +kernel)
theorem r12_33 : am_T d 12 33 ls st S I J Q = am_T d 12 34 ls (.int 0 :: st) S I J Q := tr_iconst (m := 0) (by decide +kernel) (by decide)
theorem r12_34 : am_T d 12 34 ls st S I J Q = am_T d 12 36 ls (.int 32 :: st) S I J Q := tr_bipush (m := 32) (by decide +kernel) (by decide)
theorem r12_36 : am_T d 12 36 ls [.int x4, .int x3, .ref a2, .int x1, .ref a0] S I J Q = (am_cpy S a2 a0 x1 x3 x4 ∧ am_T d 12 39 ls [] S (am_row I a2 (va_cpy (I a0) (I a2) x1.toNatClampNeg x3.toNatClampNeg x4.toNatClampNeg)) J Q) := tr_copy (k := 38) (by decide +kernel) (by decide +kernel) (Nat.le_of_ble_eq_true rfl)
theorem r12_39 : am_T d 12 39 [l0, some (.ref a0)] st S I J Q = am_T d 12 40 [l0, some (.ref a0)] (.ref a0 :: st) S I J Q := tr_aload_n (m := 1) (by decide +kernel) rfl
theorem r12_40 : am_T d 12 40 ls (.ref a0 :: st) S I J Q = ((am_is S a0 1 ∧ am_rf S a0 4 ≠ 0) ∧ am_T d 12 43 ls (.ref (am_rf S a0 4) :: st) S I J Q) := tr_geta (k := 15) (by decide +kernel) (by decide +kernel) (by decide +kernel)
theorem r12_43 : am_T d 12 43 ls st S I J Q = am_T d 12 44 ls (.int 0 :: st) S I J Q := tr_iconst (m := 0) (by decide +kernel) (by decide)
theorem r12_44 : am_T d 12 44 [some (.ref a0), l1] st S I J Q = am_T d 12 45 [some (.ref a0), l1] (.ref a0 :: st) S I J Q := tr_aload_n (m := 0) (by decide +kernel) rfl
theorem r12_45 : am_T d 12 45 ls (.ref a0 :: st) S I J Q = ((am_is S a0 1 ∧ am_rf S a0 4 ≠ 0) ∧ am_T d 12 48 ls (.ref (am_rf S a0 4) :: st) S I J Q) := tr_geta (k := 15) (by decide +kernel) (by decide +kernel) (by decide +kernel)
theorem r12_48 : am_T d 12 48 ls st S I J Q = am_T d 12 49 ls (.int 0 :: st) S I J Q := tr_iconst (m := 0) (by decide +kernel) (by decide)
theorem r12_49 : am_T d 12 49 ls st S I J Q = am_T d 12 51 ls (.int 32 :: st) S I J Q := tr_bipush (m := 32) (by decide +kernel) (by decide)
theorem r12_51 : am_T d 12 51 ls [.int x4, .int x3, .ref a2, .int x1, .ref a0] S I J Q = (am_cpy S a2 a0 x1 x3 x4 ∧ am_T d 12 54 ls [] S (am_row I a2 (va_cpy (I a0) (I a2) x1.toNatClampNeg x3.toNatClampNeg x4.toNatClampNeg)) J Q) := tr_copy (k := 38) (by decide +kernel) (by decide +kernel) (Nat.le_of_ble_eq_true rfl)
theorem r12_54 : am_T d 12 54 [l0, some (.ref a0)] st S I J Q = am_T d 12 55 [l0, some (.ref a0)] (.ref a0 :: st) S I J Q := tr_aload_n (m := 1) (by decide +kernel) rfl
theorem r12_55 : am_T d 12 55 ls (.ref a0 :: st) S I J Q = ((am_is S a0 1 ∧ am_rf S a0 5 ≠ 0) ∧ am_T d 12 58 ls (.ref (am_rf S a0 5) :: st) S I J Q) := tr_geta (k := 18) (by decide +kernel) (by decide +kernel) (by decide +kernel)
theorem r12_58 : am_T d 12 58 ls st S I J Q = am_T d 12 59 ls (.int 0 :: st) S I J Q := tr_iconst (m := 0) (by decide +kernel) (by decide)
theorem r12_59 : am_T d 12 59 [some (.ref a0), l1] st S I J Q = am_T d 12 60 [some (.ref a0), l1] (.ref a0 :: st) S I J Q := tr_aload_n (m := 0) (by decide +kernel) rfl
theorem r12_60 : am_T d 12 60 ls (.ref a0 :: st) S I J Q = ((am_is S a0 1 ∧ am_rf S a0 5 ≠ 0) ∧ am_T d 12 63 ls (.ref (am_rf S a0 5) :: st) S I J Q) := tr_geta (k := 18) (by decide +kernel) (by decide +kernel) (by decide +kernel)
theorem r12_63 : am_T d 12 63 ls st S I J Q = am_T d 12 64 ls (.int 0 :: st) S I J Q := tr_iconst (m := 0) (by decide +kernel) (by decide)
theorem r12_64 : am_T d 12 64 ls st S I J Q = am_T d 12 66 ls (.int 32 :: st) S I J Q := tr_bipush (m := 32) (by decide +kernel) (by decide)
theorem r12_66 : am_T d 12 66 ls [.int x4, .int x3, .ref a2, .int x1, .ref a0] S I J Q = (am_cpy S a2 a0 x1 x3 x4 ∧ am_T d 12 69 ls [] S (am_row I a2 (va_cpy (I a0) (I a2) x1.toNatClampNeg x3.toNatClampNeg x4.toNatClampNeg)) J Q) := tr_copy (k := 38) (by decide +kernel) (by decide +kernel) (Nat.le_of_ble_eq_true rfl)
theorem r12_69 : am_T d 12 69 [l0, some (.ref a0)] st S I J Q = am_T d 12 70 [l0, some (.ref a0)] (.ref a0 :: st) S I J Q := tr_aload_n (m := 1) (by decide +kernel) rfl
theorem r12_70 : am_T d 12 70 ls (.ref a0 :: st) S I J Q = ((am_is S a0 1 ∧ am_rf S a0 6 ≠ 0) ∧ am_T d 12 73 ls (.ref (am_rf S a0 6) :: st) S I J Q) := tr_geta (k := 21) (by decide +kernel) (by decide +kernel) (by decide +kernel)
theorem r12_73 : am_T d 12 73 ls st S I J Q = am_T d 12 74 ls (.int 0 :: st) S I J Q := tr_iconst (m := 0) (by decide +kernel) (by decide)
theorem r12_74 : am_T d 12 74 [some (.ref a0), l1] st S I J Q = am_T d 12 75 [some (.ref a0), l1] (.ref a0 :: st) S I J Q := tr_aload_n (m := 0) (by decide +kernel) rfl
theorem r12_75 : am_T d 12 75 ls (.ref a0 :: st) S I J Q = ((am_is S a0 1 ∧ am_rf S a0 6 ≠ 0) ∧ am_T d 12 78 ls (.ref (am_rf S a0 6) :: st) S I J Q) := tr_geta (k := 21) (by decide +kernel) (by decide +kernel) (by decide +kernel)
theorem r12_78 : am_T d 12 78 ls st S I J Q = am_T d 12 79 ls (.int 0 :: st) S I J Q := tr_iconst (m := 0) (by decide +kernel) (by decide)
theorem r12_79 : am_T d 12 79 ls st S I J Q = am_T d 12 81 ls (.int 8 :: st) S I J Q := tr_bipush (m := 8) (by decide +kernel) (by decide)
theorem r12_81 : am_T d 12 81 ls [.int x4, .int x3, .ref a2, .int x1, .ref a0] S I J Q = (am_cpy S a2 a0 x1 x3 x4 ∧ am_T d 12 84 ls [] S (am_row I a2 (va_cpy (I a0) (I a2) x1.toNatClampNeg x3.toNatClampNeg x4.toNatClampNeg)) J Q) := tr_copy (k := 38) (by decide +kernel) (by decide +kernel) (Nat.le_of_ble_eq_true rfl)
theorem r12_84 : am_T d 12 84 ls [] S I J Q = Q none S I J := tr_vret (by decide +kernel) (by decide +kernel)
-- 13 Gra.hasNode(I)Z; heads []
theorem e13 : am_C (d + 1) 13 [.ref a0, .int x1] S I J Q = am_T d 13 0 [some (.ref a0), some (.int x1)] [] S I J Q := tr_en (Nat.le_of_ble_eq_true rfl) rfl
theorem r13_0 : am_T d 13 0 [l0, some (.int x0)] st S I J Q = am_T d 13 1 [l0, some (.int x0)] (.int x0 :: st) S I J Q := tr_iload_n (m := 1) (by decide +kernel) rfl
theorem r13_1 : am_T d 13 1 ls (.int x0 :: st) S I J Q = if x0 < 0 then am_T d 13 16 ls st S I J Q else am_T d 13 4 ls st S I J Q := tr_iflt (o := 15) (by decide +kernel) rfl
theorem r13_4 : am_T d 13 4 [l0, some (.int x0)] st S I J Q = am_T d 13 5 [l0, some (.int x0)] (.int x0 :: st) S I J Q := tr_iload_n (m := 1) (by decide +kernel) rfl
theorem r13_5 : am_T d 13 5 [some (.ref a0), l1] st S I J Q = am_T d 13 6 [some (.ref a0), l1] (.ref a0 :: st) S I J Q := tr_aload_n (m := 0) (by decide +kernel) rfl
theorem r13_6 : am_T d 13 6 ls (.ref a0 :: st) S I J Q = (am_is S a0 1 ∧ am_T d 13 9 ls (.int (I a0 0) :: st) S I J Q) := tr_geti (k := 28) (by decide +kernel) (by decide +kernel) (Or.inl (by decide +kernel))
theorem r13_9 : am_T d 13 9 ls (.int x1 :: .int x0 :: st) S I J Q = if x1 ≤ x0 then am_T d 13 16 ls st S I J Q else am_T d 13 12 ls st S I J Q := tr_icmpge (o := 7) (by decide +kernel) rfl
theorem r13_12 : am_T d 13 12 ls st S I J Q = am_T d 13 13 ls (.int 1 :: st) S I J Q := tr_iconst (m := 1) (by decide +kernel) (by decide)
theorem r13_13 : am_T d 13 13 ls st S I J Q = am_T d 13 17 ls st S I J Q := tr_goto (o := 4) (by decide +kernel) rfl
theorem r13_16 : am_T d 13 16 ls st S I J Q = am_T d 13 17 ls (.int 0 :: st) S I J Q := tr_iconst (m := 0) (by decide +kernel) (by decide)
theorem r13_17 : am_T d 13 17 ls [.int x0] S I J Q = ((x0 = 0 ∨ x0 = 1) ∧ Q (some (.int x0)) S I J) := tr_iretz (by decide +kernel) (by decide +kernel)
-- 14 Gra.hasArc(I)Z; heads []
theorem e14 : am_C (d + 1) 14 [.ref a0, .int x1] S I J Q = am_T d 14 0 [some (.ref a0), some (.int x1)] [] S I J Q := tr_en (Nat.le_of_ble_eq_true rfl) rfl
theorem r14_0 : am_T d 14 0 [l0, some (.int x0)] st S I J Q = am_T d 14 1 [l0, some (.int x0)] (.int x0 :: st) S I J Q := tr_iload_n (m := 1) (by decide +kernel) rfl
theorem r14_1 : am_T d 14 1 ls (.int x0 :: st) S I J Q = if x0 < 0 then am_T d 14 16 ls st S I J Q else am_T d 14 4 ls st S I J Q := tr_iflt (o := 15) (by decide +kernel) rfl
theorem r14_4 : am_T d 14 4 [l0, some (.int x0)] st S I J Q = am_T d 14 5 [l0, some (.int x0)] (.int x0 :: st) S I J Q := tr_iload_n (m := 1) (by decide +kernel) rfl
theorem r14_5 : am_T d 14 5 [some (.ref a0), l1] st S I J Q = am_T d 14 6 [some (.ref a0), l1] (.ref a0 :: st) S I J Q := tr_aload_n (m := 0) (by decide +kernel) rfl
theorem r14_6 : am_T d 14 6 ls (.ref a0 :: st) S I J Q = (am_is S a0 1 ∧ am_T d 14 9 ls (.int (I a0 2) :: st) S I J Q) := tr_geti (k := 35) (by decide +kernel) (by decide +kernel) (Or.inl (by decide +kernel))
theorem r14_9 : am_T d 14 9 ls (.int x1 :: .int x0 :: st) S I J Q = if x1 ≤ x0 then am_T d 14 16 ls st S I J Q else am_T d 14 12 ls st S I J Q := tr_icmpge (o := 7) (by decide +kernel) rfl
theorem r14_12 : am_T d 14 12 ls st S I J Q = am_T d 14 13 ls (.int 1 :: st) S I J Q := tr_iconst (m := 1) (by decide +kernel) (by decide)
theorem r14_13 : am_T d 14 13 ls st S I J Q = am_T d 14 17 ls st S I J Q := tr_goto (o := 4) (by decide +kernel) rfl
theorem r14_16 : am_T d 14 16 ls st S I J Q = am_T d 14 17 ls (.int 0 :: st) S I J Q := tr_iconst (m := 0) (by decide +kernel) (by decide)
theorem r14_17 : am_T d 14 17 ls [.int x0] S I J Q = ((x0 = 0 ∨ x0 = 1) ∧ Q (some (.int x0)) S I J) := tr_iretz (by decide +kernel) (by decide +kernel)
-- 15 Gra.append(III)V; heads []
theorem e15 : am_C (d + 1) 15 [.ref a0, .int x1, .int x2, .int x3] S I J Q = am_T d 15 0 [some (.ref a0), some (.int x1), some (.int x2), some (.int x3)] [] S I J Q := tr_en (Nat.le_of_ble_eq_true rfl) rfl
theorem r15_0 : am_T d 15 0 [some (.ref a0), l1, l2, l3] st S I J Q = am_T d 15 1 [some (.ref a0), l1, l2, l3] (.ref a0 :: st) S I J Q := tr_aload_n (m := 0) (by decide +kernel) rfl
theorem r15_1 : am_T d 15 1 ls (.ref a0 :: st) S I J Q = (am_is S a0 1 ∧ am_T d 15 4 ls (.int (I a0 2) :: st) S I J Q) := tr_geti (k := 35) (by decide +kernel) (by decide +kernel) (Or.inl (by decide +kernel))
theorem r15_4 : am_T d 15 4 ls st S I J Q = am_T d 15 6 ls (.int 32 :: st) S I J Q := tr_bipush (m := 32) (by decide +kernel) (by decide)
theorem r15_6 : am_T d 15 6 ls (.int x1 :: .int x0 :: st) S I J Q = if x0 < x1 then am_T d 15 10 ls st S I J Q else am_T d 15 9 ls st S I J Q := tr_icmplt (o := 4) (by decide +kernel) rfl
theorem r15_9 : am_T d 15 9 ls [] S I J Q = Q none S I J := tr_vret (by decide +kernel) (by decide +kernel)
theorem r15_10 : am_T d 15 10 [some (.ref a0), l1, l2, l3] st S I J Q = am_T d 15 11 [some (.ref a0), l1, l2, l3] (.ref a0 :: st) S I J Q := tr_aload_n (m := 0) (by decide +kernel) rfl
theorem r15_11 : am_T d 15 11 ls (.ref a0 :: st) S I J Q = ((am_is S a0 1 ∧ am_rf S a0 3 ≠ 0) ∧ am_T d 15 14 ls (.ref (am_rf S a0 3) :: st) S I J Q) := tr_geta (k := 9) (by decide +kernel) (by decide +kernel) (by decide +kernel)
theorem r15_14 : am_T d 15 14 [some (.ref a0), l1, l2, l3] st S I J Q = am_T d 15 15 [some (.ref a0), l1, l2, l3] (.ref a0 :: st) S I J Q := tr_aload_n (m := 0) (by decide +kernel) rfl
theorem r15_15 : am_T d 15 15 ls (.ref a0 :: st) S I J Q = (am_is S a0 1 ∧ am_T d 15 18 ls (.int (I a0 2) :: st) S I J Q) := tr_geti (k := 35) (by decide +kernel) (by decide +kernel) (Or.inl (by decide +kernel))
theorem r15_18 : am_T d 15 18 [l0, some (.int x0), l2, l3] st S I J Q = am_T d 15 19 [l0, some (.int x0), l2, l3] (.int x0 :: st) S I J Q := tr_iload_n (m := 1) (by decide +kernel) rfl
theorem r15_19 : am_T d 15 19 ls (.int x1 :: .int x0 :: .ref a0 :: st) S I J Q = (am_ixw S a0 20 x0 ∧ am_T d 15 20 ls st S (am_up I a0 x0.toNatClampNeg x1) J Q) := tr_iast (by decide +kernel)
theorem r15_20 : am_T d 15 20 [some (.ref a0), l1, l2, l3] st S I J Q = am_T d 15 21 [some (.ref a0), l1, l2, l3] (.ref a0 :: st) S I J Q := tr_aload_n (m := 0) (by decide +kernel) rfl
theorem r15_21 : am_T d 15 21 ls (.ref a0 :: st) S I J Q = ((am_is S a0 1 ∧ am_rf S a0 4 ≠ 0) ∧ am_T d 15 24 ls (.ref (am_rf S a0 4) :: st) S I J Q) := tr_geta (k := 15) (by decide +kernel) (by decide +kernel) (by decide +kernel)
theorem r15_24 : am_T d 15 24 [some (.ref a0), l1, l2, l3] st S I J Q = am_T d 15 25 [some (.ref a0), l1, l2, l3] (.ref a0 :: st) S I J Q := tr_aload_n (m := 0) (by decide +kernel) rfl
theorem r15_25 : am_T d 15 25 ls (.ref a0 :: st) S I J Q = (am_is S a0 1 ∧ am_T d 15 28 ls (.int (I a0 2) :: st) S I J Q) := tr_geti (k := 35) (by decide +kernel) (by decide +kernel) (Or.inl (by decide +kernel))
theorem r15_28 : am_T d 15 28 [l0, l1, some (.int x0), l3] st S I J Q = am_T d 15 29 [l0, l1, some (.int x0), l3] (.int x0 :: st) S I J Q := tr_iload_n (m := 2) (by decide +kernel) rfl
theorem r15_29 : am_T d 15 29 ls (.int x1 :: .int x0 :: .ref a0 :: st) S I J Q = (am_ixw S a0 20 x0 ∧ am_T d 15 30 ls st S (am_up I a0 x0.toNatClampNeg x1) J Q) := tr_iast (by decide +kernel)
theorem r15_30 : am_T d 15 30 [some (.ref a0), l1, l2, l3] st S I J Q = am_T d 15 31 [some (.ref a0), l1, l2, l3] (.ref a0 :: st) S I J Q := tr_aload_n (m := 0) (by decide +kernel) rfl
theorem r15_31 : am_T d 15 31 ls (.ref a0 :: st) S I J Q = ((am_is S a0 1 ∧ am_rf S a0 5 ≠ 0) ∧ am_T d 15 34 ls (.ref (am_rf S a0 5) :: st) S I J Q) := tr_geta (k := 18) (by decide +kernel) (by decide +kernel) (by decide +kernel)
theorem r15_34 : am_T d 15 34 [some (.ref a0), l1, l2, l3] st S I J Q = am_T d 15 35 [some (.ref a0), l1, l2, l3] (.ref a0 :: st) S I J Q := tr_aload_n (m := 0) (by decide +kernel) rfl
theorem r15_35 : am_T d 15 35 ls (.ref a0 :: st) S I J Q = (am_is S a0 1 ∧ am_T d 15 38 ls (.int (I a0 2) :: st) S I J Q) := tr_geti (k := 35) (by decide +kernel) (by decide +kernel) (Or.inl (by decide +kernel))
theorem r15_38 : am_T d 15 38 [l0, l1, l2, some (.int x0)] st S I J Q = am_T d 15 39 [l0, l1, l2, some (.int x0)] (.int x0 :: st) S I J Q := tr_iload_n (m := 3) (by decide +kernel) rfl
theorem r15_39 : am_T d 15 39 ls (.int x1 :: .int x0 :: .ref a0 :: st) S I J Q = (am_ixw S a0 20 x0 ∧ am_T d 15 40 ls st S (am_up I a0 x0.toNatClampNeg x1) J Q) := tr_iast (by decide +kernel)
theorem r15_40 : am_T d 15 40 [some (.ref a0), l1, l2, l3] st S I J Q = am_T d 15 41 [some (.ref a0), l1, l2, l3] (.ref a0 :: st) S I J Q := tr_aload_n (m := 0) (by decide +kernel) rfl
theorem r15_41 : am_T d 15 41 ls (.ref a0 :: st) S I J Q = am_T d 15 42 ls (.ref a0 :: .ref a0 :: st) S I J Q := tr_dupa (by decide +kernel)
theorem r15_42 : am_T d 15 42 ls (.ref a0 :: st) S I J Q = (am_is S a0 1 ∧ am_T d 15 45 ls (.int (I a0 2) :: st) S I J Q) := tr_geti (k := 35) (by decide +kernel) (by decide +kernel) (Or.inl (by decide +kernel))
theorem r15_45 : am_T d 15 45 ls st S I J Q = am_T d 15 46 ls (.int 1 :: st) S I J Q := tr_iconst (m := 1) (by decide +kernel) (by decide)
theorem r15_46 : am_T d 15 46 ls (.int x1 :: .int x0 :: st) S I J Q = am_T d 15 47 ls (.int (x0 + x1) :: st) S I J Q := tr_iadd (by decide +kernel)
theorem r15_47 : am_T d 15 47 ls (.int x0 :: .ref a0 :: st) S I J Q = (am_is S a0 1 ∧ am_T d 15 50 ls st S (am_up I a0 2 x0) J Q) := tr_puti (k := 35) (by decide +kernel) (by decide +kernel) (by decide +kernel) (by decide +kernel)
theorem r15_50 : am_T d 15 50 ls [] S I J Q = Q none S I J := tr_vret (by decide +kernel) (by decide +kernel)
-- 16 Gra.delete(I)V; heads [2]
theorem e16 : am_C (d + 1) 16 [.ref a0, .int x1] S I J Q = am_T d 16 0 [some (.ref a0), some (.int x1), none] [] S I J Q := tr_en (Nat.le_of_ble_eq_true rfl) rfl
theorem r16_0 : am_T d 16 0 [l0, some (.int x0), l2] st S I J Q = am_T d 16 1 [l0, some (.int x0), l2] (.int x0 :: st) S I J Q := tr_iload_n (m := 1) (by decide +kernel) rfl
theorem r16_1 : am_T d 16 1 [l0, l1, l2] (.int x0 :: st) S I J Q = am_T d 16 2 [l0, am_clr l1, some (.int x0)] st S I J Q := tr_istore_n (m := 2) (by decide +kernel) (Nat.le_of_ble_eq_true rfl) rfl
theorem r16_2 : am_T d 16 2 [l0, l1, some (.int x0)] st S I J Q = am_T d 16 3 [l0, l1, some (.int x0)] (.int x0 :: st) S I J Q := tr_iload_n (m := 2) (by decide +kernel) rfl
theorem r16_3 : am_T d 16 3 ls st S I J Q = am_T d 16 4 ls (.int 1 :: st) S I J Q := tr_iconst (m := 1) (by decide +kernel) (by decide)
theorem r16_4 : am_T d 16 4 ls (.int x1 :: .int x0 :: st) S I J Q = am_T d 16 5 ls (.int (x0 + x1) :: st) S I J Q := tr_iadd (by decide +kernel)
theorem r16_5 : am_T d 16 5 [some (.ref a0), l1, l2] st S I J Q = am_T d 16 6 [some (.ref a0), l1, l2] (.ref a0 :: st) S I J Q := tr_aload_n (m := 0) (by decide +kernel) rfl
theorem r16_6 : am_T d 16 6 ls (.ref a0 :: st) S I J Q = (am_is S a0 1 ∧ am_T d 16 9 ls (.int (I a0 2) :: st) S I J Q) := tr_geti (k := 35) (by decide +kernel) (by decide +kernel) (Or.inl (by decide +kernel))
theorem r16_9 : am_T d 16 9 ls (.int x1 :: .int x0 :: st) S I J Q = if x1 ≤ x0 then am_T d 16 60 ls st S I J Q else am_T d 16 12 ls st S I J Q := tr_icmpge (o := 51) (by decide +kernel) rfl
theorem r16_12 : am_T d 16 12 [some (.ref a0), l1, l2] st S I J Q = am_T d 16 13 [some (.ref a0), l1, l2] (.ref a0 :: st) S I J Q := tr_aload_n (m := 0) (by decide +kernel) rfl
theorem r16_13 : am_T d 16 13 ls (.ref a0 :: st) S I J Q = ((am_is S a0 1 ∧ am_rf S a0 3 ≠ 0) ∧ am_T d 16 16 ls (.ref (am_rf S a0 3) :: st) S I J Q) := tr_geta (k := 9) (by decide +kernel) (by decide +kernel) (by decide +kernel)
theorem r16_16 : am_T d 16 16 [l0, l1, some (.int x0)] st S I J Q = am_T d 16 17 [l0, l1, some (.int x0)] (.int x0 :: st) S I J Q := tr_iload_n (m := 2) (by decide +kernel) rfl
theorem r16_17 : am_T d 16 17 [some (.ref a0), l1, l2] st S I J Q = am_T d 16 18 [some (.ref a0), l1, l2] (.ref a0 :: st) S I J Q := tr_aload_n (m := 0) (by decide +kernel) rfl
theorem r16_18 : am_T d 16 18 ls (.ref a0 :: st) S I J Q = ((am_is S a0 1 ∧ am_rf S a0 3 ≠ 0) ∧ am_T d 16 21 ls (.ref (am_rf S a0 3) :: st) S I J Q) := tr_geta (k := 9) (by decide +kernel) (by decide +kernel) (by decide +kernel)
theorem r16_21 : am_T d 16 21 [l0, l1, some (.int x0)] st S I J Q = am_T d 16 22 [l0, l1, some (.int x0)] (.int x0 :: st) S I J Q := tr_iload_n (m := 2) (by decide +kernel) rfl
theorem r16_22 : am_T d 16 22 ls st S I J Q = am_T d 16 23 ls (.int 1 :: st) S I J Q := tr_iconst (m := 1) (by decide +kernel) (by decide)
theorem r16_23 : am_T d 16 23 ls (.int x1 :: .int x0 :: st) S I J Q = am_T d 16 24 ls (.int (x0 + x1) :: st) S I J Q := tr_iadd (by decide +kernel)
theorem r16_24 : am_T d 16 24 ls (.int x0 :: .ref a0 :: st) S I J Q = (am_ix S a0 20 x0 ∧ am_T d 16 25 ls (.int (I a0 x0.toNatClampNeg) :: st) S I J Q) := tr_iald (by decide +kernel)
theorem r16_25 : am_T d 16 25 ls (.int x1 :: .int x0 :: .ref a0 :: st) S I J Q = (am_ixw S a0 20 x0 ∧ am_T d 16 26 ls st S (am_up I a0 x0.toNatClampNeg x1) J Q) := tr_iast (by decide +kernel)
theorem r16_26 : am_T d 16 26 [some (.ref a0), l1, l2] st S I J Q = am_T d 16 27 [some (.ref a0), l1, l2] (.ref a0 :: st) S I J Q := tr_aload_n (m := 0) (by decide +kernel) rfl
theorem r16_27 : am_T d 16 27 ls (.ref a0 :: st) S I J Q = ((am_is S a0 1 ∧ am_rf S a0 4 ≠ 0) ∧ am_T d 16 30 ls (.ref (am_rf S a0 4) :: st) S I J Q) := tr_geta (k := 15) (by decide +kernel) (by decide +kernel) (by decide +kernel)
theorem r16_30 : am_T d 16 30 [l0, l1, some (.int x0)] st S I J Q = am_T d 16 31 [l0, l1, some (.int x0)] (.int x0 :: st) S I J Q := tr_iload_n (m := 2) (by decide +kernel) rfl
theorem r16_31 : am_T d 16 31 [some (.ref a0), l1, l2] st S I J Q = am_T d 16 32 [some (.ref a0), l1, l2] (.ref a0 :: st) S I J Q := tr_aload_n (m := 0) (by decide +kernel) rfl
theorem r16_32 : am_T d 16 32 ls (.ref a0 :: st) S I J Q = ((am_is S a0 1 ∧ am_rf S a0 4 ≠ 0) ∧ am_T d 16 35 ls (.ref (am_rf S a0 4) :: st) S I J Q) := tr_geta (k := 15) (by decide +kernel) (by decide +kernel) (by decide +kernel)
theorem r16_35 : am_T d 16 35 [l0, l1, some (.int x0)] st S I J Q = am_T d 16 36 [l0, l1, some (.int x0)] (.int x0 :: st) S I J Q := tr_iload_n (m := 2) (by decide +kernel) rfl
theorem r16_36 : am_T d 16 36 ls st S I J Q = am_T d 16 37 ls (.int 1 :: st) S I J Q := tr_iconst (m := 1) (by decide +kernel) (by decide)
theorem r16_37 : am_T d 16 37 ls (.int x1 :: .int x0 :: st) S I J Q = am_T d 16 38 ls (.int (x0 + x1) :: st) S I J Q := tr_iadd (by decide +kernel)
theorem r16_38 : am_T d 16 38 ls (.int x0 :: .ref a0 :: st) S I J Q = (am_ix S a0 20 x0 ∧ am_T d 16 39 ls (.int (I a0 x0.toNatClampNeg) :: st) S I J Q) := tr_iald (by decide +kernel)
theorem r16_39 : am_T d 16 39 ls (.int x1 :: .int x0 :: .ref a0 :: st) S I J Q = (am_ixw S a0 20 x0 ∧ am_T d 16 40 ls st S (am_up I a0 x0.toNatClampNeg x1) J Q) := tr_iast (by decide +kernel)
theorem r16_40 : am_T d 16 40 [some (.ref a0), l1, l2] st S I J Q = am_T d 16 41 [some (.ref a0), l1, l2] (.ref a0 :: st) S I J Q := tr_aload_n (m := 0) (by decide +kernel) rfl
theorem r16_41 : am_T d 16 41 ls (.ref a0 :: st) S I J Q = ((am_is S a0 1 ∧ am_rf S a0 5 ≠ 0) ∧ am_T d 16 44 ls (.ref (am_rf S a0 5) :: st) S I J Q) := tr_geta (k := 18) (by decide +kernel) (by decide +kernel) (by decide +kernel)
theorem r16_44 : am_T d 16 44 [l0, l1, some (.int x0)] st S I J Q = am_T d 16 45 [l0, l1, some (.int x0)] (.int x0 :: st) S I J Q := tr_iload_n (m := 2) (by decide +kernel) rfl
theorem r16_45 : am_T d 16 45 [some (.ref a0), l1, l2] st S I J Q = am_T d 16 46 [some (.ref a0), l1, l2] (.ref a0 :: st) S I J Q := tr_aload_n (m := 0) (by decide +kernel) rfl
theorem r16_46 : am_T d 16 46 ls (.ref a0 :: st) S I J Q = ((am_is S a0 1 ∧ am_rf S a0 5 ≠ 0) ∧ am_T d 16 49 ls (.ref (am_rf S a0 5) :: st) S I J Q) := tr_geta (k := 18) (by decide +kernel) (by decide +kernel) (by decide +kernel)
theorem r16_49 : am_T d 16 49 [l0, l1, some (.int x0)] st S I J Q = am_T d 16 50 [l0, l1, some (.int x0)] (.int x0 :: st) S I J Q := tr_iload_n (m := 2) (by decide +kernel) rfl
theorem r16_50 : am_T d 16 50 ls st S I J Q = am_T d 16 51 ls (.int 1 :: st) S I J Q := tr_iconst (m := 1) (by decide +kernel) (by decide)
theorem r16_51 : am_T d 16 51 ls (.int x1 :: .int x0 :: st) S I J Q = am_T d 16 52 ls (.int (x0 + x1) :: st) S I J Q := tr_iadd (by decide +kernel)
theorem r16_52 : am_T d 16 52 ls (.int x0 :: .ref a0 :: st) S I J Q = (am_ix S a0 20 x0 ∧ am_T d 16 53 ls (.int (I a0 x0.toNatClampNeg) :: st) S I J Q) := tr_iald (by decide +kernel)
theorem r16_53 : am_T d 16 53 ls (.int x1 :: .int x0 :: .ref a0 :: st) S I J Q = (am_ixw S a0 20 x0 ∧ am_T d 16 54 ls st S (am_up I a0 x0.toNatClampNeg x1) J Q) := tr_iast (by decide +kernel)
theorem r16_54 : am_T d 16 54 [l0, l1, some (.int x0)] st S I J Q = am_T d 16 57 [l0, am_clr l1, some (.int (x0 + 1))] st S I J Q := tr_iinc (k := 2) (m := 1) (by decide +kernel) rfl (Nat.le_of_ble_eq_true rfl) (by decide) rfl
theorem r16_57 : am_T d 16 57 ls st S I J Q = am_T d 16 2 ls st S I J Q := tr_goto (o := -55) (by decide +kernel) rfl
theorem r16_60 : am_T d 16 60 [some (.ref a0), l1, l2] st S I J Q = am_T d 16 61 [some (.ref a0), l1, l2] (.ref a0 :: st) S I J Q := tr_aload_n (m := 0) (by decide +kernel) rfl
theorem r16_61 : am_T d 16 61 ls (.ref a0 :: st) S I J Q = am_T d 16 62 ls (.ref a0 :: .ref a0 :: st) S I J Q := tr_dupa (by decide +kernel)
theorem r16_62 : am_T d 16 62 ls (.ref a0 :: st) S I J Q = (am_is S a0 1 ∧ am_T d 16 65 ls (.int (I a0 2) :: st) S I J Q) := tr_geti (k := 35) (by decide +kernel) (by decide +kernel) (Or.inl (by decide +kernel))
theorem r16_65 : am_T d 16 65 ls st S I J Q = am_T d 16 66 ls (.int 1 :: st) S I J Q := tr_iconst (m := 1) (by decide +kernel) (by decide)
theorem r16_66 : am_T d 16 66 ls (.int x1 :: .int x0 :: st) S I J Q = am_T d 16 67 ls (.int (x0 - x1) :: st) S I J Q := tr_isub (by decide +kernel)
theorem r16_67 : am_T d 16 67 ls (.int x0 :: .ref a0 :: st) S I J Q = (am_is S a0 1 ∧ am_T d 16 70 ls st S (am_up I a0 2 x0) J Q) := tr_puti (k := 35) (by decide +kernel) (by decide +kernel) (by decide +kernel) (by decide +kernel)
theorem r16_70 : am_T d 16 70 ls [] S I J Q = Q none S I J := tr_vret (by decide +kernel) (by decide +kernel)
-- 17 Gra.withoutRivals(I)I; heads [4]
theorem e17 : am_C (d + 1) 17 [.ref a0, .int x1] S I J Q = am_T d 17 0 [some (.ref a0), some (.int x1), none, none] [] S I J Q := tr_en (Nat.le_of_ble_eq_true rfl) rfl
theorem r17_0 : am_T d 17 0 ls st S I J Q = am_T d 17 1 ls (.int (-1) :: st) S I J Q := tr_iconst (m := -1) (by decide +kernel) (by decide)
theorem r17_1 : am_T d 17 1 [l0, l1, l2, l3] (.int x0 :: st) S I J Q = am_T d 17 2 [l0, am_clr l1, some (.int x0), l3] st S I J Q := tr_istore_n (m := 2) (by decide +kernel) (Nat.le_of_ble_eq_true rfl) rfl
theorem r17_2 : am_T d 17 2 ls st S I J Q = am_T d 17 3 ls (.int 0 :: st) S I J Q := tr_iconst (m := 0) (by decide +kernel) (by decide)
theorem r17_3 : am_T d 17 3 [l0, l1, l2, l3] (.int x0 :: st) S I J Q = am_T d 17 4 [l0, l1, am_clr l2, some (.int x0)] st S I J Q := tr_istore_n (m := 3) (by decide +kernel) (Nat.le_of_ble_eq_true rfl) rfl
theorem r17_4 : am_T d 17 4 [l0, l1, l2, some (.int x0)] st S I J Q = am_T d 17 5 [l0, l1, l2, some (.int x0)] (.int x0 :: st) S I J Q := tr_iload_n (m := 3) (by decide +kernel) rfl
theorem r17_5 : am_T d 17 5 [some (.ref a0), l1, l2, l3] st S I J Q = am_T d 17 6 [some (.ref a0), l1, l2, l3] (.ref a0 :: st) S I J Q := tr_aload_n (m := 0) (by decide +kernel) rfl
theorem r17_6 : am_T d 17 6 ls (.ref a0 :: st) S I J Q = (am_is S a0 1 ∧ am_T d 17 9 ls (.int (I a0 2) :: st) S I J Q) := tr_geti (k := 35) (by decide +kernel) (by decide +kernel) (Or.inl (by decide +kernel))
theorem r17_9 : am_T d 17 9 ls (.int x1 :: .int x0 :: st) S I J Q = if x1 ≤ x0 then am_T d 17 46 ls st S I J Q else am_T d 17 12 ls st S I J Q := tr_icmpge (o := 37) (by decide +kernel) rfl
theorem r17_12 : am_T d 17 12 [l0, l1, l2, some (.int x0)] st S I J Q = am_T d 17 13 [l0, l1, l2, some (.int x0)] (.int x0 :: st) S I J Q := tr_iload_n (m := 3) (by decide +kernel) rfl
theorem r17_13 : am_T d 17 13 [l0, some (.int x0), l2, l3] st S I J Q = am_T d 17 14 [l0, some (.int x0), l2, l3] (.int x0 :: st) S I J Q := tr_iload_n (m := 1) (by decide +kernel) rfl
theorem r17_14 : am_T d 17 14 ls (.int x1 :: .int x0 :: st) S I J Q = if x0 = x1 then am_T d 17 40 ls st S I J Q else am_T d 17 17 ls st S I J Q := tr_icmpeq (o := 26) (by decide +kernel) rfl
theorem r17_17 : am_T d 17 17 [some (.ref a0), l1, l2, l3] st S I J Q = am_T d 17 18 [some (.ref a0), l1, l2, l3] (.ref a0 :: st) S I J Q := tr_aload_n (m := 0) (by decide +kernel) rfl
theorem r17_18 : am_T d 17 18 ls (.ref a0 :: st) S I J Q = ((am_is S a0 1 ∧ am_rf S a0 4 ≠ 0) ∧ am_T d 17 21 ls (.ref (am_rf S a0 4) :: st) S I J Q) := tr_geta (k := 15) (by decide +kernel) (by decide +kernel) (by decide +kernel)
theorem r17_21 : am_T d 17 21 [l0, l1, l2, some (.int x0)] st S I J Q = am_T d 17 22 [l0, l1, l2, some (.int x0)] (.int x0 :: st) S I J Q := tr_iload_n (m := 3) (by decide +kernel) rfl
theorem r17_22 : am_T d 17 22 ls (.int x0 :: .ref a0 :: st) S I J Q = (am_ix S a0 20 x0 ∧ am_T d 17 23 ls (.int (I a0 x0.toNatClampNeg) :: st) S I J Q) := tr_iald (by decide +kernel)
theorem r17_23 : am_T d 17 23 [some (.ref a0), l1, l2, l3] st S I J Q = am_T d 17 24 [some (.ref a0), l1, l2, l3] (.ref a0 :: st) S I J Q := tr_aload_n (m := 0) (by decide +kernel) rfl
theorem r17_24 : am_T d 17 24 ls (.ref a0 :: st) S I J Q = ((am_is S a0 1 ∧ am_rf S a0 4 ≠ 0) ∧ am_T d 17 27 ls (.ref (am_rf S a0 4) :: st) S I J Q) := tr_geta (k := 15) (by decide +kernel) (by decide +kernel) (by decide +kernel)
theorem r17_27 : am_T d 17 27 [l0, some (.int x0), l2, l3] st S I J Q = am_T d 17 28 [l0, some (.int x0), l2, l3] (.int x0 :: st) S I J Q := tr_iload_n (m := 1) (by decide +kernel) rfl
theorem r17_28 : am_T d 17 28 ls (.int x0 :: .ref a0 :: st) S I J Q = (am_ix S a0 20 x0 ∧ am_T d 17 29 ls (.int (I a0 x0.toNatClampNeg) :: st) S I J Q) := tr_iald (by decide +kernel)
theorem r17_29 : am_T d 17 29 ls (.int x1 :: .int x0 :: st) S I J Q = if x0 = x1 then am_T d 17 32 ls st S I J Q else am_T d 17 40 ls st S I J Q := tr_icmpne (o := 11) (by decide +kernel) rfl
theorem r17_32 : am_T d 17 32 [l0, l1, some (.int x0), l3] st S I J Q = am_T d 17 33 [l0, l1, some (.int x0), l3] (.int x0 :: st) S I J Q := tr_iload_n (m := 2) (by decide +kernel) rfl
theorem r17_33 : am_T d 17 33 ls st S I J Q = am_T d 17 34 ls (.int 1 :: st) S I J Q := tr_iconst (m := 1) (by decide +kernel) (by decide)
theorem r17_34 : am_T d 17 34 [l0, l1, l2, some (.int x0)] st S I J Q = am_T d 17 35 [l0, l1, l2, some (.int x0)] (.int x0 :: st) S I J Q := tr_iload_n (m := 3) (by decide +kernel) rfl
theorem r17_35 : am_T d 17 35 ls (.int x1 :: .int x0 :: st) S I J Q = am_T d 17 36 ls (.int (x0 <<< (x1 &&& 31)) :: st) S I J Q := tr_ishl (by decide +kernel)
theorem r17_36 : am_T d 17 36 ls st S I J Q = am_T d 17 37 ls (.int (-1) :: st) S I J Q := tr_iconst (m := -1) (by decide +kernel) (by decide)
theorem r17_37 : am_T d 17 37 ls (.int x1 :: .int x0 :: st) S I J Q = am_T d 17 38 ls (.int (x0 ^^^ x1) :: st) S I J Q := tr_ixor (by decide +kernel)
theorem r17_38 : am_T d 17 38 ls (.int x1 :: .int x0 :: st) S I J Q = am_T d 17 39 ls (.int (x0 &&& x1) :: st) S I J Q := tr_iand (by decide +kernel)
theorem r17_39 : am_T d 17 39 [l0, l1, l2, l3] (.int x0 :: st) S I J Q = am_T d 17 40 [l0, am_clr l1, some (.int x0), l3] st S I J Q := tr_istore_n (m := 2) (by decide +kernel) (Nat.le_of_ble_eq_true rfl) rfl
theorem r17_40 : am_T d 17 40 [l0, l1, l2, some (.int x0)] st S I J Q = am_T d 17 43 [l0, l1, am_clr l2, some (.int (x0 + 1))] st S I J Q := tr_iinc (k := 3) (m := 1) (by decide +kernel) rfl (Nat.le_of_ble_eq_true rfl) (by decide) rfl
theorem r17_43 : am_T d 17 43 ls st S I J Q = am_T d 17 4 ls st S I J Q := tr_goto (o := -39) (by decide +kernel) rfl
theorem r17_46 : am_T d 17 46 [l0, l1, some (.int x0), l3] st S I J Q = am_T d 17 47 [l0, l1, some (.int x0), l3] (.int x0 :: st) S I J Q := tr_iload_n (m := 2) (by decide +kernel) rfl
theorem r17_47 : am_T d 17 47 ls [.int x0] S I J Q = Q (some (.int x0)) S I J := tr_ireti (by decide +kernel) (by decide +kernel)
-- 18 Gra.enters(II)Z; heads []
theorem e18 : am_C (d + 1) 18 [.ref a0, .int x1, .int x2] S I J Q = am_T d 18 0 [some (.ref a0), some (.int x1), some (.int x2)] [] S I J Q := tr_en (Nat.le_of_ble_eq_true rfl) rfl
theorem r18_0 : am_T d 18 0 [l0, l1, some (.int x0)] st S I J Q = am_T d 18 1 [l0, l1, some (.int x0)] (.int x0 :: st) S I J Q := tr_iload_n (m := 2) (by decide +kernel) rfl
theorem r18_1 : am_T d 18 1 [some (.ref a0), l1, l2] st S I J Q = am_T d 18 2 [some (.ref a0), l1, l2] (.ref a0 :: st) S I J Q := tr_aload_n (m := 0) (by decide +kernel) rfl
theorem r18_2 : am_T d 18 2 ls (.ref a0 :: st) S I J Q = ((am_is S a0 1 ∧ am_rf S a0 4 ≠ 0) ∧ am_T d 18 5 ls (.ref (am_rf S a0 4) :: st) S I J Q) := tr_geta (k := 15) (by decide +kernel) (by decide +kernel) (by decide +kernel)
theorem r18_5 : am_T d 18 5 [l0, some (.int x0), l2] st S I J Q = am_T d 18 6 [l0, some (.int x0), l2] (.int x0 :: st) S I J Q := tr_iload_n (m := 1) (by decide +kernel) rfl
theorem r18_6 : am_T d 18 6 ls (.int x0 :: .ref a0 :: st) S I J Q = (am_ix S a0 20 x0 ∧ am_T d 18 7 ls (.int (I a0 x0.toNatClampNeg) :: st) S I J Q) := tr_iald (by decide +kernel)
theorem r18_7 : am_T d 18 7 ls [.int x1, .int x0] S I J Q = am_C d 109 [.int x0, .int x1] S I J (fun r S I J => am_T d 18 10 ls (am_psh r []) S I J Q) := tr_stat (k := 44) (by decide +kernel) (Or.inr (by decide +kernel)) (Nat.le_of_ble_eq_true rfl) rfl rfl (Nat.le_of_ble_eq_true rfl)
theorem r18_10 : am_T d 18 10 ls (.int x0 :: st) S I J Q = if x0 = 0 then am_T d 18 30 ls st S I J Q else am_T d 18 13 ls st S I J Q := tr_ifeq (o := 20) (by decide +kernel) rfl
theorem r18_13 : am_T d 18 13 [l0, l1, some (.int x0)] st S I J Q = am_T d 18 14 [l0, l1, some (.int x0)] (.int x0 :: st) S I J Q := tr_iload_n (m := 2) (by decide +kernel) rfl
theorem r18_14 : am_T d 18 14 [some (.ref a0), l1, l2] st S I J Q = am_T d 18 15 [some (.ref a0), l1, l2] (.ref a0 :: st) S I J Q := tr_aload_n (m := 0) (by decide +kernel) rfl
theorem r18_15 : am_T d 18 15 ls (.ref a0 :: st) S I J Q = ((am_is S a0 1 ∧ am_rf S a0 3 ≠ 0) ∧ am_T d 18 18 ls (.ref (am_rf S a0 3) :: st) S I J Q) := tr_geta (k := 9) (by decide +kernel) (by decide +kernel) (by decide +kernel)
theorem r18_18 : am_T d 18 18 [l0, some (.int x0), l2] st S I J Q = am_T d 18 19 [l0, some (.int x0), l2] (.int x0 :: st) S I J Q := tr_iload_n (m := 1) (by decide +kernel) rfl
theorem r18_19 : am_T d 18 19 ls (.int x0 :: .ref a0 :: st) S I J Q = (am_ix S a0 20 x0 ∧ am_T d 18 20 ls (.int (I a0 x0.toNatClampNeg) :: st) S I J Q) := tr_iald (by decide +kernel)
theorem r18_20 : am_T d 18 20 ls [.int x1, .int x0] S I J Q = am_C d 109 [.int x0, .int x1] S I J (fun r S I J => am_T d 18 23 ls (am_psh r []) S I J Q) := tr_stat (k := 44) (by decide +kernel) (Or.inr (by decide +kernel)) (Nat.le_of_ble_eq_true rfl) rfl rfl (Nat.le_of_ble_eq_true rfl)
theorem r18_23 : am_T d 18 23 ls (.int x0 :: st) S I J Q = if x0 = 0 then am_T d 18 26 ls st S I J Q else am_T d 18 30 ls st S I J Q := tr_ifne (o := 7) (by decide +kernel) rfl
theorem r18_26 : am_T d 18 26 ls st S I J Q = am_T d 18 27 ls (.int 1 :: st) S I J Q := tr_iconst (m := 1) (by decide +kernel) (by decide)
theorem r18_27 : am_T d 18 27 ls st S I J Q = am_T d 18 31 ls st S I J Q := tr_goto (o := 4) (by decide +kernel) rfl
theorem r18_30 : am_T d 18 30 ls st S I J Q = am_T d 18 31 ls (.int 0 :: st) S I J Q := tr_iconst (m := 0) (by decide +kernel) (by decide)
theorem r18_31 : am_T d 18 31 ls [.int x0] S I J Q = ((x0 = 0 ∨ x0 = 1) ∧ Q (some (.int x0)) S I J) := tr_iretz (by decide +kernel) (by decide +kernel)
-- 19 Txt.<init>()V; heads []
theorem e19 : am_C (d + 1) 19 [.ref a0] S I J Q = am_T d 19 0 [some (.ref a0)] [] S I J Q := tr_en (Nat.le_of_ble_eq_true rfl) rfl
theorem r19_0 : am_T d 19 0 [some (.ref a0)] st S I J Q = am_T d 19 1 [some (.ref a0)] (.ref a0 :: st) S I J Q := tr_aload_n (m := 0) (by decide +kernel) rfl
theorem r19_1 : am_T d 19 1 ls [.ref a0] S I J Q = am_T d 19 4 ls [] S I J Q := tr_oinit (k := 3) (by decide +kernel) (by decide +kernel) (Nat.le_of_ble_eq_true rfl)
theorem r19_4 : am_T d 19 4 [some (.ref a0)] st S I J Q = am_T d 19 5 [some (.ref a0)] (.ref a0 :: st) S I J Q := tr_aload_n (m := 0) (by decide +kernel) rfl
theorem r19_5 : am_T d 19 5 ls st S I J Q = am_T d 19 8 ls (.int 300 :: st) S I J Q := tr_sipush (m := 300) (by decide +kernel) (by decide)
theorem r19_8 : am_T d 19 8 ls (.int x0 :: st) S I J Q = ((0 ≤ x0.toInt ∧ x0.toInt < 10000) ∧ am_T d 19 10 ls (.ref S.length :: st) (S ++ [(22, x0.toNatClampNeg, fun _ => 0)]) (am_row I S.length (fun _ => 0)) (am_row J S.length (fun _ => 0)) Q) := tr_newa (t := .char) (by decide +kernel) (by decide)
theorem r19_10 : am_T d 19 10 ls (.ref a1 :: .ref a0 :: st) S I J Q = ((am_is S a0 2 ∧ a1 ≠ 0 ∧ a1 < S.length) ∧ am_T d 19 13 ls st (am_sr S a0 2 a1) I J Q) := tr_puta (k := 9) (by decide +kernel) (by decide +kernel) (by decide +kernel) (by decide +kernel)
theorem r19_13 : am_T d 19 13 ls [] S I J Q = Q none S I J := tr_vret (by decide +kernel) (by decide +kernel)
-- 20 Txt.append(I)V; heads []
theorem e20 : am_C (d + 1) 20 [.ref a0, .int x1] S I J Q = am_T d 20 0 [some (.ref a0), some (.int x1)] [] S I J Q := tr_en (Nat.le_of_ble_eq_true rfl) rfl
theorem r20_0 : am_T d 20 0 [some (.ref a0), l1] st S I J Q = am_T d 20 1 [some (.ref a0), l1] (.ref a0 :: st) S I J Q := tr_aload_n (m := 0) (by decide +kernel) rfl
theorem r20_1 : am_T d 20 1 ls (.ref a0 :: st) S I J Q = (am_is S a0 2 ∧ am_T d 20 4 ls (.int (I a0 0) :: st) S I J Q) := tr_geti (k := 15) (by decide +kernel) (by decide +kernel) (Or.inl (by decide +kernel))
theorem r20_4 : am_T d 20 4 ls st S I J Q = am_T d 20 7 ls (.int 300 :: st) S I J Q := tr_sipush (m := 300) (by decide +kernel) (by decide)
theorem r20_7 : am_T d 20 7 ls (.int x1 :: .int x0 :: st) S I J Q = if x1 ≤ x0 then am_T d 20 31 ls st S I J Q else am_T d 20 10 ls st S I J Q := tr_icmpge (o := 24) (by decide +kernel) rfl
theorem r20_10 : am_T d 20 10 [some (.ref a0), l1] st S I J Q = am_T d 20 11 [some (.ref a0), l1] (.ref a0 :: st) S I J Q := tr_aload_n (m := 0) (by decide +kernel) rfl
theorem r20_11 : am_T d 20 11 ls (.ref a0 :: st) S I J Q = ((am_is S a0 2 ∧ am_rf S a0 2 ≠ 0) ∧ am_T d 20 14 ls (.ref (am_rf S a0 2) :: st) S I J Q) := tr_geta (k := 9) (by decide +kernel) (by decide +kernel) (by decide +kernel)
theorem r20_14 : am_T d 20 14 [some (.ref a0), l1] st S I J Q = am_T d 20 15 [some (.ref a0), l1] (.ref a0 :: st) S I J Q := tr_aload_n (m := 0) (by decide +kernel) rfl
theorem r20_15 : am_T d 20 15 ls (.ref a0 :: st) S I J Q = (am_is S a0 2 ∧ am_T d 20 18 ls (.int (I a0 0) :: st) S I J Q) := tr_geti (k := 15) (by decide +kernel) (by decide +kernel) (Or.inl (by decide +kernel))
theorem r20_18 : am_T d 20 18 [l0, some (.int x0)] st S I J Q = am_T d 20 19 [l0, some (.int x0)] (.int x0 :: st) S I J Q := tr_iload_n (m := 1) (by decide +kernel) rfl
theorem r20_19 : am_T d 20 19 ls (.int x0 :: st) S I J Q = am_T d 20 20 ls (.int (am_i2c x0) :: st) S I J Q := tr_i2c (by decide +kernel)
theorem r20_20 : am_T d 20 20 ls (.int x1 :: .int x0 :: .ref a0 :: st) S I J Q = ((am_ixw S a0 22 x0 ∧ am_i2c x1 = x1) ∧ am_T d 20 21 ls st S (am_up I a0 x0.toNatClampNeg x1) J Q) := tr_cast (by decide +kernel)
theorem r20_21 : am_T d 20 21 [some (.ref a0), l1] st S I J Q = am_T d 20 22 [some (.ref a0), l1] (.ref a0 :: st) S I J Q := tr_aload_n (m := 0) (by decide +kernel) rfl
theorem r20_22 : am_T d 20 22 ls (.ref a0 :: st) S I J Q = am_T d 20 23 ls (.ref a0 :: .ref a0 :: st) S I J Q := tr_dupa (by decide +kernel)
theorem r20_23 : am_T d 20 23 ls (.ref a0 :: st) S I J Q = (am_is S a0 2 ∧ am_T d 20 26 ls (.int (I a0 0) :: st) S I J Q) := tr_geti (k := 15) (by decide +kernel) (by decide +kernel) (Or.inl (by decide +kernel))
theorem r20_26 : am_T d 20 26 ls st S I J Q = am_T d 20 27 ls (.int 1 :: st) S I J Q := tr_iconst (m := 1) (by decide +kernel) (by decide)
theorem r20_27 : am_T d 20 27 ls (.int x1 :: .int x0 :: st) S I J Q = am_T d 20 28 ls (.int (x0 + x1) :: st) S I J Q := tr_iadd (by decide +kernel)
theorem r20_28 : am_T d 20 28 ls (.int x0 :: .ref a0 :: st) S I J Q = (am_is S a0 2 ∧ am_T d 20 31 ls st S (am_up I a0 0 x0) J Q) := tr_puti (k := 15) (by decide +kernel) (by decide +kernel) (by decide +kernel) (by decide +kernel)
theorem r20_31 : am_T d 20 31 ls [] S I J Q = Q none S I J := tr_vret (by decide +kernel) (by decide +kernel)
-- 21 Txt.readInto(LArborescenceFinder$Graph;)Z; heads [54]
theorem e21 : am_C (d + 1) 21 [.ref a0, .ref a1] S I J Q = am_T d 21 0 [some (.ref a0), some (.ref a1), none, none, none] [] S I J Q := tr_en (Nat.le_of_ble_eq_true rfl) rfl
theorem r21_0 : am_T d 21 0 [some (.ref a0), l1, l2, l3, l4] st S I J Q = am_T d 21 1 [some (.ref a0), l1, l2, l3, l4] (.ref a0 :: st) S I J Q := tr_aload_n (m := 0) (by decide +kernel) rfl
theorem r21_1 : am_T d 21 1 ls st S I J Q = am_T d 21 2 ls (.int 0 :: st) S I J Q := tr_iconst (m := 0) (by decide +kernel) (by decide)
theorem r21_2 : am_T d 21 2 ls (.int x0 :: .ref a0 :: st) S I J Q = (am_is S a0 2 ∧ am_T d 21 5 ls st S (am_up I a0 1 x0) J Q) := tr_puti (k := 19) (by decide +kernel) (by decide +kernel) (by decide +kernel) (by decide +kernel)
theorem r21_5 : am_T d 21 5 [some (.ref a0), l1, l2, l3, l4] st S I J Q = am_T d 21 6 [some (.ref a0), l1, l2, l3, l4] (.ref a0 :: st) S I J Q := tr_aload_n (m := 0) (by decide +kernel) rfl
theorem r21_6 : am_T d 21 6 ls st S I J Q = am_T d 21 7 ls (.int 2 :: st) S I J Q := tr_iconst (m := 2) (by decide +kernel) (by decide)
theorem r21_7 : am_T d 21 7 ls st S I J Q = am_T d 21 9 ls (.int 8 :: st) S I J Q := tr_bipush (m := 8) (by decide +kernel) (by decide)
theorem r21_9 : am_T d 21 9 ls [.int x2, .int x1, .ref a0] S I J Q = (am_is S a0 2 ∧ am_C d 25 [.ref a0, .int x1, .int x2] S I J (fun r S I J => am_T d 21 12 ls (am_psh r []) S I J Q)) := tr_virt (k := 22) (by decide +kernel) (by decide +kernel) rfl rfl (Nat.le_of_ble_eq_true rfl) (by decide +kernel)
theorem r21_12 : am_T d 21 12 [l0, l1, l2, l3, l4] (.int x0 :: st) S I J Q = am_T d 21 13 [l0, am_clr l1, some (.int x0), l3, l4] st S I J Q := tr_istore_n (m := 2) (by decide +kernel) (Nat.le_of_ble_eq_true rfl) rfl
theorem r21_13 : am_T d 21 13 [l0, l1, some (.int x0), l3, l4] st S I J Q = am_T d 21 14 [l0, l1, some (.int x0), l3, l4] (.int x0 :: st) S I J Q := tr_iload_n (m := 2) (by decide +kernel) rfl
theorem r21_14 : am_T d 21 14 ls st S I J Q = am_T d 21 15 ls (.int (-1) :: st) S I J Q := tr_iconst (m := -1) (by decide +kernel) (by decide)
theorem r21_15 : am_T d 21 15 ls (.int x1 :: .int x0 :: st) S I J Q = if x0 = x1 then am_T d 21 27 ls st S I J Q else am_T d 21 18 ls st S I J Q := tr_icmpeq (o := 12) (by decide +kernel) rfl
theorem r21_18 : am_T d 21 18 [some (.ref a0), l1, l2, l3, l4] st S I J Q = am_T d 21 19 [some (.ref a0), l1, l2, l3, l4] (.ref a0 :: st) S I J Q := tr_aload_n (m := 0) (by decide +kernel) rfl
theorem r21_19 : am_T d 21 19 ls st S I J Q = am_T d 21 21 ls (.int 47 :: st) S I J Q := tr_bipush (m := 47) (by decide +kernel) (by decide)
theorem r21_21 : am_T d 21 21 ls [.int x1, .ref a0] S I J Q = (am_is S a0 2 ∧ am_C d 24 [.ref a0, .int x1] S I J (fun r S I J => am_T d 21 24 ls (am_psh r []) S I J Q)) := tr_virt (k := 26) (by decide +kernel) (by decide +kernel) rfl rfl (Nat.le_of_ble_eq_true rfl) (by decide +kernel)
theorem r21_24 : am_T d 21 24 ls (.int x0 :: st) S I J Q = if x0 = 0 then am_T d 21 27 ls st S I J Q else am_T d 21 29 ls st S I J Q := tr_ifne (o := 5) (by decide +kernel) rfl
theorem r21_27 : am_T d 21 27 ls st S I J Q = am_T d 21 28 ls (.int 0 :: st) S I J Q := tr_iconst (m := 0) (by decide +kernel) (by decide)
theorem r21_28 : am_T d 21 28 ls [.int x0] S I J Q = ((x0 = 0 ∨ x0 = 1) ∧ Q (some (.int x0)) S I J) := tr_iretz (by decide +kernel) (by decide +kernel)
theorem r21_29 : am_T d 21 29 [some (.ref a0), l1, l2, l3, l4] st S I J Q = am_T d 21 30 [some (.ref a0), l1, l2, l3, l4] (.ref a0 :: st) S I J Q := tr_aload_n (m := 0) (by decide +kernel) rfl
theorem r21_30 : am_T d 21 30 ls st S I J Q = am_T d 21 31 ls (.int 0 :: st) S I J Q := tr_iconst (m := 0) (by decide +kernel) (by decide)
theorem r21_31 : am_T d 21 31 [l0, l1, some (.int x0), l3, l4] st S I J Q = am_T d 21 32 [l0, l1, some (.int x0), l3, l4] (.int x0 :: st) S I J Q := tr_iload_n (m := 2) (by decide +kernel) rfl
theorem r21_32 : am_T d 21 32 ls st S I J Q = am_T d 21 33 ls (.int 1 :: st) S I J Q := tr_iconst (m := 1) (by decide +kernel) (by decide)
theorem r21_33 : am_T d 21 33 ls (.int x1 :: .int x0 :: st) S I J Q = am_T d 21 34 ls (.int (x0 - x1) :: st) S I J Q := tr_isub (by decide +kernel)
theorem r21_34 : am_T d 21 34 ls [.int x2, .int x1, .ref a0] S I J Q = (am_is S a0 2 ∧ am_C d 25 [.ref a0, .int x1, .int x2] S I J (fun r S I J => am_T d 21 37 ls (am_psh r []) S I J Q)) := tr_virt (k := 22) (by decide +kernel) (by decide +kernel) rfl rfl (Nat.le_of_ble_eq_true rfl) (by decide +kernel)
theorem r21_37 : am_T d 21 37 [l0, l1, l2, l3, l4] (.int x0 :: st) S I J Q = am_T d 21 38 [l0, l1, am_clr l2, some (.int x0), l4] st S I J Q := tr_istore_n (m := 3) (by decide +kernel) (Nat.le_of_ble_eq_true rfl) rfl
theorem r21_38 : am_T d 21 38 [l0, l1, l2, some (.int x0), l4] st S I J Q = am_T d 21 39 [l0, l1, l2, some (.int x0), l4] (.int x0 :: st) S I J Q := tr_iload_n (m := 3) (by decide +kernel) rfl
theorem r21_39 : am_T d 21 39 ls st S I J Q = am_T d 21 40 ls (.int (-1) :: st) S I J Q := tr_iconst (m := -1) (by decide +kernel) (by decide)
theorem r21_40 : am_T d 21 40 ls (.int x1 :: .int x0 :: st) S I J Q = if x0 = x1 then am_T d 21 43 ls st S I J Q else am_T d 21 45 ls st S I J Q := tr_icmpne (o := 5) (by decide +kernel) rfl
theorem r21_43 : am_T d 21 43 ls st S I J Q = am_T d 21 44 ls (.int 0 :: st) S I J Q := tr_iconst (m := 0) (by decide +kernel) (by decide)
theorem r21_44 : am_T d 21 44 ls [.int x0] S I J Q = ((x0 = 0 ∨ x0 = 1) ∧ Q (some (.int x0)) S I J) := tr_iretz (by decide +kernel) (by decide +kernel)
theorem r21_45 : am_T d 21 45 [l0, some (.ref a0), l2, l3, l4] st S I J Q = am_T d 21 46 [l0, some (.ref a0), l2, l3, l4] (.ref a0 :: st) S I J Q := tr_aload_n (m := 1) (by decide +kernel) rfl
theorem r21_46 : am_T d 21 46 [l0, l1, some (.int x0), l3, l4] st S I J Q = am_T d 21 47 [l0, l1, some (.int x0), l3, l4] (.int x0 :: st) S I J Q := tr_iload_n (m := 2) (by decide +kernel) rfl
theorem r21_47 : am_T d 21 47 [l0, l1, l2, some (.int x0), l4] st S I J Q = am_T d 21 48 [l0, l1, l2, some (.int x0), l4] (.int x0 :: st) S I J Q := tr_iload_n (m := 3) (by decide +kernel) rfl
theorem r21_48 : am_T d 21 48 ls [.int x2, .int x1, .ref a0] S I J Q = (am_is S a0 1 ∧ am_C d 11 [.ref a0, .int x1, .int x2] S I J (fun r S I J => am_T d 21 51 ls (am_psh r []) S I J Q)) := tr_virt (k := 30) (by decide +kernel) (by decide +kernel) rfl rfl (Nat.le_of_ble_eq_true rfl) (by decide +kernel)
theorem r21_51 : am_T d 21 51 ls st S I J Q = am_T d 21 52 ls (.int 0 :: st) S I J Q := tr_iconst (m := 0) (by decide +kernel) (by decide)
theorem r21_52 : am_T d 21 52 [l0, l1, l2, l3, l4] (.int x0 :: st) S I J Q = am_T d 21 54 [l0, l1, l2, am_clr l3, some (.int x0)] st S I J Q := tr_istore (k := 4) (by decide +kernel) (Nat.le_of_ble_eq_true rfl) rfl
theorem r21_54 : am_T d 21 54 [l0, l1, l2, l3, some (.int x0)] st S I J Q = am_T d 21 56 [l0, l1, l2, l3, some (.int x0)] (.int x0 :: st) S I J Q := tr_iload (k := 4) (by decide +kernel) rfl
theorem r21_56 : am_T d 21 56 ls st S I J Q = am_T d 21 58 ls (.int 32 :: st) S I J Q := tr_bipush (m := 32) (by decide +kernel) (by decide)
theorem r21_58 : am_T d 21 58 ls (.int x1 :: .int x0 :: st) S I J Q = if x1 < x0 then am_T d 21 97 ls st S I J Q else am_T d 21 61 ls st S I J Q := tr_icmpgt (o := 39) (by decide +kernel) rfl
theorem r21_61 : am_T d 21 61 [some (.ref a0), l1, l2, l3, l4] st S I J Q = am_T d 21 62 [some (.ref a0), l1, l2, l3, l4] (.ref a0 :: st) S I J Q := tr_aload_n (m := 0) (by decide +kernel) rfl
theorem r21_62 : am_T d 21 62 ls (.ref a0 :: st) S I J Q = (am_is S a0 2 ∧ am_T d 21 65 ls (.int (I a0 1) :: st) S I J Q) := tr_geti (k := 19) (by decide +kernel) (by decide +kernel) (Or.inl (by decide +kernel))
theorem r21_65 : am_T d 21 65 [some (.ref a0), l1, l2, l3, l4] st S I J Q = am_T d 21 66 [some (.ref a0), l1, l2, l3, l4] (.ref a0 :: st) S I J Q := tr_aload_n (m := 0) (by decide +kernel) rfl
theorem r21_66 : am_T d 21 66 ls (.ref a0 :: st) S I J Q = (am_is S a0 2 ∧ am_T d 21 69 ls (.int (I a0 0) :: st) S I J Q) := tr_geti (k := 15) (by decide +kernel) (by decide +kernel) (Or.inl (by decide +kernel))
theorem r21_69 : am_T d 21 69 ls (.int x1 :: .int x0 :: st) S I J Q = if x1 ≤ x0 then am_T d 21 97 ls st S I J Q else am_T d 21 72 ls st S I J Q := tr_icmpge (o := 28) (by decide +kernel) rfl
theorem r21_72 : am_T d 21 72 [l0, some (.ref a0), l2, l3, l4] st S I J Q = am_T d 21 73 [l0, some (.ref a0), l2, l3, l4] (.ref a0 :: st) S I J Q := tr_aload_n (m := 1) (by decide +kernel) rfl
theorem r21_73 : am_T d 21 73 ls (.ref a0 :: st) S I J Q = (am_is S a0 1 ∧ am_T d 21 76 ls (.int (I a0 2) :: st) S I J Q) := tr_geti (k := 36) (by decide +kernel) (by decide +kernel) (Or.inl (by decide +kernel))
theorem r21_76 : am_T d 21 76 ls st S I J Q = am_T d 21 78 ls (.int 32 :: st) S I J Q := tr_bipush (m := 32) (by decide +kernel) (by decide)
theorem r21_78 : am_T d 21 78 ls (.int x1 :: .int x0 :: st) S I J Q = if x1 ≤ x0 then am_T d 21 89 ls st S I J Q else am_T d 21 81 ls st S I J Q := tr_icmpge (o := 11) (by decide +kernel) rfl
theorem r21_81 : am_T d 21 81 [some (.ref a0), l1, l2, l3, l4] st S I J Q = am_T d 21 82 [some (.ref a0), l1, l2, l3, l4] (.ref a0 :: st) S I J Q := tr_aload_n (m := 0) (by decide +kernel) rfl
theorem r21_82 : am_T d 21 82 [l0, some (.ref a0), l2, l3, l4] st S I J Q = am_T d 21 83 [l0, some (.ref a0), l2, l3, l4] (.ref a0 :: st) S I J Q := tr_aload_n (m := 1) (by decide +kernel) rfl
theorem r21_83 : am_T d 21 83 ls [.ref a1, .ref a0] S I J Q = (am_is S a0 2 ∧ am_C d 22 [.ref a0, .ref a1] S I J (fun r S I J => am_T d 21 86 ls (am_psh r []) S I J Q)) := tr_virt (k := 39) (by decide +kernel) (by decide +kernel) rfl rfl (Nat.le_of_ble_eq_true rfl) (by decide +kernel)
theorem r21_86 : am_T d 21 86 ls (.int x0 :: st) S I J Q = if x0 = 0 then am_T d 21 89 ls st S I J Q else am_T d 21 91 ls st S I J Q := tr_ifne (o := 5) (by decide +kernel) rfl
theorem r21_89 : am_T d 21 89 ls st S I J Q = am_T d 21 90 ls (.int 0 :: st) S I J Q := tr_iconst (m := 0) (by decide +kernel) (by decide)
theorem r21_90 : am_T d 21 90 ls [.int x0] S I J Q = ((x0 = 0 ∨ x0 = 1) ∧ Q (some (.int x0)) S I J) := tr_iretz (by decide +kernel) (by decide +kernel)
theorem r21_91 : am_T d 21 91 [l0, l1, l2, l3, some (.int x0)] st S I J Q = am_T d 21 94 [l0, l1, l2, am_clr l3, some (.int (x0 + 1))] st S I J Q := tr_iinc (k := 4) (m := 1) (by decide +kernel) rfl (Nat.le_of_ble_eq_true rfl) (by decide) rfl
theorem r21_94 : am_T d 21 94 ls st S I J Q = am_T d 21 54 ls st S I J Q := tr_goto (o := -40) (by decide +kernel) rfl
theorem r21_97 : am_T d 21 97 ls st S I J Q = am_T d 21 98 ls (.int 1 :: st) S I J Q := tr_iconst (m := 1) (by decide +kernel) (by decide)
theorem r21_98 : am_T d 21 98 ls [.int x0] S I J Q = ((x0 = 0 ∨ x0 = 1) ∧ Q (some (.int x0)) S I J) := tr_iretz (by decide +kernel) (by decide +kernel)
-- 22 Txt.readArc(LArborescenceFinder$Graph;)Z; heads []
theorem e22 : am_C (d + 1) 22 [.ref a0, .ref a1] S I J Q = am_T d 22 0 [some (.ref a0), some (.ref a1), none, none, none, none] [] S I J Q := tr_en (Nat.le_of_ble_eq_true rfl) rfl
theorem r22_0 : am_T d 22 0 [some (.ref a0), l1, l2, l3, l4, l5] st S I J Q = am_T d 22 1 [some (.ref a0), l1, l2, l3, l4, l5] (.ref a0 :: st) S I J Q := tr_aload_n (m := 0) (by decide +kernel) rfl
theorem r22_1 : am_T d 22 1 ls st S I J Q = am_T d 22 3 ls (.int 44 :: st) S I J Q := tr_bipush (m := 44) (by decide +kernel) (by decide)
theorem r22_3 : am_T d 22 3 ls [.int x1, .ref a0] S I J Q = (am_is S a0 2 ∧ am_C d 24 [.ref a0, .int x1] S I J (fun r S I J => am_T d 22 6 ls (am_psh r []) S I J Q)) := tr_virt (k := 26) (by decide +kernel) (by decide +kernel) rfl rfl (Nat.le_of_ble_eq_true rfl) (by decide +kernel)
theorem r22_6 : am_T d 22 6 ls (.int x0 :: st) S I J Q = if x0 = 0 then am_T d 22 9 ls st S I J Q else am_T d 22 11 ls st S I J Q := tr_ifne (o := 5) (by decide +kernel) rfl
theorem r22_9 : am_T d 22 9 ls st S I J Q = am_T d 22 10 ls (.int 0 :: st) S I J Q := tr_iconst (m := 0) (by decide +kernel) (by decide)
theorem r22_10 : am_T d 22 10 ls [.int x0] S I J Q = ((x0 = 0 ∨ x0 = 1) ∧ Q (some (.int x0)) S I J) := tr_iretz (by decide +kernel) (by decide +kernel)
theorem r22_11 : am_T d 22 11 [some (.ref a0), l1, l2, l3, l4, l5] st S I J Q = am_T d 22 12 [some (.ref a0), l1, l2, l3, l4, l5] (.ref a0 :: st) S I J Q := tr_aload_n (m := 0) (by decide +kernel) rfl
theorem r22_12 : am_T d 22 12 ls st S I J Q = am_T d 22 13 ls (.int 0 :: st) S I J Q := tr_iconst (m := 0) (by decide +kernel) (by decide)
theorem r22_13 : am_T d 22 13 [l0, some (.ref a0), l2, l3, l4, l5] st S I J Q = am_T d 22 14 [l0, some (.ref a0), l2, l3, l4, l5] (.ref a0 :: st) S I J Q := tr_aload_n (m := 1) (by decide +kernel) rfl
theorem r22_14 : am_T d 22 14 ls (.ref a0 :: st) S I J Q = (am_is S a0 1 ∧ am_T d 22 17 ls (.int (I a0 0) :: st) S I J Q) := tr_geti (k := 43) (by decide +kernel) (by decide +kernel) (Or.inl (by decide +kernel))
theorem r22_17 : am_T d 22 17 ls st S I J Q = am_T d 22 18 ls (.int 1 :: st) S I J Q := tr_iconst (m := 1) (by decide +kernel) (by decide)
theorem r22_18 : am_T d 22 18 ls (.int x1 :: .int x0 :: st) S I J Q = am_T d 22 19 ls (.int (x0 - x1) :: st) S I J Q := tr_isub (by decide +kernel)
theorem r22_19 : am_T d 22 19 ls [.int x2, .int x1, .ref a0] S I J Q = (am_is S a0 2 ∧ am_C d 25 [.ref a0, .int x1, .int x2] S I J (fun r S I J => am_T d 22 22 ls (am_psh r []) S I J Q)) := tr_virt (k := 22) (by decide +kernel) (by decide +kernel) rfl rfl (Nat.le_of_ble_eq_true rfl) (by decide +kernel)
theorem r22_22 : am_T d 22 22 [l0, l1, l2, l3, l4, l5] (.int x0 :: st) S I J Q = am_T d 22 23 [l0, am_clr l1, some (.int x0), l3, l4, l5] st S I J Q := tr_istore_n (m := 2) (by decide +kernel) (Nat.le_of_ble_eq_true rfl) rfl
theorem r22_23 : am_T d 22 23 [l0, l1, some (.int x0), l3, l4, l5] st S I J Q = am_T d 22 24 [l0, l1, some (.int x0), l3, l4, l5] (.int x0 :: st) S I J Q := tr_iload_n (m := 2) (by decide +kernel) rfl
theorem r22_24 : am_T d 22 24 ls st S I J Q = am_T d 22 25 ls (.int (-1) :: st) S I J Q := tr_iconst (m := -1) (by decide +kernel) (by decide)
theorem r22_25 : am_T d 22 25 ls (.int x1 :: .int x0 :: st) S I J Q = if x0 = x1 then am_T d 22 37 ls st S I J Q else am_T d 22 28 ls st S I J Q := tr_icmpeq (o := 12) (by decide +kernel) rfl
theorem r22_28 : am_T d 22 28 [some (.ref a0), l1, l2, l3, l4, l5] st S I J Q = am_T d 22 29 [some (.ref a0), l1, l2, l3, l4, l5] (.ref a0 :: st) S I J Q := tr_aload_n (m := 0) (by decide +kernel) rfl
theorem r22_29 : am_T d 22 29 ls st S I J Q = am_T d 22 31 ls (.int 62 :: st) S I J Q := tr_bipush (m := 62) (by decide +kernel) (by decide)
theorem r22_31 : am_T d 22 31 ls [.int x1, .ref a0] S I J Q = (am_is S a0 2 ∧ am_C d 24 [.ref a0, .int x1] S I J (fun r S I J => am_T d 22 34 ls (am_psh r []) S I J Q)) := tr_virt (k := 26) (by decide +kernel) (by decide +kernel) rfl rfl (Nat.le_of_ble_eq_true rfl) (by decide +kernel)
theorem r22_34 : am_T d 22 34 ls (.int x0 :: st) S I J Q = if x0 = 0 then am_T d 22 37 ls st S I J Q else am_T d 22 39 ls st S I J Q := tr_ifne (o := 5) (by decide +kernel) rfl
theorem r22_37 : am_T d 22 37 ls st S I J Q = am_T d 22 38 ls (.int 0 :: st) S I J Q := tr_iconst (m := 0) (by decide +kernel) (by decide)
theorem r22_38 : am_T d 22 38 ls [.int x0] S I J Q = ((x0 = 0 ∨ x0 = 1) ∧ Q (some (.int x0)) S I J) := tr_iretz (by decide +kernel) (by decide +kernel)
theorem r22_39 : am_T d 22 39 [some (.ref a0), l1, l2, l3, l4, l5] st S I J Q = am_T d 22 40 [some (.ref a0), l1, l2, l3, l4, l5] (.ref a0 :: st) S I J Q := tr_aload_n (m := 0) (by decide +kernel) rfl
theorem r22_40 : am_T d 22 40 ls (.ref a0 :: st) S I J Q = (am_is S a0 2 ∧ am_T d 22 43 ls (.int (I a0 1) :: st) S I J Q) := tr_geti (k := 19) (by decide +kernel) (by decide +kernel) (Or.inl (by decide +kernel))
theorem r22_43 : am_T d 22 43 [l0, l1, l2, l3, l4, l5] (.int x0 :: st) S I J Q = am_T d 22 44 [l0, l1, am_clr l2, some (.int x0), l4, l5] st S I J Q := tr_istore_n (m := 3) (by decide +kernel) (Nat.le_of_ble_eq_true rfl) rfl
theorem r22_44 : am_T d 22 44 [some (.ref a0), l1, l2, l3, l4, l5] st S I J Q = am_T d 22 45 [some (.ref a0), l1, l2, l3, l4, l5] (.ref a0 :: st) S I J Q := tr_aload_n (m := 0) (by decide +kernel) rfl
theorem r22_45 : am_T d 22 45 ls st S I J Q = am_T d 22 46 ls (.int 0 :: st) S I J Q := tr_iconst (m := 0) (by decide +kernel) (by decide)
theorem r22_46 : am_T d 22 46 [l0, some (.ref a0), l2, l3, l4, l5] st S I J Q = am_T d 22 47 [l0, some (.ref a0), l2, l3, l4, l5] (.ref a0 :: st) S I J Q := tr_aload_n (m := 1) (by decide +kernel) rfl
theorem r22_47 : am_T d 22 47 ls (.ref a0 :: st) S I J Q = (am_is S a0 1 ∧ am_T d 22 50 ls (.int (I a0 0) :: st) S I J Q) := tr_geti (k := 43) (by decide +kernel) (by decide +kernel) (Or.inl (by decide +kernel))
theorem r22_50 : am_T d 22 50 ls st S I J Q = am_T d 22 51 ls (.int 1 :: st) S I J Q := tr_iconst (m := 1) (by decide +kernel) (by decide)
theorem r22_51 : am_T d 22 51 ls (.int x1 :: .int x0 :: st) S I J Q = am_T d 22 52 ls (.int (x0 - x1) :: st) S I J Q := tr_isub (by decide +kernel)
theorem r22_52 : am_T d 22 52 ls [.int x2, .int x1, .ref a0] S I J Q = (am_is S a0 2 ∧ am_C d 25 [.ref a0, .int x1, .int x2] S I J (fun r S I J => am_T d 22 55 ls (am_psh r []) S I J Q)) := tr_virt (k := 22) (by decide +kernel) (by decide +kernel) rfl rfl (Nat.le_of_ble_eq_true rfl) (by decide +kernel)
theorem r22_55 : am_T d 22 55 [l0, l1, l2, l3, l4, l5] (.int x0 :: st) S I J Q = am_T d 22 57 [l0, l1, l2, am_clr l3, some (.int x0), l5] st S I J Q := tr_istore (k := 4) (by decide +kernel) (Nat.le_of_ble_eq_true rfl) rfl
theorem r22_57 : am_T d 22 57 [l0, l1, l2, l3, some (.int x0), l5] st S I J Q = am_T d 22 59 [l0, l1, l2, l3, some (.int x0), l5] (.int x0 :: st) S I J Q := tr_iload (k := 4) (by decide +kernel) rfl
theorem r22_59 : am_T d 22 59 [l0, l1, some (.int x0), l3, l4, l5] st S I J Q = am_T d 22 60 [l0, l1, some (.int x0), l3, l4, l5] (.int x0 :: st) S I J Q := tr_iload_n (m := 2) (by decide +kernel) rfl
theorem r22_60 : am_T d 22 60 ls (.int x1 :: .int x0 :: st) S I J Q = if x0 = x1 then am_T d 22 63 ls st S I J Q else am_T d 22 70 ls st S I J Q := tr_icmpne (o := 10) (by decide +kernel) rfl
theorem r22_63 : am_T d 22 63 [some (.ref a0), l1, l2, l3, l4, l5] st S I J Q = am_T d 22 64 [some (.ref a0), l1, l2, l3, l4, l5] (.ref a0 :: st) S I J Q := tr_aload_n (m := 0) (by decide +kernel) rfl
theorem r22_64 : am_T d 22 64 [l0, l1, l2, some (.int x0), l4, l5] st S I J Q = am_T d 22 65 [l0, l1, l2, some (.int x0), l4, l5] (.int x0 :: st) S I J Q := tr_iload_n (m := 3) (by decide +kernel) rfl
theorem r22_65 : am_T d 22 65 ls (.int x0 :: .ref a0 :: st) S I J Q = (am_is S a0 2 ∧ am_T d 22 68 ls st S (am_up I a0 1 x0) J Q) := tr_puti (k := 19) (by decide +kernel) (by decide +kernel) (by decide +kernel) (by decide +kernel)
theorem r22_68 : am_T d 22 68 ls st S I J Q = am_T d 22 69 ls (.int 0 :: st) S I J Q := tr_iconst (m := 0) (by decide +kernel) (by decide)
theorem r22_69 : am_T d 22 69 ls [.int x0] S I J Q = ((x0 = 0 ∨ x0 = 1) ∧ Q (some (.int x0)) S I J) := tr_iretz (by decide +kernel) (by decide +kernel)
theorem r22_70 : am_T d 22 70 [l0, l1, l2, l3, some (.int x0), l5] st S I J Q = am_T d 22 72 [l0, l1, l2, l3, some (.int x0), l5] (.int x0 :: st) S I J Q := tr_iload (k := 4) (by decide +kernel) rfl
theorem r22_72 : am_T d 22 72 ls st S I J Q = am_T d 22 73 ls (.int (-1) :: st) S I J Q := tr_iconst (m := -1) (by decide +kernel) (by decide)
theorem r22_73 : am_T d 22 73 ls (.int x1 :: .int x0 :: st) S I J Q = if x0 = x1 then am_T d 22 85 ls st S I J Q else am_T d 22 76 ls st S I J Q := tr_icmpeq (o := 12) (by decide +kernel) rfl
theorem r22_76 : am_T d 22 76 [some (.ref a0), l1, l2, l3, l4, l5] st S I J Q = am_T d 22 77 [some (.ref a0), l1, l2, l3, l4, l5] (.ref a0 :: st) S I J Q := tr_aload_n (m := 0) (by decide +kernel) rfl
theorem r22_77 : am_T d 22 77 ls st S I J Q = am_T d 22 79 ls (.int 58 :: st) S I J Q := tr_bipush (m := 58) (by decide +kernel) (by decide)
theorem r22_79 : am_T d 22 79 ls [.int x1, .ref a0] S I J Q = (am_is S a0 2 ∧ am_C d 24 [.ref a0, .int x1] S I J (fun r S I J => am_T d 22 82 ls (am_psh r []) S I J Q)) := tr_virt (k := 26) (by decide +kernel) (by decide +kernel) rfl rfl (Nat.le_of_ble_eq_true rfl) (by decide +kernel)
theorem r22_82 : am_T d 22 82 ls (.int x0 :: st) S I J Q = if x0 = 0 then am_T d 22 85 ls st S I J Q else am_T d 22 87 ls st S I J Q := tr_ifne (o := 5) (by decide +kernel) rfl
theorem r22_85 : am_T d 22 85 ls st S I J Q = am_T d 22 86 ls (.int 0 :: st) S I J Q := tr_iconst (m := 0) (by decide +kernel) (by decide)
theorem r22_86 : am_T d 22 86 ls [.int x0] S I J Q = ((x0 = 0 ∨ x0 = 1) ∧ Q (some (.int x0)) S I J) := tr_iretz (by decide +kernel) (by decide +kernel)
theorem r22_87 : am_T d 22 87 [some (.ref a0), l1, l2, l3, l4, l5] st S I J Q = am_T d 22 88 [some (.ref a0), l1, l2, l3, l4, l5] (.ref a0 :: st) S I J Q := tr_aload_n (m := 0) (by decide +kernel) rfl
theorem r22_88 : am_T d 22 88 ls [.ref a0] S I J Q = (am_is S a0 2 ∧ am_C d 23 [.ref a0] S I J (fun r S I J => am_T d 22 91 ls (am_psh r []) S I J Q)) := tr_virt (k := 46) (by decide +kernel) (by decide +kernel) rfl rfl (Nat.le_of_ble_eq_true rfl) (by decide +kernel)
theorem r22_91 : am_T d 22 91 [l0, l1, l2, l3, l4, l5] (.int x0 :: st) S I J Q = am_T d 22 93 [l0, l1, l2, l3, am_clr l4, some (.int x0)] st S I J Q := tr_istore (k := 5) (by decide +kernel) (Nat.le_of_ble_eq_true rfl) rfl
theorem r22_93 : am_T d 22 93 [l0, l1, l2, l3, l4, some (.int x0)] st S I J Q = am_T d 22 95 [l0, l1, l2, l3, l4, some (.int x0)] (.int x0 :: st) S I J Q := tr_iload (k := 5) (by decide +kernel) rfl
theorem r22_95 : am_T d 22 95 ls st S I J Q = am_T d 22 96 ls (.int (-1) :: st) S I J Q := tr_iconst (m := -1) (by decide +kernel) (by decide)
theorem r22_96 : am_T d 22 96 ls (.int x1 :: .int x0 :: st) S I J Q = if x0 = x1 then am_T d 22 99 ls st S I J Q else am_T d 22 101 ls st S I J Q := tr_icmpne (o := 5) (by decide +kernel) rfl
theorem r22_99 : am_T d 22 99 ls st S I J Q = am_T d 22 100 ls (.int 0 :: st) S I J Q := tr_iconst (m := 0) (by decide +kernel) (by decide)
theorem r22_100 : am_T d 22 100 ls [.int x0] S I J Q = ((x0 = 0 ∨ x0 = 1) ∧ Q (some (.int x0)) S I J) := tr_iretz (by decide +kernel) (by decide +kernel)
theorem r22_101 : am_T d 22 101 [l0, some (.ref a0), l2, l3, l4, l5] st S I J Q = am_T d 22 102 [l0, some (.ref a0), l2, l3, l4, l5] (.ref a0 :: st) S I J Q := tr_aload_n (m := 1) (by decide +kernel) rfl
theorem r22_102 : am_T d 22 102 [l0, l1, some (.int x0), l3, l4, l5] st S I J Q = am_T d 22 103 [l0, l1, some (.int x0), l3, l4, l5] (.int x0 :: st) S I J Q := tr_iload_n (m := 2) (by decide +kernel) rfl
theorem r22_103 : am_T d 22 103 [l0, l1, l2, l3, some (.int x0), l5] st S I J Q = am_T d 22 105 [l0, l1, l2, l3, some (.int x0), l5] (.int x0 :: st) S I J Q := tr_iload (k := 4) (by decide +kernel) rfl
theorem r22_105 : am_T d 22 105 [l0, l1, l2, l3, l4, some (.int x0)] st S I J Q = am_T d 22 107 [l0, l1, l2, l3, l4, some (.int x0)] (.int x0 :: st) S I J Q := tr_iload (k := 5) (by decide +kernel) rfl
theorem r22_107 : am_T d 22 107 ls [.int x3, .int x2, .int x1, .ref a0] S I J Q = (am_is S a0 1 ∧ am_C d 15 [.ref a0, .int x1, .int x2, .int x3] S I J (fun r S I J => am_T d 22 110 ls (am_psh r []) S I J Q)) := tr_virt (k := 50) (by decide +kernel) (by decide +kernel) rfl rfl (Nat.le_of_ble_eq_true rfl) (by decide +kernel)
theorem r22_110 : am_T d 22 110 ls st S I J Q = am_T d 22 111 ls (.int 1 :: st) S I J Q := tr_iconst (m := 1) (by decide +kernel) (by decide)
theorem r22_111 : am_T d 22 111 ls [.int x0] S I J Q = ((x0 = 0 ∨ x0 = 1) ∧ Q (some (.int x0)) S I J) := tr_iretz (by decide +kernel) (by decide +kernel)
-- 23 Txt.takeNumber()I; heads []
theorem e23 : am_C (d + 1) 23 [.ref a0] S I J Q = am_T d 23 0 [some (.ref a0), none, none] [] S I J Q := tr_en (Nat.le_of_ble_eq_true rfl) rfl
theorem r23_0 : am_T d 23 0 [some (.ref a0), l1, l2] st S I J Q = am_T d 23 1 [some (.ref a0), l1, l2] (.ref a0 :: st) S I J Q := tr_aload_n (m := 0) (by decide +kernel) rfl
theorem r23_1 : am_T d 23 1 ls st S I J Q = am_T d 23 2 ls (.int 0 :: st) S I J Q := tr_iconst (m := 0) (by decide +kernel) (by decide)
theorem r23_2 : am_T d 23 2 ls st S I J Q = am_T d 23 4 ls (.int 9 :: st) S I J Q := tr_bipush (m := 9) (by decide +kernel) (by decide)
theorem r23_4 : am_T d 23 4 ls [.int x2, .int x1, .ref a0] S I J Q = (am_is S a0 2 ∧ am_C d 25 [.ref a0, .int x1, .int x2] S I J (fun r S I J => am_T d 23 7 ls (am_psh r []) S I J Q)) := tr_virt (k := 22) (by decide +kernel) (by decide +kernel) rfl rfl (Nat.le_of_ble_eq_true rfl) (by decide +kernel)
theorem r23_7 : am_T d 23 7 [l0, l1, l2] (.int x0 :: st) S I J Q = am_T d 23 8 [am_clr l0, some (.int x0), l2] st S I J Q := tr_istore_n (m := 1) (by decide +kernel) (Nat.le_of_ble_eq_true rfl) rfl
theorem r23_8 : am_T d 23 8 [l0, some (.int x0), l2] st S I J Q = am_T d 23 9 [l0, some (.int x0), l2] (.int x0 :: st) S I J Q := tr_iload_n (m := 1) (by decide +kernel) rfl
theorem r23_9 : am_T d 23 9 ls st S I J Q = am_T d 23 10 ls (.int (-1) :: st) S I J Q := tr_iconst (m := -1) (by decide +kernel) (by decide)
theorem r23_10 : am_T d 23 10 ls (.int x1 :: .int x0 :: st) S I J Q = if x0 = x1 then am_T d 23 13 ls st S I J Q else am_T d 23 15 ls st S I J Q := tr_icmpne (o := 5) (by decide +kernel) rfl
theorem r23_13 : am_T d 23 13 ls st S I J Q = am_T d 23 14 ls (.int (-1) :: st) S I J Q := tr_iconst (m := -1) (by decide +kernel) (by decide)
theorem r23_14 : am_T d 23 14 ls [.int x0] S I J Q = Q (some (.int x0)) S I J := tr_ireti (by decide +kernel) (by decide +kernel)
theorem r23_15 : am_T d 23 15 [some (.ref a0), l1, l2] st S I J Q = am_T d 23 16 [some (.ref a0), l1, l2] (.ref a0 :: st) S I J Q := tr_aload_n (m := 0) (by decide +kernel) rfl
theorem r23_16 : am_T d 23 16 ls st S I J Q = am_T d 23 17 ls (.int 0 :: st) S I J Q := tr_iconst (m := 0) (by decide +kernel) (by decide)
theorem r23_17 : am_T d 23 17 ls st S I J Q = am_T d 23 19 ls (.int 9 :: st) S I J Q := tr_bipush (m := 9) (by decide +kernel) (by decide)
theorem r23_19 : am_T d 23 19 ls [.int x2, .int x1, .ref a0] S I J Q = (am_is S a0 2 ∧ am_C d 25 [.ref a0, .int x1, .int x2] S I J (fun r S I J => am_T d 23 22 ls (am_psh r []) S I J Q)) := tr_virt (k := 22) (by decide +kernel) (by decide +kernel) rfl rfl (Nat.le_of_ble_eq_true rfl) (by decide +kernel)
theorem r23_22 : am_T d 23 22 [l0, l1, l2] (.int x0 :: st) S I J Q = am_T d 23 23 [l0, am_clr l1, some (.int x0)] st S I J Q := tr_istore_n (m := 2) (by decide +kernel) (Nat.le_of_ble_eq_true rfl) rfl
theorem r23_23 : am_T d 23 23 [l0, l1, some (.int x0)] st S I J Q = am_T d 23 24 [l0, l1, some (.int x0)] (.int x0 :: st) S I J Q := tr_iload_n (m := 2) (by decide +kernel) rfl
theorem r23_24 : am_T d 23 24 ls st S I J Q = am_T d 23 25 ls (.int (-1) :: st) S I J Q := tr_iconst (m := -1) (by decide +kernel) (by decide)
theorem r23_25 : am_T d 23 25 ls (.int x1 :: .int x0 :: st) S I J Q = if x0 = x1 then am_T d 23 28 ls st S I J Q else am_T d 23 32 ls st S I J Q := tr_icmpne (o := 7) (by decide +kernel) rfl
theorem r23_28 : am_T d 23 28 [l0, some (.int x0), l2] st S I J Q = am_T d 23 29 [l0, some (.int x0), l2] (.int x0 :: st) S I J Q := tr_iload_n (m := 1) (by decide +kernel) rfl
theorem r23_29 : am_T d 23 29 ls st S I J Q = am_T d 23 38 ls st S I J Q := tr_goto (o := 9) (by decide +kernel) rfl
theorem r23_32 : am_T d 23 32 ls st S I J Q = am_T d 23 34 ls (.int 10 :: st) S I J Q := tr_bipush (m := 10) (by decide +kernel) (by decide)
theorem r23_34 : am_T d 23 34 [l0, some (.int x0), l2] st S I J Q = am_T d 23 35 [l0, some (.int x0), l2] (.int x0 :: st) S I J Q := tr_iload_n (m := 1) (by decide +kernel) rfl
theorem r23_35 : am_T d 23 35 ls (.int x1 :: .int x0 :: st) S I J Q = am_T d 23 36 ls (.int (x0 * x1) :: st) S I J Q := tr_imul (by decide +kernel)
theorem r23_36 : am_T d 23 36 [l0, l1, some (.int x0)] st S I J Q = am_T d 23 37 [l0, l1, some (.int x0)] (.int x0 :: st) S I J Q := tr_iload_n (m := 2) (by decide +kernel) rfl
theorem r23_37 : am_T d 23 37 ls (.int x1 :: .int x0 :: st) S I J Q = am_T d 23 38 ls (.int (x0 + x1) :: st) S I J Q := tr_iadd (by decide +kernel)
theorem r23_38 : am_T d 23 38 ls [.int x0] S I J Q = Q (some (.int x0)) S I J := tr_ireti (by decide +kernel) (by decide +kernel)
-- 24 Txt.takeSign(C)Z; heads []
theorem e24 : am_C (d + 1) 24 [.ref a0, .int x1] S I J Q = am_T d 24 0 [some (.ref a0), some (.int x1)] [] S I J Q := tr_en (Nat.le_of_ble_eq_true rfl) rfl
theorem r24_0 : am_T d 24 0 [some (.ref a0), l1] st S I J Q = am_T d 24 1 [some (.ref a0), l1] (.ref a0 :: st) S I J Q := tr_aload_n (m := 0) (by decide +kernel) rfl
theorem r24_1 : am_T d 24 1 ls (.ref a0 :: st) S I J Q = (am_is S a0 2 ∧ am_T d 24 4 ls (.int (I a0 1) :: st) S I J Q) := tr_geti (k := 19) (by decide +kernel) (by decide +kernel) (Or.inl (by decide +kernel))
theorem r24_4 : am_T d 24 4 [some (.ref a0), l1] st S I J Q = am_T d 24 5 [some (.ref a0), l1] (.ref a0 :: st) S I J Q := tr_aload_n (m := 0) (by decide +kernel) rfl
theorem r24_5 : am_T d 24 5 ls (.ref a0 :: st) S I J Q = (am_is S a0 2 ∧ am_T d 24 8 ls (.int (I a0 0) :: st) S I J Q) := tr_geti (k := 15) (by decide +kernel) (by decide +kernel) (Or.inl (by decide +kernel))
theorem r24_8 : am_T d 24 8 ls (.int x1 :: .int x0 :: st) S I J Q = if x1 ≤ x0 then am_T d 24 24 ls st S I J Q else am_T d 24 11 ls st S I J Q := tr_icmpge (o := 16) (by decide +kernel) rfl
theorem r24_11 : am_T d 24 11 [some (.ref a0), l1] st S I J Q = am_T d 24 12 [some (.ref a0), l1] (.ref a0 :: st) S I J Q := tr_aload_n (m := 0) (by decide +kernel) rfl
theorem r24_12 : am_T d 24 12 ls (.ref a0 :: st) S I J Q = ((am_is S a0 2 ∧ am_rf S a0 2 ≠ 0) ∧ am_T d 24 15 ls (.ref (am_rf S a0 2) :: st) S I J Q) := tr_geta (k := 9) (by decide +kernel) (by decide +kernel) (by decide +kernel)
theorem r24_15 : am_T d 24 15 [some (.ref a0), l1] st S I J Q = am_T d 24 16 [some (.ref a0), l1] (.ref a0 :: st) S I J Q := tr_aload_n (m := 0) (by decide +kernel) rfl
theorem r24_16 : am_T d 24 16 ls (.ref a0 :: st) S I J Q = (am_is S a0 2 ∧ am_T d 24 19 ls (.int (I a0 1) :: st) S I J Q) := tr_geti (k := 19) (by decide +kernel) (by decide +kernel) (Or.inl (by decide +kernel))
theorem r24_19 : am_T d 24 19 ls (.int x0 :: .ref a0 :: st) S I J Q = (am_ix S a0 22 x0 ∧ am_T d 24 20 ls (.int (I a0 x0.toNatClampNeg) :: st) S I J Q) := tr_cald (by decide +kernel)
theorem r24_20 : am_T d 24 20 [l0, some (.int x0)] st S I J Q = am_T d 24 21 [l0, some (.int x0)] (.int x0 :: st) S I J Q := tr_iload_n (m := 1) (by decide +kernel) rfl
theorem r24_21 : am_T d 24 21 ls (.int x1 :: .int x0 :: st) S I J Q = if x0 = x1 then am_T d 24 26 ls st S I J Q else am_T d 24 24 ls st S I J Q := tr_icmpeq (o := 5) (by decide +kernel) rfl
theorem r24_24 : am_T d 24 24 ls st S I J Q = am_T d 24 25 ls (.int 0 :: st) S I J Q := tr_iconst (m := 0) (by decide +kernel) (by decide)
theorem r24_25 : am_T d 24 25 ls [.int x0] S I J Q = ((x0 = 0 ∨ x0 = 1) ∧ Q (some (.int x0)) S I J) := tr_iretz (by decide +kernel) (by decide +kernel)
theorem r24_26 : am_T d 24 26 [some (.ref a0), l1] st S I J Q = am_T d 24 27 [some (.ref a0), l1] (.ref a0 :: st) S I J Q := tr_aload_n (m := 0) (by decide +kernel) rfl
theorem r24_27 : am_T d 24 27 ls (.ref a0 :: st) S I J Q = am_T d 24 28 ls (.ref a0 :: .ref a0 :: st) S I J Q := tr_dupa (by decide +kernel)
theorem r24_28 : am_T d 24 28 ls (.ref a0 :: st) S I J Q = (am_is S a0 2 ∧ am_T d 24 31 ls (.int (I a0 1) :: st) S I J Q) := tr_geti (k := 19) (by decide +kernel) (by decide +kernel) (Or.inl (by decide +kernel))
theorem r24_31 : am_T d 24 31 ls st S I J Q = am_T d 24 32 ls (.int 1 :: st) S I J Q := tr_iconst (m := 1) (by decide +kernel) (by decide)
theorem r24_32 : am_T d 24 32 ls (.int x1 :: .int x0 :: st) S I J Q = am_T d 24 33 ls (.int (x0 + x1) :: st) S I J Q := tr_iadd (by decide +kernel)
theorem r24_33 : am_T d 24 33 ls (.int x0 :: .ref a0 :: st) S I J Q = (am_is S a0 2 ∧ am_T d 24 36 ls st S (am_up I a0 1 x0) J Q) := tr_puti (k := 19) (by decide +kernel) (by decide +kernel) (by decide +kernel) (by decide +kernel)
theorem r24_36 : am_T d 24 36 ls st S I J Q = am_T d 24 37 ls (.int 1 :: st) S I J Q := tr_iconst (m := 1) (by decide +kernel) (by decide)
theorem r24_37 : am_T d 24 37 ls [.int x0] S I J Q = ((x0 = 0 ∨ x0 = 1) ∧ Q (some (.int x0)) S I J) := tr_iretz (by decide +kernel) (by decide +kernel)
-- 25 Txt.takeDigit(II)I; heads []
theorem e25 : am_C (d + 1) 25 [.ref a0, .int x1, .int x2] S I J Q = am_T d 25 0 [some (.ref a0), some (.int x1), some (.int x2), none] [] S I J Q := tr_en (Nat.le_of_ble_eq_true rfl) rfl
theorem r25_0 : am_T d 25 0 [some (.ref a0), l1, l2, l3] st S I J Q = am_T d 25 1 [some (.ref a0), l1, l2, l3] (.ref a0 :: st) S I J Q := tr_aload_n (m := 0) (by decide +kernel) rfl
theorem r25_1 : am_T d 25 1 ls (.ref a0 :: st) S I J Q = (am_is S a0 2 ∧ am_T d 25 4 ls (.int (I a0 1) :: st) S I J Q) := tr_geti (k := 19) (by decide +kernel) (by decide +kernel) (Or.inl (by decide +kernel))
theorem r25_4 : am_T d 25 4 [some (.ref a0), l1, l2, l3] st S I J Q = am_T d 25 5 [some (.ref a0), l1, l2, l3] (.ref a0 :: st) S I J Q := tr_aload_n (m := 0) (by decide +kernel) rfl
theorem r25_5 : am_T d 25 5 ls (.ref a0 :: st) S I J Q = (am_is S a0 2 ∧ am_T d 25 8 ls (.int (I a0 0) :: st) S I J Q) := tr_geti (k := 15) (by decide +kernel) (by decide +kernel) (Or.inl (by decide +kernel))
theorem r25_8 : am_T d 25 8 ls (.int x1 :: .int x0 :: st) S I J Q = if x1 ≤ x0 then am_T d 25 43 ls st S I J Q else am_T d 25 11 ls st S I J Q := tr_icmpge (o := 35) (by decide +kernel) rfl
theorem r25_11 : am_T d 25 11 [some (.ref a0), l1, l2, l3] st S I J Q = am_T d 25 12 [some (.ref a0), l1, l2, l3] (.ref a0 :: st) S I J Q := tr_aload_n (m := 0) (by decide +kernel) rfl
theorem r25_12 : am_T d 25 12 ls (.ref a0 :: st) S I J Q = ((am_is S a0 2 ∧ am_rf S a0 2 ≠ 0) ∧ am_T d 25 15 ls (.ref (am_rf S a0 2) :: st) S I J Q) := tr_geta (k := 9) (by decide +kernel) (by decide +kernel) (by decide +kernel)
theorem r25_15 : am_T d 25 15 [some (.ref a0), l1, l2, l3] st S I J Q = am_T d 25 16 [some (.ref a0), l1, l2, l3] (.ref a0 :: st) S I J Q := tr_aload_n (m := 0) (by decide +kernel) rfl
theorem r25_16 : am_T d 25 16 ls (.ref a0 :: st) S I J Q = (am_is S a0 2 ∧ am_T d 25 19 ls (.int (I a0 1) :: st) S I J Q) := tr_geti (k := 19) (by decide +kernel) (by decide +kernel) (Or.inl (by decide +kernel))
theorem r25_19 : am_T d 25 19 ls (.int x0 :: .ref a0 :: st) S I J Q = (am_ix S a0 22 x0 ∧ am_T d 25 20 ls (.int (I a0 x0.toNatClampNeg) :: st) S I J Q) := tr_cald (by decide +kernel)
theorem r25_20 : am_T d 25 20 ls st S I J Q = am_T d 25 22 ls (.int 48 :: st) S I J Q := tr_bipush (m := 48) (by decide +kernel) (by decide)
theorem r25_22 : am_T d 25 22 [l0, some (.int x0), l2, l3] st S I J Q = am_T d 25 23 [l0, some (.int x0), l2, l3] (.int x0 :: st) S I J Q := tr_iload_n (m := 1) (by decide +kernel) rfl
theorem r25_23 : am_T d 25 23 ls (.int x1 :: .int x0 :: st) S I J Q = am_T d 25 24 ls (.int (x0 + x1) :: st) S I J Q := tr_iadd (by decide +kernel)
theorem r25_24 : am_T d 25 24 ls (.int x1 :: .int x0 :: st) S I J Q = if x0 < x1 then am_T d 25 43 ls st S I J Q else am_T d 25 27 ls st S I J Q := tr_icmplt (o := 19) (by decide +kernel) rfl
theorem r25_27 : am_T d 25 27 [some (.ref a0), l1, l2, l3] st S I J Q = am_T d 25 28 [some (.ref a0), l1, l2, l3] (.ref a0 :: st) S I J Q := tr_aload_n (m := 0) (by decide +kernel) rfl
theorem r25_28 : am_T d 25 28 ls (.ref a0 :: st) S I J Q = ((am_is S a0 2 ∧ am_rf S a0 2 ≠ 0) ∧ am_T d 25 31 ls (.ref (am_rf S a0 2) :: st) S I J Q) := tr_geta (k := 9) (by decide +kernel) (by decide +kernel) (by decide +kernel)
theorem r25_31 : am_T d 25 31 [some (.ref a0), l1, l2, l3] st S I J Q = am_T d 25 32 [some (.ref a0), l1, l2, l3] (.ref a0 :: st) S I J Q := tr_aload_n (m := 0) (by decide +kernel) rfl
theorem r25_32 : am_T d 25 32 ls (.ref a0 :: st) S I J Q = (am_is S a0 2 ∧ am_T d 25 35 ls (.int (I a0 1) :: st) S I J Q) := tr_geti (k := 19) (by decide +kernel) (by decide +kernel) (Or.inl (by decide +kernel))
theorem r25_35 : am_T d 25 35 ls (.int x0 :: .ref a0 :: st) S I J Q = (am_ix S a0 22 x0 ∧ am_T d 25 36 ls (.int (I a0 x0.toNatClampNeg) :: st) S I J Q) := tr_cald (by decide +kernel)
theorem r25_36 : am_T d 25 36 ls st S I J Q = am_T d 25 38 ls (.int 48 :: st) S I J Q := tr_bipush (m := 48) (by decide +kernel) (by decide)
theorem r25_38 : am_T d 25 38 [l0, l1, some (.int x0), l3] st S I J Q = am_T d 25 39 [l0, l1, some (.int x0), l3] (.int x0 :: st) S I J Q := tr_iload_n (m := 2) (by decide +kernel) rfl
theorem r25_39 : am_T d 25 39 ls (.int x1 :: .int x0 :: st) S I J Q = am_T d 25 40 ls (.int (x0 + x1) :: st) S I J Q := tr_iadd (by decide +kernel)
theorem r25_40 : am_T d 25 40 ls (.int x1 :: .int x0 :: st) S I J Q = if x0 ≤ x1 then am_T d 25 45 ls st S I J Q else am_T d 25 43 ls st S I J Q := tr_icmple (o := 5) (by decide +kernel) rfl
theorem r25_43 : am_T d 25 43 ls st S I J Q = am_T d 25 44 ls (.int (-1) :: st) S I J Q := tr_iconst (m := -1) (by decide +kernel) (by decide)
theorem r25_44 : am_T d 25 44 ls [.int x0] S I J Q = Q (some (.int x0)) S I J := tr_ireti (by decide +kernel) (by decide +kernel)
theorem r25_45 : am_T d 25 45 [some (.ref a0), l1, l2, l3] st S I J Q = am_T d 25 46 [some (.ref a0), l1, l2, l3] (.ref a0 :: st) S I J Q := tr_aload_n (m := 0) (by decide +kernel) rfl
theorem r25_46 : am_T d 25 46 ls (.ref a0 :: st) S I J Q = ((am_is S a0 2 ∧ am_rf S a0 2 ≠ 0) ∧ am_T d 25 49 ls (.ref (am_rf S a0 2) :: st) S I J Q) := tr_geta (k := 9) (by decide +kernel) (by decide +kernel) (by decide +kernel)
theorem r25_49 : am_T d 25 49 [some (.ref a0), l1, l2, l3] st S I J Q = am_T d 25 50 [some (.ref a0), l1, l2, l3] (.ref a0 :: st) S I J Q := tr_aload_n (m := 0) (by decide +kernel) rfl
theorem r25_50 : am_T d 25 50 ls (.ref a0 :: st) S I J Q = (am_is S a0 2 ∧ am_T d 25 53 ls (.int (I a0 1) :: st) S I J Q) := tr_geti (k := 19) (by decide +kernel) (by decide +kernel) (Or.inl (by decide +kernel))
theorem r25_53 : am_T d 25 53 ls (.int x0 :: .ref a0 :: st) S I J Q = (am_ix S a0 22 x0 ∧ am_T d 25 54 ls (.int (I a0 x0.toNatClampNeg) :: st) S I J Q) := tr_cald (by decide +kernel)
theorem r25_54 : am_T d 25 54 ls st S I J Q = am_T d 25 56 ls (.int 48 :: st) S I J Q := tr_bipush (m := 48) (by decide +kernel) (by decide)
theorem r25_56 : am_T d 25 56 ls (.int x1 :: .int x0 :: st) S I J Q = am_T d 25 57 ls (.int (x0 - x1) :: st) S I J Q := tr_isub (by decide +kernel)
theorem r25_57 : am_T d 25 57 [l0, l1, l2, l3] (.int x0 :: st) S I J Q = am_T d 25 58 [l0, l1, am_clr l2, some (.int x0)] st S I J Q := tr_istore_n (m := 3) (by decide +kernel) (Nat.le_of_ble_eq_true rfl) rfl
theorem r25_58 : am_T d 25 58 [some (.ref a0), l1, l2, l3] st S I J Q = am_T d 25 59 [some (.ref a0), l1, l2, l3] (.ref a0 :: st) S I J Q := tr_aload_n (m := 0) (by decide +kernel) rfl
theorem r25_59 : am_T d 25 59 ls (.ref a0 :: st) S I J Q = am_T d 25 60 ls (.ref a0 :: .ref a0 :: st) S I J Q := tr_dupa (by decide +kernel)
theorem r25_60 : am_T d 25 60 ls (.ref a0 :: st) S I J Q = (am_is S a0 2 ∧ am_T d 25 63 ls (.int (I a0 1) :: st) S I J Q) := tr_geti (k := 19) (by decide +kernel) (by decide +kernel) (Or.inl (by decide +kernel))
theorem r25_63 : am_T d 25 63 ls st S I J Q = am_T d 25 64 ls (.int 1 :: st) S I J Q := tr_iconst (m := 1) (by decide +kernel) (by decide)
theorem r25_64 : am_T d 25 64 ls (.int x1 :: .int x0 :: st) S I J Q = am_T d 25 65 ls (.int (x0 + x1) :: st) S I J Q := tr_iadd (by decide +kernel)
theorem r25_65 : am_T d 25 65 ls (.int x0 :: .ref a0 :: st) S I J Q = (am_is S a0 2 ∧ am_T d 25 68 ls st S (am_up I a0 1 x0) J Q) := tr_puti (k := 19) (by decide +kernel) (by decide +kernel) (by decide +kernel) (by decide +kernel)
theorem r25_68 : am_T d 25 68 [l0, l1, l2, some (.int x0)] st S I J Q = am_T d 25 69 [l0, l1, l2, some (.int x0)] (.int x0 :: st) S I J Q := tr_iload_n (m := 3) (by decide +kernel) rfl
theorem r25_69 : am_T d 25 69 ls [.int x0] S I J Q = Q (some (.int x0)) S I J := tr_ireti (by decide +kernel) (by decide +kernel)
-- 26 Grp.<init>()V; heads []
theorem e26 : am_C (d + 1) 26 [.ref a0] S I J Q = am_T d 26 0 [some (.ref a0)] [] S I J Q := tr_en (Nat.le_of_ble_eq_true rfl) rfl
theorem r26_0 : am_T d 26 0 [some (.ref a0)] st S I J Q = am_T d 26 1 [some (.ref a0)] (.ref a0 :: st) S I J Q := tr_aload_n (m := 0) (by decide +kernel) rfl
theorem r26_1 : am_T d 26 1 ls [.ref a0] S I J Q = am_T d 26 4 ls [] S I J Q := tr_oinit (k := 3) (by decide +kernel) (by decide +kernel) (Nat.le_of_ble_eq_true rfl)
theorem r26_4 : am_T d 26 4 [some (.ref a0)] st S I J Q = am_T d 26 5 [some (.ref a0)] (.ref a0 :: st) S I J Q := tr_aload_n (m := 0) (by decide +kernel) rfl
theorem r26_5 : am_T d 26 5 ls st S I J Q = am_T d 26 7 ls (.int 15 :: st) S I J Q := tr_bipush (m := 15) (by decide +kernel) (by decide)
theorem r26_7 : am_T d 26 7 ls (.int x0 :: st) S I J Q = ((0 ≤ x0.toInt ∧ x0.toInt < 10000) ∧ am_T d 26 9 ls (.ref S.length :: st) (S ++ [(20, x0.toNatClampNeg, fun _ => 0)]) (am_row I S.length (fun _ => 0)) (am_row J S.length (fun _ => 0)) Q) := tr_newa (t := .int) (by decide +kernel) (by decide)
theorem r26_9 : am_T d 26 9 ls (.ref a1 :: .ref a0 :: st) S I J Q = ((am_is S a0 3 ∧ a1 ≠ 0 ∧ a1 < S.length) ∧ am_T d 26 12 ls st (am_sr S a0 2 a1) I J Q) := tr_puta (k := 9) (by decide +kernel) (by decide +kernel) (by decide +kernel) (by decide +kernel)
theorem r26_12 : am_T d 26 12 [some (.ref a0)] st S I J Q = am_T d 26 13 [some (.ref a0)] (.ref a0 :: st) S I J Q := tr_aload_n (m := 0) (by decide +kernel) rfl
theorem r26_13 : am_T d 26 13 ls st S I J Q = am_T d 26 15 ls (.int 15 :: st) S I J Q := tr_bipush (m := 15) (by decide +kernel) (by decide)
theorem r26_15 : am_T d 26 15 ls (.int x0 :: st) S I J Q = ((0 ≤ x0.toInt ∧ x0.toInt < 10000) ∧ am_T d 26 17 ls (.ref S.length :: st) (S ++ [(20, x0.toNatClampNeg, fun _ => 0)]) (am_row I S.length (fun _ => 0)) (am_row J S.length (fun _ => 0)) Q) := tr_newa (t := .int) (by decide +kernel) (by decide)
theorem r26_17 : am_T d 26 17 ls (.ref a1 :: .ref a0 :: st) S I J Q = ((am_is S a0 3 ∧ a1 ≠ 0 ∧ a1 < S.length) ∧ am_T d 26 20 ls st (am_sr S a0 3 a1) I J Q) := tr_puta (k := 15) (by decide +kernel) (by decide +kernel) (by decide +kernel) (by decide +kernel)
theorem r26_20 : am_T d 26 20 [some (.ref a0)] st S I J Q = am_T d 26 21 [some (.ref a0)] (.ref a0 :: st) S I J Q := tr_aload_n (m := 0) (by decide +kernel) rfl
theorem r26_21 : am_T d 26 21 ls st S I J Q = am_T d 26 23 ls (.int 15 :: st) S I J Q := tr_bipush (m := 15) (by decide +kernel) (by decide)
theorem r26_23 : am_T d 26 23 ls (.int x0 :: st) S I J Q = ((0 ≤ x0.toInt ∧ x0.toInt < 10000) ∧ am_T d 26 25 ls (.ref S.length :: st) (S ++ [(20, x0.toNatClampNeg, fun _ => 0)]) (am_row I S.length (fun _ => 0)) (am_row J S.length (fun _ => 0)) Q) := tr_newa (t := .int) (by decide +kernel) (by decide)
theorem r26_25 : am_T d 26 25 ls (.ref a1 :: .ref a0 :: st) S I J Q = ((am_is S a0 3 ∧ a1 ≠ 0 ∧ a1 < S.length) ∧ am_T d 26 28 ls st (am_sr S a0 4 a1) I J Q) := tr_puta (k := 18) (by decide +kernel) (by decide +kernel) (by decide +kernel) (by decide +kernel)
theorem r26_28 : am_T d 26 28 [some (.ref a0)] st S I J Q = am_T d 26 29 [some (.ref a0)] (.ref a0 :: st) S I J Q := tr_aload_n (m := 0) (by decide +kernel) rfl
theorem r26_29 : am_T d 26 29 ls st S I J Q = am_T d 26 31 ls (.int 8 :: st) S I J Q := tr_bipush (m := 8) (by decide +kernel) (by decide)
theorem r26_31 : am_T d 26 31 ls (.int x0 :: st) S I J Q = ((0 ≤ x0.toInt ∧ x0.toInt < 10000) ∧ am_T d 26 33 ls (.ref S.length :: st) (S ++ [(20, x0.toNatClampNeg, fun _ => 0)]) (am_row I S.length (fun _ => 0)) (am_row J S.length (fun _ => 0)) Q) := tr_newa (t := .int) (by decide +kernel) (by decide)
theorem r26_33 : am_T d 26 33 ls (.ref a1 :: .ref a0 :: st) S I J Q = ((am_is S a0 3 ∧ a1 ≠ 0 ∧ a1 < S.length) ∧ am_T d 26 36 ls st (am_sr S a0 5 a1) I J Q) := tr_puta (k := 21) (by decide +kernel) (by decide +kernel) (by decide +kernel) (by decide +kernel)
theorem r26_36 : am_T d 26 36 ls [] S I J Q = Q none S I J := tr_vret (by decide +kernel) (by decide +kernel)
-- 27 Grp.copyFrom(LArborescenceFinder$Groups;)V; heads []
theorem e27 : am_C (d + 1) 27 [.ref a0, .ref a1] S I J Q = am_T d 27 0 [some (.ref a0), some (.ref a1)] [] S I J Q := tr_en (Nat.le_of_ble_eq_true rfl) rfl
theorem r27_0 : am_T d 27 0 [some (.ref a0), l1] st S I J Q = am_T d 27 1 [some (.ref a0), l1] (.ref a0 :: st) S I J Q := tr_aload_n (m := 0) (by decide +kernel) rfl
theorem r27_1 : am_T d 27 1 [l0, some (.ref a0)] st S I J Q = am_T d 27 2 [l0, some (.ref a0)] (.ref a0 :: st) S I J Q := tr_aload_n (m := 1) (by decide +kernel) rfl
theorem r27_2 : am_T d 27 2 ls (.ref a0 :: st) S I J Q = (am_is S a0 3 ∧ am_T d 27 5 ls (.int (I a0 0) :: st) S I J Q) := tr_geti (k := 24) (by decide +kernel) (by decide +kernel) (Or.inr (by decide +kernel))
theorem r27_5 : am_T d 27 5 ls (.int x0 :: .ref a0 :: st) S I J Q = ((am_is S a0 3 ∧ (x0 = 0 ∨ x0 = 1)) ∧ am_T d 27 8 ls st S (am_up I a0 0 x0) J Q) := tr_putz (k := 24) (by decide +kernel) (by decide +kernel) (by decide +kernel) (by decide +kernel)
theorem r27_8 : am_T d 27 8 [some (.ref a0), l1] st S I J Q = am_T d 27 9 [some (.ref a0), l1] (.ref a0 :: st) S I J Q := tr_aload_n (m := 0) (by decide +kernel) rfl
theorem r27_9 : am_T d 27 9 [l0, some (.ref a0)] st S I J Q = am_T d 27 10 [l0, some (.ref a0)] (.ref a0 :: st) S I J Q := tr_aload_n (m := 1) (by decide +kernel) rfl
theorem r27_10 : am_T d 27 10 ls (.ref a0 :: st) S I J Q = (am_is S a0 3 ∧ am_T d 27 13 ls (.int (I a0 1) :: st) S I J Q) := tr_geti (k := 28) (by decide +kernel) (by decide +kernel) (Or.inl (by decide +kernel))
theorem r27_13 : am_T d 27 13 ls (.int x0 :: .ref a0 :: st) S I J Q = (am_is S a0 3 ∧ am_T d 27 16 ls st S (am_up I a0 1 x0) J Q) := tr_puti (k := 28) (by decide +kernel) (by decide +kernel) (by decide +kernel) (by decide +kernel)
theorem r27_16 : am_T d 27 16 [l0, some (.ref a0)] st S I J Q = am_T d 27 17 [l0, some (.ref a0)] (.ref a0 :: st) S I J Q := tr_aload_n (m := 1) (by decide +kernel) rfl
theorem r27_17 : am_T d 27 17 ls (.ref a0 :: st) S I J Q = ((am_is S a0 3 ∧ am_rf S a0 2 ≠ 0) ∧ am_T d 27 20 ls (.ref (am_rf S a0 2) :: st) S I J Q) := tr_geta (k := 9) (by decide +kernel) (by decide +kernel) (by decide +kernel)
theorem r27_20 : am_T d 27 20 ls st S I J Q = am_T d 27 21 ls (.int 0 :: st) S I J Q := tr_iconst (m := 0) (by decide +kernel) (by decide)
theorem r27_21 : am_T d 27 21 [some (.ref a0), l1] st S I J Q = am_T d 27 22 [some (.ref a0), l1] (.ref a0 :: st) S I J Q := tr_aload_n (m := 0) (by decide +kernel) rfl
theorem r27_22 : am_T d 27 22 ls (.ref a0 :: st) S I J Q = ((am_is S a0 3 ∧ am_rf S a0 2 ≠ 0) ∧ am_T d 27 25 ls (.ref (am_rf S a0 2) :: st) S I J Q) := tr_geta (k := 9) (by decide +kernel) (by decide +kernel) (by decide +kernel)
theorem r27_25 : am_T d 27 25 ls st S I J Q = am_T d 27 26 ls (.int 0 :: st) S I J Q := tr_iconst (m := 0) (by decide +kernel) (by decide)
theorem r27_26 : am_T d 27 26 ls st S I J Q = am_T d 27 28 ls (.int 15 :: st) S I J Q := tr_bipush (m := 15) (by decide +kernel) (by decide)
theorem r27_28 : am_T d 27 28 ls [.int x4, .int x3, .ref a2, .int x1, .ref a0] S I J Q = (am_cpy S a2 a0 x1 x3 x4 ∧ am_T d 27 31 ls [] S (am_row I a2 (va_cpy (I a0) (I a2) x1.toNatClampNeg x3.toNatClampNeg x4.toNatClampNeg)) J Q) := tr_copy (k := 32) (by decide +kernel) (by decide +kernel) (Nat.le_of_ble_eq_true rfl)
theorem r27_31 : am_T d 27 31 [l0, some (.ref a0)] st S I J Q = am_T d 27 32 [l0, some (.ref a0)] (.ref a0 :: st) S I J Q := tr_aload_n (m := 1) (by decide +kernel) rfl
theorem r27_32 : am_T d 27 32 ls (.ref a0 :: st) S I J Q = ((am_is S a0 3 ∧ am_rf S a0 3 ≠ 0) ∧ am_T d 27 35 ls (.ref (am_rf S a0 3) :: st) S I J Q) := tr_geta (k := 15) (by decide +kernel) (by decide +kernel) (by decide +kernel)
theorem r27_35 : am_T d 27 35 ls st S I J Q = am_T d 27 36 ls (.int 0 :: st) S I J Q := tr_iconst (m := 0) (by decide +kernel) (by decide)
theorem r27_36 : am_T d 27 36 [some (.ref a0), l1] st S I J Q = am_T d 27 37 [some (.ref a0), l1] (.ref a0 :: st) S I J Q := tr_aload_n (m := 0) (by decide +kernel) rfl
theorem r27_37 : am_T d 27 37 ls (.ref a0 :: st) S I J Q = ((am_is S a0 3 ∧ am_rf S a0 3 ≠ 0) ∧ am_T d 27 40 ls (.ref (am_rf S a0 3) :: st) S I J Q) := tr_geta (k := 15) (by decide +kernel) (by decide +kernel) (by decide +kernel)
theorem r27_40 : am_T d 27 40 ls st S I J Q = am_T d 27 41 ls (.int 0 :: st) S I J Q := tr_iconst (m := 0) (by decide +kernel) (by decide)
theorem r27_41 : am_T d 27 41 ls st S I J Q = am_T d 27 43 ls (.int 15 :: st) S I J Q := tr_bipush (m := 15) (by decide +kernel) (by decide)
theorem r27_43 : am_T d 27 43 ls [.int x4, .int x3, .ref a2, .int x1, .ref a0] S I J Q = (am_cpy S a2 a0 x1 x3 x4 ∧ am_T d 27 46 ls [] S (am_row I a2 (va_cpy (I a0) (I a2) x1.toNatClampNeg x3.toNatClampNeg x4.toNatClampNeg)) J Q) := tr_copy (k := 32) (by decide +kernel) (by decide +kernel) (Nat.le_of_ble_eq_true rfl)
theorem r27_46 : am_T d 27 46 [l0, some (.ref a0)] st S I J Q = am_T d 27 47 [l0, some (.ref a0)] (.ref a0 :: st) S I J Q := tr_aload_n (m := 1) (by decide +kernel) rfl
theorem r27_47 : am_T d 27 47 ls (.ref a0 :: st) S I J Q = ((am_is S a0 3 ∧ am_rf S a0 4 ≠ 0) ∧ am_T d 27 50 ls (.ref (am_rf S a0 4) :: st) S I J Q) := tr_geta (k := 18) (by decide +kernel) (by decide +kernel) (by decide +kernel)
theorem r27_50 : am_T d 27 50 ls st S I J Q = am_T d 27 51 ls (.int 0 :: st) S I J Q := tr_iconst (m := 0) (by decide +kernel) (by decide)
theorem r27_51 : am_T d 27 51 [some (.ref a0), l1] st S I J Q = am_T d 27 52 [some (.ref a0), l1] (.ref a0 :: st) S I J Q := tr_aload_n (m := 0) (by decide +kernel) rfl
theorem r27_52 : am_T d 27 52 ls (.ref a0 :: st) S I J Q = ((am_is S a0 3 ∧ am_rf S a0 4 ≠ 0) ∧ am_T d 27 55 ls (.ref (am_rf S a0 4) :: st) S I J Q) := tr_geta (k := 18) (by decide +kernel) (by decide +kernel) (by decide +kernel)
theorem r27_55 : am_T d 27 55 ls st S I J Q = am_T d 27 56 ls (.int 0 :: st) S I J Q := tr_iconst (m := 0) (by decide +kernel) (by decide)
theorem r27_56 : am_T d 27 56 ls st S I J Q = am_T d 27 58 ls (.int 15 :: st) S I J Q := tr_bipush (m := 15) (by decide +kernel) (by decide)
theorem r27_58 : am_T d 27 58 ls [.int x4, .int x3, .ref a2, .int x1, .ref a0] S I J Q = (am_cpy S a2 a0 x1 x3 x4 ∧ am_T d 27 61 ls [] S (am_row I a2 (va_cpy (I a0) (I a2) x1.toNatClampNeg x3.toNatClampNeg x4.toNatClampNeg)) J Q) := tr_copy (k := 32) (by decide +kernel) (by decide +kernel) (Nat.le_of_ble_eq_true rfl)
theorem r27_61 : am_T d 27 61 [l0, some (.ref a0)] st S I J Q = am_T d 27 62 [l0, some (.ref a0)] (.ref a0 :: st) S I J Q := tr_aload_n (m := 1) (by decide +kernel) rfl
theorem r27_62 : am_T d 27 62 ls (.ref a0 :: st) S I J Q = ((am_is S a0 3 ∧ am_rf S a0 5 ≠ 0) ∧ am_T d 27 65 ls (.ref (am_rf S a0 5) :: st) S I J Q) := tr_geta (k := 21) (by decide +kernel) (by decide +kernel) (by decide +kernel)
theorem r27_65 : am_T d 27 65 ls st S I J Q = am_T d 27 66 ls (.int 0 :: st) S I J Q := tr_iconst (m := 0) (by decide +kernel) (by decide)
theorem r27_66 : am_T d 27 66 [some (.ref a0), l1] st S I J Q = am_T d 27 67 [some (.ref a0), l1] (.ref a0 :: st) S I J Q := tr_aload_n (m := 0) (by decide +kernel) rfl
theorem r27_67 : am_T d 27 67 ls (.ref a0 :: st) S I J Q = ((am_is S a0 3 ∧ am_rf S a0 5 ≠ 0) ∧ am_T d 27 70 ls (.ref (am_rf S a0 5) :: st) S I J Q) := tr_geta (k := 21) (by decide +kernel) (by decide +kernel) (by decide +kernel)
theorem r27_70 : am_T d 27 70 ls st S I J Q = am_T d 27 71 ls (.int 0 :: st) S I J Q := tr_iconst (m := 0) (by decide +kernel) (by decide)
theorem r27_71 : am_T d 27 71 ls st S I J Q = am_T d 27 73 ls (.int 8 :: st) S I J Q := tr_bipush (m := 8) (by decide +kernel) (by decide)
theorem r27_73 : am_T d 27 73 ls [.int x4, .int x3, .ref a2, .int x1, .ref a0] S I J Q = (am_cpy S a2 a0 x1 x3 x4 ∧ am_T d 27 76 ls [] S (am_row I a2 (va_cpy (I a0) (I a2) x1.toNatClampNeg x3.toNatClampNeg x4.toNatClampNeg)) J Q) := tr_copy (k := 32) (by decide +kernel) (by decide +kernel) (Nat.le_of_ble_eq_true rfl)
theorem r27_76 : am_T d 27 76 ls [] S I J Q = Q none S I J := tr_vret (by decide +kernel) (by decide +kernel)
-- 28 Grp.beginWithNodes(I)V; heads [12]
theorem e28 : am_C (d + 1) 28 [.ref a0, .int x1] S I J Q = am_T d 28 0 [some (.ref a0), some (.int x1), none] [] S I J Q := tr_en (Nat.le_of_ble_eq_true rfl) rfl
theorem r28_0 : am_T d 28 0 [some (.ref a0), l1, l2] st S I J Q = am_T d 28 1 [some (.ref a0), l1, l2] (.ref a0 :: st) S I J Q := tr_aload_n (m := 0) (by decide +kernel) rfl
theorem r28_1 : am_T d 28 1 ls st S I J Q = am_T d 28 2 ls (.int 0 :: st) S I J Q := tr_iconst (m := 0) (by decide +kernel) (by decide)
theorem r28_2 : am_T d 28 2 ls (.int x0 :: .ref a0 :: st) S I J Q = ((am_is S a0 3 ∧ (x0 = 0 ∨ x0 = 1)) ∧ am_T d 28 5 ls st S (am_up I a0 0 x0) J Q) := tr_putz (k := 24) (by decide +kernel) (by decide +kernel) (by decide +kernel) (by decide +kernel)
theorem r28_5 : am_T d 28 5 [some (.ref a0), l1, l2] st S I J Q = am_T d 28 6 [some (.ref a0), l1, l2] (.ref a0 :: st) S I J Q := tr_aload_n (m := 0) (by decide +kernel) rfl
theorem r28_6 : am_T d 28 6 ls st S I J Q = am_T d 28 7 ls (.int 0 :: st) S I J Q := tr_iconst (m := 0) (by decide +kernel) (by decide)
theorem r28_7 : am_T d 28 7 ls (.int x0 :: .ref a0 :: st) S I J Q = (am_is S a0 3 ∧ am_T d 28 10 ls st S (am_up I a0 1 x0) J Q) := tr_puti (k := 28) (by decide +kernel) (by decide +kernel) (by decide +kernel) (by decide +kernel)
theorem r28_10 : am_T d 28 10 ls st S I J Q = am_T d 28 11 ls (.int 0 :: st) S I J Q := tr_iconst (m := 0) (by decide +kernel) (by decide)
theorem r28_11 : am_T d 28 11 [l0, l1, l2] (.int x0 :: st) S I J Q = am_T d 28 12 [l0, am_clr l1, some (.int x0)] st S I J Q := tr_istore_n (m := 2) (by decide +kernel) (Nat.le_of_ble_eq_true rfl) rfl
theorem r28_12 : am_T d 28 12 [l0, l1, some (.int x0)] st S I J Q = am_T d 28 13 [l0, l1, some (.int x0)] (.int x0 :: st) S I J Q := tr_iload_n (m := 2) (by decide +kernel) rfl
theorem r28_13 : am_T d 28 13 [l0, some (.int x0), l2] st S I J Q = am_T d 28 14 [l0, some (.int x0), l2] (.int x0 :: st) S I J Q := tr_iload_n (m := 1) (by decide +kernel) rfl
theorem r28_14 : am_T d 28 14 ls (.int x1 :: .int x0 :: st) S I J Q = if x1 ≤ x0 then am_T d 28 30 ls st S I J Q else am_T d 28 17 ls st S I J Q := tr_icmpge (o := 16) (by decide +kernel) rfl
theorem r28_17 : am_T d 28 17 [some (.ref a0), l1, l2] st S I J Q = am_T d 28 18 [some (.ref a0), l1, l2] (.ref a0 :: st) S I J Q := tr_aload_n (m := 0) (by decide +kernel) rfl
theorem r28_18 : am_T d 28 18 ls st S I J Q = am_T d 28 19 ls (.int 1 :: st) S I J Q := tr_iconst (m := 1) (by decide +kernel) (by decide)
theorem r28_19 : am_T d 28 19 [l0, l1, some (.int x0)] st S I J Q = am_T d 28 20 [l0, l1, some (.int x0)] (.int x0 :: st) S I J Q := tr_iload_n (m := 2) (by decide +kernel) rfl
theorem r28_20 : am_T d 28 20 ls (.int x1 :: .int x0 :: st) S I J Q = am_T d 28 21 ls (.int (x0 <<< (x1 &&& 31)) :: st) S I J Q := tr_ishl (by decide +kernel)
theorem r28_21 : am_T d 28 21 ls [.int x1, .ref a0] S I J Q = (am_is S a0 3 ∧ am_C d 29 [.ref a0, .int x1] S I J (fun r S I J => am_T d 28 24 ls (am_psh r []) S I J Q)) := tr_virt (k := 38) (by decide +kernel) (by decide +kernel) rfl rfl (Nat.le_of_ble_eq_true rfl) (by decide +kernel)
theorem r28_24 : am_T d 28 24 [l0, l1, some (.int x0)] st S I J Q = am_T d 28 27 [l0, am_clr l1, some (.int (x0 + 1))] st S I J Q := tr_iinc (k := 2) (m := 1) (by decide +kernel) rfl (Nat.le_of_ble_eq_true rfl) (by decide) rfl
theorem r28_27 : am_T d 28 27 ls st S I J Q = am_T d 28 12 ls st S I J Q := tr_goto (o := -15) (by decide +kernel) rfl
theorem r28_30 : am_T d 28 30 ls [] S I J Q = Q none S I J := tr_vret (by decide +kernel) (by decide +kernel)
-- 29 Grp.add(I)V; heads []
theorem e29 : am_C (d + 1) 29 [.ref a0, .int x1] S I J Q = am_T d 29 0 [some (.ref a0), some (.int x1)] [] S I J Q := tr_en (Nat.le_of_ble_eq_true rfl) rfl
theorem r29_0 : am_T d 29 0 [some (.ref a0), l1] st S I J Q = am_T d 29 1 [some (.ref a0), l1] (.ref a0 :: st) S I J Q := tr_aload_n (m := 0) (by decide +kernel) rfl
theorem r29_1 : am_T d 29 1 ls (.ref a0 :: st) S I J Q = (am_is S a0 3 ∧ am_T d 29 4 ls (.int (I a0 1) :: st) S I J Q) := tr_geti (k := 28) (by decide +kernel) (by decide +kernel) (Or.inl (by decide +kernel))
theorem r29_4 : am_T d 29 4 ls st S I J Q = am_T d 29 6 ls (.int 15 :: st) S I J Q := tr_bipush (m := 15) (by decide +kernel) (by decide)
theorem r29_6 : am_T d 29 6 ls (.int x1 :: .int x0 :: st) S I J Q = if x0 < x1 then am_T d 29 10 ls st S I J Q else am_T d 29 9 ls st S I J Q := tr_icmplt (o := 4) (by decide +kernel) rfl
theorem r29_9 : am_T d 29 9 ls [] S I J Q = Q none S I J := tr_vret (by decide +kernel) (by decide +kernel)
theorem r29_10 : am_T d 29 10 [some (.ref a0), l1] st S I J Q = am_T d 29 11 [some (.ref a0), l1] (.ref a0 :: st) S I J Q := tr_aload_n (m := 0) (by decide +kernel) rfl
theorem r29_11 : am_T d 29 11 ls (.ref a0 :: st) S I J Q = ((am_is S a0 3 ∧ am_rf S a0 2 ≠ 0) ∧ am_T d 29 14 ls (.ref (am_rf S a0 2) :: st) S I J Q) := tr_geta (k := 9) (by decide +kernel) (by decide +kernel) (by decide +kernel)
theorem r29_14 : am_T d 29 14 [some (.ref a0), l1] st S I J Q = am_T d 29 15 [some (.ref a0), l1] (.ref a0 :: st) S I J Q := tr_aload_n (m := 0) (by decide +kernel) rfl
theorem r29_15 : am_T d 29 15 ls (.ref a0 :: st) S I J Q = (am_is S a0 3 ∧ am_T d 29 18 ls (.int (I a0 1) :: st) S I J Q) := tr_geti (k := 28) (by decide +kernel) (by decide +kernel) (Or.inl (by decide +kernel))
theorem r29_18 : am_T d 29 18 [l0, some (.int x0)] st S I J Q = am_T d 29 19 [l0, some (.int x0)] (.int x0 :: st) S I J Q := tr_iload_n (m := 1) (by decide +kernel) rfl
theorem r29_19 : am_T d 29 19 ls (.int x1 :: .int x0 :: .ref a0 :: st) S I J Q = (am_ixw S a0 20 x0 ∧ am_T d 29 20 ls st S (am_up I a0 x0.toNatClampNeg x1) J Q) := tr_iast (by decide +kernel)
theorem r29_20 : am_T d 29 20 [some (.ref a0), l1] st S I J Q = am_T d 29 21 [some (.ref a0), l1] (.ref a0 :: st) S I J Q := tr_aload_n (m := 0) (by decide +kernel) rfl
theorem r29_21 : am_T d 29 21 ls (.ref a0 :: st) S I J Q = ((am_is S a0 3 ∧ am_rf S a0 3 ≠ 0) ∧ am_T d 29 24 ls (.ref (am_rf S a0 3) :: st) S I J Q) := tr_geta (k := 15) (by decide +kernel) (by decide +kernel) (by decide +kernel)
theorem r29_24 : am_T d 29 24 [some (.ref a0), l1] st S I J Q = am_T d 29 25 [some (.ref a0), l1] (.ref a0 :: st) S I J Q := tr_aload_n (m := 0) (by decide +kernel) rfl
theorem r29_25 : am_T d 29 25 ls (.ref a0 :: st) S I J Q = (am_is S a0 3 ∧ am_T d 29 28 ls (.int (I a0 1) :: st) S I J Q) := tr_geti (k := 28) (by decide +kernel) (by decide +kernel) (Or.inl (by decide +kernel))
theorem r29_28 : am_T d 29 28 ls st S I J Q = am_T d 29 29 ls (.int 0 :: st) S I J Q := tr_iconst (m := 0) (by decide +kernel) (by decide)
theorem r29_29 : am_T d 29 29 ls (.int x1 :: .int x0 :: .ref a0 :: st) S I J Q = (am_ixw S a0 20 x0 ∧ am_T d 29 30 ls st S (am_up I a0 x0.toNatClampNeg x1) J Q) := tr_iast (by decide +kernel)
theorem r29_30 : am_T d 29 30 [some (.ref a0), l1] st S I J Q = am_T d 29 31 [some (.ref a0), l1] (.ref a0 :: st) S I J Q := tr_aload_n (m := 0) (by decide +kernel) rfl
theorem r29_31 : am_T d 29 31 ls (.ref a0 :: st) S I J Q = ((am_is S a0 3 ∧ am_rf S a0 4 ≠ 0) ∧ am_T d 29 34 ls (.ref (am_rf S a0 4) :: st) S I J Q) := tr_geta (k := 18) (by decide +kernel) (by decide +kernel) (by decide +kernel)
theorem r29_34 : am_T d 29 34 [some (.ref a0), l1] st S I J Q = am_T d 29 35 [some (.ref a0), l1] (.ref a0 :: st) S I J Q := tr_aload_n (m := 0) (by decide +kernel) rfl
theorem r29_35 : am_T d 29 35 ls (.ref a0 :: st) S I J Q = (am_is S a0 3 ∧ am_T d 29 38 ls (.int (I a0 1) :: st) S I J Q) := tr_geti (k := 28) (by decide +kernel) (by decide +kernel) (Or.inl (by decide +kernel))
theorem r29_38 : am_T d 29 38 ls st S I J Q = am_T d 29 39 ls (.int (-1) :: st) S I J Q := tr_iconst (m := -1) (by decide +kernel) (by decide)
theorem r29_39 : am_T d 29 39 ls (.int x1 :: .int x0 :: .ref a0 :: st) S I J Q = (am_ixw S a0 20 x0 ∧ am_T d 29 40 ls st S (am_up I a0 x0.toNatClampNeg x1) J Q) := tr_iast (by decide +kernel)
theorem r29_40 : am_T d 29 40 [some (.ref a0), l1] st S I J Q = am_T d 29 41 [some (.ref a0), l1] (.ref a0 :: st) S I J Q := tr_aload_n (m := 0) (by decide +kernel) rfl
theorem r29_41 : am_T d 29 41 ls (.ref a0 :: st) S I J Q = am_T d 29 42 ls (.ref a0 :: .ref a0 :: st) S I J Q := tr_dupa (by decide +kernel)
theorem r29_42 : am_T d 29 42 ls (.ref a0 :: st) S I J Q = (am_is S a0 3 ∧ am_T d 29 45 ls (.int (I a0 1) :: st) S I J Q) := tr_geti (k := 28) (by decide +kernel) (by decide +kernel) (Or.inl (by decide +kernel))
theorem r29_45 : am_T d 29 45 ls st S I J Q = am_T d 29 46 ls (.int 1 :: st) S I J Q := tr_iconst (m := 1) (by decide +kernel) (by decide)
theorem r29_46 : am_T d 29 46 ls (.int x1 :: .int x0 :: st) S I J Q = am_T d 29 47 ls (.int (x0 + x1) :: st) S I J Q := tr_iadd (by decide +kernel)
theorem r29_47 : am_T d 29 47 ls (.int x0 :: .ref a0 :: st) S I J Q = (am_is S a0 3 ∧ am_T d 29 50 ls st S (am_up I a0 1 x0) J Q) := tr_puti (k := 28) (by decide +kernel) (by decide +kernel) (by decide +kernel) (by decide +kernel)
theorem r29_50 : am_T d 29 50 ls [] S I J Q = Q none S I J := tr_vret (by decide +kernel) (by decide +kernel)
-- 30 Grp.contains(LArborescenceFinder$Graph;I)Z; heads []
theorem e30 : am_C (d + 1) 30 [.ref a0, .ref a1, .int x2] S I J Q = am_T d 30 0 [some (.ref a0), some (.ref a1), some (.int x2)] [] S I J Q := tr_en (Nat.le_of_ble_eq_true rfl) rfl
theorem r30_0 : am_T d 30 0 [some (.ref a0), l1, l2] st S I J Q = am_T d 30 1 [some (.ref a0), l1, l2] (.ref a0 :: st) S I J Q := tr_aload_n (m := 0) (by decide +kernel) rfl
theorem r30_1 : am_T d 30 1 ls (.ref a0 :: st) S I J Q = ((am_is S a0 3 ∧ am_rf S a0 5 ≠ 0) ∧ am_T d 30 4 ls (.ref (am_rf S a0 5) :: st) S I J Q) := tr_geta (k := 21) (by decide +kernel) (by decide +kernel) (by decide +kernel)
theorem r30_4 : am_T d 30 4 [l0, some (.ref a0), l2] st S I J Q = am_T d 30 5 [l0, some (.ref a0), l2] (.ref a0 :: st) S I J Q := tr_aload_n (m := 1) (by decide +kernel) rfl
theorem r30_5 : am_T d 30 5 ls (.ref a0 :: st) S I J Q = ((am_is S a0 1 ∧ am_rf S a0 4 ≠ 0) ∧ am_T d 30 8 ls (.ref (am_rf S a0 4) :: st) S I J Q) := tr_geta (k := 42) (by decide +kernel) (by decide +kernel) (by decide +kernel)
theorem r30_8 : am_T d 30 8 [l0, l1, some (.int x0)] st S I J Q = am_T d 30 9 [l0, l1, some (.int x0)] (.int x0 :: st) S I J Q := tr_iload_n (m := 2) (by decide +kernel) rfl
theorem r30_9 : am_T d 30 9 ls (.int x0 :: .ref a0 :: st) S I J Q = (am_ix S a0 20 x0 ∧ am_T d 30 10 ls (.int (I a0 x0.toNatClampNeg) :: st) S I J Q) := tr_iald (by decide +kernel)
theorem r30_10 : am_T d 30 10 ls (.int x0 :: .ref a0 :: st) S I J Q = (am_ix S a0 20 x0 ∧ am_T d 30 11 ls (.int (I a0 x0.toNatClampNeg) :: st) S I J Q) := tr_iald (by decide +kernel)
theorem r30_11 : am_T d 30 11 [l0, l1, some (.int x0)] st S I J Q = am_T d 30 12 [l0, l1, some (.int x0)] (.int x0 :: st) S I J Q := tr_iload_n (m := 2) (by decide +kernel) rfl
theorem r30_12 : am_T d 30 12 ls (.int x1 :: .int x0 :: st) S I J Q = if x0 = x1 then am_T d 30 15 ls st S I J Q else am_T d 30 19 ls st S I J Q := tr_icmpne (o := 7) (by decide +kernel) rfl
theorem r30_15 : am_T d 30 15 ls st S I J Q = am_T d 30 16 ls (.int 1 :: st) S I J Q := tr_iconst (m := 1) (by decide +kernel) (by decide)
theorem r30_16 : am_T d 30 16 ls st S I J Q = am_T d 30 20 ls st S I J Q := tr_goto (o := 4) (by decide +kernel) rfl
theorem r30_19 : am_T d 30 19 ls st S I J Q = am_T d 30 20 ls (.int 0 :: st) S I J Q := tr_iconst (m := 0) (by decide +kernel) (by decide)
theorem r30_20 : am_T d 30 20 ls [.int x0] S I J Q = ((x0 = 0 ∨ x0 = 1) ∧ Q (some (.int x0)) S I J) := tr_iretz (by decide +kernel) (by decide +kernel)
-- 31 Grp.costBy(LArborescenceFinder$Graph;[I)I; heads [5]
theorem e31 : am_C (d + 1) 31 [.ref a0, .ref a1, .ref a2] S I J Q = am_T d 31 0 [some (.ref a0), some (.ref a1), some (.ref a2), none, none] [] S I J Q := tr_en (Nat.le_of_ble_eq_true rfl) rfl
theorem r31_0 : am_T d 31 0 ls st S I J Q = am_T d 31 1 ls (.int 0 :: st) S I J Q := tr_iconst (m := 0) (by decide +kernel) (by decide)
theorem r31_1 : am_T d 31 1 [l0, l1, l2, l3, l4] (.int x0 :: st) S I J Q = am_T d 31 2 [l0, l1, am_clr l2, some (.int x0), l4] st S I J Q := tr_istore_n (m := 3) (by decide +kernel) (Nat.le_of_ble_eq_true rfl) rfl
theorem r31_2 : am_T d 31 2 ls st S I J Q = am_T d 31 3 ls (.int 0 :: st) S I J Q := tr_iconst (m := 0) (by decide +kernel) (by decide)
theorem r31_3 : am_T d 31 3 [l0, l1, l2, l3, l4] (.int x0 :: st) S I J Q = am_T d 31 5 [l0, l1, l2, am_clr l3, some (.int x0)] st S I J Q := tr_istore (k := 4) (by decide +kernel) (Nat.le_of_ble_eq_true rfl) rfl
theorem r31_5 : am_T d 31 5 [l0, l1, l2, l3, some (.int x0)] st S I J Q = am_T d 31 7 [l0, l1, l2, l3, some (.int x0)] (.int x0 :: st) S I J Q := tr_iload (k := 4) (by decide +kernel) rfl
theorem r31_7 : am_T d 31 7 [l0, some (.ref a0), l2, l3, l4] st S I J Q = am_T d 31 8 [l0, some (.ref a0), l2, l3, l4] (.ref a0 :: st) S I J Q := tr_aload_n (m := 1) (by decide +kernel) rfl
theorem r31_8 : am_T d 31 8 ls (.ref a0 :: st) S I J Q = (am_is S a0 1 ∧ am_T d 31 11 ls (.int (I a0 0) :: st) S I J Q) := tr_geti (k := 47) (by decide +kernel) (by decide +kernel) (Or.inl (by decide +kernel))
theorem r31_11 : am_T d 31 11 ls (.int x1 :: .int x0 :: st) S I J Q = if x1 ≤ x0 then am_T d 31 43 ls st S I J Q else am_T d 31 14 ls st S I J Q := tr_icmpge (o := 32) (by decide +kernel) rfl
theorem r31_14 : am_T d 31 14 [some (.ref a0), l1, l2, l3, l4] st S I J Q = am_T d 31 15 [some (.ref a0), l1, l2, l3, l4] (.ref a0 :: st) S I J Q := tr_aload_n (m := 0) (by decide +kernel) rfl
theorem r31_15 : am_T d 31 15 ls (.ref a0 :: st) S I J Q = ((am_is S a0 3 ∧ am_rf S a0 5 ≠ 0) ∧ am_T d 31 18 ls (.ref (am_rf S a0 5) :: st) S I J Q) := tr_geta (k := 21) (by decide +kernel) (by decide +kernel) (by decide +kernel)
theorem r31_18 : am_T d 31 18 [l0, l1, l2, l3, some (.int x0)] st S I J Q = am_T d 31 20 [l0, l1, l2, l3, some (.int x0)] (.int x0 :: st) S I J Q := tr_iload (k := 4) (by decide +kernel) rfl
theorem r31_20 : am_T d 31 20 ls (.int x0 :: .ref a0 :: st) S I J Q = (am_ix S a0 20 x0 ∧ am_T d 31 21 ls (.int (I a0 x0.toNatClampNeg) :: st) S I J Q) := tr_iald (by decide +kernel)
theorem r31_21 : am_T d 31 21 ls st S I J Q = am_T d 31 22 ls (.int (-1) :: st) S I J Q := tr_iconst (m := -1) (by decide +kernel) (by decide)
theorem r31_22 : am_T d 31 22 ls (.int x1 :: .int x0 :: st) S I J Q = if x0 = x1 then am_T d 31 37 ls st S I J Q else am_T d 31 25 ls st S I J Q := tr_icmpeq (o := 15) (by decide +kernel) rfl
theorem r31_25 : am_T d 31 25 [l0, l1, l2, some (.int x0), l4] st S I J Q = am_T d 31 26 [l0, l1, l2, some (.int x0), l4] (.int x0 :: st) S I J Q := tr_iload_n (m := 3) (by decide +kernel) rfl
theorem r31_26 : am_T d 31 26 [l0, l1, some (.ref a0), l3, l4] st S I J Q = am_T d 31 27 [l0, l1, some (.ref a0), l3, l4] (.ref a0 :: st) S I J Q := tr_aload_n (m := 2) (by decide +kernel) rfl
theorem r31_27 : am_T d 31 27 [some (.ref a0), l1, l2, l3, l4] st S I J Q = am_T d 31 28 [some (.ref a0), l1, l2, l3, l4] (.ref a0 :: st) S I J Q := tr_aload_n (m := 0) (by decide +kernel) rfl
theorem r31_28 : am_T d 31 28 ls (.ref a0 :: st) S I J Q = ((am_is S a0 3 ∧ am_rf S a0 5 ≠ 0) ∧ am_T d 31 31 ls (.ref (am_rf S a0 5) :: st) S I J Q) := tr_geta (k := 21) (by decide +kernel) (by decide +kernel) (by decide +kernel)
theorem r31_31 : am_T d 31 31 [l0, l1, l2, l3, some (.int x0)] st S I J Q = am_T d 31 33 [l0, l1, l2, l3, some (.int x0)] (.int x0 :: st) S I J Q := tr_iload (k := 4) (by decide +kernel) rfl
theorem r31_33 : am_T d 31 33 ls (.int x0 :: .ref a0 :: st) S I J Q = (am_ix S a0 20 x0 ∧ am_T d 31 34 ls (.int (I a0 x0.toNatClampNeg) :: st) S I J Q) := tr_iald (by decide +kernel)
theorem r31_34 : am_T d 31 34 ls (.int x0 :: .ref a0 :: st) S I J Q = (am_ix S a0 20 x0 ∧ am_T d 31 35 ls (.int (I a0 x0.toNatClampNeg) :: st) S I J Q) := tr_iald (by decide +kernel)
theorem r31_35 : am_T d 31 35 ls (.int x1 :: .int x0 :: st) S I J Q = am_T d 31 36 ls (.int (x0 + x1) :: st) S I J Q := tr_iadd (by decide +kernel)
theorem r31_36 : am_T d 31 36 [l0, l1, l2, l3, l4] (.int x0 :: st) S I J Q = am_T d 31 37 [l0, l1, am_clr l2, some (.int x0), l4] st S I J Q := tr_istore_n (m := 3) (by decide +kernel) (Nat.le_of_ble_eq_true rfl) rfl
theorem r31_37 : am_T d 31 37 [l0, l1, l2, l3, some (.int x0)] st S I J Q = am_T d 31 40 [l0, l1, l2, am_clr l3, some (.int (x0 + 1))] st S I J Q := tr_iinc (k := 4) (m := 1) (by decide +kernel) rfl (Nat.le_of_ble_eq_true rfl) (by decide) rfl
theorem r31_40 : am_T d 31 40 ls st S I J Q = am_T d 31 5 ls st S I J Q := tr_goto (o := -35) (by decide +kernel) rfl
theorem r31_43 : am_T d 31 43 [l0, l1, l2, some (.int x0), l4] st S I J Q = am_T d 31 44 [l0, l1, l2, some (.int x0), l4] (.int x0 :: st) S I J Q := tr_iload_n (m := 3) (by decide +kernel) rfl
theorem r31_44 : am_T d 31 44 ls [.int x0] S I J Q = Q (some (.int x0)) S I J := tr_ireti (by decide +kernel) (by decide +kernel)
-- 32 Grp.arcsFrom(LArborescenceFinder$Graph;I)I; heads [5]
theorem e32 : am_C (d + 1) 32 [.ref a0, .ref a1, .int x2] S I J Q = am_T d 32 0 [some (.ref a0), some (.ref a1), some (.int x2), none, none] [] S I J Q := tr_en (Nat.le_of_ble_eq_true rfl) rfl
theorem r32_0 : am_T d 32 0 ls st S I J Q = am_T d 32 1 ls (.int 0 :: st) S I J Q := tr_iconst (m := 0) (by decide +kernel) (by decide)
theorem r32_1 : am_T d 32 1 [l0, l1, l2, l3, l4] (.int x0 :: st) S I J Q = am_T d 32 2 [l0, l1, am_clr l2, some (.int x0), l4] st S I J Q := tr_istore_n (m := 3) (by decide +kernel) (Nat.le_of_ble_eq_true rfl) rfl
theorem r32_2 : am_T d 32 2 ls st S I J Q = am_T d 32 3 ls (.int 0 :: st) S I J Q := tr_iconst (m := 0) (by decide +kernel) (by decide)
theorem r32_3 : am_T d 32 3 [l0, l1, l2, l3, l4] (.int x0 :: st) S I J Q = am_T d 32 5 [l0, l1, l2, am_clr l3, some (.int x0)] st S I J Q := tr_istore (k := 4) (by decide +kernel) (Nat.le_of_ble_eq_true rfl) rfl
theorem r32_5 : am_T d 32 5 [l0, l1, l2, l3, some (.int x0)] st S I J Q = am_T d 32 7 [l0, l1, l2, l3, some (.int x0)] (.int x0 :: st) S I J Q := tr_iload (k := 4) (by decide +kernel) rfl
theorem r32_7 : am_T d 32 7 [l0, some (.ref a0), l2, l3, l4] st S I J Q = am_T d 32 8 [l0, some (.ref a0), l2, l3, l4] (.ref a0 :: st) S I J Q := tr_aload_n (m := 1) (by decide +kernel) rfl
theorem r32_8 : am_T d 32 8 ls (.ref a0 :: st) S I J Q = (am_is S a0 1 ∧ am_T d 32 11 ls (.int (I a0 0) :: st) S I J Q) := tr_geti (k := 47) (by decide +kernel) (by decide +kernel) (Or.inl (by decide +kernel))
theorem r32_11 : am_T d 32 11 ls (.int x1 :: .int x0 :: st) S I J Q = if x1 ≤ x0 then am_T d 32 50 ls st S I J Q else am_T d 32 14 ls st S I J Q := tr_icmpge (o := 39) (by decide +kernel) rfl
theorem r32_14 : am_T d 32 14 [some (.ref a0), l1, l2, l3, l4] st S I J Q = am_T d 32 15 [some (.ref a0), l1, l2, l3, l4] (.ref a0 :: st) S I J Q := tr_aload_n (m := 0) (by decide +kernel) rfl
theorem r32_15 : am_T d 32 15 ls (.ref a0 :: st) S I J Q = ((am_is S a0 3 ∧ am_rf S a0 5 ≠ 0) ∧ am_T d 32 18 ls (.ref (am_rf S a0 5) :: st) S I J Q) := tr_geta (k := 21) (by decide +kernel) (by decide +kernel) (by decide +kernel)
theorem r32_18 : am_T d 32 18 [l0, l1, l2, l3, some (.int x0)] st S I J Q = am_T d 32 20 [l0, l1, l2, l3, some (.int x0)] (.int x0 :: st) S I J Q := tr_iload (k := 4) (by decide +kernel) rfl
theorem r32_20 : am_T d 32 20 ls (.int x0 :: .ref a0 :: st) S I J Q = (am_ix S a0 20 x0 ∧ am_T d 32 21 ls (.int (I a0 x0.toNatClampNeg) :: st) S I J Q) := tr_iald (by decide +kernel)
theorem r32_21 : am_T d 32 21 ls st S I J Q = am_T d 32 22 ls (.int (-1) :: st) S I J Q := tr_iconst (m := -1) (by decide +kernel) (by decide)
theorem r32_22 : am_T d 32 22 ls (.int x1 :: .int x0 :: st) S I J Q = if x0 = x1 then am_T d 32 44 ls st S I J Q else am_T d 32 25 ls st S I J Q := tr_icmpeq (o := 22) (by decide +kernel) rfl
theorem r32_25 : am_T d 32 25 [l0, some (.ref a0), l2, l3, l4] st S I J Q = am_T d 32 26 [l0, some (.ref a0), l2, l3, l4] (.ref a0 :: st) S I J Q := tr_aload_n (m := 1) (by decide +kernel) rfl
theorem r32_26 : am_T d 32 26 ls (.ref a0 :: st) S I J Q = ((am_is S a0 1 ∧ am_rf S a0 3 ≠ 0) ∧ am_T d 32 29 ls (.ref (am_rf S a0 3) :: st) S I J Q) := tr_geta (k := 50) (by decide +kernel) (by decide +kernel) (by decide +kernel)
theorem r32_29 : am_T d 32 29 [some (.ref a0), l1, l2, l3, l4] st S I J Q = am_T d 32 30 [some (.ref a0), l1, l2, l3, l4] (.ref a0 :: st) S I J Q := tr_aload_n (m := 0) (by decide +kernel) rfl
theorem r32_30 : am_T d 32 30 ls (.ref a0 :: st) S I J Q = ((am_is S a0 3 ∧ am_rf S a0 5 ≠ 0) ∧ am_T d 32 33 ls (.ref (am_rf S a0 5) :: st) S I J Q) := tr_geta (k := 21) (by decide +kernel) (by decide +kernel) (by decide +kernel)
theorem r32_33 : am_T d 32 33 [l0, l1, l2, l3, some (.int x0)] st S I J Q = am_T d 32 35 [l0, l1, l2, l3, some (.int x0)] (.int x0 :: st) S I J Q := tr_iload (k := 4) (by decide +kernel) rfl
theorem r32_35 : am_T d 32 35 ls (.int x0 :: .ref a0 :: st) S I J Q = (am_ix S a0 20 x0 ∧ am_T d 32 36 ls (.int (I a0 x0.toNatClampNeg) :: st) S I J Q) := tr_iald (by decide +kernel)
theorem r32_36 : am_T d 32 36 ls (.int x0 :: .ref a0 :: st) S I J Q = (am_ix S a0 20 x0 ∧ am_T d 32 37 ls (.int (I a0 x0.toNatClampNeg) :: st) S I J Q) := tr_iald (by decide +kernel)
theorem r32_37 : am_T d 32 37 [l0, l1, some (.int x0), l3, l4] st S I J Q = am_T d 32 38 [l0, l1, some (.int x0), l3, l4] (.int x0 :: st) S I J Q := tr_iload_n (m := 2) (by decide +kernel) rfl
theorem r32_38 : am_T d 32 38 ls (.int x1 :: .int x0 :: st) S I J Q = if x0 = x1 then am_T d 32 41 ls st S I J Q else am_T d 32 44 ls st S I J Q := tr_icmpne (o := 6) (by decide +kernel) rfl
theorem r32_41 : am_T d 32 41 [l0, l1, l2, some (.int x0), l4] st S I J Q = am_T d 32 44 [l0, l1, am_clr l2, some (.int (x0 + 1)), l4] st S I J Q := tr_iinc (k := 3) (m := 1) (by decide +kernel) rfl (Nat.le_of_ble_eq_true rfl) (by decide) rfl
theorem r32_44 : am_T d 32 44 [l0, l1, l2, l3, some (.int x0)] st S I J Q = am_T d 32 47 [l0, l1, l2, am_clr l3, some (.int (x0 + 1))] st S I J Q := tr_iinc (k := 4) (m := 1) (by decide +kernel) rfl (Nat.le_of_ble_eq_true rfl) (by decide) rfl
theorem r32_47 : am_T d 32 47 ls st S I J Q = am_T d 32 5 ls st S I J Q := tr_goto (o := -42) (by decide +kernel) rfl
theorem r32_50 : am_T d 32 50 [l0, l1, l2, some (.int x0), l4] st S I J Q = am_T d 32 51 [l0, l1, l2, some (.int x0), l4] (.int x0 :: st) S I J Q := tr_iload_n (m := 3) (by decide +kernel) rfl
theorem r32_51 : am_T d 32 51 ls [.int x0] S I J Q = Q (some (.int x0)) S I J := tr_ireti (by decide +kernel) (by decide +kernel)
-- 33 Grp.reducedCostOf(LArborescenceFinder$Graph;I)I; heads [10]
theorem e33 : am_C (d + 1) 33 [.ref a0, .ref a1, .int x2] S I J Q = am_T d 33 0 [some (.ref a0), some (.ref a1), some (.int x2), none, none] [] S I J Q := tr_en (Nat.le_of_ble_eq_true rfl) rfl
theorem r33_0 : am_T d 33 0 [l0, some (.ref a0), l2, l3, l4] st S I J Q = am_T d 33 1 [l0, some (.ref a0), l2, l3, l4] (.ref a0 :: st) S I J Q := tr_aload_n (m := 1) (by decide +kernel) rfl
theorem r33_1 : am_T d 33 1 ls (.ref a0 :: st) S I J Q = ((am_is S a0 1 ∧ am_rf S a0 5 ≠ 0) ∧ am_T d 33 4 ls (.ref (am_rf S a0 5) :: st) S I J Q) := tr_geta (k := 53) (by decide +kernel) (by decide +kernel) (by decide +kernel)
theorem r33_4 : am_T d 33 4 [l0, l1, some (.int x0), l3, l4] st S I J Q = am_T d 33 5 [l0, l1, some (.int x0), l3, l4] (.int x0 :: st) S I J Q := tr_iload_n (m := 2) (by decide +kernel) rfl
theorem r33_5 : am_T d 33 5 ls (.int x0 :: .ref a0 :: st) S I J Q = (am_ix S a0 20 x0 ∧ am_T d 33 6 ls (.int (I a0 x0.toNatClampNeg) :: st) S I J Q) := tr_iald (by decide +kernel)
theorem r33_6 : am_T d 33 6 [l0, l1, l2, l3, l4] (.int x0 :: st) S I J Q = am_T d 33 7 [l0, l1, am_clr l2, some (.int x0), l4] st S I J Q := tr_istore_n (m := 3) (by decide +kernel) (Nat.le_of_ble_eq_true rfl) rfl
theorem r33_7 : am_T d 33 7 ls st S I J Q = am_T d 33 8 ls (.int 0 :: st) S I J Q := tr_iconst (m := 0) (by decide +kernel) (by decide)
theorem r33_8 : am_T d 33 8 [l0, l1, l2, l3, l4] (.int x0 :: st) S I J Q = am_T d 33 10 [l0, l1, l2, am_clr l3, some (.int x0)] st S I J Q := tr_istore (k := 4) (by decide +kernel) (Nat.le_of_ble_eq_true rfl) rfl
theorem r33_10 : am_T d 33 10 [l0, l1, l2, l3, some (.int x0)] st S I J Q = am_T d 33 12 [l0, l1, l2, l3, some (.int x0)] (.int x0 :: st) S I J Q := tr_iload (k := 4) (by decide +kernel) rfl
theorem r33_12 : am_T d 33 12 [some (.ref a0), l1, l2, l3, l4] st S I J Q = am_T d 33 13 [some (.ref a0), l1, l2, l3, l4] (.ref a0 :: st) S I J Q := tr_aload_n (m := 0) (by decide +kernel) rfl
theorem r33_13 : am_T d 33 13 ls (.ref a0 :: st) S I J Q = (am_is S a0 3 ∧ am_T d 33 16 ls (.int (I a0 1) :: st) S I J Q) := tr_geti (k := 28) (by decide +kernel) (by decide +kernel) (Or.inl (by decide +kernel))
theorem r33_16 : am_T d 33 16 ls (.int x1 :: .int x0 :: st) S I J Q = if x1 ≤ x0 then am_T d 33 50 ls st S I J Q else am_T d 33 19 ls st S I J Q := tr_icmpge (o := 34) (by decide +kernel) rfl
theorem r33_19 : am_T d 33 19 [l0, some (.ref a0), l2, l3, l4] st S I J Q = am_T d 33 20 [l0, some (.ref a0), l2, l3, l4] (.ref a0 :: st) S I J Q := tr_aload_n (m := 1) (by decide +kernel) rfl
theorem r33_20 : am_T d 33 20 [l0, l1, some (.int x0), l3, l4] st S I J Q = am_T d 33 21 [l0, l1, some (.int x0), l3, l4] (.int x0 :: st) S I J Q := tr_iload_n (m := 2) (by decide +kernel) rfl
theorem r33_21 : am_T d 33 21 [some (.ref a0), l1, l2, l3, l4] st S I J Q = am_T d 33 22 [some (.ref a0), l1, l2, l3, l4] (.ref a0 :: st) S I J Q := tr_aload_n (m := 0) (by decide +kernel) rfl
theorem r33_22 : am_T d 33 22 ls (.ref a0 :: st) S I J Q = ((am_is S a0 3 ∧ am_rf S a0 2 ≠ 0) ∧ am_T d 33 25 ls (.ref (am_rf S a0 2) :: st) S I J Q) := tr_geta (k := 9) (by decide +kernel) (by decide +kernel) (by decide +kernel)
theorem r33_25 : am_T d 33 25 [l0, l1, l2, l3, some (.int x0)] st S I J Q = am_T d 33 27 [l0, l1, l2, l3, some (.int x0)] (.int x0 :: st) S I J Q := tr_iload (k := 4) (by decide +kernel) rfl
theorem r33_27 : am_T d 33 27 ls (.int x0 :: .ref a0 :: st) S I J Q = (am_ix S a0 20 x0 ∧ am_T d 33 28 ls (.int (I a0 x0.toNatClampNeg) :: st) S I J Q) := tr_iald (by decide +kernel)
theorem r33_28 : am_T d 33 28 ls [.int x2, .int x1, .ref a0] S I J Q = (am_is S a0 1 ∧ am_C d 18 [.ref a0, .int x1, .int x2] S I J (fun r S I J => am_T d 33 31 ls (am_psh r []) S I J Q)) := tr_virt (k := 56) (by decide +kernel) (by decide +kernel) rfl rfl (Nat.le_of_ble_eq_true rfl) (by decide +kernel)
theorem r33_31 : am_T d 33 31 ls (.int x0 :: st) S I J Q = if x0 = 0 then am_T d 33 44 ls st S I J Q else am_T d 33 34 ls st S I J Q := tr_ifeq (o := 13) (by decide +kernel) rfl
theorem r33_34 : am_T d 33 34 [l0, l1, l2, some (.int x0), l4] st S I J Q = am_T d 33 35 [l0, l1, l2, some (.int x0), l4] (.int x0 :: st) S I J Q := tr_iload_n (m := 3) (by decide +kernel) rfl
theorem r33_35 : am_T d 33 35 [some (.ref a0), l1, l2, l3, l4] st S I J Q = am_T d 33 36 [some (.ref a0), l1, l2, l3, l4] (.ref a0 :: st) S I J Q := tr_aload_n (m := 0) (by decide +kernel) rfl
theorem r33_36 : am_T d 33 36 ls (.ref a0 :: st) S I J Q = ((am_is S a0 3 ∧ am_rf S a0 3 ≠ 0) ∧ am_T d 33 39 ls (.ref (am_rf S a0 3) :: st) S I J Q) := tr_geta (k := 15) (by decide +kernel) (by decide +kernel) (by decide +kernel)
theorem r33_39 : am_T d 33 39 [l0, l1, l2, l3, some (.int x0)] st S I J Q = am_T d 33 41 [l0, l1, l2, l3, some (.int x0)] (.int x0 :: st) S I J Q := tr_iload (k := 4) (by decide +kernel) rfl
theorem r33_41 : am_T d 33 41 ls (.int x0 :: .ref a0 :: st) S I J Q = (am_ix S a0 20 x0 ∧ am_T d 33 42 ls (.int (I a0 x0.toNatClampNeg) :: st) S I J Q) := tr_iald (by decide +kernel)
theorem r33_42 : am_T d 33 42 ls (.int x1 :: .int x0 :: st) S I J Q = am_T d 33 43 ls (.int (x0 - x1) :: st) S I J Q := tr_isub (by decide +kernel)
theorem r33_43 : am_T d 33 43 [l0, l1, l2, l3, l4] (.int x0 :: st) S I J Q = am_T d 33 44 [l0, l1, am_clr l2, some (.int x0), l4] st S I J Q := tr_istore_n (m := 3) (by decide +kernel) (Nat.le_of_ble_eq_true rfl) rfl
theorem r33_44 : am_T d 33 44 [l0, l1, l2, l3, some (.int x0)] st S I J Q = am_T d 33 47 [l0, l1, l2, am_clr l3, some (.int (x0 + 1))] st S I J Q := tr_iinc (k := 4) (m := 1) (by decide +kernel) rfl (Nat.le_of_ble_eq_true rfl) (by decide) rfl
theorem r33_47 : am_T d 33 47 ls st S I J Q = am_T d 33 10 ls st S I J Q := tr_goto (o := -37) (by decide +kernel) rfl
theorem r33_50 : am_T d 33 50 [l0, l1, l2, some (.int x0), l4] st S I J Q = am_T d 33 51 [l0, l1, l2, some (.int x0), l4] (.int x0 :: st) S I J Q := tr_iload_n (m := 3) (by decide +kernel) rfl
theorem r33_51 : am_T d 33 51 ls [.int x0] S I J Q = Q (some (.int x0)) S I J := tr_ireti (by decide +kernel) (by decide +kernel)
-- 34 Grp.followNew(LArborescenceFinder$Graph;I)Z; heads []
theorem e34 : am_C (d + 1) 34 [.ref a0, .ref a1, .int x2] S I J Q = am_T d 34 0 [some (.ref a0), some (.ref a1), some (.int x2)] [] S I J Q := tr_en (Nat.le_of_ble_eq_true rfl) rfl
theorem r34_0 : am_T d 34 0 [some (.ref a0), l1, l2] st S I J Q = am_T d 34 1 [some (.ref a0), l1, l2] (.ref a0 :: st) S I J Q := tr_aload_n (m := 0) (by decide +kernel) rfl
theorem r34_1 : am_T d 34 1 ls (.ref a0 :: st) S I J Q = (am_is S a0 3 ∧ am_T d 34 4 ls (.int (I a0 0) :: st) S I J Q) := tr_geti (k := 24) (by decide +kernel) (by decide +kernel) (Or.inr (by decide +kernel))
theorem r34_4 : am_T d 34 4 ls (.int x0 :: st) S I J Q = if x0 = 0 then am_T d 34 20 ls st S I J Q else am_T d 34 7 ls st S I J Q := tr_ifeq (o := 16) (by decide +kernel) rfl
theorem r34_7 : am_T d 34 7 [some (.ref a0), l1, l2] st S I J Q = am_T d 34 8 [some (.ref a0), l1, l2] (.ref a0 :: st) S I J Q := tr_aload_n (m := 0) (by decide +kernel) rfl
theorem r34_8 : am_T d 34 8 [l0, some (.ref a0), l2] st S I J Q = am_T d 34 9 [l0, some (.ref a0), l2] (.ref a0 :: st) S I J Q := tr_aload_n (m := 1) (by decide +kernel) rfl
theorem r34_9 : am_T d 34 9 [l0, l1, some (.int x0)] st S I J Q = am_T d 34 10 [l0, l1, some (.int x0)] (.int x0 :: st) S I J Q := tr_iload_n (m := 2) (by decide +kernel) rfl
theorem r34_10 : am_T d 34 10 ls [.int x2, .ref a1, .ref a0] S I J Q = (am_is S a0 3 ∧ am_C d 33 [.ref a0, .ref a1, .int x2] S I J (fun r S I J => am_T d 34 13 ls (am_psh r []) S I J Q)) := tr_virt (k := 60) (by decide +kernel) (by decide +kernel) rfl rfl (Nat.le_of_ble_eq_true rfl) (by decide +kernel)
theorem r34_13 : am_T d 34 13 ls (.int x0 :: st) S I J Q = if x0 < 0 then am_T d 34 20 ls st S I J Q else am_T d 34 16 ls st S I J Q := tr_iflt (o := 7) (by decide +kernel) rfl
theorem r34_16 : am_T d 34 16 ls st S I J Q = am_T d 34 17 ls (.int 1 :: st) S I J Q := tr_iconst (m := 1) (by decide +kernel) (by decide)
theorem r34_17 : am_T d 34 17 ls st S I J Q = am_T d 34 21 ls st S I J Q := tr_goto (o := 4) (by decide +kernel) rfl
theorem r34_20 : am_T d 34 20 ls st S I J Q = am_T d 34 21 ls (.int 0 :: st) S I J Q := tr_iconst (m := 0) (by decide +kernel) (by decide)
theorem r34_21 : am_T d 34 21 ls [.int x0] S I J Q = ((x0 = 0 ∨ x0 = 1) ∧ Q (some (.int x0)) S I J) := tr_iretz (by decide +kernel) (by decide +kernel)
-- 35 Grp.followRemoval(LArborescenceFinder$Graph;I)Z; heads [20]
theorem e35 : am_C (d + 1) 35 [.ref a0, .ref a1, .int x2] S I J Q = am_T d 35 0 [some (.ref a0), some (.ref a1), some (.int x2), none] [] S I J Q := tr_en (Nat.le_of_ble_eq_true rfl) rfl
theorem r35_0 : am_T d 35 0 [some (.ref a0), l1, l2, l3] st S I J Q = am_T d 35 1 [some (.ref a0), l1, l2, l3] (.ref a0 :: st) S I J Q := tr_aload_n (m := 0) (by decide +kernel) rfl
theorem r35_1 : am_T d 35 1 ls (.ref a0 :: st) S I J Q = (am_is S a0 3 ∧ am_T d 35 4 ls (.int (I a0 0) :: st) S I J Q) := tr_geti (k := 24) (by decide +kernel) (by decide +kernel) (Or.inr (by decide +kernel))
theorem r35_4 : am_T d 35 4 ls (.int x0 :: st) S I J Q = if x0 = 0 then am_T d 35 16 ls st S I J Q else am_T d 35 7 ls st S I J Q := tr_ifeq (o := 12) (by decide +kernel) rfl
theorem r35_7 : am_T d 35 7 [some (.ref a0), l1, l2, l3] st S I J Q = am_T d 35 8 [some (.ref a0), l1, l2, l3] (.ref a0 :: st) S I J Q := tr_aload_n (m := 0) (by decide +kernel) rfl
theorem r35_8 : am_T d 35 8 [l0, some (.ref a0), l2, l3] st S I J Q = am_T d 35 9 [l0, some (.ref a0), l2, l3] (.ref a0 :: st) S I J Q := tr_aload_n (m := 1) (by decide +kernel) rfl
theorem r35_9 : am_T d 35 9 [l0, l1, some (.int x0), l3] st S I J Q = am_T d 35 10 [l0, l1, some (.int x0), l3] (.int x0 :: st) S I J Q := tr_iload_n (m := 2) (by decide +kernel) rfl
theorem r35_10 : am_T d 35 10 ls [.int x2, .ref a1, .ref a0] S I J Q = (am_is S a0 3 ∧ am_C d 30 [.ref a0, .ref a1, .int x2] S I J (fun r S I J => am_T d 35 13 ls (am_psh r []) S I J Q)) := tr_virt (k := 64) (by decide +kernel) (by decide +kernel) rfl rfl (Nat.le_of_ble_eq_true rfl) (by decide +kernel)
theorem r35_13 : am_T d 35 13 ls (.int x0 :: st) S I J Q = if x0 = 0 then am_T d 35 18 ls st S I J Q else am_T d 35 16 ls st S I J Q := tr_ifeq (o := 5) (by decide +kernel) rfl
theorem r35_16 : am_T d 35 16 ls st S I J Q = am_T d 35 17 ls (.int 0 :: st) S I J Q := tr_iconst (m := 0) (by decide +kernel) (by decide)
theorem r35_17 : am_T d 35 17 ls [.int x0] S I J Q = ((x0 = 0 ∨ x0 = 1) ∧ Q (some (.int x0)) S I J) := tr_iretz (by decide +kernel) (by decide +kernel)
theorem r35_18 : am_T d 35 18 ls st S I J Q = am_T d 35 19 ls (.int 0 :: st) S I J Q := tr_iconst (m := 0) (by decide +kernel) (by decide)
theorem r35_19 : am_T d 35 19 [l0, l1, l2, l3] (.int x0 :: st) S I J Q = am_T d 35 20 [l0, l1, am_clr l2, some (.int x0)] st S I J Q := tr_istore_n (m := 3) (by decide +kernel) (Nat.le_of_ble_eq_true rfl) rfl
theorem r35_20 : am_T d 35 20 [l0, l1, l2, some (.int x0)] st S I J Q = am_T d 35 21 [l0, l1, l2, some (.int x0)] (.int x0 :: st) S I J Q := tr_iload_n (m := 3) (by decide +kernel) rfl
theorem r35_21 : am_T d 35 21 [l0, some (.ref a0), l2, l3] st S I J Q = am_T d 35 22 [l0, some (.ref a0), l2, l3] (.ref a0 :: st) S I J Q := tr_aload_n (m := 1) (by decide +kernel) rfl
theorem r35_22 : am_T d 35 22 ls (.ref a0 :: st) S I J Q = (am_is S a0 1 ∧ am_T d 35 25 ls (.int (I a0 0) :: st) S I J Q) := tr_geti (k := 47) (by decide +kernel) (by decide +kernel) (Or.inl (by decide +kernel))
theorem r35_25 : am_T d 35 25 ls (.int x1 :: .int x0 :: st) S I J Q = if x1 ≤ x0 then am_T d 35 54 ls st S I J Q else am_T d 35 28 ls st S I J Q := tr_icmpge (o := 29) (by decide +kernel) rfl
theorem r35_28 : am_T d 35 28 [some (.ref a0), l1, l2, l3] st S I J Q = am_T d 35 29 [some (.ref a0), l1, l2, l3] (.ref a0 :: st) S I J Q := tr_aload_n (m := 0) (by decide +kernel) rfl
theorem r35_29 : am_T d 35 29 ls (.ref a0 :: st) S I J Q = ((am_is S a0 3 ∧ am_rf S a0 5 ≠ 0) ∧ am_T d 35 32 ls (.ref (am_rf S a0 5) :: st) S I J Q) := tr_geta (k := 21) (by decide +kernel) (by decide +kernel) (by decide +kernel)
theorem r35_32 : am_T d 35 32 [l0, l1, l2, some (.int x0)] st S I J Q = am_T d 35 33 [l0, l1, l2, some (.int x0)] (.int x0 :: st) S I J Q := tr_iload_n (m := 3) (by decide +kernel) rfl
theorem r35_33 : am_T d 35 33 ls (.int x0 :: .ref a0 :: st) S I J Q = (am_ix S a0 20 x0 ∧ am_T d 35 34 ls (.int (I a0 x0.toNatClampNeg) :: st) S I J Q) := tr_iald (by decide +kernel)
theorem r35_34 : am_T d 35 34 [l0, l1, some (.int x0), l3] st S I J Q = am_T d 35 35 [l0, l1, some (.int x0), l3] (.int x0 :: st) S I J Q := tr_iload_n (m := 2) (by decide +kernel) rfl
theorem r35_35 : am_T d 35 35 ls (.int x1 :: .int x0 :: st) S I J Q = if x0 ≤ x1 then am_T d 35 48 ls st S I J Q else am_T d 35 38 ls st S I J Q := tr_icmple (o := 13) (by decide +kernel) rfl
theorem r35_38 : am_T d 35 38 [some (.ref a0), l1, l2, l3] st S I J Q = am_T d 35 39 [some (.ref a0), l1, l2, l3] (.ref a0 :: st) S I J Q := tr_aload_n (m := 0) (by decide +kernel) rfl
theorem r35_39 : am_T d 35 39 ls (.ref a0 :: st) S I J Q = ((am_is S a0 3 ∧ am_rf S a0 5 ≠ 0) ∧ am_T d 35 42 ls (.ref (am_rf S a0 5) :: st) S I J Q) := tr_geta (k := 21) (by decide +kernel) (by decide +kernel) (by decide +kernel)
theorem r35_42 : am_T d 35 42 [l0, l1, l2, some (.int x0)] st S I J Q = am_T d 35 43 [l0, l1, l2, some (.int x0)] (.int x0 :: st) S I J Q := tr_iload_n (m := 3) (by decide +kernel) rfl
theorem r35_43 : am_T d 35 43 ls (.int x0 :: .ref a0 :: st) S I J Q = am_T d 35 44 ls (.int x0 :: .ref a0 :: .int x0 :: .ref a0 :: st) S I J Q := tr_dup2 (by decide +kernel)
theorem r35_44 : am_T d 35 44 ls (.int x0 :: .ref a0 :: st) S I J Q = (am_ix S a0 20 x0 ∧ am_T d 35 45 ls (.int (I a0 x0.toNatClampNeg) :: st) S I J Q) := tr_iald (by decide +kernel)
theorem r35_45 : am_T d 35 45 ls st S I J Q = am_T d 35 46 ls (.int 1 :: st) S I J Q := tr_iconst (m := 1) (by decide +kernel) (by decide)
theorem r35_46 : am_T d 35 46 ls (.int x1 :: .int x0 :: st) S I J Q = am_T d 35 47 ls (.int (x0 - x1) :: st) S I J Q := tr_isub (by decide +kernel)
theorem r35_47 : am_T d 35 47 ls (.int x1 :: .int x0 :: .ref a0 :: st) S I J Q = (am_ixw S a0 20 x0 ∧ am_T d 35 48 ls st S (am_up I a0 x0.toNatClampNeg x1) J Q) := tr_iast (by decide +kernel)
theorem r35_48 : am_T d 35 48 [l0, l1, l2, some (.int x0)] st S I J Q = am_T d 35 51 [l0, l1, am_clr l2, some (.int (x0 + 1))] st S I J Q := tr_iinc (k := 3) (m := 1) (by decide +kernel) rfl (Nat.le_of_ble_eq_true rfl) (by decide) rfl
theorem r35_51 : am_T d 35 51 ls st S I J Q = am_T d 35 20 ls st S I J Q := tr_goto (o := -31) (by decide +kernel) rfl
theorem r35_54 : am_T d 35 54 ls st S I J Q = am_T d 35 55 ls (.int 1 :: st) S I J Q := tr_iconst (m := 1) (by decide +kernel) (by decide)
theorem r35_55 : am_T d 35 55 ls [.int x0] S I J Q = ((x0 = 0 ∨ x0 = 1) ∧ Q (some (.int x0)) S I J) := tr_iretz (by decide +kernel) (by decide +kernel)
-- 36 Grp.followCost(LArborescenceFinder$Graph;II)Z; heads [55]
theorem e36 : am_C (d + 1) 36 [.ref a0, .ref a1, .int x2, .int x3] S I J Q = am_T d 36 0 [some (.ref a0), some (.ref a1), some (.int x2), some (.int x3), none, none] [] S I J Q := tr_en (Nat.le_of_ble_eq_true rfl) rfl
theorem r36_0 : am_T d 36 0 [some (.ref a0), l1, l2, l3, l4, l5] st S I J Q = am_T d 36 1 [some (.ref a0), l1, l2, l3, l4, l5] (.ref a0 :: st) S I J Q := tr_aload_n (m := 0) (by decide +kernel) rfl
theorem r36_1 : am_T d 36 1 ls (.ref a0 :: st) S I J Q = (am_is S a0 3 ∧ am_T d 36 4 ls (.int (I a0 0) :: st) S I J Q) := tr_geti (k := 24) (by decide +kernel) (by decide +kernel) (Or.inr (by decide +kernel))
theorem r36_4 : am_T d 36 4 ls (.int x0 :: st) S I J Q = if x0 = 0 then am_T d 36 7 ls st S I J Q else am_T d 36 9 ls st S I J Q := tr_ifne (o := 5) (by decide +kernel) rfl
theorem r36_7 : am_T d 36 7 ls st S I J Q = am_T d 36 8 ls (.int 0 :: st) S I J Q := tr_iconst (m := 0) (by decide +kernel) (by decide)
theorem r36_8 : am_T d 36 8 ls [.int x0] S I J Q = ((x0 = 0 ∨ x0 = 1) ∧ Q (some (.int x0)) S I J) := tr_iretz (by decide +kernel) (by decide +kernel)
theorem r36_9 : am_T d 36 9 [some (.ref a0), l1, l2, l3, l4, l5] st S I J Q = am_T d 36 10 [some (.ref a0), l1, l2, l3, l4, l5] (.ref a0 :: st) S I J Q := tr_aload_n (m := 0) (by decide +kernel) rfl
theorem r36_10 : am_T d 36 10 [l0, some (.ref a0), l2, l3, l4, l5] st S I J Q = am_T d 36 11 [l0, some (.ref a0), l2, l3, l4, l5] (.ref a0 :: st) S I J Q := tr_aload_n (m := 1) (by decide +kernel) rfl
theorem r36_11 : am_T d 36 11 [l0, l1, some (.int x0), l3, l4, l5] st S I J Q = am_T d 36 12 [l0, l1, some (.int x0), l3, l4, l5] (.int x0 :: st) S I J Q := tr_iload_n (m := 2) (by decide +kernel) rfl
theorem r36_12 : am_T d 36 12 ls [.int x2, .ref a1, .ref a0] S I J Q = (am_is S a0 3 ∧ am_C d 30 [.ref a0, .ref a1, .int x2] S I J (fun r S I J => am_T d 36 15 ls (am_psh r []) S I J Q)) := tr_virt (k := 64) (by decide +kernel) (by decide +kernel) rfl rfl (Nat.le_of_ble_eq_true rfl) (by decide +kernel)
theorem r36_15 : am_T d 36 15 ls (.int x0 :: st) S I J Q = if x0 = 0 then am_T d 36 18 ls st S I J Q else am_T d 36 33 ls st S I J Q := tr_ifne (o := 18) (by decide +kernel) rfl
theorem r36_18 : am_T d 36 18 [some (.ref a0), l1, l2, l3, l4, l5] st S I J Q = am_T d 36 19 [some (.ref a0), l1, l2, l3, l4, l5] (.ref a0 :: st) S I J Q := tr_aload_n (m := 0) (by decide +kernel) rfl
theorem r36_19 : am_T d 36 19 [l0, some (.ref a0), l2, l3, l4, l5] st S I J Q = am_T d 36 20 [l0, some (.ref a0), l2, l3, l4, l5] (.ref a0 :: st) S I J Q := tr_aload_n (m := 1) (by decide +kernel) rfl
theorem r36_20 : am_T d 36 20 [l0, l1, some (.int x0), l3, l4, l5] st S I J Q = am_T d 36 21 [l0, l1, some (.int x0), l3, l4, l5] (.int x0 :: st) S I J Q := tr_iload_n (m := 2) (by decide +kernel) rfl
theorem r36_21 : am_T d 36 21 ls [.int x2, .ref a1, .ref a0] S I J Q = (am_is S a0 3 ∧ am_C d 33 [.ref a0, .ref a1, .int x2] S I J (fun r S I J => am_T d 36 24 ls (am_psh r []) S I J Q)) := tr_virt (k := 60) (by decide +kernel) (by decide +kernel) rfl rfl (Nat.le_of_ble_eq_true rfl) (by decide +kernel)
theorem r36_24 : am_T d 36 24 ls (.int x0 :: st) S I J Q = if x0 < 0 then am_T d 36 31 ls st S I J Q else am_T d 36 27 ls st S I J Q := tr_iflt (o := 7) (by decide +kernel) rfl
theorem r36_27 : am_T d 36 27 ls st S I J Q = am_T d 36 28 ls (.int 1 :: st) S I J Q := tr_iconst (m := 1) (by decide +kernel) (by decide)
theorem r36_28 : am_T d 36 28 ls st S I J Q = am_T d 36 32 ls st S I J Q := tr_goto (o := 4) (by decide +kernel) rfl
theorem r36_31 : am_T d 36 31 ls st S I J Q = am_T d 36 32 ls (.int 0 :: st) S I J Q := tr_iconst (m := 0) (by decide +kernel) (by decide)
theorem r36_32 : am_T d 36 32 ls [.int x0] S I J Q = ((x0 = 0 ∨ x0 = 1) ∧ Q (some (.int x0)) S I J) := tr_iretz (by decide +kernel) (by decide +kernel)
theorem r36_33 : am_T d 36 33 [l0, some (.ref a0), l2, l3, l4, l5] st S I J Q = am_T d 36 34 [l0, some (.ref a0), l2, l3, l4, l5] (.ref a0 :: st) S I J Q := tr_aload_n (m := 1) (by decide +kernel) rfl
theorem r36_34 : am_T d 36 34 ls (.ref a0 :: st) S I J Q = ((am_is S a0 1 ∧ am_rf S a0 4 ≠ 0) ∧ am_T d 36 37 ls (.ref (am_rf S a0 4) :: st) S I J Q) := tr_geta (k := 42) (by decide +kernel) (by decide +kernel) (by decide +kernel)
theorem r36_37 : am_T d 36 37 [l0, l1, some (.int x0), l3, l4, l5] st S I J Q = am_T d 36 38 [l0, l1, some (.int x0), l3, l4, l5] (.int x0 :: st) S I J Q := tr_iload_n (m := 2) (by decide +kernel) rfl
theorem r36_38 : am_T d 36 38 ls (.int x0 :: .ref a0 :: st) S I J Q = (am_ix S a0 20 x0 ∧ am_T d 36 39 ls (.int (I a0 x0.toNatClampNeg) :: st) S I J Q) := tr_iald (by decide +kernel)
theorem r36_39 : am_T d 36 39 [l0, l1, l2, l3, l4, l5] (.int x0 :: st) S I J Q = am_T d 36 41 [l0, l1, l2, am_clr l3, some (.int x0), l5] st S I J Q := tr_istore (k := 4) (by decide +kernel) (Nat.le_of_ble_eq_true rfl) rfl
theorem r36_41 : am_T d 36 41 [some (.ref a0), l1, l2, l3, l4, l5] st S I J Q = am_T d 36 42 [some (.ref a0), l1, l2, l3, l4, l5] (.ref a0 :: st) S I J Q := tr_aload_n (m := 0) (by decide +kernel) rfl
theorem r36_42 : am_T d 36 42 ls (.ref a0 :: st) S I J Q = ((am_is S a0 3 ∧ am_rf S a0 3 ≠ 0) ∧ am_T d 36 45 ls (.ref (am_rf S a0 3) :: st) S I J Q) := tr_geta (k := 15) (by decide +kernel) (by decide +kernel) (by decide +kernel)
theorem r36_45 : am_T d 36 45 [l0, l1, l2, l3, some (.int x0), l5] st S I J Q = am_T d 36 47 [l0, l1, l2, l3, some (.int x0), l5] (.int x0 :: st) S I J Q := tr_iload (k := 4) (by decide +kernel) rfl
theorem r36_47 : am_T d 36 47 ls (.int x0 :: .ref a0 :: st) S I J Q = am_T d 36 48 ls (.int x0 :: .ref a0 :: .int x0 :: .ref a0 :: st) S I J Q := tr_dup2 (by decide +kernel)
theorem r36_48 : am_T d 36 48 ls (.int x0 :: .ref a0 :: st) S I J Q = (am_ix S a0 20 x0 ∧ am_T d 36 49 ls (.int (I a0 x0.toNatClampNeg) :: st) S I J Q) := tr_iald (by decide +kernel)
theorem r36_49 : am_T d 36 49 [l0, l1, l2, some (.int x0), l4, l5] st S I J Q = am_T d 36 50 [l0, l1, l2, some (.int x0), l4, l5] (.int x0 :: st) S I J Q := tr_iload_n (m := 3) (by decide +kernel) rfl
theorem r36_50 : am_T d 36 50 ls (.int x1 :: .int x0 :: st) S I J Q = am_T d 36 51 ls (.int (x0 + x1) :: st) S I J Q := tr_iadd (by decide +kernel)
theorem r36_51 : am_T d 36 51 ls (.int x1 :: .int x0 :: .ref a0 :: st) S I J Q = (am_ixw S a0 20 x0 ∧ am_T d 36 52 ls st S (am_up I a0 x0.toNatClampNeg x1) J Q) := tr_iast (by decide +kernel)
theorem r36_52 : am_T d 36 52 ls st S I J Q = am_T d 36 53 ls (.int 0 :: st) S I J Q := tr_iconst (m := 0) (by decide +kernel) (by decide)
theorem r36_53 : am_T d 36 53 [l0, l1, l2, l3, l4, l5] (.int x0 :: st) S I J Q = am_T d 36 55 [l0, l1, l2, l3, am_clr l4, some (.int x0)] st S I J Q := tr_istore (k := 5) (by decide +kernel) (Nat.le_of_ble_eq_true rfl) rfl
theorem r36_55 : am_T d 36 55 [l0, l1, l2, l3, l4, some (.int x0)] st S I J Q = am_T d 36 57 [l0, l1, l2, l3, l4, some (.int x0)] (.int x0 :: st) S I J Q := tr_iload (k := 5) (by decide +kernel) rfl
theorem r36_57 : am_T d 36 57 [l0, some (.ref a0), l2, l3, l4, l5] st S I J Q = am_T d 36 58 [l0, some (.ref a0), l2, l3, l4, l5] (.ref a0 :: st) S I J Q := tr_aload_n (m := 1) (by decide +kernel) rfl
theorem r36_58 : am_T d 36 58 ls (.ref a0 :: st) S I J Q = (am_is S a0 1 ∧ am_T d 36 61 ls (.int (I a0 2) :: st) S I J Q) := tr_geti (k := 68) (by decide +kernel) (by decide +kernel) (Or.inl (by decide +kernel))
theorem r36_61 : am_T d 36 61 ls (.int x1 :: .int x0 :: st) S I J Q = if x1 ≤ x0 then am_T d 36 100 ls st S I J Q else am_T d 36 64 ls st S I J Q := tr_icmpge (o := 39) (by decide +kernel) rfl
theorem r36_64 : am_T d 36 64 [l0, l1, l2, l3, l4, some (.int x0)] st S I J Q = am_T d 36 66 [l0, l1, l2, l3, l4, some (.int x0)] (.int x0 :: st) S I J Q := tr_iload (k := 5) (by decide +kernel) rfl
theorem r36_66 : am_T d 36 66 [l0, l1, some (.int x0), l3, l4, l5] st S I J Q = am_T d 36 67 [l0, l1, some (.int x0), l3, l4, l5] (.int x0 :: st) S I J Q := tr_iload_n (m := 2) (by decide +kernel) rfl
theorem r36_67 : am_T d 36 67 ls (.int x1 :: .int x0 :: st) S I J Q = if x0 = x1 then am_T d 36 94 ls st S I J Q else am_T d 36 70 ls st S I J Q := tr_icmpeq (o := 27) (by decide +kernel) rfl
theorem r36_70 : am_T d 36 70 [l0, some (.ref a0), l2, l3, l4, l5] st S I J Q = am_T d 36 71 [l0, some (.ref a0), l2, l3, l4, l5] (.ref a0 :: st) S I J Q := tr_aload_n (m := 1) (by decide +kernel) rfl
theorem r36_71 : am_T d 36 71 ls (.ref a0 :: st) S I J Q = ((am_is S a0 1 ∧ am_rf S a0 4 ≠ 0) ∧ am_T d 36 74 ls (.ref (am_rf S a0 4) :: st) S I J Q) := tr_geta (k := 42) (by decide +kernel) (by decide +kernel) (by decide +kernel)
theorem r36_74 : am_T d 36 74 [l0, l1, l2, l3, l4, some (.int x0)] st S I J Q = am_T d 36 76 [l0, l1, l2, l3, l4, some (.int x0)] (.int x0 :: st) S I J Q := tr_iload (k := 5) (by decide +kernel) rfl
theorem r36_76 : am_T d 36 76 ls (.int x0 :: .ref a0 :: st) S I J Q = (am_ix S a0 20 x0 ∧ am_T d 36 77 ls (.int (I a0 x0.toNatClampNeg) :: st) S I J Q) := tr_iald (by decide +kernel)
theorem r36_77 : am_T d 36 77 [l0, l1, l2, l3, some (.int x0), l5] st S I J Q = am_T d 36 79 [l0, l1, l2, l3, some (.int x0), l5] (.int x0 :: st) S I J Q := tr_iload (k := 4) (by decide +kernel) rfl
theorem r36_79 : am_T d 36 79 ls (.int x1 :: .int x0 :: st) S I J Q = if x0 = x1 then am_T d 36 82 ls st S I J Q else am_T d 36 94 ls st S I J Q := tr_icmpne (o := 15) (by decide +kernel) rfl
theorem r36_82 : am_T d 36 82 [some (.ref a0), l1, l2, l3, l4, l5] st S I J Q = am_T d 36 83 [some (.ref a0), l1, l2, l3, l4, l5] (.ref a0 :: st) S I J Q := tr_aload_n (m := 0) (by decide +kernel) rfl
theorem r36_83 : am_T d 36 83 [l0, some (.ref a0), l2, l3, l4, l5] st S I J Q = am_T d 36 84 [l0, some (.ref a0), l2, l3, l4, l5] (.ref a0 :: st) S I J Q := tr_aload_n (m := 1) (by decide +kernel) rfl
theorem r36_84 : am_T d 36 84 [l0, l1, l2, l3, l4, some (.int x0)] st S I J Q = am_T d 36 86 [l0, l1, l2, l3, l4, some (.int x0)] (.int x0 :: st) S I J Q := tr_iload (k := 5) (by decide +kernel) rfl
theorem r36_86 : am_T d 36 86 ls [.int x2, .ref a1, .ref a0] S I J Q = (am_is S a0 3 ∧ am_C d 33 [.ref a0, .ref a1, .int x2] S I J (fun r S I J => am_T d 36 89 ls (am_psh r []) S I J Q)) := tr_virt (k := 60) (by decide +kernel) (by decide +kernel) rfl rfl (Nat.le_of_ble_eq_true rfl) (by decide +kernel)
theorem r36_89 : am_T d 36 89 ls (.int x0 :: st) S I J Q = if 0 ≤ x0 then am_T d 36 94 ls st S I J Q else am_T d 36 92 ls st S I J Q := tr_ifge (o := 5) (by decide +kernel) rfl
theorem r36_92 : am_T d 36 92 ls st S I J Q = am_T d 36 93 ls (.int 0 :: st) S I J Q := tr_iconst (m := 0) (by decide +kernel) (by decide)
theorem r36_93 : am_T d 36 93 ls [.int x0] S I J Q = ((x0 = 0 ∨ x0 = 1) ∧ Q (some (.int x0)) S I J) := tr_iretz (by decide +kernel) (by decide +kernel)
theorem r36_94 : am_T d 36 94 [l0, l1, l2, l3, l4, some (.int x0)] st S I J Q = am_T d 36 97 [l0, l1, l2, l3, am_clr l4, some (.int (x0 + 1))] st S I J Q := tr_iinc (k := 5) (m := 1) (by decide +kernel) rfl (Nat.le_of_ble_eq_true rfl) (by decide) rfl
theorem r36_97 : am_T d 36 97 ls st S I J Q = am_T d 36 55 ls st S I J Q := tr_goto (o := -42) (by decide +kernel) rfl
theorem r36_100 : am_T d 36 100 ls st S I J Q = am_T d 36 101 ls (.int 1 :: st) S I J Q := tr_iconst (m := 1) (by decide +kernel) (by decide)
theorem r36_101 : am_T d 36 101 ls [.int x0] S I J Q = ((x0 = 0 ∨ x0 = 1) ∧ Q (some (.int x0)) S I J) := tr_iretz (by decide +kernel) (by decide +kernel)
end RU
end
