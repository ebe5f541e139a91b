section
-- ===== PART A: goes FIRST, ahead of the names: the tables' words, and 'selects' of the private methods out of them =====
/-- a private method of a class that the tables say can be made, by its rows of tables_1 -/
def lw_okq (q : MethodName × Nat) : Prop := (q.1.cls ≠ "java/lang/invoke/MethodHandle" ∧ q.1.cls ≠ "java/lang/invoke/VarHandle") ∧ Cond.instantiable q.1.cls q.2 ∈ tables_1 ∧ Cond.privateMethod q.1 ∈ tables_1 ∧ Cond.instanceMethod q.1 ∈ tables_1
theorem lw_p0 : lw_okq (⟨"OutlineEditor", "remember", "()V"⟩, 7) := ⟨⟨by decide +kernel, by decide +kernel⟩, List.mem_of_getElem? (i := 8) (by decide +kernel), List.mem_of_getElem? (i := 143) (by decide +kernel), List.mem_of_getElem? (i := 144) (by decide +kernel)⟩
theorem lw_p1 : lw_okq (⟨"OutlineEditor", "dropOldest", "()V"⟩, 7) := ⟨⟨by decide +kernel, by decide +kernel⟩, List.mem_of_getElem? (i := 8) (by decide +kernel), List.mem_of_getElem? (i := 147) (by decide +kernel), List.mem_of_getElem? (i := 148) (by decide +kernel)⟩
theorem lw_p2 : lw_okq (⟨"OutlineEditor$Outline", "lowestFree", "()I"⟩, 13) := ⟨⟨by decide +kernel, by decide +kernel⟩, List.mem_of_getElem? (i := 16) (by decide +kernel), List.mem_of_getElem? (i := 168) (by decide +kernel), List.mem_of_getElem? (i := 169) (by decide +kernel)⟩
theorem lw_p3 : lw_okq (⟨"OutlineEditor$Outline", "dropReferences", "(I)V"⟩, 13) := ⟨⟨by decide +kernel, by decide +kernel⟩, List.mem_of_getElem? (i := 16) (by decide +kernel), List.mem_of_getElem? (i := 192) (by decide +kernel), List.mem_of_getElem? (i := 193) (by decide +kernel)⟩
theorem lw_p4 : lw_okq (⟨"OutlineEditor", "placeForDrag", "(II)I"⟩, 7) := ⟨⟨by decide +kernel, by decide +kernel⟩, List.mem_of_getElem? (i := 8) (by decide +kernel), List.mem_of_getElem? (i := 223) (by decide +kernel), List.mem_of_getElem? (i := 224) (by decide +kernel)⟩
theorem lw_p5 : lw_okq (⟨"OutlineEditor$Outline", "swapBlocks", "(III)V"⟩, 13) := ⟨⟨by decide +kernel, by decide +kernel⟩, List.mem_of_getElem? (i := 16) (by decide +kernel), List.mem_of_getElem? (i := 231) (by decide +kernel), List.mem_of_getElem? (i := 232) (by decide +kernel)⟩
theorem lw_p6 : lw_okq (⟨"OutlineEditor$Outline", "turnRound", "(II)V"⟩, 13) := ⟨⟨by decide +kernel, by decide +kernel⟩, List.mem_of_getElem? (i := 16) (by decide +kernel), List.mem_of_getElem? (i := 235) (by decide +kernel), List.mem_of_getElem? (i := 236) (by decide +kernel)⟩
theorem lw_p7 : lw_okq (⟨"OutlineEditor", "writeReference", "(I)V"⟩, 7) := ⟨⟨by decide +kernel, by decide +kernel⟩, List.mem_of_getElem? (i := 8) (by decide +kernel), List.mem_of_getElem? (i := 289) (by decide +kernel), List.mem_of_getElem? (i := 290) (by decide +kernel)⟩
theorem lw_p8 : lw_okq (⟨"OutlineEditor$Line", "appendLetters", "(II)V"⟩, 2) := ⟨⟨by decide +kernel, by decide +kernel⟩, List.mem_of_getElem? (i := 75) (by decide +kernel), List.mem_of_getElem? (i := 324) (by decide +kernel), List.mem_of_getElem? (i := 325) (by decide +kernel)⟩
theorem lw_p9 : lw_okq (⟨"OutlineEditor$Line", "appendRoman", "(II)V"⟩, 2) := ⟨⟨by decide +kernel, by decide +kernel⟩, List.mem_of_getElem? (i := 75) (by decide +kernel), List.mem_of_getElem? (i := 329) (by decide +kernel), List.mem_of_getElem? (i := 330) (by decide +kernel)⟩
theorem lw_p10 : lw_okq (⟨"OutlineEditor$Line", "appendDecimal", "(I)V"⟩, 2) := ⟨⟨by decide +kernel, by decide +kernel⟩, List.mem_of_getElem? (i := 75) (by decide +kernel), List.mem_of_getElem? (i := 339) (by decide +kernel), List.mem_of_getElem? (i := 340) (by decide +kernel)⟩
theorem lw_p11 : lw_okq (⟨"OutlineEditor", "numberLength", "(I)I"⟩, 7) := ⟨⟨by decide +kernel, by decide +kernel⟩, List.mem_of_getElem? (i := 8) (by decide +kernel), List.mem_of_getElem? (i := 414) (by decide +kernel), List.mem_of_getElem? (i := 415) (by decide +kernel)⟩
theorem lw_p12 : lw_okq (⟨"OutlineEditorModel", "many", "()I"⟩, 10) := ⟨⟨by decide +kernel, by decide +kernel⟩, List.mem_of_getElem? (i := 454) (by decide +kernel), List.mem_of_getElem? (i := 495) (by decide +kernel), List.mem_of_getElem? (i := 496) (by decide +kernel)⟩
theorem lw_p13 : lw_okq (⟨"OutlineEditorModel", "levelAt", "(I)I"⟩, 10) := ⟨⟨by decide +kernel, by decide +kernel⟩, List.mem_of_getElem? (i := 454) (by decide +kernel), List.mem_of_getElem? (i := 502) (by decide +kernel), List.mem_of_getElem? (i := 503) (by decide +kernel)⟩
theorem lw_p14 : lw_okq (⟨"OutlineEditorModel", "at", "(I)I"⟩, 10) := ⟨⟨by decide +kernel, by decide +kernel⟩, List.mem_of_getElem? (i := 454) (by decide +kernel), List.mem_of_getElem? (i := 506) (by decide +kernel), List.mem_of_getElem? (i := 507) (by decide +kernel)⟩
theorem lw_p15 : lw_okq (⟨"OutlineEditorModel", "parentFor", "(II)I"⟩, 10) := ⟨⟨by decide +kernel, by decide +kernel⟩, List.mem_of_getElem? (i := 454) (by decide +kernel), List.mem_of_getElem? (i := 510) (by decide +kernel), List.mem_of_getElem? (i := 511) (by decide +kernel)⟩
def lw_privs_1 : List (MethodName × Nat) := [(⟨"OutlineEditor", "remember", "()V"⟩, 7), (⟨"OutlineEditor", "dropOldest", "()V"⟩, 7), (⟨"OutlineEditor$Outline", "lowestFree", "()I"⟩, 13), (⟨"OutlineEditor$Outline", "dropReferences", "(I)V"⟩, 13), (⟨"OutlineEditor", "placeForDrag", "(II)I"⟩, 7), (⟨"OutlineEditor$Outline", "swapBlocks", "(III)V"⟩, 13), (⟨"OutlineEditor$Outline", "turnRound", "(II)V"⟩, 13), (⟨"OutlineEditor", "writeReference", "(I)V"⟩, 7), (⟨"OutlineEditor$Line", "appendLetters", "(II)V"⟩, 2), (⟨"OutlineEditor$Line", "appendRoman", "(II)V"⟩, 2), (⟨"OutlineEditor$Line", "appendDecimal", "(I)V"⟩, 2), (⟨"OutlineEditor", "numberLength", "(I)I"⟩, 7), (⟨"OutlineEditorModel", "many", "()I"⟩, 10), (⟨"OutlineEditorModel", "levelAt", "(I)I"⟩, 10), (⟨"OutlineEditorModel", "at", "(I)I"⟩, 10), (⟨"OutlineEditorModel", "parentFor", "(II)I"⟩, 10)]
theorem lw_r1 : ∀ q ∈ lw_privs_1, lw_okq q := List.forall_mem_cons.mpr ⟨lw_p0, List.forall_mem_cons.mpr ⟨lw_p1, List.forall_mem_cons.mpr ⟨lw_p2, List.forall_mem_cons.mpr ⟨lw_p3, List.forall_mem_cons.mpr ⟨lw_p4, List.forall_mem_cons.mpr ⟨lw_p5, List.forall_mem_cons.mpr ⟨lw_p6, List.forall_mem_cons.mpr ⟨lw_p7, List.forall_mem_cons.mpr ⟨lw_p8, List.forall_mem_cons.mpr ⟨lw_p9, List.forall_mem_cons.mpr ⟨lw_p10, List.forall_mem_cons.mpr ⟨lw_p11, List.forall_mem_cons.mpr ⟨lw_p12, List.forall_mem_cons.mpr ⟨lw_p13, List.forall_mem_cons.mpr ⟨lw_p14, List.forall_mem_cons.mpr ⟨lw_p15, fun _ h => absurd h List.not_mem_nil⟩⟩⟩⟩⟩⟩⟩⟩⟩⟩⟩⟩⟩⟩⟩⟩
theorem lw_p16 : lw_okq (⟨"OutlineEditorModel", "isAllowed", "(II)Z"⟩, 10) := ⟨⟨by decide +kernel, by decide +kernel⟩, List.mem_of_getElem? (i := 454) (by decide +kernel), List.mem_of_getElem? (i := 514) (by decide +kernel), List.mem_of_getElem? (i := 515) (by decide +kernel)⟩
theorem lw_p17 : lw_okq (⟨"OutlineEditorModel", "kindAt", "(I)I"⟩, 10) := ⟨⟨by decide +kernel, by decide +kernel⟩, List.mem_of_getElem? (i := 454) (by decide +kernel), List.mem_of_getElem? (i := 518) (by decide +kernel), List.mem_of_getElem? (i := 519) (by decide +kernel)⟩
theorem lw_p18 : lw_okq (⟨"OutlineEditorModel", "mayHave", "(III)Z"⟩, 10) := ⟨⟨by decide +kernel, by decide +kernel⟩, List.mem_of_getElem? (i := 454) (by decide +kernel), List.mem_of_getElem? (i := 522) (by decide +kernel), List.mem_of_getElem? (i := 523) (by decide +kernel)⟩
theorem lw_p19 : lw_okq (⟨"OutlineEditorModel", "remember", "()V"⟩, 10) := ⟨⟨by decide +kernel, by decide +kernel⟩, List.mem_of_getElem? (i := 454) (by decide +kernel), List.mem_of_getElem? (i := 526) (by decide +kernel), List.mem_of_getElem? (i := 527) (by decide +kernel)⟩
theorem lw_p20 : lw_okq (⟨"OutlineEditorModel", "lowestFree", "()I"⟩, 10) := ⟨⟨by decide +kernel, by decide +kernel⟩, List.mem_of_getElem? (i := 454) (by decide +kernel), List.mem_of_getElem? (i := 530) (by decide +kernel), List.mem_of_getElem? (i := 531) (by decide +kernel)⟩
theorem lw_p21 : lw_okq (⟨"OutlineEditorModel", "isHeading", "(I)Z"⟩, 10) := ⟨⟨by decide +kernel, by decide +kernel⟩, List.mem_of_getElem? (i := 454) (by decide +kernel), List.mem_of_getElem? (i := 534) (by decide +kernel), List.mem_of_getElem? (i := 535) (by decide +kernel)⟩
theorem lw_p22 : lw_okq (⟨"OutlineEditorModel", "placeOf", "(I)I"⟩, 10) := ⟨⟨by decide +kernel, by decide +kernel⟩, List.mem_of_getElem? (i := 454) (by decide +kernel), List.mem_of_getElem? (i := 538) (by decide +kernel), List.mem_of_getElem? (i := 539) (by decide +kernel)⟩
theorem lw_p23 : lw_okq (⟨"OutlineEditorModel", "endOf", "(I)I"⟩, 10) := ⟨⟨by decide +kernel, by decide +kernel⟩, List.mem_of_getElem? (i := 454) (by decide +kernel), List.mem_of_getElem? (i := 546) (by decide +kernel), List.mem_of_getElem? (i := 547) (by decide +kernel)⟩
theorem lw_p24 : lw_okq (⟨"OutlineEditorModel", "mayMoveUp", "(I)Z"⟩, 10) := ⟨⟨by decide +kernel, by decide +kernel⟩, List.mem_of_getElem? (i := 454) (by decide +kernel), List.mem_of_getElem? (i := 550) (by decide +kernel), List.mem_of_getElem? (i := 551) (by decide +kernel)⟩
theorem lw_p25 : lw_okq (⟨"OutlineEditorModel", "parentOf", "(I)I"⟩, 10) := ⟨⟨by decide +kernel, by decide +kernel⟩, List.mem_of_getElem? (i := 454) (by decide +kernel), List.mem_of_getElem? (i := 554) (by decide +kernel), List.mem_of_getElem? (i := 555) (by decide +kernel)⟩
theorem lw_p26 : lw_okq (⟨"OutlineEditorModel", "shiftLevels", "(III)V"⟩, 10) := ⟨⟨by decide +kernel, by decide +kernel⟩, List.mem_of_getElem? (i := 454) (by decide +kernel), List.mem_of_getElem? (i := 558) (by decide +kernel), List.mem_of_getElem? (i := 559) (by decide +kernel)⟩
theorem lw_p27 : lw_okq (⟨"OutlineEditorModel", "cut", "(II)V"⟩, 10) := ⟨⟨by decide +kernel, by decide +kernel⟩, List.mem_of_getElem? (i := 454) (by decide +kernel), List.mem_of_getElem? (i := 562) (by decide +kernel), List.mem_of_getElem? (i := 563) (by decide +kernel)⟩
theorem lw_p28 : lw_okq (⟨"OutlineEditorModel", "forgetHeading", "(I)V"⟩, 10) := ⟨⟨by decide +kernel, by decide +kernel⟩, List.mem_of_getElem? (i := 454) (by decide +kernel), List.mem_of_getElem? (i := 566) (by decide +kernel), List.mem_of_getElem? (i := 567) (by decide +kernel)⟩
theorem lw_p29 : lw_okq (⟨"OutlineEditorModel", "dropReference", "(I)V"⟩, 10) := ⟨⟨by decide +kernel, by decide +kernel⟩, List.mem_of_getElem? (i := 454) (by decide +kernel), List.mem_of_getElem? (i := 570) (by decide +kernel), List.mem_of_getElem? (i := 571) (by decide +kernel)⟩
theorem lw_p30 : lw_okq (⟨"OutlineEditorModel", "isDeep", "(III)Z"⟩, 10) := ⟨⟨by decide +kernel, by decide +kernel⟩, List.mem_of_getElem? (i := 454) (by decide +kernel), List.mem_of_getElem? (i := 582) (by decide +kernel), List.mem_of_getElem? (i := 583) (by decide +kernel)⟩
theorem lw_p31 : lw_okq (⟨"OutlineEditorModel", "setOne", "(II)I"⟩, 10) := ⟨⟨by decide +kernel, by decide +kernel⟩, List.mem_of_getElem? (i := 454) (by decide +kernel), List.mem_of_getElem? (i := 598) (by decide +kernel), List.mem_of_getElem? (i := 599) (by decide +kernel)⟩
def lw_privs_2 : List (MethodName × Nat) := [(⟨"OutlineEditorModel", "isAllowed", "(II)Z"⟩, 10), (⟨"OutlineEditorModel", "kindAt", "(I)I"⟩, 10), (⟨"OutlineEditorModel", "mayHave", "(III)Z"⟩, 10), (⟨"OutlineEditorModel", "remember", "()V"⟩, 10), (⟨"OutlineEditorModel", "lowestFree", "()I"⟩, 10), (⟨"OutlineEditorModel", "isHeading", "(I)Z"⟩, 10), (⟨"OutlineEditorModel", "placeOf", "(I)I"⟩, 10), (⟨"OutlineEditorModel", "endOf", "(I)I"⟩, 10), (⟨"OutlineEditorModel", "mayMoveUp", "(I)Z"⟩, 10), (⟨"OutlineEditorModel", "parentOf", "(I)I"⟩, 10), (⟨"OutlineEditorModel", "shiftLevels", "(III)V"⟩, 10), (⟨"OutlineEditorModel", "cut", "(II)V"⟩, 10), (⟨"OutlineEditorModel", "forgetHeading", "(I)V"⟩, 10), (⟨"OutlineEditorModel", "dropReference", "(I)V"⟩, 10), (⟨"OutlineEditorModel", "isDeep", "(III)Z"⟩, 10), (⟨"OutlineEditorModel", "setOne", "(II)I"⟩, 10)]
theorem lw_r2 : ∀ q ∈ lw_privs_2, lw_okq q := List.forall_mem_cons.mpr ⟨lw_p16, List.forall_mem_cons.mpr ⟨lw_p17, List.forall_mem_cons.mpr ⟨lw_p18, List.forall_mem_cons.mpr ⟨lw_p19, List.forall_mem_cons.mpr ⟨lw_p20, List.forall_mem_cons.mpr ⟨lw_p21, List.forall_mem_cons.mpr ⟨lw_p22, List.forall_mem_cons.mpr ⟨lw_p23, List.forall_mem_cons.mpr ⟨lw_p24, List.forall_mem_cons.mpr ⟨lw_p25, List.forall_mem_cons.mpr ⟨lw_p26, List.forall_mem_cons.mpr ⟨lw_p27, List.forall_mem_cons.mpr ⟨lw_p28, List.forall_mem_cons.mpr ⟨lw_p29, List.forall_mem_cons.mpr ⟨lw_p30, List.forall_mem_cons.mpr ⟨lw_p31, fun _ h => absurd h List.not_mem_nil⟩⟩⟩⟩⟩⟩⟩⟩⟩⟩⟩⟩⟩⟩⟩⟩
theorem lw_p32 : lw_okq (⟨"OutlineEditorModel", "isReference", "(I)Z"⟩, 10) := ⟨⟨by decide +kernel, by decide +kernel⟩, List.mem_of_getElem? (i := 454) (by decide +kernel), List.mem_of_getElem? (i := 634) (by decide +kernel), List.mem_of_getElem? (i := 635) (by decide +kernel)⟩
theorem lw_p33 : lw_okq (⟨"OutlineEditorModel", "layReference", "(I)I"⟩, 10) := ⟨⟨by decide +kernel, by decide +kernel⟩, List.mem_of_getElem? (i := 454) (by decide +kernel), List.mem_of_getElem? (i := 642) (by decide +kernel), List.mem_of_getElem? (i := 643) (by decide +kernel)⟩
theorem lw_p34 : lw_okq (⟨"OutlineEditorModel", "isBroken", "(I)Z"⟩, 10) := ⟨⟨by decide +kernel, by decide +kernel⟩, List.mem_of_getElem? (i := 454) (by decide +kernel), List.mem_of_getElem? (i := 646) (by decide +kernel), List.mem_of_getElem? (i := 647) (by decide +kernel)⟩
theorem lw_p35 : lw_okq (⟨"OutlineEditorModel", "lay", "(I)V"⟩, 10) := ⟨⟨by decide +kernel, by decide +kernel⟩, List.mem_of_getElem? (i := 454) (by decide +kernel), List.mem_of_getElem? (i := 650) (by decide +kernel), List.mem_of_getElem? (i := 651) (by decide +kernel)⟩
theorem lw_p36 : lw_okq (⟨"OutlineEditorModel", "layNumber", "(I)I"⟩, 10) := ⟨⟨by decide +kernel, by decide +kernel⟩, List.mem_of_getElem? (i := 454) (by decide +kernel), List.mem_of_getElem? (i := 654) (by decide +kernel), List.mem_of_getElem? (i := 655) (by decide +kernel)⟩
theorem lw_p37 : lw_okq (⟨"OutlineEditorModel", "isNumbered", "(I)Z"⟩, 10) := ⟨⟨by decide +kernel, by decide +kernel⟩, List.mem_of_getElem? (i := 454) (by decide +kernel), List.mem_of_getElem? (i := 658) (by decide +kernel), List.mem_of_getElem? (i := 659) (by decide +kernel)⟩
theorem lw_p38 : lw_okq (⟨"OutlineEditorModel", "schemeAt", "(I)I"⟩, 10) := ⟨⟨by decide +kernel, by decide +kernel⟩, List.mem_of_getElem? (i := 454) (by decide +kernel), List.mem_of_getElem? (i := 662) (by decide +kernel), List.mem_of_getElem? (i := 663) (by decide +kernel)⟩
theorem lw_p39 : lw_okq (⟨"OutlineEditorModel", "ancestorAt", "(II)I"⟩, 10) := ⟨⟨by decide +kernel, by decide +kernel⟩, List.mem_of_getElem? (i := 454) (by decide +kernel), List.mem_of_getElem? (i := 666) (by decide +kernel), List.mem_of_getElem? (i := 667) (by decide +kernel)⟩
theorem lw_p40 : lw_okq (⟨"OutlineEditorModel", "valueOf", "(I)I"⟩, 10) := ⟨⟨by decide +kernel, by decide +kernel⟩, List.mem_of_getElem? (i := 454) (by decide +kernel), List.mem_of_getElem? (i := 670) (by decide +kernel), List.mem_of_getElem? (i := 671) (by decide +kernel)⟩
theorem lw_p41 : lw_okq (⟨"OutlineEditorModel", "layValue", "(II)V"⟩, 10) := ⟨⟨by decide +kernel, by decide +kernel⟩, List.mem_of_getElem? (i := 454) (by decide +kernel), List.mem_of_getElem? (i := 674) (by decide +kernel), List.mem_of_getElem? (i := 675) (by decide +kernel)⟩
theorem lw_p42 : lw_okq (⟨"OutlineEditorModel", "layDecimal", "(I)V"⟩, 10) := ⟨⟨by decide +kernel, by decide +kernel⟩, List.mem_of_getElem? (i := 454) (by decide +kernel), List.mem_of_getElem? (i := 678) (by decide +kernel), List.mem_of_getElem? (i := 679) (by decide +kernel)⟩
theorem lw_p43 : lw_okq (⟨"OutlineEditorModel", "layLetters", "(II)V"⟩, 10) := ⟨⟨by decide +kernel, by decide +kernel⟩, List.mem_of_getElem? (i := 454) (by decide +kernel), List.mem_of_getElem? (i := 682) (by decide +kernel), List.mem_of_getElem? (i := 683) (by decide +kernel)⟩
theorem lw_p44 : lw_okq (⟨"OutlineEditorModel", "layRoman", "(IIIII)V"⟩, 10) := ⟨⟨by decide +kernel, by decide +kernel⟩, List.mem_of_getElem? (i := 454) (by decide +kernel), List.mem_of_getElem? (i := 686) (by decide +kernel), List.mem_of_getElem? (i := 687) (by decide +kernel)⟩
theorem lw_p45 : lw_okq (⟨"OutlineEditorModel", "isShown", "(I)Z"⟩, 10) := ⟨⟨by decide +kernel, by decide +kernel⟩, List.mem_of_getElem? (i := 454) (by decide +kernel), List.mem_of_getElem? (i := 690) (by decide +kernel), List.mem_of_getElem? (i := 691) (by decide +kernel)⟩
theorem lw_p46 : lw_okq (⟨"OutlineEditorModel", "isOpen", "(I)Z"⟩, 10) := ⟨⟨by decide +kernel, by decide +kernel⟩, List.mem_of_getElem? (i := 454) (by decide +kernel), List.mem_of_getElem? (i := 694) (by decide +kernel), List.mem_of_getElem? (i := 695) (by decide +kernel)⟩
theorem lw_p47 : lw_okq (⟨"OutlineEditorModel", "brokenOnes", "()I"⟩, 10) := ⟨⟨by decide +kernel, by decide +kernel⟩, List.mem_of_getElem? (i := 454) (by decide +kernel), List.mem_of_getElem? (i := 706) (by decide +kernel), List.mem_of_getElem? (i := 707) (by decide +kernel)⟩
def lw_privs_3 : List (MethodName × Nat) := [(⟨"OutlineEditorModel", "isReference", "(I)Z"⟩, 10), (⟨"OutlineEditorModel", "layReference", "(I)I"⟩, 10), (⟨"OutlineEditorModel", "isBroken", "(I)Z"⟩, 10), (⟨"OutlineEditorModel", "lay", "(I)V"⟩, 10), (⟨"OutlineEditorModel", "layNumber", "(I)I"⟩, 10), (⟨"OutlineEditorModel", "isNumbered", "(I)Z"⟩, 10), (⟨"OutlineEditorModel", "schemeAt", "(I)I"⟩, 10), (⟨"OutlineEditorModel", "ancestorAt", "(II)I"⟩, 10), (⟨"OutlineEditorModel", "valueOf", "(I)I"⟩, 10), (⟨"OutlineEditorModel", "layValue", "(II)V"⟩, 10), (⟨"OutlineEditorModel", "layDecimal", "(I)V"⟩, 10), (⟨"OutlineEditorModel", "layLetters", "(II)V"⟩, 10), (⟨"OutlineEditorModel", "layRoman", "(IIIII)V"⟩, 10), (⟨"OutlineEditorModel", "isShown", "(I)Z"⟩, 10), (⟨"OutlineEditorModel", "isOpen", "(I)Z"⟩, 10), (⟨"OutlineEditorModel", "brokenOnes", "()I"⟩, 10)]
theorem lw_r3 : ∀ q ∈ lw_privs_3, lw_okq q := List.forall_mem_cons.mpr ⟨lw_p32, List.forall_mem_cons.mpr ⟨lw_p33, List.forall_mem_cons.mpr ⟨lw_p34, List.forall_mem_cons.mpr ⟨lw_p35, List.forall_mem_cons.mpr ⟨lw_p36, List.forall_mem_cons.mpr ⟨lw_p37, List.forall_mem_cons.mpr ⟨lw_p38, List.forall_mem_cons.mpr ⟨lw_p39, List.forall_mem_cons.mpr ⟨lw_p40, List.forall_mem_cons.mpr ⟨lw_p41, List.forall_mem_cons.mpr ⟨lw_p42, List.forall_mem_cons.mpr ⟨lw_p43, List.forall_mem_cons.mpr ⟨lw_p44, List.forall_mem_cons.mpr ⟨lw_p45, List.forall_mem_cons.mpr ⟨lw_p46, List.forall_mem_cons.mpr ⟨lw_p47, fun _ h => absurd h List.not_mem_nil⟩⟩⟩⟩⟩⟩⟩⟩⟩⟩⟩⟩⟩⟩⟩⟩
theorem lw_p48 : lw_okq (⟨"OutlineEditorModel", "headings", "(I)I"⟩, 10) := ⟨⟨by decide +kernel, by decide +kernel⟩, List.mem_of_getElem? (i := 454) (by decide +kernel), List.mem_of_getElem? (i := 710) (by decide +kernel), List.mem_of_getElem? (i := 711) (by decide +kernel)⟩
theorem lw_p49 : lw_okq (⟨"OutlineEditorModel", "parentHeading", "(I)I"⟩, 10) := ⟨⟨by decide +kernel, by decide +kernel⟩, List.mem_of_getElem? (i := 454) (by decide +kernel), List.mem_of_getElem? (i := 726) (by decide +kernel), List.mem_of_getElem? (i := 727) (by decide +kernel)⟩
theorem lw_p50 : lw_okq (⟨"OutlineEditorModel", "children", "(I)I"⟩, 10) := ⟨⟨by decide +kernel, by decide +kernel⟩, List.mem_of_getElem? (i := 454) (by decide +kernel), List.mem_of_getElem? (i := 730) (by decide +kernel), List.mem_of_getElem? (i := 731) (by decide +kernel)⟩
theorem lw_p51 : lw_okq (⟨"OutlineEditorModel", "childOf", "(II)I"⟩, 10) := ⟨⟨by decide +kernel, by decide +kernel⟩, List.mem_of_getElem? (i := 454) (by decide +kernel), List.mem_of_getElem? (i := 734) (by decide +kernel), List.mem_of_getElem? (i := 735) (by decide +kernel)⟩
theorem lw_p52 : lw_okq (⟨"OutlineEditorModel", "targeted", "(I)I"⟩, 10) := ⟨⟨by decide +kernel, by decide +kernel⟩, List.mem_of_getElem? (i := 454) (by decide +kernel), List.mem_of_getElem? (i := 738) (by decide +kernel), List.mem_of_getElem? (i := 739) (by decide +kernel)⟩
theorem lw_p53 : lw_okq (⟨"OutlineEditorModel", "isText", "(I)Z"⟩, 10) := ⟨⟨by decide +kernel, by decide +kernel⟩, List.mem_of_getElem? (i := 454) (by decide +kernel), List.mem_of_getElem? (i := 762) (by decide +kernel), List.mem_of_getElem? (i := 763) (by decide +kernel)⟩
def lw_privs_4 : List (MethodName × Nat) := [(⟨"OutlineEditorModel", "headings", "(I)I"⟩, 10), (⟨"OutlineEditorModel", "parentHeading", "(I)I"⟩, 10), (⟨"OutlineEditorModel", "children", "(I)I"⟩, 10), (⟨"OutlineEditorModel", "childOf", "(II)I"⟩, 10), (⟨"OutlineEditorModel", "targeted", "(I)I"⟩, 10), (⟨"OutlineEditorModel", "isText", "(I)Z"⟩, 10)]
theorem lw_r4 : ∀ q ∈ lw_privs_4, lw_okq q := List.forall_mem_cons.mpr ⟨lw_p48, List.forall_mem_cons.mpr ⟨lw_p49, List.forall_mem_cons.mpr ⟨lw_p50, List.forall_mem_cons.mpr ⟨lw_p51, List.forall_mem_cons.mpr ⟨lw_p52, List.forall_mem_cons.mpr ⟨lw_p53, fun _ h => absurd h List.not_mem_nil⟩⟩⟩⟩⟩⟩
def lw_privs : List (MethodName × Nat) := lw_privs_1 ++ (lw_privs_2 ++ (lw_privs_3 ++ (lw_privs_4)))
def lw_tbl : List Cond := k2_sels lw_privs ++ tables_1
theorem lw_privs_ok : ∀ q ∈ lw_privs, lw_okq q := by
  show ∀ q ∈ lw_privs_1 ++ (lw_privs_2 ++ (lw_privs_3 ++ (lw_privs_4))), lw_okq q
  exact List.forall_mem_append.mpr ⟨lw_r1, List.forall_mem_append.mpr ⟨lw_r2, List.forall_mem_append.mpr ⟨lw_r3, lw_r4⟩⟩⟩
end
section
def RX0 : String := "OutlineEditor$Line"
def TX0 : u_T := fun k => match k with
  | 0 => ("OutlineEditor$Line", "codes", "[I", true)
  | _ => ("OutlineEditor$Line", "length", "I", false)
def tyX0 : Nat → FieldType := fun k => match k with
  | 0 => .array .int
  | _ => .int
theorem nmX0 : ∀ a, a < 2 → ∀ b, b < 2 → a ≠ b → (TX0 a).2.1 ≠ (TX0 b).2.1 := by decide +kernel
theorem tyX0_ok : ∀ k, k < 2 → parseFieldDescriptor (TX0 k).2.2.1 = some (tyX0 k) := by decide +kernel
abbrev cX0_init : ByteArray := prog_2_method_1_code
def yX0_init : MethodName := ⟨RX0, "<init>", "()V"⟩
abbrev cX0_clear : ByteArray := prog_2_method_2_code
def yX0_clear : MethodName := ⟨RX0, "clear", "()V"⟩
abbrev cX0_append : ByteArray := prog_2_method_3_code
def yX0_append : MethodName := ⟨RX0, "append", "(I)V"⟩
abbrev cX0_codeAt : ByteArray := prog_2_method_4_code
def yX0_codeAt : MethodName := ⟨RX0, "codeAt", "(I)I"⟩
abbrev cX0_sameAs : ByteArray := prog_2_method_5_code
def yX0_sameAs : MethodName := ⟨RX0, "sameAs", "(LOutlineEditor$Line;)Z"⟩
abbrev cX0_appendValue : ByteArray := prog_2_method_6_code
def yX0_appendValue : MethodName := ⟨RX0, "appendValue", "(II)V"⟩
abbrev cX0_appendDecimal : ByteArray := prog_2_method_7_code
def yX0_appendDecimal : MethodName := ⟨RX0, "appendDecimal", "(I)V"⟩
abbrev cX0_appendLetters : ByteArray := prog_2_method_8_code
def yX0_appendLetters : MethodName := ⟨RX0, "appendLetters", "(II)V"⟩
abbrev cX0_appendRoman : ByteArray := prog_2_method_9_code
def yX0_appendRoman : MethodName := ⟨RX0, "appendRoman", "(II)V"⟩
def RX1 : String := "OutlineEditor$Outline"
def TX1 : u_T := fun k => match k with
  | 0 => ("OutlineEditor$Outline", "count", "I", false)
  | 1 => ("OutlineEditor$Outline", "order", "[I", true)
  | 2 => ("OutlineEditor$Outline", "levels", "[I", true)
  | 3 => ("OutlineEditor$Outline", "kinds", "[I", true)
  | 4 => ("OutlineEditor$Outline", "tags", "[I", true)
  | 5 => ("OutlineEditor$Outline", "folded", "[I", true)
  | 6 => ("OutlineEditor$Outline", "starts", "[I", true)
  | 7 => ("OutlineEditor$Outline", "rules", "[I", true)
  | 8 => ("OutlineEditor$Outline", "schemes", "[I", true)
  | 9 => ("OutlineEditor$Outline", "filter", "I", false)
  | 10 => ("OutlineEditor$Outline", "references", "I", false)
  | 11 => ("OutlineEditor$Outline", "sources", "[I", true)
  | _ => ("OutlineEditor$Outline", "targets", "[I", true)
def tyX1 : Nat → FieldType := fun k => match k with
  | 0 => .int
  | 1 => .array .int
  | 2 => .array .int
  | 3 => .array .int
  | 4 => .array .int
  | 5 => .array .int
  | 6 => .array .int
  | 7 => .array .int
  | 8 => .array .int
  | 9 => .int
  | 10 => .int
  | 11 => .array .int
  | _ => .array .int
theorem nmX1 : ∀ a, a < 13 → ∀ b, b < 13 → a ≠ b → (TX1 a).2.1 ≠ (TX1 b).2.1 := by decide +kernel
theorem tyX1_ok : ∀ k, k < 13 → parseFieldDescriptor (TX1 k).2.2.1 = some (tyX1 k) := by decide +kernel
abbrev cX1_init : ByteArray := prog_3_method_1_code
def yX1_init : MethodName := ⟨RX1, "<init>", "()V"⟩
abbrev cX1_copyFrom : ByteArray := prog_3_method_2_code
def yX1_copyFrom : MethodName := ⟨RX1, "copyFrom", "(LOutlineEditor$Outline;)V"⟩
abbrev cX1_copyRow : ByteArray := prog_3_method_3_code
def yX1_copyRow : MethodName := ⟨RX1, "copyRow", "([I[I)V"⟩
abbrev cX1_has : ByteArray := prog_3_method_4_code
def yX1_has : MethodName := ⟨RX1, "has", "(I)Z"⟩
abbrev cX1_placeOf : ByteArray := prog_3_method_5_code
def yX1_placeOf : MethodName := ⟨RX1, "placeOf", "(I)I"⟩
abbrev cX1_idAt : ByteArray := prog_3_method_6_code
def yX1_idAt : MethodName := ⟨RX1, "idAt", "(I)I"⟩
abbrev cX1_levelAt : ByteArray := prog_3_method_7_code
def yX1_levelAt : MethodName := ⟨RX1, "levelAt", "(I)I"⟩
abbrev cX1_kindAt : ByteArray := prog_3_method_8_code
def yX1_kindAt : MethodName := ⟨RX1, "kindAt", "(I)I"⟩
abbrev cX1_tagsAt : ByteArray := prog_3_method_9_code
def yX1_tagsAt : MethodName := ⟨RX1, "tagsAt", "(I)I"⟩
abbrev cX1_startAt : ByteArray := prog_3_method_10_code
def yX1_startAt : MethodName := ⟨RX1, "startAt", "(I)I"⟩
abbrev cX1_placeAbove : ByteArray := prog_3_method_11_code
def yX1_placeAbove : MethodName := ⟨RX1, "placeAbove", "(II)I"⟩
abbrev cX1_endOfPart : ByteArray := prog_3_method_12_code
def yX1_endOfPart : MethodName := ⟨RX1, "endOfPart", "(I)I"⟩
abbrev cX1_deepest : ByteArray := prog_3_method_13_code
def yX1_deepest : MethodName := ⟨RX1, "deepest", "(II)I"⟩
abbrev cX1_countChildren : ByteArray := prog_3_method_14_code
def yX1_countChildren : MethodName := ⟨RX1, "countChildren", "(I)I"⟩
abbrev cX1_childPlace : ByteArray := prog_3_method_15_code
def yX1_childPlace : MethodName := ⟨RX1, "childPlace", "(II)I"⟩
abbrev cX1_allows : ByteArray := prog_3_method_16_code
def yX1_allows : MethodName := ⟨RX1, "allows", "(II)Z"⟩
abbrev cX1_allowsAll : ByteArray := prog_3_method_17_code
def yX1_allowsAll : MethodName := ⟨RX1, "allowsAll", "(III)Z"⟩
abbrev cX1_countMisplaced : ByteArray := prog_3_method_18_code
def yX1_countMisplaced : MethodName := ⟨RX1, "countMisplaced", "()I"⟩
abbrev cX1_isOpen : ByteArray := prog_3_method_19_code
def yX1_isOpen : MethodName := ⟨RX1, "isOpen", "(I)Z"⟩
abbrev cX1_matches : ByteArray := prog_3_method_20_code
def yX1_matches : MethodName := ⟨RX1, "matches", "(I)Z"⟩
abbrev cX1_isShown : ByteArray := prog_3_method_21_code
def yX1_isShown : MethodName := ⟨RX1, "isShown", "(I)Z"⟩
abbrev cX1_countOpen : ByteArray := prog_3_method_22_code
def yX1_countOpen : MethodName := ⟨RX1, "countOpen", "()I"⟩
abbrev cX1_countShown : ByteArray := prog_3_method_23_code
def yX1_countShown : MethodName := ⟨RX1, "countShown", "()I"⟩
abbrev cX1_valueAt : ByteArray := prog_3_method_24_code
def yX1_valueAt : MethodName := ⟨RX1, "valueAt", "(I)I"⟩
abbrev cX1_isNumbered : ByteArray := prog_3_method_25_code
def yX1_isNumbered : MethodName := ⟨RX1, "isNumbered", "(I)Z"⟩
abbrev cX1_writeNumber : ByteArray := prog_3_method_26_code
def yX1_writeNumber : MethodName := ⟨RX1, "writeNumber", "(ILOutlineEditor$Line;)V"⟩
abbrev cX1_insert : ByteArray := prog_3_method_27_code
def yX1_insert : MethodName := ⟨RX1, "insert", "(III)I"⟩
abbrev cX1_lowestFree : ByteArray := prog_3_method_28_code
def yX1_lowestFree : MethodName := ⟨RX1, "lowestFree", "()I"⟩
abbrev cX1_cut : ByteArray := prog_3_method_29_code
def yX1_cut : MethodName := ⟨RX1, "cut", "(II)V"⟩
abbrev cX1_shiftLevels : ByteArray := prog_3_method_30_code
def yX1_shiftLevels : MethodName := ⟨RX1, "shiftLevels", "(III)V"⟩
abbrev cX1_move : ByteArray := prog_3_method_31_code
def yX1_move : MethodName := ⟨RX1, "move", "(III)I"⟩
abbrev cX1_swapBlocks : ByteArray := prog_3_method_32_code
def yX1_swapBlocks : MethodName := ⟨RX1, "swapBlocks", "(III)V"⟩
abbrev cX1_turnRound : ByteArray := prog_3_method_33_code
def yX1_turnRound : MethodName := ⟨RX1, "turnRound", "(II)V"⟩
abbrev cX1_link : ByteArray := prog_3_method_34_code
def yX1_link : MethodName := ⟨RX1, "link", "(II)I"⟩
abbrev cX1_unlink : ByteArray := prog_3_method_35_code
def yX1_unlink : MethodName := ⟨RX1, "unlink", "(I)V"⟩
abbrev cX1_dropReferences : ByteArray := prog_3_method_36_code
def yX1_dropReferences : MethodName := ⟨RX1, "dropReferences", "(I)V"⟩
abbrev cX1_referencesTo : ByteArray := prog_3_method_37_code
def yX1_referencesTo : MethodName := ⟨RX1, "referencesTo", "(I)I"⟩
def RX2 : String := "OutlineEditor"
def TX2 : u_T := fun k => match k with
  | 0 => ("OutlineEditor", "now", "LOutlineEditor$Outline;", true)
  | 1 => ("OutlineEditor", "history", "[LOutlineEditor$Outline;", true)
  | 2 => ("OutlineEditor", "changes", "I", false)
  | 3 => ("OutlineEditor", "images", "[LOutlineEditor$Outline;", true)
  | 4 => ("OutlineEditor", "kept", "[Z", true)
  | 5 => ("OutlineEditor", "text", "LOutlineEditor$Line;", true)
  | _ => ("OutlineEditor", "number", "LOutlineEditor$Line;", true)
def tyX2 : Nat → FieldType := fun k => match k with
  | 0 => .object "OutlineEditor$Outline"
  | 1 => .array (.object "OutlineEditor$Outline")
  | 2 => .int
  | 3 => .array (.object "OutlineEditor$Outline")
  | 4 => .array .boolean
  | 5 => .object "OutlineEditor$Line"
  | _ => .object "OutlineEditor$Line"
theorem nmX2 : ∀ a, a < 7 → ∀ b, b < 7 → a ≠ b → (TX2 a).2.1 ≠ (TX2 b).2.1 := by decide +kernel
theorem tyX2_ok : ∀ k, k < 7 → parseFieldDescriptor (TX2 k).2.2.1 = some (tyX2 k) := by decide +kernel
abbrev cX2_init : ByteArray := prog_1_method_1_code
def yX2_init : MethodName := ⟨RX2, "<init>", "()V"⟩
abbrev cX2_add : ByteArray := prog_1_method_2_code
def yX2_add : MethodName := ⟨RX2, "add", "(III)I"⟩
abbrev cX2_remove : ByteArray := prog_1_method_3_code
def yX2_remove : MethodName := ⟨RX2, "remove", "(II)I"⟩
abbrev cX2_promote : ByteArray := prog_1_method_4_code
def yX2_promote : MethodName := ⟨RX2, "promote", "(I)I"⟩
abbrev cX2_demote : ByteArray := prog_1_method_5_code
def yX2_demote : MethodName := ⟨RX2, "demote", "(I)I"⟩
abbrev cX2_drag : ByteArray := prog_1_method_6_code
def yX2_drag : MethodName := ⟨RX2, "drag", "(III)I"⟩
abbrev cX2_setKind : ByteArray := prog_1_method_7_code
def yX2_setKind : MethodName := ⟨RX2, "setKind", "(II)I"⟩
abbrev cX2_setTags : ByteArray := prog_1_method_8_code
def yX2_setTags : MethodName := ⟨RX2, "setTags", "(II)I"⟩
abbrev cX2_fold : ByteArray := prog_1_method_9_code
def yX2_fold : MethodName := ⟨RX2, "fold", "(II)I"⟩
abbrev cX2_setStart : ByteArray := prog_1_method_10_code
def yX2_setStart : MethodName := ⟨RX2, "setStart", "(II)I"⟩
abbrev cX2_setScheme : ByteArray := prog_1_method_11_code
def yX2_setScheme : MethodName := ⟨RX2, "setScheme", "(II)I"⟩
abbrev cX2_setRule : ByteArray := prog_1_method_12_code
def yX2_setRule : MethodName := ⟨RX2, "setRule", "(II)I"⟩
abbrev cX2_setFilter : ByteArray := prog_1_method_13_code
def yX2_setFilter : MethodName := ⟨RX2, "setFilter", "(I)I"⟩
abbrev cX2_undo : ByteArray := prog_1_method_14_code
def yX2_undo : MethodName := ⟨RX2, "undo", "()I"⟩
abbrev cX2_refer : ByteArray := prog_1_method_15_code
def yX2_refer : MethodName := ⟨RX2, "refer", "(II)I"⟩
abbrev cX2_forget : ByteArray := prog_1_method_16_code
def yX2_forget : MethodName := ⟨RX2, "forget", "(I)I"⟩
abbrev cX2_reference : ByteArray := prog_1_method_17_code
def yX2_reference : MethodName := ⟨RX2, "reference", "(II)I"⟩
abbrev cX2_referenceText : ByteArray := prog_1_method_18_code
def yX2_referenceText : MethodName := ⟨RX2, "referenceText", "(II)I"⟩
abbrev cX2_told : ByteArray := prog_1_method_19_code
def yX2_told : MethodName := ⟨RX2, "told", "(I)I"⟩
abbrev cX2_headingAt : ByteArray := prog_1_method_20_code
def yX2_headingAt : MethodName := ⟨RX2, "headingAt", "(I)I"⟩
abbrev cX2_shownAt : ByteArray := prog_1_method_21_code
def yX2_shownAt : MethodName := ⟨RX2, "shownAt", "(I)I"⟩
abbrev cX2_heading : ByteArray := prog_1_method_22_code
def yX2_heading : MethodName := ⟨RX2, "heading", "(II)I"⟩
abbrev cX2_child : ByteArray := prog_1_method_23_code
def yX2_child : MethodName := ⟨RX2, "child", "(II)I"⟩
abbrev cX2_numberText : ByteArray := prog_1_method_24_code
def yX2_numberText : MethodName := ⟨RX2, "numberText", "(II)I"⟩
abbrev cX2_write : ByteArray := prog_1_method_25_code
def yX2_write : MethodName := ⟨RX2, "write", "(I)I"⟩
abbrev cX2_wipe : ByteArray := prog_1_method_26_code
def yX2_wipe : MethodName := ⟨RX2, "wipe", "()I"⟩
abbrev cX2_find : ByteArray := prog_1_method_27_code
def yX2_find : MethodName := ⟨RX2, "find", "(I)I"⟩
abbrev cX2_keep : ByteArray := prog_1_method_28_code
def yX2_keep : MethodName := ⟨RX2, "keep", "(I)I"⟩
abbrev cX2_back : ByteArray := prog_1_method_29_code
def yX2_back : MethodName := ⟨RX2, "back", "(I)I"⟩
abbrev cX2_within : ByteArray := prog_1_method_30_code
def yX2_within : MethodName := ⟨RX2, "within", "(III)Z"⟩
abbrev cX2_asNumber : ByteArray := prog_1_method_31_code
def yX2_asNumber : MethodName := ⟨RX2, "asNumber", "(Z)I"⟩
abbrev cX2_remember : ByteArray := prog_1_method_32_code
def yX2_remember : MethodName := ⟨RX2, "remember", "()V"⟩
abbrev cX2_dropOldest : ByteArray := prog_1_method_33_code
def yX2_dropOldest : MethodName := ⟨RX2, "dropOldest", "()V"⟩
abbrev cX2_placeForDrag : ByteArray := prog_1_method_34_code
def yX2_placeForDrag : MethodName := ⟨RX2, "placeForDrag", "(II)I"⟩
abbrev cX2_numberLength : ByteArray := prog_1_method_35_code
def yX2_numberLength : MethodName := ⟨RX2, "numberLength", "(I)I"⟩
abbrev cX2_writeReference : ByteArray := prog_1_method_36_code
def yX2_writeReference : MethodName := ⟨RX2, "writeReference", "(I)V"⟩
def RX3 : String := "OutlineEditorModel"
def TX3 : u_T := fun k => match k with
  | 0 => ("OutlineEditorModel", "w", "[I", true)
  | 1 => ("OutlineEditorModel", "past", "[I", true)
  | 2 => ("OutlineEditorModel", "pastMany", "I", false)
  | 3 => ("OutlineEditorModel", "images", "[I", true)
  | 4 => ("OutlineEditorModel", "filled", "I", false)
  | 5 => ("OutlineEditorModel", "text", "[I", true)
  | 6 => ("OutlineEditorModel", "length", "I", false)
  | 7 => ("OutlineEditorModel", "part", "[I", true)
  | 8 => ("OutlineEditorModel", "number", "[I", true)
  | _ => ("OutlineEditorModel", "numberMany", "I", false)
def tyX3 : Nat → FieldType := fun k => match k with
  | 0 => .array .int
  | 1 => .array .int
  | 2 => .int
  | 3 => .array .int
  | 4 => .int
  | 5 => .array .int
  | 6 => .int
  | 7 => .array .int
  | 8 => .array .int
  | _ => .int
theorem nmX3 : ∀ a, a < 10 → ∀ b, b < 10 → a ≠ b → (TX3 a).2.1 ≠ (TX3 b).2.1 := by decide +kernel
theorem tyX3_ok : ∀ k, k < 10 → parseFieldDescriptor (TX3 k).2.2.1 = some (tyX3 k) := by decide +kernel
abbrev cX3_init : ByteArray := prog_5_method_1_code
def yX3_init : MethodName := ⟨RX3, "<init>", "()V"⟩
abbrev cX3_isIn : ByteArray := prog_5_method_3_code
def yX3_isIn : MethodName := ⟨RX3, "isIn", "(III)Z"⟩
abbrev cX3_remember : ByteArray := prog_5_method_4_code
def yX3_remember : MethodName := ⟨RX3, "remember", "()V"⟩
abbrev cX3_many : ByteArray := prog_5_method_5_code
def yX3_many : MethodName := ⟨RX3, "many", "()I"⟩
abbrev cX3_at : ByteArray := prog_5_method_6_code
def yX3_at : MethodName := ⟨RX3, "at", "(I)I"⟩
abbrev cX3_levelAt : ByteArray := prog_5_method_7_code
def yX3_levelAt : MethodName := ⟨RX3, "levelAt", "(I)I"⟩
abbrev cX3_kindAt : ByteArray := prog_5_method_8_code
def yX3_kindAt : MethodName := ⟨RX3, "kindAt", "(I)I"⟩
abbrev cX3_placeOf : ByteArray := prog_5_method_9_code
def yX3_placeOf : MethodName := ⟨RX3, "placeOf", "(I)I"⟩
abbrev cX3_isHeading : ByteArray := prog_5_method_10_code
def yX3_isHeading : MethodName := ⟨RX3, "isHeading", "(I)Z"⟩
abbrev cX3_endOf : ByteArray := prog_5_method_11_code
def yX3_endOf : MethodName := ⟨RX3, "endOf", "(I)I"⟩
abbrev cX3_parentOf : ByteArray := prog_5_method_12_code
def yX3_parentOf : MethodName := ⟨RX3, "parentOf", "(I)I"⟩
abbrev cX3_isAllowed : ByteArray := prog_5_method_13_code
def yX3_isAllowed : MethodName := ⟨RX3, "isAllowed", "(II)Z"⟩
abbrev cX3_mayHave : ByteArray := prog_5_method_14_code
def yX3_mayHave : MethodName := ⟨RX3, "mayHave", "(III)Z"⟩
abbrev cX3_parentFor : ByteArray := prog_5_method_15_code
def yX3_parentFor : MethodName := ⟨RX3, "parentFor", "(II)I"⟩
abbrev cX3_lowestFree : ByteArray := prog_5_method_16_code
def yX3_lowestFree : MethodName := ⟨RX3, "lowestFree", "()I"⟩
abbrev cX3_add : ByteArray := prog_5_method_17_code
def yX3_add : MethodName := ⟨RX3, "add", "(III)I"⟩
abbrev cX3_dropReference : ByteArray := prog_5_method_18_code
def yX3_dropReference : MethodName := ⟨RX3, "dropReference", "(I)V"⟩
abbrev cX3_forgetHeading : ByteArray := prog_5_method_19_code
def yX3_forgetHeading : MethodName := ⟨RX3, "forgetHeading", "(I)V"⟩
abbrev cX3_cut : ByteArray := prog_5_method_20_code
def yX3_cut : MethodName := ⟨RX3, "cut", "(II)V"⟩
abbrev cX3_shiftLevels : ByteArray := prog_5_method_21_code
def yX3_shiftLevels : MethodName := ⟨RX3, "shiftLevels", "(III)V"⟩
abbrev cX3_mayMoveUp : ByteArray := prog_5_method_22_code
def yX3_mayMoveUp : MethodName := ⟨RX3, "mayMoveUp", "(I)Z"⟩
abbrev cX3_remove : ByteArray := prog_5_method_23_code
def yX3_remove : MethodName := ⟨RX3, "remove", "(II)I"⟩
abbrev cX3_promote : ByteArray := prog_5_method_24_code
def yX3_promote : MethodName := ⟨RX3, "promote", "(I)I"⟩
abbrev cX3_isDeep : ByteArray := prog_5_method_25_code
def yX3_isDeep : MethodName := ⟨RX3, "isDeep", "(III)Z"⟩
abbrev cX3_demote : ByteArray := prog_5_method_26_code
def yX3_demote : MethodName := ⟨RX3, "demote", "(I)I"⟩
abbrev cX3_drag : ByteArray := prog_5_method_27_code
def yX3_drag : MethodName := ⟨RX3, "drag", "(III)I"⟩
abbrev cX3_setKind : ByteArray := prog_5_method_28_code
def yX3_setKind : MethodName := ⟨RX3, "setKind", "(II)I"⟩
abbrev cX3_setOne : ByteArray := prog_5_method_29_code
def yX3_setOne : MethodName := ⟨RX3, "setOne", "(II)I"⟩
abbrev cX3_setTags : ByteArray := prog_5_method_30_code
def yX3_setTags : MethodName := ⟨RX3, "setTags", "(II)I"⟩
abbrev cX3_fold : ByteArray := prog_5_method_31_code
def yX3_fold : MethodName := ⟨RX3, "fold", "(II)I"⟩
abbrev cX3_setStart : ByteArray := prog_5_method_32_code
def yX3_setStart : MethodName := ⟨RX3, "setStart", "(II)I"⟩
abbrev cX3_setScheme : ByteArray := prog_5_method_33_code
def yX3_setScheme : MethodName := ⟨RX3, "setScheme", "(II)I"⟩
abbrev cX3_setRule : ByteArray := prog_5_method_34_code
def yX3_setRule : MethodName := ⟨RX3, "setRule", "(II)I"⟩
abbrev cX3_setFilter : ByteArray := prog_5_method_35_code
def yX3_setFilter : MethodName := ⟨RX3, "setFilter", "(I)I"⟩
abbrev cX3_undo : ByteArray := prog_5_method_36_code
def yX3_undo : MethodName := ⟨RX3, "undo", "()I"⟩
abbrev cX3_valueOf : ByteArray := prog_5_method_37_code
def yX3_valueOf : MethodName := ⟨RX3, "valueOf", "(I)I"⟩
abbrev cX3_lay : ByteArray := prog_5_method_38_code
def yX3_lay : MethodName := ⟨RX3, "lay", "(I)V"⟩
abbrev cX3_layDecimal : ByteArray := prog_5_method_39_code
def yX3_layDecimal : MethodName := ⟨RX3, "layDecimal", "(I)V"⟩
abbrev cX3_layLetters : ByteArray := prog_5_method_40_code
def yX3_layLetters : MethodName := ⟨RX3, "layLetters", "(II)V"⟩
abbrev cX3_layRoman : ByteArray := prog_5_method_41_code
def yX3_layRoman : MethodName := ⟨RX3, "layRoman", "(IIIII)V"⟩
abbrev cX3_layValue : ByteArray := prog_5_method_42_code
def yX3_layValue : MethodName := ⟨RX3, "layValue", "(II)V"⟩
abbrev cX3_schemeAt : ByteArray := prog_5_method_43_code
def yX3_schemeAt : MethodName := ⟨RX3, "schemeAt", "(I)I"⟩
abbrev cX3_isNumbered : ByteArray := prog_5_method_44_code
def yX3_isNumbered : MethodName := ⟨RX3, "isNumbered", "(I)Z"⟩
abbrev cX3_ancestorAt : ByteArray := prog_5_method_45_code
def yX3_ancestorAt : MethodName := ⟨RX3, "ancestorAt", "(II)I"⟩
abbrev cX3_layNumber : ByteArray := prog_5_method_46_code
def yX3_layNumber : MethodName := ⟨RX3, "layNumber", "(I)I"⟩
abbrev cX3_isReference : ByteArray := prog_5_method_47_code
def yX3_isReference : MethodName := ⟨RX3, "isReference", "(I)Z"⟩
abbrev cX3_refer : ByteArray := prog_5_method_48_code
def yX3_refer : MethodName := ⟨RX3, "refer", "(II)I"⟩
abbrev cX3_forget : ByteArray := prog_5_method_49_code
def yX3_forget : MethodName := ⟨RX3, "forget", "(I)I"⟩
abbrev cX3_isBroken : ByteArray := prog_5_method_50_code
def yX3_isBroken : MethodName := ⟨RX3, "isBroken", "(I)Z"⟩
abbrev cX3_layReference : ByteArray := prog_5_method_51_code
def yX3_layReference : MethodName := ⟨RX3, "layReference", "(I)I"⟩
abbrev cX3_reference : ByteArray := prog_5_method_52_code
def yX3_reference : MethodName := ⟨RX3, "reference", "(II)I"⟩
abbrev cX3_referenceText : ByteArray := prog_5_method_53_code
def yX3_referenceText : MethodName := ⟨RX3, "referenceText", "(II)I"⟩
abbrev cX3_isOpen : ByteArray := prog_5_method_54_code
def yX3_isOpen : MethodName := ⟨RX3, "isOpen", "(I)Z"⟩
abbrev cX3_isShown : ByteArray := prog_5_method_55_code
def yX3_isShown : MethodName := ⟨RX3, "isShown", "(I)Z"⟩
abbrev cX3_brokenOnes : ByteArray := prog_5_method_56_code
def yX3_brokenOnes : MethodName := ⟨RX3, "brokenOnes", "()I"⟩
abbrev cX3_headings : ByteArray := prog_5_method_57_code
def yX3_headings : MethodName := ⟨RX3, "headings", "(I)I"⟩
abbrev cX3_told : ByteArray := prog_5_method_58_code
def yX3_told : MethodName := ⟨RX3, "told", "(I)I"⟩
abbrev cX3_headingAt : ByteArray := prog_5_method_59_code
def yX3_headingAt : MethodName := ⟨RX3, "headingAt", "(I)I"⟩
abbrev cX3_shownAt : ByteArray := prog_5_method_60_code
def yX3_shownAt : MethodName := ⟨RX3, "shownAt", "(I)I"⟩
abbrev cX3_childOf : ByteArray := prog_5_method_61_code
def yX3_childOf : MethodName := ⟨RX3, "childOf", "(II)I"⟩
abbrev cX3_children : ByteArray := prog_5_method_62_code
def yX3_children : MethodName := ⟨RX3, "children", "(I)I"⟩
abbrev cX3_targeted : ByteArray := prog_5_method_63_code
def yX3_targeted : MethodName := ⟨RX3, "targeted", "(I)I"⟩
abbrev cX3_parentHeading : ByteArray := prog_5_method_64_code
def yX3_parentHeading : MethodName := ⟨RX3, "parentHeading", "(I)I"⟩
abbrev cX3_heading : ByteArray := prog_5_method_65_code
def yX3_heading : MethodName := ⟨RX3, "heading", "(II)I"⟩
abbrev cX3_child : ByteArray := prog_5_method_66_code
def yX3_child : MethodName := ⟨RX3, "child", "(II)I"⟩
abbrev cX3_numberText : ByteArray := prog_5_method_67_code
def yX3_numberText : MethodName := ⟨RX3, "numberText", "(II)I"⟩
abbrev cX3_write : ByteArray := prog_5_method_68_code
def yX3_write : MethodName := ⟨RX3, "write", "(I)I"⟩
abbrev cX3_wipe : ByteArray := prog_5_method_69_code
def yX3_wipe : MethodName := ⟨RX3, "wipe", "()I"⟩
abbrev cX3_isText : ByteArray := prog_5_method_70_code
def yX3_isText : MethodName := ⟨RX3, "isText", "(I)Z"⟩
abbrev cX3_find : ByteArray := prog_5_method_71_code
def yX3_find : MethodName := ⟨RX3, "find", "(I)I"⟩
abbrev cX3_keep : ByteArray := prog_5_method_72_code
def yX3_keep : MethodName := ⟨RX3, "keep", "(I)I"⟩
abbrev cX3_back : ByteArray := prog_5_method_73_code
def yX3_back : MethodName := ⟨RX3, "back", "(I)I"⟩

def RL : String := "OutlineEditorLaw"
abbrev cL_law : ByteArray := code
def yL_law : MethodName := ⟨RL, "law", "([I)Z"⟩

abbrev vwCl : List vw_C := [(RX0, TX0, 2), (RX1, TX1, 13), (RX2, TX2, 7), (RX3, TX3, 10)]
theorem gm_in0 : ∀ w ∈ u_ws RX0 TX0 2, w ∈ lw_tbl := by
  intro w hw
  obtain ⟨k, hk, rfl⟩ := List.mem_map.mp hw
  have hk := List.mem_range.mp hk
  match k, hk with
  | 0, _ => exact List.mem_of_getElem? (i := 138) (by decide +kernel)
  | 1, _ => exact List.mem_of_getElem? (i := 140) (by decide +kernel)
  | k + 2, hk => exact absurd hk (by omega)
theorem gm_in1 : ∀ w ∈ u_ws RX1 TX1 13, w ∈ lw_tbl := by
  intro w hw
  obtain ⟨k, hk, rfl⟩ := List.mem_map.mp hw
  have hk := List.mem_range.mp hk
  match k, hk with
  | 0, _ => exact List.mem_of_getElem? (i := 99) (by decide +kernel)
  | 1, _ => exact List.mem_of_getElem? (i := 101) (by decide +kernel)
  | 2, _ => exact List.mem_of_getElem? (i := 103) (by decide +kernel)
  | 3, _ => exact List.mem_of_getElem? (i := 105) (by decide +kernel)
  | 4, _ => exact List.mem_of_getElem? (i := 107) (by decide +kernel)
  | 5, _ => exact List.mem_of_getElem? (i := 109) (by decide +kernel)
  | 6, _ => exact List.mem_of_getElem? (i := 111) (by decide +kernel)
  | 7, _ => exact List.mem_of_getElem? (i := 113) (by decide +kernel)
  | 8, _ => exact List.mem_of_getElem? (i := 115) (by decide +kernel)
  | 9, _ => exact List.mem_of_getElem? (i := 117) (by decide +kernel)
  | 10, _ => exact List.mem_of_getElem? (i := 119) (by decide +kernel)
  | 11, _ => exact List.mem_of_getElem? (i := 121) (by decide +kernel)
  | 12, _ => exact List.mem_of_getElem? (i := 123) (by decide +kernel)
  | k + 13, hk => exact absurd hk (by omega)
theorem gm_in2 : ∀ w ∈ u_ws RX2 TX2 7, w ∈ lw_tbl := by
  intro w hw
  obtain ⟨k, hk, rfl⟩ := List.mem_map.mp hw
  have hk := List.mem_range.mp hk
  match k, hk with
  | 0, _ => exact List.mem_of_getElem? (i := 151) (by decide +kernel)
  | 1, _ => exact List.mem_of_getElem? (i := 153) (by decide +kernel)
  | 2, _ => exact List.mem_of_getElem? (i := 155) (by decide +kernel)
  | 3, _ => exact List.mem_of_getElem? (i := 157) (by decide +kernel)
  | 4, _ => exact List.mem_of_getElem? (i := 159) (by decide +kernel)
  | 5, _ => exact List.mem_of_getElem? (i := 161) (by decide +kernel)
  | 6, _ => exact List.mem_of_getElem? (i := 163) (by decide +kernel)
  | k + 7, hk => exact absurd hk (by omega)
theorem gm_in3 : ∀ w ∈ u_ws RX3 TX3 10, w ∈ lw_tbl := by
  intro w hw
  obtain ⟨k, hk, rfl⟩ := List.mem_map.mp hw
  have hk := List.mem_range.mp hk
  match k, hk with
  | 0, _ => exact List.mem_of_getElem? (i := 523) (by decide +kernel)
  | 1, _ => exact List.mem_of_getElem? (i := 525) (by decide +kernel)
  | 2, _ => exact List.mem_of_getElem? (i := 527) (by decide +kernel)
  | 3, _ => exact List.mem_of_getElem? (i := 529) (by decide +kernel)
  | 4, _ => exact List.mem_of_getElem? (i := 531) (by decide +kernel)
  | 5, _ => exact List.mem_of_getElem? (i := 533) (by decide +kernel)
  | 6, _ => exact List.mem_of_getElem? (i := 535) (by decide +kernel)
  | 7, _ => exact List.mem_of_getElem? (i := 537) (by decide +kernel)
  | 8, _ => exact List.mem_of_getElem? (i := 539) (by decide +kernel)
  | 9, _ => exact List.mem_of_getElem? (i := 541) (by decide +kernel)
  | k + 10, hk => exact absurd hk (by omega)
end
section
def mt_cL : List ByteArray := [cX0_init, cX0_clear, cX0_append, cX0_codeAt, cX0_sameAs, cX0_appendValue, cX0_appendDecimal, cX0_appendLetters, cX0_appendRoman, cX1_init, cX1_copyFrom, cX1_copyRow, cX1_has, cX1_placeOf, cX1_idAt, cX1_levelAt, cX1_kindAt, cX1_tagsAt, cX1_startAt, cX1_placeAbove, cX1_endOfPart, cX1_deepest, cX1_countChildren, cX1_childPlace, cX1_allows, cX1_allowsAll, cX1_countMisplaced, cX1_isOpen, cX1_matches, cX1_isShown, cX1_countOpen, cX1_countShown, cX1_valueAt, cX1_isNumbered, cX1_writeNumber, cX1_insert, cX1_lowestFree, cX1_cut, cX1_shiftLevels, cX1_move, cX1_swapBlocks, cX1_turnRound, cX1_link, cX1_unlink, cX1_dropReferences, cX1_referencesTo, cX2_init, cX2_add, cX2_remove, cX2_promote, cX2_demote, cX2_drag, cX2_setKind, cX2_setTags, cX2_fold, cX2_setStart, cX2_setScheme, cX2_setRule, cX2_setFilter, cX2_undo, cX2_refer, cX2_forget, cX2_reference, cX2_referenceText, cX2_told, cX2_headingAt, cX2_shownAt, cX2_heading, cX2_child, cX2_numberText, cX2_write, cX2_wipe, cX2_find, cX2_keep, cX2_back, cX2_within, cX2_asNumber, cX2_remember, cX2_dropOldest, cX2_placeForDrag, cX2_numberLength, cX2_writeReference, cX3_init, cX3_isIn, cX3_remember, cX3_many, cX3_at, cX3_levelAt, cX3_kindAt, cX3_placeOf, cX3_isHeading, cX3_endOf, cX3_parentOf, cX3_isAllowed, cX3_mayHave, cX3_parentFor, cX3_lowestFree, cX3_add, cX3_dropReference, cX3_forgetHeading, cX3_cut, cX3_shiftLevels, cX3_mayMoveUp, cX3_remove, cX3_promote, cX3_isDeep, cX3_demote, cX3_drag, cX3_setKind, cX3_setOne, cX3_setTags, cX3_fold, cX3_setStart, cX3_setScheme, cX3_setRule, cX3_setFilter, cX3_undo, cX3_valueOf, cX3_lay, cX3_layDecimal, cX3_layLetters, cX3_layRoman, cX3_layValue, cX3_schemeAt, cX3_isNumbered, cX3_ancestorAt, cX3_layNumber, cX3_isReference, cX3_refer, cX3_forget, cX3_isBroken, cX3_layReference, cX3_reference, cX3_referenceText, cX3_isOpen, cX3_isShown, cX3_brokenOnes, cX3_headings, cX3_told, cX3_headingAt, cX3_shownAt, cX3_childOf, cX3_children, cX3_targeted, cX3_parentHeading, cX3_heading, cX3_child, cX3_numberText, cX3_write, cX3_wipe, cX3_isText, cX3_find, cX3_keep, cX3_back, cL_law]
def mt_c (k : Nat) : ByteArray := mt_cL.getD k ⟨#[]⟩
def mt_yL : List MethodName := [yX0_init, yX0_clear, yX0_append, yX0_codeAt, yX0_sameAs, yX0_appendValue, yX0_appendDecimal, yX0_appendLetters, yX0_appendRoman, yX1_init, yX1_copyFrom, yX1_copyRow, yX1_has, yX1_placeOf, yX1_idAt, yX1_levelAt, yX1_kindAt, yX1_tagsAt, yX1_startAt, yX1_placeAbove, yX1_endOfPart, yX1_deepest, yX1_countChildren, yX1_childPlace, yX1_allows, yX1_allowsAll, yX1_countMisplaced, yX1_isOpen, yX1_matches, yX1_isShown, yX1_countOpen, yX1_countShown, yX1_valueAt, yX1_isNumbered, yX1_writeNumber, yX1_insert, yX1_lowestFree, yX1_cut, yX1_shiftLevels, yX1_move, yX1_swapBlocks, yX1_turnRound, yX1_link, yX1_unlink, yX1_dropReferences, yX1_referencesTo, yX2_init, yX2_add, yX2_remove, yX2_promote, yX2_demote, yX2_drag, yX2_setKind, yX2_setTags, yX2_fold, yX2_setStart, yX2_setScheme, yX2_setRule, yX2_setFilter, yX2_undo, yX2_refer, yX2_forget, yX2_reference, yX2_referenceText, yX2_told, yX2_headingAt, yX2_shownAt, yX2_heading, yX2_child, yX2_numberText, yX2_write, yX2_wipe, yX2_find, yX2_keep, yX2_back, yX2_within, yX2_asNumber, yX2_remember, yX2_dropOldest, yX2_placeForDrag, yX2_numberLength, yX2_writeReference, yX3_init, yX3_isIn, yX3_remember, yX3_many, yX3_at, yX3_levelAt, yX3_kindAt, yX3_placeOf, yX3_isHeading, yX3_endOf, yX3_parentOf, yX3_isAllowed, yX3_mayHave, yX3_parentFor, yX3_lowestFree, yX3_add, yX3_dropReference, yX3_forgetHeading, yX3_cut, yX3_shiftLevels, yX3_mayMoveUp, yX3_remove, yX3_promote, yX3_isDeep, yX3_demote, yX3_drag, yX3_setKind, yX3_setOne, yX3_setTags, yX3_fold, yX3_setStart, yX3_setScheme, yX3_setRule, yX3_setFilter, yX3_undo, yX3_valueOf, yX3_lay, yX3_layDecimal, yX3_layLetters, yX3_layRoman, yX3_layValue, yX3_schemeAt, yX3_isNumbered, yX3_ancestorAt, yX3_layNumber, yX3_isReference, yX3_refer, yX3_forget, yX3_isBroken, yX3_layReference, yX3_reference, yX3_referenceText, yX3_isOpen, yX3_isShown, yX3_brokenOnes, yX3_headings, yX3_told, yX3_headingAt, yX3_shownAt, yX3_childOf, yX3_children, yX3_targeted, yX3_parentHeading, yX3_heading, yX3_child, yX3_numberText, yX3_write, yX3_wipe, yX3_isText, yX3_find, yX3_keep, yX3_back, yL_law]
def mt_y (k : Nat) : MethodName := mt_yL.getD k yL_law
def mt_kL : List Nat := [0, 0, 0, 0, 0, 0, 0, 0, 0, 1, 1, 1, 1, 1, 1, 1, 1, 1, 1, 1, 1, 1, 1, 1, 1, 1, 1, 1, 1, 1, 1, 1, 1, 1, 1, 1, 1, 1, 1, 1, 1, 1, 1, 1, 1, 1, 2, 2, 2, 2, 2, 2, 2, 2, 2, 2, 2, 2, 2, 2, 2, 2, 2, 2, 2, 2, 2, 2, 2, 2, 2, 2, 2, 2, 2, 2, 2, 2, 2, 2, 2, 2, 3, 3, 3, 3, 3, 3, 3, 3, 3, 3, 3, 3, 3, 3, 3, 3, 3, 3, 3, 3, 3, 3, 3, 3, 3, 3, 3, 3, 3, 3, 3, 3, 3, 3, 3, 3, 3, 3, 3, 3, 3, 3, 3, 3, 3, 3, 3, 3, 3, 3, 3, 3, 3, 3, 3, 3, 3, 3, 3, 3, 3, 3, 3, 3, 3, 3, 3, 3, 3, 3, 3, 3, 4]
def mt_k (k : Nat) : Nat := mt_kL.getD k 0
def mt_nL : List Nat := [1, 1, 2, 2, 3, 3, 2, 4, 5, 2, 2, 2, 2, 3, 2, 2, 2, 2, 2, 4, 4, 5, 5, 6, 3, 5, 4, 4, 2, 4, 3, 3, 5, 2, 6, 6, 2, 4, 5, 4, 4, 6, 4, 3, 3, 4, 2, 5, 7, 7, 6, 11, 7, 4, 4, 4, 4, 4, 3, 1, 3, 2, 7, 3, 2, 2, 4, 4, 4, 4, 2, 2, 4, 2, 2, 3, 1, 1, 3, 3, 2, 3, 2, 3, 2, 1, 2, 2, 2, 3, 2, 3, 3, 4, 5, 4, 2, 7, 3, 3, 4, 5, 4, 5, 5, 5, 5, 13, 5, 4, 3, 3, 3, 3, 3, 2, 2, 6, 2, 2, 4, 7, 4, 2, 2, 4, 4, 2, 4, 2, 2, 2, 5, 3, 3, 4, 3, 6, 2, 2, 4, 6, 3, 4, 3, 4, 3, 3, 2, 2, 4, 4, 3, 3, 4]
def mt_n (k : Nat) : Nat := mt_nL.getD k 0
def mt_tL : List Nat := [0, 0, 0, 1, 2, 0, 0, 0, 0, 0, 0, 0, 2, 1, 1, 1, 1, 1, 1, 1, 1, 1, 1, 1, 2, 2, 1, 2, 2, 2, 1, 1, 1, 2, 0, 1, 1, 0, 0, 1, 0, 0, 1, 0, 0, 1, 0, 1, 1, 1, 1, 1, 1, 1, 1, 1, 1, 1, 1, 1, 1, 1, 1, 1, 1, 1, 1, 1, 1, 1, 1, 1, 1, 1, 1, 2, 1, 0, 0, 1, 1, 0, 0, 2, 0, 1, 1, 1, 1, 1, 2, 1, 1, 2, 2, 1, 1, 1, 0, 0, 0, 0, 2, 1, 1, 2, 1, 1, 1, 1, 1, 1, 1, 1, 1, 1, 1, 1, 0, 0, 0, 0, 0, 1, 2, 1, 1, 2, 1, 1, 2, 1, 1, 1, 2, 2, 1, 1, 1, 1, 1, 1, 1, 1, 1, 1, 1, 1, 1, 1, 2, 1, 1, 1, 2]
def mt_t (k : Nat) : Nat := mt_tL.getD k 0
def mt_aL : List Nat := [1, 1, 2, 2, 2, 3, 2, 3, 3, 1, 2, 2, 2, 2, 2, 2, 2, 2, 2, 3, 2, 3, 2, 3, 3, 4, 1, 2, 2, 2, 1, 1, 2, 2, 3, 4, 1, 3, 4, 4, 4, 3, 3, 2, 2, 2, 1, 4, 3, 2, 2, 4, 3, 3, 3, 3, 3, 3, 2, 1, 3, 2, 3, 3, 2, 2, 2, 3, 3, 3, 2, 1, 2, 2, 2, 3, 1, 1, 1, 3, 2, 2, 1, 3, 1, 1, 2, 2, 2, 2, 2, 2, 2, 3, 4, 3, 1, 4, 2, 2, 3, 4, 2, 3, 2, 4, 2, 4, 3, 3, 3, 3, 3, 3, 3, 2, 1, 2, 2, 2, 3, 6, 3, 2, 2, 3, 2, 2, 3, 2, 2, 2, 3, 3, 2, 2, 1, 2, 2, 2, 2, 3, 2, 2, 2, 3, 3, 3, 2, 1, 2, 2, 2, 2, 1]
def mt_a (k : Nat) : Nat := mt_aL.getD k 0
def mt_rL : List Nat := [1, 0, 0, 0, 0, 2, 1, 1, 1, 1, 2, 1, 0, 1, 0, 0, 0, 0, 0, 1, 1, 1, 1, 1, 0, 1, 2, 1, 1, 2, 2, 3, 1, 1, 3, 1, 0, 2, 0, 2, 1, 0, 0, 0, 1, 0, 2, 4, 4, 4, 4, 4, 4, 4, 4, 4, 4, 4, 4, 3, 4, 4, 5, 5, 4, 1, 3, 5, 2, 4, 1, 1, 4, 3, 4, 0, 0, 3, 0, 2, 4, 4, 1, 0, 0, 0, 0, 1, 1, 1, 2, 2, 2, 2, 2, 2, 3, 4, 0, 1, 2, 1, 3, 4, 3, 2, 3, 3, 3, 1, 3, 3, 3, 2, 2, 2, 0, 2, 0, 1, 1, 1, 2, 2, 3, 3, 4, 1, 3, 2, 0, 5, 6, 6, 3, 4, 1, 5, 6, 1, 5, 2, 3, 0, 3, 5, 3, 5, 1, 0, 5, 6, 1, 1, 7]
def mt_r (k : Nat) : Nat := mt_rL.getD k 0
def mt_sL : List Nat := [2, 0, 0, 0, 0, 0, 0, 0, 0, 2, 0, 1, 0, 0, 0, 0, 0, 0, 0, 0, 0, 0, 0, 0, 0, 0, 0, 0, 0, 0, 0, 0, 0, 0, 0, 0, 0, 0, 0, 0, 0, 0, 0, 0, 0, 0, 2, 0, 0, 0, 0, 0, 0, 0, 0, 0, 0, 0, 0, 0, 0, 0, 0, 0, 0, 0, 0, 0, 0, 0, 0, 0, 0, 0, 0, 1, 1, 0, 0, 0, 0, 0, 2, 1, 0, 0, 0, 0, 0, 0, 0, 0, 0, 0, 0, 0, 0, 0, 0, 0, 0, 0, 0, 0, 0, 0, 0, 0, 0, 0, 0, 0, 0, 0, 0, 0, 0, 0, 0, 0, 0, 0, 0, 0, 0, 0, 0, 0, 0, 0, 0, 0, 0, 0, 0, 0, 0, 0, 0, 0, 0, 0, 0, 0, 0, 0, 0, 0, 0, 0, 0, 0, 0, 0, 1]
/-- 0 an instance method, 1 static, 2 a constructor -/
def mt_s (k : Nat) : Nat := mt_sL.getD k 0
def mt_ret (k : Nat) : Option FieldType := match mt_t k with
  | 0 => none
  | 1 => some .int
  | _ => some .boolean
def mt_R (c : Nat) : String := match c with
  | 0 => RX0
  | 1 => RX1
  | 2 => RX2
  | 3 => RX3
  | _ => RL
def mt_T (c : Nat) : u_T := match c with
  | 0 => TX0
  | 1 => TX1
  | 2 => TX2
  | _ => TX3
def mt_ty (c : Nat) : Nat → FieldType := match c with
  | 0 => tyX0
  | 1 => tyX1
  | 2 => tyX2
  | _ => tyX3
def mt_N (c : Nat) : Nat := match c with
  | 0 => 2
  | 1 => 13
  | 2 => 7
  | _ => 10
def rs_ML : List ((Nat × Nat) × Nat) := [((0, 3), 1000), ((0, 19), 7), ((0, 23), 8), ((0, 26), 6), ((0, 30), 2), ((1, 3), 1000), ((1, 46), 11), ((1, 56), 1002), ((1, 62), 1003), ((1, 68), 12), ((1, 72), 15), ((1, 76), 1001), ((1, 79), 16), ((1, 82), 24), ((1, 86), 19), ((1, 89), 17), ((1, 92), 27), ((1, 95), 20), ((1, 98), 28), ((1, 101), 29), ((1, 104), 18), ((1, 107), 1), ((1, 112), 33), ((1, 118), 2), ((1, 122), 32), ((1, 125), 5), ((1, 129), 36), ((1, 133), 44), ((1, 136), 40), ((1, 140), 41), ((1, 143), 43), ((2, 1), 1000), ((2, 9), 9), ((2, 29), 0), ((2, 41), 75), ((2, 45), 15), ((2, 49), 19), ((2, 53), 16), ((2, 56), 24), ((2, 60), 25), ((2, 63), 77), ((2, 66), 35), ((2, 70), 13), ((2, 73), 20), ((2, 76), 37), ((2, 80), 38), ((2, 84), 21), ((2, 87), 79), ((2, 90), 39), ((2, 97), 12), ((2, 122), 10), ((2, 129), 42), ((2, 132), 43), ((2, 142), 81), ((2, 148), 29), ((2, 151), 76), ((2, 155), 3), ((2, 158), 45), ((2, 161), 30), ((2, 165), 31), ((2, 168), 26), ((2, 171), 14), ((2, 174), 32), ((2, 177), 22), ((2, 180), 27), ((2, 183), 80), ((2, 186), 23), ((2, 189), 34), ((2, 193), 2), ((2, 196), 1), ((2, 199), 4), ((2, 203), 78), ((3, 1), 1000), ((3, 32), 86), ((3, 36), 85), ((3, 40), 89), ((3, 43), 87), ((3, 46), 88), ((3, 49), 90), ((3, 53), 83), ((3, 57), 95), ((3, 61), 93), ((3, 65), 94), ((3, 68), 84), ((3, 71), 96), ((3, 74), 98), ((3, 78), 99), ((3, 81), 92), ((3, 84), 91), ((3, 87), 102), ((3, 90), 101), ((3, 94), 100), ((3, 98), 105), ((3, 101), 109), ((3, 107), 118), ((3, 110), 119), ((3, 113), 120), ((3, 116), 121), ((3, 120), 123), ((3, 123), 124), ((3, 126), 125), ((3, 129), 117), ((3, 132), 122), ((3, 135), 127), ((3, 138), 130), ((3, 141), 126), ((3, 144), 131), ((3, 147), 135), ((3, 150), 134), ((3, 153), 136), ((3, 156), 137), ((3, 162), 141), ((3, 165), 144), ((3, 168), 142), ((3, 171), 143), ((3, 174), 150), ((4, 9), 46), ((4, 12), 82), ((4, 13), 47), ((4, 17), 97), ((4, 18), 48), ((4, 22), 103), ((4, 23), 49), ((4, 27), 104), ((4, 28), 50), ((4, 31), 106), ((4, 32), 51), ((4, 35), 107), ((4, 36), 52), ((4, 39), 108), ((4, 40), 53), ((4, 43), 110), ((4, 44), 54), ((4, 47), 111), ((4, 48), 55), ((4, 51), 112), ((4, 52), 56), ((4, 55), 113), ((4, 56), 57), ((4, 59), 114), ((4, 60), 58), ((4, 63), 115), ((4, 64), 59), ((4, 68), 116), ((4, 69), 60), ((4, 72), 128), ((4, 73), 61), ((4, 76), 129), ((4, 77), 62), ((4, 80), 132), ((4, 81), 63), ((4, 84), 133), ((4, 85), 64), ((4, 88), 138), ((4, 89), 65), ((4, 92), 139), ((4, 93), 66), ((4, 96), 140), ((4, 97), 67), ((4, 100), 145), ((4, 101), 68), ((4, 104), 146), ((4, 105), 69), ((4, 108), 147), ((4, 109), 70), ((4, 112), 148), ((4, 113), 71), ((4, 116), 149), ((4, 117), 72), ((4, 120), 151), ((4, 121), 73), ((4, 124), 152), ((4, 125), 74), ((4, 128), 153)]
def rs_M (c i : Nat) : Option Nat := rs_ML.lookup (c, i)
def rs_FL : List ((Nat × Nat) × Nat × Nat) := [((0, 9), 0, 0), ((0, 15), 0, 1), ((1, 9), 1, 1), ((1, 15), 1, 2), ((1, 18), 1, 3), ((1, 21), 1, 4), ((1, 24), 1, 5), ((1, 27), 1, 6), ((1, 30), 1, 7), ((1, 33), 1, 8), ((1, 36), 1, 11), ((1, 39), 1, 12), ((1, 42), 1, 0), ((1, 50), 1, 9), ((1, 53), 1, 10), ((1, 115), 0, 1), ((2, 10), 2, 0), ((2, 16), 2, 1), ((2, 20), 2, 3), ((2, 23), 2, 4), ((2, 30), 2, 5), ((2, 34), 2, 6), ((2, 37), 1, 0), ((2, 93), 1, 3), ((2, 101), 1, 4), ((2, 104), 1, 5), ((2, 107), 1, 6), ((2, 110), 1, 8), ((2, 113), 1, 7), ((2, 116), 1, 9), ((2, 119), 2, 2), ((2, 126), 1, 10), ((2, 136), 1, 11), ((2, 139), 1, 12), ((2, 145), 0, 1), ((3, 7), 3, 0), ((3, 13), 3, 1), ((3, 16), 3, 3), ((3, 19), 3, 5), ((3, 22), 3, 7), ((3, 25), 3, 8), ((3, 28), 3, 2), ((3, 104), 3, 9), ((3, 159), 3, 6), ((3, 177), 3, 4)]
def rs_F (c i : Nat) : Option (Nat × Nat) := rs_FL.lookup (c, i)
def rs_KL : List ((Nat × Nat) × Nat) := [((2, 7), 1), ((2, 27), 0), ((4, 7), 2), ((4, 10), 3)]
def rs_K (c i : Nat) : Option Nat := rs_KL.lookup (c, i)
def rs_SL : List ((Nat × Nat) × Nat) := [((0, 33), 1), ((0, 36), 2), ((0, 40), 3)]
def rs_S (c i : Nat) : Option Nat := rs_SL.lookup (c, i)
theorem rs_mem {α β : Type} [BEq α] [LawfulBEq α] {a : α} {b : β} : ∀ {l : List (α × β)}, l.lookup a = some b → (a, b) ∈ l
  | [], h => by simp at h
  | (x, y) :: l, h => by
    simp only [List.lookup] at h
    split at h
    · rename_i e
      cases h
      rw [eq_of_beq e]
      exact List.mem_cons_self
    · exact List.mem_cons_of_mem _ (rs_mem h)
def rs_fm (j : Nat) : Prop := Cond.code (mt_y j) (mt_c j) (mt_n j) (mt_ret j) ∈ lw_tbl ∧ Cond.initialized (mt_R (mt_k j)) ∈ lw_tbl ∧ (mt_y j).cls = mt_R (mt_k j) ∧ ((mt_s j = 0 ∨ mt_s j = 2) → Cond.instanceMethod (mt_y j) ∈ lw_tbl) ∧ (mt_s j = 0 → Cond.selects (mt_R (mt_k j)) (mt_y j) (mt_y j) ∈ lw_tbl) ∧ (mt_s j = 1 → Cond.static (mt_y j) ∈ lw_tbl) ∧ (mt_s j = 2 → (mt_y j).name = "<init>" ∧ mt_t j = 0) ∧ (parseMethodDescriptor (mt_y j).desc).map (fun d => d.parameters.length) = some (if mt_s j = 1 then mt_a j else mt_a j - 1) ∧ mt_n j ≤ 15 ∧ mt_a j ≤ mt_n j ∧ (mt_s j = 1 ∨ 1 ≤ mt_a j)
theorem rs_fm0 : rs_fm 0 := ⟨List.mem_of_getElem? (i := 132) (by decide +kernel), List.mem_of_getElem? (i := 57) (by decide +kernel), rfl, (fun _ => List.mem_of_getElem? (i := 131) (by decide +kernel)), (fun h => absurd h (by decide)), (fun h => absurd h (by decide)), (fun _ => ⟨by decide +kernel, rfl⟩), by decide +kernel, by decide, by decide, by decide⟩
theorem rs_fm1 : rs_fm 1 := ⟨List.mem_of_getElem? (i := 349) (by decide +kernel), List.mem_of_getElem? (i := 57) (by decide +kernel), rfl, (fun _ => List.mem_of_getElem? (i := 347) (by decide +kernel)), (fun _ => List.mem_of_getElem? (i := 348) (by decide +kernel)), (fun h => absurd h (by decide)), (fun h => absurd h (by decide)), by decide +kernel, by decide, by decide, by decide⟩
theorem rs_fm2 : rs_fm 2 := ⟨List.mem_of_getElem? (i := 353) (by decide +kernel), List.mem_of_getElem? (i := 57) (by decide +kernel), rfl, (fun _ => List.mem_of_getElem? (i := 351) (by decide +kernel)), (fun _ => List.mem_of_getElem? (i := 352) (by decide +kernel)), (fun h => absurd h (by decide)), (fun h => absurd h (by decide)), by decide +kernel, by decide, by decide, by decide⟩
theorem rs_fm3 : rs_fm 3 := ⟨List.mem_of_getElem? (i := 423) (by decide +kernel), List.mem_of_getElem? (i := 57) (by decide +kernel), rfl, (fun _ => List.mem_of_getElem? (i := 421) (by decide +kernel)), (fun _ => List.mem_of_getElem? (i := 422) (by decide +kernel)), (fun h => absurd h (by decide)), (fun h => absurd h (by decide)), by decide +kernel, by decide, by decide, by decide⟩
theorem rs_fm4 : rs_fm 4 := ⟨List.mem_of_getElem? (i := 498) (by decide +kernel), List.mem_of_getElem? (i := 57) (by decide +kernel), rfl, (fun _ => List.mem_of_getElem? (i := 496) (by decide +kernel)), (fun _ => List.mem_of_getElem? (i := 497) (by decide +kernel)), (fun h => absurd h (by decide)), (fun h => absurd h (by decide)), by decide +kernel, by decide, by decide, by decide⟩
theorem rs_fm5 : rs_fm 5 := ⟨List.mem_of_getElem? (i := 376) (by decide +kernel), List.mem_of_getElem? (i := 57) (by decide +kernel), rfl, (fun _ => List.mem_of_getElem? (i := 374) (by decide +kernel)), (fun _ => List.mem_of_getElem? (i := 375) (by decide +kernel)), (fun h => absurd h (by decide)), (fun h => absurd h (by decide)), by decide +kernel, by decide, by decide, by decide⟩
theorem rs_fm6 : rs_fm 6 := ⟨List.mem_of_getElem? (i := 395) (by decide +kernel), List.mem_of_getElem? (i := 57) (by decide +kernel), rfl, (fun _ => List.mem_of_getElem? (i := 394) (by decide +kernel)), (fun _ => List.mem_of_getElem? (i := 10) (by decide +kernel)), (fun h => absurd h (by decide)), (fun h => absurd h (by decide)), by decide +kernel, by decide, by decide, by decide⟩
theorem rs_fm7 : rs_fm 7 := ⟨List.mem_of_getElem? (i := 380) (by decide +kernel), List.mem_of_getElem? (i := 57) (by decide +kernel), rfl, (fun _ => List.mem_of_getElem? (i := 379) (by decide +kernel)), (fun _ => List.mem_of_getElem? (i := 8) (by decide +kernel)), (fun h => absurd h (by decide)), (fun h => absurd h (by decide)), by decide +kernel, by decide, by decide, by decide⟩
theorem rs_fm8 : rs_fm 8 := ⟨List.mem_of_getElem? (i := 385) (by decide +kernel), List.mem_of_getElem? (i := 57) (by decide +kernel), rfl, (fun _ => List.mem_of_getElem? (i := 384) (by decide +kernel)), (fun _ => List.mem_of_getElem? (i := 9) (by decide +kernel)), (fun h => absurd h (by decide)), (fun h => absurd h (by decide)), by decide +kernel, by decide, by decide, by decide⟩
theorem rs_fm9 : rs_fm 9 := ⟨List.mem_of_getElem? (i := 73) (by decide +kernel), List.mem_of_getElem? (i := 56) (by decide +kernel), rfl, (fun _ => List.mem_of_getElem? (i := 72) (by decide +kernel)), (fun h => absurd h (by decide)), (fun h => absurd h (by decide)), (fun _ => ⟨by decide +kernel, rfl⟩), by decide +kernel, by decide, by decide, by decide⟩
theorem rs_fm10 : rs_fm 10 := ⟨List.mem_of_getElem? (i := 207) (by decide +kernel), List.mem_of_getElem? (i := 56) (by decide +kernel), rfl, (fun _ => List.mem_of_getElem? (i := 205) (by decide +kernel)), (fun _ => List.mem_of_getElem? (i := 206) (by decide +kernel)), (fun h => absurd h (by decide)), (fun h => absurd h (by decide)), by decide +kernel, by decide, by decide, by decide⟩
theorem rs_fm11 : rs_fm 11 := ⟨List.mem_of_getElem? (i := 210) (by decide +kernel), List.mem_of_getElem? (i := 56) (by decide +kernel), rfl, (fun h => absurd h (by decide)), (fun h => absurd h (by decide)), (fun _ => List.mem_of_getElem? (i := 209) (by decide +kernel)), (fun h => absurd h (by decide)), by decide +kernel, by decide, by decide, by decide⟩
theorem rs_fm12 : rs_fm 12 := ⟨List.mem_of_getElem? (i := 236) (by decide +kernel), List.mem_of_getElem? (i := 56) (by decide +kernel), rfl, (fun _ => List.mem_of_getElem? (i := 234) (by decide +kernel)), (fun _ => List.mem_of_getElem? (i := 235) (by decide +kernel)), (fun h => absurd h (by decide)), (fun h => absurd h (by decide)), by decide +kernel, by decide, by decide, by decide⟩
theorem rs_fm13 : rs_fm 13 := ⟨List.mem_of_getElem? (i := 232) (by decide +kernel), List.mem_of_getElem? (i := 56) (by decide +kernel), rfl, (fun _ => List.mem_of_getElem? (i := 230) (by decide +kernel)), (fun _ => List.mem_of_getElem? (i := 231) (by decide +kernel)), (fun h => absurd h (by decide)), (fun h => absurd h (by decide)), by decide +kernel, by decide, by decide, by decide⟩
theorem rs_fm14 : rs_fm 14 := ⟨List.mem_of_getElem? (i := 452) (by decide +kernel), List.mem_of_getElem? (i := 56) (by decide +kernel), rfl, (fun _ => List.mem_of_getElem? (i := 450) (by decide +kernel)), (fun _ => List.mem_of_getElem? (i := 451) (by decide +kernel)), (fun h => absurd h (by decide)), (fun h => absurd h (by decide)), by decide +kernel, by decide, by decide, by decide⟩
theorem rs_fm15 : rs_fm 15 := ⟨List.mem_of_getElem? (i := 176) (by decide +kernel), List.mem_of_getElem? (i := 56) (by decide +kernel), rfl, (fun _ => List.mem_of_getElem? (i := 174) (by decide +kernel)), (fun _ => List.mem_of_getElem? (i := 175) (by decide +kernel)), (fun h => absurd h (by decide)), (fun h => absurd h (by decide)), by decide +kernel, by decide, by decide, by decide⟩
theorem rs_fm16 : rs_fm 16 := ⟨List.mem_of_getElem? (i := 185) (by decide +kernel), List.mem_of_getElem? (i := 56) (by decide +kernel), rfl, (fun _ => List.mem_of_getElem? (i := 183) (by decide +kernel)), (fun _ => List.mem_of_getElem? (i := 184) (by decide +kernel)), (fun h => absurd h (by decide)), (fun h => absurd h (by decide)), by decide +kernel, by decide, by decide, by decide⟩
theorem rs_fm17 : rs_fm 17 := ⟨List.mem_of_getElem? (i := 412) (by decide +kernel), List.mem_of_getElem? (i := 56) (by decide +kernel), rfl, (fun _ => List.mem_of_getElem? (i := 410) (by decide +kernel)), (fun _ => List.mem_of_getElem? (i := 411) (by decide +kernel)), (fun h => absurd h (by decide)), (fun h => absurd h (by decide)), by decide +kernel, by decide, by decide, by decide⟩
theorem rs_fm18 : rs_fm 18 := ⟨List.mem_of_getElem? (i := 366) (by decide +kernel), List.mem_of_getElem? (i := 56) (by decide +kernel), rfl, (fun _ => List.mem_of_getElem? (i := 364) (by decide +kernel)), (fun _ => List.mem_of_getElem? (i := 365) (by decide +kernel)), (fun h => absurd h (by decide)), (fun h => absurd h (by decide)), by decide +kernel, by decide, by decide, by decide⟩
theorem rs_fm19 : rs_fm 19 := ⟨List.mem_of_getElem? (i := 180) (by decide +kernel), List.mem_of_getElem? (i := 56) (by decide +kernel), rfl, (fun _ => List.mem_of_getElem? (i := 178) (by decide +kernel)), (fun _ => List.mem_of_getElem? (i := 179) (by decide +kernel)), (fun h => absurd h (by decide)), (fun h => absurd h (by decide)), by decide +kernel, by decide, by decide, by decide⟩
theorem rs_fm20 : rs_fm 20 := ⟨List.mem_of_getElem? (i := 240) (by decide +kernel), List.mem_of_getElem? (i := 56) (by decide +kernel), rfl, (fun _ => List.mem_of_getElem? (i := 238) (by decide +kernel)), (fun _ => List.mem_of_getElem? (i := 239) (by decide +kernel)), (fun h => absurd h (by decide)), (fun h => absurd h (by decide)), by decide +kernel, by decide, by decide, by decide⟩
theorem rs_fm21 : rs_fm 21 := ⟨List.mem_of_getElem? (i := 268) (by decide +kernel), List.mem_of_getElem? (i := 56) (by decide +kernel), rfl, (fun _ => List.mem_of_getElem? (i := 266) (by decide +kernel)), (fun _ => List.mem_of_getElem? (i := 267) (by decide +kernel)), (fun h => absurd h (by decide)), (fun h => absurd h (by decide)), by decide +kernel, by decide, by decide, by decide⟩
theorem rs_fm22 : rs_fm 22 := ⟨List.mem_of_getElem? (i := 465) (by decide +kernel), List.mem_of_getElem? (i := 56) (by decide +kernel), rfl, (fun _ => List.mem_of_getElem? (i := 463) (by decide +kernel)), (fun _ => List.mem_of_getElem? (i := 464) (by decide +kernel)), (fun h => absurd h (by decide)), (fun h => absurd h (by decide)), by decide +kernel, by decide, by decide, by decide⟩
theorem rs_fm23 : rs_fm 23 := ⟨List.mem_of_getElem? (i := 478) (by decide +kernel), List.mem_of_getElem? (i := 56) (by decide +kernel), rfl, (fun _ => List.mem_of_getElem? (i := 476) (by decide +kernel)), (fun _ => List.mem_of_getElem? (i := 477) (by decide +kernel)), (fun h => absurd h (by decide)), (fun h => absurd h (by decide)), by decide +kernel, by decide, by decide, by decide⟩
theorem rs_fm24 : rs_fm 24 := ⟨List.mem_of_getElem? (i := 189) (by decide +kernel), List.mem_of_getElem? (i := 56) (by decide +kernel), rfl, (fun _ => List.mem_of_getElem? (i := 187) (by decide +kernel)), (fun _ => List.mem_of_getElem? (i := 188) (by decide +kernel)), (fun h => absurd h (by decide)), (fun h => absurd h (by decide)), by decide +kernel, by decide, by decide, by decide⟩
theorem rs_fm25 : rs_fm 25 := ⟨List.mem_of_getElem? (i := 193) (by decide +kernel), List.mem_of_getElem? (i := 56) (by decide +kernel), rfl, (fun _ => List.mem_of_getElem? (i := 191) (by decide +kernel)), (fun _ => List.mem_of_getElem? (i := 192) (by decide +kernel)), (fun h => absurd h (by decide)), (fun h => absurd h (by decide)), by decide +kernel, by decide, by decide, by decide⟩
theorem rs_fm26 : rs_fm 26 := ⟨List.mem_of_getElem? (i := 444) (by decide +kernel), List.mem_of_getElem? (i := 56) (by decide +kernel), rfl, (fun _ => List.mem_of_getElem? (i := 442) (by decide +kernel)), (fun _ => List.mem_of_getElem? (i := 443) (by decide +kernel)), (fun h => absurd h (by decide)), (fun h => absurd h (by decide)), by decide +kernel, by decide, by decide, by decide⟩
theorem rs_fm27 : rs_fm 27 := ⟨List.mem_of_getElem? (i := 403) (by decide +kernel), List.mem_of_getElem? (i := 56) (by decide +kernel), rfl, (fun _ => List.mem_of_getElem? (i := 401) (by decide +kernel)), (fun _ => List.mem_of_getElem? (i := 402) (by decide +kernel)), (fun h => absurd h (by decide)), (fun h => absurd h (by decide)), by decide +kernel, by decide, by decide, by decide⟩
theorem rs_fm28 : rs_fm 28 := ⟨List.mem_of_getElem? (i := 408) (by decide +kernel), List.mem_of_getElem? (i := 56) (by decide +kernel), rfl, (fun _ => List.mem_of_getElem? (i := 406) (by decide +kernel)), (fun _ => List.mem_of_getElem? (i := 407) (by decide +kernel)), (fun h => absurd h (by decide)), (fun h => absurd h (by decide)), by decide +kernel, by decide, by decide, by decide⟩
theorem rs_fm29 : rs_fm 29 := ⟨List.mem_of_getElem? (i := 399) (by decide +kernel), List.mem_of_getElem? (i := 56) (by decide +kernel), rfl, (fun _ => List.mem_of_getElem? (i := 397) (by decide +kernel)), (fun _ => List.mem_of_getElem? (i := 398) (by decide +kernel)), (fun h => absurd h (by decide)), (fun h => absurd h (by decide)), by decide +kernel, by decide, by decide, by decide⟩
theorem rs_fm30 : rs_fm 30 := ⟨List.mem_of_getElem? (i := 435) (by decide +kernel), List.mem_of_getElem? (i := 56) (by decide +kernel), rfl, (fun _ => List.mem_of_getElem? (i := 433) (by decide +kernel)), (fun _ => List.mem_of_getElem? (i := 434) (by decide +kernel)), (fun h => absurd h (by decide)), (fun h => absurd h (by decide)), by decide +kernel, by decide, by decide, by decide⟩
theorem rs_fm31 : rs_fm 31 := ⟨List.mem_of_getElem? (i := 439) (by decide +kernel), List.mem_of_getElem? (i := 56) (by decide +kernel), rfl, (fun _ => List.mem_of_getElem? (i := 437) (by decide +kernel)), (fun _ => List.mem_of_getElem? (i := 438) (by decide +kernel)), (fun h => absurd h (by decide)), (fun h => absurd h (by decide)), by decide +kernel, by decide, by decide, by decide⟩
theorem rs_fm32 : rs_fm 32 := ⟨List.mem_of_getElem? (i := 372) (by decide +kernel), List.mem_of_getElem? (i := 56) (by decide +kernel), rfl, (fun _ => List.mem_of_getElem? (i := 370) (by decide +kernel)), (fun _ => List.mem_of_getElem? (i := 371) (by decide +kernel)), (fun h => absurd h (by decide)), (fun h => absurd h (by decide)), by decide +kernel, by decide, by decide, by decide⟩
theorem rs_fm33 : rs_fm 33 := ⟨List.mem_of_getElem? (i := 362) (by decide +kernel), List.mem_of_getElem? (i := 56) (by decide +kernel), rfl, (fun _ => List.mem_of_getElem? (i := 360) (by decide +kernel)), (fun _ => List.mem_of_getElem? (i := 361) (by decide +kernel)), (fun h => absurd h (by decide)), (fun h => absurd h (by decide)), by decide +kernel, by decide, by decide, by decide⟩
theorem rs_fm34 : rs_fm 34 := ⟨List.mem_of_getElem? (i := 357) (by decide +kernel), List.mem_of_getElem? (i := 56) (by decide +kernel), rfl, (fun _ => List.mem_of_getElem? (i := 355) (by decide +kernel)), (fun _ => List.mem_of_getElem? (i := 356) (by decide +kernel)), (fun h => absurd h (by decide)), (fun h => absurd h (by decide)), by decide +kernel, by decide, by decide, by decide⟩
theorem rs_fm35 : rs_fm 35 := ⟨List.mem_of_getElem? (i := 220) (by decide +kernel), List.mem_of_getElem? (i := 56) (by decide +kernel), rfl, (fun _ => List.mem_of_getElem? (i := 218) (by decide +kernel)), (fun _ => List.mem_of_getElem? (i := 219) (by decide +kernel)), (fun h => absurd h (by decide)), (fun h => absurd h (by decide)), by decide +kernel, by decide, by decide, by decide⟩
theorem rs_fm36 : rs_fm 36 := ⟨List.mem_of_getElem? (i := 224) (by decide +kernel), List.mem_of_getElem? (i := 56) (by decide +kernel), rfl, (fun _ => List.mem_of_getElem? (i := 223) (by decide +kernel)), (fun _ => List.mem_of_getElem? (i := 2) (by decide +kernel)), (fun h => absurd h (by decide)), (fun h => absurd h (by decide)), by decide +kernel, by decide, by decide, by decide⟩
theorem rs_fm37 : rs_fm 37 := ⟨List.mem_of_getElem? (i := 244) (by decide +kernel), List.mem_of_getElem? (i := 56) (by decide +kernel), rfl, (fun _ => List.mem_of_getElem? (i := 242) (by decide +kernel)), (fun _ => List.mem_of_getElem? (i := 243) (by decide +kernel)), (fun h => absurd h (by decide)), (fun h => absurd h (by decide)), by decide +kernel, by decide, by decide, by decide⟩
theorem rs_fm38 : rs_fm 38 := ⟨List.mem_of_getElem? (i := 256) (by decide +kernel), List.mem_of_getElem? (i := 56) (by decide +kernel), rfl, (fun _ => List.mem_of_getElem? (i := 254) (by decide +kernel)), (fun _ => List.mem_of_getElem? (i := 255) (by decide +kernel)), (fun h => absurd h (by decide)), (fun h => absurd h (by decide)), by decide +kernel, by decide, by decide, by decide⟩
theorem rs_fm39 : rs_fm 39 := ⟨List.mem_of_getElem? (i := 283) (by decide +kernel), List.mem_of_getElem? (i := 56) (by decide +kernel), rfl, (fun _ => List.mem_of_getElem? (i := 281) (by decide +kernel)), (fun _ => List.mem_of_getElem? (i := 282) (by decide +kernel)), (fun h => absurd h (by decide)), (fun h => absurd h (by decide)), by decide +kernel, by decide, by decide, by decide⟩
theorem rs_fm40 : rs_fm 40 := ⟨List.mem_of_getElem? (i := 287) (by decide +kernel), List.mem_of_getElem? (i := 56) (by decide +kernel), rfl, (fun _ => List.mem_of_getElem? (i := 286) (by decide +kernel)), (fun _ => List.mem_of_getElem? (i := 5) (by decide +kernel)), (fun h => absurd h (by decide)), (fun h => absurd h (by decide)), by decide +kernel, by decide, by decide, by decide⟩
theorem rs_fm41 : rs_fm 41 := ⟨List.mem_of_getElem? (i := 291) (by decide +kernel), List.mem_of_getElem? (i := 56) (by decide +kernel), rfl, (fun _ => List.mem_of_getElem? (i := 290) (by decide +kernel)), (fun _ => List.mem_of_getElem? (i := 6) (by decide +kernel)), (fun h => absurd h (by decide)), (fun h => absurd h (by decide)), by decide +kernel, by decide, by decide, by decide⟩
theorem rs_fm42 : rs_fm 42 := ⟨List.mem_of_getElem? (i := 332) (by decide +kernel), List.mem_of_getElem? (i := 56) (by decide +kernel), rfl, (fun _ => List.mem_of_getElem? (i := 330) (by decide +kernel)), (fun _ => List.mem_of_getElem? (i := 331) (by decide +kernel)), (fun h => absurd h (by decide)), (fun h => absurd h (by decide)), by decide +kernel, by decide, by decide, by decide⟩
theorem rs_fm43 : rs_fm 43 := ⟨List.mem_of_getElem? (i := 252) (by decide +kernel), List.mem_of_getElem? (i := 56) (by decide +kernel), rfl, (fun _ => List.mem_of_getElem? (i := 250) (by decide +kernel)), (fun _ => List.mem_of_getElem? (i := 251) (by decide +kernel)), (fun h => absurd h (by decide)), (fun h => absurd h (by decide)), by decide +kernel, by decide, by decide, by decide⟩
theorem rs_fm44 : rs_fm 44 := ⟨List.mem_of_getElem? (i := 248) (by decide +kernel), List.mem_of_getElem? (i := 56) (by decide +kernel), rfl, (fun _ => List.mem_of_getElem? (i := 247) (by decide +kernel)), (fun _ => List.mem_of_getElem? (i := 3) (by decide +kernel)), (fun h => absurd h (by decide)), (fun h => absurd h (by decide)), by decide +kernel, by decide, by decide, by decide⟩
theorem rs_fm45 : rs_fm 45 := ⟨List.mem_of_getElem? (i := 431) (by decide +kernel), List.mem_of_getElem? (i := 56) (by decide +kernel), rfl, (fun _ => List.mem_of_getElem? (i := 429) (by decide +kernel)), (fun _ => List.mem_of_getElem? (i := 430) (by decide +kernel)), (fun h => absurd h (by decide)), (fun h => absurd h (by decide)), by decide +kernel, by decide, by decide, by decide⟩
theorem rs_fm46 : rs_fm 46 := ⟨List.mem_of_getElem? (i := 65) (by decide +kernel), List.mem_of_getElem? (i := 55) (by decide +kernel), rfl, (fun _ => List.mem_of_getElem? (i := 64) (by decide +kernel)), (fun h => absurd h (by decide)), (fun h => absurd h (by decide)), (fun _ => ⟨by decide +kernel, rfl⟩), by decide +kernel, by decide, by decide, by decide⟩
theorem rs_fm47 : rs_fm 47 := ⟨List.mem_of_getElem? (i := 169) (by decide +kernel), List.mem_of_getElem? (i := 55) (by decide +kernel), rfl, (fun _ => List.mem_of_getElem? (i := 167) (by decide +kernel)), (fun _ => List.mem_of_getElem? (i := 168) (by decide +kernel)), (fun h => absurd h (by decide)), (fun h => absurd h (by decide)), by decide +kernel, by decide, by decide, by decide⟩
theorem rs_fm48 : rs_fm 48 := ⟨List.mem_of_getElem? (i := 228) (by decide +kernel), List.mem_of_getElem? (i := 55) (by decide +kernel), rfl, (fun _ => List.mem_of_getElem? (i := 226) (by decide +kernel)), (fun _ => List.mem_of_getElem? (i := 227) (by decide +kernel)), (fun h => absurd h (by decide)), (fun h => absurd h (by decide)), by decide +kernel, by decide, by decide, by decide⟩
theorem rs_fm49 : rs_fm 49 := ⟨List.mem_of_getElem? (i := 260) (by decide +kernel), List.mem_of_getElem? (i := 55) (by decide +kernel), rfl, (fun _ => List.mem_of_getElem? (i := 258) (by decide +kernel)), (fun _ => List.mem_of_getElem? (i := 259) (by decide +kernel)), (fun h => absurd h (by decide)), (fun h => absurd h (by decide)), by decide +kernel, by decide, by decide, by decide⟩
theorem rs_fm50 : rs_fm 50 := ⟨List.mem_of_getElem? (i := 264) (by decide +kernel), List.mem_of_getElem? (i := 55) (by decide +kernel), rfl, (fun _ => List.mem_of_getElem? (i := 262) (by decide +kernel)), (fun _ => List.mem_of_getElem? (i := 263) (by decide +kernel)), (fun h => absurd h (by decide)), (fun h => absurd h (by decide)), by decide +kernel, by decide, by decide, by decide⟩
theorem rs_fm51 : rs_fm 51 := ⟨List.mem_of_getElem? (i := 275) (by decide +kernel), List.mem_of_getElem? (i := 55) (by decide +kernel), rfl, (fun _ => List.mem_of_getElem? (i := 273) (by decide +kernel)), (fun _ => List.mem_of_getElem? (i := 274) (by decide +kernel)), (fun h => absurd h (by decide)), (fun h => absurd h (by decide)), by decide +kernel, by decide, by decide, by decide⟩
theorem rs_fm52 : rs_fm 52 := ⟨List.mem_of_getElem? (i := 295) (by decide +kernel), List.mem_of_getElem? (i := 55) (by decide +kernel), rfl, (fun _ => List.mem_of_getElem? (i := 293) (by decide +kernel)), (fun _ => List.mem_of_getElem? (i := 294) (by decide +kernel)), (fun h => absurd h (by decide)), (fun h => absurd h (by decide)), by decide +kernel, by decide, by decide, by decide⟩
theorem rs_fm53 : rs_fm 53 := ⟨List.mem_of_getElem? (i := 299) (by decide +kernel), List.mem_of_getElem? (i := 55) (by decide +kernel), rfl, (fun _ => List.mem_of_getElem? (i := 297) (by decide +kernel)), (fun _ => List.mem_of_getElem? (i := 298) (by decide +kernel)), (fun h => absurd h (by decide)), (fun h => absurd h (by decide)), by decide +kernel, by decide, by decide, by decide⟩
theorem rs_fm54 : rs_fm 54 := ⟨List.mem_of_getElem? (i := 304) (by decide +kernel), List.mem_of_getElem? (i := 55) (by decide +kernel), rfl, (fun _ => List.mem_of_getElem? (i := 302) (by decide +kernel)), (fun _ => List.mem_of_getElem? (i := 303) (by decide +kernel)), (fun h => absurd h (by decide)), (fun h => absurd h (by decide)), by decide +kernel, by decide, by decide, by decide⟩
theorem rs_fm55 : rs_fm 55 := ⟨List.mem_of_getElem? (i := 308) (by decide +kernel), List.mem_of_getElem? (i := 55) (by decide +kernel), rfl, (fun _ => List.mem_of_getElem? (i := 306) (by decide +kernel)), (fun _ => List.mem_of_getElem? (i := 307) (by decide +kernel)), (fun h => absurd h (by decide)), (fun h => absurd h (by decide)), by decide +kernel, by decide, by decide, by decide⟩
theorem rs_fm56 : rs_fm 56 := ⟨List.mem_of_getElem? (i := 312) (by decide +kernel), List.mem_of_getElem? (i := 55) (by decide +kernel), rfl, (fun _ => List.mem_of_getElem? (i := 310) (by decide +kernel)), (fun _ => List.mem_of_getElem? (i := 311) (by decide +kernel)), (fun h => absurd h (by decide)), (fun h => absurd h (by decide)), by decide +kernel, by decide, by decide, by decide⟩
theorem rs_fm57 : rs_fm 57 := ⟨List.mem_of_getElem? (i := 316) (by decide +kernel), List.mem_of_getElem? (i := 55) (by decide +kernel), rfl, (fun _ => List.mem_of_getElem? (i := 314) (by decide +kernel)), (fun _ => List.mem_of_getElem? (i := 315) (by decide +kernel)), (fun h => absurd h (by decide)), (fun h => absurd h (by decide)), by decide +kernel, by decide, by decide, by decide⟩
theorem rs_fm58 : rs_fm 58 := ⟨List.mem_of_getElem? (i := 320) (by decide +kernel), List.mem_of_getElem? (i := 55) (by decide +kernel), rfl, (fun _ => List.mem_of_getElem? (i := 318) (by decide +kernel)), (fun _ => List.mem_of_getElem? (i := 319) (by decide +kernel)), (fun h => absurd h (by decide)), (fun h => absurd h (by decide)), by decide +kernel, by decide, by decide, by decide⟩
theorem rs_fm59 : rs_fm 59 := ⟨List.mem_of_getElem? (i := 324) (by decide +kernel), List.mem_of_getElem? (i := 55) (by decide +kernel), rfl, (fun _ => List.mem_of_getElem? (i := 322) (by decide +kernel)), (fun _ => List.mem_of_getElem? (i := 323) (by decide +kernel)), (fun h => absurd h (by decide)), (fun h => absurd h (by decide)), by decide +kernel, by decide, by decide, by decide⟩
theorem rs_fm60 : rs_fm 60 := ⟨List.mem_of_getElem? (i := 328) (by decide +kernel), List.mem_of_getElem? (i := 55) (by decide +kernel), rfl, (fun _ => List.mem_of_getElem? (i := 326) (by decide +kernel)), (fun _ => List.mem_of_getElem? (i := 327) (by decide +kernel)), (fun h => absurd h (by decide)), (fun h => absurd h (by decide)), by decide +kernel, by decide, by decide, by decide⟩
theorem rs_fm61 : rs_fm 61 := ⟨List.mem_of_getElem? (i := 336) (by decide +kernel), List.mem_of_getElem? (i := 55) (by decide +kernel), rfl, (fun _ => List.mem_of_getElem? (i := 334) (by decide +kernel)), (fun _ => List.mem_of_getElem? (i := 335) (by decide +kernel)), (fun h => absurd h (by decide)), (fun h => absurd h (by decide)), by decide +kernel, by decide, by decide, by decide⟩
theorem rs_fm62 : rs_fm 62 := ⟨List.mem_of_getElem? (i := 341) (by decide +kernel), List.mem_of_getElem? (i := 55) (by decide +kernel), rfl, (fun _ => List.mem_of_getElem? (i := 339) (by decide +kernel)), (fun _ => List.mem_of_getElem? (i := 340) (by decide +kernel)), (fun h => absurd h (by decide)), (fun h => absurd h (by decide)), by decide +kernel, by decide, by decide, by decide⟩
theorem rs_fm63 : rs_fm 63 := ⟨List.mem_of_getElem? (i := 419) (by decide +kernel), List.mem_of_getElem? (i := 55) (by decide +kernel), rfl, (fun _ => List.mem_of_getElem? (i := 417) (by decide +kernel)), (fun _ => List.mem_of_getElem? (i := 418) (by decide +kernel)), (fun h => absurd h (by decide)), (fun h => absurd h (by decide)), by decide +kernel, by decide, by decide, by decide⟩
theorem rs_fm64 : rs_fm 64 := ⟨List.mem_of_getElem? (i := 427) (by decide +kernel), List.mem_of_getElem? (i := 55) (by decide +kernel), rfl, (fun _ => List.mem_of_getElem? (i := 425) (by decide +kernel)), (fun _ => List.mem_of_getElem? (i := 426) (by decide +kernel)), (fun h => absurd h (by decide)), (fun h => absurd h (by decide)), by decide +kernel, by decide, by decide, by decide⟩
theorem rs_fm65 : rs_fm 65 := ⟨List.mem_of_getElem? (i := 448) (by decide +kernel), List.mem_of_getElem? (i := 55) (by decide +kernel), rfl, (fun _ => List.mem_of_getElem? (i := 446) (by decide +kernel)), (fun _ => List.mem_of_getElem? (i := 447) (by decide +kernel)), (fun h => absurd h (by decide)), (fun h => absurd h (by decide)), by decide +kernel, by decide, by decide, by decide⟩
theorem rs_fm66 : rs_fm 66 := ⟨List.mem_of_getElem? (i := 456) (by decide +kernel), List.mem_of_getElem? (i := 55) (by decide +kernel), rfl, (fun _ => List.mem_of_getElem? (i := 454) (by decide +kernel)), (fun _ => List.mem_of_getElem? (i := 455) (by decide +kernel)), (fun h => absurd h (by decide)), (fun h => absurd h (by decide)), by decide +kernel, by decide, by decide, by decide⟩
theorem rs_fm67 : rs_fm 67 := ⟨List.mem_of_getElem? (i := 460) (by decide +kernel), List.mem_of_getElem? (i := 55) (by decide +kernel), rfl, (fun _ => List.mem_of_getElem? (i := 458) (by decide +kernel)), (fun _ => List.mem_of_getElem? (i := 459) (by decide +kernel)), (fun h => absurd h (by decide)), (fun h => absurd h (by decide)), by decide +kernel, by decide, by decide, by decide⟩
theorem rs_fm68 : rs_fm 68 := ⟨List.mem_of_getElem? (i := 474) (by decide +kernel), List.mem_of_getElem? (i := 55) (by decide +kernel), rfl, (fun _ => List.mem_of_getElem? (i := 472) (by decide +kernel)), (fun _ => List.mem_of_getElem? (i := 473) (by decide +kernel)), (fun h => absurd h (by decide)), (fun h => absurd h (by decide)), by decide +kernel, by decide, by decide, by decide⟩
theorem rs_fm69 : rs_fm 69 := ⟨List.mem_of_getElem? (i := 482) (by decide +kernel), List.mem_of_getElem? (i := 55) (by decide +kernel), rfl, (fun _ => List.mem_of_getElem? (i := 480) (by decide +kernel)), (fun _ => List.mem_of_getElem? (i := 481) (by decide +kernel)), (fun h => absurd h (by decide)), (fun h => absurd h (by decide)), by decide +kernel, by decide, by decide, by decide⟩
theorem rs_fm70 : rs_fm 70 := ⟨List.mem_of_getElem? (i := 486) (by decide +kernel), List.mem_of_getElem? (i := 55) (by decide +kernel), rfl, (fun _ => List.mem_of_getElem? (i := 484) (by decide +kernel)), (fun _ => List.mem_of_getElem? (i := 485) (by decide +kernel)), (fun h => absurd h (by decide)), (fun h => absurd h (by decide)), by decide +kernel, by decide, by decide, by decide⟩
theorem rs_fm71 : rs_fm 71 := ⟨List.mem_of_getElem? (i := 490) (by decide +kernel), List.mem_of_getElem? (i := 55) (by decide +kernel), rfl, (fun _ => List.mem_of_getElem? (i := 488) (by decide +kernel)), (fun _ => List.mem_of_getElem? (i := 489) (by decide +kernel)), (fun h => absurd h (by decide)), (fun h => absurd h (by decide)), by decide +kernel, by decide, by decide, by decide⟩
theorem rs_fm72 : rs_fm 72 := ⟨List.mem_of_getElem? (i := 494) (by decide +kernel), List.mem_of_getElem? (i := 55) (by decide +kernel), rfl, (fun _ => List.mem_of_getElem? (i := 492) (by decide +kernel)), (fun _ => List.mem_of_getElem? (i := 493) (by decide +kernel)), (fun h => absurd h (by decide)), (fun h => absurd h (by decide)), by decide +kernel, by decide, by decide, by decide⟩
theorem rs_fm73 : rs_fm 73 := ⟨List.mem_of_getElem? (i := 502) (by decide +kernel), List.mem_of_getElem? (i := 55) (by decide +kernel), rfl, (fun _ => List.mem_of_getElem? (i := 500) (by decide +kernel)), (fun _ => List.mem_of_getElem? (i := 501) (by decide +kernel)), (fun h => absurd h (by decide)), (fun h => absurd h (by decide)), by decide +kernel, by decide, by decide, by decide⟩
theorem rs_fm74 : rs_fm 74 := ⟨List.mem_of_getElem? (i := 506) (by decide +kernel), List.mem_of_getElem? (i := 55) (by decide +kernel), rfl, (fun _ => List.mem_of_getElem? (i := 504) (by decide +kernel)), (fun _ => List.mem_of_getElem? (i := 505) (by decide +kernel)), (fun h => absurd h (by decide)), (fun h => absurd h (by decide)), by decide +kernel, by decide, by decide, by decide⟩
theorem rs_fm75 : rs_fm 75 := ⟨List.mem_of_getElem? (i := 172) (by decide +kernel), List.mem_of_getElem? (i := 55) (by decide +kernel), rfl, (fun h => absurd h (by decide)), (fun h => absurd h (by decide)), (fun _ => List.mem_of_getElem? (i := 171) (by decide +kernel)), (fun h => absurd h (by decide)), by decide +kernel, by decide, by decide, by decide⟩
theorem rs_fm76 : rs_fm 76 := ⟨List.mem_of_getElem? (i := 415) (by decide +kernel), List.mem_of_getElem? (i := 55) (by decide +kernel), rfl, (fun h => absurd h (by decide)), (fun h => absurd h (by decide)), (fun _ => List.mem_of_getElem? (i := 414) (by decide +kernel)), (fun h => absurd h (by decide)), by decide +kernel, by decide, by decide, by decide⟩
theorem rs_fm77 : rs_fm 77 := ⟨List.mem_of_getElem? (i := 199) (by decide +kernel), List.mem_of_getElem? (i := 55) (by decide +kernel), rfl, (fun _ => List.mem_of_getElem? (i := 198) (by decide +kernel)), (fun _ => List.mem_of_getElem? (i := 0) (by decide +kernel)), (fun h => absurd h (by decide)), (fun h => absurd h (by decide)), by decide +kernel, by decide, by decide, by decide⟩
theorem rs_fm78 : rs_fm 78 := ⟨List.mem_of_getElem? (i := 203) (by decide +kernel), List.mem_of_getElem? (i := 55) (by decide +kernel), rfl, (fun _ => List.mem_of_getElem? (i := 202) (by decide +kernel)), (fun _ => List.mem_of_getElem? (i := 1) (by decide +kernel)), (fun h => absurd h (by decide)), (fun h => absurd h (by decide)), by decide +kernel, by decide, by decide, by decide⟩
theorem rs_fm79 : rs_fm 79 := ⟨List.mem_of_getElem? (i := 279) (by decide +kernel), List.mem_of_getElem? (i := 55) (by decide +kernel), rfl, (fun _ => List.mem_of_getElem? (i := 278) (by decide +kernel)), (fun _ => List.mem_of_getElem? (i := 4) (by decide +kernel)), (fun h => absurd h (by decide)), (fun h => absurd h (by decide)), by decide +kernel, by decide, by decide, by decide⟩
theorem rs_fm80 : rs_fm 80 := ⟨List.mem_of_getElem? (i := 470) (by decide +kernel), List.mem_of_getElem? (i := 55) (by decide +kernel), rfl, (fun _ => List.mem_of_getElem? (i := 469) (by decide +kernel)), (fun _ => List.mem_of_getElem? (i := 11) (by decide +kernel)), (fun h => absurd h (by decide)), (fun h => absurd h (by decide)), by decide +kernel, by decide, by decide, by decide⟩
theorem rs_fm81 : rs_fm 81 := ⟨List.mem_of_getElem? (i := 345) (by decide +kernel), List.mem_of_getElem? (i := 55) (by decide +kernel), rfl, (fun _ => List.mem_of_getElem? (i := 344) (by decide +kernel)), (fun _ => List.mem_of_getElem? (i := 7) (by decide +kernel)), (fun h => absurd h (by decide)), (fun h => absurd h (by decide)), by decide +kernel, by decide, by decide, by decide⟩
theorem rs_fm82 : rs_fm 82 := ⟨List.mem_of_getElem? (i := 511) (by decide +kernel), List.mem_of_getElem? (i := 58) (by decide +kernel), rfl, (fun _ => List.mem_of_getElem? (i := 510) (by decide +kernel)), (fun h => absurd h (by decide)), (fun h => absurd h (by decide)), (fun _ => ⟨by decide +kernel, rfl⟩), by decide +kernel, by decide, by decide, by decide⟩
theorem rs_fm83 : rs_fm 83 := ⟨List.mem_of_getElem? (i := 554) (by decide +kernel), List.mem_of_getElem? (i := 58) (by decide +kernel), rfl, (fun h => absurd h (by decide)), (fun h => absurd h (by decide)), (fun _ => List.mem_of_getElem? (i := 553) (by decide +kernel)), (fun h => absurd h (by decide)), by decide +kernel, by decide, by decide, by decide⟩
theorem rs_fm84 : rs_fm 84 := ⟨List.mem_of_getElem? (i := 582) (by decide +kernel), List.mem_of_getElem? (i := 58) (by decide +kernel), rfl, (fun _ => List.mem_of_getElem? (i := 581) (by decide +kernel)), (fun _ => List.mem_of_getElem? (i := 19) (by decide +kernel)), (fun h => absurd h (by decide)), (fun h => absurd h (by decide)), by decide +kernel, by decide, by decide, by decide⟩
theorem rs_fm85 : rs_fm 85 := ⟨List.mem_of_getElem? (i := 551) (by decide +kernel), List.mem_of_getElem? (i := 58) (by decide +kernel), rfl, (fun _ => List.mem_of_getElem? (i := 550) (by decide +kernel)), (fun _ => List.mem_of_getElem? (i := 12) (by decide +kernel)), (fun h => absurd h (by decide)), (fun h => absurd h (by decide)), by decide +kernel, by decide, by decide, by decide⟩
theorem rs_fm86 : rs_fm 86 := ⟨List.mem_of_getElem? (i := 562) (by decide +kernel), List.mem_of_getElem? (i := 58) (by decide +kernel), rfl, (fun _ => List.mem_of_getElem? (i := 561) (by decide +kernel)), (fun _ => List.mem_of_getElem? (i := 14) (by decide +kernel)), (fun h => absurd h (by decide)), (fun h => absurd h (by decide)), by decide +kernel, by decide, by decide, by decide⟩
theorem rs_fm87 : rs_fm 87 := ⟨List.mem_of_getElem? (i := 558) (by decide +kernel), List.mem_of_getElem? (i := 58) (by decide +kernel), rfl, (fun _ => List.mem_of_getElem? (i := 557) (by decide +kernel)), (fun _ => List.mem_of_getElem? (i := 13) (by decide +kernel)), (fun h => absurd h (by decide)), (fun h => absurd h (by decide)), by decide +kernel, by decide, by decide, by decide⟩
theorem rs_fm88 : rs_fm 88 := ⟨List.mem_of_getElem? (i := 574) (by decide +kernel), List.mem_of_getElem? (i := 58) (by decide +kernel), rfl, (fun _ => List.mem_of_getElem? (i := 573) (by decide +kernel)), (fun _ => List.mem_of_getElem? (i := 17) (by decide +kernel)), (fun h => absurd h (by decide)), (fun h => absurd h (by decide)), by decide +kernel, by decide, by decide, by decide⟩
theorem rs_fm89 : rs_fm 89 := ⟨List.mem_of_getElem? (i := 594) (by decide +kernel), List.mem_of_getElem? (i := 58) (by decide +kernel), rfl, (fun _ => List.mem_of_getElem? (i := 593) (by decide +kernel)), (fun _ => List.mem_of_getElem? (i := 22) (by decide +kernel)), (fun h => absurd h (by decide)), (fun h => absurd h (by decide)), by decide +kernel, by decide, by decide, by decide⟩
theorem rs_fm90 : rs_fm 90 := ⟨List.mem_of_getElem? (i := 590) (by decide +kernel), List.mem_of_getElem? (i := 58) (by decide +kernel), rfl, (fun _ => List.mem_of_getElem? (i := 589) (by decide +kernel)), (fun _ => List.mem_of_getElem? (i := 21) (by decide +kernel)), (fun h => absurd h (by decide)), (fun h => absurd h (by decide)), by decide +kernel, by decide, by decide, by decide⟩
theorem rs_fm91 : rs_fm 91 := ⟨List.mem_of_getElem? (i := 602) (by decide +kernel), List.mem_of_getElem? (i := 58) (by decide +kernel), rfl, (fun _ => List.mem_of_getElem? (i := 601) (by decide +kernel)), (fun _ => List.mem_of_getElem? (i := 23) (by decide +kernel)), (fun h => absurd h (by decide)), (fun h => absurd h (by decide)), by decide +kernel, by decide, by decide, by decide⟩
theorem rs_fm92 : rs_fm 92 := ⟨List.mem_of_getElem? (i := 610) (by decide +kernel), List.mem_of_getElem? (i := 58) (by decide +kernel), rfl, (fun _ => List.mem_of_getElem? (i := 609) (by decide +kernel)), (fun _ => List.mem_of_getElem? (i := 25) (by decide +kernel)), (fun h => absurd h (by decide)), (fun h => absurd h (by decide)), by decide +kernel, by decide, by decide, by decide⟩
theorem rs_fm93 : rs_fm 93 := ⟨List.mem_of_getElem? (i := 570) (by decide +kernel), List.mem_of_getElem? (i := 58) (by decide +kernel), rfl, (fun _ => List.mem_of_getElem? (i := 569) (by decide +kernel)), (fun _ => List.mem_of_getElem? (i := 16) (by decide +kernel)), (fun h => absurd h (by decide)), (fun h => absurd h (by decide)), by decide +kernel, by decide, by decide, by decide⟩
theorem rs_fm94 : rs_fm 94 := ⟨List.mem_of_getElem? (i := 578) (by decide +kernel), List.mem_of_getElem? (i := 58) (by decide +kernel), rfl, (fun _ => List.mem_of_getElem? (i := 577) (by decide +kernel)), (fun _ => List.mem_of_getElem? (i := 18) (by decide +kernel)), (fun h => absurd h (by decide)), (fun h => absurd h (by decide)), by decide +kernel, by decide, by decide, by decide⟩
theorem rs_fm95 : rs_fm 95 := ⟨List.mem_of_getElem? (i := 566) (by decide +kernel), List.mem_of_getElem? (i := 58) (by decide +kernel), rfl, (fun _ => List.mem_of_getElem? (i := 565) (by decide +kernel)), (fun _ => List.mem_of_getElem? (i := 15) (by decide +kernel)), (fun h => absurd h (by decide)), (fun h => absurd h (by decide)), by decide +kernel, by decide, by decide, by decide⟩
theorem rs_fm96 : rs_fm 96 := ⟨List.mem_of_getElem? (i := 586) (by decide +kernel), List.mem_of_getElem? (i := 58) (by decide +kernel), rfl, (fun _ => List.mem_of_getElem? (i := 585) (by decide +kernel)), (fun _ => List.mem_of_getElem? (i := 20) (by decide +kernel)), (fun h => absurd h (by decide)), (fun h => absurd h (by decide)), by decide +kernel, by decide, by decide, by decide⟩
theorem rs_fm97 : rs_fm 97 := ⟨List.mem_of_getElem? (i := 547) (by decide +kernel), List.mem_of_getElem? (i := 58) (by decide +kernel), rfl, (fun _ => List.mem_of_getElem? (i := 545) (by decide +kernel)), (fun _ => List.mem_of_getElem? (i := 546) (by decide +kernel)), (fun h => absurd h (by decide)), (fun h => absurd h (by decide)), by decide +kernel, by decide, by decide, by decide⟩
theorem rs_fm98 : rs_fm 98 := ⟨List.mem_of_getElem? (i := 626) (by decide +kernel), List.mem_of_getElem? (i := 58) (by decide +kernel), rfl, (fun _ => List.mem_of_getElem? (i := 625) (by decide +kernel)), (fun _ => List.mem_of_getElem? (i := 29) (by decide +kernel)), (fun h => absurd h (by decide)), (fun h => absurd h (by decide)), by decide +kernel, by decide, by decide, by decide⟩
theorem rs_fm99 : rs_fm 99 := ⟨List.mem_of_getElem? (i := 622) (by decide +kernel), List.mem_of_getElem? (i := 58) (by decide +kernel), rfl, (fun _ => List.mem_of_getElem? (i := 621) (by decide +kernel)), (fun _ => List.mem_of_getElem? (i := 28) (by decide +kernel)), (fun h => absurd h (by decide)), (fun h => absurd h (by decide)), by decide +kernel, by decide, by decide, by decide⟩
theorem rs_fm100 : rs_fm 100 := ⟨List.mem_of_getElem? (i := 618) (by decide +kernel), List.mem_of_getElem? (i := 58) (by decide +kernel), rfl, (fun _ => List.mem_of_getElem? (i := 617) (by decide +kernel)), (fun _ => List.mem_of_getElem? (i := 27) (by decide +kernel)), (fun h => absurd h (by decide)), (fun h => absurd h (by decide)), by decide +kernel, by decide, by decide, by decide⟩
theorem rs_fm101 : rs_fm 101 := ⟨List.mem_of_getElem? (i := 614) (by decide +kernel), List.mem_of_getElem? (i := 58) (by decide +kernel), rfl, (fun _ => List.mem_of_getElem? (i := 613) (by decide +kernel)), (fun _ => List.mem_of_getElem? (i := 26) (by decide +kernel)), (fun h => absurd h (by decide)), (fun h => absurd h (by decide)), by decide +kernel, by decide, by decide, by decide⟩
theorem rs_fm102 : rs_fm 102 := ⟨List.mem_of_getElem? (i := 606) (by decide +kernel), List.mem_of_getElem? (i := 58) (by decide +kernel), rfl, (fun _ => List.mem_of_getElem? (i := 605) (by decide +kernel)), (fun _ => List.mem_of_getElem? (i := 24) (by decide +kernel)), (fun h => absurd h (by decide)), (fun h => absurd h (by decide)), by decide +kernel, by decide, by decide, by decide⟩
theorem rs_fm103 : rs_fm 103 := ⟨List.mem_of_getElem? (i := 598) (by decide +kernel), List.mem_of_getElem? (i := 58) (by decide +kernel), rfl, (fun _ => List.mem_of_getElem? (i := 596) (by decide +kernel)), (fun _ => List.mem_of_getElem? (i := 597) (by decide +kernel)), (fun h => absurd h (by decide)), (fun h => absurd h (by decide)), by decide +kernel, by decide, by decide, by decide⟩
theorem rs_fm104 : rs_fm 104 := ⟨List.mem_of_getElem? (i := 630) (by decide +kernel), List.mem_of_getElem? (i := 58) (by decide +kernel), rfl, (fun _ => List.mem_of_getElem? (i := 628) (by decide +kernel)), (fun _ => List.mem_of_getElem? (i := 629) (by decide +kernel)), (fun h => absurd h (by decide)), (fun h => absurd h (by decide)), by decide +kernel, by decide, by decide, by decide⟩
theorem rs_fm105 : rs_fm 105 := ⟨List.mem_of_getElem? (i := 638) (by decide +kernel), List.mem_of_getElem? (i := 58) (by decide +kernel), rfl, (fun _ => List.mem_of_getElem? (i := 637) (by decide +kernel)), (fun _ => List.mem_of_getElem? (i := 30) (by decide +kernel)), (fun h => absurd h (by decide)), (fun h => absurd h (by decide)), by decide +kernel, by decide, by decide, by decide⟩
theorem rs_fm106 : rs_fm 106 := ⟨List.mem_of_getElem? (i := 634) (by decide +kernel), List.mem_of_getElem? (i := 58) (by decide +kernel), rfl, (fun _ => List.mem_of_getElem? (i := 632) (by decide +kernel)), (fun _ => List.mem_of_getElem? (i := 633) (by decide +kernel)), (fun h => absurd h (by decide)), (fun h => absurd h (by decide)), by decide +kernel, by decide, by decide, by decide⟩
theorem rs_fm107 : rs_fm 107 := ⟨List.mem_of_getElem? (i := 642) (by decide +kernel), List.mem_of_getElem? (i := 58) (by decide +kernel), rfl, (fun _ => List.mem_of_getElem? (i := 640) (by decide +kernel)), (fun _ => List.mem_of_getElem? (i := 641) (by decide +kernel)), (fun h => absurd h (by decide)), (fun h => absurd h (by decide)), by decide +kernel, by decide, by decide, by decide⟩
theorem rs_fm108 : rs_fm 108 := ⟨List.mem_of_getElem? (i := 646) (by decide +kernel), List.mem_of_getElem? (i := 58) (by decide +kernel), rfl, (fun _ => List.mem_of_getElem? (i := 644) (by decide +kernel)), (fun _ => List.mem_of_getElem? (i := 645) (by decide +kernel)), (fun h => absurd h (by decide)), (fun h => absurd h (by decide)), by decide +kernel, by decide, by decide, by decide⟩
theorem rs_fm109 : rs_fm 109 := ⟨List.mem_of_getElem? (i := 654) (by decide +kernel), List.mem_of_getElem? (i := 58) (by decide +kernel), rfl, (fun _ => List.mem_of_getElem? (i := 653) (by decide +kernel)), (fun _ => List.mem_of_getElem? (i := 31) (by decide +kernel)), (fun h => absurd h (by decide)), (fun h => absurd h (by decide)), by decide +kernel, by decide, by decide, by decide⟩
theorem rs_fm110 : rs_fm 110 := ⟨List.mem_of_getElem? (i := 650) (by decide +kernel), List.mem_of_getElem? (i := 58) (by decide +kernel), rfl, (fun _ => List.mem_of_getElem? (i := 648) (by decide +kernel)), (fun _ => List.mem_of_getElem? (i := 649) (by decide +kernel)), (fun h => absurd h (by decide)), (fun h => absurd h (by decide)), by decide +kernel, by decide, by decide, by decide⟩
theorem rs_fm111 : rs_fm 111 := ⟨List.mem_of_getElem? (i := 658) (by decide +kernel), List.mem_of_getElem? (i := 58) (by decide +kernel), rfl, (fun _ => List.mem_of_getElem? (i := 656) (by decide +kernel)), (fun _ => List.mem_of_getElem? (i := 657) (by decide +kernel)), (fun h => absurd h (by decide)), (fun h => absurd h (by decide)), by decide +kernel, by decide, by decide, by decide⟩
theorem rs_fm112 : rs_fm 112 := ⟨List.mem_of_getElem? (i := 662) (by decide +kernel), List.mem_of_getElem? (i := 58) (by decide +kernel), rfl, (fun _ => List.mem_of_getElem? (i := 660) (by decide +kernel)), (fun _ => List.mem_of_getElem? (i := 661) (by decide +kernel)), (fun h => absurd h (by decide)), (fun h => absurd h (by decide)), by decide +kernel, by decide, by decide, by decide⟩
theorem rs_fm113 : rs_fm 113 := ⟨List.mem_of_getElem? (i := 666) (by decide +kernel), List.mem_of_getElem? (i := 58) (by decide +kernel), rfl, (fun _ => List.mem_of_getElem? (i := 664) (by decide +kernel)), (fun _ => List.mem_of_getElem? (i := 665) (by decide +kernel)), (fun h => absurd h (by decide)), (fun h => absurd h (by decide)), by decide +kernel, by decide, by decide, by decide⟩
theorem rs_fm114 : rs_fm 114 := ⟨List.mem_of_getElem? (i := 670) (by decide +kernel), List.mem_of_getElem? (i := 58) (by decide +kernel), rfl, (fun _ => List.mem_of_getElem? (i := 668) (by decide +kernel)), (fun _ => List.mem_of_getElem? (i := 669) (by decide +kernel)), (fun h => absurd h (by decide)), (fun h => absurd h (by decide)), by decide +kernel, by decide, by decide, by decide⟩
theorem rs_fm115 : rs_fm 115 := ⟨List.mem_of_getElem? (i := 674) (by decide +kernel), List.mem_of_getElem? (i := 58) (by decide +kernel), rfl, (fun _ => List.mem_of_getElem? (i := 672) (by decide +kernel)), (fun _ => List.mem_of_getElem? (i := 673) (by decide +kernel)), (fun h => absurd h (by decide)), (fun h => absurd h (by decide)), by decide +kernel, by decide, by decide, by decide⟩
theorem rs_fm116 : rs_fm 116 := ⟨List.mem_of_getElem? (i := 678) (by decide +kernel), List.mem_of_getElem? (i := 58) (by decide +kernel), rfl, (fun _ => List.mem_of_getElem? (i := 676) (by decide +kernel)), (fun _ => List.mem_of_getElem? (i := 677) (by decide +kernel)), (fun h => absurd h (by decide)), (fun h => absurd h (by decide)), by decide +kernel, by decide, by decide, by decide⟩
theorem rs_fm117 : rs_fm 117 := ⟨List.mem_of_getElem? (i := 726) (by decide +kernel), List.mem_of_getElem? (i := 58) (by decide +kernel), rfl, (fun _ => List.mem_of_getElem? (i := 725) (by decide +kernel)), (fun _ => List.mem_of_getElem? (i := 40) (by decide +kernel)), (fun h => absurd h (by decide)), (fun h => absurd h (by decide)), by decide +kernel, by decide, by decide, by decide⟩
theorem rs_fm118 : rs_fm 118 := ⟨List.mem_of_getElem? (i := 706) (by decide +kernel), List.mem_of_getElem? (i := 58) (by decide +kernel), rfl, (fun _ => List.mem_of_getElem? (i := 705) (by decide +kernel)), (fun _ => List.mem_of_getElem? (i := 35) (by decide +kernel)), (fun h => absurd h (by decide)), (fun h => absurd h (by decide)), by decide +kernel, by decide, by decide, by decide⟩
theorem rs_fm119 : rs_fm 119 := ⟨List.mem_of_getElem? (i := 734) (by decide +kernel), List.mem_of_getElem? (i := 58) (by decide +kernel), rfl, (fun _ => List.mem_of_getElem? (i := 733) (by decide +kernel)), (fun _ => List.mem_of_getElem? (i := 42) (by decide +kernel)), (fun h => absurd h (by decide)), (fun h => absurd h (by decide)), by decide +kernel, by decide, by decide, by decide⟩
theorem rs_fm120 : rs_fm 120 := ⟨List.mem_of_getElem? (i := 738) (by decide +kernel), List.mem_of_getElem? (i := 58) (by decide +kernel), rfl, (fun _ => List.mem_of_getElem? (i := 737) (by decide +kernel)), (fun _ => List.mem_of_getElem? (i := 43) (by decide +kernel)), (fun h => absurd h (by decide)), (fun h => absurd h (by decide)), by decide +kernel, by decide, by decide, by decide⟩
theorem rs_fm121 : rs_fm 121 := ⟨List.mem_of_getElem? (i := 742) (by decide +kernel), List.mem_of_getElem? (i := 58) (by decide +kernel), rfl, (fun _ => List.mem_of_getElem? (i := 741) (by decide +kernel)), (fun _ => List.mem_of_getElem? (i := 44) (by decide +kernel)), (fun h => absurd h (by decide)), (fun h => absurd h (by decide)), by decide +kernel, by decide, by decide, by decide⟩
theorem rs_fm122 : rs_fm 122 := ⟨List.mem_of_getElem? (i := 730) (by decide +kernel), List.mem_of_getElem? (i := 58) (by decide +kernel), rfl, (fun _ => List.mem_of_getElem? (i := 729) (by decide +kernel)), (fun _ => List.mem_of_getElem? (i := 41) (by decide +kernel)), (fun h => absurd h (by decide)), (fun h => absurd h (by decide)), by decide +kernel, by decide, by decide, by decide⟩
theorem rs_fm123 : rs_fm 123 := ⟨List.mem_of_getElem? (i := 718) (by decide +kernel), List.mem_of_getElem? (i := 58) (by decide +kernel), rfl, (fun _ => List.mem_of_getElem? (i := 717) (by decide +kernel)), (fun _ => List.mem_of_getElem? (i := 38) (by decide +kernel)), (fun h => absurd h (by decide)), (fun h => absurd h (by decide)), by decide +kernel, by decide, by decide, by decide⟩
theorem rs_fm124 : rs_fm 124 := ⟨List.mem_of_getElem? (i := 714) (by decide +kernel), List.mem_of_getElem? (i := 58) (by decide +kernel), rfl, (fun _ => List.mem_of_getElem? (i := 713) (by decide +kernel)), (fun _ => List.mem_of_getElem? (i := 37) (by decide +kernel)), (fun h => absurd h (by decide)), (fun h => absurd h (by decide)), by decide +kernel, by decide, by decide, by decide⟩
theorem rs_fm125 : rs_fm 125 := ⟨List.mem_of_getElem? (i := 722) (by decide +kernel), List.mem_of_getElem? (i := 58) (by decide +kernel), rfl, (fun _ => List.mem_of_getElem? (i := 721) (by decide +kernel)), (fun _ => List.mem_of_getElem? (i := 39) (by decide +kernel)), (fun h => absurd h (by decide)), (fun h => absurd h (by decide)), by decide +kernel, by decide, by decide, by decide⟩
theorem rs_fm126 : rs_fm 126 := ⟨List.mem_of_getElem? (i := 710) (by decide +kernel), List.mem_of_getElem? (i := 58) (by decide +kernel), rfl, (fun _ => List.mem_of_getElem? (i := 709) (by decide +kernel)), (fun _ => List.mem_of_getElem? (i := 36) (by decide +kernel)), (fun h => absurd h (by decide)), (fun h => absurd h (by decide)), by decide +kernel, by decide, by decide, by decide⟩
theorem rs_fm127 : rs_fm 127 := ⟨List.mem_of_getElem? (i := 690) (by decide +kernel), List.mem_of_getElem? (i := 58) (by decide +kernel), rfl, (fun _ => List.mem_of_getElem? (i := 689) (by decide +kernel)), (fun _ => List.mem_of_getElem? (i := 32) (by decide +kernel)), (fun h => absurd h (by decide)), (fun h => absurd h (by decide)), by decide +kernel, by decide, by decide, by decide⟩
theorem rs_fm128 : rs_fm 128 := ⟨List.mem_of_getElem? (i := 682) (by decide +kernel), List.mem_of_getElem? (i := 58) (by decide +kernel), rfl, (fun _ => List.mem_of_getElem? (i := 680) (by decide +kernel)), (fun _ => List.mem_of_getElem? (i := 681) (by decide +kernel)), (fun h => absurd h (by decide)), (fun h => absurd h (by decide)), by decide +kernel, by decide, by decide, by decide⟩
theorem rs_fm129 : rs_fm 129 := ⟨List.mem_of_getElem? (i := 686) (by decide +kernel), List.mem_of_getElem? (i := 58) (by decide +kernel), rfl, (fun _ => List.mem_of_getElem? (i := 684) (by decide +kernel)), (fun _ => List.mem_of_getElem? (i := 685) (by decide +kernel)), (fun h => absurd h (by decide)), (fun h => absurd h (by decide)), by decide +kernel, by decide, by decide, by decide⟩
theorem rs_fm130 : rs_fm 130 := ⟨List.mem_of_getElem? (i := 702) (by decide +kernel), List.mem_of_getElem? (i := 58) (by decide +kernel), rfl, (fun _ => List.mem_of_getElem? (i := 701) (by decide +kernel)), (fun _ => List.mem_of_getElem? (i := 34) (by decide +kernel)), (fun h => absurd h (by decide)), (fun h => absurd h (by decide)), by decide +kernel, by decide, by decide, by decide⟩
theorem rs_fm131 : rs_fm 131 := ⟨List.mem_of_getElem? (i := 698) (by decide +kernel), List.mem_of_getElem? (i := 58) (by decide +kernel), rfl, (fun _ => List.mem_of_getElem? (i := 697) (by decide +kernel)), (fun _ => List.mem_of_getElem? (i := 33) (by decide +kernel)), (fun h => absurd h (by decide)), (fun h => absurd h (by decide)), by decide +kernel, by decide, by decide, by decide⟩
theorem rs_fm132 : rs_fm 132 := ⟨List.mem_of_getElem? (i := 694) (by decide +kernel), List.mem_of_getElem? (i := 58) (by decide +kernel), rfl, (fun _ => List.mem_of_getElem? (i := 692) (by decide +kernel)), (fun _ => List.mem_of_getElem? (i := 693) (by decide +kernel)), (fun h => absurd h (by decide)), (fun h => absurd h (by decide)), by decide +kernel, by decide, by decide, by decide⟩
theorem rs_fm133 : rs_fm 133 := ⟨List.mem_of_getElem? (i := 754) (by decide +kernel), List.mem_of_getElem? (i := 58) (by decide +kernel), rfl, (fun _ => List.mem_of_getElem? (i := 752) (by decide +kernel)), (fun _ => List.mem_of_getElem? (i := 753) (by decide +kernel)), (fun h => absurd h (by decide)), (fun h => absurd h (by decide)), by decide +kernel, by decide, by decide, by decide⟩
theorem rs_fm134 : rs_fm 134 := ⟨List.mem_of_getElem? (i := 750) (by decide +kernel), List.mem_of_getElem? (i := 58) (by decide +kernel), rfl, (fun _ => List.mem_of_getElem? (i := 749) (by decide +kernel)), (fun _ => List.mem_of_getElem? (i := 46) (by decide +kernel)), (fun h => absurd h (by decide)), (fun h => absurd h (by decide)), by decide +kernel, by decide, by decide, by decide⟩
theorem rs_fm135 : rs_fm 135 := ⟨List.mem_of_getElem? (i := 746) (by decide +kernel), List.mem_of_getElem? (i := 58) (by decide +kernel), rfl, (fun _ => List.mem_of_getElem? (i := 745) (by decide +kernel)), (fun _ => List.mem_of_getElem? (i := 45) (by decide +kernel)), (fun h => absurd h (by decide)), (fun h => absurd h (by decide)), by decide +kernel, by decide, by decide, by decide⟩
theorem rs_fm136 : rs_fm 136 := ⟨List.mem_of_getElem? (i := 762) (by decide +kernel), List.mem_of_getElem? (i := 58) (by decide +kernel), rfl, (fun _ => List.mem_of_getElem? (i := 761) (by decide +kernel)), (fun _ => List.mem_of_getElem? (i := 47) (by decide +kernel)), (fun h => absurd h (by decide)), (fun h => absurd h (by decide)), by decide +kernel, by decide, by decide, by decide⟩
theorem rs_fm137 : rs_fm 137 := ⟨List.mem_of_getElem? (i := 766) (by decide +kernel), List.mem_of_getElem? (i := 58) (by decide +kernel), rfl, (fun _ => List.mem_of_getElem? (i := 765) (by decide +kernel)), (fun _ => List.mem_of_getElem? (i := 48) (by decide +kernel)), (fun h => absurd h (by decide)), (fun h => absurd h (by decide)), by decide +kernel, by decide, by decide, by decide⟩
theorem rs_fm138 : rs_fm 138 := ⟨List.mem_of_getElem? (i := 758) (by decide +kernel), List.mem_of_getElem? (i := 58) (by decide +kernel), rfl, (fun _ => List.mem_of_getElem? (i := 756) (by decide +kernel)), (fun _ => List.mem_of_getElem? (i := 757) (by decide +kernel)), (fun h => absurd h (by decide)), (fun h => absurd h (by decide)), by decide +kernel, by decide, by decide, by decide⟩
theorem rs_fm139 : rs_fm 139 := ⟨List.mem_of_getElem? (i := 770) (by decide +kernel), List.mem_of_getElem? (i := 58) (by decide +kernel), rfl, (fun _ => List.mem_of_getElem? (i := 768) (by decide +kernel)), (fun _ => List.mem_of_getElem? (i := 769) (by decide +kernel)), (fun h => absurd h (by decide)), (fun h => absurd h (by decide)), by decide +kernel, by decide, by decide, by decide⟩
theorem rs_fm140 : rs_fm 140 := ⟨List.mem_of_getElem? (i := 774) (by decide +kernel), List.mem_of_getElem? (i := 58) (by decide +kernel), rfl, (fun _ => List.mem_of_getElem? (i := 772) (by decide +kernel)), (fun _ => List.mem_of_getElem? (i := 773) (by decide +kernel)), (fun h => absurd h (by decide)), (fun h => absurd h (by decide)), by decide +kernel, by decide, by decide, by decide⟩
theorem rs_fm141 : rs_fm 141 := ⟨List.mem_of_getElem? (i := 790) (by decide +kernel), List.mem_of_getElem? (i := 58) (by decide +kernel), rfl, (fun _ => List.mem_of_getElem? (i := 789) (by decide +kernel)), (fun _ => List.mem_of_getElem? (i := 51) (by decide +kernel)), (fun h => absurd h (by decide)), (fun h => absurd h (by decide)), by decide +kernel, by decide, by decide, by decide⟩
theorem rs_fm142 : rs_fm 142 := ⟨List.mem_of_getElem? (i := 786) (by decide +kernel), List.mem_of_getElem? (i := 58) (by decide +kernel), rfl, (fun _ => List.mem_of_getElem? (i := 785) (by decide +kernel)), (fun _ => List.mem_of_getElem? (i := 50) (by decide +kernel)), (fun h => absurd h (by decide)), (fun h => absurd h (by decide)), by decide +kernel, by decide, by decide, by decide⟩
theorem rs_fm143 : rs_fm 143 := ⟨List.mem_of_getElem? (i := 794) (by decide +kernel), List.mem_of_getElem? (i := 58) (by decide +kernel), rfl, (fun _ => List.mem_of_getElem? (i := 793) (by decide +kernel)), (fun _ => List.mem_of_getElem? (i := 52) (by decide +kernel)), (fun h => absurd h (by decide)), (fun h => absurd h (by decide)), by decide +kernel, by decide, by decide, by decide⟩
theorem rs_fm144 : rs_fm 144 := ⟨List.mem_of_getElem? (i := 782) (by decide +kernel), List.mem_of_getElem? (i := 58) (by decide +kernel), rfl, (fun _ => List.mem_of_getElem? (i := 781) (by decide +kernel)), (fun _ => List.mem_of_getElem? (i := 49) (by decide +kernel)), (fun h => absurd h (by decide)), (fun h => absurd h (by decide)), by decide +kernel, by decide, by decide, by decide⟩
theorem rs_fm145 : rs_fm 145 := ⟨List.mem_of_getElem? (i := 778) (by decide +kernel), List.mem_of_getElem? (i := 58) (by decide +kernel), rfl, (fun _ => List.mem_of_getElem? (i := 776) (by decide +kernel)), (fun _ => List.mem_of_getElem? (i := 777) (by decide +kernel)), (fun h => absurd h (by decide)), (fun h => absurd h (by decide)), by decide +kernel, by decide, by decide, by decide⟩
theorem rs_fm146 : rs_fm 146 := ⟨List.mem_of_getElem? (i := 798) (by decide +kernel), List.mem_of_getElem? (i := 58) (by decide +kernel), rfl, (fun _ => List.mem_of_getElem? (i := 796) (by decide +kernel)), (fun _ => List.mem_of_getElem? (i := 797) (by decide +kernel)), (fun h => absurd h (by decide)), (fun h => absurd h (by decide)), by decide +kernel, by decide, by decide, by decide⟩
theorem rs_fm147 : rs_fm 147 := ⟨List.mem_of_getElem? (i := 802) (by decide +kernel), List.mem_of_getElem? (i := 58) (by decide +kernel), rfl, (fun _ => List.mem_of_getElem? (i := 800) (by decide +kernel)), (fun _ => List.mem_of_getElem? (i := 801) (by decide +kernel)), (fun h => absurd h (by decide)), (fun h => absurd h (by decide)), by decide +kernel, by decide, by decide, by decide⟩
theorem rs_fm148 : rs_fm 148 := ⟨List.mem_of_getElem? (i := 806) (by decide +kernel), List.mem_of_getElem? (i := 58) (by decide +kernel), rfl, (fun _ => List.mem_of_getElem? (i := 804) (by decide +kernel)), (fun _ => List.mem_of_getElem? (i := 805) (by decide +kernel)), (fun h => absurd h (by decide)), (fun h => absurd h (by decide)), by decide +kernel, by decide, by decide, by decide⟩
theorem rs_fm149 : rs_fm 149 := ⟨List.mem_of_getElem? (i := 810) (by decide +kernel), List.mem_of_getElem? (i := 58) (by decide +kernel), rfl, (fun _ => List.mem_of_getElem? (i := 808) (by decide +kernel)), (fun _ => List.mem_of_getElem? (i := 809) (by decide +kernel)), (fun h => absurd h (by decide)), (fun h => absurd h (by decide)), by decide +kernel, by decide, by decide, by decide⟩
theorem rs_fm150 : rs_fm 150 := ⟨List.mem_of_getElem? (i := 818) (by decide +kernel), List.mem_of_getElem? (i := 58) (by decide +kernel), rfl, (fun _ => List.mem_of_getElem? (i := 817) (by decide +kernel)), (fun _ => List.mem_of_getElem? (i := 53) (by decide +kernel)), (fun h => absurd h (by decide)), (fun h => absurd h (by decide)), by decide +kernel, by decide, by decide, by decide⟩
theorem rs_fm151 : rs_fm 151 := ⟨List.mem_of_getElem? (i := 814) (by decide +kernel), List.mem_of_getElem? (i := 58) (by decide +kernel), rfl, (fun _ => List.mem_of_getElem? (i := 812) (by decide +kernel)), (fun _ => List.mem_of_getElem? (i := 813) (by decide +kernel)), (fun h => absurd h (by decide)), (fun h => absurd h (by decide)), by decide +kernel, by decide, by decide, by decide⟩
theorem rs_fm152 : rs_fm 152 := ⟨List.mem_of_getElem? (i := 822) (by decide +kernel), List.mem_of_getElem? (i := 58) (by decide +kernel), rfl, (fun _ => List.mem_of_getElem? (i := 820) (by decide +kernel)), (fun _ => List.mem_of_getElem? (i := 821) (by decide +kernel)), (fun h => absurd h (by decide)), (fun h => absurd h (by decide)), by decide +kernel, by decide, by decide, by decide⟩
theorem rs_fm153 : rs_fm 153 := ⟨List.mem_of_getElem? (i := 826) (by decide +kernel), List.mem_of_getElem? (i := 58) (by decide +kernel), rfl, (fun _ => List.mem_of_getElem? (i := 824) (by decide +kernel)), (fun _ => List.mem_of_getElem? (i := 825) (by decide +kernel)), (fun h => absurd h (by decide)), (fun h => absurd h (by decide)), by decide +kernel, by decide, by decide, by decide⟩
theorem rs_fm_ok : ∀ j, j < 154 → rs_fm j := by
  intro j hj
  match j, hj with
  | 0, _ => exact rs_fm0
  | 1, _ => exact rs_fm1
  | 2, _ => exact rs_fm2
  | 3, _ => exact rs_fm3
  | 4, _ => exact rs_fm4
  | 5, _ => exact rs_fm5
  | 6, _ => exact rs_fm6
  | 7, _ => exact rs_fm7
  | 8, _ => exact rs_fm8
  | 9, _ => exact rs_fm9
  | 10, _ => exact rs_fm10
  | 11, _ => exact rs_fm11
  | 12, _ => exact rs_fm12
  | 13, _ => exact rs_fm13
  | 14, _ => exact rs_fm14
  | 15, _ => exact rs_fm15
  | 16, _ => exact rs_fm16
  | 17, _ => exact rs_fm17
  | 18, _ => exact rs_fm18
  | 19, _ => exact rs_fm19
  | 20, _ => exact rs_fm20
  | 21, _ => exact rs_fm21
  | 22, _ => exact rs_fm22
  | 23, _ => exact rs_fm23
  | 24, _ => exact rs_fm24
  | 25, _ => exact rs_fm25
  | 26, _ => exact rs_fm26
  | 27, _ => exact rs_fm27
  | 28, _ => exact rs_fm28
  | 29, _ => exact rs_fm29
  | 30, _ => exact rs_fm30
  | 31, _ => exact rs_fm31
  | 32, _ => exact rs_fm32
  | 33, _ => exact rs_fm33
  | 34, _ => exact rs_fm34
  | 35, _ => exact rs_fm35
  | 36, _ => exact rs_fm36
  | 37, _ => exact rs_fm37
  | 38, _ => exact rs_fm38
  | 39, _ => exact rs_fm39
  | 40, _ => exact rs_fm40
  | 41, _ => exact rs_fm41
  | 42, _ => exact rs_fm42
  | 43, _ => exact rs_fm43
  | 44, _ => exact rs_fm44
  | 45, _ => exact rs_fm45
  | 46, _ => exact rs_fm46
  | 47, _ => exact rs_fm47
  | 48, _ => exact rs_fm48
  | 49, _ => exact rs_fm49
  | 50, _ => exact rs_fm50
  | 51, _ => exact rs_fm51
  | 52, _ => exact rs_fm52
  | 53, _ => exact rs_fm53
  | 54, _ => exact rs_fm54
  | 55, _ => exact rs_fm55
  | 56, _ => exact rs_fm56
  | 57, _ => exact rs_fm57
  | 58, _ => exact rs_fm58
  | 59, _ => exact rs_fm59
  | 60, _ => exact rs_fm60
  | 61, _ => exact rs_fm61
  | 62, _ => exact rs_fm62
  | 63, _ => exact rs_fm63
  | 64, _ => exact rs_fm64
  | 65, _ => exact rs_fm65
  | 66, _ => exact rs_fm66
  | 67, _ => exact rs_fm67
  | 68, _ => exact rs_fm68
  | 69, _ => exact rs_fm69
  | 70, _ => exact rs_fm70
  | 71, _ => exact rs_fm71
  | 72, _ => exact rs_fm72
  | 73, _ => exact rs_fm73
  | 74, _ => exact rs_fm74
  | 75, _ => exact rs_fm75
  | 76, _ => exact rs_fm76
  | 77, _ => exact rs_fm77
  | 78, _ => exact rs_fm78
  | 79, _ => exact rs_fm79
  | 80, _ => exact rs_fm80
  | 81, _ => exact rs_fm81
  | 82, _ => exact rs_fm82
  | 83, _ => exact rs_fm83
  | 84, _ => exact rs_fm84
  | 85, _ => exact rs_fm85
  | 86, _ => exact rs_fm86
  | 87, _ => exact rs_fm87
  | 88, _ => exact rs_fm88
  | 89, _ => exact rs_fm89
  | 90, _ => exact rs_fm90
  | 91, _ => exact rs_fm91
  | 92, _ => exact rs_fm92
  | 93, _ => exact rs_fm93
  | 94, _ => exact rs_fm94
  | 95, _ => exact rs_fm95
  | 96, _ => exact rs_fm96
  | 97, _ => exact rs_fm97
  | 98, _ => exact rs_fm98
  | 99, _ => exact rs_fm99
  | 100, _ => exact rs_fm100
  | 101, _ => exact rs_fm101
  | 102, _ => exact rs_fm102
  | 103, _ => exact rs_fm103
  | 104, _ => exact rs_fm104
  | 105, _ => exact rs_fm105
  | 106, _ => exact rs_fm106
  | 107, _ => exact rs_fm107
  | 108, _ => exact rs_fm108
  | 109, _ => exact rs_fm109
  | 110, _ => exact rs_fm110
  | 111, _ => exact rs_fm111
  | 112, _ => exact rs_fm112
  | 113, _ => exact rs_fm113
  | 114, _ => exact rs_fm114
  | 115, _ => exact rs_fm115
  | 116, _ => exact rs_fm116
  | 117, _ => exact rs_fm117
  | 118, _ => exact rs_fm118
  | 119, _ => exact rs_fm119
  | 120, _ => exact rs_fm120
  | 121, _ => exact rs_fm121
  | 122, _ => exact rs_fm122
  | 123, _ => exact rs_fm123
  | 124, _ => exact rs_fm124
  | 125, _ => exact rs_fm125
  | 126, _ => exact rs_fm126
  | 127, _ => exact rs_fm127
  | 128, _ => exact rs_fm128
  | 129, _ => exact rs_fm129
  | 130, _ => exact rs_fm130
  | 131, _ => exact rs_fm131
  | 132, _ => exact rs_fm132
  | 133, _ => exact rs_fm133
  | 134, _ => exact rs_fm134
  | 135, _ => exact rs_fm135
  | 136, _ => exact rs_fm136
  | 137, _ => exact rs_fm137
  | 138, _ => exact rs_fm138
  | 139, _ => exact rs_fm139
  | 140, _ => exact rs_fm140
  | 141, _ => exact rs_fm141
  | 142, _ => exact rs_fm142
  | 143, _ => exact rs_fm143
  | 144, _ => exact rs_fm144
  | 145, _ => exact rs_fm145
  | 146, _ => exact rs_fm146
  | 147, _ => exact rs_fm147
  | 148, _ => exact rs_fm148
  | 149, _ => exact rs_fm149
  | 150, _ => exact rs_fm150
  | 151, _ => exact rs_fm151
  | 152, _ => exact rs_fm152
  | 153, _ => exact rs_fm153
  | j + 154, hj => exact absurd hj (by omega)
def rs_nm (j : Nat) : MethodName := if j = 1000 then objectInit else if j = 1001 then Lib.Math.max.name else if j = 1002 then Lib.Math.min.name else if j = 1003 then arraycopyName else mt_y j
def rs_gm (q : (Nat × Nat) × Nat) : Prop := Cond.methodLink (mt_R q.1.1) q.1.2 (rs_nm q.2) ∈ lw_tbl ∧ (q.2 < 154 ∨ (1000 ≤ q.2 ∧ q.2 ≤ 1003))
theorem rs_gm0 : rs_gm ((0, 3), 1000) := ⟨List.mem_of_getElem? (i := 133) (by decide +kernel), by decide⟩
theorem rs_gm1 : rs_gm ((0, 19), 7) := ⟨List.mem_of_getElem? (i := 377) (by decide +kernel), by decide⟩
theorem rs_gm2 : rs_gm ((0, 23), 8) := ⟨List.mem_of_getElem? (i := 382) (by decide +kernel), by decide⟩
theorem rs_gm3 : rs_gm ((0, 26), 6) := ⟨List.mem_of_getElem? (i := 392) (by decide +kernel), by decide⟩
theorem rs_gm4 : rs_gm ((0, 30), 2) := ⟨List.mem_of_getElem? (i := 381) (by decide +kernel), by decide⟩
theorem rs_gm5 : rs_gm ((1, 3), 1000) := ⟨List.mem_of_getElem? (i := 74) (by decide +kernel), by decide⟩
theorem rs_gm6 : rs_gm ((1, 46), 11) := ⟨List.mem_of_getElem? (i := 208) (by decide +kernel), by decide⟩
theorem rs_gm7 : rs_gm ((1, 56), 1002) := ⟨List.mem_of_getElem? (i := 211) (by decide +kernel), by decide⟩
theorem rs_gm8 : rs_gm ((1, 62), 1003) := ⟨List.mem_of_getElem? (i := 214) (by decide +kernel), by decide⟩
theorem rs_gm9 : rs_gm ((1, 68), 12) := ⟨List.mem_of_getElem? (i := 233) (by decide +kernel), by decide⟩
theorem rs_gm10 : rs_gm ((1, 72), 15) := ⟨List.mem_of_getElem? (i := 181) (by decide +kernel), by decide⟩
theorem rs_gm11 : rs_gm ((1, 76), 1001) := ⟨List.mem_of_getElem? (i := 269) (by decide +kernel), by decide⟩
theorem rs_gm12 : rs_gm ((1, 79), 16) := ⟨List.mem_of_getElem? (i := 194) (by decide +kernel), by decide⟩
theorem rs_gm13 : rs_gm ((1, 82), 24) := ⟨List.mem_of_getElem? (i := 195) (by decide +kernel), by decide⟩
theorem rs_gm14 : rs_gm ((1, 86), 19) := ⟨List.mem_of_getElem? (i := 367) (by decide +kernel), by decide⟩
theorem rs_gm15 : rs_gm ((1, 89), 17) := ⟨List.mem_of_getElem? (i := 409) (by decide +kernel), by decide⟩
theorem rs_gm16 : rs_gm ((1, 92), 27) := ⟨List.mem_of_getElem? (i := 400) (by decide +kernel), by decide⟩
theorem rs_gm17 : rs_gm ((1, 95), 20) := ⟨List.mem_of_getElem? (i := 404) (by decide +kernel), by decide⟩
theorem rs_gm18 : rs_gm ((1, 98), 28) := ⟨List.mem_of_getElem? (i := 405) (by decide +kernel), by decide⟩
theorem rs_gm19 : rs_gm ((1, 101), 29) := ⟨List.mem_of_getElem? (i := 440) (by decide +kernel), by decide⟩
theorem rs_gm20 : rs_gm ((1, 104), 18) := ⟨List.mem_of_getElem? (i := 363) (by decide +kernel), by decide⟩
theorem rs_gm21 : rs_gm ((1, 107), 1) := ⟨List.mem_of_getElem? (i := 358) (by decide +kernel), by decide⟩
theorem rs_gm22 : rs_gm ((1, 112), 33) := ⟨List.mem_of_getElem? (i := 359) (by decide +kernel), by decide⟩
theorem rs_gm23 : rs_gm ((1, 118), 2) := ⟨List.mem_of_getElem? (i := 368) (by decide +kernel), by decide⟩
theorem rs_gm24 : rs_gm ((1, 122), 32) := ⟨List.mem_of_getElem? (i := 369) (by decide +kernel), by decide⟩
theorem rs_gm25 : rs_gm ((1, 125), 5) := ⟨List.mem_of_getElem? (i := 373) (by decide +kernel), by decide⟩
theorem rs_gm26 : rs_gm ((1, 129), 36) := ⟨List.mem_of_getElem? (i := 221) (by decide +kernel), by decide⟩
theorem rs_gm27 : rs_gm ((1, 133), 44) := ⟨List.mem_of_getElem? (i := 245) (by decide +kernel), by decide⟩
theorem rs_gm28 : rs_gm ((1, 136), 40) := ⟨List.mem_of_getElem? (i := 284) (by decide +kernel), by decide⟩
theorem rs_gm29 : rs_gm ((1, 140), 41) := ⟨List.mem_of_getElem? (i := 288) (by decide +kernel), by decide⟩
theorem rs_gm30 : rs_gm ((1, 143), 43) := ⟨List.mem_of_getElem? (i := 249) (by decide +kernel), by decide⟩
theorem rs_gm31 : rs_gm ((2, 1), 1000) := ⟨List.mem_of_getElem? (i := 66) (by decide +kernel), by decide⟩
theorem rs_gm32 : rs_gm ((2, 9), 9) := ⟨List.mem_of_getElem? (i := 71) (by decide +kernel), by decide⟩
theorem rs_gm33 : rs_gm ((2, 29), 0) := ⟨List.mem_of_getElem? (i := 130) (by decide +kernel), by decide⟩
theorem rs_gm34 : rs_gm ((2, 41), 75) := ⟨List.mem_of_getElem? (i := 170) (by decide +kernel), by decide⟩
theorem rs_gm35 : rs_gm ((2, 45), 15) := ⟨List.mem_of_getElem? (i := 173) (by decide +kernel), by decide⟩
theorem rs_gm36 : rs_gm ((2, 49), 19) := ⟨List.mem_of_getElem? (i := 177) (by decide +kernel), by decide⟩
theorem rs_gm37 : rs_gm ((2, 53), 16) := ⟨List.mem_of_getElem? (i := 182) (by decide +kernel), by decide⟩
theorem rs_gm38 : rs_gm ((2, 56), 24) := ⟨List.mem_of_getElem? (i := 186) (by decide +kernel), by decide⟩
theorem rs_gm39 : rs_gm ((2, 60), 25) := ⟨List.mem_of_getElem? (i := 190) (by decide +kernel), by decide⟩
theorem rs_gm40 : rs_gm ((2, 63), 77) := ⟨List.mem_of_getElem? (i := 196) (by decide +kernel), by decide⟩
theorem rs_gm41 : rs_gm ((2, 66), 35) := ⟨List.mem_of_getElem? (i := 217) (by decide +kernel), by decide⟩
theorem rs_gm42 : rs_gm ((2, 70), 13) := ⟨List.mem_of_getElem? (i := 229) (by decide +kernel), by decide⟩
theorem rs_gm43 : rs_gm ((2, 73), 20) := ⟨List.mem_of_getElem? (i := 237) (by decide +kernel), by decide⟩
theorem rs_gm44 : rs_gm ((2, 76), 37) := ⟨List.mem_of_getElem? (i := 241) (by decide +kernel), by decide⟩
theorem rs_gm45 : rs_gm ((2, 80), 38) := ⟨List.mem_of_getElem? (i := 253) (by decide +kernel), by decide⟩
theorem rs_gm46 : rs_gm ((2, 84), 21) := ⟨List.mem_of_getElem? (i := 265) (by decide +kernel), by decide⟩
theorem rs_gm47 : rs_gm ((2, 87), 79) := ⟨List.mem_of_getElem? (i := 276) (by decide +kernel), by decide⟩
theorem rs_gm48 : rs_gm ((2, 90), 39) := ⟨List.mem_of_getElem? (i := 280) (by decide +kernel), by decide⟩
theorem rs_gm49 : rs_gm ((2, 97), 12) := ⟨List.mem_of_getElem? (i := 300) (by decide +kernel), by decide⟩
theorem rs_gm50 : rs_gm ((2, 122), 10) := ⟨List.mem_of_getElem? (i := 204) (by decide +kernel), by decide⟩
theorem rs_gm51 : rs_gm ((2, 129), 42) := ⟨List.mem_of_getElem? (i := 329) (by decide +kernel), by decide⟩
theorem rs_gm52 : rs_gm ((2, 132), 43) := ⟨List.mem_of_getElem? (i := 337) (by decide +kernel), by decide⟩
theorem rs_gm53 : rs_gm ((2, 142), 81) := ⟨List.mem_of_getElem? (i := 342) (by decide +kernel), by decide⟩
theorem rs_gm54 : rs_gm ((2, 148), 29) := ⟨List.mem_of_getElem? (i := 396) (by decide +kernel), by decide⟩
theorem rs_gm55 : rs_gm ((2, 151), 76) := ⟨List.mem_of_getElem? (i := 413) (by decide +kernel), by decide⟩
theorem rs_gm56 : rs_gm ((2, 155), 3) := ⟨List.mem_of_getElem? (i := 420) (by decide +kernel), by decide⟩
theorem rs_gm57 : rs_gm ((2, 158), 45) := ⟨List.mem_of_getElem? (i := 428) (by decide +kernel), by decide⟩
theorem rs_gm58 : rs_gm ((2, 161), 30) := ⟨List.mem_of_getElem? (i := 432) (by decide +kernel), by decide⟩
theorem rs_gm59 : rs_gm ((2, 165), 31) := ⟨List.mem_of_getElem? (i := 436) (by decide +kernel), by decide⟩
theorem rs_gm60 : rs_gm ((2, 168), 26) := ⟨List.mem_of_getElem? (i := 441) (by decide +kernel), by decide⟩
theorem rs_gm61 : rs_gm ((2, 171), 14) := ⟨List.mem_of_getElem? (i := 449) (by decide +kernel), by decide⟩
theorem rs_gm62 : rs_gm ((2, 174), 32) := ⟨List.mem_of_getElem? (i := 461) (by decide +kernel), by decide⟩
theorem rs_gm63 : rs_gm ((2, 177), 22) := ⟨List.mem_of_getElem? (i := 462) (by decide +kernel), by decide⟩
theorem rs_gm64 : rs_gm ((2, 180), 27) := ⟨List.mem_of_getElem? (i := 466) (by decide +kernel), by decide⟩
theorem rs_gm65 : rs_gm ((2, 183), 80) := ⟨List.mem_of_getElem? (i := 467) (by decide +kernel), by decide⟩
theorem rs_gm66 : rs_gm ((2, 186), 23) := ⟨List.mem_of_getElem? (i := 475) (by decide +kernel), by decide⟩
theorem rs_gm67 : rs_gm ((2, 189), 34) := ⟨List.mem_of_getElem? (i := 354) (by decide +kernel), by decide⟩
theorem rs_gm68 : rs_gm ((2, 193), 2) := ⟨List.mem_of_getElem? (i := 350) (by decide +kernel), by decide⟩
theorem rs_gm69 : rs_gm ((2, 196), 1) := ⟨List.mem_of_getElem? (i := 346) (by decide +kernel), by decide⟩
theorem rs_gm70 : rs_gm ((2, 199), 4) := ⟨List.mem_of_getElem? (i := 495) (by decide +kernel), by decide⟩
theorem rs_gm71 : rs_gm ((2, 203), 78) := ⟨List.mem_of_getElem? (i := 200) (by decide +kernel), by decide⟩
theorem rs_gm72 : rs_gm ((3, 1), 1000) := ⟨List.mem_of_getElem? (i := 512) (by decide +kernel), by decide⟩
theorem rs_gm73 : rs_gm ((3, 32), 86) := ⟨List.mem_of_getElem? (i := 559) (by decide +kernel), by decide⟩
theorem rs_gm74 : rs_gm ((3, 36), 85) := ⟨List.mem_of_getElem? (i := 548) (by decide +kernel), by decide⟩
theorem rs_gm75 : rs_gm ((3, 40), 89) := ⟨List.mem_of_getElem? (i := 591) (by decide +kernel), by decide⟩
theorem rs_gm76 : rs_gm ((3, 43), 87) := ⟨List.mem_of_getElem? (i := 555) (by decide +kernel), by decide⟩
theorem rs_gm77 : rs_gm ((3, 46), 88) := ⟨List.mem_of_getElem? (i := 571) (by decide +kernel), by decide⟩
theorem rs_gm78 : rs_gm ((3, 49), 90) := ⟨List.mem_of_getElem? (i := 587) (by decide +kernel), by decide⟩
theorem rs_gm79 : rs_gm ((3, 53), 83) := ⟨List.mem_of_getElem? (i := 552) (by decide +kernel), by decide⟩
theorem rs_gm80 : rs_gm ((3, 57), 95) := ⟨List.mem_of_getElem? (i := 563) (by decide +kernel), by decide⟩
theorem rs_gm81 : rs_gm ((3, 61), 93) := ⟨List.mem_of_getElem? (i := 567) (by decide +kernel), by decide⟩
theorem rs_gm82 : rs_gm ((3, 65), 94) := ⟨List.mem_of_getElem? (i := 575) (by decide +kernel), by decide⟩
theorem rs_gm83 : rs_gm ((3, 68), 84) := ⟨List.mem_of_getElem? (i := 579) (by decide +kernel), by decide⟩
theorem rs_gm84 : rs_gm ((3, 71), 96) := ⟨List.mem_of_getElem? (i := 583) (by decide +kernel), by decide⟩
theorem rs_gm85 : rs_gm ((3, 74), 98) := ⟨List.mem_of_getElem? (i := 623) (by decide +kernel), by decide⟩
theorem rs_gm86 : rs_gm ((3, 78), 99) := ⟨List.mem_of_getElem? (i := 619) (by decide +kernel), by decide⟩
theorem rs_gm87 : rs_gm ((3, 81), 92) := ⟨List.mem_of_getElem? (i := 607) (by decide +kernel), by decide⟩
theorem rs_gm88 : rs_gm ((3, 84), 91) := ⟨List.mem_of_getElem? (i := 599) (by decide +kernel), by decide⟩
theorem rs_gm89 : rs_gm ((3, 87), 102) := ⟨List.mem_of_getElem? (i := 603) (by decide +kernel), by decide⟩
theorem rs_gm90 : rs_gm ((3, 90), 101) := ⟨List.mem_of_getElem? (i := 611) (by decide +kernel), by decide⟩
theorem rs_gm91 : rs_gm ((3, 94), 100) := ⟨List.mem_of_getElem? (i := 615) (by decide +kernel), by decide⟩
theorem rs_gm92 : rs_gm ((3, 98), 105) := ⟨List.mem_of_getElem? (i := 635) (by decide +kernel), by decide⟩
theorem rs_gm93 : rs_gm ((3, 101), 109) := ⟨List.mem_of_getElem? (i := 651) (by decide +kernel), by decide⟩
theorem rs_gm94 : rs_gm ((3, 107), 118) := ⟨List.mem_of_getElem? (i := 703) (by decide +kernel), by decide⟩
theorem rs_gm95 : rs_gm ((3, 110), 119) := ⟨List.mem_of_getElem? (i := 731) (by decide +kernel), by decide⟩
theorem rs_gm96 : rs_gm ((3, 113), 120) := ⟨List.mem_of_getElem? (i := 735) (by decide +kernel), by decide⟩
theorem rs_gm97 : rs_gm ((3, 116), 121) := ⟨List.mem_of_getElem? (i := 739) (by decide +kernel), by decide⟩
theorem rs_gm98 : rs_gm ((3, 120), 123) := ⟨List.mem_of_getElem? (i := 715) (by decide +kernel), by decide⟩
theorem rs_gm99 : rs_gm ((3, 123), 124) := ⟨List.mem_of_getElem? (i := 711) (by decide +kernel), by decide⟩
theorem rs_gm100 : rs_gm ((3, 126), 125) := ⟨List.mem_of_getElem? (i := 719) (by decide +kernel), by decide⟩
theorem rs_gm101 : rs_gm ((3, 129), 117) := ⟨List.mem_of_getElem? (i := 723) (by decide +kernel), by decide⟩
theorem rs_gm102 : rs_gm ((3, 132), 122) := ⟨List.mem_of_getElem? (i := 727) (by decide +kernel), by decide⟩
theorem rs_gm103 : rs_gm ((3, 135), 127) := ⟨List.mem_of_getElem? (i := 687) (by decide +kernel), by decide⟩
theorem rs_gm104 : rs_gm ((3, 138), 130) := ⟨List.mem_of_getElem? (i := 699) (by decide +kernel), by decide⟩
theorem rs_gm105 : rs_gm ((3, 141), 126) := ⟨List.mem_of_getElem? (i := 707) (by decide +kernel), by decide⟩
theorem rs_gm106 : rs_gm ((3, 144), 131) := ⟨List.mem_of_getElem? (i := 695) (by decide +kernel), by decide⟩
theorem rs_gm107 : rs_gm ((3, 147), 135) := ⟨List.mem_of_getElem? (i := 743) (by decide +kernel), by decide⟩
theorem rs_gm108 : rs_gm ((3, 150), 134) := ⟨List.mem_of_getElem? (i := 747) (by decide +kernel), by decide⟩
theorem rs_gm109 : rs_gm ((3, 153), 136) := ⟨List.mem_of_getElem? (i := 759) (by decide +kernel), by decide⟩
theorem rs_gm110 : rs_gm ((3, 156), 137) := ⟨List.mem_of_getElem? (i := 763) (by decide +kernel), by decide⟩
theorem rs_gm111 : rs_gm ((3, 162), 141) := ⟨List.mem_of_getElem? (i := 787) (by decide +kernel), by decide⟩
theorem rs_gm112 : rs_gm ((3, 165), 144) := ⟨List.mem_of_getElem? (i := 779) (by decide +kernel), by decide⟩
theorem rs_gm113 : rs_gm ((3, 168), 142) := ⟨List.mem_of_getElem? (i := 783) (by decide +kernel), by decide⟩
theorem rs_gm114 : rs_gm ((3, 171), 143) := ⟨List.mem_of_getElem? (i := 791) (by decide +kernel), by decide⟩
theorem rs_gm115 : rs_gm ((3, 174), 150) := ⟨List.mem_of_getElem? (i := 815) (by decide +kernel), by decide⟩
theorem rs_gm116 : rs_gm ((4, 9), 46) := ⟨List.mem_of_getElem? (i := 63) (by decide +kernel), by decide⟩
theorem rs_gm117 : rs_gm ((4, 12), 82) := ⟨List.mem_of_getElem? (i := 509) (by decide +kernel), by decide⟩
theorem rs_gm118 : rs_gm ((4, 13), 47) := ⟨List.mem_of_getElem? (i := 166) (by decide +kernel), by decide⟩
theorem rs_gm119 : rs_gm ((4, 17), 97) := ⟨List.mem_of_getElem? (i := 544) (by decide +kernel), by decide⟩
theorem rs_gm120 : rs_gm ((4, 18), 48) := ⟨List.mem_of_getElem? (i := 225) (by decide +kernel), by decide⟩
theorem rs_gm121 : rs_gm ((4, 22), 103) := ⟨List.mem_of_getElem? (i := 595) (by decide +kernel), by decide⟩
theorem rs_gm122 : rs_gm ((4, 23), 49) := ⟨List.mem_of_getElem? (i := 257) (by decide +kernel), by decide⟩
theorem rs_gm123 : rs_gm ((4, 27), 104) := ⟨List.mem_of_getElem? (i := 627) (by decide +kernel), by decide⟩
theorem rs_gm124 : rs_gm ((4, 28), 50) := ⟨List.mem_of_getElem? (i := 261) (by decide +kernel), by decide⟩
theorem rs_gm125 : rs_gm ((4, 31), 106) := ⟨List.mem_of_getElem? (i := 631) (by decide +kernel), by decide⟩
theorem rs_gm126 : rs_gm ((4, 32), 51) := ⟨List.mem_of_getElem? (i := 272) (by decide +kernel), by decide⟩
theorem rs_gm127 : rs_gm ((4, 35), 107) := ⟨List.mem_of_getElem? (i := 639) (by decide +kernel), by decide⟩
theorem rs_gm128 : rs_gm ((4, 36), 52) := ⟨List.mem_of_getElem? (i := 292) (by decide +kernel), by decide⟩
theorem rs_gm129 : rs_gm ((4, 39), 108) := ⟨List.mem_of_getElem? (i := 643) (by decide +kernel), by decide⟩
theorem rs_gm130 : rs_gm ((4, 40), 53) := ⟨List.mem_of_getElem? (i := 296) (by decide +kernel), by decide⟩
theorem rs_gm131 : rs_gm ((4, 43), 110) := ⟨List.mem_of_getElem? (i := 647) (by decide +kernel), by decide⟩
theorem rs_gm132 : rs_gm ((4, 44), 54) := ⟨List.mem_of_getElem? (i := 301) (by decide +kernel), by decide⟩
theorem rs_gm133 : rs_gm ((4, 47), 111) := ⟨List.mem_of_getElem? (i := 655) (by decide +kernel), by decide⟩
theorem rs_gm134 : rs_gm ((4, 48), 55) := ⟨List.mem_of_getElem? (i := 305) (by decide +kernel), by decide⟩
theorem rs_gm135 : rs_gm ((4, 51), 112) := ⟨List.mem_of_getElem? (i := 659) (by decide +kernel), by decide⟩
theorem rs_gm136 : rs_gm ((4, 52), 56) := ⟨List.mem_of_getElem? (i := 309) (by decide +kernel), by decide⟩
theorem rs_gm137 : rs_gm ((4, 55), 113) := ⟨List.mem_of_getElem? (i := 663) (by decide +kernel), by decide⟩
theorem rs_gm138 : rs_gm ((4, 56), 57) := ⟨List.mem_of_getElem? (i := 313) (by decide +kernel), by decide⟩
theorem rs_gm139 : rs_gm ((4, 59), 114) := ⟨List.mem_of_getElem? (i := 667) (by decide +kernel), by decide⟩
theorem rs_gm140 : rs_gm ((4, 60), 58) := ⟨List.mem_of_getElem? (i := 317) (by decide +kernel), by decide⟩
theorem rs_gm141 : rs_gm ((4, 63), 115) := ⟨List.mem_of_getElem? (i := 671) (by decide +kernel), by decide⟩
theorem rs_gm142 : rs_gm ((4, 64), 59) := ⟨List.mem_of_getElem? (i := 321) (by decide +kernel), by decide⟩
theorem rs_gm143 : rs_gm ((4, 68), 116) := ⟨List.mem_of_getElem? (i := 675) (by decide +kernel), by decide⟩
theorem rs_gm144 : rs_gm ((4, 69), 60) := ⟨List.mem_of_getElem? (i := 325) (by decide +kernel), by decide⟩
theorem rs_gm145 : rs_gm ((4, 72), 128) := ⟨List.mem_of_getElem? (i := 679) (by decide +kernel), by decide⟩
theorem rs_gm146 : rs_gm ((4, 73), 61) := ⟨List.mem_of_getElem? (i := 333) (by decide +kernel), by decide⟩
theorem rs_gm147 : rs_gm ((4, 76), 129) := ⟨List.mem_of_getElem? (i := 683) (by decide +kernel), by decide⟩
theorem rs_gm148 : rs_gm ((4, 77), 62) := ⟨List.mem_of_getElem? (i := 338) (by decide +kernel), by decide⟩
theorem rs_gm149 : rs_gm ((4, 80), 132) := ⟨List.mem_of_getElem? (i := 691) (by decide +kernel), by decide⟩
theorem rs_gm150 : rs_gm ((4, 81), 63) := ⟨List.mem_of_getElem? (i := 416) (by decide +kernel), by decide⟩
theorem rs_gm151 : rs_gm ((4, 84), 133) := ⟨List.mem_of_getElem? (i := 751) (by decide +kernel), by decide⟩
theorem rs_gm152 : rs_gm ((4, 85), 64) := ⟨List.mem_of_getElem? (i := 424) (by decide +kernel), by decide⟩
theorem rs_gm153 : rs_gm ((4, 88), 138) := ⟨List.mem_of_getElem? (i := 755) (by decide +kernel), by decide⟩
theorem rs_gm154 : rs_gm ((4, 89), 65) := ⟨List.mem_of_getElem? (i := 445) (by decide +kernel), by decide⟩
theorem rs_gm155 : rs_gm ((4, 92), 139) := ⟨List.mem_of_getElem? (i := 767) (by decide +kernel), by decide⟩
theorem rs_gm156 : rs_gm ((4, 93), 66) := ⟨List.mem_of_getElem? (i := 453) (by decide +kernel), by decide⟩
theorem rs_gm157 : rs_gm ((4, 96), 140) := ⟨List.mem_of_getElem? (i := 771) (by decide +kernel), by decide⟩
theorem rs_gm158 : rs_gm ((4, 97), 67) := ⟨List.mem_of_getElem? (i := 457) (by decide +kernel), by decide⟩
theorem rs_gm159 : rs_gm ((4, 100), 145) := ⟨List.mem_of_getElem? (i := 775) (by decide +kernel), by decide⟩
theorem rs_gm160 : rs_gm ((4, 101), 68) := ⟨List.mem_of_getElem? (i := 471) (by decide +kernel), by decide⟩
theorem rs_gm161 : rs_gm ((4, 104), 146) := ⟨List.mem_of_getElem? (i := 795) (by decide +kernel), by decide⟩
theorem rs_gm162 : rs_gm ((4, 105), 69) := ⟨List.mem_of_getElem? (i := 479) (by decide +kernel), by decide⟩
theorem rs_gm163 : rs_gm ((4, 108), 147) := ⟨List.mem_of_getElem? (i := 799) (by decide +kernel), by decide⟩
theorem rs_gm164 : rs_gm ((4, 109), 70) := ⟨List.mem_of_getElem? (i := 483) (by decide +kernel), by decide⟩
theorem rs_gm165 : rs_gm ((4, 112), 148) := ⟨List.mem_of_getElem? (i := 803) (by decide +kernel), by decide⟩
theorem rs_gm166 : rs_gm ((4, 113), 71) := ⟨List.mem_of_getElem? (i := 487) (by decide +kernel), by decide⟩
theorem rs_gm167 : rs_gm ((4, 116), 149) := ⟨List.mem_of_getElem? (i := 807) (by decide +kernel), by decide⟩
theorem rs_gm168 : rs_gm ((4, 117), 72) := ⟨List.mem_of_getElem? (i := 491) (by decide +kernel), by decide⟩
theorem rs_gm169 : rs_gm ((4, 120), 151) := ⟨List.mem_of_getElem? (i := 811) (by decide +kernel), by decide⟩
theorem rs_gm170 : rs_gm ((4, 121), 73) := ⟨List.mem_of_getElem? (i := 499) (by decide +kernel), by decide⟩
theorem rs_gm171 : rs_gm ((4, 124), 152) := ⟨List.mem_of_getElem? (i := 819) (by decide +kernel), by decide⟩
theorem rs_gm172 : rs_gm ((4, 125), 74) := ⟨List.mem_of_getElem? (i := 503) (by decide +kernel), by decide⟩
theorem rs_gm173 : rs_gm ((4, 128), 153) := ⟨List.mem_of_getElem? (i := 823) (by decide +kernel), by decide⟩
theorem rs_gm_c0 : ∀ q ∈ [((0, 3), 1000), ((0, 19), 7), ((0, 23), 8), ((0, 26), 6), ((0, 30), 2), ((1, 3), 1000), ((1, 46), 11), ((1, 56), 1002), ((1, 62), 1003), ((1, 68), 12), ((1, 72), 15), ((1, 76), 1001), ((1, 79), 16), ((1, 82), 24), ((1, 86), 19), ((1, 89), 17), ((1, 92), 27), ((1, 95), 20), ((1, 98), 28), ((1, 101), 29)], rs_gm q := List.forall_mem_cons.mpr ⟨rs_gm0, List.forall_mem_cons.mpr ⟨rs_gm1, List.forall_mem_cons.mpr ⟨rs_gm2, List.forall_mem_cons.mpr ⟨rs_gm3, List.forall_mem_cons.mpr ⟨rs_gm4, List.forall_mem_cons.mpr ⟨rs_gm5, List.forall_mem_cons.mpr ⟨rs_gm6, List.forall_mem_cons.mpr ⟨rs_gm7, List.forall_mem_cons.mpr ⟨rs_gm8, List.forall_mem_cons.mpr ⟨rs_gm9, List.forall_mem_cons.mpr ⟨rs_gm10, List.forall_mem_cons.mpr ⟨rs_gm11, List.forall_mem_cons.mpr ⟨rs_gm12, List.forall_mem_cons.mpr ⟨rs_gm13, List.forall_mem_cons.mpr ⟨rs_gm14, List.forall_mem_cons.mpr ⟨rs_gm15, List.forall_mem_cons.mpr ⟨rs_gm16, List.forall_mem_cons.mpr ⟨rs_gm17, List.forall_mem_cons.mpr ⟨rs_gm18, List.forall_mem_cons.mpr ⟨rs_gm19, fun _ h => absurd h List.not_mem_nil⟩⟩⟩⟩⟩⟩⟩⟩⟩⟩⟩⟩⟩⟩⟩⟩⟩⟩⟩⟩
theorem rs_gm_c1 : ∀ q ∈ [((1, 104), 18), ((1, 107), 1), ((1, 112), 33), ((1, 118), 2), ((1, 122), 32), ((1, 125), 5), ((1, 129), 36), ((1, 133), 44), ((1, 136), 40), ((1, 140), 41), ((1, 143), 43), ((2, 1), 1000), ((2, 9), 9), ((2, 29), 0), ((2, 41), 75), ((2, 45), 15), ((2, 49), 19), ((2, 53), 16), ((2, 56), 24), ((2, 60), 25)], rs_gm q := List.forall_mem_cons.mpr ⟨rs_gm20, List.forall_mem_cons.mpr ⟨rs_gm21, List.forall_mem_cons.mpr ⟨rs_gm22, List.forall_mem_cons.mpr ⟨rs_gm23, List.forall_mem_cons.mpr ⟨rs_gm24, List.forall_mem_cons.mpr ⟨rs_gm25, List.forall_mem_cons.mpr ⟨rs_gm26, List.forall_mem_cons.mpr ⟨rs_gm27, List.forall_mem_cons.mpr ⟨rs_gm28, List.forall_mem_cons.mpr ⟨rs_gm29, List.forall_mem_cons.mpr ⟨rs_gm30, List.forall_mem_cons.mpr ⟨rs_gm31, List.forall_mem_cons.mpr ⟨rs_gm32, List.forall_mem_cons.mpr ⟨rs_gm33, List.forall_mem_cons.mpr ⟨rs_gm34, List.forall_mem_cons.mpr ⟨rs_gm35, List.forall_mem_cons.mpr ⟨rs_gm36, List.forall_mem_cons.mpr ⟨rs_gm37, List.forall_mem_cons.mpr ⟨rs_gm38, List.forall_mem_cons.mpr ⟨rs_gm39, fun _ h => absurd h List.not_mem_nil⟩⟩⟩⟩⟩⟩⟩⟩⟩⟩⟩⟩⟩⟩⟩⟩⟩⟩⟩⟩
theorem rs_gm_c2 : ∀ q ∈ [((2, 63), 77), ((2, 66), 35), ((2, 70), 13), ((2, 73), 20), ((2, 76), 37), ((2, 80), 38), ((2, 84), 21), ((2, 87), 79), ((2, 90), 39), ((2, 97), 12), ((2, 122), 10), ((2, 129), 42), ((2, 132), 43), ((2, 142), 81), ((2, 148), 29), ((2, 151), 76), ((2, 155), 3), ((2, 158), 45), ((2, 161), 30), ((2, 165), 31)], rs_gm q := List.forall_mem_cons.mpr ⟨rs_gm40, List.forall_mem_cons.mpr ⟨rs_gm41, List.forall_mem_cons.mpr ⟨rs_gm42, List.forall_mem_cons.mpr ⟨rs_gm43, List.forall_mem_cons.mpr ⟨rs_gm44, List.forall_mem_cons.mpr ⟨rs_gm45, List.forall_mem_cons.mpr ⟨rs_gm46, List.forall_mem_cons.mpr ⟨rs_gm47, List.forall_mem_cons.mpr ⟨rs_gm48, List.forall_mem_cons.mpr ⟨rs_gm49, List.forall_mem_cons.mpr ⟨rs_gm50, List.forall_mem_cons.mpr ⟨rs_gm51, List.forall_mem_cons.mpr ⟨rs_gm52, List.forall_mem_cons.mpr ⟨rs_gm53, List.forall_mem_cons.mpr ⟨rs_gm54, List.forall_mem_cons.mpr ⟨rs_gm55, List.forall_mem_cons.mpr ⟨rs_gm56, List.forall_mem_cons.mpr ⟨rs_gm57, List.forall_mem_cons.mpr ⟨rs_gm58, List.forall_mem_cons.mpr ⟨rs_gm59, fun _ h => absurd h List.not_mem_nil⟩⟩⟩⟩⟩⟩⟩⟩⟩⟩⟩⟩⟩⟩⟩⟩⟩⟩⟩⟩
theorem rs_gm_c3 : ∀ q ∈ [((2, 168), 26), ((2, 171), 14), ((2, 174), 32), ((2, 177), 22), ((2, 180), 27), ((2, 183), 80), ((2, 186), 23), ((2, 189), 34), ((2, 193), 2), ((2, 196), 1), ((2, 199), 4), ((2, 203), 78), ((3, 1), 1000), ((3, 32), 86), ((3, 36), 85), ((3, 40), 89), ((3, 43), 87), ((3, 46), 88), ((3, 49), 90), ((3, 53), 83)], rs_gm q := List.forall_mem_cons.mpr ⟨rs_gm60, List.forall_mem_cons.mpr ⟨rs_gm61, List.forall_mem_cons.mpr ⟨rs_gm62, List.forall_mem_cons.mpr ⟨rs_gm63, List.forall_mem_cons.mpr ⟨rs_gm64, List.forall_mem_cons.mpr ⟨rs_gm65, List.forall_mem_cons.mpr ⟨rs_gm66, List.forall_mem_cons.mpr ⟨rs_gm67, List.forall_mem_cons.mpr ⟨rs_gm68, List.forall_mem_cons.mpr ⟨rs_gm69, List.forall_mem_cons.mpr ⟨rs_gm70, List.forall_mem_cons.mpr ⟨rs_gm71, List.forall_mem_cons.mpr ⟨rs_gm72, List.forall_mem_cons.mpr ⟨rs_gm73, List.forall_mem_cons.mpr ⟨rs_gm74, List.forall_mem_cons.mpr ⟨rs_gm75, List.forall_mem_cons.mpr ⟨rs_gm76, List.forall_mem_cons.mpr ⟨rs_gm77, List.forall_mem_cons.mpr ⟨rs_gm78, List.forall_mem_cons.mpr ⟨rs_gm79, fun _ h => absurd h List.not_mem_nil⟩⟩⟩⟩⟩⟩⟩⟩⟩⟩⟩⟩⟩⟩⟩⟩⟩⟩⟩⟩
theorem rs_gm_c4 : ∀ q ∈ [((3, 57), 95), ((3, 61), 93), ((3, 65), 94), ((3, 68), 84), ((3, 71), 96), ((3, 74), 98), ((3, 78), 99), ((3, 81), 92), ((3, 84), 91), ((3, 87), 102), ((3, 90), 101), ((3, 94), 100), ((3, 98), 105), ((3, 101), 109), ((3, 107), 118), ((3, 110), 119), ((3, 113), 120), ((3, 116), 121), ((3, 120), 123), ((3, 123), 124)], rs_gm q := List.forall_mem_cons.mpr ⟨rs_gm80, List.forall_mem_cons.mpr ⟨rs_gm81, List.forall_mem_cons.mpr ⟨rs_gm82, List.forall_mem_cons.mpr ⟨rs_gm83, List.forall_mem_cons.mpr ⟨rs_gm84, List.forall_mem_cons.mpr ⟨rs_gm85, List.forall_mem_cons.mpr ⟨rs_gm86, List.forall_mem_cons.mpr ⟨rs_gm87, List.forall_mem_cons.mpr ⟨rs_gm88, List.forall_mem_cons.mpr ⟨rs_gm89, List.forall_mem_cons.mpr ⟨rs_gm90, List.forall_mem_cons.mpr ⟨rs_gm91, List.forall_mem_cons.mpr ⟨rs_gm92, List.forall_mem_cons.mpr ⟨rs_gm93, List.forall_mem_cons.mpr ⟨rs_gm94, List.forall_mem_cons.mpr ⟨rs_gm95, List.forall_mem_cons.mpr ⟨rs_gm96, List.forall_mem_cons.mpr ⟨rs_gm97, List.forall_mem_cons.mpr ⟨rs_gm98, List.forall_mem_cons.mpr ⟨rs_gm99, fun _ h => absurd h List.not_mem_nil⟩⟩⟩⟩⟩⟩⟩⟩⟩⟩⟩⟩⟩⟩⟩⟩⟩⟩⟩⟩
theorem rs_gm_c5 : ∀ q ∈ [((3, 126), 125), ((3, 129), 117), ((3, 132), 122), ((3, 135), 127), ((3, 138), 130), ((3, 141), 126), ((3, 144), 131), ((3, 147), 135), ((3, 150), 134), ((3, 153), 136), ((3, 156), 137), ((3, 162), 141), ((3, 165), 144), ((3, 168), 142), ((3, 171), 143), ((3, 174), 150), ((4, 9), 46), ((4, 12), 82), ((4, 13), 47), ((4, 17), 97)], rs_gm q := List.forall_mem_cons.mpr ⟨rs_gm100, List.forall_mem_cons.mpr ⟨rs_gm101, List.forall_mem_cons.mpr ⟨rs_gm102, List.forall_mem_cons.mpr ⟨rs_gm103, List.forall_mem_cons.mpr ⟨rs_gm104, List.forall_mem_cons.mpr ⟨rs_gm105, List.forall_mem_cons.mpr ⟨rs_gm106, List.forall_mem_cons.mpr ⟨rs_gm107, List.forall_mem_cons.mpr ⟨rs_gm108, List.forall_mem_cons.mpr ⟨rs_gm109, List.forall_mem_cons.mpr ⟨rs_gm110, List.forall_mem_cons.mpr ⟨rs_gm111, List.forall_mem_cons.mpr ⟨rs_gm112, List.forall_mem_cons.mpr ⟨rs_gm113, List.forall_mem_cons.mpr ⟨rs_gm114, List.forall_mem_cons.mpr ⟨rs_gm115, List.forall_mem_cons.mpr ⟨rs_gm116, List.forall_mem_cons.mpr ⟨rs_gm117, List.forall_mem_cons.mpr ⟨rs_gm118, List.forall_mem_cons.mpr ⟨rs_gm119, fun _ h => absurd h List.not_mem_nil⟩⟩⟩⟩⟩⟩⟩⟩⟩⟩⟩⟩⟩⟩⟩⟩⟩⟩⟩⟩
theorem rs_gm_c6 : ∀ q ∈ [((4, 18), 48), ((4, 22), 103), ((4, 23), 49), ((4, 27), 104), ((4, 28), 50), ((4, 31), 106), ((4, 32), 51), ((4, 35), 107), ((4, 36), 52), ((4, 39), 108), ((4, 40), 53), ((4, 43), 110), ((4, 44), 54), ((4, 47), 111), ((4, 48), 55), ((4, 51), 112), ((4, 52), 56), ((4, 55), 113), ((4, 56), 57), ((4, 59), 114)], rs_gm q := List.forall_mem_cons.mpr ⟨rs_gm120, List.forall_mem_cons.mpr ⟨rs_gm121, List.forall_mem_cons.mpr ⟨rs_gm122, List.forall_mem_cons.mpr ⟨rs_gm123, List.forall_mem_cons.mpr ⟨rs_gm124, List.forall_mem_cons.mpr ⟨rs_gm125, List.forall_mem_cons.mpr ⟨rs_gm126, List.forall_mem_cons.mpr ⟨rs_gm127, List.forall_mem_cons.mpr ⟨rs_gm128, List.forall_mem_cons.mpr ⟨rs_gm129, List.forall_mem_cons.mpr ⟨rs_gm130, List.forall_mem_cons.mpr ⟨rs_gm131, List.forall_mem_cons.mpr ⟨rs_gm132, List.forall_mem_cons.mpr ⟨rs_gm133, List.forall_mem_cons.mpr ⟨rs_gm134, List.forall_mem_cons.mpr ⟨rs_gm135, List.forall_mem_cons.mpr ⟨rs_gm136, List.forall_mem_cons.mpr ⟨rs_gm137, List.forall_mem_cons.mpr ⟨rs_gm138, List.forall_mem_cons.mpr ⟨rs_gm139, fun _ h => absurd h List.not_mem_nil⟩⟩⟩⟩⟩⟩⟩⟩⟩⟩⟩⟩⟩⟩⟩⟩⟩⟩⟩⟩
theorem rs_gm_c7 : ∀ q ∈ [((4, 60), 58), ((4, 63), 115), ((4, 64), 59), ((4, 68), 116), ((4, 69), 60), ((4, 72), 128), ((4, 73), 61), ((4, 76), 129), ((4, 77), 62), ((4, 80), 132), ((4, 81), 63), ((4, 84), 133), ((4, 85), 64), ((4, 88), 138), ((4, 89), 65), ((4, 92), 139), ((4, 93), 66), ((4, 96), 140), ((4, 97), 67), ((4, 100), 145)], rs_gm q := List.forall_mem_cons.mpr ⟨rs_gm140, List.forall_mem_cons.mpr ⟨rs_gm141, List.forall_mem_cons.mpr ⟨rs_gm142, List.forall_mem_cons.mpr ⟨rs_gm143, List.forall_mem_cons.mpr ⟨rs_gm144, List.forall_mem_cons.mpr ⟨rs_gm145, List.forall_mem_cons.mpr ⟨rs_gm146, List.forall_mem_cons.mpr ⟨rs_gm147, List.forall_mem_cons.mpr ⟨rs_gm148, List.forall_mem_cons.mpr ⟨rs_gm149, List.forall_mem_cons.mpr ⟨rs_gm150, List.forall_mem_cons.mpr ⟨rs_gm151, List.forall_mem_cons.mpr ⟨rs_gm152, List.forall_mem_cons.mpr ⟨rs_gm153, List.forall_mem_cons.mpr ⟨rs_gm154, List.forall_mem_cons.mpr ⟨rs_gm155, List.forall_mem_cons.mpr ⟨rs_gm156, List.forall_mem_cons.mpr ⟨rs_gm157, List.forall_mem_cons.mpr ⟨rs_gm158, List.forall_mem_cons.mpr ⟨rs_gm159, fun _ h => absurd h List.not_mem_nil⟩⟩⟩⟩⟩⟩⟩⟩⟩⟩⟩⟩⟩⟩⟩⟩⟩⟩⟩⟩
theorem rs_gm_c8 : ∀ q ∈ [((4, 101), 68), ((4, 104), 146), ((4, 105), 69), ((4, 108), 147), ((4, 109), 70), ((4, 112), 148), ((4, 113), 71), ((4, 116), 149), ((4, 117), 72), ((4, 120), 151), ((4, 121), 73), ((4, 124), 152), ((4, 125), 74), ((4, 128), 153)], rs_gm q := List.forall_mem_cons.mpr ⟨rs_gm160, List.forall_mem_cons.mpr ⟨rs_gm161, List.forall_mem_cons.mpr ⟨rs_gm162, List.forall_mem_cons.mpr ⟨rs_gm163, List.forall_mem_cons.mpr ⟨rs_gm164, List.forall_mem_cons.mpr ⟨rs_gm165, List.forall_mem_cons.mpr ⟨rs_gm166, List.forall_mem_cons.mpr ⟨rs_gm167, List.forall_mem_cons.mpr ⟨rs_gm168, List.forall_mem_cons.mpr ⟨rs_gm169, List.forall_mem_cons.mpr ⟨rs_gm170, List.forall_mem_cons.mpr ⟨rs_gm171, List.forall_mem_cons.mpr ⟨rs_gm172, List.forall_mem_cons.mpr ⟨rs_gm173, fun _ h => absurd h List.not_mem_nil⟩⟩⟩⟩⟩⟩⟩⟩⟩⟩⟩⟩⟩⟩
theorem rs_gm_all : ∀ q ∈ rs_ML, rs_gm q := by
  have h : ∀ q ∈ ([((0, 3), 1000), ((0, 19), 7), ((0, 23), 8), ((0, 26), 6), ((0, 30), 2), ((1, 3), 1000), ((1, 46), 11), ((1, 56), 1002), ((1, 62), 1003), ((1, 68), 12), ((1, 72), 15), ((1, 76), 1001), ((1, 79), 16), ((1, 82), 24), ((1, 86), 19), ((1, 89), 17), ((1, 92), 27), ((1, 95), 20), ((1, 98), 28), ((1, 101), 29)] ++ ([((1, 104), 18), ((1, 107), 1), ((1, 112), 33), ((1, 118), 2), ((1, 122), 32), ((1, 125), 5), ((1, 129), 36), ((1, 133), 44), ((1, 136), 40), ((1, 140), 41), ((1, 143), 43), ((2, 1), 1000), ((2, 9), 9), ((2, 29), 0), ((2, 41), 75), ((2, 45), 15), ((2, 49), 19), ((2, 53), 16), ((2, 56), 24), ((2, 60), 25)] ++ ([((2, 63), 77), ((2, 66), 35), ((2, 70), 13), ((2, 73), 20), ((2, 76), 37), ((2, 80), 38), ((2, 84), 21), ((2, 87), 79), ((2, 90), 39), ((2, 97), 12), ((2, 122), 10), ((2, 129), 42), ((2, 132), 43), ((2, 142), 81), ((2, 148), 29), ((2, 151), 76), ((2, 155), 3), ((2, 158), 45), ((2, 161), 30), ((2, 165), 31)] ++ ([((2, 168), 26), ((2, 171), 14), ((2, 174), 32), ((2, 177), 22), ((2, 180), 27), ((2, 183), 80), ((2, 186), 23), ((2, 189), 34), ((2, 193), 2), ((2, 196), 1), ((2, 199), 4), ((2, 203), 78), ((3, 1), 1000), ((3, 32), 86), ((3, 36), 85), ((3, 40), 89), ((3, 43), 87), ((3, 46), 88), ((3, 49), 90), ((3, 53), 83)] ++ ([((3, 57), 95), ((3, 61), 93), ((3, 65), 94), ((3, 68), 84), ((3, 71), 96), ((3, 74), 98), ((3, 78), 99), ((3, 81), 92), ((3, 84), 91), ((3, 87), 102), ((3, 90), 101), ((3, 94), 100), ((3, 98), 105), ((3, 101), 109), ((3, 107), 118), ((3, 110), 119), ((3, 113), 120), ((3, 116), 121), ((3, 120), 123), ((3, 123), 124)] ++ ([((3, 126), 125), ((3, 129), 117), ((3, 132), 122), ((3, 135), 127), ((3, 138), 130), ((3, 141), 126), ((3, 144), 131), ((3, 147), 135), ((3, 150), 134), ((3, 153), 136), ((3, 156), 137), ((3, 162), 141), ((3, 165), 144), ((3, 168), 142), ((3, 171), 143), ((3, 174), 150), ((4, 9), 46), ((4, 12), 82), ((4, 13), 47), ((4, 17), 97)] ++ ([((4, 18), 48), ((4, 22), 103), ((4, 23), 49), ((4, 27), 104), ((4, 28), 50), ((4, 31), 106), ((4, 32), 51), ((4, 35), 107), ((4, 36), 52), ((4, 39), 108), ((4, 40), 53), ((4, 43), 110), ((4, 44), 54), ((4, 47), 111), ((4, 48), 55), ((4, 51), 112), ((4, 52), 56), ((4, 55), 113), ((4, 56), 57), ((4, 59), 114)] ++ ([((4, 60), 58), ((4, 63), 115), ((4, 64), 59), ((4, 68), 116), ((4, 69), 60), ((4, 72), 128), ((4, 73), 61), ((4, 76), 129), ((4, 77), 62), ((4, 80), 132), ((4, 81), 63), ((4, 84), 133), ((4, 85), 64), ((4, 88), 138), ((4, 89), 65), ((4, 92), 139), ((4, 93), 66), ((4, 96), 140), ((4, 97), 67), ((4, 100), 145)] ++ ([((4, 101), 68), ((4, 104), 146), ((4, 105), 69), ((4, 108), 147), ((4, 109), 70), ((4, 112), 148), ((4, 113), 71), ((4, 116), 149), ((4, 117), 72), ((4, 120), 151), ((4, 121), 73), ((4, 124), 152), ((4, 125), 74), ((4, 128), 153)]))))))))), rs_gm q := List.forall_mem_append.mpr ⟨rs_gm_c0, List.forall_mem_append.mpr ⟨rs_gm_c1, List.forall_mem_append.mpr ⟨rs_gm_c2, List.forall_mem_append.mpr ⟨rs_gm_c3, List.forall_mem_append.mpr ⟨rs_gm_c4, List.forall_mem_append.mpr ⟨rs_gm_c5, List.forall_mem_append.mpr ⟨rs_gm_c6, List.forall_mem_append.mpr ⟨rs_gm_c7, rs_gm_c8⟩⟩⟩⟩⟩⟩⟩⟩
  exact h
def rs_gf (q : (Nat × Nat) × Nat × Nat) : Prop := Cond.fieldLink (mt_R q.1.1) q.1.2 (mt_T q.2.1 q.2.2).1 (mt_T q.2.1 q.2.2).2.1 (mt_T q.2.1 q.2.2).2.2.1 ∈ lw_tbl ∧ q.2.1 < 4 ∧ q.2.2 < mt_N q.2.1
theorem rs_gf0 : rs_gf ((0, 9), 0, 0) := ⟨List.mem_of_getElem? (i := 134) (by decide +kernel), by decide, by decide⟩
theorem rs_gf1 : rs_gf ((0, 15), 0, 1) := ⟨List.mem_of_getElem? (i := 135) (by decide +kernel), by decide, by decide⟩
theorem rs_gf2 : rs_gf ((1, 9), 1, 1) := ⟨List.mem_of_getElem? (i := 77) (by decide +kernel), by decide, by decide⟩
theorem rs_gf3 : rs_gf ((1, 15), 1, 2) := ⟨List.mem_of_getElem? (i := 78) (by decide +kernel), by decide, by decide⟩
theorem rs_gf4 : rs_gf ((1, 18), 1, 3) := ⟨List.mem_of_getElem? (i := 79) (by decide +kernel), by decide, by decide⟩
theorem rs_gf5 : rs_gf ((1, 21), 1, 4) := ⟨List.mem_of_getElem? (i := 81) (by decide +kernel), by decide, by decide⟩
theorem rs_gf6 : rs_gf ((1, 24), 1, 5) := ⟨List.mem_of_getElem? (i := 83) (by decide +kernel), by decide, by decide⟩
theorem rs_gf7 : rs_gf ((1, 27), 1, 6) := ⟨List.mem_of_getElem? (i := 85) (by decide +kernel), by decide, by decide⟩
theorem rs_gf8 : rs_gf ((1, 30), 1, 7) := ⟨List.mem_of_getElem? (i := 87) (by decide +kernel), by decide, by decide⟩
theorem rs_gf9 : rs_gf ((1, 33), 1, 8) := ⟨List.mem_of_getElem? (i := 89) (by decide +kernel), by decide, by decide⟩
theorem rs_gf10 : rs_gf ((1, 36), 1, 11) := ⟨List.mem_of_getElem? (i := 95) (by decide +kernel), by decide, by decide⟩
theorem rs_gf11 : rs_gf ((1, 39), 1, 12) := ⟨List.mem_of_getElem? (i := 97) (by decide +kernel), by decide, by decide⟩
theorem rs_gf12 : rs_gf ((1, 42), 1, 0) := ⟨List.mem_of_getElem? (i := 75) (by decide +kernel), by decide, by decide⟩
theorem rs_gf13 : rs_gf ((1, 50), 1, 9) := ⟨List.mem_of_getElem? (i := 91) (by decide +kernel), by decide, by decide⟩
theorem rs_gf14 : rs_gf ((1, 53), 1, 10) := ⟨List.mem_of_getElem? (i := 93) (by decide +kernel), by decide, by decide⟩
theorem rs_gf15 : rs_gf ((1, 115), 0, 1) := ⟨List.mem_of_getElem? (i := 137) (by decide +kernel), by decide, by decide⟩
theorem rs_gf16 : rs_gf ((2, 10), 2, 0) := ⟨List.mem_of_getElem? (i := 144) (by decide +kernel), by decide, by decide⟩
theorem rs_gf17 : rs_gf ((2, 16), 2, 1) := ⟨List.mem_of_getElem? (i := 145) (by decide +kernel), by decide, by decide⟩
theorem rs_gf18 : rs_gf ((2, 20), 2, 3) := ⟨List.mem_of_getElem? (i := 147) (by decide +kernel), by decide, by decide⟩
theorem rs_gf19 : rs_gf ((2, 23), 2, 4) := ⟨List.mem_of_getElem? (i := 148) (by decide +kernel), by decide, by decide⟩
theorem rs_gf20 : rs_gf ((2, 30), 2, 5) := ⟨List.mem_of_getElem? (i := 149) (by decide +kernel), by decide, by decide⟩
theorem rs_gf21 : rs_gf ((2, 34), 2, 6) := ⟨List.mem_of_getElem? (i := 150) (by decide +kernel), by decide, by decide⟩
theorem rs_gf22 : rs_gf ((2, 37), 1, 0) := ⟨List.mem_of_getElem? (i := 76) (by decide +kernel), by decide, by decide⟩
theorem rs_gf23 : rs_gf ((2, 93), 1, 3) := ⟨List.mem_of_getElem? (i := 80) (by decide +kernel), by decide, by decide⟩
theorem rs_gf24 : rs_gf ((2, 101), 1, 4) := ⟨List.mem_of_getElem? (i := 82) (by decide +kernel), by decide, by decide⟩
theorem rs_gf25 : rs_gf ((2, 104), 1, 5) := ⟨List.mem_of_getElem? (i := 84) (by decide +kernel), by decide, by decide⟩
theorem rs_gf26 : rs_gf ((2, 107), 1, 6) := ⟨List.mem_of_getElem? (i := 86) (by decide +kernel), by decide, by decide⟩
theorem rs_gf27 : rs_gf ((2, 110), 1, 8) := ⟨List.mem_of_getElem? (i := 90) (by decide +kernel), by decide, by decide⟩
theorem rs_gf28 : rs_gf ((2, 113), 1, 7) := ⟨List.mem_of_getElem? (i := 88) (by decide +kernel), by decide, by decide⟩
theorem rs_gf29 : rs_gf ((2, 116), 1, 9) := ⟨List.mem_of_getElem? (i := 92) (by decide +kernel), by decide, by decide⟩
theorem rs_gf30 : rs_gf ((2, 119), 2, 2) := ⟨List.mem_of_getElem? (i := 146) (by decide +kernel), by decide, by decide⟩
theorem rs_gf31 : rs_gf ((2, 126), 1, 10) := ⟨List.mem_of_getElem? (i := 94) (by decide +kernel), by decide, by decide⟩
theorem rs_gf32 : rs_gf ((2, 136), 1, 11) := ⟨List.mem_of_getElem? (i := 96) (by decide +kernel), by decide, by decide⟩
theorem rs_gf33 : rs_gf ((2, 139), 1, 12) := ⟨List.mem_of_getElem? (i := 98) (by decide +kernel), by decide, by decide⟩
theorem rs_gf34 : rs_gf ((2, 145), 0, 1) := ⟨List.mem_of_getElem? (i := 136) (by decide +kernel), by decide, by decide⟩
theorem rs_gf35 : rs_gf ((3, 7), 3, 0) := ⟨List.mem_of_getElem? (i := 513) (by decide +kernel), by decide, by decide⟩
theorem rs_gf36 : rs_gf ((3, 13), 3, 1) := ⟨List.mem_of_getElem? (i := 514) (by decide +kernel), by decide, by decide⟩
theorem rs_gf37 : rs_gf ((3, 16), 3, 3) := ⟨List.mem_of_getElem? (i := 516) (by decide +kernel), by decide, by decide⟩
theorem rs_gf38 : rs_gf ((3, 19), 3, 5) := ⟨List.mem_of_getElem? (i := 518) (by decide +kernel), by decide, by decide⟩
theorem rs_gf39 : rs_gf ((3, 22), 3, 7) := ⟨List.mem_of_getElem? (i := 520) (by decide +kernel), by decide, by decide⟩
theorem rs_gf40 : rs_gf ((3, 25), 3, 8) := ⟨List.mem_of_getElem? (i := 521) (by decide +kernel), by decide, by decide⟩
theorem rs_gf41 : rs_gf ((3, 28), 3, 2) := ⟨List.mem_of_getElem? (i := 515) (by decide +kernel), by decide, by decide⟩
theorem rs_gf42 : rs_gf ((3, 104), 3, 9) := ⟨List.mem_of_getElem? (i := 522) (by decide +kernel), by decide, by decide⟩
theorem rs_gf43 : rs_gf ((3, 159), 3, 6) := ⟨List.mem_of_getElem? (i := 519) (by decide +kernel), by decide, by decide⟩
theorem rs_gf44 : rs_gf ((3, 177), 3, 4) := ⟨List.mem_of_getElem? (i := 517) (by decide +kernel), by decide, by decide⟩
theorem rs_gf_c0 : ∀ q ∈ [((0, 9), 0, 0), ((0, 15), 0, 1), ((1, 9), 1, 1), ((1, 15), 1, 2), ((1, 18), 1, 3), ((1, 21), 1, 4), ((1, 24), 1, 5), ((1, 27), 1, 6), ((1, 30), 1, 7), ((1, 33), 1, 8), ((1, 36), 1, 11), ((1, 39), 1, 12), ((1, 42), 1, 0), ((1, 50), 1, 9), ((1, 53), 1, 10), ((1, 115), 0, 1), ((2, 10), 2, 0), ((2, 16), 2, 1), ((2, 20), 2, 3), ((2, 23), 2, 4)], rs_gf q := List.forall_mem_cons.mpr ⟨rs_gf0, List.forall_mem_cons.mpr ⟨rs_gf1, List.forall_mem_cons.mpr ⟨rs_gf2, List.forall_mem_cons.mpr ⟨rs_gf3, List.forall_mem_cons.mpr ⟨rs_gf4, List.forall_mem_cons.mpr ⟨rs_gf5, List.forall_mem_cons.mpr ⟨rs_gf6, List.forall_mem_cons.mpr ⟨rs_gf7, List.forall_mem_cons.mpr ⟨rs_gf8, List.forall_mem_cons.mpr ⟨rs_gf9, List.forall_mem_cons.mpr ⟨rs_gf10, List.forall_mem_cons.mpr ⟨rs_gf11, List.forall_mem_cons.mpr ⟨rs_gf12, List.forall_mem_cons.mpr ⟨rs_gf13, List.forall_mem_cons.mpr ⟨rs_gf14, List.forall_mem_cons.mpr ⟨rs_gf15, List.forall_mem_cons.mpr ⟨rs_gf16, List.forall_mem_cons.mpr ⟨rs_gf17, List.forall_mem_cons.mpr ⟨rs_gf18, List.forall_mem_cons.mpr ⟨rs_gf19, fun _ h => absurd h List.not_mem_nil⟩⟩⟩⟩⟩⟩⟩⟩⟩⟩⟩⟩⟩⟩⟩⟩⟩⟩⟩⟩
theorem rs_gf_c1 : ∀ q ∈ [((2, 30), 2, 5), ((2, 34), 2, 6), ((2, 37), 1, 0), ((2, 93), 1, 3), ((2, 101), 1, 4), ((2, 104), 1, 5), ((2, 107), 1, 6), ((2, 110), 1, 8), ((2, 113), 1, 7), ((2, 116), 1, 9), ((2, 119), 2, 2), ((2, 126), 1, 10), ((2, 136), 1, 11), ((2, 139), 1, 12), ((2, 145), 0, 1), ((3, 7), 3, 0), ((3, 13), 3, 1), ((3, 16), 3, 3), ((3, 19), 3, 5), ((3, 22), 3, 7)], rs_gf q := List.forall_mem_cons.mpr ⟨rs_gf20, List.forall_mem_cons.mpr ⟨rs_gf21, List.forall_mem_cons.mpr ⟨rs_gf22, List.forall_mem_cons.mpr ⟨rs_gf23, List.forall_mem_cons.mpr ⟨rs_gf24, List.forall_mem_cons.mpr ⟨rs_gf25, List.forall_mem_cons.mpr ⟨rs_gf26, List.forall_mem_cons.mpr ⟨rs_gf27, List.forall_mem_cons.mpr ⟨rs_gf28, List.forall_mem_cons.mpr ⟨rs_gf29, List.forall_mem_cons.mpr ⟨rs_gf30, List.forall_mem_cons.mpr ⟨rs_gf31, List.forall_mem_cons.mpr ⟨rs_gf32, List.forall_mem_cons.mpr ⟨rs_gf33, List.forall_mem_cons.mpr ⟨rs_gf34, List.forall_mem_cons.mpr ⟨rs_gf35, List.forall_mem_cons.mpr ⟨rs_gf36, List.forall_mem_cons.mpr ⟨rs_gf37, List.forall_mem_cons.mpr ⟨rs_gf38, List.forall_mem_cons.mpr ⟨rs_gf39, fun _ h => absurd h List.not_mem_nil⟩⟩⟩⟩⟩⟩⟩⟩⟩⟩⟩⟩⟩⟩⟩⟩⟩⟩⟩⟩
theorem rs_gf_c2 : ∀ q ∈ [((3, 25), 3, 8), ((3, 28), 3, 2), ((3, 104), 3, 9), ((3, 159), 3, 6), ((3, 177), 3, 4)], rs_gf q := List.forall_mem_cons.mpr ⟨rs_gf40, List.forall_mem_cons.mpr ⟨rs_gf41, List.forall_mem_cons.mpr ⟨rs_gf42, List.forall_mem_cons.mpr ⟨rs_gf43, List.forall_mem_cons.mpr ⟨rs_gf44, fun _ h => absurd h List.not_mem_nil⟩⟩⟩⟩⟩
theorem rs_gf_all : ∀ q ∈ rs_FL, rs_gf q := by
  have h : ∀ q ∈ ([((0, 9), 0, 0), ((0, 15), 0, 1), ((1, 9), 1, 1), ((1, 15), 1, 2), ((1, 18), 1, 3), ((1, 21), 1, 4), ((1, 24), 1, 5), ((1, 27), 1, 6), ((1, 30), 1, 7), ((1, 33), 1, 8), ((1, 36), 1, 11), ((1, 39), 1, 12), ((1, 42), 1, 0), ((1, 50), 1, 9), ((1, 53), 1, 10), ((1, 115), 0, 1), ((2, 10), 2, 0), ((2, 16), 2, 1), ((2, 20), 2, 3), ((2, 23), 2, 4)] ++ ([((2, 30), 2, 5), ((2, 34), 2, 6), ((2, 37), 1, 0), ((2, 93), 1, 3), ((2, 101), 1, 4), ((2, 104), 1, 5), ((2, 107), 1, 6), ((2, 110), 1, 8), ((2, 113), 1, 7), ((2, 116), 1, 9), ((2, 119), 2, 2), ((2, 126), 1, 10), ((2, 136), 1, 11), ((2, 139), 1, 12), ((2, 145), 0, 1), ((3, 7), 3, 0), ((3, 13), 3, 1), ((3, 16), 3, 3), ((3, 19), 3, 5), ((3, 22), 3, 7)] ++ ([((3, 25), 3, 8), ((3, 28), 3, 2), ((3, 104), 3, 9), ((3, 159), 3, 6), ((3, 177), 3, 4)]))), rs_gf q := List.forall_mem_append.mpr ⟨rs_gf_c0, List.forall_mem_append.mpr ⟨rs_gf_c1, rs_gf_c2⟩⟩
  exact h
def rs_gk (q : (Nat × Nat) × Nat) : Prop := Cond.classLink (mt_R q.1.1) q.1.2 (mt_R q.2) ∈ lw_tbl ∧ q.2 < 4 ∧ Cond.instantiable (mt_R q.2) (mt_N q.2) ∈ lw_tbl ∧ Cond.initialized (mt_R q.2) ∈ lw_tbl
theorem rs_gk0 : rs_gk ((2, 7), 1) := ⟨List.mem_of_getElem? (i := 69) (by decide +kernel), by decide, List.mem_of_getElem? (i := 70) (by decide +kernel), List.mem_of_getElem? (i := 56) (by decide +kernel)⟩
theorem rs_gk1 : rs_gk ((2, 27), 0) := ⟨List.mem_of_getElem? (i := 128) (by decide +kernel), by decide, List.mem_of_getElem? (i := 129) (by decide +kernel), List.mem_of_getElem? (i := 57) (by decide +kernel)⟩
theorem rs_gk2 : rs_gk ((4, 7), 2) := ⟨List.mem_of_getElem? (i := 61) (by decide +kernel), by decide, List.mem_of_getElem? (i := 62) (by decide +kernel), List.mem_of_getElem? (i := 55) (by decide +kernel)⟩
theorem rs_gk3 : rs_gk ((4, 10), 3) := ⟨List.mem_of_getElem? (i := 507) (by decide +kernel), by decide, List.mem_of_getElem? (i := 508) (by decide +kernel), List.mem_of_getElem? (i := 58) (by decide +kernel)⟩
theorem rs_gk_c0 : ∀ q ∈ [((2, 7), 1), ((2, 27), 0), ((4, 7), 2), ((4, 10), 3)], rs_gk q := List.forall_mem_cons.mpr ⟨rs_gk0, List.forall_mem_cons.mpr ⟨rs_gk1, List.forall_mem_cons.mpr ⟨rs_gk2, List.forall_mem_cons.mpr ⟨rs_gk3, fun _ h => absurd h List.not_mem_nil⟩⟩⟩⟩
theorem rs_gk_all : ∀ q ∈ rs_KL, rs_gk q := by
  have h : ∀ q ∈ ([((2, 7), 1), ((2, 27), 0), ((4, 7), 2), ((4, 10), 3)]), rs_gk q := rs_gk_c0
  exact h
def rs_sn (k : Nat) : String × String := if k = 1 then ("ROMAN_VALUES", "[I") else if k = 2 then ("ROMAN_FIRST", "[C") else ("ROMAN_SECOND", "[C")
def rs_gs (q : (Nat × Nat) × Nat) : Prop := Cond.fieldLinkNest (mt_R q.1.1) q.1.2 "OutlineEditor" (rs_sn q.2).1 (rs_sn q.2).2 "OutlineEditor" ∈ lw_tbl ∧ 1 ≤ q.2 ∧ q.2 ≤ 3
theorem rs_gs0 : rs_gs ((0, 33), 1) := ⟨List.mem_of_getElem? (i := 386) (by decide +kernel), by decide, by decide⟩
theorem rs_gs1 : rs_gs ((0, 36), 2) := ⟨List.mem_of_getElem? (i := 388) (by decide +kernel), by decide, by decide⟩
theorem rs_gs2 : rs_gs ((0, 40), 3) := ⟨List.mem_of_getElem? (i := 390) (by decide +kernel), by decide, by decide⟩
theorem rs_gs_c0 : ∀ q ∈ [((0, 33), 1), ((0, 36), 2), ((0, 40), 3)], rs_gs q := List.forall_mem_cons.mpr ⟨rs_gs0, List.forall_mem_cons.mpr ⟨rs_gs1, List.forall_mem_cons.mpr ⟨rs_gs2, fun _ h => absurd h List.not_mem_nil⟩⟩⟩
theorem rs_gs_all : ∀ q ∈ rs_SL, rs_gs q := by
  have h : ∀ q ∈ ([((0, 33), 1), ((0, 36), 2), ((0, 40), 3)]), rs_gs q := rs_gs_c0
  exact h
theorem wd_objI : Cond.instanceMethod objectInit ∈ lw_tbl := List.mem_of_getElem? (i := 67) (by decide +kernel)
theorem wd_objC : Cond.code objectInit ⟨#[0xb1]⟩ 1 none ∈ lw_tbl := List.mem_of_getElem? (i := 68) (by decide +kernel)
theorem wd_maxS : Cond.static Lib.Math.max.name ∈ lw_tbl := List.mem_of_getElem? (i := 270) (by decide +kernel)
theorem wd_maxC : Cond.code Lib.Math.max.name Lib.Math.max.code 2 (some .int) ∈ lw_tbl := List.mem_of_getElem? (i := 271) (by decide +kernel)
theorem wd_minS : Cond.static Lib.Math.min.name ∈ lw_tbl := List.mem_of_getElem? (i := 212) (by decide +kernel)
theorem wd_minC : Cond.code Lib.Math.min.name Lib.Math.min.code 2 (some .int) ∈ lw_tbl := List.mem_of_getElem? (i := 213) (by decide +kernel)
theorem wd_mathI : Cond.initialized "java/lang/Math" ∈ lw_tbl := List.mem_of_getElem? (i := 59) (by decide +kernel)
theorem wd_cpyN : Cond.native arraycopyName ∈ lw_tbl := List.mem_of_getElem? (i := 216) (by decide +kernel)
theorem wd_cpyS : Cond.static arraycopyName ∈ lw_tbl := List.mem_of_getElem? (i := 215) (by decide +kernel)
theorem wd_sysI : Cond.initialized "java/lang/System" ∈ lw_tbl := List.mem_of_getElem? (i := 60) (by decide +kernel)
theorem wd_aI : Cond.arrayClass .int ∈ lw_tbl := List.mem_of_getElem? (i := 126) (by decide +kernel)
theorem wd_aZ : Cond.arrayClass .boolean ∈ lw_tbl := List.mem_of_getElem? (i := 143) (by decide +kernel)
theorem wd_aO : Cond.arrayOver (.object "OutlineEditor$Outline") ∈ lw_tbl := List.mem_of_getElem? (i := 127) (by decide +kernel)
theorem wd_ls1 : Cond.laysStatic "OutlineEditor" "ROMAN_VALUES" "[I" ∈ lw_tbl := List.mem_of_getElem? (i := 387) (by decide +kernel)
theorem wd_ls2 : Cond.laysStatic "OutlineEditor" "ROMAN_FIRST" "[C" ∈ lw_tbl := List.mem_of_getElem? (i := 389) (by decide +kernel)
theorem wd_ls3 : Cond.laysStatic "OutlineEditor" "ROMAN_SECOND" "[C" ∈ lw_tbl := List.mem_of_getElem? (i := 391) (by decide +kernel)
theorem wd_oeI : Cond.initialized "OutlineEditor" ∈ lw_tbl := List.mem_of_getElem? (i := 55) (by decide +kernel)
def gm_tbl : List Cond := lw_tbl.filter goodWord
theorem gm_goodIn : GoodIn gm_tbl gm_tbl := fun w hw => ⟨hw, good_of_word (List.mem_filter.mp hw).2⟩
theorem gm_of {w : Cond} (h : w ∈ lw_tbl) (hg : goodWord w = true) : w ∈ gm_tbl := List.mem_filter.mpr ⟨h, hg⟩
end
section
/-! A small machine of our own over lists: what the bytecode of the class, the reference and the law does, as a function. Cells: .inl (kind, ints): 0 int[], 1 boolean[], 2 a constant int[], 3 a constant char[]; .inr (class, fields): 0 Line, 1 Outline, 2 OutlineEditor, 3 OutlineEditorModel, 4 Outline[]. The cells 0 to 3 are the script and the three constant tables. -/
abbrev ox_C : Type := (Nat × List Int32) ⊕ (Nat × List Value)
abbrev ox_H : Type := List ox_C
abbrev ox_R : Type := Option Value × ox_H
def ox_fld (h : ox_H) (a ci k : Nat) : Option Value := match h[a]? with
  | some (.inr q) => if q.1 = ci then q.2[k]? else none
  | _ => none
/-- the object at a, of class ci -/
def ox_obj (h : ox_H) (a ci : Nat) : Option (List Value) := match h[a]? with
  | some (.inr q) => if q.1 = ci then some q.2 else none
  | _ => none
/-- the ints of the array at a, of a kind -/
def ox_ints (h : ox_H) (a : Nat) (ok : Nat → Bool) : Option (List Int32) := match h[a]? with
  | some (.inl q) => if ok q.1 then some q.2 else none
  | _ => none
def ox_isI : Nat → Bool := fun k => k == 0 || k == 2
def ox_isZ : Nat → Bool := fun k => k == 1
def ox_isC : Nat → Bool := fun k => k == 3
def ox_is0 : Nat → Bool := fun k => k == 0
/-- the length of the array at a -/
def ox_len (h : ox_H) (a : Nat) : Option Nat := match h[a]? with
  | some (.inl q) => some q.2.length
  | some (.inr q) => if q.1 = 4 then some q.2.length else none
  | none => none
def ox_at {α : Type} (l : List α) (i : Int32) : Option α := if i < 0 then none else l[i.toNatClampNeg]?
def ox_cb (c : ClassFile.Cond) (x y : Int32) : Bool := match c with
  | .eq => decide (x = y)
  | .ne => decide (¬ x = y)
  | .lt => decide (x < y)
  | .ge => decide (y ≤ x)
  | .gt => decide (y < x)
  | .le => decide (x ≤ y)
def ox_dfl (c : Nat) : List Value := match c with
  | 0 => [.null, .int 0]
  | 1 => [.int 0, .null, .null, .null, .null, .null, .null, .null, .null, .int 0, .int 0, .null, .null]
  | 2 => [.null, .null, .int 0, .null, .null, .null, .null]
  | _ => [.null, .null, .int 0, .null, .int 0, .null, .int 0, .null, .null, .int 0]
def ox_push (v : Option Value) (st : List Value) : List Value := match v with
  | none => st
  | some x => x :: st
def ox_B (o : Option ox_R) (f : Option Value → ox_H → Option ox_R) : Option ox_R := match o with
  | none => none
  | some r => f r.1 r.2
def ox_O {α : Type} (o : Option α) (f : α → Option ox_R) : Option ox_R := match o with
  | none => none
  | some r => f r
def ox_g (b : Bool) (r : Option ox_R) : Option ox_R := if b then r else none
def ox_I (v : Option Value) (f : Int32 → Option ox_R) : Option ox_R := match v with
  | some (.int x) => f x
  | _ => none
def ox_A (v : Option Value) (f : Nat → Option ox_R) : Option ox_R := match v with
  | some (.ref x) => f x
  | _ => none
/-- the top of the stack, an int -/
def ox_pI (st : List Value) (f : Int32 → List Value → Option ox_R) : Option ox_R := match st with
  | .int x :: r => f x r
  | _ => none
def ox_pA (st : List Value) (f : Nat → List Value → Option ox_R) : Option ox_R := match st with
  | .ref x :: r => f x r
  | _ => none
def ox_p2 (st : List Value) (f : Int32 → Int32 → List Value → Option ox_R) : Option ox_R := ox_pI st fun y r => ox_pI r fun x r => f x y r
abbrev ox_F : Type := Nat → Nat → List Value → List Value → ox_H → Option ox_R
def ox_jmp (pc : Nat) (off : Int) (f : Nat → Option ox_R) : Option ox_R := if 0 ≤ (pc : Int) + off then f ((pc : Int) + off).toNat else none
/-- may the method mi write the field k of class ci? -/
def ox_fin (mi ci k : Nat) : Bool := !(mt_T ci k).2.2.2 || (mt_s mi == 2 && mt_k mi == ci)
def ox_tyI (ci k : Nat) : Bool := match mt_ty ci k with
  | .int => true
  | _ => false
def ox_okv (ci k : Nat) (v : Value) : Bool := match v with
  | .int _ => ox_tyI ci k
  | .ref _ => !ox_tyI ci k
  | _ => false
/-- a call of the method j, with its arguments on the stack, the last on top -/
def ox_call (f : ox_F) (mi j : Nat) (st : List Value) (h : ox_H) (k : Option Value → List Value → ox_H → Option ox_R) : Option ox_R :=
  if mt_r j < mt_r mi ∧ mt_a j ≤ st.length ∧ (st.drop (mt_a j)).length ≤ 8 ∧ st.all (fun v => v.category == 1) = true then
    ox_B (f j 0 ((st.take (mt_a j)).reverse ++ List.replicate (mt_n j - mt_a j) .null) [] h) fun v h' => k v (st.drop (mt_a j)) h'
  else none
/-- the receiver of a call: an object of the method's class -/
def ox_rcv (h : ox_H) (j : Nat) (st : List Value) : Bool := match (st.take (mt_a j)).getLast? with
  | some (.ref a) => (ox_obj h a (mt_k j)).isSome
  | _ => false
def ox_in (f : ox_F) (mi pc : Nat) (ls st : List Value) (h : ox_H) (n : Nat) : Instr → Option ox_R
  | .iconst k => ox_g (n == 1) (f mi (pc + 1) ls (.int (Int32.ofInt k) :: st) h)
  | .bipush k => ox_g (n == 2) (f mi (pc + 2) ls (.int (Int8.ofInt k).toInt32 :: st) h)
  | .sipush k => ox_g (n == 3) (f mi (pc + 3) ls (.int (Int16.ofInt k).toInt32 :: st) h)
  | .iload_n k => ox_g (n == 1) (ox_I ls[k.val]? fun x => f mi (pc + 1) ls (.int x :: st) h)
  | .iload k => ox_g (n == 2) (ox_I ls[k]? fun x => f mi (pc + 2) ls (.int x :: st) h)
  | .aload_n k => ox_g (n == 1) (ox_A ls[k.val]? fun x => f mi (pc + 1) ls (.ref x :: st) h)
  | .aload k => ox_g (n == 2) (ox_A ls[k]? fun x => f mi (pc + 2) ls (.ref x :: st) h)
  | .istore_n k => ox_g (n == 1 && decide (k.val < ls.length)) (ox_pI st fun x st => f mi (pc + 1) (ls.set k.val (.int x)) st h)
  | .istore k => ox_g (n == 2 && decide (k < ls.length)) (ox_pI st fun x st => f mi (pc + 2) (ls.set k (.int x)) st h)
  | .astore_n k => ox_g (n == 1 && decide (k.val < ls.length)) (ox_pA st fun x st => f mi (pc + 1) (ls.set k.val (.ref x)) st h)
  | .astore k => ox_g (n == 2 && decide (k < ls.length)) (ox_pA st fun x st => f mi (pc + 2) (ls.set k (.ref x)) st h)
  | .iinc k d => ox_g (n == 3) (ox_I ls[k]? fun x => f mi (pc + 3) (ls.set k (.int (x + Int32.ofInt d))) st h)
  | .iadd => ox_g (n == 1) (ox_p2 st fun x y st => f mi (pc + 1) ls (.int (x + y) :: st) h)
  | .isub => ox_g (n == 1) (ox_p2 st fun x y st => f mi (pc + 1) ls (.int (x - y) :: st) h)
  | .imul => ox_g (n == 1) (ox_p2 st fun x y st => f mi (pc + 1) ls (.int (x * y) :: st) h)
  | .iand => ox_g (n == 1) (ox_p2 st fun x y st => f mi (pc + 1) ls (.int (x &&& y) :: st) h)
  | .ior => ox_g (n == 1) (ox_p2 st fun x y st => f mi (pc + 1) ls (.int (x ||| y) :: st) h)
  | .ishl => ox_g (n == 1) (ox_p2 st fun x y st => f mi (pc + 1) ls (.int (x <<< (y &&& 31)) :: st) h)
  | .ishr => ox_g (n == 1) (ox_p2 st fun x y st => f mi (pc + 1) ls (.int (x >>> (y &&& 31)) :: st) h)
  | .idiv => ox_g (n == 1) (ox_p2 st fun x y st => ox_g (!(y == 0)) (f mi (pc + 1) ls (.int (x / y) :: st) h))
  | .irem => ox_g (n == 1) (ox_p2 st fun x y st => ox_g (!(y == 0)) (f mi (pc + 1) ls (.int (x - x / y * y) :: st) h))
  | .dup => ox_g (n == 1) (match st with
    | v :: r => ox_g (v.category == 1) (f mi (pc + 1) ls (v :: v :: r) h)
    | _ => none)
  | .dup2 => ox_g (n == 1) (match st with
    | v :: w :: r => ox_g (v.category == 1 && w.category == 1) (f mi (pc + 1) ls (v :: w :: v :: w :: r) h)
    | _ => none)
  | .goto off => ox_g (n == 3) (ox_jmp pc off fun t => f mi t ls st h)
  | .ifCond c off => ox_g (n == 3) (ox_jmp pc off fun t => ox_pI st fun x st => if ox_cb c x 0 then f mi t ls st h else f mi (pc + 3) ls st h)
  | .if_icmp c off => ox_g (n == 3) (ox_jmp pc off fun t => ox_p2 st fun x y st => if ox_cb c x y then f mi t ls st h else f mi (pc + 3) ls st h)
  | .tableswitch d lo hi offs => ox_pI st fun x st => if x.toInt < lo ∨ hi < x.toInt then ox_jmp pc d fun t => f mi t ls st h else ox_O offs[(x.toInt - lo).toNat]? fun o => ox_jmp pc o fun t => f mi t ls st h
  | .lookupswitch d ps => ox_g ((ps.toList.zip (ps.toList.drop 1)).all (fun (a, next) => a.1 < next.1)) (ox_pI st fun x st => ox_jmp pc (Op.lookupswitch.offset ps.toList d x.toInt) fun t => f mi t ls st h)
  | .getfield i => ox_g (n == 3) (ox_O (rs_F (mt_k mi) i) fun q => ox_pA st fun a st => ox_O (ox_fld h a q.1 q.2) fun v => f mi (pc + 3) ls (v :: st) h)
  | .putfield i => ox_g (n == 3) (ox_O (rs_F (mt_k mi) i) fun q => match st with
    | v :: .ref a :: st => ox_g (ox_okv q.1 q.2 v && ox_fin mi q.1 q.2) (ox_O (ox_obj h a q.1) fun fs => ox_g (decide (q.2 < fs.length)) (f mi (pc + 3) ls st (h.set a (.inr (q.1, fs.set q.2 v)))))
    | _ => none)
  | .getstatic i => ox_g (n == 3) (ox_O (rs_S (mt_k mi) i) fun k => f mi (pc + 3) ls (.ref k :: st) h)
  | .iaload => ox_g (n == 1) (ox_pI st fun i st => ox_pA st fun a st => ox_O (ox_ints h a ox_isI) fun l => ox_O (ox_at l i) fun x => f mi (pc + 1) ls (.int x :: st) h)
  | .baload => ox_g (n == 1) (ox_pI st fun i st => ox_pA st fun a st => ox_O (ox_ints h a ox_isZ) fun l => ox_O (ox_at l i) fun x => f mi (pc + 1) ls (.int x :: st) h)
  | .caload => ox_g (n == 1) (ox_pI st fun i st => ox_pA st fun a st => ox_O (if a < 4 then ox_ints h a ox_isC else none) fun l => ox_O (ox_at l i) fun x => f mi (pc + 1) ls (.int x :: st) h)
  | .aaload => ox_g (n == 1) (ox_pI st fun i st => ox_pA st fun a st => ox_O (ox_obj h a 4) fun l => ox_A (ox_at l i) fun x => f mi (pc + 1) ls (.ref x :: st) h)
  | .iastore => ox_g (n == 1) (ox_pI st fun x st => ox_pI st fun i st => ox_pA st fun a st => ox_O (ox_ints h a ox_is0) fun l => ox_O (ox_at l i) fun _ => f mi (pc + 1) ls st (h.set a (.inl (0, l.set i.toNatClampNeg x))))
  | .bastore => ox_g (n == 1) (ox_pI st fun x st => ox_pI st fun i st => ox_pA st fun a st => ox_g (x == 0 || x == 1) (ox_O (ox_ints h a ox_isZ) fun l => ox_O (ox_at l i) fun _ => f mi (pc + 1) ls st (h.set a (.inl (1, l.set i.toNatClampNeg x)))))
  | .aastore => ox_g (n == 1) (ox_pA st fun x st => ox_pI st fun i st => ox_pA st fun a st => ox_g (ox_obj h x 1).isSome (ox_O (ox_obj h a 4) fun l => ox_O (ox_at l i) fun _ => f mi (pc + 1) ls st (h.set a (.inr (4, l.set i.toNatClampNeg (.ref x))))))
  | .arraylength => ox_g (n == 1) (ox_pA st fun a st => ox_O (ox_len h a) fun k => f mi (pc + 1) ls (.int (Int32.ofNat k) :: st) h)
  | .newarray t => ox_g (n == 2) (ox_pI st fun k st => ox_g (decide (0 ≤ k) && decide (k.toNatClampNeg ≤ 100000)) (match t with
    | .int => f mi (pc + 2) ls (.ref h.length :: st) (h ++ [.inl (0, List.replicate k.toNatClampNeg 0)])
    | .boolean => f mi (pc + 2) ls (.ref h.length :: st) (h ++ [.inl (1, List.replicate k.toNatClampNeg 0)])
    | _ => none))
  | .anewarray i => ox_g (n == 3) (ox_O (rs_K (mt_k mi) i) fun c => ox_pI st fun k st => ox_g (c == 1 && decide (0 ≤ k) && decide (k.toNatClampNeg ≤ 100000)) (f mi (pc + 3) ls (.ref h.length :: st) (h ++ [.inr (4, List.replicate k.toNatClampNeg .null)])))
  | .new i => ox_g (n == 3) (ox_O (rs_K (mt_k mi) i) fun c => f mi (pc + 3) ls (.ref h.length :: st) (h ++ [.inr (c, ox_dfl c)]))
  | .invokespecial i => ox_g (n == 3) (ox_O (rs_M (mt_k mi) i) fun j => if j = 1000 then ox_pA st fun _ st => ox_g (decide (1 ≤ mt_r mi) && decide (st.length ≤ 8) && st.all (fun v => v.category == 1)) (f mi (pc + 3) ls st h) else ox_g (mt_s j == 2 && decide (j < 154) && ox_rcv h j st) (ox_call f mi j st h fun v st h => f mi (pc + 3) ls (ox_push v st) h))
  | .invokevirtual i => ox_g (n == 3) (ox_O (rs_M (mt_k mi) i) fun j => ox_g (mt_s j == 0 && decide (j < 154) && ox_rcv h j st) (ox_call f mi j st h fun v st h => f mi (pc + 3) ls (ox_push v st) h))
  | .invokestatic i => ox_g (n == 3) (ox_O (rs_M (mt_k mi) i) fun j =>
      if j = 1001 then ox_p2 st fun x y st => ox_g (decide (1 ≤ mt_r mi) && decide (st.length ≤ 8) && st.all (fun v => v.category == 1)) (f mi (pc + 3) ls (.int (if x < y then y else x) :: st) h)
      else if j = 1002 then ox_p2 st fun x y st => ox_g (decide (1 ≤ mt_r mi) && decide (st.length ≤ 8) && st.all (fun v => v.category == 1)) (f mi (pc + 3) ls (.int (if y < x then y else x) :: st) h)
      else if j = 1003 then (match st with
        | .int k :: .int dp :: .ref d :: .int sp :: .ref s :: st => ox_g (decide (1 ≤ mt_r mi) && decide (st.length ≤ 8) && st.all (fun v => v.category == 1) && (decide (0 ≤ k) && sp == 0 && dp == 0)) (ox_O (ox_ints h s ox_is0) fun l => ox_O (ox_ints h d ox_is0) fun l' => ox_g (decide (k.toNatClampNeg ≤ l.length) && decide (k.toNatClampNeg ≤ l'.length)) (f mi (pc + 3) ls st (h.set d (.inl (0, l.take k.toNatClampNeg ++ l'.drop k.toNatClampNeg)))))
        | _ => none)
      else ox_g (mt_s j == 1 && decide (j < 154)) (ox_call f mi j st h fun v st h => f mi (pc + 3) ls (ox_push v st) h))
  | .ireturn => ox_g (n == 1) (match st with
    | [.int x] => ox_g (mt_t mi == 1 || (mt_t mi == 2 && (x == 0 || x == 1))) (some (some (.int x), h))
    | _ => none)
  | .return_ => ox_g (n == 1 && mt_t mi == 0) (match st with
    | [] => some (none, h)
    | _ => none)
  | _ => none
def ox_st (f : ox_F) : ox_F := fun mi pc ls st h => match decode (mt_c mi) pc with
  | .error _ => none
  | .ok q => ox_in f mi pc ls st h q.2 q.1
def ox_run : Nat → ox_F
  | 0 => fun _ _ _ _ _ => none
  | n + 1 => ox_st (ox_run n)
end
section
/-! How a state of our own machine stands in the heap of the real one. -/
abbrev ow_G : Type := Nat × (Nat → Nat) × va_G × ClassId × ClassId × ClassId
def ow_ad (g : ow_G) (k : Nat) : Nat := if k < 4 then g.2.1 k else g.1 + (k - 4)
def ow_cv (g : ow_G) : Value → Value
  | .ref k => .ref (ow_ad g k)
  | v => v
def ow_ro (g : ow_G) : Value → Option Nat
  | .ref k => some (ow_ad g k)
  | _ => none
def ow_E (g : ow_G) (c : ox_C) : va_E := match c with
  | .inl q => .inl (if q.1 = 1 then g.2.2.2.2.1 else g.2.2.2.1, q.2.length, .inl (fun j => q.2.getD j 0))
  | .inr q => if q.1 = 4 then .inl (g.2.2.2.2.2, q.2.length, .inr (.inr (.inr (.inr (fun j => ow_ro g (q.2.getD j .null)))))) else .inr (q.1, q.2.map (ow_cv g))
def ow_ws (g : ow_G) (h : ox_H) : va_W := (h.drop 4).mapIdx fun i c => (g.1 + i, ow_E g c)
def ow_t1 : List Int32 := [1000, 900, 500, 400, 100, 90, 50, 40, 10, 9, 5, 4, 1]
def ow_t2 : List Int32 := [109, 99, 100, 99, 99, 120, 108, 120, 120, 105, 118, 105, 105]
def ow_t3 : List Int32 := [32, 109, 32, 100, 32, 99, 32, 108, 32, 120, 32, 118, 32]
def ow_tab (k : Nat) : List Int32 := if k = 1 then ow_t1 else if k = 2 then ow_t2 else ow_t3
def ow_K4 (xs : List Int32) : ox_H := [.inl (2, xs), .inl (2, ow_t1), .inl (3, ow_t2), .inl (3, ow_t3)]
def ow_k4 (xs : List Int32) (h : ox_H) : Prop := h.take 4 = ow_K4 xs
def ow_A (g : ow_G) : Nat → Prop := fun q => g.1 ≤ q
def ow_tys (g : ow_G) : List (ClassId × FieldType) := [(g.2.2.2.1, .int), (g.2.2.2.2.1, .boolean), (g.2.2.2.2.2, .object "OutlineEditor$Outline")]
/-- what holds of the tables and of the constant arrays at a method's start -/
def ow_S (g : ow_G) (xs : List Int32) (U : State) : Prop :=
  va_K g.2.2.1 vwCl (ow_tys g) U ∧ va_AO "OutlineEditor$Outline" U ∧ (∀ q ∈ rs_SL, va_Nw (.fieldLinkNest (mt_R q.1.1) q.1.2 "OutlineEditor" (rs_sn q.2).1 (rs_sn q.2).2 "OutlineEditor") U) ∧ va_X (g.2.1 0) xs.length (fun j => xs.getD j 0) U U.heap ∧ g.2.1 0 < U.heap.size ∧ g.2.1 0 < g.1 ∧
  ∀ k, 1 ≤ k → k ≤ 3 → va_Z "OutlineEditor" (rs_sn k).1 (rs_sn k).2 (.ref (g.2.1 k)) (ow_A g) U U.heap ∧ va_T (if k = 1 then .int else .char) (g.2.1 k) 13 (fun j => .int ((ow_tab k).getD j 0)) (ow_A g) U U.heap
theorem ow_S_moved {g : ow_G} {xs : List Int32} {s U : State} {locs : List Loc} (h : ow_S g xs s) (hW : s.WarmedH U.vm) (hS : va_S (ow_A g) s.heap U.heap locs) : ow_S g xs U := by
  obtain ⟨h1, h2, h3, h4, h5, h6, h7⟩ := h
  have hq : ∀ a : Nat, a < s.heap.size → ¬ ow_A g a → U.heap[a]? = s.heap[a]? := hS.2.1
  refine ⟨va_K.moved hW.alike h1, va_AO.moved hW.alike h2, fun q hm => va_Nw.warmF hW (h3 q hm), ?_, Nat.lt_of_lt_of_le h5 hS.1, h6, fun k a b => ⟨?_, ?_⟩⟩
  · exact va_X.kept (va_X.moved hW.alike h4) (hq _ h5 (Nat.not_le.mpr h6))
  · exact va_Z.kept (va_Z.moved hW.alike (h7 k a b).1) hq
  · exact va_T.kept (va_T.moved hW.alike (h7 k a b).2) hq
theorem ow_S_call {g : ow_G} {xs : List Int32} {U : State} {f : JFrame} {mk : MethodId} {a : Array Value} (h : ow_S g xs U) : ow_S g xs (U.calling f mk a) := by
  obtain ⟨h1, h2, h3, h4, h5, h6, h7⟩ := h
  have hv : U.vm.Alike (U.calling f mk a).vm := Vm.Alike.refl U.vm
  exact ⟨va_K.moved hv h1, va_AO.moved hv h2, fun q hm => va_Nw.same rfl rfl (h3 q hm), va_X.moved hv h4, h5, h6, fun k a b => ⟨va_Z.moved hv (h7 k a b).1, va_T.moved hv (h7 k a b).2⟩⟩
theorem ow_ws_get {g : ow_G} {h : ox_H} {a : Nat} {c : ox_C} (ha : 4 ≤ a) (hc : h[a]? = some c) : (ow_ws g h)[a - 4]? = some (ow_ad g a, ow_E g c) := by
  unfold ow_ws
  rw [List.getElem?_mapIdx, List.getElem?_drop, show 4 + (a - 4) = a by omega, hc]
  simp [ow_ad, Nat.not_lt.mpr ha]
theorem ow_ws_inv {g : ow_G} {h : ox_H} {i : Nat} {q : Nat × va_E} (hq : (ow_ws g h)[i]? = some q) : q.1 = g.1 + i ∧ i + 4 < h.length := by
  unfold ow_ws at hq
  rw [List.getElem?_mapIdx, List.getElem?_drop] at hq
  cases hc : h[4 + i]? with
  | none => rw [hc] at hq; cases hq
  | some c =>
    rw [hc] at hq
    cases hq
    exact ⟨rfl, by have := (List.getElem?_eq_some_iff.mp hc).1; omega⟩
theorem ow_ws_set {g : ow_G} {h : ox_H} {a : Nat} {c : ox_C} (ha : 4 ≤ a) : (ow_ws g h).set (a - 4) (ow_ad g a, ow_E g c) = ow_ws g (h.set a c) := by
  apply List.ext_getElem?
  intro i
  unfold ow_ws
  rw [List.getElem?_set, List.getElem?_mapIdx, List.getElem?_mapIdx, List.getElem?_drop, List.getElem?_drop, List.getElem?_set]
  simp only [List.length_mapIdx, List.length_drop]
  by_cases hi : a - 4 = i
  · subst hi
    by_cases hl : a < h.length
    · rw [if_pos rfl, if_pos (show a - 4 < h.length - 4 by omega), if_pos (show a = 4 + (a - 4) by omega), if_pos hl]
      simp [ow_ad, Nat.not_lt.mpr ha]
    · rw [if_pos rfl, if_neg (show ¬ a - 4 < h.length - 4 by omega), if_pos (show a = 4 + (a - 4) by omega), if_neg hl]
      rfl
  · rw [if_neg hi, if_neg (show ¬ a = 4 + i by omega)]
theorem ow_ws_push {g : ow_G} {h : ox_H} {c : ox_C} (hl : 4 ≤ h.length) : ow_ws g (h ++ [c]) = ow_ws g h ++ [(ow_ad g h.length, ow_E g c)] := by
  unfold ow_ws
  rw [List.drop_append_of_le_length hl, List.mapIdx_append]
  simp [ow_ad, Nat.not_lt.mpr hl]
theorem ow_D {g : ow_G} {h : ox_H} : va_D (ow_A g) (ow_ws g h) := by
  refine ⟨fun i j p q hi hj e => ?_, fun k q hk => ?_⟩
  · have h1 := (ow_ws_inv hi).1
    have h2 := (ow_ws_inv hj).1
    omega
  · rw [(ow_ws_inv hk).1]
    exact Nat.le_add_right _ _
theorem ow_lt {g : ow_G} {h : ox_H} {H : Heap} {D : va_G} (hP : va_P D vwCl (ow_ws g h) H) (hb : g.1 ≤ H.size) : g.1 + h.length ≤ H.size + 4 := by
  by_cases hl : h.length ≤ 4
  · omega
  · have hc : h[h.length - 1]? = some h[h.length - 1] := List.getElem?_eq_getElem (by omega)
    have h1 := ow_ws_get (g := g) (by omega) hc
    have h2 := (hP _ _ h1).lt
    simp only [ow_ad, show ¬ (h.length - 1 < 4) by omega, if_false] at h2
    omega
theorem ow_newq {g : ow_G} {h : ox_H} {q : Nat} {e : va_E} (hD : va_D (ow_A g) (ow_ws g h ++ [(q, e)])) (hl : 4 ≤ h.length) (hq : q + 4 < g.1 + h.length + 1) : q = ow_ad g h.length := by
  have hlen : (ow_ws g h).length = h.length - 4 := by simp [ow_ws]
  have hlast : (ow_ws g h ++ [(q, e)])[h.length - 4]? = some (q, e) := by rw [List.getElem?_append_right (by omega), hlen, Nat.sub_self]; rfl
  have hA : g.1 ≤ q := hD.2 _ _ hlast
  simp only [ow_ad, Nat.not_lt.mpr hl, if_false]
  by_cases hlt : q < g.1 + (h.length - 4)
  · exfalso
    have hi : q - g.1 < (ow_ws g h).length := by omega
    have hc : (ow_ws g h)[q - g.1]? = some (ow_ws g h)[q - g.1] := List.getElem?_eq_getElem hi
    have h1 := (ow_ws_inv hc).1
    have h2 : (ow_ws g h ++ [(q, e)])[q - g.1]? = some (ow_ws g h)[q - g.1] := by rw [List.getElem?_append_left hi]; exact hc
    have h3 := hD.1 _ _ _ _ h2 hlast (by rw [h1]; simp; omega)
    omega
  · omega
theorem ow_k4_len {xs : List Int32} {h : ox_H} (hk : ow_k4 xs h) : 4 ≤ h.length := by
  have h1 := congrArg List.length hk
  simp [ow_K4] at h1
  omega
theorem ow_k4_get {xs : List Int32} {h : ox_H} (hk : ow_k4 xs h) {a : Nat} (ha : a < 4) : h[a]? = (ow_K4 xs)[a]? := by
  rw [← hk, List.getElem?_take, if_pos ha]
theorem ow_k4_set {xs : List Int32} {h : ox_H} (hk : ow_k4 xs h) {a : Nat} (ha : 4 ≤ a) (c : ox_C) : ow_k4 xs (h.set a c) := by
  unfold ow_k4
  rw [List.take_set, List.set_eq_of_length_le (by simp; omega)]
  exact hk
theorem ow_k4_push {xs : List Int32} {h : ox_H} (hk : ow_k4 xs h) (c : ox_C) : ow_k4 xs (h ++ [c]) := by
  unfold ow_k4
  rw [List.take_append_of_le_length (ow_k4_len hk)]
  exact hk
theorem ow_k4_inl {xs : List Int32} {h : ox_H} (hk : ow_k4 xs h) {a t : Nat} {l : List Int32} (hc : h[a]? = some (.inl (t, l))) (ht : t < 2) : 4 ≤ a := by
  rcases Nat.lt_or_ge a 4 with q | q
  · rw [ow_k4_get hk q] at hc
    match a, q with
    | 0, _ => cases hc; omega
    | 1, _ => cases hc; omega
    | 2, _ => cases hc; omega
    | 3, _ => cases hc; omega
  · exact q
theorem ow_k4_inr {xs : List Int32} {h : ox_H} (hk : ow_k4 xs h) {a : Nat} {o : Nat × List Value} (hc : h[a]? = some (.inr o)) : 4 ≤ a := by
  rcases Nat.lt_or_ge a 4 with q | q
  · rw [ow_k4_get hk q] at hc
    match a, q with
    | 0, _ => cases hc
    | 1, _ => cases hc
    | 2, _ => cases hc
    | 3, _ => cases hc
  · exact q
/-- the locals -/
def ow_p1 (g : ow_G) (ls : List Value) (i : Nat) : Option (Nat × Value) := match ls[i]? with
  | some (.int x) => some (i, .int x)
  | some (.ref a) => some (i, .ref (ow_ad g a))
  | _ => none
def ow_pr (g : ow_G) (ls : List Value) : List (Nat × Value) := (List.range ls.length).filterMap (ow_p1 g ls)
def ow_L (g : ow_G) (A : Array Slot) (n : Nat) (ls : List Value) : Prop := lv_has A n (ow_pr g ls) ∧ ls.length = n
theorem ow_pr_int {g : ow_G} {ls : List Value} {i : Nat} {x : Int32} (h : ls[i]? = some (.int x)) : (i, Value.int x) ∈ ow_pr g ls :=
  List.mem_filterMap.mpr ⟨i, List.mem_range.mpr (List.getElem?_eq_some_iff.mp h).1, by simp [ow_p1, h]⟩
theorem ow_pr_ref {g : ow_G} {ls : List Value} {i : Nat} {x : Nat} (h : ls[i]? = some (.ref x)) : (i, Value.ref (ow_ad g x)) ∈ ow_pr g ls :=
  List.mem_filterMap.mpr ⟨i, List.mem_range.mpr (List.getElem?_eq_some_iff.mp h).1, by simp [ow_p1, h]⟩
theorem ow_p1_cat {g : ow_G} {ls : List Value} {i : Nat} {q : Nat × Value} (h : ow_p1 g ls i = some q) : q.1 = i ∧ q.2.category = 1 := by
  unfold ow_p1 at h
  split at h <;> cases h <;> exact ⟨rfl, rfl⟩
theorem ow_L_set {g : ow_G} {A' : Array Slot} {n i : Nat} {ls : List Value} {v : Value} (hlen : ls.length = n) (hi : i < n) (hv : (∃ x, v = .int x) ∨ ∃ x, v = .ref x) (h : lv_has A' n ((i, ow_cv g v) :: (ow_pr g ls).filter (fun q => !(q.1 == i) && !(q.1 + 1 == i && q.2.category == 2)))) : ow_L g A' n (ls.set i v) := by
  refine ⟨⟨h.1, h.2.1, fun q hq => h.2.2 q ?_⟩, by simp [hlen]⟩
  obtain ⟨j, hj, hp⟩ := List.mem_filterMap.mp hq
  have hc := ow_p1_cat hp
  by_cases hji : j = i
  · subst hji
    have e : (ls.set j v)[j]? = some v := by rw [List.getElem?_set_self (by omega)]
    unfold ow_p1 at hp
    rw [e] at hp
    rcases hv with ⟨x, rfl⟩ | ⟨x, rfl⟩ <;> cases hp <;> exact List.mem_cons_self
  · refine List.mem_cons_of_mem _ (List.mem_filter.mpr ⟨List.mem_filterMap.mpr ⟨j, ?_, ?_⟩, ?_⟩)
    · simpa using hj
    · unfold ow_p1 at hp ⊢
      rw [List.getElem?_set_ne (Ne.symm hji)] at hp
      exact hp
    · rw [hc.1, hc.2]
      simp [hji]
theorem ow_cat {g : ow_G} (v : Value) : (ow_cv g v).category = v.category := by cases v <;> rfl
section
variable {p : Program} {l : Launch} {e : Env} {R : Room} {s : State} {m : MethodId} {args : Array Value} {below : List Frame} {meth : Method} {c : Code} {H : Heap} {locs : List Loc} {cells slots : Nat} {Q : State → Prop}
theorem ow_sz {f : JFrame} (k : H.size ≤ s.heap.size + cells → W p l e R s m args below meth c H locs cells slots Q f) : W p l e R s m args below meth c H locs cells slots Q f := fun T hT X => k (by rw [← hT]; exact X.heapSize) T hT X
end
def ox_cl (c : ox_C) : Nat := match c with
  | .inl q => q.2.length
  | .inr q => q.2.length
def ox_sl (h : ox_H) : Nat := (h.map ox_cl).sum
theorem ox_sl_push (h : ox_H) (c : ox_C) : ox_sl (h ++ [c]) = ox_sl h + ox_cl c := by simp [ox_sl]
theorem ox_sl_set {h : ox_H} {a : Nat} {c0 c : ox_C} (hc : h[a]? = some c0) (he : ox_cl c = ox_cl c0) : ox_sl (h.set a c) = ox_sl h := by
  unfold ox_sl
  congr 1
  apply List.ext_getElem?
  intro i
  rw [List.getElem?_map, List.getElem?_map, List.getElem?_set]
  by_cases hi : a = i
  · subst hi
    rw [if_pos rfl, hc]
    have := (List.getElem?_eq_some_iff.mp hc).1
    simp [this, he]
  · rw [if_neg hi]
/-- what holds of the method mi at work -/
def ow_Cx (g : ow_G) (xs : List Int32) (mi : Nat) (p : Program) (R : Room) (s : State) (m : MethodId) (args : Array Value) (meth : Method) (c : Code) : Prop :=
  p.tables.exec = Jvm.exec ∧ c.code = mt_c mi ∧ c.maxLocals = mt_n mi ∧ s.vm.findClass (mt_R (mt_k mi)) = some m.cls ∧ (∀ w ∈ gm_tbl, w.before args s = true) ∧ (mt_s mi = 2 → meth.name = "<init>") ∧ ow_S g xs s ∧ mt_r mi ≤ R.frames ∧ 34 * mt_r mi ≤ R.locals ∧ g.1 ≤ s.heap.size
/-- the machine, at pc of the method mi with this state of ours, comes to Q -/
def ow_Go (g : ow_G) (xs : List Int32) (mi : Nat) (p : Program) (l : Launch) (e : Env) (R : Room) (s : State) (m : MethodId) (args : Array Value) (below : List Frame) (meth : Method) (c : Code) (Q : State → Prop) (n0 s0 pc : Nat) (ls st : List Value) (h : ox_H) : Prop :=
  ∀ (H : Heap) (locs : List Loc) (cells slots : Nat) (A : Array Slot), va_P g.2.2.1 vwCl (ow_ws g h) H → va_S (ow_A g) s.heap H locs → ow_L g A (mt_n mi) ls → cells + n0 = h.length → slots + s0 = ox_sl h → ow_k4 xs h → W p l e R s m args below meth c H locs cells slots Q (F0 m pc A (st.map (ow_cv g)))
/-- how it ends -/
def ow_Rt (g : ow_G) (mi : Nat) (p : Program) (l : Launch) (e : Env) (R : Room) (s : State) (m : MethodId) (args : Array Value) (below : List Frame) (meth : Method) (c : Code) (Q : State → Prop) (n0 s0 : Nat) (v : Option Value) (h' : ox_H) : Prop :=
  ∀ (pc : Nat) (A : Array Slot) (H : Heap) (locs : List Loc) (cells slots : Nat), va_P g.2.2.1 vwCl (ow_ws g h') H → va_S (ow_A g) s.heap H locs → cells + n0 = h'.length → slots + s0 = ox_sl h' →
    (∀ x, v = some (.int x) → decode (mt_c mi) pc = .ok (.ireturn, 1) → (mt_t mi = 1 ∨ (mt_t mi = 2 ∧ (x = 0 ∨ x = 1))) → W p l e R s m args below meth c H locs cells slots Q (F0 m pc A [.int x])) ∧
    (v = none → decode (mt_c mi) pc = .ok (.return_, 1) → mt_t mi = 0 → W p l e R s m args below meth c H locs cells slots Q (F0 m pc A []))
end
section
/-! Each instruction, from the real machine to ours. -/
theorem ow_inT {ci : Nat} (hc : ci < 4) : ∀ w ∈ u_ws (mt_R ci) (mt_T ci) (mt_N ci), w ∈ gm_tbl := by
  intro w hw
  refine gm_of ?_ ?_
  · match ci, hc with
    | 0, _ => exact gm_in0 w hw
    | 1, _ => exact gm_in1 w hw
    | 2, _ => exact gm_in2 w hw
    | 3, _ => exact gm_in3 w hw
  · obtain ⟨k, -, rfl⟩ := List.mem_map.mp hw
    unfold u_lay
    split <;> rfl
theorem ow_cl {ci : Nat} (hc : ci < 4) : vwCl[ci]? = some (mt_R ci, mt_T ci, mt_N ci) := by
  match ci, hc with
  | 0, _ => rfl
  | 1, _ => rfl
  | 2, _ => rfl
  | 3, _ => rfl
theorem ow_tyok {ci : Nat} (hc : ci < 4) : ∀ k, k < mt_N ci → parseFieldDescriptor (mt_T ci k).2.2.1 = some (mt_ty ci k) := by
  match ci, hc with
  | 0, _ => exact tyX0_ok
  | 1, _ => exact tyX1_ok
  | 2, _ => exact tyX2_ok
  | 3, _ => exact tyX3_ok
theorem ow_nm {ci : Nat} (hc : ci < 4) : ∀ a, a < mt_N ci → ∀ b, b < mt_N ci → a ≠ b → (mt_T ci a).2.1 ≠ (mt_T ci b).2.1 := by
  match ci, hc with
  | 0, _ => exact nmX0
  | 1, _ => exact nmX1
  | 2, _ => exact nmX2
  | 3, _ => exact nmX3
theorem ow_tdecl {ci : Nat} (hc : ci < 4) : ∀ k, k < mt_N ci → (mt_T ci k).1 = mt_R ci := by
  match ci, hc with
  | 0, _ => decide
  | 1, _ => decide
  | 2, _ => decide
  | 3, _ => decide
theorem ow_tkind (ci k : Nat) : mt_ty ci k = .int ∨ (∃ t, mt_ty ci k = .array t) ∨ ∃ n, mt_ty ci k = .object n := by
  unfold mt_ty
  split
  · unfold tyX0; split <;> simp
  · unfold tyX1; split <;> simp
  · unfold tyX2; split <;> simp
  · unfold tyX3; split <;> simp
theorem ow_tyI {ci k : Nat} (h : ox_tyI ci k = true) : mt_ty ci k = .int := by
  unfold ox_tyI at h
  split at h
  · assumption
  · cases h
theorem ow_tyR {ci k : Nat} (h : ox_tyI ci k = false) : (∃ t, mt_ty ci k = .array t) ∨ ∃ n, mt_ty ci k = .object n := by
  rcases ow_tkind ci k with q | q
  · unfold ox_tyI at h
    rw [q] at h
    cases h
  · exact q
theorem ow_fit {ci k : Nat} {v : Value} {g : ow_G} (h : ox_okv ci k v = true) : narrow (mt_ty ci k) (ow_cv g v) = ow_cv g v ∧ fits (mt_ty ci k) (ow_cv g v) = true := by
  unfold ox_okv at h
  split at h
  · rw [ow_tyI h]
    exact ⟨rfl, rfl⟩
  · rcases ow_tyR (by simpa using h) with ⟨t, e⟩ | ⟨n, e⟩ <;> rw [e] <;> exact ⟨rfl, rfl⟩
  · cases h
theorem ow_E_obj {g : ow_G} {ci : Nat} {fs : List Value} (hc : ci < 4) : ow_E g (.inr (ci, fs)) = .inr (ci, fs.map (ow_cv g)) := by
  simp only [ow_E]
  rw [if_neg (by omega)]
theorem ow_E_row {g : ow_G} {fs : List Value} : ow_E g (.inr (4, fs)) = .inl (g.2.2.2.2.2, fs.length, .inr (.inr (.inr (.inr (fun j => ow_ro g (fs.getD j .null)))))) := by
  simp only [ow_E, if_true]
theorem ow_E_int {g : ow_G} {t : Nat} {l : List Int32} (ht : t ≠ 1) : ow_E g (.inl (t, l)) = .inl (g.2.2.2.1, l.length, .inl (fun j => l.getD j 0)) := by
  simp only [ow_E]
  rw [if_neg ht]
theorem ow_E_bool {g : ow_G} {l : List Int32} : ow_E g (.inl (1, l)) = .inl (g.2.2.2.2.1, l.length, .inl (fun j => l.getD j 0)) := by
  simp only [ow_E, if_true]
theorem ox_fld_some {h : ox_H} {a ci k : Nat} {v : Value} (e : ox_fld h a ci k = some v) : ∃ fs, h[a]? = some (.inr (ci, fs)) ∧ fs[k]? = some v := by
  unfold ox_fld at e
  split at e
  · rename_i q hq
    split at e
    · rename_i hc
      subst hc
      exact ⟨_, hq, e⟩
    · cases e
  · cases e
theorem ox_obj_some {h : ox_H} {a ci : Nat} {fs : List Value} (e : ox_obj h a ci = some fs) : h[a]? = some (.inr (ci, fs)) := by
  unfold ox_obj at e
  split at e
  · rename_i q hq
    split at e
    · rename_i hc
      subst hc
      cases e
      exact hq
    · cases e
  · cases e
theorem ox_ints_some {h : ox_H} {a : Nat} {ok : Nat → Bool} {l : List Int32} (e : ox_ints h a ok = some l) : ∃ t, h[a]? = some (.inl (t, l)) ∧ ok t = true := by
  unfold ox_ints at e
  split at e
  · rename_i q hq
    split at e
    · rename_i hc
      cases e
      exact ⟨_, hq, hc⟩
    · cases e
  · cases e
theorem ox_at_some {α : Type} {l : List α} {i : Int32} {x : α} (e : ox_at l i = some x) : ¬ i < 0 ∧ i.toNatClampNeg < l.length ∧ l[i.toNatClampNeg]? = some x ∧ vp_in i l.length := by
  unfold ox_at at e
  split at e
  · cases e
  · rename_i hi
    have hl := (List.getElem?_eq_some_iff.mp e).1
    exact ⟨hi, hl, e, fun q => q.elim hi (by omega)⟩
theorem ow_getD {l : List Int32} {i : Nat} {x : Int32} (e : l[i]? = some x) : l.getD i 0 = x := by simp [e]
theorem ow_upd {l : List Int32} {i : Nat} {x : Int32} (hi : i < l.length) : upd (fun j => l.getD j 0) i x = fun j => (l.set i x).getD j 0 := by
  funext j
  by_cases hj : j = i
  · subst hj
    simp [upd, hi]
  · simp [upd, hj, List.getElem?_set_ne (Ne.symm hj)]
section
variable {g : ow_G} {xs : List Int32} {mi : Nat} {p : Program} {l : Launch} {e : Env} {R : Room} {s : State} {m : MethodId} {args : Array Value} {below : List Frame} {meth : Method} {c : Code} {Q : State → Prop} {n0 s0 pc : Nat} {ls st : List Value} {h : ox_H}
theorem os_iconst (C : ow_Cx g xs mi p R s m args meth c) {k : Int} (hd : decode (mt_c mi) pc = .ok (.iconst k, 1)) (kk : ow_Go g xs mi p l e R s m args below meth c Q n0 s0 (pc + 1) ls (.int (Int32.ofInt k) :: st) h) : ow_Go g xs mi p l e R s m args below meth c Q n0 s0 pc ls st h :=
  fun H locs cells slots A hP hS hL hc hs hk => lv_iconst C.1 C.2.1 hd rfl (kk H locs cells slots A hP hS hL hc hs hk)
theorem os_bipush (C : ow_Cx g xs mi p R s m args meth c) {k : Int} (hd : decode (mt_c mi) pc = .ok (.bipush k, 2)) (kk : ow_Go g xs mi p l e R s m args below meth c Q n0 s0 (pc + 2) ls (.int (Int8.ofInt k).toInt32 :: st) h) : ow_Go g xs mi p l e R s m args below meth c Q n0 s0 pc ls st h :=
  fun H locs cells slots A hP hS hL hc hs hk => lv_bipush C.1 C.2.1 hd rfl (kk H locs cells slots A hP hS hL hc hs hk)
theorem os_sipush (C : ow_Cx g xs mi p R s m args meth c) {k : Int} (hd : decode (mt_c mi) pc = .ok (.sipush k, 3)) (kk : ow_Go g xs mi p l e R s m args below meth c Q n0 s0 (pc + 3) ls (.int (Int16.ofInt k).toInt32 :: st) h) : ow_Go g xs mi p l e R s m args below meth c Q n0 s0 pc ls st h :=
  fun H locs cells slots A hP hS hL hc hs hk => lv_sipush C.1 C.2.1 hd rfl (kk H locs cells slots A hP hS hL hc hs hk)
theorem os_iload_n (C : ow_Cx g xs mi p R s m args meth c) {k : Fin 4} {x : Int32} (hd : decode (mt_c mi) pc = .ok (.iload_n k, 1)) (hx : ls[k.val]? = some (.int x)) (kk : ow_Go g xs mi p l e R s m args below meth c Q n0 s0 (pc + 1) ls (.int x :: st) h) : ow_Go g xs mi p l e R s m args below meth c Q n0 s0 pc ls st h :=
  fun H locs cells slots A hP hS hL hc hs hk => lv_iload_n C.1 C.2.1 hd rfl (hL.1.2.2 _ (ow_pr_int hx)) (kk H locs cells slots A hP hS hL hc hs hk)
theorem os_iload (C : ow_Cx g xs mi p R s m args meth c) {k : Nat} {x : Int32} (hd : decode (mt_c mi) pc = .ok (.iload k, 2)) (hx : ls[k]? = some (.int x)) (kk : ow_Go g xs mi p l e R s m args below meth c Q n0 s0 (pc + 2) ls (.int x :: st) h) : ow_Go g xs mi p l e R s m args below meth c Q n0 s0 pc ls st h :=
  fun H locs cells slots A hP hS hL hc hs hk => lv_iload C.1 C.2.1 hd (hL.1.2.2 _ (ow_pr_int hx)) (kk H locs cells slots A hP hS hL hc hs hk)
theorem os_aload_n (C : ow_Cx g xs mi p R s m args meth c) {k : Fin 4} {x : Nat} (hd : decode (mt_c mi) pc = .ok (.aload_n k, 1)) (hx : ls[k.val]? = some (.ref x)) (kk : ow_Go g xs mi p l e R s m args below meth c Q n0 s0 (pc + 1) ls (.ref x :: st) h) : ow_Go g xs mi p l e R s m args below meth c Q n0 s0 pc ls st h :=
  fun H locs cells slots A hP hS hL hc hs hk => lv_aload_n C.1 C.2.1 hd rfl (hL.1.2.2 _ (ow_pr_ref hx)) (kk H locs cells slots A hP hS hL hc hs hk)
theorem os_aload (C : ow_Cx g xs mi p R s m args meth c) {k : Nat} {x : Nat} (hd : decode (mt_c mi) pc = .ok (.aload k, 2)) (hx : ls[k]? = some (.ref x)) (kk : ow_Go g xs mi p l e R s m args below meth c Q n0 s0 (pc + 2) ls (.ref x :: st) h) : ow_Go g xs mi p l e R s m args below meth c Q n0 s0 pc ls st h :=
  fun H locs cells slots A hP hS hL hc hs hk => lv_aload C.1 C.2.1 hd (hL.1.2.2 _ (ow_pr_ref hx)) (kk H locs cells slots A hP hS hL hc hs hk)
theorem os_istore_n (C : ow_Cx g xs mi p R s m args meth c) {k : Fin 4} {x : Int32} (hd : decode (mt_c mi) pc = .ok (.istore_n k, 1)) (hi : k.val < ls.length) (kk : ow_Go g xs mi p l e R s m args below meth c Q n0 s0 (pc + 1) (ls.set k.val (.int x)) st h) : ow_Go g xs mi p l e R s m args below meth c Q n0 s0 pc ls (.int x :: st) h :=
  fun H locs cells slots A hP hS hL hc hs hk => lv_istore_n C.1 C.2.1 hd rfl hL.1 (hL.2 ▸ hi) rfl (fun A' hA => kk H locs cells slots A' hP hS (ow_L_set hL.2 (hL.2 ▸ hi) (Or.inl ⟨_, rfl⟩) hA) hc hs hk)
theorem os_istore (C : ow_Cx g xs mi p R s m args meth c) {k : Nat} {x : Int32} (hd : decode (mt_c mi) pc = .ok (.istore k, 2)) (hi : k < ls.length) (kk : ow_Go g xs mi p l e R s m args below meth c Q n0 s0 (pc + 2) (ls.set k (.int x)) st h) : ow_Go g xs mi p l e R s m args below meth c Q n0 s0 pc ls (.int x :: st) h :=
  fun H locs cells slots A hP hS hL hc hs hk => lv_istore C.1 C.2.1 hd hL.1 (hL.2 ▸ hi) rfl (fun A' hA => kk H locs cells slots A' hP hS (ow_L_set hL.2 (hL.2 ▸ hi) (Or.inl ⟨_, rfl⟩) hA) hc hs hk)
theorem os_astore_n (C : ow_Cx g xs mi p R s m args meth c) {k : Fin 4} {x : Nat} (hd : decode (mt_c mi) pc = .ok (.astore_n k, 1)) (hi : k.val < ls.length) (kk : ow_Go g xs mi p l e R s m args below meth c Q n0 s0 (pc + 1) (ls.set k.val (.ref x)) st h) : ow_Go g xs mi p l e R s m args below meth c Q n0 s0 pc ls (.ref x :: st) h :=
  fun H locs cells slots A hP hS hL hc hs hk => lv_astore_n C.1 C.2.1 hd rfl hL.1 (hL.2 ▸ hi) rfl (fun A' hA => kk H locs cells slots A' hP hS (ow_L_set hL.2 (hL.2 ▸ hi) (Or.inr ⟨_, rfl⟩) hA) hc hs hk)
theorem os_astore (C : ow_Cx g xs mi p R s m args meth c) {k : Nat} {x : Nat} (hd : decode (mt_c mi) pc = .ok (.astore k, 2)) (hi : k < ls.length) (kk : ow_Go g xs mi p l e R s m args below meth c Q n0 s0 (pc + 2) (ls.set k (.ref x)) st h) : ow_Go g xs mi p l e R s m args below meth c Q n0 s0 pc ls (.ref x :: st) h :=
  fun H locs cells slots A hP hS hL hc hs hk => lv_astore C.1 C.2.1 hd hL.1 (hL.2 ▸ hi) rfl (fun A' hA => kk H locs cells slots A' hP hS (ow_L_set hL.2 (hL.2 ▸ hi) (Or.inr ⟨_, rfl⟩) hA) hc hs hk)
theorem os_iinc (C : ow_Cx g xs mi p R s m args meth c) {k : Nat} {d : Int} {x : Int32} (hd : decode (mt_c mi) pc = .ok (.iinc k d, 3)) (hx : ls[k]? = some (.int x)) (kk : ow_Go g xs mi p l e R s m args below meth c Q n0 s0 (pc + 3) (ls.set k (.int (x + Int32.ofInt d))) st h) : ow_Go g xs mi p l e R s m args below meth c Q n0 s0 pc ls st h := by
  intro H locs cells slots A hP hS hL hc hs hk
  have hi : k < mt_n mi := hL.2 ▸ (List.getElem?_eq_some_iff.mp hx).1
  obtain ⟨q, hq⟩ := List.getElem?_of_mem (ow_pr_int (g := g) hx)
  exact lv_iinc C.1 C.2.1 hd hL.1 hq rfl hi rfl (fun A' hA => kk H locs cells slots A' hP hS (ow_L_set hL.2 hi (Or.inl ⟨_, rfl⟩) hA) hc hs hk)
theorem os_iadd (C : ow_Cx g xs mi p R s m args meth c) {x y : Int32} (hd : decode (mt_c mi) pc = .ok (.iadd, 1)) (kk : ow_Go g xs mi p l e R s m args below meth c Q n0 s0 (pc + 1) ls (.int (x + y) :: st) h) : ow_Go g xs mi p l e R s m args below meth c Q n0 s0 pc ls (.int y :: .int x :: st) h :=
  fun H locs cells slots A hP hS hL hc hs hk => lv_iadd C.1 C.2.1 hd (kk H locs cells slots A hP hS hL hc hs hk)
theorem os_isub (C : ow_Cx g xs mi p R s m args meth c) {x y : Int32} (hd : decode (mt_c mi) pc = .ok (.isub, 1)) (kk : ow_Go g xs mi p l e R s m args below meth c Q n0 s0 (pc + 1) ls (.int (x - y) :: st) h) : ow_Go g xs mi p l e R s m args below meth c Q n0 s0 pc ls (.int y :: .int x :: st) h :=
  fun H locs cells slots A hP hS hL hc hs hk => lv_isub C.1 C.2.1 hd (kk H locs cells slots A hP hS hL hc hs hk)
theorem os_imul (C : ow_Cx g xs mi p R s m args meth c) {x y : Int32} (hd : decode (mt_c mi) pc = .ok (.imul, 1)) (kk : ow_Go g xs mi p l e R s m args below meth c Q n0 s0 (pc + 1) ls (.int (x * y) :: st) h) : ow_Go g xs mi p l e R s m args below meth c Q n0 s0 pc ls (.int y :: .int x :: st) h :=
  fun H locs cells slots A hP hS hL hc hs hk => lv_imul C.1 C.2.1 hd (kk H locs cells slots A hP hS hL hc hs hk)
theorem os_iand (C : ow_Cx g xs mi p R s m args meth c) {x y : Int32} (hd : decode (mt_c mi) pc = .ok (.iand, 1)) (kk : ow_Go g xs mi p l e R s m args below meth c Q n0 s0 (pc + 1) ls (.int (x &&& y) :: st) h) : ow_Go g xs mi p l e R s m args below meth c Q n0 s0 pc ls (.int y :: .int x :: st) h :=
  fun H locs cells slots A hP hS hL hc hs hk => lv_iand C.1 C.2.1 hd (kk H locs cells slots A hP hS hL hc hs hk)
theorem os_ior (C : ow_Cx g xs mi p R s m args meth c) {x y : Int32} (hd : decode (mt_c mi) pc = .ok (.ior, 1)) (kk : ow_Go g xs mi p l e R s m args below meth c Q n0 s0 (pc + 1) ls (.int (x ||| y) :: st) h) : ow_Go g xs mi p l e R s m args below meth c Q n0 s0 pc ls (.int y :: .int x :: st) h :=
  fun H locs cells slots A hP hS hL hc hs hk => lv_ior C.1 C.2.1 hd (kk H locs cells slots A hP hS hL hc hs hk)
theorem os_ishl (C : ow_Cx g xs mi p R s m args meth c) {x y : Int32} (hd : decode (mt_c mi) pc = .ok (.ishl, 1)) (kk : ow_Go g xs mi p l e R s m args below meth c Q n0 s0 (pc + 1) ls (.int (x <<< (y &&& 31)) :: st) h) : ow_Go g xs mi p l e R s m args below meth c Q n0 s0 pc ls (.int y :: .int x :: st) h :=
  fun H locs cells slots A hP hS hL hc hs hk => lv_ishl C.1 C.2.1 hd (kk H locs cells slots A hP hS hL hc hs hk)
theorem os_ishr (C : ow_Cx g xs mi p R s m args meth c) {x y : Int32} (hd : decode (mt_c mi) pc = .ok (.ishr, 1)) (kk : ow_Go g xs mi p l e R s m args below meth c Q n0 s0 (pc + 1) ls (.int (x >>> (y &&& 31)) :: st) h) : ow_Go g xs mi p l e R s m args below meth c Q n0 s0 pc ls (.int y :: .int x :: st) h :=
  fun H locs cells slots A hP hS hL hc hs hk => lv_ishr C.1 C.2.1 hd (kk H locs cells slots A hP hS hL hc hs hk)
theorem os_idiv (C : ow_Cx g xs mi p R s m args meth c) {x y : Int32} (hd : decode (mt_c mi) pc = .ok (.idiv, 1)) (hy : ¬ y = 0) (kk : ow_Go g xs mi p l e R s m args below meth c Q n0 s0 (pc + 1) ls (.int (x / y) :: st) h) : ow_Go g xs mi p l e R s m args below meth c Q n0 s0 pc ls (.int y :: .int x :: st) h :=
  fun H locs cells slots A hP hS hL hc hs hk => lv_idiv C.1 C.2.1 hd hy (kk H locs cells slots A hP hS hL hc hs hk)
theorem os_irem (C : ow_Cx g xs mi p R s m args meth c) {x y : Int32} (hd : decode (mt_c mi) pc = .ok (.irem, 1)) (hy : ¬ y = 0) (kk : ow_Go g xs mi p l e R s m args below meth c Q n0 s0 (pc + 1) ls (.int (x - x / y * y) :: st) h) : ow_Go g xs mi p l e R s m args below meth c Q n0 s0 pc ls (.int y :: .int x :: st) h :=
  fun H locs cells slots A hP hS hL hc hs hk => lv_irem C.1 C.2.1 hd hy (kk H locs cells slots A hP hS hL hc hs hk)
theorem os_dup (C : ow_Cx g xs mi p R s m args meth c) {v : Value} (hd : decode (mt_c mi) pc = .ok (.dup, 1)) (hv : v.category = 1) (kk : ow_Go g xs mi p l e R s m args below meth c Q n0 s0 (pc + 1) ls (v :: v :: st) h) : ow_Go g xs mi p l e R s m args below meth c Q n0 s0 pc ls (v :: st) h :=
  fun H locs cells slots A hP hS hL hc hs hk => lv_dup C.1 C.2.1 hd ((ow_cat v).trans hv) (kk H locs cells slots A hP hS hL hc hs hk)
theorem os_dup2 (C : ow_Cx g xs mi p R s m args meth c) {v w : Value} (hd : decode (mt_c mi) pc = .ok (.dup2, 1)) (hv : v.category = 1) (hw : w.category = 1) (kk : ow_Go g xs mi p l e R s m args below meth c Q n0 s0 (pc + 1) ls (v :: w :: v :: w :: st) h) : ow_Go g xs mi p l e R s m args below meth c Q n0 s0 pc ls (v :: w :: st) h :=
  fun H locs cells slots A hP hS hL hc hs hk => lv_dup2_11 C.1 C.2.1 hd ((ow_cat v).trans hv) ((ow_cat w).trans hw) (kk H locs cells slots A hP hS hL hc hs hk)
theorem os_goto (C : ow_Cx g xs mi p R s m args meth c) {off : Int} {t : Nat} (hd : decode (mt_c mi) pc = .ok (.goto off, 3)) (ht : (pc : Int) + off = (t : Int)) (kk : ow_Go g xs mi p l e R s m args below meth c Q n0 s0 t ls st h) : ow_Go g xs mi p l e R s m args below meth c Q n0 s0 pc ls st h :=
  fun H locs cells slots A hP hS hL hc hs hk => lv_goto C.1 C.2.1 hd ht (kk H locs cells slots A hP hS hL hc hs hk)
theorem os_if (C : ow_Cx g xs mi p R s m args meth c) {cnd : ClassFile.Cond} {off : Int} {t : Nat} {x : Int32} (hd : decode (mt_c mi) pc = .ok (.ifCond cnd off, 3)) (ht : (pc : Int) + off = (t : Int)) (kt : ox_cb cnd x 0 = true → ow_Go g xs mi p l e R s m args below meth c Q n0 s0 t ls st h) (kf : ox_cb cnd x 0 = false → ow_Go g xs mi p l e R s m args below meth c Q n0 s0 (pc + 3) ls st h) : ow_Go g xs mi p l e R s m args below meth c Q n0 s0 pc ls (.int x :: st) h := by
  intro H locs cells slots A hP hS hL hc hs hk
  have k1 := fun q => kt q H locs cells slots A hP hS hL hc hs hk
  have k2 := fun q => kf q H locs cells slots A hP hS hL hc hs hk
  cases cnd with
  | eq => exact lv_if_eq C.1 C.2.1 hd ht (fun q => k1 (decide_eq_true q)) (fun q => k2 (decide_eq_false q))
  | ne => exact lv_if_ne C.1 C.2.1 hd ht (fun q => k1 (decide_eq_true q)) (fun q => k2 (decide_eq_false (fun z => z q)))
  | lt => exact lv_if_lt C.1 C.2.1 hd ht (fun q => k1 (decide_eq_true q)) (fun q => k2 (decide_eq_false q))
  | ge => exact lv_if_ge C.1 C.2.1 hd ht (fun q => k1 (decide_eq_true q)) (fun q => k2 (decide_eq_false q))
  | gt => exact lv_if_gt C.1 C.2.1 hd ht (fun q => k1 (decide_eq_true q)) (fun q => k2 (decide_eq_false q))
  | le => exact lv_if_le C.1 C.2.1 hd ht (fun q => k1 (decide_eq_true q)) (fun q => k2 (decide_eq_false q))
theorem os_icmp (C : ow_Cx g xs mi p R s m args meth c) {cnd : ClassFile.Cond} {off : Int} {t : Nat} {x y : Int32} (hd : decode (mt_c mi) pc = .ok (.if_icmp cnd off, 3)) (ht : (pc : Int) + off = (t : Int)) (kt : ox_cb cnd x y = true → ow_Go g xs mi p l e R s m args below meth c Q n0 s0 t ls st h) (kf : ox_cb cnd x y = false → ow_Go g xs mi p l e R s m args below meth c Q n0 s0 (pc + 3) ls st h) : ow_Go g xs mi p l e R s m args below meth c Q n0 s0 pc ls (.int y :: .int x :: st) h := by
  intro H locs cells slots A hP hS hL hc hs hk
  have k1 := fun q => kt q H locs cells slots A hP hS hL hc hs hk
  have k2 := fun q => kf q H locs cells slots A hP hS hL hc hs hk
  cases cnd with
  | eq => exact lv_icmp_eq C.1 C.2.1 hd ht (fun q => k1 (decide_eq_true q)) (fun q => k2 (decide_eq_false q))
  | ne => exact lv_icmp_ne C.1 C.2.1 hd ht (fun q => k1 (decide_eq_true q)) (fun q => k2 (decide_eq_false (fun z => z q)))
  | lt => exact lv_icmp_lt C.1 C.2.1 hd ht (fun q => k1 (decide_eq_true q)) (fun q => k2 (decide_eq_false q))
  | ge => exact lv_icmp_ge C.1 C.2.1 hd ht (fun q => k1 (decide_eq_true q)) (fun q => k2 (decide_eq_false q))
  | gt => exact lv_icmp_gt C.1 C.2.1 hd ht (fun q => k1 (decide_eq_true q)) (fun q => k2 (decide_eq_false q))
  | le => exact lv_icmp_le C.1 C.2.1 hd ht (fun q => k1 (decide_eq_true q)) (fun q => k2 (decide_eq_false q))
theorem os_tabO (C : ow_Cx g xs mi p R s m args meth c) {d lo hi : Int} {offs : Array Int} {n t : Nat} {x : Int32} (hd : decode (mt_c mi) pc = .ok (.tableswitch d lo hi offs, n)) (hx : x.toInt < lo ∨ hi < x.toInt) (ht : (pc : Int) + d = (t : Int)) (kk : ow_Go g xs mi p l e R s m args below meth c Q n0 s0 t ls st h) : ow_Go g xs mi p l e R s m args below meth c Q n0 s0 pc ls (.int x :: st) h :=
  fun H locs cells slots A hP hS hL hc hs hk => lv_tableOut C.1 C.2.1 hd hx ht (kk H locs cells slots A hP hS hL hc hs hk)
theorem os_tabI (C : ow_Cx g xs mi p R s m args meth c) {d lo hi o : Int} {offs : Array Int} {n t : Nat} {x : Int32} (hd : decode (mt_c mi) pc = .ok (.tableswitch d lo hi offs, n)) (hx : ¬ (x.toInt < lo ∨ hi < x.toInt)) (ho : offs[(x.toInt - lo).toNat]? = some o) (ht : (pc : Int) + o = (t : Int)) (kk : ow_Go g xs mi p l e R s m args below meth c Q n0 s0 t ls st h) : ow_Go g xs mi p l e R s m args below meth c Q n0 s0 pc ls (.int x :: st) h :=
  fun H locs cells slots A hP hS hL hc hs hk => lv_tableIn C.1 C.2.1 hd (fun q => hx (Or.inl q)) (fun q => hx (Or.inr q)) ho ht (kk H locs cells slots A hP hS hL hc hs hk)
theorem os_look (C : ow_Cx g xs mi p R s m args meth c) {d : Int} {ps : Array (Int × Int)} {n t : Nat} {x : Int32} (hd : decode (mt_c mi) pc = .ok (.lookupswitch d ps, n)) (hp : (ps.toList.zip (ps.toList.drop 1)).all (fun (a, next) => a.1 < next.1) = true) (ht : (pc : Int) + Op.lookupswitch.offset ps.toList d x.toInt = (t : Int)) (kk : ow_Go g xs mi p l e R s m args below meth c Q n0 s0 t ls st h) : ow_Go g xs mi p l e R s m args below meth c Q n0 s0 pc ls (.int x :: st) h :=
  fun H locs cells slots A hP hS hL hc hs hk => lv_lookup C.1 C.2.1 hd hp rfl ht (kk H locs cells slots A hP hS hL hc hs hk)
theorem os_getf (C : ow_Cx g xs mi p R s m args meth c) {i a ci k : Nat} {v : Value} (hd : decode (mt_c mi) pc = .ok (.getfield i, 3)) (hr : rs_F (mt_k mi) i = some (ci, k)) (hf : ox_fld h a ci k = some v) (kk : ow_Go g xs mi p l e R s m args below meth c Q n0 s0 (pc + 3) ls (v :: st) h) : ow_Go g xs mi p l e R s m args below meth c Q n0 s0 pc ls (.ref a :: st) h := by
  intro H locs cells slots A hP hS hL hc hs hk
  obtain ⟨hx, hb, hml, hown, hts, hin, hSW, hR1, hR2, hb0⟩ := C
  obtain ⟨g1, g2, g3⟩ := rs_gf_all _ (rs_mem hr)
  obtain ⟨fs, e1, e2⟩ := ox_fld_some hf
  have ha := ow_k4_inr hk e1
  have hw := ow_ws_get (g := g) ha e1
  rw [ow_E_obj g2] at hw
  exact va_get hx hb hts (ow_inT g2) hown hSW.1 hP (a - 4) hw (ow_cl g2) k g3 (hts _ (gm_of g1 rfl)) (fun _ z => z) (by rw [List.getElem?_map, e2]; rfl) hd (kk H locs cells slots A hP hS hL hc hs hk)
theorem os_putf (C : ow_Cx g xs mi p R s m args meth c) {i a ci k : Nat} {v : Value} {fs : List Value} (hd : decode (mt_c mi) pc = .ok (.putfield i, 3)) (hr : rs_F (mt_k mi) i = some (ci, k)) (hv : ox_okv ci k v = true) (hfin : ox_fin mi ci k = true) (hf : ox_obj h a ci = some fs) (hl : k < fs.length) (kk : ow_Go g xs mi p l e R s m args below meth c Q n0 s0 (pc + 3) ls st (h.set a (.inr (ci, fs.set k v)))) : ow_Go g xs mi p l e R s m args below meth c Q n0 s0 pc ls (v :: .ref a :: st) h := by
  intro H locs cells slots A hP hS hL hc hs hk
  obtain ⟨hx, hb, hml, hown, hts, hin, hSW, hR1, hR2, hb0⟩ := C
  obtain ⟨g1, g2, g3⟩ := rs_gf_all _ (rs_mem hr)
  have e1 := ox_obj_some hf
  have ha := ow_k4_inr hk e1
  have hw := ow_ws_get (g := g) ha e1
  rw [ow_E_obj g2] at hw
  have hft := ow_fit (g := g) hv
  have hl' : k < (fs.map (ow_cv g)).length := by simpa using hl
  have heq : (ow_ws g h).set (a - 4) (ow_ad g a, .inr (ci, (fs.map (ow_cv g)).set k (ow_cv g v))) = ow_ws g (h.set a (.inr (ci, fs.set k v))) := by
    rw [← ow_ws_set ha, ow_E_obj g2, List.map_set]
  have kk' : ∀ (H1 : Heap) (locs1 : List Loc), va_P g.2.2.1 vwCl ((ow_ws g h).set (a - 4) (ow_ad g a, .inr (ci, (fs.map (ow_cv g)).set k (ow_cv g v)))) H1 → va_D (ow_A g) ((ow_ws g h).set (a - 4) (ow_ad g a, .inr (ci, (fs.map (ow_cv g)).set k (ow_cv g v)))) → va_S (ow_A g) s.heap H1 locs1 → W p l e R s m args below meth c H1 locs1 cells slots Q (F0 m (pc + 3) A (st.map (ow_cv g))) := by
    intro H1 locs1 hP1 _ hS1
    rw [heq] at hP1
    exact kk H1 locs1 cells slots A hP1 hS1 hL (by rw [List.length_set]; exact hc) (by rw [ox_sl_set e1 (by simp [ox_cl])]; exact hs) (ow_k4_set hk ha _)
  cases hfl : (mt_T ci k).2.2.2 with
  | false => exact va_put hx hb hts (ow_inT g2) (mt_ty ci) (ow_tyok g2) (ow_nm g2) hown hSW.1 hP ow_D hS (a - 4) hw (ow_cl g2) k g3 (hts _ (gm_of g1 rfl)) (fun _ z => z) hfl (ow_tyok g2 k g3) hft.1 hft.2 hl' hd kk'
  | true =>
    unfold ox_fin at hfin
    rw [hfl] at hfin
    simp only [Bool.not_true, Bool.false_or, Bool.and_eq_true, beq_iff_eq] at hfin
    exact va_putF hx hb hts (ow_inT g2) (mt_ty ci) (ow_tyok g2) (ow_nm g2) hown hSW.1 hP ow_D hS (a - 4) hw (ow_cl g2) k g3 (hts _ (gm_of g1 rfl)) (fun _ z => z) hfl (hin hfin.1) (by rw [ow_tdecl g2 k g3, hfin.2]) (ow_tyok g2 k g3) hft.1 hft.2 hl' hd kk'
theorem os_gets (C : ow_Cx g xs mi p R s m args meth c) {i k : Nat} (hd : decode (mt_c mi) pc = .ok (.getstatic i, 3)) (hr : rs_S (mt_k mi) i = some k) (kk : ow_Go g xs mi p l e R s m args below meth c Q n0 s0 (pc + 3) ls (.ref k :: st) h) : ow_Go g xs mi p l e R s m args below meth c Q n0 s0 pc ls st h := by
  intro H locs cells slots A hP hS hL hc hs hk
  obtain ⟨hx, hb, hml, hown, hts, hin, hSW, hR1, hR2, hb0⟩ := C
  obtain ⟨g1, g2, g3⟩ := rs_gs_all _ (rs_mem hr)
  have hZ := (hSW.2.2.2.2.2.2 k g2 g3).1
  have hn := hSW.2.2.1 _ (rs_mem hr)
  have k1 := kk H locs cells slots A hP hS hL hc hs hk
  have ek : ow_cv g (.ref k) = .ref (g.2.1 k) := by simp [ow_cv, ow_ad, show k < 4 by have : k ≤ 3 := g3; omega]
  rw [List.map_cons, ek] at k1
  exact va_getsN hx hb hZ hS hown (va_Nw.use rfl hn) (fun _ z => z) hd k1
end
end
section
/-! Arrays, new cells, calls of the library. -/
theorem ow_ad4 {g : ow_G} {a : Nat} (h : a < 4) : ow_ad g a = g.2.1 a := if_pos h
theorem ow_isI {t : Nat} (h : ox_isI t = true) : t = 0 ∨ t = 2 := by simpa [ox_isI] using h
theorem ow_t13 (k : Nat) : (ow_tab k).length = 13 := by unfold ow_tab; split; rfl; split <;> rfl
theorem ow_map1 {g : ow_G} {st : List Value} (hst : st.all (fun v => v.category == 1) = true) : ((st.map (ow_cv g)).map fun v => v.category).sum = st.length := by
  induction st with
  | nil => rfl
  | cons v st ih =>
    simp only [List.all_cons, Bool.and_eq_true, beq_iff_eq] at hst
    simp only [List.map_cons, List.sum_cons, List.length_cons, ow_cat, hst.1, ih hst.2]
    omega
theorem ow_cpy {l l' : List Int32} {n : Nat} (h1 : n ≤ l.length) (h2 : n ≤ l'.length) : va_cpy (fun j => l.getD j 0) (fun j => l'.getD j 0) 0 0 n = fun j => (l.take n ++ l'.drop n).getD j 0 := by
  funext j
  simp only [va_cpy, Nat.zero_le, true_and, Nat.zero_add, Nat.sub_zero]
  by_cases hj : j < n
  · rw [if_pos hj]
    simp [List.getElem?_append_left (show j < (l.take n).length by simp; omega), List.getElem?_take, hj]
  · rw [if_neg hj]
    simp only [List.getD_eq_getElem?_getD]
    rw [List.getElem?_append_right (by simp; omega), List.getElem?_drop]
    congr 2
    simp
    omega
section
variable {g : ow_G} {xs : List Int32} {mi : Nat} {p : Program} {l : Launch} {e : Env} {R : Room} {s : State} {m : MethodId} {args : Array Value} {below : List Frame} {meth : Method} {c : Code} {Q : State → Prop} {n0 s0 pc : Nat} {ls st : List Value} {h : ox_H}
theorem os_iald (C : ow_Cx g xs mi p R s m args meth c) {a : Nat} {i x : Int32} {l0 : List Int32} (hd : decode (mt_c mi) pc = .ok (.iaload, 1)) (hf : ox_ints h a ox_isI = some l0) (hi : ox_at l0 i = some x) (kk : ow_Go g xs mi p l e R s m args below meth c Q n0 s0 (pc + 1) ls (.int x :: st) h) : ow_Go g xs mi p l e R s m args below meth c Q n0 s0 pc ls (.int i :: .ref a :: st) h := by
  intro H locs cells slots A hP hS hL hc hs hk
  obtain ⟨hx, hb, hml, hown, hts, hin, hSW, hR1, hR2, hb0⟩ := C
  obtain ⟨t, e1, e2⟩ := ox_ints_some hf
  obtain ⟨i1, i2, i3, i4⟩ := ox_at_some hi
  have k1 := kk H locs cells slots A hP hS hL hc hs hk
  rcases Nat.lt_or_ge a 4 with ha | ha
  · rw [ow_k4_get hk ha] at e1
    match a, ha, e1 with
    | 0, _, e1 =>
      cases e1
      refine va_sld hx hb hSW.2.2.2.1 hSW.2.2.2.2.1 (Nat.not_le.mpr hSW.2.2.2.2.2.1) hS i4 hd ?_
      rw [ow_getD i3]
      exact k1
    | 1, _, e1 =>
      cases e1
      exact va_ti hx hb (hSW.2.2.2.2.2.2 1 (by omega) (by omega)).2 hS (N := 13) i4 (by rw [show ow_tab 1 = ow_t1 from rfl, ow_getD i3]; rfl) hd k1
    | 2, _, e1 => cases e1; cases e2
    | 3, _, e1 => cases e1; cases e2
  · have hw := ow_ws_get (g := g) ha e1
    rw [ow_E_int (by rcases ow_isI e2 with q | q <;> omega)] at hw
    refine va_iald hx hb hSW.1 hP (a - 4) 0 hw rfl i4 hd ?_
    rw [ow_getD i3]
    exact k1
theorem os_bald (C : ow_Cx g xs mi p R s m args meth c) {a : Nat} {i x : Int32} {l0 : List Int32} (hd : decode (mt_c mi) pc = .ok (.baload, 1)) (hf : ox_ints h a ox_isZ = some l0) (hi : ox_at l0 i = some x) (kk : ow_Go g xs mi p l e R s m args below meth c Q n0 s0 (pc + 1) ls (.int x :: st) h) : ow_Go g xs mi p l e R s m args below meth c Q n0 s0 pc ls (.int i :: .ref a :: st) h := by
  intro H locs cells slots A hP hS hL hc hs hk
  obtain ⟨hx, hb, hml, hown, hts, hin, hSW, hR1, hR2, hb0⟩ := C
  obtain ⟨t, e1, e2⟩ := ox_ints_some hf
  obtain ⟨i1, i2, i3, i4⟩ := ox_at_some hi
  have ht : t = 1 := by simpa [ox_isZ] using e2
  subst ht
  have ha := ow_k4_inl hk e1 (by omega)
  have hw := ow_ws_get (g := g) ha e1
  rw [ow_E_bool] at hw
  refine va_zald hx hb hSW.1 hP (a - 4) 1 hw rfl i4 hd ?_
  rw [ow_getD i3]
  exact kk H locs cells slots A hP hS hL hc hs hk
theorem os_cald (C : ow_Cx g xs mi p R s m args meth c) {a : Nat} {i x : Int32} {l0 : List Int32} (hd : decode (mt_c mi) pc = .ok (.caload, 1)) (hf : (if a < 4 then ox_ints h a ox_isC else none) = some l0) (hi : ox_at l0 i = some x) (kk : ow_Go g xs mi p l e R s m args below meth c Q n0 s0 (pc + 1) ls (.int x :: st) h) : ow_Go g xs mi p l e R s m args below meth c Q n0 s0 pc ls (.int i :: .ref a :: st) h := by
  intro H locs cells slots A hP hS hL hc hs hk
  obtain ⟨hx, hb, hml, hown, hts, hin, hSW, hR1, hR2, hb0⟩ := C
  rcases Nat.lt_or_ge a 4 with ha | ha
  · rw [if_pos ha] at hf
    obtain ⟨t, e1, e2⟩ := ox_ints_some hf
    obtain ⟨i1, i2, i3, i4⟩ := ox_at_some hi
    have k1 := kk H locs cells slots A hP hS hL hc hs hk
    rw [ow_k4_get hk ha] at e1
    match a, ha, e1 with
    | 0, _, e1 => cases e1; cases e2
    | 1, _, e1 => cases e1; cases e2
    | 2, _, e1 =>
      cases e1
      exact va_tc hx hb (hSW.2.2.2.2.2.2 2 (by omega) (by omega)).2 hS (N := 13) i4 (by rw [show ow_tab 2 = ow_t2 from rfl, ow_getD i3]; rfl) hd k1
    | 3, _, e1 =>
      cases e1
      exact va_tc hx hb (hSW.2.2.2.2.2.2 3 (by omega) (by omega)).2 hS (N := 13) i4 (by rw [show ow_tab 3 = ow_t3 from rfl, ow_getD i3]; rfl) hd k1
  · rw [if_neg (Nat.not_lt.mpr ha)] at hf
    cases hf
theorem os_aald (C : ow_Cx g xs mi p R s m args meth c) {a b : Nat} {i : Int32} {l0 : List Value} (hd : decode (mt_c mi) pc = .ok (.aaload, 1)) (hf : ox_obj h a 4 = some l0) (hi : ox_at l0 i = some (.ref b)) (kk : ow_Go g xs mi p l e R s m args below meth c Q n0 s0 (pc + 1) ls (.ref b :: st) h) : ow_Go g xs mi p l e R s m args below meth c Q n0 s0 pc ls (.int i :: .ref a :: st) h := by
  intro H locs cells slots A hP hS hL hc hs hk
  obtain ⟨hx, hb, hml, hown, hts, hin, hSW, hR1, hR2, hb0⟩ := C
  have e1 := ox_obj_some hf
  obtain ⟨i1, i2, i3, i4⟩ := ox_at_some hi
  have ha := ow_k4_inr hk e1
  have hw := ow_ws_get (g := g) ha e1
  rw [ow_E_row] at hw
  refine va_aldq hx hb hSW.1 hP (a - 4) 2 hw rfl i4 hd ?_
  have e : va_rf (ow_ro g (l0.getD i.toNatClampNeg .null)) = ow_cv g (.ref b) := by simp [i3, ow_ro, va_rf, ow_cv]
  rw [e]
  exact kk H locs cells slots A hP hS hL hc hs hk
theorem os_iast (C : ow_Cx g xs mi p R s m args meth c) {a : Nat} {i x y : Int32} {l0 : List Int32} (hd : decode (mt_c mi) pc = .ok (.iastore, 1)) (hf : ox_ints h a ox_is0 = some l0) (hi : ox_at l0 i = some y) (kk : ow_Go g xs mi p l e R s m args below meth c Q n0 s0 (pc + 1) ls st (h.set a (.inl (0, l0.set i.toNatClampNeg x)))) : ow_Go g xs mi p l e R s m args below meth c Q n0 s0 pc ls (.int x :: .int i :: .ref a :: st) h := by
  intro H locs cells slots A hP hS hL hc hs hk
  obtain ⟨hx, hb, hml, hown, hts, hin, hSW, hR1, hR2, hb0⟩ := C
  obtain ⟨t, e1, e2⟩ := ox_ints_some hf
  obtain ⟨i1, i2, i3, i4⟩ := ox_at_some hi
  have ht : t = 0 := by simpa [ox_is0] using e2
  subst ht
  have ha := ow_k4_inl hk e1 (by omega)
  have hw := ow_ws_get (g := g) ha e1
  rw [ow_E_int (by omega)] at hw
  refine va_iast hx hb hSW.1 hP ow_D hS (a - 4) 0 hw rfl i4 hd (fun H1 locs1 hP1 _ hS1 => ?_)
  have heq : (ow_ws g h).set (a - 4) (ow_ad g a, .inl (g.2.2.2.1, l0.length, .inl (upd (fun j => l0.getD j 0) i.toNatClampNeg x))) = ow_ws g (h.set a (.inl (0, l0.set i.toNatClampNeg x))) := by
    rw [← ow_ws_set ha, ow_E_int (by omega), ow_upd i2, List.length_set]
  rw [heq] at hP1
  exact kk H1 locs1 cells slots A hP1 hS1 hL (by rw [List.length_set]; exact hc) (by rw [ox_sl_set e1 (by simp [ox_cl])]; exact hs) (ow_k4_set hk ha _)
theorem os_bast (C : ow_Cx g xs mi p R s m args meth c) {a : Nat} {i x y : Int32} {l0 : List Int32} (hd : decode (mt_c mi) pc = .ok (.bastore, 1)) (hx01 : x = 0 ∨ x = 1) (hf : ox_ints h a ox_isZ = some l0) (hi : ox_at l0 i = some y) (kk : ow_Go g xs mi p l e R s m args below meth c Q n0 s0 (pc + 1) ls st (h.set a (.inl (1, l0.set i.toNatClampNeg x)))) : ow_Go g xs mi p l e R s m args below meth c Q n0 s0 pc ls (.int x :: .int i :: .ref a :: st) h := by
  intro H locs cells slots A hP hS hL hc hs hk
  obtain ⟨hx, hb, hml, hown, hts, hin, hSW, hR1, hR2, hb0⟩ := C
  obtain ⟨t, e1, e2⟩ := ox_ints_some hf
  obtain ⟨i1, i2, i3, i4⟩ := ox_at_some hi
  have ht : t = 1 := by simpa [ox_isZ] using e2
  subst ht
  have ha := ow_k4_inl hk e1 (by omega)
  have hw := ow_ws_get (g := g) ha e1
  rw [ow_E_bool] at hw
  refine va_zast hx hb hSW.1 hP ow_D hS (a - 4) 1 hw rfl i4 hd (fun H1 locs1 hP1 _ hS1 => ?_)
  have hnar : vp_nar .boolean x = x := by rcases hx01 with rfl | rfl <;> rfl
  have heq : (ow_ws g h).set (a - 4) (ow_ad g a, .inl (g.2.2.2.2.1, l0.length, .inl (upd (fun j => l0.getD j 0) i.toNatClampNeg (vp_nar .boolean x)))) = ow_ws g (h.set a (.inl (1, l0.set i.toNatClampNeg x))) := by
    rw [← ow_ws_set ha, ow_E_bool, hnar, ow_upd i2, List.length_set]
  rw [heq] at hP1
  exact kk H1 locs1 cells slots A hP1 hS1 hL (by rw [List.length_set]; exact hc) (by rw [ox_sl_set e1 (by simp [ox_cl])]; exact hs) (ow_k4_set hk ha _)
theorem os_aast (C : ow_Cx g xs mi p R s m args meth c) {a b : Nat} {i : Int32} {y : Value} {l0 fs : List Value} (hd : decode (mt_c mi) pc = .ok (.aastore, 1)) (hob : ox_obj h b 1 = some fs) (hf : ox_obj h a 4 = some l0) (hi : ox_at l0 i = some y) (kk : ow_Go g xs mi p l e R s m args below meth c Q n0 s0 (pc + 1) ls st (h.set a (.inr (4, l0.set i.toNatClampNeg (.ref b))))) : ow_Go g xs mi p l e R s m args below meth c Q n0 s0 pc ls (.ref b :: .int i :: .ref a :: st) h := by
  intro H locs cells slots A hP hS hL hc hs hk
  obtain ⟨hx, hb, hml, hown, hts, hin, hSW, hR1, hR2, hb0⟩ := C
  have e1 := ox_obj_some hf
  have e2 := ox_obj_some hob
  obtain ⟨i1, i2, i3, i4⟩ := ox_at_some hi
  have ha := ow_k4_inr hk e1
  have hb4 := ow_k4_inr hk e2
  have hw := ow_ws_get (g := g) ha e1
  rw [ow_E_row] at hw
  have hw2 := ow_ws_get (g := g) hb4 e2
  rw [ow_E_obj (by omega)] at hw2
  refine va_astq hx hb hSW.1 hP ow_D hS (a - 4) 2 (b - 4) 1 (r := (mt_R 1, mt_T 1, mt_N 1)) hw rfl hw2 (ow_cl (by omega)) i4 hd (fun H1 locs1 hP1 _ hS1 => ?_)
  have heq : (ow_ws g h).set (a - 4) (ow_ad g a, .inl (g.2.2.2.2.2, l0.length, .inr (.inr (.inr (.inr (va_up (fun j => ow_ro g (l0.getD j .null)) i.toNatClampNeg (some (ow_ad g b)))))))) = ow_ws g (h.set a (.inr (4, l0.set i.toNatClampNeg (.ref b)))) := by
    have hfun : va_up (fun j => ow_ro g (l0.getD j .null)) i.toNatClampNeg (some (ow_ad g b)) = fun j => ow_ro g ((l0.set i.toNatClampNeg (.ref b)).getD j .null) := by
      funext j
      by_cases hj : j = i.toNatClampNeg
      · subst hj
        simp [va_up, i2, ow_ro]
      · simp [va_up, hj, List.getElem?_set_ne (Ne.symm hj)]
    rw [← ow_ws_set ha, ow_E_row, List.length_set, hfun]
  rw [heq] at hP1
  exact kk H1 locs1 cells slots A hP1 hS1 hL (by rw [List.length_set]; exact hc) (by rw [ox_sl_set e1 (by simp [ox_cl])]; exact hs) (ow_k4_set hk ha _)
theorem os_alen (C : ow_Cx g xs mi p R s m args meth c) {a n : Nat} (hd : decode (mt_c mi) pc = .ok (.arraylength, 1)) (hf : ox_len h a = some n) (kk : ow_Go g xs mi p l e R s m args below meth c Q n0 s0 (pc + 1) ls (.int (Int32.ofNat n) :: st) h) : ow_Go g xs mi p l e R s m args below meth c Q n0 s0 pc ls (.ref a :: st) h := by
  intro H locs cells slots A hP hS hL hc hs hk
  obtain ⟨hx, hb, hml, hown, hts, hin, hSW, hR1, hR2, hb0⟩ := C
  have k1 := kk H locs cells slots A hP hS hL hc hs hk
  unfold ox_len at hf
  rcases Nat.lt_or_ge a 4 with ha | ha
  · rw [ow_k4_get hk ha] at hf
    match a, ha, hf with
    | 0, _, hf => cases hf; exact va_slen hx hb hSW.2.2.2.1 hSW.2.2.2.2.1 (Nat.not_le.mpr hSW.2.2.2.2.2.1) hS hd k1
    | 1, _, hf => cases hf; exact va_tlen hx hb (hSW.2.2.2.2.2.2 1 (by omega) (by omega)).2 hS rfl hd k1
    | 2, _, hf => cases hf; exact va_tlen hx hb (hSW.2.2.2.2.2.2 2 (by omega) (by omega)).2 hS rfl hd k1
    | 3, _, hf => cases hf; exact va_tlen hx hb (hSW.2.2.2.2.2.2 3 (by omega) (by omega)).2 hS rfl hd k1
  · split at hf
    · rename_i q hq
      cases hf
      have hw := ow_ws_get (g := g) ha hq
      by_cases h1 : q.1 = 1
      · obtain ⟨t, l0⟩ := q
        cases h1
        rw [ow_E_bool] at hw
        exact va_alen hx hb hSW.1 hP (a - 4) 1 hw (ty := .boolean) rfl rfl hd k1
      · obtain ⟨t, l0⟩ := q
        rw [ow_E_int h1] at hw
        exact va_alen hx hb hSW.1 hP (a - 4) 0 hw (ty := .int) rfl rfl hd k1
    · rename_i q hq
      split at hf
      · rename_i h4
        obtain ⟨t, l0⟩ := q
        cases h4
        cases hf
        have hw := ow_ws_get (g := g) ha hq
        rw [ow_E_row] at hw
        exact va_alen hx hb hSW.1 hP (a - 4) 2 hw (ty := .object "OutlineEditor$Outline") rfl rfl hd k1
      · cases hf
    · cases hf
/-- behind a new cell -/
theorem os_pushed {q : Nat} {E : va_E} {x : ox_C} {H1 : Heap} {locs : List Loc} {cells slots : Nat} {A : Array Slot} (hn : s.heap.size + 4 = g.1 + n0) (hk : ow_k4 xs h) (hE : E = ow_E g x) (hP1 : va_P g.2.2.1 vwCl (ow_ws g h ++ [(q, E)]) H1) (hD1 : va_D (ow_A g) (ow_ws g h ++ [(q, E)])) (hc : cells + n0 = h.length) (hs : slots + s0 = ox_sl h)
    (hS1 : va_S (ow_A g) s.heap H1 locs) (hL : ow_L g A (mt_n mi) ls) {pc' : Nat} (kk : ow_Go g xs mi p l e R s m args below meth c Q n0 s0 pc' ls (.ref h.length :: st) (h ++ [x])) : W p l e R s m args below meth c H1 locs (cells + 1) (slots + ox_cl x) Q (F0 m pc' A (.ref q :: st.map (ow_cv g))) := by
  refine ow_sz (fun hz => ?_)
  have hlen := ow_k4_len hk
  have hlast : (ow_ws g h ++ [(q, E)])[(ow_ws g h).length]? = some (q, E) := by simp
  have hq := (hP1 _ _ hlast).lt
  have e := ow_newq hD1 hlen (by simp only at hq; omega)
  subst e
  subst hE
  rw [← ow_ws_push hlen] at hP1
  exact kk H1 locs (cells + 1) (slots + ox_cl x) A hP1 hS1 hL (by simp; omega) (by rw [ox_sl_push]; omega) (ow_k4_push hk x)
theorem os_new (C : ow_Cx g xs mi p R s m args meth c) (hn : s.heap.size + 4 = g.1 + n0) {i k : Nat} (hd : decode (mt_c mi) pc = .ok (.new i, 3)) (hr : rs_K (mt_k mi) i = some k) (hrc : h.length + 1 ≤ R.cells + n0) (hrs : ox_sl h + ox_cl (.inr (k, ox_dfl k)) ≤ R.slots + s0) (kk : ow_Go g xs mi p l e R s m args below meth c Q n0 s0 (pc + 3) ls (.ref h.length :: st) (h ++ [.inr (k, ox_dfl k)])) : ow_Go g xs mi p l e R s m args below meth c Q n0 s0 pc ls st h := by
  intro H locs cells slots A hP hS hL hc hs hk
  obtain ⟨hx, hb, hml, hown, hts, hin, hSW, hR1, hR2, hb0⟩ := C
  obtain ⟨g1, g2, g3, g4⟩ := rs_gk_all _ (rs_mem hr)
  have g2 : k < 4 := g2
  have hlen : (ox_dfl k).length = mt_N k := by
    match k, g2 with
    | 0, _ => rfl
    | 1, _ => rfl
    | 2, _ => rfl
    | 3, _ => rfl
  have hmap : (ox_dfl k).map (ow_cv g) = ox_dfl k := by
    match k, g2 with
    | 0, _ => rfl
    | 1, _ => rfl
    | 2, _ => rfl
    | 3, _ => rfl
  have hdef : ∀ j, j < mt_N k → defaultValue (mt_ty k j) = vp_V (ox_dfl k) j := by
    match k, g2 with
    | 0, _ => decide
    | 1, _ => decide
    | 2, _ => decide
    | 3, _ => decide
  have e0 : ox_cl (.inr (k, ox_dfl k)) = mt_N k := hlen
  rw [e0] at hrs
  refine va_new (ci := k) (fs := ox_dfl k) hx hb hts (ow_inT g2) (mt_ty k) (ow_tyok g2) hown (hts _ (gm_of g1 rfl)) (hts _ (gm_of g3 rfl)) (hts _ (gm_of g4 rfl)) hSW.1 hP ow_D hS (fun q hq => Nat.le_trans hb0 hq) (ow_cl g2) hdef (by omega) (by omega) hd (fun q H1 hP1 hD1 hS1 => ?_)
  rw [← e0]
  exact os_pushed hn hk (by rw [ow_E_obj g2, hmap]) hP1 hD1 hc hs hS1 hL kk
theorem os_newI (C : ow_Cx g xs mi p R s m args meth c) (hn : s.heap.size + 4 = g.1 + n0) {k : Int32} (hd : decode (mt_c mi) pc = .ok (.newarray .int, 2)) (h0 : 0 ≤ k) (h1 : k.toNatClampNeg ≤ 100000) (hrc : h.length + 1 ≤ R.cells + n0) (hrs : ox_sl h + k.toNatClampNeg ≤ R.slots + s0) (kk : ow_Go g xs mi p l e R s m args below meth c Q n0 s0 (pc + 2) ls (.ref h.length :: st) (h ++ [.inl (0, List.replicate k.toNatClampNeg 0)])) : ow_Go g xs mi p l e R s m args below meth c Q n0 s0 pc ls (.int k :: st) h := by
  intro H locs cells slots A hP hS hL hc hs hk
  obtain ⟨hx, hb, hml, hown, hts, hin, hSW, hR1, hR2, hb0⟩ := C
  refine va_newa (atype := .int) (ty := .int) (a0 := (k.toNatClampNeg, .inl (fun j => (List.replicate k.toNatClampNeg (0 : Int32)).getD j 0))) hx hb (hts _ (gm_of wd_aI rfl)) rfl hSW.1 hP ow_D hS (fun q hq => Nat.le_trans hb0 hq) (fun cA => ?_) (Int32.not_lt.mpr h0) rfl (by show k.toNatClampNeg * 4 ≤ _; omega) (by omega) (by omega) hd (fun q cA H1 hK1 hP1 hD1 hS1 => ?_)
  · rw [vp_cell_i]
    congr 1
    funext j
    by_cases hj : j < k.toNatClampNeg <;> simp [hj] <;> rfl
  · have h3 : s.vm.findClass ("[" ++ FieldType.int.toString) = some cA := (hK1.2 3 (cA, .int) rfl).2
    have h4 : s.vm.findClass ("[" ++ FieldType.int.toString) = some g.2.2.2.1 := (hK1.2 0 (g.2.2.2.1, .int) rfl).2
    have ec : cA = g.2.2.2.1 := Option.some.inj (h3.symm.trans h4)
    subst ec
    have e0 : ox_cl (.inl (0, List.replicate k.toNatClampNeg 0)) = k.toNatClampNeg := by simp [ox_cl]
    have r := os_pushed (x := .inl (0, List.replicate k.toNatClampNeg 0)) (slots := slots) hn hk (by rw [ow_E_int (by omega), List.length_replicate]) hP1 hD1 hc hs hS1 hL kk
    rw [e0] at r
    exact r
theorem os_newZ (C : ow_Cx g xs mi p R s m args meth c) (hn : s.heap.size + 4 = g.1 + n0) {k : Int32} (hd : decode (mt_c mi) pc = .ok (.newarray .boolean, 2)) (h0 : 0 ≤ k) (h1 : k.toNatClampNeg ≤ 100000) (hrc : h.length + 1 ≤ R.cells + n0) (hrs : ox_sl h + k.toNatClampNeg ≤ R.slots + s0) (kk : ow_Go g xs mi p l e R s m args below meth c Q n0 s0 (pc + 2) ls (.ref h.length :: st) (h ++ [.inl (1, List.replicate k.toNatClampNeg 0)])) : ow_Go g xs mi p l e R s m args below meth c Q n0 s0 pc ls (.int k :: st) h := by
  intro H locs cells slots A hP hS hL hc hs hk
  obtain ⟨hx, hb, hml, hown, hts, hin, hSW, hR1, hR2, hb0⟩ := C
  refine va_newa (atype := .boolean) (ty := .boolean) (a0 := (k.toNatClampNeg, .inl (fun j => (List.replicate k.toNatClampNeg (0 : Int32)).getD j 0))) hx hb (hts _ (gm_of wd_aZ rfl)) rfl hSW.1 hP ow_D hS (fun q hq => Nat.le_trans hb0 hq) (fun cA => ?_) (Int32.not_lt.mpr h0) rfl (by show k.toNatClampNeg * 1 ≤ _; omega) (by omega) (by omega) hd (fun q cA H1 hK1 hP1 hD1 hS1 => ?_)
  · rw [vp_cell_i]
    congr 1
    funext j
    by_cases hj : j < k.toNatClampNeg <;> simp [hj] <;> rfl
  · have h3 : s.vm.findClass ("[" ++ FieldType.boolean.toString) = some cA := (hK1.2 3 (cA, .boolean) rfl).2
    have h4 : s.vm.findClass ("[" ++ FieldType.boolean.toString) = some g.2.2.2.2.1 := (hK1.2 1 (g.2.2.2.2.1, .boolean) rfl).2
    have ec : cA = g.2.2.2.2.1 := Option.some.inj (h3.symm.trans h4)
    subst ec
    have e0 : ox_cl (.inl (1, List.replicate k.toNatClampNeg 0)) = k.toNatClampNeg := by simp [ox_cl]
    have r := os_pushed (x := .inl (1, List.replicate k.toNatClampNeg 0)) (slots := slots) hn hk (by rw [ow_E_bool, List.length_replicate]) hP1 hD1 hc hs hS1 hL kk
    rw [e0] at r
    exact r
theorem os_newq (C : ow_Cx g xs mi p R s m args meth c) (hn : s.heap.size + 4 = g.1 + n0) {i : Nat} {k : Int32} (hd : decode (mt_c mi) pc = .ok (.anewarray i, 3)) (hr : rs_K (mt_k mi) i = some 1) (h0 : 0 ≤ k) (h1 : k.toNatClampNeg ≤ 100000) (hrc : h.length + 1 ≤ R.cells + n0) (hrs : ox_sl h + k.toNatClampNeg ≤ R.slots + s0) (kk : ow_Go g xs mi p l e R s m args below meth c Q n0 s0 (pc + 3) ls (.ref h.length :: st) (h ++ [.inr (4, List.replicate k.toNatClampNeg .null)])) : ow_Go g xs mi p l e R s m args below meth c Q n0 s0 pc ls (.int k :: st) h := by
  intro H locs cells slots A hP hS hL hc hs hk
  obtain ⟨hx, hb, hml, hown, hts, hin, hSW, hR1, hR2, hb0⟩ := C
  obtain ⟨g1, g2, g3, g4⟩ := rs_gk_all _ (rs_mem hr)
  refine va_newq (C := "OutlineEditor$Outline") hx hb hown (hts _ (gm_of g1 rfl)) hSW.2.1 hSW.1 hP ow_D hS (fun q hq => Nat.le_trans hb0 hq) (Int32.not_lt.mpr h0) rfl (by omega) (by omega) (by omega) hd (fun q cA H1 hK1 hP1 hD1 hS1 => ?_)
  obtain ⟨-, -, -, -, -, h3⟩ := (hK1.2 3 (cA, .object "OutlineEditor$Outline") rfl).2
  obtain ⟨-, -, -, -, -, h4⟩ := (hK1.2 2 (g.2.2.2.2.2, .object "OutlineEditor$Outline") rfl).2
  have ec : cA = g.2.2.2.2.2 := Option.some.inj (h3.symm.trans h4)
  subst ec
  have e0 : ox_cl (.inr (4, List.replicate k.toNatClampNeg .null)) = k.toNatClampNeg := by simp [ox_cl]
  have hfun : (fun _ => none : Nat → Option Nat) = fun j => ow_ro g ((List.replicate k.toNatClampNeg Value.null).getD j .null) := by
    funext j
    by_cases hj : j < k.toNatClampNeg <;> simp [hj, ow_ro]
  have r := os_pushed (x := .inr (4, List.replicate k.toNatClampNeg .null)) (slots := slots) hn hk (by rw [ow_E_row, List.length_replicate, hfun]) hP1 hD1 hc hs hS1 hL kk
  rw [e0] at r
  exact r
theorem os_obj (C : ow_Cx g xs mi p R s m args meth c) {i a : Nat} (hd : decode (mt_c mi) pc = .ok (.invokespecial i, 3)) (hr : rs_M (mt_k mi) i = some 1000) (hk1 : 1 ≤ mt_r mi) (hst : st.length ≤ 8) (hst2 : st.all (fun v => v.category == 1) = true) (kk : ow_Go g xs mi p l e R s m args below meth c Q n0 s0 (pc + 3) ls st h) : ow_Go g xs mi p l e R s m args below meth c Q n0 s0 pc ls (.ref a :: st) h := by
  intro H locs cells slots A hP hS hL hc hs hk
  obtain ⟨hx, hb, hml, hown, hts, hin, hSW, hR1, hR2, hb0⟩ := C
  obtain ⟨g1, -⟩ := rs_gm_all _ (rs_mem hr)
  have hroom := ow_map1 (g := g) hst2
  exact W.objInit hx hb hown (hts _ (gm_of g1 rfl)) (hts _ (gm_of wd_objI rfl)) (hts _ (gm_of wd_objC rfl)) rfl (by rw [hml]; exact hL.1.1) rfl hd (by omega) (by show 2 * 0 + _ + 12 ≤ _; omega) (kk H locs cells slots A hP hS hL hc hs hk)
theorem os_max (C : ow_Cx g xs mi p R s m args meth c) {i : Nat} {x y : Int32} (hd : decode (mt_c mi) pc = .ok (.invokestatic i, 3)) (hr : rs_M (mt_k mi) i = some 1001) (hk1 : 1 ≤ mt_r mi) (hst : st.length ≤ 8) (hst2 : st.all (fun v => v.category == 1) = true) (hrc : h.length ≤ R.cells + n0) (hrs : ox_sl h ≤ R.slots + s0) (kk : ow_Go g xs mi p l e R s m args below meth c Q n0 s0 (pc + 3) ls (.int (if x < y then y else x) :: st) h) : ow_Go g xs mi p l e R s m args below meth c Q n0 s0 pc ls (.int y :: .int x :: st) h := by
  intro H locs cells slots A hP hS hL hc hs hk
  obtain ⟨hx, hb, hml, hown, hts, hin, hSW, hR1, hR2, hb0⟩ := C
  obtain ⟨g1, -⟩ := rs_gm_all _ (rs_mem hr)
  have hroom := ow_map1 (g := g) hst2
  exact va_mmax hx hb (by rw [hml]; exact hL.1.1.symm) hown (hts _ (gm_of g1 rfl)) (hts _ (gm_of wd_maxS rfl)) (hts _ (gm_of wd_mathI rfl)) (hts _ (gm_of wd_maxC rfl)) (by omega) (by omega) (by omega) (by omega) hd (kk H locs cells slots A hP hS hL hc hs hk)
theorem os_min (C : ow_Cx g xs mi p R s m args meth c) {i : Nat} {x y : Int32} (hd : decode (mt_c mi) pc = .ok (.invokestatic i, 3)) (hr : rs_M (mt_k mi) i = some 1002) (hk1 : 1 ≤ mt_r mi) (hst : st.length ≤ 8) (hst2 : st.all (fun v => v.category == 1) = true) (hrc : h.length ≤ R.cells + n0) (hrs : ox_sl h ≤ R.slots + s0) (kk : ow_Go g xs mi p l e R s m args below meth c Q n0 s0 (pc + 3) ls (.int (if y < x then y else x) :: st) h) : ow_Go g xs mi p l e R s m args below meth c Q n0 s0 pc ls (.int y :: .int x :: st) h := by
  intro H locs cells slots A hP hS hL hc hs hk
  obtain ⟨hx, hb, hml, hown, hts, hin, hSW, hR1, hR2, hb0⟩ := C
  obtain ⟨g1, -⟩ := rs_gm_all _ (rs_mem hr)
  have hroom := ow_map1 (g := g) hst2
  exact va_mmin hx hb (by rw [hml]; exact hL.1.1.symm) hown (hts _ (gm_of g1 rfl)) (hts _ (gm_of wd_minS rfl)) (hts _ (gm_of wd_mathI rfl)) (hts _ (gm_of wd_minC rfl)) (by omega) (by omega) (by omega) (by omega) hd (kk H locs cells slots A hP hS hL hc hs hk)
theorem os_copy (C : ow_Cx g xs mi p R s m args meth c) {i a b : Nat} {k : Int32} {l0 l1 : List Int32} (hd : decode (mt_c mi) pc = .ok (.invokestatic i, 3)) (hr : rs_M (mt_k mi) i = some 1003) (hk1 : 1 ≤ mt_r mi) (hst : st.length ≤ 8) (hst2 : st.all (fun v => v.category == 1) = true) (h0 : 0 ≤ k) (hf : ox_ints h a ox_is0 = some l0) (hf1 : ox_ints h b ox_is0 = some l1) (hl0 : k.toNatClampNeg ≤ l0.length) (hl1 : k.toNatClampNeg ≤ l1.length)
    (kk : ow_Go g xs mi p l e R s m args below meth c Q n0 s0 (pc + 3) ls st (h.set b (.inl (0, l0.take k.toNatClampNeg ++ l1.drop k.toNatClampNeg)))) : ow_Go g xs mi p l e R s m args below meth c Q n0 s0 pc ls (.int k :: .int 0 :: .ref b :: .int 0 :: .ref a :: st) h := by
  intro H locs cells slots A hP hS hL hc hs hk
  obtain ⟨hx, hb, hml, hown, hts, hin, hSW, hR1, hR2, hb0⟩ := C
  obtain ⟨g1, -⟩ := rs_gm_all _ (rs_mem hr)
  obtain ⟨t, e1, e2⟩ := ox_ints_some hf
  have ht : t = 0 := by simpa [ox_is0] using e2
  subst ht
  obtain ⟨t, f1, f2⟩ := ox_ints_some hf1
  have ht : t = 0 := by simpa [ox_is0] using f2
  subst ht
  have ha := ow_k4_inl hk e1 (by omega)
  have hb4 := ow_k4_inl hk f1 (by omega)
  have hw := ow_ws_get (g := g) ha e1
  have hw1 := ow_ws_get (g := g) hb4 f1
  rw [ow_E_int (by omega)] at hw hw1
  have hroom := ow_map1 (g := g) hst2
  refine va_copyi hx hb (by rw [hml]; exact hL.1.1.symm) hown (hts _ (gm_of g1 rfl)) (hts _ (gm_of wd_cpyN rfl)) (hts _ (gm_of wd_cpyS rfl)) (hts _ (gm_of wd_sysI rfl)) hSW.1 hP ow_D hS (a - 4) (b - 4) 0 0 (ty := .int) hw hw1 rfl rfl rfl (by decide) (by decide) (Int32.not_lt.mpr h0) (by show 0 + _ ≤ _; omega) (by show 0 + _ ≤ _; omega) (fun _ _ => rfl) (by omega) (by rw [show nativeFrameWords "java/lang/System" "arraycopy" 5 = 7 by decide]; omega) hd (fun H1 locs1 hP1 _ hS1 => ?_)
  have z0 : (0 : Int32).toNatClampNeg = 0 := rfl
  rw [z0, ow_cpy hl0 hl1] at hP1
  have heq : (ow_ws g h).set (b - 4) (ow_ad g b, .inl (g.2.2.2.1, l1.length, .inl (fun j => (l0.take k.toNatClampNeg ++ l1.drop k.toNatClampNeg).getD j 0))) = ow_ws g (h.set b (.inl (0, l0.take k.toNatClampNeg ++ l1.drop k.toNatClampNeg))) := by
    rw [← ow_ws_set hb4, ow_E_int (by omega)]
    congr 4
    simp
    omega
  rw [heq] at hP1
  exact kk H1 locs1 cells slots A hP1 hS1 hL (by rw [List.length_set]; exact hc) (by rw [ox_sl_set f1 (by simp [ox_cl]; omega)]; exact hs) (ow_k4_set hk hb4 _)
end
end
section
/-! Calls, and the whole: what our machine answers, the real one answers. -/
theorem ox_g_some {b : Bool} {r : Option ox_R} {x : ox_R} (h : ox_g b r = some x) : b = true ∧ r = some x := by
  unfold ox_g at h
  split at h
  · exact ⟨by assumption, h⟩
  · cases h
theorem ox_O_some {α : Type} {o : Option α} {f : α → Option ox_R} {x : ox_R} (h : ox_O o f = some x) : ∃ a, o = some a ∧ f a = some x := by
  unfold ox_O at h
  split at h
  · cases h
  · exact ⟨_, rfl, h⟩
theorem ox_B_some {o : Option ox_R} {f : Option Value → ox_H → Option ox_R} {x : ox_R} (h : ox_B o f = some x) : ∃ v h', o = some (v, h') ∧ f v h' = some x := by
  unfold ox_B at h
  split at h
  · cases h
  · exact ⟨_, _, rfl, h⟩
theorem ox_I_some {v : Option Value} {f : Int32 → Option ox_R} {x : ox_R} (h : ox_I v f = some x) : ∃ a, v = some (.int a) ∧ f a = some x := by
  unfold ox_I at h
  split at h
  · exact ⟨_, rfl, h⟩
  · cases h
theorem ox_A_some {v : Option Value} {f : Nat → Option ox_R} {x : ox_R} (h : ox_A v f = some x) : ∃ a, v = some (.ref a) ∧ f a = some x := by
  unfold ox_A at h
  split at h
  · exact ⟨_, rfl, h⟩
  · cases h
theorem ox_pI_some {st : List Value} {f : Int32 → List Value → Option ox_R} {x : ox_R} (h : ox_pI st f = some x) : ∃ a r, st = .int a :: r ∧ f a r = some x := by
  unfold ox_pI at h
  split at h
  · exact ⟨_, _, rfl, h⟩
  · cases h
theorem ox_pA_some {st : List Value} {f : Nat → List Value → Option ox_R} {x : ox_R} (h : ox_pA st f = some x) : ∃ a r, st = .ref a :: r ∧ f a r = some x := by
  unfold ox_pA at h
  split at h
  · exact ⟨_, _, rfl, h⟩
  · cases h
theorem ox_p2_some {st : List Value} {f : Int32 → Int32 → List Value → Option ox_R} {x : ox_R} (h : ox_p2 st f = some x) : ∃ a b r, st = .int b :: .int a :: r ∧ f a b r = some x := by
  unfold ox_p2 at h
  obtain ⟨b, r1, e1, h1⟩ := ox_pI_some h
  obtain ⟨a, r2, e2, h2⟩ := ox_pI_some h1
  exact ⟨a, b, r2, by rw [e1, e2], h2⟩
theorem ox_jmp_some {pc : Nat} {off : Int} {f : Nat → Option ox_R} {x : ox_R} (h : ox_jmp pc off f = some x) : ∃ t : Nat, (pc : Int) + off = (t : Int) ∧ f t = some x := by
  unfold ox_jmp at h
  split at h
  · rename_i hp
    exact ⟨_, (Int.toNat_of_nonneg hp).symm, h⟩
  · cases h
theorem ow_lvargs {vs : List Value} : ∀ (off : Nat), vs.all (fun v => v.category == 1) = true → ∀ (i : Nat) (v : Value), vs[i]? = some v → (off + i, v) ∈ lv_args off vs := by
  induction vs with
  | nil => intro off _ i v h; simp at h
  | cons w vs ih =>
    intro off hc i v h
    simp only [List.all_cons, Bool.and_eq_true, beq_iff_eq] at hc
    unfold lv_args
    rw [if_neg (by omega)]
    cases i with
    | zero => cases h; exact List.mem_cons_self
    | succ i =>
      rw [List.getElem?_cons_succ] at h
      have := ih (off + 1) hc.2 i v h
      rw [show off + 1 + i = off + (i + 1) by omega] at this
      exact List.mem_cons_of_mem _ this
theorem ow_lgsl {vs : List Value} (h : vs.all (fun v => v.category == 1) = true) : (lg_sl vs).length = vs.length := by
  induction vs with
  | nil => rfl
  | cons w vs ih =>
    simp only [List.all_cons, Bool.and_eq_true, beq_iff_eq] at h
    have e : lg_sl (w :: vs) = .val w :: lg_sl vs := by
      show (if w.category = 2 then _ else _) ++ lg_sl vs = _
      rw [if_neg (by omega)]
      rfl
    rw [e, List.length_cons, List.length_cons, ih h.2]
theorem ow_allmap {g : ow_G} {vs : List Value} (h : vs.all (fun v => v.category == 1) = true) : (vs.map (ow_cv g)).all (fun v => v.category == 1) = true := by
  rw [List.all_map]
  simpa [Function.comp_def, ow_cat] using h
theorem ow_entry {g : ow_G} {As : List Value} {n k : Nat} (hc : As.all (fun v => v.category == 1) = true) (hl : As.length = k) (hn : k ≤ n) : ow_L g ((lg_sl (As.map (ow_cv g)) ++ List.replicate (n - (lg_sl (As.map (ow_cv g))).length) Slot.unset).toArray) n (As ++ List.replicate (n - k) .null) := by
  have hc' := ow_allmap (g := g) hc
  have hle := lv_entry (As.map (ow_cv g)) (n := n) (by rw [ow_lgsl hc', List.length_map]; omega)
  refine ⟨⟨hle.1, hle.2.1, fun q hq => hle.2.2 q ?_⟩, by simp; omega⟩
  obtain ⟨i, hi, hp⟩ := List.mem_filterMap.mp hq
  unfold ow_p1 at hp
  rcases Nat.lt_or_ge i As.length with hlt | hge
  · rw [List.getElem?_append_left hlt] at hp
    have key : ∀ v, As[i]? = some v → (i, ow_cv g v) ∈ lv_args 0 (As.map (ow_cv g)) := fun v hv => by
      have := ow_lvargs 0 hc' i (ow_cv g v) (by rw [List.getElem?_map, hv]; rfl)
      rwa [Nat.zero_add] at this
    split at hp
    · rename_i x hx; cases hp; exact key _ hx
    · rename_i x hx; cases hp; exact key _ hx
    · cases hp
  · rw [List.getElem?_append_right hge] at hp
    have hnull : ∀ v, (List.replicate (n - k) Value.null)[i - As.length]? = some v → v = .null := fun v hv => List.eq_of_mem_replicate (List.mem_of_getElem? hv)
    split at hp
    · rename_i x hx; have := hnull _ hx; cases this
    · rename_i x hx; have := hnull _ hx; cases this
    · cases hp
theorem mt_plain (c : Nat) : plainName (mt_R c) = true := by unfold mt_R; split <;> decide
theorem mt_noMH (c : Nat) : mt_R c ≠ "java/lang/invoke/MethodHandle" ∧ mt_R c ≠ "java/lang/invoke/VarHandle" := by unfold mt_R; split <;> decide
def ow_inv (h h' : ox_H) : Prop := h.length ≤ h'.length ∧ ox_sl h ≤ ox_sl h' ∧ ∀ xs, ow_k4 xs h → ow_k4 xs h'
theorem ow_inv_rf (h : ox_H) : ow_inv h h := ⟨Nat.le_refl _, Nat.le_refl _, fun _ k => k⟩
theorem ow_inv_tr {h h1 h2 : ox_H} (a : ow_inv h h1) (b : ow_inv h1 h2) : ow_inv h h2 := ⟨Nat.le_trans a.1 b.1, Nat.le_trans a.2.1 b.2.1, fun xs k => b.2.2 xs (a.2.2 xs k)⟩
theorem ow_inv_set {h : ox_H} {a : Nat} {c0 c : ox_C} (hc : h[a]? = some c0) (he : ox_cl c = ox_cl c0) (h4 : ∀ xs, ow_k4 xs h → 4 ≤ a) : ow_inv h (h.set a c) := ⟨by simp, by rw [ox_sl_set hc he]; exact Nat.le_refl _, fun xs k => ow_k4_set k (h4 xs k) c⟩
theorem ow_inv_push {h : ox_H} {c : ox_C} : ow_inv h (h ++ [c]) := ⟨by simp, by rw [ox_sl_push]; omega, fun xs k => ow_k4_push k c⟩
/-- what is claimed of n steps of our machine -/
def ow_OK (n : Nat) : Prop := ∀ (mi pc : Nat) (ls st : List Value) (h : ox_H) (v : Option Value) (h' : ox_H), ox_run n mi pc ls st h = some (v, h') → ow_inv h h' ∧
  ∀ (g : ow_G) (xs : List Int32) (p : Program) (l : Launch) (e : Env) (R : Room) (s : State) (m : MethodId) (args : Array Value) (below : List Frame) (meth : Method) (c : Code) (Q : State → Prop) (n0 s0 : Nat), ow_Cx g xs mi p R s m args meth c → s.heap.size + 4 = g.1 + n0 → h'.length ≤ R.cells + n0 → ox_sl h' ≤ R.slots + s0 → ow_Rt g mi p l e R s m args below meth c Q n0 s0 v h' → ow_Go g xs mi p l e R s m args below meth c Q n0 s0 pc ls st h
def ow_Qc (g : ow_G) (v : Option Value) (h1 : ox_H) : Array Value → State → Outcome → State → Prop := fun _ st oc t => oc = .returned (v.map (ow_cv g)) ∧ va_P g.2.2.1 vwCl (ow_ws g h1) t.heap ∧ va_F (ow_A g) st t
def ow_Pc (g : ow_G) (xs : List Int32) (h : ox_H) (As : List Value) : Array Value → State → Prop := va_Pc (As.map (ow_cv g)) (fun U => ow_S g xs U ∧ va_P g.2.2.1 vwCl (ow_ws g h) U.heap ∧ U.heap.size + 4 = g.1 + h.length)
def ow_cw (j : Nat) : List Cond := Cond.code (mt_y j) (mt_c j) (mt_n j) (mt_ret j) :: gm_tbl
theorem ow_met {n : Nat} (IH : ow_OK n) (g : ow_G) (xs : List Int32) (l : Launch) {j : Nat} (hj : j < 154) {As : List Value} (hAs : As.length = mt_a j) (hcat : As.all (fun v => v.category == 1) = true) {h h1 : ox_H} {v : Option Value} (hrun : ox_run n j 0 (As ++ List.replicate (mt_n j - mt_a j) .null) [] h = some (v, h1)) (hk : ow_k4 xs h) {mc ms : Nat} (hmc : mc + h.length = h1.length) (hms : ms + ox_sl h = ox_sl h1) :
    Met l (mt_y j) (ow_cw j) ({ frames := mt_r j, cells := mc, slots := ms, locals := 34 * mt_r j }) (ow_Pc g xs h As) (ow_Qc g v h1) mc ms (ow_A g) := by
  obtain ⟨f1, f2, f3, f4, f5, f6, f7, f8, f9, f10, f11⟩ := rs_fm_ok j hj
  refine Met.ofW (cc := mt_c j) (maxL := mt_n j) (ret := mt_ret j) (by rw [f3]; exact mt_plain _) rfl ?_
  intro p e s m args below meth c s₁ B hml hv
  obtain ⟨rfl, hSW, hP, hsz⟩ := hv
  have hts : ∀ w ∈ ow_cw j, w.before (As.map (ow_cv g)).toArray s = true := atoms_spec (ws := ow_cw j) B.pre
  have hown : s.vm.findClass (mt_R (mt_k j)) = some m.cls := by
    have := findClass_of_methodNamed B.named
    rwa [f3] at this
  have hlocks := B.notSynchronized
  have hb0 : g.1 ≤ s.heap.size := by have := ow_k4_len hk; omega
  have C : ow_Cx g xs j p ({ frames := mt_r j, cells := mc, slots := ms, locals := 34 * mt_r j } : Room) s m (As.map (ow_cv g)).toArray meth c :=
    ⟨B.exec, B.bytes, hml, hown, fun w hw => hts w (List.mem_cons_of_mem _ hw), fun hs2 => ((name_of_methodNamed B.named B.method).1).trans (f7 hs2).1, hSW, Nat.le_refl _, Nat.le_refl _, hb0⟩
  have hr := B.returns
  rw [lg_entry_eq]
  refine (IH j 0 _ [] h v h1 hrun).2 g xs p l e _ s m _ below meth c _ h.length (ox_sl h) C hsz (by show h1.length ≤ mc + h.length; omega) (by show ox_sl h1 ≤ ms + ox_sl h; omega) ?_ s.heap [] 0 0 _ hP va_S.rf (ow_entry hcat hAs f10) (Nat.zero_add _) (Nat.zero_add _) hk
  intro pc A H locs cells slots hP1 hS1 hc1 hs1
  have e1 : cells = mc := by omega
  have e2 : slots = ms := by omega
  subst e1
  subst e2
  refine ⟨fun x hx hd ht => ?_, fun hx hd ht => ?_⟩
  · subst hx
    have hq : ∀ t : State, t.heap = H → s.WarmedH t.vm → ow_Qc g (some (.int x)) h1 (As.map (ow_cv g)).toArray s (.returned (some (.int x))) t := fun t ht _ => ⟨rfl, by rw [ht]; exact hP1, hS1.F ht⟩
    rcases ht with ht | ⟨ht, hx01⟩
    · exact W.iret B.exec B.bytes (by rw [hr]; unfold mt_ret; rw [ht]; rfl) hq hS1.2.2 hd
    · exact W.zret B.exec B.bytes (ty := .boolean) (by rw [hr]; unfold mt_ret; rw [ht]; rfl) (by rcases hx01 with rfl | rfl <;> rfl) hq hS1.2.2 hd
  · subst hx
    exact W.vret B.exec B.bytes (by rw [hr]; unfold mt_ret; rw [ht]; rfl) (fun t ht _ => ⟨rfl, by rw [ht]; exact hP1, hS1.F ht⟩) hS1.2.2 hd
theorem ow_blind {g : ow_G} {xs : List Int32} {h : ox_H} {As : List Value} : FrameBlind (ow_Pc g xs h As) := fun a U f mk q => ⟨q.1, ow_S_call q.2.1, q.2.2.1, q.2.2.2⟩
section
variable {g : ow_G} {xs : List Int32} {mi : Nat} {p : Program} {l : Launch} {e : Env} {R : Room} {s : State} {m : MethodId} {args : Array Value} {below : List Frame} {meth : Method} {c : Code} {Q : State → Prop} {n0 s0 pc : Nat} {ls st : List Value} {h : ox_H}
/-- behind a call -/
theorem os_back {H : Heap} {locs : List Loc} {cells slots mc ms : Nat} {A : Array Slot} {st0 rest : List Value} {a : Array Value} {v : Option Value} {h1 : ox_H} (hr : va_Run p l e R s m args below meth c H locs cells slots mc ms (F0 m pc A st0) rest (ow_Qc g v h1 a) (ow_A g)) (hS : va_S (ow_A g) s.heap H locs)
    (kk : ∀ (H1 : Heap) (locs1 : List Loc), va_P g.2.2.1 vwCl (ow_ws g h1) H1 → va_S (ow_A g) s.heap H1 locs1 → W p l e R s m args below meth c H1 locs1 (cells + mc) (slots + ms) Q (F0 m (pc + 3) A ((v.map (ow_cv g)).toList ++ rest))) : W p l e R s m args below meth c H locs cells slots Q (F0 m pc A st0) := by
  intro T hT X
  obtain ⟨v', st₀, t, T', L, h0, X', hL, e1, e2, ⟨hv, hp, hz, hk⟩, stp⟩ := hr T hT X
  have hv : v' = v.map (ow_cv g) := by cases hv; rfl
  subst hv
  rw [h0] at hz hk
  obtain ⟨t2, a1, b1⟩ := kk T'.heap (locs ++ L) (by rw [e1]; exact hp) ⟨Nat.le_trans hS.1 (by rw [e1]; exact hz), fun q h1 h2 => by rw [e1, hk q (Nat.lt_of_lt_of_le h1 hS.1) h2]; exact hS.2.1 q h1 h2, fun q hq => by
      rcases List.mem_append.mp hq with h | h
      · exact hS.2.2 q h
      · exact hL q h⟩ T' rfl X'
  exact ⟨t2, stp t2 a1, b1⟩
/-- a call of one of our methods -/
theorem os_call {n : Nat} (IH : ow_OK n) (C : ow_Cx g xs mi p R s m args meth c) (hn : s.heap.size + 4 = g.1 + n0) {i j : Nat} {ins : Instr} (hd : decode (mt_c mi) pc = .ok (ins, 3)) (hi : (ins = .invokevirtual i ∧ mt_s j = 0) ∨ (ins = .invokespecial i ∧ mt_s j = 2) ∨ (ins = .invokestatic i ∧ mt_s j = 1)) (hr : rs_M (mt_k mi) i = some j) (hj : j < 154) (hrk : mt_r j < mt_r mi) (ha : mt_a j ≤ st.length) (h8 : (st.drop (mt_a j)).length ≤ 8) (hcat : st.all (fun v => v.category == 1) = true)
    (hrcv : mt_s j = 1 ∨ ox_rcv h j st = true) {v : Option Value} {h1 : ox_H} (hrun : ox_run n j 0 ((st.take (mt_a j)).reverse ++ List.replicate (mt_n j - mt_a j) .null) [] h = some (v, h1)) (hrc : h1.length ≤ R.cells + n0) (hrs : ox_sl h1 ≤ R.slots + s0) (kk : ow_Go g xs mi p l e R s m args below meth c Q n0 s0 (pc + 3) ls (ox_push v (st.drop (mt_a j))) h1) : ow_Go g xs mi p l e R s m args below meth c Q n0 s0 pc ls st h := by
  intro H locs cells slots A hP hS hL hc hs hk
  have hinv := (IH j 0 _ [] h v h1 hrun).1
  obtain ⟨hx, hb, hml, hown, hts, hin, hSW, hR1, hR2, hb0⟩ := C
  obtain ⟨f1, f2, f3, f4, f5, f6, f7, f8, f9, f10, f11⟩ := rs_fm_ok j hj
  obtain ⟨g1, -⟩ := rs_gm_all _ (rs_mem hr)
  have g1 : Cond.methodLink (mt_R (mt_k mi)) i (mt_y j) ∈ lw_tbl := by
    have e : rs_nm j = mt_y j := by unfold rs_nm; rw [if_neg (by omega), if_neg (by omega), if_neg (by omega), if_neg (by omega)]
    rw [← e]
    exact g1
  have hta : (st.take (mt_a j)).all (fun v => v.category == 1) = true := by
    rw [List.all_eq_true] at hcat ⊢
    exact fun x hx => hcat x (List.mem_of_mem_take hx)
  have htd : (st.drop (mt_a j)).all (fun v => v.category == 1) = true := by
    rw [List.all_eq_true] at hcat ⊢
    exact fun x hx => hcat x (List.mem_of_mem_drop hx)
  have hAl : (st.take (mt_a j)).reverse.length = mt_a j := by simp; omega
  have hAc : (st.take (mt_a j)).reverse.all (fun v => v.category == 1) = true := by rw [List.all_reverse]; exact hta
  obtain ⟨mc, hmc⟩ : ∃ mc, mc + h.length = h1.length := ⟨h1.length - h.length, by have := hinv.1; omega⟩
  obtain ⟨ms, hms⟩ : ∃ ms, ms + ox_sl h = ox_sl h1 := ⟨ox_sl h1 - ox_sl h, by have := hinv.2.1; omega⟩
  have hM := ow_met IH g xs l hj hAl hAc hrun hk hmc hms
  have hG : GoodIn gm_tbl (ow_cw j) := by
    intro w hw
    rcases List.mem_cons.mp hw with rfl | hw
    · exact ⟨gm_of f1 rfl, good_of_word rfl⟩
    · exact gm_goodIn w hw
  have hroom := ow_map1 (g := g) htd
  have hsplit : st.map (ow_cv g) = ((st.take (mt_a j)).reverse.map (ow_cv g)).reverse ++ (st.drop (mt_a j)).map (ow_cv g) := by
    rw [← List.map_reverse, List.reverse_reverse, ← List.map_append, List.take_append_drop]
  have hszH : s.heap.size + 4 = g.1 + n0 → H.size ≤ s.heap.size + cells → H.size + 4 = g.1 + h.length := fun _ hz => by
    have := ow_lt hP (Nat.le_trans hb0 hS.1)
    omega
  refine ow_sz (fun hz => ?_)
  have hPre : ∀ U : State, U.heap = H → s.WarmedH U.vm → ow_Pc g xs h (st.take (mt_a j)).reverse ((st.take (mt_a j)).reverse.map (ow_cv g)).toArray U := fun U hU hW => ⟨rfl, ow_S_moved hSW hW (by rw [hU]; exact hS), by rw [hU]; exact hP, by rw [hU]; exact hszH hn hz⟩
  have hCF : CallFix p m c (mt_c mi) (mt_n mi) s args gm_tbl (mt_R (mt_k mi)) := ⟨hx, hb, hml, hown, hts⟩
  have hRm : mt_r j + 1 ≤ R.frames ∧ 8 + (mt_n j + 11) + 34 * mt_r j ≤ R.locals := ⟨by omega, by omega⟩
  have hfit : cells + mc ≤ R.cells ∧ slots + ms ≤ R.slots := ⟨by omega, by omega⟩
  have hno := mt_noMH (mt_k j)
  have hgo : ∀ (H1 : Heap) (locs1 : List Loc), va_P g.2.2.1 vwCl (ow_ws g h1) H1 → va_S (ow_A g) s.heap H1 locs1 → W p l e R s m args below meth c H1 locs1 (cells + mc) (slots + ms) Q (F0 m (pc + 3) A ((v.map (ow_cv g)).toList ++ (st.drop (mt_a j)).map (ow_cv g))) := by
    intro H1 locs1 hP1 hS1
    have k1 := kk H1 locs1 (cells + mc) (slots + ms) A hP1 hS1 hL (by omega) (by omega) (hinv.2.2 xs hk)
    have e : (ox_push v (st.drop (mt_a j))).map (ow_cv g) = (v.map (ow_cv g)).toList ++ (st.drop (mt_a j)).map (ow_cv g) := by cases v <;> rfl
    rw [e] at k1
    exact k1
  rcases hi with ⟨rfl, h0⟩ | ⟨rfl, h2⟩ | ⟨rfl, h3⟩
  · -- an instance method
    have hrv : ox_rcv h j st = true := hrcv.resolve_left (by omega)
    unfold ox_rcv at hrv
    rw [← List.head?_reverse] at hrv
    cases hAe : (st.take (mt_a j)).reverse with
    | nil => rw [hAe] at hrv; cases hrv
    | cons v0 As =>
      rw [hAe] at hrv hM hPre hsplit hAl
      rw [List.head?_cons] at hrv
      cases v0 with
      | ref b =>
        dsimp only at hrv
        obtain ⟨fs, hob⟩ := Option.isSome_iff_exists.mp hrv
        have e1 := ox_obj_some hob
        have hb4 := ow_k4_inr hk e1
        have hk4 : mt_k j < 4 := by
          rcases Nat.lt_or_ge j 154 with q | q
          · exact (show ∀ j, j < 154 → mt_k j < 4 by decide +kernel) j q
          · omega
        have hw := ow_ws_get (g := g) hb4 e1
        rw [ow_E_obj hk4] at hw
        have hT : GoodIn gm_tbl (wsV (mt_R (mt_k mi)) i (mt_R (mt_k j)) (mt_y j) (ow_cw j)) := by
          intro w hw'
          unfold wsV at hw'
          rcases List.mem_append.mp hw' with hw' | hw'
          · simp only [List.mem_cons, List.not_mem_nil, or_false] at hw'
            rcases hw' with rfl | rfl | rfl | rfl
            · exact ⟨gm_of g1 rfl, good_of_word rfl⟩
            · exact ⟨gm_of (f4 (Or.inl h0)) rfl, good_of_word rfl⟩
            · exact ⟨gm_of (f5 h0) rfl, good_of_word rfl⟩
            · exact ⟨gm_of f2 rfl, good_of_word rfl⟩
          · exact hG w hw'
        have hal : (As.map (ow_cv g)).length = mt_a j - 1 := by simp at hAl ⊢; omega
        have hcw := cwV (R := R) (s := s) (args := args) (rm := { frames := mt_r j, cells := mc, slots := ms, locals := 34 * mt_r j }) (mt_a j - 1) hts hT rfl rfl rfl ⟨f3, by rw [f3]; exact hno.1, by rw [f3]; exact hno.2, by rw [f8, if_neg (by omega)]⟩ hRm
        have hst : st.map (ow_cv g) = (As.map (ow_cv g)).reverse ++ .ref (ow_ad g b) :: (st.drop (mt_a j)).map (ow_cv g) := by
          rw [hsplit]
          simp [ow_cv]
        rw [hst]
        refine os_back (va_runV (As := As.map (ow_cv g)) (rest := (st.drop (mt_a j)).map (ow_cv g)) hCF hM hcw ⟨ow_blind, va_recv (hSW.1) hP (ow_cl hk4) hw, fun U hU hW => hPre U hU hW⟩ rfl hal hL.1.1 rfl (lv_room (by rw [hroom]; exact h8)) hd hfit) hS hgo
      | _ => cases hrv
  · -- a constructor
    have hrv : ox_rcv h j st = true := hrcv.resolve_left (by omega)
    unfold ox_rcv at hrv
    rw [← List.head?_reverse] at hrv
    cases hAe : (st.take (mt_a j)).reverse with
    | nil => rw [hAe] at hrv; cases hrv
    | cons v0 As =>
      rw [hAe] at hrv hM hPre hsplit hAl
      rw [List.head?_cons] at hrv
      cases v0 with
      | ref b =>
        have hal : (As.map (ow_cv g)).length = mt_a j - 1 := by simp at hAl ⊢; omega
        have hrn : mt_ret j = none := by unfold mt_ret; rw [(f7 h2).2]; rfl
        have hw : ow_cw j = Cond.code (mt_y j) (mt_c j) (mt_n j) none :: gm_tbl := by unfold ow_cw; rw [hrn]
        have hcw := cwI (R := R) (s := s) (args := args) (rm := { frames := mt_r j, cells := mc, slots := ms, locals := 34 * mt_r j }) (mt_a j - 1) hts hG hw rfl rfl (by rw [f3]; exact hts _ (gm_of f2 rfl)) (hts _ (gm_of g1 rfl)) (hts _ (gm_of (f4 (Or.inr h2)) rfl)) (f7 h2).1 ⟨by rw [f3]; exact hno.1, by rw [f3]; exact hno.2, by rw [f8, if_neg (by omega)]⟩ hRm
        have hst : st.map (ow_cv g) = (As.map (ow_cv g)).reverse ++ .ref (ow_ad g b) :: (st.drop (mt_a j)).map (ow_cv g) := by
          rw [hsplit]
          simp [ow_cv]
        rw [hst]
        refine os_back (va_runI (As := As.map (ow_cv g)) (rest := (st.drop (mt_a j)).map (ow_cv g)) hCF hM hcw ⟨ow_blind, fun U hU hW => hPre U hU hW⟩ rfl hal hL.1.1 rfl (lv_room (by rw [hroom]; exact h8)) hd hfit) hS hgo
      | _ => cases hrv
  · -- a static method
    have hT : GoodIn gm_tbl (va_wsS (mt_R (mt_k mi)) i (mt_y j) (ow_cw j)) := by
      intro w hw'
      unfold va_wsS at hw'
      rcases List.mem_append.mp hw' with hw' | hw'
      · simp only [List.mem_cons, List.not_mem_nil, or_false] at hw'
        rcases hw' with rfl | rfl | rfl
        · exact ⟨gm_of g1 rfl, good_of_word rfl⟩
        · exact ⟨gm_of (f6 h3) rfl, good_of_word rfl⟩
        · rw [f3]; exact ⟨gm_of f2 rfl, good_of_word rfl⟩
      · exact hG w hw'
    have hcw := va_cwS (R := R) (s := s) (args := args) (rm := { frames := mt_r j, cells := mc, slots := ms, locals := 34 * mt_r j }) (mt_a j) hts hT rfl rfl rfl ⟨by rw [f3]; exact hno.1, by rw [f3]; exact hno.2, by rw [f8, if_pos h3]⟩ hRm
    rw [hsplit]
    exact os_back (va_runS (As := (st.take (mt_a j)).reverse.map (ow_cv g)) (rest := (st.drop (mt_a j)).map (ow_cv g)) hCF hM hcw ⟨ow_blind, hPre⟩ rfl (by rw [List.length_map]; exact hAl) hL.1.1 rfl (lv_room (by rw [hroom]; exact h8)) hd hfit) hS hgo
end
end
section
/-! the induction: a case an instruction -/
theorem ow_one {n : Nat} {mi pc pc' : Nat} {ls ls' st st' : List Value} {h h1 : ox_H} {v : Option Value} {h' : ox_H} (IH : ow_OK n) (hr : ox_run n mi pc' ls' st' h1 = some (v, h')) (hinv : ow_inv h h1)
    (step : ∀ (g : ow_G) (xs : List Int32) (p : Program) (l : Launch) (e : Env) (R : Room) (s : State) (m : MethodId) (args : Array Value) (below : List Frame) (meth : Method) (c : Code) (Q : State → Prop) (n0 s0 : Nat), ow_Cx g xs mi p R s m args meth c → s.heap.size + 4 = g.1 + n0 → h1.length ≤ R.cells + n0 → ox_sl h1 ≤ R.slots + s0 → ow_Go g xs mi p l e R s m args below meth c Q n0 s0 pc' ls' st' h1 → ow_Go g xs mi p l e R s m args below meth c Q n0 s0 pc ls st h) :
    ow_inv h h' ∧ ∀ (g : ow_G) (xs : List Int32) (p : Program) (l : Launch) (e : Env) (R : Room) (s : State) (m : MethodId) (args : Array Value) (below : List Frame) (meth : Method) (c : Code) (Q : State → Prop) (n0 s0 : Nat), ow_Cx g xs mi p R s m args meth c → s.heap.size + 4 = g.1 + n0 → h'.length ≤ R.cells + n0 → ox_sl h' ≤ R.slots + s0 → ow_Rt g mi p l e R s m args below meth c Q n0 s0 v h' → ow_Go g xs mi p l e R s m args below meth c Q n0 s0 pc ls st h := by
  obtain ⟨i1, i2⟩ := IH _ _ _ _ _ _ _ hr
  refine ⟨ow_inv_tr hinv i1, fun g xs p l e R s m args below meth c Q n0 s0 C hn hrc hrs hrt => ?_⟩
  exact step g xs p l e R s m args below meth c Q n0 s0 C hn (Nat.le_trans i1.1 hrc) (Nat.le_trans i1.2.1 hrs) (i2 g xs p l e R s m args below meth c Q n0 s0 C hn hrc hrs hrt)
theorem ow_callok {n : Nat} {mi pc i j : Nat} {ls st : List Value} {h : ox_H} {v : Option Value} {h' : ox_H} {ins : Instr} (IH : ow_OK n) (hd : decode (mt_c mi) pc = .ok (ins, 3)) (hi : (ins = .invokevirtual i ∧ mt_s j = 0) ∨ (ins = .invokespecial i ∧ mt_s j = 2) ∨ (ins = .invokestatic i ∧ mt_s j = 1)) (hm : rs_M (mt_k mi) i = some j) (hj : j < 154) (hrcv : mt_s j = 1 ∨ ox_rcv h j st = true)
    (hr : ox_call (ox_run n) mi j st h (fun v st h => ox_run n mi (pc + 3) ls (ox_push v st) h) = some (v, h')) :
    ow_inv h h' ∧ ∀ (g : ow_G) (xs : List Int32) (p : Program) (l : Launch) (e : Env) (R : Room) (s : State) (m : MethodId) (args : Array Value) (below : List Frame) (meth : Method) (c : Code) (Q : State → Prop) (n0 s0 : Nat), ow_Cx g xs mi p R s m args meth c → s.heap.size + 4 = g.1 + n0 → h'.length ≤ R.cells + n0 → ox_sl h' ≤ R.slots + s0 → ow_Rt g mi p l e R s m args below meth c Q n0 s0 v h' → ow_Go g xs mi p l e R s m args below meth c Q n0 s0 pc ls st h := by
  unfold ox_call at hr
  split at hr
  · rename_i hc
    obtain ⟨c1, c2, c3, c4⟩ := hc
    obtain ⟨v1, h1, e1, e2⟩ := ox_B_some hr
    exact ow_one IH e2 (IH _ _ _ _ _ _ _ e1).1 (fun g xs p l e R s m args below meth c Q n0 s0 C hn hrc hrs kk => os_call IH C hn hd hi hm hj c1 c2 c3 c4 hrcv e1 hrc hrs kk)
  · cases hr

theorem ow_step {n : Nat} (IH : ow_OK n) {mi pc k : Nat} {ls st : List Value} {h : ox_H} {v : Option Value} {h' : ox_H} {i : Instr} (hd : decode (mt_c mi) pc = .ok (i, k)) (hr : ox_in (ox_run n) mi pc ls st h k i = some (v, h')) :
    ow_inv h h' ∧ ∀ (g : ow_G) (xs : List Int32) (p : Program) (l : Launch) (e : Env) (R : Room) (s : State) (m : MethodId) (args : Array Value) (below : List Frame) (meth : Method) (c : Code) (Q : State → Prop) (n0 s0 : Nat), ow_Cx g xs mi p R s m args meth c → s.heap.size + 4 = g.1 + n0 → h'.length ≤ R.cells + n0 → ox_sl h' ≤ R.slots + s0 → ow_Rt g mi p l e R s m args below meth c Q n0 s0 v h' → ow_Go g xs mi p l e R s m args below meth c Q n0 s0 pc ls st h := by
  cases i
  case iconst q =>
    simp only [ox_in] at hr
    replace hr := ox_g_some hr
    obtain ⟨hk, hr⟩ := hr
    have hk := eq_of_beq hk; subst hk
    exact ow_one IH hr (ow_inv_rf h) (fun g xs p l e R s m args below meth c Q n0 s0 C hn hrc hrs kk => os_iconst C hd kk)
  case bipush q =>
    simp only [ox_in] at hr
    replace hr := ox_g_some hr
    obtain ⟨hk, hr⟩ := hr
    have hk := eq_of_beq hk; subst hk
    exact ow_one IH hr (ow_inv_rf h) (fun g xs p l e R s m args below meth c Q n0 s0 C hn hrc hrs kk => os_bipush C hd kk)
  case sipush q =>
    simp only [ox_in] at hr
    replace hr := ox_g_some hr
    obtain ⟨hk, hr⟩ := hr
    have hk := eq_of_beq hk; subst hk
    exact ow_one IH hr (ow_inv_rf h) (fun g xs p l e R s m args below meth c Q n0 s0 C hn hrc hrs kk => os_sipush C hd kk)
  case iload_n q =>
    simp only [ox_in] at hr
    replace hr := ox_g_some hr
    obtain ⟨hk, hr⟩ := hr
    have hk := eq_of_beq hk; subst hk
    replace hr := ox_I_some hr
    obtain ⟨x, hx, hr⟩ := hr
    exact ow_one IH hr (ow_inv_rf h) (fun g xs p l e R s m args below meth c Q n0 s0 C hn hrc hrs kk => os_iload_n C hd hx kk)
  case iload q =>
    simp only [ox_in] at hr
    replace hr := ox_g_some hr
    obtain ⟨hk, hr⟩ := hr
    have hk := eq_of_beq hk; subst hk
    replace hr := ox_I_some hr
    obtain ⟨x, hx, hr⟩ := hr
    exact ow_one IH hr (ow_inv_rf h) (fun g xs p l e R s m args below meth c Q n0 s0 C hn hrc hrs kk => os_iload C hd hx kk)
  case aload_n q =>
    simp only [ox_in] at hr
    replace hr := ox_g_some hr
    obtain ⟨hk, hr⟩ := hr
    have hk := eq_of_beq hk; subst hk
    replace hr := ox_A_some hr
    obtain ⟨x, hx, hr⟩ := hr
    exact ow_one IH hr (ow_inv_rf h) (fun g xs p l e R s m args below meth c Q n0 s0 C hn hrc hrs kk => os_aload_n C hd hx kk)
  case aload q =>
    simp only [ox_in] at hr
    replace hr := ox_g_some hr
    obtain ⟨hk, hr⟩ := hr
    have hk := eq_of_beq hk; subst hk
    replace hr := ox_A_some hr
    obtain ⟨x, hx, hr⟩ := hr
    exact ow_one IH hr (ow_inv_rf h) (fun g xs p l e R s m args below meth c Q n0 s0 C hn hrc hrs kk => os_aload C hd hx kk)
  case istore_n q =>
    simp only [ox_in] at hr
    replace hr := ox_g_some hr
    obtain ⟨hk, hr⟩ := hr
    rw [Bool.and_eq_true] at hk
    obtain ⟨hk, hk2⟩ := hk
    have hk := eq_of_beq hk; subst hk
    replace hr := ox_pI_some hr
    obtain ⟨x, r, rfl, hr⟩ := hr
    exact ow_one IH hr (ow_inv_rf h) (fun g xs p l e R s m args below meth c Q n0 s0 C hn hrc hrs kk => os_istore_n C hd (of_decide_eq_true hk2) kk)
  case istore q =>
    simp only [ox_in] at hr
    replace hr := ox_g_some hr
    obtain ⟨hk, hr⟩ := hr
    rw [Bool.and_eq_true] at hk
    obtain ⟨hk, hk2⟩ := hk
    have hk := eq_of_beq hk; subst hk
    replace hr := ox_pI_some hr
    obtain ⟨x, r, rfl, hr⟩ := hr
    exact ow_one IH hr (ow_inv_rf h) (fun g xs p l e R s m args below meth c Q n0 s0 C hn hrc hrs kk => os_istore C hd (of_decide_eq_true hk2) kk)
  case astore_n q =>
    simp only [ox_in] at hr
    replace hr := ox_g_some hr
    obtain ⟨hk, hr⟩ := hr
    rw [Bool.and_eq_true] at hk
    obtain ⟨hk, hk2⟩ := hk
    have hk := eq_of_beq hk; subst hk
    replace hr := ox_pA_some hr
    obtain ⟨x, r, rfl, hr⟩ := hr
    exact ow_one IH hr (ow_inv_rf h) (fun g xs p l e R s m args below meth c Q n0 s0 C hn hrc hrs kk => os_astore_n C hd (of_decide_eq_true hk2) kk)
  case astore q =>
    simp only [ox_in] at hr
    replace hr := ox_g_some hr
    obtain ⟨hk, hr⟩ := hr
    rw [Bool.and_eq_true] at hk
    obtain ⟨hk, hk2⟩ := hk
    have hk := eq_of_beq hk; subst hk
    replace hr := ox_pA_some hr
    obtain ⟨x, r, rfl, hr⟩ := hr
    exact ow_one IH hr (ow_inv_rf h) (fun g xs p l e R s m args below meth c Q n0 s0 C hn hrc hrs kk => os_astore C hd (of_decide_eq_true hk2) kk)
  case iinc q d =>
    simp only [ox_in] at hr
    replace hr := ox_g_some hr
    obtain ⟨hk, hr⟩ := hr
    have hk := eq_of_beq hk; subst hk
    replace hr := ox_I_some hr
    obtain ⟨x, hx, hr⟩ := hr
    exact ow_one IH hr (ow_inv_rf h) (fun g xs p l e R s m args below meth c Q n0 s0 C hn hrc hrs kk => os_iinc C hd hx kk)
  case iadd  =>
    simp only [ox_in] at hr
    replace hr := ox_g_some hr
    obtain ⟨hk, hr⟩ := hr
    have hk := eq_of_beq hk; subst hk
    replace hr := ox_p2_some hr
    obtain ⟨x, y, r, rfl, hr⟩ := hr
    exact ow_one IH hr (ow_inv_rf h) (fun g xs p l e R s m args below meth c Q n0 s0 C hn hrc hrs kk => os_iadd C hd kk)
  case isub  =>
    simp only [ox_in] at hr
    replace hr := ox_g_some hr
    obtain ⟨hk, hr⟩ := hr
    have hk := eq_of_beq hk; subst hk
    replace hr := ox_p2_some hr
    obtain ⟨x, y, r, rfl, hr⟩ := hr
    exact ow_one IH hr (ow_inv_rf h) (fun g xs p l e R s m args below meth c Q n0 s0 C hn hrc hrs kk => os_isub C hd kk)
  case imul  =>
    simp only [ox_in] at hr
    replace hr := ox_g_some hr
    obtain ⟨hk, hr⟩ := hr
    have hk := eq_of_beq hk; subst hk
    replace hr := ox_p2_some hr
    obtain ⟨x, y, r, rfl, hr⟩ := hr
    exact ow_one IH hr (ow_inv_rf h) (fun g xs p l e R s m args below meth c Q n0 s0 C hn hrc hrs kk => os_imul C hd kk)
  case iand  =>
    simp only [ox_in] at hr
    replace hr := ox_g_some hr
    obtain ⟨hk, hr⟩ := hr
    have hk := eq_of_beq hk; subst hk
    replace hr := ox_p2_some hr
    obtain ⟨x, y, r, rfl, hr⟩ := hr
    exact ow_one IH hr (ow_inv_rf h) (fun g xs p l e R s m args below meth c Q n0 s0 C hn hrc hrs kk => os_iand C hd kk)
  case ior  =>
    simp only [ox_in] at hr
    replace hr := ox_g_some hr
    obtain ⟨hk, hr⟩ := hr
    have hk := eq_of_beq hk; subst hk
    replace hr := ox_p2_some hr
    obtain ⟨x, y, r, rfl, hr⟩ := hr
    exact ow_one IH hr (ow_inv_rf h) (fun g xs p l e R s m args below meth c Q n0 s0 C hn hrc hrs kk => os_ior C hd kk)
  case ishl  =>
    simp only [ox_in] at hr
    replace hr := ox_g_some hr
    obtain ⟨hk, hr⟩ := hr
    have hk := eq_of_beq hk; subst hk
    replace hr := ox_p2_some hr
    obtain ⟨x, y, r, rfl, hr⟩ := hr
    exact ow_one IH hr (ow_inv_rf h) (fun g xs p l e R s m args below meth c Q n0 s0 C hn hrc hrs kk => os_ishl C hd kk)
  case ishr  =>
    simp only [ox_in] at hr
    replace hr := ox_g_some hr
    obtain ⟨hk, hr⟩ := hr
    have hk := eq_of_beq hk; subst hk
    replace hr := ox_p2_some hr
    obtain ⟨x, y, r, rfl, hr⟩ := hr
    exact ow_one IH hr (ow_inv_rf h) (fun g xs p l e R s m args below meth c Q n0 s0 C hn hrc hrs kk => os_ishr C hd kk)
  case idiv  =>
    simp only [ox_in] at hr
    replace hr := ox_g_some hr
    obtain ⟨hk, hr⟩ := hr
    have hk := eq_of_beq hk; subst hk
    replace hr := ox_p2_some hr
    obtain ⟨x, y, r, rfl, hr⟩ := hr
    replace hr := ox_g_some hr
    obtain ⟨hy, hr⟩ := hr
    exact ow_one IH hr (ow_inv_rf h) (fun g xs p l e R s m args below meth c Q n0 s0 C hn hrc hrs kk => os_idiv C hd (by simpa using hy) kk)
  case irem  =>
    simp only [ox_in] at hr
    replace hr := ox_g_some hr
    obtain ⟨hk, hr⟩ := hr
    have hk := eq_of_beq hk; subst hk
    replace hr := ox_p2_some hr
    obtain ⟨x, y, r, rfl, hr⟩ := hr
    replace hr := ox_g_some hr
    obtain ⟨hy, hr⟩ := hr
    exact ow_one IH hr (ow_inv_rf h) (fun g xs p l e R s m args below meth c Q n0 s0 C hn hrc hrs kk => os_irem C hd (by simpa using hy) kk)
  case dup  =>
    simp only [ox_in] at hr
    replace hr := ox_g_some hr
    obtain ⟨hk, hr⟩ := hr
    have hk := eq_of_beq hk; subst hk
    split at hr
    · replace hr := ox_g_some hr
      obtain ⟨hv, hr⟩ := hr
      exact ow_one IH hr (ow_inv_rf h) (fun g xs p l e R s m args below meth c Q n0 s0 C hn hrc hrs kk => os_dup C hd (eq_of_beq hv) kk)
    · cases hr
  case dup2  =>
    simp only [ox_in] at hr
    replace hr := ox_g_some hr
    obtain ⟨hk, hr⟩ := hr
    have hk := eq_of_beq hk; subst hk
    split at hr
    · replace hr := ox_g_some hr
      obtain ⟨hv, hr⟩ := hr
      rw [Bool.and_eq_true] at hv
      exact ow_one IH hr (ow_inv_rf h) (fun g xs p l e R s m args below meth c Q n0 s0 C hn hrc hrs kk => os_dup2 C hd (eq_of_beq hv.1) (eq_of_beq hv.2) kk)
    · cases hr
  case goto off =>
    simp only [ox_in] at hr
    replace hr := ox_g_some hr
    obtain ⟨hk, hr⟩ := hr
    have hk := eq_of_beq hk; subst hk
    replace hr := ox_jmp_some hr
    obtain ⟨t, ht, hr⟩ := hr
    exact ow_one IH hr (ow_inv_rf h) (fun g xs p l e R s m args below meth c Q n0 s0 C hn hrc hrs kk => os_goto C hd ht kk)
  case ifCond cnd off =>
    simp only [ox_in] at hr
    replace hr := ox_g_some hr
    obtain ⟨hk, hr⟩ := hr
    have hk := eq_of_beq hk; subst hk
    replace hr := ox_jmp_some hr
    obtain ⟨t, ht, hr⟩ := hr
    replace hr := ox_pI_some hr
    obtain ⟨x, r, rfl, hr⟩ := hr
    split at hr
    · rename_i hb
      exact ow_one IH hr (ow_inv_rf h) (fun g xs p l e R s m args below meth c Q n0 s0 C hn hrc hrs kk => os_if C hd ht (fun _ => kk) (fun q => absurd (hb.symm.trans q) (by decide)))
    · rename_i hb
      exact ow_one IH hr (ow_inv_rf h) (fun g xs p l e R s m args below meth c Q n0 s0 C hn hrc hrs kk => os_if C hd ht (fun q => absurd q hb) (fun _ => kk))
  case if_icmp cnd off =>
    simp only [ox_in] at hr
    replace hr := ox_g_some hr
    obtain ⟨hk, hr⟩ := hr
    have hk := eq_of_beq hk; subst hk
    replace hr := ox_jmp_some hr
    obtain ⟨t, ht, hr⟩ := hr
    replace hr := ox_p2_some hr
    obtain ⟨x, y, r, rfl, hr⟩ := hr
    split at hr
    · rename_i hb
      exact ow_one IH hr (ow_inv_rf h) (fun g xs p l e R s m args below meth c Q n0 s0 C hn hrc hrs kk => os_icmp C hd ht (fun _ => kk) (fun q => absurd (hb.symm.trans q) (by decide)))
    · rename_i hb
      exact ow_one IH hr (ow_inv_rf h) (fun g xs p l e R s m args below meth c Q n0 s0 C hn hrc hrs kk => os_icmp C hd ht (fun q => absurd q hb) (fun _ => kk))
  case tableswitch d lo hi offs =>
    simp only [ox_in] at hr
    replace hr := ox_pI_some hr
    obtain ⟨x, r, rfl, hr⟩ := hr
    split at hr
    · rename_i hb
      replace hr := ox_jmp_some hr
      obtain ⟨t, ht, hr⟩ := hr
      exact ow_one IH hr (ow_inv_rf h) (fun g xs p l e R s m args below meth c Q n0 s0 C hn hrc hrs kk => os_tabO C hd hb ht kk)
    · rename_i hb
      replace hr := ox_O_some hr
      obtain ⟨q, hq, hr⟩ := hr
      replace hr := ox_jmp_some hr
      obtain ⟨t, ht, hr⟩ := hr
      exact ow_one IH hr (ow_inv_rf h) (fun g xs p l e R s m args below meth c Q n0 s0 C hn hrc hrs kk => os_tabI C hd hb hq ht kk)
  case lookupswitch d ps =>
    simp only [ox_in] at hr
    replace hr := ox_g_some hr
    obtain ⟨hk, hr⟩ := hr
    replace hr := ox_pI_some hr
    obtain ⟨x, r, rfl, hr⟩ := hr
    replace hr := ox_jmp_some hr
    obtain ⟨t, ht, hr⟩ := hr
    exact ow_one IH hr (ow_inv_rf h) (fun g xs p l e R s m args below meth c Q n0 s0 C hn hrc hrs kk => os_look C hd hk ht kk)
  case getfield q =>
    simp only [ox_in] at hr
    replace hr := ox_g_some hr
    obtain ⟨hk, hr⟩ := hr
    have hk := eq_of_beq hk; subst hk
    replace hr := ox_O_some hr
    obtain ⟨⟨ci, f⟩, hq, hr⟩ := hr
    replace hr := ox_pA_some hr
    obtain ⟨a, r, rfl, hr⟩ := hr
    replace hr := ox_O_some hr
    obtain ⟨w, hw, hr⟩ := hr
    exact ow_one IH hr (ow_inv_rf h) (fun g xs p l e R s m args below meth c Q n0 s0 C hn hrc hrs kk => os_getf C hd hq hw kk)
  case putfield q =>
    simp only [ox_in] at hr
    replace hr := ox_g_some hr
    obtain ⟨hk, hr⟩ := hr
    have hk := eq_of_beq hk; subst hk
    replace hr := ox_O_some hr
    obtain ⟨⟨ci, f⟩, hq, hr⟩ := hr
    split at hr
    · replace hr := ox_g_some hr
      obtain ⟨hv, hr⟩ := hr
      rw [Bool.and_eq_true] at hv
      replace hr := ox_O_some hr
      obtain ⟨fs, hf, hr⟩ := hr
      replace hr := ox_g_some hr
      obtain ⟨hl, hr⟩ := hr
      exact ow_one IH hr (ow_inv_set (ox_obj_some hf) (by simp [ox_cl]) (fun xs k => ow_k4_inr k (ox_obj_some hf))) (fun g xs p l e R s m args below meth c Q n0 s0 C hn hrc hrs kk => os_putf C hd hq hv.1 hv.2 hf (of_decide_eq_true hl) kk)
    · cases hr
  case getstatic q =>
    simp only [ox_in] at hr
    replace hr := ox_g_some hr
    obtain ⟨hk, hr⟩ := hr
    have hk := eq_of_beq hk; subst hk
    replace hr := ox_O_some hr
    obtain ⟨a, hq, hr⟩ := hr
    exact ow_one IH hr (ow_inv_rf h) (fun g xs p l e R s m args below meth c Q n0 s0 C hn hrc hrs kk => os_gets C hd hq kk)
  case iaload  =>
    simp only [ox_in] at hr
    replace hr := ox_g_some hr
    obtain ⟨hk, hr⟩ := hr
    have hk := eq_of_beq hk; subst hk
    replace hr := ox_pI_some hr
    obtain ⟨i, r1, e1, hr⟩ := hr
    replace hr := ox_pA_some hr
    obtain ⟨a, r, rfl, hr⟩ := hr
    subst e1
    replace hr := ox_O_some hr
    obtain ⟨l0, hl, hr⟩ := hr
    replace hr := ox_O_some hr
    obtain ⟨x, hx, hr⟩ := hr
    exact ow_one IH hr (ow_inv_rf h) (fun g xs p l e R s m args below meth c Q n0 s0 C hn hrc hrs kk => os_iald C hd hl hx kk)
  case baload  =>
    simp only [ox_in] at hr
    replace hr := ox_g_some hr
    obtain ⟨hk, hr⟩ := hr
    have hk := eq_of_beq hk; subst hk
    replace hr := ox_pI_some hr
    obtain ⟨i, r1, e1, hr⟩ := hr
    replace hr := ox_pA_some hr
    obtain ⟨a, r, rfl, hr⟩ := hr
    subst e1
    replace hr := ox_O_some hr
    obtain ⟨l0, hl, hr⟩ := hr
    replace hr := ox_O_some hr
    obtain ⟨x, hx, hr⟩ := hr
    exact ow_one IH hr (ow_inv_rf h) (fun g xs p l e R s m args below meth c Q n0 s0 C hn hrc hrs kk => os_bald C hd hl hx kk)
  case caload  =>
    simp only [ox_in] at hr
    replace hr := ox_g_some hr
    obtain ⟨hk, hr⟩ := hr
    have hk := eq_of_beq hk; subst hk
    replace hr := ox_pI_some hr
    obtain ⟨i, r1, e1, hr⟩ := hr
    replace hr := ox_pA_some hr
    obtain ⟨a, r, rfl, hr⟩ := hr
    subst e1
    replace hr := ox_O_some hr
    obtain ⟨l0, hl, hr⟩ := hr
    replace hr := ox_O_some hr
    obtain ⟨x, hx, hr⟩ := hr
    exact ow_one IH hr (ow_inv_rf h) (fun g xs p l e R s m args below meth c Q n0 s0 C hn hrc hrs kk => os_cald C hd hl hx kk)
  case aaload  =>
    simp only [ox_in] at hr
    replace hr := ox_g_some hr
    obtain ⟨hk, hr⟩ := hr
    have hk := eq_of_beq hk; subst hk
    replace hr := ox_pI_some hr
    obtain ⟨i, r1, e1, hr⟩ := hr
    replace hr := ox_pA_some hr
    obtain ⟨a, r, rfl, hr⟩ := hr
    subst e1
    replace hr := ox_O_some hr
    obtain ⟨l0, hl, hr⟩ := hr
    replace hr := ox_A_some hr
    obtain ⟨x, hx, hr⟩ := hr
    exact ow_one IH hr (ow_inv_rf h) (fun g xs p l e R s m args below meth c Q n0 s0 C hn hrc hrs kk => os_aald C hd hl hx kk)
  case iastore  =>
    simp only [ox_in] at hr
    replace hr := ox_g_some hr
    obtain ⟨hk, hr⟩ := hr
    have hk := eq_of_beq hk; subst hk
    replace hr := ox_pI_some hr
    obtain ⟨x, r1, e1, hr⟩ := hr
    replace hr := ox_pI_some hr
    obtain ⟨i, r2, e2, hr⟩ := hr
    replace hr := ox_pA_some hr
    obtain ⟨a, r, rfl, hr⟩ := hr
    subst e2
    subst e1
    replace hr := ox_O_some hr
    obtain ⟨l0, hl, hr⟩ := hr
    replace hr := ox_O_some hr
    obtain ⟨y, hy, hr⟩ := hr
    obtain ⟨t, ht1, ht2⟩ := ox_ints_some hl
    have ht : t = 0 := by simpa [ox_is0] using ht2
    subst ht
    exact ow_one IH hr (ow_inv_set ht1 (by simp [ox_cl]) (fun xs k => ow_k4_inl k ht1 (by omega))) (fun g xs p l e R s m args below meth c Q n0 s0 C hn hrc hrs kk => os_iast C hd hl hy kk)
  case bastore  =>
    simp only [ox_in] at hr
    replace hr := ox_g_some hr
    obtain ⟨hk, hr⟩ := hr
    have hk := eq_of_beq hk; subst hk
    replace hr := ox_pI_some hr
    obtain ⟨x, r1, e1, hr⟩ := hr
    replace hr := ox_pI_some hr
    obtain ⟨i, r2, e2, hr⟩ := hr
    replace hr := ox_pA_some hr
    obtain ⟨a, r, rfl, hr⟩ := hr
    subst e2
    subst e1
    replace hr := ox_g_some hr
    obtain ⟨hx, hr⟩ := hr
    replace hr := ox_O_some hr
    obtain ⟨l0, hl, hr⟩ := hr
    replace hr := ox_O_some hr
    obtain ⟨y, hy, hr⟩ := hr
    obtain ⟨t, ht1, ht2⟩ := ox_ints_some hl
    have ht : t = 1 := by simpa [ox_isZ] using ht2
    subst ht
    have hx01 : x = 0 ∨ x = 1 := by simpa using hx
    exact ow_one IH hr (ow_inv_set ht1 (by simp [ox_cl]) (fun xs k => ow_k4_inl k ht1 (by omega))) (fun g xs p l e R s m args below meth c Q n0 s0 C hn hrc hrs kk => os_bast C hd hx01 hl hy kk)
  case aastore  =>
    simp only [ox_in] at hr
    replace hr := ox_g_some hr
    obtain ⟨hk, hr⟩ := hr
    have hk := eq_of_beq hk; subst hk
    replace hr := ox_pA_some hr
    obtain ⟨x, r1, e1, hr⟩ := hr
    replace hr := ox_pI_some hr
    obtain ⟨i, r2, e2, hr⟩ := hr
    replace hr := ox_pA_some hr
    obtain ⟨a, r, rfl, hr⟩ := hr
    subst e2
    subst e1
    replace hr := ox_g_some hr
    obtain ⟨hx, hr⟩ := hr
    obtain ⟨fs, hfs⟩ := Option.isSome_iff_exists.mp hx
    replace hr := ox_O_some hr
    obtain ⟨l0, hl, hr⟩ := hr
    replace hr := ox_O_some hr
    obtain ⟨y, hy, hr⟩ := hr
    exact ow_one IH hr (ow_inv_set (ox_obj_some hl) (by simp [ox_cl]) (fun xs k => ow_k4_inr k (ox_obj_some hl))) (fun g xs p l e R s m args below meth c Q n0 s0 C hn hrc hrs kk => os_aast C hd hfs hl hy kk)
  case arraylength  =>
    simp only [ox_in] at hr
    replace hr := ox_g_some hr
    obtain ⟨hk, hr⟩ := hr
    have hk := eq_of_beq hk; subst hk
    replace hr := ox_pA_some hr
    obtain ⟨a, r, rfl, hr⟩ := hr
    replace hr := ox_O_some hr
    obtain ⟨x, hx, hr⟩ := hr
    exact ow_one IH hr (ow_inv_rf h) (fun g xs p l e R s m args below meth c Q n0 s0 C hn hrc hrs kk => os_alen C hd hx kk)
  case newarray t =>
    simp only [ox_in] at hr
    replace hr := ox_g_some hr
    obtain ⟨hk, hr⟩ := hr
    have hk := eq_of_beq hk; subst hk
    replace hr := ox_pI_some hr
    obtain ⟨x, r, rfl, hr⟩ := hr
    replace hr := ox_g_some hr
    obtain ⟨hx, hr⟩ := hr
    rw [Bool.and_eq_true] at hx
    have hx1 := of_decide_eq_true hx.1
    have hx2 := of_decide_eq_true hx.2
    cases t
    case int => exact ow_one IH hr ow_inv_push (fun g xs p l e R s m args below meth c Q n0 s0 C hn hrc hrs kk => os_newI C hn hd hx1 hx2 (by simpa using hrc) (by rw [ox_sl_push] at hrs; simpa [ox_cl] using hrs) kk)
    case boolean => exact ow_one IH hr ow_inv_push (fun g xs p l e R s m args below meth c Q n0 s0 C hn hrc hrs kk => os_newZ C hn hd hx1 hx2 (by simpa using hrc) (by rw [ox_sl_push] at hrs; simpa [ox_cl] using hrs) kk)
    all_goals (simp only [reduceCtorEq] at hr)
  case anewarray q =>
    simp only [ox_in] at hr
    replace hr := ox_g_some hr
    obtain ⟨hk, hr⟩ := hr
    have hk := eq_of_beq hk; subst hk
    replace hr := ox_O_some hr
    obtain ⟨a, hq, hr⟩ := hr
    replace hr := ox_pI_some hr
    obtain ⟨x, r, rfl, hr⟩ := hr
    replace hr := ox_g_some hr
    obtain ⟨hx, hr⟩ := hr
    rw [Bool.and_eq_true, Bool.and_eq_true] at hx
    have ha := eq_of_beq hx.1.1
    subst ha
    exact ow_one IH hr ow_inv_push (fun g xs p l e R s m args below meth c Q n0 s0 C hn hrc hrs kk => os_newq C hn hd hq (of_decide_eq_true hx.1.2) (of_decide_eq_true hx.2) (by simpa using hrc) (by rw [ox_sl_push] at hrs; simpa [ox_cl] using hrs) kk)
  case new q =>
    simp only [ox_in] at hr
    replace hr := ox_g_some hr
    obtain ⟨hk, hr⟩ := hr
    have hk := eq_of_beq hk; subst hk
    replace hr := ox_O_some hr
    obtain ⟨a, hq, hr⟩ := hr
    exact ow_one IH hr ow_inv_push (fun g xs p l e R s m args below meth c Q n0 s0 C hn hrc hrs kk => os_new C hn hd hq (by simpa using hrc) (by rw [ox_sl_push] at hrs; exact hrs) kk)
  case invokespecial q =>
    simp only [ox_in] at hr
    replace hr := ox_g_some hr
    obtain ⟨hk, hr⟩ := hr
    have hk := eq_of_beq hk; subst hk
    replace hr := ox_O_some hr
    obtain ⟨j, hq, hr⟩ := hr
    split at hr
    · rename_i hj
      subst hj
      replace hr := ox_pA_some hr
      obtain ⟨a, r, rfl, hr⟩ := hr
      replace hr := ox_g_some hr
      obtain ⟨hx, hr⟩ := hr
      rw [Bool.and_eq_true, Bool.and_eq_true] at hx
      exact ow_one IH hr (ow_inv_rf h) (fun g xs p l e R s m args below meth c Q n0 s0 C hn hrc hrs kk => os_obj C hd hq (of_decide_eq_true hx.1.1) (of_decide_eq_true hx.1.2) hx.2 kk)
    · replace hr := ox_g_some hr
      obtain ⟨hx, hr⟩ := hr
      rw [Bool.and_eq_true, Bool.and_eq_true] at hx
      exact ow_callok IH hd (Or.inr (Or.inl ⟨rfl, eq_of_beq hx.1.1⟩)) hq (of_decide_eq_true hx.1.2) (Or.inr hx.2) hr
  case invokevirtual q =>
    simp only [ox_in] at hr
    replace hr := ox_g_some hr
    obtain ⟨hk, hr⟩ := hr
    have hk := eq_of_beq hk; subst hk
    replace hr := ox_O_some hr
    obtain ⟨j, hq, hr⟩ := hr
    replace hr := ox_g_some hr
    obtain ⟨hx, hr⟩ := hr
    rw [Bool.and_eq_true, Bool.and_eq_true] at hx
    exact ow_callok IH hd (Or.inl ⟨rfl, eq_of_beq hx.1.1⟩) hq (of_decide_eq_true hx.1.2) (Or.inr hx.2) hr
  case invokestatic q =>
    simp only [ox_in] at hr
    replace hr := ox_g_some hr
    obtain ⟨hk, hr⟩ := hr
    have hk := eq_of_beq hk; subst hk
    replace hr := ox_O_some hr
    obtain ⟨j, hq, hr⟩ := hr
    split at hr
    · rename_i hj
      subst hj
      replace hr := ox_p2_some hr
      obtain ⟨x, y, r, rfl, hr⟩ := hr
      replace hr := ox_g_some hr
      obtain ⟨hx, hr⟩ := hr
      rw [Bool.and_eq_true, Bool.and_eq_true] at hx
      exact ow_one IH hr (ow_inv_rf h) (fun g xs p l e R s m args below meth c Q n0 s0 C hn hrc hrs kk => os_max C hd hq (of_decide_eq_true hx.1.1) (of_decide_eq_true hx.1.2) hx.2 hrc hrs kk)
    · split at hr
      · rename_i hj
        subst hj
        replace hr := ox_p2_some hr
        obtain ⟨x, y, r, rfl, hr⟩ := hr
        replace hr := ox_g_some hr
        obtain ⟨hx, hr⟩ := hr
        rw [Bool.and_eq_true, Bool.and_eq_true] at hx
        exact ow_one IH hr (ow_inv_rf h) (fun g xs p l e R s m args below meth c Q n0 s0 C hn hrc hrs kk => os_min C hd hq (of_decide_eq_true hx.1.1) (of_decide_eq_true hx.1.2) hx.2 hrc hrs kk)
      · split at hr
        · rename_i hj
          subst hj
          split at hr
          · replace hr := ox_g_some hr
            obtain ⟨hx, hr⟩ := hr
            simp only [Bool.and_eq_true, beq_iff_eq, decide_eq_true_eq] at hx
            obtain ⟨⟨⟨x1, x2⟩, x3⟩, ⟨x4, x5⟩, x6⟩ := hx
            subst x5
            subst x6
            replace hr := ox_O_some hr
            obtain ⟨l0, hl0, hr⟩ := hr
            replace hr := ox_O_some hr
            obtain ⟨l1, hl1, hr⟩ := hr
            replace hr := ox_g_some hr
            obtain ⟨hy, hr⟩ := hr
            rw [Bool.and_eq_true] at hy
            obtain ⟨t, ht1, ht2⟩ := ox_ints_some hl1
            have ht : t = 0 := by simpa [ox_is0] using ht2
            subst ht
            have y1 := of_decide_eq_true hy.1
            have y2 := of_decide_eq_true hy.2
            exact ow_one IH hr (ow_inv_set ht1 (by simp [ox_cl]; omega) (fun xs k => ow_k4_inl k ht1 (by omega))) (fun g xs p l e R s m args below meth c Q n0 s0 C hn hrc hrs kk => os_copy C hd hq x1 x2 x3 x4 hl0 hl1 y1 y2 kk)
          · cases hr
        · replace hr := ox_g_some hr
          obtain ⟨hx, hr⟩ := hr
          rw [Bool.and_eq_true] at hx
          exact ow_callok IH hd (Or.inr (Or.inr ⟨rfl, eq_of_beq hx.1⟩)) hq (of_decide_eq_true hx.2) (Or.inl (eq_of_beq hx.1)) hr
  case ireturn  =>
    simp only [ox_in] at hr
    replace hr := ox_g_some hr
    obtain ⟨hk, hr⟩ := hr
    have hk := eq_of_beq hk; subst hk
    split at hr
    · replace hr := ox_g_some hr
      obtain ⟨hx, hr⟩ := hr
      cases hr
      refine ⟨ow_inv_rf h, fun g xs p l e R s m args below meth c Q n0 s0 C hn hrc hrs hrt H locs cells slots A hP hS hL hc hs hk => ?_⟩
      exact (hrt pc A H locs cells slots hP hS hc hs).1 _ rfl hd (by simpa using hx)
    · cases hr
  case return_  =>
    simp only [ox_in] at hr
    replace hr := ox_g_some hr
    obtain ⟨hk, hr⟩ := hr
    rw [Bool.and_eq_true] at hk
    obtain ⟨hk, ht⟩ := hk
    have hk := eq_of_beq hk; subst hk
    split at hr
    · cases hr
      refine ⟨ow_inv_rf h, fun g xs p l e R s m args below meth c Q n0 s0 C hn hrc hrs hrt H locs cells slots A hP hS hL hc hs hk => ?_⟩
      exact (hrt pc A H locs cells slots hP hS hc hs).2 rfl hd (eq_of_beq ht)
    · cases hr
  all_goals (simp only [ox_in, reduceCtorEq] at hr)
theorem ow_ok : ∀ n, ow_OK n
  | 0 => fun mi pc ls st h v h' hr => by simp [ox_run] at hr
  | n + 1 => fun mi pc ls st h v h' hr => by
    change ox_st (ox_run n) mi pc ls st h = some (v, h') at hr
    unfold ox_st at hr
    split at hr
    · cases hr
    · rename_i q hq
      exact ow_step (ow_ok n) hq hr
end
section
/-! THE CLAIM OUT OF ONE WALK OF THE LAW'S BODY. Your part is whole_start (and what it stands on); all else here is the same for every law, but numbers. -/
def R_law : String := "OutlineEditorLaw"
def lw_P (b : Addr) (xs : List Int32) (args : Array Value) (s : State) : Prop := args = #[.ref b] ∧ s.IntsAt b xs ∧ xs.length ≤ 2048 ∧ (Jvm.Cond.and given_1 narrow_1).before args s = true
def lw_Q (_ : Array Value) (s : State) (o : Outcome) (t : State) : Prop := o = .returned (some (.int 1)) ∧ Framed s o t [] 600000 7302250
def lw_Z (below : List Frame) (a : Array Value) (s : State) : State → Prop := fun t => ∃ o, t.status = .running ∧ Ended t below o ∧ lw_Q a s o t
/-- the law's own end, with 1 on the stack, nothing written that was there before, its room as the claim has it -/
theorem lw_ret {p : Program} {l : Launch} {e : Env} {s : State} {m : MethodId} {below : List Frame} {meth : Method} {c : Code} {b : Nat} (hx : p.tables.exec = Jvm.exec) (hb : c.code = code) (hr : meth.sig.returnType = ret) (hlocks : meth.locks = false) {pc : Nat} {H : Heap} {ls : Array Slot} (hdg : decode code pc = .ok (.ireturn, 1)) : W p l e room_1 s m #[Value.ref b] below meth c H [] 600000 7302250 (lw_Z below #[Value.ref b] s) (F0 m pc ls [.int 1]) := by
  intro T hT X
  obtain ⟨fs, hret, hrun, hended, hW, hframe⟩ := X.leave (v := some (.int 1)) (hlocks := hlocks) (fun h => by rw [hr] at h; cases h)
  have hmeth' : T.vm.method? m = some meth := X.method'
  refine ⟨T.setFrames fs, ?_, .returned (some (.int 1)), hrun, hended, rfl, ⟨_, rfl⟩, hW, hframe⟩
  jvm_step X.here [X.here.top, hx, hb, hdg, hmeth', hr, ret, narrow_b1]
  (try refine ⟨rfl, ?_⟩); (try refine ⟨rfl, ?_⟩)
  first | (intro acts; rw [hret _ acts rfl rfl rfl]) | rw [hret _ _ rfl rfl rfl]
  exact Steps.refl _
/-- what holds at the law's entry: the machine, the code, the tables' words (any of lw_tbl by 'hts w (by decide +kernel)'), the script of L ints xs at the cell b, what the Statement gives of the start (any of its parts by flat_of_before) -/
def lw_At (p : Program) (s : State) (m : MethodId) (meth : Method) (c : Code) (b L : Nat) (xs : Nat → Int32) : Prop :=
  p.tables.exec = Jvm.exec ∧ c.code = code ∧ meth.sig.returnType = ret ∧ c.maxLocals = 4 ∧ s.vm.findClass R_law = some m.cls ∧ (∀ w ∈ lw_tbl, w.before #[Value.ref b] s = true) ∧ va_X b L xs s s.heap ∧ b < s.heap.size ∧ meth.locks = false ∧ (Jvm.Cond.and given_1 narrow_1).before #[Value.ref b] s = true

/-- what is left to show: our machine, from the law's entry, answers 1 within the room -/
def ow_Fin : Prop := ∀ xs : List Int32, xs.length ≤ 2048 → ∃ (n : Nat) (h' : ox_H), ox_run n 154 0 [.ref 0, .null, .null, .null] [] (ow_K4 xs) = some (some (.int 1), h') ∧ h'.length ≤ 600000 ∧ ox_sl h' ≤ 7302250
theorem ow_arr {args : Array Value} {s : State} {ty : FieldType} (h : (Cond.arrayClass ty).before args s = true) : ∃ cA : ClassId, ArrOfT s cA ty ∧ s.vm.findClass ("[" ++ ty.toString) = some cA := by
  obtain ⟨c, k, comp, h1, h2, h3⟩ := Cond.arrayClass_spec (show (Cond.arrayClass ty).holds args s none s [] = true from h)
  exact ⟨c, fun n z => ⟨fun k h => (by cases h), k, h2, comp, h3⟩, h1⟩
theorem ow_stat {args : Array Value} {s : State} {A : Nat → Prop} {n d : String} {ty : FieldType} {t : List Int32} (ht : t.length = 13) (hl : (Cond.laysStatic "OutlineEditor" n d).before args s = true) (hini : (Cond.initialized "OutlineEditor").before args s = true) (harr : (Cond.arrayOf (.static "OutlineEditor" n d) ty).before args s = true) (hlen : (Cond.eq (.length (.static "OutlineEditor" n d)) (.int 13)).before args s = true)
    (hel : ∀ j : Nat, j < 13 → (Cond.eq (.elem (.static "OutlineEditor" n d) (.int (Int32.ofNat j))) (.int (t.getD j 0))).before args s = true) (hA : ∀ a : Nat, a < s.heap.size → ¬ A a) : ∃ a : Nat, va_Z "OutlineEditor" n d (.ref a) A s s.heap ∧ va_T ty a 13 (fun j => .int (t.getD j 0)) A s s.heap := by
  obtain ⟨a, h1, h2⟩ := va_Tof (tm := .static "OutlineEditor" n d) (ty := ty) (N := 13) (f := fun j => .int (t.getD j 0)) (by decide) harr (va_eqt hlen) (fun j hj => va_eqt (hel j hj)) hA
  exact ⟨a, va_Zref hl hini h1 hA, h2⟩
set_option maxRecDepth 100000 in
set_option maxHeartbeats 4000000 in
theorem ow_root (hF : ow_Fin) {p : Program} {e : Env} {s : State} {m : MethodId} {below : List Frame} {meth : Method} {c : Code} (l : Launch) {b L : Nat} {xs : Nat → Int32} (hL : L ≤ 2048) (C0 : lw_At p s m meth c b L xs) : W p l e room_1 s m #[Value.ref b] below meth c s.heap [] 0 0 (lw_Z below #[Value.ref b] s) (entryFrame m ([Value.ref b] : List Value).toArray 4) := by
  obtain ⟨hx, hb, hr, hml, hown, hts, hX, hbl, hlocks, hgv⟩ := id C0
  have hg := flat_of_before _ hgv
  have hA0 : ∀ a : Nat, a < s.heap.size → ¬ (fun q : Nat => s.heap.size ≤ q) a := fun a ha => Nat.not_le.mpr ha
  obtain ⟨c0, i0, k0⟩ := u_known (C := RX0) (T := TX0) (N := 2) (n := 2) hts gm_in0 (hts (.instantiable RX0 2) (List.mem_of_getElem? (i := 129) (by decide +kernel)))
  obtain ⟨c1, i1, k1⟩ := u_known (C := RX1) (T := TX1) (N := 13) (n := 13) hts gm_in1 (hts (.instantiable RX1 13) (List.mem_of_getElem? (i := 70) (by decide +kernel)))
  obtain ⟨c2, i2, k2⟩ := u_known (C := RX2) (T := TX2) (N := 7) (n := 7) hts gm_in2 (hts (.instantiable RX2 7) (List.mem_of_getElem? (i := 62) (by decide +kernel)))
  obtain ⟨c3, i3, k3⟩ := u_known (C := RX3) (T := TX3) (N := 10) (n := 10) hts gm_in3 (hts (.instantiable RX3 10) (List.mem_of_getElem? (i := 508) (by decide +kernel)))
  obtain ⟨cI, aI, fI⟩ := ow_arr (hts _ wd_aI)
  obtain ⟨cZ, aZ, fZ⟩ := ow_arr (hts _ wd_aZ)
  obtain ⟨comp, cO, kO, o1, o2, o3, o4, o5⟩ := Cond.arrayOver_spec (show (Cond.arrayOver (.object "OutlineEditor$Outline")).holds #[Value.ref b] s none s [] = true from hts _ wd_aO)
  obtain ⟨a1, z1, t1⟩ := ow_stat (A := fun q : Nat => s.heap.size ≤ q) (t := ow_t1) (ty := .int) rfl (hts _ wd_ls1) (hts _ wd_oeI) (hg _ (by decide +kernel)) (hg _ (by decide +kernel)) (fun j hj => by
    match j, hj with
    | 0, _ => exact hg _ (by decide +kernel)
    | 1, _ => exact hg _ (by decide +kernel)
    | 2, _ => exact hg _ (by decide +kernel)
    | 3, _ => exact hg _ (by decide +kernel)
    | 4, _ => exact hg _ (by decide +kernel)
    | 5, _ => exact hg _ (by decide +kernel)
    | 6, _ => exact hg _ (by decide +kernel)
    | 7, _ => exact hg _ (by decide +kernel)
    | 8, _ => exact hg _ (by decide +kernel)
    | 9, _ => exact hg _ (by decide +kernel)
    | 10, _ => exact hg _ (by decide +kernel)
    | 11, _ => exact hg _ (by decide +kernel)
    | 12, _ => exact hg _ (by decide +kernel)
    | j + 13, hj => exact absurd hj (by omega)) hA0
  obtain ⟨a2, z2, t2⟩ := ow_stat (A := fun q : Nat => s.heap.size ≤ q) (t := ow_t2) (ty := .char) rfl (hts _ wd_ls2) (hts _ wd_oeI) (hg _ (by decide +kernel)) (hg _ (by decide +kernel)) (fun j hj => by
    match j, hj with
    | 0, _ => exact hg _ (by decide +kernel)
    | 1, _ => exact hg _ (by decide +kernel)
    | 2, _ => exact hg _ (by decide +kernel)
    | 3, _ => exact hg _ (by decide +kernel)
    | 4, _ => exact hg _ (by decide +kernel)
    | 5, _ => exact hg _ (by decide +kernel)
    | 6, _ => exact hg _ (by decide +kernel)
    | 7, _ => exact hg _ (by decide +kernel)
    | 8, _ => exact hg _ (by decide +kernel)
    | 9, _ => exact hg _ (by decide +kernel)
    | 10, _ => exact hg _ (by decide +kernel)
    | 11, _ => exact hg _ (by decide +kernel)
    | 12, _ => exact hg _ (by decide +kernel)
    | j + 13, hj => exact absurd hj (by omega)) hA0
  obtain ⟨a3, z3, t3⟩ := ow_stat (A := fun q : Nat => s.heap.size ≤ q) (t := ow_t3) (ty := .char) rfl (hts _ wd_ls3) (hts _ wd_oeI) (hg _ (by decide +kernel)) (hg _ (by decide +kernel)) (fun j hj => by
    match j, hj with
    | 0, _ => exact hg _ (by decide +kernel)
    | 1, _ => exact hg _ (by decide +kernel)
    | 2, _ => exact hg _ (by decide +kernel)
    | 3, _ => exact hg _ (by decide +kernel)
    | 4, _ => exact hg _ (by decide +kernel)
    | 5, _ => exact hg _ (by decide +kernel)
    | 6, _ => exact hg _ (by decide +kernel)
    | 7, _ => exact hg _ (by decide +kernel)
    | 8, _ => exact hg _ (by decide +kernel)
    | 9, _ => exact hg _ (by decide +kernel)
    | 10, _ => exact hg _ (by decide +kernel)
    | 11, _ => exact hg _ (by decide +kernel)
    | 12, _ => exact hg _ (by decide +kernel)
    | j + 13, hj => exact absurd hj (by omega)) hA0
  obtain ⟨g, hgd⟩ : ∃ g : ow_G, g = (s.heap.size, fun k => if k = 0 then b else if k = 1 then a1 else if k = 2 then a2 else a3, (fun k => if k = 0 then c0 else if k = 1 then c1 else if k = 2 then c2 else c3, fun k => if k = 0 then i0 else if k = 1 then i1 else if k = 2 then i2 else i3), cI, cZ, cO) := ⟨_, rfl⟩
  have hlen : ((List.range L).map xs).length = L := by simp
  have hS : ow_S g ((List.range L).map xs) s := by
    subst hgd
    refine ⟨⟨fun k q hq => ?_, fun k q hq => ?_⟩, hts _ wd_aO, fun q hq => va_Nw.of rfl (hts _ (rs_gs_all q hq).1), ?_, hbl, hbl, fun k h1 h2 => ?_⟩
    · match k, hq with
      | 0, hq => cases hq; exact k0
      | 1, hq => cases hq; exact k1
      | 2, hq => cases hq; exact k2
      | 3, hq => cases hq; exact k3
      | k + 4, hq => simp [vwCl] at hq
    · match k, hq with
      | 0, hq => cases hq; exact ⟨aI, fI⟩
      | 1, hq => cases hq; exact ⟨aZ, fZ⟩
      | 2, hq => cases hq; exact ⟨fun n z => ⟨fun k h => (by cases h), kO, o3, comp, o4⟩, kO, comp, o3, o4, o1, o5⟩
      | k + 3, hq => simp [ow_tys] at hq
    · obtain ⟨scr, x1, x2, x3, x4, x5⟩ := hX
      refine ⟨scr, x1, x2, x3, by rw [hlen]; exact x4, fun j hj => ?_⟩
      rw [hlen] at hj
      rw [x5 j hj]
      simp [hj]
    · match k, h1, h2 with
      | 1, _, _ => exact ⟨z1, t1⟩
      | 2, _, _ => exact ⟨z2, t2⟩
      | 3, _, _ => exact ⟨z3, t3⟩
  have hg1 : g.1 = s.heap.size := by rw [hgd]
  have had : ow_ad g 0 = b := by rw [hgd]; rfl
  obtain ⟨n, h', hrun, hrc, hrs⟩ := hF ((List.range L).map xs) (by rw [hlen]; exact hL)
  have C : ow_Cx g ((List.range L).map xs) 154 p room_1 s m #[Value.ref b] meth c := ⟨hx, hb, hml, hown, fun w hw => hts w (List.mem_filter.mp hw).1, fun hq => absurd hq (by decide), hS, by decide, by decide, by rw [hg1]; exact Nat.le_refl _⟩
  have hent := ow_entry (g := g) (As := [.ref 0]) (n := 4) (k := 1) rfl rfl (by decide)
  have hcv : [Value.ref 0].map (ow_cv g) = [Value.ref b] := by simp [ow_cv, had]
  rw [hcv] at hent
  rw [lg_entry_eq]
  refine ((ow_ok n) 154 0 _ [] _ _ _ hrun).2 g _ p l e room_1 s m _ below meth c _ 4 (ox_sl (ow_K4 ((List.range L).map xs))) C (by rw [hg1]) (Nat.le_trans hrc (by decide)) (Nat.le_trans hrs (by show 7302250 ≤ 7302250 + _; omega)) ?_ s.heap [] 0 0 _ (fun k q hq => by have hq : ([] : va_W)[k]? = some q := hq; simp at hq) va_S.rf hent rfl (Nat.zero_add _) rfl
  intro pc A H locs cells slots hP1 hS1 hc1 hs1
  refine ⟨fun x hx1 hd ht => ?_, fun hx1 => by cases hx1⟩
  have hx1 := Value.int.inj (Option.some.inj hx1)
  subst hx1
  refine va_forget (fun q hq => by have := hS1.2.2 q hq; unfold ow_A at this; rw [hg1] at this; exact this) ?_
  refine W.widen (k := 600000) (n := 7302250) (by omega) (by omega) ?_
  exact lw_ret hx hb hr hlocks hd
end
section
/-! What our machine does, without counting steps: oe, and its equation. -/
def oc_le (f f' : ox_F) : Prop := ∀ a b c d e r, f a b c d e = some r → f' a b c d e = some r
/-- monotone and continuous in the machine -/
def oc_C (F : ox_F → Option ox_R) : Prop := (∀ f f', oc_le f f' → ∀ r, F f = some r → F f' = some r) ∧ ∀ (c : Nat → ox_F) (o : ox_F), (∀ n k, n ≤ k → oc_le (c n) (c k)) → (∀ a b d e j r, o a b d e j = some r → ∃ n, c n a b d e j = some r) → ∀ r, F o = some r → ∃ n, F (c n) = some r
theorem oc_k (x : Option ox_R) : oc_C (fun _ => x) := ⟨fun _ _ _ _ h => h, fun _ _ _ _ _ h => ⟨0, h⟩⟩
theorem oc_app (a b : Nat) (c d : List Value) (e : ox_H) : oc_C (fun f => f a b c d e) := ⟨fun _ _ hf r h => hf a b c d e r h, fun c' o _ ho r h => ho a b c d e r h⟩
theorem oc_g {F : ox_F → Option ox_R} (b : Bool) (hF : oc_C F) : oc_C (fun f => ox_g b (F f)) := by
  cases b with
  | false => exact oc_k none
  | true => exact hF
theorem oc_O {α : Type} {F : α → ox_F → Option ox_R} (o : Option α) (hF : ∀ x, oc_C (F x)) : oc_C (fun f => ox_O o (fun x => F x f)) := by
  cases o with
  | none => exact oc_k none
  | some x => exact hF x
theorem oc_I {F : Int32 → ox_F → Option ox_R} (v : Option Value) (hF : ∀ x, oc_C (F x)) : oc_C (fun f => ox_I v (fun x => F x f)) := by
  rcases v with _ | (_ | _ | _ | _ | _ | _ | _)
  case some.int x => exact hF x
  all_goals exact oc_k none
theorem oc_A {F : Nat → ox_F → Option ox_R} (v : Option Value) (hF : ∀ x, oc_C (F x)) : oc_C (fun f => ox_A v (fun x => F x f)) := by
  rcases v with _ | (_ | _ | _ | _ | _ | _ | _)
  case some.ref x => exact hF x
  all_goals exact oc_k none
theorem oc_pI {F : Int32 → List Value → ox_F → Option ox_R} (st : List Value) (hF : ∀ x r, oc_C (F x r)) : oc_C (fun f => ox_pI st (fun x r => F x r f)) := by
  rcases st with _ | ⟨(_ | _ | _ | _ | _ | _ | _), r⟩
  case cons.int x => exact hF x r
  all_goals exact oc_k none
theorem oc_pA {F : Nat → List Value → ox_F → Option ox_R} (st : List Value) (hF : ∀ x r, oc_C (F x r)) : oc_C (fun f => ox_pA st (fun x r => F x r f)) := by
  rcases st with _ | ⟨(_ | _ | _ | _ | _ | _ | _), r⟩
  case cons.ref x => exact hF x r
  all_goals exact oc_k none
theorem oc_p2 {F : Int32 → Int32 → List Value → ox_F → Option ox_R} (st : List Value) (hF : ∀ x y r, oc_C (F x y r)) : oc_C (fun f => ox_p2 st (fun x y r => F x y r f)) :=
  oc_pI (F := fun y r f => ox_pI r fun x r => F x y r f) st fun y r => oc_pI (F := fun x r f => F x y r f) r fun x r => hF x y r
theorem oc_jmp {F : Nat → ox_F → Option ox_R} (pc : Nat) (off : Int) (hF : ∀ t, oc_C (F t)) : oc_C (fun f => ox_jmp pc off (fun t => F t f)) := by
  unfold ox_jmp
  split
  · exact hF _
  · exact oc_k none
theorem oc_i {c : Prop} {inst : Decidable c} {F G : ox_F → Option ox_R} (hF : oc_C F) (hG : oc_C G) : oc_C (fun f => if c then F f else G f) := by
  by_cases h : c
  · simp only [h, if_true]; exact hF
  · simp only [h, if_false]; exact hG
theorem oc_B {F : ox_F → Option ox_R} {G : Option Value → ox_H → ox_F → Option ox_R} (hF : oc_C F) (hG : ∀ v h, oc_C (G v h)) : oc_C (fun f => ox_B (F f) (fun v h => G v h f)) := by
  refine ⟨fun f f' hf r h => ?_, fun c o hc ho r h => ?_⟩
  · obtain ⟨v, h1, e1, e2⟩ := ox_B_some h
    show ox_B (F f') _ = some r
    rw [hF.1 f f' hf _ e1]
    exact (hG v h1).1 f f' hf r e2
  · obtain ⟨v, h1, e1, e2⟩ := ox_B_some h
    obtain ⟨n1, f1⟩ := hF.2 c o hc ho _ e1
    obtain ⟨n2, f2⟩ := (hG v h1).2 c o hc ho _ e2
    refine ⟨max n1 n2, ?_⟩
    show ox_B (F (c (max n1 n2))) _ = some r
    rw [hF.1 _ _ (hc n1 _ (Nat.le_max_left _ _)) _ f1]
    exact (hG v h1).1 _ _ (hc n2 _ (Nat.le_max_right _ _)) r f2
theorem oc_call {K : Option Value → List Value → ox_H → ox_F → Option ox_R} (mi j : Nat) (st : List Value) (h : ox_H) (hK : ∀ v s h, oc_C (K v s h)) : oc_C (fun f => ox_call f mi j st h (fun v s h => K v s h f)) := by
  unfold ox_call
  split
  · exact oc_B (F := fun f => f j 0 _ [] h) (G := fun v h' f => K v _ h' f) (oc_app _ _ _ _ _) (fun v h' => hK v _ h')
  · exact oc_k none
theorem oc_dup {F : Value → List Value → ox_F → Option ox_R} (st : List Value) (hF : ∀ x r, oc_C (F x r)) : oc_C (fun f => match st with | v :: r => F v r f | _ => none) := by
  cases st with
  | nil => exact oc_k none
  | cons v r => exact hF v r
theorem oc_in (mi pc : Nat) (ls st : List Value) (h : ox_H) (n : Nat) (i : Instr) : oc_C (fun f => ox_in f mi pc ls st h n i) := by
  cases i
  case iconst k => exact oc_g _ (oc_app _ _ _ _ _)
  case bipush k => exact oc_g _ (oc_app _ _ _ _ _)
  case sipush k => exact oc_g _ (oc_app _ _ _ _ _)
  case iload_n k => exact oc_g _ (oc_I _ fun x => oc_app _ _ _ _ _)
  case iload k => exact oc_g _ (oc_I _ fun x => oc_app _ _ _ _ _)
  case aload_n k => exact oc_g _ (oc_A _ fun x => oc_app _ _ _ _ _)
  case aload k => exact oc_g _ (oc_A _ fun x => oc_app _ _ _ _ _)
  case istore_n k => exact oc_g _ (oc_pI _ fun x r => oc_app _ _ _ _ _)
  case istore k => exact oc_g _ (oc_pI _ fun x r => oc_app _ _ _ _ _)
  case astore_n k => exact oc_g _ (oc_pA _ fun x r => oc_app _ _ _ _ _)
  case astore k => exact oc_g _ (oc_pA _ fun x r => oc_app _ _ _ _ _)
  case iinc k d => exact oc_g _ (oc_I _ fun x => oc_app _ _ _ _ _)
  case iadd => exact oc_g _ (oc_p2 _ fun x y r => oc_app _ _ _ _ _)
  case isub => exact oc_g _ (oc_p2 _ fun x y r => oc_app _ _ _ _ _)
  case imul => exact oc_g _ (oc_p2 _ fun x y r => oc_app _ _ _ _ _)
  case iand => exact oc_g _ (oc_p2 _ fun x y r => oc_app _ _ _ _ _)
  case ior => exact oc_g _ (oc_p2 _ fun x y r => oc_app _ _ _ _ _)
  case ishl => exact oc_g _ (oc_p2 _ fun x y r => oc_app _ _ _ _ _)
  case ishr => exact oc_g _ (oc_p2 _ fun x y r => oc_app _ _ _ _ _)
  case idiv => exact oc_g _ (oc_p2 _ fun x y r => oc_g _ (oc_app _ _ _ _ _))
  case irem => exact oc_g _ (oc_p2 _ fun x y r => oc_g _ (oc_app _ _ _ _ _))
  case dup => exact oc_g _ (oc_dup _ fun v r => oc_g _ (oc_app _ _ _ _ _))
  case dup2 =>
    refine oc_g _ ?_
    rcases st with _ | ⟨v, _ | ⟨w, r⟩⟩
    · exact oc_k none
    · exact oc_k none
    · exact oc_g _ (oc_app _ _ _ _ _)
  case goto off => exact oc_g _ (oc_jmp _ _ fun t => oc_app _ _ _ _ _)
  case ifCond c off => exact oc_g _ (oc_jmp _ _ fun t => oc_pI _ fun x r => oc_i (oc_app _ _ _ _ _) (oc_app _ _ _ _ _))
  case if_icmp c off => exact oc_g _ (oc_jmp _ _ fun t => oc_p2 _ fun x y r => oc_i (oc_app _ _ _ _ _) (oc_app _ _ _ _ _))
  case tableswitch d lo hi offs => exact oc_pI _ fun x r => oc_i (oc_jmp _ _ fun t => oc_app _ _ _ _ _) (oc_O _ fun o => oc_jmp _ _ fun t => oc_app _ _ _ _ _)
  case lookupswitch d ps => exact oc_g _ (oc_pI _ fun x r => oc_jmp _ _ fun t => oc_app _ _ _ _ _)
  case getfield k => exact oc_g _ (oc_O _ fun q => oc_pA _ fun a r => oc_O _ fun v => oc_app _ _ _ _ _)
  case putfield k =>
    refine oc_g _ (oc_O _ fun q => ?_)
    rcases st with _ | ⟨v, _ | ⟨(_ | _ | _ | _ | _ | _ | _), r⟩⟩
    case cons.cons.ref a => exact oc_g _ (oc_O _ fun fs => oc_g _ (oc_app _ _ _ _ _))
    all_goals exact oc_k none
  case getstatic k => exact oc_g _ (oc_O _ fun q => oc_app _ _ _ _ _)
  case iaload => exact oc_g _ (oc_pI _ fun i r => oc_pA _ fun a r => oc_O _ fun l => oc_O _ fun x => oc_app _ _ _ _ _)
  case baload => exact oc_g _ (oc_pI _ fun i r => oc_pA _ fun a r => oc_O _ fun l => oc_O _ fun x => oc_app _ _ _ _ _)
  case caload => exact oc_g _ (oc_pI _ fun i r => oc_pA _ fun a r => oc_O _ fun l => oc_O _ fun x => oc_app _ _ _ _ _)
  case aaload => exact oc_g _ (oc_pI _ fun i r => oc_pA _ fun a r => oc_O _ fun l => oc_A _ fun x => oc_app _ _ _ _ _)
  case iastore => exact oc_g _ (oc_pI _ fun x r => oc_pI _ fun i r => oc_pA _ fun a r => oc_O _ fun l => oc_O _ fun _ => oc_app _ _ _ _ _)
  case bastore => exact oc_g _ (oc_pI _ fun x r => oc_pI _ fun i r => oc_pA _ fun a r => oc_g _ (oc_O _ fun l => oc_O _ fun _ => oc_app _ _ _ _ _))
  case aastore => exact oc_g _ (oc_pA _ fun x r => oc_pI _ fun i r => oc_pA _ fun a r => oc_g _ (oc_O _ fun l => oc_O _ fun _ => oc_app _ _ _ _ _))
  case arraylength => exact oc_g _ (oc_pA _ fun a r => oc_O _ fun k => oc_app _ _ _ _ _)
  case newarray t =>
    refine oc_g _ (oc_pI _ fun k r => oc_g _ ?_)
    cases t
    case int => exact oc_app _ _ _ _ _
    case boolean => exact oc_app _ _ _ _ _
    all_goals exact oc_k none
  case anewarray k => exact oc_g _ (oc_O _ fun c => oc_pI _ fun k r => oc_g _ (oc_app _ _ _ _ _))
  case new k => exact oc_g _ (oc_O _ fun c => oc_app _ _ _ _ _)
  case invokespecial k => exact oc_g _ (oc_O _ fun j => oc_i (oc_pA _ fun _ r => oc_g _ (oc_app _ _ _ _ _)) (oc_g _ (oc_call _ _ _ _ fun v s h => oc_app _ _ _ _ _)))
  case invokevirtual k => exact oc_g _ (oc_O _ fun j => oc_g _ (oc_call _ _ _ _ fun v s h => oc_app _ _ _ _ _))
  case invokestatic k =>
    refine oc_g _ (oc_O _ fun j => oc_i (oc_p2 _ fun x y r => oc_g _ (oc_app _ _ _ _ _)) (oc_i (oc_p2 _ fun x y r => oc_g _ (oc_app _ _ _ _ _)) (oc_i ?_ (oc_g _ (oc_call _ _ _ _ fun v s h => oc_app _ _ _ _ _)))))
    show oc_C (fun f => match st with
        | .int k :: .int dp :: .ref d :: .int sp :: .ref s :: st => ox_g (decide (1 ≤ mt_r mi) && decide (st.length ≤ 8) && st.all (fun v => v.category == 1) && (decide (0 ≤ k) && sp == 0 && dp == 0)) (ox_O (ox_ints h s ox_is0) fun l => ox_O (ox_ints h d ox_is0) fun l' => ox_g (decide (k.toNatClampNeg ≤ l.length) && decide (k.toNatClampNeg ≤ l'.length)) (f mi (pc + 3) ls st (h.set d (.inl (0, l.take k.toNatClampNeg ++ l'.drop k.toNatClampNeg)))))
        | _ => none)
    split
    · exact oc_g _ (oc_O _ fun l => oc_O _ fun l' => oc_g _ (oc_app _ _ _ _ _))
    · exact oc_k none
  case ireturn => exact oc_k _
  case return_ => exact oc_k _
  all_goals exact oc_k none
theorem oc_st : ∀ (f f' : ox_F), oc_le f f' → oc_le (ox_st f) (ox_st f') := by
  intro f f' hf a b c d e r h
  unfold ox_st at h ⊢
  split at h
  · cases h
  · exact (oc_in a b c d e _ _).1 f f' hf r h
theorem oc_mono1 : ∀ n, oc_le (ox_run n) (ox_run (n + 1))
  | 0 => fun a b c d e r h => by simp [ox_run] at h
  | n + 1 => oc_st _ _ (oc_mono1 n)
theorem oc_mono (n : Nat) : ∀ k, n ≤ k → oc_le (ox_run n) (ox_run k) := by
  intro k hk
  obtain ⟨d, rfl⟩ := Nat.exists_eq_add_of_le hk
  clear hk
  induction d with
  | zero => exact fun _ _ _ _ _ _ h => h
  | succ d ih => exact fun a b c e j r h => oc_mono1 (n + d) a b c e j r (ih a b c e j r h)
noncomputable def oe : ox_F := fun mi pc ls st h => @dite _ (∃ r n, ox_run n mi pc ls st h = some r) (Classical.propDecidable _) (fun q => some (Classical.choose q)) (fun _ => none)
theorem oe_iff {mi pc : Nat} {ls st : List Value} {h : ox_H} {r : ox_R} : oe mi pc ls st h = some r ↔ ∃ n, ox_run n mi pc ls st h = some r := by
  unfold oe
  constructor
  · intro q
    split at q
    · rename_i hq
      cases q
      exact Classical.choose_spec hq
    · cases q
  · rintro ⟨n, hn⟩
    have hq : ∃ r n, ox_run n mi pc ls st h = some r := ⟨r, n, hn⟩
    rw [dif_pos hq]
    obtain ⟨k, hk⟩ := Classical.choose_spec hq
    have e1 := oc_mono n (max n k) (Nat.le_max_left _ _) _ _ _ _ _ _ hn
    have e2 := oc_mono k (max n k) (Nat.le_max_right _ _) _ _ _ _ _ _ hk
    exact e2.symm.trans e1
theorem oe_eq {mi pc k : Nat} {ls st : List Value} {h : ox_H} {i : Instr} (hd : decode (mt_c mi) pc = .ok (i, k)) : oe mi pc ls st h = ox_in oe mi pc ls st h k i := by
  have key : ∀ r, oe mi pc ls st h = some r ↔ ox_in oe mi pc ls st h k i = some r := by
    intro r
    rw [oe_iff]
    constructor
    · rintro ⟨n, hn⟩
      cases n with
      | zero => simp [ox_run] at hn
      | succ n =>
        change ox_st (ox_run n) mi pc ls st h = some r at hn
        unfold ox_st at hn
        rw [hd] at hn
        exact (oc_in mi pc ls st h k i).1 _ _ (fun a b c d e r q => oe_iff.mpr ⟨n, q⟩) r hn
    · intro q
      obtain ⟨n, hn⟩ := (oc_in mi pc ls st h k i).2 ox_run oe (fun n k hk => oc_mono n k hk) (fun a b c d e r q => oe_iff.mp q) r q
      refine ⟨n + 1, ?_⟩
      show ox_st (ox_run n) mi pc ls st h = some r
      unfold ox_st
      rw [hd]
      exact hn
  cases h1 : oe mi pc ls st h with
  | some r => exact ((key r).mp h1).symm
  | none =>
    cases h2 : ox_in oe mi pc ls st h k i with
    | none => rfl
    | some r => rw [(key r).mpr h2] at h1; cases h1
end
section
/-! The equation, an instruction a row. Numbers are written iI z, z an Int. -/
def iI (z : Int) : Int32 := Int32.ofInt z
section
variable {mi pc : Nat} {ls st : List Value} {h : ox_H}
theorem oq_iconst {k : Int} (hd : decode (mt_c mi) pc = .ok (.iconst k, 1)) : oe mi pc ls st h = oe mi (pc + 1) ls (.int (iI k) :: st) h := oe_eq hd
theorem oq_bipush {k : Int} (hk : (Int8.ofInt k).toInt32 = iI k) (hd : decode (mt_c mi) pc = .ok (.bipush k, 2)) : oe mi pc ls st h = oe mi (pc + 2) ls (.int (iI k) :: st) h := by
  rw [oe_eq hd, ← hk]; rfl
theorem oq_sipush {k : Int} (hk : (Int16.ofInt k).toInt32 = iI k) (hd : decode (mt_c mi) pc = .ok (.sipush k, 3)) : oe mi pc ls st h = oe mi (pc + 3) ls (.int (iI k) :: st) h := by
  rw [oe_eq hd, ← hk]; rfl
theorem oq_iload_n {k : Fin 4} {x : Int32} (hd : decode (mt_c mi) pc = .ok (.iload_n k, 1)) (hx : ls[k.val]? = some (.int x)) : oe mi pc ls st h = oe mi (pc + 1) ls (.int x :: st) h := by
  rw [oe_eq hd]
  show ox_g true (ox_I ls[k.val]? _) = _
  rw [hx]; rfl
theorem oq_iload {k : Nat} {x : Int32} (hd : decode (mt_c mi) pc = .ok (.iload k, 2)) (hx : ls[k]? = some (.int x)) : oe mi pc ls st h = oe mi (pc + 2) ls (.int x :: st) h := by
  rw [oe_eq hd]
  show ox_g true (ox_I ls[k]? _) = _
  rw [hx]; rfl
theorem oq_aload_n {k : Fin 4} {x : Nat} (hd : decode (mt_c mi) pc = .ok (.aload_n k, 1)) (hx : ls[k.val]? = some (.ref x)) : oe mi pc ls st h = oe mi (pc + 1) ls (.ref x :: st) h := by
  rw [oe_eq hd]
  show ox_g true (ox_A ls[k.val]? _) = _
  rw [hx]; rfl
theorem oq_aload {k : Nat} {x : Nat} (hd : decode (mt_c mi) pc = .ok (.aload k, 2)) (hx : ls[k]? = some (.ref x)) : oe mi pc ls st h = oe mi (pc + 2) ls (.ref x :: st) h := by
  rw [oe_eq hd]
  show ox_g true (ox_A ls[k]? _) = _
  rw [hx]; rfl
theorem oq_istore_n {k : Fin 4} {x : Int32} {ls' : List Value} (hd : decode (mt_c mi) pc = .ok (.istore_n k, 1)) (hk : k.val < ls.length) (hl : ls.set k.val (.int x) = ls') : oe mi pc ls (.int x :: st) h = oe mi (pc + 1) ls' st h := by
  rw [oe_eq hd, ← hl]
  show ox_g (true && decide (k.val < ls.length)) _ = _
  rw [decide_eq_true hk]; rfl
theorem oq_istore {k : Nat} {x : Int32} {ls' : List Value} (hd : decode (mt_c mi) pc = .ok (.istore k, 2)) (hk : k < ls.length) (hl : ls.set k (.int x) = ls') : oe mi pc ls (.int x :: st) h = oe mi (pc + 2) ls' st h := by
  rw [oe_eq hd, ← hl]
  show ox_g (true && decide (k < ls.length)) _ = _
  rw [decide_eq_true hk]; rfl
theorem oq_astore_n {k : Fin 4} {x : Nat} {ls' : List Value} (hd : decode (mt_c mi) pc = .ok (.astore_n k, 1)) (hk : k.val < ls.length) (hl : ls.set k.val (.ref x) = ls') : oe mi pc ls (.ref x :: st) h = oe mi (pc + 1) ls' st h := by
  rw [oe_eq hd, ← hl]
  show ox_g (true && decide (k.val < ls.length)) _ = _
  rw [decide_eq_true hk]; rfl
theorem oq_iinc {k : Nat} {d : Int} {x : Int32} {ls' : List Value} (hd : decode (mt_c mi) pc = .ok (.iinc k d, 3)) (hx : ls[k]? = some (.int x)) (hl : ls.set k (.int (x + iI d)) = ls') : oe mi pc ls st h = oe mi (pc + 3) ls' st h := by
  rw [oe_eq hd, ← hl]
  show ox_g true (ox_I ls[k]? _) = _
  rw [hx]; rfl
theorem oq_iadd {x y : Int32} (hd : decode (mt_c mi) pc = .ok (.iadd, 1)) : oe mi pc ls (.int y :: .int x :: st) h = oe mi (pc + 1) ls (.int (x + y) :: st) h := oe_eq hd
theorem oq_isub {x y : Int32} (hd : decode (mt_c mi) pc = .ok (.isub, 1)) : oe mi pc ls (.int y :: .int x :: st) h = oe mi (pc + 1) ls (.int (x - y) :: st) h := oe_eq hd
theorem oq_imul {x y : Int32} (hd : decode (mt_c mi) pc = .ok (.imul, 1)) : oe mi pc ls (.int y :: .int x :: st) h = oe mi (pc + 1) ls (.int (x * y) :: st) h := oe_eq hd
theorem oq_iand {x y : Int32} (hd : decode (mt_c mi) pc = .ok (.iand, 1)) : oe mi pc ls (.int y :: .int x :: st) h = oe mi (pc + 1) ls (.int (x &&& y) :: st) h := oe_eq hd
theorem oq_ior {x y : Int32} (hd : decode (mt_c mi) pc = .ok (.ior, 1)) : oe mi pc ls (.int y :: .int x :: st) h = oe mi (pc + 1) ls (.int (x ||| y) :: st) h := oe_eq hd
theorem oq_ishl {x y : Int32} (hd : decode (mt_c mi) pc = .ok (.ishl, 1)) : oe mi pc ls (.int y :: .int x :: st) h = oe mi (pc + 1) ls (.int (x <<< (y &&& 31)) :: st) h := oe_eq hd
theorem oq_ishr {x y : Int32} (hd : decode (mt_c mi) pc = .ok (.ishr, 1)) : oe mi pc ls (.int y :: .int x :: st) h = oe mi (pc + 1) ls (.int (x >>> (y &&& 31)) :: st) h := oe_eq hd
theorem oq_idiv {x y : Int32} (hd : decode (mt_c mi) pc = .ok (.idiv, 1)) : oe mi pc ls (.int y :: .int x :: st) h = ox_g (!(y == 0)) (oe mi (pc + 1) ls (.int (x / y) :: st) h) := oe_eq hd
theorem oq_irem {x y : Int32} (hd : decode (mt_c mi) pc = .ok (.irem, 1)) : oe mi pc ls (.int y :: .int x :: st) h = ox_g (!(y == 0)) (oe mi (pc + 1) ls (.int (x - x / y * y) :: st) h) := oe_eq hd
theorem oq_dupI {x : Int32} (hd : decode (mt_c mi) pc = .ok (.dup, 1)) : oe mi pc ls (.int x :: st) h = oe mi (pc + 1) ls (.int x :: .int x :: st) h := oe_eq hd
theorem oq_dupA {x : Nat} (hd : decode (mt_c mi) pc = .ok (.dup, 1)) : oe mi pc ls (.ref x :: st) h = oe mi (pc + 1) ls (.ref x :: .ref x :: st) h := oe_eq hd
theorem oq_dup2 {x : Int32} {a : Nat} (hd : decode (mt_c mi) pc = .ok (.dup2, 1)) : oe mi pc ls (.int x :: .ref a :: st) h = oe mi (pc + 1) ls (.int x :: .ref a :: .int x :: .ref a :: st) h := oe_eq hd
theorem oq_jmp {off : Int} {t : Nat} {f : Nat → Option ox_R} (ht : (pc : Int) + off = (t : Int)) : ox_jmp pc off f = f t := by
  unfold ox_jmp
  rw [ht, if_pos (Int.natCast_nonneg t)]
  rfl
theorem oq_goto {off : Int} {t : Nat} (hd : decode (mt_c mi) pc = .ok (.goto off, 3)) (ht : (pc : Int) + off = (t : Int)) : oe mi pc ls st h = oe mi t ls st h := by
  rw [oe_eq hd]
  exact oq_jmp (f := fun t => oe mi t ls st h) ht
theorem oq_if {c : ClassFile.Cond} {off : Int} {t : Nat} {x : Int32} (hd : decode (mt_c mi) pc = .ok (.ifCond c off, 3)) (ht : (pc : Int) + off = (t : Int)) : oe mi pc ls (.int x :: st) h = if ox_cb c x (iI 0) = true then oe mi t ls st h else oe mi (pc + 3) ls st h := by
  rw [oe_eq hd]
  exact oq_jmp (f := fun t => ox_pI (.int x :: st) fun x st => if ox_cb c x 0 then oe mi t ls st h else oe mi (pc + 3) ls st h) ht
theorem oq_icmp {c : ClassFile.Cond} {off : Int} {t : Nat} {x y : Int32} (hd : decode (mt_c mi) pc = .ok (.if_icmp c off, 3)) (ht : (pc : Int) + off = (t : Int)) : oe mi pc ls (.int y :: .int x :: st) h = if ox_cb c x y = true then oe mi t ls st h else oe mi (pc + 3) ls st h := by
  rw [oe_eq hd]
  exact oq_jmp (f := fun t => ox_p2 (.int y :: .int x :: st) fun x y st => if ox_cb c x y then oe mi t ls st h else oe mi (pc + 3) ls st h) ht
theorem oc_eqT {x y : Int32} {A B : Option ox_R} : (if ox_cb .eq x y = true then A else B) = if x = y then A else B := by simp only [ox_cb, decide_eq_true_eq]
theorem oc_neT {x y : Int32} {A B : Option ox_R} : (if ox_cb .ne x y = true then A else B) = if x = y then B else A := by
  simp only [ox_cb, decide_eq_true_eq]
  by_cases q : x = y <;> simp [q]
theorem oc_ltT {x y : Int32} {A B : Option ox_R} : (if ox_cb .lt x y = true then A else B) = if x < y then A else B := by simp only [ox_cb, decide_eq_true_eq]
theorem oc_geT {x y : Int32} {A B : Option ox_R} : (if ox_cb .ge x y = true then A else B) = if x < y then B else A := by
  simp only [ox_cb, decide_eq_true_eq]
  by_cases q : x < y
  · rw [if_pos q, if_neg (Int32.not_le.mpr q)]
  · rw [if_neg q, if_pos (Int32.not_lt.mp q)]
theorem oc_gtT {x y : Int32} {A B : Option ox_R} : (if ox_cb .gt x y = true then A else B) = if y < x then A else B := by simp only [ox_cb, decide_eq_true_eq]
theorem oc_leT {x y : Int32} {A B : Option ox_R} : (if ox_cb .le x y = true then A else B) = if y < x then B else A := by
  simp only [ox_cb, decide_eq_true_eq]
  by_cases q : y < x
  · rw [if_pos q, if_neg (Int32.not_le.mpr q)]
  · rw [if_neg q, if_pos (Int32.not_lt.mp q)]
theorem oq_tabI {d lo hi o : Int} {offs : Array Int} {n t : Nat} {x : Int32} (hd : decode (mt_c mi) pc = .ok (.tableswitch d lo hi offs, n)) (hx : ¬ (x.toInt < lo ∨ hi < x.toInt)) (ho : offs[(x.toInt - lo).toNat]? = some o) (ht : (pc : Int) + o = (t : Int)) : oe mi pc ls (.int x :: st) h = oe mi t ls st h := by
  rw [oe_eq hd]
  show (if x.toInt < lo ∨ hi < x.toInt then _ else ox_O offs[(x.toInt - lo).toNat]? _) = _
  rw [if_neg hx, ho]
  exact oq_jmp (f := fun t => oe mi t ls st h) ht
theorem oq_tabO {d lo hi : Int} {offs : Array Int} {n t : Nat} {x : Int32} (hd : decode (mt_c mi) pc = .ok (.tableswitch d lo hi offs, n)) (ht : (pc : Int) + d = (t : Int)) (hx : x.toInt < lo ∨ hi < x.toInt) : oe mi pc ls (.int x :: st) h = oe mi t ls st h := by
  rw [oe_eq hd]
  show (if x.toInt < lo ∨ hi < x.toInt then _ else _) = _
  rw [if_pos hx]
  exact oq_jmp (f := fun t => oe mi t ls st h) ht
theorem oq_look {d : Int} {ps : Array (Int × Int)} {n t : Nat} {x : Int32} (hd : decode (mt_c mi) pc = .ok (.lookupswitch d ps, n)) (hp : (ps.toList.zip (ps.toList.drop 1)).all (fun (a, next) => a.1 < next.1) = true) (ht : (pc : Int) + Op.lookupswitch.offset ps.toList d x.toInt = (t : Int)) : oe mi pc ls (.int x :: st) h = oe mi t ls st h := by
  rw [oe_eq hd]
  show ox_g ((ps.toList.zip (ps.toList.drop 1)).all (fun (a, next) => a.1 < next.1)) _ = _
  rw [hp]
  exact oq_jmp (f := fun t => oe mi t ls st h) ht
theorem oq_getf {i a ci k : Nat} (hd : decode (mt_c mi) pc = .ok (.getfield i, 3)) (hr : rs_F (mt_k mi) i = some (ci, k)) : oe mi pc ls (.ref a :: st) h = ox_O (ox_fld h a ci k) fun v => oe mi (pc + 3) ls (v :: st) h := by
  rw [oe_eq hd]
  show ox_g true (ox_O (rs_F (mt_k mi) i) _) = _
  rw [hr]; rfl
theorem oq_putf {i a ci k : Nat} {v : Value} (hd : decode (mt_c mi) pc = .ok (.putfield i, 3)) (hr : rs_F (mt_k mi) i = some (ci, k)) (hv : (ox_okv ci k v && ox_fin mi ci k) = true) : oe mi pc ls (v :: .ref a :: st) h = ox_O (ox_obj h a ci) fun fs => ox_g (decide (k < fs.length)) (oe mi (pc + 3) ls st (h.set a (.inr (ci, fs.set k v)))) := by
  rw [oe_eq hd]
  show ox_g true (ox_O (rs_F (mt_k mi) i) _) = _
  rw [hr]
  show ox_g (ox_okv ci k v && ox_fin mi ci k) _ = _
  rw [hv]; rfl
theorem oq_gets {i k : Nat} (hd : decode (mt_c mi) pc = .ok (.getstatic i, 3)) (hr : rs_S (mt_k mi) i = some k) : oe mi pc ls st h = oe mi (pc + 3) ls (.ref k :: st) h := by
  rw [oe_eq hd]
  show ox_g true (ox_O (rs_S (mt_k mi) i) _) = _
  rw [hr]; rfl
theorem oq_iald {i : Int32} {a : Nat} (hd : decode (mt_c mi) pc = .ok (.iaload, 1)) : oe mi pc ls (.int i :: .ref a :: st) h = ox_O (ox_ints h a ox_isI) fun l => ox_O (ox_at l i) fun x => oe mi (pc + 1) ls (.int x :: st) h := oe_eq hd
theorem oq_bald {i : Int32} {a : Nat} (hd : decode (mt_c mi) pc = .ok (.baload, 1)) : oe mi pc ls (.int i :: .ref a :: st) h = ox_O (ox_ints h a ox_isZ) fun l => ox_O (ox_at l i) fun x => oe mi (pc + 1) ls (.int x :: st) h := oe_eq hd
theorem oq_cald {i : Int32} {a : Nat} (hd : decode (mt_c mi) pc = .ok (.caload, 1)) (ha : a < 4) : oe mi pc ls (.int i :: .ref a :: st) h = ox_O (ox_ints h a ox_isC) fun l => ox_O (ox_at l i) fun x => oe mi (pc + 1) ls (.int x :: st) h := by
  rw [oe_eq hd]
  show ox_O (if a < 4 then ox_ints h a ox_isC else none) _ = _
  rw [if_pos ha]
theorem oq_aald {i : Int32} {a : Nat} (hd : decode (mt_c mi) pc = .ok (.aaload, 1)) : oe mi pc ls (.int i :: .ref a :: st) h = ox_O (ox_obj h a 4) fun l => ox_A (ox_at l i) fun x => oe mi (pc + 1) ls (.ref x :: st) h := oe_eq hd
theorem oq_iast {i x : Int32} {a : Nat} (hd : decode (mt_c mi) pc = .ok (.iastore, 1)) : oe mi pc ls (.int x :: .int i :: .ref a :: st) h = ox_O (ox_ints h a ox_is0) fun l => ox_O (ox_at l i) fun _ => oe mi (pc + 1) ls st (h.set a (.inl (0, l.set i.toNatClampNeg x))) := oe_eq hd
theorem oq_bast {i x : Int32} {a : Nat} (hd : decode (mt_c mi) pc = .ok (.bastore, 1)) : oe mi pc ls (.int x :: .int i :: .ref a :: st) h = ox_g (x == 0 || x == 1) (ox_O (ox_ints h a ox_isZ) fun l => ox_O (ox_at l i) fun _ => oe mi (pc + 1) ls st (h.set a (.inl (1, l.set i.toNatClampNeg x)))) := oe_eq hd
theorem oq_aast {i : Int32} {a x : Nat} (hd : decode (mt_c mi) pc = .ok (.aastore, 1)) : oe mi pc ls (.ref x :: .int i :: .ref a :: st) h = ox_g (ox_obj h x 1).isSome (ox_O (ox_obj h a 4) fun l => ox_O (ox_at l i) fun _ => oe mi (pc + 1) ls st (h.set a (.inr (4, l.set i.toNatClampNeg (.ref x))))) := oe_eq hd
theorem oq_alen {a : Nat} (hd : decode (mt_c mi) pc = .ok (.arraylength, 1)) : oe mi pc ls (.ref a :: st) h = ox_O (ox_len h a) fun k => oe mi (pc + 1) ls (.int (Int32.ofNat k) :: st) h := oe_eq hd
theorem oq_newI {k : Int32} (hd : decode (mt_c mi) pc = .ok (.newarray .int, 2)) : oe mi pc ls (.int k :: st) h = ox_g (decide (0 ≤ k) && decide (k.toNatClampNeg ≤ 100000)) (oe mi (pc + 2) ls (.ref h.length :: st) (h ++ [.inl (0, List.replicate k.toNatClampNeg 0)])) := oe_eq hd
theorem oq_newZ {k : Int32} (hd : decode (mt_c mi) pc = .ok (.newarray .boolean, 2)) : oe mi pc ls (.int k :: st) h = ox_g (decide (0 ≤ k) && decide (k.toNatClampNeg ≤ 100000)) (oe mi (pc + 2) ls (.ref h.length :: st) (h ++ [.inl (1, List.replicate k.toNatClampNeg 0)])) := oe_eq hd
theorem oq_newq {k : Int32} {i : Nat} (hd : decode (mt_c mi) pc = .ok (.anewarray i, 3)) (hr : rs_K (mt_k mi) i = some 1) : oe mi pc ls (.int k :: st) h = ox_g (decide (0 ≤ k) && decide (k.toNatClampNeg ≤ 100000)) (oe mi (pc + 3) ls (.ref h.length :: st) (h ++ [.inr (4, List.replicate k.toNatClampNeg .null)])) := by
  rw [oe_eq hd]
  show ox_g true (ox_O (rs_K (mt_k mi) i) _) = _
  rw [hr]; rfl
theorem oq_new {i c : Nat} (hd : decode (mt_c mi) pc = .ok (.new i, 3)) (hr : rs_K (mt_k mi) i = some c) : oe mi pc ls st h = oe mi (pc + 3) ls (.ref h.length :: st) (h ++ [.inr (c, ox_dfl c)]) := by
  rw [oe_eq hd]
  show ox_g true (ox_O (rs_K (mt_k mi) i) _) = _
  rw [hr]; rfl
theorem oq_obj {i a : Nat} (hd : decode (mt_c mi) pc = .ok (.invokespecial i, 3)) (hr : rs_M (mt_k mi) i = some 1000) (hc : (decide (1 ≤ mt_r mi) && decide (st.length ≤ 8) && st.all (fun v => v.category == 1)) = true) : oe mi pc ls (.ref a :: st) h = oe mi (pc + 3) ls st h := by
  rw [oe_eq hd]
  show ox_g true (ox_O (rs_M (mt_k mi) i) _) = _
  rw [hr]
  show ox_g (decide (1 ≤ mt_r mi) && decide (st.length ≤ 8) && st.all (fun v => v.category == 1)) _ = _
  rw [hc]; rfl
theorem oq_max {i : Nat} {x y : Int32} (hd : decode (mt_c mi) pc = .ok (.invokestatic i, 3)) (hr : rs_M (mt_k mi) i = some 1001) (hc : (decide (1 ≤ mt_r mi) && decide (st.length ≤ 8) && st.all (fun v => v.category == 1)) = true) : oe mi pc ls (.int y :: .int x :: st) h = oe mi (pc + 3) ls (.int (if x < y then y else x) :: st) h := by
  rw [oe_eq hd]
  show ox_g true (ox_O (rs_M (mt_k mi) i) _) = _
  rw [hr]
  show ox_g (decide (1 ≤ mt_r mi) && decide (st.length ≤ 8) && st.all (fun v => v.category == 1)) _ = _
  rw [hc]; rfl
theorem oq_min {i : Nat} {x y : Int32} (hd : decode (mt_c mi) pc = .ok (.invokestatic i, 3)) (hr : rs_M (mt_k mi) i = some 1002) (hc : (decide (1 ≤ mt_r mi) && decide (st.length ≤ 8) && st.all (fun v => v.category == 1)) = true) : oe mi pc ls (.int y :: .int x :: st) h = oe mi (pc + 3) ls (.int (if y < x then y else x) :: st) h := by
  rw [oe_eq hd]
  show ox_g true (ox_O (rs_M (mt_k mi) i) _) = _
  rw [hr]
  show ox_g (decide (1 ≤ mt_r mi) && decide (st.length ≤ 8) && st.all (fun v => v.category == 1)) _ = _
  rw [hc]; rfl
theorem oq_copy {i a b : Nat} {k : Int32} (hd : decode (mt_c mi) pc = .ok (.invokestatic i, 3)) (hr : rs_M (mt_k mi) i = some 1003) (hc : (decide (1 ≤ mt_r mi) && decide (st.length ≤ 8) && st.all (fun v => v.category == 1)) = true) (hk : 0 ≤ k) : oe mi pc ls (.int k :: .int (iI 0) :: .ref b :: .int (iI 0) :: .ref a :: st) h = ox_O (ox_ints h a ox_is0) fun l => ox_O (ox_ints h b ox_is0) fun l' => ox_g (decide (k.toNatClampNeg ≤ l.length) && decide (k.toNatClampNeg ≤ l'.length)) (oe mi (pc + 3) ls st (h.set b (.inl (0, l.take k.toNatClampNeg ++ l'.drop k.toNatClampNeg)))) := by
  rw [oe_eq hd]
  show ox_g true (ox_O (rs_M (mt_k mi) i) _) = _
  rw [hr]
  show ox_g (decide (1 ≤ mt_r mi) && decide (st.length ≤ 8) && st.all (fun v => v.category == 1) && (decide (0 ≤ k) && iI 0 == 0 && iI 0 == 0)) _ = _
  rw [hc, decide_eq_true hk]; rfl
/-- a call -/
theorem oq_cal {j : Nat} {As rest : List Value} {K : Option Value → List Value → ox_H → Option ox_R} (ha : As.length = mt_a j) (hst : st = As.reverse ++ rest) (hrk : mt_r j < mt_r mi) (h8 : rest.length ≤ 8) (hc : st.all (fun v => v.category == 1) = true) {ls' : List Value} (hl : As ++ List.replicate (mt_n j - mt_a j) .null = ls') : ox_call oe mi j st h K = ox_B (oe j 0 ls' [] h) fun v h' => K v rest h' := by
  have e1 : st.take (mt_a j) = As.reverse := by rw [hst, ← ha, ← List.length_reverse, List.take_left]
  have e2 : st.drop (mt_a j) = rest := by rw [hst, ← ha, ← List.length_reverse, List.drop_left]
  unfold ox_call
  rw [if_pos ⟨hrk, by rw [hst, List.length_append, List.length_reverse]; omega, by rw [e2]; exact h8, hc⟩, e1, e2, List.reverse_reverse, hl]
theorem oq_rcv {j o : Nat} {As rest : List Value} (ha : As.length + 1 = mt_a j) (hst : st = As.reverse ++ .ref o :: rest) : ox_rcv h j st = (ox_obj h o (mt_k j)).isSome := by
  have e1 : st.take (mt_a j) = As.reverse ++ [.ref o] := by
    rw [hst, ← ha, ← List.length_reverse, show As.reverse ++ Value.ref o :: rest = (As.reverse ++ [.ref o]) ++ rest by simp]
    exact List.take_left' (by simp)
  unfold ox_rcv
  rw [e1, List.getLast?_append]
  rfl
theorem oq_virt {i j o : Nat} {As rest ls' : List Value} (hd : decode (mt_c mi) pc = .ok (.invokevirtual i, 3)) (hr : rs_M (mt_k mi) i = some j) (hs : (mt_s j == 0 && decide (j < 154)) = true) (hst : st = As.reverse ++ .ref o :: rest) (ha : As.length + 1 = mt_a j) (hrk : mt_r j < mt_r mi) (h8 : rest.length ≤ 8) (hc : st.all (fun v => v.category == 1) = true) (hl : (.ref o :: As) ++ List.replicate (mt_n j - mt_a j) .null = ls') :
    oe mi pc ls st h = ox_g (ox_obj h o (mt_k j)).isSome (ox_B (oe j 0 ls' [] h) fun v h' => oe mi (pc + 3) ls (ox_push v rest) h') := by
  rw [oe_eq hd]
  show ox_g true (ox_O (rs_M (mt_k mi) i) _) = _
  rw [hr]
  show ox_g (mt_s j == 0 && decide (j < 154) && ox_rcv h j st) (ox_call oe mi j st h _) = _
  rw [hs, oq_rcv ha hst, oq_cal (As := .ref o :: As) (rest := rest) (by simpa using ha) (by rw [hst]; simp) hrk h8 hc hl]
  rfl
theorem oq_spec {i j o : Nat} {As rest ls' : List Value} (hd : decode (mt_c mi) pc = .ok (.invokespecial i, 3)) (hr : rs_M (mt_k mi) i = some j) (hs : (mt_s j == 2 && decide (j < 154)) = true) (hst : st = As.reverse ++ .ref o :: rest) (ha : As.length + 1 = mt_a j) (hrk : mt_r j < mt_r mi) (h8 : rest.length ≤ 8) (hc : st.all (fun v => v.category == 1) = true) (hl : (.ref o :: As) ++ List.replicate (mt_n j - mt_a j) .null = ls') :
    oe mi pc ls st h = ox_g (ox_obj h o (mt_k j)).isSome (ox_B (oe j 0 ls' [] h) fun v h' => oe mi (pc + 3) ls (ox_push v rest) h') := by
  have hj : j < 154 := by
    rw [Bool.and_eq_true] at hs
    exact of_decide_eq_true hs.2
  rw [oe_eq hd]
  show ox_g true (ox_O (rs_M (mt_k mi) i) _) = _
  rw [hr]
  show (if j = 1000 then _ else ox_g (mt_s j == 2 && decide (j < 154) && ox_rcv h j st) (ox_call oe mi j st h _)) = _
  rw [if_neg (by omega), hs, oq_rcv ha hst, oq_cal (As := .ref o :: As) (rest := rest) (by simpa using ha) (by rw [hst]; simp) hrk h8 hc hl]
  rfl
theorem oq_stat {i j : Nat} {As rest ls' : List Value} (hd : decode (mt_c mi) pc = .ok (.invokestatic i, 3)) (hr : rs_M (mt_k mi) i = some j) (hs : (mt_s j == 1 && decide (j < 154)) = true) (hst : st = As.reverse ++ rest) (ha : As.length = mt_a j) (hrk : mt_r j < mt_r mi) (h8 : rest.length ≤ 8) (hc : st.all (fun v => v.category == 1) = true) (hl : As ++ List.replicate (mt_n j - mt_a j) .null = ls') :
    oe mi pc ls st h = ox_B (oe j 0 ls' [] h) fun v h' => oe mi (pc + 3) ls (ox_push v rest) h' := by
  have hj : j < 154 := by
    rw [Bool.and_eq_true] at hs
    exact of_decide_eq_true hs.2
  rw [oe_eq hd]
  show ox_g true (ox_O (rs_M (mt_k mi) i) _) = _
  rw [hr]
  show (if j = 1001 then _ else if j = 1002 then _ else if j = 1003 then _ else ox_g (mt_s j == 1 && decide (j < 154)) (ox_call oe mi j st h _)) = _
  rw [if_neg (by omega), if_neg (by omega), if_neg (by omega), hs, oq_cal (As := As) (rest := rest) ha hst hrk h8 hc hl]
  rfl
theorem oq_iret {x : Int32} (hd : decode (mt_c mi) pc = .ok (.ireturn, 1)) (ht : mt_t mi = 1) : oe mi pc ls [.int x] h = some (some (.int x), h) := by
  rw [oe_eq hd]
  show ox_g (mt_t mi == 1 || (mt_t mi == 2 && (x == 0 || x == 1))) _ = _
  rw [ht]; rfl
theorem oq_zret {x : Int32} (hd : decode (mt_c mi) pc = .ok (.ireturn, 1)) (ht : mt_t mi = 2) : oe mi pc ls [.int x] h = ox_g (x == iI 0 || x == iI 1) (some (some (.int x), h)) := by
  rw [oe_eq hd]
  show ox_g (mt_t mi == 1 || (mt_t mi == 2 && (x == 0 || x == 1))) _ = _
  rw [ht]; rfl
theorem oq_ret (hd : decode (mt_c mi) pc = .ok (.return_, 1)) (ht : mt_t mi = 0) : oe mi pc ls [] h = some (none, h) := by
  rw [oe_eq hd]
  show ox_g (true && mt_t mi == 0) _ = _
  rw [ht]; rfl
end
end
