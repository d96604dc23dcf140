section
-- ===== PART A: goes FIRST, ahead of the names: the tables' words, and 'selects' of the private methods out of them =====
/-- a private method of a class that the tables say can be made, by its rows of tables_1 -/
def lw_okq (q : MethodName × Nat) : Prop := (q.1.cls ≠ "java/lang/invoke/MethodHandle" ∧ q.1.cls ≠ "java/lang/invoke/VarHandle") ∧ Cond.instantiable q.1.cls q.2 ∈ tables_1 ∧ Cond.privateMethod q.1 ∈ tables_1 ∧ Cond.instanceMethod q.1 ∈ tables_1
theorem lw_p0 : lw_okq (⟨"LoopStrands$Texts", "findCodes", "([I)I"⟩, 7) := ⟨⟨by decide +kernel, by decide +kernel⟩, List.mem_of_getElem? (i := 45) (by decide +kernel), List.mem_of_getElem? (i := 51) (by decide +kernel), List.mem_of_getElem? (i := 52) (by decide +kernel)⟩
theorem lw_p1 : lw_okq (⟨"LoopStrands$Texts", "readCode", "(I[I)Z"⟩, 7) := ⟨⟨by decide +kernel, by decide +kernel⟩, List.mem_of_getElem? (i := 45) (by decide +kernel), List.mem_of_getElem? (i := 55) (by decide +kernel), List.mem_of_getElem? (i := 56) (by decide +kernel)⟩
theorem lw_p2 : lw_okq (⟨"LoopStrands$Diagrams", "findHook", "(I)I"⟩, 12) := ⟨⟨by decide +kernel, by decide +kernel⟩, List.mem_of_getElem? (i := 39) (by decide +kernel), List.mem_of_getElem? (i := 113) (by decide +kernel), List.mem_of_getElem? (i := 114) (by decide +kernel)⟩
theorem lw_p3 : lw_okq (⟨"LoopStrands$Diagrams", "opposite", "(I)I"⟩, 12) := ⟨⟨by decide +kernel, by decide +kernel⟩, List.mem_of_getElem? (i := 39) (by decide +kernel), List.mem_of_getElem? (i := 117) (by decide +kernel), List.mem_of_getElem? (i := 118) (by decide +kernel)⟩
theorem lw_p4 : lw_okq (⟨"LoopStrands$Diagrams", "findWays", "()V"⟩, 12) := ⟨⟨by decide +kernel, by decide +kernel⟩, List.mem_of_getElem? (i := 39) (by decide +kernel), List.mem_of_getElem? (i := 130) (by decide +kernel), List.mem_of_getElem? (i := 131) (by decide +kernel)⟩
theorem lw_p5 : lw_okq (⟨"LoopStrands$Diagrams", "farEnd", "([I[II)I"⟩, 12) := ⟨⟨by decide +kernel, by decide +kernel⟩, List.mem_of_getElem? (i := 39) (by decide +kernel), List.mem_of_getElem? (i := 138) (by decide +kernel), List.mem_of_getElem? (i := 139) (by decide +kernel)⟩
theorem lw_p6 : lw_okq (⟨"LoopStrands$Diagrams", "loopsBetween", "([I[I)I"⟩, 12) := ⟨⟨by decide +kernel, by decide +kernel⟩, List.mem_of_getElem? (i := 39) (by decide +kernel), List.mem_of_getElem? (i := 142) (by decide +kernel), List.mem_of_getElem? (i := 143) (by decide +kernel)⟩
theorem lw_p7 : lw_okq (⟨"LoopStrands$Numbers", "leftOver", "(I)I"⟩, 3) := ⟨⟨by decide +kernel, by decide +kernel⟩, List.mem_of_getElem? (i := 203) (by decide +kernel), List.mem_of_getElem? (i := 231) (by decide +kernel), List.mem_of_getElem? (i := 232) (by decide +kernel)⟩
theorem lw_p8 : lw_okq (⟨"LoopStrands", "isDiagram", "(I)Z"⟩, 6) := ⟨⟨by decide +kernel, by decide +kernel⟩, List.mem_of_getElem? (i := 15) (by decide +kernel), List.mem_of_getElem? (i := 383) (by decide +kernel), List.mem_of_getElem? (i := 384) (by decide +kernel)⟩
theorem lw_p9 : lw_okq (⟨"LoopStrands", "isSlot", "(I)Z"⟩, 6) := ⟨⟨by decide +kernel, by decide +kernel⟩, List.mem_of_getElem? (i := 15) (by decide +kernel), List.mem_of_getElem? (i := 431) (by decide +kernel), List.mem_of_getElem? (i := 432) (by decide +kernel)⟩
theorem lw_p10 : lw_okq (⟨"LoopStrands", "isNumber", "(I)Z"⟩, 6) := ⟨⟨by decide +kernel, by decide +kernel⟩, List.mem_of_getElem? (i := 15) (by decide +kernel), List.mem_of_getElem? (i := 435) (by decide +kernel), List.mem_of_getElem? (i := 436) (by decide +kernel)⟩
theorem lw_p11 : lw_okq (⟨"LoopStrands", "hasHalves", "(I)Z"⟩, 6) := ⟨⟨by decide +kernel, by decide +kernel⟩, List.mem_of_getElem? (i := 15) (by decide +kernel), List.mem_of_getElem? (i := 540) (by decide +kernel), List.mem_of_getElem? (i := 541) (by decide +kernel)⟩
theorem lw_p12 : lw_okq (⟨"LoopStrands$Table", "findPivot", "(I)I"⟩, 4) := ⟨⟨by decide +kernel, by decide +kernel⟩, List.mem_of_getElem? (i := 268) (by decide +kernel), List.mem_of_getElem? (i := 561) (by decide +kernel), List.mem_of_getElem? (i := 562) (by decide +kernel)⟩
theorem lw_p13 : lw_okq (⟨"LoopStrands$Table", "swapRows", "(II)V"⟩, 4) := ⟨⟨by decide +kernel, by decide +kernel⟩, List.mem_of_getElem? (i := 268) (by decide +kernel), List.mem_of_getElem? (i := 565) (by decide +kernel), List.mem_of_getElem? (i := 566) (by decide +kernel)⟩
theorem lw_p14 : lw_okq (⟨"LoopStrands$Table", "clearBelow", "(LLoopStrands$Numbers;I)V"⟩, 4) := ⟨⟨by decide +kernel, by decide +kernel⟩, List.mem_of_getElem? (i := 268) (by decide +kernel), List.mem_of_getElem? (i := 571) (by decide +kernel), List.mem_of_getElem? (i := 572) (by decide +kernel)⟩
theorem lw_p15 : lw_okq (⟨"LoopStrandsModel", "layDiagrams", "()V"⟩, 27) := ⟨⟨by decide +kernel, by decide +kernel⟩, List.mem_of_getElem? (i := 598) (by decide +kernel), List.mem_of_getElem? (i := 604) (by decide +kernel), List.mem_of_getElem? (i := 605) (by decide +kernel)⟩
def lw_privs_1 : List (MethodName × Nat) := [(⟨"LoopStrands$Texts", "findCodes", "([I)I"⟩, 7), (⟨"LoopStrands$Texts", "readCode", "(I[I)Z"⟩, 7), (⟨"LoopStrands$Diagrams", "findHook", "(I)I"⟩, 12), (⟨"LoopStrands$Diagrams", "opposite", "(I)I"⟩, 12), (⟨"LoopStrands$Diagrams", "findWays", "()V"⟩, 12), (⟨"LoopStrands$Diagrams", "farEnd", "([I[II)I"⟩, 12), (⟨"LoopStrands$Diagrams", "loopsBetween", "([I[I)I"⟩, 12), (⟨"LoopStrands$Numbers", "leftOver", "(I)I"⟩, 3), (⟨"LoopStrands", "isDiagram", "(I)Z"⟩, 6), (⟨"LoopStrands", "isSlot", "(I)Z"⟩, 6), (⟨"LoopStrands", "isNumber", "(I)Z"⟩, 6), (⟨"LoopStrands", "hasHalves", "(I)Z"⟩, 6), (⟨"LoopStrands$Table", "findPivot", "(I)I"⟩, 4), (⟨"LoopStrands$Table", "swapRows", "(II)V"⟩, 4), (⟨"LoopStrands$Table", "clearBelow", "(LLoopStrands$Numbers;I)V"⟩, 4), (⟨"LoopStrandsModel", "layDiagrams", "()V"⟩, 27)]
theorem lw_r1 : ∀ q ∈ lw_privs_1, lw_okq q := List.forall_mem_cons.mpr ⟨lw_p0, List.forall_mem_cons.mpr ⟨lw_p1, List.forall_mem_cons.mpr ⟨lw_p2, List.forall_mem_cons.mpr ⟨lw_p3, List.forall_mem_cons.mpr ⟨lw_p4, List.forall_mem_cons.mpr ⟨lw_p5, List.forall_mem_cons.mpr ⟨lw_p6, List.forall_mem_cons.mpr ⟨lw_p7, List.forall_mem_cons.mpr ⟨lw_p8, List.forall_mem_cons.mpr ⟨lw_p9, List.forall_mem_cons.mpr ⟨lw_p10, List.forall_mem_cons.mpr ⟨lw_p11, List.forall_mem_cons.mpr ⟨lw_p12, List.forall_mem_cons.mpr ⟨lw_p13, List.forall_mem_cons.mpr ⟨lw_p14, List.forall_mem_cons.mpr ⟨lw_p15, fun _ h => absurd h List.not_mem_nil⟩⟩⟩⟩⟩⟩⟩⟩⟩⟩⟩⟩⟩⟩⟩⟩
theorem lw_p16 : lw_okq (⟨"LoopStrandsModel", "points", "()I"⟩, 27) := ⟨⟨by decide +kernel, by decide +kernel⟩, List.mem_of_getElem? (i := 598) (by decide +kernel), List.mem_of_getElem? (i := 608) (by decide +kernel), List.mem_of_getElem? (i := 609) (by decide +kernel)⟩
theorem lw_p17 : lw_okq (⟨"LoopStrandsModel", "layText", "(I)Z"⟩, 27) := ⟨⟨by decide +kernel, by decide +kernel⟩, List.mem_of_getElem? (i := 598) (by decide +kernel), List.mem_of_getElem? (i := 612) (by decide +kernel), List.mem_of_getElem? (i := 613) (by decide +kernel)⟩
theorem lw_p18 : lw_okq (⟨"LoopStrandsModel", "layProduct", "(II)V"⟩, 27) := ⟨⟨by decide +kernel, by decide +kernel⟩, List.mem_of_getElem? (i := 598) (by decide +kernel), List.mem_of_getElem? (i := 616) (by decide +kernel), List.mem_of_getElem? (i := 617) (by decide +kernel)⟩
theorem lw_p19 : lw_okq (⟨"LoopStrandsModel", "endFromAbove", "(III)I"⟩, 27) := ⟨⟨by decide +kernel, by decide +kernel⟩, List.mem_of_getElem? (i := 598) (by decide +kernel), List.mem_of_getElem? (i := 620) (by decide +kernel), List.mem_of_getElem? (i := 621) (by decide +kernel)⟩
theorem lw_p20 : lw_okq (⟨"LoopStrandsModel", "to", "(II)I"⟩, 27) := ⟨⟨by decide +kernel, by decide +kernel⟩, List.mem_of_getElem? (i := 598) (by decide +kernel), List.mem_of_getElem? (i := 624) (by decide +kernel), List.mem_of_getElem? (i := 625) (by decide +kernel)⟩
theorem lw_p21 : lw_okq (⟨"LoopStrandsModel", "across", "(I)I"⟩, 27) := ⟨⟨by decide +kernel, by decide +kernel⟩, List.mem_of_getElem? (i := 598) (by decide +kernel), List.mem_of_getElem? (i := 628) (by decide +kernel), List.mem_of_getElem? (i := 629) (by decide +kernel)⟩
theorem lw_p22 : lw_okq (⟨"LoopStrandsModel", "endFromBelow", "(III)I"⟩, 27) := ⟨⟨by decide +kernel, by decide +kernel⟩, List.mem_of_getElem? (i := 598) (by decide +kernel), List.mem_of_getElem? (i := 632) (by decide +kernel), List.mem_of_getElem? (i := 633) (by decide +kernel)⟩
theorem lw_p23 : lw_okq (⟨"LoopStrandsModel", "meetRound", "(III)V"⟩, 27) := ⟨⟨by decide +kernel, by decide +kernel⟩, List.mem_of_getElem? (i := 598) (by decide +kernel), List.mem_of_getElem? (i := 636) (by decide +kernel), List.mem_of_getElem? (i := 637) (by decide +kernel)⟩
theorem lw_p24 : lw_okq (⟨"LoopStrandsModel", "indexOfRow", "()I"⟩, 27) := ⟨⟨by decide +kernel, by decide +kernel⟩, List.mem_of_getElem? (i := 598) (by decide +kernel), List.mem_of_getElem? (i := 640) (by decide +kernel), List.mem_of_getElem? (i := 641) (by decide +kernel)⟩
theorem lw_p25 : lw_okq (⟨"LoopStrandsModel", "textOfRow", "()I"⟩, 27) := ⟨⟨by decide +kernel, by decide +kernel⟩, List.mem_of_getElem? (i := 598) (by decide +kernel), List.mem_of_getElem? (i := 644) (by decide +kernel), List.mem_of_getElem? (i := 645) (by decide +kernel)⟩
theorem lw_p26 : lw_okq (⟨"LoopStrandsModel", "clearSums", "()V"⟩, 27) := ⟨⟨by decide +kernel, by decide +kernel⟩, List.mem_of_getElem? (i := 598) (by decide +kernel), List.mem_of_getElem? (i := 738) (by decide +kernel), List.mem_of_getElem? (i := 739) (by decide +kernel)⟩
theorem lw_p27 : lw_okq (⟨"LoopStrandsModel", "diagramFault", "()I"⟩, 27) := ⟨⟨by decide +kernel, by decide +kernel⟩, List.mem_of_getElem? (i := 598) (by decide +kernel), List.mem_of_getElem? (i := 754) (by decide +kernel), List.mem_of_getElem? (i := 755) (by decide +kernel)⟩
theorem lw_p28 : lw_okq (⟨"LoopStrandsModel", "wordFault", "()I"⟩, 27) := ⟨⟨by decide +kernel, by decide +kernel⟩, List.mem_of_getElem? (i := 598) (by decide +kernel), List.mem_of_getElem? (i := 758) (by decide +kernel), List.mem_of_getElem? (i := 759) (by decide +kernel)⟩
theorem lw_p29 : lw_okq (⟨"LoopStrandsModel", "isHook", "(I)Z"⟩, 27) := ⟨⟨by decide +kernel, by decide +kernel⟩, List.mem_of_getElem? (i := 598) (by decide +kernel), List.mem_of_getElem? (i := 762) (by decide +kernel), List.mem_of_getElem? (i := 763) (by decide +kernel)⟩
theorem lw_p30 : lw_okq (⟨"LoopStrandsModel", "hook", "(I)I"⟩, 27) := ⟨⟨by decide +kernel, by decide +kernel⟩, List.mem_of_getElem? (i := 598) (by decide +kernel), List.mem_of_getElem? (i := 774) (by decide +kernel), List.mem_of_getElem? (i := 775) (by decide +kernel)⟩
theorem lw_p31 : lw_okq (⟨"LoopStrandsModel", "joinTwo", "(II)V"⟩, 27) := ⟨⟨by decide +kernel, by decide +kernel⟩, List.mem_of_getElem? (i := 598) (by decide +kernel), List.mem_of_getElem? (i := 778) (by decide +kernel), List.mem_of_getElem? (i := 779) (by decide +kernel)⟩
def lw_privs_2 : List (MethodName × Nat) := [(⟨"LoopStrandsModel", "points", "()I"⟩, 27), (⟨"LoopStrandsModel", "layText", "(I)Z"⟩, 27), (⟨"LoopStrandsModel", "layProduct", "(II)V"⟩, 27), (⟨"LoopStrandsModel", "endFromAbove", "(III)I"⟩, 27), (⟨"LoopStrandsModel", "to", "(II)I"⟩, 27), (⟨"LoopStrandsModel", "across", "(I)I"⟩, 27), (⟨"LoopStrandsModel", "endFromBelow", "(III)I"⟩, 27), (⟨"LoopStrandsModel", "meetRound", "(III)V"⟩, 27), (⟨"LoopStrandsModel", "indexOfRow", "()I"⟩, 27), (⟨"LoopStrandsModel", "textOfRow", "()I"⟩, 27), (⟨"LoopStrandsModel", "clearSums", "()V"⟩, 27), (⟨"LoopStrandsModel", "diagramFault", "()I"⟩, 27), (⟨"LoopStrandsModel", "wordFault", "()I"⟩, 27), (⟨"LoopStrandsModel", "isHook", "(I)Z"⟩, 27), (⟨"LoopStrandsModel", "hook", "(I)I"⟩, 27), (⟨"LoopStrandsModel", "joinTwo", "(II)V"⟩, 27)]
theorem lw_r2 : ∀ q ∈ lw_privs_2, lw_okq q := List.forall_mem_cons.mpr ⟨lw_p16, List.forall_mem_cons.mpr ⟨lw_p17, List.forall_mem_cons.mpr ⟨lw_p18, List.forall_mem_cons.mpr ⟨lw_p19, List.forall_mem_cons.mpr ⟨lw_p20, List.forall_mem_cons.mpr ⟨lw_p21, List.forall_mem_cons.mpr ⟨lw_p22, List.forall_mem_cons.mpr ⟨lw_p23, List.forall_mem_cons.mpr ⟨lw_p24, List.forall_mem_cons.mpr ⟨lw_p25, List.forall_mem_cons.mpr ⟨lw_p26, List.forall_mem_cons.mpr ⟨lw_p27, List.forall_mem_cons.mpr ⟨lw_p28, List.forall_mem_cons.mpr ⟨lw_p29, List.forall_mem_cons.mpr ⟨lw_p30, List.forall_mem_cons.mpr ⟨lw_p31, fun _ h => absurd h List.not_mem_nil⟩⟩⟩⟩⟩⟩⟩⟩⟩⟩⟩⟩⟩⟩⟩⟩
theorem lw_p32 : lw_okq (⟨"LoopStrandsModel", "isDiagram", "(I)Z"⟩, 27) := ⟨⟨by decide +kernel, by decide +kernel⟩, List.mem_of_getElem? (i := 598) (by decide +kernel), List.mem_of_getElem? (i := 786) (by decide +kernel), List.mem_of_getElem? (i := 787) (by decide +kernel)⟩
theorem lw_p33 : lw_okq (⟨"LoopStrandsModel", "through", "(I)I"⟩, 27) := ⟨⟨by decide +kernel, by decide +kernel⟩, List.mem_of_getElem? (i := 598) (by decide +kernel), List.mem_of_getElem? (i := 790) (by decide +kernel), List.mem_of_getElem? (i := 791) (by decide +kernel)⟩
theorem lw_p34 : lw_okq (⟨"LoopStrandsModel", "closedLoops", "(I)I"⟩, 27) := ⟨⟨by decide +kernel, by decide +kernel⟩, List.mem_of_getElem? (i := 598) (by decide +kernel), List.mem_of_getElem? (i := 794) (by decide +kernel), List.mem_of_getElem? (i := 795) (by decide +kernel)⟩
theorem lw_p35 : lw_okq (⟨"LoopStrandsModel", "turnedOf", "(I)I"⟩, 27) := ⟨⟨by decide +kernel, by decide +kernel⟩, List.mem_of_getElem? (i := 598) (by decide +kernel), List.mem_of_getElem? (i := 798) (by decide +kernel), List.mem_of_getElem? (i := 799) (by decide +kernel)⟩
theorem lw_p36 : lw_okq (⟨"LoopStrandsModel", "layWays", "()V"⟩, 27) := ⟨⟨by decide +kernel, by decide +kernel⟩, List.mem_of_getElem? (i := 598) (by decide +kernel), List.mem_of_getElem? (i := 802) (by decide +kernel), List.mem_of_getElem? (i := 803) (by decide +kernel)⟩
theorem lw_p37 : lw_okq (⟨"LoopStrandsModel", "isNumber", "(I)Z"⟩, 27) := ⟨⟨by decide +kernel, by decide +kernel⟩, List.mem_of_getElem? (i := 598) (by decide +kernel), List.mem_of_getElem? (i := 832) (by decide +kernel), List.mem_of_getElem? (i := 833) (by decide +kernel)⟩
theorem lw_p38 : lw_okq (⟨"LoopStrandsModel", "place", "(II)I"⟩, 27) := ⟨⟨by decide +kernel, by decide +kernel⟩, List.mem_of_getElem? (i := 598) (by decide +kernel), List.mem_of_getElem? (i := 836) (by decide +kernel), List.mem_of_getElem? (i := 837) (by decide +kernel)⟩
theorem lw_p39 : lw_okq (⟨"LoopStrandsModel", "by", "(I)I"⟩, 27) := ⟨⟨by decide +kernel, by decide +kernel⟩, List.mem_of_getElem? (i := 598) (by decide +kernel), List.mem_of_getElem? (i := 848) (by decide +kernel), List.mem_of_getElem? (i := 849) (by decide +kernel)⟩
theorem lw_p40 : lw_okq (⟨"LoopStrandsModel", "stackSums", "()V"⟩, 27) := ⟨⟨by decide +kernel, by decide +kernel⟩, List.mem_of_getElem? (i := 598) (by decide +kernel), List.mem_of_getElem? (i := 852) (by decide +kernel), List.mem_of_getElem? (i := 853) (by decide +kernel)⟩
theorem lw_p41 : lw_okq (⟨"LoopStrandsModel", "loopTimes", "(I)I"⟩, 27) := ⟨⟨by decide +kernel, by decide +kernel⟩, List.mem_of_getElem? (i := 598) (by decide +kernel), List.mem_of_getElem? (i := 856) (by decide +kernel), List.mem_of_getElem? (i := 857) (by decide +kernel)⟩
theorem lw_p42 : lw_okq (⟨"LoopStrandsModel", "give", "(I)I"⟩, 27) := ⟨⟨by decide +kernel, by decide +kernel⟩, List.mem_of_getElem? (i := 598) (by decide +kernel), List.mem_of_getElem? (i := 860) (by decide +kernel), List.mem_of_getElem? (i := 861) (by decide +kernel)⟩
theorem lw_p43 : lw_okq (⟨"LoopStrandsModel", "bracketOf", "(I)I"⟩, 27) := ⟨⟨by decide +kernel, by decide +kernel⟩, List.mem_of_getElem? (i := 598) (by decide +kernel), List.mem_of_getElem? (i := 880) (by decide +kernel), List.mem_of_getElem? (i := 881) (by decide +kernel)⟩
theorem lw_p44 : lw_okq (⟨"LoopStrandsModel", "growProjector", "(I)V"⟩, 27) := ⟨⟨by decide +kernel, by decide +kernel⟩, List.mem_of_getElem? (i := 598) (by decide +kernel), List.mem_of_getElem? (i := 888) (by decide +kernel), List.mem_of_getElem? (i := 889) (by decide +kernel)⟩
theorem lw_p45 : lw_okq (⟨"LoopStrandsModel", "inverse", "(I)I"⟩, 27) := ⟨⟨by decide +kernel, by decide +kernel⟩, List.mem_of_getElem? (i := 598) (by decide +kernel), List.mem_of_getElem? (i := 892) (by decide +kernel), List.mem_of_getElem? (i := 893) (by decide +kernel)⟩
theorem lw_p46 : lw_okq (⟨"LoopStrandsModel", "isCell", "(I)Z"⟩, 27) := ⟨⟨by decide +kernel, by decide +kernel⟩, List.mem_of_getElem? (i := 598) (by decide +kernel), List.mem_of_getElem? (i := 900) (by decide +kernel), List.mem_of_getElem? (i := 901) (by decide +kernel)⟩
theorem lw_p47 : lw_okq (⟨"LoopStrandsModel", "layHalves", "(I)V"⟩, 27) := ⟨⟨by decide +kernel, by decide +kernel⟩, List.mem_of_getElem? (i := 598) (by decide +kernel), List.mem_of_getElem? (i := 904) (by decide +kernel), List.mem_of_getElem? (i := 905) (by decide +kernel)⟩
def lw_privs_3 : List (MethodName × Nat) := [(⟨"LoopStrandsModel", "isDiagram", "(I)Z"⟩, 27), (⟨"LoopStrandsModel", "through", "(I)I"⟩, 27), (⟨"LoopStrandsModel", "closedLoops", "(I)I"⟩, 27), (⟨"LoopStrandsModel", "turnedOf", "(I)I"⟩, 27), (⟨"LoopStrandsModel", "layWays", "()V"⟩, 27), (⟨"LoopStrandsModel", "isNumber", "(I)Z"⟩, 27), (⟨"LoopStrandsModel", "place", "(II)I"⟩, 27), (⟨"LoopStrandsModel", "by", "(I)I"⟩, 27), (⟨"LoopStrandsModel", "stackSums", "()V"⟩, 27), (⟨"LoopStrandsModel", "loopTimes", "(I)I"⟩, 27), (⟨"LoopStrandsModel", "give", "(I)I"⟩, 27), (⟨"LoopStrandsModel", "bracketOf", "(I)I"⟩, 27), (⟨"LoopStrandsModel", "growProjector", "(I)V"⟩, 27), (⟨"LoopStrandsModel", "inverse", "(I)I"⟩, 27), (⟨"LoopStrandsModel", "isCell", "(I)Z"⟩, 27), (⟨"LoopStrandsModel", "layHalves", "(I)V"⟩, 27)]
theorem lw_r3 : ∀ q ∈ lw_privs_3, lw_okq q := List.forall_mem_cons.mpr ⟨lw_p32, List.forall_mem_cons.mpr ⟨lw_p33, List.forall_mem_cons.mpr ⟨lw_p34, List.forall_mem_cons.mpr ⟨lw_p35, List.forall_mem_cons.mpr ⟨lw_p36, List.forall_mem_cons.mpr ⟨lw_p37, List.forall_mem_cons.mpr ⟨lw_p38, List.forall_mem_cons.mpr ⟨lw_p39, List.forall_mem_cons.mpr ⟨lw_p40, List.forall_mem_cons.mpr ⟨lw_p41, List.forall_mem_cons.mpr ⟨lw_p42, List.forall_mem_cons.mpr ⟨lw_p43, List.forall_mem_cons.mpr ⟨lw_p44, List.forall_mem_cons.mpr ⟨lw_p45, List.forall_mem_cons.mpr ⟨lw_p46, List.forall_mem_cons.mpr ⟨lw_p47, fun _ h => absurd h List.not_mem_nil⟩⟩⟩⟩⟩⟩⟩⟩⟩⟩⟩⟩⟩⟩⟩⟩
theorem lw_p48 : lw_okq (⟨"LoopStrandsModel", "layHalf", "(II)Z"⟩, 27) := ⟨⟨by decide +kernel, by decide +kernel⟩, List.mem_of_getElem? (i := 598) (by decide +kernel), List.mem_of_getElem? (i := 908) (by decide +kernel), List.mem_of_getElem? (i := 909) (by decide +kernel)⟩
theorem lw_p49 : lw_okq (⟨"LoopStrandsModel", "layTable", "()V"⟩, 27) := ⟨⟨by decide +kernel, by decide +kernel⟩, List.mem_of_getElem? (i := 598) (by decide +kernel), List.mem_of_getElem? (i := 912) (by decide +kernel), List.mem_of_getElem? (i := 913) (by decide +kernel)⟩
theorem lw_p50 : lw_okq (⟨"LoopStrandsModel", "formOf", "(II)I"⟩, 27) := ⟨⟨by decide +kernel, by decide +kernel⟩, List.mem_of_getElem? (i := 598) (by decide +kernel), List.mem_of_getElem? (i := 916) (by decide +kernel), List.mem_of_getElem? (i := 917) (by decide +kernel)⟩
theorem lw_p51 : lw_okq (⟨"LoopStrandsModel", "comesThrough", "(III)Z"⟩, 27) := ⟨⟨by decide +kernel, by decide +kernel⟩, List.mem_of_getElem? (i := 598) (by decide +kernel), List.mem_of_getElem? (i := 920) (by decide +kernel), List.mem_of_getElem? (i := 921) (by decide +kernel)⟩
theorem lw_p52 : lw_okq (⟨"LoopStrandsModel", "rowWith", "(II)I"⟩, 27) := ⟨⟨by decide +kernel, by decide +kernel⟩, List.mem_of_getElem? (i := 598) (by decide +kernel), List.mem_of_getElem? (i := 924) (by decide +kernel), List.mem_of_getElem? (i := 925) (by decide +kernel)⟩
theorem lw_p53 : lw_okq (⟨"LoopStrandsModel", "swapRows", "(II)V"⟩, 27) := ⟨⟨by decide +kernel, by decide +kernel⟩, List.mem_of_getElem? (i := 598) (by decide +kernel), List.mem_of_getElem? (i := 928) (by decide +kernel), List.mem_of_getElem? (i := 929) (by decide +kernel)⟩
theorem lw_p54 : lw_okq (⟨"LoopStrandsModel", "clearBelow", "(II)V"⟩, 27) := ⟨⟨by decide +kernel, by decide +kernel⟩, List.mem_of_getElem? (i := 598) (by decide +kernel), List.mem_of_getElem? (i := 932) (by decide +kernel), List.mem_of_getElem? (i := 933) (by decide +kernel)⟩
def lw_privs_4 : List (MethodName × Nat) := [(⟨"LoopStrandsModel", "layHalf", "(II)Z"⟩, 27), (⟨"LoopStrandsModel", "layTable", "()V"⟩, 27), (⟨"LoopStrandsModel", "formOf", "(II)I"⟩, 27), (⟨"LoopStrandsModel", "comesThrough", "(III)Z"⟩, 27), (⟨"LoopStrandsModel", "rowWith", "(II)I"⟩, 27), (⟨"LoopStrandsModel", "swapRows", "(II)V"⟩, 27), (⟨"LoopStrandsModel", "clearBelow", "(II)V"⟩, 27)]
theorem lw_r4 : ∀ q ∈ lw_privs_4, lw_okq q := List.forall_mem_cons.mpr ⟨lw_p48, List.forall_mem_cons.mpr ⟨lw_p49, List.forall_mem_cons.mpr ⟨lw_p50, List.forall_mem_cons.mpr ⟨lw_p51, List.forall_mem_cons.mpr ⟨lw_p52, List.forall_mem_cons.mpr ⟨lw_p53, List.forall_mem_cons.mpr ⟨lw_p54, fun _ h => absurd h List.not_mem_nil⟩⟩⟩⟩⟩⟩⟩
def lw_privs : List (MethodName × Nat) := lw_privs_1 ++ (lw_privs_2 ++ (lw_privs_3 ++ (lw_privs_4)))
def lw_tbl : List Cond := k2_sels lw_privs ++ tables_1
theorem lw_privs_ok : ∀ q ∈ lw_privs, lw_okq q := by
  show ∀ q ∈ lw_privs_1 ++ (lw_privs_2 ++ (lw_privs_3 ++ (lw_privs_4))), lw_okq q
  exact List.forall_mem_append.mpr ⟨lw_r1, List.forall_mem_append.mpr ⟨lw_r2, List.forall_mem_append.mpr ⟨lw_r3, lw_r4⟩⟩⟩
end
section
def RX0 : String := "LoopStrands$Algebra"
def TX0 : u_T := fun k => match k with
  | 0 => ("LoopStrands$Algebra", "result", "[I", true)
  | 1 => ("LoopStrands$Algebra", "between", "[I", true)
  | _ => ("LoopStrands$Algebra", "hook", "[I", true)
def tyX0 : Nat → FieldType := fun k => match k with
  | 0 => .array .int
  | 1 => .array .int
  | _ => .array .int
theorem nmX0 : ∀ a, a < 3 → ∀ b, b < 3 → a ≠ b → (TX0 a).2.1 ≠ (TX0 b).2.1 := by decide +kernel
theorem tyX0_ok : ∀ k, k < 3 → parseFieldDescriptor (TX0 k).2.2.1 = some (tyX0 k) := by decide +kernel
abbrev cX0_init : ByteArray := prog_2_method_1_code
def yX0_init : MethodName := ⟨RX0, "<init>", "()V"⟩
abbrev cX0_add : ByteArray := prog_2_method_2_code
def yX0_add : MethodName := ⟨RX0, "add", "(LLoopStrands$State;[I[I[I)V"⟩
abbrev cX0_subtract : ByteArray := prog_2_method_3_code
def yX0_subtract : MethodName := ⟨RX0, "subtract", "(LLoopStrands$State;[I[I[I)V"⟩
abbrev cX0_scale : ByteArray := prog_2_method_4_code
def yX0_scale : MethodName := ⟨RX0, "scale", "(LLoopStrands$State;[I[II)V"⟩
abbrev cX0_turnOver : ByteArray := prog_2_method_5_code
def yX0_turnOver : MethodName := ⟨RX0, "turnOver", "(LLoopStrands$State;[I[I)V"⟩
abbrev cX0_pile : ByteArray := prog_2_method_6_code
def yX0_pile : MethodName := ⟨RX0, "pile", "(LLoopStrands$State;[I[I[I)V"⟩
abbrev cX0_close : ByteArray := prog_2_method_7_code
def yX0_close : MethodName := ⟨RX0, "close", "(LLoopStrands$State;[I)I"⟩
abbrev cX0_makeProjector : ByteArray := prog_2_method_8_code
def yX0_makeProjector : MethodName := ⟨RX0, "makeProjector", "(LLoopStrands$State;[II)V"⟩
def RX1 : String := "LoopStrands$Diagrams"
def TX1 : u_T := fun k => match k with
  | 0 => ("LoopStrands$Diagrams", "many", "I", true)
  | 1 => ("LoopStrands$Diagrams", "points", "I", true)
  | 2 => ("LoopStrands$Diagrams", "texts", "LLoopStrands$Texts;", true)
  | 3 => ("LoopStrands$Diagrams", "halves", "[LLoopStrands$Texts;", true)
  | 4 => ("LoopStrands$Diagrams", "hooks", "[I", true)
  | 5 => ("LoopStrands$Diagrams", "stacked", "[I", true)
  | 6 => ("LoopStrands$Diagrams", "steps", "[I", true)
  | 7 => ("LoopStrands$Diagrams", "before", "[I", true)
  | 8 => ("LoopStrands$Diagrams", "lastHook", "[I", true)
  | 9 => ("LoopStrands$Diagrams", "row", "[I", true)
  | 10 => ("LoopStrands$Diagrams", "below", "[I", true)
  | _ => ("LoopStrands$Diagrams", "above", "[I", true)
def tyX1 : Nat → FieldType := fun k => match k with
  | 0 => .int
  | 1 => .int
  | 2 => .object "LoopStrands$Texts"
  | 3 => .array (.object "LoopStrands$Texts")
  | 4 => .array .int
  | 5 => .array .int
  | 6 => .array .int
  | 7 => .array .int
  | 8 => .array .int
  | 9 => .array .int
  | 10 => .array .int
  | _ => .array .int
theorem nmX1 : ∀ a, a < 12 → ∀ b, b < 12 → a ≠ b → (TX1 a).2.1 ≠ (TX1 b).2.1 := by decide +kernel
theorem tyX1_ok : ∀ k, k < 12 → parseFieldDescriptor (TX1 k).2.2.1 = some (tyX1 k) := by decide +kernel
abbrev cX1_init : ByteArray := prog_3_method_1_code
def yX1_init : MethodName := ⟨RX1, "<init>", "(I)V"⟩
abbrev cX1_opposite : ByteArray := prog_3_method_2_code
def yX1_opposite : MethodName := ⟨RX1, "opposite", "(I)I"⟩
abbrev cX1_findHook : ByteArray := prog_3_method_3_code
def yX1_findHook : MethodName := ⟨RX1, "findHook", "(I)I"⟩
abbrev cX1_findWays : ByteArray := prog_3_method_4_code
def yX1_findWays : MethodName := ⟨RX1, "findWays", "()V"⟩
abbrev cX1_wayLength : ByteArray := prog_3_method_5_code
def yX1_wayLength : MethodName := ⟨RX1, "wayLength", "(I)I"⟩
abbrev cX1_wayHook : ByteArray := prog_3_method_6_code
def yX1_wayHook : MethodName := ⟨RX1, "wayHook", "(II)I"⟩
abbrev cX1_through : ByteArray := prog_3_method_7_code
def yX1_through : MethodName := ⟨RX1, "through", "(I)I"⟩
abbrev cX1_closedLoops : ByteArray := prog_3_method_8_code
def yX1_closedLoops : MethodName := ⟨RX1, "closedLoops", "(I)I"⟩
abbrev cX1_turned : ByteArray := prog_3_method_9_code
def yX1_turned : MethodName := ⟨RX1, "turned", "(I)I"⟩
abbrev cX1_stackDiagram : ByteArray := prog_3_method_10_code
def yX1_stackDiagram : MethodName := ⟨RX1, "stackDiagram", "(II)I"⟩
abbrev cX1_stackLoops : ByteArray := prog_3_method_11_code
def yX1_stackLoops : MethodName := ⟨RX1, "stackLoops", "(II)I"⟩
abbrev cX1_packedStack : ByteArray := prog_3_method_12_code
def yX1_packedStack : MethodName := ⟨RX1, "packedStack", "(II)I"⟩
abbrev cX1_farEnd : ByteArray := prog_3_method_13_code
def yX1_farEnd : MethodName := ⟨RX1, "farEnd", "([I[II)I"⟩
abbrev cX1_loopsBetween : ByteArray := prog_3_method_14_code
def yX1_loopsBetween : MethodName := ⟨RX1, "loopsBetween", "([I[I)I"⟩
def RX2 : String := "LoopStrands$Gluing"
def TX2 : u_T := fun k => match k with
  | _ => ("", "", "", false)
def tyX2 : Nat → FieldType := fun k => match k with
  | _ => .int
theorem nmX2 : ∀ a, a < 0 → ∀ b, b < 0 → a ≠ b → (TX2 a).2.1 ≠ (TX2 b).2.1 := by decide +kernel
theorem tyX2_ok : ∀ k, k < 0 → parseFieldDescriptor (TX2 k).2.2.1 = some (tyX2 k) := by decide +kernel
abbrev cX2_closedLoops : ByteArray := prog_4_method_2_code
def yX2_closedLoops : MethodName := ⟨RX2, "closedLoops", "([I[I)I"⟩
abbrev cX2_isLeastOfLoop : ByteArray := prog_4_method_3_code
def yX2_isLeastOfLoop : MethodName := ⟨RX2, "isLeastOfLoop", "([I[II)Z"⟩
abbrev cX2_leadsAcross : ByteArray := prog_4_method_4_code
def yX2_leadsAcross : MethodName := ⟨RX2, "leadsAcross", "([I[II)Z"⟩
abbrev cX2_formNumber : ByteArray := prog_4_method_5_code
def yX2_formNumber : MethodName := ⟨RX2, "formNumber", "(LLoopStrands$Numbers;[I[I)I"⟩
def RX3 : String := "LoopStrands$Numbers"
def TX3 : u_T := fun k => match k with
  | 0 => ("LoopStrands$Numbers", "prime", "I", false)
  | 1 => ("LoopStrands$Numbers", "loop", "I", false)
  | _ => ("LoopStrands$Numbers", "loopPowers", "[I", true)
def tyX3 : Nat → FieldType := fun k => match k with
  | 0 => .int
  | 1 => .int
  | _ => .array .int
theorem nmX3 : ∀ a, a < 3 → ∀ b, b < 3 → a ≠ b → (TX3 a).2.1 ≠ (TX3 b).2.1 := by decide +kernel
theorem tyX3_ok : ∀ k, k < 3 → parseFieldDescriptor (TX3 k).2.2.1 = some (tyX3 k) := by decide +kernel
abbrev cX3_init : ByteArray := prog_5_method_1_code
def yX3_init : MethodName := ⟨RX3, "<init>", "()V"⟩
abbrev cX3_tell : ByteArray := prog_5_method_2_code
def yX3_tell : MethodName := ⟨RX3, "tell", "(II)V"⟩
abbrev cX3_leftOver : ByteArray := prog_5_method_3_code
def yX3_leftOver : MethodName := ⟨RX3, "leftOver", "(I)I"⟩
abbrev cX3_add : ByteArray := prog_5_method_4_code
def yX3_add : MethodName := ⟨RX3, "add", "(II)I"⟩
abbrev cX3_subtract : ByteArray := prog_5_method_5_code
def yX3_subtract : MethodName := ⟨RX3, "subtract", "(II)I"⟩
abbrev cX3_multiply : ByteArray := prog_5_method_6_code
def yX3_multiply : MethodName := ⟨RX3, "multiply", "(II)I"⟩
abbrev cX3_inverse : ByteArray := prog_5_method_7_code
def yX3_inverse : MethodName := ⟨RX3, "inverse", "(I)I"⟩
abbrev cX3_loopPower : ByteArray := prog_5_method_8_code
def yX3_loopPower : MethodName := ⟨RX3, "loopPower", "(I)I"⟩
abbrev cX3_bracketOf : ByteArray := prog_5_method_9_code
def yX3_bracketOf : MethodName := ⟨RX3, "bracketOf", "(I)I"⟩
abbrev cX3_hasProjector : ByteArray := prog_5_method_10_code
def yX3_hasProjector : MethodName := ⟨RX3, "hasProjector", "(I)Z"⟩
def RX4 : String := "LoopStrands$Pad"
def TX4 : u_T := fun k => match k with
  | 0 => ("LoopStrands$Pad", "signs", "[I", true)
  | _ => ("LoopStrands$Pad", "length", "I", false)
def tyX4 : Nat → FieldType := fun k => match k with
  | 0 => .array .int
  | _ => .int
theorem nmX4 : ∀ a, a < 2 → ∀ b, b < 2 → a ≠ b → (TX4 a).2.1 ≠ (TX4 b).2.1 := by decide +kernel
theorem tyX4_ok : ∀ k, k < 2 → parseFieldDescriptor (TX4 k).2.2.1 = some (tyX4 k) := by decide +kernel
abbrev cX4_init : ByteArray := prog_6_method_1_code
def yX4_init : MethodName := ⟨RX4, "<init>", "()V"⟩
abbrev cX4_isFull : ByteArray := prog_6_method_2_code
def yX4_isFull : MethodName := ⟨RX4, "isFull", "()Z"⟩
abbrev cX4_add : ByteArray := prog_6_method_3_code
def yX4_add : MethodName := ⟨RX4, "add", "(I)V"⟩
abbrev cX4_clear : ByteArray := prog_6_method_4_code
def yX4_clear : MethodName := ⟨RX4, "clear", "()V"⟩
abbrev cX4_diagramFault : ByteArray := prog_6_method_5_code
def yX4_diagramFault : MethodName := ⟨RX4, "diagramFault", "(I)I"⟩
abbrev cX4_wordFault : ByteArray := prog_6_method_6_code
def yX4_wordFault : MethodName := ⟨RX4, "wordFault", "(I)I"⟩
abbrev cX4_figure : ByteArray := prog_6_method_7_code
def yX4_figure : MethodName := ⟨RX4, "figure", "(I)I"⟩
abbrev cX4_diagramCode : ByteArray := prog_6_method_8_code
def yX4_diagramCode : MethodName := ⟨RX4, "diagramCode", "()I"⟩
def RX5 : String := "LoopStrands$State"
def TX5 : u_T := fun k => match k with
  | 0 => ("LoopStrands$State", "shape", "LLoopStrands$Diagrams;", false)
  | 1 => ("LoopStrands$State", "numbers", "LLoopStrands$Numbers;", true)
  | _ => ("LoopStrands$State", "sums", "[[I", true)
def tyX5 : Nat → FieldType := fun k => match k with
  | 0 => .object "LoopStrands$Diagrams"
  | 1 => .object "LoopStrands$Numbers"
  | _ => .array (.array .int)
theorem nmX5 : ∀ a, a < 3 → ∀ b, b < 3 → a ≠ b → (TX5 a).2.1 ≠ (TX5 b).2.1 := by decide +kernel
theorem tyX5_ok : ∀ k, k < 3 → parseFieldDescriptor (TX5 k).2.2.1 = some (tyX5 k) := by decide +kernel
abbrev cX5_init : ByteArray := prog_7_method_1_code
def yX5_init : MethodName := ⟨RX5, "<init>", "(LLoopStrands$Diagrams;)V"⟩
abbrev cX5_copyFrom : ByteArray := prog_7_method_2_code
def yX5_copyFrom : MethodName := ⟨RX5, "copyFrom", "(LLoopStrands$State;)V"⟩
abbrev cX5_clearSums : ByteArray := prog_7_method_3_code
def yX5_clearSums : MethodName := ⟨RX5, "clearSums", "()V"⟩
abbrev cX5_aboveZero : ByteArray := prog_7_method_4_code
def yX5_aboveZero : MethodName := ⟨RX5, "aboveZero", "(I)I"⟩
def RX6 : String := "LoopStrands$Table"
def TX6 : u_T := fun k => match k with
  | 0 => ("LoopStrands$Table", "determinant", "I", false)
  | 1 => ("LoopStrands$Table", "rank", "I", false)
  | 2 => ("LoopStrands$Table", "cells", "[[I", true)
  | _ => ("LoopStrands$Table", "size", "I", false)
def tyX6 : Nat → FieldType := fun k => match k with
  | 0 => .int
  | 1 => .int
  | 2 => .array (.array .int)
  | _ => .int
theorem nmX6 : ∀ a, a < 4 → ∀ b, b < 4 → a ≠ b → (TX6 a).2.1 ≠ (TX6 b).2.1 := by decide +kernel
theorem tyX6_ok : ∀ k, k < 4 → parseFieldDescriptor (TX6 k).2.2.1 = some (tyX6 k) := by decide +kernel
abbrev cX6_init : ByteArray := prog_8_method_1_code
def yX6_init : MethodName := ⟨RX6, "<init>", "()V"⟩
abbrev cX6_fill : ByteArray := prog_8_method_2_code
def yX6_fill : MethodName := ⟨RX6, "fill", "(LLoopStrands$Numbers;LLoopStrands$Texts;)V"⟩
abbrev cX6_eliminate : ByteArray := prog_8_method_3_code
def yX6_eliminate : MethodName := ⟨RX6, "eliminate", "(LLoopStrands$Numbers;)V"⟩
abbrev cX6_findPivot : ByteArray := prog_8_method_4_code
def yX6_findPivot : MethodName := ⟨RX6, "findPivot", "(I)I"⟩
abbrev cX6_swapRows : ByteArray := prog_8_method_5_code
def yX6_swapRows : MethodName := ⟨RX6, "swapRows", "(II)V"⟩
abbrev cX6_clearBelow : ByteArray := prog_8_method_6_code
def yX6_clearBelow : MethodName := ⟨RX6, "clearBelow", "(LLoopStrands$Numbers;I)V"⟩
def RX7 : String := "LoopStrands$Texts"
def TX7 : u_T := fun k => match k with
  | 0 => ("LoopStrands$Texts", "size", "I", true)
  | 1 => ("LoopStrands$Texts", "rows", "[[I", true)
  | 2 => ("LoopStrands$Texts", "codes", "[I", true)
  | 3 => ("LoopStrands$Texts", "places", "I", true)
  | 4 => ("LoopStrands$Texts", "open", "I", true)
  | 5 => ("LoopStrands$Texts", "base", "I", true)
  | _ => ("LoopStrands$Texts", "waiting", "[I", true)
def tyX7 : Nat → FieldType := fun k => match k with
  | 0 => .int
  | 1 => .array (.array .int)
  | 2 => .array .int
  | 3 => .int
  | 4 => .int
  | 5 => .int
  | _ => .array .int
theorem nmX7 : ∀ a, a < 7 → ∀ b, b < 7 → a ≠ b → (TX7 a).2.1 ≠ (TX7 b).2.1 := by decide +kernel
theorem tyX7_ok : ∀ k, k < 7 → parseFieldDescriptor (TX7 k).2.2.1 = some (tyX7 k) := by decide +kernel
abbrev cX7_init : ByteArray := prog_9_method_1_code
def yX7_init : MethodName := ⟨RX7, "<init>", "(II)V"⟩
abbrev cX7_findCodes : ByteArray := prog_9_method_2_code
def yX7_findCodes : MethodName := ⟨RX7, "findCodes", "([I)I"⟩
abbrev cX7_readCode : ByteArray := prog_9_method_3_code
def yX7_readCode : MethodName := ⟨RX7, "readCode", "(I[I)Z"⟩
abbrev cX7_join : ByteArray := prog_9_method_4_code
def yX7_join : MethodName := ⟨RX7, "join", "([III)V"⟩
abbrev cX7_find : ByteArray := prog_9_method_5_code
def yX7_find : MethodName := ⟨RX7, "find", "(I)I"⟩
abbrev cX7_findRow : ByteArray := prog_9_method_6_code
def yX7_findRow : MethodName := ⟨RX7, "findRow", "([I)I"⟩
def RX8 : String := "LoopStrands"
def TX8 : u_T := fun k => match k with
  | 0 => ("LoopStrands", "pad", "LLoopStrands$Pad;", true)
  | 1 => ("LoopStrands", "shapes", "[LLoopStrands$Diagrams;", true)
  | 2 => ("LoopStrands", "now", "LLoopStrands$State;", true)
  | 3 => ("LoopStrands", "images", "[LLoopStrands$State;", true)
  | 4 => ("LoopStrands", "algebra", "LLoopStrands$Algebra;", true)
  | _ => ("LoopStrands", "table", "LLoopStrands$Table;", true)
def tyX8 : Nat → FieldType := fun k => match k with
  | 0 => .object "LoopStrands$Pad"
  | 1 => .array (.object "LoopStrands$Diagrams")
  | 2 => .object "LoopStrands$State"
  | 3 => .array (.object "LoopStrands$State")
  | 4 => .object "LoopStrands$Algebra"
  | _ => .object "LoopStrands$Table"
theorem nmX8 : ∀ a, a < 6 → ∀ b, b < 6 → a ≠ b → (TX8 a).2.1 ≠ (TX8 b).2.1 := by decide +kernel
theorem tyX8_ok : ∀ k, k < 6 → parseFieldDescriptor (TX8 k).2.2.1 = some (tyX8 k) := by decide +kernel
abbrev cX8_init : ByteArray := prog_1_method_1_code
def yX8_init : MethodName := ⟨RX8, "<init>", "()V"⟩
abbrev cX8_strands : ByteArray := prog_1_method_2_code
def yX8_strands : MethodName := ⟨RX8, "strands", "(I)I"⟩
abbrev cX8_say : ByteArray := prog_1_method_3_code
def yX8_say : MethodName := ⟨RX8, "say", "(I)I"⟩
abbrev cX8_wipe : ByteArray := prog_1_method_4_code
def yX8_wipe : MethodName := ⟨RX8, "wipe", "()I"⟩
abbrev cX8_fault : ByteArray := prog_1_method_5_code
def yX8_fault : MethodName := ⟨RX8, "fault", "(I)I"⟩
abbrev cX8_diagram : ByteArray := prog_1_method_6_code
def yX8_diagram : MethodName := ⟨RX8, "diagram", "()I"⟩
abbrev cX8_word : ByteArray := prog_1_method_7_code
def yX8_word : MethodName := ⟨RX8, "word", "(I)I"⟩
abbrev cX8_of : ByteArray := prog_1_method_8_code
def yX8_of : MethodName := ⟨RX8, "of", "(II)I"⟩
abbrev cX8_joined : ByteArray := prog_1_method_9_code
def yX8_joined : MethodName := ⟨RX8, "joined", "(II)I"⟩
abbrev cX8_stack : ByteArray := prog_1_method_10_code
def yX8_stack : MethodName := ⟨RX8, "stack", "(III)I"⟩
abbrev cX8_way : ByteArray := prog_1_method_11_code
def yX8_way : MethodName := ⟨RX8, "way", "(II)I"⟩
abbrev cX8_prime : ByteArray := prog_1_method_12_code
def yX8_prime : MethodName := ⟨RX8, "prime", "(II)I"⟩
abbrev cX8_put : ByteArray := prog_1_method_13_code
def yX8_put : MethodName := ⟨RX8, "put", "(III)I"⟩
abbrev cX8_at : ByteArray := prog_1_method_14_code
def yX8_at : MethodName := ⟨RX8, "at", "(II)I"⟩
abbrev cX8_both : ByteArray := prog_1_method_15_code
def yX8_both : MethodName := ⟨RX8, "both", "(IIII)I"⟩
abbrev cX8_times : ByteArray := prog_1_method_16_code
def yX8_times : MethodName := ⟨RX8, "times", "(III)I"⟩
abbrev cX8_turn : ByteArray := prog_1_method_17_code
def yX8_turn : MethodName := ⟨RX8, "turn", "(II)I"⟩
abbrev cX8_trace : ByteArray := prog_1_method_18_code
def yX8_trace : MethodName := ⟨RX8, "trace", "(I)I"⟩
abbrev cX8_bracket : ByteArray := prog_1_method_19_code
def yX8_bracket : MethodName := ⟨RX8, "bracket", "(I)I"⟩
abbrev cX8_project : ByteArray := prog_1_method_20_code
def yX8_project : MethodName := ⟨RX8, "project", "(II)I"⟩
abbrev cX8_cell : ByteArray := prog_1_method_21_code
def yX8_cell : MethodName := ⟨RX8, "cell", "(II)I"⟩
abbrev cX8_form : ByteArray := prog_1_method_22_code
def yX8_form : MethodName := ⟨RX8, "form", "(III)I"⟩
abbrev cX8_image : ByteArray := prog_1_method_23_code
def yX8_image : MethodName := ⟨RX8, "image", "(I)I"⟩
abbrev cX8_restore : ByteArray := prog_1_method_24_code
def yX8_restore : MethodName := ⟨RX8, "restore", "(I)I"⟩
abbrev cX8_count : ByteArray := prog_1_method_25_code
def yX8_count : MethodName := ⟨RX8, "count", "(I)I"⟩
abbrev cX8_isWithin : ByteArray := prog_1_method_26_code
def yX8_isWithin : MethodName := ⟨RX8, "isWithin", "(III)Z"⟩
abbrev cX8_isPrime : ByteArray := prog_1_method_27_code
def yX8_isPrime : MethodName := ⟨RX8, "isPrime", "(I)Z"⟩
abbrev cX8_isDiagram : ByteArray := prog_1_method_28_code
def yX8_isDiagram : MethodName := ⟨RX8, "isDiagram", "(I)Z"⟩
abbrev cX8_isSlot : ByteArray := prog_1_method_29_code
def yX8_isSlot : MethodName := ⟨RX8, "isSlot", "(I)Z"⟩
abbrev cX8_isNumber : ByteArray := prog_1_method_30_code
def yX8_isNumber : MethodName := ⟨RX8, "isNumber", "(I)Z"⟩
abbrev cX8_hasHalves : ByteArray := prog_1_method_31_code
def yX8_hasHalves : MethodName := ⟨RX8, "hasHalves", "(I)Z"⟩
def RX9 : String := "LoopStrandsModel"
def TX9 : u_T := fun k => match k with
  | 0 => ("LoopStrandsModel", "state", "[I", true)
  | 1 => ("LoopStrandsModel", "images", "[I", true)
  | 2 => ("LoopStrandsModel", "isKept", "[Z", true)
  | 3 => ("LoopStrandsModel", "pad", "[I", true)
  | 4 => ("LoopStrandsModel", "said", "I", false)
  | 5 => ("LoopStrandsModel", "partner", "[I", true)
  | 6 => ("LoopStrandsModel", "numberOf", "[I", true)
  | 7 => ("LoopStrandsModel", "diagrams", "I", false)
  | 8 => ("LoopStrandsModel", "product", "[I", true)
  | 9 => ("LoopStrandsModel", "loops", "[I", true)
  | 10 => ("LoopStrandsModel", "row", "[I", true)
  | 11 => ("LoopStrandsModel", "stackOf", "[I", true)
  | 12 => ("LoopStrandsModel", "isMet", "[Z", true)
  | 13 => ("LoopStrandsModel", "wave", "[I", true)
  | 14 => ("LoopStrandsModel", "cameFrom", "[I", true)
  | 15 => ("LoopStrandsModel", "cameBy", "[I", true)
  | 16 => ("LoopStrandsModel", "deepOf", "[I", true)
  | 17 => ("LoopStrandsModel", "work", "[I", true)
  | 18 => ("LoopStrandsModel", "left", "[I", true)
  | 19 => ("LoopStrandsModel", "right", "[I", true)
  | 20 => ("LoopStrandsModel", "projector", "[I", true)
  | 21 => ("LoopStrandsModel", "half", "[I", true)
  | 22 => ("LoopStrandsModel", "halves", "I", false)
  | 23 => ("LoopStrandsModel", "halfRow", "[I", true)
  | 24 => ("LoopStrandsModel", "table", "[I", true)
  | 25 => ("LoopStrandsModel", "rank", "I", false)
  | _ => ("LoopStrandsModel", "determinant", "I", false)
def tyX9 : Nat → FieldType := fun k => match k with
  | 0 => .array .int
  | 1 => .array .int
  | 2 => .array .boolean
  | 3 => .array .int
  | 4 => .int
  | 5 => .array .int
  | 6 => .array .int
  | 7 => .int
  | 8 => .array .int
  | 9 => .array .int
  | 10 => .array .int
  | 11 => .array .int
  | 12 => .array .boolean
  | 13 => .array .int
  | 14 => .array .int
  | 15 => .array .int
  | 16 => .array .int
  | 17 => .array .int
  | 18 => .array .int
  | 19 => .array .int
  | 20 => .array .int
  | 21 => .array .int
  | 22 => .int
  | 23 => .array .int
  | 24 => .array .int
  | 25 => .int
  | _ => .int
theorem nmX9 : ∀ a, a < 27 → ∀ b, b < 27 → a ≠ b → (TX9 a).2.1 ≠ (TX9 b).2.1 := by decide +kernel
theorem tyX9_ok : ∀ k, k < 27 → parseFieldDescriptor (TX9 k).2.2.1 = some (tyX9 k) := by decide +kernel
abbrev cX9_init : ByteArray := prog_11_method_1_code
def yX9_init : MethodName := ⟨RX9, "<init>", "()V"⟩
abbrev cX9_in : ByteArray := prog_11_method_2_code
def yX9_in : MethodName := ⟨RX9, "in", "(III)Z"⟩
abbrev cX9_points : ByteArray := prog_11_method_3_code
def yX9_points : MethodName := ⟨RX9, "points", "()I"⟩
abbrev cX9_layText : ByteArray := prog_11_method_4_code
def yX9_layText : MethodName := ⟨RX9, "layText", "(I)Z"⟩
abbrev cX9_textOfRow : ByteArray := prog_11_method_5_code
def yX9_textOfRow : MethodName := ⟨RX9, "textOfRow", "()I"⟩
abbrev cX9_indexOfRow : ByteArray := prog_11_method_6_code
def yX9_indexOfRow : MethodName := ⟨RX9, "indexOfRow", "()I"⟩
abbrev cX9_to : ByteArray := prog_11_method_7_code
def yX9_to : MethodName := ⟨RX9, "to", "(II)I"⟩
abbrev cX9_across : ByteArray := prog_11_method_8_code
def yX9_across : MethodName := ⟨RX9, "across", "(I)I"⟩
abbrev cX9_layDiagrams : ByteArray := prog_11_method_9_code
def yX9_layDiagrams : MethodName := ⟨RX9, "layDiagrams", "()V"⟩
abbrev cX9_endFromAbove : ByteArray := prog_11_method_10_code
def yX9_endFromAbove : MethodName := ⟨RX9, "endFromAbove", "(III)I"⟩
abbrev cX9_endFromBelow : ByteArray := prog_11_method_11_code
def yX9_endFromBelow : MethodName := ⟨RX9, "endFromBelow", "(III)I"⟩
abbrev cX9_meetRound : ByteArray := prog_11_method_12_code
def yX9_meetRound : MethodName := ⟨RX9, "meetRound", "(III)V"⟩
abbrev cX9_layProduct : ByteArray := prog_11_method_13_code
def yX9_layProduct : MethodName := ⟨RX9, "layProduct", "(II)V"⟩
abbrev cX9_isDiagram : ByteArray := prog_11_method_14_code
def yX9_isDiagram : MethodName := ⟨RX9, "isDiagram", "(I)Z"⟩
abbrev cX9_isSlot : ByteArray := prog_11_method_15_code
def yX9_isSlot : MethodName := ⟨RX9, "isSlot", "(I)Z"⟩
abbrev cX9_clearSums : ByteArray := prog_11_method_16_code
def yX9_clearSums : MethodName := ⟨RX9, "clearSums", "()V"⟩
abbrev cX9_strands : ByteArray := prog_11_method_17_code
def yX9_strands : MethodName := ⟨RX9, "strands", "(I)I"⟩
abbrev cX9_say : ByteArray := prog_11_method_18_code
def yX9_say : MethodName := ⟨RX9, "say", "(I)I"⟩
abbrev cX9_wipe : ByteArray := prog_11_method_19_code
def yX9_wipe : MethodName := ⟨RX9, "wipe", "()I"⟩
abbrev cX9_diagramFault : ByteArray := prog_11_method_20_code
def yX9_diagramFault : MethodName := ⟨RX9, "diagramFault", "()I"⟩
abbrev cX9_isHook : ByteArray := prog_11_method_21_code
def yX9_isHook : MethodName := ⟨RX9, "isHook", "(I)Z"⟩
abbrev cX9_wordFault : ByteArray := prog_11_method_22_code
def yX9_wordFault : MethodName := ⟨RX9, "wordFault", "()I"⟩
abbrev cX9_fault : ByteArray := prog_11_method_23_code
def yX9_fault : MethodName := ⟨RX9, "fault", "(I)I"⟩
abbrev cX9_diagram : ByteArray := prog_11_method_24_code
def yX9_diagram : MethodName := ⟨RX9, "diagram", "()I"⟩
abbrev cX9_joinTwo : ByteArray := prog_11_method_25_code
def yX9_joinTwo : MethodName := ⟨RX9, "joinTwo", "(II)V"⟩
abbrev cX9_hook : ByteArray := prog_11_method_26_code
def yX9_hook : MethodName := ⟨RX9, "hook", "(I)I"⟩
abbrev cX9_word : ByteArray := prog_11_method_27_code
def yX9_word : MethodName := ⟨RX9, "word", "(I)I"⟩
abbrev cX9_through : ByteArray := prog_11_method_28_code
def yX9_through : MethodName := ⟨RX9, "through", "(I)I"⟩
abbrev cX9_closedLoops : ByteArray := prog_11_method_29_code
def yX9_closedLoops : MethodName := ⟨RX9, "closedLoops", "(I)I"⟩
abbrev cX9_turnedOf : ByteArray := prog_11_method_30_code
def yX9_turnedOf : MethodName := ⟨RX9, "turnedOf", "(I)I"⟩
abbrev cX9_layWays : ByteArray := prog_11_method_31_code
def yX9_layWays : MethodName := ⟨RX9, "layWays", "()V"⟩
abbrev cX9_of : ByteArray := prog_11_method_32_code
def yX9_of : MethodName := ⟨RX9, "of", "(II)I"⟩
abbrev cX9_joined : ByteArray := prog_11_method_33_code
def yX9_joined : MethodName := ⟨RX9, "joined", "(II)I"⟩
abbrev cX9_stack : ByteArray := prog_11_method_34_code
def yX9_stack : MethodName := ⟨RX9, "stack", "(III)I"⟩
abbrev cX9_way : ByteArray := prog_11_method_35_code
def yX9_way : MethodName := ⟨RX9, "way", "(II)I"⟩
abbrev cX9_isPrime : ByteArray := prog_11_method_36_code
def yX9_isPrime : MethodName := ⟨RX9, "isPrime", "(I)Z"⟩
abbrev cX9_isNumber : ByteArray := prog_11_method_37_code
def yX9_isNumber : MethodName := ⟨RX9, "isNumber", "(I)Z"⟩
abbrev cX9_by : ByteArray := prog_11_method_38_code
def yX9_by : MethodName := ⟨RX9, "by", "(I)I"⟩
abbrev cX9_loopTimes : ByteArray := prog_11_method_39_code
def yX9_loopTimes : MethodName := ⟨RX9, "loopTimes", "(I)I"⟩
abbrev cX9_prime : ByteArray := prog_11_method_40_code
def yX9_prime : MethodName := ⟨RX9, "prime", "(II)I"⟩
abbrev cX9_place : ByteArray := prog_11_method_41_code
def yX9_place : MethodName := ⟨RX9, "place", "(II)I"⟩
abbrev cX9_put : ByteArray := prog_11_method_42_code
def yX9_put : MethodName := ⟨RX9, "put", "(III)I"⟩
abbrev cX9_at : ByteArray := prog_11_method_43_code
def yX9_at : MethodName := ⟨RX9, "at", "(II)I"⟩
abbrev cX9_give : ByteArray := prog_11_method_44_code
def yX9_give : MethodName := ⟨RX9, "give", "(I)I"⟩
abbrev cX9_stackSums : ByteArray := prog_11_method_45_code
def yX9_stackSums : MethodName := ⟨RX9, "stackSums", "()V"⟩
abbrev cX9_both : ByteArray := prog_11_method_46_code
def yX9_both : MethodName := ⟨RX9, "both", "(IIII)I"⟩
abbrev cX9_times : ByteArray := prog_11_method_47_code
def yX9_times : MethodName := ⟨RX9, "times", "(III)I"⟩
abbrev cX9_turn : ByteArray := prog_11_method_48_code
def yX9_turn : MethodName := ⟨RX9, "turn", "(II)I"⟩
abbrev cX9_trace : ByteArray := prog_11_method_49_code
def yX9_trace : MethodName := ⟨RX9, "trace", "(I)I"⟩
abbrev cX9_bracketOf : ByteArray := prog_11_method_50_code
def yX9_bracketOf : MethodName := ⟨RX9, "bracketOf", "(I)I"⟩
abbrev cX9_bracket : ByteArray := prog_11_method_51_code
def yX9_bracket : MethodName := ⟨RX9, "bracket", "(I)I"⟩
abbrev cX9_inverse : ByteArray := prog_11_method_52_code
def yX9_inverse : MethodName := ⟨RX9, "inverse", "(I)I"⟩
abbrev cX9_growProjector : ByteArray := prog_11_method_53_code
def yX9_growProjector : MethodName := ⟨RX9, "growProjector", "(I)V"⟩
abbrev cX9_project : ByteArray := prog_11_method_54_code
def yX9_project : MethodName := ⟨RX9, "project", "(II)I"⟩
abbrev cX9_layHalf : ByteArray := prog_11_method_55_code
def yX9_layHalf : MethodName := ⟨RX9, "layHalf", "(II)Z"⟩
abbrev cX9_layHalves : ByteArray := prog_11_method_56_code
def yX9_layHalves : MethodName := ⟨RX9, "layHalves", "(I)V"⟩
abbrev cX9_comesThrough : ByteArray := prog_11_method_57_code
def yX9_comesThrough : MethodName := ⟨RX9, "comesThrough", "(III)Z"⟩
abbrev cX9_formOf : ByteArray := prog_11_method_58_code
def yX9_formOf : MethodName := ⟨RX9, "formOf", "(II)I"⟩
abbrev cX9_isCell : ByteArray := prog_11_method_59_code
def yX9_isCell : MethodName := ⟨RX9, "isCell", "(I)Z"⟩
abbrev cX9_swapRows : ByteArray := prog_11_method_60_code
def yX9_swapRows : MethodName := ⟨RX9, "swapRows", "(II)V"⟩
abbrev cX9_rowWith : ByteArray := prog_11_method_61_code
def yX9_rowWith : MethodName := ⟨RX9, "rowWith", "(II)I"⟩
abbrev cX9_clearBelow : ByteArray := prog_11_method_62_code
def yX9_clearBelow : MethodName := ⟨RX9, "clearBelow", "(II)V"⟩
abbrev cX9_layTable : ByteArray := prog_11_method_63_code
def yX9_layTable : MethodName := ⟨RX9, "layTable", "()V"⟩
abbrev cX9_cell : ByteArray := prog_11_method_64_code
def yX9_cell : MethodName := ⟨RX9, "cell", "(II)I"⟩
abbrev cX9_form : ByteArray := prog_11_method_65_code
def yX9_form : MethodName := ⟨RX9, "form", "(III)I"⟩
abbrev cX9_image : ByteArray := prog_11_method_66_code
def yX9_image : MethodName := ⟨RX9, "image", "(I)I"⟩
abbrev cX9_restore : ByteArray := prog_11_method_67_code
def yX9_restore : MethodName := ⟨RX9, "restore", "(I)I"⟩
abbrev cX9_count : ByteArray := prog_11_method_68_code
def yX9_count : MethodName := ⟨RX9, "count", "(I)I"⟩
def RJ9 : String := "java/lang/Math"
abbrev cJ9_min_7cf53 : ByteArray := prog_13_method_69_code
def yJ9_min_7cf53 : MethodName := ⟨RJ9, "min", "(II)I"⟩
def RJ10 : String := "java/lang/System"
def RJ7 : String := "java/util/Arrays"
abbrev cJ7_fill_53178 : ByteArray := prog_15_method_103_code
def yJ7_fill_53178 : MethodName := ⟨RJ7, "fill", "([II)V"⟩
abbrev cJ7_copyOf_59c91 : ByteArray := prog_15_method_123_code
def yJ7_copyOf_59c91 : MethodName := ⟨RJ7, "copyOf", "([II)[I"⟩
def RL : String := "LoopStrandsLaw"
abbrev cL_law : ByteArray := code
def yL_law : MethodName := ⟨RL, "law", "([I)Z"⟩
abbrev vwCl : List vw_C := [(RX0, TX0, 3), (RX1, TX1, 12), (RX3, TX3, 3), (RX4, TX4, 2), (RX5, TX5, 3), (RX6, TX6, 4), (RX7, TX7, 7), (RX8, TX8, 6), (RX9, TX9, 27)]
end
section
abbrev ex_MO : Type := Instr × Nat × Nat × Nat × Int32
abbrev ex_no : ex_MO := (.nop, 0, 0, 0, 0)
/-- LoopStrands$Algebra.<init> -/
def ex_k0 : List ex_MO := [(.aload_n 0, 1, 0, 0, 0), (.invokespecial 3, 3, 1000, 0, 0), ex_no, ex_no, (.aload_n 0, 1, 0, 0, 0), (.bipush 42, 2, 0, 0, 42), ex_no, (.newarray .int, 2, 0, 0, 0), ex_no, (.putfield 9, 3, 0, 0, 0), ex_no, ex_no, (.aload_n 0, 1, 0, 0, 0), (.bipush 42, 2, 0, 0, 42), ex_no, (.newarray .int, 2, 0, 0, 0), ex_no, (.putfield 15, 3, 0, 1, 0), ex_no, ex_no, (.aload_n 0, 1, 0, 0, 0), (.bipush 42, 2, 0, 0, 42), ex_no, (.newarray .int, 2, 0, 0, 0), ex_no, (.putfield 18, 3, 0, 2, 0), ex_no, ex_no, (.return_, 1, 0, 0, 0)]
/-- LoopStrands$Algebra.add -/
def ex_k1 : List ex_MO := [(.iconst 0, 1, 0, 0, 0), (.istore 5, 2, 5, 0, 0), ex_no, (.iload 5, 2, 5, 0, 0), ex_no, (.aload_n 1, 1, 1, 0, 0), (.getfield 21, 3, 4, 0, 0), ex_no, ex_no, (.getfield 27, 3, 1, 2, 0), ex_no, ex_no, (.getfield 33, 3, 6, 0, 0), ex_no, ex_no, (.if_icmp .ge 29, 3, 44, 0, 0), ex_no, ex_no, (.aload_n 2, 1, 2, 0, 0), (.iload 5, 2, 5, 0, 0), ex_no, (.aload_n 1, 1, 1, 0, 0), (.getfield 39, 3, 4, 1, 0), ex_no, ex_no, (.aload_n 3, 1, 3, 0, 0), (.iload 5, 2, 5, 0, 0), ex_no, (.iaload, 1, 0, 0, 0), (.aload 4, 2, 4, 0, 0), ex_no, (.iload 5, 2, 5, 0, 0), ex_no, (.iaload, 1, 0, 0, 0), (.invokevirtual 43, 3, 29, 3, 0), ex_no, ex_no, (.iastore, 1, 0, 0, 0), (.iinc 5 1, 3, 5, 0, 1), ex_no, ex_no, (.goto (-38), 3, 3, 0, 0), ex_no, ex_no, (.return_, 1, 0, 0, 0)]
/-- LoopStrands$Algebra.subtract -/
def ex_k2 : List ex_MO := [(.iconst 0, 1, 0, 0, 0), (.istore 5, 2, 5, 0, 0), ex_no, (.iload 5, 2, 5, 0, 0), ex_no, (.aload_n 1, 1, 1, 0, 0), (.getfield 21, 3, 4, 0, 0), ex_no, ex_no, (.getfield 27, 3, 1, 2, 0), ex_no, ex_no, (.getfield 33, 3, 6, 0, 0), ex_no, ex_no, (.if_icmp .ge 29, 3, 44, 0, 0), ex_no, ex_no, (.aload_n 2, 1, 2, 0, 0), (.iload 5, 2, 5, 0, 0), ex_no, (.aload_n 1, 1, 1, 0, 0), (.getfield 39, 3, 4, 1, 0), ex_no, ex_no, (.aload_n 3, 1, 3, 0, 0), (.iload 5, 2, 5, 0, 0), ex_no, (.iaload, 1, 0, 0, 0), (.aload 4, 2, 4, 0, 0), ex_no, (.iload 5, 2, 5, 0, 0), ex_no, (.iaload, 1, 0, 0, 0), (.invokevirtual 49, 3, 30, 3, 0), ex_no, ex_no, (.iastore, 1, 0, 0, 0), (.iinc 5 1, 3, 5, 0, 1), ex_no, ex_no, (.goto (-38), 3, 3, 0, 0), ex_no, ex_no, (.return_, 1, 0, 0, 0)]
/-- LoopStrands$Algebra.scale -/
def ex_k3 : List ex_MO := [(.iconst 0, 1, 0, 0, 0), (.istore 5, 2, 5, 0, 0), ex_no, (.iload 5, 2, 5, 0, 0), ex_no, (.aload_n 1, 1, 1, 0, 0), (.getfield 21, 3, 4, 0, 0), ex_no, ex_no, (.getfield 27, 3, 1, 2, 0), ex_no, ex_no, (.getfield 33, 3, 6, 0, 0), ex_no, ex_no, (.if_icmp .ge 26, 3, 41, 0, 0), ex_no, ex_no, (.aload_n 2, 1, 2, 0, 0), (.iload 5, 2, 5, 0, 0), ex_no, (.aload_n 1, 1, 1, 0, 0), (.getfield 39, 3, 4, 1, 0), ex_no, ex_no, (.aload_n 3, 1, 3, 0, 0), (.iload 5, 2, 5, 0, 0), ex_no, (.iaload, 1, 0, 0, 0), (.iload 4, 2, 4, 0, 0), ex_no, (.invokevirtual 52, 3, 31, 3, 0), ex_no, ex_no, (.iastore, 1, 0, 0, 0), (.iinc 5 1, 3, 5, 0, 1), ex_no, ex_no, (.goto (-35), 3, 3, 0, 0), ex_no, ex_no, (.return_, 1, 0, 0, 0)]
/-- LoopStrands$Algebra.turnOver -/
def ex_k4 : List ex_MO := [(.aload_n 0, 1, 0, 0, 0), (.getfield 9, 3, 0, 0, 0), ex_no, ex_no, (.iconst 0, 1, 0, 0, 0), (.invokestatic 55, 3, 159, 2, 0), ex_no, ex_no, (.iconst 0, 1, 0, 0, 0), (.istore 4, 2, 4, 0, 0), ex_no, (.iload 4, 2, 4, 0, 0), ex_no, (.aload_n 1, 1, 1, 0, 0), (.getfield 21, 3, 4, 0, 0), ex_no, ex_no, (.getfield 27, 3, 1, 2, 0), ex_no, ex_no, (.getfield 33, 3, 6, 0, 0), ex_no, ex_no, (.if_icmp .ge 27, 3, 50, 0, 0), ex_no, ex_no, (.aload_n 0, 1, 0, 0, 0), (.getfield 9, 3, 0, 0, 0), ex_no, ex_no, (.aload_n 1, 1, 1, 0, 0), (.getfield 21, 3, 4, 0, 0), ex_no, ex_no, (.iload 4, 2, 4, 0, 0), ex_no, (.invokevirtual 61, 3, 16, 2, 0), ex_no, ex_no, (.aload_n 3, 1, 3, 0, 0), (.iload 4, 2, 4, 0, 0), ex_no, (.iaload, 1, 0, 0, 0), (.iastore, 1, 0, 0, 0), (.iinc 4 1, 3, 4, 0, 1), ex_no, ex_no, (.goto (-36), 3, 11, 0, 0), ex_no, ex_no, (.aload_n 0, 1, 0, 0, 0), (.getfield 9, 3, 0, 0, 0), ex_no, ex_no, (.iconst 0, 1, 0, 0, 0), (.aload_n 2, 1, 2, 0, 0), (.iconst 0, 1, 0, 0, 0), (.bipush 42, 2, 0, 0, 42), ex_no, (.invokestatic 65, 3, 1001, 0, 0), ex_no, ex_no, (.return_, 1, 0, 0, 0)]
/-- LoopStrands$Algebra.pile -/
def ex_k5 : List ex_MO := [(.aload_n 0, 1, 0, 0, 0), (.getfield 9, 3, 0, 0, 0), ex_no, ex_no, (.iconst 0, 1, 0, 0, 0), (.invokestatic 55, 3, 159, 2, 0), ex_no, ex_no, (.iconst 0, 1, 0, 0, 0), (.istore 5, 2, 5, 0, 0), ex_no, (.iload 5, 2, 5, 0, 0), ex_no, (.aload_n 1, 1, 1, 0, 0), (.getfield 21, 3, 4, 0, 0), ex_no, ex_no, (.getfield 27, 3, 1, 2, 0), ex_no, ex_no, (.getfield 33, 3, 6, 0, 0), ex_no, ex_no, (.if_icmp .ge 132, 3, 155, 0, 0), ex_no, ex_no, (.iconst 0, 1, 0, 0, 0), (.istore 6, 2, 6, 0, 0), ex_no, (.iload 6, 2, 6, 0, 0), ex_no, (.aload_n 1, 1, 1, 0, 0), (.getfield 21, 3, 4, 0, 0), ex_no, ex_no, (.getfield 27, 3, 1, 2, 0), ex_no, ex_no, (.getfield 33, 3, 6, 0, 0), ex_no, ex_no, (.if_icmp .ge 108, 3, 149, 0, 0), ex_no, ex_no, (.aload_n 3, 1, 3, 0, 0), (.iload 5, 2, 5, 0, 0), ex_no, (.iaload, 1, 0, 0, 0), (.ifCond .eq 95, 3, 143, 0, 0), ex_no, ex_no, (.aload 4, 2, 4, 0, 0), ex_no, (.iload 6, 2, 6, 0, 0), ex_no, (.iaload, 1, 0, 0, 0), (.ifCond .eq 87, 3, 143, 0, 0), ex_no, ex_no, (.aload_n 1, 1, 1, 0, 0), (.getfield 21, 3, 4, 0, 0), ex_no, ex_no, (.iload 5, 2, 5, 0, 0), ex_no, (.iload 6, 2, 6, 0, 0), ex_no, (.invokevirtual 71, 3, 19, 3, 0), ex_no, ex_no, (.istore 7, 2, 7, 0, 0), ex_no, (.iload 7, 2, 7, 0, 0), ex_no, (.bipush 8, 2, 0, 0, 8), ex_no, (.idiv, 1, 0, 0, 0), (.istore 8, 2, 8, 0, 0), ex_no, (.aload_n 1, 1, 1, 0, 0), (.getfield 39, 3, 4, 1, 0), ex_no, ex_no, (.iload 7, 2, 7, 0, 0), ex_no, (.bipush 8, 2, 0, 0, 8), ex_no, (.irem, 1, 0, 0, 0), (.invokevirtual 74, 3, 33, 2, 0), ex_no, ex_no, (.istore 9, 2, 9, 0, 0), ex_no, (.aload_n 1, 1, 1, 0, 0), (.getfield 39, 3, 4, 1, 0), ex_no, ex_no, (.aload_n 1, 1, 1, 0, 0), (.getfield 39, 3, 4, 1, 0), ex_no, ex_no, (.aload_n 3, 1, 3, 0, 0), (.iload 5, 2, 5, 0, 0), ex_no, (.iaload, 1, 0, 0, 0), (.aload 4, 2, 4, 0, 0), ex_no, (.iload 6, 2, 6, 0, 0), ex_no, (.iaload, 1, 0, 0, 0), (.invokevirtual 52, 3, 31, 3, 0), ex_no, ex_no, (.iload 9, 2, 9, 0, 0), ex_no, (.invokevirtual 52, 3, 31, 3, 0), ex_no, ex_no, (.istore 10, 2, 10, 0, 0), ex_no, (.aload_n 0, 1, 0, 0, 0), (.getfield 9, 3, 0, 0, 0), ex_no, ex_no, (.iload 8, 2, 8, 0, 0), ex_no, (.aload_n 1, 1, 1, 0, 0), (.getfield 39, 3, 4, 1, 0), ex_no, ex_no, (.aload_n 0, 1, 0, 0, 0), (.getfield 9, 3, 0, 0, 0), ex_no, ex_no, (.iload 8, 2, 8, 0, 0), ex_no, (.iaload, 1, 0, 0, 0), (.iload 10, 2, 10, 0, 0), ex_no, (.invokevirtual 43, 3, 29, 3, 0), ex_no, ex_no, (.iastore, 1, 0, 0, 0), (.iinc 6 1, 3, 6, 0, 1), ex_no, ex_no, (.goto (-117), 3, 29, 0, 0), ex_no, ex_no, (.iinc 5 1, 3, 5, 0, 1), ex_no, ex_no, (.goto (-141), 3, 11, 0, 0), ex_no, ex_no, (.aload_n 0, 1, 0, 0, 0), (.getfield 9, 3, 0, 0, 0), ex_no, ex_no, (.iconst 0, 1, 0, 0, 0), (.aload_n 2, 1, 2, 0, 0), (.iconst 0, 1, 0, 0, 0), (.bipush 42, 2, 0, 0, 42), ex_no, (.invokestatic 65, 3, 1001, 0, 0), ex_no, ex_no, (.return_, 1, 0, 0, 0)]
/-- LoopStrands$Algebra.close -/
def ex_k6 : List ex_MO := [(.iconst 0, 1, 0, 0, 0), (.istore_n 3, 1, 3, 0, 0), (.iconst 0, 1, 0, 0, 0), (.istore 4, 2, 4, 0, 0), ex_no, (.iload 4, 2, 4, 0, 0), ex_no, (.aload_n 1, 1, 1, 0, 0), (.getfield 21, 3, 4, 0, 0), ex_no, ex_no, (.getfield 27, 3, 1, 2, 0), ex_no, ex_no, (.getfield 33, 3, 6, 0, 0), ex_no, ex_no, (.if_icmp .ge 49, 3, 66, 0, 0), ex_no, ex_no, (.aload_n 1, 1, 1, 0, 0), (.getfield 39, 3, 4, 1, 0), ex_no, ex_no, (.aload_n 1, 1, 1, 0, 0), (.getfield 21, 3, 4, 0, 0), ex_no, ex_no, (.iload 4, 2, 4, 0, 0), ex_no, (.invokevirtual 77, 3, 15, 2, 0), ex_no, ex_no, (.invokevirtual 74, 3, 33, 2, 0), ex_no, ex_no, (.istore 5, 2, 5, 0, 0), ex_no, (.aload_n 1, 1, 1, 0, 0), (.getfield 39, 3, 4, 1, 0), ex_no, ex_no, (.iload_n 3, 1, 3, 0, 0), (.aload_n 1, 1, 1, 0, 0), (.getfield 39, 3, 4, 1, 0), ex_no, ex_no, (.aload_n 2, 1, 2, 0, 0), (.iload 4, 2, 4, 0, 0), ex_no, (.iaload, 1, 0, 0, 0), (.iload 5, 2, 5, 0, 0), ex_no, (.invokevirtual 52, 3, 31, 3, 0), ex_no, ex_no, (.invokevirtual 43, 3, 29, 3, 0), ex_no, ex_no, (.istore_n 3, 1, 3, 0, 0), (.iinc 4 1, 3, 4, 0, 1), ex_no, ex_no, (.goto (-58), 3, 5, 0, 0), ex_no, ex_no, (.iload_n 3, 1, 3, 0, 0), (.ireturn, 1, 0, 0, 0)]
/-- LoopStrands$Algebra.makeProjector -/
def ex_k7 : List ex_MO := [(.aload_n 1, 1, 1, 0, 0), (.getfield 39, 3, 4, 1, 0), ex_no, ex_no, (.astore 4, 2, 4, 0, 0), ex_no, (.aload_n 2, 1, 2, 0, 0), (.iconst 0, 1, 0, 0, 0), (.invokestatic 55, 3, 159, 2, 0), ex_no, ex_no, (.aload_n 2, 1, 2, 0, 0), (.iconst 0, 1, 0, 0, 0), (.iconst 1, 1, 0, 0, 1), (.iastore, 1, 0, 0, 0), (.iconst 1, 1, 0, 0, 1), (.istore 5, 2, 5, 0, 0), ex_no, (.iload 5, 2, 5, 0, 0), ex_no, (.iload_n 3, 1, 3, 0, 0), (.if_icmp .ge 127, 3, 148, 0, 0), ex_no, ex_no, (.iload 5, 2, 5, 0, 0), ex_no, (.aload_n 1, 1, 1, 0, 0), (.getfield 21, 3, 4, 0, 0), ex_no, ex_no, (.getfield 80, 3, 1, 0, 0), ex_no, ex_no, (.if_icmp .ge 115, 3, 148, 0, 0), ex_no, ex_no, (.aload_n 0, 1, 0, 0, 0), (.getfield 18, 3, 0, 2, 0), ex_no, ex_no, (.iconst 0, 1, 0, 0, 0), (.invokestatic 55, 3, 159, 2, 0), ex_no, ex_no, (.aload_n 0, 1, 0, 0, 0), (.getfield 18, 3, 0, 2, 0), ex_no, ex_no, (.aload_n 1, 1, 1, 0, 0), (.getfield 21, 3, 4, 0, 0), ex_no, ex_no, (.getfield 83, 3, 1, 4, 0), ex_no, ex_no, (.iload 5, 2, 5, 0, 0), ex_no, (.iaload, 1, 0, 0, 0), (.iconst 1, 1, 0, 0, 1), (.iastore, 1, 0, 0, 0), (.aload_n 0, 1, 0, 0, 0), (.aload_n 1, 1, 1, 0, 0), (.aload_n 0, 1, 0, 0, 0), (.getfield 15, 3, 0, 1, 0), ex_no, ex_no, (.aload_n 2, 1, 2, 0, 0), (.aload_n 0, 1, 0, 0, 0), (.getfield 18, 3, 0, 2, 0), ex_no, ex_no, (.invokevirtual 86, 3, 5, 5, 0), ex_no, ex_no, (.aload_n 0, 1, 0, 0, 0), (.aload_n 1, 1, 1, 0, 0), (.aload_n 0, 1, 0, 0, 0), (.getfield 15, 3, 0, 1, 0), ex_no, ex_no, (.aload_n 0, 1, 0, 0, 0), (.getfield 15, 3, 0, 1, 0), ex_no, ex_no, (.aload_n 2, 1, 2, 0, 0), (.invokevirtual 86, 3, 5, 5, 0), ex_no, ex_no, (.aload 4, 2, 4, 0, 0), ex_no, (.aload 4, 2, 4, 0, 0), ex_no, (.iload 5, 2, 5, 0, 0), ex_no, (.iconst 1, 1, 0, 0, 1), (.iadd, 1, 0, 0, 0), (.invokevirtual 90, 3, 34, 2, 0), ex_no, ex_no, (.invokevirtual 93, 3, 32, 2, 0), ex_no, ex_no, (.istore 6, 2, 6, 0, 0), ex_no, (.aload_n 0, 1, 0, 0, 0), (.aload_n 1, 1, 1, 0, 0), (.aload_n 0, 1, 0, 0, 0), (.getfield 15, 3, 0, 1, 0), ex_no, ex_no, (.aload_n 0, 1, 0, 0, 0), (.getfield 15, 3, 0, 1, 0), ex_no, ex_no, (.aload 4, 2, 4, 0, 0), ex_no, (.aload 4, 2, 4, 0, 0), ex_no, (.iload 5, 2, 5, 0, 0), ex_no, (.invokevirtual 90, 3, 34, 2, 0), ex_no, ex_no, (.iload 6, 2, 6, 0, 0), ex_no, (.invokevirtual 52, 3, 31, 3, 0), ex_no, ex_no, (.invokevirtual 96, 3, 3, 5, 0), ex_no, ex_no, (.aload_n 0, 1, 0, 0, 0), (.aload_n 1, 1, 1, 0, 0), (.aload_n 2, 1, 2, 0, 0), (.aload_n 2, 1, 2, 0, 0), (.aload_n 0, 1, 0, 0, 0), (.getfield 15, 3, 0, 1, 0), ex_no, ex_no, (.invokevirtual 100, 3, 2, 5, 0), ex_no, ex_no, (.iinc 5 1, 3, 5, 0, 1), ex_no, ex_no, (.goto (-127), 3, 18, 0, 0), ex_no, ex_no, (.return_, 1, 0, 0, 0)]
/-- LoopStrands$Diagrams.<init> -/
def ex_k8 : List ex_MO := [(.aload_n 0, 1, 0, 0, 0), (.invokespecial 3, 3, 1000, 0, 0), ex_no, ex_no, (.aload_n 0, 1, 0, 0, 0), (.iload_n 1, 1, 1, 0, 0), (.putfield 9, 3, 1, 0, 0), ex_no, ex_no, (.aload_n 0, 1, 0, 0, 0), (.iconst 2, 1, 0, 0, 2), (.iload_n 1, 1, 1, 0, 0), (.imul, 1, 0, 0, 0), (.putfield 15, 3, 1, 1, 0), ex_no, ex_no, (.aload_n 0, 1, 0, 0, 0), (.new 18, 3, 6, 0, 0), ex_no, ex_no, (.dup, 1, 0, 0, 0), (.aload_n 0, 1, 0, 0, 0), (.getfield 15, 3, 1, 1, 0), ex_no, ex_no, (.iconst 0, 1, 0, 0, 0), (.invokespecial 20, 3, 54, 3, 0), ex_no, ex_no, (.putfield 23, 3, 1, 2, 0), ex_no, ex_no, (.aload_n 0, 1, 0, 0, 0), (.iload_n 1, 1, 1, 0, 0), (.iconst 1, 1, 0, 0, 1), (.iadd, 1, 0, 0, 0), (.anewarray 18, 3, 5, 0, 0), ex_no, ex_no, (.putfield 27, 3, 1, 3, 0), ex_no, ex_no, (.iload_n 1, 1, 1, 0, 0), (.istore_n 2, 1, 2, 0, 0), (.iload_n 2, 1, 2, 0, 0), (.ifCond .lt 24, 3, 69, 0, 0), ex_no, ex_no, (.aload_n 0, 1, 0, 0, 0), (.getfield 27, 3, 1, 3, 0), ex_no, ex_no, (.iload_n 2, 1, 2, 0, 0), (.new 18, 3, 6, 0, 0), ex_no, ex_no, (.dup, 1, 0, 0, 0), (.iload_n 1, 1, 1, 0, 0), (.iload_n 2, 1, 2, 0, 0), (.invokespecial 20, 3, 54, 3, 0), ex_no, ex_no, (.aastore, 1, 0, 0, 0), (.iinc 2 (-2), 3, 2, 0, -2), ex_no, ex_no, (.goto (-22), 3, 44, 0, 0), ex_no, ex_no, (.aload_n 0, 1, 0, 0, 0), (.aload_n 0, 1, 0, 0, 0), (.getfield 15, 3, 1, 1, 0), ex_no, ex_no, (.newarray .int, 2, 0, 0, 0), ex_no, (.putfield 31, 3, 1, 9, 0), ex_no, ex_no, (.aload_n 0, 1, 0, 0, 0), (.iload_n 1, 1, 1, 0, 0), (.newarray .int, 2, 0, 0, 0), ex_no, (.putfield 35, 3, 1, 10, 0), ex_no, ex_no, (.aload_n 0, 1, 0, 0, 0), (.iload_n 1, 1, 1, 0, 0), (.newarray .int, 2, 0, 0, 0), ex_no, (.putfield 38, 3, 1, 11, 0), ex_no, ex_no, (.aload_n 0, 1, 0, 0, 0), (.aload_n 0, 1, 0, 0, 0), (.getfield 23, 3, 1, 2, 0), ex_no, ex_no, (.getfield 41, 3, 6, 0, 0), ex_no, ex_no, (.aload_n 0, 1, 0, 0, 0), (.getfield 23, 3, 1, 2, 0), ex_no, ex_no, (.getfield 41, 3, 6, 0, 0), ex_no, ex_no, (.imul, 1, 0, 0, 0), (.newarray .int, 2, 0, 0, 0), ex_no, (.putfield 44, 3, 1, 5, 0), ex_no, ex_no, (.aload_n 0, 1, 0, 0, 0), (.getfield 44, 3, 1, 5, 0), ex_no, ex_no, (.iconst (-1), 1, 0, 0, -1), (.invokestatic 47, 3, 159, 2, 0), ex_no, ex_no, (.aload_n 0, 1, 0, 0, 0), (.iload_n 1, 1, 1, 0, 0), (.newarray .int, 2, 0, 0, 0), ex_no, (.putfield 53, 3, 1, 4, 0), ex_no, ex_no, (.iconst 1, 1, 0, 0, 1), (.istore_n 2, 1, 2, 0, 0), (.iload_n 2, 1, 2, 0, 0), (.iload_n 1, 1, 1, 0, 0), (.if_icmp .ge 20, 3, 153, 0, 0), ex_no, ex_no, (.aload_n 0, 1, 0, 0, 0), (.getfield 53, 3, 1, 4, 0), ex_no, ex_no, (.iload_n 2, 1, 2, 0, 0), (.aload_n 0, 1, 0, 0, 0), (.iload_n 2, 1, 2, 0, 0), (.invokevirtual 56, 3, 10, 2, 0), ex_no, ex_no, (.iastore, 1, 0, 0, 0), (.iinc 2 1, 3, 2, 0, 1), ex_no, ex_no, (.goto (-19), 3, 131, 0, 0), ex_no, ex_no, (.aload_n 0, 1, 0, 0, 0), (.aload_n 0, 1, 0, 0, 0), (.getfield 23, 3, 1, 2, 0), ex_no, ex_no, (.getfield 41, 3, 6, 0, 0), ex_no, ex_no, (.newarray .int, 2, 0, 0, 0), ex_no, (.putfield 60, 3, 1, 6, 0), ex_no, ex_no, (.aload_n 0, 1, 0, 0, 0), (.aload_n 0, 1, 0, 0, 0), (.getfield 23, 3, 1, 2, 0), ex_no, ex_no, (.getfield 41, 3, 6, 0, 0), ex_no, ex_no, (.newarray .int, 2, 0, 0, 0), ex_no, (.putfield 63, 3, 1, 7, 0), ex_no, ex_no, (.aload_n 0, 1, 0, 0, 0), (.aload_n 0, 1, 0, 0, 0), (.getfield 23, 3, 1, 2, 0), ex_no, ex_no, (.getfield 41, 3, 6, 0, 0), ex_no, ex_no, (.newarray .int, 2, 0, 0, 0), ex_no, (.putfield 66, 3, 1, 8, 0), ex_no, ex_no, (.aload_n 0, 1, 0, 0, 0), (.invokevirtual 69, 3, 11, 1, 0), ex_no, ex_no, (.return_, 1, 0, 0, 0)]
/-- LoopStrands$Diagrams.opposite -/
def ex_k9 : List ex_MO := [(.aload_n 0, 1, 0, 0, 0), (.getfield 15, 3, 1, 1, 0), ex_no, ex_no, (.iconst 1, 1, 0, 0, 1), (.isub, 1, 0, 0, 0), (.iload_n 1, 1, 1, 0, 0), (.isub, 1, 0, 0, 0), (.ireturn, 1, 0, 0, 0)]
/-- LoopStrands$Diagrams.findHook -/
def ex_k10 : List ex_MO := [(.iconst 0, 1, 0, 0, 0), (.istore_n 2, 1, 2, 0, 0), (.iload_n 2, 1, 2, 0, 0), (.aload_n 0, 1, 0, 0, 0), (.getfield 15, 3, 1, 1, 0), ex_no, ex_no, (.if_icmp .ge 20, 3, 27, 0, 0), ex_no, ex_no, (.aload_n 0, 1, 0, 0, 0), (.getfield 31, 3, 1, 9, 0), ex_no, ex_no, (.iload_n 2, 1, 2, 0, 0), (.aload_n 0, 1, 0, 0, 0), (.iload_n 2, 1, 2, 0, 0), (.invokevirtual 72, 3, 9, 2, 0), ex_no, ex_no, (.iastore, 1, 0, 0, 0), (.iinc 2 1, 3, 2, 0, 1), ex_no, ex_no, (.goto (-22), 3, 2, 0, 0), ex_no, ex_no, (.aload_n 0, 1, 0, 0, 0), (.getfield 31, 3, 1, 9, 0), ex_no, ex_no, (.iload_n 1, 1, 1, 0, 0), (.iconst 1, 1, 0, 0, 1), (.isub, 1, 0, 0, 0), (.iload_n 1, 1, 1, 0, 0), (.invokestatic 75, 3, 57, 3, 0), ex_no, ex_no, (.aload_n 0, 1, 0, 0, 0), (.getfield 31, 3, 1, 9, 0), ex_no, ex_no, (.aload_n 0, 1, 0, 0, 0), (.iload_n 1, 1, 1, 0, 0), (.iconst 1, 1, 0, 0, 1), (.isub, 1, 0, 0, 0), (.invokevirtual 72, 3, 9, 2, 0), ex_no, ex_no, (.aload_n 0, 1, 0, 0, 0), (.iload_n 1, 1, 1, 0, 0), (.invokevirtual 72, 3, 9, 2, 0), ex_no, ex_no, (.invokestatic 75, 3, 57, 3, 0), ex_no, ex_no, (.aload_n 0, 1, 0, 0, 0), (.getfield 23, 3, 1, 2, 0), ex_no, ex_no, (.aload_n 0, 1, 0, 0, 0), (.getfield 31, 3, 1, 9, 0), ex_no, ex_no, (.invokevirtual 79, 3, 59, 2, 0), ex_no, ex_no, (.ireturn, 1, 0, 0, 0)]
/-- LoopStrands$Diagrams.findWays -/
def ex_k11 : List ex_MO := [(.aload_n 0, 1, 0, 0, 0), (.getfield 23, 3, 1, 2, 0), ex_no, ex_no, (.getfield 41, 3, 6, 0, 0), ex_no, ex_no, (.newarray .int, 2, 0, 0, 0), ex_no, (.astore_n 1, 1, 1, 0, 0), (.iconst 1, 1, 0, 0, 1), (.istore_n 2, 1, 2, 0, 0), (.aload_n 0, 1, 0, 0, 0), (.getfield 60, 3, 1, 6, 0), ex_no, ex_no, (.iconst (-1), 1, 0, 0, -1), (.invokestatic 47, 3, 159, 2, 0), ex_no, ex_no, (.aload_n 0, 1, 0, 0, 0), (.getfield 60, 3, 1, 6, 0), ex_no, ex_no, (.iconst 0, 1, 0, 0, 0), (.iconst 0, 1, 0, 0, 0), (.iastore, 1, 0, 0, 0), (.iconst 0, 1, 0, 0, 0), (.istore_n 3, 1, 3, 0, 0), (.iload_n 3, 1, 3, 0, 0), (.aload_n 0, 1, 0, 0, 0), (.getfield 23, 3, 1, 2, 0), ex_no, ex_no, (.getfield 41, 3, 6, 0, 0), ex_no, ex_no, (.if_icmp .ge 109, 3, 146, 0, 0), ex_no, ex_no, (.aload_n 1, 1, 1, 0, 0), (.iload_n 3, 1, 3, 0, 0), (.iaload, 1, 0, 0, 0), (.istore 4, 2, 4, 0, 0), ex_no, (.iconst 1, 1, 0, 0, 1), (.istore 5, 2, 5, 0, 0), ex_no, (.iload 5, 2, 5, 0, 0), ex_no, (.aload_n 0, 1, 0, 0, 0), (.getfield 9, 3, 1, 0, 0), ex_no, ex_no, (.if_icmp .ge 86, 3, 140, 0, 0), ex_no, ex_no, (.aload_n 0, 1, 0, 0, 0), (.iload 4, 2, 4, 0, 0), ex_no, (.aload_n 0, 1, 0, 0, 0), (.getfield 53, 3, 1, 4, 0), ex_no, ex_no, (.iload 5, 2, 5, 0, 0), ex_no, (.iaload, 1, 0, 0, 0), (.invokevirtual 83, 3, 19, 3, 0), ex_no, ex_no, (.bipush 8, 2, 0, 0, 8), ex_no, (.idiv, 1, 0, 0, 0), (.istore 6, 2, 6, 0, 0), ex_no, (.aload_n 0, 1, 0, 0, 0), (.getfield 60, 3, 1, 6, 0), ex_no, ex_no, (.iload 6, 2, 6, 0, 0), ex_no, (.iaload, 1, 0, 0, 0), (.iconst (-1), 1, 0, 0, -1), (.if_icmp .ne 51, 3, 134, 0, 0), ex_no, ex_no, (.iload_n 2, 1, 2, 0, 0), (.aload_n 1, 1, 1, 0, 0), (.arraylength, 1, 0, 0, 0), (.if_icmp .ge 45, 3, 134, 0, 0), ex_no, ex_no, (.aload_n 0, 1, 0, 0, 0), (.getfield 60, 3, 1, 6, 0), ex_no, ex_no, (.iload 6, 2, 6, 0, 0), ex_no, (.aload_n 0, 1, 0, 0, 0), (.getfield 60, 3, 1, 6, 0), ex_no, ex_no, (.iload 4, 2, 4, 0, 0), ex_no, (.iaload, 1, 0, 0, 0), (.iconst 1, 1, 0, 0, 1), (.iadd, 1, 0, 0, 0), (.iastore, 1, 0, 0, 0), (.aload_n 0, 1, 0, 0, 0), (.getfield 63, 3, 1, 7, 0), ex_no, ex_no, (.iload 6, 2, 6, 0, 0), ex_no, (.iload 4, 2, 4, 0, 0), ex_no, (.iastore, 1, 0, 0, 0), (.aload_n 0, 1, 0, 0, 0), (.getfield 66, 3, 1, 8, 0), ex_no, ex_no, (.iload 6, 2, 6, 0, 0), ex_no, (.iload 5, 2, 5, 0, 0), ex_no, (.iastore, 1, 0, 0, 0), (.aload_n 1, 1, 1, 0, 0), (.iload_n 2, 1, 2, 0, 0), (.iload 6, 2, 6, 0, 0), ex_no, (.iastore, 1, 0, 0, 0), (.iinc 2 1, 3, 2, 0, 1), ex_no, ex_no, (.iinc 5 1, 3, 5, 0, 1), ex_no, ex_no, (.goto (-89), 3, 48, 0, 0), ex_no, ex_no, (.iinc 3 1, 3, 3, 0, 1), ex_no, ex_no, (.goto (-114), 3, 29, 0, 0), ex_no, ex_no, (.return_, 1, 0, 0, 0)]
/-- LoopStrands$Diagrams.wayLength -/
def ex_k12 : List ex_MO := [(.aload_n 0, 1, 0, 0, 0), (.getfield 60, 3, 1, 6, 0), ex_no, ex_no, (.iload_n 1, 1, 1, 0, 0), (.iaload, 1, 0, 0, 0), (.ireturn, 1, 0, 0, 0)]
/-- LoopStrands$Diagrams.wayHook -/
def ex_k13 : List ex_MO := [(.iload_n 2, 1, 2, 0, 0), (.ifCond .lt 13, 3, 14, 0, 0), ex_no, ex_no, (.iload_n 2, 1, 2, 0, 0), (.aload_n 0, 1, 0, 0, 0), (.getfield 60, 3, 1, 6, 0), ex_no, ex_no, (.iload_n 1, 1, 1, 0, 0), (.iaload, 1, 0, 0, 0), (.if_icmp .lt 6, 3, 17, 0, 0), ex_no, ex_no, (.bipush (-6), 2, 0, 0, -6), ex_no, (.ireturn, 1, 0, 0, 0), (.iload_n 1, 1, 1, 0, 0), (.istore_n 3, 1, 3, 0, 0), (.aload_n 0, 1, 0, 0, 0), (.getfield 60, 3, 1, 6, 0), ex_no, ex_no, (.iload_n 1, 1, 1, 0, 0), (.iaload, 1, 0, 0, 0), (.iconst 1, 1, 0, 0, 1), (.isub, 1, 0, 0, 0), (.istore 4, 2, 4, 0, 0), ex_no, (.iload 4, 2, 4, 0, 0), ex_no, (.iload_n 2, 1, 2, 0, 0), (.if_icmp .le 16, 3, 48, 0, 0), ex_no, ex_no, (.aload_n 0, 1, 0, 0, 0), (.getfield 63, 3, 1, 7, 0), ex_no, ex_no, (.iload_n 3, 1, 3, 0, 0), (.iaload, 1, 0, 0, 0), (.istore_n 3, 1, 3, 0, 0), (.iinc 4 (-1), 3, 4, 0, -1), ex_no, ex_no, (.goto (-16), 3, 29, 0, 0), ex_no, ex_no, (.aload_n 0, 1, 0, 0, 0), (.getfield 66, 3, 1, 8, 0), ex_no, ex_no, (.iload_n 3, 1, 3, 0, 0), (.iaload, 1, 0, 0, 0), (.ireturn, 1, 0, 0, 0)]
/-- LoopStrands$Diagrams.through -/
def ex_k14 : List ex_MO := [(.iconst 0, 1, 0, 0, 0), (.istore_n 2, 1, 2, 0, 0), (.iconst 0, 1, 0, 0, 0), (.istore_n 3, 1, 3, 0, 0), (.iload_n 3, 1, 3, 0, 0), (.aload_n 0, 1, 0, 0, 0), (.getfield 9, 3, 1, 0, 0), ex_no, ex_no, (.if_icmp .ge 30, 3, 39, 0, 0), ex_no, ex_no, (.aload_n 0, 1, 0, 0, 0), (.getfield 23, 3, 1, 2, 0), ex_no, ex_no, (.getfield 87, 3, 6, 1, 0), ex_no, ex_no, (.iload_n 1, 1, 1, 0, 0), (.aaload, 1, 0, 0, 0), (.iload_n 3, 1, 3, 0, 0), (.iaload, 1, 0, 0, 0), (.aload_n 0, 1, 0, 0, 0), (.getfield 9, 3, 1, 0, 0), ex_no, ex_no, (.if_icmp .lt 6, 3, 33, 0, 0), ex_no, ex_no, (.iinc 2 1, 3, 2, 0, 1), ex_no, ex_no, (.iinc 3 1, 3, 3, 0, 1), ex_no, ex_no, (.goto (-32), 3, 4, 0, 0), ex_no, ex_no, (.iload_n 2, 1, 2, 0, 0), (.ireturn, 1, 0, 0, 0)]
/-- LoopStrands$Diagrams.closedLoops -/
def ex_k15 : List ex_MO := [(.aload_n 0, 1, 0, 0, 0), (.getfield 23, 3, 1, 2, 0), ex_no, ex_no, (.getfield 87, 3, 6, 1, 0), ex_no, ex_no, (.iload_n 1, 1, 1, 0, 0), (.aaload, 1, 0, 0, 0), (.aload_n 0, 1, 0, 0, 0), (.getfield 23, 3, 1, 2, 0), ex_no, ex_no, (.getfield 87, 3, 6, 1, 0), ex_no, ex_no, (.iconst 0, 1, 0, 0, 0), (.aaload, 1, 0, 0, 0), (.invokestatic 91, 3, 22, 2, 0), ex_no, ex_no, (.ireturn, 1, 0, 0, 0)]
/-- LoopStrands$Diagrams.turned -/
def ex_k16 : List ex_MO := [(.iconst 0, 1, 0, 0, 0), (.istore_n 2, 1, 2, 0, 0), (.iload_n 2, 1, 2, 0, 0), (.aload_n 0, 1, 0, 0, 0), (.getfield 15, 3, 1, 1, 0), ex_no, ex_no, (.if_icmp .ge 34, 3, 41, 0, 0), ex_no, ex_no, (.aload_n 0, 1, 0, 0, 0), (.getfield 31, 3, 1, 9, 0), ex_no, ex_no, (.aload_n 0, 1, 0, 0, 0), (.iload_n 2, 1, 2, 0, 0), (.invokevirtual 72, 3, 9, 2, 0), ex_no, ex_no, (.aload_n 0, 1, 0, 0, 0), (.aload_n 0, 1, 0, 0, 0), (.getfield 23, 3, 1, 2, 0), ex_no, ex_no, (.getfield 87, 3, 6, 1, 0), ex_no, ex_no, (.iload_n 1, 1, 1, 0, 0), (.aaload, 1, 0, 0, 0), (.iload_n 2, 1, 2, 0, 0), (.iaload, 1, 0, 0, 0), (.invokevirtual 72, 3, 9, 2, 0), ex_no, ex_no, (.iastore, 1, 0, 0, 0), (.iinc 2 1, 3, 2, 0, 1), ex_no, ex_no, (.goto (-36), 3, 2, 0, 0), ex_no, ex_no, (.aload_n 0, 1, 0, 0, 0), (.getfield 23, 3, 1, 2, 0), ex_no, ex_no, (.aload_n 0, 1, 0, 0, 0), (.getfield 31, 3, 1, 9, 0), ex_no, ex_no, (.invokevirtual 79, 3, 59, 2, 0), ex_no, ex_no, (.ireturn, 1, 0, 0, 0)]
/-- LoopStrands$Diagrams.stackDiagram -/
def ex_k17 : List ex_MO := [(.aload_n 0, 1, 0, 0, 0), (.iload_n 1, 1, 1, 0, 0), (.iload_n 2, 1, 2, 0, 0), (.invokevirtual 83, 3, 19, 3, 0), ex_no, ex_no, (.bipush 8, 2, 0, 0, 8), ex_no, (.idiv, 1, 0, 0, 0), (.ireturn, 1, 0, 0, 0)]
/-- LoopStrands$Diagrams.stackLoops -/
def ex_k18 : List ex_MO := [(.aload_n 0, 1, 0, 0, 0), (.iload_n 1, 1, 1, 0, 0), (.iload_n 2, 1, 2, 0, 0), (.invokevirtual 83, 3, 19, 3, 0), ex_no, ex_no, (.bipush 8, 2, 0, 0, 8), ex_no, (.irem, 1, 0, 0, 0), (.ireturn, 1, 0, 0, 0)]
/-- LoopStrands$Diagrams.packedStack -/
def ex_k19 : List ex_MO := [(.iload_n 1, 1, 1, 0, 0), (.aload_n 0, 1, 0, 0, 0), (.getfield 23, 3, 1, 2, 0), ex_no, ex_no, (.getfield 41, 3, 6, 0, 0), ex_no, ex_no, (.imul, 1, 0, 0, 0), (.iload_n 2, 1, 2, 0, 0), (.iadd, 1, 0, 0, 0), (.istore_n 3, 1, 3, 0, 0), (.aload_n 0, 1, 0, 0, 0), (.getfield 44, 3, 1, 5, 0), ex_no, ex_no, (.iload_n 3, 1, 3, 0, 0), (.iaload, 1, 0, 0, 0), (.iconst (-1), 1, 0, 0, -1), (.if_icmp .ne 89, 3, 108, 0, 0), ex_no, ex_no, (.aload_n 0, 1, 0, 0, 0), (.getfield 23, 3, 1, 2, 0), ex_no, ex_no, (.getfield 87, 3, 6, 1, 0), ex_no, ex_no, (.iload_n 1, 1, 1, 0, 0), (.aaload, 1, 0, 0, 0), (.astore 4, 2, 4, 0, 0), ex_no, (.aload_n 0, 1, 0, 0, 0), (.getfield 23, 3, 1, 2, 0), ex_no, ex_no, (.getfield 87, 3, 6, 1, 0), ex_no, ex_no, (.iload_n 2, 1, 2, 0, 0), (.aaload, 1, 0, 0, 0), (.astore 5, 2, 5, 0, 0), ex_no, (.iconst 0, 1, 0, 0, 0), (.istore 6, 2, 6, 0, 0), ex_no, (.iload 6, 2, 6, 0, 0), ex_no, (.aload_n 0, 1, 0, 0, 0), (.getfield 15, 3, 1, 1, 0), ex_no, ex_no, (.if_icmp .ge 26, 3, 79, 0, 0), ex_no, ex_no, (.aload_n 0, 1, 0, 0, 0), (.getfield 31, 3, 1, 9, 0), ex_no, ex_no, (.iload 6, 2, 6, 0, 0), ex_no, (.aload_n 0, 1, 0, 0, 0), (.aload 4, 2, 4, 0, 0), ex_no, (.aload 5, 2, 5, 0, 0), ex_no, (.iload 6, 2, 6, 0, 0), ex_no, (.invokevirtual 97, 3, 20, 4, 0), ex_no, ex_no, (.iastore, 1, 0, 0, 0), (.iinc 6 1, 3, 6, 0, 1), ex_no, ex_no, (.goto (-29), 3, 47, 0, 0), ex_no, ex_no, (.aload_n 0, 1, 0, 0, 0), (.getfield 44, 3, 1, 5, 0), ex_no, ex_no, (.iload_n 3, 1, 3, 0, 0), (.bipush 8, 2, 0, 0, 8), ex_no, (.aload_n 0, 1, 0, 0, 0), (.getfield 23, 3, 1, 2, 0), ex_no, ex_no, (.aload_n 0, 1, 0, 0, 0), (.getfield 31, 3, 1, 9, 0), ex_no, ex_no, (.invokevirtual 79, 3, 59, 2, 0), ex_no, ex_no, (.imul, 1, 0, 0, 0), (.aload_n 0, 1, 0, 0, 0), (.aload 4, 2, 4, 0, 0), ex_no, (.aload 5, 2, 5, 0, 0), ex_no, (.invokevirtual 101, 3, 21, 3, 0), ex_no, ex_no, (.iadd, 1, 0, 0, 0), (.iastore, 1, 0, 0, 0), (.aload_n 0, 1, 0, 0, 0), (.getfield 44, 3, 1, 5, 0), ex_no, ex_no, (.iload_n 3, 1, 3, 0, 0), (.iaload, 1, 0, 0, 0), (.ireturn, 1, 0, 0, 0)]
/-- LoopStrands$Diagrams.farEnd -/
def ex_k20 : List ex_MO := [(.iload_n 3, 1, 3, 0, 0), (.aload_n 0, 1, 0, 0, 0), (.getfield 9, 3, 1, 0, 0), ex_no, ex_no, (.if_icmp .ge 7, 3, 12, 0, 0), ex_no, ex_no, (.iconst 1, 1, 0, 0, 1), (.goto 4, 3, 13, 0, 0), ex_no, ex_no, (.iconst 0, 1, 0, 0, 0), (.istore 4, 2, 4, 0, 0), ex_no, (.iload_n 3, 1, 3, 0, 0), (.istore 5, 2, 5, 0, 0), ex_no, (.iconst 0, 1, 0, 0, 0), (.istore 6, 2, 6, 0, 0), ex_no, (.iload 6, 2, 6, 0, 0), ex_no, (.aload_n 0, 1, 0, 0, 0), (.getfield 15, 3, 1, 1, 0), ex_no, ex_no, (.if_icmp .ge 69, 3, 96, 0, 0), ex_no, ex_no, (.iload 4, 2, 4, 0, 0), ex_no, (.ifCond .eq 10, 3, 42, 0, 0), ex_no, ex_no, (.aload_n 1, 1, 1, 0, 0), (.iload 5, 2, 5, 0, 0), ex_no, (.iaload, 1, 0, 0, 0), (.goto 7, 3, 46, 0, 0), ex_no, ex_no, (.aload_n 2, 1, 2, 0, 0), (.iload 5, 2, 5, 0, 0), ex_no, (.iaload, 1, 0, 0, 0), (.istore 7, 2, 7, 0, 0), ex_no, (.iload 7, 2, 7, 0, 0), ex_no, (.aload_n 0, 1, 0, 0, 0), (.getfield 9, 3, 1, 0, 0), ex_no, ex_no, (.if_icmp .ge 7, 3, 61, 0, 0), ex_no, ex_no, (.iconst 1, 1, 0, 0, 1), (.goto 4, 3, 62, 0, 0), ex_no, ex_no, (.iconst 0, 1, 0, 0, 0), (.iload 4, 2, 4, 0, 0), ex_no, (.if_icmp .ne 6, 3, 70, 0, 0), ex_no, ex_no, (.iload 7, 2, 7, 0, 0), ex_no, (.ireturn, 1, 0, 0, 0), (.aload_n 0, 1, 0, 0, 0), (.iload 7, 2, 7, 0, 0), ex_no, (.invokevirtual 72, 3, 9, 2, 0), ex_no, ex_no, (.istore 5, 2, 5, 0, 0), ex_no, (.iload 4, 2, 4, 0, 0), ex_no, (.ifCond .ne 7, 3, 87, 0, 0), ex_no, ex_no, (.iconst 1, 1, 0, 0, 1), (.goto 4, 3, 88, 0, 0), ex_no, ex_no, (.iconst 0, 1, 0, 0, 0), (.istore 4, 2, 4, 0, 0), ex_no, (.iinc 6 1, 3, 6, 0, 1), ex_no, ex_no, (.goto (-72), 3, 21, 0, 0), ex_no, ex_no, (.iload_n 3, 1, 3, 0, 0), (.ireturn, 1, 0, 0, 0)]
/-- LoopStrands$Diagrams.loopsBetween -/
def ex_k21 : List ex_MO := [(.iconst 0, 1, 0, 0, 0), (.istore_n 3, 1, 3, 0, 0), (.iload_n 3, 1, 3, 0, 0), (.aload_n 0, 1, 0, 0, 0), (.getfield 9, 3, 1, 0, 0), ex_no, ex_no, (.if_icmp .ge 66, 3, 73, 0, 0), ex_no, ex_no, (.aload_n 1, 1, 1, 0, 0), (.aload_n 0, 1, 0, 0, 0), (.iload_n 3, 1, 3, 0, 0), (.invokevirtual 72, 3, 9, 2, 0), ex_no, ex_no, (.iaload, 1, 0, 0, 0), (.istore 4, 2, 4, 0, 0), ex_no, (.aload_n 0, 1, 0, 0, 0), (.getfield 35, 3, 1, 10, 0), ex_no, ex_no, (.iload_n 3, 1, 3, 0, 0), (.iload 4, 2, 4, 0, 0), ex_no, (.aload_n 0, 1, 0, 0, 0), (.getfield 9, 3, 1, 0, 0), ex_no, ex_no, (.if_icmp .ge 7, 3, 37, 0, 0), ex_no, ex_no, (.iconst (-1), 1, 0, 0, -1), (.goto 9, 3, 43, 0, 0), ex_no, ex_no, (.aload_n 0, 1, 0, 0, 0), (.iload 4, 2, 4, 0, 0), ex_no, (.invokevirtual 72, 3, 9, 2, 0), ex_no, ex_no, (.iastore, 1, 0, 0, 0), (.aload_n 0, 1, 0, 0, 0), (.getfield 38, 3, 1, 11, 0), ex_no, ex_no, (.iload_n 3, 1, 3, 0, 0), (.aload_n 2, 1, 2, 0, 0), (.iload_n 3, 1, 3, 0, 0), (.iaload, 1, 0, 0, 0), (.aload_n 0, 1, 0, 0, 0), (.getfield 9, 3, 1, 0, 0), ex_no, ex_no, (.if_icmp .ge 9, 3, 65, 0, 0), ex_no, ex_no, (.aload_n 2, 1, 2, 0, 0), (.iload_n 3, 1, 3, 0, 0), (.iaload, 1, 0, 0, 0), (.goto 4, 3, 66, 0, 0), ex_no, ex_no, (.iconst (-1), 1, 0, 0, -1), (.iastore, 1, 0, 0, 0), (.iinc 3 1, 3, 3, 0, 1), ex_no, ex_no, (.goto (-68), 3, 2, 0, 0), ex_no, ex_no, (.aload_n 0, 1, 0, 0, 0), (.getfield 35, 3, 1, 10, 0), ex_no, ex_no, (.aload_n 0, 1, 0, 0, 0), (.getfield 38, 3, 1, 11, 0), ex_no, ex_no, (.invokestatic 91, 3, 22, 2, 0), ex_no, ex_no, (.ireturn, 1, 0, 0, 0)]
/-- LoopStrands$Gluing.closedLoops -/
def ex_k22 : List ex_MO := [(.iconst 0, 1, 0, 0, 0), (.istore_n 2, 1, 2, 0, 0), (.iconst 0, 1, 0, 0, 0), (.istore_n 3, 1, 3, 0, 0), (.iload_n 3, 1, 3, 0, 0), (.aload_n 0, 1, 0, 0, 0), (.arraylength, 1, 0, 0, 0), (.if_icmp .ge 21, 3, 28, 0, 0), ex_no, ex_no, (.aload_n 0, 1, 0, 0, 0), (.aload_n 1, 1, 1, 0, 0), (.iload_n 3, 1, 3, 0, 0), (.invokestatic 9, 3, 23, 3, 0), ex_no, ex_no, (.ifCond .eq 6, 3, 22, 0, 0), ex_no, ex_no, (.iinc 2 1, 3, 2, 0, 1), ex_no, ex_no, (.iinc 3 1, 3, 3, 0, 1), ex_no, ex_no, (.goto (-21), 3, 4, 0, 0), ex_no, ex_no, (.iload_n 2, 1, 2, 0, 0), (.ireturn, 1, 0, 0, 0)]
/-- LoopStrands$Gluing.isLeastOfLoop -/
def ex_k23 : List ex_MO := [(.iload_n 2, 1, 2, 0, 0), (.istore_n 3, 1, 3, 0, 0), (.iconst 0, 1, 0, 0, 0), (.istore 4, 2, 4, 0, 0), ex_no, (.iload 4, 2, 4, 0, 0), ex_no, (.aload_n 0, 1, 0, 0, 0), (.arraylength, 1, 0, 0, 0), (.if_icmp .ge 52, 3, 61, 0, 0), ex_no, ex_no, (.aload_n 0, 1, 0, 0, 0), (.iload_n 3, 1, 3, 0, 0), (.iaload, 1, 0, 0, 0), (.istore 5, 2, 5, 0, 0), ex_no, (.iload 5, 2, 5, 0, 0), ex_no, (.iconst (-1), 1, 0, 0, -1), (.if_icmp .eq 9, 3, 29, 0, 0), ex_no, ex_no, (.iload 5, 2, 5, 0, 0), ex_no, (.iload_n 2, 1, 2, 0, 0), (.if_icmp .ge 5, 3, 31, 0, 0), ex_no, ex_no, (.iconst 0, 1, 0, 0, 0), (.ireturn, 1, 1, 0, 0), (.aload_n 1, 1, 1, 0, 0), (.iload 5, 2, 5, 0, 0), ex_no, (.iaload, 1, 0, 0, 0), (.istore_n 3, 1, 3, 0, 0), (.iload_n 3, 1, 3, 0, 0), (.iconst (-1), 1, 0, 0, -1), (.if_icmp .eq 8, 3, 46, 0, 0), ex_no, ex_no, (.iload_n 3, 1, 3, 0, 0), (.iload_n 2, 1, 2, 0, 0), (.if_icmp .ge 5, 3, 48, 0, 0), ex_no, ex_no, (.iconst 0, 1, 0, 0, 0), (.ireturn, 1, 1, 0, 0), (.iload_n 3, 1, 3, 0, 0), (.iload_n 2, 1, 2, 0, 0), (.if_icmp .ne 5, 3, 55, 0, 0), ex_no, ex_no, (.iconst 1, 1, 0, 0, 1), (.ireturn, 1, 1, 0, 0), (.iinc 4 1, 3, 4, 0, 1), ex_no, ex_no, (.goto (-53), 3, 5, 0, 0), ex_no, ex_no, (.iconst 0, 1, 0, 0, 0), (.ireturn, 1, 1, 0, 0)]
/-- LoopStrands$Gluing.leadsAcross -/
def ex_k24 : List ex_MO := [(.iload_n 2, 1, 2, 0, 0), (.istore_n 3, 1, 3, 0, 0), (.iconst 0, 1, 0, 0, 0), (.istore 4, 2, 4, 0, 0), ex_no, (.iload 4, 2, 4, 0, 0), ex_no, (.aload_n 0, 1, 0, 0, 0), (.arraylength, 1, 0, 0, 0), (.if_icmp .ge 34, 3, 43, 0, 0), ex_no, ex_no, (.aload_n 1, 1, 1, 0, 0), (.iload_n 3, 1, 3, 0, 0), (.iaload, 1, 0, 0, 0), (.istore 5, 2, 5, 0, 0), ex_no, (.iload 5, 2, 5, 0, 0), ex_no, (.iconst (-1), 1, 0, 0, -1), (.if_icmp .ne 5, 3, 25, 0, 0), ex_no, ex_no, (.iconst 1, 1, 0, 0, 1), (.ireturn, 1, 1, 0, 0), (.aload_n 0, 1, 0, 0, 0), (.iload 5, 2, 5, 0, 0), ex_no, (.iaload, 1, 0, 0, 0), (.istore_n 3, 1, 3, 0, 0), (.iload_n 3, 1, 3, 0, 0), (.iconst (-1), 1, 0, 0, -1), (.if_icmp .ne 5, 3, 37, 0, 0), ex_no, ex_no, (.iconst 0, 1, 0, 0, 0), (.ireturn, 1, 1, 0, 0), (.iinc 4 1, 3, 4, 0, 1), ex_no, ex_no, (.goto (-35), 3, 5, 0, 0), ex_no, ex_no, (.iconst 0, 1, 0, 0, 0), (.ireturn, 1, 1, 0, 0)]
/-- LoopStrands$Gluing.formNumber -/
def ex_k25 : List ex_MO := [(.iconst 0, 1, 0, 0, 0), (.istore_n 3, 1, 3, 0, 0), (.iload_n 3, 1, 3, 0, 0), (.aload_n 1, 1, 1, 0, 0), (.arraylength, 1, 0, 0, 0), (.if_icmp .ge 27, 3, 32, 0, 0), ex_no, ex_no, (.aload_n 1, 1, 1, 0, 0), (.iload_n 3, 1, 3, 0, 0), (.iaload, 1, 0, 0, 0), (.iconst (-1), 1, 0, 0, -1), (.if_icmp .ne 14, 3, 26, 0, 0), ex_no, ex_no, (.aload_n 1, 1, 1, 0, 0), (.aload_n 2, 1, 2, 0, 0), (.iload_n 3, 1, 3, 0, 0), (.invokestatic 15, 3, 24, 3, 0), ex_no, ex_no, (.ifCond .ne 5, 3, 26, 0, 0), ex_no, ex_no, (.iconst 0, 1, 0, 0, 0), (.ireturn, 1, 0, 0, 0), (.iinc 3 1, 3, 3, 0, 1), ex_no, ex_no, (.goto (-27), 3, 2, 0, 0), ex_no, ex_no, (.aload_n 0, 1, 0, 0, 0), (.aload_n 1, 1, 1, 0, 0), (.aload_n 2, 1, 2, 0, 0), (.invokestatic 18, 3, 22, 2, 0), ex_no, ex_no, (.invokevirtual 22, 3, 33, 2, 0), ex_no, ex_no, (.ireturn, 1, 0, 0, 0)]
/-- LoopStrands$Numbers.<init> -/
def ex_k26 : List ex_MO := [(.aload_n 0, 1, 0, 0, 0), (.invokespecial 3, 3, 1000, 0, 0), ex_no, ex_no, (.aload_n 0, 1, 0, 0, 0), (.bipush 6, 2, 0, 0, 6), ex_no, (.newarray .int, 2, 0, 0, 0), ex_no, (.putfield 9, 3, 2, 2, 0), ex_no, ex_no, (.return_, 1, 0, 0, 0)]
/-- LoopStrands$Numbers.tell -/
def ex_k27 : List ex_MO := [(.aload_n 0, 1, 0, 0, 0), (.iload_n 1, 1, 1, 0, 0), (.putfield 15, 3, 2, 0, 0), ex_no, ex_no, (.aload_n 0, 1, 0, 0, 0), (.iload_n 2, 1, 2, 0, 0), (.putfield 19, 3, 2, 1, 0), ex_no, ex_no, (.aload_n 0, 1, 0, 0, 0), (.getfield 9, 3, 2, 2, 0), ex_no, ex_no, (.iconst 0, 1, 0, 0, 0), (.iconst 1, 1, 0, 0, 1), (.iastore, 1, 0, 0, 0), (.iconst 1, 1, 0, 0, 1), (.istore_n 3, 1, 3, 0, 0), (.iload_n 3, 1, 3, 0, 0), (.aload_n 0, 1, 0, 0, 0), (.getfield 9, 3, 2, 2, 0), ex_no, ex_no, (.arraylength, 1, 0, 0, 0), (.if_icmp .ge 28, 3, 53, 0, 0), ex_no, ex_no, (.aload_n 0, 1, 0, 0, 0), (.getfield 9, 3, 2, 2, 0), ex_no, ex_no, (.iload_n 3, 1, 3, 0, 0), (.aload_n 0, 1, 0, 0, 0), (.aload_n 0, 1, 0, 0, 0), (.getfield 9, 3, 2, 2, 0), ex_no, ex_no, (.iload_n 3, 1, 3, 0, 0), (.iconst 1, 1, 0, 0, 1), (.isub, 1, 0, 0, 0), (.iaload, 1, 0, 0, 0), (.iload_n 2, 1, 2, 0, 0), (.invokevirtual 22, 3, 31, 3, 0), ex_no, ex_no, (.iastore, 1, 0, 0, 0), (.iinc 3 1, 3, 3, 0, 1), ex_no, ex_no, (.goto (-31), 3, 19, 0, 0), ex_no, ex_no, (.return_, 1, 0, 0, 0)]
/-- LoopStrands$Numbers.leftOver -/
def ex_k28 : List ex_MO := [(.aload_n 0, 1, 0, 0, 0), (.getfield 15, 3, 2, 0, 0), ex_no, ex_no, (.iconst 2, 1, 0, 0, 2), (.if_icmp .ge 5, 3, 10, 0, 0), ex_no, ex_no, (.iconst 0, 1, 0, 0, 0), (.ireturn, 1, 0, 0, 0), (.iload_n 1, 1, 1, 0, 0), (.aload_n 0, 1, 0, 0, 0), (.getfield 15, 3, 2, 0, 0), ex_no, ex_no, (.irem, 1, 0, 0, 0), (.istore_n 2, 1, 2, 0, 0), (.iload_n 2, 1, 2, 0, 0), (.ifCond .ge 12, 3, 30, 0, 0), ex_no, ex_no, (.iload_n 2, 1, 2, 0, 0), (.aload_n 0, 1, 0, 0, 0), (.getfield 15, 3, 2, 0, 0), ex_no, ex_no, (.iadd, 1, 0, 0, 0), (.goto 4, 3, 31, 0, 0), ex_no, ex_no, (.iload_n 2, 1, 2, 0, 0), (.ireturn, 1, 0, 0, 0)]
/-- LoopStrands$Numbers.add -/
def ex_k29 : List ex_MO := [(.aload_n 0, 1, 0, 0, 0), (.iload_n 1, 1, 1, 0, 0), (.iload_n 2, 1, 2, 0, 0), (.iadd, 1, 0, 0, 0), (.invokevirtual 26, 3, 28, 2, 0), ex_no, ex_no, (.ireturn, 1, 0, 0, 0)]
/-- LoopStrands$Numbers.subtract -/
def ex_k30 : List ex_MO := [(.aload_n 0, 1, 0, 0, 0), (.iload_n 1, 1, 1, 0, 0), (.iload_n 2, 1, 2, 0, 0), (.isub, 1, 0, 0, 0), (.invokevirtual 26, 3, 28, 2, 0), ex_no, ex_no, (.ireturn, 1, 0, 0, 0)]
/-- LoopStrands$Numbers.multiply -/
def ex_k31 : List ex_MO := [(.aload_n 0, 1, 0, 0, 0), (.iload_n 1, 1, 1, 0, 0), (.iload_n 2, 1, 2, 0, 0), (.imul, 1, 0, 0, 0), (.invokevirtual 26, 3, 28, 2, 0), ex_no, ex_no, (.ireturn, 1, 0, 0, 0)]
/-- LoopStrands$Numbers.inverse -/
def ex_k32 : List ex_MO := [(.iconst 1, 1, 0, 0, 1), (.istore_n 2, 1, 2, 0, 0), (.iload_n 2, 1, 2, 0, 0), (.aload_n 0, 1, 0, 0, 0), (.getfield 15, 3, 2, 0, 0), ex_no, ex_no, (.if_icmp .ge 21, 3, 28, 0, 0), ex_no, ex_no, (.aload_n 0, 1, 0, 0, 0), (.iload_n 1, 1, 1, 0, 0), (.iload_n 2, 1, 2, 0, 0), (.invokevirtual 22, 3, 31, 3, 0), ex_no, ex_no, (.iconst 1, 1, 0, 0, 1), (.if_icmp .ne 5, 3, 22, 0, 0), ex_no, ex_no, (.iload_n 2, 1, 2, 0, 0), (.ireturn, 1, 0, 0, 0), (.iinc 2 1, 3, 2, 0, 1), ex_no, ex_no, (.goto (-23), 3, 2, 0, 0), ex_no, ex_no, (.iconst 0, 1, 0, 0, 0), (.ireturn, 1, 0, 0, 0)]
/-- LoopStrands$Numbers.loopPower -/
def ex_k33 : List ex_MO := [(.iload_n 1, 1, 1, 0, 0), (.iconst 0, 1, 0, 0, 0), (.iconst 5, 1, 0, 0, 5), (.invokestatic 30, 3, 85, 3, 0), ex_no, ex_no, (.ifCond .eq 12, 3, 18, 0, 0), ex_no, ex_no, (.aload_n 0, 1, 0, 0, 0), (.getfield 9, 3, 2, 2, 0), ex_no, ex_no, (.iload_n 1, 1, 1, 0, 0), (.iaload, 1, 0, 0, 0), (.goto 4, 3, 19, 0, 0), ex_no, ex_no, (.iconst 0, 1, 0, 0, 0), (.ireturn, 1, 0, 0, 0)]
/-- LoopStrands$Numbers.bracketOf -/
def ex_k34 : List ex_MO := [(.iconst 0, 1, 0, 0, 0), (.istore_n 2, 1, 2, 0, 0), (.iconst 1, 1, 0, 0, 1), (.istore_n 3, 1, 3, 0, 0), (.iconst 0, 1, 0, 0, 0), (.istore 4, 2, 4, 0, 0), ex_no, (.iload 4, 2, 4, 0, 0), ex_no, (.iload_n 1, 1, 1, 0, 0), (.if_icmp .ge 30, 3, 40, 0, 0), ex_no, ex_no, (.aload_n 0, 1, 0, 0, 0), (.aload_n 0, 1, 0, 0, 0), (.aload_n 0, 1, 0, 0, 0), (.getfield 19, 3, 2, 1, 0), ex_no, ex_no, (.iload_n 3, 1, 3, 0, 0), (.invokevirtual 22, 3, 31, 3, 0), ex_no, ex_no, (.iload_n 2, 1, 2, 0, 0), (.invokevirtual 34, 3, 30, 3, 0), ex_no, ex_no, (.istore 5, 2, 5, 0, 0), ex_no, (.iload_n 3, 1, 3, 0, 0), (.istore_n 2, 1, 2, 0, 0), (.iload 5, 2, 5, 0, 0), ex_no, (.istore_n 3, 1, 3, 0, 0), (.iinc 4 1, 3, 4, 0, 1), ex_no, ex_no, (.goto (-30), 3, 7, 0, 0), ex_no, ex_no, (.iload_n 2, 1, 2, 0, 0), (.ireturn, 1, 0, 0, 0)]
/-- LoopStrands$Numbers.hasProjector -/
def ex_k35 : List ex_MO := [(.iconst 2, 1, 0, 0, 2), (.istore_n 2, 1, 2, 0, 0), (.iload_n 2, 1, 2, 0, 0), (.iload_n 1, 1, 1, 0, 0), (.if_icmp .gt 19, 3, 23, 0, 0), ex_no, ex_no, (.aload_n 0, 1, 0, 0, 0), (.iload_n 2, 1, 2, 0, 0), (.invokevirtual 37, 3, 34, 2, 0), ex_no, ex_no, (.ifCond .ne 5, 3, 17, 0, 0), ex_no, ex_no, (.iconst 0, 1, 0, 0, 0), (.ireturn, 1, 1, 0, 0), (.iinc 2 1, 3, 2, 0, 1), ex_no, ex_no, (.goto (-18), 3, 2, 0, 0), ex_no, ex_no, (.iconst 1, 1, 0, 0, 1), (.ireturn, 1, 1, 0, 0)]
/-- LoopStrands$Pad.<init> -/
def ex_k36 : List ex_MO := [(.aload_n 0, 1, 0, 0, 0), (.invokespecial 3, 3, 1000, 0, 0), ex_no, ex_no, (.aload_n 0, 1, 0, 0, 0), (.bipush 24, 2, 0, 0, 24), ex_no, (.newarray .int, 2, 0, 0, 0), ex_no, (.putfield 11, 3, 3, 0, 0), ex_no, ex_no, (.return_, 1, 0, 0, 0)]
/-- LoopStrands$Pad.isFull -/
def ex_k37 : List ex_MO := [(.aload_n 0, 1, 0, 0, 0), (.getfield 15, 3, 3, 1, 0), ex_no, ex_no, (.bipush 24, 2, 0, 0, 24), ex_no, (.if_icmp .lt 7, 3, 13, 0, 0), ex_no, ex_no, (.iconst 1, 1, 0, 0, 1), (.goto 4, 3, 14, 0, 0), ex_no, ex_no, (.iconst 0, 1, 0, 0, 0), (.ireturn, 1, 1, 0, 0)]
/-- LoopStrands$Pad.add -/
def ex_k38 : List ex_MO := [(.aload_n 0, 1, 0, 0, 0), (.getfield 15, 3, 3, 1, 0), ex_no, ex_no, (.bipush 24, 2, 0, 0, 24), ex_no, (.if_icmp .ge 23, 3, 29, 0, 0), ex_no, ex_no, (.aload_n 0, 1, 0, 0, 0), (.getfield 11, 3, 3, 0, 0), ex_no, ex_no, (.aload_n 0, 1, 0, 0, 0), (.getfield 15, 3, 3, 1, 0), ex_no, ex_no, (.iload_n 1, 1, 1, 0, 0), (.iastore, 1, 0, 0, 0), (.aload_n 0, 1, 0, 0, 0), (.dup, 1, 0, 0, 0), (.getfield 15, 3, 3, 1, 0), ex_no, ex_no, (.iconst 1, 1, 0, 0, 1), (.iadd, 1, 0, 0, 0), (.putfield 15, 3, 3, 1, 0), ex_no, ex_no, (.return_, 1, 0, 0, 0)]
/-- LoopStrands$Pad.clear -/
def ex_k39 : List ex_MO := [(.aload_n 0, 1, 0, 0, 0), (.iconst 0, 1, 0, 0, 0), (.putfield 15, 3, 3, 1, 0), ex_no, ex_no, (.return_, 1, 0, 0, 0)]
/-- LoopStrands$Pad.diagramFault -/
def ex_k40 : List ex_MO := [(.iconst 0, 1, 0, 0, 0), (.istore_n 2, 1, 2, 0, 0), (.iconst 0, 1, 0, 0, 0), (.istore_n 3, 1, 3, 0, 0), (.iconst 0, 1, 0, 0, 0), (.istore 4, 2, 4, 0, 0), ex_no, (.iload 4, 2, 4, 0, 0), ex_no, (.aload_n 0, 1, 0, 0, 0), (.getfield 15, 3, 3, 1, 0), ex_no, ex_no, (.if_icmp .ge 58, 3, 71, 0, 0), ex_no, ex_no, (.aload_n 0, 1, 0, 0, 0), (.getfield 11, 3, 3, 0, 0), ex_no, ex_no, (.iload 4, 2, 4, 0, 0), ex_no, (.iaload, 1, 0, 0, 0), (.bipush 40, 2, 0, 0, 40), ex_no, (.if_icmp .ne 14, 3, 39, 0, 0), ex_no, ex_no, (.iload_n 2, 1, 2, 0, 0), (.iload_n 1, 1, 1, 0, 0), (.if_icmp .ge 9, 3, 39, 0, 0), ex_no, ex_no, (.iinc 2 1, 3, 2, 0, 1), ex_no, ex_no, (.goto 29, 3, 65, 0, 0), ex_no, ex_no, (.aload_n 0, 1, 0, 0, 0), (.getfield 11, 3, 3, 0, 0), ex_no, ex_no, (.iload 4, 2, 4, 0, 0), ex_no, (.iaload, 1, 0, 0, 0), (.bipush 41, 2, 0, 0, 41), ex_no, (.if_icmp .ne 14, 3, 62, 0, 0), ex_no, ex_no, (.iload_n 3, 1, 3, 0, 0), (.iload_n 2, 1, 2, 0, 0), (.if_icmp .ge 9, 3, 62, 0, 0), ex_no, ex_no, (.iinc 3 1, 3, 3, 0, 1), ex_no, ex_no, (.goto 6, 3, 65, 0, 0), ex_no, ex_no, (.iload 4, 2, 4, 0, 0), ex_no, (.ireturn, 1, 0, 0, 0), (.iinc 4 1, 3, 4, 0, 1), ex_no, ex_no, (.goto (-61), 3, 7, 0, 0), ex_no, ex_no, (.aload_n 0, 1, 0, 0, 0), (.getfield 15, 3, 3, 1, 0), ex_no, ex_no, (.iconst 2, 1, 0, 0, 2), (.iload_n 1, 1, 1, 0, 0), (.imul, 1, 0, 0, 0), (.if_icmp .ge 10, 3, 88, 0, 0), ex_no, ex_no, (.aload_n 0, 1, 0, 0, 0), (.getfield 15, 3, 3, 1, 0), ex_no, ex_no, (.goto 5, 3, 90, 0, 0), ex_no, ex_no, (.bipush (-6), 2, 0, 0, -6), ex_no, (.ireturn, 1, 0, 0, 0)]
/-- LoopStrands$Pad.wordFault -/
def ex_k41 : List ex_MO := [(.iconst 0, 1, 0, 0, 0), (.istore_n 2, 1, 2, 0, 0), (.iload_n 2, 1, 2, 0, 0), (.aload_n 0, 1, 0, 0, 0), (.getfield 15, 3, 3, 1, 0), ex_no, ex_no, (.if_icmp .ge 30, 3, 37, 0, 0), ex_no, ex_no, (.aload_n 0, 1, 0, 0, 0), (.getfield 11, 3, 3, 0, 0), ex_no, ex_no, (.iload_n 2, 1, 2, 0, 0), (.iaload, 1, 0, 0, 0), (.bipush 48, 2, 0, 0, 48), ex_no, (.isub, 1, 0, 0, 0), (.iconst 1, 1, 0, 0, 1), (.iload_n 1, 1, 1, 0, 0), (.iconst 1, 1, 0, 0, 1), (.isub, 1, 0, 0, 0), (.invokestatic 19, 3, 85, 3, 0), ex_no, ex_no, (.ifCond .ne 5, 3, 31, 0, 0), ex_no, ex_no, (.iload_n 2, 1, 2, 0, 0), (.ireturn, 1, 0, 0, 0), (.iinc 2 1, 3, 2, 0, 1), ex_no, ex_no, (.goto (-32), 3, 2, 0, 0), ex_no, ex_no, (.bipush (-6), 2, 0, 0, -6), ex_no, (.ireturn, 1, 0, 0, 0)]
/-- LoopStrands$Pad.figure -/
def ex_k42 : List ex_MO := [(.aload_n 0, 1, 0, 0, 0), (.getfield 11, 3, 3, 0, 0), ex_no, ex_no, (.iload_n 1, 1, 1, 0, 0), (.iaload, 1, 0, 0, 0), (.bipush 48, 2, 0, 0, 48), ex_no, (.isub, 1, 0, 0, 0), (.ireturn, 1, 0, 0, 0)]
/-- LoopStrands$Pad.diagramCode -/
def ex_k43 : List ex_MO := [(.iconst 0, 1, 0, 0, 0), (.istore_n 1, 1, 1, 0, 0), (.iconst 0, 1, 0, 0, 0), (.istore_n 2, 1, 2, 0, 0), (.iload_n 2, 1, 2, 0, 0), (.aload_n 0, 1, 0, 0, 0), (.getfield 15, 3, 3, 1, 0), ex_no, ex_no, (.if_icmp .ge 30, 3, 39, 0, 0), ex_no, ex_no, (.iconst 2, 1, 0, 0, 2), (.iload_n 1, 1, 1, 0, 0), (.imul, 1, 0, 0, 0), (.aload_n 0, 1, 0, 0, 0), (.getfield 11, 3, 3, 0, 0), ex_no, ex_no, (.iload_n 2, 1, 2, 0, 0), (.iaload, 1, 0, 0, 0), (.bipush 40, 2, 0, 0, 40), ex_no, (.if_icmp .ne 7, 3, 30, 0, 0), ex_no, ex_no, (.iconst 0, 1, 0, 0, 0), (.goto 4, 3, 31, 0, 0), ex_no, ex_no, (.iconst 1, 1, 0, 0, 1), (.iadd, 1, 0, 0, 0), (.istore_n 1, 1, 1, 0, 0), (.iinc 2 1, 3, 2, 0, 1), ex_no, ex_no, (.goto (-32), 3, 4, 0, 0), ex_no, ex_no, (.iload_n 1, 1, 1, 0, 0), (.ireturn, 1, 0, 0, 0)]
/-- LoopStrands$State.<init> -/
def ex_k44 : List ex_MO := [(.aload_n 0, 1, 0, 0, 0), (.invokespecial 3, 3, 1000, 0, 0), ex_no, ex_no, (.aload_n 0, 1, 0, 0, 0), (.aload_n 1, 1, 1, 0, 0), (.putfield 9, 3, 4, 0, 0), ex_no, ex_no, (.aload_n 0, 1, 0, 0, 0), (.new 15, 3, 2, 0, 0), ex_no, ex_no, (.dup, 1, 0, 0, 0), (.invokespecial 17, 3, 26, 1, 0), ex_no, ex_no, (.putfield 18, 3, 4, 1, 0), ex_no, ex_no, (.aload_n 0, 1, 0, 0, 0), (.getfield 18, 3, 4, 1, 0), ex_no, ex_no, (.bipush 97, 2, 0, 0, 97), ex_no, (.iconst 2, 1, 0, 0, 2), (.invokevirtual 22, 3, 27, 3, 0), ex_no, ex_no, (.aload_n 0, 1, 0, 0, 0), (.iconst 5, 1, 0, 0, 5), (.bipush 42, 2, 0, 0, 42), ex_no, (.multianewarray 26 2, 4, 2, 0, 0), ex_no, ex_no, ex_no, (.putfield 28, 3, 4, 2, 0), ex_no, ex_no, (.return_, 1, 0, 0, 0)]
/-- LoopStrands$State.copyFrom -/
def ex_k45 : List ex_MO := [(.aload_n 0, 1, 0, 0, 0), (.aload_n 1, 1, 1, 0, 0), (.getfield 9, 3, 4, 0, 0), ex_no, ex_no, (.putfield 9, 3, 4, 0, 0), ex_no, ex_no, (.aload_n 0, 1, 0, 0, 0), (.getfield 18, 3, 4, 1, 0), ex_no, ex_no, (.aload_n 1, 1, 1, 0, 0), (.getfield 18, 3, 4, 1, 0), ex_no, ex_no, (.getfield 31, 3, 2, 0, 0), ex_no, ex_no, (.aload_n 1, 1, 1, 0, 0), (.getfield 18, 3, 4, 1, 0), ex_no, ex_no, (.getfield 35, 3, 2, 1, 0), ex_no, ex_no, (.invokevirtual 22, 3, 27, 3, 0), ex_no, ex_no, (.iconst 0, 1, 0, 0, 0), (.istore_n 2, 1, 2, 0, 0), (.iload_n 2, 1, 2, 0, 0), (.iconst 5, 1, 0, 0, 5), (.if_icmp .ge 28, 3, 61, 0, 0), ex_no, ex_no, (.aload_n 1, 1, 1, 0, 0), (.getfield 28, 3, 4, 2, 0), ex_no, ex_no, (.iload_n 2, 1, 2, 0, 0), (.aaload, 1, 0, 0, 0), (.iconst 0, 1, 0, 0, 0), (.aload_n 0, 1, 0, 0, 0), (.getfield 28, 3, 4, 2, 0), ex_no, ex_no, (.iload_n 2, 1, 2, 0, 0), (.aaload, 1, 0, 0, 0), (.iconst 0, 1, 0, 0, 0), (.bipush 42, 2, 0, 0, 42), ex_no, (.invokestatic 38, 3, 1001, 0, 0), ex_no, ex_no, (.iinc 2 1, 3, 2, 0, 1), ex_no, ex_no, (.goto (-27), 3, 31, 0, 0), ex_no, ex_no, (.return_, 1, 0, 0, 0)]
/-- LoopStrands$State.clearSums -/
def ex_k46 : List ex_MO := [(.iconst 0, 1, 0, 0, 0), (.istore_n 1, 1, 1, 0, 0), (.iload_n 1, 1, 1, 0, 0), (.iconst 5, 1, 0, 0, 5), (.if_icmp .ge 19, 3, 23, 0, 0), ex_no, ex_no, (.aload_n 0, 1, 0, 0, 0), (.getfield 28, 3, 4, 2, 0), ex_no, ex_no, (.iload_n 1, 1, 1, 0, 0), (.aaload, 1, 0, 0, 0), (.iconst 0, 1, 0, 0, 0), (.invokestatic 44, 3, 159, 2, 0), ex_no, ex_no, (.iinc 1 1, 3, 1, 0, 1), ex_no, ex_no, (.goto (-18), 3, 2, 0, 0), ex_no, ex_no, (.return_, 1, 0, 0, 0)]
/-- LoopStrands$State.aboveZero -/
def ex_k47 : List ex_MO := [(.iconst 0, 1, 0, 0, 0), (.istore_n 2, 1, 2, 0, 0), (.aload_n 0, 1, 0, 0, 0), (.getfield 28, 3, 4, 2, 0), ex_no, ex_no, (.iload_n 1, 1, 1, 0, 0), (.aaload, 1, 0, 0, 0), (.astore_n 3, 1, 3, 0, 0), (.aload_n 3, 1, 3, 0, 0), (.arraylength, 1, 0, 0, 0), (.istore 4, 2, 4, 0, 0), ex_no, (.iconst 0, 1, 0, 0, 0), (.istore 5, 2, 5, 0, 0), ex_no, (.iload 5, 2, 5, 0, 0), ex_no, (.iload 4, 2, 4, 0, 0), ex_no, (.if_icmp .ge 23, 3, 43, 0, 0), ex_no, ex_no, (.aload_n 3, 1, 3, 0, 0), (.iload 5, 2, 5, 0, 0), ex_no, (.iaload, 1, 0, 0, 0), (.istore 6, 2, 6, 0, 0), ex_no, (.iload 6, 2, 6, 0, 0), ex_no, (.ifCond .le 6, 3, 37, 0, 0), ex_no, ex_no, (.iinc 2 1, 3, 2, 0, 1), ex_no, ex_no, (.iinc 5 1, 3, 5, 0, 1), ex_no, ex_no, (.goto (-24), 3, 16, 0, 0), ex_no, ex_no, (.iload_n 2, 1, 2, 0, 0), (.ireturn, 1, 0, 0, 0)]
/-- LoopStrands$Table.<init> -/
def ex_k48 : List ex_MO := [(.aload_n 0, 1, 0, 0, 0), (.invokespecial 3, 3, 1000, 0, 0), ex_no, ex_no, (.aload_n 0, 1, 0, 0, 0), (.iconst 5, 1, 0, 0, 5), (.iconst 5, 1, 0, 0, 5), (.multianewarray 9 2, 4, 2, 0, 0), ex_no, ex_no, ex_no, (.putfield 11, 3, 5, 2, 0), ex_no, ex_no, (.return_, 1, 0, 0, 0)]
/-- LoopStrands$Table.fill -/
def ex_k49 : List ex_MO := [(.aload_n 0, 1, 0, 0, 0), (.aload_n 2, 1, 2, 0, 0), (.getfield 16, 3, 6, 0, 0), ex_no, ex_no, (.iconst 5, 1, 0, 0, 5), (.invokestatic 22, 3, 1003, 0, 0), ex_no, ex_no, (.putfield 28, 3, 5, 3, 0), ex_no, ex_no, (.iconst 0, 1, 0, 0, 0), (.istore_n 3, 1, 3, 0, 0), (.iload_n 3, 1, 3, 0, 0), (.aload_n 0, 1, 0, 0, 0), (.getfield 28, 3, 5, 3, 0), ex_no, ex_no, (.if_icmp .ge 53, 3, 72, 0, 0), ex_no, ex_no, (.iconst 0, 1, 0, 0, 0), (.istore 4, 2, 4, 0, 0), ex_no, (.iload 4, 2, 4, 0, 0), ex_no, (.aload_n 0, 1, 0, 0, 0), (.getfield 28, 3, 5, 3, 0), ex_no, ex_no, (.if_icmp .ge 35, 3, 66, 0, 0), ex_no, ex_no, (.aload_n 0, 1, 0, 0, 0), (.getfield 11, 3, 5, 2, 0), ex_no, ex_no, (.iload_n 3, 1, 3, 0, 0), (.aaload, 1, 0, 0, 0), (.iload 4, 2, 4, 0, 0), ex_no, (.aload_n 1, 1, 1, 0, 0), (.aload_n 2, 1, 2, 0, 0), (.getfield 29, 3, 6, 1, 0), ex_no, ex_no, (.iload_n 3, 1, 3, 0, 0), (.aaload, 1, 0, 0, 0), (.aload_n 2, 1, 2, 0, 0), (.getfield 29, 3, 6, 1, 0), ex_no, ex_no, (.iload 4, 2, 4, 0, 0), ex_no, (.aaload, 1, 0, 0, 0), (.invokestatic 32, 3, 25, 3, 0), ex_no, ex_no, (.iastore, 1, 0, 0, 0), (.iinc 4 1, 3, 4, 0, 1), ex_no, ex_no, (.goto (-38), 3, 25, 0, 0), ex_no, ex_no, (.iinc 3 1, 3, 3, 0, 1), ex_no, ex_no, (.goto (-55), 3, 14, 0, 0), ex_no, ex_no, (.return_, 1, 0, 0, 0)]
/-- LoopStrands$Table.eliminate -/
def ex_k50 : List ex_MO := [(.aload_n 0, 1, 0, 0, 0), (.iconst 1, 1, 0, 0, 1), (.putfield 38, 3, 5, 0, 0), ex_no, ex_no, (.aload_n 0, 1, 0, 0, 0), (.iconst 0, 1, 0, 0, 0), (.putfield 41, 3, 5, 1, 0), ex_no, ex_no, (.iconst 0, 1, 0, 0, 0), (.istore_n 2, 1, 2, 0, 0), (.iload_n 2, 1, 2, 0, 0), (.aload_n 0, 1, 0, 0, 0), (.getfield 28, 3, 5, 3, 0), ex_no, ex_no, (.if_icmp .ge 100, 3, 117, 0, 0), ex_no, ex_no, (.aload_n 0, 1, 0, 0, 0), (.iload_n 2, 1, 2, 0, 0), (.invokevirtual 44, 3, 51, 2, 0), ex_no, ex_no, (.istore_n 3, 1, 3, 0, 0), (.iload_n 3, 1, 3, 0, 0), (.aload_n 0, 1, 0, 0, 0), (.getfield 28, 3, 5, 3, 0), ex_no, ex_no, (.if_icmp .ne 11, 3, 42, 0, 0), ex_no, ex_no, (.aload_n 0, 1, 0, 0, 0), (.iconst 0, 1, 0, 0, 0), (.putfield 38, 3, 5, 0, 0), ex_no, ex_no, (.goto 72, 3, 111, 0, 0), ex_no, ex_no, (.iload_n 3, 1, 3, 0, 0), (.aload_n 0, 1, 0, 0, 0), (.getfield 41, 3, 5, 1, 0), ex_no, ex_no, (.if_icmp .eq 25, 3, 72, 0, 0), ex_no, ex_no, (.aload_n 0, 1, 0, 0, 0), (.iload_n 3, 1, 3, 0, 0), (.aload_n 0, 1, 0, 0, 0), (.getfield 41, 3, 5, 1, 0), ex_no, ex_no, (.invokevirtual 48, 3, 52, 3, 0), ex_no, ex_no, (.aload_n 0, 1, 0, 0, 0), (.aload_n 1, 1, 1, 0, 0), (.iconst 0, 1, 0, 0, 0), (.aload_n 0, 1, 0, 0, 0), (.getfield 38, 3, 5, 0, 0), ex_no, ex_no, (.invokevirtual 52, 3, 30, 3, 0), ex_no, ex_no, (.putfield 38, 3, 5, 0, 0), ex_no, ex_no, (.aload_n 0, 1, 0, 0, 0), (.aload_n 1, 1, 1, 0, 0), (.aload_n 0, 1, 0, 0, 0), (.getfield 38, 3, 5, 0, 0), ex_no, ex_no, (.aload_n 0, 1, 0, 0, 0), (.getfield 11, 3, 5, 2, 0), ex_no, ex_no, (.aload_n 0, 1, 0, 0, 0), (.getfield 41, 3, 5, 1, 0), ex_no, ex_no, (.aaload, 1, 0, 0, 0), (.iload_n 2, 1, 2, 0, 0), (.iaload, 1, 0, 0, 0), (.invokevirtual 57, 3, 31, 3, 0), ex_no, ex_no, (.putfield 38, 3, 5, 0, 0), ex_no, ex_no, (.aload_n 0, 1, 0, 0, 0), (.aload_n 1, 1, 1, 0, 0), (.iload_n 2, 1, 2, 0, 0), (.invokevirtual 60, 3, 53, 3, 0), ex_no, ex_no, (.aload_n 0, 1, 0, 0, 0), (.dup, 1, 0, 0, 0), (.getfield 41, 3, 5, 1, 0), ex_no, ex_no, (.iconst 1, 1, 0, 0, 1), (.iadd, 1, 0, 0, 0), (.putfield 41, 3, 5, 1, 0), ex_no, ex_no, (.iinc 2 1, 3, 2, 0, 1), ex_no, ex_no, (.goto (-102), 3, 12, 0, 0), ex_no, ex_no, (.return_, 1, 0, 0, 0)]
/-- LoopStrands$Table.findPivot -/
def ex_k51 : List ex_MO := [(.aload_n 0, 1, 0, 0, 0), (.getfield 41, 3, 5, 1, 0), ex_no, ex_no, (.istore_n 2, 1, 2, 0, 0), (.iload_n 2, 1, 2, 0, 0), (.aload_n 0, 1, 0, 0, 0), (.getfield 28, 3, 5, 3, 0), ex_no, ex_no, (.if_icmp .ge 20, 3, 30, 0, 0), ex_no, ex_no, (.aload_n 0, 1, 0, 0, 0), (.getfield 11, 3, 5, 2, 0), ex_no, ex_no, (.iload_n 2, 1, 2, 0, 0), (.aaload, 1, 0, 0, 0), (.iload_n 1, 1, 1, 0, 0), (.iaload, 1, 0, 0, 0), (.ifCond .ne 9, 3, 30, 0, 0), ex_no, ex_no, (.iinc 2 1, 3, 2, 0, 1), ex_no, ex_no, (.goto (-22), 3, 5, 0, 0), ex_no, ex_no, (.iload_n 2, 1, 2, 0, 0), (.ireturn, 1, 0, 0, 0)]
/-- LoopStrands$Table.swapRows -/
def ex_k52 : List ex_MO := [(.aload_n 0, 1, 0, 0, 0), (.getfield 11, 3, 5, 2, 0), ex_no, ex_no, (.iload_n 1, 1, 1, 0, 0), (.aaload, 1, 0, 0, 0), (.astore_n 3, 1, 3, 0, 0), (.aload_n 0, 1, 0, 0, 0), (.getfield 11, 3, 5, 2, 0), ex_no, ex_no, (.iload_n 1, 1, 1, 0, 0), (.aload_n 0, 1, 0, 0, 0), (.getfield 11, 3, 5, 2, 0), ex_no, ex_no, (.iload_n 2, 1, 2, 0, 0), (.aaload, 1, 0, 0, 0), (.aastore, 1, 0, 0, 0), (.aload_n 0, 1, 0, 0, 0), (.getfield 11, 3, 5, 2, 0), ex_no, ex_no, (.iload_n 2, 1, 2, 0, 0), (.aload_n 3, 1, 3, 0, 0), (.aastore, 1, 0, 0, 0), (.return_, 1, 0, 0, 0)]
/-- LoopStrands$Table.clearBelow -/
def ex_k53 : List ex_MO := [(.aload_n 1, 1, 1, 0, 0), (.aload_n 0, 1, 0, 0, 0), (.getfield 11, 3, 5, 2, 0), ex_no, ex_no, (.aload_n 0, 1, 0, 0, 0), (.getfield 41, 3, 5, 1, 0), ex_no, ex_no, (.aaload, 1, 0, 0, 0), (.iload_n 2, 1, 2, 0, 0), (.iaload, 1, 0, 0, 0), (.invokevirtual 64, 3, 32, 2, 0), ex_no, ex_no, (.istore_n 3, 1, 3, 0, 0), (.aload_n 0, 1, 0, 0, 0), (.getfield 41, 3, 5, 1, 0), ex_no, ex_no, (.iconst 1, 1, 0, 0, 1), (.iadd, 1, 0, 0, 0), (.istore 4, 2, 4, 0, 0), ex_no, (.iload 4, 2, 4, 0, 0), ex_no, (.aload_n 0, 1, 0, 0, 0), (.getfield 28, 3, 5, 3, 0), ex_no, ex_no, (.if_icmp .ge 89, 3, 119, 0, 0), ex_no, ex_no, (.aload_n 1, 1, 1, 0, 0), (.aload_n 0, 1, 0, 0, 0), (.getfield 11, 3, 5, 2, 0), ex_no, ex_no, (.iload 4, 2, 4, 0, 0), ex_no, (.aaload, 1, 0, 0, 0), (.iload_n 2, 1, 2, 0, 0), (.iaload, 1, 0, 0, 0), (.iload_n 3, 1, 3, 0, 0), (.invokevirtual 57, 3, 31, 3, 0), ex_no, ex_no, (.istore 5, 2, 5, 0, 0), ex_no, (.iload_n 2, 1, 2, 0, 0), (.istore 6, 2, 6, 0, 0), ex_no, (.iload 6, 2, 6, 0, 0), ex_no, (.aload_n 0, 1, 0, 0, 0), (.getfield 28, 3, 5, 3, 0), ex_no, ex_no, (.if_icmp .ge 55, 3, 113, 0, 0), ex_no, ex_no, (.aload_n 1, 1, 1, 0, 0), (.iload 5, 2, 5, 0, 0), ex_no, (.aload_n 0, 1, 0, 0, 0), (.getfield 11, 3, 5, 2, 0), ex_no, ex_no, (.aload_n 0, 1, 0, 0, 0), (.getfield 41, 3, 5, 1, 0), ex_no, ex_no, (.aaload, 1, 0, 0, 0), (.iload 6, 2, 6, 0, 0), ex_no, (.iaload, 1, 0, 0, 0), (.invokevirtual 57, 3, 31, 3, 0), ex_no, ex_no, (.istore 7, 2, 7, 0, 0), ex_no, (.aload_n 0, 1, 0, 0, 0), (.getfield 11, 3, 5, 2, 0), ex_no, ex_no, (.iload 4, 2, 4, 0, 0), ex_no, (.aaload, 1, 0, 0, 0), (.iload 6, 2, 6, 0, 0), ex_no, (.aload_n 1, 1, 1, 0, 0), (.aload_n 0, 1, 0, 0, 0), (.getfield 11, 3, 5, 2, 0), ex_no, ex_no, (.iload 4, 2, 4, 0, 0), ex_no, (.aaload, 1, 0, 0, 0), (.iload 6, 2, 6, 0, 0), ex_no, (.iaload, 1, 0, 0, 0), (.iload 7, 2, 7, 0, 0), ex_no, (.invokevirtual 52, 3, 30, 3, 0), ex_no, ex_no, (.iastore, 1, 0, 0, 0), (.iinc 6 1, 3, 6, 0, 1), ex_no, ex_no, (.goto (-58), 3, 52, 0, 0), ex_no, ex_no, (.iinc 4 1, 3, 4, 0, 1), ex_no, ex_no, (.goto (-92), 3, 24, 0, 0), ex_no, ex_no, (.return_, 1, 0, 0, 0)]
/-- LoopStrands$Texts.<init> -/
def ex_k54 : List ex_MO := [(.aload_n 0, 1, 0, 0, 0), (.invokespecial 3, 3, 1000, 0, 0), ex_no, ex_no, (.aload_n 0, 1, 0, 0, 0), (.iload_n 1, 1, 1, 0, 0), (.putfield 9, 3, 6, 3, 0), ex_no, ex_no, (.aload_n 0, 1, 0, 0, 0), (.iload_n 2, 1, 2, 0, 0), (.putfield 15, 3, 6, 4, 0), ex_no, ex_no, (.aload_n 0, 1, 0, 0, 0), (.iload_n 2, 1, 2, 0, 0), (.ifCond .ne 7, 3, 23, 0, 0), ex_no, ex_no, (.iconst 2, 1, 0, 0, 2), (.goto 4, 3, 24, 0, 0), ex_no, ex_no, (.iconst 3, 1, 0, 0, 3), (.putfield 18, 3, 6, 5, 0), ex_no, ex_no, (.aload_n 0, 1, 0, 0, 0), (.iload_n 1, 1, 1, 0, 0), (.newarray .int, 2, 0, 0, 0), ex_no, (.putfield 21, 3, 6, 6, 0), ex_no, ex_no, (.bipush 42, 2, 0, 0, 42), ex_no, (.newarray .int, 2, 0, 0, 0), ex_no, (.astore_n 3, 1, 3, 0, 0), (.aload_n 0, 1, 0, 0, 0), (.aload_n 0, 1, 0, 0, 0), (.aload_n 3, 1, 3, 0, 0), (.invokevirtual 25, 3, 55, 2, 0), ex_no, ex_no, (.putfield 29, 3, 6, 0, 0), ex_no, ex_no, (.aload_n 0, 1, 0, 0, 0), (.aload_n 3, 1, 3, 0, 0), (.aload_n 0, 1, 0, 0, 0), (.getfield 29, 3, 6, 0, 0), ex_no, ex_no, (.invokestatic 32, 3, 160, 2, 0), ex_no, ex_no, (.putfield 38, 3, 6, 2, 0), ex_no, ex_no, (.aload_n 0, 1, 0, 0, 0), (.aload_n 0, 1, 0, 0, 0), (.getfield 29, 3, 6, 0, 0), ex_no, ex_no, (.iload_n 1, 1, 1, 0, 0), (.multianewarray 41 2, 4, 2, 0, 0), ex_no, ex_no, ex_no, (.putfield 43, 3, 6, 1, 0), ex_no, ex_no, (.iconst 0, 1, 0, 0, 0), (.istore 4, 2, 4, 0, 0), ex_no, (.iload 4, 2, 4, 0, 0), ex_no, (.aload_n 0, 1, 0, 0, 0), (.getfield 29, 3, 6, 0, 0), ex_no, ex_no, (.if_icmp .ge 28, 3, 110, 0, 0), ex_no, ex_no, (.aload_n 0, 1, 0, 0, 0), (.aload_n 0, 1, 0, 0, 0), (.getfield 38, 3, 6, 2, 0), ex_no, ex_no, (.iload 4, 2, 4, 0, 0), ex_no, (.iaload, 1, 0, 0, 0), (.aload_n 0, 1, 0, 0, 0), (.getfield 43, 3, 6, 1, 0), ex_no, ex_no, (.iload 4, 2, 4, 0, 0), ex_no, (.aaload, 1, 0, 0, 0), (.invokevirtual 46, 3, 56, 3, 0), ex_no, ex_no, (.pop, 1, 0, 0, 0), (.iinc 4 1, 3, 4, 0, 1), ex_no, ex_no, (.goto (-31), 3, 76, 0, 0), ex_no, ex_no, (.return_, 1, 0, 0, 0)]
/-- LoopStrands$Texts.findCodes -/
def ex_k55 : List ex_MO := [(.aload_n 0, 1, 0, 0, 0), (.getfield 9, 3, 6, 3, 0), ex_no, ex_no, (.newarray .int, 2, 0, 0, 0), ex_no, (.astore_n 2, 1, 2, 0, 0), (.iconst 1, 1, 0, 0, 1), (.istore_n 3, 1, 3, 0, 0), (.iconst 0, 1, 0, 0, 0), (.istore 4, 2, 4, 0, 0), ex_no, (.iload 4, 2, 4, 0, 0), ex_no, (.aload_n 0, 1, 0, 0, 0), (.getfield 9, 3, 6, 3, 0), ex_no, ex_no, (.if_icmp .ge 16, 3, 34, 0, 0), ex_no, ex_no, (.iload_n 3, 1, 3, 0, 0), (.aload_n 0, 1, 0, 0, 0), (.getfield 18, 3, 6, 5, 0), ex_no, ex_no, (.imul, 1, 0, 0, 0), (.istore_n 3, 1, 3, 0, 0), (.iinc 4 1, 3, 4, 0, 1), ex_no, ex_no, (.goto (-19), 3, 12, 0, 0), ex_no, ex_no, (.iconst 0, 1, 0, 0, 0), (.istore 4, 2, 4, 0, 0), ex_no, (.iconst 0, 1, 0, 0, 0), (.istore 5, 2, 5, 0, 0), ex_no, (.iload 5, 2, 5, 0, 0), ex_no, (.iload_n 3, 1, 3, 0, 0), (.if_icmp .ge 35, 3, 78, 0, 0), ex_no, ex_no, (.iload 4, 2, 4, 0, 0), ex_no, (.aload_n 1, 1, 1, 0, 0), (.arraylength, 1, 0, 0, 0), (.if_icmp .ge 28, 3, 78, 0, 0), ex_no, ex_no, (.aload_n 0, 1, 0, 0, 0), (.iload 5, 2, 5, 0, 0), ex_no, (.aload_n 2, 1, 2, 0, 0), (.invokevirtual 46, 3, 56, 3, 0), ex_no, ex_no, (.ifCond .eq 12, 3, 72, 0, 0), ex_no, ex_no, (.aload_n 1, 1, 1, 0, 0), (.iload 4, 2, 4, 0, 0), ex_no, (.iload 5, 2, 5, 0, 0), ex_no, (.iastore, 1, 0, 0, 0), (.iinc 4 1, 3, 4, 0, 1), ex_no, ex_no, (.iinc 5 1, 3, 5, 0, 1), ex_no, ex_no, (.goto (-35), 3, 40, 0, 0), ex_no, ex_no, (.iload 4, 2, 4, 0, 0), ex_no, (.ireturn, 1, 0, 0, 0)]
/-- LoopStrands$Texts.readCode -/
def ex_k56 : List ex_MO := [(.iload_n 1, 1, 1, 0, 0), (.istore_n 3, 1, 3, 0, 0), (.iconst 0, 1, 0, 0, 0), (.istore 4, 2, 4, 0, 0), ex_no, (.iconst 0, 1, 0, 0, 0), (.istore 5, 2, 5, 0, 0), ex_no, (.aload_n 0, 1, 0, 0, 0), (.getfield 9, 3, 6, 3, 0), ex_no, ex_no, (.iconst 1, 1, 0, 0, 1), (.isub, 1, 0, 0, 0), (.istore 6, 2, 6, 0, 0), ex_no, (.iload 6, 2, 6, 0, 0), ex_no, (.ifCond .lt 98, 3, 116, 0, 0), ex_no, ex_no, (.iload_n 3, 1, 3, 0, 0), (.aload_n 0, 1, 0, 0, 0), (.getfield 18, 3, 6, 5, 0), ex_no, ex_no, (.irem, 1, 0, 0, 0), (.istore 7, 2, 7, 0, 0), ex_no, (.iload_n 3, 1, 3, 0, 0), (.aload_n 0, 1, 0, 0, 0), (.getfield 18, 3, 6, 5, 0), ex_no, ex_no, (.idiv, 1, 0, 0, 0), (.istore_n 3, 1, 3, 0, 0), (.iload 7, 2, 7, 0, 0), ex_no, (.iconst 1, 1, 0, 0, 1), (.if_icmp .ne 18, 3, 57, 0, 0), ex_no, ex_no, (.aload_n 0, 1, 0, 0, 0), (.getfield 21, 3, 6, 6, 0), ex_no, ex_no, (.iload 4, 2, 4, 0, 0), ex_no, (.iload 6, 2, 6, 0, 0), ex_no, (.iastore, 1, 0, 0, 0), (.iinc 4 1, 3, 4, 0, 1), ex_no, ex_no, (.goto 56, 3, 110, 0, 0), ex_no, ex_no, (.iload 7, 2, 7, 0, 0), ex_no, (.ifCond .ne 27, 3, 86, 0, 0), ex_no, ex_no, (.iload 4, 2, 4, 0, 0), ex_no, (.ifCond .le 22, 3, 86, 0, 0), ex_no, ex_no, (.iinc 4 (-1), 3, 4, 0, -1), ex_no, ex_no, (.aload_n 2, 1, 2, 0, 0), (.iload 6, 2, 6, 0, 0), ex_no, (.aload_n 0, 1, 0, 0, 0), (.getfield 21, 3, 6, 6, 0), ex_no, ex_no, (.iload 4, 2, 4, 0, 0), ex_no, (.iaload, 1, 0, 0, 0), (.invokestatic 50, 3, 57, 3, 0), ex_no, ex_no, (.goto 27, 3, 110, 0, 0), ex_no, ex_no, (.iload 7, 2, 7, 0, 0), ex_no, (.iconst 2, 1, 0, 0, 2), (.if_icmp .ne 19, 3, 108, 0, 0), ex_no, ex_no, (.iload 4, 2, 4, 0, 0), ex_no, (.ifCond .ne 14, 3, 108, 0, 0), ex_no, ex_no, (.aload_n 2, 1, 2, 0, 0), (.iload 6, 2, 6, 0, 0), ex_no, (.iconst (-1), 1, 0, 0, -1), (.iastore, 1, 0, 0, 0), (.iinc 5 1, 3, 5, 0, 1), ex_no, ex_no, (.goto 5, 3, 110, 0, 0), ex_no, ex_no, (.iconst 0, 1, 0, 0, 0), (.ireturn, 1, 1, 0, 0), (.iinc 6 (-1), 3, 6, 0, -1), ex_no, ex_no, (.goto (-97), 3, 16, 0, 0), ex_no, ex_no, (.iload 4, 2, 4, 0, 0), ex_no, (.ifCond .ne 16, 3, 134, 0, 0), ex_no, ex_no, (.iload 5, 2, 5, 0, 0), ex_no, (.aload_n 0, 1, 0, 0, 0), (.getfield 15, 3, 6, 4, 0), ex_no, ex_no, (.if_icmp .ne 7, 3, 134, 0, 0), ex_no, ex_no, (.iconst 1, 1, 0, 0, 1), (.goto 4, 3, 135, 0, 0), ex_no, ex_no, (.iconst 0, 1, 0, 0, 0), (.ireturn, 1, 1, 0, 0)]
/-- LoopStrands$Texts.join -/
def ex_k57 : List ex_MO := [(.aload_n 0, 1, 0, 0, 0), (.iload_n 1, 1, 1, 0, 0), (.iload_n 2, 1, 2, 0, 0), (.iastore, 1, 0, 0, 0), (.aload_n 0, 1, 0, 0, 0), (.iload_n 2, 1, 2, 0, 0), (.iload_n 1, 1, 1, 0, 0), (.iastore, 1, 0, 0, 0), (.return_, 1, 0, 0, 0)]
/-- LoopStrands$Texts.find -/
def ex_k58 : List ex_MO := [(.iconst 0, 1, 0, 0, 0), (.istore_n 2, 1, 2, 0, 0), (.iload_n 2, 1, 2, 0, 0), (.aload_n 0, 1, 0, 0, 0), (.getfield 29, 3, 6, 0, 0), ex_no, ex_no, (.if_icmp .ge 21, 3, 28, 0, 0), ex_no, ex_no, (.aload_n 0, 1, 0, 0, 0), (.getfield 38, 3, 6, 2, 0), ex_no, ex_no, (.iload_n 2, 1, 2, 0, 0), (.iaload, 1, 0, 0, 0), (.iload_n 1, 1, 1, 0, 0), (.if_icmp .ne 5, 3, 22, 0, 0), ex_no, ex_no, (.iload_n 2, 1, 2, 0, 0), (.ireturn, 1, 0, 0, 0), (.iinc 2 1, 3, 2, 0, 1), ex_no, ex_no, (.goto (-23), 3, 2, 0, 0), ex_no, ex_no, (.iconst 0, 1, 0, 0, 0), (.ireturn, 1, 0, 0, 0)]
/-- LoopStrands$Texts.findRow -/
def ex_k59 : List ex_MO := [(.iconst 0, 1, 0, 0, 0), (.istore_n 2, 1, 2, 0, 0), (.iconst 0, 1, 0, 0, 0), (.istore_n 3, 1, 3, 0, 0), (.iload_n 3, 1, 3, 0, 0), (.aload_n 0, 1, 0, 0, 0), (.getfield 9, 3, 6, 3, 0), ex_no, ex_no, (.if_icmp .ge 26, 3, 35, 0, 0), ex_no, ex_no, (.iconst 2, 1, 0, 0, 2), (.iload_n 2, 1, 2, 0, 0), (.imul, 1, 0, 0, 0), (.aload_n 1, 1, 1, 0, 0), (.iload_n 3, 1, 3, 0, 0), (.iaload, 1, 0, 0, 0), (.iload_n 3, 1, 3, 0, 0), (.if_icmp .le 7, 3, 26, 0, 0), ex_no, ex_no, (.iconst 0, 1, 0, 0, 0), (.goto 4, 3, 27, 0, 0), ex_no, ex_no, (.iconst 1, 1, 0, 0, 1), (.iadd, 1, 0, 0, 0), (.istore_n 2, 1, 2, 0, 0), (.iinc 3 1, 3, 3, 0, 1), ex_no, ex_no, (.goto (-28), 3, 4, 0, 0), ex_no, ex_no, (.aload_n 0, 1, 0, 0, 0), (.iload_n 2, 1, 2, 0, 0), (.invokevirtual 54, 3, 58, 2, 0), ex_no, ex_no, (.ireturn, 1, 0, 0, 0)]
/-- LoopStrands.<init> -/
def ex_k60 : List ex_MO := [(.aload_n 0, 1, 0, 0, 0), (.invokespecial 1, 3, 1000, 0, 0), ex_no, ex_no, (.aload_n 0, 1, 0, 0, 0), (.new 7, 3, 3, 0, 0), ex_no, ex_no, (.dup, 1, 0, 0, 0), (.invokespecial 9, 3, 36, 1, 0), ex_no, ex_no, (.putfield 10, 3, 7, 0, 0), ex_no, ex_no, (.aload_n 0, 1, 0, 0, 0), (.bipush 6, 2, 0, 0, 6), ex_no, (.anewarray 16, 3, 3, 0, 0), ex_no, ex_no, (.putfield 18, 3, 7, 1, 0), ex_no, ex_no, (.aload_n 0, 1, 0, 0, 0), (.getfield 18, 3, 7, 1, 0), ex_no, ex_no, (.iconst 3, 1, 0, 0, 3), (.new 16, 3, 1, 0, 0), ex_no, ex_no, (.dup, 1, 0, 0, 0), (.iconst 3, 1, 0, 0, 3), (.invokespecial 22, 3, 8, 2, 0), ex_no, ex_no, (.aastore, 1, 0, 0, 0), (.aload_n 0, 1, 0, 0, 0), (.new 25, 3, 4, 0, 0), ex_no, ex_no, (.dup, 1, 0, 0, 0), (.aload_n 0, 1, 0, 0, 0), (.getfield 18, 3, 7, 1, 0), ex_no, ex_no, (.iconst 3, 1, 0, 0, 3), (.aaload, 1, 0, 0, 0), (.invokespecial 27, 3, 44, 2, 0), ex_no, ex_no, (.putfield 30, 3, 7, 2, 0), ex_no, ex_no, (.aload_n 0, 1, 0, 0, 0), (.iconst 2, 1, 0, 0, 2), (.anewarray 25, 3, 4, 0, 0), ex_no, ex_no, (.putfield 34, 3, 7, 3, 0), ex_no, ex_no, (.aload_n 0, 1, 0, 0, 0), (.new 38, 3, 0, 0, 0), ex_no, ex_no, (.dup, 1, 0, 0, 0), (.invokespecial 40, 3, 0, 1, 0), ex_no, ex_no, (.putfield 41, 3, 7, 4, 0), ex_no, ex_no, (.aload_n 0, 1, 0, 0, 0), (.new 45, 3, 5, 0, 0), ex_no, ex_no, (.dup, 1, 0, 0, 0), (.invokespecial 47, 3, 48, 1, 0), ex_no, ex_no, (.putfield 48, 3, 7, 5, 0), ex_no, ex_no, (.return_, 1, 0, 0, 0)]
/-- LoopStrands.strands -/
def ex_k61 : List ex_MO := [(.iload_n 1, 1, 1, 0, 0), (.iconst 1, 1, 0, 0, 1), (.iconst 5, 1, 0, 0, 5), (.invokestatic 52, 3, 85, 3, 0), ex_no, ex_no, (.ifCond .ne 6, 3, 12, 0, 0), ex_no, ex_no, (.bipush (-2), 2, 0, 0, -2), ex_no, (.ireturn, 1, 0, 0, 0), (.aload_n 0, 1, 0, 0, 0), (.getfield 18, 3, 7, 1, 0), ex_no, ex_no, (.iload_n 1, 1, 1, 0, 0), (.aaload, 1, 0, 0, 0), (.ifnonnull 17, 3, 35, 0, 0), ex_no, ex_no, (.aload_n 0, 1, 0, 0, 0), (.getfield 18, 3, 7, 1, 0), ex_no, ex_no, (.iload_n 1, 1, 1, 0, 0), (.new 16, 3, 1, 0, 0), ex_no, ex_no, (.dup, 1, 0, 0, 0), (.iload_n 1, 1, 1, 0, 0), (.invokespecial 22, 3, 8, 2, 0), ex_no, ex_no, (.aastore, 1, 0, 0, 0), (.aload_n 0, 1, 0, 0, 0), (.getfield 30, 3, 7, 2, 0), ex_no, ex_no, (.aload_n 0, 1, 0, 0, 0), (.getfield 18, 3, 7, 1, 0), ex_no, ex_no, (.iload_n 1, 1, 1, 0, 0), (.aaload, 1, 0, 0, 0), (.putfield 56, 3, 4, 0, 0), ex_no, ex_no, (.aload_n 0, 1, 0, 0, 0), (.getfield 30, 3, 7, 2, 0), ex_no, ex_no, (.invokevirtual 60, 3, 46, 1, 0), ex_no, ex_no, (.aload_n 0, 1, 0, 0, 0), (.getfield 30, 3, 7, 2, 0), ex_no, ex_no, (.getfield 56, 3, 4, 0, 0), ex_no, ex_no, (.getfield 63, 3, 1, 2, 0), ex_no, ex_no, (.getfield 67, 3, 6, 0, 0), ex_no, ex_no, (.ireturn, 1, 0, 0, 0)]
/-- LoopStrands.say -/
def ex_k62 : List ex_MO := [(.iload_n 1, 1, 1, 0, 0), (.bipush 33, 2, 0, 0, 33), ex_no, (.bipush 126, 2, 0, 0, 126), ex_no, (.invokestatic 52, 3, 85, 3, 0), ex_no, ex_no, (.ifCond .ne 6, 3, 14, 0, 0), ex_no, ex_no, (.bipush (-2), 2, 0, 0, -2), ex_no, (.ireturn, 1, 0, 0, 0), (.aload_n 0, 1, 0, 0, 0), (.getfield 10, 3, 7, 0, 0), ex_no, ex_no, (.invokevirtual 73, 3, 37, 1, 0), ex_no, ex_no, (.ifCond .eq 6, 3, 27, 0, 0), ex_no, ex_no, (.bipush (-4), 2, 0, 0, -4), ex_no, (.ireturn, 1, 0, 0, 0), (.aload_n 0, 1, 0, 0, 0), (.getfield 10, 3, 7, 0, 0), ex_no, ex_no, (.iload_n 1, 1, 1, 0, 0), (.invokevirtual 77, 3, 38, 2, 0), ex_no, ex_no, (.aload_n 0, 1, 0, 0, 0), (.getfield 10, 3, 7, 0, 0), ex_no, ex_no, (.getfield 80, 3, 3, 1, 0), ex_no, ex_no, (.ireturn, 1, 0, 0, 0)]
/-- LoopStrands.wipe -/
def ex_k63 : List ex_MO := [(.aload_n 0, 1, 0, 0, 0), (.getfield 10, 3, 7, 0, 0), ex_no, ex_no, (.getfield 80, 3, 3, 1, 0), ex_no, ex_no, (.istore_n 1, 1, 1, 0, 0), (.aload_n 0, 1, 0, 0, 0), (.getfield 10, 3, 7, 0, 0), ex_no, ex_no, (.invokevirtual 83, 3, 39, 1, 0), ex_no, ex_no, (.iload_n 1, 1, 1, 0, 0), (.ireturn, 1, 0, 0, 0)]
/-- LoopStrands.fault -/
def ex_k64 : List ex_MO := [(.iload_n 1, 1, 1, 0, 0), (.iconst 0, 1, 0, 0, 0), (.iconst 1, 1, 0, 0, 1), (.invokestatic 52, 3, 85, 3, 0), ex_no, ex_no, (.ifCond .ne 6, 3, 12, 0, 0), ex_no, ex_no, (.bipush (-2), 2, 0, 0, -2), ex_no, (.ireturn, 1, 0, 0, 0), (.iload_n 1, 1, 1, 0, 0), (.ifCond .ne 23, 3, 36, 0, 0), ex_no, ex_no, (.aload_n 0, 1, 0, 0, 0), (.getfield 10, 3, 7, 0, 0), ex_no, ex_no, (.aload_n 0, 1, 0, 0, 0), (.getfield 30, 3, 7, 2, 0), ex_no, ex_no, (.getfield 56, 3, 4, 0, 0), ex_no, ex_no, (.getfield 86, 3, 1, 0, 0), ex_no, ex_no, (.invokevirtual 89, 3, 40, 2, 0), ex_no, ex_no, (.goto 20, 3, 53, 0, 0), ex_no, ex_no, (.aload_n 0, 1, 0, 0, 0), (.getfield 10, 3, 7, 0, 0), ex_no, ex_no, (.aload_n 0, 1, 0, 0, 0), (.getfield 30, 3, 7, 2, 0), ex_no, ex_no, (.getfield 56, 3, 4, 0, 0), ex_no, ex_no, (.getfield 86, 3, 1, 0, 0), ex_no, ex_no, (.invokevirtual 93, 3, 41, 2, 0), ex_no, ex_no, (.ireturn, 1, 0, 0, 0)]
/-- LoopStrands.diagram -/
def ex_k65 : List ex_MO := [(.aload_n 0, 1, 0, 0, 0), (.getfield 10, 3, 7, 0, 0), ex_no, ex_no, (.aload_n 0, 1, 0, 0, 0), (.getfield 30, 3, 7, 2, 0), ex_no, ex_no, (.getfield 56, 3, 4, 0, 0), ex_no, ex_no, (.getfield 86, 3, 1, 0, 0), ex_no, ex_no, (.invokevirtual 89, 3, 40, 2, 0), ex_no, ex_no, (.bipush (-6), 2, 0, 0, -6), ex_no, (.if_icmp .eq 6, 3, 25, 0, 0), ex_no, ex_no, (.bipush (-7), 2, 0, 0, -7), ex_no, (.ireturn, 1, 0, 0, 0), (.aload_n 0, 1, 0, 0, 0), (.getfield 30, 3, 7, 2, 0), ex_no, ex_no, (.getfield 56, 3, 4, 0, 0), ex_no, ex_no, (.getfield 63, 3, 1, 2, 0), ex_no, ex_no, (.aload_n 0, 1, 0, 0, 0), (.getfield 10, 3, 7, 0, 0), ex_no, ex_no, (.invokevirtual 96, 3, 43, 1, 0), ex_no, ex_no, (.invokevirtual 100, 3, 58, 2, 0), ex_no, ex_no, (.istore_n 1, 1, 1, 0, 0), (.aload_n 0, 1, 0, 0, 0), (.getfield 10, 3, 7, 0, 0), ex_no, ex_no, (.invokevirtual 83, 3, 39, 1, 0), ex_no, ex_no, (.iload_n 1, 1, 1, 0, 0), (.ireturn, 1, 0, 0, 0)]
/-- LoopStrands.word -/
def ex_k66 : List ex_MO := [(.iload_n 1, 1, 1, 0, 0), (.iconst 0, 1, 0, 0, 0), (.iconst 1, 1, 0, 0, 1), (.invokestatic 52, 3, 85, 3, 0), ex_no, ex_no, (.ifCond .ne 6, 3, 12, 0, 0), ex_no, ex_no, (.bipush (-2), 2, 0, 0, -2), ex_no, (.ireturn, 1, 0, 0, 0), (.aload_n 0, 1, 0, 0, 0), (.getfield 10, 3, 7, 0, 0), ex_no, ex_no, (.aload_n 0, 1, 0, 0, 0), (.getfield 30, 3, 7, 2, 0), ex_no, ex_no, (.getfield 56, 3, 4, 0, 0), ex_no, ex_no, (.getfield 86, 3, 1, 0, 0), ex_no, ex_no, (.invokevirtual 93, 3, 41, 2, 0), ex_no, ex_no, (.bipush (-6), 2, 0, 0, -6), ex_no, (.if_icmp .eq 6, 3, 37, 0, 0), ex_no, ex_no, (.bipush (-7), 2, 0, 0, -7), ex_no, (.ireturn, 1, 0, 0, 0), (.iconst 0, 1, 0, 0, 0), (.istore_n 2, 1, 2, 0, 0), (.iconst 0, 1, 0, 0, 0), (.istore_n 3, 1, 3, 0, 0), (.iconst 0, 1, 0, 0, 0), (.istore 4, 2, 4, 0, 0), ex_no, (.iload 4, 2, 4, 0, 0), ex_no, (.aload_n 0, 1, 0, 0, 0), (.getfield 10, 3, 7, 0, 0), ex_no, ex_no, (.getfield 80, 3, 3, 1, 0), ex_no, ex_no, (.if_icmp .ge 61, 3, 114, 0, 0), ex_no, ex_no, (.aload_n 0, 1, 0, 0, 0), (.getfield 30, 3, 7, 2, 0), ex_no, ex_no, (.getfield 56, 3, 4, 0, 0), ex_no, ex_no, (.getfield 103, 3, 1, 4, 0), ex_no, ex_no, (.aload_n 0, 1, 0, 0, 0), (.getfield 10, 3, 7, 0, 0), ex_no, ex_no, (.iload 4, 2, 4, 0, 0), ex_no, (.invokevirtual 107, 3, 42, 2, 0), ex_no, ex_no, (.iaload, 1, 0, 0, 0), (.istore 5, 2, 5, 0, 0), ex_no, (.iload_n 3, 1, 3, 0, 0), (.aload_n 0, 1, 0, 0, 0), (.getfield 30, 3, 7, 2, 0), ex_no, ex_no, (.getfield 56, 3, 4, 0, 0), ex_no, ex_no, (.iload_n 2, 1, 2, 0, 0), (.iload 5, 2, 5, 0, 0), ex_no, (.invokevirtual 110, 3, 18, 3, 0), ex_no, ex_no, (.iadd, 1, 0, 0, 0), (.istore_n 3, 1, 3, 0, 0), (.aload_n 0, 1, 0, 0, 0), (.getfield 30, 3, 7, 2, 0), ex_no, ex_no, (.getfield 56, 3, 4, 0, 0), ex_no, ex_no, (.iload_n 2, 1, 2, 0, 0), (.iload 5, 2, 5, 0, 0), ex_no, (.invokevirtual 114, 3, 17, 3, 0), ex_no, ex_no, (.istore_n 2, 1, 2, 0, 0), (.iinc 4 1, 3, 4, 0, 1), ex_no, ex_no, (.goto (-67), 3, 44, 0, 0), ex_no, ex_no, (.iload_n 1, 1, 1, 0, 0), (.ifCond .ne 7, 3, 122, 0, 0), ex_no, ex_no, (.iload_n 2, 1, 2, 0, 0), (.goto 4, 3, 123, 0, 0), ex_no, ex_no, (.iload_n 3, 1, 3, 0, 0), (.ireturn, 1, 0, 0, 0)]
/-- LoopStrands.of -/
def ex_k67 : List ex_MO := [(.aload_n 0, 1, 0, 0, 0), (.iload_n 1, 1, 1, 0, 0), (.invokevirtual 117, 3, 87, 2, 0), ex_no, ex_no, (.ifCond .ne 5, 3, 10, 0, 0), ex_no, ex_no, (.iconst (-1), 1, 0, 0, -1), (.ireturn, 1, 0, 0, 0), (.iload_n 2, 1, 2, 0, 0), (.tableswitch 77 0 3 #[29, 41, 53, 65], 29, 88, 0, 0), ex_no, ex_no, ex_no, ex_no, ex_no, ex_no, ex_no, ex_no, ex_no, ex_no, ex_no, ex_no, ex_no, ex_no, ex_no, ex_no, ex_no, ex_no, ex_no, ex_no, ex_no, ex_no, ex_no, ex_no, ex_no, ex_no, ex_no, ex_no, (.aload_n 0, 1, 0, 0, 0), (.getfield 30, 3, 7, 2, 0), ex_no, ex_no, (.getfield 56, 3, 4, 0, 0), ex_no, ex_no, (.iload_n 1, 1, 1, 0, 0), (.invokevirtual 121, 3, 14, 2, 0), ex_no, ex_no, (.ireturn, 1, 0, 0, 0), (.aload_n 0, 1, 0, 0, 0), (.getfield 30, 3, 7, 2, 0), ex_no, ex_no, (.getfield 56, 3, 4, 0, 0), ex_no, ex_no, (.iload_n 1, 1, 1, 0, 0), (.invokevirtual 124, 3, 15, 2, 0), ex_no, ex_no, (.ireturn, 1, 0, 0, 0), (.aload_n 0, 1, 0, 0, 0), (.getfield 30, 3, 7, 2, 0), ex_no, ex_no, (.getfield 56, 3, 4, 0, 0), ex_no, ex_no, (.iload_n 1, 1, 1, 0, 0), (.invokevirtual 127, 3, 16, 2, 0), ex_no, ex_no, (.ireturn, 1, 0, 0, 0), (.aload_n 0, 1, 0, 0, 0), (.getfield 30, 3, 7, 2, 0), ex_no, ex_no, (.getfield 56, 3, 4, 0, 0), ex_no, ex_no, (.iload_n 1, 1, 1, 0, 0), (.invokevirtual 130, 3, 12, 2, 0), ex_no, ex_no, (.ireturn, 1, 0, 0, 0), (.bipush (-2), 2, 0, 0, -2), ex_no, (.ireturn, 1, 0, 0, 0)]
/-- LoopStrands.joined -/
def ex_k68 : List ex_MO := [(.aload_n 0, 1, 0, 0, 0), (.iload_n 1, 1, 1, 0, 0), (.invokevirtual 117, 3, 87, 2, 0), ex_no, ex_no, (.ifCond .eq 23, 3, 28, 0, 0), ex_no, ex_no, (.iload_n 2, 1, 2, 0, 0), (.iconst 0, 1, 0, 0, 0), (.aload_n 0, 1, 0, 0, 0), (.getfield 30, 3, 7, 2, 0), ex_no, ex_no, (.getfield 56, 3, 4, 0, 0), ex_no, ex_no, (.getfield 133, 3, 1, 1, 0), ex_no, ex_no, (.iconst 1, 1, 0, 0, 1), (.isub, 1, 0, 0, 0), (.invokestatic 52, 3, 85, 3, 0), ex_no, ex_no, (.ifCond .ne 5, 3, 30, 0, 0), ex_no, ex_no, (.iconst (-1), 1, 0, 0, -1), (.ireturn, 1, 0, 0, 0), (.aload_n 0, 1, 0, 0, 0), (.getfield 30, 3, 7, 2, 0), ex_no, ex_no, (.getfield 56, 3, 4, 0, 0), ex_no, ex_no, (.getfield 63, 3, 1, 2, 0), ex_no, ex_no, (.getfield 136, 3, 6, 1, 0), ex_no, ex_no, (.iload_n 1, 1, 1, 0, 0), (.aaload, 1, 0, 0, 0), (.iload_n 2, 1, 2, 0, 0), (.iaload, 1, 0, 0, 0), (.ireturn, 1, 0, 0, 0)]
/-- LoopStrands.stack -/
def ex_k69 : List ex_MO := [(.aload_n 0, 1, 0, 0, 0), (.iload_n 1, 1, 1, 0, 0), (.invokevirtual 117, 3, 87, 2, 0), ex_no, ex_no, (.ifCond .eq 11, 3, 16, 0, 0), ex_no, ex_no, (.aload_n 0, 1, 0, 0, 0), (.iload_n 2, 1, 2, 0, 0), (.invokevirtual 117, 3, 87, 2, 0), ex_no, ex_no, (.ifCond .ne 5, 3, 18, 0, 0), ex_no, ex_no, (.iconst (-1), 1, 0, 0, -1), (.ireturn, 1, 0, 0, 0), (.iload_n 3, 1, 3, 0, 0), (.iconst 0, 1, 0, 0, 0), (.iconst 1, 1, 0, 0, 1), (.invokestatic 52, 3, 85, 3, 0), ex_no, ex_no, (.ifCond .ne 6, 3, 30, 0, 0), ex_no, ex_no, (.bipush (-2), 2, 0, 0, -2), ex_no, (.ireturn, 1, 0, 0, 0), (.iload_n 3, 1, 3, 0, 0), (.ifCond .ne 18, 3, 49, 0, 0), ex_no, ex_no, (.aload_n 0, 1, 0, 0, 0), (.getfield 30, 3, 7, 2, 0), ex_no, ex_no, (.getfield 56, 3, 4, 0, 0), ex_no, ex_no, (.iload_n 1, 1, 1, 0, 0), (.iload_n 2, 1, 2, 0, 0), (.invokevirtual 114, 3, 17, 3, 0), ex_no, ex_no, (.goto 15, 3, 61, 0, 0), ex_no, ex_no, (.aload_n 0, 1, 0, 0, 0), (.getfield 30, 3, 7, 2, 0), ex_no, ex_no, (.getfield 56, 3, 4, 0, 0), ex_no, ex_no, (.iload_n 1, 1, 1, 0, 0), (.iload_n 2, 1, 2, 0, 0), (.invokevirtual 110, 3, 18, 3, 0), ex_no, ex_no, (.ireturn, 1, 0, 0, 0)]
/-- LoopStrands.way -/
def ex_k70 : List ex_MO := [(.aload_n 0, 1, 0, 0, 0), (.iload_n 1, 1, 1, 0, 0), (.invokevirtual 117, 3, 87, 2, 0), ex_no, ex_no, (.ifCond .ne 5, 3, 10, 0, 0), ex_no, ex_no, (.iconst (-1), 1, 0, 0, -1), (.ireturn, 1, 0, 0, 0), (.aload_n 0, 1, 0, 0, 0), (.getfield 30, 3, 7, 2, 0), ex_no, ex_no, (.getfield 56, 3, 4, 0, 0), ex_no, ex_no, (.iload_n 1, 1, 1, 0, 0), (.iload_n 2, 1, 2, 0, 0), (.invokevirtual 140, 3, 13, 3, 0), ex_no, ex_no, (.ireturn, 1, 0, 0, 0)]
/-- LoopStrands.prime -/
def ex_k71 : List ex_MO := [(.iload_n 1, 1, 1, 0, 0), (.invokestatic 143, 3, 86, 1, 0), ex_no, ex_no, (.ifCond .eq 14, 3, 18, 0, 0), ex_no, ex_no, (.iload_n 2, 1, 2, 0, 0), (.iconst 0, 1, 0, 0, 0), (.iload_n 1, 1, 1, 0, 0), (.iconst 1, 1, 0, 0, 1), (.isub, 1, 0, 0, 0), (.invokestatic 52, 3, 85, 3, 0), ex_no, ex_no, (.ifCond .ne 6, 3, 21, 0, 0), ex_no, ex_no, (.bipush (-2), 2, 0, 0, -2), ex_no, (.ireturn, 1, 0, 0, 0), (.aload_n 0, 1, 0, 0, 0), (.getfield 30, 3, 7, 2, 0), ex_no, ex_no, (.getfield 146, 3, 4, 1, 0), ex_no, ex_no, (.getfield 150, 3, 2, 0, 0), ex_no, ex_no, (.istore_n 3, 1, 3, 0, 0), (.aload_n 0, 1, 0, 0, 0), (.getfield 30, 3, 7, 2, 0), ex_no, ex_no, (.getfield 146, 3, 4, 1, 0), ex_no, ex_no, (.iload_n 1, 1, 1, 0, 0), (.iload_n 2, 1, 2, 0, 0), (.invokevirtual 155, 3, 27, 3, 0), ex_no, ex_no, (.aload_n 0, 1, 0, 0, 0), (.getfield 30, 3, 7, 2, 0), ex_no, ex_no, (.invokevirtual 60, 3, 46, 1, 0), ex_no, ex_no, (.iload_n 3, 1, 3, 0, 0), (.ireturn, 1, 0, 0, 0)]
/-- LoopStrands.put -/
def ex_k72 : List ex_MO := [(.aload_n 0, 1, 0, 0, 0), (.iload_n 1, 1, 1, 0, 0), (.invokevirtual 159, 3, 88, 2, 0), ex_no, ex_no, (.ifCond .eq 11, 3, 16, 0, 0), ex_no, ex_no, (.aload_n 0, 1, 0, 0, 0), (.iload_n 2, 1, 2, 0, 0), (.invokevirtual 117, 3, 87, 2, 0), ex_no, ex_no, (.ifCond .ne 5, 3, 18, 0, 0), ex_no, ex_no, (.iconst (-1), 1, 0, 0, -1), (.ireturn, 1, 0, 0, 0), (.aload_n 0, 1, 0, 0, 0), (.iload_n 3, 1, 3, 0, 0), (.invokevirtual 162, 3, 89, 2, 0), ex_no, ex_no, (.ifCond .ne 6, 3, 29, 0, 0), ex_no, ex_no, (.bipush (-2), 2, 0, 0, -2), ex_no, (.ireturn, 1, 0, 0, 0), (.aload_n 0, 1, 0, 0, 0), (.getfield 30, 3, 7, 2, 0), ex_no, ex_no, (.getfield 165, 3, 4, 2, 0), ex_no, ex_no, (.iload_n 1, 1, 1, 0, 0), (.aaload, 1, 0, 0, 0), (.iload_n 2, 1, 2, 0, 0), (.iaload, 1, 0, 0, 0), (.istore 4, 2, 4, 0, 0), ex_no, (.aload_n 0, 1, 0, 0, 0), (.getfield 30, 3, 7, 2, 0), ex_no, ex_no, (.getfield 165, 3, 4, 2, 0), ex_no, ex_no, (.iload_n 1, 1, 1, 0, 0), (.aaload, 1, 0, 0, 0), (.iload_n 2, 1, 2, 0, 0), (.iload_n 3, 1, 3, 0, 0), (.iastore, 1, 0, 0, 0), (.iload 4, 2, 4, 0, 0), ex_no, (.ireturn, 1, 0, 0, 0)]
/-- LoopStrands.at -/
def ex_k73 : List ex_MO := [(.aload_n 0, 1, 0, 0, 0), (.iload_n 1, 1, 1, 0, 0), (.invokevirtual 159, 3, 88, 2, 0), ex_no, ex_no, (.ifCond .eq 11, 3, 16, 0, 0), ex_no, ex_no, (.aload_n 0, 1, 0, 0, 0), (.iload_n 2, 1, 2, 0, 0), (.invokevirtual 117, 3, 87, 2, 0), ex_no, ex_no, (.ifCond .ne 5, 3, 18, 0, 0), ex_no, ex_no, (.iconst (-1), 1, 0, 0, -1), (.ireturn, 1, 0, 0, 0), (.aload_n 0, 1, 0, 0, 0), (.getfield 30, 3, 7, 2, 0), ex_no, ex_no, (.getfield 165, 3, 4, 2, 0), ex_no, ex_no, (.iload_n 1, 1, 1, 0, 0), (.aaload, 1, 0, 0, 0), (.iload_n 2, 1, 2, 0, 0), (.iaload, 1, 0, 0, 0), (.ireturn, 1, 0, 0, 0)]
/-- LoopStrands.both -/
def ex_k74 : List ex_MO := [(.aload_n 0, 1, 0, 0, 0), (.iload_n 1, 1, 1, 0, 0), (.invokevirtual 159, 3, 88, 2, 0), ex_no, ex_no, (.ifCond .eq 19, 3, 24, 0, 0), ex_no, ex_no, (.aload_n 0, 1, 0, 0, 0), (.iload_n 2, 1, 2, 0, 0), (.invokevirtual 159, 3, 88, 2, 0), ex_no, ex_no, (.ifCond .eq 11, 3, 24, 0, 0), ex_no, ex_no, (.aload_n 0, 1, 0, 0, 0), (.iload_n 3, 1, 3, 0, 0), (.invokevirtual 159, 3, 88, 2, 0), ex_no, ex_no, (.ifCond .ne 5, 3, 26, 0, 0), ex_no, ex_no, (.iconst (-1), 1, 0, 0, -1), (.ireturn, 1, 0, 0, 0), (.iload 4, 2, 4, 0, 0), ex_no, (.tableswitch 169 0 2 #[28, 75, 122], 28, 197, 0, 0), ex_no, ex_no, ex_no, ex_no, ex_no, ex_no, ex_no, ex_no, ex_no, ex_no, ex_no, ex_no, ex_no, ex_no, ex_no, ex_no, ex_no, ex_no, ex_no, ex_no, ex_no, ex_no, ex_no, ex_no, ex_no, ex_no, ex_no, (.aload_n 0, 1, 0, 0, 0), (.getfield 41, 3, 7, 4, 0), ex_no, ex_no, (.aload_n 0, 1, 0, 0, 0), (.getfield 30, 3, 7, 2, 0), ex_no, ex_no, (.aload_n 0, 1, 0, 0, 0), (.getfield 30, 3, 7, 2, 0), ex_no, ex_no, (.getfield 165, 3, 4, 2, 0), ex_no, ex_no, (.iload_n 1, 1, 1, 0, 0), (.aaload, 1, 0, 0, 0), (.aload_n 0, 1, 0, 0, 0), (.getfield 30, 3, 7, 2, 0), ex_no, ex_no, (.getfield 165, 3, 4, 2, 0), ex_no, ex_no, (.iload_n 2, 1, 2, 0, 0), (.aaload, 1, 0, 0, 0), (.aload_n 0, 1, 0, 0, 0), (.getfield 30, 3, 7, 2, 0), ex_no, ex_no, (.getfield 165, 3, 4, 2, 0), ex_no, ex_no, (.iload_n 3, 1, 3, 0, 0), (.aaload, 1, 0, 0, 0), (.invokevirtual 168, 3, 1, 5, 0), ex_no, ex_no, (.aload_n 0, 1, 0, 0, 0), (.getfield 30, 3, 7, 2, 0), ex_no, ex_no, (.iload_n 1, 1, 1, 0, 0), (.invokevirtual 171, 3, 47, 2, 0), ex_no, ex_no, (.ireturn, 1, 0, 0, 0), (.aload_n 0, 1, 0, 0, 0), (.getfield 41, 3, 7, 4, 0), ex_no, ex_no, (.aload_n 0, 1, 0, 0, 0), (.getfield 30, 3, 7, 2, 0), ex_no, ex_no, (.aload_n 0, 1, 0, 0, 0), (.getfield 30, 3, 7, 2, 0), ex_no, ex_no, (.getfield 165, 3, 4, 2, 0), ex_no, ex_no, (.iload_n 1, 1, 1, 0, 0), (.aaload, 1, 0, 0, 0), (.aload_n 0, 1, 0, 0, 0), (.getfield 30, 3, 7, 2, 0), ex_no, ex_no, (.getfield 165, 3, 4, 2, 0), ex_no, ex_no, (.iload_n 2, 1, 2, 0, 0), (.aaload, 1, 0, 0, 0), (.aload_n 0, 1, 0, 0, 0), (.getfield 30, 3, 7, 2, 0), ex_no, ex_no, (.getfield 165, 3, 4, 2, 0), ex_no, ex_no, (.iload_n 3, 1, 3, 0, 0), (.aaload, 1, 0, 0, 0), (.invokevirtual 174, 3, 2, 5, 0), ex_no, ex_no, (.aload_n 0, 1, 0, 0, 0), (.getfield 30, 3, 7, 2, 0), ex_no, ex_no, (.iload_n 1, 1, 1, 0, 0), (.invokevirtual 171, 3, 47, 2, 0), ex_no, ex_no, (.ireturn, 1, 0, 0, 0), (.aload_n 0, 1, 0, 0, 0), (.getfield 41, 3, 7, 4, 0), ex_no, ex_no, (.aload_n 0, 1, 0, 0, 0), (.getfield 30, 3, 7, 2, 0), ex_no, ex_no, (.aload_n 0, 1, 0, 0, 0), (.getfield 30, 3, 7, 2, 0), ex_no, ex_no, (.getfield 165, 3, 4, 2, 0), ex_no, ex_no, (.iload_n 1, 1, 1, 0, 0), (.aaload, 1, 0, 0, 0), (.aload_n 0, 1, 0, 0, 0), (.getfield 30, 3, 7, 2, 0), ex_no, ex_no, (.getfield 165, 3, 4, 2, 0), ex_no, ex_no, (.iload_n 2, 1, 2, 0, 0), (.aaload, 1, 0, 0, 0), (.aload_n 0, 1, 0, 0, 0), (.getfield 30, 3, 7, 2, 0), ex_no, ex_no, (.getfield 165, 3, 4, 2, 0), ex_no, ex_no, (.iload_n 3, 1, 3, 0, 0), (.aaload, 1, 0, 0, 0), (.invokevirtual 177, 3, 5, 5, 0), ex_no, ex_no, (.aload_n 0, 1, 0, 0, 0), (.getfield 30, 3, 7, 2, 0), ex_no, ex_no, (.iload_n 1, 1, 1, 0, 0), (.invokevirtual 171, 3, 47, 2, 0), ex_no, ex_no, (.ireturn, 1, 0, 0, 0), (.bipush (-2), 2, 0, 0, -2), ex_no, (.ireturn, 1, 0, 0, 0)]
/-- LoopStrands.times -/
def ex_k75 : List ex_MO := [(.aload_n 0, 1, 0, 0, 0), (.iload_n 1, 1, 1, 0, 0), (.invokevirtual 159, 3, 88, 2, 0), ex_no, ex_no, (.ifCond .eq 11, 3, 16, 0, 0), ex_no, ex_no, (.aload_n 0, 1, 0, 0, 0), (.iload_n 2, 1, 2, 0, 0), (.invokevirtual 159, 3, 88, 2, 0), ex_no, ex_no, (.ifCond .ne 5, 3, 18, 0, 0), ex_no, ex_no, (.iconst (-1), 1, 0, 0, -1), (.ireturn, 1, 0, 0, 0), (.aload_n 0, 1, 0, 0, 0), (.iload_n 3, 1, 3, 0, 0), (.invokevirtual 162, 3, 89, 2, 0), ex_no, ex_no, (.ifCond .ne 6, 3, 29, 0, 0), ex_no, ex_no, (.bipush (-2), 2, 0, 0, -2), ex_no, (.ireturn, 1, 0, 0, 0), (.aload_n 0, 1, 0, 0, 0), (.getfield 41, 3, 7, 4, 0), ex_no, ex_no, (.aload_n 0, 1, 0, 0, 0), (.getfield 30, 3, 7, 2, 0), ex_no, ex_no, (.aload_n 0, 1, 0, 0, 0), (.getfield 30, 3, 7, 2, 0), ex_no, ex_no, (.getfield 165, 3, 4, 2, 0), ex_no, ex_no, (.iload_n 1, 1, 1, 0, 0), (.aaload, 1, 0, 0, 0), (.aload_n 0, 1, 0, 0, 0), (.getfield 30, 3, 7, 2, 0), ex_no, ex_no, (.getfield 165, 3, 4, 2, 0), ex_no, ex_no, (.iload_n 2, 1, 2, 0, 0), (.aaload, 1, 0, 0, 0), (.iload_n 3, 1, 3, 0, 0), (.invokevirtual 180, 3, 3, 5, 0), ex_no, ex_no, (.aload_n 0, 1, 0, 0, 0), (.getfield 30, 3, 7, 2, 0), ex_no, ex_no, (.iload_n 1, 1, 1, 0, 0), (.invokevirtual 171, 3, 47, 2, 0), ex_no, ex_no, (.ireturn, 1, 0, 0, 0)]
/-- LoopStrands.turn -/
def ex_k76 : List ex_MO := [(.aload_n 0, 1, 0, 0, 0), (.iload_n 1, 1, 1, 0, 0), (.invokevirtual 159, 3, 88, 2, 0), ex_no, ex_no, (.ifCond .eq 11, 3, 16, 0, 0), ex_no, ex_no, (.aload_n 0, 1, 0, 0, 0), (.iload_n 2, 1, 2, 0, 0), (.invokevirtual 159, 3, 88, 2, 0), ex_no, ex_no, (.ifCond .ne 5, 3, 18, 0, 0), ex_no, ex_no, (.iconst (-1), 1, 0, 0, -1), (.ireturn, 1, 0, 0, 0), (.aload_n 0, 1, 0, 0, 0), (.getfield 41, 3, 7, 4, 0), ex_no, ex_no, (.aload_n 0, 1, 0, 0, 0), (.getfield 30, 3, 7, 2, 0), ex_no, ex_no, (.aload_n 0, 1, 0, 0, 0), (.getfield 30, 3, 7, 2, 0), ex_no, ex_no, (.getfield 165, 3, 4, 2, 0), ex_no, ex_no, (.iload_n 1, 1, 1, 0, 0), (.aaload, 1, 0, 0, 0), (.aload_n 0, 1, 0, 0, 0), (.getfield 30, 3, 7, 2, 0), ex_no, ex_no, (.getfield 165, 3, 4, 2, 0), ex_no, ex_no, (.iload_n 2, 1, 2, 0, 0), (.aaload, 1, 0, 0, 0), (.invokevirtual 184, 3, 4, 4, 0), ex_no, ex_no, (.aload_n 0, 1, 0, 0, 0), (.getfield 30, 3, 7, 2, 0), ex_no, ex_no, (.iload_n 1, 1, 1, 0, 0), (.invokevirtual 171, 3, 47, 2, 0), ex_no, ex_no, (.ireturn, 1, 0, 0, 0)]
/-- LoopStrands.trace -/
def ex_k77 : List ex_MO := [(.aload_n 0, 1, 0, 0, 0), (.iload_n 1, 1, 1, 0, 0), (.invokevirtual 159, 3, 88, 2, 0), ex_no, ex_no, (.ifCond .ne 5, 3, 10, 0, 0), ex_no, ex_no, (.iconst (-1), 1, 0, 0, -1), (.ireturn, 1, 0, 0, 0), (.aload_n 0, 1, 0, 0, 0), (.getfield 41, 3, 7, 4, 0), ex_no, ex_no, (.aload_n 0, 1, 0, 0, 0), (.getfield 30, 3, 7, 2, 0), ex_no, ex_no, (.aload_n 0, 1, 0, 0, 0), (.getfield 30, 3, 7, 2, 0), ex_no, ex_no, (.getfield 165, 3, 4, 2, 0), ex_no, ex_no, (.iload_n 1, 1, 1, 0, 0), (.aaload, 1, 0, 0, 0), (.invokevirtual 188, 3, 6, 3, 0), ex_no, ex_no, (.ireturn, 1, 0, 0, 0)]
/-- LoopStrands.bracket -/
def ex_k78 : List ex_MO := [(.iload_n 1, 1, 1, 0, 0), (.iconst 0, 1, 0, 0, 0), (.bipush 99, 2, 0, 0, 99), ex_no, (.invokestatic 52, 3, 85, 3, 0), ex_no, ex_no, (.ifCond .ne 6, 3, 13, 0, 0), ex_no, ex_no, (.bipush (-2), 2, 0, 0, -2), ex_no, (.ireturn, 1, 0, 0, 0), (.aload_n 0, 1, 0, 0, 0), (.getfield 30, 3, 7, 2, 0), ex_no, ex_no, (.getfield 146, 3, 4, 1, 0), ex_no, ex_no, (.iload_n 1, 1, 1, 0, 0), (.invokevirtual 192, 3, 34, 2, 0), ex_no, ex_no, (.ireturn, 1, 0, 0, 0)]
/-- LoopStrands.project -/
def ex_k79 : List ex_MO := [(.aload_n 0, 1, 0, 0, 0), (.iload_n 1, 1, 1, 0, 0), (.invokevirtual 159, 3, 88, 2, 0), ex_no, ex_no, (.ifCond .ne 5, 3, 10, 0, 0), ex_no, ex_no, (.iconst (-1), 1, 0, 0, -1), (.ireturn, 1, 0, 0, 0), (.iload_n 2, 1, 2, 0, 0), (.iconst 1, 1, 0, 0, 1), (.aload_n 0, 1, 0, 0, 0), (.getfield 30, 3, 7, 2, 0), ex_no, ex_no, (.getfield 56, 3, 4, 0, 0), ex_no, ex_no, (.getfield 86, 3, 1, 0, 0), ex_no, ex_no, (.invokestatic 52, 3, 85, 3, 0), ex_no, ex_no, (.ifCond .ne 6, 3, 31, 0, 0), ex_no, ex_no, (.bipush (-2), 2, 0, 0, -2), ex_no, (.ireturn, 1, 0, 0, 0), (.aload_n 0, 1, 0, 0, 0), (.getfield 30, 3, 7, 2, 0), ex_no, ex_no, (.getfield 146, 3, 4, 1, 0), ex_no, ex_no, (.iload_n 2, 1, 2, 0, 0), (.invokevirtual 195, 3, 35, 2, 0), ex_no, ex_no, (.ifCond .ne 6, 3, 48, 0, 0), ex_no, ex_no, (.bipush (-3), 2, 0, 0, -3), ex_no, (.ireturn, 1, 0, 0, 0), (.aload_n 0, 1, 0, 0, 0), (.getfield 41, 3, 7, 4, 0), ex_no, ex_no, (.aload_n 0, 1, 0, 0, 0), (.getfield 30, 3, 7, 2, 0), ex_no, ex_no, (.aload_n 0, 1, 0, 0, 0), (.getfield 30, 3, 7, 2, 0), ex_no, ex_no, (.getfield 165, 3, 4, 2, 0), ex_no, ex_no, (.iload_n 1, 1, 1, 0, 0), (.aaload, 1, 0, 0, 0), (.iload_n 2, 1, 2, 0, 0), (.invokevirtual 198, 3, 7, 4, 0), ex_no, ex_no, (.aload_n 0, 1, 0, 0, 0), (.getfield 30, 3, 7, 2, 0), ex_no, ex_no, (.iload_n 1, 1, 1, 0, 0), (.invokevirtual 171, 3, 47, 2, 0), ex_no, ex_no, (.ireturn, 1, 0, 0, 0)]
/-- LoopStrands.cell -/
def ex_k80 : List ex_MO := [(.aload_n 0, 1, 0, 0, 0), (.iload_n 1, 1, 1, 0, 0), (.invokevirtual 202, 3, 90, 2, 0), ex_no, ex_no, (.ifCond .eq 12, 3, 17, 0, 0), ex_no, ex_no, (.iload_n 2, 1, 2, 0, 0), (.iconst 0, 1, 0, 0, 0), (.iconst 2, 1, 0, 0, 2), (.invokestatic 52, 3, 85, 3, 0), ex_no, ex_no, (.ifCond .ne 6, 3, 20, 0, 0), ex_no, ex_no, (.bipush (-2), 2, 0, 0, -2), ex_no, (.ireturn, 1, 0, 0, 0), (.aload_n 0, 1, 0, 0, 0), (.getfield 30, 3, 7, 2, 0), ex_no, ex_no, (.getfield 56, 3, 4, 0, 0), ex_no, ex_no, (.getfield 205, 3, 1, 3, 0), ex_no, ex_no, (.iload_n 1, 1, 1, 0, 0), (.aaload, 1, 0, 0, 0), (.astore_n 3, 1, 3, 0, 0), (.iload_n 2, 1, 2, 0, 0), (.ifCond .ne 8, 3, 42, 0, 0), ex_no, ex_no, (.aload_n 3, 1, 3, 0, 0), (.getfield 67, 3, 6, 0, 0), ex_no, ex_no, (.ireturn, 1, 0, 0, 0), (.aload_n 0, 1, 0, 0, 0), (.getfield 48, 3, 7, 5, 0), ex_no, ex_no, (.aload_n 0, 1, 0, 0, 0), (.getfield 30, 3, 7, 2, 0), ex_no, ex_no, (.getfield 146, 3, 4, 1, 0), ex_no, ex_no, (.aload_n 3, 1, 3, 0, 0), (.invokevirtual 209, 3, 49, 3, 0), ex_no, ex_no, (.aload_n 0, 1, 0, 0, 0), (.getfield 48, 3, 7, 5, 0), ex_no, ex_no, (.aload_n 0, 1, 0, 0, 0), (.getfield 30, 3, 7, 2, 0), ex_no, ex_no, (.getfield 146, 3, 4, 1, 0), ex_no, ex_no, (.invokevirtual 213, 3, 50, 2, 0), ex_no, ex_no, (.iload_n 2, 1, 2, 0, 0), (.iconst 1, 1, 0, 0, 1), (.if_icmp .ne 13, 3, 86, 0, 0), ex_no, ex_no, (.aload_n 0, 1, 0, 0, 0), (.getfield 48, 3, 7, 5, 0), ex_no, ex_no, (.getfield 217, 3, 5, 0, 0), ex_no, ex_no, (.goto 10, 3, 93, 0, 0), ex_no, ex_no, (.aload_n 0, 1, 0, 0, 0), (.getfield 48, 3, 7, 5, 0), ex_no, ex_no, (.getfield 220, 3, 5, 1, 0), ex_no, ex_no, (.ireturn, 1, 0, 0, 0)]
/-- LoopStrands.form -/
def ex_k81 : List ex_MO := [(.aload_n 0, 1, 0, 0, 0), (.iload_n 1, 1, 1, 0, 0), (.invokevirtual 202, 3, 90, 2, 0), ex_no, ex_no, (.ifCond .ne 6, 3, 11, 0, 0), ex_no, ex_no, (.bipush (-2), 2, 0, 0, -2), ex_no, (.ireturn, 1, 0, 0, 0), (.aload_n 0, 1, 0, 0, 0), (.getfield 30, 3, 7, 2, 0), ex_no, ex_no, (.getfield 56, 3, 4, 0, 0), ex_no, ex_no, (.getfield 205, 3, 1, 3, 0), ex_no, ex_no, (.iload_n 1, 1, 1, 0, 0), (.aaload, 1, 0, 0, 0), (.astore 4, 2, 4, 0, 0), ex_no, (.iload_n 2, 1, 2, 0, 0), (.iconst 0, 1, 0, 0, 0), (.aload 4, 2, 4, 0, 0), ex_no, (.getfield 67, 3, 6, 0, 0), ex_no, ex_no, (.iconst 1, 1, 0, 0, 1), (.isub, 1, 0, 0, 0), (.invokestatic 52, 3, 85, 3, 0), ex_no, ex_no, (.ifCond .eq 18, 3, 55, 0, 0), ex_no, ex_no, (.iload_n 3, 1, 3, 0, 0), (.iconst 0, 1, 0, 0, 0), (.aload 4, 2, 4, 0, 0), ex_no, (.getfield 67, 3, 6, 0, 0), ex_no, ex_no, (.iconst 1, 1, 0, 0, 1), (.isub, 1, 0, 0, 0), (.invokestatic 52, 3, 85, 3, 0), ex_no, ex_no, (.ifCond .ne 6, 3, 58, 0, 0), ex_no, ex_no, (.bipush (-2), 2, 0, 0, -2), ex_no, (.ireturn, 1, 0, 0, 0), (.aload_n 0, 1, 0, 0, 0), (.getfield 30, 3, 7, 2, 0), ex_no, ex_no, (.getfield 146, 3, 4, 1, 0), ex_no, ex_no, (.aload 4, 2, 4, 0, 0), ex_no, (.getfield 136, 3, 6, 1, 0), ex_no, ex_no, (.iload_n 2, 1, 2, 0, 0), (.aaload, 1, 0, 0, 0), (.aload 4, 2, 4, 0, 0), ex_no, (.getfield 136, 3, 6, 1, 0), ex_no, ex_no, (.iload_n 3, 1, 3, 0, 0), (.aaload, 1, 0, 0, 0), (.invokestatic 223, 3, 25, 3, 0), ex_no, ex_no, (.ireturn, 1, 0, 0, 0)]
/-- LoopStrands.image -/
def ex_k82 : List ex_MO := [(.iload_n 1, 1, 1, 0, 0), (.iconst 0, 1, 0, 0, 0), (.iconst 1, 1, 0, 0, 1), (.invokestatic 52, 3, 85, 3, 0), ex_no, ex_no, (.ifCond .ne 6, 3, 12, 0, 0), ex_no, ex_no, (.bipush (-2), 2, 0, 0, -2), ex_no, (.ireturn, 1, 0, 0, 0), (.aload_n 0, 1, 0, 0, 0), (.getfield 34, 3, 7, 3, 0), ex_no, ex_no, (.iload_n 1, 1, 1, 0, 0), (.aaload, 1, 0, 0, 0), (.ifnonnull 23, 3, 41, 0, 0), ex_no, ex_no, (.aload_n 0, 1, 0, 0, 0), (.getfield 34, 3, 7, 3, 0), ex_no, ex_no, (.iload_n 1, 1, 1, 0, 0), (.new 25, 3, 4, 0, 0), ex_no, ex_no, (.dup, 1, 0, 0, 0), (.aload_n 0, 1, 0, 0, 0), (.getfield 30, 3, 7, 2, 0), ex_no, ex_no, (.getfield 56, 3, 4, 0, 0), ex_no, ex_no, (.invokespecial 27, 3, 44, 2, 0), ex_no, ex_no, (.aastore, 1, 0, 0, 0), (.aload_n 0, 1, 0, 0, 0), (.getfield 34, 3, 7, 3, 0), ex_no, ex_no, (.iload_n 1, 1, 1, 0, 0), (.aaload, 1, 0, 0, 0), (.aload_n 0, 1, 0, 0, 0), (.getfield 30, 3, 7, 2, 0), ex_no, ex_no, (.invokevirtual 229, 3, 45, 2, 0), ex_no, ex_no, (.iconst 1, 1, 0, 0, 1), (.ireturn, 1, 0, 0, 0)]
/-- LoopStrands.restore -/
def ex_k83 : List ex_MO := [(.iload_n 1, 1, 1, 0, 0), (.iconst 0, 1, 0, 0, 0), (.iconst 1, 1, 0, 0, 1), (.invokestatic 52, 3, 85, 3, 0), ex_no, ex_no, (.ifCond .ne 6, 3, 12, 0, 0), ex_no, ex_no, (.bipush (-2), 2, 0, 0, -2), ex_no, (.ireturn, 1, 0, 0, 0), (.aload_n 0, 1, 0, 0, 0), (.getfield 34, 3, 7, 3, 0), ex_no, ex_no, (.iload_n 1, 1, 1, 0, 0), (.aaload, 1, 0, 0, 0), (.ifnonnull 6, 3, 24, 0, 0), ex_no, ex_no, (.bipush (-3), 2, 0, 0, -3), ex_no, (.ireturn, 1, 0, 0, 0), (.aload_n 0, 1, 0, 0, 0), (.getfield 30, 3, 7, 2, 0), ex_no, ex_no, (.aload_n 0, 1, 0, 0, 0), (.getfield 34, 3, 7, 3, 0), ex_no, ex_no, (.iload_n 1, 1, 1, 0, 0), (.aaload, 1, 0, 0, 0), (.invokevirtual 229, 3, 45, 2, 0), ex_no, ex_no, (.iconst 1, 1, 0, 0, 1), (.ireturn, 1, 0, 0, 0)]
/-- LoopStrands.count -/
def ex_k84 : List ex_MO := [(.iload_n 1, 1, 1, 0, 0), (.tableswitch 124 0 5 #[39, 50, 64, 75, 86, 94], 39, 125, 0, 0), ex_no, ex_no, ex_no, ex_no, ex_no, ex_no, ex_no, ex_no, ex_no, ex_no, ex_no, ex_no, ex_no, ex_no, ex_no, ex_no, ex_no, ex_no, ex_no, ex_no, ex_no, ex_no, ex_no, ex_no, ex_no, ex_no, ex_no, ex_no, ex_no, ex_no, ex_no, ex_no, ex_no, ex_no, ex_no, ex_no, ex_no, ex_no, (.aload_n 0, 1, 0, 0, 0), (.getfield 30, 3, 7, 2, 0), ex_no, ex_no, (.getfield 56, 3, 4, 0, 0), ex_no, ex_no, (.getfield 86, 3, 1, 0, 0), ex_no, ex_no, (.ireturn, 1, 0, 0, 0), (.aload_n 0, 1, 0, 0, 0), (.getfield 30, 3, 7, 2, 0), ex_no, ex_no, (.getfield 56, 3, 4, 0, 0), ex_no, ex_no, (.getfield 63, 3, 1, 2, 0), ex_no, ex_no, (.getfield 67, 3, 6, 0, 0), ex_no, ex_no, (.ireturn, 1, 0, 0, 0), (.aload_n 0, 1, 0, 0, 0), (.getfield 30, 3, 7, 2, 0), ex_no, ex_no, (.getfield 146, 3, 4, 1, 0), ex_no, ex_no, (.getfield 150, 3, 2, 0, 0), ex_no, ex_no, (.ireturn, 1, 0, 0, 0), (.aload_n 0, 1, 0, 0, 0), (.getfield 30, 3, 7, 2, 0), ex_no, ex_no, (.getfield 146, 3, 4, 1, 0), ex_no, ex_no, (.getfield 233, 3, 2, 1, 0), ex_no, ex_no, (.ireturn, 1, 0, 0, 0), (.aload_n 0, 1, 0, 0, 0), (.getfield 10, 3, 7, 0, 0), ex_no, ex_no, (.getfield 80, 3, 3, 1, 0), ex_no, ex_no, (.ireturn, 1, 0, 0, 0), (.aload_n 0, 1, 0, 0, 0), (.getfield 34, 3, 7, 3, 0), ex_no, ex_no, (.iconst 0, 1, 0, 0, 0), (.aaload, 1, 0, 0, 0), (.ifnonnull 7, 3, 108, 0, 0), ex_no, ex_no, (.iconst 0, 1, 0, 0, 0), (.goto 4, 3, 109, 0, 0), ex_no, ex_no, (.iconst 1, 1, 0, 0, 1), (.aload_n 0, 1, 0, 0, 0), (.getfield 34, 3, 7, 3, 0), ex_no, ex_no, (.iconst 1, 1, 0, 0, 1), (.aaload, 1, 0, 0, 0), (.ifnonnull 7, 3, 122, 0, 0), ex_no, ex_no, (.iconst 0, 1, 0, 0, 0), (.goto 4, 3, 123, 0, 0), ex_no, ex_no, (.iconst 2, 1, 0, 0, 2), (.iadd, 1, 0, 0, 0), (.ireturn, 1, 0, 0, 0), (.bipush (-2), 2, 0, 0, -2), ex_no, (.ireturn, 1, 0, 0, 0)]
/-- LoopStrands.isWithin -/
def ex_k85 : List ex_MO := [(.iload_n 0, 1, 0, 0, 0), (.iload_n 1, 1, 1, 0, 0), (.if_icmp .lt 12, 3, 14, 0, 0), ex_no, ex_no, (.iload_n 0, 1, 0, 0, 0), (.iload_n 2, 1, 2, 0, 0), (.if_icmp .gt 7, 3, 14, 0, 0), ex_no, ex_no, (.iconst 1, 1, 0, 0, 1), (.goto 4, 3, 15, 0, 0), ex_no, ex_no, (.iconst 0, 1, 0, 0, 0), (.ireturn, 1, 1, 0, 0)]
/-- LoopStrands.isPrime -/
def ex_k86 : List ex_MO := [(.iload_n 0, 1, 0, 0, 0), (.iconst 2, 1, 0, 0, 2), (.bipush 101, 2, 0, 0, 101), ex_no, (.invokestatic 52, 3, 85, 3, 0), ex_no, ex_no, (.ifCond .ne 5, 3, 12, 0, 0), ex_no, ex_no, (.iconst 0, 1, 0, 0, 0), (.ireturn, 1, 1, 0, 0), (.iconst 2, 1, 0, 0, 2), (.istore_n 1, 1, 1, 0, 0), (.iload_n 1, 1, 1, 0, 0), (.iload_n 1, 1, 1, 0, 0), (.imul, 1, 0, 0, 0), (.iload_n 0, 1, 0, 0, 0), (.if_icmp .gt 17, 3, 35, 0, 0), ex_no, ex_no, (.iload_n 0, 1, 0, 0, 0), (.iload_n 1, 1, 1, 0, 0), (.irem, 1, 0, 0, 0), (.ifCond .ne 5, 3, 29, 0, 0), ex_no, ex_no, (.iconst 0, 1, 0, 0, 0), (.ireturn, 1, 1, 0, 0), (.iinc 1 1, 3, 1, 0, 1), ex_no, ex_no, (.goto (-18), 3, 14, 0, 0), ex_no, ex_no, (.iconst 1, 1, 0, 0, 1), (.ireturn, 1, 1, 0, 0)]
/-- LoopStrands.isDiagram -/
def ex_k87 : List ex_MO := [(.iload_n 1, 1, 1, 0, 0), (.iconst 0, 1, 0, 0, 0), (.aload_n 0, 1, 0, 0, 0), (.getfield 30, 3, 7, 2, 0), ex_no, ex_no, (.getfield 56, 3, 4, 0, 0), ex_no, ex_no, (.getfield 63, 3, 1, 2, 0), ex_no, ex_no, (.getfield 67, 3, 6, 0, 0), ex_no, ex_no, (.iconst 1, 1, 0, 0, 1), (.isub, 1, 0, 0, 0), (.invokestatic 52, 3, 85, 3, 0), ex_no, ex_no, (.ireturn, 1, 1, 0, 0)]
/-- LoopStrands.isSlot -/
def ex_k88 : List ex_MO := [(.iload_n 1, 1, 1, 0, 0), (.iconst 0, 1, 0, 0, 0), (.iconst 4, 1, 0, 0, 4), (.invokestatic 52, 3, 85, 3, 0), ex_no, ex_no, (.ireturn, 1, 1, 0, 0)]
/-- LoopStrands.isNumber -/
def ex_k89 : List ex_MO := [(.iload_n 1, 1, 1, 0, 0), (.iconst 0, 1, 0, 0, 0), (.aload_n 0, 1, 0, 0, 0), (.getfield 30, 3, 7, 2, 0), ex_no, ex_no, (.getfield 146, 3, 4, 1, 0), ex_no, ex_no, (.getfield 150, 3, 2, 0, 0), ex_no, ex_no, (.iconst 1, 1, 0, 0, 1), (.isub, 1, 0, 0, 0), (.invokestatic 52, 3, 85, 3, 0), ex_no, ex_no, (.ireturn, 1, 1, 0, 0)]
/-- LoopStrands.hasHalves -/
def ex_k90 : List ex_MO := [(.iload_n 1, 1, 1, 0, 0), (.iconst 0, 1, 0, 0, 0), (.aload_n 0, 1, 0, 0, 0), (.getfield 30, 3, 7, 2, 0), ex_no, ex_no, (.getfield 56, 3, 4, 0, 0), ex_no, ex_no, (.getfield 86, 3, 1, 0, 0), ex_no, ex_no, (.invokestatic 52, 3, 85, 3, 0), ex_no, ex_no, (.ifCond .eq 22, 3, 37, 0, 0), ex_no, ex_no, (.aload_n 0, 1, 0, 0, 0), (.getfield 30, 3, 7, 2, 0), ex_no, ex_no, (.getfield 56, 3, 4, 0, 0), ex_no, ex_no, (.getfield 205, 3, 1, 3, 0), ex_no, ex_no, (.iload_n 1, 1, 1, 0, 0), (.aaload, 1, 0, 0, 0), (.ifnull 7, 3, 37, 0, 0), ex_no, ex_no, (.iconst 1, 1, 0, 0, 1), (.goto 4, 3, 38, 0, 0), ex_no, ex_no, (.iconst 0, 1, 0, 0, 0), (.ireturn, 1, 1, 0, 0)]
/-- LoopStrandsModel.<init> -/
def ex_k91 : List ex_MO := [(.aload_n 0, 1, 0, 0, 0), (.invokespecial 1, 3, 1000, 0, 0), ex_no, ex_no, (.aload_n 0, 1, 0, 0, 0), (.sipush 213, 3, 0, 0, 213), ex_no, ex_no, (.newarray .int, 2, 0, 0, 0), ex_no, (.putfield 7, 3, 8, 0, 0), ex_no, ex_no, (.aload_n 0, 1, 0, 0, 0), (.sipush 426, 3, 0, 0, 426), ex_no, ex_no, (.newarray .int, 2, 0, 0, 0), ex_no, (.putfield 13, 3, 8, 1, 0), ex_no, ex_no, (.aload_n 0, 1, 0, 0, 0), (.iconst 2, 1, 0, 0, 2), (.newarray .boolean, 2, 1, 0, 0), ex_no, (.putfield 16, 3, 8, 2, 0), ex_no, ex_no, (.aload_n 0, 1, 0, 0, 0), (.bipush 24, 2, 0, 0, 24), ex_no, (.newarray .int, 2, 0, 0, 0), ex_no, (.putfield 20, 3, 8, 3, 0), ex_no, ex_no, (.aload_n 0, 1, 0, 0, 0), (.sipush 420, 3, 0, 0, 420), ex_no, ex_no, (.newarray .int, 2, 0, 0, 0), ex_no, (.putfield 23, 3, 8, 5, 0), ex_no, ex_no, (.aload_n 0, 1, 0, 0, 0), (.sipush 1024, 3, 0, 0, 1024), ex_no, ex_no, (.newarray .int, 2, 0, 0, 0), ex_no, (.putfield 26, 3, 8, 6, 0), ex_no, ex_no, (.aload_n 0, 1, 0, 0, 0), (.sipush 1764, 3, 0, 0, 1764), ex_no, ex_no, (.newarray .int, 2, 0, 0, 0), ex_no, (.putfield 29, 3, 8, 8, 0), ex_no, ex_no, (.aload_n 0, 1, 0, 0, 0), (.sipush 1764, 3, 0, 0, 1764), ex_no, ex_no, (.newarray .int, 2, 0, 0, 0), ex_no, (.putfield 32, 3, 8, 9, 0), ex_no, ex_no, (.aload_n 0, 1, 0, 0, 0), (.bipush 10, 2, 0, 0, 10), ex_no, (.newarray .int, 2, 0, 0, 0), ex_no, (.putfield 35, 3, 8, 10, 0), ex_no, ex_no, (.aload_n 0, 1, 0, 0, 0), (.bipush 10, 2, 0, 0, 10), ex_no, (.newarray .int, 2, 0, 0, 0), ex_no, (.putfield 38, 3, 8, 11, 0), ex_no, ex_no, (.aload_n 0, 1, 0, 0, 0), (.iconst 5, 1, 0, 0, 5), (.newarray .boolean, 2, 1, 0, 0), ex_no, (.putfield 41, 3, 8, 12, 0), ex_no, ex_no, (.aload_n 0, 1, 0, 0, 0), (.bipush 42, 2, 0, 0, 42), ex_no, (.newarray .int, 2, 0, 0, 0), ex_no, (.putfield 44, 3, 8, 13, 0), ex_no, ex_no, (.aload_n 0, 1, 0, 0, 0), (.bipush 42, 2, 0, 0, 42), ex_no, (.newarray .int, 2, 0, 0, 0), ex_no, (.putfield 47, 3, 8, 14, 0), ex_no, ex_no, (.aload_n 0, 1, 0, 0, 0), (.bipush 42, 2, 0, 0, 42), ex_no, (.newarray .int, 2, 0, 0, 0), ex_no, (.putfield 50, 3, 8, 15, 0), ex_no, ex_no, (.aload_n 0, 1, 0, 0, 0), (.bipush 42, 2, 0, 0, 42), ex_no, (.newarray .int, 2, 0, 0, 0), ex_no, (.putfield 53, 3, 8, 16, 0), ex_no, ex_no, (.aload_n 0, 1, 0, 0, 0), (.bipush 42, 2, 0, 0, 42), ex_no, (.newarray .int, 2, 0, 0, 0), ex_no, (.putfield 56, 3, 8, 17, 0), ex_no, ex_no, (.aload_n 0, 1, 0, 0, 0), (.bipush 42, 2, 0, 0, 42), ex_no, (.newarray .int, 2, 0, 0, 0), ex_no, (.putfield 59, 3, 8, 18, 0), ex_no, ex_no, (.aload_n 0, 1, 0, 0, 0), (.bipush 42, 2, 0, 0, 42), ex_no, (.newarray .int, 2, 0, 0, 0), ex_no, (.putfield 62, 3, 8, 19, 0), ex_no, ex_no, (.aload_n 0, 1, 0, 0, 0), (.bipush 42, 2, 0, 0, 42), ex_no, (.newarray .int, 2, 0, 0, 0), ex_no, (.putfield 65, 3, 8, 20, 0), ex_no, ex_no, (.aload_n 0, 1, 0, 0, 0), (.bipush 60, 2, 0, 0, 60), ex_no, (.newarray .int, 2, 0, 0, 0), ex_no, (.putfield 68, 3, 8, 21, 0), ex_no, ex_no, (.aload_n 0, 1, 0, 0, 0), (.iconst 5, 1, 0, 0, 5), (.newarray .int, 2, 0, 0, 0), ex_no, (.putfield 71, 3, 8, 23, 0), ex_no, ex_no, (.aload_n 0, 1, 0, 0, 0), (.sipush 144, 3, 0, 0, 144), ex_no, ex_no, (.newarray .int, 2, 0, 0, 0), ex_no, (.putfield 74, 3, 8, 24, 0), ex_no, ex_no, (.aload_n 0, 1, 0, 0, 0), (.getfield 7, 3, 8, 0, 0), ex_no, ex_no, (.iconst 0, 1, 0, 0, 0), (.iconst 3, 1, 0, 0, 3), (.iastore, 1, 0, 0, 0), (.aload_n 0, 1, 0, 0, 0), (.getfield 7, 3, 8, 0, 0), ex_no, ex_no, (.iconst 1, 1, 0, 0, 1), (.bipush 97, 2, 0, 0, 97), ex_no, (.iastore, 1, 0, 0, 0), (.aload_n 0, 1, 0, 0, 0), (.getfield 7, 3, 8, 0, 0), ex_no, ex_no, (.iconst 2, 1, 0, 0, 2), (.iconst 2, 1, 0, 0, 2), (.iastore, 1, 0, 0, 0), (.aload_n 0, 1, 0, 0, 0), (.invokevirtual 77, 3, 99, 1, 0), ex_no, ex_no, (.return_, 1, 0, 0, 0)]
/-- LoopStrandsModel.in -/
def ex_k92 : List ex_MO := [(.iload_n 0, 1, 0, 0, 0), (.iload_n 1, 1, 1, 0, 0), (.if_icmp .lt 12, 3, 14, 0, 0), ex_no, ex_no, (.iload_n 0, 1, 0, 0, 0), (.iload_n 2, 1, 2, 0, 0), (.if_icmp .gt 7, 3, 14, 0, 0), ex_no, ex_no, (.iconst 1, 1, 0, 0, 1), (.goto 4, 3, 15, 0, 0), ex_no, ex_no, (.iconst 0, 1, 0, 0, 0), (.ireturn, 1, 1, 0, 0)]
/-- LoopStrandsModel.points -/
def ex_k93 : List ex_MO := [(.iconst 2, 1, 0, 0, 2), (.aload_n 0, 1, 0, 0, 0), (.getfield 7, 3, 8, 0, 0), ex_no, ex_no, (.iconst 0, 1, 0, 0, 0), (.iaload, 1, 0, 0, 0), (.imul, 1, 0, 0, 0), (.ireturn, 1, 0, 0, 0)]
/-- LoopStrandsModel.layText -/
def ex_k94 : List ex_MO := [(.iconst 0, 1, 0, 0, 0), (.istore_n 2, 1, 2, 0, 0), (.iconst 1, 1, 0, 0, 1), (.istore_n 3, 1, 3, 0, 0), (.iconst 0, 1, 0, 0, 0), (.istore 4, 2, 4, 0, 0), ex_no, (.iload 4, 2, 4, 0, 0), ex_no, (.aload_n 0, 1, 0, 0, 0), (.invokevirtual 80, 3, 93, 1, 0), ex_no, ex_no, (.if_icmp .ge 81, 3, 94, 0, 0), ex_no, ex_no, (.iload_n 3, 1, 3, 0, 0), (.ifCond .eq 77, 3, 94, 0, 0), ex_no, ex_no, (.iload_n 1, 1, 1, 0, 0), (.aload_n 0, 1, 0, 0, 0), (.invokevirtual 80, 3, 93, 1, 0), ex_no, ex_no, (.iconst 1, 1, 0, 0, 1), (.isub, 1, 0, 0, 0), (.iload 4, 2, 4, 0, 0), ex_no, (.isub, 1, 0, 0, 0), (.ishr, 1, 0, 0, 0), (.iconst 1, 1, 0, 0, 1), (.iand, 1, 0, 0, 0), (.ifCond .ne 17, 3, 50, 0, 0), ex_no, ex_no, (.aload_n 0, 1, 0, 0, 0), (.getfield 38, 3, 8, 11, 0), ex_no, ex_no, (.iload_n 2, 1, 2, 0, 0), (.iload 4, 2, 4, 0, 0), ex_no, (.iastore, 1, 0, 0, 0), (.iinc 2 1, 3, 2, 0, 1), ex_no, ex_no, (.goto 41, 3, 88, 0, 0), ex_no, ex_no, (.iload_n 2, 1, 2, 0, 0), (.ifCond .ne 8, 3, 59, 0, 0), ex_no, ex_no, (.iconst 0, 1, 0, 0, 0), (.istore_n 3, 1, 3, 0, 0), (.goto 32, 3, 88, 0, 0), ex_no, ex_no, (.iinc 2 (-1), 3, 2, 0, -1), ex_no, ex_no, (.aload_n 0, 1, 0, 0, 0), (.getfield 35, 3, 8, 10, 0), ex_no, ex_no, (.iload 4, 2, 4, 0, 0), ex_no, (.aload_n 0, 1, 0, 0, 0), (.getfield 38, 3, 8, 11, 0), ex_no, ex_no, (.iload_n 2, 1, 2, 0, 0), (.iaload, 1, 0, 0, 0), (.iastore, 1, 0, 0, 0), (.aload_n 0, 1, 0, 0, 0), (.getfield 35, 3, 8, 10, 0), ex_no, ex_no, (.aload_n 0, 1, 0, 0, 0), (.getfield 38, 3, 8, 11, 0), ex_no, ex_no, (.iload_n 2, 1, 2, 0, 0), (.iaload, 1, 0, 0, 0), (.iload 4, 2, 4, 0, 0), ex_no, (.iastore, 1, 0, 0, 0), (.iinc 4 1, 3, 4, 0, 1), ex_no, ex_no, (.goto (-84), 3, 7, 0, 0), ex_no, ex_no, (.iload_n 3, 1, 3, 0, 0), (.ifCond .eq 11, 3, 106, 0, 0), ex_no, ex_no, (.iload_n 2, 1, 2, 0, 0), (.ifCond .ne 7, 3, 106, 0, 0), ex_no, ex_no, (.iconst 1, 1, 0, 0, 1), (.goto 4, 3, 107, 0, 0), ex_no, ex_no, (.iconst 0, 1, 0, 0, 0), (.ireturn, 1, 1, 0, 0)]
/-- LoopStrandsModel.textOfRow -/
def ex_k95 : List ex_MO := [(.iconst 0, 1, 0, 0, 0), (.istore_n 1, 1, 1, 0, 0), (.iconst 0, 1, 0, 0, 0), (.istore_n 2, 1, 2, 0, 0), (.iload_n 2, 1, 2, 0, 0), (.aload_n 0, 1, 0, 0, 0), (.invokevirtual 80, 3, 93, 1, 0), ex_no, ex_no, (.if_icmp .ge 29, 3, 38, 0, 0), ex_no, ex_no, (.iconst 2, 1, 0, 0, 2), (.iload_n 1, 1, 1, 0, 0), (.imul, 1, 0, 0, 0), (.aload_n 0, 1, 0, 0, 0), (.getfield 35, 3, 8, 10, 0), ex_no, ex_no, (.iload_n 2, 1, 2, 0, 0), (.iaload, 1, 0, 0, 0), (.iload_n 2, 1, 2, 0, 0), (.if_icmp .le 7, 3, 29, 0, 0), ex_no, ex_no, (.iconst 0, 1, 0, 0, 0), (.goto 4, 3, 30, 0, 0), ex_no, ex_no, (.iconst 1, 1, 0, 0, 1), (.iadd, 1, 0, 0, 0), (.istore_n 1, 1, 1, 0, 0), (.iinc 2 1, 3, 2, 0, 1), ex_no, ex_no, (.goto (-31), 3, 4, 0, 0), ex_no, ex_no, (.iload_n 1, 1, 1, 0, 0), (.ireturn, 1, 0, 0, 0)]
/-- LoopStrandsModel.indexOfRow -/
def ex_k96 : List ex_MO := [(.aload_n 0, 1, 0, 0, 0), (.getfield 26, 3, 8, 6, 0), ex_no, ex_no, (.aload_n 0, 1, 0, 0, 0), (.invokevirtual 84, 3, 95, 1, 0), ex_no, ex_no, (.iaload, 1, 0, 0, 0), (.ireturn, 1, 0, 0, 0)]
/-- LoopStrandsModel.to -/
def ex_k97 : List ex_MO := [(.aload_n 0, 1, 0, 0, 0), (.getfield 23, 3, 8, 5, 0), ex_no, ex_no, (.bipush 10, 2, 0, 0, 10), ex_no, (.iload_n 1, 1, 1, 0, 0), (.imul, 1, 0, 0, 0), (.iload_n 2, 1, 2, 0, 0), (.iadd, 1, 0, 0, 0), (.iaload, 1, 0, 0, 0), (.ireturn, 1, 0, 0, 0)]
/-- LoopStrandsModel.across -/
def ex_k98 : List ex_MO := [(.aload_n 0, 1, 0, 0, 0), (.invokevirtual 80, 3, 93, 1, 0), ex_no, ex_no, (.iconst 1, 1, 0, 0, 1), (.isub, 1, 0, 0, 0), (.iload_n 1, 1, 1, 0, 0), (.isub, 1, 0, 0, 0), (.ireturn, 1, 0, 0, 0)]
/-- LoopStrandsModel.layDiagrams -/
def ex_k99 : List ex_MO := [(.aload_n 0, 1, 0, 0, 0), (.iconst 0, 1, 0, 0, 0), (.putfield 87, 3, 8, 7, 0), ex_no, ex_no, (.iconst 0, 1, 0, 0, 0), (.istore_n 1, 1, 1, 0, 0), (.iload_n 1, 1, 1, 0, 0), (.iconst 1, 1, 0, 0, 1), (.aload_n 0, 1, 0, 0, 0), (.invokevirtual 80, 3, 93, 1, 0), ex_no, ex_no, (.ishl, 1, 0, 0, 0), (.if_icmp .ge 73, 3, 87, 0, 0), ex_no, ex_no, (.aload_n 0, 1, 0, 0, 0), (.iload_n 1, 1, 1, 0, 0), (.invokevirtual 91, 3, 94, 2, 0), ex_no, ex_no, (.ifCond .eq 59, 3, 81, 0, 0), ex_no, ex_no, (.iconst 0, 1, 0, 0, 0), (.istore_n 2, 1, 2, 0, 0), (.iload_n 2, 1, 2, 0, 0), (.aload_n 0, 1, 0, 0, 0), (.invokevirtual 80, 3, 93, 1, 0), ex_no, ex_no, (.if_icmp .ge 29, 3, 61, 0, 0), ex_no, ex_no, (.aload_n 0, 1, 0, 0, 0), (.getfield 23, 3, 8, 5, 0), ex_no, ex_no, (.bipush 10, 2, 0, 0, 10), ex_no, (.aload_n 0, 1, 0, 0, 0), (.getfield 87, 3, 8, 7, 0), ex_no, ex_no, (.imul, 1, 0, 0, 0), (.iload_n 2, 1, 2, 0, 0), (.iadd, 1, 0, 0, 0), (.aload_n 0, 1, 0, 0, 0), (.getfield 35, 3, 8, 10, 0), ex_no, ex_no, (.iload_n 2, 1, 2, 0, 0), (.iaload, 1, 0, 0, 0), (.iastore, 1, 0, 0, 0), (.iinc 2 1, 3, 2, 0, 1), ex_no, ex_no, (.goto (-31), 3, 27, 0, 0), ex_no, ex_no, (.aload_n 0, 1, 0, 0, 0), (.getfield 26, 3, 8, 6, 0), ex_no, ex_no, (.iload_n 1, 1, 1, 0, 0), (.aload_n 0, 1, 0, 0, 0), (.getfield 87, 3, 8, 7, 0), ex_no, ex_no, (.iastore, 1, 0, 0, 0), (.aload_n 0, 1, 0, 0, 0), (.dup, 1, 0, 0, 0), (.getfield 87, 3, 8, 7, 0), ex_no, ex_no, (.iconst 1, 1, 0, 0, 1), (.iadd, 1, 0, 0, 0), (.putfield 87, 3, 8, 7, 0), ex_no, ex_no, (.iinc 1 1, 3, 1, 0, 1), ex_no, ex_no, (.goto (-77), 3, 7, 0, 0), ex_no, ex_no, (.iconst 0, 1, 0, 0, 0), (.istore_n 1, 1, 1, 0, 0), (.iload_n 1, 1, 1, 0, 0), (.aload_n 0, 1, 0, 0, 0), (.getfield 87, 3, 8, 7, 0), ex_no, ex_no, (.if_icmp .ge 31, 3, 125, 0, 0), ex_no, ex_no, (.iconst 0, 1, 0, 0, 0), (.istore_n 2, 1, 2, 0, 0), (.iload_n 2, 1, 2, 0, 0), (.aload_n 0, 1, 0, 0, 0), (.getfield 87, 3, 8, 7, 0), ex_no, ex_no, (.if_icmp .ge 15, 3, 119, 0, 0), ex_no, ex_no, (.aload_n 0, 1, 0, 0, 0), (.iload_n 1, 1, 1, 0, 0), (.iload_n 2, 1, 2, 0, 0), (.invokevirtual 95, 3, 103, 3, 0), ex_no, ex_no, (.iinc 2 1, 3, 2, 0, 1), ex_no, ex_no, (.goto (-17), 3, 99, 0, 0), ex_no, ex_no, (.iinc 1 1, 3, 1, 0, 1), ex_no, ex_no, (.goto (-33), 3, 89, 0, 0), ex_no, ex_no, (.return_, 1, 0, 0, 0)]
/-- LoopStrandsModel.endFromAbove -/
def ex_k100 : List ex_MO := [(.aload_n 0, 1, 0, 0, 0), (.iload_n 1, 1, 1, 0, 0), (.iload_n 3, 1, 3, 0, 0), (.invokevirtual 99, 3, 97, 3, 0), ex_no, ex_no, (.istore 4, 2, 4, 0, 0), ex_no, (.iload 4, 2, 4, 0, 0), ex_no, (.aload_n 0, 1, 0, 0, 0), (.getfield 7, 3, 8, 0, 0), ex_no, ex_no, (.iconst 0, 1, 0, 0, 0), (.iaload, 1, 0, 0, 0), (.if_icmp .lt 66, 3, 82, 0, 0), ex_no, ex_no, (.aload_n 0, 1, 0, 0, 0), (.iload 4, 2, 4, 0, 0), ex_no, (.invokevirtual 103, 3, 98, 2, 0), ex_no, ex_no, (.istore 5, 2, 5, 0, 0), ex_no, (.aload_n 0, 1, 0, 0, 0), (.getfield 41, 3, 8, 12, 0), ex_no, ex_no, (.iload 5, 2, 5, 0, 0), ex_no, (.iconst 1, 1, 0, 0, 1), (.bastore, 1, 0, 0, 0), (.aload_n 0, 1, 0, 0, 0), (.iload_n 2, 1, 2, 0, 0), (.iload 5, 2, 5, 0, 0), ex_no, (.invokevirtual 99, 3, 97, 3, 0), ex_no, ex_no, (.istore 6, 2, 6, 0, 0), ex_no, (.iload 6, 2, 6, 0, 0), ex_no, (.aload_n 0, 1, 0, 0, 0), (.getfield 7, 3, 8, 0, 0), ex_no, ex_no, (.iconst 0, 1, 0, 0, 0), (.iaload, 1, 0, 0, 0), (.if_icmp .lt 6, 3, 58, 0, 0), ex_no, ex_no, (.iload 6, 2, 6, 0, 0), ex_no, (.ireturn, 1, 0, 0, 0), (.aload_n 0, 1, 0, 0, 0), (.getfield 41, 3, 8, 12, 0), ex_no, ex_no, (.iload 6, 2, 6, 0, 0), ex_no, (.iconst 1, 1, 0, 0, 1), (.bastore, 1, 0, 0, 0), (.aload_n 0, 1, 0, 0, 0), (.iload_n 1, 1, 1, 0, 0), (.aload_n 0, 1, 0, 0, 0), (.iload 6, 2, 6, 0, 0), ex_no, (.invokevirtual 103, 3, 98, 2, 0), ex_no, ex_no, (.invokevirtual 99, 3, 97, 3, 0), ex_no, ex_no, (.istore 4, 2, 4, 0, 0), ex_no, (.goto (-71), 3, 8, 0, 0), ex_no, ex_no, (.iload 4, 2, 4, 0, 0), ex_no, (.ireturn, 1, 0, 0, 0)]
/-- LoopStrandsModel.endFromBelow -/
def ex_k101 : List ex_MO := [(.aload_n 0, 1, 0, 0, 0), (.iload_n 2, 1, 2, 0, 0), (.iload_n 3, 1, 3, 0, 0), (.invokevirtual 99, 3, 97, 3, 0), ex_no, ex_no, (.istore 4, 2, 4, 0, 0), ex_no, (.iload 4, 2, 4, 0, 0), ex_no, (.aload_n 0, 1, 0, 0, 0), (.getfield 7, 3, 8, 0, 0), ex_no, ex_no, (.iconst 0, 1, 0, 0, 0), (.iaload, 1, 0, 0, 0), (.if_icmp .ge 66, 3, 82, 0, 0), ex_no, ex_no, (.aload_n 0, 1, 0, 0, 0), (.getfield 41, 3, 8, 12, 0), ex_no, ex_no, (.iload 4, 2, 4, 0, 0), ex_no, (.iconst 1, 1, 0, 0, 1), (.bastore, 1, 0, 0, 0), (.aload_n 0, 1, 0, 0, 0), (.iload_n 1, 1, 1, 0, 0), (.aload_n 0, 1, 0, 0, 0), (.iload 4, 2, 4, 0, 0), ex_no, (.invokevirtual 103, 3, 98, 2, 0), ex_no, ex_no, (.invokevirtual 99, 3, 97, 3, 0), ex_no, ex_no, (.istore 5, 2, 5, 0, 0), ex_no, (.iload 5, 2, 5, 0, 0), ex_no, (.aload_n 0, 1, 0, 0, 0), (.getfield 7, 3, 8, 0, 0), ex_no, ex_no, (.iconst 0, 1, 0, 0, 0), (.iaload, 1, 0, 0, 0), (.if_icmp .ge 6, 3, 54, 0, 0), ex_no, ex_no, (.iload 5, 2, 5, 0, 0), ex_no, (.ireturn, 1, 0, 0, 0), (.aload_n 0, 1, 0, 0, 0), (.getfield 41, 3, 8, 12, 0), ex_no, ex_no, (.aload_n 0, 1, 0, 0, 0), (.iload 5, 2, 5, 0, 0), ex_no, (.invokevirtual 103, 3, 98, 2, 0), ex_no, ex_no, (.iconst 1, 1, 0, 0, 1), (.bastore, 1, 0, 0, 0), (.aload_n 0, 1, 0, 0, 0), (.iload_n 2, 1, 2, 0, 0), (.aload_n 0, 1, 0, 0, 0), (.iload 5, 2, 5, 0, 0), ex_no, (.invokevirtual 103, 3, 98, 2, 0), ex_no, ex_no, (.invokevirtual 99, 3, 97, 3, 0), ex_no, ex_no, (.istore 4, 2, 4, 0, 0), ex_no, (.goto (-71), 3, 8, 0, 0), ex_no, ex_no, (.iload 4, 2, 4, 0, 0), ex_no, (.ireturn, 1, 0, 0, 0)]
/-- LoopStrandsModel.meetRound -/
def ex_k102 : List ex_MO := [(.iload_n 3, 1, 3, 0, 0), (.istore 4, 2, 4, 0, 0), ex_no, (.aload_n 0, 1, 0, 0, 0), (.getfield 41, 3, 8, 12, 0), ex_no, ex_no, (.iload 4, 2, 4, 0, 0), ex_no, (.baload, 1, 0, 0, 0), (.ifCond .ne 48, 3, 58, 0, 0), ex_no, ex_no, (.aload_n 0, 1, 0, 0, 0), (.getfield 41, 3, 8, 12, 0), ex_no, ex_no, (.iload 4, 2, 4, 0, 0), ex_no, (.iconst 1, 1, 0, 0, 1), (.bastore, 1, 0, 0, 0), (.aload_n 0, 1, 0, 0, 0), (.iload_n 2, 1, 2, 0, 0), (.iload 4, 2, 4, 0, 0), ex_no, (.invokevirtual 99, 3, 97, 3, 0), ex_no, ex_no, (.istore 5, 2, 5, 0, 0), ex_no, (.aload_n 0, 1, 0, 0, 0), (.getfield 41, 3, 8, 12, 0), ex_no, ex_no, (.iload 5, 2, 5, 0, 0), ex_no, (.iconst 1, 1, 0, 0, 1), (.bastore, 1, 0, 0, 0), (.aload_n 0, 1, 0, 0, 0), (.aload_n 0, 1, 0, 0, 0), (.iload_n 1, 1, 1, 0, 0), (.aload_n 0, 1, 0, 0, 0), (.iload 5, 2, 5, 0, 0), ex_no, (.invokevirtual 103, 3, 98, 2, 0), ex_no, ex_no, (.invokevirtual 99, 3, 97, 3, 0), ex_no, ex_no, (.invokevirtual 103, 3, 98, 2, 0), ex_no, ex_no, (.istore 4, 2, 4, 0, 0), ex_no, (.goto (-52), 3, 3, 0, 0), ex_no, ex_no, (.return_, 1, 0, 0, 0)]
/-- LoopStrandsModel.layProduct -/
def ex_k103 : List ex_MO := [(.iconst 0, 1, 0, 0, 0), (.istore_n 3, 1, 3, 0, 0), (.iload_n 3, 1, 3, 0, 0), (.aload_n 0, 1, 0, 0, 0), (.getfield 7, 3, 8, 0, 0), ex_no, ex_no, (.iconst 0, 1, 0, 0, 0), (.iaload, 1, 0, 0, 0), (.if_icmp .ge 16, 3, 25, 0, 0), ex_no, ex_no, (.aload_n 0, 1, 0, 0, 0), (.getfield 41, 3, 8, 12, 0), ex_no, ex_no, (.iload_n 3, 1, 3, 0, 0), (.iconst 0, 1, 0, 0, 0), (.bastore, 1, 0, 0, 0), (.iinc 3 1, 3, 3, 0, 1), ex_no, ex_no, (.goto (-20), 3, 2, 0, 0), ex_no, ex_no, (.iconst 0, 1, 0, 0, 0), (.istore_n 3, 1, 3, 0, 0), (.iload_n 3, 1, 3, 0, 0), (.aload_n 0, 1, 0, 0, 0), (.invokevirtual 80, 3, 93, 1, 0), ex_no, ex_no, (.if_icmp .ge 42, 3, 74, 0, 0), ex_no, ex_no, (.aload_n 0, 1, 0, 0, 0), (.getfield 35, 3, 8, 10, 0), ex_no, ex_no, (.iload_n 3, 1, 3, 0, 0), (.iload_n 3, 1, 3, 0, 0), (.aload_n 0, 1, 0, 0, 0), (.getfield 7, 3, 8, 0, 0), ex_no, ex_no, (.iconst 0, 1, 0, 0, 0), (.iaload, 1, 0, 0, 0), (.if_icmp .ge 13, 3, 60, 0, 0), ex_no, ex_no, (.aload_n 0, 1, 0, 0, 0), (.iload_n 1, 1, 1, 0, 0), (.iload_n 2, 1, 2, 0, 0), (.iload_n 3, 1, 3, 0, 0), (.invokevirtual 107, 3, 100, 4, 0), ex_no, ex_no, (.goto 10, 3, 67, 0, 0), ex_no, ex_no, (.aload_n 0, 1, 0, 0, 0), (.iload_n 1, 1, 1, 0, 0), (.iload_n 2, 1, 2, 0, 0), (.iload_n 3, 1, 3, 0, 0), (.invokevirtual 111, 3, 101, 4, 0), ex_no, ex_no, (.iastore, 1, 0, 0, 0), (.iinc 3 1, 3, 3, 0, 1), ex_no, ex_no, (.goto (-44), 3, 27, 0, 0), ex_no, ex_no, (.iconst 0, 1, 0, 0, 0), (.istore_n 3, 1, 3, 0, 0), (.iconst 0, 1, 0, 0, 0), (.istore 4, 2, 4, 0, 0), ex_no, (.iload 4, 2, 4, 0, 0), ex_no, (.aload_n 0, 1, 0, 0, 0), (.getfield 7, 3, 8, 0, 0), ex_no, ex_no, (.iconst 0, 1, 0, 0, 0), (.iaload, 1, 0, 0, 0), (.if_icmp .ge 30, 3, 117, 0, 0), ex_no, ex_no, (.aload_n 0, 1, 0, 0, 0), (.getfield 41, 3, 8, 12, 0), ex_no, ex_no, (.iload 4, 2, 4, 0, 0), ex_no, (.baload, 1, 0, 0, 0), (.ifCond .ne 14, 3, 111, 0, 0), ex_no, ex_no, (.aload_n 0, 1, 0, 0, 0), (.iload_n 1, 1, 1, 0, 0), (.iload_n 2, 1, 2, 0, 0), (.iload 4, 2, 4, 0, 0), ex_no, (.invokevirtual 114, 3, 102, 4, 0), ex_no, ex_no, (.iinc 3 1, 3, 3, 0, 1), ex_no, ex_no, (.iinc 4 1, 3, 4, 0, 1), ex_no, ex_no, (.goto (-35), 3, 79, 0, 0), ex_no, ex_no, (.aload_n 0, 1, 0, 0, 0), (.getfield 29, 3, 8, 8, 0), ex_no, ex_no, (.bipush 42, 2, 0, 0, 42), ex_no, (.iload_n 1, 1, 1, 0, 0), (.imul, 1, 0, 0, 0), (.iload_n 2, 1, 2, 0, 0), (.iadd, 1, 0, 0, 0), (.aload_n 0, 1, 0, 0, 0), (.invokevirtual 118, 3, 96, 1, 0), ex_no, ex_no, (.iastore, 1, 0, 0, 0), (.aload_n 0, 1, 0, 0, 0), (.getfield 32, 3, 8, 9, 0), ex_no, ex_no, (.bipush 42, 2, 0, 0, 42), ex_no, (.iload_n 1, 1, 1, 0, 0), (.imul, 1, 0, 0, 0), (.iload_n 2, 1, 2, 0, 0), (.iadd, 1, 0, 0, 0), (.iload_n 3, 1, 3, 0, 0), (.iastore, 1, 0, 0, 0), (.return_, 1, 0, 0, 0)]
/-- LoopStrandsModel.isDiagram -/
def ex_k104 : List ex_MO := [(.iload_n 1, 1, 1, 0, 0), (.iconst 0, 1, 0, 0, 0), (.aload_n 0, 1, 0, 0, 0), (.getfield 87, 3, 8, 7, 0), ex_no, ex_no, (.iconst 1, 1, 0, 0, 1), (.isub, 1, 0, 0, 0), (.invokestatic 121, 3, 92, 3, 0), ex_no, ex_no, (.ireturn, 1, 1, 0, 0)]
/-- LoopStrandsModel.isSlot -/
def ex_k105 : List ex_MO := [(.iload_n 0, 1, 0, 0, 0), (.iconst 0, 1, 0, 0, 0), (.iconst 4, 1, 0, 0, 4), (.invokestatic 121, 3, 92, 3, 0), ex_no, ex_no, (.ireturn, 1, 1, 0, 0)]
/-- LoopStrandsModel.clearSums -/
def ex_k106 : List ex_MO := [(.iconst 0, 1, 0, 0, 0), (.istore_n 1, 1, 1, 0, 0), (.iload_n 1, 1, 1, 0, 0), (.sipush 210, 3, 0, 0, 210), ex_no, ex_no, (.if_icmp .ge 18, 3, 24, 0, 0), ex_no, ex_no, (.aload_n 0, 1, 0, 0, 0), (.getfield 7, 3, 8, 0, 0), ex_no, ex_no, (.iconst 3, 1, 0, 0, 3), (.iload_n 1, 1, 1, 0, 0), (.iadd, 1, 0, 0, 0), (.iconst 0, 1, 0, 0, 0), (.iastore, 1, 0, 0, 0), (.iinc 1 1, 3, 1, 0, 1), ex_no, ex_no, (.goto (-19), 3, 2, 0, 0), ex_no, ex_no, (.return_, 1, 0, 0, 0)]
/-- LoopStrandsModel.strands -/
def ex_k107 : List ex_MO := [(.iload_n 1, 1, 1, 0, 0), (.iconst 1, 1, 0, 0, 1), (.iconst 5, 1, 0, 0, 5), (.invokestatic 121, 3, 92, 3, 0), ex_no, ex_no, (.ifCond .ne 6, 3, 12, 0, 0), ex_no, ex_no, (.bipush (-2), 2, 0, 0, -2), ex_no, (.ireturn, 1, 0, 0, 0), (.aload_n 0, 1, 0, 0, 0), (.getfield 7, 3, 8, 0, 0), ex_no, ex_no, (.iconst 0, 1, 0, 0, 0), (.iload_n 1, 1, 1, 0, 0), (.iastore, 1, 0, 0, 0), (.aload_n 0, 1, 0, 0, 0), (.invokevirtual 125, 3, 106, 1, 0), ex_no, ex_no, (.aload_n 0, 1, 0, 0, 0), (.invokevirtual 77, 3, 99, 1, 0), ex_no, ex_no, (.aload_n 0, 1, 0, 0, 0), (.getfield 87, 3, 8, 7, 0), ex_no, ex_no, (.ireturn, 1, 0, 0, 0)]
/-- LoopStrandsModel.say -/
def ex_k108 : List ex_MO := [(.iload_n 1, 1, 1, 0, 0), (.bipush 33, 2, 0, 0, 33), ex_no, (.bipush 126, 2, 0, 0, 126), ex_no, (.invokestatic 121, 3, 92, 3, 0), ex_no, ex_no, (.ifCond .ne 6, 3, 14, 0, 0), ex_no, ex_no, (.bipush (-2), 2, 0, 0, -2), ex_no, (.ireturn, 1, 0, 0, 0), (.aload_n 0, 1, 0, 0, 0), (.getfield 128, 3, 8, 4, 0), ex_no, ex_no, (.bipush 24, 2, 0, 0, 24), ex_no, (.if_icmp .ne 6, 3, 26, 0, 0), ex_no, ex_no, (.bipush (-4), 2, 0, 0, -4), ex_no, (.ireturn, 1, 0, 0, 0), (.aload_n 0, 1, 0, 0, 0), (.getfield 20, 3, 8, 3, 0), ex_no, ex_no, (.aload_n 0, 1, 0, 0, 0), (.getfield 128, 3, 8, 4, 0), ex_no, ex_no, (.iload_n 1, 1, 1, 0, 0), (.iastore, 1, 0, 0, 0), (.aload_n 0, 1, 0, 0, 0), (.dup, 1, 0, 0, 0), (.getfield 128, 3, 8, 4, 0), ex_no, ex_no, (.iconst 1, 1, 0, 0, 1), (.iadd, 1, 0, 0, 0), (.putfield 128, 3, 8, 4, 0), ex_no, ex_no, (.aload_n 0, 1, 0, 0, 0), (.getfield 128, 3, 8, 4, 0), ex_no, ex_no, (.ireturn, 1, 0, 0, 0)]
/-- LoopStrandsModel.wipe -/
def ex_k109 : List ex_MO := [(.aload_n 0, 1, 0, 0, 0), (.getfield 128, 3, 8, 4, 0), ex_no, ex_no, (.istore_n 1, 1, 1, 0, 0), (.aload_n 0, 1, 0, 0, 0), (.iconst 0, 1, 0, 0, 0), (.putfield 128, 3, 8, 4, 0), ex_no, ex_no, (.iload_n 1, 1, 1, 0, 0), (.ireturn, 1, 0, 0, 0)]
/-- LoopStrandsModel.diagramFault -/
def ex_k110 : List ex_MO := [(.iconst 0, 1, 0, 0, 0), (.istore_n 1, 1, 1, 0, 0), (.iconst 0, 1, 0, 0, 0), (.istore_n 2, 1, 2, 0, 0), (.iconst 0, 1, 0, 0, 0), (.istore_n 3, 1, 3, 0, 0), (.iload_n 3, 1, 3, 0, 0), (.aload_n 0, 1, 0, 0, 0), (.getfield 128, 3, 8, 4, 0), ex_no, ex_no, (.if_icmp .ge 97, 3, 108, 0, 0), ex_no, ex_no, (.aload_n 0, 1, 0, 0, 0), (.getfield 20, 3, 8, 3, 0), ex_no, ex_no, (.iload_n 3, 1, 3, 0, 0), (.iaload, 1, 0, 0, 0), (.bipush 40, 2, 0, 0, 40), ex_no, (.if_icmp .ne 13, 3, 35, 0, 0), ex_no, ex_no, (.iload_n 1, 1, 1, 0, 0), (.aload_n 0, 1, 0, 0, 0), (.getfield 7, 3, 8, 0, 0), ex_no, ex_no, (.iconst 0, 1, 0, 0, 0), (.iaload, 1, 0, 0, 0), (.if_icmp .lt 18, 3, 50, 0, 0), ex_no, ex_no, (.aload_n 0, 1, 0, 0, 0), (.getfield 20, 3, 8, 3, 0), ex_no, ex_no, (.iload_n 3, 1, 3, 0, 0), (.iaload, 1, 0, 0, 0), (.bipush 41, 2, 0, 0, 41), ex_no, (.if_icmp .ne 11, 3, 54, 0, 0), ex_no, ex_no, (.iload_n 2, 1, 2, 0, 0), (.ifCond .le 7, 3, 54, 0, 0), ex_no, ex_no, (.iconst 1, 1, 0, 0, 1), (.goto 4, 3, 55, 0, 0), ex_no, ex_no, (.iconst 0, 1, 0, 0, 0), (.istore 4, 2, 4, 0, 0), ex_no, (.iload 4, 2, 4, 0, 0), ex_no, (.ifCond .ne 5, 3, 64, 0, 0), ex_no, ex_no, (.iload_n 3, 1, 3, 0, 0), (.ireturn, 1, 0, 0, 0), (.iload_n 1, 1, 1, 0, 0), (.aload_n 0, 1, 0, 0, 0), (.getfield 20, 3, 8, 3, 0), ex_no, ex_no, (.iload_n 3, 1, 3, 0, 0), (.iaload, 1, 0, 0, 0), (.bipush 40, 2, 0, 0, 40), ex_no, (.if_icmp .ne 7, 3, 80, 0, 0), ex_no, ex_no, (.iconst 1, 1, 0, 0, 1), (.goto 4, 3, 81, 0, 0), ex_no, ex_no, (.iconst 0, 1, 0, 0, 0), (.iadd, 1, 0, 0, 0), (.istore_n 1, 1, 1, 0, 0), (.iload_n 2, 1, 2, 0, 0), (.aload_n 0, 1, 0, 0, 0), (.getfield 20, 3, 8, 3, 0), ex_no, ex_no, (.iload_n 3, 1, 3, 0, 0), (.iaload, 1, 0, 0, 0), (.bipush 40, 2, 0, 0, 40), ex_no, (.if_icmp .ne 7, 3, 99, 0, 0), ex_no, ex_no, (.iconst 1, 1, 0, 0, 1), (.goto 4, 3, 100, 0, 0), ex_no, ex_no, (.iconst (-1), 1, 0, 0, -1), (.iadd, 1, 0, 0, 0), (.istore_n 2, 1, 2, 0, 0), (.iinc 3 1, 3, 3, 0, 1), ex_no, ex_no, (.goto (-99), 3, 6, 0, 0), ex_no, ex_no, (.aload_n 0, 1, 0, 0, 0), (.getfield 128, 3, 8, 4, 0), ex_no, ex_no, (.aload_n 0, 1, 0, 0, 0), (.invokevirtual 80, 3, 93, 1, 0), ex_no, ex_no, (.if_icmp .ne 8, 3, 124, 0, 0), ex_no, ex_no, (.bipush (-6), 2, 0, 0, -6), ex_no, (.goto 7, 3, 128, 0, 0), ex_no, ex_no, (.aload_n 0, 1, 0, 0, 0), (.getfield 128, 3, 8, 4, 0), ex_no, ex_no, (.ireturn, 1, 0, 0, 0)]
/-- LoopStrandsModel.isHook -/
def ex_k111 : List ex_MO := [(.iload_n 1, 1, 1, 0, 0), (.iconst 1, 1, 0, 0, 1), (.aload_n 0, 1, 0, 0, 0), (.getfield 7, 3, 8, 0, 0), ex_no, ex_no, (.iconst 0, 1, 0, 0, 0), (.iaload, 1, 0, 0, 0), (.iconst 1, 1, 0, 0, 1), (.isub, 1, 0, 0, 0), (.invokestatic 121, 3, 92, 3, 0), ex_no, ex_no, (.ireturn, 1, 1, 0, 0)]
/-- LoopStrandsModel.wordFault -/
def ex_k112 : List ex_MO := [(.iconst 0, 1, 0, 0, 0), (.istore_n 1, 1, 1, 0, 0), (.iload_n 1, 1, 1, 0, 0), (.aload_n 0, 1, 0, 0, 0), (.getfield 128, 3, 8, 4, 0), ex_no, ex_no, (.if_icmp .ge 27, 3, 34, 0, 0), ex_no, ex_no, (.aload_n 0, 1, 0, 0, 0), (.aload_n 0, 1, 0, 0, 0), (.getfield 20, 3, 8, 3, 0), ex_no, ex_no, (.iload_n 1, 1, 1, 0, 0), (.iaload, 1, 0, 0, 0), (.bipush 48, 2, 0, 0, 48), ex_no, (.isub, 1, 0, 0, 0), (.invokevirtual 131, 3, 111, 2, 0), ex_no, ex_no, (.ifCond .ne 5, 3, 28, 0, 0), ex_no, ex_no, (.iload_n 1, 1, 1, 0, 0), (.ireturn, 1, 0, 0, 0), (.iinc 1 1, 3, 1, 0, 1), ex_no, ex_no, (.goto (-29), 3, 2, 0, 0), ex_no, ex_no, (.bipush (-6), 2, 0, 0, -6), ex_no, (.ireturn, 1, 0, 0, 0)]
/-- LoopStrandsModel.fault -/
def ex_k113 : List ex_MO := [(.iload_n 1, 1, 1, 0, 0), (.ifCond .ne 10, 3, 11, 0, 0), ex_no, ex_no, (.aload_n 0, 1, 0, 0, 0), (.invokevirtual 134, 3, 110, 1, 0), ex_no, ex_no, (.goto 17, 3, 25, 0, 0), ex_no, ex_no, (.iload_n 1, 1, 1, 0, 0), (.iconst 1, 1, 0, 0, 1), (.if_icmp .ne 10, 3, 23, 0, 0), ex_no, ex_no, (.aload_n 0, 1, 0, 0, 0), (.invokevirtual 137, 3, 112, 1, 0), ex_no, ex_no, (.goto 5, 3, 25, 0, 0), ex_no, ex_no, (.bipush (-2), 2, 0, 0, -2), ex_no, (.ireturn, 1, 0, 0, 0)]
/-- LoopStrandsModel.diagram -/
def ex_k114 : List ex_MO := [(.aload_n 0, 1, 0, 0, 0), (.invokevirtual 134, 3, 110, 1, 0), ex_no, ex_no, (.ifCond .lt 6, 3, 10, 0, 0), ex_no, ex_no, (.bipush (-7), 2, 0, 0, -7), ex_no, (.ireturn, 1, 0, 0, 0), (.iconst 0, 1, 0, 0, 0), (.istore_n 1, 1, 1, 0, 0), (.iconst 0, 1, 0, 0, 0), (.istore_n 2, 1, 2, 0, 0), (.iload_n 2, 1, 2, 0, 0), (.aload_n 0, 1, 0, 0, 0), (.getfield 128, 3, 8, 4, 0), ex_no, ex_no, (.if_icmp .ge 30, 3, 49, 0, 0), ex_no, ex_no, (.iconst 2, 1, 0, 0, 2), (.iload_n 1, 1, 1, 0, 0), (.imul, 1, 0, 0, 0), (.aload_n 0, 1, 0, 0, 0), (.getfield 20, 3, 8, 3, 0), ex_no, ex_no, (.iload_n 2, 1, 2, 0, 0), (.iaload, 1, 0, 0, 0), (.bipush 40, 2, 0, 0, 40), ex_no, (.if_icmp .ne 7, 3, 40, 0, 0), ex_no, ex_no, (.iconst 0, 1, 0, 0, 0), (.goto 4, 3, 41, 0, 0), ex_no, ex_no, (.iconst 1, 1, 0, 0, 1), (.iadd, 1, 0, 0, 0), (.istore_n 1, 1, 1, 0, 0), (.iinc 2 1, 3, 2, 0, 1), ex_no, ex_no, (.goto (-32), 3, 14, 0, 0), ex_no, ex_no, (.aload_n 0, 1, 0, 0, 0), (.iconst 0, 1, 0, 0, 0), (.putfield 128, 3, 8, 4, 0), ex_no, ex_no, (.aload_n 0, 1, 0, 0, 0), (.getfield 26, 3, 8, 6, 0), ex_no, ex_no, (.iload_n 1, 1, 1, 0, 0), (.iaload, 1, 0, 0, 0), (.ireturn, 1, 0, 0, 0)]
/-- LoopStrandsModel.joinTwo -/
def ex_k115 : List ex_MO := [(.aload_n 0, 1, 0, 0, 0), (.getfield 35, 3, 8, 10, 0), ex_no, ex_no, (.iload_n 1, 1, 1, 0, 0), (.iload_n 2, 1, 2, 0, 0), (.iastore, 1, 0, 0, 0), (.aload_n 0, 1, 0, 0, 0), (.getfield 35, 3, 8, 10, 0), ex_no, ex_no, (.iload_n 2, 1, 2, 0, 0), (.iload_n 1, 1, 1, 0, 0), (.iastore, 1, 0, 0, 0), (.return_, 1, 0, 0, 0)]
/-- LoopStrandsModel.hook -/
def ex_k116 : List ex_MO := [(.iconst 0, 1, 0, 0, 0), (.istore_n 2, 1, 2, 0, 0), (.iload_n 2, 1, 2, 0, 0), (.aload_n 0, 1, 0, 0, 0), (.getfield 7, 3, 8, 0, 0), ex_no, ex_no, (.iconst 0, 1, 0, 0, 0), (.iaload, 1, 0, 0, 0), (.if_icmp .ge 19, 3, 28, 0, 0), ex_no, ex_no, (.aload_n 0, 1, 0, 0, 0), (.iload_n 2, 1, 2, 0, 0), (.aload_n 0, 1, 0, 0, 0), (.iload_n 2, 1, 2, 0, 0), (.invokevirtual 103, 3, 98, 2, 0), ex_no, ex_no, (.invokevirtual 140, 3, 115, 3, 0), ex_no, ex_no, (.iinc 2 1, 3, 2, 0, 1), ex_no, ex_no, (.goto (-23), 3, 2, 0, 0), ex_no, ex_no, (.aload_n 0, 1, 0, 0, 0), (.iload_n 1, 1, 1, 0, 0), (.iconst 1, 1, 0, 0, 1), (.isub, 1, 0, 0, 0), (.iload_n 1, 1, 1, 0, 0), (.invokevirtual 140, 3, 115, 3, 0), ex_no, ex_no, (.aload_n 0, 1, 0, 0, 0), (.aload_n 0, 1, 0, 0, 0), (.iload_n 1, 1, 1, 0, 0), (.iconst 1, 1, 0, 0, 1), (.isub, 1, 0, 0, 0), (.invokevirtual 103, 3, 98, 2, 0), ex_no, ex_no, (.aload_n 0, 1, 0, 0, 0), (.iload_n 1, 1, 1, 0, 0), (.invokevirtual 103, 3, 98, 2, 0), ex_no, ex_no, (.invokevirtual 140, 3, 115, 3, 0), ex_no, ex_no, (.aload_n 0, 1, 0, 0, 0), (.invokevirtual 118, 3, 96, 1, 0), ex_no, ex_no, (.ireturn, 1, 0, 0, 0)]
/-- LoopStrandsModel.word -/
def ex_k117 : List ex_MO := [(.iload_n 1, 1, 1, 0, 0), (.iconst 0, 1, 0, 0, 0), (.iconst 1, 1, 0, 0, 1), (.invokestatic 121, 3, 92, 3, 0), ex_no, ex_no, (.ifCond .ne 6, 3, 12, 0, 0), ex_no, ex_no, (.bipush (-2), 2, 0, 0, -2), ex_no, (.ireturn, 1, 0, 0, 0), (.aload_n 0, 1, 0, 0, 0), (.invokevirtual 137, 3, 112, 1, 0), ex_no, ex_no, (.ifCond .lt 6, 3, 22, 0, 0), ex_no, ex_no, (.bipush (-7), 2, 0, 0, -7), ex_no, (.ireturn, 1, 0, 0, 0), (.iconst 0, 1, 0, 0, 0), (.istore_n 2, 1, 2, 0, 0), (.iconst 0, 1, 0, 0, 0), (.istore_n 3, 1, 3, 0, 0), (.iconst 0, 1, 0, 0, 0), (.istore 4, 2, 4, 0, 0), ex_no, (.iload 4, 2, 4, 0, 0), ex_no, (.aload_n 0, 1, 0, 0, 0), (.getfield 128, 3, 8, 4, 0), ex_no, ex_no, (.if_icmp .ge 53, 3, 88, 0, 0), ex_no, ex_no, (.aload_n 0, 1, 0, 0, 0), (.aload_n 0, 1, 0, 0, 0), (.getfield 20, 3, 8, 3, 0), ex_no, ex_no, (.iload 4, 2, 4, 0, 0), ex_no, (.iaload, 1, 0, 0, 0), (.bipush 48, 2, 0, 0, 48), ex_no, (.isub, 1, 0, 0, 0), (.invokevirtual 143, 3, 116, 2, 0), ex_no, ex_no, (.istore 5, 2, 5, 0, 0), ex_no, (.iload_n 3, 1, 3, 0, 0), (.aload_n 0, 1, 0, 0, 0), (.getfield 32, 3, 8, 9, 0), ex_no, ex_no, (.bipush 42, 2, 0, 0, 42), ex_no, (.iload_n 2, 1, 2, 0, 0), (.imul, 1, 0, 0, 0), (.iload 5, 2, 5, 0, 0), ex_no, (.iadd, 1, 0, 0, 0), (.iaload, 1, 0, 0, 0), (.iadd, 1, 0, 0, 0), (.istore_n 3, 1, 3, 0, 0), (.aload_n 0, 1, 0, 0, 0), (.getfield 29, 3, 8, 8, 0), ex_no, ex_no, (.bipush 42, 2, 0, 0, 42), ex_no, (.iload_n 2, 1, 2, 0, 0), (.imul, 1, 0, 0, 0), (.iload 5, 2, 5, 0, 0), ex_no, (.iadd, 1, 0, 0, 0), (.iaload, 1, 0, 0, 0), (.istore_n 2, 1, 2, 0, 0), (.iinc 4 1, 3, 4, 0, 1), ex_no, ex_no, (.goto (-56), 3, 29, 0, 0), ex_no, ex_no, (.iload_n 1, 1, 1, 0, 0), (.ifCond .ne 7, 3, 96, 0, 0), ex_no, ex_no, (.iload_n 2, 1, 2, 0, 0), (.goto 4, 3, 97, 0, 0), ex_no, ex_no, (.iload_n 3, 1, 3, 0, 0), (.ireturn, 1, 0, 0, 0)]
/-- LoopStrandsModel.through -/
def ex_k118 : List ex_MO := [(.iconst 0, 1, 0, 0, 0), (.istore_n 2, 1, 2, 0, 0), (.iconst 0, 1, 0, 0, 0), (.istore_n 3, 1, 3, 0, 0), (.iload_n 3, 1, 3, 0, 0), (.aload_n 0, 1, 0, 0, 0), (.getfield 7, 3, 8, 0, 0), ex_no, ex_no, (.iconst 0, 1, 0, 0, 0), (.iaload, 1, 0, 0, 0), (.if_icmp .ge 32, 3, 43, 0, 0), ex_no, ex_no, (.iload_n 2, 1, 2, 0, 0), (.aload_n 0, 1, 0, 0, 0), (.iload_n 1, 1, 1, 0, 0), (.iload_n 3, 1, 3, 0, 0), (.invokevirtual 99, 3, 97, 3, 0), ex_no, ex_no, (.aload_n 0, 1, 0, 0, 0), (.getfield 7, 3, 8, 0, 0), ex_no, ex_no, (.iconst 0, 1, 0, 0, 0), (.iaload, 1, 0, 0, 0), (.if_icmp .lt 7, 3, 34, 0, 0), ex_no, ex_no, (.iconst 1, 1, 0, 0, 1), (.goto 4, 3, 35, 0, 0), ex_no, ex_no, (.iconst 0, 1, 0, 0, 0), (.iadd, 1, 0, 0, 0), (.istore_n 2, 1, 2, 0, 0), (.iinc 3 1, 3, 3, 0, 1), ex_no, ex_no, (.goto (-36), 3, 4, 0, 0), ex_no, ex_no, (.iload_n 2, 1, 2, 0, 0), (.ireturn, 1, 0, 0, 0)]
/-- LoopStrandsModel.closedLoops -/
def ex_k119 : List ex_MO := [(.iconst 0, 1, 0, 0, 0), (.istore_n 2, 1, 2, 0, 0), (.iconst 0, 1, 0, 0, 0), (.istore_n 3, 1, 3, 0, 0), (.iconst 0, 1, 0, 0, 0), (.istore 4, 2, 4, 0, 0), ex_no, (.iload 4, 2, 4, 0, 0), ex_no, (.aload_n 0, 1, 0, 0, 0), (.getfield 7, 3, 8, 0, 0), ex_no, ex_no, (.iconst 0, 1, 0, 0, 0), (.iaload, 1, 0, 0, 0), (.if_icmp .ge 73, 3, 88, 0, 0), ex_no, ex_no, (.iload_n 2, 1, 2, 0, 0), (.iload 4, 2, 4, 0, 0), ex_no, (.ishr, 1, 0, 0, 0), (.iconst 1, 1, 0, 0, 1), (.iand, 1, 0, 0, 0), (.ifCond .ne 58, 3, 82, 0, 0), ex_no, ex_no, (.iinc 3 1, 3, 3, 0, 1), ex_no, ex_no, (.iload 4, 2, 4, 0, 0), ex_no, (.istore 5, 2, 5, 0, 0), ex_no, (.iload_n 2, 1, 2, 0, 0), (.iload 5, 2, 5, 0, 0), ex_no, (.ishr, 1, 0, 0, 0), (.iconst 1, 1, 0, 0, 1), (.iand, 1, 0, 0, 0), (.ifCond .ne 35, 3, 75, 0, 0), ex_no, ex_no, (.aload_n 0, 1, 0, 0, 0), (.iload_n 1, 1, 1, 0, 0), (.iload 5, 2, 5, 0, 0), ex_no, (.invokevirtual 99, 3, 97, 3, 0), ex_no, ex_no, (.istore 6, 2, 6, 0, 0), ex_no, (.iload_n 2, 1, 2, 0, 0), (.iconst 1, 1, 0, 0, 1), (.iload 5, 2, 5, 0, 0), ex_no, (.ishl, 1, 0, 0, 0), (.iconst 1, 1, 0, 0, 1), (.iload 6, 2, 6, 0, 0), ex_no, (.ishl, 1, 0, 0, 0), (.ior, 1, 0, 0, 0), (.ior, 1, 0, 0, 0), (.istore_n 2, 1, 2, 0, 0), (.aload_n 0, 1, 0, 0, 0), (.iload 6, 2, 6, 0, 0), ex_no, (.invokevirtual 103, 3, 98, 2, 0), ex_no, ex_no, (.istore 5, 2, 5, 0, 0), ex_no, (.goto (-38), 3, 34, 0, 0), ex_no, ex_no, (.iload_n 2, 1, 2, 0, 0), (.iconst 1, 1, 0, 0, 1), (.iload 5, 2, 5, 0, 0), ex_no, (.ishl, 1, 0, 0, 0), (.ior, 1, 0, 0, 0), (.istore_n 2, 1, 2, 0, 0), (.iinc 4 1, 3, 4, 0, 1), ex_no, ex_no, (.goto (-78), 3, 7, 0, 0), ex_no, ex_no, (.iload_n 3, 1, 3, 0, 0), (.ireturn, 1, 0, 0, 0)]
/-- LoopStrandsModel.turnedOf -/
def ex_k120 : List ex_MO := [(.iconst 0, 1, 0, 0, 0), (.istore_n 2, 1, 2, 0, 0), (.iload_n 2, 1, 2, 0, 0), (.aload_n 0, 1, 0, 0, 0), (.invokevirtual 80, 3, 93, 1, 0), ex_no, ex_no, (.if_icmp .ge 29, 3, 36, 0, 0), ex_no, ex_no, (.aload_n 0, 1, 0, 0, 0), (.getfield 35, 3, 8, 10, 0), ex_no, ex_no, (.aload_n 0, 1, 0, 0, 0), (.iload_n 2, 1, 2, 0, 0), (.invokevirtual 103, 3, 98, 2, 0), ex_no, ex_no, (.aload_n 0, 1, 0, 0, 0), (.aload_n 0, 1, 0, 0, 0), (.iload_n 1, 1, 1, 0, 0), (.iload_n 2, 1, 2, 0, 0), (.invokevirtual 99, 3, 97, 3, 0), ex_no, ex_no, (.invokevirtual 103, 3, 98, 2, 0), ex_no, ex_no, (.iastore, 1, 0, 0, 0), (.iinc 2 1, 3, 2, 0, 1), ex_no, ex_no, (.goto (-31), 3, 2, 0, 0), ex_no, ex_no, (.aload_n 0, 1, 0, 0, 0), (.invokevirtual 118, 3, 96, 1, 0), ex_no, ex_no, (.ireturn, 1, 0, 0, 0)]
/-- LoopStrandsModel.layWays -/
def ex_k121 : List ex_MO := [(.iconst 0, 1, 0, 0, 0), (.istore_n 1, 1, 1, 0, 0), (.iload_n 1, 1, 1, 0, 0), (.aload_n 0, 1, 0, 0, 0), (.getfield 87, 3, 8, 7, 0), ex_no, ex_no, (.if_icmp .ge 17, 3, 24, 0, 0), ex_no, ex_no, (.aload_n 0, 1, 0, 0, 0), (.getfield 53, 3, 8, 16, 0), ex_no, ex_no, (.iload_n 1, 1, 1, 0, 0), (.bipush (-6), 2, 0, 0, -6), ex_no, (.iastore, 1, 0, 0, 0), (.iinc 1 1, 3, 1, 0, 1), ex_no, ex_no, (.goto (-19), 3, 2, 0, 0), ex_no, ex_no, (.aload_n 0, 1, 0, 0, 0), (.getfield 53, 3, 8, 16, 0), ex_no, ex_no, (.iconst 0, 1, 0, 0, 0), (.iconst 0, 1, 0, 0, 0), (.iastore, 1, 0, 0, 0), (.aload_n 0, 1, 0, 0, 0), (.getfield 44, 3, 8, 13, 0), ex_no, ex_no, (.iconst 0, 1, 0, 0, 0), (.iconst 0, 1, 0, 0, 0), (.iastore, 1, 0, 0, 0), (.iconst 1, 1, 0, 0, 1), (.istore_n 1, 1, 1, 0, 0), (.iconst 0, 1, 0, 0, 0), (.istore_n 2, 1, 2, 0, 0), (.iload_n 2, 1, 2, 0, 0), (.iload_n 1, 1, 1, 0, 0), (.if_icmp .ge 111, 3, 155, 0, 0), ex_no, ex_no, (.iconst 1, 1, 0, 0, 1), (.istore_n 3, 1, 3, 0, 0), (.iload_n 3, 1, 3, 0, 0), (.aload_n 0, 1, 0, 0, 0), (.getfield 7, 3, 8, 0, 0), ex_no, ex_no, (.iconst 0, 1, 0, 0, 0), (.iaload, 1, 0, 0, 0), (.if_icmp .ge 93, 3, 149, 0, 0), ex_no, ex_no, (.aload_n 0, 1, 0, 0, 0), (.getfield 29, 3, 8, 8, 0), ex_no, ex_no, (.bipush 42, 2, 0, 0, 42), ex_no, (.aload_n 0, 1, 0, 0, 0), (.getfield 44, 3, 8, 13, 0), ex_no, ex_no, (.iload_n 2, 1, 2, 0, 0), (.iaload, 1, 0, 0, 0), (.imul, 1, 0, 0, 0), (.aload_n 0, 1, 0, 0, 0), (.iload_n 3, 1, 3, 0, 0), (.invokevirtual 143, 3, 116, 2, 0), ex_no, ex_no, (.iadd, 1, 0, 0, 0), (.iaload, 1, 0, 0, 0), (.istore 4, 2, 4, 0, 0), ex_no, (.aload_n 0, 1, 0, 0, 0), (.getfield 53, 3, 8, 16, 0), ex_no, ex_no, (.iload 4, 2, 4, 0, 0), ex_no, (.iaload, 1, 0, 0, 0), (.ifCond .ge 55, 3, 143, 0, 0), ex_no, ex_no, (.aload_n 0, 1, 0, 0, 0), (.getfield 53, 3, 8, 16, 0), ex_no, ex_no, (.iload 4, 2, 4, 0, 0), ex_no, (.aload_n 0, 1, 0, 0, 0), (.getfield 53, 3, 8, 16, 0), ex_no, ex_no, (.aload_n 0, 1, 0, 0, 0), (.getfield 44, 3, 8, 13, 0), ex_no, ex_no, (.iload_n 2, 1, 2, 0, 0), (.iaload, 1, 0, 0, 0), (.iaload, 1, 0, 0, 0), (.iconst 1, 1, 0, 0, 1), (.iadd, 1, 0, 0, 0), (.iastore, 1, 0, 0, 0), (.aload_n 0, 1, 0, 0, 0), (.getfield 47, 3, 8, 14, 0), ex_no, ex_no, (.iload 4, 2, 4, 0, 0), ex_no, (.aload_n 0, 1, 0, 0, 0), (.getfield 44, 3, 8, 13, 0), ex_no, ex_no, (.iload_n 2, 1, 2, 0, 0), (.iaload, 1, 0, 0, 0), (.iastore, 1, 0, 0, 0), (.aload_n 0, 1, 0, 0, 0), (.getfield 50, 3, 8, 15, 0), ex_no, ex_no, (.iload 4, 2, 4, 0, 0), ex_no, (.iload_n 3, 1, 3, 0, 0), (.iastore, 1, 0, 0, 0), (.aload_n 0, 1, 0, 0, 0), (.getfield 44, 3, 8, 13, 0), ex_no, ex_no, (.iload_n 1, 1, 1, 0, 0), (.iload 4, 2, 4, 0, 0), ex_no, (.iastore, 1, 0, 0, 0), (.iinc 1 1, 3, 1, 0, 1), ex_no, ex_no, (.iinc 3 1, 3, 3, 0, 1), ex_no, ex_no, (.goto (-97), 3, 49, 0, 0), ex_no, ex_no, (.iinc 2 1, 3, 2, 0, 1), ex_no, ex_no, (.goto (-110), 3, 42, 0, 0), ex_no, ex_no, (.return_, 1, 0, 0, 0)]
/-- LoopStrandsModel.of -/
def ex_k122 : List ex_MO := [(.aload_n 0, 1, 0, 0, 0), (.iload_n 1, 1, 1, 0, 0), (.invokevirtual 146, 3, 104, 2, 0), ex_no, ex_no, (.ifCond .ne 5, 3, 10, 0, 0), ex_no, ex_no, (.iconst (-1), 1, 0, 0, -1), (.ireturn, 1, 0, 0, 0), (.iload_n 2, 1, 2, 0, 0), (.tableswitch 58 0 3 #[29, 35, 41, 47], 29, 69, 0, 0), ex_no, ex_no, ex_no, ex_no, ex_no, ex_no, ex_no, ex_no, ex_no, ex_no, ex_no, ex_no, ex_no, ex_no, ex_no, ex_no, ex_no, ex_no, ex_no, ex_no, ex_no, ex_no, ex_no, ex_no, ex_no, ex_no, ex_no, ex_no, (.aload_n 0, 1, 0, 0, 0), (.iload_n 1, 1, 1, 0, 0), (.invokevirtual 149, 3, 118, 2, 0), ex_no, ex_no, (.ireturn, 1, 0, 0, 0), (.aload_n 0, 1, 0, 0, 0), (.iload_n 1, 1, 1, 0, 0), (.invokevirtual 152, 3, 119, 2, 0), ex_no, ex_no, (.ireturn, 1, 0, 0, 0), (.aload_n 0, 1, 0, 0, 0), (.iload_n 1, 1, 1, 0, 0), (.invokevirtual 155, 3, 120, 2, 0), ex_no, ex_no, (.ireturn, 1, 0, 0, 0), (.aload_n 0, 1, 0, 0, 0), (.invokevirtual 158, 3, 121, 1, 0), ex_no, ex_no, (.aload_n 0, 1, 0, 0, 0), (.getfield 53, 3, 8, 16, 0), ex_no, ex_no, (.iload_n 1, 1, 1, 0, 0), (.iaload, 1, 0, 0, 0), (.ireturn, 1, 0, 0, 0), (.bipush (-2), 2, 0, 0, -2), ex_no, (.ireturn, 1, 0, 0, 0)]
/-- LoopStrandsModel.joined -/
def ex_k123 : List ex_MO := [(.aload_n 0, 1, 0, 0, 0), (.iload_n 1, 1, 1, 0, 0), (.invokevirtual 146, 3, 104, 2, 0), ex_no, ex_no, (.ifCond .eq 26, 3, 31, 0, 0), ex_no, ex_no, (.iload_n 2, 1, 2, 0, 0), (.iconst 0, 1, 0, 0, 0), (.aload_n 0, 1, 0, 0, 0), (.invokevirtual 80, 3, 93, 1, 0), ex_no, ex_no, (.iconst 1, 1, 0, 0, 1), (.isub, 1, 0, 0, 0), (.invokestatic 121, 3, 92, 3, 0), ex_no, ex_no, (.ifCond .eq 12, 3, 31, 0, 0), ex_no, ex_no, (.aload_n 0, 1, 0, 0, 0), (.iload_n 1, 1, 1, 0, 0), (.iload_n 2, 1, 2, 0, 0), (.invokevirtual 99, 3, 97, 3, 0), ex_no, ex_no, (.goto 4, 3, 32, 0, 0), ex_no, ex_no, (.iconst (-1), 1, 0, 0, -1), (.ireturn, 1, 0, 0, 0)]
/-- LoopStrandsModel.stack -/
def ex_k124 : List ex_MO := [(.aload_n 0, 1, 0, 0, 0), (.iload_n 1, 1, 1, 0, 0), (.invokevirtual 146, 3, 104, 2, 0), ex_no, ex_no, (.ifCond .eq 11, 3, 16, 0, 0), ex_no, ex_no, (.aload_n 0, 1, 0, 0, 0), (.iload_n 2, 1, 2, 0, 0), (.invokevirtual 146, 3, 104, 2, 0), ex_no, ex_no, (.ifCond .ne 5, 3, 18, 0, 0), ex_no, ex_no, (.iconst (-1), 1, 0, 0, -1), (.ireturn, 1, 0, 0, 0), (.iload_n 3, 1, 3, 0, 0), (.ifCond .ne 17, 3, 36, 0, 0), ex_no, ex_no, (.aload_n 0, 1, 0, 0, 0), (.getfield 29, 3, 8, 8, 0), ex_no, ex_no, (.bipush 42, 2, 0, 0, 42), ex_no, (.iload_n 1, 1, 1, 0, 0), (.imul, 1, 0, 0, 0), (.iload_n 2, 1, 2, 0, 0), (.iadd, 1, 0, 0, 0), (.iaload, 1, 0, 0, 0), (.goto 24, 3, 57, 0, 0), ex_no, ex_no, (.iload_n 3, 1, 3, 0, 0), (.iconst 1, 1, 0, 0, 1), (.if_icmp .ne 17, 3, 55, 0, 0), ex_no, ex_no, (.aload_n 0, 1, 0, 0, 0), (.getfield 32, 3, 8, 9, 0), ex_no, ex_no, (.bipush 42, 2, 0, 0, 42), ex_no, (.iload_n 1, 1, 1, 0, 0), (.imul, 1, 0, 0, 0), (.iload_n 2, 1, 2, 0, 0), (.iadd, 1, 0, 0, 0), (.iaload, 1, 0, 0, 0), (.goto 5, 3, 57, 0, 0), ex_no, ex_no, (.bipush (-2), 2, 0, 0, -2), ex_no, (.ireturn, 1, 0, 0, 0)]
/-- LoopStrandsModel.way -/
def ex_k125 : List ex_MO := [(.aload_n 0, 1, 0, 0, 0), (.iload_n 1, 1, 1, 0, 0), (.invokevirtual 146, 3, 104, 2, 0), ex_no, ex_no, (.ifCond .ne 5, 3, 10, 0, 0), ex_no, ex_no, (.iconst (-1), 1, 0, 0, -1), (.ireturn, 1, 0, 0, 0), (.aload_n 0, 1, 0, 0, 0), (.invokevirtual 158, 3, 121, 1, 0), ex_no, ex_no, (.iload_n 2, 1, 2, 0, 0), (.iconst 0, 1, 0, 0, 0), (.aload_n 0, 1, 0, 0, 0), (.getfield 53, 3, 8, 16, 0), ex_no, ex_no, (.iload_n 1, 1, 1, 0, 0), (.iaload, 1, 0, 0, 0), (.iconst 1, 1, 0, 0, 1), (.isub, 1, 0, 0, 0), (.invokestatic 121, 3, 92, 3, 0), ex_no, ex_no, (.ifCond .ne 6, 3, 33, 0, 0), ex_no, ex_no, (.bipush (-6), 2, 0, 0, -6), ex_no, (.ireturn, 1, 0, 0, 0), (.iload_n 1, 1, 1, 0, 0), (.istore_n 3, 1, 3, 0, 0), (.aload_n 0, 1, 0, 0, 0), (.getfield 53, 3, 8, 16, 0), ex_no, ex_no, (.iload_n 3, 1, 3, 0, 0), (.iaload, 1, 0, 0, 0), (.iload_n 2, 1, 2, 0, 0), (.iconst 1, 1, 0, 0, 1), (.iadd, 1, 0, 0, 0), (.if_icmp .le 13, 3, 57, 0, 0), ex_no, ex_no, (.aload_n 0, 1, 0, 0, 0), (.getfield 47, 3, 8, 14, 0), ex_no, ex_no, (.iload_n 3, 1, 3, 0, 0), (.iaload, 1, 0, 0, 0), (.istore_n 3, 1, 3, 0, 0), (.goto (-19), 3, 35, 0, 0), ex_no, ex_no, (.aload_n 0, 1, 0, 0, 0), (.getfield 50, 3, 8, 15, 0), ex_no, ex_no, (.iload_n 3, 1, 3, 0, 0), (.iaload, 1, 0, 0, 0), (.ireturn, 1, 0, 0, 0)]
/-- LoopStrandsModel.isPrime -/
def ex_k126 : List ex_MO := [(.iload_n 0, 1, 0, 0, 0), (.iconst 2, 1, 0, 0, 2), (.bipush 101, 2, 0, 0, 101), ex_no, (.invokestatic 121, 3, 92, 3, 0), ex_no, ex_no, (.istore_n 1, 1, 1, 0, 0), (.iconst 2, 1, 0, 0, 2), (.istore_n 2, 1, 2, 0, 0), (.iload_n 2, 1, 2, 0, 0), (.iload_n 0, 1, 0, 0, 0), (.if_icmp .ge 31, 3, 43, 0, 0), ex_no, ex_no, (.iload_n 2, 1, 2, 0, 0), (.bipush 11, 2, 0, 0, 11), ex_no, (.if_icmp .ge 25, 3, 43, 0, 0), ex_no, ex_no, (.iload_n 1, 1, 1, 0, 0), (.ifCond .eq 13, 3, 35, 0, 0), ex_no, ex_no, (.iload_n 0, 1, 0, 0, 0), (.iload_n 2, 1, 2, 0, 0), (.irem, 1, 0, 0, 0), (.ifCond .eq 7, 3, 35, 0, 0), ex_no, ex_no, (.iconst 1, 1, 0, 0, 1), (.goto 4, 3, 36, 0, 0), ex_no, ex_no, (.iconst 0, 1, 0, 0, 0), (.istore_n 1, 1, 1, 0, 0), (.iinc 2 1, 3, 2, 0, 1), ex_no, ex_no, (.goto (-30), 3, 10, 0, 0), ex_no, ex_no, (.iload_n 1, 1, 1, 0, 0), (.ireturn, 1, 1, 0, 0)]
/-- LoopStrandsModel.isNumber -/
def ex_k127 : List ex_MO := [(.iload_n 1, 1, 1, 0, 0), (.iconst 0, 1, 0, 0, 0), (.aload_n 0, 1, 0, 0, 0), (.getfield 7, 3, 8, 0, 0), ex_no, ex_no, (.iconst 1, 1, 0, 0, 1), (.iaload, 1, 0, 0, 0), (.iconst 1, 1, 0, 0, 1), (.isub, 1, 0, 0, 0), (.invokestatic 121, 3, 92, 3, 0), ex_no, ex_no, (.ireturn, 1, 1, 0, 0)]
/-- LoopStrandsModel.by -/
def ex_k128 : List ex_MO := [(.iload_n 1, 1, 1, 0, 0), (.aload_n 0, 1, 0, 0, 0), (.getfield 7, 3, 8, 0, 0), ex_no, ex_no, (.iconst 1, 1, 0, 0, 1), (.iaload, 1, 0, 0, 0), (.irem, 1, 0, 0, 0), (.istore_n 2, 1, 2, 0, 0), (.iload_n 2, 1, 2, 0, 0), (.ifCond .ge 14, 3, 24, 0, 0), ex_no, ex_no, (.iload_n 2, 1, 2, 0, 0), (.aload_n 0, 1, 0, 0, 0), (.getfield 7, 3, 8, 0, 0), ex_no, ex_no, (.iconst 1, 1, 0, 0, 1), (.iaload, 1, 0, 0, 0), (.iadd, 1, 0, 0, 0), (.goto 4, 3, 25, 0, 0), ex_no, ex_no, (.iload_n 2, 1, 2, 0, 0), (.ireturn, 1, 0, 0, 0)]
/-- LoopStrandsModel.loopTimes -/
def ex_k129 : List ex_MO := [(.aload_n 0, 1, 0, 0, 0), (.iconst 1, 1, 0, 0, 1), (.invokevirtual 161, 3, 128, 2, 0), ex_no, ex_no, (.istore_n 2, 1, 2, 0, 0), (.iconst 0, 1, 0, 0, 0), (.istore_n 3, 1, 3, 0, 0), (.iload_n 3, 1, 3, 0, 0), (.iload_n 1, 1, 1, 0, 0), (.if_icmp .ge 22, 3, 32, 0, 0), ex_no, ex_no, (.aload_n 0, 1, 0, 0, 0), (.iload_n 2, 1, 2, 0, 0), (.aload_n 0, 1, 0, 0, 0), (.getfield 7, 3, 8, 0, 0), ex_no, ex_no, (.iconst 2, 1, 0, 0, 2), (.iaload, 1, 0, 0, 0), (.imul, 1, 0, 0, 0), (.invokevirtual 161, 3, 128, 2, 0), ex_no, ex_no, (.istore_n 2, 1, 2, 0, 0), (.iinc 3 1, 3, 3, 0, 1), ex_no, ex_no, (.goto (-21), 3, 8, 0, 0), ex_no, ex_no, (.iload_n 2, 1, 2, 0, 0), (.ireturn, 1, 0, 0, 0)]
/-- LoopStrandsModel.prime -/
def ex_k130 : List ex_MO := [(.iload_n 1, 1, 1, 0, 0), (.invokestatic 164, 3, 126, 1, 0), ex_no, ex_no, (.ifCond .eq 14, 3, 18, 0, 0), ex_no, ex_no, (.iload_n 2, 1, 2, 0, 0), (.iconst 0, 1, 0, 0, 0), (.iload_n 1, 1, 1, 0, 0), (.iconst 1, 1, 0, 0, 1), (.isub, 1, 0, 0, 0), (.invokestatic 121, 3, 92, 3, 0), ex_no, ex_no, (.ifCond .ne 6, 3, 21, 0, 0), ex_no, ex_no, (.bipush (-2), 2, 0, 0, -2), ex_no, (.ireturn, 1, 0, 0, 0), (.aload_n 0, 1, 0, 0, 0), (.getfield 7, 3, 8, 0, 0), ex_no, ex_no, (.iconst 1, 1, 0, 0, 1), (.iaload, 1, 0, 0, 0), (.istore_n 3, 1, 3, 0, 0), (.aload_n 0, 1, 0, 0, 0), (.getfield 7, 3, 8, 0, 0), ex_no, ex_no, (.iconst 1, 1, 0, 0, 1), (.iload_n 1, 1, 1, 0, 0), (.iastore, 1, 0, 0, 0), (.aload_n 0, 1, 0, 0, 0), (.getfield 7, 3, 8, 0, 0), ex_no, ex_no, (.iconst 2, 1, 0, 0, 2), (.iload_n 2, 1, 2, 0, 0), (.iastore, 1, 0, 0, 0), (.aload_n 0, 1, 0, 0, 0), (.invokevirtual 125, 3, 106, 1, 0), ex_no, ex_no, (.iload_n 3, 1, 3, 0, 0), (.ireturn, 1, 0, 0, 0)]
/-- LoopStrandsModel.place -/
def ex_k131 : List ex_MO := [(.iconst 3, 1, 0, 0, 3), (.bipush 42, 2, 0, 0, 42), ex_no, (.iload_n 1, 1, 1, 0, 0), (.imul, 1, 0, 0, 0), (.iadd, 1, 0, 0, 0), (.iload_n 2, 1, 2, 0, 0), (.iadd, 1, 0, 0, 0), (.ireturn, 1, 0, 0, 0)]
/-- LoopStrandsModel.put -/
def ex_k132 : List ex_MO := [(.iload_n 1, 1, 1, 0, 0), (.invokestatic 167, 3, 105, 1, 0), ex_no, ex_no, (.ifCond .eq 11, 3, 15, 0, 0), ex_no, ex_no, (.aload_n 0, 1, 0, 0, 0), (.iload_n 2, 1, 2, 0, 0), (.invokevirtual 146, 3, 104, 2, 0), ex_no, ex_no, (.ifCond .ne 5, 3, 17, 0, 0), ex_no, ex_no, (.iconst (-1), 1, 0, 0, -1), (.ireturn, 1, 0, 0, 0), (.aload_n 0, 1, 0, 0, 0), (.iload_n 3, 1, 3, 0, 0), (.invokevirtual 170, 3, 127, 2, 0), ex_no, ex_no, (.ifCond .ne 6, 3, 28, 0, 0), ex_no, ex_no, (.bipush (-2), 2, 0, 0, -2), ex_no, (.ireturn, 1, 0, 0, 0), (.aload_n 0, 1, 0, 0, 0), (.getfield 7, 3, 8, 0, 0), ex_no, ex_no, (.aload_n 0, 1, 0, 0, 0), (.iload_n 1, 1, 1, 0, 0), (.iload_n 2, 1, 2, 0, 0), (.invokevirtual 173, 3, 131, 3, 0), ex_no, ex_no, (.iaload, 1, 0, 0, 0), (.istore 4, 2, 4, 0, 0), ex_no, (.aload_n 0, 1, 0, 0, 0), (.getfield 7, 3, 8, 0, 0), ex_no, ex_no, (.aload_n 0, 1, 0, 0, 0), (.iload_n 1, 1, 1, 0, 0), (.iload_n 2, 1, 2, 0, 0), (.invokevirtual 173, 3, 131, 3, 0), ex_no, ex_no, (.iload_n 3, 1, 3, 0, 0), (.iastore, 1, 0, 0, 0), (.iload 4, 2, 4, 0, 0), ex_no, (.ireturn, 1, 0, 0, 0)]
/-- LoopStrandsModel.at -/
def ex_k133 : List ex_MO := [(.iload_n 1, 1, 1, 0, 0), (.invokestatic 167, 3, 105, 1, 0), ex_no, ex_no, (.ifCond .eq 25, 3, 29, 0, 0), ex_no, ex_no, (.aload_n 0, 1, 0, 0, 0), (.iload_n 2, 1, 2, 0, 0), (.invokevirtual 146, 3, 104, 2, 0), ex_no, ex_no, (.ifCond .eq 17, 3, 29, 0, 0), ex_no, ex_no, (.aload_n 0, 1, 0, 0, 0), (.getfield 7, 3, 8, 0, 0), ex_no, ex_no, (.aload_n 0, 1, 0, 0, 0), (.iload_n 1, 1, 1, 0, 0), (.iload_n 2, 1, 2, 0, 0), (.invokevirtual 173, 3, 131, 3, 0), ex_no, ex_no, (.iaload, 1, 0, 0, 0), (.goto 4, 3, 30, 0, 0), ex_no, ex_no, (.iconst (-1), 1, 0, 0, -1), (.ireturn, 1, 0, 0, 0)]
/-- LoopStrandsModel.give -/
def ex_k134 : List ex_MO := [(.iconst 0, 1, 0, 0, 0), (.istore_n 2, 1, 2, 0, 0), (.iconst 0, 1, 0, 0, 0), (.istore_n 3, 1, 3, 0, 0), (.iload_n 3, 1, 3, 0, 0), (.aload_n 0, 1, 0, 0, 0), (.getfield 87, 3, 8, 7, 0), ex_no, ex_no, (.if_icmp .ge 43, 3, 52, 0, 0), ex_no, ex_no, (.aload_n 0, 1, 0, 0, 0), (.getfield 7, 3, 8, 0, 0), ex_no, ex_no, (.aload_n 0, 1, 0, 0, 0), (.iload_n 1, 1, 1, 0, 0), (.iload_n 3, 1, 3, 0, 0), (.invokevirtual 173, 3, 131, 3, 0), ex_no, ex_no, (.aload_n 0, 1, 0, 0, 0), (.getfield 56, 3, 8, 17, 0), ex_no, ex_no, (.iload_n 3, 1, 3, 0, 0), (.iaload, 1, 0, 0, 0), (.iastore, 1, 0, 0, 0), (.iload_n 2, 1, 2, 0, 0), (.aload_n 0, 1, 0, 0, 0), (.getfield 56, 3, 8, 17, 0), ex_no, ex_no, (.iload_n 3, 1, 3, 0, 0), (.iaload, 1, 0, 0, 0), (.ifCond .le 7, 3, 43, 0, 0), ex_no, ex_no, (.iconst 1, 1, 0, 0, 1), (.goto 4, 3, 44, 0, 0), ex_no, ex_no, (.iconst 0, 1, 0, 0, 0), (.iadd, 1, 0, 0, 0), (.istore_n 2, 1, 2, 0, 0), (.iinc 3 1, 3, 3, 0, 1), ex_no, ex_no, (.goto (-45), 3, 4, 0, 0), ex_no, ex_no, (.iload_n 2, 1, 2, 0, 0), (.ireturn, 1, 0, 0, 0)]
/-- LoopStrandsModel.stackSums -/
def ex_k135 : List ex_MO := [(.iconst 0, 1, 0, 0, 0), (.istore_n 1, 1, 1, 0, 0), (.iload_n 1, 1, 1, 0, 0), (.aload_n 0, 1, 0, 0, 0), (.getfield 87, 3, 8, 7, 0), ex_no, ex_no, (.if_icmp .ge 16, 3, 23, 0, 0), ex_no, ex_no, (.aload_n 0, 1, 0, 0, 0), (.getfield 56, 3, 8, 17, 0), ex_no, ex_no, (.iload_n 1, 1, 1, 0, 0), (.iconst 0, 1, 0, 0, 0), (.iastore, 1, 0, 0, 0), (.iinc 1 1, 3, 1, 0, 1), ex_no, ex_no, (.goto (-18), 3, 2, 0, 0), ex_no, ex_no, (.iconst 0, 1, 0, 0, 0), (.istore_n 1, 1, 1, 0, 0), (.iload_n 1, 1, 1, 0, 0), (.aload_n 0, 1, 0, 0, 0), (.getfield 87, 3, 8, 7, 0), ex_no, ex_no, (.if_icmp .ge 96, 3, 126, 0, 0), ex_no, ex_no, (.iconst 0, 1, 0, 0, 0), (.istore_n 2, 1, 2, 0, 0), (.iload_n 2, 1, 2, 0, 0), (.aload_n 0, 1, 0, 0, 0), (.getfield 87, 3, 8, 7, 0), ex_no, ex_no, (.if_icmp .ge 80, 3, 120, 0, 0), ex_no, ex_no, (.aload_n 0, 1, 0, 0, 0), (.aload_n 0, 1, 0, 0, 0), (.aload_n 0, 1, 0, 0, 0), (.getfield 59, 3, 8, 18, 0), ex_no, ex_no, (.iload_n 1, 1, 1, 0, 0), (.iaload, 1, 0, 0, 0), (.aload_n 0, 1, 0, 0, 0), (.getfield 62, 3, 8, 19, 0), ex_no, ex_no, (.iload_n 2, 1, 2, 0, 0), (.iaload, 1, 0, 0, 0), (.imul, 1, 0, 0, 0), (.invokevirtual 161, 3, 128, 2, 0), ex_no, ex_no, (.aload_n 0, 1, 0, 0, 0), (.aload_n 0, 1, 0, 0, 0), (.getfield 32, 3, 8, 9, 0), ex_no, ex_no, (.bipush 42, 2, 0, 0, 42), ex_no, (.iload_n 1, 1, 1, 0, 0), (.imul, 1, 0, 0, 0), (.iload_n 2, 1, 2, 0, 0), (.iadd, 1, 0, 0, 0), (.iaload, 1, 0, 0, 0), (.invokevirtual 176, 3, 129, 2, 0), ex_no, ex_no, (.imul, 1, 0, 0, 0), (.invokevirtual 161, 3, 128, 2, 0), ex_no, ex_no, (.istore_n 3, 1, 3, 0, 0), (.aload_n 0, 1, 0, 0, 0), (.getfield 29, 3, 8, 8, 0), ex_no, ex_no, (.bipush 42, 2, 0, 0, 42), ex_no, (.iload_n 1, 1, 1, 0, 0), (.imul, 1, 0, 0, 0), (.iload_n 2, 1, 2, 0, 0), (.iadd, 1, 0, 0, 0), (.iaload, 1, 0, 0, 0), (.istore 4, 2, 4, 0, 0), ex_no, (.aload_n 0, 1, 0, 0, 0), (.getfield 56, 3, 8, 17, 0), ex_no, ex_no, (.iload 4, 2, 4, 0, 0), ex_no, (.aload_n 0, 1, 0, 0, 0), (.aload_n 0, 1, 0, 0, 0), (.getfield 56, 3, 8, 17, 0), ex_no, ex_no, (.iload 4, 2, 4, 0, 0), ex_no, (.iaload, 1, 0, 0, 0), (.iload_n 3, 1, 3, 0, 0), (.iadd, 1, 0, 0, 0), (.invokevirtual 161, 3, 128, 2, 0), ex_no, ex_no, (.iastore, 1, 0, 0, 0), (.iinc 2 1, 3, 2, 0, 1), ex_no, ex_no, (.goto (-82), 3, 35, 0, 0), ex_no, ex_no, (.iinc 1 1, 3, 1, 0, 1), ex_no, ex_no, (.goto (-98), 3, 25, 0, 0), ex_no, ex_no, (.return_, 1, 0, 0, 0)]
/-- LoopStrandsModel.both -/
def ex_k136 : List ex_MO := [(.iload_n 1, 1, 1, 0, 0), (.invokestatic 167, 3, 105, 1, 0), ex_no, ex_no, (.ifCond .eq 17, 3, 21, 0, 0), ex_no, ex_no, (.iload_n 2, 1, 2, 0, 0), (.invokestatic 167, 3, 105, 1, 0), ex_no, ex_no, (.ifCond .eq 10, 3, 21, 0, 0), ex_no, ex_no, (.iload_n 3, 1, 3, 0, 0), (.invokestatic 167, 3, 105, 1, 0), ex_no, ex_no, (.ifCond .ne 5, 3, 23, 0, 0), ex_no, ex_no, (.iconst (-1), 1, 0, 0, -1), (.ireturn, 1, 0, 0, 0), (.iload 4, 2, 4, 0, 0), ex_no, (.iconst 0, 1, 0, 0, 0), (.iconst 2, 1, 0, 0, 2), (.invokestatic 121, 3, 92, 3, 0), ex_no, ex_no, (.ifCond .ne 6, 3, 36, 0, 0), ex_no, ex_no, (.bipush (-2), 2, 0, 0, -2), ex_no, (.ireturn, 1, 0, 0, 0), (.iconst 0, 1, 0, 0, 0), (.istore 5, 2, 5, 0, 0), ex_no, (.iload 5, 2, 5, 0, 0), ex_no, (.aload_n 0, 1, 0, 0, 0), (.getfield 87, 3, 8, 7, 0), ex_no, ex_no, (.if_icmp .ge 96, 3, 141, 0, 0), ex_no, ex_no, (.aload_n 0, 1, 0, 0, 0), (.getfield 59, 3, 8, 18, 0), ex_no, ex_no, (.iload 5, 2, 5, 0, 0), ex_no, (.aload_n 0, 1, 0, 0, 0), (.getfield 7, 3, 8, 0, 0), ex_no, ex_no, (.aload_n 0, 1, 0, 0, 0), (.iload_n 2, 1, 2, 0, 0), (.iload 5, 2, 5, 0, 0), ex_no, (.invokevirtual 173, 3, 131, 3, 0), ex_no, ex_no, (.iaload, 1, 0, 0, 0), (.iastore, 1, 0, 0, 0), (.aload_n 0, 1, 0, 0, 0), (.getfield 62, 3, 8, 19, 0), ex_no, ex_no, (.iload 5, 2, 5, 0, 0), ex_no, (.aload_n 0, 1, 0, 0, 0), (.getfield 7, 3, 8, 0, 0), ex_no, ex_no, (.aload_n 0, 1, 0, 0, 0), (.iload_n 3, 1, 3, 0, 0), (.iload 5, 2, 5, 0, 0), ex_no, (.invokevirtual 173, 3, 131, 3, 0), ex_no, ex_no, (.iaload, 1, 0, 0, 0), (.iastore, 1, 0, 0, 0), (.aload_n 0, 1, 0, 0, 0), (.getfield 56, 3, 8, 17, 0), ex_no, ex_no, (.iload 5, 2, 5, 0, 0), ex_no, (.aload_n 0, 1, 0, 0, 0), (.iload 4, 2, 4, 0, 0), ex_no, (.ifCond .ne 21, 3, 116, 0, 0), ex_no, ex_no, (.aload_n 0, 1, 0, 0, 0), (.getfield 59, 3, 8, 18, 0), ex_no, ex_no, (.iload 5, 2, 5, 0, 0), ex_no, (.iaload, 1, 0, 0, 0), (.aload_n 0, 1, 0, 0, 0), (.getfield 62, 3, 8, 19, 0), ex_no, ex_no, (.iload 5, 2, 5, 0, 0), ex_no, (.iaload, 1, 0, 0, 0), (.iadd, 1, 0, 0, 0), (.goto 18, 3, 131, 0, 0), ex_no, ex_no, (.aload_n 0, 1, 0, 0, 0), (.getfield 59, 3, 8, 18, 0), ex_no, ex_no, (.iload 5, 2, 5, 0, 0), ex_no, (.iaload, 1, 0, 0, 0), (.aload_n 0, 1, 0, 0, 0), (.getfield 62, 3, 8, 19, 0), ex_no, ex_no, (.iload 5, 2, 5, 0, 0), ex_no, (.iaload, 1, 0, 0, 0), (.isub, 1, 0, 0, 0), (.invokevirtual 161, 3, 128, 2, 0), ex_no, ex_no, (.iastore, 1, 0, 0, 0), (.iinc 5 1, 3, 5, 0, 1), ex_no, ex_no, (.goto (-99), 3, 39, 0, 0), ex_no, ex_no, (.iload 4, 2, 4, 0, 0), ex_no, (.iconst 2, 1, 0, 0, 2), (.if_icmp .ne 7, 3, 151, 0, 0), ex_no, ex_no, (.aload_n 0, 1, 0, 0, 0), (.invokevirtual 179, 3, 135, 1, 0), ex_no, ex_no, (.aload_n 0, 1, 0, 0, 0), (.iload_n 1, 1, 1, 0, 0), (.invokevirtual 182, 3, 134, 2, 0), ex_no, ex_no, (.ireturn, 1, 0, 0, 0)]
/-- LoopStrandsModel.times -/
def ex_k137 : List ex_MO := [(.iload_n 1, 1, 1, 0, 0), (.invokestatic 167, 3, 105, 1, 0), ex_no, ex_no, (.ifCond .eq 10, 3, 14, 0, 0), ex_no, ex_no, (.iload_n 2, 1, 2, 0, 0), (.invokestatic 167, 3, 105, 1, 0), ex_no, ex_no, (.ifCond .ne 5, 3, 16, 0, 0), ex_no, ex_no, (.iconst (-1), 1, 0, 0, -1), (.ireturn, 1, 0, 0, 0), (.aload_n 0, 1, 0, 0, 0), (.iload_n 3, 1, 3, 0, 0), (.invokevirtual 170, 3, 127, 2, 0), ex_no, ex_no, (.ifCond .ne 6, 3, 27, 0, 0), ex_no, ex_no, (.bipush (-2), 2, 0, 0, -2), ex_no, (.ireturn, 1, 0, 0, 0), (.iconst 0, 1, 0, 0, 0), (.istore 4, 2, 4, 0, 0), ex_no, (.iload 4, 2, 4, 0, 0), ex_no, (.aload_n 0, 1, 0, 0, 0), (.getfield 87, 3, 8, 7, 0), ex_no, ex_no, (.if_icmp .ge 34, 3, 70, 0, 0), ex_no, ex_no, (.aload_n 0, 1, 0, 0, 0), (.getfield 56, 3, 8, 17, 0), ex_no, ex_no, (.iload 4, 2, 4, 0, 0), ex_no, (.aload_n 0, 1, 0, 0, 0), (.iload_n 3, 1, 3, 0, 0), (.aload_n 0, 1, 0, 0, 0), (.getfield 7, 3, 8, 0, 0), ex_no, ex_no, (.aload_n 0, 1, 0, 0, 0), (.iload_n 2, 1, 2, 0, 0), (.iload 4, 2, 4, 0, 0), ex_no, (.invokevirtual 173, 3, 131, 3, 0), ex_no, ex_no, (.iaload, 1, 0, 0, 0), (.imul, 1, 0, 0, 0), (.invokevirtual 161, 3, 128, 2, 0), ex_no, ex_no, (.iastore, 1, 0, 0, 0), (.iinc 4 1, 3, 4, 0, 1), ex_no, ex_no, (.goto (-37), 3, 30, 0, 0), ex_no, ex_no, (.aload_n 0, 1, 0, 0, 0), (.iload_n 1, 1, 1, 0, 0), (.invokevirtual 182, 3, 134, 2, 0), ex_no, ex_no, (.ireturn, 1, 0, 0, 0)]
/-- LoopStrandsModel.turn -/
def ex_k138 : List ex_MO := [(.iload_n 1, 1, 1, 0, 0), (.invokestatic 167, 3, 105, 1, 0), ex_no, ex_no, (.ifCond .eq 10, 3, 14, 0, 0), ex_no, ex_no, (.iload_n 2, 1, 2, 0, 0), (.invokestatic 167, 3, 105, 1, 0), ex_no, ex_no, (.ifCond .ne 5, 3, 16, 0, 0), ex_no, ex_no, (.iconst (-1), 1, 0, 0, -1), (.ireturn, 1, 0, 0, 0), (.iconst 0, 1, 0, 0, 0), (.istore_n 3, 1, 3, 0, 0), (.iload_n 3, 1, 3, 0, 0), (.aload_n 0, 1, 0, 0, 0), (.getfield 87, 3, 8, 7, 0), ex_no, ex_no, (.if_icmp .ge 30, 3, 53, 0, 0), ex_no, ex_no, (.aload_n 0, 1, 0, 0, 0), (.getfield 56, 3, 8, 17, 0), ex_no, ex_no, (.aload_n 0, 1, 0, 0, 0), (.iload_n 3, 1, 3, 0, 0), (.invokevirtual 155, 3, 120, 2, 0), ex_no, ex_no, (.aload_n 0, 1, 0, 0, 0), (.getfield 7, 3, 8, 0, 0), ex_no, ex_no, (.aload_n 0, 1, 0, 0, 0), (.iload_n 2, 1, 2, 0, 0), (.iload_n 3, 1, 3, 0, 0), (.invokevirtual 173, 3, 131, 3, 0), ex_no, ex_no, (.iaload, 1, 0, 0, 0), (.iastore, 1, 0, 0, 0), (.iinc 3 1, 3, 3, 0, 1), ex_no, ex_no, (.goto (-32), 3, 18, 0, 0), ex_no, ex_no, (.aload_n 0, 1, 0, 0, 0), (.iload_n 1, 1, 1, 0, 0), (.invokevirtual 182, 3, 134, 2, 0), ex_no, ex_no, (.ireturn, 1, 0, 0, 0)]
/-- LoopStrandsModel.trace -/
def ex_k139 : List ex_MO := [(.iload_n 1, 1, 1, 0, 0), (.invokestatic 167, 3, 105, 1, 0), ex_no, ex_no, (.ifCond .ne 5, 3, 9, 0, 0), ex_no, ex_no, (.iconst (-1), 1, 0, 0, -1), (.ireturn, 1, 0, 0, 0), (.iconst 0, 1, 0, 0, 0), (.istore_n 2, 1, 2, 0, 0), (.iconst 0, 1, 0, 0, 0), (.istore_n 3, 1, 3, 0, 0), (.iload_n 3, 1, 3, 0, 0), (.aload_n 0, 1, 0, 0, 0), (.getfield 87, 3, 8, 7, 0), ex_no, ex_no, (.if_icmp .ge 37, 3, 55, 0, 0), ex_no, ex_no, (.aload_n 0, 1, 0, 0, 0), (.iload_n 2, 1, 2, 0, 0), (.aload_n 0, 1, 0, 0, 0), (.getfield 7, 3, 8, 0, 0), ex_no, ex_no, (.aload_n 0, 1, 0, 0, 0), (.iload_n 1, 1, 1, 0, 0), (.iload_n 3, 1, 3, 0, 0), (.invokevirtual 173, 3, 131, 3, 0), ex_no, ex_no, (.iaload, 1, 0, 0, 0), (.aload_n 0, 1, 0, 0, 0), (.aload_n 0, 1, 0, 0, 0), (.iload_n 3, 1, 3, 0, 0), (.invokevirtual 152, 3, 119, 2, 0), ex_no, ex_no, (.invokevirtual 176, 3, 129, 2, 0), ex_no, ex_no, (.imul, 1, 0, 0, 0), (.iadd, 1, 0, 0, 0), (.invokevirtual 161, 3, 128, 2, 0), ex_no, ex_no, (.istore_n 2, 1, 2, 0, 0), (.iinc 3 1, 3, 3, 0, 1), ex_no, ex_no, (.goto (-39), 3, 13, 0, 0), ex_no, ex_no, (.iload_n 2, 1, 2, 0, 0), (.ireturn, 1, 0, 0, 0)]
/-- LoopStrandsModel.bracketOf -/
def ex_k140 : List ex_MO := [(.iconst 0, 1, 0, 0, 0), (.istore_n 2, 1, 2, 0, 0), (.aload_n 0, 1, 0, 0, 0), (.iconst 1, 1, 0, 0, 1), (.invokevirtual 161, 3, 128, 2, 0), ex_no, ex_no, (.istore_n 3, 1, 3, 0, 0), (.iload_n 1, 1, 1, 0, 0), (.ifCond .ne 5, 3, 14, 0, 0), ex_no, ex_no, (.iconst 0, 1, 0, 0, 0), (.ireturn, 1, 0, 0, 0), (.iconst 2, 1, 0, 0, 2), (.istore 4, 2, 4, 0, 0), ex_no, (.iload 4, 2, 4, 0, 0), ex_no, (.iload_n 1, 1, 1, 0, 0), (.if_icmp .gt 30, 3, 50, 0, 0), ex_no, ex_no, (.aload_n 0, 1, 0, 0, 0), (.aload_n 0, 1, 0, 0, 0), (.getfield 7, 3, 8, 0, 0), ex_no, ex_no, (.iconst 2, 1, 0, 0, 2), (.iaload, 1, 0, 0, 0), (.iload_n 3, 1, 3, 0, 0), (.imul, 1, 0, 0, 0), (.iload_n 2, 1, 2, 0, 0), (.isub, 1, 0, 0, 0), (.invokevirtual 161, 3, 128, 2, 0), ex_no, ex_no, (.istore 5, 2, 5, 0, 0), ex_no, (.iload_n 3, 1, 3, 0, 0), (.istore_n 2, 1, 2, 0, 0), (.iload 5, 2, 5, 0, 0), ex_no, (.istore_n 3, 1, 3, 0, 0), (.iinc 4 1, 3, 4, 0, 1), ex_no, ex_no, (.goto (-30), 3, 17, 0, 0), ex_no, ex_no, (.iload_n 3, 1, 3, 0, 0), (.ireturn, 1, 0, 0, 0)]
/-- LoopStrandsModel.bracket -/
def ex_k141 : List ex_MO := [(.iload_n 1, 1, 1, 0, 0), (.iconst 0, 1, 0, 0, 0), (.bipush 99, 2, 0, 0, 99), ex_no, (.invokestatic 121, 3, 92, 3, 0), ex_no, ex_no, (.ifCond .eq 11, 3, 18, 0, 0), ex_no, ex_no, (.aload_n 0, 1, 0, 0, 0), (.iload_n 1, 1, 1, 0, 0), (.invokevirtual 185, 3, 140, 2, 0), ex_no, ex_no, (.goto 5, 3, 20, 0, 0), ex_no, ex_no, (.bipush (-2), 2, 0, 0, -2), ex_no, (.ireturn, 1, 0, 0, 0)]
/-- LoopStrandsModel.inverse -/
def ex_k142 : List ex_MO := [(.iconst 1, 1, 0, 0, 1), (.istore_n 2, 1, 2, 0, 0), (.aload_n 0, 1, 0, 0, 0), (.iload_n 1, 1, 1, 0, 0), (.iload_n 2, 1, 2, 0, 0), (.imul, 1, 0, 0, 0), (.invokevirtual 161, 3, 128, 2, 0), ex_no, ex_no, (.aload_n 0, 1, 0, 0, 0), (.iconst 1, 1, 0, 0, 1), (.invokevirtual 161, 3, 128, 2, 0), ex_no, ex_no, (.if_icmp .eq 9, 3, 23, 0, 0), ex_no, ex_no, (.iinc 2 1, 3, 2, 0, 1), ex_no, ex_no, (.goto (-18), 3, 2, 0, 0), ex_no, ex_no, (.iload_n 2, 1, 2, 0, 0), (.ireturn, 1, 0, 0, 0)]
/-- LoopStrandsModel.growProjector -/
def ex_k143 : List ex_MO := [(.aload_n 0, 1, 0, 0, 0), (.aload_n 0, 1, 0, 0, 0), (.iload_n 1, 1, 1, 0, 0), (.invokevirtual 185, 3, 140, 2, 0), ex_no, ex_no, (.aload_n 0, 1, 0, 0, 0), (.aload_n 0, 1, 0, 0, 0), (.iload_n 1, 1, 1, 0, 0), (.iconst 1, 1, 0, 0, 1), (.iadd, 1, 0, 0, 0), (.invokevirtual 185, 3, 140, 2, 0), ex_no, ex_no, (.invokevirtual 188, 3, 142, 2, 0), ex_no, ex_no, (.imul, 1, 0, 0, 0), (.invokevirtual 161, 3, 128, 2, 0), ex_no, ex_no, (.istore_n 2, 1, 2, 0, 0), (.aload_n 0, 1, 0, 0, 0), (.iload_n 1, 1, 1, 0, 0), (.invokevirtual 143, 3, 116, 2, 0), ex_no, ex_no, (.istore_n 3, 1, 3, 0, 0), (.iconst 0, 1, 0, 0, 0), (.istore 4, 2, 4, 0, 0), ex_no, (.iload 4, 2, 4, 0, 0), ex_no, (.aload_n 0, 1, 0, 0, 0), (.getfield 87, 3, 8, 7, 0), ex_no, ex_no, (.if_icmp .ge 45, 3, 82, 0, 0), ex_no, ex_no, (.aload_n 0, 1, 0, 0, 0), (.getfield 59, 3, 8, 18, 0), ex_no, ex_no, (.iload 4, 2, 4, 0, 0), ex_no, (.aload_n 0, 1, 0, 0, 0), (.getfield 65, 3, 8, 20, 0), ex_no, ex_no, (.iload 4, 2, 4, 0, 0), ex_no, (.iaload, 1, 0, 0, 0), (.iastore, 1, 0, 0, 0), (.aload_n 0, 1, 0, 0, 0), (.getfield 62, 3, 8, 19, 0), ex_no, ex_no, (.iload 4, 2, 4, 0, 0), ex_no, (.iload 4, 2, 4, 0, 0), ex_no, (.iload_n 3, 1, 3, 0, 0), (.if_icmp .ne 11, 3, 74, 0, 0), ex_no, ex_no, (.aload_n 0, 1, 0, 0, 0), (.iconst 1, 1, 0, 0, 1), (.invokevirtual 161, 3, 128, 2, 0), ex_no, ex_no, (.goto 4, 3, 75, 0, 0), ex_no, ex_no, (.iconst 0, 1, 0, 0, 0), (.iastore, 1, 0, 0, 0), (.iinc 4 1, 3, 4, 0, 1), ex_no, ex_no, (.goto (-48), 3, 31, 0, 0), ex_no, ex_no, (.aload_n 0, 1, 0, 0, 0), (.invokevirtual 179, 3, 135, 1, 0), ex_no, ex_no, (.iconst 0, 1, 0, 0, 0), (.istore 4, 2, 4, 0, 0), ex_no, (.iload 4, 2, 4, 0, 0), ex_no, (.aload_n 0, 1, 0, 0, 0), (.getfield 87, 3, 8, 7, 0), ex_no, ex_no, (.if_icmp .ge 37, 3, 132, 0, 0), ex_no, ex_no, (.aload_n 0, 1, 0, 0, 0), (.getfield 59, 3, 8, 18, 0), ex_no, ex_no, (.iload 4, 2, 4, 0, 0), ex_no, (.aload_n 0, 1, 0, 0, 0), (.getfield 56, 3, 8, 17, 0), ex_no, ex_no, (.iload 4, 2, 4, 0, 0), ex_no, (.iaload, 1, 0, 0, 0), (.iastore, 1, 0, 0, 0), (.aload_n 0, 1, 0, 0, 0), (.getfield 62, 3, 8, 19, 0), ex_no, ex_no, (.iload 4, 2, 4, 0, 0), ex_no, (.aload_n 0, 1, 0, 0, 0), (.getfield 65, 3, 8, 20, 0), ex_no, ex_no, (.iload 4, 2, 4, 0, 0), ex_no, (.iaload, 1, 0, 0, 0), (.iastore, 1, 0, 0, 0), (.iinc 4 1, 3, 4, 0, 1), ex_no, ex_no, (.goto (-40), 3, 89, 0, 0), ex_no, ex_no, (.aload_n 0, 1, 0, 0, 0), (.invokevirtual 179, 3, 135, 1, 0), ex_no, ex_no, (.iconst 0, 1, 0, 0, 0), (.istore 4, 2, 4, 0, 0), ex_no, (.iload 4, 2, 4, 0, 0), ex_no, (.aload_n 0, 1, 0, 0, 0), (.getfield 87, 3, 8, 7, 0), ex_no, ex_no, (.if_icmp .ge 37, 3, 182, 0, 0), ex_no, ex_no, (.aload_n 0, 1, 0, 0, 0), (.getfield 65, 3, 8, 20, 0), ex_no, ex_no, (.iload 4, 2, 4, 0, 0), ex_no, (.aload_n 0, 1, 0, 0, 0), (.aload_n 0, 1, 0, 0, 0), (.getfield 65, 3, 8, 20, 0), ex_no, ex_no, (.iload 4, 2, 4, 0, 0), ex_no, (.iaload, 1, 0, 0, 0), (.iload_n 2, 1, 2, 0, 0), (.aload_n 0, 1, 0, 0, 0), (.getfield 56, 3, 8, 17, 0), ex_no, ex_no, (.iload 4, 2, 4, 0, 0), ex_no, (.iaload, 1, 0, 0, 0), (.imul, 1, 0, 0, 0), (.isub, 1, 0, 0, 0), (.invokevirtual 161, 3, 128, 2, 0), ex_no, ex_no, (.iastore, 1, 0, 0, 0), (.iinc 4 1, 3, 4, 0, 1), ex_no, ex_no, (.goto (-40), 3, 139, 0, 0), ex_no, ex_no, (.return_, 1, 0, 0, 0)]
/-- LoopStrandsModel.project -/
def ex_k144 : List ex_MO := [(.iload_n 1, 1, 1, 0, 0), (.invokestatic 167, 3, 105, 1, 0), ex_no, ex_no, (.ifCond .ne 5, 3, 9, 0, 0), ex_no, ex_no, (.iconst (-1), 1, 0, 0, -1), (.ireturn, 1, 0, 0, 0), (.iload_n 2, 1, 2, 0, 0), (.iconst 1, 1, 0, 0, 1), (.aload_n 0, 1, 0, 0, 0), (.getfield 7, 3, 8, 0, 0), ex_no, ex_no, (.iconst 0, 1, 0, 0, 0), (.iaload, 1, 0, 0, 0), (.invokestatic 121, 3, 92, 3, 0), ex_no, ex_no, (.ifCond .ne 6, 3, 26, 0, 0), ex_no, ex_no, (.bipush (-2), 2, 0, 0, -2), ex_no, (.ireturn, 1, 0, 0, 0), (.iconst 2, 1, 0, 0, 2), (.istore_n 3, 1, 3, 0, 0), (.iload_n 3, 1, 3, 0, 0), (.iload_n 2, 1, 2, 0, 0), (.if_icmp .gt 20, 3, 50, 0, 0), ex_no, ex_no, (.aload_n 0, 1, 0, 0, 0), (.iload_n 3, 1, 3, 0, 0), (.invokevirtual 185, 3, 140, 2, 0), ex_no, ex_no, (.ifCond .ne 6, 3, 44, 0, 0), ex_no, ex_no, (.bipush (-3), 2, 0, 0, -3), ex_no, (.ireturn, 1, 0, 0, 0), (.iinc 3 1, 3, 3, 0, 1), ex_no, ex_no, (.goto (-19), 3, 28, 0, 0), ex_no, ex_no, (.iconst 0, 1, 0, 0, 0), (.istore_n 3, 1, 3, 0, 0), (.iload_n 3, 1, 3, 0, 0), (.aload_n 0, 1, 0, 0, 0), (.getfield 87, 3, 8, 7, 0), ex_no, ex_no, (.if_icmp .ge 28, 3, 85, 0, 0), ex_no, ex_no, (.aload_n 0, 1, 0, 0, 0), (.getfield 65, 3, 8, 20, 0), ex_no, ex_no, (.iload_n 3, 1, 3, 0, 0), (.iload_n 3, 1, 3, 0, 0), (.ifCond .ne 11, 3, 77, 0, 0), ex_no, ex_no, (.aload_n 0, 1, 0, 0, 0), (.iconst 1, 1, 0, 0, 1), (.invokevirtual 161, 3, 128, 2, 0), ex_no, ex_no, (.goto 4, 3, 78, 0, 0), ex_no, ex_no, (.iconst 0, 1, 0, 0, 0), (.iastore, 1, 0, 0, 0), (.iinc 3 1, 3, 3, 0, 1), ex_no, ex_no, (.goto (-30), 3, 52, 0, 0), ex_no, ex_no, (.iconst 1, 1, 0, 0, 1), (.istore_n 3, 1, 3, 0, 0), (.iload_n 3, 1, 3, 0, 0), (.iload_n 2, 1, 2, 0, 0), (.if_icmp .ge 14, 3, 103, 0, 0), ex_no, ex_no, (.aload_n 0, 1, 0, 0, 0), (.iload_n 3, 1, 3, 0, 0), (.invokevirtual 191, 3, 143, 2, 0), ex_no, ex_no, (.iinc 3 1, 3, 3, 0, 1), ex_no, ex_no, (.goto (-13), 3, 87, 0, 0), ex_no, ex_no, (.iconst 0, 1, 0, 0, 0), (.istore_n 3, 1, 3, 0, 0), (.iload_n 3, 1, 3, 0, 0), (.aload_n 0, 1, 0, 0, 0), (.getfield 87, 3, 8, 7, 0), ex_no, ex_no, (.if_icmp .ge 21, 3, 131, 0, 0), ex_no, ex_no, (.aload_n 0, 1, 0, 0, 0), (.getfield 56, 3, 8, 17, 0), ex_no, ex_no, (.iload_n 3, 1, 3, 0, 0), (.aload_n 0, 1, 0, 0, 0), (.getfield 65, 3, 8, 20, 0), ex_no, ex_no, (.iload_n 3, 1, 3, 0, 0), (.iaload, 1, 0, 0, 0), (.iastore, 1, 0, 0, 0), (.iinc 3 1, 3, 3, 0, 1), ex_no, ex_no, (.goto (-23), 3, 105, 0, 0), ex_no, ex_no, (.aload_n 0, 1, 0, 0, 0), (.iload_n 1, 1, 1, 0, 0), (.invokevirtual 182, 3, 134, 2, 0), ex_no, ex_no, (.ireturn, 1, 0, 0, 0)]
/-- LoopStrandsModel.layHalf -/
def ex_k145 : List ex_MO := [(.iconst 0, 1, 0, 0, 0), (.istore_n 3, 1, 3, 0, 0), (.iconst 0, 1, 0, 0, 0), (.istore 4, 2, 4, 0, 0), ex_no, (.iload_n 1, 1, 1, 0, 0), (.istore 5, 2, 5, 0, 0), ex_no, (.iconst 1, 1, 0, 0, 1), (.istore 6, 2, 6, 0, 0), ex_no, (.aload_n 0, 1, 0, 0, 0), (.getfield 7, 3, 8, 0, 0), ex_no, ex_no, (.iconst 0, 1, 0, 0, 0), (.iaload, 1, 0, 0, 0), (.iconst 1, 1, 0, 0, 1), (.isub, 1, 0, 0, 0), (.istore 7, 2, 7, 0, 0), ex_no, (.iload 7, 2, 7, 0, 0), ex_no, (.ifCond .lt 110, 3, 133, 0, 0), ex_no, ex_no, (.iload 5, 2, 5, 0, 0), ex_no, (.iconst 3, 1, 0, 0, 3), (.irem, 1, 0, 0, 0), (.istore 8, 2, 8, 0, 0), ex_no, (.iload 5, 2, 5, 0, 0), ex_no, (.iconst 3, 1, 0, 0, 3), (.idiv, 1, 0, 0, 0), (.istore 5, 2, 5, 0, 0), ex_no, (.iload 8, 2, 8, 0, 0), ex_no, (.iconst 1, 1, 0, 0, 1), (.if_icmp .ne 17, 3, 58, 0, 0), ex_no, ex_no, (.aload_n 0, 1, 0, 0, 0), (.getfield 38, 3, 8, 11, 0), ex_no, ex_no, (.iload_n 3, 1, 3, 0, 0), (.iload 7, 2, 7, 0, 0), ex_no, (.iastore, 1, 0, 0, 0), (.iinc 3 1, 3, 3, 0, 1), ex_no, ex_no, (.goto 72, 3, 127, 0, 0), ex_no, ex_no, (.iload 8, 2, 8, 0, 0), ex_no, (.ifCond .ne 39, 3, 99, 0, 0), ex_no, ex_no, (.iload_n 3, 1, 3, 0, 0), (.ifCond .le 35, 3, 99, 0, 0), ex_no, ex_no, (.iinc 3 (-1), 3, 3, 0, -1), ex_no, ex_no, (.aload_n 0, 1, 0, 0, 0), (.getfield 71, 3, 8, 23, 0), ex_no, ex_no, (.iload 7, 2, 7, 0, 0), ex_no, (.aload_n 0, 1, 0, 0, 0), (.getfield 38, 3, 8, 11, 0), ex_no, ex_no, (.iload_n 3, 1, 3, 0, 0), (.iaload, 1, 0, 0, 0), (.iastore, 1, 0, 0, 0), (.aload_n 0, 1, 0, 0, 0), (.getfield 71, 3, 8, 23, 0), ex_no, ex_no, (.aload_n 0, 1, 0, 0, 0), (.getfield 38, 3, 8, 11, 0), ex_no, ex_no, (.iload_n 3, 1, 3, 0, 0), (.iaload, 1, 0, 0, 0), (.iload 7, 2, 7, 0, 0), ex_no, (.iastore, 1, 0, 0, 0), (.goto 31, 3, 127, 0, 0), ex_no, ex_no, (.iload 8, 2, 8, 0, 0), ex_no, (.iconst 2, 1, 0, 0, 2), (.if_icmp .ne 22, 3, 124, 0, 0), ex_no, ex_no, (.iload_n 3, 1, 3, 0, 0), (.ifCond .ne 18, 3, 124, 0, 0), ex_no, ex_no, (.iinc 4 1, 3, 4, 0, 1), ex_no, ex_no, (.aload_n 0, 1, 0, 0, 0), (.getfield 71, 3, 8, 23, 0), ex_no, ex_no, (.iload 7, 2, 7, 0, 0), ex_no, (.bipush (-6), 2, 0, 0, -6), ex_no, (.iastore, 1, 0, 0, 0), (.goto 6, 3, 127, 0, 0), ex_no, ex_no, (.iconst 0, 1, 0, 0, 0), (.istore 6, 2, 6, 0, 0), ex_no, (.iinc 7 (-1), 3, 7, 0, -1), ex_no, ex_no, (.goto (-109), 3, 21, 0, 0), ex_no, ex_no, (.iload 6, 2, 6, 0, 0), ex_no, (.ifCond .eq 17, 3, 152, 0, 0), ex_no, ex_no, (.iload_n 3, 1, 3, 0, 0), (.ifCond .ne 13, 3, 152, 0, 0), ex_no, ex_no, (.iload 4, 2, 4, 0, 0), ex_no, (.iload_n 2, 1, 2, 0, 0), (.if_icmp .ne 7, 3, 152, 0, 0), ex_no, ex_no, (.iconst 1, 1, 0, 0, 1), (.goto 4, 3, 153, 0, 0), ex_no, ex_no, (.iconst 0, 1, 0, 0, 0), (.ireturn, 1, 1, 0, 0)]
/-- LoopStrandsModel.layHalves -/
def ex_k146 : List ex_MO := [(.aload_n 0, 1, 0, 0, 0), (.iconst 0, 1, 0, 0, 0), (.putfield 195, 3, 8, 22, 0), ex_no, ex_no, (.iconst 1, 1, 0, 0, 1), (.istore_n 2, 1, 2, 0, 0), (.iconst 0, 1, 0, 0, 0), (.istore_n 3, 1, 3, 0, 0), (.iload_n 3, 1, 3, 0, 0), (.aload_n 0, 1, 0, 0, 0), (.getfield 7, 3, 8, 0, 0), ex_no, ex_no, (.iconst 0, 1, 0, 0, 0), (.iaload, 1, 0, 0, 0), (.if_icmp .ge 13, 3, 29, 0, 0), ex_no, ex_no, (.iload_n 2, 1, 2, 0, 0), (.iconst 3, 1, 0, 0, 3), (.imul, 1, 0, 0, 0), (.istore_n 2, 1, 2, 0, 0), (.iinc 3 1, 3, 3, 0, 1), ex_no, ex_no, (.goto (-17), 3, 9, 0, 0), ex_no, ex_no, (.iconst 0, 1, 0, 0, 0), (.istore_n 3, 1, 3, 0, 0), (.iload_n 3, 1, 3, 0, 0), (.iload_n 2, 1, 2, 0, 0), (.if_icmp .ge 69, 3, 102, 0, 0), ex_no, ex_no, (.aload_n 0, 1, 0, 0, 0), (.iload_n 3, 1, 3, 0, 0), (.iload_n 1, 1, 1, 0, 0), (.invokevirtual 198, 3, 145, 3, 0), ex_no, ex_no, (.ifCond .eq 54, 3, 96, 0, 0), ex_no, ex_no, (.iconst 0, 1, 0, 0, 0), (.istore 4, 2, 4, 0, 0), ex_no, (.iload 4, 2, 4, 0, 0), ex_no, (.aload_n 0, 1, 0, 0, 0), (.getfield 7, 3, 8, 0, 0), ex_no, ex_no, (.iconst 0, 1, 0, 0, 0), (.iaload, 1, 0, 0, 0), (.if_icmp .ge 30, 3, 86, 0, 0), ex_no, ex_no, (.aload_n 0, 1, 0, 0, 0), (.getfield 68, 3, 8, 21, 0), ex_no, ex_no, (.iconst 5, 1, 0, 0, 5), (.aload_n 0, 1, 0, 0, 0), (.getfield 195, 3, 8, 22, 0), ex_no, ex_no, (.imul, 1, 0, 0, 0), (.iload 4, 2, 4, 0, 0), ex_no, (.iadd, 1, 0, 0, 0), (.aload_n 0, 1, 0, 0, 0), (.getfield 71, 3, 8, 23, 0), ex_no, ex_no, (.iload 4, 2, 4, 0, 0), ex_no, (.iaload, 1, 0, 0, 0), (.iastore, 1, 0, 0, 0), (.iinc 4 1, 3, 4, 0, 1), ex_no, ex_no, (.goto (-35), 3, 48, 0, 0), ex_no, ex_no, (.aload_n 0, 1, 0, 0, 0), (.dup, 1, 0, 0, 0), (.getfield 195, 3, 8, 22, 0), ex_no, ex_no, (.iconst 1, 1, 0, 0, 1), (.iadd, 1, 0, 0, 0), (.putfield 195, 3, 8, 22, 0), ex_no, ex_no, (.iinc 3 1, 3, 3, 0, 1), ex_no, ex_no, (.goto (-68), 3, 31, 0, 0), ex_no, ex_no, (.return_, 1, 0, 0, 0)]
/-- LoopStrandsModel.comesThrough -/
def ex_k147 : List ex_MO := [(.iload_n 3, 1, 3, 0, 0), (.istore 4, 2, 4, 0, 0), ex_no, (.iconst 1, 1, 0, 0, 1), (.istore 5, 2, 5, 0, 0), ex_no, (.aload_n 0, 1, 0, 0, 0), (.getfield 41, 3, 8, 12, 0), ex_no, ex_no, (.iload 4, 2, 4, 0, 0), ex_no, (.iconst 1, 1, 0, 0, 1), (.bastore, 1, 0, 0, 0), (.aload_n 0, 1, 0, 0, 0), (.getfield 68, 3, 8, 21, 0), ex_no, ex_no, (.iconst 5, 1, 0, 0, 5), (.iload_n 2, 1, 2, 0, 0), (.imul, 1, 0, 0, 0), (.iload 4, 2, 4, 0, 0), ex_no, (.iadd, 1, 0, 0, 0), (.iaload, 1, 0, 0, 0), (.istore 6, 2, 6, 0, 0), ex_no, (.iload 6, 2, 6, 0, 0), ex_no, (.ifCond .lt 52, 3, 81, 0, 0), ex_no, ex_no, (.iload 6, 2, 6, 0, 0), ex_no, (.istore 4, 2, 4, 0, 0), ex_no, (.aload_n 0, 1, 0, 0, 0), (.getfield 41, 3, 8, 12, 0), ex_no, ex_no, (.iload 4, 2, 4, 0, 0), ex_no, (.iconst 1, 1, 0, 0, 1), (.bastore, 1, 0, 0, 0), (.iload 5, 2, 5, 0, 0), ex_no, (.ifCond .ne 7, 3, 53, 0, 0), ex_no, ex_no, (.iconst 1, 1, 0, 0, 1), (.goto 4, 3, 54, 0, 0), ex_no, ex_no, (.iconst 0, 1, 0, 0, 0), (.istore 5, 2, 5, 0, 0), ex_no, (.aload_n 0, 1, 0, 0, 0), (.getfield 68, 3, 8, 21, 0), ex_no, ex_no, (.iconst 5, 1, 0, 0, 5), (.iload 5, 2, 5, 0, 0), ex_no, (.ifCond .eq 7, 3, 70, 0, 0), ex_no, ex_no, (.iload_n 2, 1, 2, 0, 0), (.goto 4, 3, 71, 0, 0), ex_no, ex_no, (.iload_n 1, 1, 1, 0, 0), (.imul, 1, 0, 0, 0), (.iload 4, 2, 4, 0, 0), ex_no, (.iadd, 1, 0, 0, 0), (.iaload, 1, 0, 0, 0), (.istore 6, 2, 6, 0, 0), ex_no, (.goto (-51), 3, 27, 0, 0), ex_no, ex_no, (.iload 5, 2, 5, 0, 0), ex_no, (.ireturn, 1, 1, 0, 0)]
/-- LoopStrandsModel.formOf -/
def ex_k148 : List ex_MO := [(.iconst 1, 1, 0, 0, 1), (.istore_n 3, 1, 3, 0, 0), (.iconst 0, 1, 0, 0, 0), (.istore 4, 2, 4, 0, 0), ex_no, (.iload 4, 2, 4, 0, 0), ex_no, (.aload_n 0, 1, 0, 0, 0), (.getfield 7, 3, 8, 0, 0), ex_no, ex_no, (.iconst 0, 1, 0, 0, 0), (.iaload, 1, 0, 0, 0), (.if_icmp .ge 17, 3, 30, 0, 0), ex_no, ex_no, (.aload_n 0, 1, 0, 0, 0), (.getfield 41, 3, 8, 12, 0), ex_no, ex_no, (.iload 4, 2, 4, 0, 0), ex_no, (.iconst 0, 1, 0, 0, 0), (.bastore, 1, 0, 0, 0), (.iinc 4 1, 3, 4, 0, 1), ex_no, ex_no, (.goto (-22), 3, 5, 0, 0), ex_no, ex_no, (.iconst 0, 1, 0, 0, 0), (.istore 4, 2, 4, 0, 0), ex_no, (.iload 4, 2, 4, 0, 0), ex_no, (.aload_n 0, 1, 0, 0, 0), (.getfield 7, 3, 8, 0, 0), ex_no, ex_no, (.iconst 0, 1, 0, 0, 0), (.iaload, 1, 0, 0, 0), (.if_icmp .ge 44, 3, 85, 0, 0), ex_no, ex_no, (.aload_n 0, 1, 0, 0, 0), (.getfield 68, 3, 8, 21, 0), ex_no, ex_no, (.iconst 5, 1, 0, 0, 5), (.iload_n 1, 1, 1, 0, 0), (.imul, 1, 0, 0, 0), (.iload 4, 2, 4, 0, 0), ex_no, (.iadd, 1, 0, 0, 0), (.iaload, 1, 0, 0, 0), (.ifCond .ge 24, 3, 79, 0, 0), ex_no, ex_no, (.aload_n 0, 1, 0, 0, 0), (.iload_n 1, 1, 1, 0, 0), (.iload_n 2, 1, 2, 0, 0), (.iload 4, 2, 4, 0, 0), ex_no, (.invokevirtual 202, 3, 147, 4, 0), ex_no, ex_no, (.ifCond .eq 11, 3, 77, 0, 0), ex_no, ex_no, (.iload_n 3, 1, 3, 0, 0), (.ifCond .eq 7, 3, 77, 0, 0), ex_no, ex_no, (.iconst 1, 1, 0, 0, 1), (.goto 4, 3, 78, 0, 0), ex_no, ex_no, (.iconst 0, 1, 0, 0, 0), (.istore_n 3, 1, 3, 0, 0), (.iinc 4 1, 3, 4, 0, 1), ex_no, ex_no, (.goto (-49), 3, 33, 0, 0), ex_no, ex_no, (.iload_n 3, 1, 3, 0, 0), (.ifCond .ne 5, 3, 91, 0, 0), ex_no, ex_no, (.iconst 0, 1, 0, 0, 0), (.ireturn, 1, 0, 0, 0), (.iconst 0, 1, 0, 0, 0), (.istore 4, 2, 4, 0, 0), ex_no, (.iconst 0, 1, 0, 0, 0), (.istore 5, 2, 5, 0, 0), ex_no, (.iload 5, 2, 5, 0, 0), ex_no, (.aload_n 0, 1, 0, 0, 0), (.getfield 7, 3, 8, 0, 0), ex_no, ex_no, (.iconst 0, 1, 0, 0, 0), (.iaload, 1, 0, 0, 0), (.if_icmp .ge 86, 3, 191, 0, 0), ex_no, ex_no, (.aload_n 0, 1, 0, 0, 0), (.getfield 41, 3, 8, 12, 0), ex_no, ex_no, (.iload 5, 2, 5, 0, 0), ex_no, (.baload, 1, 0, 0, 0), (.ifCond .ne 70, 3, 185, 0, 0), ex_no, ex_no, (.iinc 4 1, 3, 4, 0, 1), ex_no, ex_no, (.iload 5, 2, 5, 0, 0), ex_no, (.istore 6, 2, 6, 0, 0), ex_no, (.aload_n 0, 1, 0, 0, 0), (.getfield 41, 3, 8, 12, 0), ex_no, ex_no, (.iload 6, 2, 6, 0, 0), ex_no, (.baload, 1, 0, 0, 0), (.ifCond .ne 53, 3, 185, 0, 0), ex_no, ex_no, (.aload_n 0, 1, 0, 0, 0), (.getfield 41, 3, 8, 12, 0), ex_no, ex_no, (.iload 6, 2, 6, 0, 0), ex_no, (.iconst 1, 1, 0, 0, 1), (.bastore, 1, 0, 0, 0), (.aload_n 0, 1, 0, 0, 0), (.getfield 41, 3, 8, 12, 0), ex_no, ex_no, (.aload_n 0, 1, 0, 0, 0), (.getfield 68, 3, 8, 21, 0), ex_no, ex_no, (.iconst 5, 1, 0, 0, 5), (.iload_n 1, 1, 1, 0, 0), (.imul, 1, 0, 0, 0), (.iload 6, 2, 6, 0, 0), ex_no, (.iadd, 1, 0, 0, 0), (.iaload, 1, 0, 0, 0), (.iconst 1, 1, 0, 0, 1), (.bastore, 1, 0, 0, 0), (.aload_n 0, 1, 0, 0, 0), (.getfield 68, 3, 8, 21, 0), ex_no, ex_no, (.iconst 5, 1, 0, 0, 5), (.iload_n 2, 1, 2, 0, 0), (.imul, 1, 0, 0, 0), (.aload_n 0, 1, 0, 0, 0), (.getfield 68, 3, 8, 21, 0), ex_no, ex_no, (.iconst 5, 1, 0, 0, 5), (.iload_n 1, 1, 1, 0, 0), (.imul, 1, 0, 0, 0), (.iload 6, 2, 6, 0, 0), ex_no, (.iadd, 1, 0, 0, 0), (.iaload, 1, 0, 0, 0), (.iadd, 1, 0, 0, 0), (.iaload, 1, 0, 0, 0), (.istore 6, 2, 6, 0, 0), ex_no, (.goto (-57), 3, 125, 0, 0), ex_no, ex_no, (.iinc 5 1, 3, 5, 0, 1), ex_no, ex_no, (.goto (-91), 3, 97, 0, 0), ex_no, ex_no, (.aload_n 0, 1, 0, 0, 0), (.iload 4, 2, 4, 0, 0), ex_no, (.invokevirtual 176, 3, 129, 2, 0), ex_no, ex_no, (.ireturn, 1, 0, 0, 0)]
/-- LoopStrandsModel.isCell -/
def ex_k149 : List ex_MO := [(.iload_n 1, 1, 1, 0, 0), (.iconst 0, 1, 0, 0, 0), (.aload_n 0, 1, 0, 0, 0), (.getfield 7, 3, 8, 0, 0), ex_no, ex_no, (.iconst 0, 1, 0, 0, 0), (.iaload, 1, 0, 0, 0), (.invokestatic 121, 3, 92, 3, 0), ex_no, ex_no, (.ifCond .eq 20, 3, 31, 0, 0), ex_no, ex_no, (.aload_n 0, 1, 0, 0, 0), (.getfield 7, 3, 8, 0, 0), ex_no, ex_no, (.iconst 0, 1, 0, 0, 0), (.iaload, 1, 0, 0, 0), (.iload_n 1, 1, 1, 0, 0), (.isub, 1, 0, 0, 0), (.iconst 2, 1, 0, 0, 2), (.irem, 1, 0, 0, 0), (.ifCond .ne 7, 3, 31, 0, 0), ex_no, ex_no, (.iconst 1, 1, 0, 0, 1), (.goto 4, 3, 32, 0, 0), ex_no, ex_no, (.iconst 0, 1, 0, 0, 0), (.ireturn, 1, 1, 0, 0)]
/-- LoopStrandsModel.swapRows -/
def ex_k150 : List ex_MO := [(.iconst 0, 1, 0, 0, 0), (.istore_n 3, 1, 3, 0, 0), (.iload_n 3, 1, 3, 0, 0), (.aload_n 0, 1, 0, 0, 0), (.getfield 195, 3, 8, 22, 0), ex_no, ex_no, (.if_icmp .ge 57, 3, 64, 0, 0), ex_no, ex_no, (.aload_n 0, 1, 0, 0, 0), (.getfield 74, 3, 8, 24, 0), ex_no, ex_no, (.bipush 12, 2, 0, 0, 12), ex_no, (.iload_n 1, 1, 1, 0, 0), (.imul, 1, 0, 0, 0), (.iload_n 3, 1, 3, 0, 0), (.iadd, 1, 0, 0, 0), (.iaload, 1, 0, 0, 0), (.istore 4, 2, 4, 0, 0), ex_no, (.aload_n 0, 1, 0, 0, 0), (.getfield 74, 3, 8, 24, 0), ex_no, ex_no, (.bipush 12, 2, 0, 0, 12), ex_no, (.iload_n 1, 1, 1, 0, 0), (.imul, 1, 0, 0, 0), (.iload_n 3, 1, 3, 0, 0), (.iadd, 1, 0, 0, 0), (.aload_n 0, 1, 0, 0, 0), (.getfield 74, 3, 8, 24, 0), ex_no, ex_no, (.bipush 12, 2, 0, 0, 12), ex_no, (.iload_n 2, 1, 2, 0, 0), (.imul, 1, 0, 0, 0), (.iload_n 3, 1, 3, 0, 0), (.iadd, 1, 0, 0, 0), (.iaload, 1, 0, 0, 0), (.iastore, 1, 0, 0, 0), (.aload_n 0, 1, 0, 0, 0), (.getfield 74, 3, 8, 24, 0), ex_no, ex_no, (.bipush 12, 2, 0, 0, 12), ex_no, (.iload_n 2, 1, 2, 0, 0), (.imul, 1, 0, 0, 0), (.iload_n 3, 1, 3, 0, 0), (.iadd, 1, 0, 0, 0), (.iload 4, 2, 4, 0, 0), ex_no, (.iastore, 1, 0, 0, 0), (.iinc 3 1, 3, 3, 0, 1), ex_no, ex_no, (.goto (-59), 3, 2, 0, 0), ex_no, ex_no, (.aload_n 0, 1, 0, 0, 0), (.iload_n 1, 1, 1, 0, 0), (.iload_n 2, 1, 2, 0, 0), (.if_icmp .ne 10, 3, 77, 0, 0), ex_no, ex_no, (.aload_n 0, 1, 0, 0, 0), (.getfield 205, 3, 8, 26, 0), ex_no, ex_no, (.goto 12, 3, 86, 0, 0), ex_no, ex_no, (.aload_n 0, 1, 0, 0, 0), (.aload_n 0, 1, 0, 0, 0), (.getfield 205, 3, 8, 26, 0), ex_no, ex_no, (.ineg, 1, 0, 0, 0), (.invokevirtual 161, 3, 128, 2, 0), ex_no, ex_no, (.putfield 205, 3, 8, 26, 0), ex_no, ex_no, (.return_, 1, 0, 0, 0)]
/-- LoopStrandsModel.rowWith -/
def ex_k151 : List ex_MO := [(.iload_n 2, 1, 2, 0, 0), (.istore_n 3, 1, 3, 0, 0), (.iload_n 3, 1, 3, 0, 0), (.aload_n 0, 1, 0, 0, 0), (.getfield 195, 3, 8, 22, 0), ex_no, ex_no, (.if_icmp .ge 25, 3, 32, 0, 0), ex_no, ex_no, (.aload_n 0, 1, 0, 0, 0), (.getfield 74, 3, 8, 24, 0), ex_no, ex_no, (.bipush 12, 2, 0, 0, 12), ex_no, (.iload_n 3, 1, 3, 0, 0), (.imul, 1, 0, 0, 0), (.iload_n 1, 1, 1, 0, 0), (.iadd, 1, 0, 0, 0), (.iaload, 1, 0, 0, 0), (.ifCond .eq 5, 3, 26, 0, 0), ex_no, ex_no, (.iload_n 3, 1, 3, 0, 0), (.ireturn, 1, 0, 0, 0), (.iinc 3 1, 3, 3, 0, 1), ex_no, ex_no, (.goto (-27), 3, 2, 0, 0), ex_no, ex_no, (.bipush (-6), 2, 0, 0, -6), ex_no, (.ireturn, 1, 0, 0, 0)]
/-- LoopStrandsModel.clearBelow -/
def ex_k152 : List ex_MO := [(.aload_n 0, 1, 0, 0, 0), (.aload_n 0, 1, 0, 0, 0), (.getfield 74, 3, 8, 24, 0), ex_no, ex_no, (.bipush 12, 2, 0, 0, 12), ex_no, (.iload_n 1, 1, 1, 0, 0), (.imul, 1, 0, 0, 0), (.iload_n 2, 1, 2, 0, 0), (.iadd, 1, 0, 0, 0), (.iaload, 1, 0, 0, 0), (.invokevirtual 188, 3, 142, 2, 0), ex_no, ex_no, (.istore_n 3, 1, 3, 0, 0), (.iload_n 1, 1, 1, 0, 0), (.iconst 1, 1, 0, 0, 1), (.iadd, 1, 0, 0, 0), (.istore 4, 2, 4, 0, 0), ex_no, (.iload 4, 2, 4, 0, 0), ex_no, (.aload_n 0, 1, 0, 0, 0), (.getfield 195, 3, 8, 22, 0), ex_no, ex_no, (.if_icmp .ge 93, 3, 120, 0, 0), ex_no, ex_no, (.aload_n 0, 1, 0, 0, 0), (.aload_n 0, 1, 0, 0, 0), (.getfield 74, 3, 8, 24, 0), ex_no, ex_no, (.bipush 12, 2, 0, 0, 12), ex_no, (.iload 4, 2, 4, 0, 0), ex_no, (.imul, 1, 0, 0, 0), (.iload_n 2, 1, 2, 0, 0), (.iadd, 1, 0, 0, 0), (.iaload, 1, 0, 0, 0), (.iload_n 3, 1, 3, 0, 0), (.imul, 1, 0, 0, 0), (.invokevirtual 161, 3, 128, 2, 0), ex_no, ex_no, (.istore 5, 2, 5, 0, 0), ex_no, (.iconst 0, 1, 0, 0, 0), (.istore 6, 2, 6, 0, 0), ex_no, (.iload 6, 2, 6, 0, 0), ex_no, (.aload_n 0, 1, 0, 0, 0), (.getfield 195, 3, 8, 22, 0), ex_no, ex_no, (.if_icmp .ge 55, 3, 114, 0, 0), ex_no, ex_no, (.aload_n 0, 1, 0, 0, 0), (.getfield 74, 3, 8, 24, 0), ex_no, ex_no, (.bipush 12, 2, 0, 0, 12), ex_no, (.iload 4, 2, 4, 0, 0), ex_no, (.imul, 1, 0, 0, 0), (.iload 6, 2, 6, 0, 0), ex_no, (.iadd, 1, 0, 0, 0), (.aload_n 0, 1, 0, 0, 0), (.aload_n 0, 1, 0, 0, 0), (.getfield 74, 3, 8, 24, 0), ex_no, ex_no, (.bipush 12, 2, 0, 0, 12), ex_no, (.iload 4, 2, 4, 0, 0), ex_no, (.imul, 1, 0, 0, 0), (.iload 6, 2, 6, 0, 0), ex_no, (.iadd, 1, 0, 0, 0), (.iaload, 1, 0, 0, 0), (.iload 5, 2, 5, 0, 0), ex_no, (.aload_n 0, 1, 0, 0, 0), (.getfield 74, 3, 8, 24, 0), ex_no, ex_no, (.bipush 12, 2, 0, 0, 12), ex_no, (.iload_n 1, 1, 1, 0, 0), (.imul, 1, 0, 0, 0), (.iload 6, 2, 6, 0, 0), ex_no, (.iadd, 1, 0, 0, 0), (.iaload, 1, 0, 0, 0), (.imul, 1, 0, 0, 0), (.isub, 1, 0, 0, 0), (.invokevirtual 161, 3, 128, 2, 0), ex_no, ex_no, (.iastore, 1, 0, 0, 0), (.iinc 6 1, 3, 6, 0, 1), ex_no, ex_no, (.goto (-58), 3, 53, 0, 0), ex_no, ex_no, (.iinc 4 1, 3, 4, 0, 1), ex_no, ex_no, (.goto (-96), 3, 21, 0, 0), ex_no, ex_no, (.return_, 1, 0, 0, 0)]
/-- LoopStrandsModel.layTable -/
def ex_k153 : List ex_MO := [(.iconst 0, 1, 0, 0, 0), (.istore_n 1, 1, 1, 0, 0), (.iload_n 1, 1, 1, 0, 0), (.aload_n 0, 1, 0, 0, 0), (.getfield 195, 3, 8, 22, 0), ex_no, ex_no, (.if_icmp .ge 42, 3, 49, 0, 0), ex_no, ex_no, (.iconst 0, 1, 0, 0, 0), (.istore_n 2, 1, 2, 0, 0), (.iload_n 2, 1, 2, 0, 0), (.aload_n 0, 1, 0, 0, 0), (.getfield 195, 3, 8, 22, 0), ex_no, ex_no, (.if_icmp .ge 26, 3, 43, 0, 0), ex_no, ex_no, (.aload_n 0, 1, 0, 0, 0), (.getfield 74, 3, 8, 24, 0), ex_no, ex_no, (.bipush 12, 2, 0, 0, 12), ex_no, (.iload_n 1, 1, 1, 0, 0), (.imul, 1, 0, 0, 0), (.iload_n 2, 1, 2, 0, 0), (.iadd, 1, 0, 0, 0), (.aload_n 0, 1, 0, 0, 0), (.iload_n 1, 1, 1, 0, 0), (.iload_n 2, 1, 2, 0, 0), (.invokevirtual 208, 3, 148, 3, 0), ex_no, ex_no, (.iastore, 1, 0, 0, 0), (.iinc 2 1, 3, 2, 0, 1), ex_no, ex_no, (.goto (-28), 3, 12, 0, 0), ex_no, ex_no, (.iinc 1 1, 3, 1, 0, 1), ex_no, ex_no, (.goto (-44), 3, 2, 0, 0), ex_no, ex_no, (.aload_n 0, 1, 0, 0, 0), (.iconst 0, 1, 0, 0, 0), (.putfield 211, 3, 8, 25, 0), ex_no, ex_no, (.aload_n 0, 1, 0, 0, 0), (.aload_n 0, 1, 0, 0, 0), (.iconst 1, 1, 0, 0, 1), (.invokevirtual 161, 3, 128, 2, 0), ex_no, ex_no, (.putfield 205, 3, 8, 26, 0), ex_no, ex_no, (.iconst 0, 1, 0, 0, 0), (.istore_n 1, 1, 1, 0, 0), (.iload_n 1, 1, 1, 0, 0), (.aload_n 0, 1, 0, 0, 0), (.getfield 195, 3, 8, 22, 0), ex_no, ex_no, (.if_icmp .ge 86, 3, 156, 0, 0), ex_no, ex_no, (.aload_n 0, 1, 0, 0, 0), (.iload_n 1, 1, 1, 0, 0), (.aload_n 0, 1, 0, 0, 0), (.getfield 211, 3, 8, 25, 0), ex_no, ex_no, (.invokevirtual 214, 3, 151, 3, 0), ex_no, ex_no, (.istore_n 2, 1, 2, 0, 0), (.iload_n 2, 1, 2, 0, 0), (.ifCond .ge 11, 3, 95, 0, 0), ex_no, ex_no, (.aload_n 0, 1, 0, 0, 0), (.iconst 0, 1, 0, 0, 0), (.putfield 205, 3, 8, 26, 0), ex_no, ex_no, (.goto 58, 3, 150, 0, 0), ex_no, ex_no, (.aload_n 0, 1, 0, 0, 0), (.aload_n 0, 1, 0, 0, 0), (.getfield 211, 3, 8, 25, 0), ex_no, ex_no, (.iload_n 2, 1, 2, 0, 0), (.invokevirtual 217, 3, 150, 3, 0), ex_no, ex_no, (.aload_n 0, 1, 0, 0, 0), (.aload_n 0, 1, 0, 0, 0), (.aload_n 0, 1, 0, 0, 0), (.getfield 205, 3, 8, 26, 0), ex_no, ex_no, (.aload_n 0, 1, 0, 0, 0), (.getfield 74, 3, 8, 24, 0), ex_no, ex_no, (.bipush 12, 2, 0, 0, 12), ex_no, (.aload_n 0, 1, 0, 0, 0), (.getfield 211, 3, 8, 25, 0), ex_no, ex_no, (.imul, 1, 0, 0, 0), (.iload_n 1, 1, 1, 0, 0), (.iadd, 1, 0, 0, 0), (.iaload, 1, 0, 0, 0), (.imul, 1, 0, 0, 0), (.invokevirtual 161, 3, 128, 2, 0), ex_no, ex_no, (.putfield 205, 3, 8, 26, 0), ex_no, ex_no, (.aload_n 0, 1, 0, 0, 0), (.aload_n 0, 1, 0, 0, 0), (.getfield 211, 3, 8, 25, 0), ex_no, ex_no, (.iload_n 1, 1, 1, 0, 0), (.invokevirtual 220, 3, 152, 3, 0), ex_no, ex_no, (.aload_n 0, 1, 0, 0, 0), (.dup, 1, 0, 0, 0), (.getfield 211, 3, 8, 25, 0), ex_no, ex_no, (.iconst 1, 1, 0, 0, 1), (.iadd, 1, 0, 0, 0), (.putfield 211, 3, 8, 25, 0), ex_no, ex_no, (.iinc 1 1, 3, 1, 0, 1), ex_no, ex_no, (.goto (-88), 3, 65, 0, 0), ex_no, ex_no, (.return_, 1, 0, 0, 0)]
/-- LoopStrandsModel.cell -/
def ex_k154 : List ex_MO := [(.aload_n 0, 1, 0, 0, 0), (.iload_n 1, 1, 1, 0, 0), (.invokevirtual 223, 3, 149, 2, 0), ex_no, ex_no, (.ifCond .eq 12, 3, 17, 0, 0), ex_no, ex_no, (.iload_n 2, 1, 2, 0, 0), (.iconst 0, 1, 0, 0, 0), (.iconst 2, 1, 0, 0, 2), (.invokestatic 121, 3, 92, 3, 0), ex_no, ex_no, (.ifCond .ne 6, 3, 20, 0, 0), ex_no, ex_no, (.bipush (-2), 2, 0, 0, -2), ex_no, (.ireturn, 1, 0, 0, 0), (.aload_n 0, 1, 0, 0, 0), (.iload_n 1, 1, 1, 0, 0), (.invokevirtual 226, 3, 146, 2, 0), ex_no, ex_no, (.aload_n 0, 1, 0, 0, 0), (.invokevirtual 229, 3, 153, 1, 0), ex_no, ex_no, (.iload_n 2, 1, 2, 0, 0), (.ifCond .ne 10, 3, 40, 0, 0), ex_no, ex_no, (.aload_n 0, 1, 0, 0, 0), (.getfield 195, 3, 8, 22, 0), ex_no, ex_no, (.goto 19, 3, 56, 0, 0), ex_no, ex_no, (.iload_n 2, 1, 2, 0, 0), (.iconst 1, 1, 0, 0, 1), (.if_icmp .ne 10, 3, 52, 0, 0), ex_no, ex_no, (.aload_n 0, 1, 0, 0, 0), (.getfield 205, 3, 8, 26, 0), ex_no, ex_no, (.goto 7, 3, 56, 0, 0), ex_no, ex_no, (.aload_n 0, 1, 0, 0, 0), (.getfield 211, 3, 8, 25, 0), ex_no, ex_no, (.ireturn, 1, 0, 0, 0)]
/-- LoopStrandsModel.form -/
def ex_k155 : List ex_MO := [(.aload_n 0, 1, 0, 0, 0), (.iload_n 1, 1, 1, 0, 0), (.invokevirtual 223, 3, 149, 2, 0), ex_no, ex_no, (.ifCond .ne 6, 3, 11, 0, 0), ex_no, ex_no, (.bipush (-2), 2, 0, 0, -2), ex_no, (.ireturn, 1, 0, 0, 0), (.aload_n 0, 1, 0, 0, 0), (.iload_n 1, 1, 1, 0, 0), (.invokevirtual 226, 3, 146, 2, 0), ex_no, ex_no, (.iload_n 2, 1, 2, 0, 0), (.iconst 0, 1, 0, 0, 0), (.aload_n 0, 1, 0, 0, 0), (.getfield 195, 3, 8, 22, 0), ex_no, ex_no, (.iconst 1, 1, 0, 0, 1), (.isub, 1, 0, 0, 0), (.invokestatic 121, 3, 92, 3, 0), ex_no, ex_no, (.ifCond .eq 26, 3, 53, 0, 0), ex_no, ex_no, (.iload_n 3, 1, 3, 0, 0), (.iconst 0, 1, 0, 0, 0), (.aload_n 0, 1, 0, 0, 0), (.getfield 195, 3, 8, 22, 0), ex_no, ex_no, (.iconst 1, 1, 0, 0, 1), (.isub, 1, 0, 0, 0), (.invokestatic 121, 3, 92, 3, 0), ex_no, ex_no, (.ifCond .eq 12, 3, 53, 0, 0), ex_no, ex_no, (.aload_n 0, 1, 0, 0, 0), (.iload_n 2, 1, 2, 0, 0), (.iload_n 3, 1, 3, 0, 0), (.invokevirtual 208, 3, 148, 3, 0), ex_no, ex_no, (.goto 5, 3, 55, 0, 0), ex_no, ex_no, (.bipush (-2), 2, 0, 0, -2), ex_no, (.ireturn, 1, 0, 0, 0)]
/-- LoopStrandsModel.image -/
def ex_k156 : List ex_MO := [(.iload_n 1, 1, 1, 0, 0), (.iconst 0, 1, 0, 0, 0), (.iconst 1, 1, 0, 0, 1), (.invokestatic 121, 3, 92, 3, 0), ex_no, ex_no, (.ifCond .ne 6, 3, 12, 0, 0), ex_no, ex_no, (.bipush (-2), 2, 0, 0, -2), ex_no, (.ireturn, 1, 0, 0, 0), (.iconst 0, 1, 0, 0, 0), (.istore_n 2, 1, 2, 0, 0), (.iload_n 2, 1, 2, 0, 0), (.sipush 213, 3, 0, 0, 213), ex_no, ex_no, (.if_icmp .ge 27, 3, 45, 0, 0), ex_no, ex_no, (.aload_n 0, 1, 0, 0, 0), (.getfield 13, 3, 8, 1, 0), ex_no, ex_no, (.sipush 213, 3, 0, 0, 213), ex_no, ex_no, (.iload_n 1, 1, 1, 0, 0), (.imul, 1, 0, 0, 0), (.iload_n 2, 1, 2, 0, 0), (.iadd, 1, 0, 0, 0), (.aload_n 0, 1, 0, 0, 0), (.getfield 7, 3, 8, 0, 0), ex_no, ex_no, (.iload_n 2, 1, 2, 0, 0), (.iaload, 1, 0, 0, 0), (.iastore, 1, 0, 0, 0), (.iinc 2 1, 3, 2, 0, 1), ex_no, ex_no, (.goto (-28), 3, 14, 0, 0), ex_no, ex_no, (.aload_n 0, 1, 0, 0, 0), (.getfield 16, 3, 8, 2, 0), ex_no, ex_no, (.iload_n 1, 1, 1, 0, 0), (.iconst 1, 1, 0, 0, 1), (.bastore, 1, 0, 0, 0), (.iconst 1, 1, 0, 0, 1), (.ireturn, 1, 0, 0, 0)]
/-- LoopStrandsModel.restore -/
def ex_k157 : List ex_MO := [(.iload_n 1, 1, 1, 0, 0), (.iconst 0, 1, 0, 0, 0), (.iconst 1, 1, 0, 0, 1), (.invokestatic 121, 3, 92, 3, 0), ex_no, ex_no, (.ifCond .ne 6, 3, 12, 0, 0), ex_no, ex_no, (.bipush (-2), 2, 0, 0, -2), ex_no, (.ireturn, 1, 0, 0, 0), (.aload_n 0, 1, 0, 0, 0), (.getfield 16, 3, 8, 2, 0), ex_no, ex_no, (.iload_n 1, 1, 1, 0, 0), (.baload, 1, 0, 0, 0), (.ifCond .ne 6, 3, 24, 0, 0), ex_no, ex_no, (.bipush (-3), 2, 0, 0, -3), ex_no, (.ireturn, 1, 0, 0, 0), (.iconst 0, 1, 0, 0, 0), (.istore_n 2, 1, 2, 0, 0), (.iload_n 2, 1, 2, 0, 0), (.sipush 213, 3, 0, 0, 213), ex_no, ex_no, (.if_icmp .ge 27, 3, 57, 0, 0), ex_no, ex_no, (.aload_n 0, 1, 0, 0, 0), (.getfield 7, 3, 8, 0, 0), ex_no, ex_no, (.iload_n 2, 1, 2, 0, 0), (.aload_n 0, 1, 0, 0, 0), (.getfield 13, 3, 8, 1, 0), ex_no, ex_no, (.sipush 213, 3, 0, 0, 213), ex_no, ex_no, (.iload_n 1, 1, 1, 0, 0), (.imul, 1, 0, 0, 0), (.iload_n 2, 1, 2, 0, 0), (.iadd, 1, 0, 0, 0), (.iaload, 1, 0, 0, 0), (.iastore, 1, 0, 0, 0), (.iinc 2 1, 3, 2, 0, 1), ex_no, ex_no, (.goto (-28), 3, 26, 0, 0), ex_no, ex_no, (.aload_n 0, 1, 0, 0, 0), (.invokevirtual 77, 3, 99, 1, 0), ex_no, ex_no, (.iconst 1, 1, 0, 0, 1), (.ireturn, 1, 0, 0, 0)]
/-- LoopStrandsModel.count -/
def ex_k158 : List ex_MO := [(.iload_n 1, 1, 1, 0, 0), (.tableswitch 100 0 5 #[39, 46, 51, 58, 65, 70], 39, 101, 0, 0), ex_no, ex_no, ex_no, ex_no, ex_no, ex_no, ex_no, ex_no, ex_no, ex_no, ex_no, ex_no, ex_no, ex_no, ex_no, ex_no, ex_no, ex_no, ex_no, ex_no, ex_no, ex_no, ex_no, ex_no, ex_no, ex_no, ex_no, ex_no, ex_no, ex_no, ex_no, ex_no, ex_no, ex_no, ex_no, ex_no, ex_no, ex_no, (.aload_n 0, 1, 0, 0, 0), (.getfield 7, 3, 8, 0, 0), ex_no, ex_no, (.iconst 0, 1, 0, 0, 0), (.iaload, 1, 0, 0, 0), (.ireturn, 1, 0, 0, 0), (.aload_n 0, 1, 0, 0, 0), (.getfield 87, 3, 8, 7, 0), ex_no, ex_no, (.ireturn, 1, 0, 0, 0), (.aload_n 0, 1, 0, 0, 0), (.getfield 7, 3, 8, 0, 0), ex_no, ex_no, (.iconst 1, 1, 0, 0, 1), (.iaload, 1, 0, 0, 0), (.ireturn, 1, 0, 0, 0), (.aload_n 0, 1, 0, 0, 0), (.getfield 7, 3, 8, 0, 0), ex_no, ex_no, (.iconst 2, 1, 0, 0, 2), (.iaload, 1, 0, 0, 0), (.ireturn, 1, 0, 0, 0), (.aload_n 0, 1, 0, 0, 0), (.getfield 128, 3, 8, 4, 0), ex_no, ex_no, (.ireturn, 1, 0, 0, 0), (.aload_n 0, 1, 0, 0, 0), (.getfield 16, 3, 8, 2, 0), ex_no, ex_no, (.iconst 0, 1, 0, 0, 0), (.baload, 1, 0, 0, 0), (.ifCond .eq 7, 3, 84, 0, 0), ex_no, ex_no, (.iconst 1, 1, 0, 0, 1), (.goto 4, 3, 85, 0, 0), ex_no, ex_no, (.iconst 0, 1, 0, 0, 0), (.aload_n 0, 1, 0, 0, 0), (.getfield 16, 3, 8, 2, 0), ex_no, ex_no, (.iconst 1, 1, 0, 0, 1), (.baload, 1, 0, 0, 0), (.ifCond .eq 7, 3, 98, 0, 0), ex_no, ex_no, (.iconst 2, 1, 0, 0, 2), (.goto 4, 3, 99, 0, 0), ex_no, ex_no, (.iconst 0, 1, 0, 0, 0), (.iadd, 1, 0, 0, 0), (.ireturn, 1, 0, 0, 0), (.bipush (-2), 2, 0, 0, -2), ex_no, (.ireturn, 1, 0, 0, 0)]
/-- java/util/Arrays.fill -/
def ex_k159 : List ex_MO := [(.iconst 0, 1, 0, 0, 0), (.istore_n 2, 1, 2, 0, 0), (.aload_n 0, 1, 0, 0, 0), (.arraylength, 1, 0, 0, 0), (.istore_n 3, 1, 3, 0, 0), (.iload_n 2, 1, 2, 0, 0), (.iload_n 3, 1, 3, 0, 0), (.if_icmp .ge 13, 3, 20, 0, 0), ex_no, ex_no, (.aload_n 0, 1, 0, 0, 0), (.iload_n 2, 1, 2, 0, 0), (.iload_n 1, 1, 1, 0, 0), (.iastore, 1, 0, 0, 0), (.iinc 2 1, 3, 2, 0, 1), ex_no, ex_no, (.goto (-12), 3, 5, 0, 0), ex_no, ex_no, (.return_, 1, 0, 0, 0)]
/-- java/util/Arrays.copyOf -/
def ex_k160 : List ex_MO := [(.iload_n 1, 1, 1, 0, 0), (.aload_n 0, 1, 0, 0, 0), (.arraylength, 1, 0, 0, 0), (.if_icmp .ne 11, 3, 14, 0, 0), ex_no, ex_no, (.aload_n 0, 1, 0, 0, 0), (.invokevirtual 316, 3, 1002, 0, 0), ex_no, ex_no, (.checkcast 317, 3, 0, 0, 0), ex_no, ex_no, (.areturn, 1, 0, 0, 0), (.iload_n 1, 1, 1, 0, 0), (.newarray .int, 2, 0, 0, 0), ex_no, (.astore_n 2, 1, 2, 0, 0), (.aload_n 0, 1, 0, 0, 0), (.iconst 0, 1, 0, 0, 0), (.aload_n 2, 1, 2, 0, 0), (.iconst 0, 1, 0, 0, 0), (.aload_n 0, 1, 0, 0, 0), (.arraylength, 1, 0, 0, 0), (.iload_n 1, 1, 1, 0, 0), (.invokestatic 304, 3, 1003, 0, 0), ex_no, ex_no, (.invokestatic 150, 3, 1001, 0, 0), ex_no, ex_no, (.aload_n 2, 1, 2, 0, 0), (.areturn, 1, 0, 0, 0)]
/-- LoopStrandsLaw.law -/
def ex_k161 : List ex_MO := [(.new 7, 3, 7, 0, 0), ex_no, ex_no, (.dup, 1, 0, 0, 0), (.invokespecial 9, 3, 60, 1, 0), ex_no, ex_no, (.astore_n 1, 1, 1, 0, 0), (.new 10, 3, 8, 0, 0), ex_no, ex_no, (.dup, 1, 0, 0, 0), (.invokespecial 12, 3, 91, 1, 0), ex_no, ex_no, (.astore_n 2, 1, 2, 0, 0), (.iconst 0, 1, 0, 0, 0), (.istore_n 3, 1, 3, 0, 0), (.iload_n 3, 1, 3, 0, 0), (.aload_n 0, 1, 0, 0, 0), (.arraylength, 1, 0, 0, 0), (.iconst 5, 1, 0, 0, 5), (.isub, 1, 0, 0, 0), (.if_icmp .gt 849, 3, 872, 0, 0), ex_no, ex_no, (.aload_n 0, 1, 0, 0, 0), (.iload_n 3, 1, 3, 0, 0), (.iaload, 1, 0, 0, 0), (.bipush 31, 2, 0, 0, 31), ex_no, (.iand, 1, 0, 0, 0), (.tableswitch 834 0 23 #[112, 135, 158, 171, 194, 207, 230, 263, 296, 339, 372, 405, 448, 481, 534, 577, 610, 633, 656, 689, 722, 765, 788, 811], 112, 866, 0, 0), ex_no, ex_no, ex_no, ex_no, ex_no, ex_no, ex_no, ex_no, ex_no, ex_no, ex_no, ex_no, ex_no, ex_no, ex_no, ex_no, ex_no, ex_no, ex_no, ex_no, ex_no, ex_no, ex_no, ex_no, ex_no, ex_no, ex_no, ex_no, ex_no, ex_no, ex_no, ex_no, ex_no, ex_no, ex_no, ex_no, ex_no, ex_no, ex_no, ex_no, ex_no, ex_no, ex_no, ex_no, ex_no, ex_no, ex_no, ex_no, ex_no, ex_no, ex_no, ex_no, ex_no, ex_no, ex_no, ex_no, ex_no, ex_no, ex_no, ex_no, ex_no, ex_no, ex_no, ex_no, ex_no, ex_no, ex_no, ex_no, ex_no, ex_no, ex_no, ex_no, ex_no, ex_no, ex_no, ex_no, ex_no, ex_no, ex_no, ex_no, ex_no, ex_no, ex_no, ex_no, ex_no, ex_no, ex_no, ex_no, ex_no, ex_no, ex_no, ex_no, ex_no, ex_no, ex_no, ex_no, ex_no, ex_no, ex_no, ex_no, ex_no, ex_no, ex_no, ex_no, ex_no, ex_no, ex_no, ex_no, ex_no, ex_no, ex_no, (.aload_n 1, 1, 1, 0, 0), (.aload_n 0, 1, 0, 0, 0), (.iload_n 3, 1, 3, 0, 0), (.iconst 1, 1, 0, 0, 1), (.iadd, 1, 0, 0, 0), (.iaload, 1, 0, 0, 0), (.invokevirtual 13, 3, 61, 2, 0), ex_no, ex_no, (.aload_n 2, 1, 2, 0, 0), (.aload_n 0, 1, 0, 0, 0), (.iload_n 3, 1, 3, 0, 0), (.iconst 1, 1, 0, 0, 1), (.iadd, 1, 0, 0, 0), (.iaload, 1, 0, 0, 0), (.invokevirtual 17, 3, 107, 2, 0), ex_no, ex_no, (.if_icmp .eq 704, 3, 866, 0, 0), ex_no, ex_no, (.iconst 0, 1, 0, 0, 0), (.ireturn, 1, 1, 0, 0), (.aload_n 1, 1, 1, 0, 0), (.aload_n 0, 1, 0, 0, 0), (.iload_n 3, 1, 3, 0, 0), (.iconst 1, 1, 0, 0, 1), (.iadd, 1, 0, 0, 0), (.iaload, 1, 0, 0, 0), (.invokevirtual 18, 3, 62, 2, 0), ex_no, ex_no, (.aload_n 2, 1, 2, 0, 0), (.aload_n 0, 1, 0, 0, 0), (.iload_n 3, 1, 3, 0, 0), (.iconst 1, 1, 0, 0, 1), (.iadd, 1, 0, 0, 0), (.iaload, 1, 0, 0, 0), (.invokevirtual 21, 3, 108, 2, 0), ex_no, ex_no, (.if_icmp .eq 681, 3, 866, 0, 0), ex_no, ex_no, (.iconst 0, 1, 0, 0, 0), (.ireturn, 1, 1, 0, 0), (.aload_n 1, 1, 1, 0, 0), (.invokevirtual 22, 3, 63, 1, 0), ex_no, ex_no, (.aload_n 2, 1, 2, 0, 0), (.invokevirtual 26, 3, 109, 1, 0), ex_no, ex_no, (.if_icmp .eq 668, 3, 866, 0, 0), ex_no, ex_no, (.iconst 0, 1, 0, 0, 0), (.ireturn, 1, 1, 0, 0), (.aload_n 1, 1, 1, 0, 0), (.aload_n 0, 1, 0, 0, 0), (.iload_n 3, 1, 3, 0, 0), (.iconst 1, 1, 0, 0, 1), (.iadd, 1, 0, 0, 0), (.iaload, 1, 0, 0, 0), (.invokevirtual 27, 3, 64, 2, 0), ex_no, ex_no, (.aload_n 2, 1, 2, 0, 0), (.aload_n 0, 1, 0, 0, 0), (.iload_n 3, 1, 3, 0, 0), (.iconst 1, 1, 0, 0, 1), (.iadd, 1, 0, 0, 0), (.iaload, 1, 0, 0, 0), (.invokevirtual 30, 3, 113, 2, 0), ex_no, ex_no, (.if_icmp .eq 645, 3, 866, 0, 0), ex_no, ex_no, (.iconst 0, 1, 0, 0, 0), (.ireturn, 1, 1, 0, 0), (.aload_n 1, 1, 1, 0, 0), (.invokevirtual 31, 3, 65, 1, 0), ex_no, ex_no, (.aload_n 2, 1, 2, 0, 0), (.invokevirtual 34, 3, 114, 1, 0), ex_no, ex_no, (.if_icmp .eq 632, 3, 866, 0, 0), ex_no, ex_no, (.iconst 0, 1, 0, 0, 0), (.ireturn, 1, 1, 0, 0), (.aload_n 1, 1, 1, 0, 0), (.aload_n 0, 1, 0, 0, 0), (.iload_n 3, 1, 3, 0, 0), (.iconst 1, 1, 0, 0, 1), (.iadd, 1, 0, 0, 0), (.iaload, 1, 0, 0, 0), (.invokevirtual 35, 3, 66, 2, 0), ex_no, ex_no, (.aload_n 2, 1, 2, 0, 0), (.aload_n 0, 1, 0, 0, 0), (.iload_n 3, 1, 3, 0, 0), (.iconst 1, 1, 0, 0, 1), (.iadd, 1, 0, 0, 0), (.iaload, 1, 0, 0, 0), (.invokevirtual 38, 3, 117, 2, 0), ex_no, ex_no, (.if_icmp .eq 609, 3, 866, 0, 0), ex_no, ex_no, (.iconst 0, 1, 0, 0, 0), (.ireturn, 1, 1, 0, 0), (.aload_n 1, 1, 1, 0, 0), (.aload_n 0, 1, 0, 0, 0), (.iload_n 3, 1, 3, 0, 0), (.iconst 1, 1, 0, 0, 1), (.iadd, 1, 0, 0, 0), (.iaload, 1, 0, 0, 0), (.aload_n 0, 1, 0, 0, 0), (.iload_n 3, 1, 3, 0, 0), (.iconst 2, 1, 0, 0, 2), (.iadd, 1, 0, 0, 0), (.iaload, 1, 0, 0, 0), (.invokevirtual 39, 3, 67, 3, 0), ex_no, ex_no, (.aload_n 2, 1, 2, 0, 0), (.aload_n 0, 1, 0, 0, 0), (.iload_n 3, 1, 3, 0, 0), (.iconst 1, 1, 0, 0, 1), (.iadd, 1, 0, 0, 0), (.iaload, 1, 0, 0, 0), (.aload_n 0, 1, 0, 0, 0), (.iload_n 3, 1, 3, 0, 0), (.iconst 2, 1, 0, 0, 2), (.iadd, 1, 0, 0, 0), (.iaload, 1, 0, 0, 0), (.invokevirtual 43, 3, 122, 3, 0), ex_no, ex_no, (.if_icmp .eq 576, 3, 866, 0, 0), ex_no, ex_no, (.iconst 0, 1, 0, 0, 0), (.ireturn, 1, 1, 0, 0), (.aload_n 1, 1, 1, 0, 0), (.aload_n 0, 1, 0, 0, 0), (.iload_n 3, 1, 3, 0, 0), (.iconst 1, 1, 0, 0, 1), (.iadd, 1, 0, 0, 0), (.iaload, 1, 0, 0, 0), (.aload_n 0, 1, 0, 0, 0), (.iload_n 3, 1, 3, 0, 0), (.iconst 2, 1, 0, 0, 2), (.iadd, 1, 0, 0, 0), (.iaload, 1, 0, 0, 0), (.invokevirtual 44, 3, 68, 3, 0), ex_no, ex_no, (.aload_n 2, 1, 2, 0, 0), (.aload_n 0, 1, 0, 0, 0), (.iload_n 3, 1, 3, 0, 0), (.iconst 1, 1, 0, 0, 1), (.iadd, 1, 0, 0, 0), (.iaload, 1, 0, 0, 0), (.aload_n 0, 1, 0, 0, 0), (.iload_n 3, 1, 3, 0, 0), (.iconst 2, 1, 0, 0, 2), (.iadd, 1, 0, 0, 0), (.iaload, 1, 0, 0, 0), (.invokevirtual 47, 3, 123, 3, 0), ex_no, ex_no, (.if_icmp .eq 543, 3, 866, 0, 0), ex_no, ex_no, (.iconst 0, 1, 0, 0, 0), (.ireturn, 1, 1, 0, 0), (.aload_n 1, 1, 1, 0, 0), (.aload_n 0, 1, 0, 0, 0), (.iload_n 3, 1, 3, 0, 0), (.iconst 1, 1, 0, 0, 1), (.iadd, 1, 0, 0, 0), (.iaload, 1, 0, 0, 0), (.aload_n 0, 1, 0, 0, 0), (.iload_n 3, 1, 3, 0, 0), (.iconst 2, 1, 0, 0, 2), (.iadd, 1, 0, 0, 0), (.iaload, 1, 0, 0, 0), (.aload_n 0, 1, 0, 0, 0), (.iload_n 3, 1, 3, 0, 0), (.iconst 3, 1, 0, 0, 3), (.iadd, 1, 0, 0, 0), (.iaload, 1, 0, 0, 0), (.invokevirtual 48, 3, 69, 4, 0), ex_no, ex_no, (.aload_n 2, 1, 2, 0, 0), (.aload_n 0, 1, 0, 0, 0), (.iload_n 3, 1, 3, 0, 0), (.iconst 1, 1, 0, 0, 1), (.iadd, 1, 0, 0, 0), (.iaload, 1, 0, 0, 0), (.aload_n 0, 1, 0, 0, 0), (.iload_n 3, 1, 3, 0, 0), (.iconst 2, 1, 0, 0, 2), (.iadd, 1, 0, 0, 0), (.iaload, 1, 0, 0, 0), (.aload_n 0, 1, 0, 0, 0), (.iload_n 3, 1, 3, 0, 0), (.iconst 3, 1, 0, 0, 3), (.iadd, 1, 0, 0, 0), (.iaload, 1, 0, 0, 0), (.invokevirtual 52, 3, 124, 4, 0), ex_no, ex_no, (.if_icmp .eq 500, 3, 866, 0, 0), ex_no, ex_no, (.iconst 0, 1, 0, 0, 0), (.ireturn, 1, 1, 0, 0), (.aload_n 1, 1, 1, 0, 0), (.aload_n 0, 1, 0, 0, 0), (.iload_n 3, 1, 3, 0, 0), (.iconst 1, 1, 0, 0, 1), (.iadd, 1, 0, 0, 0), (.iaload, 1, 0, 0, 0), (.aload_n 0, 1, 0, 0, 0), (.iload_n 3, 1, 3, 0, 0), (.iconst 2, 1, 0, 0, 2), (.iadd, 1, 0, 0, 0), (.iaload, 1, 0, 0, 0), (.invokevirtual 53, 3, 70, 3, 0), ex_no, ex_no, (.aload_n 2, 1, 2, 0, 0), (.aload_n 0, 1, 0, 0, 0), (.iload_n 3, 1, 3, 0, 0), (.iconst 1, 1, 0, 0, 1), (.iadd, 1, 0, 0, 0), (.iaload, 1, 0, 0, 0), (.aload_n 0, 1, 0, 0, 0), (.iload_n 3, 1, 3, 0, 0), (.iconst 2, 1, 0, 0, 2), (.iadd, 1, 0, 0, 0), (.iaload, 1, 0, 0, 0), (.invokevirtual 56, 3, 125, 3, 0), ex_no, ex_no, (.if_icmp .eq 467, 3, 866, 0, 0), ex_no, ex_no, (.iconst 0, 1, 0, 0, 0), (.ireturn, 1, 1, 0, 0), (.aload_n 1, 1, 1, 0, 0), (.aload_n 0, 1, 0, 0, 0), (.iload_n 3, 1, 3, 0, 0), (.iconst 1, 1, 0, 0, 1), (.iadd, 1, 0, 0, 0), (.iaload, 1, 0, 0, 0), (.aload_n 0, 1, 0, 0, 0), (.iload_n 3, 1, 3, 0, 0), (.iconst 2, 1, 0, 0, 2), (.iadd, 1, 0, 0, 0), (.iaload, 1, 0, 0, 0), (.invokevirtual 57, 3, 71, 3, 0), ex_no, ex_no, (.aload_n 2, 1, 2, 0, 0), (.aload_n 0, 1, 0, 0, 0), (.iload_n 3, 1, 3, 0, 0), (.iconst 1, 1, 0, 0, 1), (.iadd, 1, 0, 0, 0), (.iaload, 1, 0, 0, 0), (.aload_n 0, 1, 0, 0, 0), (.iload_n 3, 1, 3, 0, 0), (.iconst 2, 1, 0, 0, 2), (.iadd, 1, 0, 0, 0), (.iaload, 1, 0, 0, 0), (.invokevirtual 60, 3, 130, 3, 0), ex_no, ex_no, (.if_icmp .eq 434, 3, 866, 0, 0), ex_no, ex_no, (.iconst 0, 1, 0, 0, 0), (.ireturn, 1, 1, 0, 0), (.aload_n 1, 1, 1, 0, 0), (.aload_n 0, 1, 0, 0, 0), (.iload_n 3, 1, 3, 0, 0), (.iconst 1, 1, 0, 0, 1), (.iadd, 1, 0, 0, 0), (.iaload, 1, 0, 0, 0), (.aload_n 0, 1, 0, 0, 0), (.iload_n 3, 1, 3, 0, 0), (.iconst 2, 1, 0, 0, 2), (.iadd, 1, 0, 0, 0), (.iaload, 1, 0, 0, 0), (.aload_n 0, 1, 0, 0, 0), (.iload_n 3, 1, 3, 0, 0), (.iconst 3, 1, 0, 0, 3), (.iadd, 1, 0, 0, 0), (.iaload, 1, 0, 0, 0), (.invokevirtual 61, 3, 72, 4, 0), ex_no, ex_no, (.aload_n 2, 1, 2, 0, 0), (.aload_n 0, 1, 0, 0, 0), (.iload_n 3, 1, 3, 0, 0), (.iconst 1, 1, 0, 0, 1), (.iadd, 1, 0, 0, 0), (.iaload, 1, 0, 0, 0), (.aload_n 0, 1, 0, 0, 0), (.iload_n 3, 1, 3, 0, 0), (.iconst 2, 1, 0, 0, 2), (.iadd, 1, 0, 0, 0), (.iaload, 1, 0, 0, 0), (.aload_n 0, 1, 0, 0, 0), (.iload_n 3, 1, 3, 0, 0), (.iconst 3, 1, 0, 0, 3), (.iadd, 1, 0, 0, 0), (.iaload, 1, 0, 0, 0), (.invokevirtual 64, 3, 132, 4, 0), ex_no, ex_no, (.if_icmp .eq 391, 3, 866, 0, 0), ex_no, ex_no, (.iconst 0, 1, 0, 0, 0), (.ireturn, 1, 1, 0, 0), (.aload_n 1, 1, 1, 0, 0), (.aload_n 0, 1, 0, 0, 0), (.iload_n 3, 1, 3, 0, 0), (.iconst 1, 1, 0, 0, 1), (.iadd, 1, 0, 0, 0), (.iaload, 1, 0, 0, 0), (.aload_n 0, 1, 0, 0, 0), (.iload_n 3, 1, 3, 0, 0), (.iconst 2, 1, 0, 0, 2), (.iadd, 1, 0, 0, 0), (.iaload, 1, 0, 0, 0), (.invokevirtual 65, 3, 73, 3, 0), ex_no, ex_no, (.aload_n 2, 1, 2, 0, 0), (.aload_n 0, 1, 0, 0, 0), (.iload_n 3, 1, 3, 0, 0), (.iconst 1, 1, 0, 0, 1), (.iadd, 1, 0, 0, 0), (.iaload, 1, 0, 0, 0), (.aload_n 0, 1, 0, 0, 0), (.iload_n 3, 1, 3, 0, 0), (.iconst 2, 1, 0, 0, 2), (.iadd, 1, 0, 0, 0), (.iaload, 1, 0, 0, 0), (.invokevirtual 68, 3, 133, 3, 0), ex_no, ex_no, (.if_icmp .eq 358, 3, 866, 0, 0), ex_no, ex_no, (.iconst 0, 1, 0, 0, 0), (.ireturn, 1, 1, 0, 0), (.aload_n 1, 1, 1, 0, 0), (.aload_n 0, 1, 0, 0, 0), (.iload_n 3, 1, 3, 0, 0), (.iconst 1, 1, 0, 0, 1), (.iadd, 1, 0, 0, 0), (.iaload, 1, 0, 0, 0), (.aload_n 0, 1, 0, 0, 0), (.iload_n 3, 1, 3, 0, 0), (.iconst 2, 1, 0, 0, 2), (.iadd, 1, 0, 0, 0), (.iaload, 1, 0, 0, 0), (.aload_n 0, 1, 0, 0, 0), (.iload_n 3, 1, 3, 0, 0), (.iconst 3, 1, 0, 0, 3), (.iadd, 1, 0, 0, 0), (.iaload, 1, 0, 0, 0), (.aload_n 0, 1, 0, 0, 0), (.iload_n 3, 1, 3, 0, 0), (.iconst 4, 1, 0, 0, 4), (.iadd, 1, 0, 0, 0), (.iaload, 1, 0, 0, 0), (.invokevirtual 69, 3, 74, 5, 0), ex_no, ex_no, (.aload_n 2, 1, 2, 0, 0), (.aload_n 0, 1, 0, 0, 0), (.iload_n 3, 1, 3, 0, 0), (.iconst 1, 1, 0, 0, 1), (.iadd, 1, 0, 0, 0), (.iaload, 1, 0, 0, 0), (.aload_n 0, 1, 0, 0, 0), (.iload_n 3, 1, 3, 0, 0), (.iconst 2, 1, 0, 0, 2), (.iadd, 1, 0, 0, 0), (.iaload, 1, 0, 0, 0), (.aload_n 0, 1, 0, 0, 0), (.iload_n 3, 1, 3, 0, 0), (.iconst 3, 1, 0, 0, 3), (.iadd, 1, 0, 0, 0), (.iaload, 1, 0, 0, 0), (.aload_n 0, 1, 0, 0, 0), (.iload_n 3, 1, 3, 0, 0), (.iconst 4, 1, 0, 0, 4), (.iadd, 1, 0, 0, 0), (.iaload, 1, 0, 0, 0), (.invokevirtual 73, 3, 136, 5, 0), ex_no, ex_no, (.if_icmp .eq 305, 3, 866, 0, 0), ex_no, ex_no, (.iconst 0, 1, 0, 0, 0), (.ireturn, 1, 1, 0, 0), (.aload_n 1, 1, 1, 0, 0), (.aload_n 0, 1, 0, 0, 0), (.iload_n 3, 1, 3, 0, 0), (.iconst 1, 1, 0, 0, 1), (.iadd, 1, 0, 0, 0), (.iaload, 1, 0, 0, 0), (.aload_n 0, 1, 0, 0, 0), (.iload_n 3, 1, 3, 0, 0), (.iconst 2, 1, 0, 0, 2), (.iadd, 1, 0, 0, 0), (.iaload, 1, 0, 0, 0), (.aload_n 0, 1, 0, 0, 0), (.iload_n 3, 1, 3, 0, 0), (.iconst 3, 1, 0, 0, 3), (.iadd, 1, 0, 0, 0), (.iaload, 1, 0, 0, 0), (.invokevirtual 74, 3, 75, 4, 0), ex_no, ex_no, (.aload_n 2, 1, 2, 0, 0), (.aload_n 0, 1, 0, 0, 0), (.iload_n 3, 1, 3, 0, 0), (.iconst 1, 1, 0, 0, 1), (.iadd, 1, 0, 0, 0), (.iaload, 1, 0, 0, 0), (.aload_n 0, 1, 0, 0, 0), (.iload_n 3, 1, 3, 0, 0), (.iconst 2, 1, 0, 0, 2), (.iadd, 1, 0, 0, 0), (.iaload, 1, 0, 0, 0), (.aload_n 0, 1, 0, 0, 0), (.iload_n 3, 1, 3, 0, 0), (.iconst 3, 1, 0, 0, 3), (.iadd, 1, 0, 0, 0), (.iaload, 1, 0, 0, 0), (.invokevirtual 77, 3, 137, 4, 0), ex_no, ex_no, (.if_icmp .eq 262, 3, 866, 0, 0), ex_no, ex_no, (.iconst 0, 1, 0, 0, 0), (.ireturn, 1, 1, 0, 0), (.aload_n 1, 1, 1, 0, 0), (.aload_n 0, 1, 0, 0, 0), (.iload_n 3, 1, 3, 0, 0), (.iconst 1, 1, 0, 0, 1), (.iadd, 1, 0, 0, 0), (.iaload, 1, 0, 0, 0), (.aload_n 0, 1, 0, 0, 0), (.iload_n 3, 1, 3, 0, 0), (.iconst 2, 1, 0, 0, 2), (.iadd, 1, 0, 0, 0), (.iaload, 1, 0, 0, 0), (.invokevirtual 78, 3, 76, 3, 0), ex_no, ex_no, (.aload_n 2, 1, 2, 0, 0), (.aload_n 0, 1, 0, 0, 0), (.iload_n 3, 1, 3, 0, 0), (.iconst 1, 1, 0, 0, 1), (.iadd, 1, 0, 0, 0), (.iaload, 1, 0, 0, 0), (.aload_n 0, 1, 0, 0, 0), (.iload_n 3, 1, 3, 0, 0), (.iconst 2, 1, 0, 0, 2), (.iadd, 1, 0, 0, 0), (.iaload, 1, 0, 0, 0), (.invokevirtual 81, 3, 138, 3, 0), ex_no, ex_no, (.if_icmp .eq 229, 3, 866, 0, 0), ex_no, ex_no, (.iconst 0, 1, 0, 0, 0), (.ireturn, 1, 1, 0, 0), (.aload_n 1, 1, 1, 0, 0), (.aload_n 0, 1, 0, 0, 0), (.iload_n 3, 1, 3, 0, 0), (.iconst 1, 1, 0, 0, 1), (.iadd, 1, 0, 0, 0), (.iaload, 1, 0, 0, 0), (.invokevirtual 82, 3, 77, 2, 0), ex_no, ex_no, (.aload_n 2, 1, 2, 0, 0), (.aload_n 0, 1, 0, 0, 0), (.iload_n 3, 1, 3, 0, 0), (.iconst 1, 1, 0, 0, 1), (.iadd, 1, 0, 0, 0), (.iaload, 1, 0, 0, 0), (.invokevirtual 85, 3, 139, 2, 0), ex_no, ex_no, (.if_icmp .eq 206, 3, 866, 0, 0), ex_no, ex_no, (.iconst 0, 1, 0, 0, 0), (.ireturn, 1, 1, 0, 0), (.aload_n 1, 1, 1, 0, 0), (.aload_n 0, 1, 0, 0, 0), (.iload_n 3, 1, 3, 0, 0), (.iconst 1, 1, 0, 0, 1), (.iadd, 1, 0, 0, 0), (.iaload, 1, 0, 0, 0), (.invokevirtual 86, 3, 78, 2, 0), ex_no, ex_no, (.aload_n 2, 1, 2, 0, 0), (.aload_n 0, 1, 0, 0, 0), (.iload_n 3, 1, 3, 0, 0), (.iconst 1, 1, 0, 0, 1), (.iadd, 1, 0, 0, 0), (.iaload, 1, 0, 0, 0), (.invokevirtual 89, 3, 141, 2, 0), ex_no, ex_no, (.if_icmp .eq 183, 3, 866, 0, 0), ex_no, ex_no, (.iconst 0, 1, 0, 0, 0), (.ireturn, 1, 1, 0, 0), (.aload_n 1, 1, 1, 0, 0), (.aload_n 0, 1, 0, 0, 0), (.iload_n 3, 1, 3, 0, 0), (.iconst 1, 1, 0, 0, 1), (.iadd, 1, 0, 0, 0), (.iaload, 1, 0, 0, 0), (.aload_n 0, 1, 0, 0, 0), (.iload_n 3, 1, 3, 0, 0), (.iconst 2, 1, 0, 0, 2), (.iadd, 1, 0, 0, 0), (.iaload, 1, 0, 0, 0), (.invokevirtual 90, 3, 79, 3, 0), ex_no, ex_no, (.aload_n 2, 1, 2, 0, 0), (.aload_n 0, 1, 0, 0, 0), (.iload_n 3, 1, 3, 0, 0), (.iconst 1, 1, 0, 0, 1), (.iadd, 1, 0, 0, 0), (.iaload, 1, 0, 0, 0), (.aload_n 0, 1, 0, 0, 0), (.iload_n 3, 1, 3, 0, 0), (.iconst 2, 1, 0, 0, 2), (.iadd, 1, 0, 0, 0), (.iaload, 1, 0, 0, 0), (.invokevirtual 93, 3, 144, 3, 0), ex_no, ex_no, (.if_icmp .eq 150, 3, 866, 0, 0), ex_no, ex_no, (.iconst 0, 1, 0, 0, 0), (.ireturn, 1, 1, 0, 0), (.aload_n 1, 1, 1, 0, 0), (.aload_n 0, 1, 0, 0, 0), (.iload_n 3, 1, 3, 0, 0), (.iconst 1, 1, 0, 0, 1), (.iadd, 1, 0, 0, 0), (.iaload, 1, 0, 0, 0), (.aload_n 0, 1, 0, 0, 0), (.iload_n 3, 1, 3, 0, 0), (.iconst 2, 1, 0, 0, 2), (.iadd, 1, 0, 0, 0), (.iaload, 1, 0, 0, 0), (.invokevirtual 94, 3, 80, 3, 0), ex_no, ex_no, (.aload_n 2, 1, 2, 0, 0), (.aload_n 0, 1, 0, 0, 0), (.iload_n 3, 1, 3, 0, 0), (.iconst 1, 1, 0, 0, 1), (.iadd, 1, 0, 0, 0), (.iaload, 1, 0, 0, 0), (.aload_n 0, 1, 0, 0, 0), (.iload_n 3, 1, 3, 0, 0), (.iconst 2, 1, 0, 0, 2), (.iadd, 1, 0, 0, 0), (.iaload, 1, 0, 0, 0), (.invokevirtual 97, 3, 154, 3, 0), ex_no, ex_no, (.if_icmp .eq 117, 3, 866, 0, 0), ex_no, ex_no, (.iconst 0, 1, 0, 0, 0), (.ireturn, 1, 1, 0, 0), (.aload_n 1, 1, 1, 0, 0), (.aload_n 0, 1, 0, 0, 0), (.iload_n 3, 1, 3, 0, 0), (.iconst 1, 1, 0, 0, 1), (.iadd, 1, 0, 0, 0), (.iaload, 1, 0, 0, 0), (.aload_n 0, 1, 0, 0, 0), (.iload_n 3, 1, 3, 0, 0), (.iconst 2, 1, 0, 0, 2), (.iadd, 1, 0, 0, 0), (.iaload, 1, 0, 0, 0), (.aload_n 0, 1, 0, 0, 0), (.iload_n 3, 1, 3, 0, 0), (.iconst 3, 1, 0, 0, 3), (.iadd, 1, 0, 0, 0), (.iaload, 1, 0, 0, 0), (.invokevirtual 98, 3, 81, 4, 0), ex_no, ex_no, (.aload_n 2, 1, 2, 0, 0), (.aload_n 0, 1, 0, 0, 0), (.iload_n 3, 1, 3, 0, 0), (.iconst 1, 1, 0, 0, 1), (.iadd, 1, 0, 0, 0), (.iaload, 1, 0, 0, 0), (.aload_n 0, 1, 0, 0, 0), (.iload_n 3, 1, 3, 0, 0), (.iconst 2, 1, 0, 0, 2), (.iadd, 1, 0, 0, 0), (.iaload, 1, 0, 0, 0), (.aload_n 0, 1, 0, 0, 0), (.iload_n 3, 1, 3, 0, 0), (.iconst 3, 1, 0, 0, 3), (.iadd, 1, 0, 0, 0), (.iaload, 1, 0, 0, 0), (.invokevirtual 101, 3, 155, 4, 0), ex_no, ex_no, (.if_icmp .eq 74, 3, 866, 0, 0), ex_no, ex_no, (.iconst 0, 1, 0, 0, 0), (.ireturn, 1, 1, 0, 0), (.aload_n 1, 1, 1, 0, 0), (.aload_n 0, 1, 0, 0, 0), (.iload_n 3, 1, 3, 0, 0), (.iconst 1, 1, 0, 0, 1), (.iadd, 1, 0, 0, 0), (.iaload, 1, 0, 0, 0), (.invokevirtual 102, 3, 82, 2, 0), ex_no, ex_no, (.aload_n 2, 1, 2, 0, 0), (.aload_n 0, 1, 0, 0, 0), (.iload_n 3, 1, 3, 0, 0), (.iconst 1, 1, 0, 0, 1), (.iadd, 1, 0, 0, 0), (.iaload, 1, 0, 0, 0), (.invokevirtual 105, 3, 156, 2, 0), ex_no, ex_no, (.if_icmp .eq 51, 3, 866, 0, 0), ex_no, ex_no, (.iconst 0, 1, 0, 0, 0), (.ireturn, 1, 1, 0, 0), (.aload_n 1, 1, 1, 0, 0), (.aload_n 0, 1, 0, 0, 0), (.iload_n 3, 1, 3, 0, 0), (.iconst 1, 1, 0, 0, 1), (.iadd, 1, 0, 0, 0), (.iaload, 1, 0, 0, 0), (.invokevirtual 106, 3, 83, 2, 0), ex_no, ex_no, (.aload_n 2, 1, 2, 0, 0), (.aload_n 0, 1, 0, 0, 0), (.iload_n 3, 1, 3, 0, 0), (.iconst 1, 1, 0, 0, 1), (.iadd, 1, 0, 0, 0), (.iaload, 1, 0, 0, 0), (.invokevirtual 109, 3, 157, 2, 0), ex_no, ex_no, (.if_icmp .eq 28, 3, 866, 0, 0), ex_no, ex_no, (.iconst 0, 1, 0, 0, 0), (.ireturn, 1, 1, 0, 0), (.aload_n 1, 1, 1, 0, 0), (.aload_n 0, 1, 0, 0, 0), (.iload_n 3, 1, 3, 0, 0), (.iconst 1, 1, 0, 0, 1), (.iadd, 1, 0, 0, 0), (.iaload, 1, 0, 0, 0), (.invokevirtual 110, 3, 84, 2, 0), ex_no, ex_no, (.aload_n 2, 1, 2, 0, 0), (.aload_n 0, 1, 0, 0, 0), (.iload_n 3, 1, 3, 0, 0), (.iconst 1, 1, 0, 0, 1), (.iadd, 1, 0, 0, 0), (.iaload, 1, 0, 0, 0), (.invokevirtual 113, 3, 158, 2, 0), ex_no, ex_no, (.if_icmp .eq 5, 3, 866, 0, 0), ex_no, ex_no, (.iconst 0, 1, 0, 0, 0), (.ireturn, 1, 1, 0, 0), (.iinc 3 5, 3, 3, 0, 5), ex_no, ex_no, (.goto (-851), 3, 18, 0, 0), ex_no, ex_no, (.iconst 1, 1, 0, 0, 1), (.ireturn, 1, 1, 0, 0)]
def ex_codes : List (List ex_MO) := [ex_k0, ex_k1, ex_k2, ex_k3, ex_k4, ex_k5, ex_k6, ex_k7, ex_k8, ex_k9, ex_k10, ex_k11, ex_k12, ex_k13, ex_k14, ex_k15, ex_k16, ex_k17, ex_k18, ex_k19, ex_k20, ex_k21, ex_k22, ex_k23, ex_k24, ex_k25, ex_k26, ex_k27, ex_k28, ex_k29, ex_k30, ex_k31, ex_k32, ex_k33, ex_k34, ex_k35, ex_k36, ex_k37, ex_k38, ex_k39, ex_k40, ex_k41, ex_k42, ex_k43, ex_k44, ex_k45, ex_k46, ex_k47, ex_k48, ex_k49, ex_k50, ex_k51, ex_k52, ex_k53, ex_k54, ex_k55, ex_k56, ex_k57, ex_k58, ex_k59, ex_k60, ex_k61, ex_k62, ex_k63, ex_k64, ex_k65, ex_k66, ex_k67, ex_k68, ex_k69, ex_k70, ex_k71, ex_k72, ex_k73, ex_k74, ex_k75, ex_k76, ex_k77, ex_k78, ex_k79, ex_k80, ex_k81, ex_k82, ex_k83, ex_k84, ex_k85, ex_k86, ex_k87, ex_k88, ex_k89, ex_k90, ex_k91, ex_k92, ex_k93, ex_k94, ex_k95, ex_k96, ex_k97, ex_k98, ex_k99, ex_k100, ex_k101, ex_k102, ex_k103, ex_k104, ex_k105, ex_k106, ex_k107, ex_k108, ex_k109, ex_k110, ex_k111, ex_k112, ex_k113, ex_k114, ex_k115, ex_k116, ex_k117, ex_k118, ex_k119, ex_k120, ex_k121, ex_k122, ex_k123, ex_k124, ex_k125, ex_k126, ex_k127, ex_k128, ex_k129, ex_k130, ex_k131, ex_k132, ex_k133, ex_k134, ex_k135, ex_k136, ex_k137, ex_k138, ex_k139, ex_k140, ex_k141, ex_k142, ex_k143, ex_k144, ex_k145, ex_k146, ex_k147, ex_k148, ex_k149, ex_k150, ex_k151, ex_k152, ex_k153, ex_k154, ex_k155, ex_k156, ex_k157, ex_k158, ex_k159, ex_k160, ex_k161]
/-- name, bytes, locals, what it returns, its class (a place in ex_own), arguments, frames, words of locals -/
abbrev ex_MT : Type := MethodName × ByteArray × Nat × Option FieldType × Nat × Nat × Nat × Nat
def ex_mt : List ex_MT := [(yX0_init, cX0_init, 1, none, 0, 1, 1, 20),
  (yX0_add, cX0_add, 6, none, 0, 5, 2, 44),
  (yX0_subtract, cX0_subtract, 6, none, 0, 5, 2, 44),
  (yX0_scale, cX0_scale, 6, none, 0, 5, 2, 44),
  (yX0_turnOver, cX0_turnOver, 5, none, 0, 4, 3, 67),
  (yX0_pile, cX0_pile, 11, none, 0, 5, 4, 98),
  (yX0_close, cX0_close, 6, (some .int), 0, 3, 3, 69),
  (yX0_makeProjector, cX0_makeProjector, 7, none, 0, 4, 5, 128),
  (yX1_init, cX1_init, 3, none, 1, 2, 5, 124),
  (yX1_opposite, cX1_opposite, 2, (some .int), 1, 2, 0, 0),
  (yX1_findHook, cX1_findHook, 3, (some .int), 1, 2, 2, 45),
  (yX1_findWays, cX1_findWays, 7, none, 1, 1, 4, 98),
  (yX1_wayLength, cX1_wayLength, 2, (some .int), 1, 2, 0, 0),
  (yX1_wayHook, cX1_wayHook, 5, (some .int), 1, 3, 0, 0),
  (yX1_through, cX1_through, 4, (some .int), 1, 2, 0, 0),
  (yX1_closedLoops, cX1_closedLoops, 2, (some .int), 1, 2, 2, 48),
  (yX1_turned, cX1_turned, 3, (some .int), 1, 2, 2, 45),
  (yX1_stackDiagram, cX1_stackDiagram, 3, (some .int), 1, 3, 4, 98),
  (yX1_stackLoops, cX1_stackLoops, 3, (some .int), 1, 3, 4, 98),
  (yX1_packedStack, cX1_packedStack, 7, (some .int), 1, 3, 3, 72),
  (yX1_farEnd, cX1_farEnd, 8, (some .int), 1, 4, 1, 21),
  (yX1_loopsBetween, cX1_loopsBetween, 5, (some .int), 1, 3, 2, 48),
  (yX2_closedLoops, cX2_closedLoops, 4, (some .int), 2, 2, 1, 25),
  (yX2_isLeastOfLoop, cX2_isLeastOfLoop, 6, (some .boolean), 2, 3, 0, 0),
  (yX2_leadsAcross, cX2_leadsAcross, 6, (some .boolean), 2, 3, 0, 0),
  (yX2_formNumber, cX2_formNumber, 4, (some .int), 2, 3, 2, 48),
  (yX3_init, cX3_init, 1, none, 3, 1, 1, 20),
  (yX3_tell, cX3_tell, 4, none, 3, 3, 2, 44),
  (yX3_leftOver, cX3_leftOver, 3, (some .int), 3, 2, 0, 0),
  (yX3_add, cX3_add, 3, (some .int), 3, 3, 1, 22),
  (yX3_subtract, cX3_subtract, 3, (some .int), 3, 3, 1, 22),
  (yX3_multiply, cX3_multiply, 3, (some .int), 3, 3, 1, 22),
  (yX3_inverse, cX3_inverse, 3, (some .int), 3, 2, 2, 44),
  (yX3_loopPower, cX3_loopPower, 2, (some .int), 3, 2, 1, 22),
  (yX3_bracketOf, cX3_bracketOf, 6, (some .int), 3, 2, 2, 44),
  (yX3_hasProjector, cX3_hasProjector, 3, (some .boolean), 3, 2, 3, 69),
  (yX4_init, cX4_init, 1, none, 4, 1, 1, 20),
  (yX4_isFull, cX4_isFull, 1, (some .boolean), 4, 1, 0, 0),
  (yX4_add, cX4_add, 2, none, 4, 2, 0, 0),
  (yX4_clear, cX4_clear, 1, none, 4, 1, 0, 0),
  (yX4_diagramFault, cX4_diagramFault, 5, (some .int), 4, 2, 0, 0),
  (yX4_wordFault, cX4_wordFault, 3, (some .int), 4, 2, 1, 22),
  (yX4_figure, cX4_figure, 2, (some .int), 4, 2, 0, 0),
  (yX4_diagramCode, cX4_diagramCode, 3, (some .int), 4, 1, 0, 0),
  (yX5_init, cX5_init, 2, none, 5, 2, 3, 67),
  (yX5_copyFrom, cX5_copyFrom, 3, none, 5, 2, 3, 67),
  (yX5_clearSums, cX5_clearSums, 2, none, 5, 1, 1, 23),
  (yX5_aboveZero, cX5_aboveZero, 7, (some .int), 5, 2, 0, 0),
  (yX6_init, cX6_init, 1, none, 6, 1, 1, 20),
  (yX6_fill, cX6_fill, 5, none, 6, 3, 3, 71),
  (yX6_eliminate, cX6_eliminate, 4, none, 6, 2, 4, 93),
  (yX6_findPivot, cX6_findPivot, 3, (some .int), 6, 2, 0, 0),
  (yX6_swapRows, cX6_swapRows, 4, none, 6, 3, 0, 0),
  (yX6_clearBelow, cX6_clearBelow, 8, none, 6, 3, 3, 66),
  (yX7_init, cX7_init, 5, none, 7, 3, 3, 74),
  (yX7_findCodes, cX7_findCodes, 6, (some .int), 7, 2, 2, 49),
  (yX7_readCode, cX7_readCode, 8, (some .boolean), 7, 3, 1, 22),
  (yX7_join, cX7_join, 3, none, 7, 3, 0, 0),
  (yX7_find, cX7_find, 3, (some .int), 7, 2, 0, 0),
  (yX7_findRow, cX7_findRow, 4, (some .int), 7, 2, 1, 22),
  (yX8_init, cX8_init, 1, none, 8, 1, 6, 146),
  (yX8_strands, cX8_strands, 2, (some .int), 8, 2, 6, 146),
  (yX8_say, cX8_say, 2, (some .int), 8, 2, 1, 22),
  (yX8_wipe, cX8_wipe, 2, (some .int), 8, 1, 1, 20),
  (yX8_fault, cX8_fault, 2, (some .int), 8, 2, 2, 44),
  (yX8_diagram, cX8_diagram, 2, (some .int), 8, 1, 1, 24),
  (yX8_word, cX8_word, 6, (some .int), 8, 2, 5, 120),
  (yX8_of, cX8_of, 3, (some .int), 8, 3, 3, 69),
  (yX8_joined, cX8_joined, 3, (some .int), 8, 3, 2, 43),
  (yX8_stack, cX8_stack, 4, (some .int), 8, 4, 5, 120),
  (yX8_way, cX8_way, 3, (some .int), 8, 3, 2, 43),
  (yX8_prime, cX8_prime, 4, (some .int), 8, 3, 3, 67),
  (yX8_put, cX8_put, 5, (some .int), 8, 4, 2, 43),
  (yX8_at, cX8_at, 3, (some .int), 8, 3, 2, 43),
  (yX8_both, cX8_both, 5, (some .int), 8, 5, 5, 128),
  (yX8_times, cX8_times, 4, (some .int), 8, 4, 3, 69),
  (yX8_turn, cX8_turn, 3, (some .int), 8, 3, 4, 91),
  (yX8_trace, cX8_trace, 2, (some .int), 8, 2, 4, 94),
  (yX8_bracket, cX8_bracket, 2, (some .int), 8, 2, 3, 69),
  (yX8_project, cX8_project, 3, (some .int), 8, 3, 6, 154),
  (yX8_cell, cX8_cell, 4, (some .int), 8, 3, 5, 116),
  (yX8_form, cX8_form, 5, (some .int), 8, 4, 3, 71),
  (yX8_image, cX8_image, 2, (some .int), 8, 2, 4, 89),
  (yX8_restore, cX8_restore, 2, (some .int), 8, 2, 4, 89),
  (yX8_count, cX8_count, 2, (some .int), 8, 2, 0, 0),
  (yX8_isWithin, cX8_isWithin, 3, (some .boolean), 8, 3, 0, 0),
  (yX8_isPrime, cX8_isPrime, 2, (some .boolean), 8, 1, 1, 22),
  (yX8_isDiagram, cX8_isDiagram, 2, (some .boolean), 8, 2, 1, 22),
  (yX8_isSlot, cX8_isSlot, 2, (some .boolean), 8, 2, 1, 22),
  (yX8_isNumber, cX8_isNumber, 2, (some .boolean), 8, 2, 1, 22),
  (yX8_hasHalves, cX8_hasHalves, 2, (some .boolean), 8, 2, 1, 22),
  (yX9_init, cX9_init, 1, none, 9, 1, 5, 113),
  (yX9_in, cX9_in, 3, (some .boolean), 9, 3, 0, 0),
  (yX9_points, cX9_points, 1, (some .int), 9, 1, 0, 0),
  (yX9_layText, cX9_layText, 5, (some .boolean), 9, 2, 1, 20),
  (yX9_textOfRow, cX9_textOfRow, 3, (some .int), 9, 1, 1, 20),
  (yX9_indexOfRow, cX9_indexOfRow, 1, (some .int), 9, 1, 2, 42),
  (yX9_to, cX9_to, 3, (some .int), 9, 3, 0, 0),
  (yX9_across, cX9_across, 2, (some .int), 9, 2, 1, 20),
  (yX9_layDiagrams, cX9_layDiagrams, 3, none, 9, 1, 4, 91),
  (yX9_endFromAbove, cX9_endFromAbove, 7, (some .int), 9, 4, 2, 41),
  (yX9_endFromBelow, cX9_endFromBelow, 6, (some .int), 9, 4, 2, 41),
  (yX9_meetRound, cX9_meetRound, 6, none, 9, 4, 2, 41),
  (yX9_layProduct, cX9_layProduct, 5, none, 9, 3, 3, 67),
  (yX9_isDiagram, cX9_isDiagram, 2, (some .boolean), 9, 2, 1, 22),
  (yX9_isSlot, cX9_isSlot, 1, (some .boolean), 9, 1, 1, 22),
  (yX9_clearSums, cX9_clearSums, 2, none, 9, 1, 0, 0),
  (yX9_strands, cX9_strands, 2, (some .int), 9, 2, 5, 113),
  (yX9_say, cX9_say, 2, (some .int), 9, 2, 1, 22),
  (yX9_wipe, cX9_wipe, 2, (some .int), 9, 1, 0, 0),
  (yX9_diagramFault, cX9_diagramFault, 5, (some .int), 9, 1, 1, 20),
  (yX9_isHook, cX9_isHook, 2, (some .boolean), 9, 2, 1, 22),
  (yX9_wordFault, cX9_wordFault, 2, (some .int), 9, 1, 2, 43),
  (yX9_fault, cX9_fault, 2, (some .int), 9, 2, 3, 64),
  (yX9_diagram, cX9_diagram, 3, (some .int), 9, 1, 2, 44),
  (yX9_joinTwo, cX9_joinTwo, 3, none, 9, 3, 0, 0),
  (yX9_hook, cX9_hook, 3, (some .int), 9, 2, 3, 62),
  (yX9_word, cX9_word, 6, (some .int), 9, 2, 4, 84),
  (yX9_through, cX9_through, 4, (some .int), 9, 2, 1, 22),
  (yX9_closedLoops, cX9_closedLoops, 7, (some .int), 9, 2, 2, 41),
  (yX9_turnedOf, cX9_turnedOf, 3, (some .int), 9, 2, 3, 62),
  (yX9_layWays, cX9_layWays, 5, none, 9, 1, 4, 84),
  (yX9_of, cX9_of, 3, (some .int), 9, 3, 5, 108),
  (yX9_joined, cX9_joined, 3, (some .int), 9, 3, 2, 43),
  (yX9_stack, cX9_stack, 4, (some .int), 9, 4, 2, 43),
  (yX9_way, cX9_way, 4, (some .int), 9, 3, 5, 108),
  (yX9_isPrime, cX9_isPrime, 3, (some .boolean), 9, 1, 1, 22),
  (yX9_isNumber, cX9_isNumber, 2, (some .boolean), 9, 2, 1, 22),
  (yX9_by, cX9_by, 3, (some .int), 9, 2, 0, 0),
  (yX9_loopTimes, cX9_loopTimes, 4, (some .int), 9, 2, 1, 22),
  (yX9_prime, cX9_prime, 4, (some .int), 9, 3, 2, 44),
  (yX9_place, cX9_place, 3, (some .int), 9, 3, 0, 0),
  (yX9_put, cX9_put, 5, (some .int), 9, 4, 2, 43),
  (yX9_at, cX9_at, 3, (some .int), 9, 3, 2, 43),
  (yX9_give, cX9_give, 4, (some .int), 9, 2, 1, 22),
  (yX9_stackSums, cX9_stackSums, 5, none, 9, 1, 2, 45),
  (yX9_both, cX9_both, 6, (some .int), 9, 5, 3, 69),
  (yX9_times, cX9_times, 5, (some .int), 9, 4, 2, 45),
  (yX9_turn, cX9_turn, 4, (some .int), 9, 3, 4, 84),
  (yX9_trace, cX9_trace, 4, (some .int), 9, 2, 3, 67),
  (yX9_bracketOf, cX9_bracketOf, 6, (some .int), 9, 2, 1, 22),
  (yX9_bracket, cX9_bracket, 2, (some .int), 9, 2, 2, 47),
  (yX9_inverse, cX9_inverse, 3, (some .int), 9, 2, 1, 22),
  (yX9_growProjector, cX9_growProjector, 5, none, 9, 2, 4, 84),
  (yX9_project, cX9_project, 4, (some .int), 9, 3, 5, 108),
  (yX9_layHalf, cX9_layHalf, 9, (some .boolean), 9, 3, 0, 0),
  (yX9_layHalves, cX9_layHalves, 5, none, 9, 2, 1, 28),
  (yX9_comesThrough, cX9_comesThrough, 7, (some .boolean), 9, 4, 0, 0),
  (yX9_formOf, cX9_formOf, 7, (some .int), 9, 3, 2, 45),
  (yX9_isCell, cX9_isCell, 2, (some .boolean), 9, 2, 1, 22),
  (yX9_swapRows, cX9_swapRows, 5, none, 9, 3, 1, 22),
  (yX9_rowWith, cX9_rowWith, 4, (some .int), 9, 3, 0, 0),
  (yX9_clearBelow, cX9_clearBelow, 7, none, 9, 3, 2, 44),
  (yX9_layTable, cX9_layTable, 3, none, 9, 1, 3, 71),
  (yX9_cell, cX9_cell, 3, (some .int), 9, 3, 4, 93),
  (yX9_form, cX9_form, 4, (some .int), 9, 4, 3, 71),
  (yX9_image, cX9_image, 3, (some .int), 9, 2, 1, 22),
  (yX9_restore, cX9_restore, 3, (some .int), 9, 2, 5, 113),
  (yX9_count, cX9_count, 2, (some .int), 9, 2, 0, 0),
  (yJ7_fill_53178, cJ7_fill_53178, 4, none, 11, 2, 0, 0),
  (yJ7_copyOf_59c91, cJ7_copyOf_59c91, 3, (some (.array .int)), 11, 2, 1, 26),
  (yL_law, cL_law, 4, (some .boolean), 12, 1, 7, 176)]
def ex_own : List String := [RX0, RX1, RX2, RX3, RX4, RX5, RX6, RX7, RX8, RX9, RJ9, RJ7, RL]
def ex_fl : List (Nat × Nat × Nat × Nat) := [(0, 9, 0, 0), (0, 15, 0, 1), (0, 18, 0, 2), (0, 21, 4, 0), (0, 27, 1, 2), (0, 33, 6, 0), (0, 39, 4, 1), (0, 80, 1, 0), (0, 83, 1, 4), (1, 9, 1, 0), (1, 15, 1, 1), (1, 23, 1, 2), (1, 27, 1, 3), (1, 31, 1, 9), (1, 35, 1, 10), (1, 38, 1, 11), (1, 41, 6, 0), (1, 44, 1, 5), (1, 53, 1, 4), (1, 60, 1, 6), (1, 63, 1, 7), (1, 66, 1, 8), (1, 87, 6, 1), (3, 9, 2, 2), (3, 15, 2, 0), (3, 19, 2, 1), (4, 11, 3, 0), (4, 15, 3, 1), (5, 9, 4, 0), (5, 18, 4, 1), (5, 28, 4, 2), (5, 31, 2, 0), (5, 35, 2, 1), (6, 11, 5, 2), (6, 16, 6, 0), (6, 28, 5, 3), (6, 29, 6, 1), (6, 38, 5, 0), (6, 41, 5, 1), (7, 9, 6, 3), (7, 15, 6, 4), (7, 18, 6, 5), (7, 21, 6, 6), (7, 29, 6, 0), (7, 38, 6, 2), (7, 43, 6, 1), (8, 10, 7, 0), (8, 18, 7, 1), (8, 30, 7, 2), (8, 34, 7, 3), (8, 41, 7, 4), (8, 48, 7, 5), (8, 56, 4, 0), (8, 63, 1, 2), (8, 67, 6, 0), (8, 80, 3, 1), (8, 86, 1, 0), (8, 103, 1, 4), (8, 133, 1, 1), (8, 136, 6, 1), (8, 146, 4, 1), (8, 150, 2, 0), (8, 165, 4, 2), (8, 205, 1, 3), (8, 217, 5, 0), (8, 220, 5, 1), (8, 233, 2, 1), (9, 7, 8, 0), (9, 13, 8, 1), (9, 16, 8, 2), (9, 20, 8, 3), (9, 23, 8, 5), (9, 26, 8, 6), (9, 29, 8, 8), (9, 32, 8, 9), (9, 35, 8, 10), (9, 38, 8, 11), (9, 41, 8, 12), (9, 44, 8, 13), (9, 47, 8, 14), (9, 50, 8, 15), (9, 53, 8, 16), (9, 56, 8, 17), (9, 59, 8, 18), (9, 62, 8, 19), (9, 65, 8, 20), (9, 68, 8, 21), (9, 71, 8, 23), (9, 74, 8, 24), (9, 87, 8, 7), (9, 128, 8, 4), (9, 195, 8, 22), (9, 205, 8, 26), (9, 211, 8, 25)]
def ex_ml : List (Nat × Nat × Nat × Nat) := [(0, 3, 1000, 2), (0, 43, 29, 1), (0, 49, 30, 1), (0, 52, 31, 1), (0, 55, 159, 0), (0, 61, 16, 1), (0, 65, 1001, 0), (0, 71, 19, 1), (0, 74, 33, 1), (0, 77, 15, 1), (0, 86, 5, 1), (0, 90, 34, 1), (0, 93, 32, 1), (0, 96, 3, 1), (0, 100, 2, 1), (1, 3, 1000, 2), (1, 20, 54, 2), (1, 47, 159, 0), (1, 56, 10, 1), (1, 69, 11, 1), (1, 72, 9, 1), (1, 75, 57, 0), (1, 79, 59, 1), (1, 83, 19, 1), (1, 91, 22, 0), (1, 97, 20, 1), (1, 101, 21, 1), (2, 9, 23, 0), (2, 15, 24, 0), (2, 18, 22, 0), (2, 22, 33, 1), (3, 3, 1000, 2), (3, 22, 31, 1), (3, 26, 28, 1), (3, 30, 85, 0), (3, 34, 30, 1), (3, 37, 34, 1), (4, 3, 1000, 2), (4, 19, 85, 0), (5, 3, 1000, 2), (5, 17, 26, 2), (5, 22, 27, 1), (5, 38, 1001, 0), (5, 44, 159, 0), (6, 3, 1000, 2), (6, 22, 1003, 0), (6, 32, 25, 0), (6, 44, 51, 1), (6, 48, 52, 1), (6, 52, 30, 1), (6, 57, 31, 1), (6, 60, 53, 1), (6, 64, 32, 1), (7, 3, 1000, 2), (7, 25, 55, 1), (7, 32, 160, 0), (7, 46, 56, 1), (7, 50, 57, 0), (7, 54, 58, 1), (8, 1, 1000, 2), (8, 9, 36, 2), (8, 22, 8, 2), (8, 27, 44, 2), (8, 40, 0, 2), (8, 47, 48, 2), (8, 52, 85, 0), (8, 60, 46, 1), (8, 73, 37, 1), (8, 77, 38, 1), (8, 83, 39, 1), (8, 89, 40, 1), (8, 93, 41, 1), (8, 96, 43, 1), (8, 100, 58, 1), (8, 107, 42, 1), (8, 110, 18, 1), (8, 114, 17, 1), (8, 117, 87, 1), (8, 121, 14, 1), (8, 124, 15, 1), (8, 127, 16, 1), (8, 130, 12, 1), (8, 140, 13, 1), (8, 143, 86, 0), (8, 155, 27, 1), (8, 159, 88, 1), (8, 162, 89, 1), (8, 168, 1, 1), (8, 171, 47, 1), (8, 174, 2, 1), (8, 177, 5, 1), (8, 180, 3, 1), (8, 184, 4, 1), (8, 188, 6, 1), (8, 192, 34, 1), (8, 195, 35, 1), (8, 198, 7, 1), (8, 202, 90, 1), (8, 209, 49, 1), (8, 213, 50, 1), (8, 223, 25, 0), (8, 229, 45, 1), (9, 1, 1000, 2), (9, 77, 99, 1), (9, 80, 93, 1), (9, 84, 95, 1), (9, 91, 94, 1), (9, 95, 103, 1), (9, 99, 97, 1), (9, 103, 98, 1), (9, 107, 100, 1), (9, 111, 101, 1), (9, 114, 102, 1), (9, 118, 96, 1), (9, 121, 92, 0), (9, 125, 106, 1), (9, 131, 111, 1), (9, 134, 110, 1), (9, 137, 112, 1), (9, 140, 115, 1), (9, 143, 116, 1), (9, 146, 104, 1), (9, 149, 118, 1), (9, 152, 119, 1), (9, 155, 120, 1), (9, 158, 121, 1), (9, 161, 128, 1), (9, 164, 126, 0), (9, 167, 105, 0), (9, 170, 127, 1), (9, 173, 131, 1), (9, 176, 129, 1), (9, 179, 135, 1), (9, 182, 134, 1), (9, 185, 140, 1), (9, 188, 142, 1), (9, 191, 143, 1), (9, 198, 145, 1), (9, 202, 147, 1), (9, 208, 148, 1), (9, 214, 151, 1), (9, 217, 150, 1), (9, 220, 152, 1), (9, 223, 149, 1), (9, 226, 146, 1), (9, 229, 153, 1), (11, 150, 1001, 0), (11, 304, 1003, 0), (11, 316, 1002, 1), (12, 9, 60, 2), (12, 12, 91, 2), (12, 13, 61, 1), (12, 17, 107, 1), (12, 18, 62, 1), (12, 21, 108, 1), (12, 22, 63, 1), (12, 26, 109, 1), (12, 27, 64, 1), (12, 30, 113, 1), (12, 31, 65, 1), (12, 34, 114, 1), (12, 35, 66, 1), (12, 38, 117, 1), (12, 39, 67, 1), (12, 43, 122, 1), (12, 44, 68, 1), (12, 47, 123, 1), (12, 48, 69, 1), (12, 52, 124, 1), (12, 53, 70, 1), (12, 56, 125, 1), (12, 57, 71, 1), (12, 60, 130, 1), (12, 61, 72, 1), (12, 64, 132, 1), (12, 65, 73, 1), (12, 68, 133, 1), (12, 69, 74, 1), (12, 73, 136, 1), (12, 74, 75, 1), (12, 77, 137, 1), (12, 78, 76, 1), (12, 81, 138, 1), (12, 82, 77, 1), (12, 85, 139, 1), (12, 86, 78, 1), (12, 89, 141, 1), (12, 90, 79, 1), (12, 93, 144, 1), (12, 94, 80, 1), (12, 97, 154, 1), (12, 98, 81, 1), (12, 101, 155, 1), (12, 102, 82, 1), (12, 105, 156, 1), (12, 106, 83, 1), (12, 109, 157, 1), (12, 110, 84, 1), (12, 113, 158, 1)]
def ex_cl : List (Nat × Nat × String) := [(1, 18, "LoopStrands$Texts"), (5, 15, "LoopStrands$Numbers"), (5, 26, "[[I"), (6, 9, "[[I"), (7, 41, "[[I"), (8, 7, "LoopStrands$Pad"), (8, 16, "LoopStrands$Diagrams"), (8, 25, "LoopStrands$State"), (8, 38, "LoopStrands$Algebra"), (8, 45, "LoopStrands$Table"), (11, 317, "[I"), (12, 7, "LoopStrands"), (12, 10, "LoopStrandsModel")]
/-- a method's kind: 0 static, 1 one that calls select, 2 a constructor -/
def ex_kds : List Nat := [2, 1, 1, 1, 1, 1, 1, 1, 2, 1, 1, 1, 1, 1, 1, 1, 1, 1, 1, 1, 1, 1, 0, 0, 0, 0, 2, 1, 1, 1, 1, 1, 1, 1, 1, 1, 2, 1, 1, 1, 1, 1, 1, 1, 2, 1, 1, 1, 2, 1, 1, 1, 1, 1, 2, 1, 1, 0, 1, 1, 2, 1, 1, 1, 1, 1, 1, 1, 1, 1, 1, 1, 1, 1, 1, 1, 1, 1, 1, 1, 1, 1, 1, 1, 1, 0, 0, 1, 1, 1, 1, 2, 0, 1, 1, 1, 1, 1, 1, 1, 1, 1, 1, 1, 1, 0, 1, 1, 1, 1, 1, 1, 1, 1, 1, 1, 1, 1, 1, 1, 1, 1, 1, 1, 1, 1, 0, 1, 1, 1, 1, 1, 1, 1, 1, 1, 1, 1, 1, 1, 1, 1, 1, 1, 1, 1, 1, 1, 1, 1, 1, 1, 1, 1, 1, 1, 1, 1, 1, 0, 0, 0]
def ex_kd (y : Nat) : Nat := ex_kds.getD y 9
/-- the place in vwCl of a class of ex_own -/
def ex_vwi : List Nat := [0, 1, 9, 2, 3, 4, 5, 6, 7, 8, 9, 9, 9]
end
section
/-! THE PURE MACHINE: cells are told by small numbers; 0 is the script, 1 the first cell that the law makes, and so on. -/
/-- int[] 0, boolean[] 1, the script 9; rows of references: int[][] 2, Diagrams[] 3, State[] 4, Texts[] 5; an object: its class (a place in vwCl) and its fields -/
abbrev ex_AC : Type := (Nat × Nat × (Nat → Int32)) ⊕ ((Nat × Nat × (Nat → Option Nat)) ⊕ (Nat × List Value))
/-- how many cells, slots; the cells -/
abbrev ex_Hp : Type := Nat × Nat × (Nat → Option ex_AC)
def ex_set (h : ex_Hp) (a : Nat) (c : ex_AC) : ex_Hp := (h.1, h.2.1, fun q => if q = a then some c else h.2.2 q)
def ex_new (h : ex_Hp) (c : ex_AC) (k : Nat) : ex_Hp := (h.1 + 1, h.2.1 + k, fun q => if q = h.1 then some c else h.2.2 q)
def ex_new2 (h : ex_Hp) (N K : Nat) : ex_Hp := (h.1 + 1 + N, h.2.1 + (N + N * K), fun q => if q = h.1 then some (.inr (.inl (2, N, fun i => if i < N then some (h.1 + 1 + i) else none))) else if h.1 < q ∧ q < h.1 + 1 + N then some (.inl (0, K, fun _ => 0)) else h.2.2 q)
def ex_tys : List (Nat → FieldType) := [tyX0, tyX1, tyX3, tyX4, tyX5, tyX6, tyX7, tyX8, tyX9]
def ex_ty (ci k : Nat) : FieldType := (ex_tys.getD ci tyX2) k
def ex_nf (ci : Nat) : Nat := ([3, 12, 3, 2, 3, 4, 7, 6, 27] : List Nat).getD ci 0
def ex_dfl (ci : Nat) : List Value := (List.range (ex_nf ci)).map (fun k => defaultValue (ex_ty ci k))
def ex_fit : FieldType → Value → Bool
  | .int, .int _ => true
  | .object _, .ref _ => true
  | .object _, .null => true
  | .array _, .ref _ => true
  | .array _, .null => true
  | _, _ => false
def ex_cmp (k : Jvm.ClassFile.Cond) (x y : Int32) : Bool := match k with
  | .eq => decide (x = y)
  | .ne => decide (¬ x = y)
  | .lt => decide (x < y)
  | .ge => decide (y ≤ x)
  | .gt => decide (y < x)
  | .le => decide (x ≤ y)
def ex_ari (ins : Instr) (x y : Int32) : Option Int32 := match ins with
  | .iadd => some (x + y)
  | .isub => some (x - y)
  | .imul => some (x * y)
  | .idiv => if y = 0 then none else some (x / y)
  | .irem => if y = 0 then none else some (x - x / y * y)
  | .ishl => some (x <<< (y &&& 31))
  | .ishr => some (x >>> (y &&& 31))
  | .iand => some (x &&& y)
  | .ior => some (x ||| y)
  | _ => none
/-- an index: its place, if it is within -/
def ex_ix (i : Int32) (n : Nat) : Option Nat := if i < 0 ∨ n ≤ i.toNatClampNeg then none else some i.toNatClampNeg
/-- what class an element of a row of references must have -/
def ex_may (t : Nat) (c : ex_AC) : Bool := match c with
  | .inl (u, _, _) => t == 2 && u == 0
  | .inr (.inr (ci, _)) => (t == 3 && ci == 1) || (t == 4 && ci == 4) || (t == 5 && ci == 6)
  | _ => false
/-- how many words a part of the stack has -/
def ex_cat (S : List Value) : Nat := (S.map fun v => v.category).sum
abbrev ex_St : Type := Nat × List Value × List Value × ex_Hp
/-- loads, stores, constants, arithmetic -/
def ex_st1 (ins : Instr) (a : Nat) (v : Int32) (L S : List Value) : Option (List Value × List Value) := match ins with
  | .iconst _ => some (L, .int v :: S)
  | .bipush _ => some (L, .int v :: S)
  | .sipush _ => some (L, .int v :: S)
  | .iload _ => match L[a]? with
    | some (.int x) => some (L, .int x :: S)
    | _ => none
  | .iload_n _ => match L[a]? with
    | some (.int x) => some (L, .int x :: S)
    | _ => none
  | .aload _ => match L[a]? with
    | some (.ref x) => some (L, .ref x :: S)
    | some .null => some (L, .null :: S)
    | _ => none
  | .aload_n _ => match L[a]? with
    | some (.ref x) => some (L, .ref x :: S)
    | some .null => some (L, .null :: S)
    | _ => none
  | .istore _ => match S with
    | .int x :: S' => if a < L.length then some (L.set a (.int x), S') else none
    | _ => none
  | .istore_n _ => match S with
    | .int x :: S' => if a < L.length then some (L.set a (.int x), S') else none
    | _ => none
  | .astore _ => match S with
    | .ref x :: S' => if a < L.length then some (L.set a (.ref x), S') else none
    | .null :: S' => if a < L.length then some (L.set a .null, S') else none
    | _ => none
  | .astore_n _ => match S with
    | .ref x :: S' => if a < L.length then some (L.set a (.ref x), S') else none
    | .null :: S' => if a < L.length then some (L.set a .null, S') else none
    | _ => none
  | .iinc _ _ => match L[a]? with
    | some (.int x) => some (L.set a (.int (x + v)), S)
    | _ => none
  | .ineg => match S with
    | .int x :: S' => some (L, .int (-x) :: S')
    | _ => none
  | .dup => match S with
    | .int x :: S' => some (L, .int x :: .int x :: S')
    | .ref x :: S' => some (L, .ref x :: .ref x :: S')
    | _ => none
  | .pop => match S with
    | .int x :: S' => some (L, S')
    | .ref x :: S' => some (L, S')
    | _ => none
  | _ => match S with
    | .int y :: .int x :: S' => match ex_ari ins x y with
      | some z => some (L, .int z :: S')
      | none => none
    | _ => none
/-- where a branch goes; what is left on the stack -/
def ex_st2 (ins : Instr) (pc len a : Nat) (S : List Value) : Option (Nat × List Value) := match ins with
  | .ifCond k _ => match S with
    | .int x :: S' => some (if ex_cmp k x 0 = true then a else pc + len, S')
    | _ => none
  | .if_icmp k _ => match S with
    | .int y :: .int x :: S' => some (if ex_cmp k x y = true then a else pc + len, S')
    | _ => none
  | .goto _ => some (a, S)
  | .ifnull _ => match S with
    | .null :: S' => some (a, S')
    | .ref _ :: S' => some (pc + len, S')
    | _ => none
  | .ifnonnull _ => match S with
    | .null :: S' => some (pc + len, S')
    | .ref _ :: S' => some (a, S')
    | _ => none
  | .tableswitch _ lo hi offs => match S with
    | .int x :: S' => if x.toInt < lo ∨ hi < x.toInt then some (a, S') else match offs[(x.toInt - lo).toNat]? with
      | some o => some (((pc : Int) + o).toNat, S')
      | none => none
    | _ => none
  | _ => none
/-- reads and writes of cells -/
def ex_st3 (ins : Instr) (a c : Nat) (S : List Value) (h : ex_Hp) : Option (List Value × ex_Hp) := match ins with
  | .getfield _ => match S with
    | .ref o :: S' => match h.2.2 o with
      | some (.inr (.inr (ci, fs))) => if ci = a then match fs[c]? with
        | some v => some (v :: S', h)
        | none => none
        else none
      | _ => none
    | _ => none
  | .putfield _ => match S with
    | v :: .ref o :: S' => match h.2.2 o with
      | some (.inr (.inr (ci, fs))) => if ci = a ∧ ex_fit (ex_ty a c) v = true ∧ c < fs.length then some (S', ex_set h o (.inr (.inr (ci, fs.set c v)))) else none
      | _ => none
    | _ => none
  | .iaload => match S with
    | .int i :: .ref o :: S' => match h.2.2 o with
      | some (.inl (t, n, f)) => if t = 0 ∨ t = 9 then match ex_ix i n with
        | some j => some (.int (f j) :: S', h)
        | none => none
        else none
      | _ => none
    | _ => none
  | .baload => match S with
    | .int i :: .ref o :: S' => match h.2.2 o with
      | some (.inl (t, n, f)) => if t = 1 then match ex_ix i n with
        | some j => some (.int (f j) :: S', h)
        | none => none
        else none
      | _ => none
    | _ => none
  | .iastore => match S with
    | .int x :: .int i :: .ref o :: S' => match h.2.2 o with
      | some (.inl (t, n, f)) => if t = 0 then match ex_ix i n with
        | some j => some (S', ex_set h o (.inl (t, n, upd f j x)))
        | none => none
        else none
      | _ => none
    | _ => none
  | .bastore => match S with
    | .int x :: .int i :: .ref o :: S' => match h.2.2 o with
      | some (.inl (t, n, f)) => if t = 1 ∧ (x = 0 ∨ x = 1) then match ex_ix i n with
        | some j => some (S', ex_set h o (.inl (t, n, upd f j x)))
        | none => none
        else none
      | _ => none
    | _ => none
  | .aaload => match S with
    | .int i :: .ref o :: S' => match h.2.2 o with
      | some (.inr (.inl (t, n, f))) => match ex_ix i n with
        | some j => some (va_rf (f j) :: S', h)
        | none => none
      | _ => none
    | _ => none
  | .aastore => match S with
    | .ref x :: .int i :: .ref o :: S' => match h.2.2 o, h.2.2 x with
      | some (.inr (.inl (t, n, f))), some d => if ex_may t d = true then match ex_ix i n with
        | some j => some (S', ex_set h o (.inr (.inl (t, n, va_up f j (some x)))))
        | none => none
        else none
      | _, _ => none
    | _ => none
  | .arraylength => match S with
    | .ref o :: S' => match h.2.2 o with
      | some (.inl (_, n, _)) => some (.int (Int32.ofNat n) :: S', h)
      | some (.inr (.inl (_, n, _))) => some (.int (Int32.ofNat n) :: S', h)
      | _ => none
    | _ => none
  | .checkcast _ => match S with
    | .ref o :: S' => match h.2.2 o with
      | some (.inl (t, n, f)) => if t = 0 then some (.ref o :: S', h) else none
      | _ => none
    | _ => none
  | _ => none
/-- makings, and calls of what isn't the claim's own -/
def ex_st4 (ins : Instr) (a : Nat) (S : List Value) (h : ex_Hp) : Option (List Value × ex_Hp) := match ins with
  | .new _ => some (.ref h.1 :: S, ex_new h (.inr (.inr (a, ex_dfl a))) (ex_nf a))
  | .newarray _ => match S with
    | .int n :: S' => if n < 0 ∨ 100000 < n.toNatClampNeg then none else some (.ref h.1 :: S', ex_new h (.inl (a, n.toNatClampNeg, fun _ => 0)) n.toNatClampNeg)
    | _ => none
  | .anewarray _ => match S with
    | .int n :: S' => if n < 0 ∨ 100000 < n.toNatClampNeg then none else some (.ref h.1 :: S', ex_new h (.inr (.inl (a, n.toNatClampNeg, fun _ => none))) n.toNatClampNeg)
    | _ => none
  | .multianewarray _ _ => match S with
    | .int k :: .int n :: S' => if n < 0 ∨ 100000 < n.toNatClampNeg ∨ k < 0 ∨ 100000 < k.toNatClampNeg then none else some (.ref h.1 :: S', ex_new2 h n.toNatClampNeg k.toNatClampNeg)
    | _ => none
  | .invokespecial _ => match S with
    | .ref _ :: S' => if ex_cat S' ≤ 8 then some (S', h) else none
    | _ => none
  | .invokestatic _ => if a = 1003 then (match S with
    | .int y :: .int x :: S' => if ex_cat S' ≤ 8 then some (.int (if y < x then y else x) :: S', h) else none
    | _ => none) else match S with
    | .int n :: .int dp :: .ref d :: .int sp :: .ref o :: S' => match h.2.2 o, h.2.2 d with
      | some (.inl (t0, n0, f)), some (.inl (t1, n1, g)) => if ex_cat S' ≤ 8 ∧ t0 = 0 ∧ t1 = 0 ∧ ¬ sp < 0 ∧ ¬ dp < 0 ∧ ¬ n < 0 ∧ sp.toNatClampNeg + n.toNatClampNeg ≤ n0 ∧ dp.toNatClampNeg + n.toNatClampNeg ≤ n1 then
          some (S', ex_set h d (.inl (t1, n1, va_cpy f g sp.toNatClampNeg dp.toNatClampNeg n.toNatClampNeg))) else none
      | _, _ => none
    | _ => none
  | .invokevirtual _ => match S with
    | .ref o :: S' => match h.2.2 o with
      | some (.inl (t, n, f)) => if t = 0 ∧ ex_cat S' ≤ 8 then some (.ref h.1 :: S', ex_new h (.inl (t, n, f)) n) else none
      | _ => none
    | _ => none
  | _ => none
/-- 1 loads and arithmetic, 2 branches, 3 cells, 4 makings, 5 own calls, 6 ends -/
def ex_kind (ins : Instr) (a : Nat) : Nat := match ins with
  | .ifCond _ _ => 2
  | .if_icmp _ _ => 2
  | .goto _ => 2
  | .ifnull _ => 2
  | .ifnonnull _ => 2
  | .tableswitch _ _ _ _ => 2
  | .getfield _ => 3
  | .putfield _ => 3
  | .iaload => 3
  | .baload => 3
  | .iastore => 3
  | .bastore => 3
  | .aaload => 3
  | .aastore => 3
  | .arraylength => 3
  | .checkcast _ => 3
  | .new _ => 4
  | .newarray _ => 4
  | .anewarray _ => 4
  | .multianewarray _ _ => 4
  | .invokespecial _ => if a < 1000 then 5 else 4
  | .invokestatic _ => if a < 1000 then 5 else 4
  | .invokevirtual _ => if a < 1000 then 5 else 4
  | .ireturn => 6
  | .areturn => 6
  | .return_ => 6
  | _ => 1
def ex_mo (y pc : Nat) : ex_MO := (ex_codes.getD y []).getD pc ex_no
def ex_step (y pc : Nat) (L S : List Value) (h : ex_Hp) : Option ex_St :=
  let o := ex_mo y pc
  match ex_kind o.1 o.2.2.1 with
  | 1 => match ex_st1 o.1 o.2.2.1 o.2.2.2.2 L S with
    | some (L', S') => some (pc + o.2.1, L', S', h)
    | none => none
  | 2 => match ex_st2 o.1 pc o.2.1 o.2.2.1 S with
    | some (q, S') => some (q, L, S', h)
    | none => none
  | 3 => match ex_st3 o.1 o.2.2.1 o.2.2.2.1 S h with
    | some (S', h') => some (pc + o.2.1, L, S', h')
    | none => none
  | 4 => match ex_st4 o.1 o.2.2.1 S h with
    | some (S', h') => some (pc + o.2.1, L, S', h')
    | none => none
  | _ => none
/-- what a method hands back -/
def ex_end (y pc : Nat) (S : List Value) : Option (Option Value) :=
  let o := ex_mo y pc
  match o.1 with
  | .ireturn => match S with
    | [.int x] => if o.2.2.1 = 0 ∨ x = 0 ∨ x = 1 then some (some (.int x)) else none
    | _ => none
  | .areturn => match S with
    | [.ref x] => some (some (.ref x))
    | _ => none
  | .return_ => match S with
    | [] => some none
    | _ => none
  | _ => none
def ex_no_mt : ex_MT := (yL_law, cL_law, 4, none, 0, 0, 0, 0)
def ex_m (y : Nat) : ex_MT := ex_mt.getD y ex_no_mt
/-- the locals at a method's entry -/
def ex_in (y : Nat) (args : List Value) : List Value := args ++ List.replicate ((ex_m y).2.2.1 - args.length) (.long 0)
/-- the receiver is of the method's class -/
def ex_recv (y : Nat) (A : List Value) (h : ex_Hp) : Bool := match ex_kd y with
  | 0 => true
  | 1 => match A with
    | .ref o :: _ => match h.2.2 o with
      | some (.inr (.inr (ci, _))) => decide (ci = ex_vwi.getD (ex_m y).2.2.2.2.1 9)
      | _ => false
    | _ => false
  | _ => match A with
    | .ref _ :: _ => true
    | _ => false
def ex_run : Nat → Nat → Nat → List Value → List Value → ex_Hp → Option (Option Value × ex_Hp)
  | 0, _, _, _, _, _ => none
  | n + 1, y, pc, L, S, h =>
    let o := ex_mo y pc
    match ex_kind o.1 o.2.2.1 with
    | 5 => if o.2.2.2.1 ≤ S.length ∧ ex_cat (S.drop o.2.2.2.1) ≤ 8 ∧ (S.take o.2.2.2.1).all (fun v => v.category == 1) = true ∧ ex_recv o.2.2.1 (S.take o.2.2.2.1).reverse h = true then
        match ex_run n o.2.2.1 0 (ex_in o.2.2.1 (S.take o.2.2.2.1).reverse) [] h with
        | some (r, h') => ex_run n y (pc + o.2.1) L (r.toList ++ S.drop o.2.2.2.1) h'
        | none => none
        else none
    | 6 => match ex_end y pc S with
      | some r => some (r, h)
      | none => none
    | _ => match ex_step y pc L S h with
      | some (pc', L', S', h') => ex_run n y pc' L' S' h'
      | none => none
end
section
/-! WHAT THE TABLES SAY, checked by the kernel: the code rows, links, layouts. -/
def ex_wb (w : Jvm.Cond) : Bool := decide (w ∈ lw_tbl) && goodWord w
theorem ex_wb_at {w : Jvm.Cond} (i : Nat) (h : lw_tbl[i]? = some w) (g : goodWord w = true) : w ∈ lw_tbl ∧ goodWord w = true := ⟨List.mem_of_getElem? h, g⟩
theorem ex_wb_of {w : Jvm.Cond} (h : ex_wb w = true) : w ∈ lw_tbl ∧ goodWord w = true := by
  unfold ex_wb at h
  rw [Bool.and_eq_true, decide_eq_true_eq] at h
  exact h
def ex_T (ci : Nat) : vw_C := vwCl.getD ci ("", TX2, 0)
def ex_o (k : Nat) : String := ex_own.getD k ""
abbrev ex_nm (y : Nat) : MethodName := (ex_m y).1
abbrev ex_by (y : Nat) : ByteArray := (ex_m y).2.1
abbrev ex_mL (y : Nat) : Nat := (ex_m y).2.2.1
abbrev ex_rt (y : Nat) : Option FieldType := (ex_m y).2.2.2.1
abbrev ex_ow (y : Nat) : Nat := (ex_m y).2.2.2.2.1
abbrev ex_na (y : Nat) : Nat := (ex_m y).2.2.2.2.2.1
abbrev ex_fr (y : Nat) : Nat := (ex_m y).2.2.2.2.2.2.1
abbrev ex_lo (y : Nat) : Nat := (ex_m y).2.2.2.2.2.2.2
def ex_nest : List Jvm.Cond := [.methodLinkNest RX5 17 yX3_init RX8, .methodLinkNest RX4 19 yX8_isWithin RX8, .methodLinkNest RX3 30 yX8_isWithin RX8, .methodLinkNest RX8 47 yX6_init RX8, .methodLinkNest RX8 40 yX0_init RX8, .methodLinkNest RX8 9 yX4_init RX8]
set_option maxRecDepth 100000 in
theorem ex_ci_0 : lw_tbl[310]? = some (Jvm.Cond.code (ex_nm 0) (ex_by 0) (ex_mL 0) (ex_rt 0)) := rfl
set_option maxRecDepth 100000 in
theorem ex_ci_1 : lw_tbl[504]? = some (Jvm.Cond.code (ex_nm 1) (ex_by 1) (ex_mL 1) (ex_rt 1)) := rfl
set_option maxRecDepth 100000 in
theorem ex_ci_2 : lw_tbl[516]? = some (Jvm.Cond.code (ex_nm 2) (ex_by 2) (ex_mL 2) (ex_rt 2)) := rfl
set_option maxRecDepth 100000 in
theorem ex_ci_3 : lw_tbl[541]? = some (Jvm.Cond.code (ex_nm 3) (ex_by 3) (ex_mL 3) (ex_rt 3)) := rfl
set_option maxRecDepth 100000 in
theorem ex_ci_4 : lw_tbl[549]? = some (Jvm.Cond.code (ex_nm 4) (ex_by 4) (ex_mL 4) (ex_rt 4)) := rfl
set_option maxRecDepth 100000 in
theorem ex_ci_5 : lw_tbl[524]? = some (Jvm.Cond.code (ex_nm 5) (ex_by 5) (ex_mL 5) (ex_rt 5)) := rfl
set_option maxRecDepth 100000 in
theorem ex_ci_6 : lw_tbl[558]? = some (Jvm.Cond.code (ex_nm 6) (ex_by 6) (ex_mL 6) (ex_rt 6)) := rfl
set_option maxRecDepth 100000 in
theorem ex_ci_7 : lw_tbl[581]? = some (Jvm.Cond.code (ex_nm 7) (ex_by 7) (ex_mL 7) (ex_rt 7)) := rfl
set_option maxRecDepth 100000 in
theorem ex_ci_8 : lw_tbl[97]? = some (Jvm.Cond.code (ex_nm 8) (ex_by 8) (ex_mL 8) (ex_rt 8)) := rfl
set_option maxRecDepth 100000 in
theorem ex_ci_9 : lw_tbl[174]? = some (Jvm.Cond.code (ex_nm 9) (ex_by 9) (ex_mL 9) (ex_rt 9)) := rfl
set_option maxRecDepth 100000 in
theorem ex_ci_10 : lw_tbl[170]? = some (Jvm.Cond.code (ex_nm 10) (ex_by 10) (ex_mL 10) (ex_rt 10)) := rfl
set_option maxRecDepth 100000 in
theorem ex_ci_11 : lw_tbl[187]? = some (Jvm.Cond.code (ex_nm 11) (ex_by 11) (ex_mL 11) (ex_rt 11)) := rfl
set_option maxRecDepth 100000 in
theorem ex_ci_12 : lw_tbl[456]? = some (Jvm.Cond.code (ex_nm 12) (ex_by 12) (ex_mL 12) (ex_rt 12)) := rfl
set_option maxRecDepth 100000 in
theorem ex_ci_13 : lw_tbl[472]? = some (Jvm.Cond.code (ex_nm 13) (ex_by 13) (ex_mL 13) (ex_rt 13)) := rfl
set_option maxRecDepth 100000 in
theorem ex_ci_14 : lw_tbl[444]? = some (Jvm.Cond.code (ex_nm 14) (ex_by 14) (ex_mL 14) (ex_rt 14)) := rfl
set_option maxRecDepth 100000 in
theorem ex_ci_15 : lw_tbl[448]? = some (Jvm.Cond.code (ex_nm 15) (ex_by 15) (ex_mL 15) (ex_rt 15)) := rfl
set_option maxRecDepth 100000 in
theorem ex_ci_16 : lw_tbl[452]? = some (Jvm.Cond.code (ex_nm 16) (ex_by 16) (ex_mL 16) (ex_rt 16)) := rfl
set_option maxRecDepth 100000 in
theorem ex_ci_17 : lw_tbl[432]? = some (Jvm.Cond.code (ex_nm 17) (ex_by 17) (ex_mL 17) (ex_rt 17)) := rfl
set_option maxRecDepth 100000 in
theorem ex_ci_18 : lw_tbl[428]? = some (Jvm.Cond.code (ex_nm 18) (ex_by 18) (ex_mL 18) (ex_rt 18)) := rfl
set_option maxRecDepth 100000 in
theorem ex_ci_19 : lw_tbl[191]? = some (Jvm.Cond.code (ex_nm 19) (ex_by 19) (ex_mL 19) (ex_rt 19)) := rfl
set_option maxRecDepth 100000 in
theorem ex_ci_20 : lw_tbl[195]? = some (Jvm.Cond.code (ex_nm 20) (ex_by 20) (ex_mL 20) (ex_rt 20)) := rfl
set_option maxRecDepth 100000 in
theorem ex_ci_21 : lw_tbl[199]? = some (Jvm.Cond.code (ex_nm 21) (ex_by 21) (ex_mL 21) (ex_rt 21)) := rfl
set_option maxRecDepth 100000 in
theorem ex_ci_22 : lw_tbl[202]? = some (Jvm.Cond.code (ex_nm 22) (ex_by 22) (ex_mL 22) (ex_rt 22)) := rfl
set_option maxRecDepth 100000 in
theorem ex_ci_23 : lw_tbl[205]? = some (Jvm.Cond.code (ex_nm 23) (ex_by 23) (ex_mL 23) (ex_rt 23)) := rfl
set_option maxRecDepth 100000 in
theorem ex_ci_24 : lw_tbl[608]? = some (Jvm.Cond.code (ex_nm 24) (ex_by 24) (ex_mL 24) (ex_rt 24)) := rfl
set_option maxRecDepth 100000 in
theorem ex_ci_25 : lw_tbl[605]? = some (Jvm.Cond.code (ex_nm 25) (ex_by 25) (ex_mL 25) (ex_rt 25)) := rfl
set_option maxRecDepth 100000 in
theorem ex_ci_26 : lw_tbl[261]? = some (Jvm.Cond.code (ex_nm 26) (ex_by 26) (ex_mL 26) (ex_rt 26)) := rfl
set_option maxRecDepth 100000 in
theorem ex_ci_27 : lw_tbl[280]? = some (Jvm.Cond.code (ex_nm 27) (ex_by 27) (ex_mL 27) (ex_rt 27)) := rfl
set_option maxRecDepth 100000 in
theorem ex_ci_28 : lw_tbl[288]? = some (Jvm.Cond.code (ex_nm 28) (ex_by 28) (ex_mL 28) (ex_rt 28)) := rfl
set_option maxRecDepth 100000 in
theorem ex_ci_29 : lw_tbl[508]? = some (Jvm.Cond.code (ex_nm 29) (ex_by 29) (ex_mL 29) (ex_rt 29)) := rfl
set_option maxRecDepth 100000 in
theorem ex_ci_30 : lw_tbl[520]? = some (Jvm.Cond.code (ex_nm 30) (ex_by 30) (ex_mL 30) (ex_rt 30)) := rfl
set_option maxRecDepth 100000 in
theorem ex_ci_31 : lw_tbl[284]? = some (Jvm.Cond.code (ex_nm 31) (ex_by 31) (ex_mL 31) (ex_rt 31)) := rfl
set_option maxRecDepth 100000 in
theorem ex_ci_32 : lw_tbl[587]? = some (Jvm.Cond.code (ex_nm 32) (ex_by 32) (ex_mL 32) (ex_rt 32)) := rfl
set_option maxRecDepth 100000 in
theorem ex_ci_33 : lw_tbl[530]? = some (Jvm.Cond.code (ex_nm 33) (ex_by 33) (ex_mL 33) (ex_rt 33)) := rfl
set_option maxRecDepth 100000 in
theorem ex_ci_34 : lw_tbl[567]? = some (Jvm.Cond.code (ex_nm 34) (ex_by 34) (ex_mL 34) (ex_rt 34)) := rfl
set_option maxRecDepth 100000 in
theorem ex_ci_35 : lw_tbl[576]? = some (Jvm.Cond.code (ex_nm 35) (ex_by 35) (ex_mL 35) (ex_rt 35)) := rfl
set_option maxRecDepth 100000 in
theorem ex_ci_36 : lw_tbl[81]? = some (Jvm.Cond.code (ex_nm 36) (ex_by 36) (ex_mL 36) (ex_rt 36)) := rfl
set_option maxRecDepth 100000 in
theorem ex_ci_37 : lw_tbl[382]? = some (Jvm.Cond.code (ex_nm 37) (ex_by 37) (ex_mL 37) (ex_rt 37)) := rfl
set_option maxRecDepth 100000 in
theorem ex_ci_38 : lw_tbl[386]? = some (Jvm.Cond.code (ex_nm 38) (ex_by 38) (ex_mL 38) (ex_rt 38)) := rfl
set_option maxRecDepth 100000 in
theorem ex_ci_39 : lw_tbl[394]? = some (Jvm.Cond.code (ex_nm 39) (ex_by 39) (ex_mL 39) (ex_rt 39)) := rfl
set_option maxRecDepth 100000 in
theorem ex_ci_40 : lw_tbl[402]? = some (Jvm.Cond.code (ex_nm 40) (ex_by 40) (ex_mL 40) (ex_rt 40)) := rfl
set_option maxRecDepth 100000 in
theorem ex_ci_41 : lw_tbl[406]? = some (Jvm.Cond.code (ex_nm 41) (ex_by 41) (ex_mL 41) (ex_rt 41)) := rfl
set_option maxRecDepth 100000 in
theorem ex_ci_42 : lw_tbl[424]? = some (Jvm.Cond.code (ex_nm 42) (ex_by 42) (ex_mL 42) (ex_rt 42)) := rfl
set_option maxRecDepth 100000 in
theorem ex_ci_43 : lw_tbl[415]? = some (Jvm.Cond.code (ex_nm 43) (ex_by 43) (ex_mL 43) (ex_rt 43)) := rfl
set_option maxRecDepth 100000 in
theorem ex_ci_44 : lw_tbl[255]? = some (Jvm.Cond.code (ex_nm 44) (ex_by 44) (ex_mL 44) (ex_rt 44)) := rfl
set_option maxRecDepth 100000 in
theorem ex_ci_45 : lw_tbl[642]? = some (Jvm.Cond.code (ex_nm 45) (ex_by 45) (ex_mL 45) (ex_rt 45)) := rfl
set_option maxRecDepth 100000 in
theorem ex_ci_46 : lw_tbl[373]? = some (Jvm.Cond.code (ex_nm 46) (ex_by 46) (ex_mL 46) (ex_rt 46)) := rfl
set_option maxRecDepth 100000 in
theorem ex_ci_47 : lw_tbl[512]? = some (Jvm.Cond.code (ex_nm 47) (ex_by 47) (ex_mL 47) (ex_rt 47)) := rfl
set_option maxRecDepth 100000 in
theorem ex_ci_48 : lw_tbl[326]? = some (Jvm.Cond.code (ex_nm 48) (ex_by 48) (ex_mL 48) (ex_rt 48)) := rfl
set_option maxRecDepth 100000 in
theorem ex_ci_49 : lw_tbl[601]? = some (Jvm.Cond.code (ex_nm 49) (ex_by 49) (ex_mL 49) (ex_rt 49)) := rfl
set_option maxRecDepth 100000 in
theorem ex_ci_50 : lw_tbl[614]? = some (Jvm.Cond.code (ex_nm 50) (ex_by 50) (ex_mL 50) (ex_rt 50)) := rfl
set_option maxRecDepth 100000 in
theorem ex_ci_51 : lw_tbl[618]? = some (Jvm.Cond.code (ex_nm 51) (ex_by 51) (ex_mL 51) (ex_rt 51)) := rfl
set_option maxRecDepth 100000 in
theorem ex_ci_52 : lw_tbl[622]? = some (Jvm.Cond.code (ex_nm 52) (ex_by 52) (ex_mL 52) (ex_rt 52)) := rfl
set_option maxRecDepth 100000 in
theorem ex_ci_53 : lw_tbl[628]? = some (Jvm.Cond.code (ex_nm 53) (ex_by 53) (ex_mL 53) (ex_rt 53)) := rfl
set_option maxRecDepth 100000 in
theorem ex_ci_54 : lw_tbl[103]? = some (Jvm.Cond.code (ex_nm 54) (ex_by 54) (ex_mL 54) (ex_rt 54)) := rfl
set_option maxRecDepth 100000 in
theorem ex_ci_55 : lw_tbl[108]? = some (Jvm.Cond.code (ex_nm 55) (ex_by 55) (ex_mL 55) (ex_rt 55)) := rfl
set_option maxRecDepth 100000 in
theorem ex_ci_56 : lw_tbl[112]? = some (Jvm.Cond.code (ex_nm 56) (ex_by 56) (ex_mL 56) (ex_rt 56)) := rfl
set_option maxRecDepth 100000 in
theorem ex_ci_57 : lw_tbl[115]? = some (Jvm.Cond.code (ex_nm 57) (ex_by 57) (ex_mL 57) (ex_rt 57)) := rfl
set_option maxRecDepth 100000 in
theorem ex_ci_58 : lw_tbl[183]? = some (Jvm.Cond.code (ex_nm 58) (ex_by 58) (ex_mL 58) (ex_rt 58)) := rfl
set_option maxRecDepth 100000 in
theorem ex_ci_59 : lw_tbl[179]? = some (Jvm.Cond.code (ex_nm 59) (ex_by 59) (ex_mL 59) (ex_rt 59)) := rfl
set_option maxRecDepth 100000 in
theorem ex_ci_60 : lw_tbl[73]? = some (Jvm.Cond.code (ex_nm 60) (ex_by 60) (ex_mL 60) (ex_rt 60)) := rfl
set_option maxRecDepth 100000 in
theorem ex_ci_61 : lw_tbl[366]? = some (Jvm.Cond.code (ex_nm 61) (ex_by 61) (ex_mL 61) (ex_rt 61)) := rfl
set_option maxRecDepth 100000 in
theorem ex_ci_62 : lw_tbl[378]? = some (Jvm.Cond.code (ex_nm 62) (ex_by 62) (ex_mL 62) (ex_rt 62)) := rfl
set_option maxRecDepth 100000 in
theorem ex_ci_63 : lw_tbl[390]? = some (Jvm.Cond.code (ex_nm 63) (ex_by 63) (ex_mL 63) (ex_rt 63)) := rfl
set_option maxRecDepth 100000 in
theorem ex_ci_64 : lw_tbl[398]? = some (Jvm.Cond.code (ex_nm 64) (ex_by 64) (ex_mL 64) (ex_rt 64)) := rfl
set_option maxRecDepth 100000 in
theorem ex_ci_65 : lw_tbl[411]? = some (Jvm.Cond.code (ex_nm 65) (ex_by 65) (ex_mL 65) (ex_rt 65)) := rfl
set_option maxRecDepth 100000 in
theorem ex_ci_66 : lw_tbl[420]? = some (Jvm.Cond.code (ex_nm 66) (ex_by 66) (ex_mL 66) (ex_rt 66)) := rfl
set_option maxRecDepth 100000 in
theorem ex_ci_67 : lw_tbl[436]? = some (Jvm.Cond.code (ex_nm 67) (ex_by 67) (ex_mL 67) (ex_rt 67)) := rfl
set_option maxRecDepth 100000 in
theorem ex_ci_68 : lw_tbl[460]? = some (Jvm.Cond.code (ex_nm 68) (ex_by 68) (ex_mL 68) (ex_rt 68)) := rfl
set_option maxRecDepth 100000 in
theorem ex_ci_69 : lw_tbl[464]? = some (Jvm.Cond.code (ex_nm 69) (ex_by 69) (ex_mL 69) (ex_rt 69)) := rfl
set_option maxRecDepth 100000 in
theorem ex_ci_70 : lw_tbl[468]? = some (Jvm.Cond.code (ex_nm 70) (ex_by 70) (ex_mL 70) (ex_rt 70)) := rfl
set_option maxRecDepth 100000 in
theorem ex_ci_71 : lw_tbl[476]? = some (Jvm.Cond.code (ex_nm 71) (ex_by 71) (ex_mL 71) (ex_rt 71)) := rfl
set_option maxRecDepth 100000 in
theorem ex_ci_72 : lw_tbl[484]? = some (Jvm.Cond.code (ex_nm 72) (ex_by 72) (ex_mL 72) (ex_rt 72)) := rfl
set_option maxRecDepth 100000 in
theorem ex_ci_73 : lw_tbl[496]? = some (Jvm.Cond.code (ex_nm 73) (ex_by 73) (ex_mL 73) (ex_rt 73)) := rfl
set_option maxRecDepth 100000 in
theorem ex_ci_74 : lw_tbl[500]? = some (Jvm.Cond.code (ex_nm 74) (ex_by 74) (ex_mL 74) (ex_rt 74)) := rfl
set_option maxRecDepth 100000 in
theorem ex_ci_75 : lw_tbl[537]? = some (Jvm.Cond.code (ex_nm 75) (ex_by 75) (ex_mL 75) (ex_rt 75)) := rfl
set_option maxRecDepth 100000 in
theorem ex_ci_76 : lw_tbl[545]? = some (Jvm.Cond.code (ex_nm 76) (ex_by 76) (ex_mL 76) (ex_rt 76)) := rfl
set_option maxRecDepth 100000 in
theorem ex_ci_77 : lw_tbl[554]? = some (Jvm.Cond.code (ex_nm 77) (ex_by 77) (ex_mL 77) (ex_rt 77)) := rfl
set_option maxRecDepth 100000 in
theorem ex_ci_78 : lw_tbl[563]? = some (Jvm.Cond.code (ex_nm 78) (ex_by 78) (ex_mL 78) (ex_rt 78)) := rfl
set_option maxRecDepth 100000 in
theorem ex_ci_79 : lw_tbl[572]? = some (Jvm.Cond.code (ex_nm 79) (ex_by 79) (ex_mL 79) (ex_rt 79)) := rfl
set_option maxRecDepth 100000 in
theorem ex_ci_80 : lw_tbl[593]? = some (Jvm.Cond.code (ex_nm 80) (ex_by 80) (ex_mL 80) (ex_rt 80)) := rfl
set_option maxRecDepth 100000 in
theorem ex_ci_81 : lw_tbl[633]? = some (Jvm.Cond.code (ex_nm 81) (ex_by 81) (ex_mL 81) (ex_rt 81)) := rfl
set_option maxRecDepth 100000 in
theorem ex_ci_82 : lw_tbl[638]? = some (Jvm.Cond.code (ex_nm 82) (ex_by 82) (ex_mL 82) (ex_rt 82)) := rfl
set_option maxRecDepth 100000 in
theorem ex_ci_83 : lw_tbl[647]? = some (Jvm.Cond.code (ex_nm 83) (ex_by 83) (ex_mL 83) (ex_rt 83)) := rfl
set_option maxRecDepth 100000 in
theorem ex_ci_84 : lw_tbl[651]? = some (Jvm.Cond.code (ex_nm 84) (ex_by 84) (ex_mL 84) (ex_rt 84)) := rfl
set_option maxRecDepth 100000 in
theorem ex_ci_85 : lw_tbl[369]? = some (Jvm.Cond.code (ex_nm 85) (ex_by 85) (ex_mL 85) (ex_rt 85)) := rfl
set_option maxRecDepth 100000 in
theorem ex_ci_86 : lw_tbl[479]? = some (Jvm.Cond.code (ex_nm 86) (ex_by 86) (ex_mL 86) (ex_rt 86)) := rfl
set_option maxRecDepth 100000 in
theorem ex_ci_87 : lw_tbl[440]? = some (Jvm.Cond.code (ex_nm 87) (ex_by 87) (ex_mL 87) (ex_rt 87)) := rfl
set_option maxRecDepth 100000 in
theorem ex_ci_88 : lw_tbl[488]? = some (Jvm.Cond.code (ex_nm 88) (ex_by 88) (ex_mL 88) (ex_rt 88)) := rfl
set_option maxRecDepth 100000 in
theorem ex_ci_89 : lw_tbl[492]? = some (Jvm.Cond.code (ex_nm 89) (ex_by 89) (ex_mL 89) (ex_rt 89)) := rfl
set_option maxRecDepth 100000 in
theorem ex_ci_90 : lw_tbl[597]? = some (Jvm.Cond.code (ex_nm 90) (ex_by 90) (ex_mL 90) (ex_rt 90)) := rfl
set_option maxRecDepth 100000 in
theorem ex_ci_91 : lw_tbl[656]? = some (Jvm.Cond.code (ex_nm 91) (ex_by 91) (ex_mL 91) (ex_rt 91)) := rfl
set_option maxRecDepth 100000 in
theorem ex_ci_92 : lw_tbl[791]? = some (Jvm.Cond.code (ex_nm 92) (ex_by 92) (ex_mL 92) (ex_rt 92)) := rfl
set_option maxRecDepth 100000 in
theorem ex_ci_93 : lw_tbl[665]? = some (Jvm.Cond.code (ex_nm 93) (ex_by 93) (ex_mL 93) (ex_rt 93)) := rfl
set_option maxRecDepth 100000 in
theorem ex_ci_94 : lw_tbl[669]? = some (Jvm.Cond.code (ex_nm 94) (ex_by 94) (ex_mL 94) (ex_rt 94)) := rfl
set_option maxRecDepth 100000 in
theorem ex_ci_95 : lw_tbl[701]? = some (Jvm.Cond.code (ex_nm 95) (ex_by 95) (ex_mL 95) (ex_rt 95)) := rfl
set_option maxRecDepth 100000 in
theorem ex_ci_96 : lw_tbl[697]? = some (Jvm.Cond.code (ex_nm 96) (ex_by 96) (ex_mL 96) (ex_rt 96)) := rfl
set_option maxRecDepth 100000 in
theorem ex_ci_97 : lw_tbl[681]? = some (Jvm.Cond.code (ex_nm 97) (ex_by 97) (ex_mL 97) (ex_rt 97)) := rfl
set_option maxRecDepth 100000 in
theorem ex_ci_98 : lw_tbl[685]? = some (Jvm.Cond.code (ex_nm 98) (ex_by 98) (ex_mL 98) (ex_rt 98)) := rfl
set_option maxRecDepth 100000 in
theorem ex_ci_99 : lw_tbl[661]? = some (Jvm.Cond.code (ex_nm 99) (ex_by 99) (ex_mL 99) (ex_rt 99)) := rfl
set_option maxRecDepth 100000 in
theorem ex_ci_100 : lw_tbl[677]? = some (Jvm.Cond.code (ex_nm 100) (ex_by 100) (ex_mL 100) (ex_rt 100)) := rfl
set_option maxRecDepth 100000 in
theorem ex_ci_101 : lw_tbl[689]? = some (Jvm.Cond.code (ex_nm 101) (ex_by 101) (ex_mL 101) (ex_rt 101)) := rfl
set_option maxRecDepth 100000 in
theorem ex_ci_102 : lw_tbl[693]? = some (Jvm.Cond.code (ex_nm 102) (ex_by 102) (ex_mL 102) (ex_rt 102)) := rfl
set_option maxRecDepth 100000 in
theorem ex_ci_103 : lw_tbl[673]? = some (Jvm.Cond.code (ex_nm 103) (ex_by 103) (ex_mL 103) (ex_rt 103)) := rfl
set_option maxRecDepth 100000 in
theorem ex_ci_104 : lw_tbl[843]? = some (Jvm.Cond.code (ex_nm 104) (ex_by 104) (ex_mL 104) (ex_rt 104)) := rfl
set_option maxRecDepth 100000 in
theorem ex_ci_105 : lw_tbl[885]? = some (Jvm.Cond.code (ex_nm 105) (ex_by 105) (ex_mL 105) (ex_rt 105)) := rfl
set_option maxRecDepth 100000 in
theorem ex_ci_106 : lw_tbl[795]? = some (Jvm.Cond.code (ex_nm 106) (ex_by 106) (ex_mL 106) (ex_rt 106)) := rfl
set_option maxRecDepth 100000 in
theorem ex_ci_107 : lw_tbl[788]? = some (Jvm.Cond.code (ex_nm 107) (ex_by 107) (ex_mL 107) (ex_rt 107)) := rfl
set_option maxRecDepth 100000 in
theorem ex_ci_108 : lw_tbl[799]? = some (Jvm.Cond.code (ex_nm 108) (ex_by 108) (ex_mL 108) (ex_rt 108)) := rfl
set_option maxRecDepth 100000 in
theorem ex_ci_109 : lw_tbl[803]? = some (Jvm.Cond.code (ex_nm 109) (ex_by 109) (ex_mL 109) (ex_rt 109)) := rfl
set_option maxRecDepth 100000 in
theorem ex_ci_110 : lw_tbl[811]? = some (Jvm.Cond.code (ex_nm 110) (ex_by 110) (ex_mL 110) (ex_rt 110)) := rfl
set_option maxRecDepth 100000 in
theorem ex_ci_111 : lw_tbl[819]? = some (Jvm.Cond.code (ex_nm 111) (ex_by 111) (ex_mL 111) (ex_rt 111)) := rfl
set_option maxRecDepth 100000 in
theorem ex_ci_112 : lw_tbl[815]? = some (Jvm.Cond.code (ex_nm 112) (ex_by 112) (ex_mL 112) (ex_rt 112)) := rfl
set_option maxRecDepth 100000 in
theorem ex_ci_113 : lw_tbl[807]? = some (Jvm.Cond.code (ex_nm 113) (ex_by 113) (ex_mL 113) (ex_rt 113)) := rfl
set_option maxRecDepth 100000 in
theorem ex_ci_114 : lw_tbl[823]? = some (Jvm.Cond.code (ex_nm 114) (ex_by 114) (ex_mL 114) (ex_rt 114)) := rfl
set_option maxRecDepth 100000 in
theorem ex_ci_115 : lw_tbl[835]? = some (Jvm.Cond.code (ex_nm 115) (ex_by 115) (ex_mL 115) (ex_rt 115)) := rfl
set_option maxRecDepth 100000 in
theorem ex_ci_116 : lw_tbl[831]? = some (Jvm.Cond.code (ex_nm 116) (ex_by 116) (ex_mL 116) (ex_rt 116)) := rfl
set_option maxRecDepth 100000 in
theorem ex_ci_117 : lw_tbl[827]? = some (Jvm.Cond.code (ex_nm 117) (ex_by 117) (ex_mL 117) (ex_rt 117)) := rfl
set_option maxRecDepth 100000 in
theorem ex_ci_118 : lw_tbl[847]? = some (Jvm.Cond.code (ex_nm 118) (ex_by 118) (ex_mL 118) (ex_rt 118)) := rfl
set_option maxRecDepth 100000 in
theorem ex_ci_119 : lw_tbl[851]? = some (Jvm.Cond.code (ex_nm 119) (ex_by 119) (ex_mL 119) (ex_rt 119)) := rfl
set_option maxRecDepth 100000 in
theorem ex_ci_120 : lw_tbl[855]? = some (Jvm.Cond.code (ex_nm 120) (ex_by 120) (ex_mL 120) (ex_rt 120)) := rfl
set_option maxRecDepth 100000 in
theorem ex_ci_121 : lw_tbl[859]? = some (Jvm.Cond.code (ex_nm 121) (ex_by 121) (ex_mL 121) (ex_rt 121)) := rfl
set_option maxRecDepth 100000 in
theorem ex_ci_122 : lw_tbl[839]? = some (Jvm.Cond.code (ex_nm 122) (ex_by 122) (ex_mL 122) (ex_rt 122)) := rfl
set_option maxRecDepth 100000 in
theorem ex_ci_123 : lw_tbl[863]? = some (Jvm.Cond.code (ex_nm 123) (ex_by 123) (ex_mL 123) (ex_rt 123)) := rfl
set_option maxRecDepth 100000 in
theorem ex_ci_124 : lw_tbl[867]? = some (Jvm.Cond.code (ex_nm 124) (ex_by 124) (ex_mL 124) (ex_rt 124)) := rfl
set_option maxRecDepth 100000 in
theorem ex_ci_125 : lw_tbl[871]? = some (Jvm.Cond.code (ex_nm 125) (ex_by 125) (ex_mL 125) (ex_rt 125)) := rfl
set_option maxRecDepth 100000 in
theorem ex_ci_126 : lw_tbl[878]? = some (Jvm.Cond.code (ex_nm 126) (ex_by 126) (ex_mL 126) (ex_rt 126)) := rfl
set_option maxRecDepth 100000 in
theorem ex_ci_127 : lw_tbl[889]? = some (Jvm.Cond.code (ex_nm 127) (ex_by 127) (ex_mL 127) (ex_rt 127)) := rfl
set_option maxRecDepth 100000 in
theorem ex_ci_128 : lw_tbl[905]? = some (Jvm.Cond.code (ex_nm 128) (ex_by 128) (ex_mL 128) (ex_rt 128)) := rfl
set_option maxRecDepth 100000 in
theorem ex_ci_129 : lw_tbl[913]? = some (Jvm.Cond.code (ex_nm 129) (ex_by 129) (ex_mL 129) (ex_rt 129)) := rfl
set_option maxRecDepth 100000 in
theorem ex_ci_130 : lw_tbl[875]? = some (Jvm.Cond.code (ex_nm 130) (ex_by 130) (ex_mL 130) (ex_rt 130)) := rfl
set_option maxRecDepth 100000 in
theorem ex_ci_131 : lw_tbl[893]? = some (Jvm.Cond.code (ex_nm 131) (ex_by 131) (ex_mL 131) (ex_rt 131)) := rfl
set_option maxRecDepth 100000 in
theorem ex_ci_132 : lw_tbl[882]? = some (Jvm.Cond.code (ex_nm 132) (ex_by 132) (ex_mL 132) (ex_rt 132)) := rfl
set_option maxRecDepth 100000 in
theorem ex_ci_133 : lw_tbl[897]? = some (Jvm.Cond.code (ex_nm 133) (ex_by 133) (ex_mL 133) (ex_rt 133)) := rfl
set_option maxRecDepth 100000 in
theorem ex_ci_134 : lw_tbl[917]? = some (Jvm.Cond.code (ex_nm 134) (ex_by 134) (ex_mL 134) (ex_rt 134)) := rfl
set_option maxRecDepth 100000 in
theorem ex_ci_135 : lw_tbl[909]? = some (Jvm.Cond.code (ex_nm 135) (ex_by 135) (ex_mL 135) (ex_rt 135)) := rfl
set_option maxRecDepth 100000 in
theorem ex_ci_136 : lw_tbl[901]? = some (Jvm.Cond.code (ex_nm 136) (ex_by 136) (ex_mL 136) (ex_rt 136)) := rfl
set_option maxRecDepth 100000 in
theorem ex_ci_137 : lw_tbl[921]? = some (Jvm.Cond.code (ex_nm 137) (ex_by 137) (ex_mL 137) (ex_rt 137)) := rfl
set_option maxRecDepth 100000 in
theorem ex_ci_138 : lw_tbl[925]? = some (Jvm.Cond.code (ex_nm 138) (ex_by 138) (ex_mL 138) (ex_rt 138)) := rfl
set_option maxRecDepth 100000 in
theorem ex_ci_139 : lw_tbl[929]? = some (Jvm.Cond.code (ex_nm 139) (ex_by 139) (ex_mL 139) (ex_rt 139)) := rfl
set_option maxRecDepth 100000 in
theorem ex_ci_140 : lw_tbl[937]? = some (Jvm.Cond.code (ex_nm 140) (ex_by 140) (ex_mL 140) (ex_rt 140)) := rfl
set_option maxRecDepth 100000 in
theorem ex_ci_141 : lw_tbl[933]? = some (Jvm.Cond.code (ex_nm 141) (ex_by 141) (ex_mL 141) (ex_rt 141)) := rfl
set_option maxRecDepth 100000 in
theorem ex_ci_142 : lw_tbl[949]? = some (Jvm.Cond.code (ex_nm 142) (ex_by 142) (ex_mL 142) (ex_rt 142)) := rfl
set_option maxRecDepth 100000 in
theorem ex_ci_143 : lw_tbl[945]? = some (Jvm.Cond.code (ex_nm 143) (ex_by 143) (ex_mL 143) (ex_rt 143)) := rfl
set_option maxRecDepth 100000 in
theorem ex_ci_144 : lw_tbl[941]? = some (Jvm.Cond.code (ex_nm 144) (ex_by 144) (ex_mL 144) (ex_rt 144)) := rfl
set_option maxRecDepth 100000 in
theorem ex_ci_145 : lw_tbl[965]? = some (Jvm.Cond.code (ex_nm 145) (ex_by 145) (ex_mL 145) (ex_rt 145)) := rfl
set_option maxRecDepth 100000 in
theorem ex_ci_146 : lw_tbl[961]? = some (Jvm.Cond.code (ex_nm 146) (ex_by 146) (ex_mL 146) (ex_rt 146)) := rfl
set_option maxRecDepth 100000 in
theorem ex_ci_147 : lw_tbl[977]? = some (Jvm.Cond.code (ex_nm 147) (ex_by 147) (ex_mL 147) (ex_rt 147)) := rfl
set_option maxRecDepth 100000 in
theorem ex_ci_148 : lw_tbl[973]? = some (Jvm.Cond.code (ex_nm 148) (ex_by 148) (ex_mL 148) (ex_rt 148)) := rfl
set_option maxRecDepth 100000 in
theorem ex_ci_149 : lw_tbl[957]? = some (Jvm.Cond.code (ex_nm 149) (ex_by 149) (ex_mL 149) (ex_rt 149)) := rfl
set_option maxRecDepth 100000 in
theorem ex_ci_150 : lw_tbl[985]? = some (Jvm.Cond.code (ex_nm 150) (ex_by 150) (ex_mL 150) (ex_rt 150)) := rfl
set_option maxRecDepth 100000 in
theorem ex_ci_151 : lw_tbl[981]? = some (Jvm.Cond.code (ex_nm 151) (ex_by 151) (ex_mL 151) (ex_rt 151)) := rfl
set_option maxRecDepth 100000 in
theorem ex_ci_152 : lw_tbl[989]? = some (Jvm.Cond.code (ex_nm 152) (ex_by 152) (ex_mL 152) (ex_rt 152)) := rfl
set_option maxRecDepth 100000 in
theorem ex_ci_153 : lw_tbl[969]? = some (Jvm.Cond.code (ex_nm 153) (ex_by 153) (ex_mL 153) (ex_rt 153)) := rfl
set_option maxRecDepth 100000 in
theorem ex_ci_154 : lw_tbl[953]? = some (Jvm.Cond.code (ex_nm 154) (ex_by 154) (ex_mL 154) (ex_rt 154)) := rfl
set_option maxRecDepth 100000 in
theorem ex_ci_155 : lw_tbl[993]? = some (Jvm.Cond.code (ex_nm 155) (ex_by 155) (ex_mL 155) (ex_rt 155)) := rfl
set_option maxRecDepth 100000 in
theorem ex_ci_156 : lw_tbl[997]? = some (Jvm.Cond.code (ex_nm 156) (ex_by 156) (ex_mL 156) (ex_rt 156)) := rfl
set_option maxRecDepth 100000 in
theorem ex_ci_157 : lw_tbl[1001]? = some (Jvm.Cond.code (ex_nm 157) (ex_by 157) (ex_mL 157) (ex_rt 157)) := rfl
set_option maxRecDepth 100000 in
theorem ex_ci_158 : lw_tbl[1005]? = some (Jvm.Cond.code (ex_nm 158) (ex_by 158) (ex_mL 158) (ex_rt 158)) := rfl
set_option maxRecDepth 100000 in
theorem ex_ci_159 : lw_tbl[166]? = some (Jvm.Cond.code (ex_nm 159) (ex_by 159) (ex_mL 159) (ex_rt 159)) := rfl
set_option maxRecDepth 100000 in
theorem ex_ci_160 : lw_tbl[118]? = some (Jvm.Cond.code (ex_nm 160) (ex_by 160) (ex_mL 160) (ex_rt 160)) := rfl
theorem ex_code_in : ∀ y, y < 161 → Jvm.Cond.code (ex_nm y) (ex_by y) (ex_mL y) (ex_rt y) ∈ lw_tbl ∧ goodWord (Jvm.Cond.code (ex_nm y) (ex_by y) (ex_mL y) (ex_rt y)) = true := by
  intro y hy
  refine ⟨?_, rfl⟩
  match y, hy with
  | 0, _ => exact List.mem_of_getElem? ex_ci_0
  | 1, _ => exact List.mem_of_getElem? ex_ci_1
  | 2, _ => exact List.mem_of_getElem? ex_ci_2
  | 3, _ => exact List.mem_of_getElem? ex_ci_3
  | 4, _ => exact List.mem_of_getElem? ex_ci_4
  | 5, _ => exact List.mem_of_getElem? ex_ci_5
  | 6, _ => exact List.mem_of_getElem? ex_ci_6
  | 7, _ => exact List.mem_of_getElem? ex_ci_7
  | 8, _ => exact List.mem_of_getElem? ex_ci_8
  | 9, _ => exact List.mem_of_getElem? ex_ci_9
  | 10, _ => exact List.mem_of_getElem? ex_ci_10
  | 11, _ => exact List.mem_of_getElem? ex_ci_11
  | 12, _ => exact List.mem_of_getElem? ex_ci_12
  | 13, _ => exact List.mem_of_getElem? ex_ci_13
  | 14, _ => exact List.mem_of_getElem? ex_ci_14
  | 15, _ => exact List.mem_of_getElem? ex_ci_15
  | 16, _ => exact List.mem_of_getElem? ex_ci_16
  | 17, _ => exact List.mem_of_getElem? ex_ci_17
  | 18, _ => exact List.mem_of_getElem? ex_ci_18
  | 19, _ => exact List.mem_of_getElem? ex_ci_19
  | 20, _ => exact List.mem_of_getElem? ex_ci_20
  | 21, _ => exact List.mem_of_getElem? ex_ci_21
  | 22, _ => exact List.mem_of_getElem? ex_ci_22
  | 23, _ => exact List.mem_of_getElem? ex_ci_23
  | 24, _ => exact List.mem_of_getElem? ex_ci_24
  | 25, _ => exact List.mem_of_getElem? ex_ci_25
  | 26, _ => exact List.mem_of_getElem? ex_ci_26
  | 27, _ => exact List.mem_of_getElem? ex_ci_27
  | 28, _ => exact List.mem_of_getElem? ex_ci_28
  | 29, _ => exact List.mem_of_getElem? ex_ci_29
  | 30, _ => exact List.mem_of_getElem? ex_ci_30
  | 31, _ => exact List.mem_of_getElem? ex_ci_31
  | 32, _ => exact List.mem_of_getElem? ex_ci_32
  | 33, _ => exact List.mem_of_getElem? ex_ci_33
  | 34, _ => exact List.mem_of_getElem? ex_ci_34
  | 35, _ => exact List.mem_of_getElem? ex_ci_35
  | 36, _ => exact List.mem_of_getElem? ex_ci_36
  | 37, _ => exact List.mem_of_getElem? ex_ci_37
  | 38, _ => exact List.mem_of_getElem? ex_ci_38
  | 39, _ => exact List.mem_of_getElem? ex_ci_39
  | 40, _ => exact List.mem_of_getElem? ex_ci_40
  | 41, _ => exact List.mem_of_getElem? ex_ci_41
  | 42, _ => exact List.mem_of_getElem? ex_ci_42
  | 43, _ => exact List.mem_of_getElem? ex_ci_43
  | 44, _ => exact List.mem_of_getElem? ex_ci_44
  | 45, _ => exact List.mem_of_getElem? ex_ci_45
  | 46, _ => exact List.mem_of_getElem? ex_ci_46
  | 47, _ => exact List.mem_of_getElem? ex_ci_47
  | 48, _ => exact List.mem_of_getElem? ex_ci_48
  | 49, _ => exact List.mem_of_getElem? ex_ci_49
  | 50, _ => exact List.mem_of_getElem? ex_ci_50
  | 51, _ => exact List.mem_of_getElem? ex_ci_51
  | 52, _ => exact List.mem_of_getElem? ex_ci_52
  | 53, _ => exact List.mem_of_getElem? ex_ci_53
  | 54, _ => exact List.mem_of_getElem? ex_ci_54
  | 55, _ => exact List.mem_of_getElem? ex_ci_55
  | 56, _ => exact List.mem_of_getElem? ex_ci_56
  | 57, _ => exact List.mem_of_getElem? ex_ci_57
  | 58, _ => exact List.mem_of_getElem? ex_ci_58
  | 59, _ => exact List.mem_of_getElem? ex_ci_59
  | 60, _ => exact List.mem_of_getElem? ex_ci_60
  | 61, _ => exact List.mem_of_getElem? ex_ci_61
  | 62, _ => exact List.mem_of_getElem? ex_ci_62
  | 63, _ => exact List.mem_of_getElem? ex_ci_63
  | 64, _ => exact List.mem_of_getElem? ex_ci_64
  | 65, _ => exact List.mem_of_getElem? ex_ci_65
  | 66, _ => exact List.mem_of_getElem? ex_ci_66
  | 67, _ => exact List.mem_of_getElem? ex_ci_67
  | 68, _ => exact List.mem_of_getElem? ex_ci_68
  | 69, _ => exact List.mem_of_getElem? ex_ci_69
  | 70, _ => exact List.mem_of_getElem? ex_ci_70
  | 71, _ => exact List.mem_of_getElem? ex_ci_71
  | 72, _ => exact List.mem_of_getElem? ex_ci_72
  | 73, _ => exact List.mem_of_getElem? ex_ci_73
  | 74, _ => exact List.mem_of_getElem? ex_ci_74
  | 75, _ => exact List.mem_of_getElem? ex_ci_75
  | 76, _ => exact List.mem_of_getElem? ex_ci_76
  | 77, _ => exact List.mem_of_getElem? ex_ci_77
  | 78, _ => exact List.mem_of_getElem? ex_ci_78
  | 79, _ => exact List.mem_of_getElem? ex_ci_79
  | 80, _ => exact List.mem_of_getElem? ex_ci_80
  | 81, _ => exact List.mem_of_getElem? ex_ci_81
  | 82, _ => exact List.mem_of_getElem? ex_ci_82
  | 83, _ => exact List.mem_of_getElem? ex_ci_83
  | 84, _ => exact List.mem_of_getElem? ex_ci_84
  | 85, _ => exact List.mem_of_getElem? ex_ci_85
  | 86, _ => exact List.mem_of_getElem? ex_ci_86
  | 87, _ => exact List.mem_of_getElem? ex_ci_87
  | 88, _ => exact List.mem_of_getElem? ex_ci_88
  | 89, _ => exact List.mem_of_getElem? ex_ci_89
  | 90, _ => exact List.mem_of_getElem? ex_ci_90
  | 91, _ => exact List.mem_of_getElem? ex_ci_91
  | 92, _ => exact List.mem_of_getElem? ex_ci_92
  | 93, _ => exact List.mem_of_getElem? ex_ci_93
  | 94, _ => exact List.mem_of_getElem? ex_ci_94
  | 95, _ => exact List.mem_of_getElem? ex_ci_95
  | 96, _ => exact List.mem_of_getElem? ex_ci_96
  | 97, _ => exact List.mem_of_getElem? ex_ci_97
  | 98, _ => exact List.mem_of_getElem? ex_ci_98
  | 99, _ => exact List.mem_of_getElem? ex_ci_99
  | 100, _ => exact List.mem_of_getElem? ex_ci_100
  | 101, _ => exact List.mem_of_getElem? ex_ci_101
  | 102, _ => exact List.mem_of_getElem? ex_ci_102
  | 103, _ => exact List.mem_of_getElem? ex_ci_103
  | 104, _ => exact List.mem_of_getElem? ex_ci_104
  | 105, _ => exact List.mem_of_getElem? ex_ci_105
  | 106, _ => exact List.mem_of_getElem? ex_ci_106
  | 107, _ => exact List.mem_of_getElem? ex_ci_107
  | 108, _ => exact List.mem_of_getElem? ex_ci_108
  | 109, _ => exact List.mem_of_getElem? ex_ci_109
  | 110, _ => exact List.mem_of_getElem? ex_ci_110
  | 111, _ => exact List.mem_of_getElem? ex_ci_111
  | 112, _ => exact List.mem_of_getElem? ex_ci_112
  | 113, _ => exact List.mem_of_getElem? ex_ci_113
  | 114, _ => exact List.mem_of_getElem? ex_ci_114
  | 115, _ => exact List.mem_of_getElem? ex_ci_115
  | 116, _ => exact List.mem_of_getElem? ex_ci_116
  | 117, _ => exact List.mem_of_getElem? ex_ci_117
  | 118, _ => exact List.mem_of_getElem? ex_ci_118
  | 119, _ => exact List.mem_of_getElem? ex_ci_119
  | 120, _ => exact List.mem_of_getElem? ex_ci_120
  | 121, _ => exact List.mem_of_getElem? ex_ci_121
  | 122, _ => exact List.mem_of_getElem? ex_ci_122
  | 123, _ => exact List.mem_of_getElem? ex_ci_123
  | 124, _ => exact List.mem_of_getElem? ex_ci_124
  | 125, _ => exact List.mem_of_getElem? ex_ci_125
  | 126, _ => exact List.mem_of_getElem? ex_ci_126
  | 127, _ => exact List.mem_of_getElem? ex_ci_127
  | 128, _ => exact List.mem_of_getElem? ex_ci_128
  | 129, _ => exact List.mem_of_getElem? ex_ci_129
  | 130, _ => exact List.mem_of_getElem? ex_ci_130
  | 131, _ => exact List.mem_of_getElem? ex_ci_131
  | 132, _ => exact List.mem_of_getElem? ex_ci_132
  | 133, _ => exact List.mem_of_getElem? ex_ci_133
  | 134, _ => exact List.mem_of_getElem? ex_ci_134
  | 135, _ => exact List.mem_of_getElem? ex_ci_135
  | 136, _ => exact List.mem_of_getElem? ex_ci_136
  | 137, _ => exact List.mem_of_getElem? ex_ci_137
  | 138, _ => exact List.mem_of_getElem? ex_ci_138
  | 139, _ => exact List.mem_of_getElem? ex_ci_139
  | 140, _ => exact List.mem_of_getElem? ex_ci_140
  | 141, _ => exact List.mem_of_getElem? ex_ci_141
  | 142, _ => exact List.mem_of_getElem? ex_ci_142
  | 143, _ => exact List.mem_of_getElem? ex_ci_143
  | 144, _ => exact List.mem_of_getElem? ex_ci_144
  | 145, _ => exact List.mem_of_getElem? ex_ci_145
  | 146, _ => exact List.mem_of_getElem? ex_ci_146
  | 147, _ => exact List.mem_of_getElem? ex_ci_147
  | 148, _ => exact List.mem_of_getElem? ex_ci_148
  | 149, _ => exact List.mem_of_getElem? ex_ci_149
  | 150, _ => exact List.mem_of_getElem? ex_ci_150
  | 151, _ => exact List.mem_of_getElem? ex_ci_151
  | 152, _ => exact List.mem_of_getElem? ex_ci_152
  | 153, _ => exact List.mem_of_getElem? ex_ci_153
  | 154, _ => exact List.mem_of_getElem? ex_ci_154
  | 155, _ => exact List.mem_of_getElem? ex_ci_155
  | 156, _ => exact List.mem_of_getElem? ex_ci_156
  | 157, _ => exact List.mem_of_getElem? ex_ci_157
  | 158, _ => exact List.mem_of_getElem? ex_ci_158
  | 159, _ => exact List.mem_of_getElem? ex_ci_159
  | 160, _ => exact List.mem_of_getElem? ex_ci_160
  | y + 161, h => exact absurd h (by omega)
def ex_flc (e : Nat × Nat × Nat × Nat) : Jvm.Cond := .fieldLink (ex_o e.1) e.2.1 ((ex_T e.2.2.1).2.1 e.2.2.2).1 ((ex_T e.2.2.1).2.1 e.2.2.2).2.1 ((ex_T e.2.2.1).2.1 e.2.2.2).2.2.1
theorem ex_fl_in : ex_fl.all (fun e => ex_wb (ex_flc e)) = true := by decide +kernel
def ex_clc (e : Nat × Nat × String) : Jvm.Cond := .classLink (ex_o e.1) e.2.1 e.2.2
theorem ex_cl_in : ex_cl.all (fun e => ex_wb (ex_clc e)) = true := by decide +kernel
theorem ex_lay_in : vwCl.all (fun q => ((u_ws q.1 q.2.1 q.2.2) ++ [Jvm.Cond.instantiable q.1 q.2.2, Jvm.Cond.initialized q.1]).all ex_wb) = true := by decide +kernel
theorem ex_ty_in : (List.range 9).all (fun ci => (List.range (ex_nf ci)).all (fun k => decide (parseFieldDescriptor ((ex_T ci).2.1 k).2.2.1 = some (ex_ty ci k)) && decide ((ex_T ci).2.2 = ex_nf ci))) = true := by decide +kernel
theorem ex_nd_in : (List.range 9).all (fun ci => (List.range (ex_nf ci)).all (fun a => (List.range (ex_nf ci)).all (fun b => decide (a = b) || decide (((ex_T ci).2.1 a).2.1 ≠ ((ex_T ci).2.1 b).2.1)))) = true := by decide +kernel
theorem ex_arr_in : ex_wb (.arrayClass .int) = true ∧ ex_wb (.arrayClass .boolean) = true := by decide +kernel
def ex_objInit : Jvm.Cond := .code objectInit ⟨#[0xb1]⟩ 1 none
theorem ex_obj_in : ex_wb (.instanceMethod objectInit) = true ∧ ex_wb ex_objInit = true := by decide +kernel
theorem ex_min_in : ex_wb (.static Lib.Math.min.name) = true ∧ ex_wb (.initialized "java/lang/Math") = true ∧ ex_wb (.code Lib.Math.min.name Lib.Math.min.code 2 (some .int)) = true := by decide +kernel
theorem ex_copy_in : ex_wb (.native arraycopyName) = true ∧ ex_wb (.static arraycopyName) = true ∧ ex_wb (.initialized "java/lang/System") = true := by decide +kernel
def ex_clname : MethodName := ⟨"[I", "clone", "()Ljava/lang/Object;"⟩
def ex_obclone : MethodName := ⟨"java/lang/Object", "clone", "()Ljava/lang/Object;"⟩
theorem ex_clone_in : ex_wb (.sameMethod "[I" "java/lang/Object" "clone" "()Ljava/lang/Object;") = true ∧ ex_wb (.native ex_obclone) = true ∧ ex_wb (.instanceMethod ex_obclone) = true ∧ ex_wb (.selects "[I" ex_clname ex_obclone) = true := by decide +kernel
/-- the name that a link of ex_ml tells -/
def ex_mn (y : Nat) : MethodName := if y < 1000 then ex_nm y else if y = 1000 then objectInit else if y = 1001 then arraycopyName else if y = 1002 then ex_clname else Lib.Math.min.name
def ex_mlc (e : Nat × Nat × Nat × Nat) : Bool := ex_wb (.methodLink (ex_o e.1) e.2.1 (ex_mn e.2.2.1)) || decide (Jvm.Cond.methodLinkNest (ex_o e.1) e.2.1 (ex_mn e.2.2.1) RX8 ∈ ex_nest)
theorem ex_ml_in1 : (ex_ml.take 70).all ex_mlc = true := by decide +kernel
theorem ex_ml_in2 : ((ex_ml.drop 70).take 70).all ex_mlc = true := by decide +kernel
theorem ex_ml_in3 : ((ex_ml.drop 140)).all ex_mlc = true := by decide +kernel
/-- a method's kind: 0 static, 1 one that calls select, 2 a constructor -/
def ex_mk (y : Nat) : Bool := ex_wb (.initialized (ex_nm y).cls) && decide ((ex_nm y).cls ≠ "java/lang/invoke/MethodHandle" ∧ (ex_nm y).cls ≠ "java/lang/invoke/VarHandle") && Jvm.plainName (ex_nm y).cls && decide (ex_na y ≤ ex_mL y) && decide ((ex_nm y).cls = ex_o (ex_ow y)) &&
  (match ex_kd y with
   | 0 => ex_wb (.static (ex_nm y)) && decide ((parseMethodDescriptor (ex_nm y).desc).map (fun d => d.parameters.length) = some (ex_na y))
   | 1 => ex_wb (.instanceMethod (ex_nm y)) && ex_wb (.selects (ex_nm y).cls (ex_nm y) (ex_nm y)) && decide ((parseMethodDescriptor (ex_nm y).desc).map (fun d => d.parameters.length + 1) = some (ex_na y))
   | 2 => ex_wb (.instanceMethod (ex_nm y)) && decide ((ex_nm y).name = "<init>" ∧ ex_rt y = none) && decide ((parseMethodDescriptor (ex_nm y).desc).map (fun d => d.parameters.length + 1) = some (ex_na y))
   | _ => false)
theorem ex_mk_0 : (List.range' 0 41).all ex_mk = true := by decide +kernel
theorem ex_mk_1 : (List.range' 41 41).all ex_mk = true := by decide +kernel
theorem ex_mk_2 : (List.range' 82 41).all ex_mk = true := by decide +kernel
theorem ex_mk_3 : (List.range' 123 38).all ex_mk = true := by decide +kernel
end
section
/-! EACH INSTRUCTION OF THE TABLES IS THE BYTES' OWN, and its links are told. -/
def ex_okC (y a c : Nat) : Bool := decide (a < 161) && decide (c = ex_na a) && decide (ex_fr a + 1 ≤ ex_fr y) && decide (8 + (ex_mL a + 11) + ex_lo a ≤ ex_lo y)
def ex_okA (y pc : Nat) (ins : Instr) (len a c : Nat) (v : Int32) : Bool := match ins with
  | .iconst n => decide (len = 1 ∧ Int32.ofInt n = v)
  | .bipush n => decide (len = 2 ∧ (Int8.ofInt n).toInt32 = v)
  | .sipush n => decide (len = 3 ∧ (Int16.ofInt n).toInt32 = v)
  | .iload i => decide (len = 2 ∧ a = i)
  | .aload i => decide (len = 2 ∧ a = i)
  | .istore i => decide (len = 2 ∧ a = i)
  | .astore i => decide (len = 2 ∧ a = i)
  | .iload_n i => decide (len = 1 ∧ a = (i : Nat))
  | .aload_n i => decide (len = 1 ∧ a = (i : Nat))
  | .istore_n i => decide (len = 1 ∧ a = (i : Nat))
  | .astore_n i => decide (len = 1 ∧ a = (i : Nat))
  | .iinc i n => decide (len = 3 ∧ a = i ∧ Int32.ofInt n = v)
  | .ineg => decide (len = 1)
  | .dup => decide (len = 1)
  | .pop => decide (len = 1)
  | .iadd => decide (len = 1)
  | .isub => decide (len = 1)
  | .imul => decide (len = 1)
  | .idiv => decide (len = 1)
  | .irem => decide (len = 1)
  | .ishl => decide (len = 1)
  | .ishr => decide (len = 1)
  | .iand => decide (len = 1)
  | .ior => decide (len = 1)
  | .iaload => decide (len = 1)
  | .iastore => decide (len = 1)
  | .baload => decide (len = 1)
  | .bastore => decide (len = 1)
  | .aaload => decide (len = 1)
  | .aastore => decide (len = 1)
  | .arraylength => decide (len = 1)
  | .ifCond _ off => decide (len = 3 ∧ (pc : Int) + off = (a : Int))
  | .if_icmp _ off => decide (len = 3 ∧ (pc : Int) + off = (a : Int))
  | .goto off => decide (len = 3 ∧ (pc : Int) + off = (a : Int))
  | .ifnull off => decide (len = 3 ∧ (pc : Int) + off = (a : Int))
  | .ifnonnull off => decide (len = 3 ∧ (pc : Int) + off = (a : Int))
  | .tableswitch d _ _ offs => decide ((pc : Int) + d = (a : Int)) && offs.toList.all (fun o => decide (0 ≤ (pc : Int) + o))
  | .getfield i => decide (len = 3 ∧ a < 9 ∧ c < ex_nf a) && ex_fl.contains (ex_ow y, i, a, c)
  | .putfield i => decide (len = 3 ∧ a < 9 ∧ c < ex_nf a) && ex_fl.contains (ex_ow y, i, a, c) && (!((ex_T a).2.1 c).2.2.2 || decide ((ex_nm y).name = "<init>" ∧ ((ex_T a).2.1 c).1 = ex_o (ex_ow y)))
  | .checkcast i => decide (len = 3) && ex_cl.contains (ex_ow y, i, "[I")
  | .new i => decide (len = 3 ∧ a < 9) && ex_cl.contains (ex_ow y, i, (ex_T a).1)
  | .newarray t => decide (len = 2) && ((decide (a = 0) && decide (t = .int)) || (decide (a = 1) && decide (t = .boolean)))
  | .anewarray i => decide (len = 3) && ((decide (a = 3) && ex_cl.contains (ex_ow y, i, RX1)) || (decide (a = 4) && ex_cl.contains (ex_ow y, i, RX5)) || (decide (a = 5) && ex_cl.contains (ex_ow y, i, RX7)))
  | .multianewarray i d => decide (len = 4 ∧ d = 2) && ex_cl.contains (ex_ow y, i, "[[I")
  | .invokespecial i => decide (len = 3) && ex_ml.contains (ex_ow y, i, a, 2) && (if a < 1000 then ex_okC y a c && decide (ex_kd a = 2) else decide (a = 1000 ∧ 1 ≤ ex_fr y ∧ 20 ≤ ex_lo y))
  | .invokestatic i => decide (len = 3) && ex_ml.contains (ex_ow y, i, a, 0) && (if a < 1000 then ex_okC y a c && decide (ex_kd a = 0) else decide ((a = 1001 ∨ a = 1003) ∧ 1 ≤ ex_fr y ∧ (a = 1001 → 26 ≤ ex_lo y) ∧ 21 ≤ ex_lo y))
  | .invokevirtual i => decide (len = 3) && ex_ml.contains (ex_ow y, i, a, 1) && (if a < 1000 then ex_okC y a c && decide (ex_kd a = 1) else decide (a = 1002 ∧ 1 ≤ ex_fr y ∧ 22 ≤ ex_lo y))
  | .ireturn => decide (len = 1) && ((decide (a = 0) && decide (ex_rt y = some .int)) || (decide (a = 1) && decide (ex_rt y = some .boolean)))
  | .areturn => decide (len = 1 ∧ ex_rt y = some (.array .int))
  | .return_ => decide (len = 1 ∧ ex_rt y = none)
  | _ => false
def ex_okI (y pc : Nat) (o : ex_MO) : Bool := decide (decode (ex_by y) pc = .ok (o.1, o.2.1)) && ex_okA y pc o.1 o.2.1 o.2.2.1 o.2.2.2.1 o.2.2.2.2
def ex_chk (y : Nat) : Bool := ((ex_codes.getD y []).zipIdx).all (fun q => decide (q.1 = ex_no) || ex_okI y q.2 q.1)

theorem ex_chk_0 : (List.range' 0 23).all ex_chk = true := by decide +kernel
theorem ex_chk_1 : (List.range' 23 23).all ex_chk = true := by decide +kernel
theorem ex_chk_2 : (List.range' 46 23).all ex_chk = true := by decide +kernel
theorem ex_chk_3 : (List.range' 69 23).all ex_chk = true := by decide +kernel
theorem ex_chk_4 : (List.range' 92 23).all ex_chk = true := by decide +kernel
theorem ex_chk_5 : (List.range' 115 23).all ex_chk = true := by decide +kernel
theorem ex_chk_6 : (List.range' 138 23).all ex_chk = true := by decide +kernel
theorem ex_chk_all : ∀ y, y < 161 → ex_chk y = true := by
  intro y hy
  by_cases h0 : y < 23
  · exact List.all_eq_true.mp ex_chk_0 y (List.mem_range'_1.mpr ⟨by omega, by omega⟩)
  by_cases h1 : y < 46
  · exact List.all_eq_true.mp ex_chk_1 y (List.mem_range'_1.mpr ⟨by omega, by omega⟩)
  by_cases h2 : y < 69
  · exact List.all_eq_true.mp ex_chk_2 y (List.mem_range'_1.mpr ⟨by omega, by omega⟩)
  by_cases h3 : y < 92
  · exact List.all_eq_true.mp ex_chk_3 y (List.mem_range'_1.mpr ⟨by omega, by omega⟩)
  by_cases h4 : y < 115
  · exact List.all_eq_true.mp ex_chk_4 y (List.mem_range'_1.mpr ⟨by omega, by omega⟩)
  by_cases h5 : y < 138
  · exact List.all_eq_true.mp ex_chk_5 y (List.mem_range'_1.mpr ⟨by omega, by omega⟩)
  by_cases h6 : y < 161
  · exact List.all_eq_true.mp ex_chk_6 y (List.mem_range'_1.mpr ⟨by omega, by omega⟩)
  exact absurd hy (by omega)
theorem ex_codes_len : ex_codes.length = 162 := by decide +kernel
def ex_okP (y pc : Nat) : Bool := decide (ex_mo y pc = ex_no) || ex_okI y pc (ex_mo y pc)
end
section
theorem ex_lawseg_0 : (List.range' 0 60).all (ex_okP 161) = true := by decide +kernel
theorem ex_lawseg_1 : (List.range' 60 60).all (ex_okP 161) = true := by decide +kernel
theorem ex_lawseg_2 : (List.range' 120 60).all (ex_okP 161) = true := by decide +kernel
theorem ex_lawseg_3 : (List.range' 180 60).all (ex_okP 161) = true := by decide +kernel
theorem ex_lawseg_4 : (List.range' 240 60).all (ex_okP 161) = true := by decide +kernel
end
section
theorem ex_lawseg_5 : (List.range' 300 60).all (ex_okP 161) = true := by decide +kernel
theorem ex_lawseg_6 : (List.range' 360 60).all (ex_okP 161) = true := by decide +kernel
theorem ex_lawseg_7 : (List.range' 420 60).all (ex_okP 161) = true := by decide +kernel
theorem ex_lawseg_8 : (List.range' 480 60).all (ex_okP 161) = true := by decide +kernel
theorem ex_lawseg_9 : (List.range' 540 60).all (ex_okP 161) = true := by decide +kernel
end
section
theorem ex_lawseg_10 : (List.range' 600 60).all (ex_okP 161) = true := by decide +kernel
theorem ex_lawseg_11 : (List.range' 660 60).all (ex_okP 161) = true := by decide +kernel
theorem ex_lawseg_12 : (List.range' 720 60).all (ex_okP 161) = true := by decide +kernel
theorem ex_lawseg_13 : (List.range' 780 60).all (ex_okP 161) = true := by decide +kernel
theorem ex_lawseg_14 : (List.range' 840 34).all (ex_okP 161) = true := by decide +kernel
end
section
theorem ex_law_all : ∀ pc, pc < 874 → ex_okP 161 pc = true := by
  intro pc hy
  by_cases h0 : pc < 60
  · exact List.all_eq_true.mp ex_lawseg_0 pc (List.mem_range'_1.mpr ⟨by omega, by omega⟩)
  by_cases h1 : pc < 120
  · exact List.all_eq_true.mp ex_lawseg_1 pc (List.mem_range'_1.mpr ⟨by omega, by omega⟩)
  by_cases h2 : pc < 180
  · exact List.all_eq_true.mp ex_lawseg_2 pc (List.mem_range'_1.mpr ⟨by omega, by omega⟩)
  by_cases h3 : pc < 240
  · exact List.all_eq_true.mp ex_lawseg_3 pc (List.mem_range'_1.mpr ⟨by omega, by omega⟩)
  by_cases h4 : pc < 300
  · exact List.all_eq_true.mp ex_lawseg_4 pc (List.mem_range'_1.mpr ⟨by omega, by omega⟩)
  by_cases h5 : pc < 360
  · exact List.all_eq_true.mp ex_lawseg_5 pc (List.mem_range'_1.mpr ⟨by omega, by omega⟩)
  by_cases h6 : pc < 420
  · exact List.all_eq_true.mp ex_lawseg_6 pc (List.mem_range'_1.mpr ⟨by omega, by omega⟩)
  by_cases h7 : pc < 480
  · exact List.all_eq_true.mp ex_lawseg_7 pc (List.mem_range'_1.mpr ⟨by omega, by omega⟩)
  by_cases h8 : pc < 540
  · exact List.all_eq_true.mp ex_lawseg_8 pc (List.mem_range'_1.mpr ⟨by omega, by omega⟩)
  by_cases h9 : pc < 600
  · exact List.all_eq_true.mp ex_lawseg_9 pc (List.mem_range'_1.mpr ⟨by omega, by omega⟩)
  by_cases h10 : pc < 660
  · exact List.all_eq_true.mp ex_lawseg_10 pc (List.mem_range'_1.mpr ⟨by omega, by omega⟩)
  by_cases h11 : pc < 720
  · exact List.all_eq_true.mp ex_lawseg_11 pc (List.mem_range'_1.mpr ⟨by omega, by omega⟩)
  by_cases h12 : pc < 780
  · exact List.all_eq_true.mp ex_lawseg_12 pc (List.mem_range'_1.mpr ⟨by omega, by omega⟩)
  by_cases h13 : pc < 840
  · exact List.all_eq_true.mp ex_lawseg_13 pc (List.mem_range'_1.mpr ⟨by omega, by omega⟩)
  by_cases h14 : pc < 874
  · exact List.all_eq_true.mp ex_lawseg_14 pc (List.mem_range'_1.mpr ⟨by omega, by omega⟩)
  exact absurd hy (by omega)
theorem ex_law_len : (ex_codes.getD 161 []).length = 874 := by decide +kernel
theorem ex_ok {y pc : Nat} (h : ¬ ex_mo y pc = ex_no) : ex_okI y pc (ex_mo y pc) = true := by
  have hy : y < 162 := by
    rcases Nat.lt_or_ge y 162 with q | q
    · exact q
    · exfalso
      apply h
      unfold ex_mo
      rw [List.getD_eq_getElem?_getD (l := ex_codes), List.getElem?_eq_none (by rw [ex_codes_len]; exact q)]
      rfl
  have hpc : pc < (ex_codes.getD y []).length := by
    rcases Nat.lt_or_ge pc (ex_codes.getD y []).length with q | q
    · exact q
    · exfalso
      apply h
      unfold ex_mo
      rw [List.getD_eq_getElem?_getD, List.getElem?_eq_none q]
      rfl
  by_cases hl : y = 161
  · subst hl
    have h2 := ex_law_all pc (by rw [ex_law_len] at hpc; exact hpc)
    unfold ex_okP at h2
    rw [Bool.or_eq_true, decide_eq_true_eq] at h2
    rcases h2 with h2 | h2
    · exact absurd h2 h
    · exact h2
  · have h1 := List.all_eq_true.mp (ex_chk_all y (by omega))
    unfold ex_mo at h ⊢
    generalize ex_codes.getD y [] = l at h h1 hpc ⊢
    have hg : l.getD pc ex_no = l[pc] := by simp [List.getD_eq_getElem?_getD, hpc]
    rw [hg] at h ⊢
    have h2 := h1 (l[pc], pc) (by
      rw [List.mem_iff_getElem?]
      exact ⟨pc, by simp [hpc]⟩)
    simp only [Bool.or_eq_true, decide_eq_true_eq] at h2
    rcases h2 with h2 | h2
    · exact absurd h2 h
    · exact h2
end
section
/-! THE PURE MACHINE'S CELLS IN THE HEAP: the script at b, the others from B on. -/
def ex_sh (B b a : Nat) : Nat := if a = 0 then b else B + (a - 1)
def ex_sv (B b : Nat) (v : Value) : Value := match v with
  | .ref a => .ref (ex_sh B b a)
  | w => w
def ex_emb (dA : Nat → ClassId) (B b : Nat) (c : ex_AC) : va_E := match c with
  | .inl (t, n, f) => .inl (dA t, n, .inl f)
  | .inr (.inl (t, n, f)) => .inl (dA t, n, .inr (.inr (.inr (.inr (fun i => (f i).map (ex_sh B b))))))
  | .inr (.inr (ci, fs)) => .inr (ci, fs.map (ex_sv B b))
def ex_tag (c : ex_AC) : Prop := match c with
  | .inl (t, _, _) => t = 0 ∨ t = 1
  | .inr (.inl (t, _, _)) => t = 2 ∨ t = 3 ∨ t = 4 ∨ t = 5
  | .inr (.inr (ci, _)) => ci < 9
def ex_Scr (scr : Cell) (n : Nat) (f : Nat → Int32) : Prop := scr.vm ≠ .unknown ∧ scr.slots.size = n ∧ ∀ j : Nat, j < n → scr.slots[j]? = some (.int (f j))
def ex_Rep (D : va_G) (dA : Nat → ClassId) (B b : Nat) (scr : Cell) (h : ex_Hp) (H : Heap) : Prop :=
  1 ≤ h.1 ∧ H.size + 1 = B + h.1 ∧ b < B ∧ H[b]? = some scr ∧ ∀ (a : Nat) (c : ex_AC), h.2.2 a = some c → (a = 0 ∧ ∃ (n : Nat) (f : Nat → Int32), c = .inl (9, n, f) ∧ ex_Scr scr n f) ∨ (1 ≤ a ∧ a < h.1 ∧ ex_tag c ∧ va_at D vwCl (ex_sh B b a, ex_emb dA B b c) H)
def ex_tyl (dA : Nat → ClassId) : List (ClassId × FieldType) := [(dA 0, .int), (dA 1, .boolean), (dA 2, .array .int), (dA 3, .object RX1), (dA 4, .object RX5), (dA 5, .object RX7)]
def ex_over : List FieldType := [.array .int, .object RX1, .object RX5, .object RX7]
def ex_K (D : va_G) (dA : Nat → ClassId) (scr : Cell) (U : State) : Prop := va_K D vwCl (ex_tyl dA) U ∧ U.isArrayOf scr .int ∧ (∀ t ∈ ex_over, (Jvm.Cond.arrayOver t).before #[] U = true) ∧ va_Nw (.castable "[I" "java/lang/Cloneable") U ∧ ∀ w ∈ ex_nest, va_Nw w U
theorem ex_K.moved {D : va_G} {dA : Nat → ClassId} {scr : Cell} {s U : State} (hW : s.WarmedH U.vm) (h : ex_K D dA scr s) : ex_K D dA scr U := by
  obtain ⟨h1, h2, h3, h4, h5⟩ := h
  refine ⟨h1.moved hW.alike, State.isArrayOf_alike hW.alike h2, fun t ht => ?_, va_Nw.warmC hW h4, fun w hw => ?_⟩
  · have e := Cond.arrayOver_setVmC (args := #[]) hW.alike t
    exact e.trans (h3 t ht)
  · have hz := h5 w hw
    simp only [ex_nest, List.mem_cons, List.not_mem_nil, or_false] at hw
    rcases hw with rfl | rfl | rfl | rfl | rfl | rfl <;> exact va_Nw.warmM hW hz
theorem ex_K.same {D : va_G} {dA : Nat → ClassId} {scr : Cell} {s U : State} (hv : s.vm = U.vm) (h : ex_K D dA scr s) : ex_K D dA scr U := by
  obtain ⟨h1, h2, h3, h4, h5⟩ := h
  refine ⟨h1.moved (by rw [hv]; exact Vm.Alike.refl _), State.isArrayOf_alike (by rw [hv]; exact Vm.Alike.refl _) h2, fun t ht => ?_, va_Nw.same rfl hv h4, fun w hw => ?_⟩
  · have e := Cond.arrayOver_setVmC (args := #[]) (s := s) (vm' := U.vm) (by rw [hv]; exact Vm.Alike.refl _) t
    exact e.trans (h3 t ht)
  · have hz := h5 w hw
    simp only [ex_nest, List.mem_cons, List.not_mem_nil, or_false] at hw
    rcases hw with rfl | rfl | rfl | rfl | rfl | rfl <;> exact va_Nw.same rfl hv hz
def ex_gw : List Jvm.Cond := lw_tbl.filter goodWord
theorem ex_gw_of {w : Jvm.Cond} (h : ex_wb w = true) : w ∈ ex_gw := List.mem_filter.mpr (ex_wb_of h)
theorem ex_gw_good {w : Jvm.Cond} (h : w ∈ ex_gw) : (w.onTables && w.keeps) = true ∨ ∃ ty, w = .arrayClass ty := good_of_word (List.mem_filter.mp h).2
theorem ex_vw {ci : Nat} (h : ci < 9) : vwCl[ci]? = some (ex_T ci) := by
  unfold ex_T
  rw [List.getD_eq_getElem?_getD, List.getElem?_eq_getElem (show ci < vwCl.length from h)]
  rfl
theorem ex_vw_in {ci : Nat} (h : ci < 9) : ∀ w ∈ u_ws (ex_T ci).1 (ex_T ci).2.1 (ex_T ci).2.2, w ∈ ex_gw := fun w hw => by
  have h1 := List.all_eq_true.mp ex_lay_in _ (List.mem_of_getElem? (ex_vw h))
  exact ex_gw_of (List.all_eq_true.mp h1 w (List.mem_append_left _ hw))
theorem ex_vw_new {ci : Nat} (h : ci < 9) : Jvm.Cond.instantiable (ex_T ci).1 (ex_T ci).2.2 ∈ ex_gw ∧ Jvm.Cond.initialized (ex_T ci).1 ∈ ex_gw := by
  have h1 := List.all_eq_true.mp ex_lay_in _ (List.mem_of_getElem? (ex_vw h))
  exact ⟨ex_gw_of (List.all_eq_true.mp h1 _ (List.mem_append_right _ (by simp))), ex_gw_of (List.all_eq_true.mp h1 _ (List.mem_append_right _ (by simp)))⟩
theorem ex_nfN {ci : Nat} (h : ci < 9) : (ex_T ci).2.2 = ex_nf ci := by
  have : ∀ c, c < 9 → (ex_T c).2.2 = ex_nf c := by decide
  exact this ci h
theorem ex_tyok {ci : Nat} (h : ci < 9) : ∀ k, k < (ex_T ci).2.2 → parseFieldDescriptor ((ex_T ci).2.1 k).2.2.1 = some (ex_ty ci k) := fun k hk => by
  rw [ex_nfN h] at hk
  have h1 := List.all_eq_true.mp (List.all_eq_true.mp ex_ty_in ci (List.mem_range.mpr h)) k (List.mem_range.mpr hk)
  simp only [Bool.and_eq_true, decide_eq_true_eq] at h1
  exact h1.1
theorem ex_ndok {ci : Nat} (h : ci < 9) : ∀ a, a < (ex_T ci).2.2 → ∀ b, b < (ex_T ci).2.2 → a ≠ b → ((ex_T ci).2.1 a).2.1 ≠ ((ex_T ci).2.1 b).2.1 := fun a ha b hb hab => by
  rw [ex_nfN h] at ha hb
  have h1 := List.all_eq_true.mp (List.all_eq_true.mp (List.all_eq_true.mp ex_nd_in ci (List.mem_range.mpr h)) a (List.mem_range.mpr ha)) b (List.mem_range.mpr hb)
  simp only [Bool.or_eq_true, decide_eq_true_eq] at h1
  rcases h1 with h1 | h1
  · exact absurd h1 hab
  · exact h1
theorem ex_fit_ok {ty : FieldType} {v : Value} (B b : Nat) (h : ex_fit ty v = true) : narrow ty (ex_sv B b v) = ex_sv B b v ∧ fits ty (ex_sv B b v) = true := by
  cases ty <;> cases v <;> first | exact ⟨rfl, rfl⟩ | (simp [ex_fit] at h)
theorem ex_one {D : va_G} {q : Nat × va_E} {H : Heap} (h : va_at D vwCl q H) : va_P D vwCl [q] H := fun k x hk => by
  cases k with
  | zero => cases hk; exact h
  | succ k => simp at hk
theorem ex_sh_inj {B b a a' : Nat} (h1 : 1 ≤ a) (h2 : 1 ≤ a') (h : ex_sh B b a = ex_sh B b a') : a = a' := by
  unfold ex_sh at h
  rw [if_neg (by omega), if_neg (by omega)] at h
  omega
theorem ex_sh_ge {B b a : Nat} (h1 : 1 ≤ a) : B ≤ ex_sh B b a := by
  unfold ex_sh
  rw [if_neg (by omega)]
  omega
/-- a cell is written -/
theorem ex_Rep.put {D : va_G} {dA : Nat → ClassId} {B b : Nat} {scr : Cell} {h : ex_Hp} {H H' : Heap} (hR : ex_Rep D dA B b scr h H) {a : Nat} {c : ex_AC} (h1 : 1 ≤ a) (h2 : a < h.1) (hz : H'.size = H.size) (oq : ∀ q : Nat, q ≠ ex_sh B b a → H'[q]? = H[q]?) (ht : ex_tag c) (he : va_at D vwCl (ex_sh B b a, ex_emb dA B b c) H') : ex_Rep D dA B b scr (ex_set h a c) H' := by
  obtain ⟨r1, r2, r3, r4, r5⟩ := hR
  refine ⟨r1, by rw [hz]; exact r2, r3, by rw [oq b (by have := @ex_sh_ge B b a h1; omega)]; exact r4, fun a' c' hc => ?_⟩
  simp only [ex_set] at hc
  by_cases e : a' = a
  · subst e
    rw [if_pos rfl] at hc
    cases hc
    exact Or.inr ⟨h1, h2, ht, he⟩
  · rw [if_neg e] at hc
    rcases r5 a' c' hc with h | ⟨g1, g2, g3, g4⟩
    · exact Or.inl h
    · exact Or.inr ⟨g1, g2, g3, g4.kept (oq _ (fun z => e (ex_sh_inj g1 h1 z)))⟩
/-- a cell is made -/
theorem ex_Rep.push {D : va_G} {dA : Nat → ClassId} {B b : Nat} {scr : Cell} {h : ex_Hp} {H H' : Heap} (hR : ex_Rep D dA B b scr h H) {c : ex_AC} {k : Nat} (hz : H'.size = H.size + 1) (oq : ∀ q : Nat, q < H.size → H'[q]? = H[q]?) (ht : ex_tag c) (he : va_at D vwCl (H.size, ex_emb dA B b c) H') : ex_Rep D dA B b scr (ex_new h c k) H' := by
  obtain ⟨r1, r2, r3, r4, r5⟩ := hR
  refine ⟨by show 1 ≤ h.1 + 1; omega, by show H'.size + 1 = B + (h.1 + 1); omega, r3, by rw [oq b (by omega)]; exact r4, fun a' c' hc => ?_⟩
  simp only [ex_new] at hc
  by_cases e : a' = h.1
  · subst e
    rw [if_pos rfl] at hc
    cases hc
    refine Or.inr ⟨r1, by show h.1 < h.1 + 1; omega, ht, ?_⟩
    have e2 : ex_sh B b h.1 = H.size := by
      unfold ex_sh
      rw [if_neg (by omega)]
      omega
    rw [e2]
    exact he
  · rw [if_neg e] at hc
    rcases r5 a' c' hc with h | ⟨g1, g2, g3, g4⟩
    · exact Or.inl h
    · exact Or.inr ⟨g1, by show a' < h.1 + 1; omega, g3, g4.kept (oq _ g4.lt)⟩
theorem ex_top {D : va_G} {dA : Nat → ClassId} {B b : Nat} {scr : Cell} {h : ex_Hp} {H : Heap} (hR : ex_Rep D dA B b scr h H) : ex_sh B b h.1 = H.size := by
  obtain ⟨r1, r2, r3, r4, r5⟩ := hR
  unfold ex_sh
  rw [if_neg (by omega)]
  omega
theorem ex_ix_some {i : Int32} {n j : Nat} (h : ex_ix i n = some j) : vp_in i n ∧ i.toNatClampNeg = j := by
  unfold ex_ix at h
  by_cases g : i < 0 ∨ n ≤ i.toNatClampNeg
  · rw [if_pos g] at h; cases h
  · rw [if_neg g] at h; cases h; exact ⟨g, rfl⟩
theorem ex_rf (B b : Nat) (r : Option Nat) : va_rf (r.map (ex_sh B b)) = ex_sv B b (va_rf r) := by cases r <;> rfl
end
section
/-! THE MACHINE'S STEPS OVER CELLS, as the pure machine has them. -/
section EXR
variable {p : Program} {l : Launch} {e : Env} {R : Room} {s : State} {m : MethodId} {args : Array Value} {below : List Frame} {meth : Method} {c : Code} {H : Heap} {locs : List Loc} {cells slots : Nat} {Q : State → Prop}
variable {D : va_G} {dA : Nat → ClassId} {B b : Nat} {scr : Cell} {cc : ByteArray} {pc : Nat} {ls : Array Slot} {rest : List Value} {h : ex_Hp} {own : String} {index : Nat}
theorem ex_rget (hx : p.tables.exec = Jvm.exec) (hb : c.code = cc) (hts : ∀ w ∈ ex_gw, w.before args s = true) (hown : s.vm.findClass own = some m.cls) (hK : ex_K D dA scr s) (hR : ex_Rep D dA B b scr h H) {o ci k : Nat} {fs : List Value} {v : Value} (ho : h.2.2 o = some (.inr (.inr (ci, fs)))) (hci : ci < 9) (hk : k < ex_nf ci) (hv : fs[k]? = some v)
    (hl : Jvm.Cond.fieldLink own index ((ex_T ci).2.1 k).1 ((ex_T ci).2.1 k).2.1 ((ex_T ci).2.1 k).2.2.1 ∈ ex_gw) (hdg : decode cc pc = .ok (.getfield index, 3))
    (kk : W p l e R s m args below meth c H locs cells slots Q (F0 m (pc + 3) ls (ex_sv B b v :: rest))) : W p l e R s m args below meth c H locs cells slots Q (F0 m pc ls (.ref (ex_sh B b o) :: rest)) := by
  rcases hR.2.2.2.2 o _ ho with ⟨-, n, f, hc, -⟩ | ⟨g1, g2, g3, g4⟩
  · cases hc
  · exact va_get (C := (ex_T ci).1) (T := (ex_T ci).2.1) (N := (ex_T ci).2.2) (fs := fs.map (ex_sv B b)) hx hb hts (ex_vw_in hci) hown hK.1 (ex_one g4) 0 rfl (ex_vw hci) k (by rw [ex_nfN hci]; exact hk) (hts _ hl) (fun _ q => q) (by rw [List.getElem?_map, hv]; rfl) hdg kk
theorem ex_rput (hx : p.tables.exec = Jvm.exec) (hb : c.code = cc) (hts : ∀ w ∈ ex_gw, w.before args s = true) (hown : s.vm.findClass own = some m.cls) (hK : ex_K D dA scr s) (hR : ex_Rep D dA B b scr h H) (hS : va_S (fun q => B ≤ q) s.heap H locs) {o ci k : Nat} {fs : List Value} {v : Value} (ho : h.2.2 o = some (.inr (.inr (ci, fs)))) (hci : ci < 9) (hk : k < ex_nf ci) (hv : ex_fit (ex_ty ci k) v = true) (hlen : k < fs.length)
    (hl : Jvm.Cond.fieldLink own index ((ex_T ci).2.1 k).1 ((ex_T ci).2.1 k).2.1 ((ex_T ci).2.1 k).2.2.1 ∈ ex_gw) (hfin : ((ex_T ci).2.1 k).2.2.2 = false ∨ (meth.name = "<init>" ∧ ((ex_T ci).2.1 k).1 = own)) (hdg : decode cc pc = .ok (.putfield index, 3))
    (kk : ∀ (H' : Heap) (locs' : List Loc), ex_Rep D dA B b scr (ex_set h o (.inr (.inr (ci, fs.set k v)))) H' → va_S (fun q => B ≤ q) s.heap H' locs' → W p l e R s m args below meth c H' locs' cells slots Q (F0 m (pc + 3) ls rest)) : W p l e R s m args below meth c H locs cells slots Q (F0 m pc ls (ex_sv B b v :: .ref (ex_sh B b o) :: rest)) := by
  rcases hR.2.2.2.2 o _ ho with ⟨-, n, f, hc, -⟩ | ⟨g1, g2, g3, g4⟩
  · cases hc
  have hkN : k < (ex_T ci).2.2 := by rw [ex_nfN hci]; exact hk
  have hap := va_apart (own := own) hts (ex_vw_in hci) (ex_ty ci) (ex_tyok hci) (ex_ndok hci) hK.1 (ex_vw hci)
  obtain ⟨r, h1, cell, q1, q2, q3, q4⟩ := g4
  have hr : r = ex_T ci := Option.some.inj (h1.symm.trans (ex_vw hci))
  subst hr
  obtain ⟨hSl, hfc, kC, hkC, hkind⟩ := hK.1.1 ci _ (ex_vw hci)
  obtain ⟨cf, kf, fi, f, hi, hsl⟩ := hSl k hkN
  have hlay := hts _ (ex_vw_in hci _ (u_in_lay hkN))
  have hst := (u_facts hfc hkC (u_lays hts (ex_vw_in hci) hkN) hi).1
  obtain ⟨hnar, hfit⟩ := ex_fit_ok B b hv
  have hdd := ex_tyok hci k hkN
  have fin : ∀ H' : Heap, H'[ex_sh B b o]? = some (cell.setSlot f.slot (ex_sv B b v)) → H'.size = H.size → (∀ q, q ≠ ex_sh B b o → H'[q]? = H[q]?) → W p l e R s m args below meth c H' (locs ++ [⟨ex_sh B b o, f.slot⟩]) cells slots Q (F0 m (pc + 3) ls rest) := by
    intro H' e1 e2 e3
    rw [hsl] at e1
    refine kk H' _ (hR.put g1 g2 e2 e3 g3 ?_) (hS.put e2 e3 (ex_sh_ge g1))
    refine ⟨_, ex_vw hci, t_OB.to (V := updV (vp_V (fs.map (ex_sv B b))) k (ex_sv B b v)) ⟨_, e1, q2, q3, t_set q4 hap hkN _⟩ (fun j _ => ?_)⟩
    rw [vp_updV_set (by rw [List.length_map]; exact hlen)]
    show _ = vp_V ((fs.set k v).map (ex_sv B b)) j
    rw [List.map_set]
  by_cases hfl : ((ex_T ci).2.1 k).2.2.2 = true
  · rcases hfin with q | ⟨hin2, hdecl⟩
    · rw [q] at hfl; cases hfl
    unfold u_lay at hlay
    rw [if_pos hfl] at hlay
    have hcf : m.cls = cf := by
      obtain ⟨_, _, c', _, _, _, -, -, hf', -, -, -, hown2, -⟩ := Cond.laysFinal_spec hlay
      have e1 : c' = cf := by have := hi.symm.trans hf'; simp at this; exact this.1.symm
      rw [hdecl] at hown2
      rw [← e1]; exact Option.some.inj (hown.symm.trans hown2)
    have h6 := u_fits hfc hkC hkind (Or.inr hlay) hi hdd hnar hfit
    exact W.putFinK hx hb hown (hts _ hl) hi hst hcf hin2 (by rw [q2]; exact h6) q1 q3 (by rw [hsl]; exact k2_hasslot (q4 k hkN)) rfl rfl hdg fin
  · unfold u_lay at hlay
    rw [if_neg hfl] at hlay
    have h6 := u_store hfc hkC hkind hlay hi hdd hnar hfit
    exact W.putK hx hb (f := f) ⟨hown, hts _ hl, ⟨_, _, _, hi⟩, hst⟩ (by rw [q2]; exact h6) q1 q3 (by rw [hsl]; exact k2_hasslot (q4 k hkN)) rfl rfl hdg fin
theorem ex_riald (hx : p.tables.exec = Jvm.exec) (hb : c.code = cc) (hK : ex_K D dA scr s) (hR : ex_Rep D dA B b scr h H) {o t n j : Nat} {f : Nat → Int32} {i : Int32} (ho : h.2.2 o = some (.inl (t, n, f))) (ht : t = 0 ∨ t = 9) (hi : ex_ix i n = some j) (hdg : decode cc pc = .ok (.iaload, 1))
    (kk : W p l e R s m args below meth c H locs cells slots Q (F0 m (pc + 1) ls (.int (f j) :: rest))) : W p l e R s m args below meth c H locs cells slots Q (F0 m pc ls (.int i :: .ref (ex_sh B b o) :: rest)) := by
  obtain ⟨hin, rfl⟩ := ex_ix_some hi
  rcases hR.2.2.2.2 o _ ho with ⟨rfl, n', f', hc, q1, q2, q3⟩ | ⟨g1, g2, g3, g4⟩
  · cases hc
    have hlt : i.toNatClampNeg < n := Nat.not_le.mp fun q => hin (Or.inr q)
    exact W.iald (v := .int (f i.toNatClampNeg)) hx hb (show H[ex_sh B b 0]? = some scr from hR.2.2.2.1) hK.2.1 q1 (by rw [q2]; exact hin) (q3 _ hlt) rfl rfl hdg kk
  · have ht0 : t = 0 := by
      rcases g3 with q | q
      · exact q
      · omega
    subst ht0
    exact va_iald hx hb hK.1 (ex_one g4) 0 0 rfl rfl hin hdg kk
theorem ex_rbald (hx : p.tables.exec = Jvm.exec) (hb : c.code = cc) (hK : ex_K D dA scr s) (hR : ex_Rep D dA B b scr h H) {o t n j : Nat} {f : Nat → Int32} {i : Int32} (ho : h.2.2 o = some (.inl (t, n, f))) (ht : t = 1) (hi : ex_ix i n = some j) (hdg : decode cc pc = .ok (.baload, 1))
    (kk : W p l e R s m args below meth c H locs cells slots Q (F0 m (pc + 1) ls (.int (f j) :: rest))) : W p l e R s m args below meth c H locs cells slots Q (F0 m pc ls (.int i :: .ref (ex_sh B b o) :: rest)) := by
  obtain ⟨hin, rfl⟩ := ex_ix_some hi
  subst ht
  rcases hR.2.2.2.2 o _ ho with ⟨rfl, n', f', hc, q1, q2, q3⟩ | ⟨g1, g2, g3, g4⟩
  · cases hc
  · exact va_zald hx hb hK.1 (ex_one g4) 0 1 rfl rfl hin hdg kk
theorem ex_riast (hx : p.tables.exec = Jvm.exec) (hb : c.code = cc) (hK : ex_K D dA scr s) (hR : ex_Rep D dA B b scr h H) (hS : va_S (fun q => B ≤ q) s.heap H locs) {o t n j : Nat} {f : Nat → Int32} {i x : Int32} (ho : h.2.2 o = some (.inl (t, n, f))) (ht : t = 0) (hi : ex_ix i n = some j) (hdg : decode cc pc = .ok (.iastore, 1))
    (kk : ∀ (H' : Heap) (locs' : List Loc), ex_Rep D dA B b scr (ex_set h o (.inl (t, n, upd f j x))) H' → va_S (fun q => B ≤ q) s.heap H' locs' → W p l e R s m args below meth c H' locs' cells slots Q (F0 m (pc + 1) ls rest)) : W p l e R s m args below meth c H locs cells slots Q (F0 m pc ls (.int x :: .int i :: .ref (ex_sh B b o) :: rest)) := by
  obtain ⟨hin, rfl⟩ := ex_ix_some hi
  subst ht
  rcases hR.2.2.2.2 o _ ho with ⟨rfl, n', f', hc, q1, q2, q3⟩ | ⟨g1, g2, g3, g4⟩
  · cases hc
  refine W.iast hx hb g4 ((hK.1.2 0 _ rfl).1 n (fun j => .int (f j))) (fun q => by cases q) (by show ¬ (i < 0 ∨ (arrV _ _ _).slots.size ≤ _); rw [arrV_size]; exact hin) rfl rfl hdg fun H1 e1 z oq => ?_
  refine kk H1 _ (hR.put g1 g2 z oq (Or.inl rfl) ?_) (hS.put z oq (ex_sh_ge g1))
  show H1[ex_sh B b o]? = some (vp_cell _ _)
  rw [e1]
  rw [vp_cell_i, vp_cell_i, arrV_store]
  congr 2
  funext q
  by_cases hq : q = i.toNatClampNeg
  · subst hq
    simp [updV, upd]
  · simp [updV, upd, hq]
theorem ex_rbast (hx : p.tables.exec = Jvm.exec) (hb : c.code = cc) (hK : ex_K D dA scr s) (hR : ex_Rep D dA B b scr h H) (hS : va_S (fun q => B ≤ q) s.heap H locs) {o t n j : Nat} {f : Nat → Int32} {i x : Int32} (ho : h.2.2 o = some (.inl (t, n, f))) (ht : t = 1 ∧ (x = 0 ∨ x = 1)) (hi : ex_ix i n = some j) (hdg : decode cc pc = .ok (.bastore, 1))
    (kk : ∀ (H' : Heap) (locs' : List Loc), ex_Rep D dA B b scr (ex_set h o (.inl (t, n, upd f j x))) H' → va_S (fun q => B ≤ q) s.heap H' locs' → W p l e R s m args below meth c H' locs' cells slots Q (F0 m (pc + 1) ls rest)) : W p l e R s m args below meth c H locs cells slots Q (F0 m pc ls (.int x :: .int i :: .ref (ex_sh B b o) :: rest)) := by
  obtain ⟨hin, rfl⟩ := ex_ix_some hi
  obtain ⟨rfl, hx01⟩ := ht
  rcases hR.2.2.2.2 o _ ho with ⟨rfl, n', f', hc, q1, q2, q3⟩ | ⟨g1, g2, g3, g4⟩
  · cases hc
  refine W.zast hx hb g4 ((hK.1.2 1 _ rfl).1 n (fun j => .int (f j))) (fun q => by cases q) (by show ¬ (i < 0 ∨ (arrV _ _ _).slots.size ≤ _); rw [arrV_size]; exact hin) rfl rfl hdg fun H1 e1 z oq => ?_
  refine kk H1 _ (hR.put g1 g2 z oq (Or.inr rfl) ?_) (hS.put z oq (ex_sh_ge g1))
  show H1[ex_sh B b o]? = some (vp_cell _ _)
  rw [e1]
  rw [vp_cell_i, vp_cell_i, arrV_store]
  congr 2
  funext q
  by_cases hq : q = i.toNatClampNeg
  · subst hq
    simp [updV, upd]
    rcases hx01 with rfl | rfl <;> rfl
  · simp [updV, upd, hq]
theorem ex_raald (hx : p.tables.exec = Jvm.exec) (hb : c.code = cc) (hK : ex_K D dA scr s) (hR : ex_Rep D dA B b scr h H) {o t n j : Nat} {f : Nat → Option Nat} {i : Int32} (ho : h.2.2 o = some (.inr (.inl (t, n, f)))) (hi : ex_ix i n = some j) (hdg : decode cc pc = .ok (.aaload, 1))
    (kk : W p l e R s m args below meth c H locs cells slots Q (F0 m (pc + 1) ls (ex_sv B b (va_rf (f j)) :: rest))) : W p l e R s m args below meth c H locs cells slots Q (F0 m pc ls (.int i :: .ref (ex_sh B b o) :: rest)) := by
  obtain ⟨hin, rfl⟩ := ex_ix_some hi
  rcases hR.2.2.2.2 o _ ho with ⟨rfl, n', f', hc, q1, q2, q3⟩ | ⟨g1, g2, g3, g4⟩
  · cases hc
  have hlt : i.toNatClampNeg < n := Nat.not_le.mp fun q => hin (Or.inr q)
  have g4 : H[ex_sh B b o]? = some (arrV (dA t) n (fun j => va_rf ((f j).map (ex_sh B b)))) := g4
  have key : ∀ ty : FieldType, ty.isReference = true → ArrOfT s (dA t) ty → W p l e R s m args below meth c H locs cells slots Q (F0 m pc ls (.int i :: .ref (ex_sh B b o) :: rest)) := fun ty hty hA =>
    W.aald (v := ex_sv B b (va_rf (f i.toNatClampNeg))) (ty := ty) hx hb g4 (hA n _) hty (fun q => by cases q) (by rw [arrV_size]; exact hin) (by rw [arrV_read _ _ hlt, ex_rf]) rfl rfl hdg kk
  rcases g3 with rfl | rfl | rfl | rfl
  · exact key _ rfl (hK.1.2 2 _ rfl).1
  · exact key _ rfl (hK.1.2 3 _ rfl).1
  · exact key _ rfl (hK.1.2 4 _ rfl).1
  · exact key _ rfl (hK.1.2 5 _ rfl).1
theorem ex_ralen (hx : p.tables.exec = Jvm.exec) (hb : c.code = cc) (hK : ex_K D dA scr s) (hR : ex_Rep D dA B b scr h H) {o n : Nat} (ho : (∃ t f, h.2.2 o = some (.inl (t, n, f))) ∨ ∃ t f, h.2.2 o = some (.inr (.inl (t, n, f)))) (hdg : decode cc pc = .ok (.arraylength, 1))
    (kk : W p l e R s m args below meth c H locs cells slots Q (F0 m (pc + 1) ls (.int (Int32.ofNat n) :: rest))) : W p l e R s m args below meth c H locs cells slots Q (F0 m pc ls (.ref (ex_sh B b o) :: rest)) := by
  rcases ho with ⟨t, f, ho⟩ | ⟨t, f, ho⟩
  · rcases hR.2.2.2.2 o _ ho with ⟨rfl, n', f', hc, q1, q2, q3⟩ | ⟨g1, g2, g3, g4⟩
    · cases hc
      exact W.alen (n := Int32.ofNat n) hx hb (show H[ex_sh B b 0]? = some scr from hR.2.2.2.1) hK.2.1 (by rw [q2] <;> rfl) rfl rfl hdg kk
    · rcases g3 with rfl | rfl
      · exact va_alen hx hb hK.1 (ex_one g4) 0 0 rfl rfl rfl hdg kk
      · exact va_alen hx hb hK.1 (ex_one g4) 0 1 rfl rfl rfl hdg kk
  · rcases hR.2.2.2.2 o _ ho with ⟨rfl, n', f', hc, q1, q2, q3⟩ | ⟨g1, g2, g3, g4⟩
    · cases hc
    · rcases g3 with rfl | rfl | rfl | rfl
      · exact va_alen hx hb hK.1 (ex_one g4) 0 2 rfl rfl rfl hdg kk
      · exact va_alen hx hb hK.1 (ex_one g4) 0 3 rfl rfl rfl hdg kk
      · exact va_alen hx hb hK.1 (ex_one g4) 0 4 rfl rfl rfl hdg kk
      · exact va_alen hx hb hK.1 (ex_one g4) 0 5 rfl rfl rfl hdg kk
theorem ex_rcast (hx : p.tables.exec = Jvm.exec) (hb : c.code = cc) (hts : ∀ w ∈ ex_gw, w.before args s = true) (hown : s.vm.findClass own = some m.cls) (hK : ex_K D dA scr s) (hR : ex_Rep D dA B b scr h H) {o t n : Nat} {f : Nat → Int32} (ho : h.2.2 o = some (.inl (t, n, f))) (ht : t = 0) (hl : Jvm.Cond.classLink own index "[I" ∈ ex_gw) (hdg : decode cc pc = .ok (.checkcast index, 3))
    (kk : W p l e R s m args below meth c H locs cells slots Q (F0 m (pc + 3) ls (.ref (ex_sh B b o) :: rest))) : W p l e R s m args below meth c H locs cells slots Q (F0 m pc ls (.ref (ex_sh B b o) :: rest)) := by
  subst ht
  rcases hR.2.2.2.2 o _ ho with ⟨rfl, n', f', hc, q1, q2, q3⟩ | ⟨g1, g2, g3, g4⟩
  · cases hc
  exact va_castA hx hb hown (hts _ hl) (ex_one g4) 0 rfl (hK.1.2 0 _ rfl).2 hdg kk
theorem ex_raast (hx : p.tables.exec = Jvm.exec) (hb : c.code = cc) (hK : ex_K D dA scr s) (hR : ex_Rep D dA B b scr h H) (hS : va_S (fun q => B ≤ q) s.heap H locs) {o t n j x : Nat} {f : Nat → Option Nat} {d : ex_AC} {i : Int32} (ho : h.2.2 o = some (.inr (.inl (t, n, f)))) (hd : h.2.2 x = some d) (hm : ex_may t d = true) (hi : ex_ix i n = some j) (hdg : decode cc pc = .ok (.aastore, 1))
    (kk : ∀ (H' : Heap) (locs' : List Loc), ex_Rep D dA B b scr (ex_set h o (.inr (.inl (t, n, va_up f j (some x))))) H' → va_S (fun q => B ≤ q) s.heap H' locs' → W p l e R s m args below meth c H' locs' cells slots Q (F0 m (pc + 1) ls rest)) : W p l e R s m args below meth c H locs cells slots Q (F0 m pc ls (.ref (ex_sh B b x) :: .int i :: .ref (ex_sh B b o) :: rest)) := by
  obtain ⟨hin, rfl⟩ := ex_ix_some hi
  have hlt : i.toNatClampNeg < n := Nat.not_le.mp fun q => hin (Or.inr q)
  have h0 : ¬ i < 0 := fun q => hin (Or.inl q)
  rcases hR.2.2.2.2 o _ ho with ⟨rfl, n', f', hc, q1, q2, q3⟩ | ⟨g1, g2, g3, g4⟩
  · cases hc
  have g4 : H[ex_sh B b o]? = some (arrV (dA t) n (fun j => va_rf ((f j).map (ex_sh B b)))) := g4
  have fin : ∀ H1 : Heap, H1[ex_sh B b o]? = some ((arrV (dA t) n (fun j => va_rf ((f j).map (ex_sh B b)))).setSlot i.toNatClampNeg (.ref (ex_sh B b x))) → H1.size = H.size → (∀ q, q ≠ ex_sh B b o → H1[q]? = H[q]?) → W p l e R s m args below meth c H1 (locs ++ [⟨ex_sh B b o, i.toNatClampNeg⟩]) cells slots Q (F0 m (pc + 1) ls rest) := by
    intro H1 e1 z oq
    refine kk H1 _ (hR.put g1 g2 z oq g3 ?_) (hS.put z oq (ex_sh_ge g1))
    show H1[ex_sh B b o]? = some (vp_cell _ _)
    rw [e1, vp_cell_q, arrV_store]
    congr 2
    funext q
    by_cases hq : q = i.toNatClampNeg
    · subst hq
      simp [updV, va_up, va_rf]
    · simp [updV, va_up, hq]
  have key : ∀ (kA : Class) (comp : ClassId) (ty : FieldType) (cv : Cell) (kv : Class), s.vm.classes[dA t]? = some kA → kA.kind = .array comp ty → ty.isReference = true → H[ex_sh B b x]? = some cv → (∀ q, cv.vm ≠ .statics q) → cv.cls = comp → s.vm.classes[comp]? = some kv → W p l e R s m args below meth c H locs cells slots Q (F0 m pc ls (.ref (ex_sh B b x) :: .int i :: .ref (ex_sh B b o) :: rest)) := by
    intro kA comp ty cv kv k1 k2 k3 k4 k5 k6 k7
    exact W.aast hx hb g4 (fun q h => by cases h) (fun h => by cases h) k1 k2 k3 k7 ⟨h0, by rw [arrV_size]; exact hlt⟩ k4 k5 (by rw [k6]; exact k7) (by rw [k6]; exact va_asg _ _) rfl rfl hdg fin
  rcases hR.2.2.2.2 x _ hd with ⟨rfl, n', f', hc, q1, q2, q3⟩ | ⟨w1, w2, w3, w4⟩
  · subst hc
    simp [ex_may] at hm
  rcases d with ⟨u, nu, fu⟩ | ⟨⟨u, nu, fu⟩ | ⟨ci, fs⟩⟩
  · simp only [ex_may, Bool.and_eq_true, beq_iff_eq] at hm
    obtain ⟨rfl, rfl⟩ := hm
    obtain ⟨comp, cA, kA, a1, -, a3, a4, a5⟩ := arrayOverA_spec (hK.2.2.1 (.array .int) (by simp [ex_over]))
    have e0 : dA 0 = comp := Option.some.inj ((hK.1.2 0 _ rfl).2.symm.trans a1)
    have e2 : dA 2 = cA := Option.some.inj ((hK.1.2 2 _ rfl).2.symm.trans a5)
    obtain ⟨kc, hkc, -⟩ := Vm.findClass_spec a1
    exact key kA comp _ (arrV (dA 0) nu (fun j => .int (fu j))) kc (by rw [e2]; exact a3) a4 rfl w4 (fun q h => by cases h) e0 hkc
  · simp [ex_may] at hm
  · simp only [ex_may, Bool.or_eq_true, Bool.and_eq_true, beq_iff_eq] at hm
    obtain ⟨r, hr, cell, c1, c2, c3, -⟩ := w4
    have obj : ∀ (C : String) (T : u_T) (N : Nat), vwCl[ci]? = some (C, T, N) → va_RA s (dA t) (.object C) → W p l e R s m args below meth c H locs cells slots Q (F0 m pc ls (.ref (ex_sh B b x) :: .int i :: .ref (ex_sh B b o) :: rest)) := by
      intro C T N hcl hra
      obtain ⟨kA, comp, k1, k2, k3, -⟩ := hra
      obtain ⟨-, hfc, kC, hkC, -⟩ := hK.1.1 ci _ hcl
      have e0 : D.1 ci = comp := Option.some.inj (hfc.symm.trans k3)
      exact key kA comp _ cell kC k1 k2 rfl c1 (fun q h => by rw [c3] at h; cases h) (by rw [c2]; exact e0) (by rw [← e0]; exact hkC)
    rcases hm with (⟨rfl, rfl⟩ | ⟨rfl, rfl⟩) | ⟨rfl, rfl⟩
    · exact obj _ _ _ rfl (hK.1.2 3 _ rfl).2
    · exact obj _ _ _ rfl (hK.1.2 4 _ rfl).2
    · exact obj _ _ _ rfl (hK.1.2 5 _ rfl).2
end EXR
end
section
/-! AN ARRAY OF ROWS IS MADE (6.5 multianewarray, two dimensions of int): walked over the model's own definition. -/
/-- the outer array behind i rows -/
def mq_out (cA : ClassId) (N a i : Nat) : Cell := arrV cA N (fun j => va_rf (if j < i then some (a + 1 + j) else none))
/-- the state behind i rows: the outer array at the old end, a row behind another -/
def mq_st (T : State) (cA cI : ClassId) (N K : Nat) : Nat → State
  | 0 => T.pushCell (mq_out cA N T.heap.size 0)
  | i + 1 => ((mq_st T cA cI N K i).pushCell (arrV cI K (fun _ => .int 0))).setCell T.heap.size (mq_out cA N T.heap.size (i + 1))
theorem mq_out0 (cA : ClassId) (N a : Nat) : ({ cls := cA, slots := Array.replicate N .null, vm := .none } : Cell) = mq_out cA N a 0 := by
  rw [arrV_new]
  refine congrArg (arrV cA N) (funext fun j => ?_)
  simp [va_rf]
theorem mq_outS (cA : ClassId) (N a i : Nat) : (mq_out cA N a i).setSlot i (.ref (a + 1 + i)) = mq_out cA N a (i + 1) := by
  unfold mq_out
  rw [arrV_store]
  refine congrArg (arrV cA N) (funext fun j => ?_)
  rcases Nat.lt_trichotomy j i with h | h | h
  · simp [updV, h, Nat.ne_of_lt h, Nat.lt_succ_of_lt h]
  · subst h
    simp [updV, va_rf]
  · simp [updV, Nat.ne_of_gt h, show ¬ j < i by omega, show ¬ j < i + 1 by omega]
section MQ
variable {T : State} {cA cI : ClassId} {N K : Nat}
theorem mq_size : ∀ i : Nat, (mq_st T cA cI N K i).heap.size = T.heap.size + 1 + i
  | 0 => by simp [mq_st]
  | i + 1 => by simp [mq_st, mq_size i]; omega
theorem mq_vm : ∀ i : Nat, (mq_st T cA cI N K i).vm = T.vm
  | 0 => rfl
  | i + 1 => mq_vm i
theorem mq_top : ∀ i : Nat, (mq_st T cA cI N K i).topJava? = T.topJava?
  | 0 => rfl
  | i + 1 => mq_top i
theorem mq_used : ∀ i : Nat, (mq_st T cA cI N K i).slotsUsed = T.slotsUsed + N + i * K
  | 0 => by simp [mq_st, mq_out, arrV_size]
  | i + 1 => by simp [mq_st, mq_used i, arrV_size, Nat.succ_mul]; omega
theorem mq_old {x : Nat} (hx : x < T.heap.size) : ∀ i : Nat, (mq_st T cA cI N K i).heap[x]? = T.heap[x]?
  | 0 => by simp [mq_st, Array.getElem?_push, Nat.ne_of_lt hx]
  | i + 1 => by
    have h := mq_size (T := T) (cA := cA) (cI := cI) (N := N) (K := K) i
    simp [mq_st, Array.getElem?_setIfInBounds, Array.getElem?_push, Nat.ne_of_gt hx, show x ≠ (mq_st T cA cI N K i).heap.size by omega, mq_old hx i]
theorem mq_at : ∀ i : Nat, (mq_st T cA cI N K i).heap[T.heap.size]? = some (mq_out cA N T.heap.size i)
  | 0 => by simp [mq_st]
  | i + 1 => by
    have h := mq_size (T := T) (cA := cA) (cI := cI) (N := N) (K := K) i
    simp [mq_st, Array.getElem?_setIfInBounds, show T.heap.size < (mq_st T cA cI N K i).heap.size + 1 by omega]
theorem mq_row : ∀ (i j : Nat), j < i → (mq_st T cA cI N K i).heap[T.heap.size + 1 + j]? = some (arrV cI K (fun _ => .int 0))
  | 0, j, hj => absurd hj (Nat.not_lt_zero j)
  | i + 1, j, hj => by
    have h := mq_size (T := T) (cA := cA) (cI := cI) (N := N) (K := K) i
    have hne : T.heap.size ≠ T.heap.size + 1 + j := by omega
    show (((mq_st T cA cI N K i).heap.push _).setIfInBounds T.heap.size _)[T.heap.size + 1 + j]? = _
    rw [Array.getElem?_setIfInBounds, if_neg hne, Array.getElem?_push, h]
    by_cases e : j = i
    · subst e
      rw [if_pos rfl]
    · rw [if_neg (by omega)]
      exact mq_row i j (by omega)
end MQ
section MQS
variable {p : Program} {l : Launch} {e : Env} {R : Room} {s : State} {m : MethodId} {args : Array Value} {below : List Frame} {meth : Method} {c : Code} {T : State} {locs : List Loc} {cells slots : Nat}
theorem mq_stand (X : Jvm.Stand p l e R s m args below meth c T locs cells slots) (cA cI : ClassId) (N K : Nat) : ∀ i : Nat, Jvm.Stand p l e R s m args below meth c (mq_st T cA cI N K i) locs (cells + 1 + i) (slots + N + i * K)
  | 0 => by
    have h := X.pushed (mq_out cA N T.heap.size 0)
    unfold mq_out at h
    rw [arrV_size] at h
    simpa [mq_st, mq_out] using h
  | i + 1 => by
    have h := (mq_stand X cA cI N K i).pushed (arrV cI K (fun _ => .int 0))
    rw [arrV_size] at h
    have hz := mq_size (T := T) (cA := cA) (cI := cI) (N := N) (K := K) i
    have hc : ((mq_st T cA cI N K i).pushCell (arrV cI K (fun _ => .int 0))).heap[T.heap.size]? = some (mq_out cA N T.heap.size i) := by
      show ((mq_st T cA cI N K i).heap.push _)[T.heap.size]? = _
      rw [Array.getElem?_push, if_neg (by omega)]
      exact mq_at i
    have h2 := h.stored hc i (.ref (T.heap.size + 1 + i))
    rw [mq_outS] at h2
    have h3 := h2.dropFresh (fun x hx => by
      rw [List.mem_singleton.mp hx]
      exact X.heapGrown)
    have e1 : cells + 1 + (i + 1) = cells + 1 + i + 1 := rfl
    have e2 : slots + N + (i + 1) * K = slots + N + i * K + K := by rw [Nat.succ_mul]; omega
    rw [e1, e2]
    exact h3
end MQS
section MQW
variable {E : CtlPost} {e : Env} {d : Bool} {acts : List Action} {S : State}
/-- one array is made -/
theorem mq_new {cl : ClassId} {k : Class} {z : ClassId} {ty : FieldType} {n : Nat} {v : Value} (hk : S.vm.classes[cl]? = some k) (hkind : k.kind = .array z ty) (hv : fits ty v = true) (hl : ¬ n > e.platform.arrayLengthLimit) (hh : ¬ n * componentBytes ty > e.platform.maxHeapBytes) (h1 : S.heap.size < e.platform.maxCells) (h2 : S.slotsUsed + n ≤ e.platform.maxSlots) {Q : Addr → Pre}
    (hq : ∀ acts', Q S.heap.size d acts' (S.pushCell { cls := cl, slots := Array.replicate n v, vm := .none })) : wp (Jvm.newArray cl n v) Q E e d acts S := by
  have hf : ∀ i w, (Array.replicate n v)[i]? = some w → S.fitsSlot cl .none i w = true := by
    intro i w hw
    rw [Array.getElem?_replicate] at hw
    split at hw
    · cases hw
      simp [State.fitsSlot, State.slotType?, hk, hkind, hv]
    · cases hw
  have h3 : ¬ n > e.platform.maxSlots := by omega
  simp only [Jvm.newArray, Jvm.arrayFits, wp_bind', W.ask, W.ite, hl, if_false, wp_pure', W.theClass, hk, Option.some.injEq, exists_eq_left', hkind, hh, h3, W.alloc, Array.size_replicate]
  exact ⟨h1, h2, hf, hq _⟩
/-- a row is made -/
theorem mq_inner {cI z : ClassId} {kI : Class} {k : Int32} (hk : S.vm.classes[cI]? = some kI) (hkind : kI.kind = .array z .int) (h0 : ¬ k < 0) (hl : ¬ k.toNatClampNeg > e.platform.arrayLengthLimit) (hh : ¬ k.toNatClampNeg * componentBytes .int > e.platform.maxHeapBytes) (h1 : S.heap.size < e.platform.maxCells) (h2 : S.slotsUsed + k.toNatClampNeg ≤ e.platform.maxSlots) {Q : Addr → Pre}
    (hq : ∀ acts', Q S.heap.size d acts' (S.pushCell (arrV cI k.toNatClampNeg (fun _ => .int 0)))) : wp (Jvm.Op.multianewarray.make cI [k]) Q E e d acts S := by
  simp only [Jvm.Op.multianewarray.make, wp_bind', W.ite, h0, if_false, wp_pure', W.theClass, hk, Option.some.injEq, exists_eq_left', hkind]
  refine mq_new hk hkind rfl hl hh h1 h2 fun acts' => ?_
  have h := hq acts'
  rw [← arrV_new] at h
  exact h
variable {T : State} {f : JFrame}
/-- the outer array and its rows -/
theorem mq_make {cA cI z : ClassId} {kA kI : Class} {n k : Int32} (hkA : T.vm.classes[cA]? = some kA) (hkindA : kA.kind = .array cI (.array .int)) (hkI : T.vm.classes[cI]? = some kI) (hkindI : kI.kind = .array z .int) (hn : ¬ n < 0) (hk : ¬ k < 0) (hl1 : ¬ n.toNatClampNeg > e.platform.arrayLengthLimit) (hl2 : ¬ k.toNatClampNeg > e.platform.arrayLengthLimit) (hh1 : ¬ n.toNatClampNeg * componentBytes (.array .int) > e.platform.maxHeapBytes) (hh2 : ¬ k.toNatClampNeg * componentBytes .int > e.platform.maxHeapBytes)
    (hc : T.heap.size + (1 + n.toNatClampNeg) ≤ e.platform.maxCells) (hz : T.slotsUsed + (n.toNatClampNeg + n.toNatClampNeg * k.toNatClampNeg) ≤ e.platform.maxSlots) {Q : Addr → Pre} (hq : ∀ d' acts', Q T.heap.size d' acts' ((mq_st T cA cI n.toNatClampNeg k.toNatClampNeg n.toNatClampNeg).setTop f)) : wp (Jvm.Op.multianewarray.make cA [n, k]) Q E e d acts (T.setTop f) := by
  have hkA' : (T.setTop f).vm.classes[cA]? = some kA := hkA
  have hfind : List.find? (fun x : Int32 => decide (x < 0)) [k] = none := by simp [List.find?, hk]
  rw [Jvm.Op.multianewarray.make]
  simp only [wp_bind', W.ite, hn, if_false, wp_pure', W.theClass, hkA', Option.some.injEq, exists_eq_left', hkindA]
  refine mq_new hkA' hkindA rfl hl1 hh1 (by show T.heap.size < _; omega) (by show T.slotsUsed + _ ≤ _; omega) fun acts1 => ?_
  generalize hN : n.toNatClampNeg = N at hl1 hh1 hc hz hq ⊢
  generalize hKK : k.toNatClampNeg = K at hl2 hh2 hz hq ⊢
  simp only [hfind, wp_bind', wp_pure', ite_self]
  rw [mq_out0 cA N T.heap.size]
  rw [Std.Legacy.Range.forIn_eq_forIn_range']
  refine wp_forIn_inv (fun rest S' => ∃ i : Nat, i ≤ N ∧ rest = List.range' i (N - i) ∧ S' = (mq_st T cA cI N K i).setTop f) _ _ ⟨0, Nat.zero_le N, by simp [Std.Legacy.Range.size], rfl⟩ ?_ ?_
  · rintro x rest S' d' acts' Q' ⟨i, hi, hr, rfl⟩ hQ
    obtain ⟨q, hq9⟩ : ∃ q : Nat, N - i = q + 1 := by
      cases h : N - i with
      | zero => rw [h] at hr; cases hr
      | succ q => exact ⟨q, rfl⟩
    rw [hq9, List.range'_succ] at hr
    obtain ⟨rfl, rfl⟩ := List.cons.inj hr
    have hs : ((mq_st T cA cI N K x).setTop f).heap.size = T.heap.size + 1 + x := mq_size x
    have hu : ((mq_st T cA cI N K x).setTop f).slotsUsed = T.slotsUsed + N + x * K := mq_used x
    have hv : ((mq_st T cA cI N K x).setTop f).vm = T.vm := mq_vm x
    have hle : (x + 1) * K ≤ N * K := Nat.mul_le_mul_right K (by omega)
    rw [Nat.succ_mul] at hle
    simp only [wp_bind']
    refine mq_inner (by rw [hv]; exact hkI) hkindI hk (by rw [hKK]; exact hl2) (by rw [hKK]; exact hh2) (by rw [hs]; omega) (by rw [hu, hKK]; omega) fun acts2 => ?_
    rw [hKK, hs]
    simp only [wp_bind', W.writeLoc, wp_pure']
    have hat : (mq_st T cA cI N K x).heap[T.heap.size]? = some (mq_out cA N T.heap.size x) := mq_at x
    refine ⟨mq_out cA N T.heap.size x, ?_, (fun h => by cases h), ?_, ?_, ?_⟩
    · show ((mq_st T cA cI N K x).heap.push _)[T.heap.size]? = _
      rw [Array.getElem?_push, if_neg (by have := mq_size (T := T) (cA := cA) (cI := cI) (N := N) (K := K) x; omega)]
      exact hat
    · show x < (arrV cA N _).slots.size
      rw [arrV_size]
      omega
    · show (mq_st T cA cI N K x).fitsSlot cA .none x (.ref _) = true
      have hkA2 : (mq_st T cA cI N K x).vm.classes[cA]? = some kA := by rw [mq_vm]; exact hkA
      simp [State.fitsSlot, State.slotType?, hkA2, hkindA]
      rfl
    · refine hQ _ _ _ ⟨x + 1, by omega, by rw [show N - (x + 1) = q by omega], ?_⟩
      rw [mq_outS]
      rfl
  · rintro S' d' acts' ⟨i, hi, hr, rfl⟩
    have e1 : i = N := by
      cases h : N - i with
      | zero => omega
      | succ q => rw [h, List.range'_succ] at hr; cases hr
    subst e1
    exact hq d' acts'
/-- the instruction, its class linked -/
theorem mq_sem {cA cI z : ClassId} {kA kI : Class} {n k : Int32} {index : Nat} {rest : List Value} (hs : T.topJava?.isSome) (hr : T.vm.classReady f.method.cls index cA) (hstack : f.stack = .int k :: .int n :: rest) (hkA : T.vm.classes[cA]? = some kA) (hkindA : kA.kind = .array cI (.array .int)) (hkI : T.vm.classes[cI]? = some kI) (hkindI : kI.kind = .array z .int) (hn : ¬ n < 0) (hk : ¬ k < 0) (hl1 : ¬ n.toNatClampNeg > e.platform.arrayLengthLimit) (hl2 : ¬ k.toNatClampNeg > e.platform.arrayLengthLimit) (hh1 : ¬ n.toNatClampNeg * componentBytes (.array .int) > e.platform.maxHeapBytes) (hh2 : ¬ k.toNatClampNeg * componentBytes .int > e.platform.maxHeapBytes)
    (hc : T.heap.size + (1 + n.toNatClampNeg) ≤ e.platform.maxCells) (hz : T.slotsUsed + (n.toNatClampNeg + n.toNatClampNeg * k.toNatClampNeg) ≤ e.platform.maxSlots) {Q : Unit → Pre} (hq : ∀ d' acts', Q () d' acts' ((mq_st T cA cI n.toNatClampNeg k.toNatClampNeg n.toNatClampNeg).setTop { f with stack := .ref T.heap.size :: rest })) : wp (Jvm.Op.multianewarray.sem index 2) Q E e d acts (T.setTop f) := by
  have hp := fun (Q' : List Value → Pre) (d' : Bool) (acts' : List Action) => Jvm.Op.popN_top (E := E) (e := e) (d := d') (acts := acts') (Q := Q') (f := f) hs (args := [.int n, .int k]) (rest := rest) hstack
  simp only [List.length_cons, List.length_nil, Nat.zero_add, Nat.reduceAdd] at hp
  simp only [Jvm.Op.multianewarray.sem, wp_bind', W.resolveClassAt_ready (State.method?_setTop f hs) hr, hp, List.mapM_cons, List.mapM_nil, wp_pure']
  refine mq_make hkA hkindA hkI hkindI hn hk hl1 hl2 hh1 hh2 hc hz fun d' acts' => ?_
  simp only [wp_bind', W.mark, W.pushRef]
  have ht : (mq_st T cA cI n.toNatClampNeg k.toNatClampNeg n.toNatClampNeg).topJava?.isSome := by rw [mq_top]; exact hs
  refine ⟨_, State.topJava?_setTop' _ ht, ?_⟩
  rw [State.setTop_setTop]
  exact hq _ _
end MQW
section MQX
variable {p : Program} {l : Launch} {e : Env} {R : Room} {s : State} {m : MethodId} {args : Array Value} {below : List Frame} {meth : Method} {c : Code} {T : State} {locs : List Loc} {cells slots : Nat}
/-- the step in a walk -/
theorem mq_step (X : Jvm.Stand p l e R s m args below meth c T locs cells slots) (hx : p.tables.exec = Jvm.exec) {own : String} {index : Nat} (hown : s.vm.findClass own = some m.cls) (hcl : (Jvm.Cond.classLink own index "[[I").before args s = true) (hover : (Jvm.Cond.arrayOver (.array .int)).before #[] s = true) (harr : (Jvm.Cond.arrayClass .int).before args s = true) {g : JFrame} (hg : g.method = m) (hdg : decode c.code g.pc = .ok (.multianewarray index 2, 4)) {n k : Int32} {rest : List Value} (hstack : g.stack = .int k :: .int n :: rest) (hn : ¬ n < 0) (hk : ¬ k < 0) (hn2 : n.toNatClampNeg ≤ 100000) (hk2 : k.toNatClampNeg ≤ 100000)
    (hcells : cells + (1 + n.toNatClampNeg) ≤ R.cells) (hslots : slots + (n.toNatClampNeg + n.toNatClampNeg * k.toNatClampNeg) ≤ R.slots) :
    ∃ (vm₁ : Vm) (cA cI : ClassId), s.vm.findClass "[[I" = some cA ∧ s.vm.findClass "[I" = some cI ∧ Jvm.Stand p l e R s m args below meth c (mq_st (T.setVm vm₁) cA cI n.toNatClampNeg k.toNatClampNeg n.toNatClampNeg) locs (cells + 1 + n.toNatClampNeg) (slots + n.toNatClampNeg + n.toNatClampNeg * k.toNatClampNeg) ∧
      ∀ target, Steps p.tables e below ((mq_st (T.setVm vm₁) cA cI n.toNatClampNeg k.toNatClampNeg n.toNatClampNeg).setTop { g with pc := g.pc + 4, stack := .ref T.heap.size :: rest }) target → Steps p.tables e below (T.setTop g) target := by
  subst hg
  have hpl : e.platform.magicAccessors = ({} : Platform).magicAccessors := by rw [X.admits.platform]
  obtain ⟨cI, cA, kA, f1, -, f3, f4, f5⟩ := arrayOverA_spec hover
  obtain ⟨cI', kI, z, q1, q2, q3⟩ := Cond.arrayClass_spec harr
  cases Option.some.inj (q1.symm.trans f1 : some cI' = some cI)
  obtain ⟨cA', w1, w2⟩ := Cond.classLink_spec hown hcl e.platform hpl
  cases Option.some.inj (w1.symm.trans f5 : some cA' = some cA)
  obtain ⟨hg₁, hwarm₁, hready₁⟩ := State.classEntry (e := e) X.warmed w2
  generalize T.vm.noted g.method.cls index (.cls cA) = vm₁ at hg₁ hwarm₁ hready₁
  have hal : s.vm.Alike vm₁ := hwarm₁.alike
  obtain ⟨kA₁, hkA₁, eA⟩ := hal.2.2 _ _ f3
  obtain ⟨kI₁, hkI₁, eI⟩ := hal.2.2 _ _ q2
  obtain ⟨hr1, hr2⟩ := X.roomAbove hcells hslots
  have hlim : ∀ q : Nat, q ≤ 100000 → ¬ q > e.platform.arrayLengthLimit := fun q h => by
    rw [Launch.admits_arrayLengthLimit X.admits]
    omega
  have hhp : ∀ q : Nat, q ≤ 100000 → ¬ q * 4 > e.platform.maxHeapBytes := fun q h => by
    rw [Launch.admits_maxHeapBytes X.admits]
    omega
  refine ⟨vm₁, cA, cI, f5, f1, mq_stand (X.noted hwarm₁) cA cI _ _ _, fun target hrest => ?_⟩
  refine Steps.instr (c := _) (by simpa using X.here) ?_
  rw [hdg]
  simp only [wpRun, hx, exec]
  have hcold : ∀ Q' : Unit → Pre, wp (Jvm.Op.multianewarray.sem index 2) Q' (fun c acts s' => ∀ (acts : List Action), Steps p.tables e below (afterInstr e 4 (Res.ctl c s' acts)).fst target) e false [] (T.setTop g) ↔ wp (Jvm.Op.multianewarray.sem index 2) Q' (fun c acts s' => ∀ (acts : List Action), Steps p.tables e below (afterInstr e 4 (Res.ctl c s' acts)).fst target) e false [] ((T.setVm vm₁).setTop g) := fun Q' => by
    simp only [Jvm.Op.multianewarray.sem, wp_bind']
    exact W.resolveClassAt_transfer (s := T.setTop g) (State.method?_setTop g X.here.top) hg₁ hready₁
  rw [hcold]
  refine mq_sem (T := T.setVm vm₁) (f := g) X.here.top hready₁ hstack hkA₁ (by rw [eA]; exact f4) hkI₁ (by rw [eI]; exact q3) hn hk (hlim _ hn2) (hlim _ hk2) (hhp _ hn2) (hhp _ hk2) hr1 hr2 fun d' acts' acts2 => ?_
  rw [afterInstr_ok]
  exact hrest
end MQX
end
section
/-! THE MACHINE'S MAKINGS, as the pure machine has them. -/
theorem ex_dflV (B b : Nat) {ci k : Nat} (hk : k < ex_nf ci) : defaultValue (ex_ty ci k) = vp_V ((ex_dfl ci).map (ex_sv B b)) k := by
  have e : ∀ ty : FieldType, ex_sv B b (defaultValue ty) = defaultValue ty := fun ty => by cases ty <;> rfl
  simp [vp_V, ex_dfl, List.getD_eq_getElem?_getD, hk, e]
theorem ex_new2_rep {D : va_G} {dA : Nat → ClassId} {B b : Nat} {scr : Cell} {h : ex_Hp} {H H' : Heap} (hR : ex_Rep D dA B b scr h H) {N K : Nat} (hz : H'.size = H.size + 1 + N) (oq : ∀ q : Nat, q < H.size → H'[q]? = H[q]?) (ho : H'[H.size]? = some (arrV (dA 2) N (fun i => va_rf (if i < N then some (H.size + 1 + i) else none)))) (hi : ∀ j : Nat, j < N → H'[H.size + 1 + j]? = some (arrV (dA 0) K (fun _ => .int 0))) : ex_Rep D dA B b scr (ex_new2 h N K) H' := by
  have ht := ex_top hR
  obtain ⟨r1, r2, r3, r4, r5⟩ := hR
  refine ⟨by show 1 ≤ h.1 + 1 + N; omega, by show H'.size + 1 = B + (h.1 + 1 + N); omega, r3, by rw [oq b (by omega)]; exact r4, fun a' c' hc => ?_⟩
  simp only [ex_new2] at hc
  by_cases e : a' = h.1
  · subst e
    rw [if_pos rfl] at hc
    cases hc
    refine Or.inr ⟨r1, by show h.1 < h.1 + 1 + N; omega, Or.inl rfl, ?_⟩
    show H'[ex_sh B b h.1]? = some (vp_cell _ _)
    rw [ht, ho, vp_cell_q]
    congr 2
    funext i
    dsimp only
    by_cases q : i < N
    · rw [if_pos q, if_pos q]
      show va_rf (some (H.size + 1 + i)) = va_rf (some (ex_sh B b (h.1 + 1 + i)))
      congr 2
      unfold ex_sh
      rw [if_neg (by omega)]
      omega
    · rw [if_neg q, if_neg q]
      rfl
  · rw [if_neg e] at hc
    by_cases e2 : h.1 < a' ∧ a' < h.1 + 1 + N
    · rw [if_pos e2] at hc
      cases hc
      refine Or.inr ⟨by omega, e2.2, Or.inl rfl, ?_⟩
      show H'[ex_sh B b a']? = some (vp_cell _ _)
      rw [vp_cell_i]
      have e3 : ex_sh B b a' = H.size + 1 + (a' - h.1 - 1) := by
        unfold ex_sh
        rw [if_neg (by omega)]
        omega
      rw [e3]
      exact hi _ (by omega)
    · rw [if_neg e2] at hc
      rcases r5 a' c' hc with h9 | ⟨g1, g2, g3, g4⟩
      · exact Or.inl h9
      · exact Or.inr ⟨g1, by show a' < h.1 + 1 + N; omega, g3, g4.kept (oq _ g4.lt)⟩
section EXM
variable {p : Program} {l : Launch} {e : Env} {R : Room} {s : State} {m : MethodId} {args : Array Value} {below : List Frame} {meth : Method} {c : Code} {H : Heap} {locs : List Loc} {cells slots : Nat} {Q : State → Prop}
variable {D : va_G} {dA : Nat → ClassId} {B b : Nat} {scr : Cell} {cc : ByteArray} {pc : Nat} {ls : Array Slot} {rest : List Value} {h : ex_Hp} {own : String} {index : Nat}
theorem ex_Sgrow {H' : Heap} {N : Nat} (hS : va_S (fun q => B ≤ q) s.heap H locs) (hz : H'.size = H.size + N) (oq : ∀ q : Nat, q < H.size → H'[q]? = H[q]?) : va_S (fun q => B ≤ q) s.heap H' locs :=
  ⟨Nat.le_trans hS.1 (by omega), fun x h1 h2 => (oq x (Nat.lt_of_lt_of_le h1 hS.1)).trans (hS.2.1 x h1 h2), hS.2.2⟩
theorem ex_rnew (hx : p.tables.exec = Jvm.exec) (hb : c.code = cc) (hts : ∀ w ∈ ex_gw, w.before args s = true) (hown : s.vm.findClass own = some m.cls) (hK : ex_K D dA scr s) (hR : ex_Rep D dA B b scr h H) (hS : va_S (fun q => B ≤ q) s.heap H locs) {ci : Nat} (hci : ci < 9) (hcl : Jvm.Cond.classLink own index (ex_T ci).1 ∈ ex_gw) (hcells : cells + 1 ≤ R.cells) (hslots : slots + ex_nf ci ≤ R.slots) (hdg : decode cc pc = .ok (.new index, 3))
    (kk : ∀ H' : Heap, ex_Rep D dA B b scr (ex_new h (.inr (.inr (ci, ex_dfl ci))) (ex_nf ci)) H' → va_S (fun q => B ≤ q) s.heap H' locs → W p l e R s m args below meth c H' locs (cells + 1) (slots + ex_nf ci) Q (F0 m (pc + 3) ls (.ref (ex_sh B b h.1) :: rest))) : W p l e R s m args below meth c H locs cells slots Q (F0 m pc ls rest) := by
  have hKn := hK.1.1 ci _ (ex_vw hci)
  have hi := (ex_vw_new hci).1
  rw [ex_nfN hci] at hi
  refine W.newcK (n := ex_nf ci) hx hb hown (hts _ hcl) (hts _ hi) (hts _ (ex_vw_new hci).2) rfl hdg hcells hslots hKn.2.1 rfl fun H1 kC hkC e1 z1 o1 => ?_
  have k1 := kk H1 (hR.push z1 o1 hci ?_) (ex_Sgrow hS z1 o1)
  · rw [ex_top hR] at k1
    exact k1
  · exact ⟨_, ex_vw hci, (u_born (ex_ty ci) hts (ex_vw_in hci) hKn hkC e1 (ex_tyok hci)).to (fun j hj => ex_dflV B b (by rw [← ex_nfN hci]; exact hj))⟩
theorem ex_rnewa (hx : p.tables.exec = Jvm.exec) (hb : c.code = cc) (hts : ∀ w ∈ ex_gw, w.before args s = true) (hK : ex_K D dA scr s) (hR : ex_Rep D dA B b scr h H) (hS : va_S (fun q => B ≤ q) s.heap H locs) {t : Nat} {atype : ArrayType} (hat : (t = 0 ∧ atype = .int) ∨ (t = 1 ∧ atype = .boolean)) {n : Int32} (hn : ¬ (n < 0 ∨ 100000 < n.toNatClampNeg)) (hcells : cells + 1 ≤ R.cells) (hslots : slots + n.toNatClampNeg ≤ R.slots) (hdg : decode cc pc = .ok (.newarray atype, 2))
    (kk : ∀ H' : Heap, ex_Rep D dA B b scr (ex_new h (.inl (t, n.toNatClampNeg, fun _ => 0)) n.toNatClampNeg) H' → va_S (fun q => B ≤ q) s.heap H' locs → W p l e R s m args below meth c H' locs (cells + 1) (slots + n.toNatClampNeg) Q (F0 m (pc + 2) ls (.ref (ex_sh B b h.1) :: rest))) : W p l e R s m args below meth c H locs cells slots Q (F0 m pc ls (.int n :: rest)) := by
  have h1 : ¬ n < 0 := fun q => hn (Or.inl q)
  have h2 : n.toNatClampNeg ≤ 100000 := Nat.not_lt.mp fun q => hn (Or.inr q)
  rcases hat with ⟨rfl, rfl⟩ | ⟨rfl, rfl⟩
  · refine va_newaK (atype := .int) hx hb (hts _ (ex_gw_of ex_arr_in.1)) rfl hdg rfl h1 rfl (by show n.toNatClampNeg * 4 ≤ _; omega) hcells hslots rfl fun H1 cA e1 z1 o1 hAr hNm => ?_
    have ec : dA 0 = cA := Option.some.inj ((hK.1.2 0 _ rfl).2.symm.trans hNm)
    have k1 := kk H1 (hR.push z1 o1 (Or.inl rfl) (by show H1[H.size]? = some (vp_cell _ _); rw [vp_cell_i, ec]; exact e1)) (ex_Sgrow hS z1 o1)
    rw [ex_top hR] at k1
    exact k1
  · refine va_newaK (atype := .boolean) hx hb (hts _ (ex_gw_of ex_arr_in.2)) rfl hdg rfl h1 rfl (by show n.toNatClampNeg * 1 ≤ _; omega) hcells hslots rfl fun H1 cA e1 z1 o1 hAr hNm => ?_
    have ec : dA 1 = cA := Option.some.inj ((hK.1.2 1 _ rfl).2.symm.trans hNm)
    have k1 := kk H1 (hR.push z1 o1 (Or.inr rfl) (by show H1[H.size]? = some (vp_cell _ _); rw [vp_cell_i, ec]; exact e1)) (ex_Sgrow hS z1 o1)
    rw [ex_top hR] at k1
    exact k1
theorem ex_ranew (hx : p.tables.exec = Jvm.exec) (hb : c.code = cc) (hts : ∀ w ∈ ex_gw, w.before args s = true) (hown : s.vm.findClass own = some m.cls) (hK : ex_K D dA scr s) (hR : ex_Rep D dA B b scr h H) (hS : va_S (fun q => B ≤ q) s.heap H locs) {t : Nat} {C : String} (hat : (t = 3 ∧ C = RX1) ∨ (t = 4 ∧ C = RX5) ∨ (t = 5 ∧ C = RX7)) (hcl : Jvm.Cond.classLink own index C ∈ ex_gw) {n : Int32} (hn : ¬ (n < 0 ∨ 100000 < n.toNatClampNeg)) (hcells : cells + 1 ≤ R.cells) (hslots : slots + n.toNatClampNeg ≤ R.slots) (hdg : decode cc pc = .ok (.anewarray index, 3))
    (kk : ∀ H' : Heap, ex_Rep D dA B b scr (ex_new h (.inr (.inl (t, n.toNatClampNeg, fun _ => none))) n.toNatClampNeg) H' → va_S (fun q => B ≤ q) s.heap H' locs → W p l e R s m args below meth c H' locs (cells + 1) (slots + n.toNatClampNeg) Q (F0 m (pc + 3) ls (.ref (ex_sh B b h.1) :: rest))) : W p l e R s m args below meth c H locs cells slots Q (F0 m pc ls (.int n :: rest)) := by
  have h1 : ¬ n < 0 := fun q => hn (Or.inl q)
  have h2 : n.toNatClampNeg ≤ 100000 := Nat.not_lt.mp fun q => hn (Or.inr q)
  have key : (Jvm.Cond.arrayOver (.object C)).before #[] s = true → va_RA s (dA t) (.object C) → (t = 2 ∨ t = 3 ∨ t = 4 ∨ t = 5) → W p l e R s m args below meth c H locs cells slots Q (F0 m pc ls (.int n :: rest)) := by
    intro hover hra htt
    obtain ⟨kA', comp', -, -, -, hra4⟩ := hra
    refine W.anew hx hb hown (hts _ hcl) hover rfl hdg rfl h1 (by omega) hcells hslots fun cA kA comp f1 f2 f3 f4 => ?_
    have ec : dA t = cA := Option.some.inj (hra4.symm.trans f1)
    have k1 := kk (H.push ({ cls := cA, slots := Array.replicate n.toNatClampNeg .null, vm := .none } : Cell)) (hR.push (by rw [Array.size_push]) (fun q hq => by rw [Array.getElem?_push, if_neg (Nat.ne_of_lt hq)]) htt (by
      show (H.push _)[H.size]? = some (arrV (dA t) _ (fun _ => .null))
      rw [Array.getElem?_push_size, ← arrV_new, ec])) (ex_Sgrow hS (N := 1) (by rw [Array.size_push]) (fun q hq => by rw [Array.getElem?_push, if_neg (Nat.ne_of_lt hq)]))
    rw [ex_top hR] at k1
    exact k1
  rcases hat with ⟨rfl, rfl⟩ | ⟨rfl, rfl⟩ | ⟨rfl, rfl⟩
  · exact key (hK.2.2.1 _ (by simp [ex_over])) (hK.1.2 3 _ rfl).2 (by omega)
  · exact key (hK.2.2.1 _ (by simp [ex_over])) (hK.1.2 4 _ rfl).2 (by omega)
  · exact key (hK.2.2.1 _ (by simp [ex_over])) (hK.1.2 5 _ rfl).2 (by omega)
theorem ex_rmna (hx : p.tables.exec = Jvm.exec) (hb : c.code = cc) (hts : ∀ w ∈ ex_gw, w.before args s = true) (hown : s.vm.findClass own = some m.cls) (hK : ex_K D dA scr s) (hR : ex_Rep D dA B b scr h H) (hS : va_S (fun q => B ≤ q) s.heap H locs) (hcl : Jvm.Cond.classLink own index "[[I" ∈ ex_gw) {n k : Int32} (hn : ¬ (n < 0 ∨ 100000 < n.toNatClampNeg ∨ k < 0 ∨ 100000 < k.toNatClampNeg)) (hcells : cells + (1 + n.toNatClampNeg) ≤ R.cells) (hslots : slots + (n.toNatClampNeg + n.toNatClampNeg * k.toNatClampNeg) ≤ R.slots) (hdg : decode cc pc = .ok (.multianewarray index 2, 4))
    (kk : ∀ H' : Heap, ex_Rep D dA B b scr (ex_new2 h n.toNatClampNeg k.toNatClampNeg) H' → va_S (fun q => B ≤ q) s.heap H' locs → W p l e R s m args below meth c H' locs (cells + 1 + n.toNatClampNeg) (slots + n.toNatClampNeg + n.toNatClampNeg * k.toNatClampNeg) Q (F0 m (pc + 4) ls (.ref (ex_sh B b h.1) :: rest))) : W p l e R s m args below meth c H locs cells slots Q (F0 m pc ls (.int k :: .int n :: rest)) := by
  have h1 : ¬ n < 0 := fun q => hn (Or.inl q)
  have h2 : n.toNatClampNeg ≤ 100000 := Nat.not_lt.mp fun q => hn (Or.inr (Or.inl q))
  have h3 : ¬ k < 0 := fun q => hn (Or.inr (Or.inr (Or.inl q)))
  have h4 : k.toNatClampNeg ≤ 100000 := Nat.not_lt.mp fun q => hn (Or.inr (Or.inr (Or.inr q)))
  intro T hT Xs
  obtain ⟨vm₁, cA, comp, fA, fC, X', step⟩ := mq_step Xs hx hown (hts _ hcl) (hK.2.2.1 (.array .int) (by simp [ex_over])) (hts _ (ex_gw_of ex_arr_in.1)) (g := F0 m pc ls (.int k :: .int n :: rest)) rfl (by rw [hb]; exact hdg) rfl h1 h3 h2 h4 hcells hslots
  have e0 : dA 0 = comp := Option.some.inj ((hK.1.2 0 _ rfl).2.symm.trans fC)
  have e2 : dA 2 = cA := Option.some.inj ((hK.1.2 2 _ rfl).2.symm.trans fA)
  have hTh : (T.setVm vm₁).heap = H := hT
  have f1 := mq_size (T := T.setVm vm₁) (cA := cA) (cI := comp) (N := n.toNatClampNeg) (K := k.toNatClampNeg) n.toNatClampNeg
  have f2 := mq_at (T := T.setVm vm₁) (cA := cA) (cI := comp) (N := n.toNatClampNeg) (K := k.toNatClampNeg) n.toNatClampNeg
  have f3 := mq_row (T := T.setVm vm₁) (cA := cA) (cI := comp) (N := n.toNatClampNeg) (K := k.toNatClampNeg) n.toNatClampNeg
  have f4 := fun (x : Nat) (hx9 : x < (T.setVm vm₁).heap.size) => mq_old (T := T.setVm vm₁) (cA := cA) (cI := comp) (N := n.toNatClampNeg) (K := k.toNatClampNeg) hx9 n.toNatClampNeg
  generalize hF : mq_st (T.setVm vm₁) cA comp n.toNatClampNeg k.toNatClampNeg n.toNatClampNeg = F at X' step f1 f2 f3 f4
  rw [hTh] at f1 f2
  simp only [hTh] at f3 f4
  have hold : ∀ x : Nat, x < H.size → F.heap[x]? = H[x]? := f4
  have hrow : ∀ j : Nat, j < n.toNatClampNeg → F.heap[H.size + 1 + j]? = some (arrV (dA 0) k.toNatClampNeg (fun _ => .int 0)) := fun j hj => by
    rw [e0]
    exact f3 j hj
  unfold mq_out at f2
  rw [← e2] at f2
  have f1' : F.heap.size = H.size + (1 + n.toNatClampNeg) := by omega
  obtain ⟨t, a1, b1⟩ := kk F.heap (ex_new2_rep hR f1 hold f2 hrow) (ex_Sgrow hS f1' hold) F rfl X'
  refine ⟨t, step t ?_, b1⟩
  have e9 : T.heap.size = H.size := by rw [hT]
  rw [ex_top hR] at a1
  rw [e9]
  exact a1
theorem ex_rcopy (hx : p.tables.exec = Jvm.exec) (hb : c.code = cc) (hml : c.maxLocals = ls.size) (hts : ∀ w ∈ ex_gw, w.before args s = true) (hown : s.vm.findClass own = some m.cls) (hl : Jvm.Cond.methodLink own index arraycopyName ∈ ex_gw) (hK : ex_K D dA scr s) (hR : ex_Rep D dA B b scr h H) (hS : va_S (fun q => B ≤ q) s.heap H locs) {o d n0 n1 : Nat} {f g : Nat → Int32} (ho : h.2.2 o = some (.inl (0, n0, f))) (hd : h.2.2 d = some (.inl (0, n1, g))) {sp dp n : Int32} (h1 : ¬ sp < 0) (h2 : ¬ dp < 0) (h3 : ¬ n < 0) (h4 : sp.toNatClampNeg + n.toNatClampNeg ≤ n0) (h5 : dp.toNatClampNeg + n.toNatClampNeg ≤ n1)
    (hframes : 1 ≤ R.frames) (hlocals : (rest.map fun v => v.category).sum + (nativeFrameWords "java/lang/System" "arraycopy" 5 + 11) ≤ R.locals) (hdg : decode cc pc = .ok (.invokestatic index, 3))
    (kk : ∀ (H' : Heap) (locs' : List Loc), ex_Rep D dA B b scr (ex_set h d (.inl (0, n1, va_cpy f g sp.toNatClampNeg dp.toNatClampNeg n.toNatClampNeg))) H' → va_S (fun q => B ≤ q) s.heap H' locs' → W p l e R s m args below meth c H' locs' cells slots Q (F0 m (pc + 3) ls rest)) : W p l e R s m args below meth c H locs cells slots Q (F0 m pc ls (.int n :: .int dp :: .ref (ex_sh B b d) :: .int sp :: .ref (ex_sh B b o) :: rest)) := by
  have nn : ∀ z : Int32, ¬ z < 0 → z.toInt = (z.toNatClampNeg : Int) := by
    intro z hz
    have hz0 : (0 : Int) ≤ z.toInt := by
      have := Int32.not_lt.mp hz
      simpa using Int32.le_iff_toInt_le.mp this
    show z.toInt = ((z.toInt.toNat : Nat) : Int)
    omega
  rcases hR.2.2.2.2 o _ ho with ⟨rfl, n', f', hc, q1, q2, q3⟩ | ⟨g1, g2, g3, hc0⟩
  · cases hc
  rcases hR.2.2.2.2 d _ hd with ⟨rfl, n', f', hc, q1, q2, q3⟩ | ⟨w1, w2, w3, hc1⟩
  · cases hc
  have hc0 : H[ex_sh B b o]? = some (vp_cell (dA 0) (n0, .inl f)) := hc0
  have hc1 : H[ex_sh B b d]? = some (vp_cell (dA 0) (n1, .inl g)) := hc1
  intro T hT X
  obtain ⟨-, k0, hk0, cm0, hkk0⟩ := (hK.1.2 0 _ rfl).1 n0 (fun j => .int (f j))
  obtain ⟨vm', X', step⟩ := X.arraycopy hx hown (hts _ hl) (hts _ (ex_gw_of ex_copy_in.1)) (hts _ (ex_gw_of ex_copy_in.2.1)) (hts _ (ex_gw_of ex_copy_in.2.2)) (src := ex_sh B b o) (dst := ex_sh B b d) (cs := vp_cell (dA 0) (n0, .inl f)) (cd := vp_cell (dA 0) (n1, .inl g)) (srcPos := sp) (destPos := dp) (n := n) (by rw [hT]; exact hc0) (by rw [hT]; exact hc1)
    (fun _ h => by cases h) (fun _ h => by cases h) (fun h => by cases h) (fun h => by cases h) hk0 hk0 hkk0 hkk0 (by simp [refKind]) h1 h2 h3
    (by rw [nn sp h1, nn n h3]; show ¬ _ > ((arrV (dA 0) n0 (fun j => .int (f j))).slots.size : Int); rw [arrV_size]; omega)
    (by rw [nn dp h2, nn n h3]; show ¬ _ > ((arrV (dA 0) n1 (fun j => .int (g j))).slots.size : Int); rw [arrV_size]; omega)
    (fun vm₁ _ i hi => by
      have e : (vp_cell (dA 0) (n0, .inl f)).slots.getD (sp.toNatClampNeg + i) .null = .int (f (sp.toNatClampNeg + i)) := by
        show (arrV (dA 0) n0 (fun j => .int (f j))).slots.getD _ _ = _
        rw [Array.getD_eq_getD_getElem?, arrV_read _ _ (by omega)]
        rfl
      refine ⟨?_, ?_⟩
      · rw [e]
        rfl
      · rw [e]
        exact trivial)
    (g := F0 m pc ls (.int n :: .int dp :: .ref (ex_sh B b d) :: .int sp :: .ref (ex_sh B b o) :: rest)) rfl (by rw [hml]) (rest := rest) rfl (by rw [hb]; exact hdg) hframes (by show 2 * 0 + _ + _ ≤ _; omega)
  have e1 : copied (vp_cell (dA 0) (n0, .inl f)) (vp_cell (dA 0) (n1, .inl g)) sp dp n = vp_cell (dA 0) (n1, .inl (va_cpy f g sp.toNatClampNeg dp.toNatClampNeg n.toNatClampNeg)) := va_copied (fun z => .int z) (dA 0) (dA 0) f g h4
  rw [e1] at X' step
  have hlt : ex_sh B b d < H.size := (Array.getElem?_eq_some_iff.mp hc1).1
  generalize hN : vp_cell (dA 0) (n1, .inl (va_cpy f g sp.toNatClampNeg dp.toNatClampNeg n.toNatClampNeg)) = newc at X' step
  have hheap : ((T.setVm vm').setCell (ex_sh B b d) newc).heap = H.setIfInBounds (ex_sh B b d) newc := by rw [← hT]; rfl
  have oq : ∀ q : Nat, q ≠ ex_sh B b d → (H.setIfInBounds (ex_sh B b d) newc)[q]? = H[q]? := fun q hq => by simp [Array.getElem?_setIfInBounds, Ne.symm hq]
  obtain ⟨t, a1, b1⟩ := kk (H.setIfInBounds (ex_sh B b d) newc) _ (hR.put w1 w2 (by simp) oq (Or.inl rfl) (show (H.setIfInBounds (ex_sh B b d) newc)[ex_sh B b d]? = some (vp_cell (dA 0) _) by rw [hN]; simp [Array.getElem?_setIfInBounds, hlt])) ⟨by simp; exact hS.1, fun q g1 g2 => by
      rw [oq q (fun e => g2 (by rw [e]; exact ex_sh_ge w1))]
      exact hS.2.1 q g1 g2, fun q hq => by
      rcases List.mem_append.mp hq with h | h
      · exact hS.2.2 q h
      · obtain ⟨z, -, hz⟩ := List.mem_map.mp h
        rw [← hz]
        exact ex_sh_ge w1⟩ _ hheap X'
  exact ⟨t, step t a1, b1⟩
theorem ex_rclone (hx : p.tables.exec = Jvm.exec) (hb : c.code = cc) (hml : c.maxLocals = ls.size) (hts : ∀ w ∈ ex_gw, w.before args s = true) (hown : s.vm.findClass own = some m.cls) (hl : Jvm.Cond.methodLink own index ex_clname ∈ ex_gw) (hK : ex_K D dA scr s) (hR : ex_Rep D dA B b scr h H) (hS : va_S (fun q => B ≤ q) s.heap H locs) {o n : Nat} {f : Nat → Int32} (ho : h.2.2 o = some (.inl (0, n, f)))
    (hframes : 1 ≤ R.frames) (hlocals : (rest.map fun v => v.category).sum + 14 ≤ R.locals) (hcells : cells + 1 ≤ R.cells) (hslots : slots + n ≤ R.slots) (hdg : decode cc pc = .ok (.invokevirtual index, 3))
    (kk : ∀ H' : Heap, ex_Rep D dA B b scr (ex_new h (.inl (0, n, f)) n) H' → va_S (fun q => B ≤ q) s.heap H' locs → W p l e R s m args below meth c H' locs (cells + 1) (slots + n) Q (F0 m (pc + 3) ls (.ref (ex_sh B b h.1) :: rest))) : W p l e R s m args below meth c H locs cells slots Q (F0 m pc ls (.ref (ex_sh B b o) :: rest)) := by
  rcases hR.2.2.2.2 o _ ho with ⟨rfl, n', f', hc, q1, q2, q3⟩ | ⟨g1, g2, g3, hc0⟩
  · cases hc
  have hc0 : H[ex_sh B b o]? = some (arrV (dA 0) n (fun j => .int (f j))) := hc0
  have hnm : s.vm.findClass "[I" = some (dA 0) := (hK.1.2 0 _ rfl).2
  obtain ⟨c0, t0', f1, f2, f3⟩ := Cond.castable_spec (va_Nw.use (A := args) rfl hK.2.2.2.1)
  cases hnm.symm.trans f1
  intro T hT X
  have hcellT : T.heap[ex_sh B b o]? = some (arrV (dA 0) n (fun j => .int (f j))) := by rw [hT]; exact hc0
  obtain ⟨-, kA, hkA, comp, hkind⟩ := State.isArrayOf_alike X.warmed.alike ((hK.1.2 0 _ rfl).1 0 (fun _ => .null))
  obtain ⟨-, kS, hkS, compS, hkindS⟩ := (hK.1.2 0 _ rfl).1 0 (fun _ => .null)
  obtain ⟨vm', X', st⟩ := X.cloneArray hx hown (hts _ hl) (hts _ (ex_gw_of ex_clone_in.1)) (hts _ (ex_gw_of ex_clone_in.2.1)) (hts _ (ex_gw_of ex_clone_in.2.2.1)) (hts _ (ex_gw_of ex_clone_in.2.2.2)) (a := ex_sh B b o) (cell := arrV (dA 0) n (fun j => .int (f j))) hcellT (fun k h => by cases h) (fun h => by cases h) hnm f2 f3
    (fun i v hv => by
      have hk' : T.vm.classes[dA 0]? = some kA := hkA
      have hf : fits .int v = true := by
        by_cases hi : i < n
        · rw [arrV_read _ _ hi] at hv
          cases hv
          rfl
        · rw [Array.getElem?_eq_none (by rw [arrV_size]; omega)] at hv
          cases hv
      show T.fitsSlot (dA 0) _ i v = true
      simpa [State.fitsSlot, State.slotType?, hk', hkind, arrV] using hf)
    (g := F0 m pc ls (.ref (ex_sh B b o) :: rest)) rfl (by rw [hml]) rfl (by rw [hb]; exact hdg) hframes (by show 2 * 0 + _ + 14 ≤ _; omega) hcells (by rw [arrV_size]; exact hslots) (hloader := Vm.clonesLoader_of_array hkS hkindS)
  have hcE : ({ cls := (arrV (dA 0) n (fun j => .int (f j))).cls, slots := (arrV (dA 0) n (fun j => .int (f j))).slots } : Cell) = arrV (dA 0) n (fun j => .int (f j)) := rfl
  rw [hcE, arrV_size] at X'
  rw [hcE] at st
  obtain ⟨t, b1, b2⟩ := kk (H.push (arrV (dA 0) n (fun j => .int (f j)))) (hR.push (by rw [Array.size_push]) (fun q hq => by rw [Array.getElem?_push, if_neg (Nat.ne_of_lt hq)]) (Or.inl rfl) (by
      show (H.push _)[H.size]? = some (vp_cell _ _)
      rw [Array.getElem?_push_size, vp_cell_i])) (ex_Sgrow hS (N := 1) (by rw [Array.size_push]) (fun q hq => by rw [Array.getElem?_push, if_neg (Nat.ne_of_lt hq)]))
    ((T.setVm vm').pushCell (arrV (dA 0) n (fun j => .int (f j)))) (by rw [← hT]; rfl) X'
  refine ⟨t, st t ?_, b2⟩
  rw [ex_top hR, ← hT] at b1
  exact b1
end EXM
end
