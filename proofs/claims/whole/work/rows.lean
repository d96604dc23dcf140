section
-- ===== PART A: goes FIRST, ahead of the names: the tables' words, and 'selects' of the private methods out of them =====
/-- a private method of a class that the tables say can be made, by its rows of tables_1 -/
def lw_okq (q : MethodName × Nat) : Prop := (q.1.cls ≠ "java/lang/invoke/MethodHandle" ∧ q.1.cls ≠ "java/lang/invoke/VarHandle") ∧ Cond.instantiable q.1.cls q.2 ∈ tables_1 ∧ Cond.privateMethod q.1 ∈ tables_1 ∧ Cond.instanceMethod q.1 ∈ tables_1
theorem lw_p0 : lw_okq (⟨"LoopStrands$Texts", "findCodes", "([I)I"⟩, 7) := ⟨⟨by decide +kernel, by decide +kernel⟩, List.mem_of_getElem? (i := 45) (by decide +kernel), List.mem_of_getElem? (i := 51) (by decide +kernel), List.mem_of_getElem? (i := 52) (by decide +kernel)⟩
theorem lw_p1 : lw_okq (⟨"LoopStrands$Texts", "readCode", "(I[I)Z"⟩, 7) := ⟨⟨by decide +kernel, by decide +kernel⟩, List.mem_of_getElem? (i := 45) (by decide +kernel), List.mem_of_getElem? (i := 55) (by decide +kernel), List.mem_of_getElem? (i := 56) (by decide +kernel)⟩
theorem lw_p2 : lw_okq (⟨"LoopStrands$Diagrams", "findHook", "(I)I"⟩, 12) := ⟨⟨by decide +kernel, by decide +kernel⟩, List.mem_of_getElem? (i := 39) (by decide +kernel), List.mem_of_getElem? (i := 113) (by decide +kernel), List.mem_of_getElem? (i := 114) (by decide +kernel)⟩
theorem lw_p3 : lw_okq (⟨"LoopStrands$Diagrams", "opposite", "(I)I"⟩, 12) := ⟨⟨by decide +kernel, by decide +kernel⟩, List.mem_of_getElem? (i := 39) (by decide +kernel), List.mem_of_getElem? (i := 117) (by decide +kernel), List.mem_of_getElem? (i := 118) (by decide +kernel)⟩
theorem lw_p4 : lw_okq (⟨"LoopStrands$Diagrams", "findWays", "()V"⟩, 12) := ⟨⟨by decide +kernel, by decide +kernel⟩, List.mem_of_getElem? (i := 39) (by decide +kernel), List.mem_of_getElem? (i := 130) (by decide +kernel), List.mem_of_getElem? (i := 131) (by decide +kernel)⟩
theorem lw_p5 : lw_okq (⟨"LoopStrands$Diagrams", "farEnd", "([I[II)I"⟩, 12) := ⟨⟨by decide +kernel, by decide +kernel⟩, List.mem_of_getElem? (i := 39) (by decide +kernel), List.mem_of_getElem? (i := 138) (by decide +kernel), List.mem_of_getElem? (i := 139) (by decide +kernel)⟩
theorem lw_p6 : lw_okq (⟨"LoopStrands$Diagrams", "loopsBetween", "([I[I)I"⟩, 12) := ⟨⟨by decide +kernel, by decide +kernel⟩, List.mem_of_getElem? (i := 39) (by decide +kernel), List.mem_of_getElem? (i := 142) (by decide +kernel), List.mem_of_getElem? (i := 143) (by decide +kernel)⟩
theorem lw_p7 : lw_okq (⟨"LoopStrands$Numbers", "leftOver", "(I)I"⟩, 3) := ⟨⟨by decide +kernel, by decide +kernel⟩, List.mem_of_getElem? (i := 203) (by decide +kernel), List.mem_of_getElem? (i := 231) (by decide +kernel), List.mem_of_getElem? (i := 232) (by decide +kernel)⟩
theorem lw_p8 : lw_okq (⟨"LoopStrands", "isDiagram", "(I)Z"⟩, 6) := ⟨⟨by decide +kernel, by decide +kernel⟩, List.mem_of_getElem? (i := 15) (by decide +kernel), List.mem_of_getElem? (i := 383) (by decide +kernel), List.mem_of_getElem? (i := 384) (by decide +kernel)⟩
theorem lw_p9 : lw_okq (⟨"LoopStrands", "isSlot", "(I)Z"⟩, 6) := ⟨⟨by decide +kernel, by decide +kernel⟩, List.mem_of_getElem? (i := 15) (by decide +kernel), List.mem_of_getElem? (i := 431) (by decide +kernel), List.mem_of_getElem? (i := 432) (by decide +kernel)⟩
theorem lw_p10 : lw_okq (⟨"LoopStrands", "isNumber", "(I)Z"⟩, 6) := ⟨⟨by decide +kernel, by decide +kernel⟩, List.mem_of_getElem? (i := 15) (by decide +kernel), List.mem_of_getElem? (i := 435) (by decide +kernel), List.mem_of_getElem? (i := 436) (by decide +kernel)⟩
theorem lw_p11 : lw_okq (⟨"LoopStrands", "hasHalves", "(I)Z"⟩, 6) := ⟨⟨by decide +kernel, by decide +kernel⟩, List.mem_of_getElem? (i := 15) (by decide +kernel), List.mem_of_getElem? (i := 540) (by decide +kernel), List.mem_of_getElem? (i := 541) (by decide +kernel)⟩
theorem lw_p12 : lw_okq (⟨"LoopStrands$Table", "findPivot", "(I)I"⟩, 4) := ⟨⟨by decide +kernel, by decide +kernel⟩, List.mem_of_getElem? (i := 268) (by decide +kernel), List.mem_of_getElem? (i := 561) (by decide +kernel), List.mem_of_getElem? (i := 562) (by decide +kernel)⟩
theorem lw_p13 : lw_okq (⟨"LoopStrands$Table", "swapRows", "(II)V"⟩, 4) := ⟨⟨by decide +kernel, by decide +kernel⟩, List.mem_of_getElem? (i := 268) (by decide +kernel), List.mem_of_getElem? (i := 565) (by decide +kernel), List.mem_of_getElem? (i := 566) (by decide +kernel)⟩
theorem lw_p14 : lw_okq (⟨"LoopStrands$Table", "clearBelow", "(LLoopStrands$Numbers;I)V"⟩, 4) := ⟨⟨by decide +kernel, by decide +kernel⟩, List.mem_of_getElem? (i := 268) (by decide +kernel), List.mem_of_getElem? (i := 571) (by decide +kernel), List.mem_of_getElem? (i := 572) (by decide +kernel)⟩
theorem lw_p15 : lw_okq (⟨"LoopStrandsModel", "layDiagrams", "()V"⟩, 27) := ⟨⟨by decide +kernel, by decide +kernel⟩, List.mem_of_getElem? (i := 598) (by decide +kernel), List.mem_of_getElem? (i := 604) (by decide +kernel), List.mem_of_getElem? (i := 605) (by decide +kernel)⟩
def lw_privs_1 : List (MethodName × Nat) := [(⟨"LoopStrands$Texts", "findCodes", "([I)I"⟩, 7), (⟨"LoopStrands$Texts", "readCode", "(I[I)Z"⟩, 7), (⟨"LoopStrands$Diagrams", "findHook", "(I)I"⟩, 12), (⟨"LoopStrands$Diagrams", "opposite", "(I)I"⟩, 12), (⟨"LoopStrands$Diagrams", "findWays", "()V"⟩, 12), (⟨"LoopStrands$Diagrams", "farEnd", "([I[II)I"⟩, 12), (⟨"LoopStrands$Diagrams", "loopsBetween", "([I[I)I"⟩, 12), (⟨"LoopStrands$Numbers", "leftOver", "(I)I"⟩, 3), (⟨"LoopStrands", "isDiagram", "(I)Z"⟩, 6), (⟨"LoopStrands", "isSlot", "(I)Z"⟩, 6), (⟨"LoopStrands", "isNumber", "(I)Z"⟩, 6), (⟨"LoopStrands", "hasHalves", "(I)Z"⟩, 6), (⟨"LoopStrands$Table", "findPivot", "(I)I"⟩, 4), (⟨"LoopStrands$Table", "swapRows", "(II)V"⟩, 4), (⟨"LoopStrands$Table", "clearBelow", "(LLoopStrands$Numbers;I)V"⟩, 4), (⟨"LoopStrandsModel", "layDiagrams", "()V"⟩, 27)]
theorem lw_r1 : ∀ q ∈ lw_privs_1, lw_okq q := List.forall_mem_cons.mpr ⟨lw_p0, List.forall_mem_cons.mpr ⟨lw_p1, List.forall_mem_cons.mpr ⟨lw_p2, List.forall_mem_cons.mpr ⟨lw_p3, List.forall_mem_cons.mpr ⟨lw_p4, List.forall_mem_cons.mpr ⟨lw_p5, List.forall_mem_cons.mpr ⟨lw_p6, List.forall_mem_cons.mpr ⟨lw_p7, List.forall_mem_cons.mpr ⟨lw_p8, List.forall_mem_cons.mpr ⟨lw_p9, List.forall_mem_cons.mpr ⟨lw_p10, List.forall_mem_cons.mpr ⟨lw_p11, List.forall_mem_cons.mpr ⟨lw_p12, List.forall_mem_cons.mpr ⟨lw_p13, List.forall_mem_cons.mpr ⟨lw_p14, List.forall_mem_cons.mpr ⟨lw_p15, fun _ h => absurd h List.not_mem_nil⟩⟩⟩⟩⟩⟩⟩⟩⟩⟩⟩⟩⟩⟩⟩⟩
theorem lw_p16 : lw_okq (⟨"LoopStrandsModel", "points", "()I"⟩, 27) := ⟨⟨by decide +kernel, by decide +kernel⟩, List.mem_of_getElem? (i := 598) (by decide +kernel), List.mem_of_getElem? (i := 608) (by decide +kernel), List.mem_of_getElem? (i := 609) (by decide +kernel)⟩
theorem lw_p17 : lw_okq (⟨"LoopStrandsModel", "layText", "(I)Z"⟩, 27) := ⟨⟨by decide +kernel, by decide +kernel⟩, List.mem_of_getElem? (i := 598) (by decide +kernel), List.mem_of_getElem? (i := 612) (by decide +kernel), List.mem_of_getElem? (i := 613) (by decide +kernel)⟩
theorem lw_p18 : lw_okq (⟨"LoopStrandsModel", "layProduct", "(II)V"⟩, 27) := ⟨⟨by decide +kernel, by decide +kernel⟩, List.mem_of_getElem? (i := 598) (by decide +kernel), List.mem_of_getElem? (i := 616) (by decide +kernel), List.mem_of_getElem? (i := 617) (by decide +kernel)⟩
theorem lw_p19 : lw_okq (⟨"LoopStrandsModel", "endFromAbove", "(III)I"⟩, 27) := ⟨⟨by decide +kernel, by decide +kernel⟩, List.mem_of_getElem? (i := 598) (by decide +kernel), List.mem_of_getElem? (i := 620) (by decide +kernel), List.mem_of_getElem? (i := 621) (by decide +kernel)⟩
theorem lw_p20 : lw_okq (⟨"LoopStrandsModel", "to", "(II)I"⟩, 27) := ⟨⟨by decide +kernel, by decide +kernel⟩, List.mem_of_getElem? (i := 598) (by decide +kernel), List.mem_of_getElem? (i := 624) (by decide +kernel), List.mem_of_getElem? (i := 625) (by decide +kernel)⟩
theorem lw_p21 : lw_okq (⟨"LoopStrandsModel", "across", "(I)I"⟩, 27) := ⟨⟨by decide +kernel, by decide +kernel⟩, List.mem_of_getElem? (i := 598) (by decide +kernel), List.mem_of_getElem? (i := 628) (by decide +kernel), List.mem_of_getElem? (i := 629) (by decide +kernel)⟩
theorem lw_p22 : lw_okq (⟨"LoopStrandsModel", "endFromBelow", "(III)I"⟩, 27) := ⟨⟨by decide +kernel, by decide +kernel⟩, List.mem_of_getElem? (i := 598) (by decide +kernel), List.mem_of_getElem? (i := 632) (by decide +kernel), List.mem_of_getElem? (i := 633) (by decide +kernel)⟩
theorem lw_p23 : lw_okq (⟨"LoopStrandsModel", "meetRound", "(III)V"⟩, 27) := ⟨⟨by decide +kernel, by decide +kernel⟩, List.mem_of_getElem? (i := 598) (by decide +kernel), List.mem_of_getElem? (i := 636) (by decide +kernel), List.mem_of_getElem? (i := 637) (by decide +kernel)⟩
theorem lw_p24 : lw_okq (⟨"LoopStrandsModel", "indexOfRow", "()I"⟩, 27) := ⟨⟨by decide +kernel, by decide +kernel⟩, List.mem_of_getElem? (i := 598) (by decide +kernel), List.mem_of_getElem? (i := 640) (by decide +kernel), List.mem_of_getElem? (i := 641) (by decide +kernel)⟩
theorem lw_p25 : lw_okq (⟨"LoopStrandsModel", "textOfRow", "()I"⟩, 27) := ⟨⟨by decide +kernel, by decide +kernel⟩, List.mem_of_getElem? (i := 598) (by decide +kernel), List.mem_of_getElem? (i := 644) (by decide +kernel), List.mem_of_getElem? (i := 645) (by decide +kernel)⟩
theorem lw_p26 : lw_okq (⟨"LoopStrandsModel", "clearSums", "()V"⟩, 27) := ⟨⟨by decide +kernel, by decide +kernel⟩, List.mem_of_getElem? (i := 598) (by decide +kernel), List.mem_of_getElem? (i := 738) (by decide +kernel), List.mem_of_getElem? (i := 739) (by decide +kernel)⟩
theorem lw_p27 : lw_okq (⟨"LoopStrandsModel", "diagramFault", "()I"⟩, 27) := ⟨⟨by decide +kernel, by decide +kernel⟩, List.mem_of_getElem? (i := 598) (by decide +kernel), List.mem_of_getElem? (i := 754) (by decide +kernel), List.mem_of_getElem? (i := 755) (by decide +kernel)⟩
theorem lw_p28 : lw_okq (⟨"LoopStrandsModel", "wordFault", "()I"⟩, 27) := ⟨⟨by decide +kernel, by decide +kernel⟩, List.mem_of_getElem? (i := 598) (by decide +kernel), List.mem_of_getElem? (i := 758) (by decide +kernel), List.mem_of_getElem? (i := 759) (by decide +kernel)⟩
theorem lw_p29 : lw_okq (⟨"LoopStrandsModel", "isHook", "(I)Z"⟩, 27) := ⟨⟨by decide +kernel, by decide +kernel⟩, List.mem_of_getElem? (i := 598) (by decide +kernel), List.mem_of_getElem? (i := 762) (by decide +kernel), List.mem_of_getElem? (i := 763) (by decide +kernel)⟩
theorem lw_p30 : lw_okq (⟨"LoopStrandsModel", "hook", "(I)I"⟩, 27) := ⟨⟨by decide +kernel, by decide +kernel⟩, List.mem_of_getElem? (i := 598) (by decide +kernel), List.mem_of_getElem? (i := 774) (by decide +kernel), List.mem_of_getElem? (i := 775) (by decide +kernel)⟩
theorem lw_p31 : lw_okq (⟨"LoopStrandsModel", "joinTwo", "(II)V"⟩, 27) := ⟨⟨by decide +kernel, by decide +kernel⟩, List.mem_of_getElem? (i := 598) (by decide +kernel), List.mem_of_getElem? (i := 778) (by decide +kernel), List.mem_of_getElem? (i := 779) (by decide +kernel)⟩
def lw_privs_2 : List (MethodName × Nat) := [(⟨"LoopStrandsModel", "points", "()I"⟩, 27), (⟨"LoopStrandsModel", "layText", "(I)Z"⟩, 27), (⟨"LoopStrandsModel", "layProduct", "(II)V"⟩, 27), (⟨"LoopStrandsModel", "endFromAbove", "(III)I"⟩, 27), (⟨"LoopStrandsModel", "to", "(II)I"⟩, 27), (⟨"LoopStrandsModel", "across", "(I)I"⟩, 27), (⟨"LoopStrandsModel", "endFromBelow", "(III)I"⟩, 27), (⟨"LoopStrandsModel", "meetRound", "(III)V"⟩, 27), (⟨"LoopStrandsModel", "indexOfRow", "()I"⟩, 27), (⟨"LoopStrandsModel", "textOfRow", "()I"⟩, 27), (⟨"LoopStrandsModel", "clearSums", "()V"⟩, 27), (⟨"LoopStrandsModel", "diagramFault", "()I"⟩, 27), (⟨"LoopStrandsModel", "wordFault", "()I"⟩, 27), (⟨"LoopStrandsModel", "isHook", "(I)Z"⟩, 27), (⟨"LoopStrandsModel", "hook", "(I)I"⟩, 27), (⟨"LoopStrandsModel", "joinTwo", "(II)V"⟩, 27)]
theorem lw_r2 : ∀ q ∈ lw_privs_2, lw_okq q := List.forall_mem_cons.mpr ⟨lw_p16, List.forall_mem_cons.mpr ⟨lw_p17, List.forall_mem_cons.mpr ⟨lw_p18, List.forall_mem_cons.mpr ⟨lw_p19, List.forall_mem_cons.mpr ⟨lw_p20, List.forall_mem_cons.mpr ⟨lw_p21, List.forall_mem_cons.mpr ⟨lw_p22, List.forall_mem_cons.mpr ⟨lw_p23, List.forall_mem_cons.mpr ⟨lw_p24, List.forall_mem_cons.mpr ⟨lw_p25, List.forall_mem_cons.mpr ⟨lw_p26, List.forall_mem_cons.mpr ⟨lw_p27, List.forall_mem_cons.mpr ⟨lw_p28, List.forall_mem_cons.mpr ⟨lw_p29, List.forall_mem_cons.mpr ⟨lw_p30, List.forall_mem_cons.mpr ⟨lw_p31, fun _ h => absurd h List.not_mem_nil⟩⟩⟩⟩⟩⟩⟩⟩⟩⟩⟩⟩⟩⟩⟩⟩
theorem lw_p32 : lw_okq (⟨"LoopStrandsModel", "isDiagram", "(I)Z"⟩, 27) := ⟨⟨by decide +kernel, by decide +kernel⟩, List.mem_of_getElem? (i := 598) (by decide +kernel), List.mem_of_getElem? (i := 786) (by decide +kernel), List.mem_of_getElem? (i := 787) (by decide +kernel)⟩
theorem lw_p33 : lw_okq (⟨"LoopStrandsModel", "through", "(I)I"⟩, 27) := ⟨⟨by decide +kernel, by decide +kernel⟩, List.mem_of_getElem? (i := 598) (by decide +kernel), List.mem_of_getElem? (i := 790) (by decide +kernel), List.mem_of_getElem? (i := 791) (by decide +kernel)⟩
theorem lw_p34 : lw_okq (⟨"LoopStrandsModel", "closedLoops", "(I)I"⟩, 27) := ⟨⟨by decide +kernel, by decide +kernel⟩, List.mem_of_getElem? (i := 598) (by decide +kernel), List.mem_of_getElem? (i := 794) (by decide +kernel), List.mem_of_getElem? (i := 795) (by decide +kernel)⟩
theorem lw_p35 : lw_okq (⟨"LoopStrandsModel", "turnedOf", "(I)I"⟩, 27) := ⟨⟨by decide +kernel, by decide +kernel⟩, List.mem_of_getElem? (i := 598) (by decide +kernel), List.mem_of_getElem? (i := 798) (by decide +kernel), List.mem_of_getElem? (i := 799) (by decide +kernel)⟩
theorem lw_p36 : lw_okq (⟨"LoopStrandsModel", "layWays", "()V"⟩, 27) := ⟨⟨by decide +kernel, by decide +kernel⟩, List.mem_of_getElem? (i := 598) (by decide +kernel), List.mem_of_getElem? (i := 802) (by decide +kernel), List.mem_of_getElem? (i := 803) (by decide +kernel)⟩
theorem lw_p37 : lw_okq (⟨"LoopStrandsModel", "isNumber", "(I)Z"⟩, 27) := ⟨⟨by decide +kernel, by decide +kernel⟩, List.mem_of_getElem? (i := 598) (by decide +kernel), List.mem_of_getElem? (i := 832) (by decide +kernel), List.mem_of_getElem? (i := 833) (by decide +kernel)⟩
theorem lw_p38 : lw_okq (⟨"LoopStrandsModel", "place", "(II)I"⟩, 27) := ⟨⟨by decide +kernel, by decide +kernel⟩, List.mem_of_getElem? (i := 598) (by decide +kernel), List.mem_of_getElem? (i := 836) (by decide +kernel), List.mem_of_getElem? (i := 837) (by decide +kernel)⟩
theorem lw_p39 : lw_okq (⟨"LoopStrandsModel", "by", "(I)I"⟩, 27) := ⟨⟨by decide +kernel, by decide +kernel⟩, List.mem_of_getElem? (i := 598) (by decide +kernel), List.mem_of_getElem? (i := 848) (by decide +kernel), List.mem_of_getElem? (i := 849) (by decide +kernel)⟩
theorem lw_p40 : lw_okq (⟨"LoopStrandsModel", "stackSums", "()V"⟩, 27) := ⟨⟨by decide +kernel, by decide +kernel⟩, List.mem_of_getElem? (i := 598) (by decide +kernel), List.mem_of_getElem? (i := 852) (by decide +kernel), List.mem_of_getElem? (i := 853) (by decide +kernel)⟩
theorem lw_p41 : lw_okq (⟨"LoopStrandsModel", "loopTimes", "(I)I"⟩, 27) := ⟨⟨by decide +kernel, by decide +kernel⟩, List.mem_of_getElem? (i := 598) (by decide +kernel), List.mem_of_getElem? (i := 856) (by decide +kernel), List.mem_of_getElem? (i := 857) (by decide +kernel)⟩
theorem lw_p42 : lw_okq (⟨"LoopStrandsModel", "give", "(I)I"⟩, 27) := ⟨⟨by decide +kernel, by decide +kernel⟩, List.mem_of_getElem? (i := 598) (by decide +kernel), List.mem_of_getElem? (i := 860) (by decide +kernel), List.mem_of_getElem? (i := 861) (by decide +kernel)⟩
theorem lw_p43 : lw_okq (⟨"LoopStrandsModel", "bracketOf", "(I)I"⟩, 27) := ⟨⟨by decide +kernel, by decide +kernel⟩, List.mem_of_getElem? (i := 598) (by decide +kernel), List.mem_of_getElem? (i := 880) (by decide +kernel), List.mem_of_getElem? (i := 881) (by decide +kernel)⟩
theorem lw_p44 : lw_okq (⟨"LoopStrandsModel", "growProjector", "(I)V"⟩, 27) := ⟨⟨by decide +kernel, by decide +kernel⟩, List.mem_of_getElem? (i := 598) (by decide +kernel), List.mem_of_getElem? (i := 888) (by decide +kernel), List.mem_of_getElem? (i := 889) (by decide +kernel)⟩
theorem lw_p45 : lw_okq (⟨"LoopStrandsModel", "inverse", "(I)I"⟩, 27) := ⟨⟨by decide +kernel, by decide +kernel⟩, List.mem_of_getElem? (i := 598) (by decide +kernel), List.mem_of_getElem? (i := 892) (by decide +kernel), List.mem_of_getElem? (i := 893) (by decide +kernel)⟩
theorem lw_p46 : lw_okq (⟨"LoopStrandsModel", "isCell", "(I)Z"⟩, 27) := ⟨⟨by decide +kernel, by decide +kernel⟩, List.mem_of_getElem? (i := 598) (by decide +kernel), List.mem_of_getElem? (i := 900) (by decide +kernel), List.mem_of_getElem? (i := 901) (by decide +kernel)⟩
theorem lw_p47 : lw_okq (⟨"LoopStrandsModel", "layHalves", "(I)V"⟩, 27) := ⟨⟨by decide +kernel, by decide +kernel⟩, List.mem_of_getElem? (i := 598) (by decide +kernel), List.mem_of_getElem? (i := 904) (by decide +kernel), List.mem_of_getElem? (i := 905) (by decide +kernel)⟩
def lw_privs_3 : List (MethodName × Nat) := [(⟨"LoopStrandsModel", "isDiagram", "(I)Z"⟩, 27), (⟨"LoopStrandsModel", "through", "(I)I"⟩, 27), (⟨"LoopStrandsModel", "closedLoops", "(I)I"⟩, 27), (⟨"LoopStrandsModel", "turnedOf", "(I)I"⟩, 27), (⟨"LoopStrandsModel", "layWays", "()V"⟩, 27), (⟨"LoopStrandsModel", "isNumber", "(I)Z"⟩, 27), (⟨"LoopStrandsModel", "place", "(II)I"⟩, 27), (⟨"LoopStrandsModel", "by", "(I)I"⟩, 27), (⟨"LoopStrandsModel", "stackSums", "()V"⟩, 27), (⟨"LoopStrandsModel", "loopTimes", "(I)I"⟩, 27), (⟨"LoopStrandsModel", "give", "(I)I"⟩, 27), (⟨"LoopStrandsModel", "bracketOf", "(I)I"⟩, 27), (⟨"LoopStrandsModel", "growProjector", "(I)V"⟩, 27), (⟨"LoopStrandsModel", "inverse", "(I)I"⟩, 27), (⟨"LoopStrandsModel", "isCell", "(I)Z"⟩, 27), (⟨"LoopStrandsModel", "layHalves", "(I)V"⟩, 27)]
theorem lw_r3 : ∀ q ∈ lw_privs_3, lw_okq q := List.forall_mem_cons.mpr ⟨lw_p32, List.forall_mem_cons.mpr ⟨lw_p33, List.forall_mem_cons.mpr ⟨lw_p34, List.forall_mem_cons.mpr ⟨lw_p35, List.forall_mem_cons.mpr ⟨lw_p36, List.forall_mem_cons.mpr ⟨lw_p37, List.forall_mem_cons.mpr ⟨lw_p38, List.forall_mem_cons.mpr ⟨lw_p39, List.forall_mem_cons.mpr ⟨lw_p40, List.forall_mem_cons.mpr ⟨lw_p41, List.forall_mem_cons.mpr ⟨lw_p42, List.forall_mem_cons.mpr ⟨lw_p43, List.forall_mem_cons.mpr ⟨lw_p44, List.forall_mem_cons.mpr ⟨lw_p45, List.forall_mem_cons.mpr ⟨lw_p46, List.forall_mem_cons.mpr ⟨lw_p47, fun _ h => absurd h List.not_mem_nil⟩⟩⟩⟩⟩⟩⟩⟩⟩⟩⟩⟩⟩⟩⟩⟩
theorem lw_p48 : lw_okq (⟨"LoopStrandsModel", "layHalf", "(II)Z"⟩, 27) := ⟨⟨by decide +kernel, by decide +kernel⟩, List.mem_of_getElem? (i := 598) (by decide +kernel), List.mem_of_getElem? (i := 908) (by decide +kernel), List.mem_of_getElem? (i := 909) (by decide +kernel)⟩
theorem lw_p49 : lw_okq (⟨"LoopStrandsModel", "layTable", "()V"⟩, 27) := ⟨⟨by decide +kernel, by decide +kernel⟩, List.mem_of_getElem? (i := 598) (by decide +kernel), List.mem_of_getElem? (i := 912) (by decide +kernel), List.mem_of_getElem? (i := 913) (by decide +kernel)⟩
theorem lw_p50 : lw_okq (⟨"LoopStrandsModel", "formOf", "(II)I"⟩, 27) := ⟨⟨by decide +kernel, by decide +kernel⟩, List.mem_of_getElem? (i := 598) (by decide +kernel), List.mem_of_getElem? (i := 916) (by decide +kernel), List.mem_of_getElem? (i := 917) (by decide +kernel)⟩
theorem lw_p51 : lw_okq (⟨"LoopStrandsModel", "comesThrough", "(III)Z"⟩, 27) := ⟨⟨by decide +kernel, by decide +kernel⟩, List.mem_of_getElem? (i := 598) (by decide +kernel), List.mem_of_getElem? (i := 920) (by decide +kernel), List.mem_of_getElem? (i := 921) (by decide +kernel)⟩
theorem lw_p52 : lw_okq (⟨"LoopStrandsModel", "rowWith", "(II)I"⟩, 27) := ⟨⟨by decide +kernel, by decide +kernel⟩, List.mem_of_getElem? (i := 598) (by decide +kernel), List.mem_of_getElem? (i := 924) (by decide +kernel), List.mem_of_getElem? (i := 925) (by decide +kernel)⟩
theorem lw_p53 : lw_okq (⟨"LoopStrandsModel", "swapRows", "(II)V"⟩, 27) := ⟨⟨by decide +kernel, by decide +kernel⟩, List.mem_of_getElem? (i := 598) (by decide +kernel), List.mem_of_getElem? (i := 928) (by decide +kernel), List.mem_of_getElem? (i := 929) (by decide +kernel)⟩
theorem lw_p54 : lw_okq (⟨"LoopStrandsModel", "clearBelow", "(II)V"⟩, 27) := ⟨⟨by decide +kernel, by decide +kernel⟩, List.mem_of_getElem? (i := 598) (by decide +kernel), List.mem_of_getElem? (i := 932) (by decide +kernel), List.mem_of_getElem? (i := 933) (by decide +kernel)⟩
def lw_privs_4 : List (MethodName × Nat) := [(⟨"LoopStrandsModel", "layHalf", "(II)Z"⟩, 27), (⟨"LoopStrandsModel", "layTable", "()V"⟩, 27), (⟨"LoopStrandsModel", "formOf", "(II)I"⟩, 27), (⟨"LoopStrandsModel", "comesThrough", "(III)Z"⟩, 27), (⟨"LoopStrandsModel", "rowWith", "(II)I"⟩, 27), (⟨"LoopStrandsModel", "swapRows", "(II)V"⟩, 27), (⟨"LoopStrandsModel", "clearBelow", "(II)V"⟩, 27)]
theorem lw_r4 : ∀ q ∈ lw_privs_4, lw_okq q := List.forall_mem_cons.mpr ⟨lw_p48, List.forall_mem_cons.mpr ⟨lw_p49, List.forall_mem_cons.mpr ⟨lw_p50, List.forall_mem_cons.mpr ⟨lw_p51, List.forall_mem_cons.mpr ⟨lw_p52, List.forall_mem_cons.mpr ⟨lw_p53, List.forall_mem_cons.mpr ⟨lw_p54, fun _ h => absurd h List.not_mem_nil⟩⟩⟩⟩⟩⟩⟩
def lw_privs : List (MethodName × Nat) := lw_privs_1 ++ (lw_privs_2 ++ (lw_privs_3 ++ (lw_privs_4)))
def lw_tbl : List Cond := k2_sels lw_privs ++ tables_1
theorem lw_privs_ok : ∀ q ∈ lw_privs, lw_okq q := by
  show ∀ q ∈ lw_privs_1 ++ (lw_privs_2 ++ (lw_privs_3 ++ (lw_privs_4))), lw_okq q
  exact List.forall_mem_append.mpr ⟨lw_r1, List.forall_mem_append.mpr ⟨lw_r2, List.forall_mem_append.mpr ⟨lw_r3, lw_r4⟩⟩⟩
end
section
def RX0 : String := "LoopStrands$Algebra"
def TX0 : u_T := fun k => match k with
  | 0 => ("LoopStrands$Algebra", "result", "[I", true)
  | 1 => ("LoopStrands$Algebra", "between", "[I", true)
  | _ => ("LoopStrands$Algebra", "hook", "[I", true)
def tyX0 : Nat → FieldType := fun k => match k with
  | 0 => .array .int
  | 1 => .array .int
  | _ => .array .int
theorem nmX0 : ∀ a, a < 3 → ∀ b, b < 3 → a ≠ b → (TX0 a).2.1 ≠ (TX0 b).2.1 := by decide +kernel
theorem tyX0_ok : ∀ k, k < 3 → parseFieldDescriptor (TX0 k).2.2.1 = some (tyX0 k) := by decide +kernel
abbrev cX0_init : ByteArray := prog_2_method_1_code
def yX0_init : MethodName := ⟨RX0, "<init>", "()V"⟩
abbrev cX0_add : ByteArray := prog_2_method_2_code
def yX0_add : MethodName := ⟨RX0, "add", "(LLoopStrands$State;[I[I[I)V"⟩
abbrev cX0_subtract : ByteArray := prog_2_method_3_code
def yX0_subtract : MethodName := ⟨RX0, "subtract", "(LLoopStrands$State;[I[I[I)V"⟩
abbrev cX0_scale : ByteArray := prog_2_method_4_code
def yX0_scale : MethodName := ⟨RX0, "scale", "(LLoopStrands$State;[I[II)V"⟩
abbrev cX0_turnOver : ByteArray := prog_2_method_5_code
def yX0_turnOver : MethodName := ⟨RX0, "turnOver", "(LLoopStrands$State;[I[I)V"⟩
abbrev cX0_pile : ByteArray := prog_2_method_6_code
def yX0_pile : MethodName := ⟨RX0, "pile", "(LLoopStrands$State;[I[I[I)V"⟩
abbrev cX0_close : ByteArray := prog_2_method_7_code
def yX0_close : MethodName := ⟨RX0, "close", "(LLoopStrands$State;[I)I"⟩
abbrev cX0_makeProjector : ByteArray := prog_2_method_8_code
def yX0_makeProjector : MethodName := ⟨RX0, "makeProjector", "(LLoopStrands$State;[II)V"⟩
def RX1 : String := "LoopStrands$Diagrams"
def TX1 : u_T := fun k => match k with
  | 0 => ("LoopStrands$Diagrams", "many", "I", true)
  | 1 => ("LoopStrands$Diagrams", "points", "I", true)
  | 2 => ("LoopStrands$Diagrams", "texts", "LLoopStrands$Texts;", true)
  | 3 => ("LoopStrands$Diagrams", "halves", "[LLoopStrands$Texts;", true)
  | 4 => ("LoopStrands$Diagrams", "hooks", "[I", true)
  | 5 => ("LoopStrands$Diagrams", "stacked", "[I", true)
  | 6 => ("LoopStrands$Diagrams", "steps", "[I", true)
  | 7 => ("LoopStrands$Diagrams", "before", "[I", true)
  | 8 => ("LoopStrands$Diagrams", "lastHook", "[I", true)
  | 9 => ("LoopStrands$Diagrams", "row", "[I", true)
  | 10 => ("LoopStrands$Diagrams", "below", "[I", true)
  | _ => ("LoopStrands$Diagrams", "above", "[I", true)
def tyX1 : Nat → FieldType := fun k => match k with
  | 0 => .int
  | 1 => .int
  | 2 => .object "LoopStrands$Texts"
  | 3 => .array (.object "LoopStrands$Texts")
  | 4 => .array .int
  | 5 => .array .int
  | 6 => .array .int
  | 7 => .array .int
  | 8 => .array .int
  | 9 => .array .int
  | 10 => .array .int
  | _ => .array .int
theorem nmX1 : ∀ a, a < 12 → ∀ b, b < 12 → a ≠ b → (TX1 a).2.1 ≠ (TX1 b).2.1 := by decide +kernel
theorem tyX1_ok : ∀ k, k < 12 → parseFieldDescriptor (TX1 k).2.2.1 = some (tyX1 k) := by decide +kernel
abbrev cX1_init : ByteArray := prog_3_method_1_code
def yX1_init : MethodName := ⟨RX1, "<init>", "(I)V"⟩
abbrev cX1_opposite : ByteArray := prog_3_method_2_code
def yX1_opposite : MethodName := ⟨RX1, "opposite", "(I)I"⟩
abbrev cX1_findHook : ByteArray := prog_3_method_3_code
def yX1_findHook : MethodName := ⟨RX1, "findHook", "(I)I"⟩
abbrev cX1_findWays : ByteArray := prog_3_method_4_code
def yX1_findWays : MethodName := ⟨RX1, "findWays", "()V"⟩
abbrev cX1_wayLength : ByteArray := prog_3_method_5_code
def yX1_wayLength : MethodName := ⟨RX1, "wayLength", "(I)I"⟩
abbrev cX1_wayHook : ByteArray := prog_3_method_6_code
def yX1_wayHook : MethodName := ⟨RX1, "wayHook", "(II)I"⟩
abbrev cX1_through : ByteArray := prog_3_method_7_code
def yX1_through : MethodName := ⟨RX1, "through", "(I)I"⟩
abbrev cX1_closedLoops : ByteArray := prog_3_method_8_code
def yX1_closedLoops : MethodName := ⟨RX1, "closedLoops", "(I)I"⟩
abbrev cX1_turned : ByteArray := prog_3_method_9_code
def yX1_turned : MethodName := ⟨RX1, "turned", "(I)I"⟩
abbrev cX1_stackDiagram : ByteArray := prog_3_method_10_code
def yX1_stackDiagram : MethodName := ⟨RX1, "stackDiagram", "(II)I"⟩
abbrev cX1_stackLoops : ByteArray := prog_3_method_11_code
def yX1_stackLoops : MethodName := ⟨RX1, "stackLoops", "(II)I"⟩
abbrev cX1_packedStack : ByteArray := prog_3_method_12_code
def yX1_packedStack : MethodName := ⟨RX1, "packedStack", "(II)I"⟩
abbrev cX1_farEnd : ByteArray := prog_3_method_13_code
def yX1_farEnd : MethodName := ⟨RX1, "farEnd", "([I[II)I"⟩
abbrev cX1_loopsBetween : ByteArray := prog_3_method_14_code
def yX1_loopsBetween : MethodName := ⟨RX1, "loopsBetween", "([I[I)I"⟩
def RX2 : String := "LoopStrands$Gluing"
def TX2 : u_T := fun k => match k with
  | _ => ("", "", "", false)
def tyX2 : Nat → FieldType := fun k => match k with
  | _ => .int
theorem nmX2 : ∀ a, a < 0 → ∀ b, b < 0 → a ≠ b → (TX2 a).2.1 ≠ (TX2 b).2.1 := by decide +kernel
theorem tyX2_ok : ∀ k, k < 0 → parseFieldDescriptor (TX2 k).2.2.1 = some (tyX2 k) := by decide +kernel
abbrev cX2_closedLoops : ByteArray := prog_4_method_2_code
def yX2_closedLoops : MethodName := ⟨RX2, "closedLoops", "([I[I)I"⟩
abbrev cX2_isLeastOfLoop : ByteArray := prog_4_method_3_code
def yX2_isLeastOfLoop : MethodName := ⟨RX2, "isLeastOfLoop", "([I[II)Z"⟩
abbrev cX2_leadsAcross : ByteArray := prog_4_method_4_code
def yX2_leadsAcross : MethodName := ⟨RX2, "leadsAcross", "([I[II)Z"⟩
abbrev cX2_formNumber : ByteArray := prog_4_method_5_code
def yX2_formNumber : MethodName := ⟨RX2, "formNumber", "(LLoopStrands$Numbers;[I[I)I"⟩
def RX3 : String := "LoopStrands$Numbers"
def TX3 : u_T := fun k => match k with
  | 0 => ("LoopStrands$Numbers", "prime", "I", false)
  | 1 => ("LoopStrands$Numbers", "loop", "I", false)
  | _ => ("LoopStrands$Numbers", "loopPowers", "[I", true)
def tyX3 : Nat → FieldType := fun k => match k with
  | 0 => .int
  | 1 => .int
  | _ => .array .int
theorem nmX3 : ∀ a, a < 3 → ∀ b, b < 3 → a ≠ b → (TX3 a).2.1 ≠ (TX3 b).2.1 := by decide +kernel
theorem tyX3_ok : ∀ k, k < 3 → parseFieldDescriptor (TX3 k).2.2.1 = some (tyX3 k) := by decide +kernel
abbrev cX3_init : ByteArray := prog_5_method_1_code
def yX3_init : MethodName := ⟨RX3, "<init>", "()V"⟩
abbrev cX3_tell : ByteArray := prog_5_method_2_code
def yX3_tell : MethodName := ⟨RX3, "tell", "(II)V"⟩
abbrev cX3_leftOver : ByteArray := prog_5_method_3_code
def yX3_leftOver : MethodName := ⟨RX3, "leftOver", "(I)I"⟩
abbrev cX3_add : ByteArray := prog_5_method_4_code
def yX3_add : MethodName := ⟨RX3, "add", "(II)I"⟩
abbrev cX3_subtract : ByteArray := prog_5_method_5_code
def yX3_subtract : MethodName := ⟨RX3, "subtract", "(II)I"⟩
abbrev cX3_multiply : ByteArray := prog_5_method_6_code
def yX3_multiply : MethodName := ⟨RX3, "multiply", "(II)I"⟩
abbrev cX3_inverse : ByteArray := prog_5_method_7_code
def yX3_inverse : MethodName := ⟨RX3, "inverse", "(I)I"⟩
abbrev cX3_loopPower : ByteArray := prog_5_method_8_code
def yX3_loopPower : MethodName := ⟨RX3, "loopPower", "(I)I"⟩
abbrev cX3_bracketOf : ByteArray := prog_5_method_9_code
def yX3_bracketOf : MethodName := ⟨RX3, "bracketOf", "(I)I"⟩
abbrev cX3_hasProjector : ByteArray := prog_5_method_10_code
def yX3_hasProjector : MethodName := ⟨RX3, "hasProjector", "(I)Z"⟩
def RX4 : String := "LoopStrands$Pad"
def TX4 : u_T := fun k => match k with
  | 0 => ("LoopStrands$Pad", "signs", "[I", true)
  | _ => ("LoopStrands$Pad", "length", "I", false)
def tyX4 : Nat → FieldType := fun k => match k with
  | 0 => .array .int
  | _ => .int
theorem nmX4 : ∀ a, a < 2 → ∀ b, b < 2 → a ≠ b → (TX4 a).2.1 ≠ (TX4 b).2.1 := by decide +kernel
theorem tyX4_ok : ∀ k, k < 2 → parseFieldDescriptor (TX4 k).2.2.1 = some (tyX4 k) := by decide +kernel
abbrev cX4_init : ByteArray := prog_6_method_1_code
def yX4_init : MethodName := ⟨RX4, "<init>", "()V"⟩
abbrev cX4_isFull : ByteArray := prog_6_method_2_code
def yX4_isFull : MethodName := ⟨RX4, "isFull", "()Z"⟩
abbrev cX4_add : ByteArray := prog_6_method_3_code
def yX4_add : MethodName := ⟨RX4, "add", "(I)V"⟩
abbrev cX4_clear : ByteArray := prog_6_method_4_code
def yX4_clear : MethodName := ⟨RX4, "clear", "()V"⟩
abbrev cX4_diagramFault : ByteArray := prog_6_method_5_code
def yX4_diagramFault : MethodName := ⟨RX4, "diagramFault", "(I)I"⟩
abbrev cX4_wordFault : ByteArray := prog_6_method_6_code
def yX4_wordFault : MethodName := ⟨RX4, "wordFault", "(I)I"⟩
abbrev cX4_figure : ByteArray := prog_6_method_7_code
def yX4_figure : MethodName := ⟨RX4, "figure", "(I)I"⟩
abbrev cX4_diagramCode : ByteArray := prog_6_method_8_code
def yX4_diagramCode : MethodName := ⟨RX4, "diagramCode", "()I"⟩
def RX5 : String := "LoopStrands$State"
def TX5 : u_T := fun k => match k with
  | 0 => ("LoopStrands$State", "shape", "LLoopStrands$Diagrams;", false)
  | 1 => ("LoopStrands$State", "numbers", "LLoopStrands$Numbers;", true)
  | _ => ("LoopStrands$State", "sums", "[[I", true)
def tyX5 : Nat → FieldType := fun k => match k with
  | 0 => .object "LoopStrands$Diagrams"
  | 1 => .object "LoopStrands$Numbers"
  | _ => .array (.array .int)
theorem nmX5 : ∀ a, a < 3 → ∀ b, b < 3 → a ≠ b → (TX5 a).2.1 ≠ (TX5 b).2.1 := by decide +kernel
theorem tyX5_ok : ∀ k, k < 3 → parseFieldDescriptor (TX5 k).2.2.1 = some (tyX5 k) := by decide +kernel
abbrev cX5_init : ByteArray := prog_7_method_1_code
def yX5_init : MethodName := ⟨RX5, "<init>", "(LLoopStrands$Diagrams;)V"⟩
abbrev cX5_copyFrom : ByteArray := prog_7_method_2_code
def yX5_copyFrom : MethodName := ⟨RX5, "copyFrom", "(LLoopStrands$State;)V"⟩
abbrev cX5_clearSums : ByteArray := prog_7_method_3_code
def yX5_clearSums : MethodName := ⟨RX5, "clearSums", "()V"⟩
abbrev cX5_aboveZero : ByteArray := prog_7_method_4_code
def yX5_aboveZero : MethodName := ⟨RX5, "aboveZero", "(I)I"⟩
def RX6 : String := "LoopStrands$Table"
def TX6 : u_T := fun k => match k with
  | 0 => ("LoopStrands$Table", "determinant", "I", false)
  | 1 => ("LoopStrands$Table", "rank", "I", false)
  | 2 => ("LoopStrands$Table", "cells", "[[I", true)
  | _ => ("LoopStrands$Table", "size", "I", false)
def tyX6 : Nat → FieldType := fun k => match k with
  | 0 => .int
  | 1 => .int
  | 2 => .array (.array .int)
  | _ => .int
theorem nmX6 : ∀ a, a < 4 → ∀ b, b < 4 → a ≠ b → (TX6 a).2.1 ≠ (TX6 b).2.1 := by decide +kernel
theorem tyX6_ok : ∀ k, k < 4 → parseFieldDescriptor (TX6 k).2.2.1 = some (tyX6 k) := by decide +kernel
abbrev cX6_init : ByteArray := prog_8_method_1_code
def yX6_init : MethodName := ⟨RX6, "<init>", "()V"⟩
abbrev cX6_fill : ByteArray := prog_8_method_2_code
def yX6_fill : MethodName := ⟨RX6, "fill", "(LLoopStrands$Numbers;LLoopStrands$Texts;)V"⟩
abbrev cX6_eliminate : ByteArray := prog_8_method_3_code
def yX6_eliminate : MethodName := ⟨RX6, "eliminate", "(LLoopStrands$Numbers;)V"⟩
abbrev cX6_findPivot : ByteArray := prog_8_method_4_code
def yX6_findPivot : MethodName := ⟨RX6, "findPivot", "(I)I"⟩
abbrev cX6_swapRows : ByteArray := prog_8_method_5_code
def yX6_swapRows : MethodName := ⟨RX6, "swapRows", "(II)V"⟩
abbrev cX6_clearBelow : ByteArray := prog_8_method_6_code
def yX6_clearBelow : MethodName := ⟨RX6, "clearBelow", "(LLoopStrands$Numbers;I)V"⟩
def RX7 : String := "LoopStrands$Texts"
def TX7 : u_T := fun k => match k with
  | 0 => ("LoopStrands$Texts", "size", "I", true)
  | 1 => ("LoopStrands$Texts", "rows", "[[I", true)
  | 2 => ("LoopStrands$Texts", "codes", "[I", true)
  | 3 => ("LoopStrands$Texts", "places", "I", true)
  | 4 => ("LoopStrands$Texts", "open", "I", true)
  | 5 => ("LoopStrands$Texts", "base", "I", true)
  | _ => ("LoopStrands$Texts", "waiting", "[I", true)
def tyX7 : Nat → FieldType := fun k => match k with
  | 0 => .int
  | 1 => .array (.array .int)
  | 2 => .array .int
  | 3 => .int
  | 4 => .int
  | 5 => .int
  | _ => .array .int
theorem nmX7 : ∀ a, a < 7 → ∀ b, b < 7 → a ≠ b → (TX7 a).2.1 ≠ (TX7 b).2.1 := by decide +kernel
theorem tyX7_ok : ∀ k, k < 7 → parseFieldDescriptor (TX7 k).2.2.1 = some (tyX7 k) := by decide +kernel
abbrev cX7_init : ByteArray := prog_9_method_1_code
def yX7_init : MethodName := ⟨RX7, "<init>", "(II)V"⟩
abbrev cX7_findCodes : ByteArray := prog_9_method_2_code
def yX7_findCodes : MethodName := ⟨RX7, "findCodes", "([I)I"⟩
abbrev cX7_readCode : ByteArray := prog_9_method_3_code
def yX7_readCode : MethodName := ⟨RX7, "readCode", "(I[I)Z"⟩
abbrev cX7_join : ByteArray := prog_9_method_4_code
def yX7_join : MethodName := ⟨RX7, "join", "([III)V"⟩
abbrev cX7_find : ByteArray := prog_9_method_5_code
def yX7_find : MethodName := ⟨RX7, "find", "(I)I"⟩
abbrev cX7_findRow : ByteArray := prog_9_method_6_code
def yX7_findRow : MethodName := ⟨RX7, "findRow", "([I)I"⟩
def RX8 : String := "LoopStrands"
def TX8 : u_T := fun k => match k with
  | 0 => ("LoopStrands", "pad", "LLoopStrands$Pad;", true)
  | 1 => ("LoopStrands", "shapes", "[LLoopStrands$Diagrams;", true)
  | 2 => ("LoopStrands", "now", "LLoopStrands$State;", true)
  | 3 => ("LoopStrands", "images", "[LLoopStrands$State;", true)
  | 4 => ("LoopStrands", "algebra", "LLoopStrands$Algebra;", true)
  | _ => ("LoopStrands", "table", "LLoopStrands$Table;", true)
def tyX8 : Nat → FieldType := fun k => match k with
  | 0 => .object "LoopStrands$Pad"
  | 1 => .array (.object "LoopStrands$Diagrams")
  | 2 => .object "LoopStrands$State"
  | 3 => .array (.object "LoopStrands$State")
  | 4 => .object "LoopStrands$Algebra"
  | _ => .object "LoopStrands$Table"
theorem nmX8 : ∀ a, a < 6 → ∀ b, b < 6 → a ≠ b → (TX8 a).2.1 ≠ (TX8 b).2.1 := by decide +kernel
theorem tyX8_ok : ∀ k, k < 6 → parseFieldDescriptor (TX8 k).2.2.1 = some (tyX8 k) := by decide +kernel
abbrev cX8_init : ByteArray := prog_1_method_1_code
def yX8_init : MethodName := ⟨RX8, "<init>", "()V"⟩
abbrev cX8_strands : ByteArray := prog_1_method_2_code
def yX8_strands : MethodName := ⟨RX8, "strands", "(I)I"⟩
abbrev cX8_say : ByteArray := prog_1_method_3_code
def yX8_say : MethodName := ⟨RX8, "say", "(I)I"⟩
abbrev cX8_wipe : ByteArray := prog_1_method_4_code
def yX8_wipe : MethodName := ⟨RX8, "wipe", "()I"⟩
abbrev cX8_fault : ByteArray := prog_1_method_5_code
def yX8_fault : MethodName := ⟨RX8, "fault", "(I)I"⟩
abbrev cX8_diagram : ByteArray := prog_1_method_6_code
def yX8_diagram : MethodName := ⟨RX8, "diagram", "()I"⟩
abbrev cX8_word : ByteArray := prog_1_method_7_code
def yX8_word : MethodName := ⟨RX8, "word", "(I)I"⟩
abbrev cX8_of : ByteArray := prog_1_method_8_code
def yX8_of : MethodName := ⟨RX8, "of", "(II)I"⟩
abbrev cX8_joined : ByteArray := prog_1_method_9_code
def yX8_joined : MethodName := ⟨RX8, "joined", "(II)I"⟩
abbrev cX8_stack : ByteArray := prog_1_method_10_code
def yX8_stack : MethodName := ⟨RX8, "stack", "(III)I"⟩
abbrev cX8_way : ByteArray := prog_1_method_11_code
def yX8_way : MethodName := ⟨RX8, "way", "(II)I"⟩
abbrev cX8_prime : ByteArray := prog_1_method_12_code
def yX8_prime : MethodName := ⟨RX8, "prime", "(II)I"⟩
abbrev cX8_put : ByteArray := prog_1_method_13_code
def yX8_put : MethodName := ⟨RX8, "put", "(III)I"⟩
abbrev cX8_at : ByteArray := prog_1_method_14_code
def yX8_at : MethodName := ⟨RX8, "at", "(II)I"⟩
abbrev cX8_both : ByteArray := prog_1_method_15_code
def yX8_both : MethodName := ⟨RX8, "both", "(IIII)I"⟩
abbrev cX8_times : ByteArray := prog_1_method_16_code
def yX8_times : MethodName := ⟨RX8, "times", "(III)I"⟩
abbrev cX8_turn : ByteArray := prog_1_method_17_code
def yX8_turn : MethodName := ⟨RX8, "turn", "(II)I"⟩
abbrev cX8_trace : ByteArray := prog_1_method_18_code
def yX8_trace : MethodName := ⟨RX8, "trace", "(I)I"⟩
abbrev cX8_bracket : ByteArray := prog_1_method_19_code
def yX8_bracket : MethodName := ⟨RX8, "bracket", "(I)I"⟩
abbrev cX8_project : ByteArray := prog_1_method_20_code
def yX8_project : MethodName := ⟨RX8, "project", "(II)I"⟩
abbrev cX8_cell : ByteArray := prog_1_method_21_code
def yX8_cell : MethodName := ⟨RX8, "cell", "(II)I"⟩
abbrev cX8_form : ByteArray := prog_1_method_22_code
def yX8_form : MethodName := ⟨RX8, "form", "(III)I"⟩
abbrev cX8_image : ByteArray := prog_1_method_23_code
def yX8_image : MethodName := ⟨RX8, "image", "(I)I"⟩
abbrev cX8_restore : ByteArray := prog_1_method_24_code
def yX8_restore : MethodName := ⟨RX8, "restore", "(I)I"⟩
abbrev cX8_count : ByteArray := prog_1_method_25_code
def yX8_count : MethodName := ⟨RX8, "count", "(I)I"⟩
abbrev cX8_isWithin : ByteArray := prog_1_method_26_code
def yX8_isWithin : MethodName := ⟨RX8, "isWithin", "(III)Z"⟩
abbrev cX8_isPrime : ByteArray := prog_1_method_27_code
def yX8_isPrime : MethodName := ⟨RX8, "isPrime", "(I)Z"⟩
abbrev cX8_isDiagram : ByteArray := prog_1_method_28_code
def yX8_isDiagram : MethodName := ⟨RX8, "isDiagram", "(I)Z"⟩
abbrev cX8_isSlot : ByteArray := prog_1_method_29_code
def yX8_isSlot : MethodName := ⟨RX8, "isSlot", "(I)Z"⟩
abbrev cX8_isNumber : ByteArray := prog_1_method_30_code
def yX8_isNumber : MethodName := ⟨RX8, "isNumber", "(I)Z"⟩
abbrev cX8_hasHalves : ByteArray := prog_1_method_31_code
def yX8_hasHalves : MethodName := ⟨RX8, "hasHalves", "(I)Z"⟩
def RX9 : String := "LoopStrandsModel"
def TX9 : u_T := fun k => match k with
  | 0 => ("LoopStrandsModel", "state", "[I", true)
  | 1 => ("LoopStrandsModel", "images", "[I", true)
  | 2 => ("LoopStrandsModel", "isKept", "[Z", true)
  | 3 => ("LoopStrandsModel", "pad", "[I", true)
  | 4 => ("LoopStrandsModel", "said", "I", false)
  | 5 => ("LoopStrandsModel", "partner", "[I", true)
  | 6 => ("LoopStrandsModel", "numberOf", "[I", true)
  | 7 => ("LoopStrandsModel", "diagrams", "I", false)
  | 8 => ("LoopStrandsModel", "product", "[I", true)
  | 9 => ("LoopStrandsModel", "loops", "[I", true)
  | 10 => ("LoopStrandsModel", "row", "[I", true)
  | 11 => ("LoopStrandsModel", "stackOf", "[I", true)
  | 12 => ("LoopStrandsModel", "isMet", "[Z", true)
  | 13 => ("LoopStrandsModel", "wave", "[I", true)
  | 14 => ("LoopStrandsModel", "cameFrom", "[I", true)
  | 15 => ("LoopStrandsModel", "cameBy", "[I", true)
  | 16 => ("LoopStrandsModel", "deepOf", "[I", true)
  | 17 => ("LoopStrandsModel", "work", "[I", true)
  | 18 => ("LoopStrandsModel", "left", "[I", true)
  | 19 => ("LoopStrandsModel", "right", "[I", true)
  | 20 => ("LoopStrandsModel", "projector", "[I", true)
  | 21 => ("LoopStrandsModel", "half", "[I", true)
  | 22 => ("LoopStrandsModel", "halves", "I", false)
  | 23 => ("LoopStrandsModel", "halfRow", "[I", true)
  | 24 => ("LoopStrandsModel", "table", "[I", true)
  | 25 => ("LoopStrandsModel", "rank", "I", false)
  | _ => ("LoopStrandsModel", "determinant", "I", false)
def tyX9 : Nat → FieldType := fun k => match k with
  | 0 => .array .int
  | 1 => .array .int
  | 2 => .array .boolean
  | 3 => .array .int
  | 4 => .int
  | 5 => .array .int
  | 6 => .array .int
  | 7 => .int
  | 8 => .array .int
  | 9 => .array .int
  | 10 => .array .int
  | 11 => .array .int
  | 12 => .array .boolean
  | 13 => .array .int
  | 14 => .array .int
  | 15 => .array .int
  | 16 => .array .int
  | 17 => .array .int
  | 18 => .array .int
  | 19 => .array .int
  | 20 => .array .int
  | 21 => .array .int
  | 22 => .int
  | 23 => .array .int
  | 24 => .array .int
  | 25 => .int
  | _ => .int
theorem nmX9 : ∀ a, a < 27 → ∀ b, b < 27 → a ≠ b → (TX9 a).2.1 ≠ (TX9 b).2.1 := by decide +kernel
theorem tyX9_ok : ∀ k, k < 27 → parseFieldDescriptor (TX9 k).2.2.1 = some (tyX9 k) := by decide +kernel
abbrev cX9_init : ByteArray := prog_11_method_1_code
def yX9_init : MethodName := ⟨RX9, "<init>", "()V"⟩
abbrev cX9_in : ByteArray := prog_11_method_2_code
def yX9_in : MethodName := ⟨RX9, "in", "(III)Z"⟩
abbrev cX9_points : ByteArray := prog_11_method_3_code
def yX9_points : MethodName := ⟨RX9, "points", "()I"⟩
abbrev cX9_layText : ByteArray := prog_11_method_4_code
def yX9_layText : MethodName := ⟨RX9, "layText", "(I)Z"⟩
abbrev cX9_textOfRow : ByteArray := prog_11_method_5_code
def yX9_textOfRow : MethodName := ⟨RX9, "textOfRow", "()I"⟩
abbrev cX9_indexOfRow : ByteArray := prog_11_method_6_code
def yX9_indexOfRow : MethodName := ⟨RX9, "indexOfRow", "()I"⟩
abbrev cX9_to : ByteArray := prog_11_method_7_code
def yX9_to : MethodName := ⟨RX9, "to", "(II)I"⟩
abbrev cX9_across : ByteArray := prog_11_method_8_code
def yX9_across : MethodName := ⟨RX9, "across", "(I)I"⟩
abbrev cX9_layDiagrams : ByteArray := prog_11_method_9_code
def yX9_layDiagrams : MethodName := ⟨RX9, "layDiagrams", "()V"⟩
abbrev cX9_endFromAbove : ByteArray := prog_11_method_10_code
def yX9_endFromAbove : MethodName := ⟨RX9, "endFromAbove", "(III)I"⟩
abbrev cX9_endFromBelow : ByteArray := prog_11_method_11_code
def yX9_endFromBelow : MethodName := ⟨RX9, "endFromBelow", "(III)I"⟩
abbrev cX9_meetRound : ByteArray := prog_11_method_12_code
def yX9_meetRound : MethodName := ⟨RX9, "meetRound", "(III)V"⟩
abbrev cX9_layProduct : ByteArray := prog_11_method_13_code
def yX9_layProduct : MethodName := ⟨RX9, "layProduct", "(II)V"⟩
abbrev cX9_isDiagram : ByteArray := prog_11_method_14_code
def yX9_isDiagram : MethodName := ⟨RX9, "isDiagram", "(I)Z"⟩
abbrev cX9_isSlot : ByteArray := prog_11_method_15_code
def yX9_isSlot : MethodName := ⟨RX9, "isSlot", "(I)Z"⟩
abbrev cX9_clearSums : ByteArray := prog_11_method_16_code
def yX9_clearSums : MethodName := ⟨RX9, "clearSums", "()V"⟩
abbrev cX9_strands : ByteArray := prog_11_method_17_code
def yX9_strands : MethodName := ⟨RX9, "strands", "(I)I"⟩
abbrev cX9_say : ByteArray := prog_11_method_18_code
def yX9_say : MethodName := ⟨RX9, "say", "(I)I"⟩
abbrev cX9_wipe : ByteArray := prog_11_method_19_code
def yX9_wipe : MethodName := ⟨RX9, "wipe", "()I"⟩
abbrev cX9_diagramFault : ByteArray := prog_11_method_20_code
def yX9_diagramFault : MethodName := ⟨RX9, "diagramFault", "()I"⟩
abbrev cX9_isHook : ByteArray := prog_11_method_21_code
def yX9_isHook : MethodName := ⟨RX9, "isHook", "(I)Z"⟩
abbrev cX9_wordFault : ByteArray := prog_11_method_22_code
def yX9_wordFault : MethodName := ⟨RX9, "wordFault", "()I"⟩
abbrev cX9_fault : ByteArray := prog_11_method_23_code
def yX9_fault : MethodName := ⟨RX9, "fault", "(I)I"⟩
abbrev cX9_diagram : ByteArray := prog_11_method_24_code
def yX9_diagram : MethodName := ⟨RX9, "diagram", "()I"⟩
abbrev cX9_joinTwo : ByteArray := prog_11_method_25_code
def yX9_joinTwo : MethodName := ⟨RX9, "joinTwo", "(II)V"⟩
abbrev cX9_hook : ByteArray := prog_11_method_26_code
def yX9_hook : MethodName := ⟨RX9, "hook", "(I)I"⟩
abbrev cX9_word : ByteArray := prog_11_method_27_code
def yX9_word : MethodName := ⟨RX9, "word", "(I)I"⟩
abbrev cX9_through : ByteArray := prog_11_method_28_code
def yX9_through : MethodName := ⟨RX9, "through", "(I)I"⟩
abbrev cX9_closedLoops : ByteArray := prog_11_method_29_code
def yX9_closedLoops : MethodName := ⟨RX9, "closedLoops", "(I)I"⟩
abbrev cX9_turnedOf : ByteArray := prog_11_method_30_code
def yX9_turnedOf : MethodName := ⟨RX9, "turnedOf", "(I)I"⟩
abbrev cX9_layWays : ByteArray := prog_11_method_31_code
def yX9_layWays : MethodName := ⟨RX9, "layWays", "()V"⟩
abbrev cX9_of : ByteArray := prog_11_method_32_code
def yX9_of : MethodName := ⟨RX9, "of", "(II)I"⟩
abbrev cX9_joined : ByteArray := prog_11_method_33_code
def yX9_joined : MethodName := ⟨RX9, "joined", "(II)I"⟩
abbrev cX9_stack : ByteArray := prog_11_method_34_code
def yX9_stack : MethodName := ⟨RX9, "stack", "(III)I"⟩
abbrev cX9_way : ByteArray := prog_11_method_35_code
def yX9_way : MethodName := ⟨RX9, "way", "(II)I"⟩
abbrev cX9_isPrime : ByteArray := prog_11_method_36_code
def yX9_isPrime : MethodName := ⟨RX9, "isPrime", "(I)Z"⟩
abbrev cX9_isNumber : ByteArray := prog_11_method_37_code
def yX9_isNumber : MethodName := ⟨RX9, "isNumber", "(I)Z"⟩
abbrev cX9_by : ByteArray := prog_11_method_38_code
def yX9_by : MethodName := ⟨RX9, "by", "(I)I"⟩
abbrev cX9_loopTimes : ByteArray := prog_11_method_39_code
def yX9_loopTimes : MethodName := ⟨RX9, "loopTimes", "(I)I"⟩
abbrev cX9_prime : ByteArray := prog_11_method_40_code
def yX9_prime : MethodName := ⟨RX9, "prime", "(II)I"⟩
abbrev cX9_place : ByteArray := prog_11_method_41_code
def yX9_place : MethodName := ⟨RX9, "place", "(II)I"⟩
abbrev cX9_put : ByteArray := prog_11_method_42_code
def yX9_put : MethodName := ⟨RX9, "put", "(III)I"⟩
abbrev cX9_at : ByteArray := prog_11_method_43_code
def yX9_at : MethodName := ⟨RX9, "at", "(II)I"⟩
abbrev cX9_give : ByteArray := prog_11_method_44_code
def yX9_give : MethodName := ⟨RX9, "give", "(I)I"⟩
abbrev cX9_stackSums : ByteArray := prog_11_method_45_code
def yX9_stackSums : MethodName := ⟨RX9, "stackSums", "()V"⟩
abbrev cX9_both : ByteArray := prog_11_method_46_code
def yX9_both : MethodName := ⟨RX9, "both", "(IIII)I"⟩
abbrev cX9_times : ByteArray := prog_11_method_47_code
def yX9_times : MethodName := ⟨RX9, "times", "(III)I"⟩
abbrev cX9_turn : ByteArray := prog_11_method_48_code
def yX9_turn : MethodName := ⟨RX9, "turn", "(II)I"⟩
abbrev cX9_trace : ByteArray := prog_11_method_49_code
def yX9_trace : MethodName := ⟨RX9, "trace", "(I)I"⟩
abbrev cX9_bracketOf : ByteArray := prog_11_method_50_code
def yX9_bracketOf : MethodName := ⟨RX9, "bracketOf", "(I)I"⟩
abbrev cX9_bracket : ByteArray := prog_11_method_51_code
def yX9_bracket : MethodName := ⟨RX9, "bracket", "(I)I"⟩
abbrev cX9_inverse : ByteArray := prog_11_method_52_code
def yX9_inverse : MethodName := ⟨RX9, "inverse", "(I)I"⟩
abbrev cX9_growProjector : ByteArray := prog_11_method_53_code
def yX9_growProjector : MethodName := ⟨RX9, "growProjector", "(I)V"⟩
abbrev cX9_project : ByteArray := prog_11_method_54_code
def yX9_project : MethodName := ⟨RX9, "project", "(II)I"⟩
abbrev cX9_layHalf : ByteArray := prog_11_method_55_code
def yX9_layHalf : MethodName := ⟨RX9, "layHalf", "(II)Z"⟩
abbrev cX9_layHalves : ByteArray := prog_11_method_56_code
def yX9_layHalves : MethodName := ⟨RX9, "layHalves", "(I)V"⟩
abbrev cX9_comesThrough : ByteArray := prog_11_method_57_code
def yX9_comesThrough : MethodName := ⟨RX9, "comesThrough", "(III)Z"⟩
abbrev cX9_formOf : ByteArray := prog_11_method_58_code
def yX9_formOf : MethodName := ⟨RX9, "formOf", "(II)I"⟩
abbrev cX9_isCell : ByteArray := prog_11_method_59_code
def yX9_isCell : MethodName := ⟨RX9, "isCell", "(I)Z"⟩
abbrev cX9_swapRows : ByteArray := prog_11_method_60_code
def yX9_swapRows : MethodName := ⟨RX9, "swapRows", "(II)V"⟩
abbrev cX9_rowWith : ByteArray := prog_11_method_61_code
def yX9_rowWith : MethodName := ⟨RX9, "rowWith", "(II)I"⟩
abbrev cX9_clearBelow : ByteArray := prog_11_method_62_code
def yX9_clearBelow : MethodName := ⟨RX9, "clearBelow", "(II)V"⟩
abbrev cX9_layTable : ByteArray := prog_11_method_63_code
def yX9_layTable : MethodName := ⟨RX9, "layTable", "()V"⟩
abbrev cX9_cell : ByteArray := prog_11_method_64_code
def yX9_cell : MethodName := ⟨RX9, "cell", "(II)I"⟩
abbrev cX9_form : ByteArray := prog_11_method_65_code
def yX9_form : MethodName := ⟨RX9, "form", "(III)I"⟩
abbrev cX9_image : ByteArray := prog_11_method_66_code
def yX9_image : MethodName := ⟨RX9, "image", "(I)I"⟩
abbrev cX9_restore : ByteArray := prog_11_method_67_code
def yX9_restore : MethodName := ⟨RX9, "restore", "(I)I"⟩
abbrev cX9_count : ByteArray := prog_11_method_68_code
def yX9_count : MethodName := ⟨RX9, "count", "(I)I"⟩
def RJ9 : String := "java/lang/Math"
abbrev cJ9_min_7cf53 : ByteArray := prog_13_method_69_code
def yJ9_min_7cf53 : MethodName := ⟨RJ9, "min", "(II)I"⟩
def RJ10 : String := "java/lang/System"
def RJ7 : String := "java/util/Arrays"
abbrev cJ7_fill_53178 : ByteArray := prog_15_method_103_code
def yJ7_fill_53178 : MethodName := ⟨RJ7, "fill", "([II)V"⟩
abbrev cJ7_copyOf_59c91 : ByteArray := prog_15_method_123_code
def yJ7_copyOf_59c91 : MethodName := ⟨RJ7, "copyOf", "([II)[I"⟩
def RL : String := "LoopStrandsLaw"
abbrev cL_law : ByteArray := code
def yL_law : MethodName := ⟨RL, "law", "([I)Z"⟩
abbrev vwCl : List vw_C := [(RX0, TX0, 3), (RX1, TX1, 12), (RX3, TX3, 3), (RX4, TX4, 2), (RX5, TX5, 3), (RX6, TX6, 4), (RX7, TX7, 7), (RX8, TX8, 6), (RX9, TX9, 27)]
end
section
abbrev ex_MO : Type := Instr × Nat × Nat × Nat × Int32
abbrev ex_no : ex_MO := (.nop, 0, 0, 0, 0)
/-- LoopStrands$Algebra.<init> -/
def ex_k0 : List ex_MO := [(.aload_n 0, 1, 0, 0, 0), (.invokespecial 3, 3, 1000, 0, 0), ex_no, ex_no, (.aload_n 0, 1, 0, 0, 0), (.bipush 42, 2, 0, 0, 42), ex_no, (.newarray .int, 2, 0, 0, 0), ex_no, (.putfield 9, 3, 0, 0, 0), ex_no, ex_no, (.aload_n 0, 1, 0, 0, 0), (.bipush 42, 2, 0, 0, 42), ex_no, (.newarray .int, 2, 0, 0, 0), ex_no, (.putfield 15, 3, 0, 1, 0), ex_no, ex_no, (.aload_n 0, 1, 0, 0, 0), (.bipush 42, 2, 0, 0, 42), ex_no, (.newarray .int, 2, 0, 0, 0), ex_no, (.putfield 18, 3, 0, 2, 0), ex_no, ex_no, (.return_, 1, 0, 0, 0)]
/-- LoopStrands$Algebra.add -/
def ex_k1 : List ex_MO := [(.iconst 0, 1, 0, 0, 0), (.istore 5, 2, 5, 0, 0), ex_no, (.iload 5, 2, 5, 0, 0), ex_no, (.aload_n 1, 1, 1, 0, 0), (.getfield 21, 3, 4, 0, 0), ex_no, ex_no, (.getfield 27, 3, 1, 2, 0), ex_no, ex_no, (.getfield 33, 3, 6, 0, 0), ex_no, ex_no, (.if_icmp .ge 29, 3, 44, 0, 0), ex_no, ex_no, (.aload_n 2, 1, 2, 0, 0), (.iload 5, 2, 5, 0, 0), ex_no, (.aload_n 1, 1, 1, 0, 0), (.getfield 39, 3, 4, 1, 0), ex_no, ex_no, (.aload_n 3, 1, 3, 0, 0), (.iload 5, 2, 5, 0, 0), ex_no, (.iaload, 1, 0, 0, 0), (.aload 4, 2, 4, 0, 0), ex_no, (.iload 5, 2, 5, 0, 0), ex_no, (.iaload, 1, 0, 0, 0), (.invokevirtual 43, 3, 29, 3, 0), ex_no, ex_no, (.iastore, 1, 0, 0, 0), (.iinc 5 1, 3, 5, 0, 1), ex_no, ex_no, (.goto (-38), 3, 3, 0, 0), ex_no, ex_no, (.return_, 1, 0, 0, 0)]
/-- LoopStrands$Algebra.subtract -/
def ex_k2 : List ex_MO := [(.iconst 0, 1, 0, 0, 0), (.istore 5, 2, 5, 0, 0), ex_no, (.iload 5, 2, 5, 0, 0), ex_no, (.aload_n 1, 1, 1, 0, 0), (.getfield 21, 3, 4, 0, 0), ex_no, ex_no, (.getfield 27, 3, 1, 2, 0), ex_no, ex_no, (.getfield 33, 3, 6, 0, 0), ex_no, ex_no, (.if_icmp .ge 29, 3, 44, 0, 0), ex_no, ex_no, (.aload_n 2, 1, 2, 0, 0), (.iload 5, 2, 5, 0, 0), ex_no, (.aload_n 1, 1, 1, 0, 0), (.getfield 39, 3, 4, 1, 0), ex_no, ex_no, (.aload_n 3, 1, 3, 0, 0), (.iload 5, 2, 5, 0, 0), ex_no, (.iaload, 1, 0, 0, 0), (.aload 4, 2, 4, 0, 0), ex_no, (.iload 5, 2, 5, 0, 0), ex_no, (.iaload, 1, 0, 0, 0), (.invokevirtual 49, 3, 30, 3, 0), ex_no, ex_no, (.iastore, 1, 0, 0, 0), (.iinc 5 1, 3, 5, 0, 1), ex_no, ex_no, (.goto (-38), 3, 3, 0, 0), ex_no, ex_no, (.return_, 1, 0, 0, 0)]
/-- LoopStrands$Algebra.scale -/
def ex_k3 : List ex_MO := [(.iconst 0, 1, 0, 0, 0), (.istore 5, 2, 5, 0, 0), ex_no, (.iload 5, 2, 5, 0, 0), ex_no, (.aload_n 1, 1, 1, 0, 0), (.getfield 21, 3, 4, 0, 0), ex_no, ex_no, (.getfield 27, 3, 1, 2, 0), ex_no, ex_no, (.getfield 33, 3, 6, 0, 0), ex_no, ex_no, (.if_icmp .ge 26, 3, 41, 0, 0), ex_no, ex_no, (.aload_n 2, 1, 2, 0, 0), (.iload 5, 2, 5, 0, 0), ex_no, (.aload_n 1, 1, 1, 0, 0), (.getfield 39, 3, 4, 1, 0), ex_no, ex_no, (.aload_n 3, 1, 3, 0, 0), (.iload 5, 2, 5, 0, 0), ex_no, (.iaload, 1, 0, 0, 0), (.iload 4, 2, 4, 0, 0), ex_no, (.invokevirtual 52, 3, 31, 3, 0), ex_no, ex_no, (.iastore, 1, 0, 0, 0), (.iinc 5 1, 3, 5, 0, 1), ex_no, ex_no, (.goto (-35), 3, 3, 0, 0), ex_no, ex_no, (.return_, 1, 0, 0, 0)]
/-- LoopStrands$Algebra.turnOver -/
def ex_k4 : List ex_MO := [(.aload_n 0, 1, 0, 0, 0), (.getfield 9, 3, 0, 0, 0), ex_no, ex_no, (.iconst 0, 1, 0, 0, 0), (.invokestatic 55, 3, 159, 2, 0), ex_no, ex_no, (.iconst 0, 1, 0, 0, 0), (.istore 4, 2, 4, 0, 0), ex_no, (.iload 4, 2, 4, 0, 0), ex_no, (.aload_n 1, 1, 1, 0, 0), (.getfield 21, 3, 4, 0, 0), ex_no, ex_no, (.getfield 27, 3, 1, 2, 0), ex_no, ex_no, (.getfield 33, 3, 6, 0, 0), ex_no, ex_no, (.if_icmp .ge 27, 3, 50, 0, 0), ex_no, ex_no, (.aload_n 0, 1, 0, 0, 0), (.getfield 9, 3, 0, 0, 0), ex_no, ex_no, (.aload_n 1, 1, 1, 0, 0), (.getfield 21, 3, 4, 0, 0), ex_no, ex_no, (.iload 4, 2, 4, 0, 0), ex_no, (.invokevirtual 61, 3, 16, 2, 0), ex_no, ex_no, (.aload_n 3, 1, 3, 0, 0), (.iload 4, 2, 4, 0, 0), ex_no, (.iaload, 1, 0, 0, 0), (.iastore, 1, 0, 0, 0), (.iinc 4 1, 3, 4, 0, 1), ex_no, ex_no, (.goto (-36), 3, 11, 0, 0), ex_no, ex_no, (.aload_n 0, 1, 0, 0, 0), (.getfield 9, 3, 0, 0, 0), ex_no, ex_no, (.iconst 0, 1, 0, 0, 0), (.aload_n 2, 1, 2, 0, 0), (.iconst 0, 1, 0, 0, 0), (.bipush 42, 2, 0, 0, 42), ex_no, (.invokestatic 65, 3, 1001, 0, 0), ex_no, ex_no, (.return_, 1, 0, 0, 0)]
/-- LoopStrands$Algebra.pile -/
def ex_k5 : List ex_MO := [(.aload_n 0, 1, 0, 0, 0), (.getfield 9, 3, 0, 0, 0), ex_no, ex_no, (.iconst 0, 1, 0, 0, 0), (.invokestatic 55, 3, 159, 2, 0), ex_no, ex_no, (.iconst 0, 1, 0, 0, 0), (.istore 5, 2, 5, 0, 0), ex_no, (.iload 5, 2, 5, 0, 0), ex_no, (.aload_n 1, 1, 1, 0, 0), (.getfield 21, 3, 4, 0, 0), ex_no, ex_no, (.getfield 27, 3, 1, 2, 0), ex_no, ex_no, (.getfield 33, 3, 6, 0, 0), ex_no, ex_no, (.if_icmp .ge 132, 3, 155, 0, 0), ex_no, ex_no, (.iconst 0, 1, 0, 0, 0), (.istore 6, 2, 6, 0, 0), ex_no, (.iload 6, 2, 6, 0, 0), ex_no, (.aload_n 1, 1, 1, 0, 0), (.getfield 21, 3, 4, 0, 0), ex_no, ex_no, (.getfield 27, 3, 1, 2, 0), ex_no, ex_no, (.getfield 33, 3, 6, 0, 0), ex_no, ex_no, (.if_icmp .ge 108, 3, 149, 0, 0), ex_no, ex_no, (.aload_n 3, 1, 3, 0, 0), (.iload 5, 2, 5, 0, 0), ex_no, (.iaload, 1, 0, 0, 0), (.ifCond .eq 95, 3, 143, 0, 0), ex_no, ex_no, (.aload 4, 2, 4, 0, 0), ex_no, (.iload 6, 2, 6, 0, 0), ex_no, (.iaload, 1, 0, 0, 0), (.ifCond .eq 87, 3, 143, 0, 0), ex_no, ex_no, (.aload_n 1, 1, 1, 0, 0), (.getfield 21, 3, 4, 0, 0), ex_no, ex_no, (.iload 5, 2, 5, 0, 0), ex_no, (.iload 6, 2, 6, 0, 0), ex_no, (.invokevirtual 71, 3, 19, 3, 0), ex_no, ex_no, (.istore 7, 2, 7, 0, 0), ex_no, (.iload 7, 2, 7, 0, 0), ex_no, (.bipush 8, 2, 0, 0, 8), ex_no, (.idiv, 1, 0, 0, 0), (.istore 8, 2, 8, 0, 0), ex_no, (.aload_n 1, 1, 1, 0, 0), (.getfield 39, 3, 4, 1, 0), ex_no, ex_no, (.iload 7, 2, 7, 0, 0), ex_no, (.bipush 8, 2, 0, 0, 8), ex_no, (.irem, 1, 0, 0, 0), (.invokevirtual 74, 3, 33, 2, 0), ex_no, ex_no, (.istore 9, 2, 9, 0, 0), ex_no, (.aload_n 1, 1, 1, 0, 0), (.getfield 39, 3, 4, 1, 0), ex_no, ex_no, (.aload_n 1, 1, 1, 0, 0), (.getfield 39, 3, 4, 1, 0), ex_no, ex_no, (.aload_n 3, 1, 3, 0, 0), (.iload 5, 2, 5, 0, 0), ex_no, (.iaload, 1, 0, 0, 0), (.aload 4, 2, 4, 0, 0), ex_no, (.iload 6, 2, 6, 0, 0), ex_no, (.iaload, 1, 0, 0, 0), (.invokevirtual 52, 3, 31, 3, 0), ex_no, ex_no, (.iload 9, 2, 9, 0, 0), ex_no, (.invokevirtual 52, 3, 31, 3, 0), ex_no, ex_no, (.istore 10, 2, 10, 0, 0), ex_no, (.aload_n 0, 1, 0, 0, 0), (.getfield 9, 3, 0, 0, 0), ex_no, ex_no, (.iload 8, 2, 8, 0, 0), ex_no, (.aload_n 1, 1, 1, 0, 0), (.getfield 39, 3, 4, 1, 0), ex_no, ex_no, (.aload_n 0, 1, 0, 0, 0), (.getfield 9, 3, 0, 0, 0), ex_no, ex_no, (.iload 8, 2, 8, 0, 0), ex_no, (.iaload, 1, 0, 0, 0), (.iload 10, 2, 10, 0, 0), ex_no, (.invokevirtual 43, 3, 29, 3, 0), ex_no, ex_no, (.iastore, 1, 0, 0, 0), (.iinc 6 1, 3, 6, 0, 1), ex_no, ex_no, (.goto (-117), 3, 29, 0, 0), ex_no, ex_no, (.iinc 5 1, 3, 5, 0, 1), ex_no, ex_no, (.goto (-141), 3, 11, 0, 0), ex_no, ex_no, (.aload_n 0, 1, 0, 0, 0), (.getfield 9, 3, 0, 0, 0), ex_no, ex_no, (.iconst 0, 1, 0, 0, 0), (.aload_n 2, 1, 2, 0, 0), (.iconst 0, 1, 0, 0, 0), (.bipush 42, 2, 0, 0, 42), ex_no, (.invokestatic 65, 3, 1001, 0, 0), ex_no, ex_no, (.return_, 1, 0, 0, 0)]
/-- LoopStrands$Algebra.close -/
def ex_k6 : List ex_MO := [(.iconst 0, 1, 0, 0, 0), (.istore_n 3, 1, 3, 0, 0), (.iconst 0, 1, 0, 0, 0), (.istore 4, 2, 4, 0, 0), ex_no, (.iload 4, 2, 4, 0, 0), ex_no, (.aload_n 1, 1, 1, 0, 0), (.getfield 21, 3, 4, 0, 0), ex_no, ex_no, (.getfield 27, 3, 1, 2, 0), ex_no, ex_no, (.getfield 33, 3, 6, 0, 0), ex_no, ex_no, (.if_icmp .ge 49, 3, 66, 0, 0), ex_no, ex_no, (.aload_n 1, 1, 1, 0, 0), (.getfield 39, 3, 4, 1, 0), ex_no, ex_no, (.aload_n 1, 1, 1, 0, 0), (.getfield 21, 3, 4, 0, 0), ex_no, ex_no, (.iload 4, 2, 4, 0, 0), ex_no, (.invokevirtual 77, 3, 15, 2, 0), ex_no, ex_no, (.invokevirtual 74, 3, 33, 2, 0), ex_no, ex_no, (.istore 5, 2, 5, 0, 0), ex_no, (.aload_n 1, 1, 1, 0, 0), (.getfield 39, 3, 4, 1, 0), ex_no, ex_no, (.iload_n 3, 1, 3, 0, 0), (.aload_n 1, 1, 1, 0, 0), (.getfield 39, 3, 4, 1, 0), ex_no, ex_no, (.aload_n 2, 1, 2, 0, 0), (.iload 4, 2, 4, 0, 0), ex_no, (.iaload, 1, 0, 0, 0), (.iload 5, 2, 5, 0, 0), ex_no, (.invokevirtual 52, 3, 31, 3, 0), ex_no, ex_no, (.invokevirtual 43, 3, 29, 3, 0), ex_no, ex_no, (.istore_n 3, 1, 3, 0, 0), (.iinc 4 1, 3, 4, 0, 1), ex_no, ex_no, (.goto (-58), 3, 5, 0, 0), ex_no, ex_no, (.iload_n 3, 1, 3, 0, 0), (.ireturn, 1, 0, 0, 0)]
/-- LoopStrands$Algebra.makeProjector -/
def ex_k7 : List ex_MO := [(.aload_n 1, 1, 1, 0, 0), (.getfield 39, 3, 4, 1, 0), ex_no, ex_no, (.astore 4, 2, 4, 0, 0), ex_no, (.aload_n 2, 1, 2, 0, 0), (.iconst 0, 1, 0, 0, 0), (.invokestatic 55, 3, 159, 2, 0), ex_no, ex_no, (.aload_n 2, 1, 2, 0, 0), (.iconst 0, 1, 0, 0, 0), (.iconst 1, 1, 0, 0, 1), (.iastore, 1, 0, 0, 0), (.iconst 1, 1, 0, 0, 1), (.istore 5, 2, 5, 0, 0), ex_no, (.iload 5, 2, 5, 0, 0), ex_no, (.iload_n 3, 1, 3, 0, 0), (.if_icmp .ge 127, 3, 148, 0, 0), ex_no, ex_no, (.iload 5, 2, 5, 0, 0), ex_no, (.aload_n 1, 1, 1, 0, 0), (.getfield 21, 3, 4, 0, 0), ex_no, ex_no, (.getfield 80, 3, 1, 0, 0), ex_no, ex_no, (.if_icmp .ge 115, 3, 148, 0, 0), ex_no, ex_no, (.aload_n 0, 1, 0, 0, 0), (.getfield 18, 3, 0, 2, 0), ex_no, ex_no, (.iconst 0, 1, 0, 0, 0), (.invokestatic 55, 3, 159, 2, 0), ex_no, ex_no, (.aload_n 0, 1, 0, 0, 0), (.getfield 18, 3, 0, 2, 0), ex_no, ex_no, (.aload_n 1, 1, 1, 0, 0), (.getfield 21, 3, 4, 0, 0), ex_no, ex_no, (.getfield 83, 3, 1, 4, 0), ex_no, ex_no, (.iload 5, 2, 5, 0, 0), ex_no, (.iaload, 1, 0, 0, 0), (.iconst 1, 1, 0, 0, 1), (.iastore, 1, 0, 0, 0), (.aload_n 0, 1, 0, 0, 0), (.aload_n 1, 1, 1, 0, 0), (.aload_n 0, 1, 0, 0, 0), (.getfield 15, 3, 0, 1, 0), ex_no, ex_no, (.aload_n 2, 1, 2, 0, 0), (.aload_n 0, 1, 0, 0, 0), (.getfield 18, 3, 0, 2, 0), ex_no, ex_no, (.invokevirtual 86, 3, 5, 5, 0), ex_no, ex_no, (.aload_n 0, 1, 0, 0, 0), (.aload_n 1, 1, 1, 0, 0), (.aload_n 0, 1, 0, 0, 0), (.getfield 15, 3, 0, 1, 0), ex_no, ex_no, (.aload_n 0, 1, 0, 0, 0), (.getfield 15, 3, 0, 1, 0), ex_no, ex_no, (.aload_n 2, 1, 2, 0, 0), (.invokevirtual 86, 3, 5, 5, 0), ex_no, ex_no, (.aload 4, 2, 4, 0, 0), ex_no, (.aload 4, 2, 4, 0, 0), ex_no, (.iload 5, 2, 5, 0, 0), ex_no, (.iconst 1, 1, 0, 0, 1), (.iadd, 1, 0, 0, 0), (.invokevirtual 90, 3, 34, 2, 0), ex_no, ex_no, (.invokevirtual 93, 3, 32, 2, 0), ex_no, ex_no, (.istore 6, 2, 6, 0, 0), ex_no, (.aload_n 0, 1, 0, 0, 0), (.aload_n 1, 1, 1, 0, 0), (.aload_n 0, 1, 0, 0, 0), (.getfield 15, 3, 0, 1, 0), ex_no, ex_no, (.aload_n 0, 1, 0, 0, 0), (.getfield 15, 3, 0, 1, 0), ex_no, ex_no, (.aload 4, 2, 4, 0, 0), ex_no, (.aload 4, 2, 4, 0, 0), ex_no, (.iload 5, 2, 5, 0, 0), ex_no, (.invokevirtual 90, 3, 34, 2, 0), ex_no, ex_no, (.iload 6, 2, 6, 0, 0), ex_no, (.invokevirtual 52, 3, 31, 3, 0), ex_no, ex_no, (.invokevirtual 96, 3, 3, 5, 0), ex_no, ex_no, (.aload_n 0, 1, 0, 0, 0), (.aload_n 1, 1, 1, 0, 0), (.aload_n 2, 1, 2, 0, 0), (.aload_n 2, 1, 2, 0, 0), (.aload_n 0, 1, 0, 0, 0), (.getfield 15, 3, 0, 1, 0), ex_no, ex_no, (.invokevirtual 100, 3, 2, 5, 0), ex_no, ex_no, (.iinc 5 1, 3, 5, 0, 1), ex_no, ex_no, (.goto (-127), 3, 18, 0, 0), ex_no, ex_no, (.return_, 1, 0, 0, 0)]
/-- LoopStrands$Diagrams.<init> -/
def ex_k8 : List ex_MO := [(.aload_n 0, 1, 0, 0, 0), (.invokespecial 3, 3, 1000, 0, 0), ex_no, ex_no, (.aload_n 0, 1, 0, 0, 0), (.iload_n 1, 1, 1, 0, 0), (.putfield 9, 3, 1, 0, 0), ex_no, ex_no, (.aload_n 0, 1, 0, 0, 0), (.iconst 2, 1, 0, 0, 2), (.iload_n 1, 1, 1, 0, 0), (.imul, 1, 0, 0, 0), (.putfield 15, 3, 1, 1, 0), ex_no, ex_no, (.aload_n 0, 1, 0, 0, 0), (.new 18, 3, 6, 0, 0), ex_no, ex_no, (.dup, 1, 0, 0, 0), (.aload_n 0, 1, 0, 0, 0), (.getfield 15, 3, 1, 1, 0), ex_no, ex_no, (.iconst 0, 1, 0, 0, 0), (.invokespecial 20, 3, 54, 3, 0), ex_no, ex_no, (.putfield 23, 3, 1, 2, 0), ex_no, ex_no, (.aload_n 0, 1, 0, 0, 0), (.iload_n 1, 1, 1, 0, 0), (.iconst 1, 1, 0, 0, 1), (.iadd, 1, 0, 0, 0), (.anewarray 18, 3, 5, 0, 0), ex_no, ex_no, (.putfield 27, 3, 1, 3, 0), ex_no, ex_no, (.iload_n 1, 1, 1, 0, 0), (.istore_n 2, 1, 2, 0, 0), (.iload_n 2, 1, 2, 0, 0), (.ifCond .lt 24, 3, 69, 0, 0), ex_no, ex_no, (.aload_n 0, 1, 0, 0, 0), (.getfield 27, 3, 1, 3, 0), ex_no, ex_no, (.iload_n 2, 1, 2, 0, 0), (.new 18, 3, 6, 0, 0), ex_no, ex_no, (.dup, 1, 0, 0, 0), (.iload_n 1, 1, 1, 0, 0), (.iload_n 2, 1, 2, 0, 0), (.invokespecial 20, 3, 54, 3, 0), ex_no, ex_no, (.aastore, 1, 0, 0, 0), (.iinc 2 (-2), 3, 2, 0, -2), ex_no, ex_no, (.goto (-22), 3, 44, 0, 0), ex_no, ex_no, (.aload_n 0, 1, 0, 0, 0), (.aload_n 0, 1, 0, 0, 0), (.getfield 15, 3, 1, 1, 0), ex_no, ex_no, (.newarray .int, 2, 0, 0, 0), ex_no, (.putfield 31, 3, 1, 9, 0), ex_no, ex_no, (.aload_n 0, 1, 0, 0, 0), (.iload_n 1, 1, 1, 0, 0), (.newarray .int, 2, 0, 0, 0), ex_no, (.putfield 35, 3, 1, 10, 0), ex_no, ex_no, (.aload_n 0, 1, 0, 0, 0), (.iload_n 1, 1, 1, 0, 0), (.newarray .int, 2, 0, 0, 0), ex_no, (.putfield 38, 3, 1, 11, 0), ex_no, ex_no, (.aload_n 0, 1, 0, 0, 0), (.aload_n 0, 1, 0, 0, 0), (.getfield 23, 3, 1, 2, 0), ex_no, ex_no, (.getfield 41, 3, 6, 0, 0), ex_no, ex_no, (.aload_n 0, 1, 0, 0, 0), (.getfield 23, 3, 1, 2, 0), ex_no, ex_no, (.getfield 41, 3, 6, 0, 0), ex_no, ex_no, (.imul, 1, 0, 0, 0), (.newarray .int, 2, 0, 0, 0), ex_no, (.putfield 44, 3, 1, 5, 0), ex_no, ex_no, (.aload_n 0, 1, 0, 0, 0), (.getfield 44, 3, 1, 5, 0), ex_no, ex_no, (.iconst (-1), 1, 0, 0, -1), (.invokestatic 47, 3, 159, 2, 0), ex_no, ex_no, (.aload_n 0, 1, 0, 0, 0), (.iload_n 1, 1, 1, 0, 0), (.newarray .int, 2, 0, 0, 0), ex_no, (.putfield 53, 3, 1, 4, 0), ex_no, ex_no, (.iconst 1, 1, 0, 0, 1), (.istore_n 2, 1, 2, 0, 0), (.iload_n 2, 1, 2, 0, 0), (.iload_n 1, 1, 1, 0, 0), (.if_icmp .ge 20, 3, 153, 0, 0), ex_no, ex_no, (.aload_n 0, 1, 0, 0, 0), (.getfield 53, 3, 1, 4, 0), ex_no, ex_no, (.iload_n 2, 1, 2, 0, 0), (.aload_n 0, 1, 0, 0, 0), (.iload_n 2, 1, 2, 0, 0), (.invokevirtual 56, 3, 10, 2, 0), ex_no, ex_no, (.iastore, 1, 0, 0, 0), (.iinc 2 1, 3, 2, 0, 1), ex_no, ex_no, (.goto (-19), 3, 131, 0, 0), ex_no, ex_no, (.aload_n 0, 1, 0, 0, 0), (.aload_n 0, 1, 0, 0, 0), (.getfield 23, 3, 1, 2, 0), ex_no, ex_no, (.getfield 41, 3, 6, 0, 0), ex_no, ex_no, (.newarray .int, 2, 0, 0, 0), ex_no, (.putfield 60, 3, 1, 6, 0), ex_no, ex_no, (.aload_n 0, 1, 0, 0, 0), (.aload_n 0, 1, 0, 0, 0), (.getfield 23, 3, 1, 2, 0), ex_no, ex_no, (.getfield 41, 3, 6, 0, 0), ex_no, ex_no, (.newarray .int, 2, 0, 0, 0), ex_no, (.putfield 63, 3, 1, 7, 0), ex_no, ex_no, (.aload_n 0, 1, 0, 0, 0), (.aload_n 0, 1, 0, 0, 0), (.getfield 23, 3, 1, 2, 0), ex_no, ex_no, (.getfield 41, 3, 6, 0, 0), ex_no, ex_no, (.newarray .int, 2, 0, 0, 0), ex_no, (.putfield 66, 3, 1, 8, 0), ex_no, ex_no, (.aload_n 0, 1, 0, 0, 0), (.invokevirtual 69, 3, 11, 1, 0), ex_no, ex_no, (.return_, 1, 0, 0, 0)]
/-- LoopStrands$Diagrams.opposite -/
def ex_k9 : List ex_MO := [(.aload_n 0, 1, 0, 0, 0), (.getfield 15, 3, 1, 1, 0), ex_no, ex_no, (.iconst 1, 1, 0, 0, 1), (.isub, 1, 0, 0, 0), (.iload_n 1, 1, 1, 0, 0), (.isub, 1, 0, 0, 0), (.ireturn, 1, 0, 0, 0)]
/-- LoopStrands$Diagrams.findHook -/
def ex_k10 : List ex_MO := [(.iconst 0, 1, 0, 0, 0), (.istore_n 2, 1, 2, 0, 0), (.iload_n 2, 1, 2, 0, 0), (.aload_n 0, 1, 0, 0, 0), (.getfield 15, 3, 1, 1, 0), ex_no, ex_no, (.if_icmp .ge 20, 3, 27, 0, 0), ex_no, ex_no, (.aload_n 0, 1, 0, 0, 0), (.getfield 31, 3, 1, 9, 0), ex_no, ex_no, (.iload_n 2, 1, 2, 0, 0), (.aload_n 0, 1, 0, 0, 0), (.iload_n 2, 1, 2, 0, 0), (.invokevirtual 72, 3, 9, 2, 0), ex_no, ex_no, (.iastore, 1, 0, 0, 0), (.iinc 2 1, 3, 2, 0, 1), ex_no, ex_no, (.goto (-22), 3, 2, 0, 0), ex_no, ex_no, (.aload_n 0, 1, 0, 0, 0), (.getfield 31, 3, 1, 9, 0), ex_no, ex_no, (.iload_n 1, 1, 1, 0, 0), (.iconst 1, 1, 0, 0, 1), (.isub, 1, 0, 0, 0), (.iload_n 1, 1, 1, 0, 0), (.invokestatic 75, 3, 57, 3, 0), ex_no, ex_no, (.aload_n 0, 1, 0, 0, 0), (.getfield 31, 3, 1, 9, 0), ex_no, ex_no, (.aload_n 0, 1, 0, 0, 0), (.iload_n 1, 1, 1, 0, 0), (.iconst 1, 1, 0, 0, 1), (.isub, 1, 0, 0, 0), (.invokevirtual 72, 3, 9, 2, 0), ex_no, ex_no, (.aload_n 0, 1, 0, 0, 0), (.iload_n 1, 1, 1, 0, 0), (.invokevirtual 72, 3, 9, 2, 0), ex_no, ex_no, (.invokestatic 75, 3, 57, 3, 0), ex_no, ex_no, (.aload_n 0, 1, 0, 0, 0), (.getfield 23, 3, 1, 2, 0), ex_no, ex_no, (.aload_n 0, 1, 0, 0, 0), (.getfield 31, 3, 1, 9, 0), ex_no, ex_no, (.invokevirtual 79, 3, 59, 2, 0), ex_no, ex_no, (.ireturn, 1, 0, 0, 0)]
/-- LoopStrands$Diagrams.findWays -/
def ex_k11 : List ex_MO := [(.aload_n 0, 1, 0, 0, 0), (.getfield 23, 3, 1, 2, 0), ex_no, ex_no, (.getfield 41, 3, 6, 0, 0), ex_no, ex_no, (.newarray .int, 2, 0, 0, 0), ex_no, (.astore_n 1, 1, 1, 0, 0), (.iconst 1, 1, 0, 0, 1), (.istore_n 2, 1, 2, 0, 0), (.aload_n 0, 1, 0, 0, 0), (.getfield 60, 3, 1, 6, 0), ex_no, ex_no, (.iconst (-1), 1, 0, 0, -1), (.invokestatic 47, 3, 159, 2, 0), ex_no, ex_no, (.aload_n 0, 1, 0, 0, 0), (.getfield 60, 3, 1, 6, 0), ex_no, ex_no, (.iconst 0, 1, 0, 0, 0), (.iconst 0, 1, 0, 0, 0), (.iastore, 1, 0, 0, 0), (.iconst 0, 1, 0, 0, 0), (.istore_n 3, 1, 3, 0, 0), (.iload_n 3, 1, 3, 0, 0), (.aload_n 0, 1, 0, 0, 0), (.getfield 23, 3, 1, 2, 0), ex_no, ex_no, (.getfield 41, 3, 6, 0, 0), ex_no, ex_no, (.if_icmp .ge 109, 3, 146, 0, 0), ex_no, ex_no, (.aload_n 1, 1, 1, 0, 0), (.iload_n 3, 1, 3, 0, 0), (.iaload, 1, 0, 0, 0), (.istore 4, 2, 4, 0, 0), ex_no, (.iconst 1, 1, 0, 0, 1), (.istore 5, 2, 5, 0, 0), ex_no, (.iload 5, 2, 5, 0, 0), ex_no, (.aload_n 0, 1, 0, 0, 0), (.getfield 9, 3, 1, 0, 0), ex_no, ex_no, (.if_icmp .ge 86, 3, 140, 0, 0), ex_no, ex_no, (.aload_n 0, 1, 0, 0, 0), (.iload 4, 2, 4, 0, 0), ex_no, (.aload_n 0, 1, 0, 0, 0), (.getfield 53, 3, 1, 4, 0), ex_no, ex_no, (.iload 5, 2, 5, 0, 0), ex_no, (.iaload, 1, 0, 0, 0), (.invokevirtual 83, 3, 19, 3, 0), ex_no, ex_no, (.bipush 8, 2, 0, 0, 8), ex_no, (.idiv, 1, 0, 0, 0), (.istore 6, 2, 6, 0, 0), ex_no, (.aload_n 0, 1, 0, 0, 0), (.getfield 60, 3, 1, 6, 0), ex_no, ex_no, (.iload 6, 2, 6, 0, 0), ex_no, (.iaload, 1, 0, 0, 0), (.iconst (-1), 1, 0, 0, -1), (.if_icmp .ne 51, 3, 134, 0, 0), ex_no, ex_no, (.iload_n 2, 1, 2, 0, 0), (.aload_n 1, 1, 1, 0, 0), (.arraylength, 1, 0, 0, 0), (.if_icmp .ge 45, 3, 134, 0, 0), ex_no, ex_no, (.aload_n 0, 1, 0, 0, 0), (.getfield 60, 3, 1, 6, 0), ex_no, ex_no, (.iload 6, 2, 6, 0, 0), ex_no, (.aload_n 0, 1, 0, 0, 0), (.getfield 60, 3, 1, 6, 0), ex_no, ex_no, (.iload 4, 2, 4, 0, 0), ex_no, (.iaload, 1, 0, 0, 0), (.iconst 1, 1, 0, 0, 1), (.iadd, 1, 0, 0, 0), (.iastore, 1, 0, 0, 0), (.aload_n 0, 1, 0, 0, 0), (.getfield 63, 3, 1, 7, 0), ex_no, ex_no, (.iload 6, 2, 6, 0, 0), ex_no, (.iload 4, 2, 4, 0, 0), ex_no, (.iastore, 1, 0, 0, 0), (.aload_n 0, 1, 0, 0, 0), (.getfield 66, 3, 1, 8, 0), ex_no, ex_no, (.iload 6, 2, 6, 0, 0), ex_no, (.iload 5, 2, 5, 0, 0), ex_no, (.iastore, 1, 0, 0, 0), (.aload_n 1, 1, 1, 0, 0), (.iload_n 2, 1, 2, 0, 0), (.iload 6, 2, 6, 0, 0), ex_no, (.iastore, 1, 0, 0, 0), (.iinc 2 1, 3, 2, 0, 1), ex_no, ex_no, (.iinc 5 1, 3, 5, 0, 1), ex_no, ex_no, (.goto (-89), 3, 48, 0, 0), ex_no, ex_no, (.iinc 3 1, 3, 3, 0, 1), ex_no, ex_no, (.goto (-114), 3, 29, 0, 0), ex_no, ex_no, (.return_, 1, 0, 0, 0)]
/-- LoopStrands$Diagrams.wayLength -/
def ex_k12 : List ex_MO := [(.aload_n 0, 1, 0, 0, 0), (.getfield 60, 3, 1, 6, 0), ex_no, ex_no, (.iload_n 1, 1, 1, 0, 0), (.iaload, 1, 0, 0, 0), (.ireturn, 1, 0, 0, 0)]
/-- LoopStrands$Diagrams.wayHook -/
def ex_k13 : List ex_MO := [(.iload_n 2, 1, 2, 0, 0), (.ifCond .lt 13, 3, 14, 0, 0), ex_no, ex_no, (.iload_n 2, 1, 2, 0, 0), (.aload_n 0, 1, 0, 0, 0), (.getfield 60, 3, 1, 6, 0), ex_no, ex_no, (.iload_n 1, 1, 1, 0, 0), (.iaload, 1, 0, 0, 0), (.if_icmp .lt 6, 3, 17, 0, 0), ex_no, ex_no, (.bipush (-6), 2, 0, 0, -6), ex_no, (.ireturn, 1, 0, 0, 0), (.iload_n 1, 1, 1, 0, 0), (.istore_n 3, 1, 3, 0, 0), (.aload_n 0, 1, 0, 0, 0), (.getfield 60, 3, 1, 6, 0), ex_no, ex_no, (.iload_n 1, 1, 1, 0, 0), (.iaload, 1, 0, 0, 0), (.iconst 1, 1, 0, 0, 1), (.isub, 1, 0, 0, 0), (.istore 4, 2, 4, 0, 0), ex_no, (.iload 4, 2, 4, 0, 0), ex_no, (.iload_n 2, 1, 2, 0, 0), (.if_icmp .le 16, 3, 48, 0, 0), ex_no, ex_no, (.aload_n 0, 1, 0, 0, 0), (.getfield 63, 3, 1, 7, 0), ex_no, ex_no, (.iload_n 3, 1, 3, 0, 0), (.iaload, 1, 0, 0, 0), (.istore_n 3, 1, 3, 0, 0), (.iinc 4 (-1), 3, 4, 0, -1), ex_no, ex_no, (.goto (-16), 3, 29, 0, 0), ex_no, ex_no, (.aload_n 0, 1, 0, 0, 0), (.getfield 66, 3, 1, 8, 0), ex_no, ex_no, (.iload_n 3, 1, 3, 0, 0), (.iaload, 1, 0, 0, 0), (.ireturn, 1, 0, 0, 0)]
/-- LoopStrands$Diagrams.through -/
def ex_k14 : List ex_MO := [(.iconst 0, 1, 0, 0, 0), (.istore_n 2, 1, 2, 0, 0), (.iconst 0, 1, 0, 0, 0), (.istore_n 3, 1, 3, 0, 0), (.iload_n 3, 1, 3, 0, 0), (.aload_n 0, 1, 0, 0, 0), (.getfield 9, 3, 1, 0, 0), ex_no, ex_no, (.if_icmp .ge 30, 3, 39, 0, 0), ex_no, ex_no, (.aload_n 0, 1, 0, 0, 0), (.getfield 23, 3, 1, 2, 0), ex_no, ex_no, (.getfield 87, 3, 6, 1, 0), ex_no, ex_no, (.iload_n 1, 1, 1, 0, 0), (.aaload, 1, 0, 0, 0), (.iload_n 3, 1, 3, 0, 0), (.iaload, 1, 0, 0, 0), (.aload_n 0, 1, 0, 0, 0), (.getfield 9, 3, 1, 0, 0), ex_no, ex_no, (.if_icmp .lt 6, 3, 33, 0, 0), ex_no, ex_no, (.iinc 2 1, 3, 2, 0, 1), ex_no, ex_no, (.iinc 3 1, 3, 3, 0, 1), ex_no, ex_no, (.goto (-32), 3, 4, 0, 0), ex_no, ex_no, (.iload_n 2, 1, 2, 0, 0), (.ireturn, 1, 0, 0, 0)]
/-- LoopStrands$Diagrams.closedLoops -/
def ex_k15 : List ex_MO := [(.aload_n 0, 1, 0, 0, 0), (.getfield 23, 3, 1, 2, 0), ex_no, ex_no, (.getfield 87, 3, 6, 1, 0), ex_no, ex_no, (.iload_n 1, 1, 1, 0, 0), (.aaload, 1, 0, 0, 0), (.aload_n 0, 1, 0, 0, 0), (.getfield 23, 3, 1, 2, 0), ex_no, ex_no, (.getfield 87, 3, 6, 1, 0), ex_no, ex_no, (.iconst 0, 1, 0, 0, 0), (.aaload, 1, 0, 0, 0), (.invokestatic 91, 3, 22, 2, 0), ex_no, ex_no, (.ireturn, 1, 0, 0, 0)]
/-- LoopStrands$Diagrams.turned -/
def ex_k16 : List ex_MO := [(.iconst 0, 1, 0, 0, 0), (.istore_n 2, 1, 2, 0, 0), (.iload_n 2, 1, 2, 0, 0), (.aload_n 0, 1, 0, 0, 0), (.getfield 15, 3, 1, 1, 0), ex_no, ex_no, (.if_icmp .ge 34, 3, 41, 0, 0), ex_no, ex_no, (.aload_n 0, 1, 0, 0, 0), (.getfield 31, 3, 1, 9, 0), ex_no, ex_no, (.aload_n 0, 1, 0, 0, 0), (.iload_n 2, 1, 2, 0, 0), (.invokevirtual 72, 3, 9, 2, 0), ex_no, ex_no, (.aload_n 0, 1, 0, 0, 0), (.aload_n 0, 1, 0, 0, 0), (.getfield 23, 3, 1, 2, 0), ex_no, ex_no, (.getfield 87, 3, 6, 1, 0), ex_no, ex_no, (.iload_n 1, 1, 1, 0, 0), (.aaload, 1, 0, 0, 0), (.iload_n 2, 1, 2, 0, 0), (.iaload, 1, 0, 0, 0), (.invokevirtual 72, 3, 9, 2, 0), ex_no, ex_no, (.iastore, 1, 0, 0, 0), (.iinc 2 1, 3, 2, 0, 1), ex_no, ex_no, (.goto (-36), 3, 2, 0, 0), ex_no, ex_no, (.aload_n 0, 1, 0, 0, 0), (.getfield 23, 3, 1, 2, 0), ex_no, ex_no, (.aload_n 0, 1, 0, 0, 0), (.getfield 31, 3, 1, 9, 0), ex_no, ex_no, (.invokevirtual 79, 3, 59, 2, 0), ex_no, ex_no, (.ireturn, 1, 0, 0, 0)]
/-- LoopStrands$Diagrams.stackDiagram -/
def ex_k17 : List ex_MO := [(.aload_n 0, 1, 0, 0, 0), (.iload_n 1, 1, 1, 0, 0), (.iload_n 2, 1, 2, 0, 0), (.invokevirtual 83, 3, 19, 3, 0), ex_no, ex_no, (.bipush 8, 2, 0, 0, 8), ex_no, (.idiv, 1, 0, 0, 0), (.ireturn, 1, 0, 0, 0)]
/-- LoopStrands$Diagrams.stackLoops -/
def ex_k18 : List ex_MO := [(.aload_n 0, 1, 0, 0, 0), (.iload_n 1, 1, 1, 0, 0), (.iload_n 2, 1, 2, 0, 0), (.invokevirtual 83, 3, 19, 3, 0), ex_no, ex_no, (.bipush 8, 2, 0, 0, 8), ex_no, (.irem, 1, 0, 0, 0), (.ireturn, 1, 0, 0, 0)]
/-- LoopStrands$Diagrams.packedStack -/
def ex_k19 : List ex_MO := [(.iload_n 1, 1, 1, 0, 0), (.aload_n 0, 1, 0, 0, 0), (.getfield 23, 3, 1, 2, 0), ex_no, ex_no, (.getfield 41, 3, 6, 0, 0), ex_no, ex_no, (.imul, 1, 0, 0, 0), (.iload_n 2, 1, 2, 0, 0), (.iadd, 1, 0, 0, 0), (.istore_n 3, 1, 3, 0, 0), (.aload_n 0, 1, 0, 0, 0), (.getfield 44, 3, 1, 5, 0), ex_no, ex_no, (.iload_n 3, 1, 3, 0, 0), (.iaload, 1, 0, 0, 0), (.iconst (-1), 1, 0, 0, -1), (.if_icmp .ne 89, 3, 108, 0, 0), ex_no, ex_no, (.aload_n 0, 1, 0, 0, 0), (.getfield 23, 3, 1, 2, 0), ex_no, ex_no, (.getfield 87, 3, 6, 1, 0), ex_no, ex_no, (.iload_n 1, 1, 1, 0, 0), (.aaload, 1, 0, 0, 0), (.astore 4, 2, 4, 0, 0), ex_no, (.aload_n 0, 1, 0, 0, 0), (.getfield 23, 3, 1, 2, 0), ex_no, ex_no, (.getfield 87, 3, 6, 1, 0), ex_no, ex_no, (.iload_n 2, 1, 2, 0, 0), (.aaload, 1, 0, 0, 0), (.astore 5, 2, 5, 0, 0), ex_no, (.iconst 0, 1, 0, 0, 0), (.istore 6, 2, 6, 0, 0), ex_no, (.iload 6, 2, 6, 0, 0), ex_no, (.aload_n 0, 1, 0, 0, 0), (.getfield 15, 3, 1, 1, 0), ex_no, ex_no, (.if_icmp .ge 26, 3, 79, 0, 0), ex_no, ex_no, (.aload_n 0, 1, 0, 0, 0), (.getfield 31, 3, 1, 9, 0), ex_no, ex_no, (.iload 6, 2, 6, 0, 0), ex_no, (.aload_n 0, 1, 0, 0, 0), (.aload 4, 2, 4, 0, 0), ex_no, (.aload 5, 2, 5, 0, 0), ex_no, (.iload 6, 2, 6, 0, 0), ex_no, (.invokevirtual 97, 3, 20, 4, 0), ex_no, ex_no, (.iastore, 1, 0, 0, 0), (.iinc 6 1, 3, 6, 0, 1), ex_no, ex_no, (.goto (-29), 3, 47, 0, 0), ex_no, ex_no, (.aload_n 0, 1, 0, 0, 0), (.getfield 44, 3, 1, 5, 0), ex_no, ex_no, (.iload_n 3, 1, 3, 0, 0), (.bipush 8, 2, 0, 0, 8), ex_no, (.aload_n 0, 1, 0, 0, 0), (.getfield 23, 3, 1, 2, 0), ex_no, ex_no, (.aload_n 0, 1, 0, 0, 0), (.getfield 31, 3, 1, 9, 0), ex_no, ex_no, (.invokevirtual 79, 3, 59, 2, 0), ex_no, ex_no, (.imul, 1, 0, 0, 0), (.aload_n 0, 1, 0, 0, 0), (.aload 4, 2, 4, 0, 0), ex_no, (.aload 5, 2, 5, 0, 0), ex_no, (.invokevirtual 101, 3, 21, 3, 0), ex_no, ex_no, (.iadd, 1, 0, 0, 0), (.iastore, 1, 0, 0, 0), (.aload_n 0, 1, 0, 0, 0), (.getfield 44, 3, 1, 5, 0), ex_no, ex_no, (.iload_n 3, 1, 3, 0, 0), (.iaload, 1, 0, 0, 0), (.ireturn, 1, 0, 0, 0)]
/-- LoopStrands$Diagrams.farEnd -/
def ex_k20 : List ex_MO := [(.iload_n 3, 1, 3, 0, 0), (.aload_n 0, 1, 0, 0, 0), (.getfield 9, 3, 1, 0, 0), ex_no, ex_no, (.if_icmp .ge 7, 3, 12, 0, 0), ex_no, ex_no, (.iconst 1, 1, 0, 0, 1), (.goto 4, 3, 13, 0, 0), ex_no, ex_no, (.iconst 0, 1, 0, 0, 0), (.istore 4, 2, 4, 0, 0), ex_no, (.iload_n 3, 1, 3, 0, 0), (.istore 5, 2, 5, 0, 0), ex_no, (.iconst 0, 1, 0, 0, 0), (.istore 6, 2, 6, 0, 0), ex_no, (.iload 6, 2, 6, 0, 0), ex_no, (.aload_n 0, 1, 0, 0, 0), (.getfield 15, 3, 1, 1, 0), ex_no, ex_no, (.if_icmp .ge 69, 3, 96, 0, 0), ex_no, ex_no, (.iload 4, 2, 4, 0, 0), ex_no, (.ifCond .eq 10, 3, 42, 0, 0), ex_no, ex_no, (.aload_n 1, 1, 1, 0, 0), (.iload 5, 2, 5, 0, 0), ex_no, (.iaload, 1, 0, 0, 0), (.goto 7, 3, 46, 0, 0), ex_no, ex_no, (.aload_n 2, 1, 2, 0, 0), (.iload 5, 2, 5, 0, 0), ex_no, (.iaload, 1, 0, 0, 0), (.istore 7, 2, 7, 0, 0), ex_no, (.iload 7, 2, 7, 0, 0), ex_no, (.aload_n 0, 1, 0, 0, 0), (.getfield 9, 3, 1, 0, 0), ex_no, ex_no, (.if_icmp .ge 7, 3, 61, 0, 0), ex_no, ex_no, (.iconst 1, 1, 0, 0, 1), (.goto 4, 3, 62, 0, 0), ex_no, ex_no, (.iconst 0, 1, 0, 0, 0), (.iload 4, 2, 4, 0, 0), ex_no, (.if_icmp .ne 6, 3, 70, 0, 0), ex_no, ex_no, (.iload 7, 2, 7, 0, 0), ex_no, (.ireturn, 1, 0, 0, 0), (.aload_n 0, 1, 0, 0, 0), (.iload 7, 2, 7, 0, 0), ex_no, (.invokevirtual 72, 3, 9, 2, 0), ex_no, ex_no, (.istore 5, 2, 5, 0, 0), ex_no, (.iload 4, 2, 4, 0, 0), ex_no, (.ifCond .ne 7, 3, 87, 0, 0), ex_no, ex_no, (.iconst 1, 1, 0, 0, 1), (.goto 4, 3, 88, 0, 0), ex_no, ex_no, (.iconst 0, 1, 0, 0, 0), (.istore 4, 2, 4, 0, 0), ex_no, (.iinc 6 1, 3, 6, 0, 1), ex_no, ex_no, (.goto (-72), 3, 21, 0, 0), ex_no, ex_no, (.iload_n 3, 1, 3, 0, 0), (.ireturn, 1, 0, 0, 0)]
/-- LoopStrands$Diagrams.loopsBetween -/
def ex_k21 : List ex_MO := [(.iconst 0, 1, 0, 0, 0), (.istore_n 3, 1, 3, 0, 0), (.iload_n 3, 1, 3, 0, 0), (.aload_n 0, 1, 0, 0, 0), (.getfield 9, 3, 1, 0, 0), ex_no, ex_no, (.if_icmp .ge 66, 3, 73, 0, 0), ex_no, ex_no, (.aload_n 1, 1, 1, 0, 0), (.aload_n 0, 1, 0, 0, 0), (.iload_n 3, 1, 3, 0, 0), (.invokevirtual 72, 3, 9, 2, 0), ex_no, ex_no, (.iaload, 1, 0, 0, 0), (.istore 4, 2, 4, 0, 0), ex_no, (.aload_n 0, 1, 0, 0, 0), (.getfield 35, 3, 1, 10, 0), ex_no, ex_no, (.iload_n 3, 1, 3, 0, 0), (.iload 4, 2, 4, 0, 0), ex_no, (.aload_n 0, 1, 0, 0, 0), (.getfield 9, 3, 1, 0, 0), ex_no, ex_no, (.if_icmp .ge 7, 3, 37, 0, 0), ex_no, ex_no, (.iconst (-1), 1, 0, 0, -1), (.goto 9, 3, 43, 0, 0), ex_no, ex_no, (.aload_n 0, 1, 0, 0, 0), (.iload 4, 2, 4, 0, 0), ex_no, (.invokevirtual 72, 3, 9, 2, 0), ex_no, ex_no, (.iastore, 1, 0, 0, 0), (.aload_n 0, 1, 0, 0, 0), (.getfield 38, 3, 1, 11, 0), ex_no, ex_no, (.iload_n 3, 1, 3, 0, 0), (.aload_n 2, 1, 2, 0, 0), (.iload_n 3, 1, 3, 0, 0), (.iaload, 1, 0, 0, 0), (.aload_n 0, 1, 0, 0, 0), (.getfield 9, 3, 1, 0, 0), ex_no, ex_no, (.if_icmp .ge 9, 3, 65, 0, 0), ex_no, ex_no, (.aload_n 2, 1, 2, 0, 0), (.iload_n 3, 1, 3, 0, 0), (.iaload, 1, 0, 0, 0), (.goto 4, 3, 66, 0, 0), ex_no, ex_no, (.iconst (-1), 1, 0, 0, -1), (.iastore, 1, 0, 0, 0), (.iinc 3 1, 3, 3, 0, 1), ex_no, ex_no, (.goto (-68), 3, 2, 0, 0), ex_no, ex_no, (.aload_n 0, 1, 0, 0, 0), (.getfield 35, 3, 1, 10, 0), ex_no, ex_no, (.aload_n 0, 1, 0, 0, 0), (.getfield 38, 3, 1, 11, 0), ex_no, ex_no, (.invokestatic 91, 3, 22, 2, 0), ex_no, ex_no, (.ireturn, 1, 0, 0, 0)]
/-- LoopStrands$Gluing.closedLoops -/
def ex_k22 : List ex_MO := [(.iconst 0, 1, 0, 0, 0), (.istore_n 2, 1, 2, 0, 0), (.iconst 0, 1, 0, 0, 0), (.istore_n 3, 1, 3, 0, 0), (.iload_n 3, 1, 3, 0, 0), (.aload_n 0, 1, 0, 0, 0), (.arraylength, 1, 0, 0, 0), (.if_icmp .ge 21, 3, 28, 0, 0), ex_no, ex_no, (.aload_n 0, 1, 0, 0, 0), (.aload_n 1, 1, 1, 0, 0), (.iload_n 3, 1, 3, 0, 0), (.invokestatic 9, 3, 23, 3, 0), ex_no, ex_no, (.ifCond .eq 6, 3, 22, 0, 0), ex_no, ex_no, (.iinc 2 1, 3, 2, 0, 1), ex_no, ex_no, (.iinc 3 1, 3, 3, 0, 1), ex_no, ex_no, (.goto (-21), 3, 4, 0, 0), ex_no, ex_no, (.iload_n 2, 1, 2, 0, 0), (.ireturn, 1, 0, 0, 0)]
/-- LoopStrands$Gluing.isLeastOfLoop -/
def ex_k23 : List ex_MO := [(.iload_n 2, 1, 2, 0, 0), (.istore_n 3, 1, 3, 0, 0), (.iconst 0, 1, 0, 0, 0), (.istore 4, 2, 4, 0, 0), ex_no, (.iload 4, 2, 4, 0, 0), ex_no, (.aload_n 0, 1, 0, 0, 0), (.arraylength, 1, 0, 0, 0), (.if_icmp .ge 52, 3, 61, 0, 0), ex_no, ex_no, (.aload_n 0, 1, 0, 0, 0), (.iload_n 3, 1, 3, 0, 0), (.iaload, 1, 0, 0, 0), (.istore 5, 2, 5, 0, 0), ex_no, (.iload 5, 2, 5, 0, 0), ex_no, (.iconst (-1), 1, 0, 0, -1), (.if_icmp .eq 9, 3, 29, 0, 0), ex_no, ex_no, (.iload 5, 2, 5, 0, 0), ex_no, (.iload_n 2, 1, 2, 0, 0), (.if_icmp .ge 5, 3, 31, 0, 0), ex_no, ex_no, (.iconst 0, 1, 0, 0, 0), (.ireturn, 1, 1, 0, 0), (.aload_n 1, 1, 1, 0, 0), (.iload 5, 2, 5, 0, 0), ex_no, (.iaload, 1, 0, 0, 0), (.istore_n 3, 1, 3, 0, 0), (.iload_n 3, 1, 3, 0, 0), (.iconst (-1), 1, 0, 0, -1), (.if_icmp .eq 8, 3, 46, 0, 0), ex_no, ex_no, (.iload_n 3, 1, 3, 0, 0), (.iload_n 2, 1, 2, 0, 0), (.if_icmp .ge 5, 3, 48, 0, 0), ex_no, ex_no, (.iconst 0, 1, 0, 0, 0), (.ireturn, 1, 1, 0, 0), (.iload_n 3, 1, 3, 0, 0), (.iload_n 2, 1, 2, 0, 0), (.if_icmp .ne 5, 3, 55, 0, 0), ex_no, ex_no, (.iconst 1, 1, 0, 0, 1), (.ireturn, 1, 1, 0, 0), (.iinc 4 1, 3, 4, 0, 1), ex_no, ex_no, (.goto (-53), 3, 5, 0, 0), ex_no, ex_no, (.iconst 0, 1, 0, 0, 0), (.ireturn, 1, 1, 0, 0)]
/-- LoopStrands$Gluing.leadsAcross -/
def ex_k24 : List ex_MO := [(.iload_n 2, 1, 2, 0, 0), (.istore_n 3, 1, 3, 0, 0), (.iconst 0, 1, 0, 0, 0), (.istore 4, 2, 4, 0, 0), ex_no, (.iload 4, 2, 4, 0, 0), ex_no, (.aload_n 0, 1, 0, 0, 0), (.arraylength, 1, 0, 0, 0), (.if_icmp .ge 34, 3, 43, 0, 0), ex_no, ex_no, (.aload_n 1, 1, 1, 0, 0), (.iload_n 3, 1, 3, 0, 0), (.iaload, 1, 0, 0, 0), (.istore 5, 2, 5, 0, 0), ex_no, (.iload 5, 2, 5, 0, 0), ex_no, (.iconst (-1), 1, 0, 0, -1), (.if_icmp .ne 5, 3, 25, 0, 0), ex_no, ex_no, (.iconst 1, 1, 0, 0, 1), (.ireturn, 1, 1, 0, 0), (.aload_n 0, 1, 0, 0, 0), (.iload 5, 2, 5, 0, 0), ex_no, (.iaload, 1, 0, 0, 0), (.istore_n 3, 1, 3, 0, 0), (.iload_n 3, 1, 3, 0, 0), (.iconst (-1), 1, 0, 0, -1), (.if_icmp .ne 5, 3, 37, 0, 0), ex_no, ex_no, (.iconst 0, 1, 0, 0, 0), (.ireturn, 1, 1, 0, 0), (.iinc 4 1, 3, 4, 0, 1), ex_no, ex_no, (.goto (-35), 3, 5, 0, 0), ex_no, ex_no, (.iconst 0, 1, 0, 0, 0), (.ireturn, 1, 1, 0, 0)]
/-- LoopStrands$Gluing.formNumber -/
def ex_k25 : List ex_MO := [(.iconst 0, 1, 0, 0, 0), (.istore_n 3, 1, 3, 0, 0), (.iload_n 3, 1, 3, 0, 0), (.aload_n 1, 1, 1, 0, 0), (.arraylength, 1, 0, 0, 0), (.if_icmp .ge 27, 3, 32, 0, 0), ex_no, ex_no, (.aload_n 1, 1, 1, 0, 0), (.iload_n 3, 1, 3, 0, 0), (.iaload, 1, 0, 0, 0), (.iconst (-1), 1, 0, 0, -1), (.if_icmp .ne 14, 3, 26, 0, 0), ex_no, ex_no, (.aload_n 1, 1, 1, 0, 0), (.aload_n 2, 1, 2, 0, 0), (.iload_n 3, 1, 3, 0, 0), (.invokestatic 15, 3, 24, 3, 0), ex_no, ex_no, (.ifCond .ne 5, 3, 26, 0, 0), ex_no, ex_no, (.iconst 0, 1, 0, 0, 0), (.ireturn, 1, 0, 0, 0), (.iinc 3 1, 3, 3, 0, 1), ex_no, ex_no, (.goto (-27), 3, 2, 0, 0), ex_no, ex_no, (.aload_n 0, 1, 0, 0, 0), (.aload_n 1, 1, 1, 0, 0), (.aload_n 2, 1, 2, 0, 0), (.invokestatic 18, 3, 22, 2, 0), ex_no, ex_no, (.invokevirtual 22, 3, 33, 2, 0), ex_no, ex_no, (.ireturn, 1, 0, 0, 0)]
/-- LoopStrands$Numbers.<init> -/
def ex_k26 : List ex_MO := [(.aload_n 0, 1, 0, 0, 0), (.invokespecial 3, 3, 1000, 0, 0), ex_no, ex_no, (.aload_n 0, 1, 0, 0, 0), (.bipush 6, 2, 0, 0, 6), ex_no, (.newarray .int, 2, 0, 0, 0), ex_no, (.putfield 9, 3, 2, 2, 0), ex_no, ex_no, (.return_, 1, 0, 0, 0)]
/-- LoopStrands$Numbers.tell -/
def ex_k27 : List ex_MO := [(.aload_n 0, 1, 0, 0, 0), (.iload_n 1, 1, 1, 0, 0), (.putfield 15, 3, 2, 0, 0), ex_no, ex_no, (.aload_n 0, 1, 0, 0, 0), (.iload_n 2, 1, 2, 0, 0), (.putfield 19, 3, 2, 1, 0), ex_no, ex_no, (.aload_n 0, 1, 0, 0, 0), (.getfield 9, 3, 2, 2, 0), ex_no, ex_no, (.iconst 0, 1, 0, 0, 0), (.iconst 1, 1, 0, 0, 1), (.iastore, 1, 0, 0, 0), (.iconst 1, 1, 0, 0, 1), (.istore_n 3, 1, 3, 0, 0), (.iload_n 3, 1, 3, 0, 0), (.aload_n 0, 1, 0, 0, 0), (.getfield 9, 3, 2, 2, 0), ex_no, ex_no, (.arraylength, 1, 0, 0, 0), (.if_icmp .ge 28, 3, 53, 0, 0), ex_no, ex_no, (.aload_n 0, 1, 0, 0, 0), (.getfield 9, 3, 2, 2, 0), ex_no, ex_no, (.iload_n 3, 1, 3, 0, 0), (.aload_n 0, 1, 0, 0, 0), (.aload_n 0, 1, 0, 0, 0), (.getfield 9, 3, 2, 2, 0), ex_no, ex_no, (.iload_n 3, 1, 3, 0, 0), (.iconst 1, 1, 0, 0, 1), (.isub, 1, 0, 0, 0), (.iaload, 1, 0, 0, 0), (.iload_n 2, 1, 2, 0, 0), (.invokevirtual 22, 3, 31, 3, 0), ex_no, ex_no, (.iastore, 1, 0, 0, 0), (.iinc 3 1, 3, 3, 0, 1), ex_no, ex_no, (.goto (-31), 3, 19, 0, 0), ex_no, ex_no, (.return_, 1, 0, 0, 0)]
/-- LoopStrands$Numbers.leftOver -/
def ex_k28 : List ex_MO := [(.aload_n 0, 1, 0, 0, 0), (.getfield 15, 3, 2, 0, 0), ex_no, ex_no, (.iconst 2, 1, 0, 0, 2), (.if_icmp .ge 5, 3, 10, 0, 0), ex_no, ex_no, (.iconst 0, 1, 0, 0, 0), (.ireturn, 1, 0, 0, 0), (.iload_n 1, 1, 1, 0, 0), (.aload_n 0, 1, 0, 0, 0), (.getfield 15, 3, 2, 0, 0), ex_no, ex_no, (.irem, 1, 0, 0, 0), (.istore_n 2, 1, 2, 0, 0), (.iload_n 2, 1, 2, 0, 0), (.ifCond .ge 12, 3, 30, 0, 0), ex_no, ex_no, (.iload_n 2, 1, 2, 0, 0), (.aload_n 0, 1, 0, 0, 0), (.getfield 15, 3, 2, 0, 0), ex_no, ex_no, (.iadd, 1, 0, 0, 0), (.goto 4, 3, 31, 0, 0), ex_no, ex_no, (.iload_n 2, 1, 2, 0, 0), (.ireturn, 1, 0, 0, 0)]
/-- LoopStrands$Numbers.add -/
def ex_k29 : List ex_MO := [(.aload_n 0, 1, 0, 0, 0), (.iload_n 1, 1, 1, 0, 0), (.iload_n 2, 1, 2, 0, 0), (.iadd, 1, 0, 0, 0), (.invokevirtual 26, 3, 28, 2, 0), ex_no, ex_no, (.ireturn, 1, 0, 0, 0)]
/-- LoopStrands$Numbers.subtract -/
def ex_k30 : List ex_MO := [(.aload_n 0, 1, 0, 0, 0), (.iload_n 1, 1, 1, 0, 0), (.iload_n 2, 1, 2, 0, 0), (.isub, 1, 0, 0, 0), (.invokevirtual 26, 3, 28, 2, 0), ex_no, ex_no, (.ireturn, 1, 0, 0, 0)]
/-- LoopStrands$Numbers.multiply -/
def ex_k31 : List ex_MO := [(.aload_n 0, 1, 0, 0, 0), (.iload_n 1, 1, 1, 0, 0), (.iload_n 2, 1, 2, 0, 0), (.imul, 1, 0, 0, 0), (.invokevirtual 26, 3, 28, 2, 0), ex_no, ex_no, (.ireturn, 1, 0, 0, 0)]
/-- LoopStrands$Numbers.inverse -/
def ex_k32 : List ex_MO := [(.iconst 1, 1, 0, 0, 1), (.istore_n 2, 1, 2, 0, 0), (.iload_n 2, 1, 2, 0, 0), (.aload_n 0, 1, 0, 0, 0), (.getfield 15, 3, 2, 0, 0), ex_no, ex_no, (.if_icmp .ge 21, 3, 28, 0, 0), ex_no, ex_no, (.aload_n 0, 1, 0, 0, 0), (.iload_n 1, 1, 1, 0, 0), (.iload_n 2, 1, 2, 0, 0), (.invokevirtual 22, 3, 31, 3, 0), ex_no, ex_no, (.iconst 1, 1, 0, 0, 1), (.if_icmp .ne 5, 3, 22, 0, 0), ex_no, ex_no, (.iload_n 2, 1, 2, 0, 0), (.ireturn, 1, 0, 0, 0), (.iinc 2 1, 3, 2, 0, 1), ex_no, ex_no, (.goto (-23), 3, 2, 0, 0), ex_no, ex_no, (.iconst 0, 1, 0, 0, 0), (.ireturn, 1, 0, 0, 0)]
/-- LoopStrands$Numbers.loopPower -/
def ex_k33 : List ex_MO := [(.iload_n 1, 1, 1, 0, 0), (.iconst 0, 1, 0, 0, 0), (.iconst 5, 1, 0, 0, 5), (.invokestatic 30, 3, 85, 3, 0), ex_no, ex_no, (.ifCond .eq 12, 3, 18, 0, 0), ex_no, ex_no, (.aload_n 0, 1, 0, 0, 0), (.getfield 9, 3, 2, 2, 0), ex_no, ex_no, (.iload_n 1, 1, 1, 0, 0), (.iaload, 1, 0, 0, 0), (.goto 4, 3, 19, 0, 0), ex_no, ex_no, (.iconst 0, 1, 0, 0, 0), (.ireturn, 1, 0, 0, 0)]
/-- LoopStrands$Numbers.bracketOf -/
def ex_k34 : List ex_MO := [(.iconst 0, 1, 0, 0, 0), (.istore_n 2, 1, 2, 0, 0), (.iconst 1, 1, 0, 0, 1), (.istore_n 3, 1, 3, 0, 0), (.iconst 0, 1, 0, 0, 0), (.istore 4, 2, 4, 0, 0), ex_no, (.iload 4, 2, 4, 0, 0), ex_no, (.iload_n 1, 1, 1, 0, 0), (.if_icmp .ge 30, 3, 40, 0, 0), ex_no, ex_no, (.aload_n 0, 1, 0, 0, 0), (.aload_n 0, 1, 0, 0, 0), (.aload_n 0, 1, 0, 0, 0), (.getfield 19, 3, 2, 1, 0), ex_no, ex_no, (.iload_n 3, 1, 3, 0, 0), (.invokevirtual 22, 3, 31, 3, 0), ex_no, ex_no, (.iload_n 2, 1, 2, 0, 0), (.invokevirtual 34, 3, 30, 3, 0), ex_no, ex_no, (.istore 5, 2, 5, 0, 0), ex_no, (.iload_n 3, 1, 3, 0, 0), (.istore_n 2, 1, 2, 0, 0), (.iload 5, 2, 5, 0, 0), ex_no, (.istore_n 3, 1, 3, 0, 0), (.iinc 4 1, 3, 4, 0, 1), ex_no, ex_no, (.goto (-30), 3, 7, 0, 0), ex_no, ex_no, (.iload_n 2, 1, 2, 0, 0), (.ireturn, 1, 0, 0, 0)]
/-- LoopStrands$Numbers.hasProjector -/
def ex_k35 : List ex_MO := [(.iconst 2, 1, 0, 0, 2), (.istore_n 2, 1, 2, 0, 0), (.iload_n 2, 1, 2, 0, 0), (.iload_n 1, 1, 1, 0, 0), (.if_icmp .gt 19, 3, 23, 0, 0), ex_no, ex_no, (.aload_n 0, 1, 0, 0, 0), (.iload_n 2, 1, 2, 0, 0), (.invokevirtual 37, 3, 34, 2, 0), ex_no, ex_no, (.ifCond .ne 5, 3, 17, 0, 0), ex_no, ex_no, (.iconst 0, 1, 0, 0, 0), (.ireturn, 1, 1, 0, 0), (.iinc 2 1, 3, 2, 0, 1), ex_no, ex_no, (.goto (-18), 3, 2, 0, 0), ex_no, ex_no, (.iconst 1, 1, 0, 0, 1), (.ireturn, 1, 1, 0, 0)]
/-- LoopStrands$Pad.<init> -/
def ex_k36 : List ex_MO := [(.aload_n 0, 1, 0, 0, 0), (.invokespecial 3, 3, 1000, 0, 0), ex_no, ex_no, (.aload_n 0, 1, 0, 0, 0), (.bipush 24, 2, 0, 0, 24), ex_no, (.newarray .int, 2, 0, 0, 0), ex_no, (.putfield 11, 3, 3, 0, 0), ex_no, ex_no, (.return_, 1, 0, 0, 0)]
/-- LoopStrands$Pad.isFull -/
def ex_k37 : List ex_MO := [(.aload_n 0, 1, 0, 0, 0), (.getfield 15, 3, 3, 1, 0), ex_no, ex_no, (.bipush 24, 2, 0, 0, 24), ex_no, (.if_icmp .lt 7, 3, 13, 0, 0), ex_no, ex_no, (.iconst 1, 1, 0, 0, 1), (.goto 4, 3, 14, 0, 0), ex_no, ex_no, (.iconst 0, 1, 0, 0, 0), (.ireturn, 1, 1, 0, 0)]
/-- LoopStrands$Pad.add -/
def ex_k38 : List ex_MO := [(.aload_n 0, 1, 0, 0, 0), (.getfield 15, 3, 3, 1, 0), ex_no, ex_no, (.bipush 24, 2, 0, 0, 24), ex_no, (.if_icmp .ge 23, 3, 29, 0, 0), ex_no, ex_no, (.aload_n 0, 1, 0, 0, 0), (.getfield 11, 3, 3, 0, 0), ex_no, ex_no, (.aload_n 0, 1, 0, 0, 0), (.getfield 15, 3, 3, 1, 0), ex_no, ex_no, (.iload_n 1, 1, 1, 0, 0), (.iastore, 1, 0, 0, 0), (.aload_n 0, 1, 0, 0, 0), (.dup, 1, 0, 0, 0), (.getfield 15, 3, 3, 1, 0), ex_no, ex_no, (.iconst 1, 1, 0, 0, 1), (.iadd, 1, 0, 0, 0), (.putfield 15, 3, 3, 1, 0), ex_no, ex_no, (.return_, 1, 0, 0, 0)]
/-- LoopStrands$Pad.clear -/
def ex_k39 : List ex_MO := [(.aload_n 0, 1, 0, 0, 0), (.iconst 0, 1, 0, 0, 0), (.putfield 15, 3, 3, 1, 0), ex_no, ex_no, (.return_, 1, 0, 0, 0)]
/-- LoopStrands$Pad.diagramFault -/
def ex_k40 : List ex_MO := [(.iconst 0, 1, 0, 0, 0), (.istore_n 2, 1, 2, 0, 0), (.iconst 0, 1, 0, 0, 0), (.istore_n 3, 1, 3, 0, 0), (.iconst 0, 1, 0, 0, 0), (.istore 4, 2, 4, 0, 0), ex_no, (.iload 4, 2, 4, 0, 0), ex_no, (.aload_n 0, 1, 0, 0, 0), (.getfield 15, 3, 3, 1, 0), ex_no, ex_no, (.if_icmp .ge 58, 3, 71, 0, 0), ex_no, ex_no, (.aload_n 0, 1, 0, 0, 0), (.getfield 11, 3, 3, 0, 0), ex_no, ex_no, (.iload 4, 2, 4, 0, 0), ex_no, (.iaload, 1, 0, 0, 0), (.bipush 40, 2, 0, 0, 40), ex_no, (.if_icmp .ne 14, 3, 39, 0, 0), ex_no, ex_no, (.iload_n 2, 1, 2, 0, 0), (.iload_n 1, 1, 1, 0, 0), (.if_icmp .ge 9, 3, 39, 0, 0), ex_no, ex_no, (.iinc 2 1, 3, 2, 0, 1), ex_no, ex_no, (.goto 29, 3, 65, 0, 0), ex_no, ex_no, (.aload_n 0, 1, 0, 0, 0), (.getfield 11, 3, 3, 0, 0), ex_no, ex_no, (.iload 4, 2, 4, 0, 0), ex_no, (.iaload, 1, 0, 0, 0), (.bipush 41, 2, 0, 0, 41), ex_no, (.if_icmp .ne 14, 3, 62, 0, 0), ex_no, ex_no, (.iload_n 3, 1, 3, 0, 0), (.iload_n 2, 1, 2, 0, 0), (.if_icmp .ge 9, 3, 62, 0, 0), ex_no, ex_no, (.iinc 3 1, 3, 3, 0, 1), ex_no, ex_no, (.goto 6, 3, 65, 0, 0), ex_no, ex_no, (.iload 4, 2, 4, 0, 0), ex_no, (.ireturn, 1, 0, 0, 0), (.iinc 4 1, 3, 4, 0, 1), ex_no, ex_no, (.goto (-61), 3, 7, 0, 0), ex_no, ex_no, (.aload_n 0, 1, 0, 0, 0), (.getfield 15, 3, 3, 1, 0), ex_no, ex_no, (.iconst 2, 1, 0, 0, 2), (.iload_n 1, 1, 1, 0, 0), (.imul, 1, 0, 0, 0), (.if_icmp .ge 10, 3, 88, 0, 0), ex_no, ex_no, (.aload_n 0, 1, 0, 0, 0), (.getfield 15, 3, 3, 1, 0), ex_no, ex_no, (.goto 5, 3, 90, 0, 0), ex_no, ex_no, (.bipush (-6), 2, 0, 0, -6), ex_no, (.ireturn, 1, 0, 0, 0)]
/-- LoopStrands$Pad.wordFault -/
def ex_k41 : List ex_MO := [(.iconst 0, 1, 0, 0, 0), (.istore_n 2, 1, 2, 0, 0), (.iload_n 2, 1, 2, 0, 0), (.aload_n 0, 1, 0, 0, 0), (.getfield 15, 3, 3, 1, 0), ex_no, ex_no, (.if_icmp .ge 30, 3, 37, 0, 0), ex_no, ex_no, (.aload_n 0, 1, 0, 0, 0), (.getfield 11, 3, 3, 0, 0), ex_no, ex_no, (.iload_n 2, 1, 2, 0, 0), (.iaload, 1, 0, 0, 0), (.bipush 48, 2, 0, 0, 48), ex_no, (.isub, 1, 0, 0, 0), (.iconst 1, 1, 0, 0, 1), (.iload_n 1, 1, 1, 0, 0), (.iconst 1, 1, 0, 0, 1), (.isub, 1, 0, 0, 0), (.invokestatic 19, 3, 85, 3, 0), ex_no, ex_no, (.ifCond .ne 5, 3, 31, 0, 0), ex_no, ex_no, (.iload_n 2, 1, 2, 0, 0), (.ireturn, 1, 0, 0, 0), (.iinc 2 1, 3, 2, 0, 1), ex_no, ex_no, (.goto (-32), 3, 2, 0, 0), ex_no, ex_no, (.bipush (-6), 2, 0, 0, -6), ex_no, (.ireturn, 1, 0, 0, 0)]
/-- LoopStrands$Pad.figure -/
def ex_k42 : List ex_MO := [(.aload_n 0, 1, 0, 0, 0), (.getfield 11, 3, 3, 0, 0), ex_no, ex_no, (.iload_n 1, 1, 1, 0, 0), (.iaload, 1, 0, 0, 0), (.bipush 48, 2, 0, 0, 48), ex_no, (.isub, 1, 0, 0, 0), (.ireturn, 1, 0, 0, 0)]
/-- LoopStrands$Pad.diagramCode -/
def ex_k43 : List ex_MO := [(.iconst 0, 1, 0, 0, 0), (.istore_n 1, 1, 1, 0, 0), (.iconst 0, 1, 0, 0, 0), (.istore_n 2, 1, 2, 0, 0), (.iload_n 2, 1, 2, 0, 0), (.aload_n 0, 1, 0, 0, 0), (.getfield 15, 3, 3, 1, 0), ex_no, ex_no, (.if_icmp .ge 30, 3, 39, 0, 0), ex_no, ex_no, (.iconst 2, 1, 0, 0, 2), (.iload_n 1, 1, 1, 0, 0), (.imul, 1, 0, 0, 0), (.aload_n 0, 1, 0, 0, 0), (.getfield 11, 3, 3, 0, 0), ex_no, ex_no, (.iload_n 2, 1, 2, 0, 0), (.iaload, 1, 0, 0, 0), (.bipush 40, 2, 0, 0, 40), ex_no, (.if_icmp .ne 7, 3, 30, 0, 0), ex_no, ex_no, (.iconst 0, 1, 0, 0, 0), (.goto 4, 3, 31, 0, 0), ex_no, ex_no, (.iconst 1, 1, 0, 0, 1), (.iadd, 1, 0, 0, 0), (.istore_n 1, 1, 1, 0, 0), (.iinc 2 1, 3, 2, 0, 1), ex_no, ex_no, (.goto (-32), 3, 4, 0, 0), ex_no, ex_no, (.iload_n 1, 1, 1, 0, 0), (.ireturn, 1, 0, 0, 0)]
/-- LoopStrands$State.<init> -/
def ex_k44 : List ex_MO := [(.aload_n 0, 1, 0, 0, 0), (.invokespecial 3, 3, 1000, 0, 0), ex_no, ex_no, (.aload_n 0, 1, 0, 0, 0), (.aload_n 1, 1, 1, 0, 0), (.putfield 9, 3, 4, 0, 0), ex_no, ex_no, (.aload_n 0, 1, 0, 0, 0), (.new 15, 3, 2, 0, 0), ex_no, ex_no, (.dup, 1, 0, 0, 0), (.invokespecial 17, 3, 26, 1, 0), ex_no, ex_no, (.putfield 18, 3, 4, 1, 0), ex_no, ex_no, (.aload_n 0, 1, 0, 0, 0), (.getfield 18, 3, 4, 1, 0), ex_no, ex_no, (.bipush 97, 2, 0, 0, 97), ex_no, (.iconst 2, 1, 0, 0, 2), (.invokevirtual 22, 3, 27, 3, 0), ex_no, ex_no, (.aload_n 0, 1, 0, 0, 0), (.iconst 5, 1, 0, 0, 5), (.bipush 42, 2, 0, 0, 42), ex_no, (.multianewarray 26 2, 4, 2, 0, 0), ex_no, ex_no, ex_no, (.putfield 28, 3, 4, 2, 0), ex_no, ex_no, (.return_, 1, 0, 0, 0)]
/-- LoopStrands$State.copyFrom -/
def ex_k45 : List ex_MO := [(.aload_n 0, 1, 0, 0, 0), (.aload_n 1, 1, 1, 0, 0), (.getfield 9, 3, 4, 0, 0), ex_no, ex_no, (.putfield 9, 3, 4, 0, 0), ex_no, ex_no, (.aload_n 0, 1, 0, 0, 0), (.getfield 18, 3, 4, 1, 0), ex_no, ex_no, (.aload_n 1, 1, 1, 0, 0), (.getfield 18, 3, 4, 1, 0), ex_no, ex_no, (.getfield 31, 3, 2, 0, 0), ex_no, ex_no, (.aload_n 1, 1, 1, 0, 0), (.getfield 18, 3, 4, 1, 0), ex_no, ex_no, (.getfield 35, 3, 2, 1, 0), ex_no, ex_no, (.invokevirtual 22, 3, 27, 3, 0), ex_no, ex_no, (.iconst 0, 1, 0, 0, 0), (.istore_n 2, 1, 2, 0, 0), (.iload_n 2, 1, 2, 0, 0), (.iconst 5, 1, 0, 0, 5), (.if_icmp .ge 28, 3, 61, 0, 0), ex_no, ex_no, (.aload_n 1, 1, 1, 0, 0), (.getfield 28, 3, 4, 2, 0), ex_no, ex_no, (.iload_n 2, 1, 2, 0, 0), (.aaload, 1, 0, 0, 0), (.iconst 0, 1, 0, 0, 0), (.aload_n 0, 1, 0, 0, 0), (.getfield 28, 3, 4, 2, 0), ex_no, ex_no, (.iload_n 2, 1, 2, 0, 0), (.aaload, 1, 0, 0, 0), (.iconst 0, 1, 0, 0, 0), (.bipush 42, 2, 0, 0, 42), ex_no, (.invokestatic 38, 3, 1001, 0, 0), ex_no, ex_no, (.iinc 2 1, 3, 2, 0, 1), ex_no, ex_no, (.goto (-27), 3, 31, 0, 0), ex_no, ex_no, (.return_, 1, 0, 0, 0)]
/-- LoopStrands$State.clearSums -/
def ex_k46 : List ex_MO := [(.iconst 0, 1, 0, 0, 0), (.istore_n 1, 1, 1, 0, 0), (.iload_n 1, 1, 1, 0, 0), (.iconst 5, 1, 0, 0, 5), (.if_icmp .ge 19, 3, 23, 0, 0), ex_no, ex_no, (.aload_n 0, 1, 0, 0, 0), (.getfield 28, 3, 4, 2, 0), ex_no, ex_no, (.iload_n 1, 1, 1, 0, 0), (.aaload, 1, 0, 0, 0), (.iconst 0, 1, 0, 0, 0), (.invokestatic 44, 3, 159, 2, 0), ex_no, ex_no, (.iinc 1 1, 3, 1, 0, 1), ex_no, ex_no, (.goto (-18), 3, 2, 0, 0), ex_no, ex_no, (.return_, 1, 0, 0, 0)]
/-- LoopStrands$State.aboveZero -/
def ex_k47 : List ex_MO := [(.iconst 0, 1, 0, 0, 0), (.istore_n 2, 1, 2, 0, 0), (.aload_n 0, 1, 0, 0, 0), (.getfield 28, 3, 4, 2, 0), ex_no, ex_no, (.iload_n 1, 1, 1, 0, 0), (.aaload, 1, 0, 0, 0), (.astore_n 3, 1, 3, 0, 0), (.aload_n 3, 1, 3, 0, 0), (.arraylength, 1, 0, 0, 0), (.istore 4, 2, 4, 0, 0), ex_no, (.iconst 0, 1, 0, 0, 0), (.istore 5, 2, 5, 0, 0), ex_no, (.iload 5, 2, 5, 0, 0), ex_no, (.iload 4, 2, 4, 0, 0), ex_no, (.if_icmp .ge 23, 3, 43, 0, 0), ex_no, ex_no, (.aload_n 3, 1, 3, 0, 0), (.iload 5, 2, 5, 0, 0), ex_no, (.iaload, 1, 0, 0, 0), (.istore 6, 2, 6, 0, 0), ex_no, (.iload 6, 2, 6, 0, 0), ex_no, (.ifCond .le 6, 3, 37, 0, 0), ex_no, ex_no, (.iinc 2 1, 3, 2, 0, 1), ex_no, ex_no, (.iinc 5 1, 3, 5, 0, 1), ex_no, ex_no, (.goto (-24), 3, 16, 0, 0), ex_no, ex_no, (.iload_n 2, 1, 2, 0, 0), (.ireturn, 1, 0, 0, 0)]
/-- LoopStrands$Table.<init> -/
def ex_k48 : List ex_MO := [(.aload_n 0, 1, 0, 0, 0), (.invokespecial 3, 3, 1000, 0, 0), ex_no, ex_no, (.aload_n 0, 1, 0, 0, 0), (.iconst 5, 1, 0, 0, 5), (.iconst 5, 1, 0, 0, 5), (.multianewarray 9 2, 4, 2, 0, 0), ex_no, ex_no, ex_no, (.putfield 11, 3, 5, 2, 0), ex_no, ex_no, (.return_, 1, 0, 0, 0)]
/-- LoopStrands$Table.fill -/
def ex_k49 : List ex_MO := [(.aload_n 0, 1, 0, 0, 0), (.aload_n 2, 1, 2, 0, 0), (.getfield 16, 3, 6, 0, 0), ex_no, ex_no, (.iconst 5, 1, 0, 0, 5), (.invokestatic 22, 3, 1003, 0, 0), ex_no, ex_no, (.putfield 28, 3, 5, 3, 0), ex_no, ex_no, (.iconst 0, 1, 0, 0, 0), (.istore_n 3, 1, 3, 0, 0), (.iload_n 3, 1, 3, 0, 0), (.aload_n 0, 1, 0, 0, 0), (.getfield 28, 3, 5, 3, 0), ex_no, ex_no, (.if_icmp .ge 53, 3, 72, 0, 0), ex_no, ex_no, (.iconst 0, 1, 0, 0, 0), (.istore 4, 2, 4, 0, 0), ex_no, (.iload 4, 2, 4, 0, 0), ex_no, (.aload_n 0, 1, 0, 0, 0), (.getfield 28, 3, 5, 3, 0), ex_no, ex_no, (.if_icmp .ge 35, 3, 66, 0, 0), ex_no, ex_no, (.aload_n 0, 1, 0, 0, 0), (.getfield 11, 3, 5, 2, 0), ex_no, ex_no, (.iload_n 3, 1, 3, 0, 0), (.aaload, 1, 0, 0, 0), (.iload 4, 2, 4, 0, 0), ex_no, (.aload_n 1, 1, 1, 0, 0), (.aload_n 2, 1, 2, 0, 0), (.getfield 29, 3, 6, 1, 0), ex_no, ex_no, (.iload_n 3, 1, 3, 0, 0), (.aaload, 1, 0, 0, 0), (.aload_n 2, 1, 2, 0, 0), (.getfield 29, 3, 6, 1, 0), ex_no, ex_no, (.iload 4, 2, 4, 0, 0), ex_no, (.aaload, 1, 0, 0, 0), (.invokestatic 32, 3, 25, 3, 0), ex_no, ex_no, (.iastore, 1, 0, 0, 0), (.iinc 4 1, 3, 4, 0, 1), ex_no, ex_no, (.goto (-38), 3, 25, 0, 0), ex_no, ex_no, (.iinc 3 1, 3, 3, 0, 1), ex_no, ex_no, (.goto (-55), 3, 14, 0, 0), ex_no, ex_no, (.return_, 1, 0, 0, 0)]
/-- LoopStrands$Table.eliminate -/
def ex_k50 : List ex_MO := [(.aload_n 0, 1, 0, 0, 0), (.iconst 1, 1, 0, 0, 1), (.putfield 38, 3, 5, 0, 0), ex_no, ex_no, (.aload_n 0, 1, 0, 0, 0), (.iconst 0, 1, 0, 0, 0), (.putfield 41, 3, 5, 1, 0), ex_no, ex_no, (.iconst 0, 1, 0, 0, 0), (.istore_n 2, 1, 2, 0, 0), (.iload_n 2, 1, 2, 0, 0), (.aload_n 0, 1, 0, 0, 0), (.getfield 28, 3, 5, 3, 0), ex_no, ex_no, (.if_icmp .ge 100, 3, 117, 0, 0), ex_no, ex_no, (.aload_n 0, 1, 0, 0, 0), (.iload_n 2, 1, 2, 0, 0), (.invokevirtual 44, 3, 51, 2, 0), ex_no, ex_no, (.istore_n 3, 1, 3, 0, 0), (.iload_n 3, 1, 3, 0, 0), (.aload_n 0, 1, 0, 0, 0), (.getfield 28, 3, 5, 3, 0), ex_no, ex_no, (.if_icmp .ne 11, 3, 42, 0, 0), ex_no, ex_no, (.aload_n 0, 1, 0, 0, 0), (.iconst 0, 1, 0, 0, 0), (.putfield 38, 3, 5, 0, 0), ex_no, ex_no, (.goto 72, 3, 111, 0, 0), ex_no, ex_no, (.iload_n 3, 1, 3, 0, 0), (.aload_n 0, 1, 0, 0, 0), (.getfield 41, 3, 5, 1, 0), ex_no, ex_no, (.if_icmp .eq 25, 3, 72, 0, 0), ex_no, ex_no, (.aload_n 0, 1, 0, 0, 0), (.iload_n 3, 1, 3, 0, 0), (.aload_n 0, 1, 0, 0, 0), (.getfield 41, 3, 5, 1, 0), ex_no, ex_no, (.invokevirtual 48, 3, 52, 3, 0), ex_no, ex_no, (.aload_n 0, 1, 0, 0, 0), (.aload_n 1, 1, 1, 0, 0), (.iconst 0, 1, 0, 0, 0), (.aload_n 0, 1, 0, 0, 0), (.getfield 38, 3, 5, 0, 0), ex_no, ex_no, (.invokevirtual 52, 3, 30, 3, 0), ex_no, ex_no, (.putfield 38, 3, 5, 0, 0), ex_no, ex_no, (.aload_n 0, 1, 0, 0, 0), (.aload_n 1, 1, 1, 0, 0), (.aload_n 0, 1, 0, 0, 0), (.getfield 38, 3, 5, 0, 0), ex_no, ex_no, (.aload_n 0, 1, 0, 0, 0), (.getfield 11, 3, 5, 2, 0), ex_no, ex_no, (.aload_n 0, 1, 0, 0, 0), (.getfield 41, 3, 5, 1, 0), ex_no, ex_no, (.aaload, 1, 0, 0, 0), (.iload_n 2, 1, 2, 0, 0), (.iaload, 1, 0, 0, 0), (.invokevirtual 57, 3, 31, 3, 0), ex_no, ex_no, (.putfield 38, 3, 5, 0, 0), ex_no, ex_no, (.aload_n 0, 1, 0, 0, 0), (.aload_n 1, 1, 1, 0, 0), (.iload_n 2, 1, 2, 0, 0), (.invokevirtual 60, 3, 53, 3, 0), ex_no, ex_no, (.aload_n 0, 1, 0, 0, 0), (.dup, 1, 0, 0, 0), (.getfield 41, 3, 5, 1, 0), ex_no, ex_no, (.iconst 1, 1, 0, 0, 1), (.iadd, 1, 0, 0, 0), (.putfield 41, 3, 5, 1, 0), ex_no, ex_no, (.iinc 2 1, 3, 2, 0, 1), ex_no, ex_no, (.goto (-102), 3, 12, 0, 0), ex_no, ex_no, (.return_, 1, 0, 0, 0)]
/-- LoopStrands$Table.findPivot -/
def ex_k51 : List ex_MO := [(.aload_n 0, 1, 0, 0, 0), (.getfield 41, 3, 5, 1, 0), ex_no, ex_no, (.istore_n 2, 1, 2, 0, 0), (.iload_n 2, 1, 2, 0, 0), (.aload_n 0, 1, 0, 0, 0), (.getfield 28, 3, 5, 3, 0), ex_no, ex_no, (.if_icmp .ge 20, 3, 30, 0, 0), ex_no, ex_no, (.aload_n 0, 1, 0, 0, 0), (.getfield 11, 3, 5, 2, 0), ex_no, ex_no, (.iload_n 2, 1, 2, 0, 0), (.aaload, 1, 0, 0, 0), (.iload_n 1, 1, 1, 0, 0), (.iaload, 1, 0, 0, 0), (.ifCond .ne 9, 3, 30, 0, 0), ex_no, ex_no, (.iinc 2 1, 3, 2, 0, 1), ex_no, ex_no, (.goto (-22), 3, 5, 0, 0), ex_no, ex_no, (.iload_n 2, 1, 2, 0, 0), (.ireturn, 1, 0, 0, 0)]
/-- LoopStrands$Table.swapRows -/
def ex_k52 : List ex_MO := [(.aload_n 0, 1, 0, 0, 0), (.getfield 11, 3, 5, 2, 0), ex_no, ex_no, (.iload_n 1, 1, 1, 0, 0), (.aaload, 1, 0, 0, 0), (.astore_n 3, 1, 3, 0, 0), (.aload_n 0, 1, 0, 0, 0), (.getfield 11, 3, 5, 2, 0), ex_no, ex_no, (.iload_n 1, 1, 1, 0, 0), (.aload_n 0, 1, 0, 0, 0), (.getfield 11, 3, 5, 2, 0), ex_no, ex_no, (.iload_n 2, 1, 2, 0, 0), (.aaload, 1, 0, 0, 0), (.aastore, 1, 0, 0, 0), (.aload_n 0, 1, 0, 0, 0), (.getfield 11, 3, 5, 2, 0), ex_no, ex_no, (.iload_n 2, 1, 2, 0, 0), (.aload_n 3, 1, 3, 0, 0), (.aastore, 1, 0, 0, 0), (.return_, 1, 0, 0, 0)]
/-- LoopStrands$Table.clearBelow -/
def ex_k53 : List ex_MO := [(.aload_n 1, 1, 1, 0, 0), (.aload_n 0, 1, 0, 0, 0), (.getfield 11, 3, 5, 2, 0), ex_no, ex_no, (.aload_n 0, 1, 0, 0, 0), (.getfield 41, 3, 5, 1, 0), ex_no, ex_no, (.aaload, 1, 0, 0, 0), (.iload_n 2, 1, 2, 0, 0), (.iaload, 1, 0, 0, 0), (.invokevirtual 64, 3, 32, 2, 0), ex_no, ex_no, (.istore_n 3, 1, 3, 0, 0), (.aload_n 0, 1, 0, 0, 0), (.getfield 41, 3, 5, 1, 0), ex_no, ex_no, (.iconst 1, 1, 0, 0, 1), (.iadd, 1, 0, 0, 0), (.istore 4, 2, 4, 0, 0), ex_no, (.iload 4, 2, 4, 0, 0), ex_no, (.aload_n 0, 1, 0, 0, 0), (.getfield 28, 3, 5, 3, 0), ex_no, ex_no, (.if_icmp .ge 89, 3, 119, 0, 0), ex_no, ex_no, (.aload_n 1, 1, 1, 0, 0), (.aload_n 0, 1, 0, 0, 0), (.getfield 11, 3, 5, 2, 0), ex_no, ex_no, (.iload 4, 2, 4, 0, 0), ex_no, (.aaload, 1, 0, 0, 0), (.iload_n 2, 1, 2, 0, 0), (.iaload, 1, 0, 0, 0), (.iload_n 3, 1, 3, 0, 0), (.invokevirtual 57, 3, 31, 3, 0), ex_no, ex_no, (.istore 5, 2, 5, 0, 0), ex_no, (.iload_n 2, 1, 2, 0, 0), (.istore 6, 2, 6, 0, 0), ex_no, (.iload 6, 2, 6, 0, 0), ex_no, (.aload_n 0, 1, 0, 0, 0), (.getfield 28, 3, 5, 3, 0), ex_no, ex_no, (.if_icmp .ge 55, 3, 113, 0, 0), ex_no, ex_no, (.aload_n 1, 1, 1, 0, 0), (.iload 5, 2, 5, 0, 0), ex_no, (.aload_n 0, 1, 0, 0, 0), (.getfield 11, 3, 5, 2, 0), ex_no, ex_no, (.aload_n 0, 1, 0, 0, 0), (.getfield 41, 3, 5, 1, 0), ex_no, ex_no, (.aaload, 1, 0, 0, 0), (.iload 6, 2, 6, 0, 0), ex_no, (.iaload, 1, 0, 0, 0), (.invokevirtual 57, 3, 31, 3, 0), ex_no, ex_no, (.istore 7, 2, 7, 0, 0), ex_no, (.aload_n 0, 1, 0, 0, 0), (.getfield 11, 3, 5, 2, 0), ex_no, ex_no, (.iload 4, 2, 4, 0, 0), ex_no, (.aaload, 1, 0, 0, 0), (.iload 6, 2, 6, 0, 0), ex_no, (.aload_n 1, 1, 1, 0, 0), (.aload_n 0, 1, 0, 0, 0), (.getfield 11, 3, 5, 2, 0), ex_no, ex_no, (.iload 4, 2, 4, 0, 0), ex_no, (.aaload, 1, 0, 0, 0), (.iload 6, 2, 6, 0, 0), ex_no, (.iaload, 1, 0, 0, 0), (.iload 7, 2, 7, 0, 0), ex_no, (.invokevirtual 52, 3, 30, 3, 0), ex_no, ex_no, (.iastore, 1, 0, 0, 0), (.iinc 6 1, 3, 6, 0, 1), ex_no, ex_no, (.goto (-58), 3, 52, 0, 0), ex_no, ex_no, (.iinc 4 1, 3, 4, 0, 1), ex_no, ex_no, (.goto (-92), 3, 24, 0, 0), ex_no, ex_no, (.return_, 1, 0, 0, 0)]
/-- LoopStrands$Texts.<init> -/
def ex_k54 : List ex_MO := [(.aload_n 0, 1, 0, 0, 0), (.invokespecial 3, 3, 1000, 0, 0), ex_no, ex_no, (.aload_n 0, 1, 0, 0, 0), (.iload_n 1, 1, 1, 0, 0), (.putfield 9, 3, 6, 3, 0), ex_no, ex_no, (.aload_n 0, 1, 0, 0, 0), (.iload_n 2, 1, 2, 0, 0), (.putfield 15, 3, 6, 4, 0), ex_no, ex_no, (.aload_n 0, 1, 0, 0, 0), (.iload_n 2, 1, 2, 0, 0), (.ifCond .ne 7, 3, 23, 0, 0), ex_no, ex_no, (.iconst 2, 1, 0, 0, 2), (.goto 4, 3, 24, 0, 0), ex_no, ex_no, (.iconst 3, 1, 0, 0, 3), (.putfield 18, 3, 6, 5, 0), ex_no, ex_no, (.aload_n 0, 1, 0, 0, 0), (.iload_n 1, 1, 1, 0, 0), (.newarray .int, 2, 0, 0, 0), ex_no, (.putfield 21, 3, 6, 6, 0), ex_no, ex_no, (.bipush 42, 2, 0, 0, 42), ex_no, (.newarray .int, 2, 0, 0, 0), ex_no, (.astore_n 3, 1, 3, 0, 0), (.aload_n 0, 1, 0, 0, 0), (.aload_n 0, 1, 0, 0, 0), (.aload_n 3, 1, 3, 0, 0), (.invokevirtual 25, 3, 55, 2, 0), ex_no, ex_no, (.putfield 29, 3, 6, 0, 0), ex_no, ex_no, (.aload_n 0, 1, 0, 0, 0), (.aload_n 3, 1, 3, 0, 0), (.aload_n 0, 1, 0, 0, 0), (.getfield 29, 3, 6, 0, 0), ex_no, ex_no, (.invokestatic 32, 3, 160, 2, 0), ex_no, ex_no, (.putfield 38, 3, 6, 2, 0), ex_no, ex_no, (.aload_n 0, 1, 0, 0, 0), (.aload_n 0, 1, 0, 0, 0), (.getfield 29, 3, 6, 0, 0), ex_no, ex_no, (.iload_n 1, 1, 1, 0, 0), (.multianewarray 41 2, 4, 2, 0, 0), ex_no, ex_no, ex_no, (.putfield 43, 3, 6, 1, 0), ex_no, ex_no, (.iconst 0, 1, 0, 0, 0), (.istore 4, 2, 4, 0, 0), ex_no, (.iload 4, 2, 4, 0, 0), ex_no, (.aload_n 0, 1, 0, 0, 0), (.getfield 29, 3, 6, 0, 0), ex_no, ex_no, (.if_icmp .ge 28, 3, 110, 0, 0), ex_no, ex_no, (.aload_n 0, 1, 0, 0, 0), (.aload_n 0, 1, 0, 0, 0), (.getfield 38, 3, 6, 2, 0), ex_no, ex_no, (.iload 4, 2, 4, 0, 0), ex_no, (.iaload, 1, 0, 0, 0), (.aload_n 0, 1, 0, 0, 0), (.getfield 43, 3, 6, 1, 0), ex_no, ex_no, (.iload 4, 2, 4, 0, 0), ex_no, (.aaload, 1, 0, 0, 0), (.invokevirtual 46, 3, 56, 3, 0), ex_no, ex_no, (.pop, 1, 0, 0, 0), (.iinc 4 1, 3, 4, 0, 1), ex_no, ex_no, (.goto (-31), 3, 76, 0, 0), ex_no, ex_no, (.return_, 1, 0, 0, 0)]
/-- LoopStrands$Texts.findCodes -/
def ex_k55 : List ex_MO := [(.aload_n 0, 1, 0, 0, 0), (.getfield 9, 3, 6, 3, 0), ex_no, ex_no, (.newarray .int, 2, 0, 0, 0), ex_no, (.astore_n 2, 1, 2, 0, 0), (.iconst 1, 1, 0, 0, 1), (.istore_n 3, 1, 3, 0, 0), (.iconst 0, 1, 0, 0, 0), (.istore 4, 2, 4, 0, 0), ex_no, (.iload 4, 2, 4, 0, 0), ex_no, (.aload_n 0, 1, 0, 0, 0), (.getfield 9, 3, 6, 3, 0), ex_no, ex_no, (.if_icmp .ge 16, 3, 34, 0, 0), ex_no, ex_no, (.iload_n 3, 1, 3, 0, 0), (.aload_n 0, 1, 0, 0, 0), (.getfield 18, 3, 6, 5, 0), ex_no, ex_no, (.imul, 1, 0, 0, 0), (.istore_n 3, 1, 3, 0, 0), (.iinc 4 1, 3, 4, 0, 1), ex_no, ex_no, (.goto (-19), 3, 12, 0, 0), ex_no, ex_no, (.iconst 0, 1, 0, 0, 0), (.istore 4, 2, 4, 0, 0), ex_no, (.iconst 0, 1, 0, 0, 0), (.istore 5, 2, 5, 0, 0), ex_no, (.iload 5, 2, 5, 0, 0), ex_no, (.iload_n 3, 1, 3, 0, 0), (.if_icmp .ge 35, 3, 78, 0, 0), ex_no, ex_no, (.iload 4, 2, 4, 0, 0), ex_no, (.aload_n 1, 1, 1, 0, 0), (.arraylength, 1, 0, 0, 0), (.if_icmp .ge 28, 3, 78, 0, 0), ex_no, ex_no, (.aload_n 0, 1, 0, 0, 0), (.iload 5, 2, 5, 0, 0), ex_no, (.aload_n 2, 1, 2, 0, 0), (.invokevirtual 46, 3, 56, 3, 0), ex_no, ex_no, (.ifCond .eq 12, 3, 72, 0, 0), ex_no, ex_no, (.aload_n 1, 1, 1, 0, 0), (.iload 4, 2, 4, 0, 0), ex_no, (.iload 5, 2, 5, 0, 0), ex_no, (.iastore, 1, 0, 0, 0), (.iinc 4 1, 3, 4, 0, 1), ex_no, ex_no, (.iinc 5 1, 3, 5, 0, 1), ex_no, ex_no, (.goto (-35), 3, 40, 0, 0), ex_no, ex_no, (.iload 4, 2, 4, 0, 0), ex_no, (.ireturn, 1, 0, 0, 0)]
/-- LoopStrands$Texts.readCode -/
def ex_k56 : List ex_MO := [(.iload_n 1, 1, 1, 0, 0), (.istore_n 3, 1, 3, 0, 0), (.iconst 0, 1, 0, 0, 0), (.istore 4, 2, 4, 0, 0), ex_no, (.iconst 0, 1, 0, 0, 0), (.istore 5, 2, 5, 0, 0), ex_no, (.aload_n 0, 1, 0, 0, 0), (.getfield 9, 3, 6, 3, 0), ex_no, ex_no, (.iconst 1, 1, 0, 0, 1), (.isub, 1, 0, 0, 0), (.istore 6, 2, 6, 0, 0), ex_no, (.iload 6, 2, 6, 0, 0), ex_no, (.ifCond .lt 98, 3, 116, 0, 0), ex_no, ex_no, (.iload_n 3, 1, 3, 0, 0), (.aload_n 0, 1, 0, 0, 0), (.getfield 18, 3, 6, 5, 0), ex_no, ex_no, (.irem, 1, 0, 0, 0), (.istore 7, 2, 7, 0, 0), ex_no, (.iload_n 3, 1, 3, 0, 0), (.aload_n 0, 1, 0, 0, 0), (.getfield 18, 3, 6, 5, 0), ex_no, ex_no, (.idiv, 1, 0, 0, 0), (.istore_n 3, 1, 3, 0, 0), (.iload 7, 2, 7, 0, 0), ex_no, (.iconst 1, 1, 0, 0, 1), (.if_icmp .ne 18, 3, 57, 0, 0), ex_no, ex_no, (.aload_n 0, 1, 0, 0, 0), (.getfield 21, 3, 6, 6, 0), ex_no, ex_no, (.iload 4, 2, 4, 0, 0), ex_no, (.iload 6, 2, 6, 0, 0), ex_no, (.iastore, 1, 0, 0, 0), (.iinc 4 1, 3, 4, 0, 1), ex_no, ex_no, (.goto 56, 3, 110, 0, 0), ex_no, ex_no, (.iload 7, 2, 7, 0, 0), ex_no, (.ifCond .ne 27, 3, 86, 0, 0), ex_no, ex_no, (.iload 4, 2, 4, 0, 0), ex_no, (.ifCond .le 22, 3, 86, 0, 0), ex_no, ex_no, (.iinc 4 (-1), 3, 4, 0, -1), ex_no, ex_no, (.aload_n 2, 1, 2, 0, 0), (.iload 6, 2, 6, 0, 0), ex_no, (.aload_n 0, 1, 0, 0, 0), (.getfield 21, 3, 6, 6, 0), ex_no, ex_no, (.iload 4, 2, 4, 0, 0), ex_no, (.iaload, 1, 0, 0, 0), (.invokestatic 50, 3, 57, 3, 0), ex_no, ex_no, (.goto 27, 3, 110, 0, 0), ex_no, ex_no, (.iload 7, 2, 7, 0, 0), ex_no, (.iconst 2, 1, 0, 0, 2), (.if_icmp .ne 19, 3, 108, 0, 0), ex_no, ex_no, (.iload 4, 2, 4, 0, 0), ex_no, (.ifCond .ne 14, 3, 108, 0, 0), ex_no, ex_no, (.aload_n 2, 1, 2, 0, 0), (.iload 6, 2, 6, 0, 0), ex_no, (.iconst (-1), 1, 0, 0, -1), (.iastore, 1, 0, 0, 0), (.iinc 5 1, 3, 5, 0, 1), ex_no, ex_no, (.goto 5, 3, 110, 0, 0), ex_no, ex_no, (.iconst 0, 1, 0, 0, 0), (.ireturn, 1, 1, 0, 0), (.iinc 6 (-1), 3, 6, 0, -1), ex_no, ex_no, (.goto (-97), 3, 16, 0, 0), ex_no, ex_no, (.iload 4, 2, 4, 0, 0), ex_no, (.ifCond .ne 16, 3, 134, 0, 0), ex_no, ex_no, (.iload 5, 2, 5, 0, 0), ex_no, (.aload_n 0, 1, 0, 0, 0), (.getfield 15, 3, 6, 4, 0), ex_no, ex_no, (.if_icmp .ne 7, 3, 134, 0, 0), ex_no, ex_no, (.iconst 1, 1, 0, 0, 1), (.goto 4, 3, 135, 0, 0), ex_no, ex_no, (.iconst 0, 1, 0, 0, 0), (.ireturn, 1, 1, 0, 0)]
/-- LoopStrands$Texts.join -/
def ex_k57 : List ex_MO := [(.aload_n 0, 1, 0, 0, 0), (.iload_n 1, 1, 1, 0, 0), (.iload_n 2, 1, 2, 0, 0), (.iastore, 1, 0, 0, 0), (.aload_n 0, 1, 0, 0, 0), (.iload_n 2, 1, 2, 0, 0), (.iload_n 1, 1, 1, 0, 0), (.iastore, 1, 0, 0, 0), (.return_, 1, 0, 0, 0)]
/-- LoopStrands$Texts.find -/
def ex_k58 : List ex_MO := [(.iconst 0, 1, 0, 0, 0), (.istore_n 2, 1, 2, 0, 0), (.iload_n 2, 1, 2, 0, 0), (.aload_n 0, 1, 0, 0, 0), (.getfield 29, 3, 6, 0, 0), ex_no, ex_no, (.if_icmp .ge 21, 3, 28, 0, 0), ex_no, ex_no, (.aload_n 0, 1, 0, 0, 0), (.getfield 38, 3, 6, 2, 0), ex_no, ex_no, (.iload_n 2, 1, 2, 0, 0), (.iaload, 1, 0, 0, 0), (.iload_n 1, 1, 1, 0, 0), (.if_icmp .ne 5, 3, 22, 0, 0), ex_no, ex_no, (.iload_n 2, 1, 2, 0, 0), (.ireturn, 1, 0, 0, 0), (.iinc 2 1, 3, 2, 0, 1), ex_no, ex_no, (.goto (-23), 3, 2, 0, 0), ex_no, ex_no, (.iconst 0, 1, 0, 0, 0), (.ireturn, 1, 0, 0, 0)]
/-- LoopStrands$Texts.findRow -/
def ex_k59 : List ex_MO := [(.iconst 0, 1, 0, 0, 0), (.istore_n 2, 1, 2, 0, 0), (.iconst 0, 1, 0, 0, 0), (.istore_n 3, 1, 3, 0, 0), (.iload_n 3, 1, 3, 0, 0), (.aload_n 0, 1, 0, 0, 0), (.getfield 9, 3, 6, 3, 0), ex_no, ex_no, (.if_icmp .ge 26, 3, 35, 0, 0), ex_no, ex_no, (.iconst 2, 1, 0, 0, 2), (.iload_n 2, 1, 2, 0, 0), (.imul, 1, 0, 0, 0), (.aload_n 1, 1, 1, 0, 0), (.iload_n 3, 1, 3, 0, 0), (.iaload, 1, 0, 0, 0), (.iload_n 3, 1, 3, 0, 0), (.if_icmp .le 7, 3, 26, 0, 0), ex_no, ex_no, (.iconst 0, 1, 0, 0, 0), (.goto 4, 3, 27, 0, 0), ex_no, ex_no, (.iconst 1, 1, 0, 0, 1), (.iadd, 1, 0, 0, 0), (.istore_n 2, 1, 2, 0, 0), (.iinc 3 1, 3, 3, 0, 1), ex_no, ex_no, (.goto (-28), 3, 4, 0, 0), ex_no, ex_no, (.aload_n 0, 1, 0, 0, 0), (.iload_n 2, 1, 2, 0, 0), (.invokevirtual 54, 3, 58, 2, 0), ex_no, ex_no, (.ireturn, 1, 0, 0, 0)]
/-- LoopStrands.<init> -/
def ex_k60 : List ex_MO := [(.aload_n 0, 1, 0, 0, 0), (.invokespecial 1, 3, 1000, 0, 0), ex_no, ex_no, (.aload_n 0, 1, 0, 0, 0), (.new 7, 3, 3, 0, 0), ex_no, ex_no, (.dup, 1, 0, 0, 0), (.invokespecial 9, 3, 36, 1, 0), ex_no, ex_no, (.putfield 10, 3, 7, 0, 0), ex_no, ex_no, (.aload_n 0, 1, 0, 0, 0), (.bipush 6, 2, 0, 0, 6), ex_no, (.anewarray 16, 3, 3, 0, 0), ex_no, ex_no, (.putfield 18, 3, 7, 1, 0), ex_no, ex_no, (.aload_n 0, 1, 0, 0, 0), (.getfield 18, 3, 7, 1, 0), ex_no, ex_no, (.iconst 3, 1, 0, 0, 3), (.new 16, 3, 1, 0, 0), ex_no, ex_no, (.dup, 1, 0, 0, 0), (.iconst 3, 1, 0, 0, 3), (.invokespecial 22, 3, 8, 2, 0), ex_no, ex_no, (.aastore, 1, 0, 0, 0), (.aload_n 0, 1, 0, 0, 0), (.new 25, 3, 4, 0, 0), ex_no, ex_no, (.dup, 1, 0, 0, 0), (.aload_n 0, 1, 0, 0, 0), (.getfield 18, 3, 7, 1, 0), ex_no, ex_no, (.iconst 3, 1, 0, 0, 3), (.aaload, 1, 0, 0, 0), (.invokespecial 27, 3, 44, 2, 0), ex_no, ex_no, (.putfield 30, 3, 7, 2, 0), ex_no, ex_no, (.aload_n 0, 1, 0, 0, 0), (.iconst 2, 1, 0, 0, 2), (.anewarray 25, 3, 4, 0, 0), ex_no, ex_no, (.putfield 34, 3, 7, 3, 0), ex_no, ex_no, (.aload_n 0, 1, 0, 0, 0), (.new 38, 3, 0, 0, 0), ex_no, ex_no, (.dup, 1, 0, 0, 0), (.invokespecial 40, 3, 0, 1, 0), ex_no, ex_no, (.putfield 41, 3, 7, 4, 0), ex_no, ex_no, (.aload_n 0, 1, 0, 0, 0), (.new 45, 3, 5, 0, 0), ex_no, ex_no, (.dup, 1, 0, 0, 0), (.invokespecial 47, 3, 48, 1, 0), ex_no, ex_no, (.putfield 48, 3, 7, 5, 0), ex_no, ex_no, (.return_, 1, 0, 0, 0)]
/-- LoopStrands.strands -/
def ex_k61 : List ex_MO := [(.iload_n 1, 1, 1, 0, 0), (.iconst 1, 1, 0, 0, 1), (.iconst 5, 1, 0, 0, 5), (.invokestatic 52, 3, 85, 3, 0), ex_no, ex_no, (.ifCond .ne 6, 3, 12, 0, 0), ex_no, ex_no, (.bipush (-2), 2, 0, 0, -2), ex_no, (.ireturn, 1, 0, 0, 0), (.aload_n 0, 1, 0, 0, 0), (.getfield 18, 3, 7, 1, 0), ex_no, ex_no, (.iload_n 1, 1, 1, 0, 0), (.aaload, 1, 0, 0, 0), (.ifnonnull 17, 3, 35, 0, 0), ex_no, ex_no, (.aload_n 0, 1, 0, 0, 0), (.getfield 18, 3, 7, 1, 0), ex_no, ex_no, (.iload_n 1, 1, 1, 0, 0), (.new 16, 3, 1, 0, 0), ex_no, ex_no, (.dup, 1, 0, 0, 0), (.iload_n 1, 1, 1, 0, 0), (.invokespecial 22, 3, 8, 2, 0), ex_no, ex_no, (.aastore, 1, 0, 0, 0), (.aload_n 0, 1, 0, 0, 0), (.getfield 30, 3, 7, 2, 0), ex_no, ex_no, (.aload_n 0, 1, 0, 0, 0), (.getfield 18, 3, 7, 1, 0), ex_no, ex_no, (.iload_n 1, 1, 1, 0, 0), (.aaload, 1, 0, 0, 0), (.putfield 56, 3, 4, 0, 0), ex_no, ex_no, (.aload_n 0, 1, 0, 0, 0), (.getfield 30, 3, 7, 2, 0), ex_no, ex_no, (.invokevirtual 60, 3, 46, 1, 0), ex_no, ex_no, (.aload_n 0, 1, 0, 0, 0), (.getfield 30, 3, 7, 2, 0), ex_no, ex_no, (.getfield 56, 3, 4, 0, 0), ex_no, ex_no, (.getfield 63, 3, 1, 2, 0), ex_no, ex_no, (.getfield 67, 3, 6, 0, 0), ex_no, ex_no, (.ireturn, 1, 0, 0, 0)]
/-- LoopStrands.say -/
def ex_k62 : List ex_MO := [(.iload_n 1, 1, 1, 0, 0), (.bipush 33, 2, 0, 0, 33), ex_no, (.bipush 126, 2, 0, 0, 126), ex_no, (.invokestatic 52, 3, 85, 3, 0), ex_no, ex_no, (.ifCond .ne 6, 3, 14, 0, 0), ex_no, ex_no, (.bipush (-2), 2, 0, 0, -2), ex_no, (.ireturn, 1, 0, 0, 0), (.aload_n 0, 1, 0, 0, 0), (.getfield 10, 3, 7, 0, 0), ex_no, ex_no, (.invokevirtual 73, 3, 37, 1, 0), ex_no, ex_no, (.ifCond .eq 6, 3, 27, 0, 0), ex_no, ex_no, (.bipush (-4), 2, 0, 0, -4), ex_no, (.ireturn, 1, 0, 0, 0), (.aload_n 0, 1, 0, 0, 0), (.getfield 10, 3, 7, 0, 0), ex_no, ex_no, (.iload_n 1, 1, 1, 0, 0), (.invokevirtual 77, 3, 38, 2, 0), ex_no, ex_no, (.aload_n 0, 1, 0, 0, 0), (.getfield 10, 3, 7, 0, 0), ex_no, ex_no, (.getfield 80, 3, 3, 1, 0), ex_no, ex_no, (.ireturn, 1, 0, 0, 0)]
/-- LoopStrands.wipe -/
def ex_k63 : List ex_MO := [(.aload_n 0, 1, 0, 0, 0), (.getfield 10, 3, 7, 0, 0), ex_no, ex_no, (.getfield 80, 3, 3, 1, 0), ex_no, ex_no, (.istore_n 1, 1, 1, 0, 0), (.aload_n 0, 1, 0, 0, 0), (.getfield 10, 3, 7, 0, 0), ex_no, ex_no, (.invokevirtual 83, 3, 39, 1, 0), ex_no, ex_no, (.iload_n 1, 1, 1, 0, 0), (.ireturn, 1, 0, 0, 0)]
/-- LoopStrands.fault -/
def ex_k64 : List ex_MO := [(.iload_n 1, 1, 1, 0, 0), (.iconst 0, 1, 0, 0, 0), (.iconst 1, 1, 0, 0, 1), (.invokestatic 52, 3, 85, 3, 0), ex_no, ex_no, (.ifCond .ne 6, 3, 12, 0, 0), ex_no, ex_no, (.bipush (-2), 2, 0, 0, -2), ex_no, (.ireturn, 1, 0, 0, 0), (.iload_n 1, 1, 1, 0, 0), (.ifCond .ne 23, 3, 36, 0, 0), ex_no, ex_no, (.aload_n 0, 1, 0, 0, 0), (.getfield 10, 3, 7, 0, 0), ex_no, ex_no, (.aload_n 0, 1, 0, 0, 0), (.getfield 30, 3, 7, 2, 0), ex_no, ex_no, (.getfield 56, 3, 4, 0, 0), ex_no, ex_no, (.getfield 86, 3, 1, 0, 0), ex_no, ex_no, (.invokevirtual 89, 3, 40, 2, 0), ex_no, ex_no, (.goto 20, 3, 53, 0, 0), ex_no, ex_no, (.aload_n 0, 1, 0, 0, 0), (.getfield 10, 3, 7, 0, 0), ex_no, ex_no, (.aload_n 0, 1, 0, 0, 0), (.getfield 30, 3, 7, 2, 0), ex_no, ex_no, (.getfield 56, 3, 4, 0, 0), ex_no, ex_no, (.getfield 86, 3, 1, 0, 0), ex_no, ex_no, (.invokevirtual 93, 3, 41, 2, 0), ex_no, ex_no, (.ireturn, 1, 0, 0, 0)]
/-- LoopStrands.diagram -/
def ex_k65 : List ex_MO := [(.aload_n 0, 1, 0, 0, 0), (.getfield 10, 3, 7, 0, 0), ex_no, ex_no, (.aload_n 0, 1, 0, 0, 0), (.getfield 30, 3, 7, 2, 0), ex_no, ex_no, (.getfield 56, 3, 4, 0, 0), ex_no, ex_no, (.getfield 86, 3, 1, 0, 0), ex_no, ex_no, (.invokevirtual 89, 3, 40, 2, 0), ex_no, ex_no, (.bipush (-6), 2, 0, 0, -6), ex_no, (.if_icmp .eq 6, 3, 25, 0, 0), ex_no, ex_no, (.bipush (-7), 2, 0, 0, -7), ex_no, (.ireturn, 1, 0, 0, 0), (.aload_n 0, 1, 0, 0, 0), (.getfield 30, 3, 7, 2, 0), ex_no, ex_no, (.getfield 56, 3, 4, 0, 0), ex_no, ex_no, (.getfield 63, 3, 1, 2, 0), ex_no, ex_no, (.aload_n 0, 1, 0, 0, 0), (.getfield 10, 3, 7, 0, 0), ex_no, ex_no, (.invokevirtual 96, 3, 43, 1, 0), ex_no, ex_no, (.invokevirtual 100, 3, 58, 2, 0), ex_no, ex_no, (.istore_n 1, 1, 1, 0, 0), (.aload_n 0, 1, 0, 0, 0), (.getfield 10, 3, 7, 0, 0), ex_no, ex_no, (.invokevirtual 83, 3, 39, 1, 0), ex_no, ex_no, (.iload_n 1, 1, 1, 0, 0), (.ireturn, 1, 0, 0, 0)]
/-- LoopStrands.word -/
def ex_k66 : List ex_MO := [(.iload_n 1, 1, 1, 0, 0), (.iconst 0, 1, 0, 0, 0), (.iconst 1, 1, 0, 0, 1), (.invokestatic 52, 3, 85, 3, 0), ex_no, ex_no, (.ifCond .ne 6, 3, 12, 0, 0), ex_no, ex_no, (.bipush (-2), 2, 0, 0, -2), ex_no, (.ireturn, 1, 0, 0, 0), (.aload_n 0, 1, 0, 0, 0), (.getfield 10, 3, 7, 0, 0), ex_no, ex_no, (.aload_n 0, 1, 0, 0, 0), (.getfield 30, 3, 7, 2, 0), ex_no, ex_no, (.getfield 56, 3, 4, 0, 0), ex_no, ex_no, (.getfield 86, 3, 1, 0, 0), ex_no, ex_no, (.invokevirtual 93, 3, 41, 2, 0), ex_no, ex_no, (.bipush (-6), 2, 0, 0, -6), ex_no, (.if_icmp .eq 6, 3, 37, 0, 0), ex_no, ex_no, (.bipush (-7), 2, 0, 0, -7), ex_no, (.ireturn, 1, 0, 0, 0), (.iconst 0, 1, 0, 0, 0), (.istore_n 2, 1, 2, 0, 0), (.iconst 0, 1, 0, 0, 0), (.istore_n 3, 1, 3, 0, 0), (.iconst 0, 1, 0, 0, 0), (.istore 4, 2, 4, 0, 0), ex_no, (.iload 4, 2, 4, 0, 0), ex_no, (.aload_n 0, 1, 0, 0, 0), (.getfield 10, 3, 7, 0, 0), ex_no, ex_no, (.getfield 80, 3, 3, 1, 0), ex_no, ex_no, (.if_icmp .ge 61, 3, 114, 0, 0), ex_no, ex_no, (.aload_n 0, 1, 0, 0, 0), (.getfield 30, 3, 7, 2, 0), ex_no, ex_no, (.getfield 56, 3, 4, 0, 0), ex_no, ex_no, (.getfield 103, 3, 1, 4, 0), ex_no, ex_no, (.aload_n 0, 1, 0, 0, 0), (.getfield 10, 3, 7, 0, 0), ex_no, ex_no, (.iload 4, 2, 4, 0, 0), ex_no, (.invokevirtual 107, 3, 42, 2, 0), ex_no, ex_no, (.iaload, 1, 0, 0, 0), (.istore 5, 2, 5, 0, 0), ex_no, (.iload_n 3, 1, 3, 0, 0), (.aload_n 0, 1, 0, 0, 0), (.getfield 30, 3, 7, 2, 0), ex_no, ex_no, (.getfield 56, 3, 4, 0, 0), ex_no, ex_no, (.iload_n 2, 1, 2, 0, 0), (.iload 5, 2, 5, 0, 0), ex_no, (.invokevirtual 110, 3, 18, 3, 0), ex_no, ex_no, (.iadd, 1, 0, 0, 0), (.istore_n 3, 1, 3, 0, 0), (.aload_n 0, 1, 0, 0, 0), (.getfield 30, 3, 7, 2, 0), ex_no, ex_no, (.getfield 56, 3, 4, 0, 0), ex_no, ex_no, (.iload_n 2, 1, 2, 0, 0), (.iload 5, 2, 5, 0, 0), ex_no, (.invokevirtual 114, 3, 17, 3, 0), ex_no, ex_no, (.istore_n 2, 1, 2, 0, 0), (.iinc 4 1, 3, 4, 0, 1), ex_no, ex_no, (.goto (-67), 3, 44, 0, 0), ex_no, ex_no, (.iload_n 1, 1, 1, 0, 0), (.ifCond .ne 7, 3, 122, 0, 0), ex_no, ex_no, (.iload_n 2, 1, 2, 0, 0), (.goto 4, 3, 123, 0, 0), ex_no, ex_no, (.iload_n 3, 1, 3, 0, 0), (.ireturn, 1, 0, 0, 0)]
/-- LoopStrands.of -/
def ex_k67 : List ex_MO := [(.aload_n 0, 1, 0, 0, 0), (.iload_n 1, 1, 1, 0, 0), (.invokevirtual 117, 3, 87, 2, 0), ex_no, ex_no, (.ifCond .ne 5, 3, 10, 0, 0), ex_no, ex_no, (.iconst (-1), 1, 0, 0, -1), (.ireturn, 1, 0, 0, 0), (.iload_n 2, 1, 2, 0, 0), (.tableswitch 77 0 3 #[29, 41, 53, 65], 29, 88, 0, 0), ex_no, ex_no, ex_no, ex_no, ex_no, ex_no, ex_no, ex_no, ex_no, ex_no, ex_no, ex_no, ex_no, ex_no, ex_no, ex_no, ex_no, ex_no, ex_no, ex_no, ex_no, ex_no, ex_no, ex_no, ex_no, ex_no, ex_no, ex_no, (.aload_n 0, 1, 0, 0, 0), (.getfield 30, 3, 7, 2, 0), ex_no, ex_no, (.getfield 56, 3, 4, 0, 0), ex_no, ex_no, (.iload_n 1, 1, 1, 0, 0), (.invokevirtual 121, 3, 14, 2, 0), ex_no, ex_no, (.ireturn, 1, 0, 0, 0), (.aload_n 0, 1, 0, 0, 0), (.getfield 30, 3, 7, 2, 0), ex_no, ex_no, (.getfield 56, 3, 4, 0, 0), ex_no, ex_no, (.iload_n 1, 1, 1, 0, 0), (.invokevirtual 124, 3, 15, 2, 0), ex_no, ex_no, (.ireturn, 1, 0, 0, 0), (.aload_n 0, 1, 0, 0, 0), (.getfield 30, 3, 7, 2, 0), ex_no, ex_no, (.getfield 56, 3, 4, 0, 0), ex_no, ex_no, (.iload_n 1, 1, 1, 0, 0), (.invokevirtual 127, 3, 16, 2, 0), ex_no, ex_no, (.ireturn, 1, 0, 0, 0), (.aload_n 0, 1, 0, 0, 0), (.getfield 30, 3, 7, 2, 0), ex_no, ex_no, (.getfield 56, 3, 4, 0, 0), ex_no, ex_no, (.iload_n 1, 1, 1, 0, 0), (.invokevirtual 130, 3, 12, 2, 0), ex_no, ex_no, (.ireturn, 1, 0, 0, 0), (.bipush (-2), 2, 0, 0, -2), ex_no, (.ireturn, 1, 0, 0, 0)]
/-- LoopStrands.joined -/
def ex_k68 : List ex_MO := [(.aload_n 0, 1, 0, 0, 0), (.iload_n 1, 1, 1, 0, 0), (.invokevirtual 117, 3, 87, 2, 0), ex_no, ex_no, (.ifCond .eq 23, 3, 28, 0, 0), ex_no, ex_no, (.iload_n 2, 1, 2, 0, 0), (.iconst 0, 1, 0, 0, 0), (.aload_n 0, 1, 0, 0, 0), (.getfield 30, 3, 7, 2, 0), ex_no, ex_no, (.getfield 56, 3, 4, 0, 0), ex_no, ex_no, (.getfield 133, 3, 1, 1, 0), ex_no, ex_no, (.iconst 1, 1, 0, 0, 1), (.isub, 1, 0, 0, 0), (.invokestatic 52, 3, 85, 3, 0), ex_no, ex_no, (.ifCond .ne 5, 3, 30, 0, 0), ex_no, ex_no, (.iconst (-1), 1, 0, 0, -1), (.ireturn, 1, 0, 0, 0), (.aload_n 0, 1, 0, 0, 0), (.getfield 30, 3, 7, 2, 0), ex_no, ex_no, (.getfield 56, 3, 4, 0, 0), ex_no, ex_no, (.getfield 63, 3, 1, 2, 0), ex_no, ex_no, (.getfield 136, 3, 6, 1, 0), ex_no, ex_no, (.iload_n 1, 1, 1, 0, 0), (.aaload, 1, 0, 0, 0), (.iload_n 2, 1, 2, 0, 0), (.iaload, 1, 0, 0, 0), (.ireturn, 1, 0, 0, 0)]
/-- LoopStrands.stack -/
def ex_k69 : List ex_MO := [(.aload_n 0, 1, 0, 0, 0), (.iload_n 1, 1, 1, 0, 0), (.invokevirtual 117, 3, 87, 2, 0), ex_no, ex_no, (.ifCond .eq 11, 3, 16, 0, 0), ex_no, ex_no, (.aload_n 0, 1, 0, 0, 0), (.iload_n 2, 1, 2, 0, 0), (.invokevirtual 117, 3, 87, 2, 0), ex_no, ex_no, (.ifCond .ne 5, 3, 18, 0, 0), ex_no, ex_no, (.iconst (-1), 1, 0, 0, -1), (.ireturn, 1, 0, 0, 0), (.iload_n 3, 1, 3, 0, 0), (.iconst 0, 1, 0, 0, 0), (.iconst 1, 1, 0, 0, 1), (.invokestatic 52, 3, 85, 3, 0), ex_no, ex_no, (.ifCond .ne 6, 3, 30, 0, 0), ex_no, ex_no, (.bipush (-2), 2, 0, 0, -2), ex_no, (.ireturn, 1, 0, 0, 0), (.iload_n 3, 1, 3, 0, 0), (.ifCond .ne 18, 3, 49, 0, 0), ex_no, ex_no, (.aload_n 0, 1, 0, 0, 0), (.getfield 30, 3, 7, 2, 0), ex_no, ex_no, (.getfield 56, 3, 4, 0, 0), ex_no, ex_no, (.iload_n 1, 1, 1, 0, 0), (.iload_n 2, 1, 2, 0, 0), (.invokevirtual 114, 3, 17, 3, 0), ex_no, ex_no, (.goto 15, 3, 61, 0, 0), ex_no, ex_no, (.aload_n 0, 1, 0, 0, 0), (.getfield 30, 3, 7, 2, 0), ex_no, ex_no, (.getfield 56, 3, 4, 0, 0), ex_no, ex_no, (.iload_n 1, 1, 1, 0, 0), (.iload_n 2, 1, 2, 0, 0), (.invokevirtual 110, 3, 18, 3, 0), ex_no, ex_no, (.ireturn, 1, 0, 0, 0)]
/-- LoopStrands.way -/
def ex_k70 : List ex_MO := [(.aload_n 0, 1, 0, 0, 0), (.iload_n 1, 1, 1, 0, 0), (.invokevirtual 117, 3, 87, 2, 0), ex_no, ex_no, (.ifCond .ne 5, 3, 10, 0, 0), ex_no, ex_no, (.iconst (-1), 1, 0, 0, -1), (.ireturn, 1, 0, 0, 0), (.aload_n 0, 1, 0, 0, 0), (.getfield 30, 3, 7, 2, 0), ex_no, ex_no, (.getfield 56, 3, 4, 0, 0), ex_no, ex_no, (.iload_n 1, 1, 1, 0, 0), (.iload_n 2, 1, 2, 0, 0), (.invokevirtual 140, 3, 13, 3, 0), ex_no, ex_no, (.ireturn, 1, 0, 0, 0)]
/-- LoopStrands.prime -/
def ex_k71 : List ex_MO := [(.iload_n 1, 1, 1, 0, 0), (.invokestatic 143, 3, 86, 1, 0), ex_no, ex_no, (.ifCond .eq 14, 3, 18, 0, 0), ex_no, ex_no, (.iload_n 2, 1, 2, 0, 0), (.iconst 0, 1, 0, 0, 0), (.iload_n 1, 1, 1, 0, 0), (.iconst 1, 1, 0, 0, 1), (.isub, 1, 0, 0, 0), (.invokestatic 52, 3, 85, 3, 0), ex_no, ex_no, (.ifCond .ne 6, 3, 21, 0, 0), ex_no, ex_no, (.bipush (-2), 2, 0, 0, -2), ex_no, (.ireturn, 1, 0, 0, 0), (.aload_n 0, 1, 0, 0, 0), (.getfield 30, 3, 7, 2, 0), ex_no, ex_no, (.getfield 146, 3, 4, 1, 0), ex_no, ex_no, (.getfield 150, 3, 2, 0, 0), ex_no, ex_no, (.istore_n 3, 1, 3, 0, 0), (.aload_n 0, 1, 0, 0, 0), (.getfield 30, 3, 7, 2, 0), ex_no, ex_no, (.getfield 146, 3, 4, 1, 0), ex_no, ex_no, (.iload_n 1, 1, 1, 0, 0), (.iload_n 2, 1, 2, 0, 0), (.invokevirtual 155, 3, 27, 3, 0), ex_no, ex_no, (.aload_n 0, 1, 0, 0, 0), (.getfield 30, 3, 7, 2, 0), ex_no, ex_no, (.invokevirtual 60, 3, 46, 1, 0), ex_no, ex_no, (.iload_n 3, 1, 3, 0, 0), (.ireturn, 1, 0, 0, 0)]
/-- LoopStrands.put -/
def ex_k72 : List ex_MO := [(.aload_n 0, 1, 0, 0, 0), (.iload_n 1, 1, 1, 0, 0), (.invokevirtual 159, 3, 88, 2, 0), ex_no, ex_no, (.ifCond .eq 11, 3, 16, 0, 0), ex_no, ex_no, (.aload_n 0, 1, 0, 0, 0), (.iload_n 2, 1, 2, 0, 0), (.invokevirtual 117, 3, 87, 2, 0), ex_no, ex_no, (.ifCond .ne 5, 3, 18, 0, 0), ex_no, ex_no, (.iconst (-1), 1, 0, 0, -1), (.ireturn, 1, 0, 0, 0), (.aload_n 0, 1, 0, 0, 0), (.iload_n 3, 1, 3, 0, 0), (.invokevirtual 162, 3, 89, 2, 0), ex_no, ex_no, (.ifCond .ne 6, 3, 29, 0, 0), ex_no, ex_no, (.bipush (-2), 2, 0, 0, -2), ex_no, (.ireturn, 1, 0, 0, 0), (.aload_n 0, 1, 0, 0, 0), (.getfield 30, 3, 7, 2, 0), ex_no, ex_no, (.getfield 165, 3, 4, 2, 0), ex_no, ex_no, (.iload_n 1, 1, 1, 0, 0), (.aaload, 1, 0, 0, 0), (.iload_n 2, 1, 2, 0, 0), (.iaload, 1, 0, 0, 0), (.istore 4, 2, 4, 0, 0), ex_no, (.aload_n 0, 1, 0, 0, 0), (.getfield 30, 3, 7, 2, 0), ex_no, ex_no, (.getfield 165, 3, 4, 2, 0), ex_no, ex_no, (.iload_n 1, 1, 1, 0, 0), (.aaload, 1, 0, 0, 0), (.iload_n 2, 1, 2, 0, 0), (.iload_n 3, 1, 3, 0, 0), (.iastore, 1, 0, 0, 0), (.iload 4, 2, 4, 0, 0), ex_no, (.ireturn, 1, 0, 0, 0)]
/-- LoopStrands.at -/
def ex_k73 : List ex_MO := [(.aload_n 0, 1, 0, 0, 0), (.iload_n 1, 1, 1, 0, 0), (.invokevirtual 159, 3, 88, 2, 0), ex_no, ex_no, (.ifCond .eq 11, 3, 16, 0, 0), ex_no, ex_no, (.aload_n 0, 1, 0, 0, 0), (.iload_n 2, 1, 2, 0, 0), (.invokevirtual 117, 3, 87, 2, 0), ex_no, ex_no, (.ifCond .ne 5, 3, 18, 0, 0), ex_no, ex_no, (.iconst (-1), 1, 0, 0, -1), (.ireturn, 1, 0, 0, 0), (.aload_n 0, 1, 0, 0, 0), (.getfield 30, 3, 7, 2, 0), ex_no, ex_no, (.getfield 165, 3, 4, 2, 0), ex_no, ex_no, (.iload_n 1, 1, 1, 0, 0), (.aaload, 1, 0, 0, 0), (.iload_n 2, 1, 2, 0, 0), (.iaload, 1, 0, 0, 0), (.ireturn, 1, 0, 0, 0)]
/-- LoopStrands.both -/
def ex_k74 : List ex_MO := [(.aload_n 0, 1, 0, 0, 0), (.iload_n 1, 1, 1, 0, 0), (.invokevirtual 159, 3, 88, 2, 0), ex_no, ex_no, (.ifCond .eq 19, 3, 24, 0, 0), ex_no, ex_no, (.aload_n 0, 1, 0, 0, 0), (.iload_n 2, 1, 2, 0, 0), (.invokevirtual 159, 3, 88, 2, 0), ex_no, ex_no, (.ifCond .eq 11, 3, 24, 0, 0), ex_no, ex_no, (.aload_n 0, 1, 0, 0, 0), (.iload_n 3, 1, 3, 0, 0), (.invokevirtual 159, 3, 88, 2, 0), ex_no, ex_no, (.ifCond .ne 5, 3, 26, 0, 0), ex_no, ex_no, (.iconst (-1), 1, 0, 0, -1), (.ireturn, 1, 0, 0, 0), (.iload 4, 2, 4, 0, 0), ex_no, (.tableswitch 169 0 2 #[28, 75, 122], 28, 197, 0, 0), ex_no, ex_no, ex_no, ex_no, ex_no, ex_no, ex_no, ex_no, ex_no, ex_no, ex_no, ex_no, ex_no, ex_no, ex_no, ex_no, ex_no, ex_no, ex_no, ex_no, ex_no, ex_no, ex_no, ex_no, ex_no, ex_no, ex_no, (.aload_n 0, 1, 0, 0, 0), (.getfield 41, 3, 7, 4, 0), ex_no, ex_no, (.aload_n 0, 1, 0, 0, 0), (.getfield 30, 3, 7, 2, 0), ex_no, ex_no, (.aload_n 0, 1, 0, 0, 0), (.getfield 30, 3, 7, 2, 0), ex_no, ex_no, (.getfield 165, 3, 4, 2, 0), ex_no, ex_no, (.iload_n 1, 1, 1, 0, 0), (.aaload, 1, 0, 0, 0), (.aload_n 0, 1, 0, 0, 0), (.getfield 30, 3, 7, 2, 0), ex_no, ex_no, (.getfield 165, 3, 4, 2, 0), ex_no, ex_no, (.iload_n 2, 1, 2, 0, 0), (.aaload, 1, 0, 0, 0), (.aload_n 0, 1, 0, 0, 0), (.getfield 30, 3, 7, 2, 0), ex_no, ex_no, (.getfield 165, 3, 4, 2, 0), ex_no, ex_no, (.iload_n 3, 1, 3, 0, 0), (.aaload, 1, 0, 0, 0), (.invokevirtual 168, 3, 1, 5, 0), ex_no, ex_no, (.aload_n 0, 1, 0, 0, 0), (.getfield 30, 3, 7, 2, 0), ex_no, ex_no, (.iload_n 1, 1, 1, 0, 0), (.invokevirtual 171, 3, 47, 2, 0), ex_no, ex_no, (.ireturn, 1, 0, 0, 0), (.aload_n 0, 1, 0, 0, 0), (.getfield 41, 3, 7, 4, 0), ex_no, ex_no, (.aload_n 0, 1, 0, 0, 0), (.getfield 30, 3, 7, 2, 0), ex_no, ex_no, (.aload_n 0, 1, 0, 0, 0), (.getfield 30, 3, 7, 2, 0), ex_no, ex_no, (.getfield 165, 3, 4, 2, 0), ex_no, ex_no, (.iload_n 1, 1, 1, 0, 0), (.aaload, 1, 0, 0, 0), (.aload_n 0, 1, 0, 0, 0), (.getfield 30, 3, 7, 2, 0), ex_no, ex_no, (.getfield 165, 3, 4, 2, 0), ex_no, ex_no, (.iload_n 2, 1, 2, 0, 0), (.aaload, 1, 0, 0, 0), (.aload_n 0, 1, 0, 0, 0), (.getfield 30, 3, 7, 2, 0), ex_no, ex_no, (.getfield 165, 3, 4, 2, 0), ex_no, ex_no, (.iload_n 3, 1, 3, 0, 0), (.aaload, 1, 0, 0, 0), (.invokevirtual 174, 3, 2, 5, 0), ex_no, ex_no, (.aload_n 0, 1, 0, 0, 0), (.getfield 30, 3, 7, 2, 0), ex_no, ex_no, (.iload_n 1, 1, 1, 0, 0), (.invokevirtual 171, 3, 47, 2, 0), ex_no, ex_no, (.ireturn, 1, 0, 0, 0), (.aload_n 0, 1, 0, 0, 0), (.getfield 41, 3, 7, 4, 0), ex_no, ex_no, (.aload_n 0, 1, 0, 0, 0), (.getfield 30, 3, 7, 2, 0), ex_no, ex_no, (.aload_n 0, 1, 0, 0, 0), (.getfield 30, 3, 7, 2, 0), ex_no, ex_no, (.getfield 165, 3, 4, 2, 0), ex_no, ex_no, (.iload_n 1, 1, 1, 0, 0), (.aaload, 1, 0, 0, 0), (.aload_n 0, 1, 0, 0, 0), (.getfield 30, 3, 7, 2, 0), ex_no, ex_no, (.getfield 165, 3, 4, 2, 0), ex_no, ex_no, (.iload_n 2, 1, 2, 0, 0), (.aaload, 1, 0, 0, 0), (.aload_n 0, 1, 0, 0, 0), (.getfield 30, 3, 7, 2, 0), ex_no, ex_no, (.getfield 165, 3, 4, 2, 0), ex_no, ex_no, (.iload_n 3, 1, 3, 0, 0), (.aaload, 1, 0, 0, 0), (.invokevirtual 177, 3, 5, 5, 0), ex_no, ex_no, (.aload_n 0, 1, 0, 0, 0), (.getfield 30, 3, 7, 2, 0), ex_no, ex_no, (.iload_n 1, 1, 1, 0, 0), (.invokevirtual 171, 3, 47, 2, 0), ex_no, ex_no, (.ireturn, 1, 0, 0, 0), (.bipush (-2), 2, 0, 0, -2), ex_no, (.ireturn, 1, 0, 0, 0)]
/-- LoopStrands.times -/
def ex_k75 : List ex_MO := [(.aload_n 0, 1, 0, 0, 0), (.iload_n 1, 1, 1, 0, 0), (.invokevirtual 159, 3, 88, 2, 0), ex_no, ex_no, (.ifCond .eq 11, 3, 16, 0, 0), ex_no, ex_no, (.aload_n 0, 1, 0, 0, 0), (.iload_n 2, 1, 2, 0, 0), (.invokevirtual 159, 3, 88, 2, 0), ex_no, ex_no, (.ifCond .ne 5, 3, 18, 0, 0), ex_no, ex_no, (.iconst (-1), 1, 0, 0, -1), (.ireturn, 1, 0, 0, 0), (.aload_n 0, 1, 0, 0, 0), (.iload_n 3, 1, 3, 0, 0), (.invokevirtual 162, 3, 89, 2, 0), ex_no, ex_no, (.ifCond .ne 6, 3, 29, 0, 0), ex_no, ex_no, (.bipush (-2), 2, 0, 0, -2), ex_no, (.ireturn, 1, 0, 0, 0), (.aload_n 0, 1, 0, 0, 0), (.getfield 41, 3, 7, 4, 0), ex_no, ex_no, (.aload_n 0, 1, 0, 0, 0), (.getfield 30, 3, 7, 2, 0), ex_no, ex_no, (.aload_n 0, 1, 0, 0, 0), (.getfield 30, 3, 7, 2, 0), ex_no, ex_no, (.getfield 165, 3, 4, 2, 0), ex_no, ex_no, (.iload_n 1, 1, 1, 0, 0), (.aaload, 1, 0, 0, 0), (.aload_n 0, 1, 0, 0, 0), (.getfield 30, 3, 7, 2, 0), ex_no, ex_no, (.getfield 165, 3, 4, 2, 0), ex_no, ex_no, (.iload_n 2, 1, 2, 0, 0), (.aaload, 1, 0, 0, 0), (.iload_n 3, 1, 3, 0, 0), (.invokevirtual 180, 3, 3, 5, 0), ex_no, ex_no, (.aload_n 0, 1, 0, 0, 0), (.getfield 30, 3, 7, 2, 0), ex_no, ex_no, (.iload_n 1, 1, 1, 0, 0), (.invokevirtual 171, 3, 47, 2, 0), ex_no, ex_no, (.ireturn, 1, 0, 0, 0)]
/-- LoopStrands.turn -/
def ex_k76 : List ex_MO := [(.aload_n 0, 1, 0, 0, 0), (.iload_n 1, 1, 1, 0, 0), (.invokevirtual 159, 3, 88, 2, 0), ex_no, ex_no, (.ifCond .eq 11, 3, 16, 0, 0), ex_no, ex_no, (.aload_n 0, 1, 0, 0, 0), (.iload_n 2, 1, 2, 0, 0), (.invokevirtual 159, 3, 88, 2, 0), ex_no, ex_no, (.ifCond .ne 5, 3, 18, 0, 0), ex_no, ex_no, (.iconst (-1), 1, 0, 0, -1), (.ireturn, 1, 0, 0, 0), (.aload_n 0, 1, 0, 0, 0), (.getfield 41, 3, 7, 4, 0), ex_no, ex_no, (.aload_n 0, 1, 0, 0, 0), (.getfield 30, 3, 7, 2, 0), ex_no, ex_no, (.aload_n 0, 1, 0, 0, 0), (.getfield 30, 3, 7, 2, 0), ex_no, ex_no, (.getfield 165, 3, 4, 2, 0), ex_no, ex_no, (.iload_n 1, 1, 1, 0, 0), (.aaload, 1, 0, 0, 0), (.aload_n 0, 1, 0, 0, 0), (.getfield 30, 3, 7, 2, 0), ex_no, ex_no, (.getfield 165, 3, 4, 2, 0), ex_no, ex_no, (.iload_n 2, 1, 2, 0, 0), (.aaload, 1, 0, 0, 0), (.invokevirtual 184, 3, 4, 4, 0), ex_no, ex_no, (.aload_n 0, 1, 0, 0, 0), (.getfield 30, 3, 7, 2, 0), ex_no, ex_no, (.iload_n 1, 1, 1, 0, 0), (.invokevirtual 171, 3, 47, 2, 0), ex_no, ex_no, (.ireturn, 1, 0, 0, 0)]
/-- LoopStrands.trace -/
def ex_k77 : List ex_MO := [(.aload_n 0, 1, 0, 0, 0), (.iload_n 1, 1, 1, 0, 0), (.invokevirtual 159, 3, 88, 2, 0), ex_no, ex_no, (.ifCond .ne 5, 3, 10, 0, 0), ex_no, ex_no, (.iconst (-1), 1, 0, 0, -1), (.ireturn, 1, 0, 0, 0), (.aload_n 0, 1, 0, 0, 0), (.getfield 41, 3, 7, 4, 0), ex_no, ex_no, (.aload_n 0, 1, 0, 0, 0), (.getfield 30, 3, 7, 2, 0), ex_no, ex_no, (.aload_n 0, 1, 0, 0, 0), (.getfield 30, 3, 7, 2, 0), ex_no, ex_no, (.getfield 165, 3, 4, 2, 0), ex_no, ex_no, (.iload_n 1, 1, 1, 0, 0), (.aaload, 1, 0, 0, 0), (.invokevirtual 188, 3, 6, 3, 0), ex_no, ex_no, (.ireturn, 1, 0, 0, 0)]
/-- LoopStrands.bracket -/
def ex_k78 : List ex_MO := [(.iload_n 1, 1, 1, 0, 0), (.iconst 0, 1, 0, 0, 0), (.bipush 99, 2, 0, 0, 99), ex_no, (.invokestatic 52, 3, 85, 3, 0), ex_no, ex_no, (.ifCond .ne 6, 3, 13, 0, 0), ex_no, ex_no, (.bipush (-2), 2, 0, 0, -2), ex_no, (.ireturn, 1, 0, 0, 0), (.aload_n 0, 1, 0, 0, 0), (.getfield 30, 3, 7, 2, 0), ex_no, ex_no, (.getfield 146, 3, 4, 1, 0), ex_no, ex_no, (.iload_n 1, 1, 1, 0, 0), (.invokevirtual 192, 3, 34, 2, 0), ex_no, ex_no, (.ireturn, 1, 0, 0, 0)]
/-- LoopStrands.project -/
def ex_k79 : List ex_MO := [(.aload_n 0, 1, 0, 0, 0), (.iload_n 1, 1, 1, 0, 0), (.invokevirtual 159, 3, 88, 2, 0), ex_no, ex_no, (.ifCond .ne 5, 3, 10, 0, 0), ex_no, ex_no, (.iconst (-1), 1, 0, 0, -1), (.ireturn, 1, 0, 0, 0), (.iload_n 2, 1, 2, 0, 0), (.iconst 1, 1, 0, 0, 1), (.aload_n 0, 1, 0, 0, 0), (.getfield 30, 3, 7, 2, 0), ex_no, ex_no, (.getfield 56, 3, 4, 0, 0), ex_no, ex_no, (.getfield 86, 3, 1, 0, 0), ex_no, ex_no, (.invokestatic 52, 3, 85, 3, 0), ex_no, ex_no, (.ifCond .ne 6, 3, 31, 0, 0), ex_no, ex_no, (.bipush (-2), 2, 0, 0, -2), ex_no, (.ireturn, 1, 0, 0, 0), (.aload_n 0, 1, 0, 0, 0), (.getfield 30, 3, 7, 2, 0), ex_no, ex_no, (.getfield 146, 3, 4, 1, 0), ex_no, ex_no, (.iload_n 2, 1, 2, 0, 0), (.invokevirtual 195, 3, 35, 2, 0), ex_no, ex_no, (.ifCond .ne 6, 3, 48, 0, 0), ex_no, ex_no, (.bipush (-3), 2, 0, 0, -3), ex_no, (.ireturn, 1, 0, 0, 0), (.aload_n 0, 1, 0, 0, 0), (.getfield 41, 3, 7, 4, 0), ex_no, ex_no, (.aload_n 0, 1, 0, 0, 0), (.getfield 30, 3, 7, 2, 0), ex_no, ex_no, (.aload_n 0, 1, 0, 0, 0), (.getfield 30, 3, 7, 2, 0), ex_no, ex_no, (.getfield 165, 3, 4, 2, 0), ex_no, ex_no, (.iload_n 1, 1, 1, 0, 0), (.aaload, 1, 0, 0, 0), (.iload_n 2, 1, 2, 0, 0), (.invokevirtual 198, 3, 7, 4, 0), ex_no, ex_no, (.aload_n 0, 1, 0, 0, 0), (.getfield 30, 3, 7, 2, 0), ex_no, ex_no, (.iload_n 1, 1, 1, 0, 0), (.invokevirtual 171, 3, 47, 2, 0), ex_no, ex_no, (.ireturn, 1, 0, 0, 0)]
/-- LoopStrands.cell -/
def ex_k80 : List ex_MO := [(.aload_n 0, 1, 0, 0, 0), (.iload_n 1, 1, 1, 0, 0), (.invokevirtual 202, 3, 90, 2, 0), ex_no, ex_no, (.ifCond .eq 12, 3, 17, 0, 0), ex_no, ex_no, (.iload_n 2, 1, 2, 0, 0), (.iconst 0, 1, 0, 0, 0), (.iconst 2, 1, 0, 0, 2), (.invokestatic 52, 3, 85, 3, 0), ex_no, ex_no, (.ifCond .ne 6, 3, 20, 0, 0), ex_no, ex_no, (.bipush (-2), 2, 0, 0, -2), ex_no, (.ireturn, 1, 0, 0, 0), (.aload_n 0, 1, 0, 0, 0), (.getfield 30, 3, 7, 2, 0), ex_no, ex_no, (.getfield 56, 3, 4, 0, 0), ex_no, ex_no, (.getfield 205, 3, 1, 3, 0), ex_no, ex_no, (.iload_n 1, 1, 1, 0, 0), (.aaload, 1, 0, 0, 0), (.astore_n 3, 1, 3, 0, 0), (.iload_n 2, 1, 2, 0, 0), (.ifCond .ne 8, 3, 42, 0, 0), ex_no, ex_no, (.aload_n 3, 1, 3, 0, 0), (.getfield 67, 3, 6, 0, 0), ex_no, ex_no, (.ireturn, 1, 0, 0, 0), (.aload_n 0, 1, 0, 0, 0), (.getfield 48, 3, 7, 5, 0), ex_no, ex_no, (.aload_n 0, 1, 0, 0, 0), (.getfield 30, 3, 7, 2, 0), ex_no, ex_no, (.getfield 146, 3, 4, 1, 0), ex_no, ex_no, (.aload_n 3, 1, 3, 0, 0), (.invokevirtual 209, 3, 49, 3, 0), ex_no, ex_no, (.aload_n 0, 1, 0, 0, 0), (.getfield 48, 3, 7, 5, 0), ex_no, ex_no, (.aload_n 0, 1, 0, 0, 0), (.getfield 30, 3, 7, 2, 0), ex_no, ex_no, (.getfield 146, 3, 4, 1, 0), ex_no, ex_no, (.invokevirtual 213, 3, 50, 2, 0), ex_no, ex_no, (.iload_n 2, 1, 2, 0, 0), (.iconst 1, 1, 0, 0, 1), (.if_icmp .ne 13, 3, 86, 0, 0), ex_no, ex_no, (.aload_n 0, 1, 0, 0, 0), (.getfield 48, 3, 7, 5, 0), ex_no, ex_no, (.getfield 217, 3, 5, 0, 0), ex_no, ex_no, (.goto 10, 3, 93, 0, 0), ex_no, ex_no, (.aload_n 0, 1, 0, 0, 0), (.getfield 48, 3, 7, 5, 0), ex_no, ex_no, (.getfield 220, 3, 5, 1, 0), ex_no, ex_no, (.ireturn, 1, 0, 0, 0)]
/-- LoopStrands.form -/
def ex_k81 : List ex_MO := [(.aload_n 0, 1, 0, 0, 0), (.iload_n 1, 1, 1, 0, 0), (.invokevirtual 202, 3, 90, 2, 0), ex_no, ex_no, (.ifCond .ne 6, 3, 11, 0, 0), ex_no, ex_no, (.bipush (-2), 2, 0, 0, -2), ex_no, (.ireturn, 1, 0, 0, 0), (.aload_n 0, 1, 0, 0, 0), (.getfield 30, 3, 7, 2, 0), ex_no, ex_no, (.getfield 56, 3, 4, 0, 0), ex_no, ex_no, (.getfield 205, 3, 1, 3, 0), ex_no, ex_no, (.iload_n 1, 1, 1, 0, 0), (.aaload, 1, 0, 0, 0), (.astore 4, 2, 4, 0, 0), ex_no, (.iload_n 2, 1, 2, 0, 0), (.iconst 0, 1, 0, 0, 0), (.aload 4, 2, 4, 0, 0), ex_no, (.getfield 67, 3, 6, 0, 0), ex_no, ex_no, (.iconst 1, 1, 0, 0, 1), (.isub, 1, 0, 0, 0), (.invokestatic 52, 3, 85, 3, 0), ex_no, ex_no, (.ifCond .eq 18, 3, 55, 0, 0), ex_no, ex_no, (.iload_n 3, 1, 3, 0, 0), (.iconst 0, 1, 0, 0, 0), (.aload 4, 2, 4, 0, 0), ex_no, (.getfield 67, 3, 6, 0, 0), ex_no, ex_no, (.iconst 1, 1, 0, 0, 1), (.isub, 1, 0, 0, 0), (.invokestatic 52, 3, 85, 3, 0), ex_no, ex_no, (.ifCond .ne 6, 3, 58, 0, 0), ex_no, ex_no, (.bipush (-2), 2, 0, 0, -2), ex_no, (.ireturn, 1, 0, 0, 0), (.aload_n 0, 1, 0, 0, 0), (.getfield 30, 3, 7, 2, 0), ex_no, ex_no, (.getfield 146, 3, 4, 1, 0), ex_no, ex_no, (.aload 4, 2, 4, 0, 0), ex_no, (.getfield 136, 3, 6, 1, 0), ex_no, ex_no, (.iload_n 2, 1, 2, 0, 0), (.aaload, 1, 0, 0, 0), (.aload 4, 2, 4, 0, 0), ex_no, (.getfield 136, 3, 6, 1, 0), ex_no, ex_no, (.iload_n 3, 1, 3, 0, 0), (.aaload, 1, 0, 0, 0), (.invokestatic 223, 3, 25, 3, 0), ex_no, ex_no, (.ireturn, 1, 0, 0, 0)]
/-- LoopStrands.image -/
def ex_k82 : List ex_MO := [(.iload_n 1, 1, 1, 0, 0), (.iconst 0, 1, 0, 0, 0), (.iconst 1, 1, 0, 0, 1), (.invokestatic 52, 3, 85, 3, 0), ex_no, ex_no, (.ifCond .ne 6, 3, 12, 0, 0), ex_no, ex_no, (.bipush (-2), 2, 0, 0, -2), ex_no, (.ireturn, 1, 0, 0, 0), (.aload_n 0, 1, 0, 0, 0), (.getfield 34, 3, 7, 3, 0), ex_no, ex_no, (.iload_n 1, 1, 1, 0, 0), (.aaload, 1, 0, 0, 0), (.ifnonnull 23, 3, 41, 0, 0), ex_no, ex_no, (.aload_n 0, 1, 0, 0, 0), (.getfield 34, 3, 7, 3, 0), ex_no, ex_no, (.iload_n 1, 1, 1, 0, 0), (.new 25, 3, 4, 0, 0), ex_no, ex_no, (.dup, 1, 0, 0, 0), (.aload_n 0, 1, 0, 0, 0), (.getfield 30, 3, 7, 2, 0), ex_no, ex_no, (.getfield 56, 3, 4, 0, 0), ex_no, ex_no, (.invokespecial 27, 3, 44, 2, 0), ex_no, ex_no, (.aastore, 1, 0, 0, 0), (.aload_n 0, 1, 0, 0, 0), (.getfield 34, 3, 7, 3, 0), ex_no, ex_no, (.iload_n 1, 1, 1, 0, 0), (.aaload, 1, 0, 0, 0), (.aload_n 0, 1, 0, 0, 0), (.getfield 30, 3, 7, 2, 0), ex_no, ex_no, (.invokevirtual 229, 3, 45, 2, 0), ex_no, ex_no, (.iconst 1, 1, 0, 0, 1), (.ireturn, 1, 0, 0, 0)]
/-- LoopStrands.restore -/
def ex_k83 : List ex_MO := [(.iload_n 1, 1, 1, 0, 0), (.iconst 0, 1, 0, 0, 0), (.iconst 1, 1, 0, 0, 1), (.invokestatic 52, 3, 85, 3, 0), ex_no, ex_no, (.ifCond .ne 6, 3, 12, 0, 0), ex_no, ex_no, (.bipush (-2), 2, 0, 0, -2), ex_no, (.ireturn, 1, 0, 0, 0), (.aload_n 0, 1, 0, 0, 0), (.getfield 34, 3, 7, 3, 0), ex_no, ex_no, (.iload_n 1, 1, 1, 0, 0), (.aaload, 1, 0, 0, 0), (.ifnonnull 6, 3, 24, 0, 0), ex_no, ex_no, (.bipush (-3), 2, 0, 0, -3), ex_no, (.ireturn, 1, 0, 0, 0), (.aload_n 0, 1, 0, 0, 0), (.getfield 30, 3, 7, 2, 0), ex_no, ex_no, (.aload_n 0, 1, 0, 0, 0), (.getfield 34, 3, 7, 3, 0), ex_no, ex_no, (.iload_n 1, 1, 1, 0, 0), (.aaload, 1, 0, 0, 0), (.invokevirtual 229, 3, 45, 2, 0), ex_no, ex_no, (.iconst 1, 1, 0, 0, 1), (.ireturn, 1, 0, 0, 0)]
/-- LoopStrands.count -/
def ex_k84 : List ex_MO := [(.iload_n 1, 1, 1, 0, 0), (.tableswitch 124 0 5 #[39, 50, 64, 75, 86, 94], 39, 125, 0, 0), ex_no, ex_no, ex_no, ex_no, ex_no, ex_no, ex_no, ex_no, ex_no, ex_no, ex_no, ex_no, ex_no, ex_no, ex_no, ex_no, ex_no, ex_no, ex_no, ex_no, ex_no, ex_no, ex_no, ex_no, ex_no, ex_no, ex_no, ex_no, ex_no, ex_no, ex_no, ex_no, ex_no, ex_no, ex_no, ex_no, ex_no, ex_no, (.aload_n 0, 1, 0, 0, 0), (.getfield 30, 3, 7, 2, 0), ex_no, ex_no, (.getfield 56, 3, 4, 0, 0), ex_no, ex_no, (.getfield 86, 3, 1, 0, 0), ex_no, ex_no, (.ireturn, 1, 0, 0, 0), (.aload_n 0, 1, 0, 0, 0), (.getfield 30, 3, 7, 2, 0), ex_no, ex_no, (.getfield 56, 3, 4, 0, 0), ex_no, ex_no, (.getfield 63, 3, 1, 2, 0), ex_no, ex_no, (.getfield 67, 3, 6, 0, 0), ex_no, ex_no, (.ireturn, 1, 0, 0, 0), (.aload_n 0, 1, 0, 0, 0), (.getfield 30, 3, 7, 2, 0), ex_no, ex_no, (.getfield 146, 3, 4, 1, 0), ex_no, ex_no, (.getfield 150, 3, 2, 0, 0), ex_no, ex_no, (.ireturn, 1, 0, 0, 0), (.aload_n 0, 1, 0, 0, 0), (.getfield 30, 3, 7, 2, 0), ex_no, ex_no, (.getfield 146, 3, 4, 1, 0), ex_no, ex_no, (.getfield 233, 3, 2, 1, 0), ex_no, ex_no, (.ireturn, 1, 0, 0, 0), (.aload_n 0, 1, 0, 0, 0), (.getfield 10, 3, 7, 0, 0), ex_no, ex_no, (.getfield 80, 3, 3, 1, 0), ex_no, ex_no, (.ireturn, 1, 0, 0, 0), (.aload_n 0, 1, 0, 0, 0), (.getfield 34, 3, 7, 3, 0), ex_no, ex_no, (.iconst 0, 1, 0, 0, 0), (.aaload, 1, 0, 0, 0), (.ifnonnull 7, 3, 108, 0, 0), ex_no, ex_no, (.iconst 0, 1, 0, 0, 0), (.goto 4, 3, 109, 0, 0), ex_no, ex_no, (.iconst 1, 1, 0, 0, 1), (.aload_n 0, 1, 0, 0, 0), (.getfield 34, 3, 7, 3, 0), ex_no, ex_no, (.iconst 1, 1, 0, 0, 1), (.aaload, 1, 0, 0, 0), (.ifnonnull 7, 3, 122, 0, 0), ex_no, ex_no, (.iconst 0, 1, 0, 0, 0), (.goto 4, 3, 123, 0, 0), ex_no, ex_no, (.iconst 2, 1, 0, 0, 2), (.iadd, 1, 0, 0, 0), (.ireturn, 1, 0, 0, 0), (.bipush (-2), 2, 0, 0, -2), ex_no, (.ireturn, 1, 0, 0, 0)]
/-- LoopStrands.isWithin -/
def ex_k85 : List ex_MO := [(.iload_n 0, 1, 0, 0, 0), (.iload_n 1, 1, 1, 0, 0), (.if_icmp .lt 12, 3, 14, 0, 0), ex_no, ex_no, (.iload_n 0, 1, 0, 0, 0), (.iload_n 2, 1, 2, 0, 0), (.if_icmp .gt 7, 3, 14, 0, 0), ex_no, ex_no, (.iconst 1, 1, 0, 0, 1), (.goto 4, 3, 15, 0, 0), ex_no, ex_no, (.iconst 0, 1, 0, 0, 0), (.ireturn, 1, 1, 0, 0)]
/-- LoopStrands.isPrime -/
def ex_k86 : List ex_MO := [(.iload_n 0, 1, 0, 0, 0), (.iconst 2, 1, 0, 0, 2), (.bipush 101, 2, 0, 0, 101), ex_no, (.invokestatic 52, 3, 85, 3, 0), ex_no, ex_no, (.ifCond .ne 5, 3, 12, 0, 0), ex_no, ex_no, (.iconst 0, 1, 0, 0, 0), (.ireturn, 1, 1, 0, 0), (.iconst 2, 1, 0, 0, 2), (.istore_n 1, 1, 1, 0, 0), (.iload_n 1, 1, 1, 0, 0), (.iload_n 1, 1, 1, 0, 0), (.imul, 1, 0, 0, 0), (.iload_n 0, 1, 0, 0, 0), (.if_icmp .gt 17, 3, 35, 0, 0), ex_no, ex_no, (.iload_n 0, 1, 0, 0, 0), (.iload_n 1, 1, 1, 0, 0), (.irem, 1, 0, 0, 0), (.ifCond .ne 5, 3, 29, 0, 0), ex_no, ex_no, (.iconst 0, 1, 0, 0, 0), (.ireturn, 1, 1, 0, 0), (.iinc 1 1, 3, 1, 0, 1), ex_no, ex_no, (.goto (-18), 3, 14, 0, 0), ex_no, ex_no, (.iconst 1, 1, 0, 0, 1), (.ireturn, 1, 1, 0, 0)]
/-- LoopStrands.isDiagram -/
def ex_k87 : List ex_MO := [(.iload_n 1, 1, 1, 0, 0), (.iconst 0, 1, 0, 0, 0), (.aload_n 0, 1, 0, 0, 0), (.getfield 30, 3, 7, 2, 0), ex_no, ex_no, (.getfield 56, 3, 4, 0, 0), ex_no, ex_no, (.getfield 63, 3, 1, 2, 0), ex_no, ex_no, (.getfield 67, 3, 6, 0, 0), ex_no, ex_no, (.iconst 1, 1, 0, 0, 1), (.isub, 1, 0, 0, 0), (.invokestatic 52, 3, 85, 3, 0), ex_no, ex_no, (.ireturn, 1, 1, 0, 0)]
/-- LoopStrands.isSlot -/
def ex_k88 : List ex_MO := [(.iload_n 1, 1, 1, 0, 0), (.iconst 0, 1, 0, 0, 0), (.iconst 4, 1, 0, 0, 4), (.invokestatic 52, 3, 85, 3, 0), ex_no, ex_no, (.ireturn, 1, 1, 0, 0)]
/-- LoopStrands.isNumber -/
def ex_k89 : List ex_MO := [(.iload_n 1, 1, 1, 0, 0), (.iconst 0, 1, 0, 0, 0), (.aload_n 0, 1, 0, 0, 0), (.getfield 30, 3, 7, 2, 0), ex_no, ex_no, (.getfield 146, 3, 4, 1, 0), ex_no, ex_no, (.getfield 150, 3, 2, 0, 0), ex_no, ex_no, (.iconst 1, 1, 0, 0, 1), (.isub, 1, 0, 0, 0), (.invokestatic 52, 3, 85, 3, 0), ex_no, ex_no, (.ireturn, 1, 1, 0, 0)]
/-- LoopStrands.hasHalves -/
def ex_k90 : List ex_MO := [(.iload_n 1, 1, 1, 0, 0), (.iconst 0, 1, 0, 0, 0), (.aload_n 0, 1, 0, 0, 0), (.getfield 30, 3, 7, 2, 0), ex_no, ex_no, (.getfield 56, 3, 4, 0, 0), ex_no, ex_no, (.getfield 86, 3, 1, 0, 0), ex_no, ex_no, (.invokestatic 52, 3, 85, 3, 0), ex_no, ex_no, (.ifCond .eq 22, 3, 37, 0, 0), ex_no, ex_no, (.aload_n 0, 1, 0, 0, 0), (.getfield 30, 3, 7, 2, 0), ex_no, ex_no, (.getfield 56, 3, 4, 0, 0), ex_no, ex_no, (.getfield 205, 3, 1, 3, 0), ex_no, ex_no, (.iload_n 1, 1, 1, 0, 0), (.aaload, 1, 0, 0, 0), (.ifnull 7, 3, 37, 0, 0), ex_no, ex_no, (.iconst 1, 1, 0, 0, 1), (.goto 4, 3, 38, 0, 0), ex_no, ex_no, (.iconst 0, 1, 0, 0, 0), (.ireturn, 1, 1, 0, 0)]
/-- LoopStrandsModel.<init> -/
def ex_k91 : List ex_MO := [(.aload_n 0, 1, 0, 0, 0), (.invokespecial 1, 3, 1000, 0, 0), ex_no, ex_no, (.aload_n 0, 1, 0, 0, 0), (.sipush 213, 3, 0, 0, 213), ex_no, ex_no, (.newarray .int, 2, 0, 0, 0), ex_no, (.putfield 7, 3, 8, 0, 0), ex_no, ex_no, (.aload_n 0, 1, 0, 0, 0), (.sipush 426, 3, 0, 0, 426), ex_no, ex_no, (.newarray .int, 2, 0, 0, 0), ex_no, (.putfield 13, 3, 8, 1, 0), ex_no, ex_no, (.aload_n 0, 1, 0, 0, 0), (.iconst 2, 1, 0, 0, 2), (.newarray .boolean, 2, 1, 0, 0), ex_no, (.putfield 16, 3, 8, 2, 0), ex_no, ex_no, (.aload_n 0, 1, 0, 0, 0), (.bipush 24, 2, 0, 0, 24), ex_no, (.newarray .int, 2, 0, 0, 0), ex_no, (.putfield 20, 3, 8, 3, 0), ex_no, ex_no, (.aload_n 0, 1, 0, 0, 0), (.sipush 420, 3, 0, 0, 420), ex_no, ex_no, (.newarray .int, 2, 0, 0, 0), ex_no, (.putfield 23, 3, 8, 5, 0), ex_no, ex_no, (.aload_n 0, 1, 0, 0, 0), (.sipush 1024, 3, 0, 0, 1024), ex_no, ex_no, (.newarray .int, 2, 0, 0, 0), ex_no, (.putfield 26, 3, 8, 6, 0), ex_no, ex_no, (.aload_n 0, 1, 0, 0, 0), (.sipush 1764, 3, 0, 0, 1764), ex_no, ex_no, (.newarray .int, 2, 0, 0, 0), ex_no, (.putfield 29, 3, 8, 8, 0), ex_no, ex_no, (.aload_n 0, 1, 0, 0, 0), (.sipush 1764, 3, 0, 0, 1764), ex_no, ex_no, (.newarray .int, 2, 0, 0, 0), ex_no, (.putfield 32, 3, 8, 9, 0), ex_no, ex_no, (.aload_n 0, 1, 0, 0, 0), (.bipush 10, 2, 0, 0, 10), ex_no, (.newarray .int, 2, 0, 0, 0), ex_no, (.putfield 35, 3, 8, 10, 0), ex_no, ex_no, (.aload_n 0, 1, 0, 0, 0), (.bipush 10, 2, 0, 0, 10), ex_no, (.newarray .int, 2, 0, 0, 0), ex_no, (.putfield 38, 3, 8, 11, 0), ex_no, ex_no, (.aload_n 0, 1, 0, 0, 0), (.iconst 5, 1, 0, 0, 5), (.newarray .boolean, 2, 1, 0, 0), ex_no, (.putfield 41, 3, 8, 12, 0), ex_no, ex_no, (.aload_n 0, 1, 0, 0, 0), (.bipush 42, 2, 0, 0, 42), ex_no, (.newarray .int, 2, 0, 0, 0), ex_no, (.putfield 44, 3, 8, 13, 0), ex_no, ex_no, (.aload_n 0, 1, 0, 0, 0), (.bipush 42, 2, 0, 0, 42), ex_no, (.newarray .int, 2, 0, 0, 0), ex_no, (.putfield 47, 3, 8, 14, 0), ex_no, ex_no, (.aload_n 0, 1, 0, 0, 0), (.bipush 42, 2, 0, 0, 42), ex_no, (.newarray .int, 2, 0, 0, 0), ex_no, (.putfield 50, 3, 8, 15, 0), ex_no, ex_no, (.aload_n 0, 1, 0, 0, 0), (.bipush 42, 2, 0, 0, 42), ex_no, (.newarray .int, 2, 0, 0, 0), ex_no, (.putfield 53, 3, 8, 16, 0), ex_no, ex_no, (.aload_n 0, 1, 0, 0, 0), (.bipush 42, 2, 0, 0, 42), ex_no, (.newarray .int, 2, 0, 0, 0), ex_no, (.putfield 56, 3, 8, 17, 0), ex_no, ex_no, (.aload_n 0, 1, 0, 0, 0), (.bipush 42, 2, 0, 0, 42), ex_no, (.newarray .int, 2, 0, 0, 0), ex_no, (.putfield 59, 3, 8, 18, 0), ex_no, ex_no, (.aload_n 0, 1, 0, 0, 0), (.bipush 42, 2, 0, 0, 42), ex_no, (.newarray .int, 2, 0, 0, 0), ex_no, (.putfield 62, 3, 8, 19, 0), ex_no, ex_no, (.aload_n 0, 1, 0, 0, 0), (.bipush 42, 2, 0, 0, 42), ex_no, (.newarray .int, 2, 0, 0, 0), ex_no, (.putfield 65, 3, 8, 20, 0), ex_no, ex_no, (.aload_n 0, 1, 0, 0, 0), (.bipush 60, 2, 0, 0, 60), ex_no, (.newarray .int, 2, 0, 0, 0), ex_no, (.putfield 68, 3, 8, 21, 0), ex_no, ex_no, (.aload_n 0, 1, 0, 0, 0), (.iconst 5, 1, 0, 0, 5), (.newarray .int, 2, 0, 0, 0), ex_no, (.putfield 71, 3, 8, 23, 0), ex_no, ex_no, (.aload_n 0, 1, 0, 0, 0), (.sipush 144, 3, 0, 0, 144), ex_no, ex_no, (.newarray .int, 2, 0, 0, 0), ex_no, (.putfield 74, 3, 8, 24, 0), ex_no, ex_no, (.aload_n 0, 1, 0, 0, 0), (.getfield 7, 3, 8, 0, 0), ex_no, ex_no, (.iconst 0, 1, 0, 0, 0), (.iconst 3, 1, 0, 0, 3), (.iastore, 1, 0, 0, 0), (.aload_n 0, 1, 0, 0, 0), (.getfield 7, 3, 8, 0, 0), ex_no, ex_no, (.iconst 1, 1, 0, 0, 1), (.bipush 97, 2, 0, 0, 97), ex_no, (.iastore, 1, 0, 0, 0), (.aload_n 0, 1, 0, 0, 0), (.getfield 7, 3, 8, 0, 0), ex_no, ex_no, (.iconst 2, 1, 0, 0, 2), (.iconst 2, 1, 0, 0, 2), (.iastore, 1, 0, 0, 0), (.aload_n 0, 1, 0, 0, 0), (.invokevirtual 77, 3, 99, 1, 0), ex_no, ex_no, (.return_, 1, 0, 0, 0)]
/-- LoopStrandsModel.in -/
def ex_k92 : List ex_MO := [(.iload_n 0, 1, 0, 0, 0), (.iload_n 1, 1, 1, 0, 0), (.if_icmp .lt 12, 3, 14, 0, 0), ex_no, ex_no, (.iload_n 0, 1, 0, 0, 0), (.iload_n 2, 1, 2, 0, 0), (.if_icmp .gt 7, 3, 14, 0, 0), ex_no, ex_no, (.iconst 1, 1, 0, 0, 1), (.goto 4, 3, 15, 0, 0), ex_no, ex_no, (.iconst 0, 1, 0, 0, 0), (.ireturn, 1, 1, 0, 0)]
/-- LoopStrandsModel.points -/
def ex_k93 : List ex_MO := [(.iconst 2, 1, 0, 0, 2), (.aload_n 0, 1, 0, 0, 0), (.getfield 7, 3, 8, 0, 0), ex_no, ex_no, (.iconst 0, 1, 0, 0, 0), (.iaload, 1, 0, 0, 0), (.imul, 1, 0, 0, 0), (.ireturn, 1, 0, 0, 0)]
/-- LoopStrandsModel.layText -/
def ex_k94 : List ex_MO := [(.iconst 0, 1, 0, 0, 0), (.istore_n 2, 1, 2, 0, 0), (.iconst 1, 1, 0, 0, 1), (.istore_n 3, 1, 3, 0, 0), (.iconst 0, 1, 0, 0, 0), (.istore 4, 2, 4, 0, 0), ex_no, (.iload 4, 2, 4, 0, 0), ex_no, (.aload_n 0, 1, 0, 0, 0), (.invokevirtual 80, 3, 93, 1, 0), ex_no, ex_no, (.if_icmp .ge 81, 3, 94, 0, 0), ex_no, ex_no, (.iload_n 3, 1, 3, 0, 0), (.ifCond .eq 77, 3, 94, 0, 0), ex_no, ex_no, (.iload_n 1, 1, 1, 0, 0), (.aload_n 0, 1, 0, 0, 0), (.invokevirtual 80, 3, 93, 1, 0), ex_no, ex_no, (.iconst 1, 1, 0, 0, 1), (.isub, 1, 0, 0, 0), (.iload 4, 2, 4, 0, 0), ex_no, (.isub, 1, 0, 0, 0), (.ishr, 1, 0, 0, 0), (.iconst 1, 1, 0, 0, 1), (.iand, 1, 0, 0, 0), (.ifCond .ne 17, 3, 50, 0, 0), ex_no, ex_no, (.aload_n 0, 1, 0, 0, 0), (.getfield 38, 3, 8, 11, 0), ex_no, ex_no, (.iload_n 2, 1, 2, 0, 0), (.iload 4, 2, 4, 0, 0), ex_no, (.iastore, 1, 0, 0, 0), (.iinc 2 1, 3, 2, 0, 1), ex_no, ex_no, (.goto 41, 3, 88, 0, 0), ex_no, ex_no, (.iload_n 2, 1, 2, 0, 0), (.ifCond .ne 8, 3, 59, 0, 0), ex_no, ex_no, (.iconst 0, 1, 0, 0, 0), (.istore_n 3, 1, 3, 0, 0), (.goto 32, 3, 88, 0, 0), ex_no, ex_no, (.iinc 2 (-1), 3, 2, 0, -1), ex_no, ex_no, (.aload_n 0, 1, 0, 0, 0), (.getfield 35, 3, 8, 10, 0), ex_no, ex_no, (.iload 4, 2, 4, 0, 0), ex_no, (.aload_n 0, 1, 0, 0, 0), (.getfield 38, 3, 8, 11, 0), ex_no, ex_no, (.iload_n 2, 1, 2, 0, 0), (.iaload, 1, 0, 0, 0), (.iastore, 1, 0, 0, 0), (.aload_n 0, 1, 0, 0, 0), (.getfield 35, 3, 8, 10, 0), ex_no, ex_no, (.aload_n 0, 1, 0, 0, 0), (.getfield 38, 3, 8, 11, 0), ex_no, ex_no, (.iload_n 2, 1, 2, 0, 0), (.iaload, 1, 0, 0, 0), (.iload 4, 2, 4, 0, 0), ex_no, (.iastore, 1, 0, 0, 0), (.iinc 4 1, 3, 4, 0, 1), ex_no, ex_no, (.goto (-84), 3, 7, 0, 0), ex_no, ex_no, (.iload_n 3, 1, 3, 0, 0), (.ifCond .eq 11, 3, 106, 0, 0), ex_no, ex_no, (.iload_n 2, 1, 2, 0, 0), (.ifCond .ne 7, 3, 106, 0, 0), ex_no, ex_no, (.iconst 1, 1, 0, 0, 1), (.goto 4, 3, 107, 0, 0), ex_no, ex_no, (.iconst 0, 1, 0, 0, 0), (.ireturn, 1, 1, 0, 0)]
/-- LoopStrandsModel.textOfRow -/
def ex_k95 : List ex_MO := [(.iconst 0, 1, 0, 0, 0), (.istore_n 1, 1, 1, 0, 0), (.iconst 0, 1, 0, 0, 0), (.istore_n 2, 1, 2, 0, 0), (.iload_n 2, 1, 2, 0, 0), (.aload_n 0, 1, 0, 0, 0), (.invokevirtual 80, 3, 93, 1, 0), ex_no, ex_no, (.if_icmp .ge 29, 3, 38, 0, 0), ex_no, ex_no, (.iconst 2, 1, 0, 0, 2), (.iload_n 1, 1, 1, 0, 0), (.imul, 1, 0, 0, 0), (.aload_n 0, 1, 0, 0, 0), (.getfield 35, 3, 8, 10, 0), ex_no, ex_no, (.iload_n 2, 1, 2, 0, 0), (.iaload, 1, 0, 0, 0), (.iload_n 2, 1, 2, 0, 0), (.if_icmp .le 7, 3, 29, 0, 0), ex_no, ex_no, (.iconst 0, 1, 0, 0, 0), (.goto 4, 3, 30, 0, 0), ex_no, ex_no, (.iconst 1, 1, 0, 0, 1), (.iadd, 1, 0, 0, 0), (.istore_n 1, 1, 1, 0, 0), (.iinc 2 1, 3, 2, 0, 1), ex_no, ex_no, (.goto (-31), 3, 4, 0, 0), ex_no, ex_no, (.iload_n 1, 1, 1, 0, 0), (.ireturn, 1, 0, 0, 0)]
/-- LoopStrandsModel.indexOfRow -/
def ex_k96 : List ex_MO := [(.aload_n 0, 1, 0, 0, 0), (.getfield 26, 3, 8, 6, 0), ex_no, ex_no, (.aload_n 0, 1, 0, 0, 0), (.invokevirtual 84, 3, 95, 1, 0), ex_no, ex_no, (.iaload, 1, 0, 0, 0), (.ireturn, 1, 0, 0, 0)]
/-- LoopStrandsModel.to -/
def ex_k97 : List ex_MO := [(.aload_n 0, 1, 0, 0, 0), (.getfield 23, 3, 8, 5, 0), ex_no, ex_no, (.bipush 10, 2, 0, 0, 10), ex_no, (.iload_n 1, 1, 1, 0, 0), (.imul, 1, 0, 0, 0), (.iload_n 2, 1, 2, 0, 0), (.iadd, 1, 0, 0, 0), (.iaload, 1, 0, 0, 0), (.ireturn, 1, 0, 0, 0)]
/-- LoopStrandsModel.across -/
def ex_k98 : List ex_MO := [(.aload_n 0, 1, 0, 0, 0), (.invokevirtual 80, 3, 93, 1, 0), ex_no, ex_no, (.iconst 1, 1, 0, 0, 1), (.isub, 1, 0, 0, 0), (.iload_n 1, 1, 1, 0, 0), (.isub, 1, 0, 0, 0), (.ireturn, 1, 0, 0, 0)]
/-- LoopStrandsModel.layDiagrams -/
def ex_k99 : List ex_MO := [(.aload_n 0, 1, 0, 0, 0), (.iconst 0, 1, 0, 0, 0), (.putfield 87, 3, 8, 7, 0), ex_no, ex_no, (.iconst 0, 1, 0, 0, 0), (.istore_n 1, 1, 1, 0, 0), (.iload_n 1, 1, 1, 0, 0), (.iconst 1, 1, 0, 0, 1), (.aload_n 0, 1, 0, 0, 0), (.invokevirtual 80, 3, 93, 1, 0), ex_no, ex_no, (.ishl, 1, 0, 0, 0), (.if_icmp .ge 73, 3, 87, 0, 0), ex_no, ex_no, (.aload_n 0, 1, 0, 0, 0), (.iload_n 1, 1, 1, 0, 0), (.invokevirtual 91, 3, 94, 2, 0), ex_no, ex_no, (.ifCond .eq 59, 3, 81, 0, 0), ex_no, ex_no, (.iconst 0, 1, 0, 0, 0), (.istore_n 2, 1, 2, 0, 0), (.iload_n 2, 1, 2, 0, 0), (.aload_n 0, 1, 0, 0, 0), (.invokevirtual 80, 3, 93, 1, 0), ex_no, ex_no, (.if_icmp .ge 29, 3, 61, 0, 0), ex_no, ex_no, (.aload_n 0, 1, 0, 0, 0), (.getfield 23, 3, 8, 5, 0), ex_no, ex_no, (.bipush 10, 2, 0, 0, 10), ex_no, (.aload_n 0, 1, 0, 0, 0), (.getfield 87, 3, 8, 7, 0), ex_no, ex_no, (.imul, 1, 0, 0, 0), (.iload_n 2, 1, 2, 0, 0), (.iadd, 1, 0, 0, 0), (.aload_n 0, 1, 0, 0, 0), (.getfield 35, 3, 8, 10, 0), ex_no, ex_no, (.iload_n 2, 1, 2, 0, 0), (.iaload, 1, 0, 0, 0), (.iastore, 1, 0, 0, 0), (.iinc 2 1, 3, 2, 0, 1), ex_no, ex_no, (.goto (-31), 3, 27, 0, 0), ex_no, ex_no, (.aload_n 0, 1, 0, 0, 0), (.getfield 26, 3, 8, 6, 0), ex_no, ex_no, (.iload_n 1, 1, 1, 0, 0), (.aload_n 0, 1, 0, 0, 0), (.getfield 87, 3, 8, 7, 0), ex_no, ex_no, (.iastore, 1, 0, 0, 0), (.aload_n 0, 1, 0, 0, 0), (.dup, 1, 0, 0, 0), (.getfield 87, 3, 8, 7, 0), ex_no, ex_no, (.iconst 1, 1, 0, 0, 1), (.iadd, 1, 0, 0, 0), (.putfield 87, 3, 8, 7, 0), ex_no, ex_no, (.iinc 1 1, 3, 1, 0, 1), ex_no, ex_no, (.goto (-77), 3, 7, 0, 0), ex_no, ex_no, (.iconst 0, 1, 0, 0, 0), (.istore_n 1, 1, 1, 0, 0), (.iload_n 1, 1, 1, 0, 0), (.aload_n 0, 1, 0, 0, 0), (.getfield 87, 3, 8, 7, 0), ex_no, ex_no, (.if_icmp .ge 31, 3, 125, 0, 0), ex_no, ex_no, (.iconst 0, 1, 0, 0, 0), (.istore_n 2, 1, 2, 0, 0), (.iload_n 2, 1, 2, 0, 0), (.aload_n 0, 1, 0, 0, 0), (.getfield 87, 3, 8, 7, 0), ex_no, ex_no, (.if_icmp .ge 15, 3, 119, 0, 0), ex_no, ex_no, (.aload_n 0, 1, 0, 0, 0), (.iload_n 1, 1, 1, 0, 0), (.iload_n 2, 1, 2, 0, 0), (.invokevirtual 95, 3, 103, 3, 0), ex_no, ex_no, (.iinc 2 1, 3, 2, 0, 1), ex_no, ex_no, (.goto (-17), 3, 99, 0, 0), ex_no, ex_no, (.iinc 1 1, 3, 1, 0, 1), ex_no, ex_no, (.goto (-33), 3, 89, 0, 0), ex_no, ex_no, (.return_, 1, 0, 0, 0)]
/-- LoopStrandsModel.endFromAbove -/
def ex_k100 : List ex_MO := [(.aload_n 0, 1, 0, 0, 0), (.iload_n 1, 1, 1, 0, 0), (.iload_n 3, 1, 3, 0, 0), (.invokevirtual 99, 3, 97, 3, 0), ex_no, ex_no, (.istore 4, 2, 4, 0, 0), ex_no, (.iload 4, 2, 4, 0, 0), ex_no, (.aload_n 0, 1, 0, 0, 0), (.getfield 7, 3, 8, 0, 0), ex_no, ex_no, (.iconst 0, 1, 0, 0, 0), (.iaload, 1, 0, 0, 0), (.if_icmp .lt 66, 3, 82, 0, 0), ex_no, ex_no, (.aload_n 0, 1, 0, 0, 0), (.iload 4, 2, 4, 0, 0), ex_no, (.invokevirtual 103, 3, 98, 2, 0), ex_no, ex_no, (.istore 5, 2, 5, 0, 0), ex_no, (.aload_n 0, 1, 0, 0, 0), (.getfield 41, 3, 8, 12, 0), ex_no, ex_no, (.iload 5, 2, 5, 0, 0), ex_no, (.iconst 1, 1, 0, 0, 1), (.bastore, 1, 0, 0, 0), (.aload_n 0, 1, 0, 0, 0), (.iload_n 2, 1, 2, 0, 0), (.iload 5, 2, 5, 0, 0), ex_no, (.invokevirtual 99, 3, 97, 3, 0), ex_no, ex_no, (.istore 6, 2, 6, 0, 0), ex_no, (.iload 6, 2, 6, 0, 0), ex_no, (.aload_n 0, 1, 0, 0, 0), (.getfield 7, 3, 8, 0, 0), ex_no, ex_no, (.iconst 0, 1, 0, 0, 0), (.iaload, 1, 0, 0, 0), (.if_icmp .lt 6, 3, 58, 0, 0), ex_no, ex_no, (.iload 6, 2, 6, 0, 0), ex_no, (.ireturn, 1, 0, 0, 0), (.aload_n 0, 1, 0, 0, 0), (.getfield 41, 3, 8, 12, 0), ex_no, ex_no, (.iload 6, 2, 6, 0, 0), ex_no, (.iconst 1, 1, 0, 0, 1), (.bastore, 1, 0, 0, 0), (.aload_n 0, 1, 0, 0, 0), (.iload_n 1, 1, 1, 0, 0), (.aload_n 0, 1, 0, 0, 0), (.iload 6, 2, 6, 0, 0), ex_no, (.invokevirtual 103, 3, 98, 2, 0), ex_no, ex_no, (.invokevirtual 99, 3, 97, 3, 0), ex_no, ex_no, (.istore 4, 2, 4, 0, 0), ex_no, (.goto (-71), 3, 8, 0, 0), ex_no, ex_no, (.iload 4, 2, 4, 0, 0), ex_no, (.ireturn, 1, 0, 0, 0)]
/-- LoopStrandsModel.endFromBelow -/
def ex_k101 : List ex_MO := [(.aload_n 0, 1, 0, 0, 0), (.iload_n 2, 1, 2, 0, 0), (.iload_n 3, 1, 3, 0, 0), (.invokevirtual 99, 3, 97, 3, 0), ex_no, ex_no, (.istore 4, 2, 4, 0, 0), ex_no, (.iload 4, 2, 4, 0, 0), ex_no, (.aload_n 0, 1, 0, 0, 0), (.getfield 7, 3, 8, 0, 0), ex_no, ex_no, (.iconst 0, 1, 0, 0, 0), (.iaload, 1, 0, 0, 0), (.if_icmp .ge 66, 3, 82, 0, 0), ex_no, ex_no, (.aload_n 0, 1, 0, 0, 0), (.getfield 41, 3, 8, 12, 0), ex_no, ex_no, (.iload 4, 2, 4, 0, 0), ex_no, (.iconst 1, 1, 0, 0, 1), (.bastore, 1, 0, 0, 0), (.aload_n 0, 1, 0, 0, 0), (.iload_n 1, 1, 1, 0, 0), (.aload_n 0, 1, 0, 0, 0), (.iload 4, 2, 4, 0, 0), ex_no, (.invokevirtual 103, 3, 98, 2, 0), ex_no, ex_no, (.invokevirtual 99, 3, 97, 3, 0), ex_no, ex_no, (.istore 5, 2, 5, 0, 0), ex_no, (.iload 5, 2, 5, 0, 0), ex_no, (.aload_n 0, 1, 0, 0, 0), (.getfield 7, 3, 8, 0, 0), ex_no, ex_no, (.iconst 0, 1, 0, 0, 0), (.iaload, 1, 0, 0, 0), (.if_icmp .ge 6, 3, 54, 0, 0), ex_no, ex_no, (.iload 5, 2, 5, 0, 0), ex_no, (.ireturn, 1, 0, 0, 0), (.aload_n 0, 1, 0, 0, 0), (.getfield 41, 3, 8, 12, 0), ex_no, ex_no, (.aload_n 0, 1, 0, 0, 0), (.iload 5, 2, 5, 0, 0), ex_no, (.invokevirtual 103, 3, 98, 2, 0), ex_no, ex_no, (.iconst 1, 1, 0, 0, 1), (.bastore, 1, 0, 0, 0), (.aload_n 0, 1, 0, 0, 0), (.iload_n 2, 1, 2, 0, 0), (.aload_n 0, 1, 0, 0, 0), (.iload 5, 2, 5, 0, 0), ex_no, (.invokevirtual 103, 3, 98, 2, 0), ex_no, ex_no, (.invokevirtual 99, 3, 97, 3, 0), ex_no, ex_no, (.istore 4, 2, 4, 0, 0), ex_no, (.goto (-71), 3, 8, 0, 0), ex_no, ex_no, (.iload 4, 2, 4, 0, 0), ex_no, (.ireturn, 1, 0, 0, 0)]
/-- LoopStrandsModel.meetRound -/
def ex_k102 : List ex_MO := [(.iload_n 3, 1, 3, 0, 0), (.istore 4, 2, 4, 0, 0), ex_no, (.aload_n 0, 1, 0, 0, 0), (.getfield 41, 3, 8, 12, 0), ex_no, ex_no, (.iload 4, 2, 4, 0, 0), ex_no, (.baload, 1, 0, 0, 0), (.ifCond .ne 48, 3, 58, 0, 0), ex_no, ex_no, (.aload_n 0, 1, 0, 0, 0), (.getfield 41, 3, 8, 12, 0), ex_no, ex_no, (.iload 4, 2, 4, 0, 0), ex_no, (.iconst 1, 1, 0, 0, 1), (.bastore, 1, 0, 0, 0), (.aload_n 0, 1, 0, 0, 0), (.iload_n 2, 1, 2, 0, 0), (.iload 4, 2, 4, 0, 0), ex_no, (.invokevirtual 99, 3, 97, 3, 0), ex_no, ex_no, (.istore 5, 2, 5, 0, 0), ex_no, (.aload_n 0, 1, 0, 0, 0), (.getfield 41, 3, 8, 12, 0), ex_no, ex_no, (.iload 5, 2, 5, 0, 0), ex_no, (.iconst 1, 1, 0, 0, 1), (.bastore, 1, 0, 0, 0), (.aload_n 0, 1, 0, 0, 0), (.aload_n 0, 1, 0, 0, 0), (.iload_n 1, 1, 1, 0, 0), (.aload_n 0, 1, 0, 0, 0), (.iload 5, 2, 5, 0, 0), ex_no, (.invokevirtual 103, 3, 98, 2, 0), ex_no, ex_no, (.invokevirtual 99, 3, 97, 3, 0), ex_no, ex_no, (.invokevirtual 103, 3, 98, 2, 0), ex_no, ex_no, (.istore 4, 2, 4, 0, 0), ex_no, (.goto (-52), 3, 3, 0, 0), ex_no, ex_no, (.return_, 1, 0, 0, 0)]
/-- LoopStrandsModel.layProduct -/
def ex_k103 : List ex_MO := [(.iconst 0, 1, 0, 0, 0), (.istore_n 3, 1, 3, 0, 0), (.iload_n 3, 1, 3, 0, 0), (.aload_n 0, 1, 0, 0, 0), (.getfield 7, 3, 8, 0, 0), ex_no, ex_no, (.iconst 0, 1, 0, 0, 0), (.iaload, 1, 0, 0, 0), (.if_icmp .ge 16, 3, 25, 0, 0), ex_no, ex_no, (.aload_n 0, 1, 0, 0, 0), (.getfield 41, 3, 8, 12, 0), ex_no, ex_no, (.iload_n 3, 1, 3, 0, 0), (.iconst 0, 1, 0, 0, 0), (.bastore, 1, 0, 0, 0), (.iinc 3 1, 3, 3, 0, 1), ex_no, ex_no, (.goto (-20), 3, 2, 0, 0), ex_no, ex_no, (.iconst 0, 1, 0, 0, 0), (.istore_n 3, 1, 3, 0, 0), (.iload_n 3, 1, 3, 0, 0), (.aload_n 0, 1, 0, 0, 0), (.invokevirtual 80, 3, 93, 1, 0), ex_no, ex_no, (.if_icmp .ge 42, 3, 74, 0, 0), ex_no, ex_no, (.aload_n 0, 1, 0, 0, 0), (.getfield 35, 3, 8, 10, 0), ex_no, ex_no, (.iload_n 3, 1, 3, 0, 0), (.iload_n 3, 1, 3, 0, 0), (.aload_n 0, 1, 0, 0, 0), (.getfield 7, 3, 8, 0, 0), ex_no, ex_no, (.iconst 0, 1, 0, 0, 0), (.iaload, 1, 0, 0, 0), (.if_icmp .ge 13, 3, 60, 0, 0), ex_no, ex_no, (.aload_n 0, 1, 0, 0, 0), (.iload_n 1, 1, 1, 0, 0), (.iload_n 2, 1, 2, 0, 0), (.iload_n 3, 1, 3, 0, 0), (.invokevirtual 107, 3, 100, 4, 0), ex_no, ex_no, (.goto 10, 3, 67, 0, 0), ex_no, ex_no, (.aload_n 0, 1, 0, 0, 0), (.iload_n 1, 1, 1, 0, 0), (.iload_n 2, 1, 2, 0, 0), (.iload_n 3, 1, 3, 0, 0), (.invokevirtual 111, 3, 101, 4, 0), ex_no, ex_no, (.iastore, 1, 0, 0, 0), (.iinc 3 1, 3, 3, 0, 1), ex_no, ex_no, (.goto (-44), 3, 27, 0, 0), ex_no, ex_no, (.iconst 0, 1, 0, 0, 0), (.istore_n 3, 1, 3, 0, 0), (.iconst 0, 1, 0, 0, 0), (.istore 4, 2, 4, 0, 0), ex_no, (.iload 4, 2, 4, 0, 0), ex_no, (.aload_n 0, 1, 0, 0, 0), (.getfield 7, 3, 8, 0, 0), ex_no, ex_no, (.iconst 0, 1, 0, 0, 0), (.iaload, 1, 0, 0, 0), (.if_icmp .ge 30, 3, 117, 0, 0), ex_no, ex_no, (.aload_n 0, 1, 0, 0, 0), (.getfield 41, 3, 8, 12, 0), ex_no, ex_no, (.iload 4, 2, 4, 0, 0), ex_no, (.baload, 1, 0, 0, 0), (.ifCond .ne 14, 3, 111, 0, 0), ex_no, ex_no, (.aload_n 0, 1, 0, 0, 0), (.iload_n 1, 1, 1, 0, 0), (.iload_n 2, 1, 2, 0, 0), (.iload 4, 2, 4, 0, 0), ex_no, (.invokevirtual 114, 3, 102, 4, 0), ex_no, ex_no, (.iinc 3 1, 3, 3, 0, 1), ex_no, ex_no, (.iinc 4 1, 3, 4, 0, 1), ex_no, ex_no, (.goto (-35), 3, 79, 0, 0), ex_no, ex_no, (.aload_n 0, 1, 0, 0, 0), (.getfield 29, 3, 8, 8, 0), ex_no, ex_no, (.bipush 42, 2, 0, 0, 42), ex_no, (.iload_n 1, 1, 1, 0, 0), (.imul, 1, 0, 0, 0), (.iload_n 2, 1, 2, 0, 0), (.iadd, 1, 0, 0, 0), (.aload_n 0, 1, 0, 0, 0), (.invokevirtual 118, 3, 96, 1, 0), ex_no, ex_no, (.iastore, 1, 0, 0, 0), (.aload_n 0, 1, 0, 0, 0), (.getfield 32, 3, 8, 9, 0), ex_no, ex_no, (.bipush 42, 2, 0, 0, 42), ex_no, (.iload_n 1, 1, 1, 0, 0), (.imul, 1, 0, 0, 0), (.iload_n 2, 1, 2, 0, 0), (.iadd, 1, 0, 0, 0), (.iload_n 3, 1, 3, 0, 0), (.iastore, 1, 0, 0, 0), (.return_, 1, 0, 0, 0)]
/-- LoopStrandsModel.isDiagram -/
def ex_k104 : List ex_MO := [(.iload_n 1, 1, 1, 0, 0), (.iconst 0, 1, 0, 0, 0), (.aload_n 0, 1, 0, 0, 0), (.getfield 87, 3, 8, 7, 0), ex_no, ex_no, (.iconst 1, 1, 0, 0, 1), (.isub, 1, 0, 0, 0), (.invokestatic 121, 3, 92, 3, 0), ex_no, ex_no, (.ireturn, 1, 1, 0, 0)]
/-- LoopStrandsModel.isSlot -/
def ex_k105 : List ex_MO := [(.iload_n 0, 1, 0, 0, 0), (.iconst 0, 1, 0, 0, 0), (.iconst 4, 1, 0, 0, 4), (.invokestatic 121, 3, 92, 3, 0), ex_no, ex_no, (.ireturn, 1, 1, 0, 0)]
/-- LoopStrandsModel.clearSums -/
def ex_k106 : List ex_MO := [(.iconst 0, 1, 0, 0, 0), (.istore_n 1, 1, 1, 0, 0), (.iload_n 1, 1, 1, 0, 0), (.sipush 210, 3, 0, 0, 210), ex_no, ex_no, (.if_icmp .ge 18, 3, 24, 0, 0), ex_no, ex_no, (.aload_n 0, 1, 0, 0, 0), (.getfield 7, 3, 8, 0, 0), ex_no, ex_no, (.iconst 3, 1, 0, 0, 3), (.iload_n 1, 1, 1, 0, 0), (.iadd, 1, 0, 0, 0), (.iconst 0, 1, 0, 0, 0), (.iastore, 1, 0, 0, 0), (.iinc 1 1, 3, 1, 0, 1), ex_no, ex_no, (.goto (-19), 3, 2, 0, 0), ex_no, ex_no, (.return_, 1, 0, 0, 0)]
/-- LoopStrandsModel.strands -/
def ex_k107 : List ex_MO := [(.iload_n 1, 1, 1, 0, 0), (.iconst 1, 1, 0, 0, 1), (.iconst 5, 1, 0, 0, 5), (.invokestatic 121, 3, 92, 3, 0), ex_no, ex_no, (.ifCond .ne 6, 3, 12, 0, 0), ex_no, ex_no, (.bipush (-2), 2, 0, 0, -2), ex_no, (.ireturn, 1, 0, 0, 0), (.aload_n 0, 1, 0, 0, 0), (.getfield 7, 3, 8, 0, 0), ex_no, ex_no, (.iconst 0, 1, 0, 0, 0), (.iload_n 1, 1, 1, 0, 0), (.iastore, 1, 0, 0, 0), (.aload_n 0, 1, 0, 0, 0), (.invokevirtual 125, 3, 106, 1, 0), ex_no, ex_no, (.aload_n 0, 1, 0, 0, 0), (.invokevirtual 77, 3, 99, 1, 0), ex_no, ex_no, (.aload_n 0, 1, 0, 0, 0), (.getfield 87, 3, 8, 7, 0), ex_no, ex_no, (.ireturn, 1, 0, 0, 0)]
/-- LoopStrandsModel.say -/
def ex_k108 : List ex_MO := [(.iload_n 1, 1, 1, 0, 0), (.bipush 33, 2, 0, 0, 33), ex_no, (.bipush 126, 2, 0, 0, 126), ex_no, (.invokestatic 121, 3, 92, 3, 0), ex_no, ex_no, (.ifCond .ne 6, 3, 14, 0, 0), ex_no, ex_no, (.bipush (-2), 2, 0, 0, -2), ex_no, (.ireturn, 1, 0, 0, 0), (.aload_n 0, 1, 0, 0, 0), (.getfield 128, 3, 8, 4, 0), ex_no, ex_no, (.bipush 24, 2, 0, 0, 24), ex_no, (.if_icmp .ne 6, 3, 26, 0, 0), ex_no, ex_no, (.bipush (-4), 2, 0, 0, -4), ex_no, (.ireturn, 1, 0, 0, 0), (.aload_n 0, 1, 0, 0, 0), (.getfield 20, 3, 8, 3, 0), ex_no, ex_no, (.aload_n 0, 1, 0, 0, 0), (.getfield 128, 3, 8, 4, 0), ex_no, ex_no, (.iload_n 1, 1, 1, 0, 0), (.iastore, 1, 0, 0, 0), (.aload_n 0, 1, 0, 0, 0), (.dup, 1, 0, 0, 0), (.getfield 128, 3, 8, 4, 0), ex_no, ex_no, (.iconst 1, 1, 0, 0, 1), (.iadd, 1, 0, 0, 0), (.putfield 128, 3, 8, 4, 0), ex_no, ex_no, (.aload_n 0, 1, 0, 0, 0), (.getfield 128, 3, 8, 4, 0), ex_no, ex_no, (.ireturn, 1, 0, 0, 0)]
/-- LoopStrandsModel.wipe -/
def ex_k109 : List ex_MO := [(.aload_n 0, 1, 0, 0, 0), (.getfield 128, 3, 8, 4, 0), ex_no, ex_no, (.istore_n 1, 1, 1, 0, 0), (.aload_n 0, 1, 0, 0, 0), (.iconst 0, 1, 0, 0, 0), (.putfield 128, 3, 8, 4, 0), ex_no, ex_no, (.iload_n 1, 1, 1, 0, 0), (.ireturn, 1, 0, 0, 0)]
/-- LoopStrandsModel.diagramFault -/
def ex_k110 : List ex_MO := [(.iconst 0, 1, 0, 0, 0), (.istore_n 1, 1, 1, 0, 0), (.iconst 0, 1, 0, 0, 0), (.istore_n 2, 1, 2, 0, 0), (.iconst 0, 1, 0, 0, 0), (.istore_n 3, 1, 3, 0, 0), (.iload_n 3, 1, 3, 0, 0), (.aload_n 0, 1, 0, 0, 0), (.getfield 128, 3, 8, 4, 0), ex_no, ex_no, (.if_icmp .ge 97, 3, 108, 0, 0), ex_no, ex_no, (.aload_n 0, 1, 0, 0, 0), (.getfield 20, 3, 8, 3, 0), ex_no, ex_no, (.iload_n 3, 1, 3, 0, 0), (.iaload, 1, 0, 0, 0), (.bipush 40, 2, 0, 0, 40), ex_no, (.if_icmp .ne 13, 3, 35, 0, 0), ex_no, ex_no, (.iload_n 1, 1, 1, 0, 0), (.aload_n 0, 1, 0, 0, 0), (.getfield 7, 3, 8, 0, 0), ex_no, ex_no, (.iconst 0, 1, 0, 0, 0), (.iaload, 1, 0, 0, 0), (.if_icmp .lt 18, 3, 50, 0, 0), ex_no, ex_no, (.aload_n 0, 1, 0, 0, 0), (.getfield 20, 3, 8, 3, 0), ex_no, ex_no, (.iload_n 3, 1, 3, 0, 0), (.iaload, 1, 0, 0, 0), (.bipush 41, 2, 0, 0, 41), ex_no, (.if_icmp .ne 11, 3, 54, 0, 0), ex_no, ex_no, (.iload_n 2, 1, 2, 0, 0), (.ifCond .le 7, 3, 54, 0, 0), ex_no, ex_no, (.iconst 1, 1, 0, 0, 1), (.goto 4, 3, 55, 0, 0), ex_no, ex_no, (.iconst 0, 1, 0, 0, 0), (.istore 4, 2, 4, 0, 0), ex_no, (.iload 4, 2, 4, 0, 0), ex_no, (.ifCond .ne 5, 3, 64, 0, 0), ex_no, ex_no, (.iload_n 3, 1, 3, 0, 0), (.ireturn, 1, 0, 0, 0), (.iload_n 1, 1, 1, 0, 0), (.aload_n 0, 1, 0, 0, 0), (.getfield 20, 3, 8, 3, 0), ex_no, ex_no, (.iload_n 3, 1, 3, 0, 0), (.iaload, 1, 0, 0, 0), (.bipush 40, 2, 0, 0, 40), ex_no, (.if_icmp .ne 7, 3, 80, 0, 0), ex_no, ex_no, (.iconst 1, 1, 0, 0, 1), (.goto 4, 3, 81, 0, 0), ex_no, ex_no, (.iconst 0, 1, 0, 0, 0), (.iadd, 1, 0, 0, 0), (.istore_n 1, 1, 1, 0, 0), (.iload_n 2, 1, 2, 0, 0), (.aload_n 0, 1, 0, 0, 0), (.getfield 20, 3, 8, 3, 0), ex_no, ex_no, (.iload_n 3, 1, 3, 0, 0), (.iaload, 1, 0, 0, 0), (.bipush 40, 2, 0, 0, 40), ex_no, (.if_icmp .ne 7, 3, 99, 0, 0), ex_no, ex_no, (.iconst 1, 1, 0, 0, 1), (.goto 4, 3, 100, 0, 0), ex_no, ex_no, (.iconst (-1), 1, 0, 0, -1), (.iadd, 1, 0, 0, 0), (.istore_n 2, 1, 2, 0, 0), (.iinc 3 1, 3, 3, 0, 1), ex_no, ex_no, (.goto (-99), 3, 6, 0, 0), ex_no, ex_no, (.aload_n 0, 1, 0, 0, 0), (.getfield 128, 3, 8, 4, 0), ex_no, ex_no, (.aload_n 0, 1, 0, 0, 0), (.invokevirtual 80, 3, 93, 1, 0), ex_no, ex_no, (.if_icmp .ne 8, 3, 124, 0, 0), ex_no, ex_no, (.bipush (-6), 2, 0, 0, -6), ex_no, (.goto 7, 3, 128, 0, 0), ex_no, ex_no, (.aload_n 0, 1, 0, 0, 0), (.getfield 128, 3, 8, 4, 0), ex_no, ex_no, (.ireturn, 1, 0, 0, 0)]
/-- LoopStrandsModel.isHook -/
def ex_k111 : List ex_MO := [(.iload_n 1, 1, 1, 0, 0), (.iconst 1, 1, 0, 0, 1), (.aload_n 0, 1, 0, 0, 0), (.getfield 7, 3, 8, 0, 0), ex_no, ex_no, (.iconst 0, 1, 0, 0, 0), (.iaload, 1, 0, 0, 0), (.iconst 1, 1, 0, 0, 1), (.isub, 1, 0, 0, 0), (.invokestatic 121, 3, 92, 3, 0), ex_no, ex_no, (.ireturn, 1, 1, 0, 0)]
/-- LoopStrandsModel.wordFault -/
def ex_k112 : List ex_MO := [(.iconst 0, 1, 0, 0, 0), (.istore_n 1, 1, 1, 0, 0), (.iload_n 1, 1, 1, 0, 0), (.aload_n 0, 1, 0, 0, 0), (.getfield 128, 3, 8, 4, 0), ex_no, ex_no, (.if_icmp .ge 27, 3, 34, 0, 0), ex_no, ex_no, (.aload_n 0, 1, 0, 0, 0), (.aload_n 0, 1, 0, 0, 0), (.getfield 20, 3, 8, 3, 0), ex_no, ex_no, (.iload_n 1, 1, 1, 0, 0), (.iaload, 1, 0, 0, 0), (.bipush 48, 2, 0, 0, 48), ex_no, (.isub, 1, 0, 0, 0), (.invokevirtual 131, 3, 111, 2, 0), ex_no, ex_no, (.ifCond .ne 5, 3, 28, 0, 0), ex_no, ex_no, (.iload_n 1, 1, 1, 0, 0), (.ireturn, 1, 0, 0, 0), (.iinc 1 1, 3, 1, 0, 1), ex_no, ex_no, (.goto (-29), 3, 2, 0, 0), ex_no, ex_no, (.bipush (-6), 2, 0, 0, -6), ex_no, (.ireturn, 1, 0, 0, 0)]
/-- LoopStrandsModel.fault -/
def ex_k113 : List ex_MO := [(.iload_n 1, 1, 1, 0, 0), (.ifCond .ne 10, 3, 11, 0, 0), ex_no, ex_no, (.aload_n 0, 1, 0, 0, 0), (.invokevirtual 134, 3, 110, 1, 0), ex_no, ex_no, (.goto 17, 3, 25, 0, 0), ex_no, ex_no, (.iload_n 1, 1, 1, 0, 0), (.iconst 1, 1, 0, 0, 1), (.if_icmp .ne 10, 3, 23, 0, 0), ex_no, ex_no, (.aload_n 0, 1, 0, 0, 0), (.invokevirtual 137, 3, 112, 1, 0), ex_no, ex_no, (.goto 5, 3, 25, 0, 0), ex_no, ex_no, (.bipush (-2), 2, 0, 0, -2), ex_no, (.ireturn, 1, 0, 0, 0)]
/-- LoopStrandsModel.diagram -/
def ex_k114 : List ex_MO := [(.aload_n 0, 1, 0, 0, 0), (.invokevirtual 134, 3, 110, 1, 0), ex_no, ex_no, (.ifCond .lt 6, 3, 10, 0, 0), ex_no, ex_no, (.bipush (-7), 2, 0, 0, -7), ex_no, (.ireturn, 1, 0, 0, 0), (.iconst 0, 1, 0, 0, 0), (.istore_n 1, 1, 1, 0, 0), (.iconst 0, 1, 0, 0, 0), (.istore_n 2, 1, 2, 0, 0), (.iload_n 2, 1, 2, 0, 0), (.aload_n 0, 1, 0, 0, 0), (.getfield 128, 3, 8, 4, 0), ex_no, ex_no, (.if_icmp .ge 30, 3, 49, 0, 0), ex_no, ex_no, (.iconst 2, 1, 0, 0, 2), (.iload_n 1, 1, 1, 0, 0), (.imul, 1, 0, 0, 0), (.aload_n 0, 1, 0, 0, 0), (.getfield 20, 3, 8, 3, 0), ex_no, ex_no, (.iload_n 2, 1, 2, 0, 0), (.iaload, 1, 0, 0, 0), (.bipush 40, 2, 0, 0, 40), ex_no, (.if_icmp .ne 7, 3, 40, 0, 0), ex_no, ex_no, (.iconst 0, 1, 0, 0, 0), (.goto 4, 3, 41, 0, 0), ex_no, ex_no, (.iconst 1, 1, 0, 0, 1), (.iadd, 1, 0, 0, 0), (.istore_n 1, 1, 1, 0, 0), (.iinc 2 1, 3, 2, 0, 1), ex_no, ex_no, (.goto (-32), 3, 14, 0, 0), ex_no, ex_no, (.aload_n 0, 1, 0, 0, 0), (.iconst 0, 1, 0, 0, 0), (.putfield 128, 3, 8, 4, 0), ex_no, ex_no, (.aload_n 0, 1, 0, 0, 0), (.getfield 26, 3, 8, 6, 0), ex_no, ex_no, (.iload_n 1, 1, 1, 0, 0), (.iaload, 1, 0, 0, 0), (.ireturn, 1, 0, 0, 0)]
/-- LoopStrandsModel.joinTwo -/
def ex_k115 : List ex_MO := [(.aload_n 0, 1, 0, 0, 0), (.getfield 35, 3, 8, 10, 0), ex_no, ex_no, (.iload_n 1, 1, 1, 0, 0), (.iload_n 2, 1, 2, 0, 0), (.iastore, 1, 0, 0, 0), (.aload_n 0, 1, 0, 0, 0), (.getfield 35, 3, 8, 10, 0), ex_no, ex_no, (.iload_n 2, 1, 2, 0, 0), (.iload_n 1, 1, 1, 0, 0), (.iastore, 1, 0, 0, 0), (.return_, 1, 0, 0, 0)]
/-- LoopStrandsModel.hook -/
def ex_k116 : List ex_MO := [(.iconst 0, 1, 0, 0, 0), (.istore_n 2, 1, 2, 0, 0), (.iload_n 2, 1, 2, 0, 0), (.aload_n 0, 1, 0, 0, 0), (.getfield 7, 3, 8, 0, 0), ex_no, ex_no, (.iconst 0, 1, 0, 0, 0), (.iaload, 1, 0, 0, 0), (.if_icmp .ge 19, 3, 28, 0, 0), ex_no, ex_no, (.aload_n 0, 1, 0, 0, 0), (.iload_n 2, 1, 2, 0, 0), (.aload_n 0, 1, 0, 0, 0), (.iload_n 2, 1, 2, 0, 0), (.invokevirtual 103, 3, 98, 2, 0), ex_no, ex_no, (.invokevirtual 140, 3, 115, 3, 0), ex_no, ex_no, (.iinc 2 1, 3, 2, 0, 1), ex_no, ex_no, (.goto (-23), 3, 2, 0, 0), ex_no, ex_no, (.aload_n 0, 1, 0, 0, 0), (.iload_n 1, 1, 1, 0, 0), (.iconst 1, 1, 0, 0, 1), (.isub, 1, 0, 0, 0), (.iload_n 1, 1, 1, 0, 0), (.invokevirtual 140, 3, 115, 3, 0), ex_no, ex_no, (.aload_n 0, 1, 0, 0, 0), (.aload_n 0, 1, 0, 0, 0), (.iload_n 1, 1, 1, 0, 0), (.iconst 1, 1, 0, 0, 1), (.isub, 1, 0, 0, 0), (.invokevirtual 103, 3, 98, 2, 0), ex_no, ex_no, (.aload_n 0, 1, 0, 0, 0), (.iload_n 1, 1, 1, 0, 0), (.invokevirtual 103, 3, 98, 2, 0), ex_no, ex_no, (.invokevirtual 140, 3, 115, 3, 0), ex_no, ex_no, (.aload_n 0, 1, 0, 0, 0), (.invokevirtual 118, 3, 96, 1, 0), ex_no, ex_no, (.ireturn, 1, 0, 0, 0)]
/-- LoopStrandsModel.word -/
def ex_k117 : List ex_MO := [(.iload_n 1, 1, 1, 0, 0), (.iconst 0, 1, 0, 0, 0), (.iconst 1, 1, 0, 0, 1), (.invokestatic 121, 3, 92, 3, 0), ex_no, ex_no, (.ifCond .ne 6, 3, 12, 0, 0), ex_no, ex_no, (.bipush (-2), 2, 0, 0, -2), ex_no, (.ireturn, 1, 0, 0, 0), (.aload_n 0, 1, 0, 0, 0), (.invokevirtual 137, 3, 112, 1, 0), ex_no, ex_no, (.ifCond .lt 6, 3, 22, 0, 0), ex_no, ex_no, (.bipush (-7), 2, 0, 0, -7), ex_no, (.ireturn, 1, 0, 0, 0), (.iconst 0, 1, 0, 0, 0), (.istore_n 2, 1, 2, 0, 0), (.iconst 0, 1, 0, 0, 0), (.istore_n 3, 1, 3, 0, 0), (.iconst 0, 1, 0, 0, 0), (.istore 4, 2, 4, 0, 0), ex_no, (.iload 4, 2, 4, 0, 0), ex_no, (.aload_n 0, 1, 0, 0, 0), (.getfield 128, 3, 8, 4, 0), ex_no, ex_no, (.if_icmp .ge 53, 3, 88, 0, 0), ex_no, ex_no, (.aload_n 0, 1, 0, 0, 0), (.aload_n 0, 1, 0, 0, 0), (.getfield 20, 3, 8, 3, 0), ex_no, ex_no, (.iload 4, 2, 4, 0, 0), ex_no, (.iaload, 1, 0, 0, 0), (.bipush 48, 2, 0, 0, 48), ex_no, (.isub, 1, 0, 0, 0), (.invokevirtual 143, 3, 116, 2, 0), ex_no, ex_no, (.istore 5, 2, 5, 0, 0), ex_no, (.iload_n 3, 1, 3, 0, 0), (.aload_n 0, 1, 0, 0, 0), (.getfield 32, 3, 8, 9, 0), ex_no, ex_no, (.bipush 42, 2, 0, 0, 42), ex_no, (.iload_n 2, 1, 2, 0, 0), (.imul, 1, 0, 0, 0), (.iload 5, 2, 5, 0, 0), ex_no, (.iadd, 1, 0, 0, 0), (.iaload, 1, 0, 0, 0), (.iadd, 1, 0, 0, 0), (.istore_n 3, 1, 3, 0, 0), (.aload_n 0, 1, 0, 0, 0), (.getfield 29, 3, 8, 8, 0), ex_no, ex_no, (.bipush 42, 2, 0, 0, 42), ex_no, (.iload_n 2, 1, 2, 0, 0), (.imul, 1, 0, 0, 0), (.iload 5, 2, 5, 0, 0), ex_no, (.iadd, 1, 0, 0, 0), (.iaload, 1, 0, 0, 0), (.istore_n 2, 1, 2, 0, 0), (.iinc 4 1, 3, 4, 0, 1), ex_no, ex_no, (.goto (-56), 3, 29, 0, 0), ex_no, ex_no, (.iload_n 1, 1, 1, 0, 0), (.ifCond .ne 7, 3, 96, 0, 0), ex_no, ex_no, (.iload_n 2, 1, 2, 0, 0), (.goto 4, 3, 97, 0, 0), ex_no, ex_no, (.iload_n 3, 1, 3, 0, 0), (.ireturn, 1, 0, 0, 0)]
/-- LoopStrandsModel.through -/
def ex_k118 : List ex_MO := [(.iconst 0, 1, 0, 0, 0), (.istore_n 2, 1, 2, 0, 0), (.iconst 0, 1, 0, 0, 0), (.istore_n 3, 1, 3, 0, 0), (.iload_n 3, 1, 3, 0, 0), (.aload_n 0, 1, 0, 0, 0), (.getfield 7, 3, 8, 0, 0), ex_no, ex_no, (.iconst 0, 1, 0, 0, 0), (.iaload, 1, 0, 0, 0), (.if_icmp .ge 32, 3, 43, 0, 0), ex_no, ex_no, (.iload_n 2, 1, 2, 0, 0), (.aload_n 0, 1, 0, 0, 0), (.iload_n 1, 1, 1, 0, 0), (.iload_n 3, 1, 3, 0, 0), (.invokevirtual 99, 3, 97, 3, 0), ex_no, ex_no, (.aload_n 0, 1, 0, 0, 0), (.getfield 7, 3, 8, 0, 0), ex_no, ex_no, (.iconst 0, 1, 0, 0, 0), (.iaload, 1, 0, 0, 0), (.if_icmp .lt 7, 3, 34, 0, 0), ex_no, ex_no, (.iconst 1, 1, 0, 0, 1), (.goto 4, 3, 35, 0, 0), ex_no, ex_no, (.iconst 0, 1, 0, 0, 0), (.iadd, 1, 0, 0, 0), (.istore_n 2, 1, 2, 0, 0), (.iinc 3 1, 3, 3, 0, 1), ex_no, ex_no, (.goto (-36), 3, 4, 0, 0), ex_no, ex_no, (.iload_n 2, 1, 2, 0, 0), (.ireturn, 1, 0, 0, 0)]
/-- LoopStrandsModel.closedLoops -/
def ex_k119 : List ex_MO := [(.iconst 0, 1, 0, 0, 0), (.istore_n 2, 1, 2, 0, 0), (.iconst 0, 1, 0, 0, 0), (.istore_n 3, 1, 3, 0, 0), (.iconst 0, 1, 0, 0, 0), (.istore 4, 2, 4, 0, 0), ex_no, (.iload 4, 2, 4, 0, 0), ex_no, (.aload_n 0, 1, 0, 0, 0), (.getfield 7, 3, 8, 0, 0), ex_no, ex_no, (.iconst 0, 1, 0, 0, 0), (.iaload, 1, 0, 0, 0), (.if_icmp .ge 73, 3, 88, 0, 0), ex_no, ex_no, (.iload_n 2, 1, 2, 0, 0), (.iload 4, 2, 4, 0, 0), ex_no, (.ishr, 1, 0, 0, 0), (.iconst 1, 1, 0, 0, 1), (.iand, 1, 0, 0, 0), (.ifCond .ne 58, 3, 82, 0, 0), ex_no, ex_no, (.iinc 3 1, 3, 3, 0, 1), ex_no, ex_no, (.iload 4, 2, 4, 0, 0), ex_no, (.istore 5, 2, 5, 0, 0), ex_no, (.iload_n 2, 1, 2, 0, 0), (.iload 5, 2, 5, 0, 0), ex_no, (.ishr, 1, 0, 0, 0), (.iconst 1, 1, 0, 0, 1), (.iand, 1, 0, 0, 0), (.ifCond .ne 35, 3, 75, 0, 0), ex_no, ex_no, (.aload_n 0, 1, 0, 0, 0), (.iload_n 1, 1, 1, 0, 0), (.iload 5, 2, 5, 0, 0), ex_no, (.invokevirtual 99, 3, 97, 3, 0), ex_no, ex_no, (.istore 6, 2, 6, 0, 0), ex_no, (.iload_n 2, 1, 2, 0, 0), (.iconst 1, 1, 0, 0, 1), (.iload 5, 2, 5, 0, 0), ex_no, (.ishl, 1, 0, 0, 0), (.iconst 1, 1, 0, 0, 1), (.iload 6, 2, 6, 0, 0), ex_no, (.ishl, 1, 0, 0, 0), (.ior, 1, 0, 0, 0), (.ior, 1, 0, 0, 0), (.istore_n 2, 1, 2, 0, 0), (.aload_n 0, 1, 0, 0, 0), (.iload 6, 2, 6, 0, 0), ex_no, (.invokevirtual 103, 3, 98, 2, 0), ex_no, ex_no, (.istore 5, 2, 5, 0, 0), ex_no, (.goto (-38), 3, 34, 0, 0), ex_no, ex_no, (.iload_n 2, 1, 2, 0, 0), (.iconst 1, 1, 0, 0, 1), (.iload 5, 2, 5, 0, 0), ex_no, (.ishl, 1, 0, 0, 0), (.ior, 1, 0, 0, 0), (.istore_n 2, 1, 2, 0, 0), (.iinc 4 1, 3, 4, 0, 1), ex_no, ex_no, (.goto (-78), 3, 7, 0, 0), ex_no, ex_no, (.iload_n 3, 1, 3, 0, 0), (.ireturn, 1, 0, 0, 0)]
/-- LoopStrandsModel.turnedOf -/
def ex_k120 : List ex_MO := [(.iconst 0, 1, 0, 0, 0), (.istore_n 2, 1, 2, 0, 0), (.iload_n 2, 1, 2, 0, 0), (.aload_n 0, 1, 0, 0, 0), (.invokevirtual 80, 3, 93, 1, 0), ex_no, ex_no, (.if_icmp .ge 29, 3, 36, 0, 0), ex_no, ex_no, (.aload_n 0, 1, 0, 0, 0), (.getfield 35, 3, 8, 10, 0), ex_no, ex_no, (.aload_n 0, 1, 0, 0, 0), (.iload_n 2, 1, 2, 0, 0), (.invokevirtual 103, 3, 98, 2, 0), ex_no, ex_no, (.aload_n 0, 1, 0, 0, 0), (.aload_n 0, 1, 0, 0, 0), (.iload_n 1, 1, 1, 0, 0), (.iload_n 2, 1, 2, 0, 0), (.invokevirtual 99, 3, 97, 3, 0), ex_no, ex_no, (.invokevirtual 103, 3, 98, 2, 0), ex_no, ex_no, (.iastore, 1, 0, 0, 0), (.iinc 2 1, 3, 2, 0, 1), ex_no, ex_no, (.goto (-31), 3, 2, 0, 0), ex_no, ex_no, (.aload_n 0, 1, 0, 0, 0), (.invokevirtual 118, 3, 96, 1, 0), ex_no, ex_no, (.ireturn, 1, 0, 0, 0)]
/-- LoopStrandsModel.layWays -/
def ex_k121 : List ex_MO := [(.iconst 0, 1, 0, 0, 0), (.istore_n 1, 1, 1, 0, 0), (.iload_n 1, 1, 1, 0, 0), (.aload_n 0, 1, 0, 0, 0), (.getfield 87, 3, 8, 7, 0), ex_no, ex_no, (.if_icmp .ge 17, 3, 24, 0, 0), ex_no, ex_no, (.aload_n 0, 1, 0, 0, 0), (.getfield 53, 3, 8, 16, 0), ex_no, ex_no, (.iload_n 1, 1, 1, 0, 0), (.bipush (-6), 2, 0, 0, -6), ex_no, (.iastore, 1, 0, 0, 0), (.iinc 1 1, 3, 1, 0, 1), ex_no, ex_no, (.goto (-19), 3, 2, 0, 0), ex_no, ex_no, (.aload_n 0, 1, 0, 0, 0), (.getfield 53, 3, 8, 16, 0), ex_no, ex_no, (.iconst 0, 1, 0, 0, 0), (.iconst 0, 1, 0, 0, 0), (.iastore, 1, 0, 0, 0), (.aload_n 0, 1, 0, 0, 0), (.getfield 44, 3, 8, 13, 0), ex_no, ex_no, (.iconst 0, 1, 0, 0, 0), (.iconst 0, 1, 0, 0, 0), (.iastore, 1, 0, 0, 0), (.iconst 1, 1, 0, 0, 1), (.istore_n 1, 1, 1, 0, 0), (.iconst 0, 1, 0, 0, 0), (.istore_n 2, 1, 2, 0, 0), (.iload_n 2, 1, 2, 0, 0), (.iload_n 1, 1, 1, 0, 0), (.if_icmp .ge 111, 3, 155, 0, 0), ex_no, ex_no, (.iconst 1, 1, 0, 0, 1), (.istore_n 3, 1, 3, 0, 0), (.iload_n 3, 1, 3, 0, 0), (.aload_n 0, 1, 0, 0, 0), (.getfield 7, 3, 8, 0, 0), ex_no, ex_no, (.iconst 0, 1, 0, 0, 0), (.iaload, 1, 0, 0, 0), (.if_icmp .ge 93, 3, 149, 0, 0), ex_no, ex_no, (.aload_n 0, 1, 0, 0, 0), (.getfield 29, 3, 8, 8, 0), ex_no, ex_no, (.bipush 42, 2, 0, 0, 42), ex_no, (.aload_n 0, 1, 0, 0, 0), (.getfield 44, 3, 8, 13, 0), ex_no, ex_no, (.iload_n 2, 1, 2, 0, 0), (.iaload, 1, 0, 0, 0), (.imul, 1, 0, 0, 0), (.aload_n 0, 1, 0, 0, 0), (.iload_n 3, 1, 3, 0, 0), (.invokevirtual 143, 3, 116, 2, 0), ex_no, ex_no, (.iadd, 1, 0, 0, 0), (.iaload, 1, 0, 0, 0), (.istore 4, 2, 4, 0, 0), ex_no, (.aload_n 0, 1, 0, 0, 0), (.getfield 53, 3, 8, 16, 0), ex_no, ex_no, (.iload 4, 2, 4, 0, 0), ex_no, (.iaload, 1, 0, 0, 0), (.ifCond .ge 55, 3, 143, 0, 0), ex_no, ex_no, (.aload_n 0, 1, 0, 0, 0), (.getfield 53, 3, 8, 16, 0), ex_no, ex_no, (.iload 4, 2, 4, 0, 0), ex_no, (.aload_n 0, 1, 0, 0, 0), (.getfield 53, 3, 8, 16, 0), ex_no, ex_no, (.aload_n 0, 1, 0, 0, 0), (.getfield 44, 3, 8, 13, 0), ex_no, ex_no, (.iload_n 2, 1, 2, 0, 0), (.iaload, 1, 0, 0, 0), (.iaload, 1, 0, 0, 0), (.iconst 1, 1, 0, 0, 1), (.iadd, 1, 0, 0, 0), (.iastore, 1, 0, 0, 0), (.aload_n 0, 1, 0, 0, 0), (.getfield 47, 3, 8, 14, 0), ex_no, ex_no, (.iload 4, 2, 4, 0, 0), ex_no, (.aload_n 0, 1, 0, 0, 0), (.getfield 44, 3, 8, 13, 0), ex_no, ex_no, (.iload_n 2, 1, 2, 0, 0), (.iaload, 1, 0, 0, 0), (.iastore, 1, 0, 0, 0), (.aload_n 0, 1, 0, 0, 0), (.getfield 50, 3, 8, 15, 0), ex_no, ex_no, (.iload 4, 2, 4, 0, 0), ex_no, (.iload_n 3, 1, 3, 0, 0), (.iastore, 1, 0, 0, 0), (.aload_n 0, 1, 0, 0, 0), (.getfield 44, 3, 8, 13, 0), ex_no, ex_no, (.iload_n 1, 1, 1, 0, 0), (.iload 4, 2, 4, 0, 0), ex_no, (.iastore, 1, 0, 0, 0), (.iinc 1 1, 3, 1, 0, 1), ex_no, ex_no, (.iinc 3 1, 3, 3, 0, 1), ex_no, ex_no, (.goto (-97), 3, 49, 0, 0), ex_no, ex_no, (.iinc 2 1, 3, 2, 0, 1), ex_no, ex_no, (.goto (-110), 3, 42, 0, 0), ex_no, ex_no, (.return_, 1, 0, 0, 0)]
/-- LoopStrandsModel.of -/
def ex_k122 : List ex_MO := [(.aload_n 0, 1, 0, 0, 0), (.iload_n 1, 1, 1, 0, 0), (.invokevirtual 146, 3, 104, 2, 0), ex_no, ex_no, (.ifCond .ne 5, 3, 10, 0, 0), ex_no, ex_no, (.iconst (-1), 1, 0, 0, -1), (.ireturn, 1, 0, 0, 0), (.iload_n 2, 1, 2, 0, 0), (.tableswitch 58 0 3 #[29, 35, 41, 47], 29, 69, 0, 0), ex_no, ex_no, ex_no, ex_no, ex_no, ex_no, ex_no, ex_no, ex_no, ex_no, ex_no, ex_no, ex_no, ex_no, ex_no, ex_no, ex_no, ex_no, ex_no, ex_no, ex_no, ex_no, ex_no, ex_no, ex_no, ex_no, ex_no, ex_no, (.aload_n 0, 1, 0, 0, 0), (.iload_n 1, 1, 1, 0, 0), (.invokevirtual 149, 3, 118, 2, 0), ex_no, ex_no, (.ireturn, 1, 0, 0, 0), (.aload_n 0, 1, 0, 0, 0), (.iload_n 1, 1, 1, 0, 0), (.invokevirtual 152, 3, 119, 2, 0), ex_no, ex_no, (.ireturn, 1, 0, 0, 0), (.aload_n 0, 1, 0, 0, 0), (.iload_n 1, 1, 1, 0, 0), (.invokevirtual 155, 3, 120, 2, 0), ex_no, ex_no, (.ireturn, 1, 0, 0, 0), (.aload_n 0, 1, 0, 0, 0), (.invokevirtual 158, 3, 121, 1, 0), ex_no, ex_no, (.aload_n 0, 1, 0, 0, 0), (.getfield 53, 3, 8, 16, 0), ex_no, ex_no, (.iload_n 1, 1, 1, 0, 0), (.iaload, 1, 0, 0, 0), (.ireturn, 1, 0, 0, 0), (.bipush (-2), 2, 0, 0, -2), ex_no, (.ireturn, 1, 0, 0, 0)]
/-- LoopStrandsModel.joined -/
def ex_k123 : List ex_MO := [(.aload_n 0, 1, 0, 0, 0), (.iload_n 1, 1, 1, 0, 0), (.invokevirtual 146, 3, 104, 2, 0), ex_no, ex_no, (.ifCond .eq 26, 3, 31, 0, 0), ex_no, ex_no, (.iload_n 2, 1, 2, 0, 0), (.iconst 0, 1, 0, 0, 0), (.aload_n 0, 1, 0, 0, 0), (.invokevirtual 80, 3, 93, 1, 0), ex_no, ex_no, (.iconst 1, 1, 0, 0, 1), (.isub, 1, 0, 0, 0), (.invokestatic 121, 3, 92, 3, 0), ex_no, ex_no, (.ifCond .eq 12, 3, 31, 0, 0), ex_no, ex_no, (.aload_n 0, 1, 0, 0, 0), (.iload_n 1, 1, 1, 0, 0), (.iload_n 2, 1, 2, 0, 0), (.invokevirtual 99, 3, 97, 3, 0), ex_no, ex_no, (.goto 4, 3, 32, 0, 0), ex_no, ex_no, (.iconst (-1), 1, 0, 0, -1), (.ireturn, 1, 0, 0, 0)]
/-- LoopStrandsModel.stack -/
def ex_k124 : List ex_MO := [(.aload_n 0, 1, 0, 0, 0), (.iload_n 1, 1, 1, 0, 0), (.invokevirtual 146, 3, 104, 2, 0), ex_no, ex_no, (.ifCond .eq 11, 3, 16, 0, 0), ex_no, ex_no, (.aload_n 0, 1, 0, 0, 0), (.iload_n 2, 1, 2, 0, 0), (.invokevirtual 146, 3, 104, 2, 0), ex_no, ex_no, (.ifCond .ne 5, 3, 18, 0, 0), ex_no, ex_no, (.iconst (-1), 1, 0, 0, -1), (.ireturn, 1, 0, 0, 0), (.iload_n 3, 1, 3, 0, 0), (.ifCond .ne 17, 3, 36, 0, 0), ex_no, ex_no, (.aload_n 0, 1, 0, 0, 0), (.getfield 29, 3, 8, 8, 0), ex_no, ex_no, (.bipush 42, 2, 0, 0, 42), ex_no, (.iload_n 1, 1, 1, 0, 0), (.imul, 1, 0, 0, 0), (.iload_n 2, 1, 2, 0, 0), (.iadd, 1, 0, 0, 0), (.iaload, 1, 0, 0, 0), (.goto 24, 3, 57, 0, 0), ex_no, ex_no, (.iload_n 3, 1, 3, 0, 0), (.iconst 1, 1, 0, 0, 1), (.if_icmp .ne 17, 3, 55, 0, 0), ex_no, ex_no, (.aload_n 0, 1, 0, 0, 0), (.getfield 32, 3, 8, 9, 0), ex_no, ex_no, (.bipush 42, 2, 0, 0, 42), ex_no, (.iload_n 1, 1, 1, 0, 0), (.imul, 1, 0, 0, 0), (.iload_n 2, 1, 2, 0, 0), (.iadd, 1, 0, 0, 0), (.iaload, 1, 0, 0, 0), (.goto 5, 3, 57, 0, 0), ex_no, ex_no, (.bipush (-2), 2, 0, 0, -2), ex_no, (.ireturn, 1, 0, 0, 0)]
/-- LoopStrandsModel.way -/
def ex_k125 : List ex_MO := [(.aload_n 0, 1, 0, 0, 0), (.iload_n 1, 1, 1, 0, 0), (.invokevirtual 146, 3, 104, 2, 0), ex_no, ex_no, (.ifCond .ne 5, 3, 10, 0, 0), ex_no, ex_no, (.iconst (-1), 1, 0, 0, -1), (.ireturn, 1, 0, 0, 0), (.aload_n 0, 1, 0, 0, 0), (.invokevirtual 158, 3, 121, 1, 0), ex_no, ex_no, (.iload_n 2, 1, 2, 0, 0), (.iconst 0, 1, 0, 0, 0), (.aload_n 0, 1, 0, 0, 0), (.getfield 53, 3, 8, 16, 0), ex_no, ex_no, (.iload_n 1, 1, 1, 0, 0), (.iaload, 1, 0, 0, 0), (.iconst 1, 1, 0, 0, 1), (.isub, 1, 0, 0, 0), (.invokestatic 121, 3, 92, 3, 0), ex_no, ex_no, (.ifCond .ne 6, 3, 33, 0, 0), ex_no, ex_no, (.bipush (-6), 2, 0, 0, -6), ex_no, (.ireturn, 1, 0, 0, 0), (.iload_n 1, 1, 1, 0, 0), (.istore_n 3, 1, 3, 0, 0), (.aload_n 0, 1, 0, 0, 0), (.getfield 53, 3, 8, 16, 0), ex_no, ex_no, (.iload_n 3, 1, 3, 0, 0), (.iaload, 1, 0, 0, 0), (.iload_n 2, 1, 2, 0, 0), (.iconst 1, 1, 0, 0, 1), (.iadd, 1, 0, 0, 0), (.if_icmp .le 13, 3, 57, 0, 0), ex_no, ex_no, (.aload_n 0, 1, 0, 0, 0), (.getfield 47, 3, 8, 14, 0), ex_no, ex_no, (.iload_n 3, 1, 3, 0, 0), (.iaload, 1, 0, 0, 0), (.istore_n 3, 1, 3, 0, 0), (.goto (-19), 3, 35, 0, 0), ex_no, ex_no, (.aload_n 0, 1, 0, 0, 0), (.getfield 50, 3, 8, 15, 0), ex_no, ex_no, (.iload_n 3, 1, 3, 0, 0), (.iaload, 1, 0, 0, 0), (.ireturn, 1, 0, 0, 0)]
/-- LoopStrandsModel.isPrime -/
def ex_k126 : List ex_MO := [(.iload_n 0, 1, 0, 0, 0), (.iconst 2, 1, 0, 0, 2), (.bipush 101, 2, 0, 0, 101), ex_no, (.invokestatic 121, 3, 92, 3, 0), ex_no, ex_no, (.istore_n 1, 1, 1, 0, 0), (.iconst 2, 1, 0, 0, 2), (.istore_n 2, 1, 2, 0, 0), (.iload_n 2, 1, 2, 0, 0), (.iload_n 0, 1, 0, 0, 0), (.if_icmp .ge 31, 3, 43, 0, 0), ex_no, ex_no, (.iload_n 2, 1, 2, 0, 0), (.bipush 11, 2, 0, 0, 11), ex_no, (.if_icmp .ge 25, 3, 43, 0, 0), ex_no, ex_no, (.iload_n 1, 1, 1, 0, 0), (.ifCond .eq 13, 3, 35, 0, 0), ex_no, ex_no, (.iload_n 0, 1, 0, 0, 0), (.iload_n 2, 1, 2, 0, 0), (.irem, 1, 0, 0, 0), (.ifCond .eq 7, 3, 35, 0, 0), ex_no, ex_no, (.iconst 1, 1, 0, 0, 1), (.goto 4, 3, 36, 0, 0), ex_no, ex_no, (.iconst 0, 1, 0, 0, 0), (.istore_n 1, 1, 1, 0, 0), (.iinc 2 1, 3, 2, 0, 1), ex_no, ex_no, (.goto (-30), 3, 10, 0, 0), ex_no, ex_no, (.iload_n 1, 1, 1, 0, 0), (.ireturn, 1, 1, 0, 0)]
/-- LoopStrandsModel.isNumber -/
def ex_k127 : List ex_MO := [(.iload_n 1, 1, 1, 0, 0), (.iconst 0, 1, 0, 0, 0), (.aload_n 0, 1, 0, 0, 0), (.getfield 7, 3, 8, 0, 0), ex_no, ex_no, (.iconst 1, 1, 0, 0, 1), (.iaload, 1, 0, 0, 0), (.iconst 1, 1, 0, 0, 1), (.isub, 1, 0, 0, 0), (.invokestatic 121, 3, 92, 3, 0), ex_no, ex_no, (.ireturn, 1, 1, 0, 0)]
/-- LoopStrandsModel.by -/
def ex_k128 : List ex_MO := [(.iload_n 1, 1, 1, 0, 0), (.aload_n 0, 1, 0, 0, 0), (.getfield 7, 3, 8, 0, 0), ex_no, ex_no, (.iconst 1, 1, 0, 0, 1), (.iaload, 1, 0, 0, 0), (.irem, 1, 0, 0, 0), (.istore_n 2, 1, 2, 0, 0), (.iload_n 2, 1, 2, 0, 0), (.ifCond .ge 14, 3, 24, 0, 0), ex_no, ex_no, (.iload_n 2, 1, 2, 0, 0), (.aload_n 0, 1, 0, 0, 0), (.getfield 7, 3, 8, 0, 0), ex_no, ex_no, (.iconst 1, 1, 0, 0, 1), (.iaload, 1, 0, 0, 0), (.iadd, 1, 0, 0, 0), (.goto 4, 3, 25, 0, 0), ex_no, ex_no, (.iload_n 2, 1, 2, 0, 0), (.ireturn, 1, 0, 0, 0)]
/-- LoopStrandsModel.loopTimes -/
def ex_k129 : List ex_MO := [(.aload_n 0, 1, 0, 0, 0), (.iconst 1, 1, 0, 0, 1), (.invokevirtual 161, 3, 128, 2, 0), ex_no, ex_no, (.istore_n 2, 1, 2, 0, 0), (.iconst 0, 1, 0, 0, 0), (.istore_n 3, 1, 3, 0, 0), (.iload_n 3, 1, 3, 0, 0), (.iload_n 1, 1, 1, 0, 0), (.if_icmp .ge 22, 3, 32, 0, 0), ex_no, ex_no, (.aload_n 0, 1, 0, 0, 0), (.iload_n 2, 1, 2, 0, 0), (.aload_n 0, 1, 0, 0, 0), (.getfield 7, 3, 8, 0, 0), ex_no, ex_no, (.iconst 2, 1, 0, 0, 2), (.iaload, 1, 0, 0, 0), (.imul, 1, 0, 0, 0), (.invokevirtual 161, 3, 128, 2, 0), ex_no, ex_no, (.istore_n 2, 1, 2, 0, 0), (.iinc 3 1, 3, 3, 0, 1), ex_no, ex_no, (.goto (-21), 3, 8, 0, 0), ex_no, ex_no, (.iload_n 2, 1, 2, 0, 0), (.ireturn, 1, 0, 0, 0)]
/-- LoopStrandsModel.prime -/
def ex_k130 : List ex_MO := [(.iload_n 1, 1, 1, 0, 0), (.invokestatic 164, 3, 126, 1, 0), ex_no, ex_no, (.ifCond .eq 14, 3, 18, 0, 0), ex_no, ex_no, (.iload_n 2, 1, 2, 0, 0), (.iconst 0, 1, 0, 0, 0), (.iload_n 1, 1, 1, 0, 0), (.iconst 1, 1, 0, 0, 1), (.isub, 1, 0, 0, 0), (.invokestatic 121, 3, 92, 3, 0), ex_no, ex_no, (.ifCond .ne 6, 3, 21, 0, 0), ex_no, ex_no, (.bipush (-2), 2, 0, 0, -2), ex_no, (.ireturn, 1, 0, 0, 0), (.aload_n 0, 1, 0, 0, 0), (.getfield 7, 3, 8, 0, 0), ex_no, ex_no, (.iconst 1, 1, 0, 0, 1), (.iaload, 1, 0, 0, 0), (.istore_n 3, 1, 3, 0, 0), (.aload_n 0, 1, 0, 0, 0), (.getfield 7, 3, 8, 0, 0), ex_no, ex_no, (.iconst 1, 1, 0, 0, 1), (.iload_n 1, 1, 1, 0, 0), (.iastore, 1, 0, 0, 0), (.aload_n 0, 1, 0, 0, 0), (.getfield 7, 3, 8, 0, 0), ex_no, ex_no, (.iconst 2, 1, 0, 0, 2), (.iload_n 2, 1, 2, 0, 0), (.iastore, 1, 0, 0, 0), (.aload_n 0, 1, 0, 0, 0), (.invokevirtual 125, 3, 106, 1, 0), ex_no, ex_no, (.iload_n 3, 1, 3, 0, 0), (.ireturn, 1, 0, 0, 0)]
/-- LoopStrandsModel.place -/
def ex_k131 : List ex_MO := [(.iconst 3, 1, 0, 0, 3), (.bipush 42, 2, 0, 0, 42), ex_no, (.iload_n 1, 1, 1, 0, 0), (.imul, 1, 0, 0, 0), (.iadd, 1, 0, 0, 0), (.iload_n 2, 1, 2, 0, 0), (.iadd, 1, 0, 0, 0), (.ireturn, 1, 0, 0, 0)]
/-- LoopStrandsModel.put -/
def ex_k132 : List ex_MO := [(.iload_n 1, 1, 1, 0, 0), (.invokestatic 167, 3, 105, 1, 0), ex_no, ex_no, (.ifCond .eq 11, 3, 15, 0, 0), ex_no, ex_no, (.aload_n 0, 1, 0, 0, 0), (.iload_n 2, 1, 2, 0, 0), (.invokevirtual 146, 3, 104, 2, 0), ex_no, ex_no, (.ifCond .ne 5, 3, 17, 0, 0), ex_no, ex_no, (.iconst (-1), 1, 0, 0, -1), (.ireturn, 1, 0, 0, 0), (.aload_n 0, 1, 0, 0, 0), (.iload_n 3, 1, 3, 0, 0), (.invokevirtual 170, 3, 127, 2, 0), ex_no, ex_no, (.ifCond .ne 6, 3, 28, 0, 0), ex_no, ex_no, (.bipush (-2), 2, 0, 0, -2), ex_no, (.ireturn, 1, 0, 0, 0), (.aload_n 0, 1, 0, 0, 0), (.getfield 7, 3, 8, 0, 0), ex_no, ex_no, (.aload_n 0, 1, 0, 0, 0), (.iload_n 1, 1, 1, 0, 0), (.iload_n 2, 1, 2, 0, 0), (.invokevirtual 173, 3, 131, 3, 0), ex_no, ex_no, (.iaload, 1, 0, 0, 0), (.istore 4, 2, 4, 0, 0), ex_no, (.aload_n 0, 1, 0, 0, 0), (.getfield 7, 3, 8, 0, 0), ex_no, ex_no, (.aload_n 0, 1, 0, 0, 0), (.iload_n 1, 1, 1, 0, 0), (.iload_n 2, 1, 2, 0, 0), (.invokevirtual 173, 3, 131, 3, 0), ex_no, ex_no, (.iload_n 3, 1, 3, 0, 0), (.iastore, 1, 0, 0, 0), (.iload 4, 2, 4, 0, 0), ex_no, (.ireturn, 1, 0, 0, 0)]
/-- LoopStrandsModel.at -/
def ex_k133 : List ex_MO := [(.iload_n 1, 1, 1, 0, 0), (.invokestatic 167, 3, 105, 1, 0), ex_no, ex_no, (.ifCond .eq 25, 3, 29, 0, 0), ex_no, ex_no, (.aload_n 0, 1, 0, 0, 0), (.iload_n 2, 1, 2, 0, 0), (.invokevirtual 146, 3, 104, 2, 0), ex_no, ex_no, (.ifCond .eq 17, 3, 29, 0, 0), ex_no, ex_no, (.aload_n 0, 1, 0, 0, 0), (.getfield 7, 3, 8, 0, 0), ex_no, ex_no, (.aload_n 0, 1, 0, 0, 0), (.iload_n 1, 1, 1, 0, 0), (.iload_n 2, 1, 2, 0, 0), (.invokevirtual 173, 3, 131, 3, 0), ex_no, ex_no, (.iaload, 1, 0, 0, 0), (.goto 4, 3, 30, 0, 0), ex_no, ex_no, (.iconst (-1), 1, 0, 0, -1), (.ireturn, 1, 0, 0, 0)]
/-- LoopStrandsModel.give -/
def ex_k134 : List ex_MO := [(.iconst 0, 1, 0, 0, 0), (.istore_n 2, 1, 2, 0, 0), (.iconst 0, 1, 0, 0, 0), (.istore_n 3, 1, 3, 0, 0), (.iload_n 3, 1, 3, 0, 0), (.aload_n 0, 1, 0, 0, 0), (.getfield 87, 3, 8, 7, 0), ex_no, ex_no, (.if_icmp .ge 43, 3, 52, 0, 0), ex_no, ex_no, (.aload_n 0, 1, 0, 0, 0), (.getfield 7, 3, 8, 0, 0), ex_no, ex_no, (.aload_n 0, 1, 0, 0, 0), (.iload_n 1, 1, 1, 0, 0), (.iload_n 3, 1, 3, 0, 0), (.invokevirtual 173, 3, 131, 3, 0), ex_no, ex_no, (.aload_n 0, 1, 0, 0, 0), (.getfield 56, 3, 8, 17, 0), ex_no, ex_no, (.iload_n 3, 1, 3, 0, 0), (.iaload, 1, 0, 0, 0), (.iastore, 1, 0, 0, 0), (.iload_n 2, 1, 2, 0, 0), (.aload_n 0, 1, 0, 0, 0), (.getfield 56, 3, 8, 17, 0), ex_no, ex_no, (.iload_n 3, 1, 3, 0, 0), (.iaload, 1, 0, 0, 0), (.ifCond .le 7, 3, 43, 0, 0), ex_no, ex_no, (.iconst 1, 1, 0, 0, 1), (.goto 4, 3, 44, 0, 0), ex_no, ex_no, (.iconst 0, 1, 0, 0, 0), (.iadd, 1, 0, 0, 0), (.istore_n 2, 1, 2, 0, 0), (.iinc 3 1, 3, 3, 0, 1), ex_no, ex_no, (.goto (-45), 3, 4, 0, 0), ex_no, ex_no, (.iload_n 2, 1, 2, 0, 0), (.ireturn, 1, 0, 0, 0)]
/-- LoopStrandsModel.stackSums -/
def ex_k135 : List ex_MO := [(.iconst 0, 1, 0, 0, 0), (.istore_n 1, 1, 1, 0, 0), (.iload_n 1, 1, 1, 0, 0), (.aload_n 0, 1, 0, 0, 0), (.getfield 87, 3, 8, 7, 0), ex_no, ex_no, (.if_icmp .ge 16, 3, 23, 0, 0), ex_no, ex_no, (.aload_n 0, 1, 0, 0, 0), (.getfield 56, 3, 8, 17, 0), ex_no, ex_no, (.iload_n 1, 1, 1, 0, 0), (.iconst 0, 1, 0, 0, 0), (.iastore, 1, 0, 0, 0), (.iinc 1 1, 3, 1, 0, 1), ex_no, ex_no, (.goto (-18), 3, 2, 0, 0), ex_no, ex_no, (.iconst 0, 1, 0, 0, 0), (.istore_n 1, 1, 1, 0, 0), (.iload_n 1, 1, 1, 0, 0), (.aload_n 0, 1, 0, 0, 0), (.getfield 87, 3, 8, 7, 0), ex_no, ex_no, (.if_icmp .ge 96, 3, 126, 0, 0), ex_no, ex_no, (.iconst 0, 1, 0, 0, 0), (.istore_n 2, 1, 2, 0, 0), (.iload_n 2, 1, 2, 0, 0), (.aload_n 0, 1, 0, 0, 0), (.getfield 87, 3, 8, 7, 0), ex_no, ex_no, (.if_icmp .ge 80, 3, 120, 0, 0), ex_no, ex_no, (.aload_n 0, 1, 0, 0, 0), (.aload_n 0, 1, 0, 0, 0), (.aload_n 0, 1, 0, 0, 0), (.getfield 59, 3, 8, 18, 0), ex_no, ex_no, (.iload_n 1, 1, 1, 0, 0), (.iaload, 1, 0, 0, 0), (.aload_n 0, 1, 0, 0, 0), (.getfield 62, 3, 8, 19, 0), ex_no, ex_no, (.iload_n 2, 1, 2, 0, 0), (.iaload, 1, 0, 0, 0), (.imul, 1, 0, 0, 0), (.invokevirtual 161, 3, 128, 2, 0), ex_no, ex_no, (.aload_n 0, 1, 0, 0, 0), (.aload_n 0, 1, 0, 0, 0), (.getfield 32, 3, 8, 9, 0), ex_no, ex_no, (.bipush 42, 2, 0, 0, 42), ex_no, (.iload_n 1, 1, 1, 0, 0), (.imul, 1, 0, 0, 0), (.iload_n 2, 1, 2, 0, 0), (.iadd, 1, 0, 0, 0), (.iaload, 1, 0, 0, 0), (.invokevirtual 176, 3, 129, 2, 0), ex_no, ex_no, (.imul, 1, 0, 0, 0), (.invokevirtual 161, 3, 128, 2, 0), ex_no, ex_no, (.istore_n 3, 1, 3, 0, 0), (.aload_n 0, 1, 0, 0, 0), (.getfield 29, 3, 8, 8, 0), ex_no, ex_no, (.bipush 42, 2, 0, 0, 42), ex_no, (.iload_n 1, 1, 1, 0, 0), (.imul, 1, 0, 0, 0), (.iload_n 2, 1, 2, 0, 0), (.iadd, 1, 0, 0, 0), (.iaload, 1, 0, 0, 0), (.istore 4, 2, 4, 0, 0), ex_no, (.aload_n 0, 1, 0, 0, 0), (.getfield 56, 3, 8, 17, 0), ex_no, ex_no, (.iload 4, 2, 4, 0, 0), ex_no, (.aload_n 0, 1, 0, 0, 0), (.aload_n 0, 1, 0, 0, 0), (.getfield 56, 3, 8, 17, 0), ex_no, ex_no, (.iload 4, 2, 4, 0, 0), ex_no, (.iaload, 1, 0, 0, 0), (.iload_n 3, 1, 3, 0, 0), (.iadd, 1, 0, 0, 0), (.invokevirtual 161, 3, 128, 2, 0), ex_no, ex_no, (.iastore, 1, 0, 0, 0), (.iinc 2 1, 3, 2, 0, 1), ex_no, ex_no, (.goto (-82), 3, 35, 0, 0), ex_no, ex_no, (.iinc 1 1, 3, 1, 0, 1), ex_no, ex_no, (.goto (-98), 3, 25, 0, 0), ex_no, ex_no, (.return_, 1, 0, 0, 0)]
/-- LoopStrandsModel.both -/
def ex_k136 : List ex_MO := [(.iload_n 1, 1, 1, 0, 0), (.invokestatic 167, 3, 105, 1, 0), ex_no, ex_no, (.ifCond .eq 17, 3, 21, 0, 0), ex_no, ex_no, (.iload_n 2, 1, 2, 0, 0), (.invokestatic 167, 3, 105, 1, 0), ex_no, ex_no, (.ifCond .eq 10, 3, 21, 0, 0), ex_no, ex_no, (.iload_n 3, 1, 3, 0, 0), (.invokestatic 167, 3, 105, 1, 0), ex_no, ex_no, (.ifCond .ne 5, 3, 23, 0, 0), ex_no, ex_no, (.iconst (-1), 1, 0, 0, -1), (.ireturn, 1, 0, 0, 0), (.iload 4, 2, 4, 0, 0), ex_no, (.iconst 0, 1, 0, 0, 0), (.iconst 2, 1, 0, 0, 2), (.invokestatic 121, 3, 92, 3, 0), ex_no, ex_no, (.ifCond .ne 6, 3, 36, 0, 0), ex_no, ex_no, (.bipush (-2), 2, 0, 0, -2), ex_no, (.ireturn, 1, 0, 0, 0), (.iconst 0, 1, 0, 0, 0), (.istore 5, 2, 5, 0, 0), ex_no, (.iload 5, 2, 5, 0, 0), ex_no, (.aload_n 0, 1, 0, 0, 0), (.getfield 87, 3, 8, 7, 0), ex_no, ex_no, (.if_icmp .ge 96, 3, 141, 0, 0), ex_no, ex_no, (.aload_n 0, 1, 0, 0, 0), (.getfield 59, 3, 8, 18, 0), ex_no, ex_no, (.iload 5, 2, 5, 0, 0), ex_no, (.aload_n 0, 1, 0, 0, 0), (.getfield 7, 3, 8, 0, 0), ex_no, ex_no, (.aload_n 0, 1, 0, 0, 0), (.iload_n 2, 1, 2, 0, 0), (.iload 5, 2, 5, 0, 0), ex_no, (.invokevirtual 173, 3, 131, 3, 0), ex_no, ex_no, (.iaload, 1, 0, 0, 0), (.iastore, 1, 0, 0, 0), (.aload_n 0, 1, 0, 0, 0), (.getfield 62, 3, 8, 19, 0), ex_no, ex_no, (.iload 5, 2, 5, 0, 0), ex_no, (.aload_n 0, 1, 0, 0, 0), (.getfield 7, 3, 8, 0, 0), ex_no, ex_no, (.aload_n 0, 1, 0, 0, 0), (.iload_n 3, 1, 3, 0, 0), (.iload 5, 2, 5, 0, 0), ex_no, (.invokevirtual 173, 3, 131, 3, 0), ex_no, ex_no, (.iaload, 1, 0, 0, 0), (.iastore, 1, 0, 0, 0), (.aload_n 0, 1, 0, 0, 0), (.getfield 56, 3, 8, 17, 0), ex_no, ex_no, (.iload 5, 2, 5, 0, 0), ex_no, (.aload_n 0, 1, 0, 0, 0), (.iload 4, 2, 4, 0, 0), ex_no, (.ifCond .ne 21, 3, 116, 0, 0), ex_no, ex_no, (.aload_n 0, 1, 0, 0, 0), (.getfield 59, 3, 8, 18, 0), ex_no, ex_no, (.iload 5, 2, 5, 0, 0), ex_no, (.iaload, 1, 0, 0, 0), (.aload_n 0, 1, 0, 0, 0), (.getfield 62, 3, 8, 19, 0), ex_no, ex_no, (.iload 5, 2, 5, 0, 0), ex_no, (.iaload, 1, 0, 0, 0), (.iadd, 1, 0, 0, 0), (.goto 18, 3, 131, 0, 0), ex_no, ex_no, (.aload_n 0, 1, 0, 0, 0), (.getfield 59, 3, 8, 18, 0), ex_no, ex_no, (.iload 5, 2, 5, 0, 0), ex_no, (.iaload, 1, 0, 0, 0), (.aload_n 0, 1, 0, 0, 0), (.getfield 62, 3, 8, 19, 0), ex_no, ex_no, (.iload 5, 2, 5, 0, 0), ex_no, (.iaload, 1, 0, 0, 0), (.isub, 1, 0, 0, 0), (.invokevirtual 161, 3, 128, 2, 0), ex_no, ex_no, (.iastore, 1, 0, 0, 0), (.iinc 5 1, 3, 5, 0, 1), ex_no, ex_no, (.goto (-99), 3, 39, 0, 0), ex_no, ex_no, (.iload 4, 2, 4, 0, 0), ex_no, (.iconst 2, 1, 0, 0, 2), (.if_icmp .ne 7, 3, 151, 0, 0), ex_no, ex_no, (.aload_n 0, 1, 0, 0, 0), (.invokevirtual 179, 3, 135, 1, 0), ex_no, ex_no, (.aload_n 0, 1, 0, 0, 0), (.iload_n 1, 1, 1, 0, 0), (.invokevirtual 182, 3, 134, 2, 0), ex_no, ex_no, (.ireturn, 1, 0, 0, 0)]
/-- LoopStrandsModel.times -/
def ex_k137 : List ex_MO := [(.iload_n 1, 1, 1, 0, 0), (.invokestatic 167, 3, 105, 1, 0), ex_no, ex_no, (.ifCond .eq 10, 3, 14, 0, 0), ex_no, ex_no, (.iload_n 2, 1, 2, 0, 0), (.invokestatic 167, 3, 105, 1, 0), ex_no, ex_no, (.ifCond .ne 5, 3, 16, 0, 0), ex_no, ex_no, (.iconst (-1), 1, 0, 0, -1), (.ireturn, 1, 0, 0, 0), (.aload_n 0, 1, 0, 0, 0), (.iload_n 3, 1, 3, 0, 0), (.invokevirtual 170, 3, 127, 2, 0), ex_no, ex_no, (.ifCond .ne 6, 3, 27, 0, 0), ex_no, ex_no, (.bipush (-2), 2, 0, 0, -2), ex_no, (.ireturn, 1, 0, 0, 0), (.iconst 0, 1, 0, 0, 0), (.istore 4, 2, 4, 0, 0), ex_no, (.iload 4, 2, 4, 0, 0), ex_no, (.aload_n 0, 1, 0, 0, 0), (.getfield 87, 3, 8, 7, 0), ex_no, ex_no, (.if_icmp .ge 34, 3, 70, 0, 0), ex_no, ex_no, (.aload_n 0, 1, 0, 0, 0), (.getfield 56, 3, 8, 17, 0), ex_no, ex_no, (.iload 4, 2, 4, 0, 0), ex_no, (.aload_n 0, 1, 0, 0, 0), (.iload_n 3, 1, 3, 0, 0), (.aload_n 0, 1, 0, 0, 0), (.getfield 7, 3, 8, 0, 0), ex_no, ex_no, (.aload_n 0, 1, 0, 0, 0), (.iload_n 2, 1, 2, 0, 0), (.iload 4, 2, 4, 0, 0), ex_no, (.invokevirtual 173, 3, 131, 3, 0), ex_no, ex_no, (.iaload, 1, 0, 0, 0), (.imul, 1, 0, 0, 0), (.invokevirtual 161, 3, 128, 2, 0), ex_no, ex_no, (.iastore, 1, 0, 0, 0), (.iinc 4 1, 3, 4, 0, 1), ex_no, ex_no, (.goto (-37), 3, 30, 0, 0), ex_no, ex_no, (.aload_n 0, 1, 0, 0, 0), (.iload_n 1, 1, 1, 0, 0), (.invokevirtual 182, 3, 134, 2, 0), ex_no, ex_no, (.ireturn, 1, 0, 0, 0)]
/-- LoopStrandsModel.turn -/
def ex_k138 : List ex_MO := [(.iload_n 1, 1, 1, 0, 0), (.invokestatic 167, 3, 105, 1, 0), ex_no, ex_no, (.ifCond .eq 10, 3, 14, 0, 0), ex_no, ex_no, (.iload_n 2, 1, 2, 0, 0), (.invokestatic 167, 3, 105, 1, 0), ex_no, ex_no, (.ifCond .ne 5, 3, 16, 0, 0), ex_no, ex_no, (.iconst (-1), 1, 0, 0, -1), (.ireturn, 1, 0, 0, 0), (.iconst 0, 1, 0, 0, 0), (.istore_n 3, 1, 3, 0, 0), (.iload_n 3, 1, 3, 0, 0), (.aload_n 0, 1, 0, 0, 0), (.getfield 87, 3, 8, 7, 0), ex_no, ex_no, (.if_icmp .ge 30, 3, 53, 0, 0), ex_no, ex_no, (.aload_n 0, 1, 0, 0, 0), (.getfield 56, 3, 8, 17, 0), ex_no, ex_no, (.aload_n 0, 1, 0, 0, 0), (.iload_n 3, 1, 3, 0, 0), (.invokevirtual 155, 3, 120, 2, 0), ex_no, ex_no, (.aload_n 0, 1, 0, 0, 0), (.getfield 7, 3, 8, 0, 0), ex_no, ex_no, (.aload_n 0, 1, 0, 0, 0), (.iload_n 2, 1, 2, 0, 0), (.iload_n 3, 1, 3, 0, 0), (.invokevirtual 173, 3, 131, 3, 0), ex_no, ex_no, (.iaload, 1, 0, 0, 0), (.iastore, 1, 0, 0, 0), (.iinc 3 1, 3, 3, 0, 1), ex_no, ex_no, (.goto (-32), 3, 18, 0, 0), ex_no, ex_no, (.aload_n 0, 1, 0, 0, 0), (.iload_n 1, 1, 1, 0, 0), (.invokevirtual 182, 3, 134, 2, 0), ex_no, ex_no, (.ireturn, 1, 0, 0, 0)]
/-- LoopStrandsModel.trace -/
def ex_k139 : List ex_MO := [(.iload_n 1, 1, 1, 0, 0), (.invokestatic 167, 3, 105, 1, 0), ex_no, ex_no, (.ifCond .ne 5, 3, 9, 0, 0), ex_no, ex_no, (.iconst (-1), 1, 0, 0, -1), (.ireturn, 1, 0, 0, 0), (.iconst 0, 1, 0, 0, 0), (.istore_n 2, 1, 2, 0, 0), (.iconst 0, 1, 0, 0, 0), (.istore_n 3, 1, 3, 0, 0), (.iload_n 3, 1, 3, 0, 0), (.aload_n 0, 1, 0, 0, 0), (.getfield 87, 3, 8, 7, 0), ex_no, ex_no, (.if_icmp .ge 37, 3, 55, 0, 0), ex_no, ex_no, (.aload_n 0, 1, 0, 0, 0), (.iload_n 2, 1, 2, 0, 0), (.aload_n 0, 1, 0, 0, 0), (.getfield 7, 3, 8, 0, 0), ex_no, ex_no, (.aload_n 0, 1, 0, 0, 0), (.iload_n 1, 1, 1, 0, 0), (.iload_n 3, 1, 3, 0, 0), (.invokevirtual 173, 3, 131, 3, 0), ex_no, ex_no, (.iaload, 1, 0, 0, 0), (.aload_n 0, 1, 0, 0, 0), (.aload_n 0, 1, 0, 0, 0), (.iload_n 3, 1, 3, 0, 0), (.invokevirtual 152, 3, 119, 2, 0), ex_no, ex_no, (.invokevirtual 176, 3, 129, 2, 0), ex_no, ex_no, (.imul, 1, 0, 0, 0), (.iadd, 1, 0, 0, 0), (.invokevirtual 161, 3, 128, 2, 0), ex_no, ex_no, (.istore_n 2, 1, 2, 0, 0), (.iinc 3 1, 3, 3, 0, 1), ex_no, ex_no, (.goto (-39), 3, 13, 0, 0), ex_no, ex_no, (.iload_n 2, 1, 2, 0, 0), (.ireturn, 1, 0, 0, 0)]
/-- LoopStrandsModel.bracketOf -/
def ex_k140 : List ex_MO := [(.iconst 0, 1, 0, 0, 0), (.istore_n 2, 1, 2, 0, 0), (.aload_n 0, 1, 0, 0, 0), (.iconst 1, 1, 0, 0, 1), (.invokevirtual 161, 3, 128, 2, 0), ex_no, ex_no, (.istore_n 3, 1, 3, 0, 0), (.iload_n 1, 1, 1, 0, 0), (.ifCond .ne 5, 3, 14, 0, 0), ex_no, ex_no, (.iconst 0, 1, 0, 0, 0), (.ireturn, 1, 0, 0, 0), (.iconst 2, 1, 0, 0, 2), (.istore 4, 2, 4, 0, 0), ex_no, (.iload 4, 2, 4, 0, 0), ex_no, (.iload_n 1, 1, 1, 0, 0), (.if_icmp .gt 30, 3, 50, 0, 0), ex_no, ex_no, (.aload_n 0, 1, 0, 0, 0), (.aload_n 0, 1, 0, 0, 0), (.getfield 7, 3, 8, 0, 0), ex_no, ex_no, (.iconst 2, 1, 0, 0, 2), (.iaload, 1, 0, 0, 0), (.iload_n 3, 1, 3, 0, 0), (.imul, 1, 0, 0, 0), (.iload_n 2, 1, 2, 0, 0), (.isub, 1, 0, 0, 0), (.invokevirtual 161, 3, 128, 2, 0), ex_no, ex_no, (.istore 5, 2, 5, 0, 0), ex_no, (.iload_n 3, 1, 3, 0, 0), (.istore_n 2, 1, 2, 0, 0), (.iload 5, 2, 5, 0, 0), ex_no, (.istore_n 3, 1, 3, 0, 0), (.iinc 4 1, 3, 4, 0, 1), ex_no, ex_no, (.goto (-30), 3, 17, 0, 0), ex_no, ex_no, (.iload_n 3, 1, 3, 0, 0), (.ireturn, 1, 0, 0, 0)]
/-- LoopStrandsModel.bracket -/
def ex_k141 : List ex_MO := [(.iload_n 1, 1, 1, 0, 0), (.iconst 0, 1, 0, 0, 0), (.bipush 99, 2, 0, 0, 99), ex_no, (.invokestatic 121, 3, 92, 3, 0), ex_no, ex_no, (.ifCond .eq 11, 3, 18, 0, 0), ex_no, ex_no, (.aload_n 0, 1, 0, 0, 0), (.iload_n 1, 1, 1, 0, 0), (.invokevirtual 185, 3, 140, 2, 0), ex_no, ex_no, (.goto 5, 3, 20, 0, 0), ex_no, ex_no, (.bipush (-2), 2, 0, 0, -2), ex_no, (.ireturn, 1, 0, 0, 0)]
/-- LoopStrandsModel.inverse -/
def ex_k142 : List ex_MO := [(.iconst 1, 1, 0, 0, 1), (.istore_n 2, 1, 2, 0, 0), (.aload_n 0, 1, 0, 0, 0), (.iload_n 1, 1, 1, 0, 0), (.iload_n 2, 1, 2, 0, 0), (.imul, 1, 0, 0, 0), (.invokevirtual 161, 3, 128, 2, 0), ex_no, ex_no, (.aload_n 0, 1, 0, 0, 0), (.iconst 1, 1, 0, 0, 1), (.invokevirtual 161, 3, 128, 2, 0), ex_no, ex_no, (.if_icmp .eq 9, 3, 23, 0, 0), ex_no, ex_no, (.iinc 2 1, 3, 2, 0, 1), ex_no, ex_no, (.goto (-18), 3, 2, 0, 0), ex_no, ex_no, (.iload_n 2, 1, 2, 0, 0), (.ireturn, 1, 0, 0, 0)]
/-- LoopStrandsModel.growProjector -/
def ex_k143 : List ex_MO := [(.aload_n 0, 1, 0, 0, 0), (.aload_n 0, 1, 0, 0, 0), (.iload_n 1, 1, 1, 0, 0), (.invokevirtual 185, 3, 140, 2, 0), ex_no, ex_no, (.aload_n 0, 1, 0, 0, 0), (.aload_n 0, 1, 0, 0, 0), (.iload_n 1, 1, 1, 0, 0), (.iconst 1, 1, 0, 0, 1), (.iadd, 1, 0, 0, 0), (.invokevirtual 185, 3, 140, 2, 0), ex_no, ex_no, (.invokevirtual 188, 3, 142, 2, 0), ex_no, ex_no, (.imul, 1, 0, 0, 0), (.invokevirtual 161, 3, 128, 2, 0), ex_no, ex_no, (.istore_n 2, 1, 2, 0, 0), (.aload_n 0, 1, 0, 0, 0), (.iload_n 1, 1, 1, 0, 0), (.invokevirtual 143, 3, 116, 2, 0), ex_no, ex_no, (.istore_n 3, 1, 3, 0, 0), (.iconst 0, 1, 0, 0, 0), (.istore 4, 2, 4, 0, 0), ex_no, (.iload 4, 2, 4, 0, 0), ex_no, (.aload_n 0, 1, 0, 0, 0), (.getfield 87, 3, 8, 7, 0), ex_no, ex_no, (.if_icmp .ge 45, 3, 82, 0, 0), ex_no, ex_no, (.aload_n 0, 1, 0, 0, 0), (.getfield 59, 3, 8, 18, 0), ex_no, ex_no, (.iload 4, 2, 4, 0, 0), ex_no, (.aload_n 0, 1, 0, 0, 0), (.getfield 65, 3, 8, 20, 0), ex_no, ex_no, (.iload 4, 2, 4, 0, 0), ex_no, (.iaload, 1, 0, 0, 0), (.iastore, 1, 0, 0, 0), (.aload_n 0, 1, 0, 0, 0), (.getfield 62, 3, 8, 19, 0), ex_no, ex_no, (.iload 4, 2, 4, 0, 0), ex_no, (.iload 4, 2, 4, 0, 0), ex_no, (.iload_n 3, 1, 3, 0, 0), (.if_icmp .ne 11, 3, 74, 0, 0), ex_no, ex_no, (.aload_n 0, 1, 0, 0, 0), (.iconst 1, 1, 0, 0, 1), (.invokevirtual 161, 3, 128, 2, 0), ex_no, ex_no, (.goto 4, 3, 75, 0, 0), ex_no, ex_no, (.iconst 0, 1, 0, 0, 0), (.iastore, 1, 0, 0, 0), (.iinc 4 1, 3, 4, 0, 1), ex_no, ex_no, (.goto (-48), 3, 31, 0, 0), ex_no, ex_no, (.aload_n 0, 1, 0, 0, 0), (.invokevirtual 179, 3, 135, 1, 0), ex_no, ex_no, (.iconst 0, 1, 0, 0, 0), (.istore 4, 2, 4, 0, 0), ex_no, (.iload 4, 2, 4, 0, 0), ex_no, (.aload_n 0, 1, 0, 0, 0), (.getfield 87, 3, 8, 7, 0), ex_no, ex_no, (.if_icmp .ge 37, 3, 132, 0, 0), ex_no, ex_no, (.aload_n 0, 1, 0, 0, 0), (.getfield 59, 3, 8, 18, 0), ex_no, ex_no, (.iload 4, 2, 4, 0, 0), ex_no, (.aload_n 0, 1, 0, 0, 0), (.getfield 56, 3, 8, 17, 0), ex_no, ex_no, (.iload 4, 2, 4, 0, 0), ex_no, (.iaload, 1, 0, 0, 0), (.iastore, 1, 0, 0, 0), (.aload_n 0, 1, 0, 0, 0), (.getfield 62, 3, 8, 19, 0), ex_no, ex_no, (.iload 4, 2, 4, 0, 0), ex_no, (.aload_n 0, 1, 0, 0, 0), (.getfield 65, 3, 8, 20, 0), ex_no, ex_no, (.iload 4, 2, 4, 0, 0), ex_no, (.iaload, 1, 0, 0, 0), (.iastore, 1, 0, 0, 0), (.iinc 4 1, 3, 4, 0, 1), ex_no, ex_no, (.goto (-40), 3, 89, 0, 0), ex_no, ex_no, (.aload_n 0, 1, 0, 0, 0), (.invokevirtual 179, 3, 135, 1, 0), ex_no, ex_no, (.iconst 0, 1, 0, 0, 0), (.istore 4, 2, 4, 0, 0), ex_no, (.iload 4, 2, 4, 0, 0), ex_no, (.aload_n 0, 1, 0, 0, 0), (.getfield 87, 3, 8, 7, 0), ex_no, ex_no, (.if_icmp .ge 37, 3, 182, 0, 0), ex_no, ex_no, (.aload_n 0, 1, 0, 0, 0), (.getfield 65, 3, 8, 20, 0), ex_no, ex_no, (.iload 4, 2, 4, 0, 0), ex_no, (.aload_n 0, 1, 0, 0, 0), (.aload_n 0, 1, 0, 0, 0), (.getfield 65, 3, 8, 20, 0), ex_no, ex_no, (.iload 4, 2, 4, 0, 0), ex_no, (.iaload, 1, 0, 0, 0), (.iload_n 2, 1, 2, 0, 0), (.aload_n 0, 1, 0, 0, 0), (.getfield 56, 3, 8, 17, 0), ex_no, ex_no, (.iload 4, 2, 4, 0, 0), ex_no, (.iaload, 1, 0, 0, 0), (.imul, 1, 0, 0, 0), (.isub, 1, 0, 0, 0), (.invokevirtual 161, 3, 128, 2, 0), ex_no, ex_no, (.iastore, 1, 0, 0, 0), (.iinc 4 1, 3, 4, 0, 1), ex_no, ex_no, (.goto (-40), 3, 139, 0, 0), ex_no, ex_no, (.return_, 1, 0, 0, 0)]
/-- LoopStrandsModel.project -/
def ex_k144 : List ex_MO := [(.iload_n 1, 1, 1, 0, 0), (.invokestatic 167, 3, 105, 1, 0), ex_no, ex_no, (.ifCond .ne 5, 3, 9, 0, 0), ex_no, ex_no, (.iconst (-1), 1, 0, 0, -1), (.ireturn, 1, 0, 0, 0), (.iload_n 2, 1, 2, 0, 0), (.iconst 1, 1, 0, 0, 1), (.aload_n 0, 1, 0, 0, 0), (.getfield 7, 3, 8, 0, 0), ex_no, ex_no, (.iconst 0, 1, 0, 0, 0), (.iaload, 1, 0, 0, 0), (.invokestatic 121, 3, 92, 3, 0), ex_no, ex_no, (.ifCond .ne 6, 3, 26, 0, 0), ex_no, ex_no, (.bipush (-2), 2, 0, 0, -2), ex_no, (.ireturn, 1, 0, 0, 0), (.iconst 2, 1, 0, 0, 2), (.istore_n 3, 1, 3, 0, 0), (.iload_n 3, 1, 3, 0, 0), (.iload_n 2, 1, 2, 0, 0), (.if_icmp .gt 20, 3, 50, 0, 0), ex_no, ex_no, (.aload_n 0, 1, 0, 0, 0), (.iload_n 3, 1, 3, 0, 0), (.invokevirtual 185, 3, 140, 2, 0), ex_no, ex_no, (.ifCond .ne 6, 3, 44, 0, 0), ex_no, ex_no, (.bipush (-3), 2, 0, 0, -3), ex_no, (.ireturn, 1, 0, 0, 0), (.iinc 3 1, 3, 3, 0, 1), ex_no, ex_no, (.goto (-19), 3, 28, 0, 0), ex_no, ex_no, (.iconst 0, 1, 0, 0, 0), (.istore_n 3, 1, 3, 0, 0), (.iload_n 3, 1, 3, 0, 0), (.aload_n 0, 1, 0, 0, 0), (.getfield 87, 3, 8, 7, 0), ex_no, ex_no, (.if_icmp .ge 28, 3, 85, 0, 0), ex_no, ex_no, (.aload_n 0, 1, 0, 0, 0), (.getfield 65, 3, 8, 20, 0), ex_no, ex_no, (.iload_n 3, 1, 3, 0, 0), (.iload_n 3, 1, 3, 0, 0), (.ifCond .ne 11, 3, 77, 0, 0), ex_no, ex_no, (.aload_n 0, 1, 0, 0, 0), (.iconst 1, 1, 0, 0, 1), (.invokevirtual 161, 3, 128, 2, 0), ex_no, ex_no, (.goto 4, 3, 78, 0, 0), ex_no, ex_no, (.iconst 0, 1, 0, 0, 0), (.iastore, 1, 0, 0, 0), (.iinc 3 1, 3, 3, 0, 1), ex_no, ex_no, (.goto (-30), 3, 52, 0, 0), ex_no, ex_no, (.iconst 1, 1, 0, 0, 1), (.istore_n 3, 1, 3, 0, 0), (.iload_n 3, 1, 3, 0, 0), (.iload_n 2, 1, 2, 0, 0), (.if_icmp .ge 14, 3, 103, 0, 0), ex_no, ex_no, (.aload_n 0, 1, 0, 0, 0), (.iload_n 3, 1, 3, 0, 0), (.invokevirtual 191, 3, 143, 2, 0), ex_no, ex_no, (.iinc 3 1, 3, 3, 0, 1), ex_no, ex_no, (.goto (-13), 3, 87, 0, 0), ex_no, ex_no, (.iconst 0, 1, 0, 0, 0), (.istore_n 3, 1, 3, 0, 0), (.iload_n 3, 1, 3, 0, 0), (.aload_n 0, 1, 0, 0, 0), (.getfield 87, 3, 8, 7, 0), ex_no, ex_no, (.if_icmp .ge 21, 3, 131, 0, 0), ex_no, ex_no, (.aload_n 0, 1, 0, 0, 0), (.getfield 56, 3, 8, 17, 0), ex_no, ex_no, (.iload_n 3, 1, 3, 0, 0), (.aload_n 0, 1, 0, 0, 0), (.getfield 65, 3, 8, 20, 0), ex_no, ex_no, (.iload_n 3, 1, 3, 0, 0), (.iaload, 1, 0, 0, 0), (.iastore, 1, 0, 0, 0), (.iinc 3 1, 3, 3, 0, 1), ex_no, ex_no, (.goto (-23), 3, 105, 0, 0), ex_no, ex_no, (.aload_n 0, 1, 0, 0, 0), (.iload_n 1, 1, 1, 0, 0), (.invokevirtual 182, 3, 134, 2, 0), ex_no, ex_no, (.ireturn, 1, 0, 0, 0)]
/-- LoopStrandsModel.layHalf -/
def ex_k145 : List ex_MO := [(.iconst 0, 1, 0, 0, 0), (.istore_n 3, 1, 3, 0, 0), (.iconst 0, 1, 0, 0, 0), (.istore 4, 2, 4, 0, 0), ex_no, (.iload_n 1, 1, 1, 0, 0), (.istore 5, 2, 5, 0, 0), ex_no, (.iconst 1, 1, 0, 0, 1), (.istore 6, 2, 6, 0, 0), ex_no, (.aload_n 0, 1, 0, 0, 0), (.getfield 7, 3, 8, 0, 0), ex_no, ex_no, (.iconst 0, 1, 0, 0, 0), (.iaload, 1, 0, 0, 0), (.iconst 1, 1, 0, 0, 1), (.isub, 1, 0, 0, 0), (.istore 7, 2, 7, 0, 0), ex_no, (.iload 7, 2, 7, 0, 0), ex_no, (.ifCond .lt 110, 3, 133, 0, 0), ex_no, ex_no, (.iload 5, 2, 5, 0, 0), ex_no, (.iconst 3, 1, 0, 0, 3), (.irem, 1, 0, 0, 0), (.istore 8, 2, 8, 0, 0), ex_no, (.iload 5, 2, 5, 0, 0), ex_no, (.iconst 3, 1, 0, 0, 3), (.idiv, 1, 0, 0, 0), (.istore 5, 2, 5, 0, 0), ex_no, (.iload 8, 2, 8, 0, 0), ex_no, (.iconst 1, 1, 0, 0, 1), (.if_icmp .ne 17, 3, 58, 0, 0), ex_no, ex_no, (.aload_n 0, 1, 0, 0, 0), (.getfield 38, 3, 8, 11, 0), ex_no, ex_no, (.iload_n 3, 1, 3, 0, 0), (.iload 7, 2, 7, 0, 0), ex_no, (.iastore, 1, 0, 0, 0), (.iinc 3 1, 3, 3, 0, 1), ex_no, ex_no, (.goto 72, 3, 127, 0, 0), ex_no, ex_no, (.iload 8, 2, 8, 0, 0), ex_no, (.ifCond .ne 39, 3, 99, 0, 0), ex_no, ex_no, (.iload_n 3, 1, 3, 0, 0), (.ifCond .le 35, 3, 99, 0, 0), ex_no, ex_no, (.iinc 3 (-1), 3, 3, 0, -1), ex_no, ex_no, (.aload_n 0, 1, 0, 0, 0), (.getfield 71, 3, 8, 23, 0), ex_no, ex_no, (.iload 7, 2, 7, 0, 0), ex_no, (.aload_n 0, 1, 0, 0, 0), (.getfield 38, 3, 8, 11, 0), ex_no, ex_no, (.iload_n 3, 1, 3, 0, 0), (.iaload, 1, 0, 0, 0), (.iastore, 1, 0, 0, 0), (.aload_n 0, 1, 0, 0, 0), (.getfield 71, 3, 8, 23, 0), ex_no, ex_no, (.aload_n 0, 1, 0, 0, 0), (.getfield 38, 3, 8, 11, 0), ex_no, ex_no, (.iload_n 3, 1, 3, 0, 0), (.iaload, 1, 0, 0, 0), (.iload 7, 2, 7, 0, 0), ex_no, (.iastore, 1, 0, 0, 0), (.goto 31, 3, 127, 0, 0), ex_no, ex_no, (.iload 8, 2, 8, 0, 0), ex_no, (.iconst 2, 1, 0, 0, 2), (.if_icmp .ne 22, 3, 124, 0, 0), ex_no, ex_no, (.iload_n 3, 1, 3, 0, 0), (.ifCond .ne 18, 3, 124, 0, 0), ex_no, ex_no, (.iinc 4 1, 3, 4, 0, 1), ex_no, ex_no, (.aload_n 0, 1, 0, 0, 0), (.getfield 71, 3, 8, 23, 0), ex_no, ex_no, (.iload 7, 2, 7, 0, 0), ex_no, (.bipush (-6), 2, 0, 0, -6), ex_no, (.iastore, 1, 0, 0, 0), (.goto 6, 3, 127, 0, 0), ex_no, ex_no, (.iconst 0, 1, 0, 0, 0), (.istore 6, 2, 6, 0, 0), ex_no, (.iinc 7 (-1), 3, 7, 0, -1), ex_no, ex_no, (.goto (-109), 3, 21, 0, 0), ex_no, ex_no, (.iload 6, 2, 6, 0, 0), ex_no, (.ifCond .eq 17, 3, 152, 0, 0), ex_no, ex_no, (.iload_n 3, 1, 3, 0, 0), (.ifCond .ne 13, 3, 152, 0, 0), ex_no, ex_no, (.iload 4, 2, 4, 0, 0), ex_no, (.iload_n 2, 1, 2, 0, 0), (.if_icmp .ne 7, 3, 152, 0, 0), ex_no, ex_no, (.iconst 1, 1, 0, 0, 1), (.goto 4, 3, 153, 0, 0), ex_no, ex_no, (.iconst 0, 1, 0, 0, 0), (.ireturn, 1, 1, 0, 0)]
/-- LoopStrandsModel.layHalves -/
def ex_k146 : List ex_MO := [(.aload_n 0, 1, 0, 0, 0), (.iconst 0, 1, 0, 0, 0), (.putfield 195, 3, 8, 22, 0), ex_no, ex_no, (.iconst 1, 1, 0, 0, 1), (.istore_n 2, 1, 2, 0, 0), (.iconst 0, 1, 0, 0, 0), (.istore_n 3, 1, 3, 0, 0), (.iload_n 3, 1, 3, 0, 0), (.aload_n 0, 1, 0, 0, 0), (.getfield 7, 3, 8, 0, 0), ex_no, ex_no, (.iconst 0, 1, 0, 0, 0), (.iaload, 1, 0, 0, 0), (.if_icmp .ge 13, 3, 29, 0, 0), ex_no, ex_no, (.iload_n 2, 1, 2, 0, 0), (.iconst 3, 1, 0, 0, 3), (.imul, 1, 0, 0, 0), (.istore_n 2, 1, 2, 0, 0), (.iinc 3 1, 3, 3, 0, 1), ex_no, ex_no, (.goto (-17), 3, 9, 0, 0), ex_no, ex_no, (.iconst 0, 1, 0, 0, 0), (.istore_n 3, 1, 3, 0, 0), (.iload_n 3, 1, 3, 0, 0), (.iload_n 2, 1, 2, 0, 0), (.if_icmp .ge 69, 3, 102, 0, 0), ex_no, ex_no, (.aload_n 0, 1, 0, 0, 0), (.iload_n 3, 1, 3, 0, 0), (.iload_n 1, 1, 1, 0, 0), (.invokevirtual 198, 3, 145, 3, 0), ex_no, ex_no, (.ifCond .eq 54, 3, 96, 0, 0), ex_no, ex_no, (.iconst 0, 1, 0, 0, 0), (.istore 4, 2, 4, 0, 0), ex_no, (.iload 4, 2, 4, 0, 0), ex_no, (.aload_n 0, 1, 0, 0, 0), (.getfield 7, 3, 8, 0, 0), ex_no, ex_no, (.iconst 0, 1, 0, 0, 0), (.iaload, 1, 0, 0, 0), (.if_icmp .ge 30, 3, 86, 0, 0), ex_no, ex_no, (.aload_n 0, 1, 0, 0, 0), (.getfield 68, 3, 8, 21, 0), ex_no, ex_no, (.iconst 5, 1, 0, 0, 5), (.aload_n 0, 1, 0, 0, 0), (.getfield 195, 3, 8, 22, 0), ex_no, ex_no, (.imul, 1, 0, 0, 0), (.iload 4, 2, 4, 0, 0), ex_no, (.iadd, 1, 0, 0, 0), (.aload_n 0, 1, 0, 0, 0), (.getfield 71, 3, 8, 23, 0), ex_no, ex_no, (.iload 4, 2, 4, 0, 0), ex_no, (.iaload, 1, 0, 0, 0), (.iastore, 1, 0, 0, 0), (.iinc 4 1, 3, 4, 0, 1), ex_no, ex_no, (.goto (-35), 3, 48, 0, 0), ex_no, ex_no, (.aload_n 0, 1, 0, 0, 0), (.dup, 1, 0, 0, 0), (.getfield 195, 3, 8, 22, 0), ex_no, ex_no, (.iconst 1, 1, 0, 0, 1), (.iadd, 1, 0, 0, 0), (.putfield 195, 3, 8, 22, 0), ex_no, ex_no, (.iinc 3 1, 3, 3, 0, 1), ex_no, ex_no, (.goto (-68), 3, 31, 0, 0), ex_no, ex_no, (.return_, 1, 0, 0, 0)]
/-- LoopStrandsModel.comesThrough -/
def ex_k147 : List ex_MO := [(.iload_n 3, 1, 3, 0, 0), (.istore 4, 2, 4, 0, 0), ex_no, (.iconst 1, 1, 0, 0, 1), (.istore 5, 2, 5, 0, 0), ex_no, (.aload_n 0, 1, 0, 0, 0), (.getfield 41, 3, 8, 12, 0), ex_no, ex_no, (.iload 4, 2, 4, 0, 0), ex_no, (.iconst 1, 1, 0, 0, 1), (.bastore, 1, 0, 0, 0), (.aload_n 0, 1, 0, 0, 0), (.getfield 68, 3, 8, 21, 0), ex_no, ex_no, (.iconst 5, 1, 0, 0, 5), (.iload_n 2, 1, 2, 0, 0), (.imul, 1, 0, 0, 0), (.iload 4, 2, 4, 0, 0), ex_no, (.iadd, 1, 0, 0, 0), (.iaload, 1, 0, 0, 0), (.istore 6, 2, 6, 0, 0), ex_no, (.iload 6, 2, 6, 0, 0), ex_no, (.ifCond .lt 52, 3, 81, 0, 0), ex_no, ex_no, (.iload 6, 2, 6, 0, 0), ex_no, (.istore 4, 2, 4, 0, 0), ex_no, (.aload_n 0, 1, 0, 0, 0), (.getfield 41, 3, 8, 12, 0), ex_no, ex_no, (.iload 4, 2, 4, 0, 0), ex_no, (.iconst 1, 1, 0, 0, 1), (.bastore, 1, 0, 0, 0), (.iload 5, 2, 5, 0, 0), ex_no, (.ifCond .ne 7, 3, 53, 0, 0), ex_no, ex_no, (.iconst 1, 1, 0, 0, 1), (.goto 4, 3, 54, 0, 0), ex_no, ex_no, (.iconst 0, 1, 0, 0, 0), (.istore 5, 2, 5, 0, 0), ex_no, (.aload_n 0, 1, 0, 0, 0), (.getfield 68, 3, 8, 21, 0), ex_no, ex_no, (.iconst 5, 1, 0, 0, 5), (.iload 5, 2, 5, 0, 0), ex_no, (.ifCond .eq 7, 3, 70, 0, 0), ex_no, ex_no, (.iload_n 2, 1, 2, 0, 0), (.goto 4, 3, 71, 0, 0), ex_no, ex_no, (.iload_n 1, 1, 1, 0, 0), (.imul, 1, 0, 0, 0), (.iload 4, 2, 4, 0, 0), ex_no, (.iadd, 1, 0, 0, 0), (.iaload, 1, 0, 0, 0), (.istore 6, 2, 6, 0, 0), ex_no, (.goto (-51), 3, 27, 0, 0), ex_no, ex_no, (.iload 5, 2, 5, 0, 0), ex_no, (.ireturn, 1, 1, 0, 0)]
/-- LoopStrandsModel.formOf -/
def ex_k148 : List ex_MO := [(.iconst 1, 1, 0, 0, 1), (.istore_n 3, 1, 3, 0, 0), (.iconst 0, 1, 0, 0, 0), (.istore 4, 2, 4, 0, 0), ex_no, (.iload 4, 2, 4, 0, 0), ex_no, (.aload_n 0, 1, 0, 0, 0), (.getfield 7, 3, 8, 0, 0), ex_no, ex_no, (.iconst 0, 1, 0, 0, 0), (.iaload, 1, 0, 0, 0), (.if_icmp .ge 17, 3, 30, 0, 0), ex_no, ex_no, (.aload_n 0, 1, 0, 0, 0), (.getfield 41, 3, 8, 12, 0), ex_no, ex_no, (.iload 4, 2, 4, 0, 0), ex_no, (.iconst 0, 1, 0, 0, 0), (.bastore, 1, 0, 0, 0), (.iinc 4 1, 3, 4, 0, 1), ex_no, ex_no, (.goto (-22), 3, 5, 0, 0), ex_no, ex_no, (.iconst 0, 1, 0, 0, 0), (.istore 4, 2, 4, 0, 0), ex_no, (.iload 4, 2, 4, 0, 0), ex_no, (.aload_n 0, 1, 0, 0, 0), (.getfield 7, 3, 8, 0, 0), ex_no, ex_no, (.iconst 0, 1, 0, 0, 0), (.iaload, 1, 0, 0, 0), (.if_icmp .ge 44, 3, 85, 0, 0), ex_no, ex_no, (.aload_n 0, 1, 0, 0, 0), (.getfield 68, 3, 8, 21, 0), ex_no, ex_no, (.iconst 5, 1, 0, 0, 5), (.iload_n 1, 1, 1, 0, 0), (.imul, 1, 0, 0, 0), (.iload 4, 2, 4, 0, 0), ex_no, (.iadd, 1, 0, 0, 0), (.iaload, 1, 0, 0, 0), (.ifCond .ge 24, 3, 79, 0, 0), ex_no, ex_no, (.aload_n 0, 1, 0, 0, 0), (.iload_n 1, 1, 1, 0, 0), (.iload_n 2, 1, 2, 0, 0), (.iload 4, 2, 4, 0, 0), ex_no, (.invokevirtual 202, 3, 147, 4, 0), ex_no, ex_no, (.ifCond .eq 11, 3, 77, 0, 0), ex_no, ex_no, (.iload_n 3, 1, 3, 0, 0), (.ifCond .eq 7, 3, 77, 0, 0), ex_no, ex_no, (.iconst 1, 1, 0, 0, 1), (.goto 4, 3, 78, 0, 0), ex_no, ex_no, (.iconst 0, 1, 0, 0, 0), (.istore_n 3, 1, 3, 0, 0), (.iinc 4 1, 3, 4, 0, 1), ex_no, ex_no, (.goto (-49), 3, 33, 0, 0), ex_no, ex_no, (.iload_n 3, 1, 3, 0, 0), (.ifCond .ne 5, 3, 91, 0, 0), ex_no, ex_no, (.iconst 0, 1, 0, 0, 0), (.ireturn, 1, 0, 0, 0), (.iconst 0, 1, 0, 0, 0), (.istore 4, 2, 4, 0, 0), ex_no, (.iconst 0, 1, 0, 0, 0), (.istore 5, 2, 5, 0, 0), ex_no, (.iload 5, 2, 5, 0, 0), ex_no, (.aload_n 0, 1, 0, 0, 0), (.getfield 7, 3, 8, 0, 0), ex_no, ex_no, (.iconst 0, 1, 0, 0, 0), (.iaload, 1, 0, 0, 0), (.if_icmp .ge 86, 3, 191, 0, 0), ex_no, ex_no, (.aload_n 0, 1, 0, 0, 0), (.getfield 41, 3, 8, 12, 0), ex_no, ex_no, (.iload 5, 2, 5, 0, 0), ex_no, (.baload, 1, 0, 0, 0), (.ifCond .ne 70, 3, 185, 0, 0), ex_no, ex_no, (.iinc 4 1, 3, 4, 0, 1), ex_no, ex_no, (.iload 5, 2, 5, 0, 0), ex_no, (.istore 6, 2, 6, 0, 0), ex_no, (.aload_n 0, 1, 0, 0, 0), (.getfield 41, 3, 8, 12, 0), ex_no, ex_no, (.iload 6, 2, 6, 0, 0), ex_no, (.baload, 1, 0, 0, 0), (.ifCond .ne 53, 3, 185, 0, 0), ex_no, ex_no, (.aload_n 0, 1, 0, 0, 0), (.getfield 41, 3, 8, 12, 0), ex_no, ex_no, (.iload 6, 2, 6, 0, 0), ex_no, (.iconst 1, 1, 0, 0, 1), (.bastore, 1, 0, 0, 0), (.aload_n 0, 1, 0, 0, 0), (.getfield 41, 3, 8, 12, 0), ex_no, ex_no, (.aload_n 0, 1, 0, 0, 0), (.getfield 68, 3, 8, 21, 0), ex_no, ex_no, (.iconst 5, 1, 0, 0, 5), (.iload_n 1, 1, 1, 0, 0), (.imul, 1, 0, 0, 0), (.iload 6, 2, 6, 0, 0), ex_no, (.iadd, 1, 0, 0, 0), (.iaload, 1, 0, 0, 0), (.iconst 1, 1, 0, 0, 1), (.bastore, 1, 0, 0, 0), (.aload_n 0, 1, 0, 0, 0), (.getfield 68, 3, 8, 21, 0), ex_no, ex_no, (.iconst 5, 1, 0, 0, 5), (.iload_n 2, 1, 2, 0, 0), (.imul, 1, 0, 0, 0), (.aload_n 0, 1, 0, 0, 0), (.getfield 68, 3, 8, 21, 0), ex_no, ex_no, (.iconst 5, 1, 0, 0, 5), (.iload_n 1, 1, 1, 0, 0), (.imul, 1, 0, 0, 0), (.iload 6, 2, 6, 0, 0), ex_no, (.iadd, 1, 0, 0, 0), (.iaload, 1, 0, 0, 0), (.iadd, 1, 0, 0, 0), (.iaload, 1, 0, 0, 0), (.istore 6, 2, 6, 0, 0), ex_no, (.goto (-57), 3, 125, 0, 0), ex_no, ex_no, (.iinc 5 1, 3, 5, 0, 1), ex_no, ex_no, (.goto (-91), 3, 97, 0, 0), ex_no, ex_no, (.aload_n 0, 1, 0, 0, 0), (.iload 4, 2, 4, 0, 0), ex_no, (.invokevirtual 176, 3, 129, 2, 0), ex_no, ex_no, (.ireturn, 1, 0, 0, 0)]
/-- LoopStrandsModel.isCell -/
def ex_k149 : List ex_MO := [(.iload_n 1, 1, 1, 0, 0), (.iconst 0, 1, 0, 0, 0), (.aload_n 0, 1, 0, 0, 0), (.getfield 7, 3, 8, 0, 0), ex_no, ex_no, (.iconst 0, 1, 0, 0, 0), (.iaload, 1, 0, 0, 0), (.invokestatic 121, 3, 92, 3, 0), ex_no, ex_no, (.ifCond .eq 20, 3, 31, 0, 0), ex_no, ex_no, (.aload_n 0, 1, 0, 0, 0), (.getfield 7, 3, 8, 0, 0), ex_no, ex_no, (.iconst 0, 1, 0, 0, 0), (.iaload, 1, 0, 0, 0), (.iload_n 1, 1, 1, 0, 0), (.isub, 1, 0, 0, 0), (.iconst 2, 1, 0, 0, 2), (.irem, 1, 0, 0, 0), (.ifCond .ne 7, 3, 31, 0, 0), ex_no, ex_no, (.iconst 1, 1, 0, 0, 1), (.goto 4, 3, 32, 0, 0), ex_no, ex_no, (.iconst 0, 1, 0, 0, 0), (.ireturn, 1, 1, 0, 0)]
/-- LoopStrandsModel.swapRows -/
def ex_k150 : List ex_MO := [(.iconst 0, 1, 0, 0, 0), (.istore_n 3, 1, 3, 0, 0), (.iload_n 3, 1, 3, 0, 0), (.aload_n 0, 1, 0, 0, 0), (.getfield 195, 3, 8, 22, 0), ex_no, ex_no, (.if_icmp .ge 57, 3, 64, 0, 0), ex_no, ex_no, (.aload_n 0, 1, 0, 0, 0), (.getfield 74, 3, 8, 24, 0), ex_no, ex_no, (.bipush 12, 2, 0, 0, 12), ex_no, (.iload_n 1, 1, 1, 0, 0), (.imul, 1, 0, 0, 0), (.iload_n 3, 1, 3, 0, 0), (.iadd, 1, 0, 0, 0), (.iaload, 1, 0, 0, 0), (.istore 4, 2, 4, 0, 0), ex_no, (.aload_n 0, 1, 0, 0, 0), (.getfield 74, 3, 8, 24, 0), ex_no, ex_no, (.bipush 12, 2, 0, 0, 12), ex_no, (.iload_n 1, 1, 1, 0, 0), (.imul, 1, 0, 0, 0), (.iload_n 3, 1, 3, 0, 0), (.iadd, 1, 0, 0, 0), (.aload_n 0, 1, 0, 0, 0), (.getfield 74, 3, 8, 24, 0), ex_no, ex_no, (.bipush 12, 2, 0, 0, 12), ex_no, (.iload_n 2, 1, 2, 0, 0), (.imul, 1, 0, 0, 0), (.iload_n 3, 1, 3, 0, 0), (.iadd, 1, 0, 0, 0), (.iaload, 1, 0, 0, 0), (.iastore, 1, 0, 0, 0), (.aload_n 0, 1, 0, 0, 0), (.getfield 74, 3, 8, 24, 0), ex_no, ex_no, (.bipush 12, 2, 0, 0, 12), ex_no, (.iload_n 2, 1, 2, 0, 0), (.imul, 1, 0, 0, 0), (.iload_n 3, 1, 3, 0, 0), (.iadd, 1, 0, 0, 0), (.iload 4, 2, 4, 0, 0), ex_no, (.iastore, 1, 0, 0, 0), (.iinc 3 1, 3, 3, 0, 1), ex_no, ex_no, (.goto (-59), 3, 2, 0, 0), ex_no, ex_no, (.aload_n 0, 1, 0, 0, 0), (.iload_n 1, 1, 1, 0, 0), (.iload_n 2, 1, 2, 0, 0), (.if_icmp .ne 10, 3, 77, 0, 0), ex_no, ex_no, (.aload_n 0, 1, 0, 0, 0), (.getfield 205, 3, 8, 26, 0), ex_no, ex_no, (.goto 12, 3, 86, 0, 0), ex_no, ex_no, (.aload_n 0, 1, 0, 0, 0), (.aload_n 0, 1, 0, 0, 0), (.getfield 205, 3, 8, 26, 0), ex_no, ex_no, (.ineg, 1, 0, 0, 0), (.invokevirtual 161, 3, 128, 2, 0), ex_no, ex_no, (.putfield 205, 3, 8, 26, 0), ex_no, ex_no, (.return_, 1, 0, 0, 0)]
/-- LoopStrandsModel.rowWith -/
def ex_k151 : List ex_MO := [(.iload_n 2, 1, 2, 0, 0), (.istore_n 3, 1, 3, 0, 0), (.iload_n 3, 1, 3, 0, 0), (.aload_n 0, 1, 0, 0, 0), (.getfield 195, 3, 8, 22, 0), ex_no, ex_no, (.if_icmp .ge 25, 3, 32, 0, 0), ex_no, ex_no, (.aload_n 0, 1, 0, 0, 0), (.getfield 74, 3, 8, 24, 0), ex_no, ex_no, (.bipush 12, 2, 0, 0, 12), ex_no, (.iload_n 3, 1, 3, 0, 0), (.imul, 1, 0, 0, 0), (.iload_n 1, 1, 1, 0, 0), (.iadd, 1, 0, 0, 0), (.iaload, 1, 0, 0, 0), (.ifCond .eq 5, 3, 26, 0, 0), ex_no, ex_no, (.iload_n 3, 1, 3, 0, 0), (.ireturn, 1, 0, 0, 0), (.iinc 3 1, 3, 3, 0, 1), ex_no, ex_no, (.goto (-27), 3, 2, 0, 0), ex_no, ex_no, (.bipush (-6), 2, 0, 0, -6), ex_no, (.ireturn, 1, 0, 0, 0)]
/-- LoopStrandsModel.clearBelow -/
def ex_k152 : List ex_MO := [(.aload_n 0, 1, 0, 0, 0), (.aload_n 0, 1, 0, 0, 0), (.getfield 74, 3, 8, 24, 0), ex_no, ex_no, (.bipush 12, 2, 0, 0, 12), ex_no, (.iload_n 1, 1, 1, 0, 0), (.imul, 1, 0, 0, 0), (.iload_n 2, 1, 2, 0, 0), (.iadd, 1, 0, 0, 0), (.iaload, 1, 0, 0, 0), (.invokevirtual 188, 3, 142, 2, 0), ex_no, ex_no, (.istore_n 3, 1, 3, 0, 0), (.iload_n 1, 1, 1, 0, 0), (.iconst 1, 1, 0, 0, 1), (.iadd, 1, 0, 0, 0), (.istore 4, 2, 4, 0, 0), ex_no, (.iload 4, 2, 4, 0, 0), ex_no, (.aload_n 0, 1, 0, 0, 0), (.getfield 195, 3, 8, 22, 0), ex_no, ex_no, (.if_icmp .ge 93, 3, 120, 0, 0), ex_no, ex_no, (.aload_n 0, 1, 0, 0, 0), (.aload_n 0, 1, 0, 0, 0), (.getfield 74, 3, 8, 24, 0), ex_no, ex_no, (.bipush 12, 2, 0, 0, 12), ex_no, (.iload 4, 2, 4, 0, 0), ex_no, (.imul, 1, 0, 0, 0), (.iload_n 2, 1, 2, 0, 0), (.iadd, 1, 0, 0, 0), (.iaload, 1, 0, 0, 0), (.iload_n 3, 1, 3, 0, 0), (.imul, 1, 0, 0, 0), (.invokevirtual 161, 3, 128, 2, 0), ex_no, ex_no, (.istore 5, 2, 5, 0, 0), ex_no, (.iconst 0, 1, 0, 0, 0), (.istore 6, 2, 6, 0, 0), ex_no, (.iload 6, 2, 6, 0, 0), ex_no, (.aload_n 0, 1, 0, 0, 0), (.getfield 195, 3, 8, 22, 0), ex_no, ex_no, (.if_icmp .ge 55, 3, 114, 0, 0), ex_no, ex_no, (.aload_n 0, 1, 0, 0, 0), (.getfield 74, 3, 8, 24, 0), ex_no, ex_no, (.bipush 12, 2, 0, 0, 12), ex_no, (.iload 4, 2, 4, 0, 0), ex_no, (.imul, 1, 0, 0, 0), (.iload 6, 2, 6, 0, 0), ex_no, (.iadd, 1, 0, 0, 0), (.aload_n 0, 1, 0, 0, 0), (.aload_n 0, 1, 0, 0, 0), (.getfield 74, 3, 8, 24, 0), ex_no, ex_no, (.bipush 12, 2, 0, 0, 12), ex_no, (.iload 4, 2, 4, 0, 0), ex_no, (.imul, 1, 0, 0, 0), (.iload 6, 2, 6, 0, 0), ex_no, (.iadd, 1, 0, 0, 0), (.iaload, 1, 0, 0, 0), (.iload 5, 2, 5, 0, 0), ex_no, (.aload_n 0, 1, 0, 0, 0), (.getfield 74, 3, 8, 24, 0), ex_no, ex_no, (.bipush 12, 2, 0, 0, 12), ex_no, (.iload_n 1, 1, 1, 0, 0), (.imul, 1, 0, 0, 0), (.iload 6, 2, 6, 0, 0), ex_no, (.iadd, 1, 0, 0, 0), (.iaload, 1, 0, 0, 0), (.imul, 1, 0, 0, 0), (.isub, 1, 0, 0, 0), (.invokevirtual 161, 3, 128, 2, 0), ex_no, ex_no, (.iastore, 1, 0, 0, 0), (.iinc 6 1, 3, 6, 0, 1), ex_no, ex_no, (.goto (-58), 3, 53, 0, 0), ex_no, ex_no, (.iinc 4 1, 3, 4, 0, 1), ex_no, ex_no, (.goto (-96), 3, 21, 0, 0), ex_no, ex_no, (.return_, 1, 0, 0, 0)]
/-- LoopStrandsModel.layTable -/
def ex_k153 : List ex_MO := [(.iconst 0, 1, 0, 0, 0), (.istore_n 1, 1, 1, 0, 0), (.iload_n 1, 1, 1, 0, 0), (.aload_n 0, 1, 0, 0, 0), (.getfield 195, 3, 8, 22, 0), ex_no, ex_no, (.if_icmp .ge 42, 3, 49, 0, 0), ex_no, ex_no, (.iconst 0, 1, 0, 0, 0), (.istore_n 2, 1, 2, 0, 0), (.iload_n 2, 1, 2, 0, 0), (.aload_n 0, 1, 0, 0, 0), (.getfield 195, 3, 8, 22, 0), ex_no, ex_no, (.if_icmp .ge 26, 3, 43, 0, 0), ex_no, ex_no, (.aload_n 0, 1, 0, 0, 0), (.getfield 74, 3, 8, 24, 0), ex_no, ex_no, (.bipush 12, 2, 0, 0, 12), ex_no, (.iload_n 1, 1, 1, 0, 0), (.imul, 1, 0, 0, 0), (.iload_n 2, 1, 2, 0, 0), (.iadd, 1, 0, 0, 0), (.aload_n 0, 1, 0, 0, 0), (.iload_n 1, 1, 1, 0, 0), (.iload_n 2, 1, 2, 0, 0), (.invokevirtual 208, 3, 148, 3, 0), ex_no, ex_no, (.iastore, 1, 0, 0, 0), (.iinc 2 1, 3, 2, 0, 1), ex_no, ex_no, (.goto (-28), 3, 12, 0, 0), ex_no, ex_no, (.iinc 1 1, 3, 1, 0, 1), ex_no, ex_no, (.goto (-44), 3, 2, 0, 0), ex_no, ex_no, (.aload_n 0, 1, 0, 0, 0), (.iconst 0, 1, 0, 0, 0), (.putfield 211, 3, 8, 25, 0), ex_no, ex_no, (.aload_n 0, 1, 0, 0, 0), (.aload_n 0, 1, 0, 0, 0), (.iconst 1, 1, 0, 0, 1), (.invokevirtual 161, 3, 128, 2, 0), ex_no, ex_no, (.putfield 205, 3, 8, 26, 0), ex_no, ex_no, (.iconst 0, 1, 0, 0, 0), (.istore_n 1, 1, 1, 0, 0), (.iload_n 1, 1, 1, 0, 0), (.aload_n 0, 1, 0, 0, 0), (.getfield 195, 3, 8, 22, 0), ex_no, ex_no, (.if_icmp .ge 86, 3, 156, 0, 0), ex_no, ex_no, (.aload_n 0, 1, 0, 0, 0), (.iload_n 1, 1, 1, 0, 0), (.aload_n 0, 1, 0, 0, 0), (.getfield 211, 3, 8, 25, 0), ex_no, ex_no, (.invokevirtual 214, 3, 151, 3, 0), ex_no, ex_no, (.istore_n 2, 1, 2, 0, 0), (.iload_n 2, 1, 2, 0, 0), (.ifCond .ge 11, 3, 95, 0, 0), ex_no, ex_no, (.aload_n 0, 1, 0, 0, 0), (.iconst 0, 1, 0, 0, 0), (.putfield 205, 3, 8, 26, 0), ex_no, ex_no, (.goto 58, 3, 150, 0, 0), ex_no, ex_no, (.aload_n 0, 1, 0, 0, 0), (.aload_n 0, 1, 0, 0, 0), (.getfield 211, 3, 8, 25, 0), ex_no, ex_no, (.iload_n 2, 1, 2, 0, 0), (.invokevirtual 217, 3, 150, 3, 0), ex_no, ex_no, (.aload_n 0, 1, 0, 0, 0), (.aload_n 0, 1, 0, 0, 0), (.aload_n 0, 1, 0, 0, 0), (.getfield 205, 3, 8, 26, 0), ex_no, ex_no, (.aload_n 0, 1, 0, 0, 0), (.getfield 74, 3, 8, 24, 0), ex_no, ex_no, (.bipush 12, 2, 0, 0, 12), ex_no, (.aload_n 0, 1, 0, 0, 0), (.getfield 211, 3, 8, 25, 0), ex_no, ex_no, (.imul, 1, 0, 0, 0), (.iload_n 1, 1, 1, 0, 0), (.iadd, 1, 0, 0, 0), (.iaload, 1, 0, 0, 0), (.imul, 1, 0, 0, 0), (.invokevirtual 161, 3, 128, 2, 0), ex_no, ex_no, (.putfield 205, 3, 8, 26, 0), ex_no, ex_no, (.aload_n 0, 1, 0, 0, 0), (.aload_n 0, 1, 0, 0, 0), (.getfield 211, 3, 8, 25, 0), ex_no, ex_no, (.iload_n 1, 1, 1, 0, 0), (.invokevirtual 220, 3, 152, 3, 0), ex_no, ex_no, (.aload_n 0, 1, 0, 0, 0), (.dup, 1, 0, 0, 0), (.getfield 211, 3, 8, 25, 0), ex_no, ex_no, (.iconst 1, 1, 0, 0, 1), (.iadd, 1, 0, 0, 0), (.putfield 211, 3, 8, 25, 0), ex_no, ex_no, (.iinc 1 1, 3, 1, 0, 1), ex_no, ex_no, (.goto (-88), 3, 65, 0, 0), ex_no, ex_no, (.return_, 1, 0, 0, 0)]
/-- LoopStrandsModel.cell -/
def ex_k154 : List ex_MO := [(.aload_n 0, 1, 0, 0, 0), (.iload_n 1, 1, 1, 0, 0), (.invokevirtual 223, 3, 149, 2, 0), ex_no, ex_no, (.ifCond .eq 12, 3, 17, 0, 0), ex_no, ex_no, (.iload_n 2, 1, 2, 0, 0), (.iconst 0, 1, 0, 0, 0), (.iconst 2, 1, 0, 0, 2), (.invokestatic 121, 3, 92, 3, 0), ex_no, ex_no, (.ifCond .ne 6, 3, 20, 0, 0), ex_no, ex_no, (.bipush (-2), 2, 0, 0, -2), ex_no, (.ireturn, 1, 0, 0, 0), (.aload_n 0, 1, 0, 0, 0), (.iload_n 1, 1, 1, 0, 0), (.invokevirtual 226, 3, 146, 2, 0), ex_no, ex_no, (.aload_n 0, 1, 0, 0, 0), (.invokevirtual 229, 3, 153, 1, 0), ex_no, ex_no, (.iload_n 2, 1, 2, 0, 0), (.ifCond .ne 10, 3, 40, 0, 0), ex_no, ex_no, (.aload_n 0, 1, 0, 0, 0), (.getfield 195, 3, 8, 22, 0), ex_no, ex_no, (.goto 19, 3, 56, 0, 0), ex_no, ex_no, (.iload_n 2, 1, 2, 0, 0), (.iconst 1, 1, 0, 0, 1), (.if_icmp .ne 10, 3, 52, 0, 0), ex_no, ex_no, (.aload_n 0, 1, 0, 0, 0), (.getfield 205, 3, 8, 26, 0), ex_no, ex_no, (.goto 7, 3, 56, 0, 0), ex_no, ex_no, (.aload_n 0, 1, 0, 0, 0), (.getfield 211, 3, 8, 25, 0), ex_no, ex_no, (.ireturn, 1, 0, 0, 0)]
/-- LoopStrandsModel.form -/
def ex_k155 : List ex_MO := [(.aload_n 0, 1, 0, 0, 0), (.iload_n 1, 1, 1, 0, 0), (.invokevirtual 223, 3, 149, 2, 0), ex_no, ex_no, (.ifCond .ne 6, 3, 11, 0, 0), ex_no, ex_no, (.bipush (-2), 2, 0, 0, -2), ex_no, (.ireturn, 1, 0, 0, 0), (.aload_n 0, 1, 0, 0, 0), (.iload_n 1, 1, 1, 0, 0), (.invokevirtual 226, 3, 146, 2, 0), ex_no, ex_no, (.iload_n 2, 1, 2, 0, 0), (.iconst 0, 1, 0, 0, 0), (.aload_n 0, 1, 0, 0, 0), (.getfield 195, 3, 8, 22, 0), ex_no, ex_no, (.iconst 1, 1, 0, 0, 1), (.isub, 1, 0, 0, 0), (.invokestatic 121, 3, 92, 3, 0), ex_no, ex_no, (.ifCond .eq 26, 3, 53, 0, 0), ex_no, ex_no, (.iload_n 3, 1, 3, 0, 0), (.iconst 0, 1, 0, 0, 0), (.aload_n 0, 1, 0, 0, 0), (.getfield 195, 3, 8, 22, 0), ex_no, ex_no, (.iconst 1, 1, 0, 0, 1), (.isub, 1, 0, 0, 0), (.invokestatic 121, 3, 92, 3, 0), ex_no, ex_no, (.ifCond .eq 12, 3, 53, 0, 0), ex_no, ex_no, (.aload_n 0, 1, 0, 0, 0), (.iload_n 2, 1, 2, 0, 0), (.iload_n 3, 1, 3, 0, 0), (.invokevirtual 208, 3, 148, 3, 0), ex_no, ex_no, (.goto 5, 3, 55, 0, 0), ex_no, ex_no, (.bipush (-2), 2, 0, 0, -2), ex_no, (.ireturn, 1, 0, 0, 0)]
/-- LoopStrandsModel.image -/
def ex_k156 : List ex_MO := [(.iload_n 1, 1, 1, 0, 0), (.iconst 0, 1, 0, 0, 0), (.iconst 1, 1, 0, 0, 1), (.invokestatic 121, 3, 92, 3, 0), ex_no, ex_no, (.ifCond .ne 6, 3, 12, 0, 0), ex_no, ex_no, (.bipush (-2), 2, 0, 0, -2), ex_no, (.ireturn, 1, 0, 0, 0), (.iconst 0, 1, 0, 0, 0), (.istore_n 2, 1, 2, 0, 0), (.iload_n 2, 1, 2, 0, 0), (.sipush 213, 3, 0, 0, 213), ex_no, ex_no, (.if_icmp .ge 27, 3, 45, 0, 0), ex_no, ex_no, (.aload_n 0, 1, 0, 0, 0), (.getfield 13, 3, 8, 1, 0), ex_no, ex_no, (.sipush 213, 3, 0, 0, 213), ex_no, ex_no, (.iload_n 1, 1, 1, 0, 0), (.imul, 1, 0, 0, 0), (.iload_n 2, 1, 2, 0, 0), (.iadd, 1, 0, 0, 0), (.aload_n 0, 1, 0, 0, 0), (.getfield 7, 3, 8, 0, 0), ex_no, ex_no, (.iload_n 2, 1, 2, 0, 0), (.iaload, 1, 0, 0, 0), (.iastore, 1, 0, 0, 0), (.iinc 2 1, 3, 2, 0, 1), ex_no, ex_no, (.goto (-28), 3, 14, 0, 0), ex_no, ex_no, (.aload_n 0, 1, 0, 0, 0), (.getfield 16, 3, 8, 2, 0), ex_no, ex_no, (.iload_n 1, 1, 1, 0, 0), (.iconst 1, 1, 0, 0, 1), (.bastore, 1, 0, 0, 0), (.iconst 1, 1, 0, 0, 1), (.ireturn, 1, 0, 0, 0)]
/-- LoopStrandsModel.restore -/
def ex_k157 : List ex_MO := [(.iload_n 1, 1, 1, 0, 0), (.iconst 0, 1, 0, 0, 0), (.iconst 1, 1, 0, 0, 1), (.invokestatic 121, 3, 92, 3, 0), ex_no, ex_no, (.ifCond .ne 6, 3, 12, 0, 0), ex_no, ex_no, (.bipush (-2), 2, 0, 0, -2), ex_no, (.ireturn, 1, 0, 0, 0), (.aload_n 0, 1, 0, 0, 0), (.getfield 16, 3, 8, 2, 0), ex_no, ex_no, (.iload_n 1, 1, 1, 0, 0), (.baload, 1, 0, 0, 0), (.ifCond .ne 6, 3, 24, 0, 0), ex_no, ex_no, (.bipush (-3), 2, 0, 0, -3), ex_no, (.ireturn, 1, 0, 0, 0), (.iconst 0, 1, 0, 0, 0), (.istore_n 2, 1, 2, 0, 0), (.iload_n 2, 1, 2, 0, 0), (.sipush 213, 3, 0, 0, 213), ex_no, ex_no, (.if_icmp .ge 27, 3, 57, 0, 0), ex_no, ex_no, (.aload_n 0, 1, 0, 0, 0), (.getfield 7, 3, 8, 0, 0), ex_no, ex_no, (.iload_n 2, 1, 2, 0, 0), (.aload_n 0, 1, 0, 0, 0), (.getfield 13, 3, 8, 1, 0), ex_no, ex_no, (.sipush 213, 3, 0, 0, 213), ex_no, ex_no, (.iload_n 1, 1, 1, 0, 0), (.imul, 1, 0, 0, 0), (.iload_n 2, 1, 2, 0, 0), (.iadd, 1, 0, 0, 0), (.iaload, 1, 0, 0, 0), (.iastore, 1, 0, 0, 0), (.iinc 2 1, 3, 2, 0, 1), ex_no, ex_no, (.goto (-28), 3, 26, 0, 0), ex_no, ex_no, (.aload_n 0, 1, 0, 0, 0), (.invokevirtual 77, 3, 99, 1, 0), ex_no, ex_no, (.iconst 1, 1, 0, 0, 1), (.ireturn, 1, 0, 0, 0)]
/-- LoopStrandsModel.count -/
def ex_k158 : List ex_MO := [(.iload_n 1, 1, 1, 0, 0), (.tableswitch 100 0 5 #[39, 46, 51, 58, 65, 70], 39, 101, 0, 0), ex_no, ex_no, ex_no, ex_no, ex_no, ex_no, ex_no, ex_no, ex_no, ex_no, ex_no, ex_no, ex_no, ex_no, ex_no, ex_no, ex_no, ex_no, ex_no, ex_no, ex_no, ex_no, ex_no, ex_no, ex_no, ex_no, ex_no, ex_no, ex_no, ex_no, ex_no, ex_no, ex_no, ex_no, ex_no, ex_no, ex_no, ex_no, (.aload_n 0, 1, 0, 0, 0), (.getfield 7, 3, 8, 0, 0), ex_no, ex_no, (.iconst 0, 1, 0, 0, 0), (.iaload, 1, 0, 0, 0), (.ireturn, 1, 0, 0, 0), (.aload_n 0, 1, 0, 0, 0), (.getfield 87, 3, 8, 7, 0), ex_no, ex_no, (.ireturn, 1, 0, 0, 0), (.aload_n 0, 1, 0, 0, 0), (.getfield 7, 3, 8, 0, 0), ex_no, ex_no, (.iconst 1, 1, 0, 0, 1), (.iaload, 1, 0, 0, 0), (.ireturn, 1, 0, 0, 0), (.aload_n 0, 1, 0, 0, 0), (.getfield 7, 3, 8, 0, 0), ex_no, ex_no, (.iconst 2, 1, 0, 0, 2), (.iaload, 1, 0, 0, 0), (.ireturn, 1, 0, 0, 0), (.aload_n 0, 1, 0, 0, 0), (.getfield 128, 3, 8, 4, 0), ex_no, ex_no, (.ireturn, 1, 0, 0, 0), (.aload_n 0, 1, 0, 0, 0), (.getfield 16, 3, 8, 2, 0), ex_no, ex_no, (.iconst 0, 1, 0, 0, 0), (.baload, 1, 0, 0, 0), (.ifCond .eq 7, 3, 84, 0, 0), ex_no, ex_no, (.iconst 1, 1, 0, 0, 1), (.goto 4, 3, 85, 0, 0), ex_no, ex_no, (.iconst 0, 1, 0, 0, 0), (.aload_n 0, 1, 0, 0, 0), (.getfield 16, 3, 8, 2, 0), ex_no, ex_no, (.iconst 1, 1, 0, 0, 1), (.baload, 1, 0, 0, 0), (.ifCond .eq 7, 3, 98, 0, 0), ex_no, ex_no, (.iconst 2, 1, 0, 0, 2), (.goto 4, 3, 99, 0, 0), ex_no, ex_no, (.iconst 0, 1, 0, 0, 0), (.iadd, 1, 0, 0, 0), (.ireturn, 1, 0, 0, 0), (.bipush (-2), 2, 0, 0, -2), ex_no, (.ireturn, 1, 0, 0, 0)]
/-- java/util/Arrays.fill -/
def ex_k159 : List ex_MO := [(.iconst 0, 1, 0, 0, 0), (.istore_n 2, 1, 2, 0, 0), (.aload_n 0, 1, 0, 0, 0), (.arraylength, 1, 0, 0, 0), (.istore_n 3, 1, 3, 0, 0), (.iload_n 2, 1, 2, 0, 0), (.iload_n 3, 1, 3, 0, 0), (.if_icmp .ge 13, 3, 20, 0, 0), ex_no, ex_no, (.aload_n 0, 1, 0, 0, 0), (.iload_n 2, 1, 2, 0, 0), (.iload_n 1, 1, 1, 0, 0), (.iastore, 1, 0, 0, 0), (.iinc 2 1, 3, 2, 0, 1), ex_no, ex_no, (.goto (-12), 3, 5, 0, 0), ex_no, ex_no, (.return_, 1, 0, 0, 0)]
/-- java/util/Arrays.copyOf -/
def ex_k160 : List ex_MO := [(.iload_n 1, 1, 1, 0, 0), (.aload_n 0, 1, 0, 0, 0), (.arraylength, 1, 0, 0, 0), (.if_icmp .ne 11, 3, 14, 0, 0), ex_no, ex_no, (.aload_n 0, 1, 0, 0, 0), (.invokevirtual 316, 3, 1002, 0, 0), ex_no, ex_no, (.checkcast 317, 3, 0, 0, 0), ex_no, ex_no, (.areturn, 1, 0, 0, 0), (.iload_n 1, 1, 1, 0, 0), (.newarray .int, 2, 0, 0, 0), ex_no, (.astore_n 2, 1, 2, 0, 0), (.aload_n 0, 1, 0, 0, 0), (.iconst 0, 1, 0, 0, 0), (.aload_n 2, 1, 2, 0, 0), (.iconst 0, 1, 0, 0, 0), (.aload_n 0, 1, 0, 0, 0), (.arraylength, 1, 0, 0, 0), (.iload_n 1, 1, 1, 0, 0), (.invokestatic 304, 3, 1003, 0, 0), ex_no, ex_no, (.invokestatic 150, 3, 1001, 0, 0), ex_no, ex_no, (.aload_n 2, 1, 2, 0, 0), (.areturn, 1, 0, 0, 0)]
/-- LoopStrandsLaw.law -/
def ex_k161 : List ex_MO := [(.new 7, 3, 7, 0, 0), ex_no, ex_no, (.dup, 1, 0, 0, 0), (.invokespecial 9, 3, 60, 1, 0), ex_no, ex_no, (.astore_n 1, 1, 1, 0, 0), (.new 10, 3, 8, 0, 0), ex_no, ex_no, (.dup, 1, 0, 0, 0), (.invokespecial 12, 3, 91, 1, 0), ex_no, ex_no, (.astore_n 2, 1, 2, 0, 0), (.iconst 0, 1, 0, 0, 0), (.istore_n 3, 1, 3, 0, 0), (.iload_n 3, 1, 3, 0, 0), (.aload_n 0, 1, 0, 0, 0), (.arraylength, 1, 0, 0, 0), (.iconst 5, 1, 0, 0, 5), (.isub, 1, 0, 0, 0), (.if_icmp .gt 849, 3, 872, 0, 0), ex_no, ex_no, (.aload_n 0, 1, 0, 0, 0), (.iload_n 3, 1, 3, 0, 0), (.iaload, 1, 0, 0, 0), (.bipush 31, 2, 0, 0, 31), ex_no, (.iand, 1, 0, 0, 0), (.tableswitch 834 0 23 #[112, 135, 158, 171, 194, 207, 230, 263, 296, 339, 372, 405, 448, 481, 534, 577, 610, 633, 656, 689, 722, 765, 788, 811], 112, 866, 0, 0), ex_no, ex_no, ex_no, ex_no, ex_no, ex_no, ex_no, ex_no, ex_no, ex_no, ex_no, ex_no, ex_no, ex_no, ex_no, ex_no, ex_no, ex_no, ex_no, ex_no, ex_no, ex_no, ex_no, ex_no, ex_no, ex_no, ex_no, ex_no, ex_no, ex_no, ex_no, ex_no, ex_no, ex_no, ex_no, ex_no, ex_no, ex_no, ex_no, ex_no, ex_no, ex_no, ex_no, ex_no, ex_no, ex_no, ex_no, ex_no, ex_no, ex_no, ex_no, ex_no, ex_no, ex_no, ex_no, ex_no, ex_no, ex_no, ex_no, ex_no, ex_no, ex_no, ex_no, ex_no, ex_no, ex_no, ex_no, ex_no, ex_no, ex_no, ex_no, ex_no, ex_no, ex_no, ex_no, ex_no, ex_no, ex_no, ex_no, ex_no, ex_no, ex_no, ex_no, ex_no, ex_no, ex_no, ex_no, ex_no, ex_no, ex_no, ex_no, ex_no, ex_no, ex_no, ex_no, ex_no, ex_no, ex_no, ex_no, ex_no, ex_no, ex_no, ex_no, ex_no, ex_no, ex_no, ex_no, ex_no, ex_no, ex_no, ex_no, (.aload_n 1, 1, 1, 0, 0), (.aload_n 0, 1, 0, 0, 0), (.iload_n 3, 1, 3, 0, 0), (.iconst 1, 1, 0, 0, 1), (.iadd, 1, 0, 0, 0), (.iaload, 1, 0, 0, 0), (.invokevirtual 13, 3, 61, 2, 0), ex_no, ex_no, (.aload_n 2, 1, 2, 0, 0), (.aload_n 0, 1, 0, 0, 0), (.iload_n 3, 1, 3, 0, 0), (.iconst 1, 1, 0, 0, 1), (.iadd, 1, 0, 0, 0), (.iaload, 1, 0, 0, 0), (.invokevirtual 17, 3, 107, 2, 0), ex_no, ex_no, (.if_icmp .eq 704, 3, 866, 0, 0), ex_no, ex_no, (.iconst 0, 1, 0, 0, 0), (.ireturn, 1, 1, 0, 0), (.aload_n 1, 1, 1, 0, 0), (.aload_n 0, 1, 0, 0, 0), (.iload_n 3, 1, 3, 0, 0), (.iconst 1, 1, 0, 0, 1), (.iadd, 1, 0, 0, 0), (.iaload, 1, 0, 0, 0), (.invokevirtual 18, 3, 62, 2, 0), ex_no, ex_no, (.aload_n 2, 1, 2, 0, 0), (.aload_n 0, 1, 0, 0, 0), (.iload_n 3, 1, 3, 0, 0), (.iconst 1, 1, 0, 0, 1), (.iadd, 1, 0, 0, 0), (.iaload, 1, 0, 0, 0), (.invokevirtual 21, 3, 108, 2, 0), ex_no, ex_no, (.if_icmp .eq 681, 3, 866, 0, 0), ex_no, ex_no, (.iconst 0, 1, 0, 0, 0), (.ireturn, 1, 1, 0, 0), (.aload_n 1, 1, 1, 0, 0), (.invokevirtual 22, 3, 63, 1, 0), ex_no, ex_no, (.aload_n 2, 1, 2, 0, 0), (.invokevirtual 26, 3, 109, 1, 0), ex_no, ex_no, (.if_icmp .eq 668, 3, 866, 0, 0), ex_no, ex_no, (.iconst 0, 1, 0, 0, 0), (.ireturn, 1, 1, 0, 0), (.aload_n 1, 1, 1, 0, 0), (.aload_n 0, 1, 0, 0, 0), (.iload_n 3, 1, 3, 0, 0), (.iconst 1, 1, 0, 0, 1), (.iadd, 1, 0, 0, 0), (.iaload, 1, 0, 0, 0), (.invokevirtual 27, 3, 64, 2, 0), ex_no, ex_no, (.aload_n 2, 1, 2, 0, 0), (.aload_n 0, 1, 0, 0, 0), (.iload_n 3, 1, 3, 0, 0), (.iconst 1, 1, 0, 0, 1), (.iadd, 1, 0, 0, 0), (.iaload, 1, 0, 0, 0), (.invokevirtual 30, 3, 113, 2, 0), ex_no, ex_no, (.if_icmp .eq 645, 3, 866, 0, 0), ex_no, ex_no, (.iconst 0, 1, 0, 0, 0), (.ireturn, 1, 1, 0, 0), (.aload_n 1, 1, 1, 0, 0), (.invokevirtual 31, 3, 65, 1, 0), ex_no, ex_no, (.aload_n 2, 1, 2, 0, 0), (.invokevirtual 34, 3, 114, 1, 0), ex_no, ex_no, (.if_icmp .eq 632, 3, 866, 0, 0), ex_no, ex_no, (.iconst 0, 1, 0, 0, 0), (.ireturn, 1, 1, 0, 0), (.aload_n 1, 1, 1, 0, 0), (.aload_n 0, 1, 0, 0, 0), (.iload_n 3, 1, 3, 0, 0), (.iconst 1, 1, 0, 0, 1), (.iadd, 1, 0, 0, 0), (.iaload, 1, 0, 0, 0), (.invokevirtual 35, 3, 66, 2, 0), ex_no, ex_no, (.aload_n 2, 1, 2, 0, 0), (.aload_n 0, 1, 0, 0, 0), (.iload_n 3, 1, 3, 0, 0), (.iconst 1, 1, 0, 0, 1), (.iadd, 1, 0, 0, 0), (.iaload, 1, 0, 0, 0), (.invokevirtual 38, 3, 117, 2, 0), ex_no, ex_no, (.if_icmp .eq 609, 3, 866, 0, 0), ex_no, ex_no, (.iconst 0, 1, 0, 0, 0), (.ireturn, 1, 1, 0, 0), (.aload_n 1, 1, 1, 0, 0), (.aload_n 0, 1, 0, 0, 0), (.iload_n 3, 1, 3, 0, 0), (.iconst 1, 1, 0, 0, 1), (.iadd, 1, 0, 0, 0), (.iaload, 1, 0, 0, 0), (.aload_n 0, 1, 0, 0, 0), (.iload_n 3, 1, 3, 0, 0), (.iconst 2, 1, 0, 0, 2), (.iadd, 1, 0, 0, 0), (.iaload, 1, 0, 0, 0), (.invokevirtual 39, 3, 67, 3, 0), ex_no, ex_no, (.aload_n 2, 1, 2, 0, 0), (.aload_n 0, 1, 0, 0, 0), (.iload_n 3, 1, 3, 0, 0), (.iconst 1, 1, 0, 0, 1), (.iadd, 1, 0, 0, 0), (.iaload, 1, 0, 0, 0), (.aload_n 0, 1, 0, 0, 0), (.iload_n 3, 1, 3, 0, 0), (.iconst 2, 1, 0, 0, 2), (.iadd, 1, 0, 0, 0), (.iaload, 1, 0, 0, 0), (.invokevirtual 43, 3, 122, 3, 0), ex_no, ex_no, (.if_icmp .eq 576, 3, 866, 0, 0), ex_no, ex_no, (.iconst 0, 1, 0, 0, 0), (.ireturn, 1, 1, 0, 0), (.aload_n 1, 1, 1, 0, 0), (.aload_n 0, 1, 0, 0, 0), (.iload_n 3, 1, 3, 0, 0), (.iconst 1, 1, 0, 0, 1), (.iadd, 1, 0, 0, 0), (.iaload, 1, 0, 0, 0), (.aload_n 0, 1, 0, 0, 0), (.iload_n 3, 1, 3, 0, 0), (.iconst 2, 1, 0, 0, 2), (.iadd, 1, 0, 0, 0), (.iaload, 1, 0, 0, 0), (.invokevirtual 44, 3, 68, 3, 0), ex_no, ex_no, (.aload_n 2, 1, 2, 0, 0), (.aload_n 0, 1, 0, 0, 0), (.iload_n 3, 1, 3, 0, 0), (.iconst 1, 1, 0, 0, 1), (.iadd, 1, 0, 0, 0), (.iaload, 1, 0, 0, 0), (.aload_n 0, 1, 0, 0, 0), (.iload_n 3, 1, 3, 0, 0), (.iconst 2, 1, 0, 0, 2), (.iadd, 1, 0, 0, 0), (.iaload, 1, 0, 0, 0), (.invokevirtual 47, 3, 123, 3, 0), ex_no, ex_no, (.if_icmp .eq 543, 3, 866, 0, 0), ex_no, ex_no, (.iconst 0, 1, 0, 0, 0), (.ireturn, 1, 1, 0, 0), (.aload_n 1, 1, 1, 0, 0), (.aload_n 0, 1, 0, 0, 0), (.iload_n 3, 1, 3, 0, 0), (.iconst 1, 1, 0, 0, 1), (.iadd, 1, 0, 0, 0), (.iaload, 1, 0, 0, 0), (.aload_n 0, 1, 0, 0, 0), (.iload_n 3, 1, 3, 0, 0), (.iconst 2, 1, 0, 0, 2), (.iadd, 1, 0, 0, 0), (.iaload, 1, 0, 0, 0), (.aload_n 0, 1, 0, 0, 0), (.iload_n 3, 1, 3, 0, 0), (.iconst 3, 1, 0, 0, 3), (.iadd, 1, 0, 0, 0), (.iaload, 1, 0, 0, 0), (.invokevirtual 48, 3, 69, 4, 0), ex_no, ex_no, (.aload_n 2, 1, 2, 0, 0), (.aload_n 0, 1, 0, 0, 0), (.iload_n 3, 1, 3, 0, 0), (.iconst 1, 1, 0, 0, 1), (.iadd, 1, 0, 0, 0), (.iaload, 1, 0, 0, 0), (.aload_n 0, 1, 0, 0, 0), (.iload_n 3, 1, 3, 0, 0), (.iconst 2, 1, 0, 0, 2), (.iadd, 1, 0, 0, 0), (.iaload, 1, 0, 0, 0), (.aload_n 0, 1, 0, 0, 0), (.iload_n 3, 1, 3, 0, 0), (.iconst 3, 1, 0, 0, 3), (.iadd, 1, 0, 0, 0), (.iaload, 1, 0, 0, 0), (.invokevirtual 52, 3, 124, 4, 0), ex_no, ex_no, (.if_icmp .eq 500, 3, 866, 0, 0), ex_no, ex_no, (.iconst 0, 1, 0, 0, 0), (.ireturn, 1, 1, 0, 0), (.aload_n 1, 1, 1, 0, 0), (.aload_n 0, 1, 0, 0, 0), (.iload_n 3, 1, 3, 0, 0), (.iconst 1, 1, 0, 0, 1), (.iadd, 1, 0, 0, 0), (.iaload, 1, 0, 0, 0), (.aload_n 0, 1, 0, 0, 0), (.iload_n 3, 1, 3, 0, 0), (.iconst 2, 1, 0, 0, 2), (.iadd, 1, 0, 0, 0), (.iaload, 1, 0, 0, 0), (.invokevirtual 53, 3, 70, 3, 0), ex_no, ex_no, (.aload_n 2, 1, 2, 0, 0), (.aload_n 0, 1, 0, 0, 0), (.iload_n 3, 1, 3, 0, 0), (.iconst 1, 1, 0, 0, 1), (.iadd, 1, 0, 0, 0), (.iaload, 1, 0, 0, 0), (.aload_n 0, 1, 0, 0, 0), (.iload_n 3, 1, 3, 0, 0), (.iconst 2, 1, 0, 0, 2), (.iadd, 1, 0, 0, 0), (.iaload, 1, 0, 0, 0), (.invokevirtual 56, 3, 125, 3, 0), ex_no, ex_no, (.if_icmp .eq 467, 3, 866, 0, 0), ex_no, ex_no, (.iconst 0, 1, 0, 0, 0), (.ireturn, 1, 1, 0, 0), (.aload_n 1, 1, 1, 0, 0), (.aload_n 0, 1, 0, 0, 0), (.iload_n 3, 1, 3, 0, 0), (.iconst 1, 1, 0, 0, 1), (.iadd, 1, 0, 0, 0), (.iaload, 1, 0, 0, 0), (.aload_n 0, 1, 0, 0, 0), (.iload_n 3, 1, 3, 0, 0), (.iconst 2, 1, 0, 0, 2), (.iadd, 1, 0, 0, 0), (.iaload, 1, 0, 0, 0), (.invokevirtual 57, 3, 71, 3, 0), ex_no, ex_no, (.aload_n 2, 1, 2, 0, 0), (.aload_n 0, 1, 0, 0, 0), (.iload_n 3, 1, 3, 0, 0), (.iconst 1, 1, 0, 0, 1), (.iadd, 1, 0, 0, 0), (.iaload, 1, 0, 0, 0), (.aload_n 0, 1, 0, 0, 0), (.iload_n 3, 1, 3, 0, 0), (.iconst 2, 1, 0, 0, 2), (.iadd, 1, 0, 0, 0), (.iaload, 1, 0, 0, 0), (.invokevirtual 60, 3, 130, 3, 0), ex_no, ex_no, (.if_icmp .eq 434, 3, 866, 0, 0), ex_no, ex_no, (.iconst 0, 1, 0, 0, 0), (.ireturn, 1, 1, 0, 0), (.aload_n 1, 1, 1, 0, 0), (.aload_n 0, 1, 0, 0, 0), (.iload_n 3, 1, 3, 0, 0), (.iconst 1, 1, 0, 0, 1), (.iadd, 1, 0, 0, 0), (.iaload, 1, 0, 0, 0), (.aload_n 0, 1, 0, 0, 0), (.iload_n 3, 1, 3, 0, 0), (.iconst 2, 1, 0, 0, 2), (.iadd, 1, 0, 0, 0), (.iaload, 1, 0, 0, 0), (.aload_n 0, 1, 0, 0, 0), (.iload_n 3, 1, 3, 0, 0), (.iconst 3, 1, 0, 0, 3), (.iadd, 1, 0, 0, 0), (.iaload, 1, 0, 0, 0), (.invokevirtual 61, 3, 72, 4, 0), ex_no, ex_no, (.aload_n 2, 1, 2, 0, 0), (.aload_n 0, 1, 0, 0, 0), (.iload_n 3, 1, 3, 0, 0), (.iconst 1, 1, 0, 0, 1), (.iadd, 1, 0, 0, 0), (.iaload, 1, 0, 0, 0), (.aload_n 0, 1, 0, 0, 0), (.iload_n 3, 1, 3, 0, 0), (.iconst 2, 1, 0, 0, 2), (.iadd, 1, 0, 0, 0), (.iaload, 1, 0, 0, 0), (.aload_n 0, 1, 0, 0, 0), (.iload_n 3, 1, 3, 0, 0), (.iconst 3, 1, 0, 0, 3), (.iadd, 1, 0, 0, 0), (.iaload, 1, 0, 0, 0), (.invokevirtual 64, 3, 132, 4, 0), ex_no, ex_no, (.if_icmp .eq 391, 3, 866, 0, 0), ex_no, ex_no, (.iconst 0, 1, 0, 0, 0), (.ireturn, 1, 1, 0, 0), (.aload_n 1, 1, 1, 0, 0), (.aload_n 0, 1, 0, 0, 0), (.iload_n 3, 1, 3, 0, 0), (.iconst 1, 1, 0, 0, 1), (.iadd, 1, 0, 0, 0), (.iaload, 1, 0, 0, 0), (.aload_n 0, 1, 0, 0, 0), (.iload_n 3, 1, 3, 0, 0), (.iconst 2, 1, 0, 0, 2), (.iadd, 1, 0, 0, 0), (.iaload, 1, 0, 0, 0), (.invokevirtual 65, 3, 73, 3, 0), ex_no, ex_no, (.aload_n 2, 1, 2, 0, 0), (.aload_n 0, 1, 0, 0, 0), (.iload_n 3, 1, 3, 0, 0), (.iconst 1, 1, 0, 0, 1), (.iadd, 1, 0, 0, 0), (.iaload, 1, 0, 0, 0), (.aload_n 0, 1, 0, 0, 0), (.iload_n 3, 1, 3, 0, 0), (.iconst 2, 1, 0, 0, 2), (.iadd, 1, 0, 0, 0), (.iaload, 1, 0, 0, 0), (.invokevirtual 68, 3, 133, 3, 0), ex_no, ex_no, (.if_icmp .eq 358, 3, 866, 0, 0), ex_no, ex_no, (.iconst 0, 1, 0, 0, 0), (.ireturn, 1, 1, 0, 0), (.aload_n 1, 1, 1, 0, 0), (.aload_n 0, 1, 0, 0, 0), (.iload_n 3, 1, 3, 0, 0), (.iconst 1, 1, 0, 0, 1), (.iadd, 1, 0, 0, 0), (.iaload, 1, 0, 0, 0), (.aload_n 0, 1, 0, 0, 0), (.iload_n 3, 1, 3, 0, 0), (.iconst 2, 1, 0, 0, 2), (.iadd, 1, 0, 0, 0), (.iaload, 1, 0, 0, 0), (.aload_n 0, 1, 0, 0, 0), (.iload_n 3, 1, 3, 0, 0), (.iconst 3, 1, 0, 0, 3), (.iadd, 1, 0, 0, 0), (.iaload, 1, 0, 0, 0), (.aload_n 0, 1, 0, 0, 0), (.iload_n 3, 1, 3, 0, 0), (.iconst 4, 1, 0, 0, 4), (.iadd, 1, 0, 0, 0), (.iaload, 1, 0, 0, 0), (.invokevirtual 69, 3, 74, 5, 0), ex_no, ex_no, (.aload_n 2, 1, 2, 0, 0), (.aload_n 0, 1, 0, 0, 0), (.iload_n 3, 1, 3, 0, 0), (.iconst 1, 1, 0, 0, 1), (.iadd, 1, 0, 0, 0), (.iaload, 1, 0, 0, 0), (.aload_n 0, 1, 0, 0, 0), (.iload_n 3, 1, 3, 0, 0), (.iconst 2, 1, 0, 0, 2), (.iadd, 1, 0, 0, 0), (.iaload, 1, 0, 0, 0), (.aload_n 0, 1, 0, 0, 0), (.iload_n 3, 1, 3, 0, 0), (.iconst 3, 1, 0, 0, 3), (.iadd, 1, 0, 0, 0), (.iaload, 1, 0, 0, 0), (.aload_n 0, 1, 0, 0, 0), (.iload_n 3, 1, 3, 0, 0), (.iconst 4, 1, 0, 0, 4), (.iadd, 1, 0, 0, 0), (.iaload, 1, 0, 0, 0), (.invokevirtual 73, 3, 136, 5, 0), ex_no, ex_no, (.if_icmp .eq 305, 3, 866, 0, 0), ex_no, ex_no, (.iconst 0, 1, 0, 0, 0), (.ireturn, 1, 1, 0, 0), (.aload_n 1, 1, 1, 0, 0), (.aload_n 0, 1, 0, 0, 0), (.iload_n 3, 1, 3, 0, 0), (.iconst 1, 1, 0, 0, 1), (.iadd, 1, 0, 0, 0), (.iaload, 1, 0, 0, 0), (.aload_n 0, 1, 0, 0, 0), (.iload_n 3, 1, 3, 0, 0), (.iconst 2, 1, 0, 0, 2), (.iadd, 1, 0, 0, 0), (.iaload, 1, 0, 0, 0), (.aload_n 0, 1, 0, 0, 0), (.iload_n 3, 1, 3, 0, 0), (.iconst 3, 1, 0, 0, 3), (.iadd, 1, 0, 0, 0), (.iaload, 1, 0, 0, 0), (.invokevirtual 74, 3, 75, 4, 0), ex_no, ex_no, (.aload_n 2, 1, 2, 0, 0), (.aload_n 0, 1, 0, 0, 0), (.iload_n 3, 1, 3, 0, 0), (.iconst 1, 1, 0, 0, 1), (.iadd, 1, 0, 0, 0), (.iaload, 1, 0, 0, 0), (.aload_n 0, 1, 0, 0, 0), (.iload_n 3, 1, 3, 0, 0), (.iconst 2, 1, 0, 0, 2), (.iadd, 1, 0, 0, 0), (.iaload, 1, 0, 0, 0), (.aload_n 0, 1, 0, 0, 0), (.iload_n 3, 1, 3, 0, 0), (.iconst 3, 1, 0, 0, 3), (.iadd, 1, 0, 0, 0), (.iaload, 1, 0, 0, 0), (.invokevirtual 77, 3, 137, 4, 0), ex_no, ex_no, (.if_icmp .eq 262, 3, 866, 0, 0), ex_no, ex_no, (.iconst 0, 1, 0, 0, 0), (.ireturn, 1, 1, 0, 0), (.aload_n 1, 1, 1, 0, 0), (.aload_n 0, 1, 0, 0, 0), (.iload_n 3, 1, 3, 0, 0), (.iconst 1, 1, 0, 0, 1), (.iadd, 1, 0, 0, 0), (.iaload, 1, 0, 0, 0), (.aload_n 0, 1, 0, 0, 0), (.iload_n 3, 1, 3, 0, 0), (.iconst 2, 1, 0, 0, 2), (.iadd, 1, 0, 0, 0), (.iaload, 1, 0, 0, 0), (.invokevirtual 78, 3, 76, 3, 0), ex_no, ex_no, (.aload_n 2, 1, 2, 0, 0), (.aload_n 0, 1, 0, 0, 0), (.iload_n 3, 1, 3, 0, 0), (.iconst 1, 1, 0, 0, 1), (.iadd, 1, 0, 0, 0), (.iaload, 1, 0, 0, 0), (.aload_n 0, 1, 0, 0, 0), (.iload_n 3, 1, 3, 0, 0), (.iconst 2, 1, 0, 0, 2), (.iadd, 1, 0, 0, 0), (.iaload, 1, 0, 0, 0), (.invokevirtual 81, 3, 138, 3, 0), ex_no, ex_no, (.if_icmp .eq 229, 3, 866, 0, 0), ex_no, ex_no, (.iconst 0, 1, 0, 0, 0), (.ireturn, 1, 1, 0, 0), (.aload_n 1, 1, 1, 0, 0), (.aload_n 0, 1, 0, 0, 0), (.iload_n 3, 1, 3, 0, 0), (.iconst 1, 1, 0, 0, 1), (.iadd, 1, 0, 0, 0), (.iaload, 1, 0, 0, 0), (.invokevirtual 82, 3, 77, 2, 0), ex_no, ex_no, (.aload_n 2, 1, 2, 0, 0), (.aload_n 0, 1, 0, 0, 0), (.iload_n 3, 1, 3, 0, 0), (.iconst 1, 1, 0, 0, 1), (.iadd, 1, 0, 0, 0), (.iaload, 1, 0, 0, 0), (.invokevirtual 85, 3, 139, 2, 0), ex_no, ex_no, (.if_icmp .eq 206, 3, 866, 0, 0), ex_no, ex_no, (.iconst 0, 1, 0, 0, 0), (.ireturn, 1, 1, 0, 0), (.aload_n 1, 1, 1, 0, 0), (.aload_n 0, 1, 0, 0, 0), (.iload_n 3, 1, 3, 0, 0), (.iconst 1, 1, 0, 0, 1), (.iadd, 1, 0, 0, 0), (.iaload, 1, 0, 0, 0), (.invokevirtual 86, 3, 78, 2, 0), ex_no, ex_no, (.aload_n 2, 1, 2, 0, 0), (.aload_n 0, 1, 0, 0, 0), (.iload_n 3, 1, 3, 0, 0), (.iconst 1, 1, 0, 0, 1), (.iadd, 1, 0, 0, 0), (.iaload, 1, 0, 0, 0), (.invokevirtual 89, 3, 141, 2, 0), ex_no, ex_no, (.if_icmp .eq 183, 3, 866, 0, 0), ex_no, ex_no, (.iconst 0, 1, 0, 0, 0), (.ireturn, 1, 1, 0, 0), (.aload_n 1, 1, 1, 0, 0), (.aload_n 0, 1, 0, 0, 0), (.iload_n 3, 1, 3, 0, 0), (.iconst 1, 1, 0, 0, 1), (.iadd, 1, 0, 0, 0), (.iaload, 1, 0, 0, 0), (.aload_n 0, 1, 0, 0, 0), (.iload_n 3, 1, 3, 0, 0), (.iconst 2, 1, 0, 0, 2), (.iadd, 1, 0, 0, 0), (.iaload, 1, 0, 0, 0), (.invokevirtual 90, 3, 79, 3, 0), ex_no, ex_no, (.aload_n 2, 1, 2, 0, 0), (.aload_n 0, 1, 0, 0, 0), (.iload_n 3, 1, 3, 0, 0), (.iconst 1, 1, 0, 0, 1), (.iadd, 1, 0, 0, 0), (.iaload, 1, 0, 0, 0), (.aload_n 0, 1, 0, 0, 0), (.iload_n 3, 1, 3, 0, 0), (.iconst 2, 1, 0, 0, 2), (.iadd, 1, 0, 0, 0), (.iaload, 1, 0, 0, 0), (.invokevirtual 93, 3, 144, 3, 0), ex_no, ex_no, (.if_icmp .eq 150, 3, 866, 0, 0), ex_no, ex_no, (.iconst 0, 1, 0, 0, 0), (.ireturn, 1, 1, 0, 0), (.aload_n 1, 1, 1, 0, 0), (.aload_n 0, 1, 0, 0, 0), (.iload_n 3, 1, 3, 0, 0), (.iconst 1, 1, 0, 0, 1), (.iadd, 1, 0, 0, 0), (.iaload, 1, 0, 0, 0), (.aload_n 0, 1, 0, 0, 0), (.iload_n 3, 1, 3, 0, 0), (.iconst 2, 1, 0, 0, 2), (.iadd, 1, 0, 0, 0), (.iaload, 1, 0, 0, 0), (.invokevirtual 94, 3, 80, 3, 0), ex_no, ex_no, (.aload_n 2, 1, 2, 0, 0), (.aload_n 0, 1, 0, 0, 0), (.iload_n 3, 1, 3, 0, 0), (.iconst 1, 1, 0, 0, 1), (.iadd, 1, 0, 0, 0), (.iaload, 1, 0, 0, 0), (.aload_n 0, 1, 0, 0, 0), (.iload_n 3, 1, 3, 0, 0), (.iconst 2, 1, 0, 0, 2), (.iadd, 1, 0, 0, 0), (.iaload, 1, 0, 0, 0), (.invokevirtual 97, 3, 154, 3, 0), ex_no, ex_no, (.if_icmp .eq 117, 3, 866, 0, 0), ex_no, ex_no, (.iconst 0, 1, 0, 0, 0), (.ireturn, 1, 1, 0, 0), (.aload_n 1, 1, 1, 0, 0), (.aload_n 0, 1, 0, 0, 0), (.iload_n 3, 1, 3, 0, 0), (.iconst 1, 1, 0, 0, 1), (.iadd, 1, 0, 0, 0), (.iaload, 1, 0, 0, 0), (.aload_n 0, 1, 0, 0, 0), (.iload_n 3, 1, 3, 0, 0), (.iconst 2, 1, 0, 0, 2), (.iadd, 1, 0, 0, 0), (.iaload, 1, 0, 0, 0), (.aload_n 0, 1, 0, 0, 0), (.iload_n 3, 1, 3, 0, 0), (.iconst 3, 1, 0, 0, 3), (.iadd, 1, 0, 0, 0), (.iaload, 1, 0, 0, 0), (.invokevirtual 98, 3, 81, 4, 0), ex_no, ex_no, (.aload_n 2, 1, 2, 0, 0), (.aload_n 0, 1, 0, 0, 0), (.iload_n 3, 1, 3, 0, 0), (.iconst 1, 1, 0, 0, 1), (.iadd, 1, 0, 0, 0), (.iaload, 1, 0, 0, 0), (.aload_n 0, 1, 0, 0, 0), (.iload_n 3, 1, 3, 0, 0), (.iconst 2, 1, 0, 0, 2), (.iadd, 1, 0, 0, 0), (.iaload, 1, 0, 0, 0), (.aload_n 0, 1, 0, 0, 0), (.iload_n 3, 1, 3, 0, 0), (.iconst 3, 1, 0, 0, 3), (.iadd, 1, 0, 0, 0), (.iaload, 1, 0, 0, 0), (.invokevirtual 101, 3, 155, 4, 0), ex_no, ex_no, (.if_icmp .eq 74, 3, 866, 0, 0), ex_no, ex_no, (.iconst 0, 1, 0, 0, 0), (.ireturn, 1, 1, 0, 0), (.aload_n 1, 1, 1, 0, 0), (.aload_n 0, 1, 0, 0, 0), (.iload_n 3, 1, 3, 0, 0), (.iconst 1, 1, 0, 0, 1), (.iadd, 1, 0, 0, 0), (.iaload, 1, 0, 0, 0), (.invokevirtual 102, 3, 82, 2, 0), ex_no, ex_no, (.aload_n 2, 1, 2, 0, 0), (.aload_n 0, 1, 0, 0, 0), (.iload_n 3, 1, 3, 0, 0), (.iconst 1, 1, 0, 0, 1), (.iadd, 1, 0, 0, 0), (.iaload, 1, 0, 0, 0), (.invokevirtual 105, 3, 156, 2, 0), ex_no, ex_no, (.if_icmp .eq 51, 3, 866, 0, 0), ex_no, ex_no, (.iconst 0, 1, 0, 0, 0), (.ireturn, 1, 1, 0, 0), (.aload_n 1, 1, 1, 0, 0), (.aload_n 0, 1, 0, 0, 0), (.iload_n 3, 1, 3, 0, 0), (.iconst 1, 1, 0, 0, 1), (.iadd, 1, 0, 0, 0), (.iaload, 1, 0, 0, 0), (.invokevirtual 106, 3, 83, 2, 0), ex_no, ex_no, (.aload_n 2, 1, 2, 0, 0), (.aload_n 0, 1, 0, 0, 0), (.iload_n 3, 1, 3, 0, 0), (.iconst 1, 1, 0, 0, 1), (.iadd, 1, 0, 0, 0), (.iaload, 1, 0, 0, 0), (.invokevirtual 109, 3, 157, 2, 0), ex_no, ex_no, (.if_icmp .eq 28, 3, 866, 0, 0), ex_no, ex_no, (.iconst 0, 1, 0, 0, 0), (.ireturn, 1, 1, 0, 0), (.aload_n 1, 1, 1, 0, 0), (.aload_n 0, 1, 0, 0, 0), (.iload_n 3, 1, 3, 0, 0), (.iconst 1, 1, 0, 0, 1), (.iadd, 1, 0, 0, 0), (.iaload, 1, 0, 0, 0), (.invokevirtual 110, 3, 84, 2, 0), ex_no, ex_no, (.aload_n 2, 1, 2, 0, 0), (.aload_n 0, 1, 0, 0, 0), (.iload_n 3, 1, 3, 0, 0), (.iconst 1, 1, 0, 0, 1), (.iadd, 1, 0, 0, 0), (.iaload, 1, 0, 0, 0), (.invokevirtual 113, 3, 158, 2, 0), ex_no, ex_no, (.if_icmp .eq 5, 3, 866, 0, 0), ex_no, ex_no, (.iconst 0, 1, 0, 0, 0), (.ireturn, 1, 1, 0, 0), (.iinc 3 5, 3, 3, 0, 5), ex_no, ex_no, (.goto (-851), 3, 18, 0, 0), ex_no, ex_no, (.iconst 1, 1, 0, 0, 1), (.ireturn, 1, 1, 0, 0)]
def ex_codes : List (List ex_MO) := [ex_k0, ex_k1, ex_k2, ex_k3, ex_k4, ex_k5, ex_k6, ex_k7, ex_k8, ex_k9, ex_k10, ex_k11, ex_k12, ex_k13, ex_k14, ex_k15, ex_k16, ex_k17, ex_k18, ex_k19, ex_k20, ex_k21, ex_k22, ex_k23, ex_k24, ex_k25, ex_k26, ex_k27, ex_k28, ex_k29, ex_k30, ex_k31, ex_k32, ex_k33, ex_k34, ex_k35, ex_k36, ex_k37, ex_k38, ex_k39, ex_k40, ex_k41, ex_k42, ex_k43, ex_k44, ex_k45, ex_k46, ex_k47, ex_k48, ex_k49, ex_k50, ex_k51, ex_k52, ex_k53, ex_k54, ex_k55, ex_k56, ex_k57, ex_k58, ex_k59, ex_k60, ex_k61, ex_k62, ex_k63, ex_k64, ex_k65, ex_k66, ex_k67, ex_k68, ex_k69, ex_k70, ex_k71, ex_k72, ex_k73, ex_k74, ex_k75, ex_k76, ex_k77, ex_k78, ex_k79, ex_k80, ex_k81, ex_k82, ex_k83, ex_k84, ex_k85, ex_k86, ex_k87, ex_k88, ex_k89, ex_k90, ex_k91, ex_k92, ex_k93, ex_k94, ex_k95, ex_k96, ex_k97, ex_k98, ex_k99, ex_k100, ex_k101, ex_k102, ex_k103, ex_k104, ex_k105, ex_k106, ex_k107, ex_k108, ex_k109, ex_k110, ex_k111, ex_k112, ex_k113, ex_k114, ex_k115, ex_k116, ex_k117, ex_k118, ex_k119, ex_k120, ex_k121, ex_k122, ex_k123, ex_k124, ex_k125, ex_k126, ex_k127, ex_k128, ex_k129, ex_k130, ex_k131, ex_k132, ex_k133, ex_k134, ex_k135, ex_k136, ex_k137, ex_k138, ex_k139, ex_k140, ex_k141, ex_k142, ex_k143, ex_k144, ex_k145, ex_k146, ex_k147, ex_k148, ex_k149, ex_k150, ex_k151, ex_k152, ex_k153, ex_k154, ex_k155, ex_k156, ex_k157, ex_k158, ex_k159, ex_k160, ex_k161]
/-- name, bytes, locals, what it returns, its class (a place in ex_own), arguments, frames, words of locals -/
abbrev ex_MT : Type := MethodName × ByteArray × Nat × Option FieldType × Nat × Nat × Nat × Nat
def ex_mt : List ex_MT := [(yX0_init, cX0_init, 1, none, 0, 1, 1, 20),
  (yX0_add, cX0_add, 6, none, 0, 5, 2, 44),
  (yX0_subtract, cX0_subtract, 6, none, 0, 5, 2, 44),
  (yX0_scale, cX0_scale, 6, none, 0, 5, 2, 44),
  (yX0_turnOver, cX0_turnOver, 5, none, 0, 4, 3, 67),
  (yX0_pile, cX0_pile, 11, none, 0, 5, 4, 98),
  (yX0_close, cX0_close, 6, (some .int), 0, 3, 3, 69),
  (yX0_makeProjector, cX0_makeProjector, 7, none, 0, 4, 5, 128),
  (yX1_init, cX1_init, 3, none, 1, 2, 5, 124),
  (yX1_opposite, cX1_opposite, 2, (some .int), 1, 2, 0, 0),
  (yX1_findHook, cX1_findHook, 3, (some .int), 1, 2, 2, 45),
  (yX1_findWays, cX1_findWays, 7, none, 1, 1, 4, 98),
  (yX1_wayLength, cX1_wayLength, 2, (some .int), 1, 2, 0, 0),
  (yX1_wayHook, cX1_wayHook, 5, (some .int), 1, 3, 0, 0),
  (yX1_through, cX1_through, 4, (some .int), 1, 2, 0, 0),
  (yX1_closedLoops, cX1_closedLoops, 2, (some .int), 1, 2, 2, 48),
  (yX1_turned, cX1_turned, 3, (some .int), 1, 2, 2, 45),
  (yX1_stackDiagram, cX1_stackDiagram, 3, (some .int), 1, 3, 4, 98),
  (yX1_stackLoops, cX1_stackLoops, 3, (some .int), 1, 3, 4, 98),
  (yX1_packedStack, cX1_packedStack, 7, (some .int), 1, 3, 3, 72),
  (yX1_farEnd, cX1_farEnd, 8, (some .int), 1, 4, 1, 21),
  (yX1_loopsBetween, cX1_loopsBetween, 5, (some .int), 1, 3, 2, 48),
  (yX2_closedLoops, cX2_closedLoops, 4, (some .int), 2, 2, 1, 25),
  (yX2_isLeastOfLoop, cX2_isLeastOfLoop, 6, (some .boolean), 2, 3, 0, 0),
  (yX2_leadsAcross, cX2_leadsAcross, 6, (some .boolean), 2, 3, 0, 0),
  (yX2_formNumber, cX2_formNumber, 4, (some .int), 2, 3, 2, 48),
  (yX3_init, cX3_init, 1, none, 3, 1, 1, 20),
  (yX3_tell, cX3_tell, 4, none, 3, 3, 2, 44),
  (yX3_leftOver, cX3_leftOver, 3, (some .int), 3, 2, 0, 0),
  (yX3_add, cX3_add, 3, (some .int), 3, 3, 1, 22),
  (yX3_subtract, cX3_subtract, 3, (some .int), 3, 3, 1, 22),
  (yX3_multiply, cX3_multiply, 3, (some .int), 3, 3, 1, 22),
  (yX3_inverse, cX3_inverse, 3, (some .int), 3, 2, 2, 44),
  (yX3_loopPower, cX3_loopPower, 2, (some .int), 3, 2, 1, 22),
  (yX3_bracketOf, cX3_bracketOf, 6, (some .int), 3, 2, 2, 44),
  (yX3_hasProjector, cX3_hasProjector, 3, (some .boolean), 3, 2, 3, 69),
  (yX4_init, cX4_init, 1, none, 4, 1, 1, 20),
  (yX4_isFull, cX4_isFull, 1, (some .boolean), 4, 1, 0, 0),
  (yX4_add, cX4_add, 2, none, 4, 2, 0, 0),
  (yX4_clear, cX4_clear, 1, none, 4, 1, 0, 0),
  (yX4_diagramFault, cX4_diagramFault, 5, (some .int), 4, 2, 0, 0),
  (yX4_wordFault, cX4_wordFault, 3, (some .int), 4, 2, 1, 22),
  (yX4_figure, cX4_figure, 2, (some .int), 4, 2, 0, 0),
  (yX4_diagramCode, cX4_diagramCode, 3, (some .int), 4, 1, 0, 0),
  (yX5_init, cX5_init, 2, none, 5, 2, 3, 67),
  (yX5_copyFrom, cX5_copyFrom, 3, none, 5, 2, 3, 67),
  (yX5_clearSums, cX5_clearSums, 2, none, 5, 1, 1, 23),
  (yX5_aboveZero, cX5_aboveZero, 7, (some .int), 5, 2, 0, 0),
  (yX6_init, cX6_init, 1, none, 6, 1, 1, 20),
  (yX6_fill, cX6_fill, 5, none, 6, 3, 3, 71),
  (yX6_eliminate, cX6_eliminate, 4, none, 6, 2, 4, 93),
  (yX6_findPivot, cX6_findPivot, 3, (some .int), 6, 2, 0, 0),
  (yX6_swapRows, cX6_swapRows, 4, none, 6, 3, 0, 0),
  (yX6_clearBelow, cX6_clearBelow, 8, none, 6, 3, 3, 66),
  (yX7_init, cX7_init, 5, none, 7, 3, 3, 74),
  (yX7_findCodes, cX7_findCodes, 6, (some .int), 7, 2, 2, 49),
  (yX7_readCode, cX7_readCode, 8, (some .boolean), 7, 3, 1, 22),
  (yX7_join, cX7_join, 3, none, 7, 3, 0, 0),
  (yX7_find, cX7_find, 3, (some .int), 7, 2, 0, 0),
  (yX7_findRow, cX7_findRow, 4, (some .int), 7, 2, 1, 22),
  (yX8_init, cX8_init, 1, none, 8, 1, 6, 146),
  (yX8_strands, cX8_strands, 2, (some .int), 8, 2, 6, 146),
  (yX8_say, cX8_say, 2, (some .int), 8, 2, 1, 22),
  (yX8_wipe, cX8_wipe, 2, (some .int), 8, 1, 1, 20),
  (yX8_fault, cX8_fault, 2, (some .int), 8, 2, 2, 44),
  (yX8_diagram, cX8_diagram, 2, (some .int), 8, 1, 1, 24),
  (yX8_word, cX8_word, 6, (some .int), 8, 2, 5, 120),
  (yX8_of, cX8_of, 3, (some .int), 8, 3, 3, 69),
  (yX8_joined, cX8_joined, 3, (some .int), 8, 3, 2, 43),
  (yX8_stack, cX8_stack, 4, (some .int), 8, 4, 5, 120),
  (yX8_way, cX8_way, 3, (some .int), 8, 3, 2, 43),
  (yX8_prime, cX8_prime, 4, (some .int), 8, 3, 3, 67),
  (yX8_put, cX8_put, 5, (some .int), 8, 4, 2, 43),
  (yX8_at, cX8_at, 3, (some .int), 8, 3, 2, 43),
  (yX8_both, cX8_both, 5, (some .int), 8, 5, 5, 128),
  (yX8_times, cX8_times, 4, (some .int), 8, 4, 3, 69),
  (yX8_turn, cX8_turn, 3, (some .int), 8, 3, 4, 91),
  (yX8_trace, cX8_trace, 2, (some .int), 8, 2, 4, 94),
  (yX8_bracket, cX8_bracket, 2, (some .int), 8, 2, 3, 69),
  (yX8_project, cX8_project, 3, (some .int), 8, 3, 6, 154),
  (yX8_cell, cX8_cell, 4, (some .int), 8, 3, 5, 116),
  (yX8_form, cX8_form, 5, (some .int), 8, 4, 3, 71),
  (yX8_image, cX8_image, 2, (some .int), 8, 2, 4, 89),
  (yX8_restore, cX8_restore, 2, (some .int), 8, 2, 4, 89),
  (yX8_count, cX8_count, 2, (some .int), 8, 2, 0, 0),
  (yX8_isWithin, cX8_isWithin, 3, (some .boolean), 8, 3, 0, 0),
  (yX8_isPrime, cX8_isPrime, 2, (some .boolean), 8, 1, 1, 22),
  (yX8_isDiagram, cX8_isDiagram, 2, (some .boolean), 8, 2, 1, 22),
  (yX8_isSlot, cX8_isSlot, 2, (some .boolean), 8, 2, 1, 22),
  (yX8_isNumber, cX8_isNumber, 2, (some .boolean), 8, 2, 1, 22),
  (yX8_hasHalves, cX8_hasHalves, 2, (some .boolean), 8, 2, 1, 22),
  (yX9_init, cX9_init, 1, none, 9, 1, 5, 113),
  (yX9_in, cX9_in, 3, (some .boolean), 9, 3, 0, 0),
  (yX9_points, cX9_points, 1, (some .int), 9, 1, 0, 0),
  (yX9_layText, cX9_layText, 5, (some .boolean), 9, 2, 1, 20),
  (yX9_textOfRow, cX9_textOfRow, 3, (some .int), 9, 1, 1, 20),
  (yX9_indexOfRow, cX9_indexOfRow, 1, (some .int), 9, 1, 2, 42),
  (yX9_to, cX9_to, 3, (some .int), 9, 3, 0, 0),
  (yX9_across, cX9_across, 2, (some .int), 9, 2, 1, 20),
  (yX9_layDiagrams, cX9_layDiagrams, 3, none, 9, 1, 4, 91),
  (yX9_endFromAbove, cX9_endFromAbove, 7, (some .int), 9, 4, 2, 41),
  (yX9_endFromBelow, cX9_endFromBelow, 6, (some .int), 9, 4, 2, 41),
  (yX9_meetRound, cX9_meetRound, 6, none, 9, 4, 2, 41),
  (yX9_layProduct, cX9_layProduct, 5, none, 9, 3, 3, 67),
  (yX9_isDiagram, cX9_isDiagram, 2, (some .boolean), 9, 2, 1, 22),
  (yX9_isSlot, cX9_isSlot, 1, (some .boolean), 9, 1, 1, 22),
  (yX9_clearSums, cX9_clearSums, 2, none, 9, 1, 0, 0),
  (yX9_strands, cX9_strands, 2, (some .int), 9, 2, 5, 113),
  (yX9_say, cX9_say, 2, (some .int), 9, 2, 1, 22),
  (yX9_wipe, cX9_wipe, 2, (some .int), 9, 1, 0, 0),
  (yX9_diagramFault, cX9_diagramFault, 5, (some .int), 9, 1, 1, 20),
  (yX9_isHook, cX9_isHook, 2, (some .boolean), 9, 2, 1, 22),
  (yX9_wordFault, cX9_wordFault, 2, (some .int), 9, 1, 2, 43),
  (yX9_fault, cX9_fault, 2, (some .int), 9, 2, 3, 64),
  (yX9_diagram, cX9_diagram, 3, (some .int), 9, 1, 2, 44),
  (yX9_joinTwo, cX9_joinTwo, 3, none, 9, 3, 0, 0),
  (yX9_hook, cX9_hook, 3, (some .int), 9, 2, 3, 62),
  (yX9_word, cX9_word, 6, (some .int), 9, 2, 4, 84),
  (yX9_through, cX9_through, 4, (some .int), 9, 2, 1, 22),
  (yX9_closedLoops, cX9_closedLoops, 7, (some .int), 9, 2, 2, 41),
  (yX9_turnedOf, cX9_turnedOf, 3, (some .int), 9, 2, 3, 62),
  (yX9_layWays, cX9_layWays, 5, none, 9, 1, 4, 84),
  (yX9_of, cX9_of, 3, (some .int), 9, 3, 5, 108),
  (yX9_joined, cX9_joined, 3, (some .int), 9, 3, 2, 43),
  (yX9_stack, cX9_stack, 4, (some .int), 9, 4, 2, 43),
  (yX9_way, cX9_way, 4, (some .int), 9, 3, 5, 108),
  (yX9_isPrime, cX9_isPrime, 3, (some .boolean), 9, 1, 1, 22),
  (yX9_isNumber, cX9_isNumber, 2, (some .boolean), 9, 2, 1, 22),
  (yX9_by, cX9_by, 3, (some .int), 9, 2, 0, 0),
  (yX9_loopTimes, cX9_loopTimes, 4, (some .int), 9, 2, 1, 22),
  (yX9_prime, cX9_prime, 4, (some .int), 9, 3, 2, 44),
  (yX9_place, cX9_place, 3, (some .int), 9, 3, 0, 0),
  (yX9_put, cX9_put, 5, (some .int), 9, 4, 2, 43),
  (yX9_at, cX9_at, 3, (some .int), 9, 3, 2, 43),
  (yX9_give, cX9_give, 4, (some .int), 9, 2, 1, 22),
  (yX9_stackSums, cX9_stackSums, 5, none, 9, 1, 2, 45),
  (yX9_both, cX9_both, 6, (some .int), 9, 5, 3, 69),
  (yX9_times, cX9_times, 5, (some .int), 9, 4, 2, 45),
  (yX9_turn, cX9_turn, 4, (some .int), 9, 3, 4, 84),
  (yX9_trace, cX9_trace, 4, (some .int), 9, 2, 3, 67),
  (yX9_bracketOf, cX9_bracketOf, 6, (some .int), 9, 2, 1, 22),
  (yX9_bracket, cX9_bracket, 2, (some .int), 9, 2, 2, 47),
  (yX9_inverse, cX9_inverse, 3, (some .int), 9, 2, 1, 22),
  (yX9_growProjector, cX9_growProjector, 5, none, 9, 2, 4, 84),
  (yX9_project, cX9_project, 4, (some .int), 9, 3, 5, 108),
  (yX9_layHalf, cX9_layHalf, 9, (some .boolean), 9, 3, 0, 0),
  (yX9_layHalves, cX9_layHalves, 5, none, 9, 2, 1, 28),
  (yX9_comesThrough, cX9_comesThrough, 7, (some .boolean), 9, 4, 0, 0),
  (yX9_formOf, cX9_formOf, 7, (some .int), 9, 3, 2, 45),
  (yX9_isCell, cX9_isCell, 2, (some .boolean), 9, 2, 1, 22),
  (yX9_swapRows, cX9_swapRows, 5, none, 9, 3, 1, 22),
  (yX9_rowWith, cX9_rowWith, 4, (some .int), 9, 3, 0, 0),
  (yX9_clearBelow, cX9_clearBelow, 7, none, 9, 3, 2, 44),
  (yX9_layTable, cX9_layTable, 3, none, 9, 1, 3, 71),
  (yX9_cell, cX9_cell, 3, (some .int), 9, 3, 4, 93),
  (yX9_form, cX9_form, 4, (some .int), 9, 4, 3, 71),
  (yX9_image, cX9_image, 3, (some .int), 9, 2, 1, 22),
  (yX9_restore, cX9_restore, 3, (some .int), 9, 2, 5, 113),
  (yX9_count, cX9_count, 2, (some .int), 9, 2, 0, 0),
  (yJ7_fill_53178, cJ7_fill_53178, 4, none, 11, 2, 0, 0),
  (yJ7_copyOf_59c91, cJ7_copyOf_59c91, 3, (some (.array .int)), 11, 2, 1, 26),
  (yL_law, cL_law, 4, (some .boolean), 12, 1, 7, 176)]
def ex_own : List String := [RX0, RX1, RX2, RX3, RX4, RX5, RX6, RX7, RX8, RX9, RJ9, RJ7, RL]
def ex_fl : List (Nat × Nat × Nat × Nat) := [(0, 9, 0, 0), (0, 15, 0, 1), (0, 18, 0, 2), (0, 21, 4, 0), (0, 27, 1, 2), (0, 33, 6, 0), (0, 39, 4, 1), (0, 80, 1, 0), (0, 83, 1, 4), (1, 9, 1, 0), (1, 15, 1, 1), (1, 23, 1, 2), (1, 27, 1, 3), (1, 31, 1, 9), (1, 35, 1, 10), (1, 38, 1, 11), (1, 41, 6, 0), (1, 44, 1, 5), (1, 53, 1, 4), (1, 60, 1, 6), (1, 63, 1, 7), (1, 66, 1, 8), (1, 87, 6, 1), (3, 9, 2, 2), (3, 15, 2, 0), (3, 19, 2, 1), (4, 11, 3, 0), (4, 15, 3, 1), (5, 9, 4, 0), (5, 18, 4, 1), (5, 28, 4, 2), (5, 31, 2, 0), (5, 35, 2, 1), (6, 11, 5, 2), (6, 16, 6, 0), (6, 28, 5, 3), (6, 29, 6, 1), (6, 38, 5, 0), (6, 41, 5, 1), (7, 9, 6, 3), (7, 15, 6, 4), (7, 18, 6, 5), (7, 21, 6, 6), (7, 29, 6, 0), (7, 38, 6, 2), (7, 43, 6, 1), (8, 10, 7, 0), (8, 18, 7, 1), (8, 30, 7, 2), (8, 34, 7, 3), (8, 41, 7, 4), (8, 48, 7, 5), (8, 56, 4, 0), (8, 63, 1, 2), (8, 67, 6, 0), (8, 80, 3, 1), (8, 86, 1, 0), (8, 103, 1, 4), (8, 133, 1, 1), (8, 136, 6, 1), (8, 146, 4, 1), (8, 150, 2, 0), (8, 165, 4, 2), (8, 205, 1, 3), (8, 217, 5, 0), (8, 220, 5, 1), (8, 233, 2, 1), (9, 7, 8, 0), (9, 13, 8, 1), (9, 16, 8, 2), (9, 20, 8, 3), (9, 23, 8, 5), (9, 26, 8, 6), (9, 29, 8, 8), (9, 32, 8, 9), (9, 35, 8, 10), (9, 38, 8, 11), (9, 41, 8, 12), (9, 44, 8, 13), (9, 47, 8, 14), (9, 50, 8, 15), (9, 53, 8, 16), (9, 56, 8, 17), (9, 59, 8, 18), (9, 62, 8, 19), (9, 65, 8, 20), (9, 68, 8, 21), (9, 71, 8, 23), (9, 74, 8, 24), (9, 87, 8, 7), (9, 128, 8, 4), (9, 195, 8, 22), (9, 205, 8, 26), (9, 211, 8, 25)]
def ex_ml : List (Nat × Nat × Nat × Nat) := [(0, 3, 1000, 2), (0, 43, 29, 1), (0, 49, 30, 1), (0, 52, 31, 1), (0, 55, 159, 0), (0, 61, 16, 1), (0, 65, 1001, 0), (0, 71, 19, 1), (0, 74, 33, 1), (0, 77, 15, 1), (0, 86, 5, 1), (0, 90, 34, 1), (0, 93, 32, 1), (0, 96, 3, 1), (0, 100, 2, 1), (1, 3, 1000, 2), (1, 20, 54, 2), (1, 47, 159, 0), (1, 56, 10, 1), (1, 69, 11, 1), (1, 72, 9, 1), (1, 75, 57, 0), (1, 79, 59, 1), (1, 83, 19, 1), (1, 91, 22, 0), (1, 97, 20, 1), (1, 101, 21, 1), (2, 9, 23, 0), (2, 15, 24, 0), (2, 18, 22, 0), (2, 22, 33, 1), (3, 3, 1000, 2), (3, 22, 31, 1), (3, 26, 28, 1), (3, 30, 85, 0), (3, 34, 30, 1), (3, 37, 34, 1), (4, 3, 1000, 2), (4, 19, 85, 0), (5, 3, 1000, 2), (5, 17, 26, 2), (5, 22, 27, 1), (5, 38, 1001, 0), (5, 44, 159, 0), (6, 3, 1000, 2), (6, 22, 1003, 0), (6, 32, 25, 0), (6, 44, 51, 1), (6, 48, 52, 1), (6, 52, 30, 1), (6, 57, 31, 1), (6, 60, 53, 1), (6, 64, 32, 1), (7, 3, 1000, 2), (7, 25, 55, 1), (7, 32, 160, 0), (7, 46, 56, 1), (7, 50, 57, 0), (7, 54, 58, 1), (8, 1, 1000, 2), (8, 9, 36, 2), (8, 22, 8, 2), (8, 27, 44, 2), (8, 40, 0, 2), (8, 47, 48, 2), (8, 52, 85, 0), (8, 60, 46, 1), (8, 73, 37, 1), (8, 77, 38, 1), (8, 83, 39, 1), (8, 89, 40, 1), (8, 93, 41, 1), (8, 96, 43, 1), (8, 100, 58, 1), (8, 107, 42, 1), (8, 110, 18, 1), (8, 114, 17, 1), (8, 117, 87, 1), (8, 121, 14, 1), (8, 124, 15, 1), (8, 127, 16, 1), (8, 130, 12, 1), (8, 140, 13, 1), (8, 143, 86, 0), (8, 155, 27, 1), (8, 159, 88, 1), (8, 162, 89, 1), (8, 168, 1, 1), (8, 171, 47, 1), (8, 174, 2, 1), (8, 177, 5, 1), (8, 180, 3, 1), (8, 184, 4, 1), (8, 188, 6, 1), (8, 192, 34, 1), (8, 195, 35, 1), (8, 198, 7, 1), (8, 202, 90, 1), (8, 209, 49, 1), (8, 213, 50, 1), (8, 223, 25, 0), (8, 229, 45, 1), (9, 1, 1000, 2), (9, 77, 99, 1), (9, 80, 93, 1), (9, 84, 95, 1), (9, 91, 94, 1), (9, 95, 103, 1), (9, 99, 97, 1), (9, 103, 98, 1), (9, 107, 100, 1), (9, 111, 101, 1), (9, 114, 102, 1), (9, 118, 96, 1), (9, 121, 92, 0), (9, 125, 106, 1), (9, 131, 111, 1), (9, 134, 110, 1), (9, 137, 112, 1), (9, 140, 115, 1), (9, 143, 116, 1), (9, 146, 104, 1), (9, 149, 118, 1), (9, 152, 119, 1), (9, 155, 120, 1), (9, 158, 121, 1), (9, 161, 128, 1), (9, 164, 126, 0), (9, 167, 105, 0), (9, 170, 127, 1), (9, 173, 131, 1), (9, 176, 129, 1), (9, 179, 135, 1), (9, 182, 134, 1), (9, 185, 140, 1), (9, 188, 142, 1), (9, 191, 143, 1), (9, 198, 145, 1), (9, 202, 147, 1), (9, 208, 148, 1), (9, 214, 151, 1), (9, 217, 150, 1), (9, 220, 152, 1), (9, 223, 149, 1), (9, 226, 146, 1), (9, 229, 153, 1), (11, 150, 1001, 0), (11, 304, 1003, 0), (11, 316, 1002, 1), (12, 9, 60, 2), (12, 12, 91, 2), (12, 13, 61, 1), (12, 17, 107, 1), (12, 18, 62, 1), (12, 21, 108, 1), (12, 22, 63, 1), (12, 26, 109, 1), (12, 27, 64, 1), (12, 30, 113, 1), (12, 31, 65, 1), (12, 34, 114, 1), (12, 35, 66, 1), (12, 38, 117, 1), (12, 39, 67, 1), (12, 43, 122, 1), (12, 44, 68, 1), (12, 47, 123, 1), (12, 48, 69, 1), (12, 52, 124, 1), (12, 53, 70, 1), (12, 56, 125, 1), (12, 57, 71, 1), (12, 60, 130, 1), (12, 61, 72, 1), (12, 64, 132, 1), (12, 65, 73, 1), (12, 68, 133, 1), (12, 69, 74, 1), (12, 73, 136, 1), (12, 74, 75, 1), (12, 77, 137, 1), (12, 78, 76, 1), (12, 81, 138, 1), (12, 82, 77, 1), (12, 85, 139, 1), (12, 86, 78, 1), (12, 89, 141, 1), (12, 90, 79, 1), (12, 93, 144, 1), (12, 94, 80, 1), (12, 97, 154, 1), (12, 98, 81, 1), (12, 101, 155, 1), (12, 102, 82, 1), (12, 105, 156, 1), (12, 106, 83, 1), (12, 109, 157, 1), (12, 110, 84, 1), (12, 113, 158, 1)]
def ex_cl : List (Nat × Nat × String) := [(1, 18, "LoopStrands$Texts"), (5, 15, "LoopStrands$Numbers"), (5, 26, "[[I"), (6, 9, "[[I"), (7, 41, "[[I"), (8, 7, "LoopStrands$Pad"), (8, 16, "LoopStrands$Diagrams"), (8, 25, "LoopStrands$State"), (8, 38, "LoopStrands$Algebra"), (8, 45, "LoopStrands$Table"), (11, 317, "[I"), (12, 7, "LoopStrands"), (12, 10, "LoopStrandsModel")]
/-- a method's kind: 0 static, 1 one that calls select, 2 a constructor -/
def ex_kds : List Nat := [2, 1, 1, 1, 1, 1, 1, 1, 2, 1, 1, 1, 1, 1, 1, 1, 1, 1, 1, 1, 1, 1, 0, 0, 0, 0, 2, 1, 1, 1, 1, 1, 1, 1, 1, 1, 2, 1, 1, 1, 1, 1, 1, 1, 2, 1, 1, 1, 2, 1, 1, 1, 1, 1, 2, 1, 1, 0, 1, 1, 2, 1, 1, 1, 1, 1, 1, 1, 1, 1, 1, 1, 1, 1, 1, 1, 1, 1, 1, 1, 1, 1, 1, 1, 1, 0, 0, 1, 1, 1, 1, 2, 0, 1, 1, 1, 1, 1, 1, 1, 1, 1, 1, 1, 1, 0, 1, 1, 1, 1, 1, 1, 1, 1, 1, 1, 1, 1, 1, 1, 1, 1, 1, 1, 1, 1, 0, 1, 1, 1, 1, 1, 1, 1, 1, 1, 1, 1, 1, 1, 1, 1, 1, 1, 1, 1, 1, 1, 1, 1, 1, 1, 1, 1, 1, 1, 1, 1, 1, 0, 0, 0]
def ex_kd (y : Nat) : Nat := ex_kds.getD y 9
/-- the place in vwCl of a class of ex_own -/
def ex_vwi : List Nat := [0, 1, 9, 2, 3, 4, 5, 6, 7, 8, 9, 9, 9]
end
section
/-! THE PURE MACHINE: cells are told by small numbers; 0 is the script, 1 the first cell that the law makes, and so on. -/
/-- int[] 0, boolean[] 1, the script 9; rows of references: int[][] 2, Diagrams[] 3, State[] 4, Texts[] 5; an object: its class (a place in vwCl) and its fields -/
abbrev ex_AC : Type := (Nat × Nat × (Nat → Int32)) ⊕ ((Nat × Nat × (Nat → Option Nat)) ⊕ (Nat × List Value))
/-- how many cells, slots; the cells -/
abbrev ex_Hp : Type := Nat × Nat × (Nat → Option ex_AC)
def ex_set (h : ex_Hp) (a : Nat) (c : ex_AC) : ex_Hp := (h.1, h.2.1, fun q => if q = a then some c else h.2.2 q)
def ex_new (h : ex_Hp) (c : ex_AC) (k : Nat) : ex_Hp := (h.1 + 1, h.2.1 + k, fun q => if q = h.1 then some c else h.2.2 q)
def ex_new2 (h : ex_Hp) (N K : Nat) : ex_Hp := (h.1 + 1 + N, h.2.1 + (N + N * K), fun q => if q = h.1 then some (.inr (.inl (2, N, fun i => if i < N then some (h.1 + 1 + i) else none))) else if h.1 < q ∧ q < h.1 + 1 + N then some (.inl (0, K, fun _ => 0)) else h.2.2 q)
def ex_tys : List (Nat → FieldType) := [tyX0, tyX1, tyX3, tyX4, tyX5, tyX6, tyX7, tyX8, tyX9]
def ex_ty (ci k : Nat) : FieldType := (ex_tys.getD ci tyX2) k
def ex_nf (ci : Nat) : Nat := ([3, 12, 3, 2, 3, 4, 7, 6, 27] : List Nat).getD ci 0
def ex_dfl (ci : Nat) : List Value := (List.range (ex_nf ci)).map (fun k => defaultValue (ex_ty ci k))
def ex_fit : FieldType → Value → Bool
  | .int, .int _ => true
  | .object _, .ref _ => true
  | .object _, .null => true
  | .array _, .ref _ => true
  | .array _, .null => true
  | _, _ => false
def ex_cmp (k : Jvm.ClassFile.Cond) (x y : Int32) : Bool := match k with
  | .eq => decide (x = y)
  | .ne => decide (¬ x = y)
  | .lt => decide (x < y)
  | .ge => decide (y ≤ x)
  | .gt => decide (y < x)
  | .le => decide (x ≤ y)
def ex_ari (ins : Instr) (x y : Int32) : Option Int32 := match ins with
  | .iadd => some (x + y)
  | .isub => some (x - y)
  | .imul => some (x * y)
  | .idiv => if y = 0 then none else some (x / y)
  | .irem => if y = 0 then none else some (x - x / y * y)
  | .ishl => some (x <<< (y &&& 31))
  | .ishr => some (x >>> (y &&& 31))
  | .iand => some (x &&& y)
  | .ior => some (x ||| y)
  | _ => none
/-- an index: its place, if it is within -/
def ex_ix (i : Int32) (n : Nat) : Option Nat := if i < 0 ∨ n ≤ i.toNatClampNeg then none else some i.toNatClampNeg
/-- what class an element of a row of references must have -/
def ex_may (t : Nat) (c : ex_AC) : Bool := match c with
  | .inl (u, _, _) => t == 2 && u == 0
  | .inr (.inr (ci, _)) => (t == 3 && ci == 1) || (t == 4 && ci == 4) || (t == 5 && ci == 6)
  | _ => false
/-- how many words a part of the stack has -/
def ex_cat (S : List Value) : Nat := (S.map fun v => v.category).sum
abbrev ex_St : Type := Nat × List Value × List Value × ex_Hp
/-- loads, stores, constants, arithmetic -/
def ex_st1 (ins : Instr) (a : Nat) (v : Int32) (L S : List Value) : Option (List Value × List Value) := match ins with
  | .iconst _ => some (L, .int v :: S)
  | .bipush _ => some (L, .int v :: S)
  | .sipush _ => some (L, .int v :: S)
  | .iload _ => match L[a]? with
    | some (.int x) => some (L, .int x :: S)
    | _ => none
  | .iload_n _ => match L[a]? with
    | some (.int x) => some (L, .int x :: S)
    | _ => none
  | .aload _ => match L[a]? with
    | some (.ref x) => some (L, .ref x :: S)
    | some .null => some (L, .null :: S)
    | _ => none
  | .aload_n _ => match L[a]? with
    | some (.ref x) => some (L, .ref x :: S)
    | some .null => some (L, .null :: S)
    | _ => none
  | .istore _ => match S with
    | .int x :: S' => if a < L.length then some (L.set a (.int x), S') else none
    | _ => none
  | .istore_n _ => match S with
    | .int x :: S' => if a < L.length then some (L.set a (.int x), S') else none
    | _ => none
  | .astore _ => match S with
    | .ref x :: S' => if a < L.length then some (L.set a (.ref x), S') else none
    | .null :: S' => if a < L.length then some (L.set a .null, S') else none
    | _ => none
  | .astore_n _ => match S with
    | .ref x :: S' => if a < L.length then some (L.set a (.ref x), S') else none
    | .null :: S' => if a < L.length then some (L.set a .null, S') else none
    | _ => none
  | .iinc _ _ => match L[a]? with
    | some (.int x) => some (L.set a (.int (x + v)), S)
    | _ => none
  | .ineg => match S with
    | .int x :: S' => some (L, .int (-x) :: S')
    | _ => none
  | .dup => match S with
    | .int x :: S' => some (L, .int x :: .int x :: S')
    | .ref x :: S' => some (L, .ref x :: .ref x :: S')
    | _ => none
  | .pop => match S with
    | .int x :: S' => some (L, S')
    | .ref x :: S' => some (L, S')
    | _ => none
  | _ => match S with
    | .int y :: .int x :: S' => match ex_ari ins x y with
      | some z => some (L, .int z :: S')
      | none => none
    | _ => none
/-- where a branch goes; what is left on the stack -/
def ex_st2 (ins : Instr) (pc len a : Nat) (S : List Value) : Option (Nat × List Value) := match ins with
  | .ifCond k _ => match S with
    | .int x :: S' => some (if ex_cmp k x 0 = true then a else pc + len, S')
    | _ => none
  | .if_icmp k _ => match S with
    | .int y :: .int x :: S' => some (if ex_cmp k x y = true then a else pc + len, S')
    | _ => none
  | .goto _ => some (a, S)
  | .ifnull _ => match S with
    | .null :: S' => some (a, S')
    | .ref _ :: S' => some (pc + len, S')
    | _ => none
  | .ifnonnull _ => match S with
    | .null :: S' => some (pc + len, S')
    | .ref _ :: S' => some (a, S')
    | _ => none
  | .tableswitch _ lo hi offs => match S with
    | .int x :: S' => if x.toInt < lo ∨ hi < x.toInt then some (a, S') else match offs[(x.toInt - lo).toNat]? with
      | some o => some (((pc : Int) + o).toNat, S')
      | none => none
    | _ => none
  | _ => none
/-- reads and writes of cells -/
def ex_st3 (ins : Instr) (a c : Nat) (S : List Value) (h : ex_Hp) : Option (List Value × ex_Hp) := match ins with
  | .getfield _ => match S with
    | .ref o :: S' => match h.2.2 o with
      | some (.inr (.inr (ci, fs))) => if ci = a then match fs[c]? with
        | some v => some (v :: S', h)
        | none => none
        else none
      | _ => none
    | _ => none
  | .putfield _ => match S with
    | v :: .ref o :: S' => match h.2.2 o with
      | some (.inr (.inr (ci, fs))) => if ci = a ∧ ex_fit (ex_ty a c) v = true ∧ c < fs.length then some (S', ex_set h o (.inr (.inr (ci, fs.set c v)))) else none
      | _ => none
    | _ => none
  | .iaload => match S with
    | .int i :: .ref o :: S' => match h.2.2 o with
      | some (.inl (t, n, f)) => if t = 0 ∨ t = 9 then match ex_ix i n with
        | some j => some (.int (f j) :: S', h)
        | none => none
        else none
      | _ => none
    | _ => none
  | .baload => match S with
    | .int i :: .ref o :: S' => match h.2.2 o with
      | some (.inl (t, n, f)) => if t = 1 then match ex_ix i n with
        | some j => some (.int (f j) :: S', h)
        | none => none
        else none
      | _ => none
    | _ => none
  | .iastore => match S with
    | .int x :: .int i :: .ref o :: S' => match h.2.2 o with
      | some (.inl (t, n, f)) => if t = 0 then match ex_ix i n with
        | some j => some (S', ex_set h o (.inl (t, n, upd f j x)))
        | none => none
        else none
      | _ => none
    | _ => none
  | .bastore => match S with
    | .int x :: .int i :: .ref o :: S' => match h.2.2 o with
      | some (.inl (t, n, f)) => if t = 1 ∧ (x = 0 ∨ x = 1) then match ex_ix i n with
        | some j => some (S', ex_set h o (.inl (t, n, upd f j x)))
        | none => none
        else none
      | _ => none
    | _ => none
  | .aaload => match S with
    | .int i :: .ref o :: S' => match h.2.2 o with
      | some (.inr (.inl (t, n, f))) => match ex_ix i n with
        | some j => some (va_rf (f j) :: S', h)
        | none => none
      | _ => none
    | _ => none
  | .aastore => match S with
    | .ref x :: .int i :: .ref o :: S' => match h.2.2 o, h.2.2 x with
      | some (.inr (.inl (t, n, f))), some d => if ex_may t d = true then match ex_ix i n with
        | some j => some (S', ex_set h o (.inr (.inl (t, n, va_up f j (some x)))))
        | none => none
        else none
      | _, _ => none
    | _ => none
  | .arraylength => match S with
    | .ref o :: S' => match h.2.2 o with
      | some (.inl (_, n, _)) => some (.int (Int32.ofNat n) :: S', h)
      | some (.inr (.inl (_, n, _))) => some (.int (Int32.ofNat n) :: S', h)
      | _ => none
    | _ => none
  | .checkcast _ => match S with
    | .ref o :: S' => match h.2.2 o with
      | some (.inl (t, n, f)) => if t = 0 then some (.ref o :: S', h) else none
      | _ => none
    | _ => none
  | _ => none
/-- makings, and calls of what isn't the claim's own -/
def ex_st4 (ins : Instr) (a : Nat) (S : List Value) (h : ex_Hp) : Option (List Value × ex_Hp) := match ins with
  | .new _ => some (.ref h.1 :: S, ex_new h (.inr (.inr (a, ex_dfl a))) (ex_nf a))
  | .newarray _ => match S with
    | .int n :: S' => if n < 0 ∨ 100000 < n.toNatClampNeg then none else some (.ref h.1 :: S', ex_new h (.inl (a, n.toNatClampNeg, fun _ => 0)) n.toNatClampNeg)
    | _ => none
  | .anewarray _ => match S with
    | .int n :: S' => if n < 0 ∨ 100000 < n.toNatClampNeg then none else some (.ref h.1 :: S', ex_new h (.inr (.inl (a, n.toNatClampNeg, fun _ => none))) n.toNatClampNeg)
    | _ => none
  | .multianewarray _ _ => match S with
    | .int k :: .int n :: S' => if n < 0 ∨ 100000 < n.toNatClampNeg ∨ k < 0 ∨ 100000 < k.toNatClampNeg then none else some (.ref h.1 :: S', ex_new2 h n.toNatClampNeg k.toNatClampNeg)
    | _ => none
  | .invokespecial _ => match S with
    | .ref _ :: S' => if ex_cat S' ≤ 8 then some (S', h) else none
    | _ => none
  | .invokestatic _ => if a = 1003 then (match S with
    | .int y :: .int x :: S' => if ex_cat S' ≤ 8 then some (.int (if y < x then y else x) :: S', h) else none
    | _ => none) else match S with
    | .int n :: .int dp :: .ref d :: .int sp :: .ref o :: S' => match h.2.2 o, h.2.2 d with
      | some (.inl (t0, n0, f)), some (.inl (t1, n1, g)) => if ex_cat S' ≤ 8 ∧ t0 = 0 ∧ t1 = 0 ∧ ¬ sp < 0 ∧ ¬ dp < 0 ∧ ¬ n < 0 ∧ sp.toNatClampNeg + n.toNatClampNeg ≤ n0 ∧ dp.toNatClampNeg + n.toNatClampNeg ≤ n1 then
          some (S', ex_set h d (.inl (t1, n1, va_cpy f g sp.toNatClampNeg dp.toNatClampNeg n.toNatClampNeg))) else none
      | _, _ => none
    | _ => none
  | .invokevirtual _ => match S with
    | .ref o :: S' => match h.2.2 o with
      | some (.inl (t, n, f)) => if t = 0 ∧ ex_cat S' ≤ 8 then some (.ref h.1 :: S', ex_new h (.inl (t, n, f)) n) else none
      | _ => none
    | _ => none
  | _ => none
/-- 1 loads and arithmetic, 2 branches, 3 cells, 4 makings, 5 own calls, 6 ends -/
def ex_kind (ins : Instr) (a : Nat) : Nat := match ins with
  | .ifCond _ _ => 2
  | .if_icmp _ _ => 2
  | .goto _ => 2
  | .ifnull _ => 2
  | .ifnonnull _ => 2
  | .tableswitch _ _ _ _ => 2
  | .getfield _ => 3
  | .putfield _ => 3
  | .iaload => 3
  | .baload => 3
  | .iastore => 3
  | .bastore => 3
  | .aaload => 3
  | .aastore => 3
  | .arraylength => 3
  | .checkcast _ => 3
  | .new _ => 4
  | .newarray _ => 4
  | .anewarray _ => 4
  | .multianewarray _ _ => 4
  | .invokespecial _ => if a < 1000 then 5 else 4
  | .invokestatic _ => if a < 1000 then 5 else 4
  | .invokevirtual _ => if a < 1000 then 5 else 4
  | .ireturn => 6
  | .areturn => 6
  | .return_ => 6
  | _ => 1
def ex_mo (y pc : Nat) : ex_MO := (ex_codes.getD y []).getD pc ex_no
def ex_step (y pc : Nat) (L S : List Value) (h : ex_Hp) : Option ex_St :=
  let o := ex_mo y pc
  match ex_kind o.1 o.2.2.1 with
  | 1 => match ex_st1 o.1 o.2.2.1 o.2.2.2.2 L S with
    | some (L', S') => some (pc + o.2.1, L', S', h)
    | none => none
  | 2 => match ex_st2 o.1 pc o.2.1 o.2.2.1 S with
    | some (q, S') => some (q, L, S', h)
    | none => none
  | 3 => match ex_st3 o.1 o.2.2.1 o.2.2.2.1 S h with
    | some (S', h') => some (pc + o.2.1, L, S', h')
    | none => none
  | 4 => match ex_st4 o.1 o.2.2.1 S h with
    | some (S', h') => some (pc + o.2.1, L, S', h')
    | none => none
  | _ => none
/-- what a method hands back -/
def ex_end (y pc : Nat) (S : List Value) : Option (Option Value) :=
  let o := ex_mo y pc
  match o.1 with
  | .ireturn => match S with
    | [.int x] => if o.2.2.1 = 0 ∨ x = 0 ∨ x = 1 then some (some (.int x)) else none
    | _ => none
  | .areturn => match S with
    | [.ref x] => some (some (.ref x))
    | _ => none
  | .return_ => match S with
    | [] => some none
    | _ => none
  | _ => none
def ex_no_mt : ex_MT := (yL_law, cL_law, 4, none, 0, 0, 0, 0)
def ex_m (y : Nat) : ex_MT := ex_mt.getD y ex_no_mt
/-- the locals at a method's entry -/
def ex_in (y : Nat) (args : List Value) : List Value := args ++ List.replicate ((ex_m y).2.2.1 - args.length) (.long 0)
/-- the receiver is of the method's class -/
def ex_recv (y : Nat) (A : List Value) (h : ex_Hp) : Bool := match ex_kd y with
  | 0 => true
  | 1 => match A with
    | .ref o :: _ => match h.2.2 o with
      | some (.inr (.inr (ci, _))) => decide (ci = ex_vwi.getD (ex_m y).2.2.2.2.1 9)
      | _ => false
    | _ => false
  | _ => match A with
    | .ref _ :: _ => true
    | _ => false
def ex_run : Nat → Nat → Nat → List Value → List Value → ex_Hp → Option (Option Value × ex_Hp)
  | 0, _, _, _, _, _ => none
  | n + 1, y, pc, L, S, h =>
    let o := ex_mo y pc
    match ex_kind o.1 o.2.2.1 with
    | 5 => if o.2.2.2.1 ≤ S.length ∧ ex_cat (S.drop o.2.2.2.1) ≤ 8 ∧ (S.take o.2.2.2.1).all (fun v => v.category == 1) = true ∧ ex_recv o.2.2.1 (S.take o.2.2.2.1).reverse h = true then
        match ex_run n o.2.2.1 0 (ex_in o.2.2.1 (S.take o.2.2.2.1).reverse) [] h with
        | some (r, h') => ex_run n y (pc + o.2.1) L (r.toList ++ S.drop o.2.2.2.1) h'
        | none => none
        else none
    | 6 => match ex_end y pc S with
      | some r => some (r, h)
      | none => none
    | _ => match ex_step y pc L S h with
      | some (pc', L', S', h') => ex_run n y pc' L' S' h'
      | none => none
end
section
/-! WHAT THE TABLES SAY, checked by the kernel: the code rows, links, layouts. -/
def ex_wb (w : Jvm.Cond) : Bool := decide (w ∈ lw_tbl) && goodWord w
theorem ex_wb_at {w : Jvm.Cond} (i : Nat) (h : lw_tbl[i]? = some w) (g : goodWord w = true) : w ∈ lw_tbl ∧ goodWord w = true := ⟨List.mem_of_getElem? h, g⟩
theorem ex_wb_of {w : Jvm.Cond} (h : ex_wb w = true) : w ∈ lw_tbl ∧ goodWord w = true := by
  unfold ex_wb at h
  rw [Bool.and_eq_true, decide_eq_true_eq] at h
  exact h
def ex_T (ci : Nat) : vw_C := vwCl.getD ci ("", TX2, 0)
def ex_o (k : Nat) : String := ex_own.getD k ""
abbrev ex_nm (y : Nat) : MethodName := (ex_m y).1
abbrev ex_by (y : Nat) : ByteArray := (ex_m y).2.1
abbrev ex_mL (y : Nat) : Nat := (ex_m y).2.2.1
abbrev ex_rt (y : Nat) : Option FieldType := (ex_m y).2.2.2.1
abbrev ex_ow (y : Nat) : Nat := (ex_m y).2.2.2.2.1
abbrev ex_na (y : Nat) : Nat := (ex_m y).2.2.2.2.2.1
abbrev ex_fr (y : Nat) : Nat := (ex_m y).2.2.2.2.2.2.1
abbrev ex_lo (y : Nat) : Nat := (ex_m y).2.2.2.2.2.2.2
def ex_nest : List Jvm.Cond := [.methodLinkNest RX5 17 yX3_init RX8, .methodLinkNest RX4 19 yX8_isWithin RX8, .methodLinkNest RX3 30 yX8_isWithin RX8, .methodLinkNest RX8 47 yX6_init RX8, .methodLinkNest RX8 40 yX0_init RX8, .methodLinkNest RX8 9 yX4_init RX8]
set_option maxRecDepth 100000 in
theorem ex_ci_0 : lw_tbl[310]? = some (Jvm.Cond.code (ex_nm 0) (ex_by 0) (ex_mL 0) (ex_rt 0)) := rfl
set_option maxRecDepth 100000 in
theorem ex_ci_1 : lw_tbl[504]? = some (Jvm.Cond.code (ex_nm 1) (ex_by 1) (ex_mL 1) (ex_rt 1)) := rfl
set_option maxRecDepth 100000 in
theorem ex_ci_2 : lw_tbl[516]? = some (Jvm.Cond.code (ex_nm 2) (ex_by 2) (ex_mL 2) (ex_rt 2)) := rfl
set_option maxRecDepth 100000 in
theorem ex_ci_3 : lw_tbl[541]? = some (Jvm.Cond.code (ex_nm 3) (ex_by 3) (ex_mL 3) (ex_rt 3)) := rfl
set_option maxRecDepth 100000 in
theorem ex_ci_4 : lw_tbl[549]? = some (Jvm.Cond.code (ex_nm 4) (ex_by 4) (ex_mL 4) (ex_rt 4)) := rfl
set_option maxRecDepth 100000 in
theorem ex_ci_5 : lw_tbl[524]? = some (Jvm.Cond.code (ex_nm 5) (ex_by 5) (ex_mL 5) (ex_rt 5)) := rfl
set_option maxRecDepth 100000 in
theorem ex_ci_6 : lw_tbl[558]? = some (Jvm.Cond.code (ex_nm 6) (ex_by 6) (ex_mL 6) (ex_rt 6)) := rfl
set_option maxRecDepth 100000 in
theorem ex_ci_7 : lw_tbl[581]? = some (Jvm.Cond.code (ex_nm 7) (ex_by 7) (ex_mL 7) (ex_rt 7)) := rfl
set_option maxRecDepth 100000 in
theorem ex_ci_8 : lw_tbl[97]? = some (Jvm.Cond.code (ex_nm 8) (ex_by 8) (ex_mL 8) (ex_rt 8)) := rfl
set_option maxRecDepth 100000 in
theorem ex_ci_9 : lw_tbl[174]? = some (Jvm.Cond.code (ex_nm 9) (ex_by 9) (ex_mL 9) (ex_rt 9)) := rfl
set_option maxRecDepth 100000 in
theorem ex_ci_10 : lw_tbl[170]? = some (Jvm.Cond.code (ex_nm 10) (ex_by 10) (ex_mL 10) (ex_rt 10)) := rfl
set_option maxRecDepth 100000 in
theorem ex_ci_11 : lw_tbl[187]? = some (Jvm.Cond.code (ex_nm 11) (ex_by 11) (ex_mL 11) (ex_rt 11)) := rfl
set_option maxRecDepth 100000 in
theorem ex_ci_12 : lw_tbl[456]? = some (Jvm.Cond.code (ex_nm 12) (ex_by 12) (ex_mL 12) (ex_rt 12)) := rfl
set_option maxRecDepth 100000 in
theorem ex_ci_13 : lw_tbl[472]? = some (Jvm.Cond.code (ex_nm 13) (ex_by 13) (ex_mL 13) (ex_rt 13)) := rfl
set_option maxRecDepth 100000 in
theorem ex_ci_14 : lw_tbl[444]? = some (Jvm.Cond.code (ex_nm 14) (ex_by 14) (ex_mL 14) (ex_rt 14)) := rfl
set_option maxRecDepth 100000 in
theorem ex_ci_15 : lw_tbl[448]? = some (Jvm.Cond.code (ex_nm 15) (ex_by 15) (ex_mL 15) (ex_rt 15)) := rfl
set_option maxRecDepth 100000 in
theorem ex_ci_16 : lw_tbl[452]? = some (Jvm.Cond.code (ex_nm 16) (ex_by 16) (ex_mL 16) (ex_rt 16)) := rfl
set_option maxRecDepth 100000 in
theorem ex_ci_17 : lw_tbl[432]? = some (Jvm.Cond.code (ex_nm 17) (ex_by 17) (ex_mL 17) (ex_rt 17)) := rfl
set_option maxRecDepth 100000 in
theorem ex_ci_18 : lw_tbl[428]? = some (Jvm.Cond.code (ex_nm 18) (ex_by 18) (ex_mL 18) (ex_rt 18)) := rfl
set_option maxRecDepth 100000 in
theorem ex_ci_19 : lw_tbl[191]? = some (Jvm.Cond.code (ex_nm 19) (ex_by 19) (ex_mL 19) (ex_rt 19)) := rfl
set_option maxRecDepth 100000 in
theorem ex_ci_20 : lw_tbl[195]? = some (Jvm.Cond.code (ex_nm 20) (ex_by 20) (ex_mL 20) (ex_rt 20)) := rfl
set_option maxRecDepth 100000 in
theorem ex_ci_21 : lw_tbl[199]? = some (Jvm.Cond.code (ex_nm 21) (ex_by 21) (ex_mL 21) (ex_rt 21)) := rfl
set_option maxRecDepth 100000 in
theorem ex_ci_22 : lw_tbl[202]? = some (Jvm.Cond.code (ex_nm 22) (ex_by 22) (ex_mL 22) (ex_rt 22)) := rfl
set_option maxRecDepth 100000 in
theorem ex_ci_23 : lw_tbl[205]? = some (Jvm.Cond.code (ex_nm 23) (ex_by 23) (ex_mL 23) (ex_rt 23)) := rfl
set_option maxRecDepth 100000 in
theorem ex_ci_24 : lw_tbl[608]? = some (Jvm.Cond.code (ex_nm 24) (ex_by 24) (ex_mL 24) (ex_rt 24)) := rfl
set_option maxRecDepth 100000 in
theorem ex_ci_25 : lw_tbl[605]? = some (Jvm.Cond.code (ex_nm 25) (ex_by 25) (ex_mL 25) (ex_rt 25)) := rfl
set_option maxRecDepth 100000 in
theorem ex_ci_26 : lw_tbl[261]? = some (Jvm.Cond.code (ex_nm 26) (ex_by 26) (ex_mL 26) (ex_rt 26)) := rfl
set_option maxRecDepth 100000 in
theorem ex_ci_27 : lw_tbl[280]? = some (Jvm.Cond.code (ex_nm 27) (ex_by 27) (ex_mL 27) (ex_rt 27)) := rfl
set_option maxRecDepth 100000 in
theorem ex_ci_28 : lw_tbl[288]? = some (Jvm.Cond.code (ex_nm 28) (ex_by 28) (ex_mL 28) (ex_rt 28)) := rfl
set_option maxRecDepth 100000 in
theorem ex_ci_29 : lw_tbl[508]? = some (Jvm.Cond.code (ex_nm 29) (ex_by 29) (ex_mL 29) (ex_rt 29)) := rfl
set_option maxRecDepth 100000 in
theorem ex_ci_30 : lw_tbl[520]? = some (Jvm.Cond.code (ex_nm 30) (ex_by 30) (ex_mL 30) (ex_rt 30)) := rfl
set_option maxRecDepth 100000 in
theorem ex_ci_31 : lw_tbl[284]? = some (Jvm.Cond.code (ex_nm 31) (ex_by 31) (ex_mL 31) (ex_rt 31)) := rfl
set_option maxRecDepth 100000 in
theorem ex_ci_32 : lw_tbl[587]? = some (Jvm.Cond.code (ex_nm 32) (ex_by 32) (ex_mL 32) (ex_rt 32)) := rfl
set_option maxRecDepth 100000 in
theorem ex_ci_33 : lw_tbl[530]? = some (Jvm.Cond.code (ex_nm 33) (ex_by 33) (ex_mL 33) (ex_rt 33)) := rfl
set_option maxRecDepth 100000 in
theorem ex_ci_34 : lw_tbl[567]? = some (Jvm.Cond.code (ex_nm 34) (ex_by 34) (ex_mL 34) (ex_rt 34)) := rfl
set_option maxRecDepth 100000 in
theorem ex_ci_35 : lw_tbl[576]? = some (Jvm.Cond.code (ex_nm 35) (ex_by 35) (ex_mL 35) (ex_rt 35)) := rfl
set_option maxRecDepth 100000 in
theorem ex_ci_36 : lw_tbl[81]? = some (Jvm.Cond.code (ex_nm 36) (ex_by 36) (ex_mL 36) (ex_rt 36)) := rfl
set_option maxRecDepth 100000 in
theorem ex_ci_37 : lw_tbl[382]? = some (Jvm.Cond.code (ex_nm 37) (ex_by 37) (ex_mL 37) (ex_rt 37)) := rfl
set_option maxRecDepth 100000 in
theorem ex_ci_38 : lw_tbl[386]? = some (Jvm.Cond.code (ex_nm 38) (ex_by 38) (ex_mL 38) (ex_rt 38)) := rfl
set_option maxRecDepth 100000 in
theorem ex_ci_39 : lw_tbl[394]? = some (Jvm.Cond.code (ex_nm 39) (ex_by 39) (ex_mL 39) (ex_rt 39)) := rfl
set_option maxRecDepth 100000 in
theorem ex_ci_40 : lw_tbl[402]? = some (Jvm.Cond.code (ex_nm 40) (ex_by 40) (ex_mL 40) (ex_rt 40)) := rfl
set_option maxRecDepth 100000 in
theorem ex_ci_41 : lw_tbl[406]? = some (Jvm.Cond.code (ex_nm 41) (ex_by 41) (ex_mL 41) (ex_rt 41)) := rfl
set_option maxRecDepth 100000 in
theorem ex_ci_42 : lw_tbl[424]? = some (Jvm.Cond.code (ex_nm 42) (ex_by 42) (ex_mL 42) (ex_rt 42)) := rfl
set_option maxRecDepth 100000 in
theorem ex_ci_43 : lw_tbl[415]? = some (Jvm.Cond.code (ex_nm 43) (ex_by 43) (ex_mL 43) (ex_rt 43)) := rfl
set_option maxRecDepth 100000 in
theorem ex_ci_44 : lw_tbl[255]? = some (Jvm.Cond.code (ex_nm 44) (ex_by 44) (ex_mL 44) (ex_rt 44)) := rfl
set_option maxRecDepth 100000 in
theorem ex_ci_45 : lw_tbl[642]? = some (Jvm.Cond.code (ex_nm 45) (ex_by 45) (ex_mL 45) (ex_rt 45)) := rfl
set_option maxRecDepth 100000 in
theorem ex_ci_46 : lw_tbl[373]? = some (Jvm.Cond.code (ex_nm 46) (ex_by 46) (ex_mL 46) (ex_rt 46)) := rfl
set_option maxRecDepth 100000 in
theorem ex_ci_47 : lw_tbl[512]? = some (Jvm.Cond.code (ex_nm 47) (ex_by 47) (ex_mL 47) (ex_rt 47)) := rfl
set_option maxRecDepth 100000 in
theorem ex_ci_48 : lw_tbl[326]? = some (Jvm.Cond.code (ex_nm 48) (ex_by 48) (ex_mL 48) (ex_rt 48)) := rfl
set_option maxRecDepth 100000 in
theorem ex_ci_49 : lw_tbl[601]? = some (Jvm.Cond.code (ex_nm 49) (ex_by 49) (ex_mL 49) (ex_rt 49)) := rfl
set_option maxRecDepth 100000 in
theorem ex_ci_50 : lw_tbl[614]? = some (Jvm.Cond.code (ex_nm 50) (ex_by 50) (ex_mL 50) (ex_rt 50)) := rfl
set_option maxRecDepth 100000 in
theorem ex_ci_51 : lw_tbl[618]? = some (Jvm.Cond.code (ex_nm 51) (ex_by 51) (ex_mL 51) (ex_rt 51)) := rfl
set_option maxRecDepth 100000 in
theorem ex_ci_52 : lw_tbl[622]? = some (Jvm.Cond.code (ex_nm 52) (ex_by 52) (ex_mL 52) (ex_rt 52)) := rfl
set_option maxRecDepth 100000 in
theorem ex_ci_53 : lw_tbl[628]? = some (Jvm.Cond.code (ex_nm 53) (ex_by 53) (ex_mL 53) (ex_rt 53)) := rfl
set_option maxRecDepth 100000 in
theorem ex_ci_54 : lw_tbl[103]? = some (Jvm.Cond.code (ex_nm 54) (ex_by 54) (ex_mL 54) (ex_rt 54)) := rfl
set_option maxRecDepth 100000 in
theorem ex_ci_55 : lw_tbl[108]? = some (Jvm.Cond.code (ex_nm 55) (ex_by 55) (ex_mL 55) (ex_rt 55)) := rfl
set_option maxRecDepth 100000 in
theorem ex_ci_56 : lw_tbl[112]? = some (Jvm.Cond.code (ex_nm 56) (ex_by 56) (ex_mL 56) (ex_rt 56)) := rfl
set_option maxRecDepth 100000 in
theorem ex_ci_57 : lw_tbl[115]? = some (Jvm.Cond.code (ex_nm 57) (ex_by 57) (ex_mL 57) (ex_rt 57)) := rfl
set_option maxRecDepth 100000 in
theorem ex_ci_58 : lw_tbl[183]? = some (Jvm.Cond.code (ex_nm 58) (ex_by 58) (ex_mL 58) (ex_rt 58)) := rfl
set_option maxRecDepth 100000 in
theorem ex_ci_59 : lw_tbl[179]? = some (Jvm.Cond.code (ex_nm 59) (ex_by 59) (ex_mL 59) (ex_rt 59)) := rfl
set_option maxRecDepth 100000 in
theorem ex_ci_60 : lw_tbl[73]? = some (Jvm.Cond.code (ex_nm 60) (ex_by 60) (ex_mL 60) (ex_rt 60)) := rfl
set_option maxRecDepth 100000 in
theorem ex_ci_61 : lw_tbl[366]? = some (Jvm.Cond.code (ex_nm 61) (ex_by 61) (ex_mL 61) (ex_rt 61)) := rfl
set_option maxRecDepth 100000 in
theorem ex_ci_62 : lw_tbl[378]? = some (Jvm.Cond.code (ex_nm 62) (ex_by 62) (ex_mL 62) (ex_rt 62)) := rfl
set_option maxRecDepth 100000 in
theorem ex_ci_63 : lw_tbl[390]? = some (Jvm.Cond.code (ex_nm 63) (ex_by 63) (ex_mL 63) (ex_rt 63)) := rfl
set_option maxRecDepth 100000 in
theorem ex_ci_64 : lw_tbl[398]? = some (Jvm.Cond.code (ex_nm 64) (ex_by 64) (ex_mL 64) (ex_rt 64)) := rfl
set_option maxRecDepth 100000 in
theorem ex_ci_65 : lw_tbl[411]? = some (Jvm.Cond.code (ex_nm 65) (ex_by 65) (ex_mL 65) (ex_rt 65)) := rfl
set_option maxRecDepth 100000 in
theorem ex_ci_66 : lw_tbl[420]? = some (Jvm.Cond.code (ex_nm 66) (ex_by 66) (ex_mL 66) (ex_rt 66)) := rfl
set_option maxRecDepth 100000 in
theorem ex_ci_67 : lw_tbl[436]? = some (Jvm.Cond.code (ex_nm 67) (ex_by 67) (ex_mL 67) (ex_rt 67)) := rfl
set_option maxRecDepth 100000 in
theorem ex_ci_68 : lw_tbl[460]? = some (Jvm.Cond.code (ex_nm 68) (ex_by 68) (ex_mL 68) (ex_rt 68)) := rfl
set_option maxRecDepth 100000 in
theorem ex_ci_69 : lw_tbl[464]? = some (Jvm.Cond.code (ex_nm 69) (ex_by 69) (ex_mL 69) (ex_rt 69)) := rfl
set_option maxRecDepth 100000 in
theorem ex_ci_70 : lw_tbl[468]? = some (Jvm.Cond.code (ex_nm 70) (ex_by 70) (ex_mL 70) (ex_rt 70)) := rfl
set_option maxRecDepth 100000 in
theorem ex_ci_71 : lw_tbl[476]? = some (Jvm.Cond.code (ex_nm 71) (ex_by 71) (ex_mL 71) (ex_rt 71)) := rfl
set_option maxRecDepth 100000 in
theorem ex_ci_72 : lw_tbl[484]? = some (Jvm.Cond.code (ex_nm 72) (ex_by 72) (ex_mL 72) (ex_rt 72)) := rfl
set_option maxRecDepth 100000 in
theorem ex_ci_73 : lw_tbl[496]? = some (Jvm.Cond.code (ex_nm 73) (ex_by 73) (ex_mL 73) (ex_rt 73)) := rfl
set_option maxRecDepth 100000 in
theorem ex_ci_74 : lw_tbl[500]? = some (Jvm.Cond.code (ex_nm 74) (ex_by 74) (ex_mL 74) (ex_rt 74)) := rfl
set_option maxRecDepth 100000 in
theorem ex_ci_75 : lw_tbl[537]? = some (Jvm.Cond.code (ex_nm 75) (ex_by 75) (ex_mL 75) (ex_rt 75)) := rfl
set_option maxRecDepth 100000 in
theorem ex_ci_76 : lw_tbl[545]? = some (Jvm.Cond.code (ex_nm 76) (ex_by 76) (ex_mL 76) (ex_rt 76)) := rfl
set_option maxRecDepth 100000 in
theorem ex_ci_77 : lw_tbl[554]? = some (Jvm.Cond.code (ex_nm 77) (ex_by 77) (ex_mL 77) (ex_rt 77)) := rfl
set_option maxRecDepth 100000 in
theorem ex_ci_78 : lw_tbl[563]? = some (Jvm.Cond.code (ex_nm 78) (ex_by 78) (ex_mL 78) (ex_rt 78)) := rfl
set_option maxRecDepth 100000 in
theorem ex_ci_79 : lw_tbl[572]? = some (Jvm.Cond.code (ex_nm 79) (ex_by 79) (ex_mL 79) (ex_rt 79)) := rfl
set_option maxRecDepth 100000 in
theorem ex_ci_80 : lw_tbl[593]? = some (Jvm.Cond.code (ex_nm 80) (ex_by 80) (ex_mL 80) (ex_rt 80)) := rfl
set_option maxRecDepth 100000 in
theorem ex_ci_81 : lw_tbl[633]? = some (Jvm.Cond.code (ex_nm 81) (ex_by 81) (ex_mL 81) (ex_rt 81)) := rfl
set_option maxRecDepth 100000 in
theorem ex_ci_82 : lw_tbl[638]? = some (Jvm.Cond.code (ex_nm 82) (ex_by 82) (ex_mL 82) (ex_rt 82)) := rfl
set_option maxRecDepth 100000 in
theorem ex_ci_83 : lw_tbl[647]? = some (Jvm.Cond.code (ex_nm 83) (ex_by 83) (ex_mL 83) (ex_rt 83)) := rfl
set_option maxRecDepth 100000 in
theorem ex_ci_84 : lw_tbl[651]? = some (Jvm.Cond.code (ex_nm 84) (ex_by 84) (ex_mL 84) (ex_rt 84)) := rfl
set_option maxRecDepth 100000 in
theorem ex_ci_85 : lw_tbl[369]? = some (Jvm.Cond.code (ex_nm 85) (ex_by 85) (ex_mL 85) (ex_rt 85)) := rfl
set_option maxRecDepth 100000 in
theorem ex_ci_86 : lw_tbl[479]? = some (Jvm.Cond.code (ex_nm 86) (ex_by 86) (ex_mL 86) (ex_rt 86)) := rfl
set_option maxRecDepth 100000 in
theorem ex_ci_87 : lw_tbl[440]? = some (Jvm.Cond.code (ex_nm 87) (ex_by 87) (ex_mL 87) (ex_rt 87)) := rfl
set_option maxRecDepth 100000 in
theorem ex_ci_88 : lw_tbl[488]? = some (Jvm.Cond.code (ex_nm 88) (ex_by 88) (ex_mL 88) (ex_rt 88)) := rfl
set_option maxRecDepth 100000 in
theorem ex_ci_89 : lw_tbl[492]? = some (Jvm.Cond.code (ex_nm 89) (ex_by 89) (ex_mL 89) (ex_rt 89)) := rfl
set_option maxRecDepth 100000 in
theorem ex_ci_90 : lw_tbl[597]? = some (Jvm.Cond.code (ex_nm 90) (ex_by 90) (ex_mL 90) (ex_rt 90)) := rfl
set_option maxRecDepth 100000 in
theorem ex_ci_91 : lw_tbl[656]? = some (Jvm.Cond.code (ex_nm 91) (ex_by 91) (ex_mL 91) (ex_rt 91)) := rfl
set_option maxRecDepth 100000 in
theorem ex_ci_92 : lw_tbl[791]? = some (Jvm.Cond.code (ex_nm 92) (ex_by 92) (ex_mL 92) (ex_rt 92)) := rfl
set_option maxRecDepth 100000 in
theorem ex_ci_93 : lw_tbl[665]? = some (Jvm.Cond.code (ex_nm 93) (ex_by 93) (ex_mL 93) (ex_rt 93)) := rfl
set_option maxRecDepth 100000 in
theorem ex_ci_94 : lw_tbl[669]? = some (Jvm.Cond.code (ex_nm 94) (ex_by 94) (ex_mL 94) (ex_rt 94)) := rfl
set_option maxRecDepth 100000 in
theorem ex_ci_95 : lw_tbl[701]? = some (Jvm.Cond.code (ex_nm 95) (ex_by 95) (ex_mL 95) (ex_rt 95)) := rfl
set_option maxRecDepth 100000 in
theorem ex_ci_96 : lw_tbl[697]? = some (Jvm.Cond.code (ex_nm 96) (ex_by 96) (ex_mL 96) (ex_rt 96)) := rfl
set_option maxRecDepth 100000 in
theorem ex_ci_97 : lw_tbl[681]? = some (Jvm.Cond.code (ex_nm 97) (ex_by 97) (ex_mL 97) (ex_rt 97)) := rfl
set_option maxRecDepth 100000 in
theorem ex_ci_98 : lw_tbl[685]? = some (Jvm.Cond.code (ex_nm 98) (ex_by 98) (ex_mL 98) (ex_rt 98)) := rfl
set_option maxRecDepth 100000 in
theorem ex_ci_99 : lw_tbl[661]? = some (Jvm.Cond.code (ex_nm 99) (ex_by 99) (ex_mL 99) (ex_rt 99)) := rfl
set_option maxRecDepth 100000 in
theorem ex_ci_100 : lw_tbl[677]? = some (Jvm.Cond.code (ex_nm 100) (ex_by 100) (ex_mL 100) (ex_rt 100)) := rfl
set_option maxRecDepth 100000 in
theorem ex_ci_101 : lw_tbl[689]? = some (Jvm.Cond.code (ex_nm 101) (ex_by 101) (ex_mL 101) (ex_rt 101)) := rfl
set_option maxRecDepth 100000 in
theorem ex_ci_102 : lw_tbl[693]? = some (Jvm.Cond.code (ex_nm 102) (ex_by 102) (ex_mL 102) (ex_rt 102)) := rfl
set_option maxRecDepth 100000 in
theorem ex_ci_103 : lw_tbl[673]? = some (Jvm.Cond.code (ex_nm 103) (ex_by 103) (ex_mL 103) (ex_rt 103)) := rfl
set_option maxRecDepth 100000 in
theorem ex_ci_104 : lw_tbl[843]? = some (Jvm.Cond.code (ex_nm 104) (ex_by 104) (ex_mL 104) (ex_rt 104)) := rfl
set_option maxRecDepth 100000 in
theorem ex_ci_105 : lw_tbl[885]? = some (Jvm.Cond.code (ex_nm 105) (ex_by 105) (ex_mL 105) (ex_rt 105)) := rfl
set_option maxRecDepth 100000 in
theorem ex_ci_106 : lw_tbl[795]? = some (Jvm.Cond.code (ex_nm 106) (ex_by 106) (ex_mL 106) (ex_rt 106)) := rfl
set_option maxRecDepth 100000 in
theorem ex_ci_107 : lw_tbl[788]? = some (Jvm.Cond.code (ex_nm 107) (ex_by 107) (ex_mL 107) (ex_rt 107)) := rfl
set_option maxRecDepth 100000 in
theorem ex_ci_108 : lw_tbl[799]? = some (Jvm.Cond.code (ex_nm 108) (ex_by 108) (ex_mL 108) (ex_rt 108)) := rfl
set_option maxRecDepth 100000 in
theorem ex_ci_109 : lw_tbl[803]? = some (Jvm.Cond.code (ex_nm 109) (ex_by 109) (ex_mL 109) (ex_rt 109)) := rfl
set_option maxRecDepth 100000 in
theorem ex_ci_110 : lw_tbl[811]? = some (Jvm.Cond.code (ex_nm 110) (ex_by 110) (ex_mL 110) (ex_rt 110)) := rfl
set_option maxRecDepth 100000 in
theorem ex_ci_111 : lw_tbl[819]? = some (Jvm.Cond.code (ex_nm 111) (ex_by 111) (ex_mL 111) (ex_rt 111)) := rfl
set_option maxRecDepth 100000 in
theorem ex_ci_112 : lw_tbl[815]? = some (Jvm.Cond.code (ex_nm 112) (ex_by 112) (ex_mL 112) (ex_rt 112)) := rfl
set_option maxRecDepth 100000 in
theorem ex_ci_113 : lw_tbl[807]? = some (Jvm.Cond.code (ex_nm 113) (ex_by 113) (ex_mL 113) (ex_rt 113)) := rfl
set_option maxRecDepth 100000 in
theorem ex_ci_114 : lw_tbl[823]? = some (Jvm.Cond.code (ex_nm 114) (ex_by 114) (ex_mL 114) (ex_rt 114)) := rfl
set_option maxRecDepth 100000 in
theorem ex_ci_115 : lw_tbl[835]? = some (Jvm.Cond.code (ex_nm 115) (ex_by 115) (ex_mL 115) (ex_rt 115)) := rfl
set_option maxRecDepth 100000 in
theorem ex_ci_116 : lw_tbl[831]? = some (Jvm.Cond.code (ex_nm 116) (ex_by 116) (ex_mL 116) (ex_rt 116)) := rfl
set_option maxRecDepth 100000 in
theorem ex_ci_117 : lw_tbl[827]? = some (Jvm.Cond.code (ex_nm 117) (ex_by 117) (ex_mL 117) (ex_rt 117)) := rfl
set_option maxRecDepth 100000 in
theorem ex_ci_118 : lw_tbl[847]? = some (Jvm.Cond.code (ex_nm 118) (ex_by 118) (ex_mL 118) (ex_rt 118)) := rfl
set_option maxRecDepth 100000 in
theorem ex_ci_119 : lw_tbl[851]? = some (Jvm.Cond.code (ex_nm 119) (ex_by 119) (ex_mL 119) (ex_rt 119)) := rfl
set_option maxRecDepth 100000 in
theorem ex_ci_120 : lw_tbl[855]? = some (Jvm.Cond.code (ex_nm 120) (ex_by 120) (ex_mL 120) (ex_rt 120)) := rfl
set_option maxRecDepth 100000 in
theorem ex_ci_121 : lw_tbl[859]? = some (Jvm.Cond.code (ex_nm 121) (ex_by 121) (ex_mL 121) (ex_rt 121)) := rfl
set_option maxRecDepth 100000 in
theorem ex_ci_122 : lw_tbl[839]? = some (Jvm.Cond.code (ex_nm 122) (ex_by 122) (ex_mL 122) (ex_rt 122)) := rfl
set_option maxRecDepth 100000 in
theorem ex_ci_123 : lw_tbl[863]? = some (Jvm.Cond.code (ex_nm 123) (ex_by 123) (ex_mL 123) (ex_rt 123)) := rfl
set_option maxRecDepth 100000 in
theorem ex_ci_124 : lw_tbl[867]? = some (Jvm.Cond.code (ex_nm 124) (ex_by 124) (ex_mL 124) (ex_rt 124)) := rfl
set_option maxRecDepth 100000 in
theorem ex_ci_125 : lw_tbl[871]? = some (Jvm.Cond.code (ex_nm 125) (ex_by 125) (ex_mL 125) (ex_rt 125)) := rfl
set_option maxRecDepth 100000 in
theorem ex_ci_126 : lw_tbl[878]? = some (Jvm.Cond.code (ex_nm 126) (ex_by 126) (ex_mL 126) (ex_rt 126)) := rfl
set_option maxRecDepth 100000 in
theorem ex_ci_127 : lw_tbl[889]? = some (Jvm.Cond.code (ex_nm 127) (ex_by 127) (ex_mL 127) (ex_rt 127)) := rfl
set_option maxRecDepth 100000 in
theorem ex_ci_128 : lw_tbl[905]? = some (Jvm.Cond.code (ex_nm 128) (ex_by 128) (ex_mL 128) (ex_rt 128)) := rfl
set_option maxRecDepth 100000 in
theorem ex_ci_129 : lw_tbl[913]? = some (Jvm.Cond.code (ex_nm 129) (ex_by 129) (ex_mL 129) (ex_rt 129)) := rfl
set_option maxRecDepth 100000 in
theorem ex_ci_130 : lw_tbl[875]? = some (Jvm.Cond.code (ex_nm 130) (ex_by 130) (ex_mL 130) (ex_rt 130)) := rfl
set_option maxRecDepth 100000 in
theorem ex_ci_131 : lw_tbl[893]? = some (Jvm.Cond.code (ex_nm 131) (ex_by 131) (ex_mL 131) (ex_rt 131)) := rfl
set_option maxRecDepth 100000 in
theorem ex_ci_132 : lw_tbl[882]? = some (Jvm.Cond.code (ex_nm 132) (ex_by 132) (ex_mL 132) (ex_rt 132)) := rfl
set_option maxRecDepth 100000 in
theorem ex_ci_133 : lw_tbl[897]? = some (Jvm.Cond.code (ex_nm 133) (ex_by 133) (ex_mL 133) (ex_rt 133)) := rfl
set_option maxRecDepth 100000 in
theorem ex_ci_134 : lw_tbl[917]? = some (Jvm.Cond.code (ex_nm 134) (ex_by 134) (ex_mL 134) (ex_rt 134)) := rfl
set_option maxRecDepth 100000 in
theorem ex_ci_135 : lw_tbl[909]? = some (Jvm.Cond.code (ex_nm 135) (ex_by 135) (ex_mL 135) (ex_rt 135)) := rfl
set_option maxRecDepth 100000 in
theorem ex_ci_136 : lw_tbl[901]? = some (Jvm.Cond.code (ex_nm 136) (ex_by 136) (ex_mL 136) (ex_rt 136)) := rfl
set_option maxRecDepth 100000 in
theorem ex_ci_137 : lw_tbl[921]? = some (Jvm.Cond.code (ex_nm 137) (ex_by 137) (ex_mL 137) (ex_rt 137)) := rfl
set_option maxRecDepth 100000 in
theorem ex_ci_138 : lw_tbl[925]? = some (Jvm.Cond.code (ex_nm 138) (ex_by 138) (ex_mL 138) (ex_rt 138)) := rfl
set_option maxRecDepth 100000 in
theorem ex_ci_139 : lw_tbl[929]? = some (Jvm.Cond.code (ex_nm 139) (ex_by 139) (ex_mL 139) (ex_rt 139)) := rfl
set_option maxRecDepth 100000 in
theorem ex_ci_140 : lw_tbl[937]? = some (Jvm.Cond.code (ex_nm 140) (ex_by 140) (ex_mL 140) (ex_rt 140)) := rfl
set_option maxRecDepth 100000 in
theorem ex_ci_141 : lw_tbl[933]? = some (Jvm.Cond.code (ex_nm 141) (ex_by 141) (ex_mL 141) (ex_rt 141)) := rfl
set_option maxRecDepth 100000 in
theorem ex_ci_142 : lw_tbl[949]? = some (Jvm.Cond.code (ex_nm 142) (ex_by 142) (ex_mL 142) (ex_rt 142)) := rfl
set_option maxRecDepth 100000 in
theorem ex_ci_143 : lw_tbl[945]? = some (Jvm.Cond.code (ex_nm 143) (ex_by 143) (ex_mL 143) (ex_rt 143)) := rfl
set_option maxRecDepth 100000 in
theorem ex_ci_144 : lw_tbl[941]? = some (Jvm.Cond.code (ex_nm 144) (ex_by 144) (ex_mL 144) (ex_rt 144)) := rfl
set_option maxRecDepth 100000 in
theorem ex_ci_145 : lw_tbl[965]? = some (Jvm.Cond.code (ex_nm 145) (ex_by 145) (ex_mL 145) (ex_rt 145)) := rfl
set_option maxRecDepth 100000 in
theorem ex_ci_146 : lw_tbl[961]? = some (Jvm.Cond.code (ex_nm 146) (ex_by 146) (ex_mL 146) (ex_rt 146)) := rfl
set_option maxRecDepth 100000 in
theorem ex_ci_147 : lw_tbl[977]? = some (Jvm.Cond.code (ex_nm 147) (ex_by 147) (ex_mL 147) (ex_rt 147)) := rfl
set_option maxRecDepth 100000 in
theorem ex_ci_148 : lw_tbl[973]? = some (Jvm.Cond.code (ex_nm 148) (ex_by 148) (ex_mL 148) (ex_rt 148)) := rfl
set_option maxRecDepth 100000 in
theorem ex_ci_149 : lw_tbl[957]? = some (Jvm.Cond.code (ex_nm 149) (ex_by 149) (ex_mL 149) (ex_rt 149)) := rfl
set_option maxRecDepth 100000 in
theorem ex_ci_150 : lw_tbl[985]? = some (Jvm.Cond.code (ex_nm 150) (ex_by 150) (ex_mL 150) (ex_rt 150)) := rfl
set_option maxRecDepth 100000 in
theorem ex_ci_151 : lw_tbl[981]? = some (Jvm.Cond.code (ex_nm 151) (ex_by 151) (ex_mL 151) (ex_rt 151)) := rfl
set_option maxRecDepth 100000 in
theorem ex_ci_152 : lw_tbl[989]? = some (Jvm.Cond.code (ex_nm 152) (ex_by 152) (ex_mL 152) (ex_rt 152)) := rfl
set_option maxRecDepth 100000 in
theorem ex_ci_153 : lw_tbl[969]? = some (Jvm.Cond.code (ex_nm 153) (ex_by 153) (ex_mL 153) (ex_rt 153)) := rfl
set_option maxRecDepth 100000 in
theorem ex_ci_154 : lw_tbl[953]? = some (Jvm.Cond.code (ex_nm 154) (ex_by 154) (ex_mL 154) (ex_rt 154)) := rfl
set_option maxRecDepth 100000 in
theorem ex_ci_155 : lw_tbl[993]? = some (Jvm.Cond.code (ex_nm 155) (ex_by 155) (ex_mL 155) (ex_rt 155)) := rfl
set_option maxRecDepth 100000 in
theorem ex_ci_156 : lw_tbl[997]? = some (Jvm.Cond.code (ex_nm 156) (ex_by 156) (ex_mL 156) (ex_rt 156)) := rfl
set_option maxRecDepth 100000 in
theorem ex_ci_157 : lw_tbl[1001]? = some (Jvm.Cond.code (ex_nm 157) (ex_by 157) (ex_mL 157) (ex_rt 157)) := rfl
set_option maxRecDepth 100000 in
theorem ex_ci_158 : lw_tbl[1005]? = some (Jvm.Cond.code (ex_nm 158) (ex_by 158) (ex_mL 158) (ex_rt 158)) := rfl
set_option maxRecDepth 100000 in
theorem ex_ci_159 : lw_tbl[166]? = some (Jvm.Cond.code (ex_nm 159) (ex_by 159) (ex_mL 159) (ex_rt 159)) := rfl
set_option maxRecDepth 100000 in
theorem ex_ci_160 : lw_tbl[118]? = some (Jvm.Cond.code (ex_nm 160) (ex_by 160) (ex_mL 160) (ex_rt 160)) := rfl
theorem ex_code_in : ∀ y, y < 161 → Jvm.Cond.code (ex_nm y) (ex_by y) (ex_mL y) (ex_rt y) ∈ lw_tbl ∧ goodWord (Jvm.Cond.code (ex_nm y) (ex_by y) (ex_mL y) (ex_rt y)) = true := by
  intro y hy
  refine ⟨?_, rfl⟩
  match y, hy with
  | 0, _ => exact List.mem_of_getElem? ex_ci_0
  | 1, _ => exact List.mem_of_getElem? ex_ci_1
  | 2, _ => exact List.mem_of_getElem? ex_ci_2
  | 3, _ => exact List.mem_of_getElem? ex_ci_3
  | 4, _ => exact List.mem_of_getElem? ex_ci_4
  | 5, _ => exact List.mem_of_getElem? ex_ci_5
  | 6, _ => exact List.mem_of_getElem? ex_ci_6
  | 7, _ => exact List.mem_of_getElem? ex_ci_7
  | 8, _ => exact List.mem_of_getElem? ex_ci_8
  | 9, _ => exact List.mem_of_getElem? ex_ci_9
  | 10, _ => exact List.mem_of_getElem? ex_ci_10
  | 11, _ => exact List.mem_of_getElem? ex_ci_11
  | 12, _ => exact List.mem_of_getElem? ex_ci_12
  | 13, _ => exact List.mem_of_getElem? ex_ci_13
  | 14, _ => exact List.mem_of_getElem? ex_ci_14
  | 15, _ => exact List.mem_of_getElem? ex_ci_15
  | 16, _ => exact List.mem_of_getElem? ex_ci_16
  | 17, _ => exact List.mem_of_getElem? ex_ci_17
  | 18, _ => exact List.mem_of_getElem? ex_ci_18
  | 19, _ => exact List.mem_of_getElem? ex_ci_19
  | 20, _ => exact List.mem_of_getElem? ex_ci_20
  | 21, _ => exact List.mem_of_getElem? ex_ci_21
  | 22, _ => exact List.mem_of_getElem? ex_ci_22
  | 23, _ => exact List.mem_of_getElem? ex_ci_23
  | 24, _ => exact List.mem_of_getElem? ex_ci_24
  | 25, _ => exact List.mem_of_getElem? ex_ci_25
  | 26, _ => exact List.mem_of_getElem? ex_ci_26
  | 27, _ => exact List.mem_of_getElem? ex_ci_27
  | 28, _ => exact List.mem_of_getElem? ex_ci_28
  | 29, _ => exact List.mem_of_getElem? ex_ci_29
  | 30, _ => exact List.mem_of_getElem? ex_ci_30
  | 31, _ => exact List.mem_of_getElem? ex_ci_31
  | 32, _ => exact List.mem_of_getElem? ex_ci_32
  | 33, _ => exact List.mem_of_getElem? ex_ci_33
  | 34, _ => exact List.mem_of_getElem? ex_ci_34
  | 35, _ => exact List.mem_of_getElem? ex_ci_35
  | 36, _ => exact List.mem_of_getElem? ex_ci_36
  | 37, _ => exact List.mem_of_getElem? ex_ci_37
  | 38, _ => exact List.mem_of_getElem? ex_ci_38
  | 39, _ => exact List.mem_of_getElem? ex_ci_39
  | 40, _ => exact List.mem_of_getElem? ex_ci_40
  | 41, _ => exact List.mem_of_getElem? ex_ci_41
  | 42, _ => exact List.mem_of_getElem? ex_ci_42
  | 43, _ => exact List.mem_of_getElem? ex_ci_43
  | 44, _ => exact List.mem_of_getElem? ex_ci_44
  | 45, _ => exact List.mem_of_getElem? ex_ci_45
  | 46, _ => exact List.mem_of_getElem? ex_ci_46
  | 47, _ => exact List.mem_of_getElem? ex_ci_47
  | 48, _ => exact List.mem_of_getElem? ex_ci_48
  | 49, _ => exact List.mem_of_getElem? ex_ci_49
  | 50, _ => exact List.mem_of_getElem? ex_ci_50
  | 51, _ => exact List.mem_of_getElem? ex_ci_51
  | 52, _ => exact List.mem_of_getElem? ex_ci_52
  | 53, _ => exact List.mem_of_getElem? ex_ci_53
  | 54, _ => exact List.mem_of_getElem? ex_ci_54
  | 55, _ => exact List.mem_of_getElem? ex_ci_55
  | 56, _ => exact List.mem_of_getElem? ex_ci_56
  | 57, _ => exact List.mem_of_getElem? ex_ci_57
  | 58, _ => exact List.mem_of_getElem? ex_ci_58
  | 59, _ => exact List.mem_of_getElem? ex_ci_59
  | 60, _ => exact List.mem_of_getElem? ex_ci_60
  | 61, _ => exact List.mem_of_getElem? ex_ci_61
  | 62, _ => exact List.mem_of_getElem? ex_ci_62
  | 63, _ => exact List.mem_of_getElem? ex_ci_63
  | 64, _ => exact List.mem_of_getElem? ex_ci_64
  | 65, _ => exact List.mem_of_getElem? ex_ci_65
  | 66, _ => exact List.mem_of_getElem? ex_ci_66
  | 67, _ => exact List.mem_of_getElem? ex_ci_67
  | 68, _ => exact List.mem_of_getElem? ex_ci_68
  | 69, _ => exact List.mem_of_getElem? ex_ci_69
  | 70, _ => exact List.mem_of_getElem? ex_ci_70
  | 71, _ => exact List.mem_of_getElem? ex_ci_71
  | 72, _ => exact List.mem_of_getElem? ex_ci_72
  | 73, _ => exact List.mem_of_getElem? ex_ci_73
  | 74, _ => exact List.mem_of_getElem? ex_ci_74
  | 75, _ => exact List.mem_of_getElem? ex_ci_75
  | 76, _ => exact List.mem_of_getElem? ex_ci_76
  | 77, _ => exact List.mem_of_getElem? ex_ci_77
  | 78, _ => exact List.mem_of_getElem? ex_ci_78
  | 79, _ => exact List.mem_of_getElem? ex_ci_79
  | 80, _ => exact List.mem_of_getElem? ex_ci_80
  | 81, _ => exact List.mem_of_getElem? ex_ci_81
  | 82, _ => exact List.mem_of_getElem? ex_ci_82
  | 83, _ => exact List.mem_of_getElem? ex_ci_83
  | 84, _ => exact List.mem_of_getElem? ex_ci_84
  | 85, _ => exact List.mem_of_getElem? ex_ci_85
  | 86, _ => exact List.mem_of_getElem? ex_ci_86
  | 87, _ => exact List.mem_of_getElem? ex_ci_87
  | 88, _ => exact List.mem_of_getElem? ex_ci_88
  | 89, _ => exact List.mem_of_getElem? ex_ci_89
  | 90, _ => exact List.mem_of_getElem? ex_ci_90
  | 91, _ => exact List.mem_of_getElem? ex_ci_91
  | 92, _ => exact List.mem_of_getElem? ex_ci_92
  | 93, _ => exact List.mem_of_getElem? ex_ci_93
  | 94, _ => exact List.mem_of_getElem? ex_ci_94
  | 95, _ => exact List.mem_of_getElem? ex_ci_95
  | 96, _ => exact List.mem_of_getElem? ex_ci_96
  | 97, _ => exact List.mem_of_getElem? ex_ci_97
  | 98, _ => exact List.mem_of_getElem? ex_ci_98
  | 99, _ => exact List.mem_of_getElem? ex_ci_99
  | 100, _ => exact List.mem_of_getElem? ex_ci_100
  | 101, _ => exact List.mem_of_getElem? ex_ci_101
  | 102, _ => exact List.mem_of_getElem? ex_ci_102
  | 103, _ => exact List.mem_of_getElem? ex_ci_103
  | 104, _ => exact List.mem_of_getElem? ex_ci_104
  | 105, _ => exact List.mem_of_getElem? ex_ci_105
  | 106, _ => exact List.mem_of_getElem? ex_ci_106
  | 107, _ => exact List.mem_of_getElem? ex_ci_107
  | 108, _ => exact List.mem_of_getElem? ex_ci_108
  | 109, _ => exact List.mem_of_getElem? ex_ci_109
  | 110, _ => exact List.mem_of_getElem? ex_ci_110
  | 111, _ => exact List.mem_of_getElem? ex_ci_111
  | 112, _ => exact List.mem_of_getElem? ex_ci_112
  | 113, _ => exact List.mem_of_getElem? ex_ci_113
  | 114, _ => exact List.mem_of_getElem? ex_ci_114
  | 115, _ => exact List.mem_of_getElem? ex_ci_115
  | 116, _ => exact List.mem_of_getElem? ex_ci_116
  | 117, _ => exact List.mem_of_getElem? ex_ci_117
  | 118, _ => exact List.mem_of_getElem? ex_ci_118
  | 119, _ => exact List.mem_of_getElem? ex_ci_119
  | 120, _ => exact List.mem_of_getElem? ex_ci_120
  | 121, _ => exact List.mem_of_getElem? ex_ci_121
  | 122, _ => exact List.mem_of_getElem? ex_ci_122
  | 123, _ => exact List.mem_of_getElem? ex_ci_123
  | 124, _ => exact List.mem_of_getElem? ex_ci_124
  | 125, _ => exact List.mem_of_getElem? ex_ci_125
  | 126, _ => exact List.mem_of_getElem? ex_ci_126
  | 127, _ => exact List.mem_of_getElem? ex_ci_127
  | 128, _ => exact List.mem_of_getElem? ex_ci_128
  | 129, _ => exact List.mem_of_getElem? ex_ci_129
  | 130, _ => exact List.mem_of_getElem? ex_ci_130
  | 131, _ => exact List.mem_of_getElem? ex_ci_131
  | 132, _ => exact List.mem_of_getElem? ex_ci_132
  | 133, _ => exact List.mem_of_getElem? ex_ci_133
  | 134, _ => exact List.mem_of_getElem? ex_ci_134
  | 135, _ => exact List.mem_of_getElem? ex_ci_135
  | 136, _ => exact List.mem_of_getElem? ex_ci_136
  | 137, _ => exact List.mem_of_getElem? ex_ci_137
  | 138, _ => exact List.mem_of_getElem? ex_ci_138
  | 139, _ => exact List.mem_of_getElem? ex_ci_139
  | 140, _ => exact List.mem_of_getElem? ex_ci_140
  | 141, _ => exact List.mem_of_getElem? ex_ci_141
  | 142, _ => exact List.mem_of_getElem? ex_ci_142
  | 143, _ => exact List.mem_of_getElem? ex_ci_143
  | 144, _ => exact List.mem_of_getElem? ex_ci_144
  | 145, _ => exact List.mem_of_getElem? ex_ci_145
  | 146, _ => exact List.mem_of_getElem? ex_ci_146
  | 147, _ => exact List.mem_of_getElem? ex_ci_147
  | 148, _ => exact List.mem_of_getElem? ex_ci_148
  | 149, _ => exact List.mem_of_getElem? ex_ci_149
  | 150, _ => exact List.mem_of_getElem? ex_ci_150
  | 151, _ => exact List.mem_of_getElem? ex_ci_151
  | 152, _ => exact List.mem_of_getElem? ex_ci_152
  | 153, _ => exact List.mem_of_getElem? ex_ci_153
  | 154, _ => exact List.mem_of_getElem? ex_ci_154
  | 155, _ => exact List.mem_of_getElem? ex_ci_155
  | 156, _ => exact List.mem_of_getElem? ex_ci_156
  | 157, _ => exact List.mem_of_getElem? ex_ci_157
  | 158, _ => exact List.mem_of_getElem? ex_ci_158
  | 159, _ => exact List.mem_of_getElem? ex_ci_159
  | 160, _ => exact List.mem_of_getElem? ex_ci_160
  | y + 161, h => exact absurd h (by omega)
def ex_flc (e : Nat × Nat × Nat × Nat) : Jvm.Cond := .fieldLink (ex_o e.1) e.2.1 ((ex_T e.2.2.1).2.1 e.2.2.2).1 ((ex_T e.2.2.1).2.1 e.2.2.2).2.1 ((ex_T e.2.2.1).2.1 e.2.2.2).2.2.1
theorem ex_fl_in : ex_fl.all (fun e => ex_wb (ex_flc e)) = true := by decide +kernel
def ex_clc (e : Nat × Nat × String) : Jvm.Cond := .classLink (ex_o e.1) e.2.1 e.2.2
theorem ex_cl_in : ex_cl.all (fun e => ex_wb (ex_clc e)) = true := by decide +kernel
theorem ex_lay_in : vwCl.all (fun q => ((u_ws q.1 q.2.1 q.2.2) ++ [Jvm.Cond.instantiable q.1 q.2.2, Jvm.Cond.initialized q.1]).all ex_wb) = true := by decide +kernel
theorem ex_ty_in : (List.range 9).all (fun ci => (List.range (ex_nf ci)).all (fun k => decide (parseFieldDescriptor ((ex_T ci).2.1 k).2.2.1 = some (ex_ty ci k)) && decide ((ex_T ci).2.2 = ex_nf ci))) = true := by decide +kernel
theorem ex_nd_in : (List.range 9).all (fun ci => (List.range (ex_nf ci)).all (fun a => (List.range (ex_nf ci)).all (fun b => decide (a = b) || decide (((ex_T ci).2.1 a).2.1 ≠ ((ex_T ci).2.1 b).2.1)))) = true := by decide +kernel
theorem ex_arr_in : ex_wb (.arrayClass .int) = true ∧ ex_wb (.arrayClass .boolean) = true := by decide +kernel
def ex_objInit : Jvm.Cond := .code objectInit ⟨#[0xb1]⟩ 1 none
theorem ex_obj_in : ex_wb (.instanceMethod objectInit) = true ∧ ex_wb ex_objInit = true := by decide +kernel
theorem ex_min_in : ex_wb (.static Lib.Math.min.name) = true ∧ ex_wb (.initialized "java/lang/Math") = true ∧ ex_wb (.code Lib.Math.min.name Lib.Math.min.code 2 (some .int)) = true := by decide +kernel
theorem ex_copy_in : ex_wb (.native arraycopyName) = true ∧ ex_wb (.static arraycopyName) = true ∧ ex_wb (.initialized "java/lang/System") = true := by decide +kernel
def ex_clname : MethodName := ⟨"[I", "clone", "()Ljava/lang/Object;"⟩
def ex_obclone : MethodName := ⟨"java/lang/Object", "clone", "()Ljava/lang/Object;"⟩
theorem ex_clone_in : ex_wb (.sameMethod "[I" "java/lang/Object" "clone" "()Ljava/lang/Object;") = true ∧ ex_wb (.native ex_obclone) = true ∧ ex_wb (.instanceMethod ex_obclone) = true ∧ ex_wb (.selects "[I" ex_clname ex_obclone) = true := by decide +kernel
/-- the name that a link of ex_ml tells -/
def ex_mn (y : Nat) : MethodName := if y < 1000 then ex_nm y else if y = 1000 then objectInit else if y = 1001 then arraycopyName else if y = 1002 then ex_clname else Lib.Math.min.name
def ex_mlc (e : Nat × Nat × Nat × Nat) : Bool := ex_wb (.methodLink (ex_o e.1) e.2.1 (ex_mn e.2.2.1)) || decide (Jvm.Cond.methodLinkNest (ex_o e.1) e.2.1 (ex_mn e.2.2.1) RX8 ∈ ex_nest)
theorem ex_ml_in1 : (ex_ml.take 70).all ex_mlc = true := by decide +kernel
theorem ex_ml_in2 : ((ex_ml.drop 70).take 70).all ex_mlc = true := by decide +kernel
theorem ex_ml_in3 : ((ex_ml.drop 140)).all ex_mlc = true := by decide +kernel
/-- a method's kind: 0 static, 1 one that calls select, 2 a constructor -/
def ex_mk (y : Nat) : Bool := ex_wb (.initialized (ex_nm y).cls) && decide ((ex_nm y).cls ≠ "java/lang/invoke/MethodHandle" ∧ (ex_nm y).cls ≠ "java/lang/invoke/VarHandle") && Jvm.plainName (ex_nm y).cls && decide (ex_na y ≤ ex_mL y) && decide ((ex_nm y).cls = ex_o (ex_ow y)) &&
  (match ex_kd y with
   | 0 => ex_wb (.static (ex_nm y)) && decide ((parseMethodDescriptor (ex_nm y).desc).map (fun d => d.parameters.length) = some (ex_na y))
   | 1 => ex_wb (.instanceMethod (ex_nm y)) && ex_wb (.selects (ex_nm y).cls (ex_nm y) (ex_nm y)) && decide ((parseMethodDescriptor (ex_nm y).desc).map (fun d => d.parameters.length + 1) = some (ex_na y))
   | 2 => ex_wb (.instanceMethod (ex_nm y)) && decide ((ex_nm y).name = "<init>" ∧ ex_rt y = none) && decide ((parseMethodDescriptor (ex_nm y).desc).map (fun d => d.parameters.length + 1) = some (ex_na y))
   | _ => false)
theorem ex_mk_0 : (List.range' 0 41).all ex_mk = true := by decide +kernel
theorem ex_mk_1 : (List.range' 41 41).all ex_mk = true := by decide +kernel
theorem ex_mk_2 : (List.range' 82 41).all ex_mk = true := by decide +kernel
theorem ex_mk_3 : (List.range' 123 38).all ex_mk = true := by decide +kernel
end
section
/-! EACH INSTRUCTION OF THE TABLES IS THE BYTES' OWN, and its links are told. -/
def ex_okC (y a c : Nat) : Bool := decide (a < 161) && decide (c = ex_na a) && decide (ex_fr a + 1 ≤ ex_fr y) && decide (8 + (ex_mL a + 11) + ex_lo a ≤ ex_lo y)
def ex_okA (y pc : Nat) (ins : Instr) (len a c : Nat) (v : Int32) : Bool := match ins with
  | .iconst n => decide (len = 1 ∧ Int32.ofInt n = v)
  | .bipush n => decide (len = 2 ∧ (Int8.ofInt n).toInt32 = v)
  | .sipush n => decide (len = 3 ∧ (Int16.ofInt n).toInt32 = v)
  | .iload i => decide (len = 2 ∧ a = i)
  | .aload i => decide (len = 2 ∧ a = i)
  | .istore i => decide (len = 2 ∧ a = i)
  | .astore i => decide (len = 2 ∧ a = i)
  | .iload_n i => decide (len = 1 ∧ a = (i : Nat))
  | .aload_n i => decide (len = 1 ∧ a = (i : Nat))
  | .istore_n i => decide (len = 1 ∧ a = (i : Nat))
  | .astore_n i => decide (len = 1 ∧ a = (i : Nat))
  | .iinc i n => decide (len = 3 ∧ a = i ∧ Int32.ofInt n = v)
  | .ineg => decide (len = 1)
  | .dup => decide (len = 1)
  | .pop => decide (len = 1)
  | .iadd => decide (len = 1)
  | .isub => decide (len = 1)
  | .imul => decide (len = 1)
  | .idiv => decide (len = 1)
  | .irem => decide (len = 1)
  | .ishl => decide (len = 1)
  | .ishr => decide (len = 1)
  | .iand => decide (len = 1)
  | .ior => decide (len = 1)
  | .iaload => decide (len = 1)
  | .iastore => decide (len = 1)
  | .baload => decide (len = 1)
  | .bastore => decide (len = 1)
  | .aaload => decide (len = 1)
  | .aastore => decide (len = 1)
  | .arraylength => decide (len = 1)
  | .ifCond _ off => decide (len = 3 ∧ (pc : Int) + off = (a : Int))
  | .if_icmp _ off => decide (len = 3 ∧ (pc : Int) + off = (a : Int))
  | .goto off => decide (len = 3 ∧ (pc : Int) + off = (a : Int))
  | .ifnull off => decide (len = 3 ∧ (pc : Int) + off = (a : Int))
  | .ifnonnull off => decide (len = 3 ∧ (pc : Int) + off = (a : Int))
  | .tableswitch d _ _ offs => decide ((pc : Int) + d = (a : Int)) && offs.toList.all (fun o => decide (0 ≤ (pc : Int) + o))
  | .getfield i => decide (len = 3 ∧ a < 9 ∧ c < ex_nf a) && ex_fl.contains (ex_ow y, i, a, c)
  | .putfield i => decide (len = 3 ∧ a < 9 ∧ c < ex_nf a) && ex_fl.contains (ex_ow y, i, a, c) && (!((ex_T a).2.1 c).2.2.2 || decide ((ex_nm y).name = "<init>" ∧ ((ex_T a).2.1 c).1 = ex_o (ex_ow y)))
  | .checkcast i => decide (len = 3) && ex_cl.contains (ex_ow y, i, "[I")
  | .new i => decide (len = 3 ∧ a < 9) && ex_cl.contains (ex_ow y, i, (ex_T a).1)
  | .newarray t => decide (len = 2) && ((decide (a = 0) && decide (t = .int)) || (decide (a = 1) && decide (t = .boolean)))
  | .anewarray i => decide (len = 3) && ((decide (a = 3) && ex_cl.contains (ex_ow y, i, RX1)) || (decide (a = 4) && ex_cl.contains (ex_ow y, i, RX5)) || (decide (a = 5) && ex_cl.contains (ex_ow y, i, RX7)))
  | .multianewarray i d => decide (len = 4 ∧ d = 2) && ex_cl.contains (ex_ow y, i, "[[I")
  | .invokespecial i => decide (len = 3) && ex_ml.contains (ex_ow y, i, a, 2) && (if a < 1000 then ex_okC y a c && decide (ex_kd a = 2) else decide (a = 1000 ∧ 1 ≤ ex_fr y ∧ 20 ≤ ex_lo y))
  | .invokestatic i => decide (len = 3) && ex_ml.contains (ex_ow y, i, a, 0) && (if a < 1000 then ex_okC y a c && decide (ex_kd a = 0) else decide ((a = 1001 ∨ a = 1003) ∧ 1 ≤ ex_fr y ∧ (a = 1001 → 26 ≤ ex_lo y) ∧ 21 ≤ ex_lo y))
  | .invokevirtual i => decide (len = 3) && ex_ml.contains (ex_ow y, i, a, 1) && (if a < 1000 then ex_okC y a c && decide (ex_kd a = 1) else decide (a = 1002 ∧ 1 ≤ ex_fr y ∧ 22 ≤ ex_lo y))
  | .ireturn => decide (len = 1) && ((decide (a = 0) && decide (ex_rt y = some .int)) || (decide (a = 1) && decide (ex_rt y = some .boolean)))
  | .areturn => decide (len = 1 ∧ ex_rt y = some (.array .int))
  | .return_ => decide (len = 1 ∧ ex_rt y = none)
  | _ => false
def ex_okI (y pc : Nat) (o : ex_MO) : Bool := decide (decode (ex_by y) pc = .ok (o.1, o.2.1)) && ex_okA y pc o.1 o.2.1 o.2.2.1 o.2.2.2.1 o.2.2.2.2
def ex_chk (y : Nat) : Bool := ((ex_codes.getD y []).zipIdx).all (fun q => decide (q.1 = ex_no) || ex_okI y q.2 q.1)

theorem ex_chk_0 : (List.range' 0 23).all ex_chk = true := by decide +kernel
theorem ex_chk_1 : (List.range' 23 23).all ex_chk = true := by decide +kernel
theorem ex_chk_2 : (List.range' 46 23).all ex_chk = true := by decide +kernel
theorem ex_chk_3 : (List.range' 69 23).all ex_chk = true := by decide +kernel
theorem ex_chk_4 : (List.range' 92 23).all ex_chk = true := by decide +kernel
theorem ex_chk_5 : (List.range' 115 23).all ex_chk = true := by decide +kernel
theorem ex_chk_6 : (List.range' 138 23).all ex_chk = true := by decide +kernel
theorem ex_chk_all : ∀ y, y < 161 → ex_chk y = true := by
  intro y hy
  by_cases h0 : y < 23
  · exact List.all_eq_true.mp ex_chk_0 y (List.mem_range'_1.mpr ⟨by omega, by omega⟩)
  by_cases h1 : y < 46
  · exact List.all_eq_true.mp ex_chk_1 y (List.mem_range'_1.mpr ⟨by omega, by omega⟩)
  by_cases h2 : y < 69
  · exact List.all_eq_true.mp ex_chk_2 y (List.mem_range'_1.mpr ⟨by omega, by omega⟩)
  by_cases h3 : y < 92
  · exact List.all_eq_true.mp ex_chk_3 y (List.mem_range'_1.mpr ⟨by omega, by omega⟩)
  by_cases h4 : y < 115
  · exact List.all_eq_true.mp ex_chk_4 y (List.mem_range'_1.mpr ⟨by omega, by omega⟩)
  by_cases h5 : y < 138
  · exact List.all_eq_true.mp ex_chk_5 y (List.mem_range'_1.mpr ⟨by omega, by omega⟩)
  by_cases h6 : y < 161
  · exact List.all_eq_true.mp ex_chk_6 y (List.mem_range'_1.mpr ⟨by omega, by omega⟩)
  exact absurd hy (by omega)
theorem ex_codes_len : ex_codes.length = 162 := by decide +kernel
def ex_okP (y pc : Nat) : Bool := decide (ex_mo y pc = ex_no) || ex_okI y pc (ex_mo y pc)
end
section
theorem ex_lawseg_0 : (List.range' 0 60).all (ex_okP 161) = true := by decide +kernel
theorem ex_lawseg_1 : (List.range' 60 60).all (ex_okP 161) = true := by decide +kernel
theorem ex_lawseg_2 : (List.range' 120 60).all (ex_okP 161) = true := by decide +kernel
theorem ex_lawseg_3 : (List.range' 180 60).all (ex_okP 161) = true := by decide +kernel
theorem ex_lawseg_4 : (List.range' 240 60).all (ex_okP 161) = true := by decide +kernel
end
section
theorem ex_lawseg_5 : (List.range' 300 60).all (ex_okP 161) = true := by decide +kernel
theorem ex_lawseg_6 : (List.range' 360 60).all (ex_okP 161) = true := by decide +kernel
theorem ex_lawseg_7 : (List.range' 420 60).all (ex_okP 161) = true := by decide +kernel
theorem ex_lawseg_8 : (List.range' 480 60).all (ex_okP 161) = true := by decide +kernel
theorem ex_lawseg_9 : (List.range' 540 60).all (ex_okP 161) = true := by decide +kernel
end
section
theorem ex_lawseg_10 : (List.range' 600 60).all (ex_okP 161) = true := by decide +kernel
theorem ex_lawseg_11 : (List.range' 660 60).all (ex_okP 161) = true := by decide +kernel
theorem ex_lawseg_12 : (List.range' 720 60).all (ex_okP 161) = true := by decide +kernel
theorem ex_lawseg_13 : (List.range' 780 60).all (ex_okP 161) = true := by decide +kernel
theorem ex_lawseg_14 : (List.range' 840 34).all (ex_okP 161) = true := by decide +kernel
end
section
theorem ex_law_all : ∀ pc, pc < 874 → ex_okP 161 pc = true := by
  intro pc hy
  by_cases h0 : pc < 60
  · exact List.all_eq_true.mp ex_lawseg_0 pc (List.mem_range'_1.mpr ⟨by omega, by omega⟩)
  by_cases h1 : pc < 120
  · exact List.all_eq_true.mp ex_lawseg_1 pc (List.mem_range'_1.mpr ⟨by omega, by omega⟩)
  by_cases h2 : pc < 180
  · exact List.all_eq_true.mp ex_lawseg_2 pc (List.mem_range'_1.mpr ⟨by omega, by omega⟩)
  by_cases h3 : pc < 240
  · exact List.all_eq_true.mp ex_lawseg_3 pc (List.mem_range'_1.mpr ⟨by omega, by omega⟩)
  by_cases h4 : pc < 300
  · exact List.all_eq_true.mp ex_lawseg_4 pc (List.mem_range'_1.mpr ⟨by omega, by omega⟩)
  by_cases h5 : pc < 360
  · exact List.all_eq_true.mp ex_lawseg_5 pc (List.mem_range'_1.mpr ⟨by omega, by omega⟩)
  by_cases h6 : pc < 420
  · exact List.all_eq_true.mp ex_lawseg_6 pc (List.mem_range'_1.mpr ⟨by omega, by omega⟩)
  by_cases h7 : pc < 480
  · exact List.all_eq_true.mp ex_lawseg_7 pc (List.mem_range'_1.mpr ⟨by omega, by omega⟩)
  by_cases h8 : pc < 540
  · exact List.all_eq_true.mp ex_lawseg_8 pc (List.mem_range'_1.mpr ⟨by omega, by omega⟩)
  by_cases h9 : pc < 600
  · exact List.all_eq_true.mp ex_lawseg_9 pc (List.mem_range'_1.mpr ⟨by omega, by omega⟩)
  by_cases h10 : pc < 660
  · exact List.all_eq_true.mp ex_lawseg_10 pc (List.mem_range'_1.mpr ⟨by omega, by omega⟩)
  by_cases h11 : pc < 720
  · exact List.all_eq_true.mp ex_lawseg_11 pc (List.mem_range'_1.mpr ⟨by omega, by omega⟩)
  by_cases h12 : pc < 780
  · exact List.all_eq_true.mp ex_lawseg_12 pc (List.mem_range'_1.mpr ⟨by omega, by omega⟩)
  by_cases h13 : pc < 840
  · exact List.all_eq_true.mp ex_lawseg_13 pc (List.mem_range'_1.mpr ⟨by omega, by omega⟩)
  by_cases h14 : pc < 874
  · exact List.all_eq_true.mp ex_lawseg_14 pc (List.mem_range'_1.mpr ⟨by omega, by omega⟩)
  exact absurd hy (by omega)
theorem ex_law_len : (ex_codes.getD 161 []).length = 874 := by decide +kernel
theorem ex_ok {y pc : Nat} (h : ¬ ex_mo y pc = ex_no) : ex_okI y pc (ex_mo y pc) = true := by
  have hy : y < 162 := by
    rcases Nat.lt_or_ge y 162 with q | q
    · exact q
    · exfalso
      apply h
      unfold ex_mo
      rw [List.getD_eq_getElem?_getD (l := ex_codes), List.getElem?_eq_none (by rw [ex_codes_len]; exact q)]
      rfl
  have hpc : pc < (ex_codes.getD y []).length := by
    rcases Nat.lt_or_ge pc (ex_codes.getD y []).length with q | q
    · exact q
    · exfalso
      apply h
      unfold ex_mo
      rw [List.getD_eq_getElem?_getD, List.getElem?_eq_none q]
      rfl
  by_cases hl : y = 161
  · subst hl
    have h2 := ex_law_all pc (by rw [ex_law_len] at hpc; exact hpc)
    unfold ex_okP at h2
    rw [Bool.or_eq_true, decide_eq_true_eq] at h2
    rcases h2 with h2 | h2
    · exact absurd h2 h
    · exact h2
  · have h1 := List.all_eq_true.mp (ex_chk_all y (by omega))
    unfold ex_mo at h ⊢
    generalize ex_codes.getD y [] = l at h h1 hpc ⊢
    have hg : l.getD pc ex_no = l[pc] := by simp [List.getD_eq_getElem?_getD, hpc]
    rw [hg] at h ⊢
    have h2 := h1 (l[pc], pc) (by
      rw [List.mem_iff_getElem?]
      exact ⟨pc, by simp [hpc]⟩)
    simp only [Bool.or_eq_true, decide_eq_true_eq] at h2
    rcases h2 with h2 | h2
    · exact absurd h2 h
    · exact h2
end
section
/-! THE PURE MACHINE'S CELLS IN THE HEAP: the script at b, the others from B on. -/
def ex_sh (B b a : Nat) : Nat := if a = 0 then b else B + (a - 1)
def ex_sv (B b : Nat) (v : Value) : Value := match v with
  | .ref a => .ref (ex_sh B b a)
  | w => w
def ex_emb (dA : Nat → ClassId) (B b : Nat) (c : ex_AC) : va_E := match c with
  | .inl (t, n, f) => .inl (dA t, n, .inl f)
  | .inr (.inl (t, n, f)) => .inl (dA t, n, .inr (.inr (.inr (.inr (fun i => (f i).map (ex_sh B b))))))
  | .inr (.inr (ci, fs)) => .inr (ci, fs.map (ex_sv B b))
def ex_tag (c : ex_AC) : Prop := match c with
  | .inl (t, _, _) => t = 0 ∨ t = 1
  | .inr (.inl (t, _, _)) => t = 2 ∨ t = 3 ∨ t = 4 ∨ t = 5
  | .inr (.inr (ci, _)) => ci < 9
def ex_Scr (scr : Cell) (n : Nat) (f : Nat → Int32) : Prop := scr.vm ≠ .unknown ∧ scr.slots.size = n ∧ ∀ j : Nat, j < n → scr.slots[j]? = some (.int (f j))
def ex_Rep (D : va_G) (dA : Nat → ClassId) (B b : Nat) (scr : Cell) (h : ex_Hp) (H : Heap) : Prop :=
  1 ≤ h.1 ∧ H.size + 1 = B + h.1 ∧ b < B ∧ H[b]? = some scr ∧ ∀ (a : Nat) (c : ex_AC), h.2.2 a = some c → (a = 0 ∧ ∃ (n : Nat) (f : Nat → Int32), c = .inl (9, n, f) ∧ ex_Scr scr n f) ∨ (1 ≤ a ∧ a < h.1 ∧ ex_tag c ∧ va_at D vwCl (ex_sh B b a, ex_emb dA B b c) H)
def ex_tyl (dA : Nat → ClassId) : List (ClassId × FieldType) := [(dA 0, .int), (dA 1, .boolean), (dA 2, .array .int), (dA 3, .object RX1), (dA 4, .object RX5), (dA 5, .object RX7)]
def ex_over : List FieldType := [.array .int, .object RX1, .object RX5, .object RX7]
def ex_K (D : va_G) (dA : Nat → ClassId) (scr : Cell) (U : State) : Prop := va_K D vwCl (ex_tyl dA) U ∧ U.isArrayOf scr .int ∧ (∀ t ∈ ex_over, (Jvm.Cond.arrayOver t).before #[] U = true) ∧ va_Nw (.castable "[I" "java/lang/Cloneable") U ∧ ∀ w ∈ ex_nest, va_Nw w U
theorem ex_K.moved {D : va_G} {dA : Nat → ClassId} {scr : Cell} {s U : State} (hW : s.WarmedH U.vm) (h : ex_K D dA scr s) : ex_K D dA scr U := by
  obtain ⟨h1, h2, h3, h4, h5⟩ := h
  refine ⟨h1.moved hW.alike, State.isArrayOf_alike hW.alike h2, fun t ht => ?_, va_Nw.warmC hW h4, fun w hw => ?_⟩
  · have e := Cond.arrayOver_setVmC (args := #[]) hW.alike t
    exact e.trans (h3 t ht)
  · have hz := h5 w hw
    simp only [ex_nest, List.mem_cons, List.not_mem_nil, or_false] at hw
    rcases hw with rfl | rfl | rfl | rfl | rfl | rfl <;> exact va_Nw.warmM hW hz
theorem ex_K.same {D : va_G} {dA : Nat → ClassId} {scr : Cell} {s U : State} (hv : s.vm = U.vm) (h : ex_K D dA scr s) : ex_K D dA scr U := by
  obtain ⟨h1, h2, h3, h4, h5⟩ := h
  refine ⟨h1.moved (by rw [hv]; exact Vm.Alike.refl _), State.isArrayOf_alike (by rw [hv]; exact Vm.Alike.refl _) h2, fun t ht => ?_, va_Nw.same rfl hv h4, fun w hw => ?_⟩
  · have e := Cond.arrayOver_setVmC (args := #[]) (s := s) (vm' := U.vm) (by rw [hv]; exact Vm.Alike.refl _) t
    exact e.trans (h3 t ht)
  · have hz := h5 w hw
    simp only [ex_nest, List.mem_cons, List.not_mem_nil, or_false] at hw
    rcases hw with rfl | rfl | rfl | rfl | rfl | rfl <;> exact va_Nw.same rfl hv hz
def ex_gw : List Jvm.Cond := lw_tbl.filter goodWord
theorem ex_gw_of {w : Jvm.Cond} (h : ex_wb w = true) : w ∈ ex_gw := List.mem_filter.mpr (ex_wb_of h)
theorem ex_gw_good {w : Jvm.Cond} (h : w ∈ ex_gw) : (w.onTables && w.keeps) = true ∨ ∃ ty, w = .arrayClass ty := good_of_word (List.mem_filter.mp h).2
theorem ex_vw {ci : Nat} (h : ci < 9) : vwCl[ci]? = some (ex_T ci) := by
  unfold ex_T
  rw [List.getD_eq_getElem?_getD, List.getElem?_eq_getElem (show ci < vwCl.length from h)]
  rfl
theorem ex_vw_in {ci : Nat} (h : ci < 9) : ∀ w ∈ u_ws (ex_T ci).1 (ex_T ci).2.1 (ex_T ci).2.2, w ∈ ex_gw := fun w hw => by
  have h1 := List.all_eq_true.mp ex_lay_in _ (List.mem_of_getElem? (ex_vw h))
  exact ex_gw_of (List.all_eq_true.mp h1 w (List.mem_append_left _ hw))
theorem ex_vw_new {ci : Nat} (h : ci < 9) : Jvm.Cond.instantiable (ex_T ci).1 (ex_T ci).2.2 ∈ ex_gw ∧ Jvm.Cond.initialized (ex_T ci).1 ∈ ex_gw := by
  have h1 := List.all_eq_true.mp ex_lay_in _ (List.mem_of_getElem? (ex_vw h))
  exact ⟨ex_gw_of (List.all_eq_true.mp h1 _ (List.mem_append_right _ (by simp))), ex_gw_of (List.all_eq_true.mp h1 _ (List.mem_append_right _ (by simp)))⟩
theorem ex_nfN {ci : Nat} (h : ci < 9) : (ex_T ci).2.2 = ex_nf ci := by
  have : ∀ c, c < 9 → (ex_T c).2.2 = ex_nf c := by decide
  exact this ci h
theorem ex_tyok {ci : Nat} (h : ci < 9) : ∀ k, k < (ex_T ci).2.2 → parseFieldDescriptor ((ex_T ci).2.1 k).2.2.1 = some (ex_ty ci k) := fun k hk => by
  rw [ex_nfN h] at hk
  have h1 := List.all_eq_true.mp (List.all_eq_true.mp ex_ty_in ci (List.mem_range.mpr h)) k (List.mem_range.mpr hk)
  simp only [Bool.and_eq_true, decide_eq_true_eq] at h1
  exact h1.1
theorem ex_ndok {ci : Nat} (h : ci < 9) : ∀ a, a < (ex_T ci).2.2 → ∀ b, b < (ex_T ci).2.2 → a ≠ b → ((ex_T ci).2.1 a).2.1 ≠ ((ex_T ci).2.1 b).2.1 := fun a ha b hb hab => by
  rw [ex_nfN h] at ha hb
  have h1 := List.all_eq_true.mp (List.all_eq_true.mp (List.all_eq_true.mp ex_nd_in ci (List.mem_range.mpr h)) a (List.mem_range.mpr ha)) b (List.mem_range.mpr hb)
  simp only [Bool.or_eq_true, decide_eq_true_eq] at h1
  rcases h1 with h1 | h1
  · exact absurd h1 hab
  · exact h1
theorem ex_fit_ok {ty : FieldType} {v : Value} (B b : Nat) (h : ex_fit ty v = true) : narrow ty (ex_sv B b v) = ex_sv B b v ∧ fits ty (ex_sv B b v) = true := by
  cases ty <;> cases v <;> first | exact ⟨rfl, rfl⟩ | (simp [ex_fit] at h)
theorem ex_one {D : va_G} {q : Nat × va_E} {H : Heap} (h : va_at D vwCl q H) : va_P D vwCl [q] H := fun k x hk => by
  cases k with
  | zero => cases hk; exact h
  | succ k => simp at hk
theorem ex_sh_inj {B b a a' : Nat} (h1 : 1 ≤ a) (h2 : 1 ≤ a') (h : ex_sh B b a = ex_sh B b a') : a = a' := by
  unfold ex_sh at h
  rw [if_neg (by omega), if_neg (by omega)] at h
  omega
theorem ex_sh_ge {B b a : Nat} (h1 : 1 ≤ a) : B ≤ ex_sh B b a := by
  unfold ex_sh
  rw [if_neg (by omega)]
  omega
/-- a cell is written -/
theorem ex_Rep.put {D : va_G} {dA : Nat → ClassId} {B b : Nat} {scr : Cell} {h : ex_Hp} {H H' : Heap} (hR : ex_Rep D dA B b scr h H) {a : Nat} {c : ex_AC} (h1 : 1 ≤ a) (h2 : a < h.1) (hz : H'.size = H.size) (oq : ∀ q : Nat, q ≠ ex_sh B b a → H'[q]? = H[q]?) (ht : ex_tag c) (he : va_at D vwCl (ex_sh B b a, ex_emb dA B b c) H') : ex_Rep D dA B b scr (ex_set h a c) H' := by
  obtain ⟨r1, r2, r3, r4, r5⟩ := hR
  refine ⟨r1, by rw [hz]; exact r2, r3, by rw [oq b (by have := @ex_sh_ge B b a h1; omega)]; exact r4, fun a' c' hc => ?_⟩
  simp only [ex_set] at hc
  by_cases e : a' = a
  · subst e
    rw [if_pos rfl] at hc
    cases hc
    exact Or.inr ⟨h1, h2, ht, he⟩
  · rw [if_neg e] at hc
    rcases r5 a' c' hc with h | ⟨g1, g2, g3, g4⟩
    · exact Or.inl h
    · exact Or.inr ⟨g1, g2, g3, g4.kept (oq _ (fun z => e (ex_sh_inj g1 h1 z)))⟩
/-- a cell is made -/
theorem ex_Rep.push {D : va_G} {dA : Nat → ClassId} {B b : Nat} {scr : Cell} {h : ex_Hp} {H H' : Heap} (hR : ex_Rep D dA B b scr h H) {c : ex_AC} {k : Nat} (hz : H'.size = H.size + 1) (oq : ∀ q : Nat, q < H.size → H'[q]? = H[q]?) (ht : ex_tag c) (he : va_at D vwCl (H.size, ex_emb dA B b c) H') : ex_Rep D dA B b scr (ex_new h c k) H' := by
  obtain ⟨r1, r2, r3, r4, r5⟩ := hR
  refine ⟨by show 1 ≤ h.1 + 1; omega, by show H'.size + 1 = B + (h.1 + 1); omega, r3, by rw [oq b (by omega)]; exact r4, fun a' c' hc => ?_⟩
  simp only [ex_new] at hc
  by_cases e : a' = h.1
  · subst e
    rw [if_pos rfl] at hc
    cases hc
    refine Or.inr ⟨r1, by show h.1 < h.1 + 1; omega, ht, ?_⟩
    have e2 : ex_sh B b h.1 = H.size := by
      unfold ex_sh
      rw [if_neg (by omega)]
      omega
    rw [e2]
    exact he
  · rw [if_neg e] at hc
    rcases r5 a' c' hc with h | ⟨g1, g2, g3, g4⟩
    · exact Or.inl h
    · exact Or.inr ⟨g1, by show a' < h.1 + 1; omega, g3, g4.kept (oq _ g4.lt)⟩
theorem ex_top {D : va_G} {dA : Nat → ClassId} {B b : Nat} {scr : Cell} {h : ex_Hp} {H : Heap} (hR : ex_Rep D dA B b scr h H) : ex_sh B b h.1 = H.size := by
  obtain ⟨r1, r2, r3, r4, r5⟩ := hR
  unfold ex_sh
  rw [if_neg (by omega)]
  omega
theorem ex_ix_some {i : Int32} {n j : Nat} (h : ex_ix i n = some j) : vp_in i n ∧ i.toNatClampNeg = j := by
  unfold ex_ix at h
  by_cases g : i < 0 ∨ n ≤ i.toNatClampNeg
  · rw [if_pos g] at h; cases h
  · rw [if_neg g] at h; cases h; exact ⟨g, rfl⟩
theorem ex_rf (B b : Nat) (r : Option Nat) : va_rf (r.map (ex_sh B b)) = ex_sv B b (va_rf r) := by cases r <;> rfl
end
section
/-! THE MACHINE'S STEPS OVER CELLS, as the pure machine has them. -/
section EXR
variable {p : Program} {l : Launch} {e : Env} {R : Room} {s : State} {m : MethodId} {args : Array Value} {below : List Frame} {meth : Method} {c : Code} {H : Heap} {locs : List Loc} {cells slots : Nat} {Q : State → Prop}
variable {D : va_G} {dA : Nat → ClassId} {B b : Nat} {scr : Cell} {cc : ByteArray} {pc : Nat} {ls : Array Slot} {rest : List Value} {h : ex_Hp} {own : String} {index : Nat}
theorem ex_rget (hx : p.tables.exec = Jvm.exec) (hb : c.code = cc) (hts : ∀ w ∈ ex_gw, w.before args s = true) (hown : s.vm.findClass own = some m.cls) (hK : ex_K D dA scr s) (hR : ex_Rep D dA B b scr h H) {o ci k : Nat} {fs : List Value} {v : Value} (ho : h.2.2 o = some (.inr (.inr (ci, fs)))) (hci : ci < 9) (hk : k < ex_nf ci) (hv : fs[k]? = some v)
    (hl : Jvm.Cond.fieldLink own index ((ex_T ci).2.1 k).1 ((ex_T ci).2.1 k).2.1 ((ex_T ci).2.1 k).2.2.1 ∈ ex_gw) (hdg : decode cc pc = .ok (.getfield index, 3))
    (kk : W p l e R s m args below meth c H locs cells slots Q (F0 m (pc + 3) ls (ex_sv B b v :: rest))) : W p l e R s m args below meth c H locs cells slots Q (F0 m pc ls (.ref (ex_sh B b o) :: rest)) := by
  rcases hR.2.2.2.2 o _ ho with ⟨-, n, f, hc, -⟩ | ⟨g1, g2, g3, g4⟩
  · cases hc
  · exact va_get (C := (ex_T ci).1) (T := (ex_T ci).2.1) (N := (ex_T ci).2.2) (fs := fs.map (ex_sv B b)) hx hb hts (ex_vw_in hci) hown hK.1 (ex_one g4) 0 rfl (ex_vw hci) k (by rw [ex_nfN hci]; exact hk) (hts _ hl) (fun _ q => q) (by rw [List.getElem?_map, hv]; rfl) hdg kk
theorem ex_rput (hx : p.tables.exec = Jvm.exec) (hb : c.code = cc) (hts : ∀ w ∈ ex_gw, w.before args s = true) (hown : s.vm.findClass own = some m.cls) (hK : ex_K D dA scr s) (hR : ex_Rep D dA B b scr h H) (hS : va_S (fun q => B ≤ q) s.heap H locs) {o ci k : Nat} {fs : List Value} {v : Value} (ho : h.2.2 o = some (.inr (.inr (ci, fs)))) (hci : ci < 9) (hk : k < ex_nf ci) (hv : ex_fit (ex_ty ci k) v = true) (hlen : k < fs.length)
    (hl : Jvm.Cond.fieldLink own index ((ex_T ci).2.1 k).1 ((ex_T ci).2.1 k).2.1 ((ex_T ci).2.1 k).2.2.1 ∈ ex_gw) (hfin : ((ex_T ci).2.1 k).2.2.2 = false ∨ (meth.name = "<init>" ∧ ((ex_T ci).2.1 k).1 = own)) (hdg : decode cc pc = .ok (.putfield index, 3))
    (kk : ∀ (H' : Heap) (locs' : List Loc), ex_Rep D dA B b scr (ex_set h o (.inr (.inr (ci, fs.set k v)))) H' → va_S (fun q => B ≤ q) s.heap H' locs' → W p l e R s m args below meth c H' locs' cells slots Q (F0 m (pc + 3) ls rest)) : W p l e R s m args below meth c H locs cells slots Q (F0 m pc ls (ex_sv B b v :: .ref (ex_sh B b o) :: rest)) := by
  rcases hR.2.2.2.2 o _ ho with ⟨-, n, f, hc, -⟩ | ⟨g1, g2, g3, g4⟩
  · cases hc
  have hkN : k < (ex_T ci).2.2 := by rw [ex_nfN hci]; exact hk
  have hap := va_apart (own := own) hts (ex_vw_in hci) (ex_ty ci) (ex_tyok hci) (ex_ndok hci) hK.1 (ex_vw hci)
  obtain ⟨r, h1, cell, q1, q2, q3, q4⟩ := g4
  have hr : r = ex_T ci := Option.some.inj (h1.symm.trans (ex_vw hci))
  subst hr
  obtain ⟨hSl, hfc, kC, hkC, hkind⟩ := hK.1.1 ci _ (ex_vw hci)
  obtain ⟨cf, kf, fi, f, hi, hsl⟩ := hSl k hkN
  have hlay := hts _ (ex_vw_in hci _ (u_in_lay hkN))
  have hst := (u_facts hfc hkC (u_lays hts (ex_vw_in hci) hkN) hi).1
  obtain ⟨hnar, hfit⟩ := ex_fit_ok B b hv
  have hdd := ex_tyok hci k hkN
  have fin : ∀ H' : Heap, H'[ex_sh B b o]? = some (cell.setSlot f.slot (ex_sv B b v)) → H'.size = H.size → (∀ q, q ≠ ex_sh B b o → H'[q]? = H[q]?) → W p l e R s m args below meth c H' (locs ++ [⟨ex_sh B b o, f.slot⟩]) cells slots Q (F0 m (pc + 3) ls rest) := by
    intro H' e1 e2 e3
    rw [hsl] at e1
    refine kk H' _ (hR.put g1 g2 e2 e3 g3 ?_) (hS.put e2 e3 (ex_sh_ge g1))
    refine ⟨_, ex_vw hci, t_OB.to (V := updV (vp_V (fs.map (ex_sv B b))) k (ex_sv B b v)) ⟨_, e1, q2, q3, t_set q4 hap hkN _⟩ (fun j _ => ?_)⟩
    rw [vp_updV_set (by rw [List.length_map]; exact hlen)]
    show _ = vp_V ((fs.set k v).map (ex_sv B b)) j
    rw [List.map_set]
  by_cases hfl : ((ex_T ci).2.1 k).2.2.2 = true
  · rcases hfin with q | ⟨hin2, hdecl⟩
    · rw [q] at hfl; cases hfl
    unfold u_lay at hlay
    rw [if_pos hfl] at hlay
    have hcf : m.cls = cf := by
      obtain ⟨_, _, c', _, _, _, -, -, hf', -, -, -, hown2, -⟩ := Cond.laysFinal_spec hlay
      have e1 : c' = cf := by have := hi.symm.trans hf'; simp at this; exact this.1.symm
      rw [hdecl] at hown2
      rw [← e1]; exact Option.some.inj (hown.symm.trans hown2)
    have h6 := u_fits hfc hkC hkind (Or.inr hlay) hi hdd hnar hfit
    exact W.putFinK hx hb hown (hts _ hl) hi hst hcf hin2 (by rw [q2]; exact h6) q1 q3 (by rw [hsl]; exact k2_hasslot (q4 k hkN)) rfl rfl hdg fin
  · unfold u_lay at hlay
    rw [if_neg hfl] at hlay
    have h6 := u_store hfc hkC hkind hlay hi hdd hnar hfit
    exact W.putK hx hb (f := f) ⟨hown, hts _ hl, ⟨_, _, _, hi⟩, hst⟩ (by rw [q2]; exact h6) q1 q3 (by rw [hsl]; exact k2_hasslot (q4 k hkN)) rfl rfl hdg fin
theorem ex_riald (hx : p.tables.exec = Jvm.exec) (hb : c.code = cc) (hK : ex_K D dA scr s) (hR : ex_Rep D dA B b scr h H) {o t n j : Nat} {f : Nat → Int32} {i : Int32} (ho : h.2.2 o = some (.inl (t, n, f))) (ht : t = 0 ∨ t = 9) (hi : ex_ix i n = some j) (hdg : decode cc pc = .ok (.iaload, 1))
    (kk : W p l e R s m args below meth c H locs cells slots Q (F0 m (pc + 1) ls (.int (f j) :: rest))) : W p l e R s m args below meth c H locs cells slots Q (F0 m pc ls (.int i :: .ref (ex_sh B b o) :: rest)) := by
  obtain ⟨hin, rfl⟩ := ex_ix_some hi
  rcases hR.2.2.2.2 o _ ho with ⟨rfl, n', f', hc, q1, q2, q3⟩ | ⟨g1, g2, g3, g4⟩
  · cases hc
    have hlt : i.toNatClampNeg < n := Nat.not_le.mp fun q => hin (Or.inr q)
    exact W.iald (v := .int (f i.toNatClampNeg)) hx hb (show H[ex_sh B b 0]? = some scr from hR.2.2.2.1) hK.2.1 q1 (by rw [q2]; exact hin) (q3 _ hlt) rfl rfl hdg kk
  · have ht0 : t = 0 := by
      rcases g3 with q | q
      · exact q
      · omega
    subst ht0
    exact va_iald hx hb hK.1 (ex_one g4) 0 0 rfl rfl hin hdg kk
theorem ex_rbald (hx : p.tables.exec = Jvm.exec) (hb : c.code = cc) (hK : ex_K D dA scr s) (hR : ex_Rep D dA B b scr h H) {o t n j : Nat} {f : Nat → Int32} {i : Int32} (ho : h.2.2 o = some (.inl (t, n, f))) (ht : t = 1) (hi : ex_ix i n = some j) (hdg : decode cc pc = .ok (.baload, 1))
    (kk : W p l e R s m args below meth c H locs cells slots Q (F0 m (pc + 1) ls (.int (f j) :: rest))) : W p l e R s m args below meth c H locs cells slots Q (F0 m pc ls (.int i :: .ref (ex_sh B b o) :: rest)) := by
  obtain ⟨hin, rfl⟩ := ex_ix_some hi
  subst ht
  rcases hR.2.2.2.2 o _ ho with ⟨rfl, n', f', hc, q1, q2, q3⟩ | ⟨g1, g2, g3, g4⟩
  · cases hc
  · exact va_zald hx hb hK.1 (ex_one g4) 0 1 rfl rfl hin hdg kk
theorem ex_riast (hx : p.tables.exec = Jvm.exec) (hb : c.code = cc) (hK : ex_K D dA scr s) (hR : ex_Rep D dA B b scr h H) (hS : va_S (fun q => B ≤ q) s.heap H locs) {o t n j : Nat} {f : Nat → Int32} {i x : Int32} (ho : h.2.2 o = some (.inl (t, n, f))) (ht : t = 0) (hi : ex_ix i n = some j) (hdg : decode cc pc = .ok (.iastore, 1))
    (kk : ∀ (H' : Heap) (locs' : List Loc), ex_Rep D dA B b scr (ex_set h o (.inl (t, n, upd f j x))) H' → va_S (fun q => B ≤ q) s.heap H' locs' → W p l e R s m args below meth c H' locs' cells slots Q (F0 m (pc + 1) ls rest)) : W p l e R s m args below meth c H locs cells slots Q (F0 m pc ls (.int x :: .int i :: .ref (ex_sh B b o) :: rest)) := by
  obtain ⟨hin, rfl⟩ := ex_ix_some hi
  subst ht
  rcases hR.2.2.2.2 o _ ho with ⟨rfl, n', f', hc, q1, q2, q3⟩ | ⟨g1, g2, g3, g4⟩
  · cases hc
  refine W.iast hx hb g4 ((hK.1.2 0 _ rfl).1 n (fun j => .int (f j))) (fun q => by cases q) (by show ¬ (i < 0 ∨ (arrV _ _ _).slots.size ≤ _); rw [arrV_size]; exact hin) rfl rfl hdg fun H1 e1 z oq => ?_
  refine kk H1 _ (hR.put g1 g2 z oq (Or.inl rfl) ?_) (hS.put z oq (ex_sh_ge g1))
  show H1[ex_sh B b o]? = some (vp_cell _ _)
  rw [e1]
  rw [vp_cell_i, vp_cell_i, arrV_store]
  congr 2
  funext q
  by_cases hq : q = i.toNatClampNeg
  · subst hq
    simp [updV, upd]
  · simp [updV, upd, hq]
theorem ex_rbast (hx : p.tables.exec = Jvm.exec) (hb : c.code = cc) (hK : ex_K D dA scr s) (hR : ex_Rep D dA B b scr h H) (hS : va_S (fun q => B ≤ q) s.heap H locs) {o t n j : Nat} {f : Nat → Int32} {i x : Int32} (ho : h.2.2 o = some (.inl (t, n, f))) (ht : t = 1 ∧ (x = 0 ∨ x = 1)) (hi : ex_ix i n = some j) (hdg : decode cc pc = .ok (.bastore, 1))
    (kk : ∀ (H' : Heap) (locs' : List Loc), ex_Rep D dA B b scr (ex_set h o (.inl (t, n, upd f j x))) H' → va_S (fun q => B ≤ q) s.heap H' locs' → W p l e R s m args below meth c H' locs' cells slots Q (F0 m (pc + 1) ls rest)) : W p l e R s m args below meth c H locs cells slots Q (F0 m pc ls (.int x :: .int i :: .ref (ex_sh B b o) :: rest)) := by
  obtain ⟨hin, rfl⟩ := ex_ix_some hi
  obtain ⟨rfl, hx01⟩ := ht
  rcases hR.2.2.2.2 o _ ho with ⟨rfl, n', f', hc, q1, q2, q3⟩ | ⟨g1, g2, g3, g4⟩
  · cases hc
  refine W.zast hx hb g4 ((hK.1.2 1 _ rfl).1 n (fun j => .int (f j))) (fun q => by cases q) (by show ¬ (i < 0 ∨ (arrV _ _ _).slots.size ≤ _); rw [arrV_size]; exact hin) rfl rfl hdg fun H1 e1 z oq => ?_
  refine kk H1 _ (hR.put g1 g2 z oq (Or.inr rfl) ?_) (hS.put z oq (ex_sh_ge g1))
  show H1[ex_sh B b o]? = some (vp_cell _ _)
  rw [e1]
  rw [vp_cell_i, vp_cell_i, arrV_store]
  congr 2
  funext q
  by_cases hq : q = i.toNatClampNeg
  · subst hq
    simp [updV, upd]
    rcases hx01 with rfl | rfl <;> rfl
  · simp [updV, upd, hq]
theorem ex_raald (hx : p.tables.exec = Jvm.exec) (hb : c.code = cc) (hK : ex_K D dA scr s) (hR : ex_Rep D dA B b scr h H) {o t n j : Nat} {f : Nat → Option Nat} {i : Int32} (ho : h.2.2 o = some (.inr (.inl (t, n, f)))) (hi : ex_ix i n = some j) (hdg : decode cc pc = .ok (.aaload, 1))
    (kk : W p l e R s m args below meth c H locs cells slots Q (F0 m (pc + 1) ls (ex_sv B b (va_rf (f j)) :: rest))) : W p l e R s m args below meth c H locs cells slots Q (F0 m pc ls (.int i :: .ref (ex_sh B b o) :: rest)) := by
  obtain ⟨hin, rfl⟩ := ex_ix_some hi
  rcases hR.2.2.2.2 o _ ho with ⟨rfl, n', f', hc, q1, q2, q3⟩ | ⟨g1, g2, g3, g4⟩
  · cases hc
  have hlt : i.toNatClampNeg < n := Nat.not_le.mp fun q => hin (Or.inr q)
  have g4 : H[ex_sh B b o]? = some (arrV (dA t) n (fun j => va_rf ((f j).map (ex_sh B b)))) := g4
  have key : ∀ ty : FieldType, ty.isReference = true → ArrOfT s (dA t) ty → W p l e R s m args below meth c H locs cells slots Q (F0 m pc ls (.int i :: .ref (ex_sh B b o) :: rest)) := fun ty hty hA =>
    W.aald (v := ex_sv B b (va_rf (f i.toNatClampNeg))) (ty := ty) hx hb g4 (hA n _) hty (fun q => by cases q) (by rw [arrV_size]; exact hin) (by rw [arrV_read _ _ hlt, ex_rf]) rfl rfl hdg kk
  rcases g3 with rfl | rfl | rfl | rfl
  · exact key _ rfl (hK.1.2 2 _ rfl).1
  · exact key _ rfl (hK.1.2 3 _ rfl).1
  · exact key _ rfl (hK.1.2 4 _ rfl).1
  · exact key _ rfl (hK.1.2 5 _ rfl).1
theorem ex_ralen (hx : p.tables.exec = Jvm.exec) (hb : c.code = cc) (hK : ex_K D dA scr s) (hR : ex_Rep D dA B b scr h H) {o n : Nat} (ho : (∃ t f, h.2.2 o = some (.inl (t, n, f))) ∨ ∃ t f, h.2.2 o = some (.inr (.inl (t, n, f)))) (hdg : decode cc pc = .ok (.arraylength, 1))
    (kk : W p l e R s m args below meth c H locs cells slots Q (F0 m (pc + 1) ls (.int (Int32.ofNat n) :: rest))) : W p l e R s m args below meth c H locs cells slots Q (F0 m pc ls (.ref (ex_sh B b o) :: rest)) := by
  rcases ho with ⟨t, f, ho⟩ | ⟨t, f, ho⟩
  · rcases hR.2.2.2.2 o _ ho with ⟨rfl, n', f', hc, q1, q2, q3⟩ | ⟨g1, g2, g3, g4⟩
    · cases hc
      exact W.alen (n := Int32.ofNat n) hx hb (show H[ex_sh B b 0]? = some scr from hR.2.2.2.1) hK.2.1 (by rw [q2] <;> rfl) rfl rfl hdg kk
    · rcases g3 with rfl | rfl
      · exact va_alen hx hb hK.1 (ex_one g4) 0 0 rfl rfl rfl hdg kk
      · exact va_alen hx hb hK.1 (ex_one g4) 0 1 rfl rfl rfl hdg kk
  · rcases hR.2.2.2.2 o _ ho with ⟨rfl, n', f', hc, q1, q2, q3⟩ | ⟨g1, g2, g3, g4⟩
    · cases hc
    · rcases g3 with rfl | rfl | rfl | rfl
      · exact va_alen hx hb hK.1 (ex_one g4) 0 2 rfl rfl rfl hdg kk
      · exact va_alen hx hb hK.1 (ex_one g4) 0 3 rfl rfl rfl hdg kk
      · exact va_alen hx hb hK.1 (ex_one g4) 0 4 rfl rfl rfl hdg kk
      · exact va_alen hx hb hK.1 (ex_one g4) 0 5 rfl rfl rfl hdg kk
theorem ex_rcast (hx : p.tables.exec = Jvm.exec) (hb : c.code = cc) (hts : ∀ w ∈ ex_gw, w.before args s = true) (hown : s.vm.findClass own = some m.cls) (hK : ex_K D dA scr s) (hR : ex_Rep D dA B b scr h H) {o t n : Nat} {f : Nat → Int32} (ho : h.2.2 o = some (.inl (t, n, f))) (ht : t = 0) (hl : Jvm.Cond.classLink own index "[I" ∈ ex_gw) (hdg : decode cc pc = .ok (.checkcast index, 3))
    (kk : W p l e R s m args below meth c H locs cells slots Q (F0 m (pc + 3) ls (.ref (ex_sh B b o) :: rest))) : W p l e R s m args below meth c H locs cells slots Q (F0 m pc ls (.ref (ex_sh B b o) :: rest)) := by
  subst ht
  rcases hR.2.2.2.2 o _ ho with ⟨rfl, n', f', hc, q1, q2, q3⟩ | ⟨g1, g2, g3, g4⟩
  · cases hc
  exact va_castA hx hb hown (hts _ hl) (ex_one g4) 0 rfl (hK.1.2 0 _ rfl).2 hdg kk
theorem ex_raast (hx : p.tables.exec = Jvm.exec) (hb : c.code = cc) (hK : ex_K D dA scr s) (hR : ex_Rep D dA B b scr h H) (hS : va_S (fun q => B ≤ q) s.heap H locs) {o t n j x : Nat} {f : Nat → Option Nat} {d : ex_AC} {i : Int32} (ho : h.2.2 o = some (.inr (.inl (t, n, f)))) (hd : h.2.2 x = some d) (hm : ex_may t d = true) (hi : ex_ix i n = some j) (hdg : decode cc pc = .ok (.aastore, 1))
    (kk : ∀ (H' : Heap) (locs' : List Loc), ex_Rep D dA B b scr (ex_set h o (.inr (.inl (t, n, va_up f j (some x))))) H' → va_S (fun q => B ≤ q) s.heap H' locs' → W p l e R s m args below meth c H' locs' cells slots Q (F0 m (pc + 1) ls rest)) : W p l e R s m args below meth c H locs cells slots Q (F0 m pc ls (.ref (ex_sh B b x) :: .int i :: .ref (ex_sh B b o) :: rest)) := by
  obtain ⟨hin, rfl⟩ := ex_ix_some hi
  have hlt : i.toNatClampNeg < n := Nat.not_le.mp fun q => hin (Or.inr q)
  have h0 : ¬ i < 0 := fun q => hin (Or.inl q)
  rcases hR.2.2.2.2 o _ ho with ⟨rfl, n', f', hc, q1, q2, q3⟩ | ⟨g1, g2, g3, g4⟩
  · cases hc
  have g4 : H[ex_sh B b o]? = some (arrV (dA t) n (fun j => va_rf ((f j).map (ex_sh B b)))) := g4
  have fin : ∀ H1 : Heap, H1[ex_sh B b o]? = some ((arrV (dA t) n (fun j => va_rf ((f j).map (ex_sh B b)))).setSlot i.toNatClampNeg (.ref (ex_sh B b x))) → H1.size = H.size → (∀ q, q ≠ ex_sh B b o → H1[q]? = H[q]?) → W p l e R s m args below meth c H1 (locs ++ [⟨ex_sh B b o, i.toNatClampNeg⟩]) cells slots Q (F0 m (pc + 1) ls rest) := by
    intro H1 e1 z oq
    refine kk H1 _ (hR.put g1 g2 z oq g3 ?_) (hS.put z oq (ex_sh_ge g1))
    show H1[ex_sh B b o]? = some (vp_cell _ _)
    rw [e1, vp_cell_q, arrV_store]
    congr 2
    funext q
    by_cases hq : q = i.toNatClampNeg
    · subst hq
      simp [updV, va_up, va_rf]
    · simp [updV, va_up, hq]
  have key : ∀ (kA : Class) (comp : ClassId) (ty : FieldType) (cv : Cell) (kv : Class), s.vm.classes[dA t]? = some kA → kA.kind = .array comp ty → ty.isReference = true → H[ex_sh B b x]? = some cv → (∀ q, cv.vm ≠ .statics q) → cv.cls = comp → s.vm.classes[comp]? = some kv → W p l e R s m args below meth c H locs cells slots Q (F0 m pc ls (.ref (ex_sh B b x) :: .int i :: .ref (ex_sh B b o) :: rest)) := by
    intro kA comp ty cv kv k1 k2 k3 k4 k5 k6 k7
    exact W.aast hx hb g4 (fun q h => by cases h) (fun h => by cases h) k1 k2 k3 k7 ⟨h0, by rw [arrV_size]; exact hlt⟩ k4 k5 (by rw [k6]; exact k7) (by rw [k6]; exact va_asg _ _) rfl rfl hdg fin
  rcases hR.2.2.2.2 x _ hd with ⟨rfl, n', f', hc, q1, q2, q3⟩ | ⟨w1, w2, w3, w4⟩
  · subst hc
    simp [ex_may] at hm
  rcases d with ⟨u, nu, fu⟩ | ⟨⟨u, nu, fu⟩ | ⟨ci, fs⟩⟩
  · simp only [ex_may, Bool.and_eq_true, beq_iff_eq] at hm
    obtain ⟨rfl, rfl⟩ := hm
    obtain ⟨comp, cA, kA, a1, -, a3, a4, a5⟩ := arrayOverA_spec (hK.2.2.1 (.array .int) (by simp [ex_over]))
    have e0 : dA 0 = comp := Option.some.inj ((hK.1.2 0 _ rfl).2.symm.trans a1)
    have e2 : dA 2 = cA := Option.some.inj ((hK.1.2 2 _ rfl).2.symm.trans a5)
    obtain ⟨kc, hkc, -⟩ := Vm.findClass_spec a1
    exact key kA comp _ (arrV (dA 0) nu (fun j => .int (fu j))) kc (by rw [e2]; exact a3) a4 rfl w4 (fun q h => by cases h) e0 hkc
  · simp [ex_may] at hm
  · simp only [ex_may, Bool.or_eq_true, Bool.and_eq_true, beq_iff_eq] at hm
    obtain ⟨r, hr, cell, c1, c2, c3, -⟩ := w4
    have obj : ∀ (C : String) (T : u_T) (N : Nat), vwCl[ci]? = some (C, T, N) → va_RA s (dA t) (.object C) → W p l e R s m args below meth c H locs cells slots Q (F0 m pc ls (.ref (ex_sh B b x) :: .int i :: .ref (ex_sh B b o) :: rest)) := by
      intro C T N hcl hra
      obtain ⟨kA, comp, k1, k2, k3, -⟩ := hra
      obtain ⟨-, hfc, kC, hkC, -⟩ := hK.1.1 ci _ hcl
      have e0 : D.1 ci = comp := Option.some.inj (hfc.symm.trans k3)
      exact key kA comp _ cell kC k1 k2 rfl c1 (fun q h => by rw [c3] at h; cases h) (by rw [c2]; exact e0) (by rw [← e0]; exact hkC)
    rcases hm with (⟨rfl, rfl⟩ | ⟨rfl, rfl⟩) | ⟨rfl, rfl⟩
    · exact obj _ _ _ rfl (hK.1.2 3 _ rfl).2
    · exact obj _ _ _ rfl (hK.1.2 4 _ rfl).2
    · exact obj _ _ _ rfl (hK.1.2 5 _ rfl).2
end EXR
end
section
/-! THE MACHINE'S MAKINGS, as the pure machine has them. -/
theorem ex_dflV (B b : Nat) {ci k : Nat} (hk : k < ex_nf ci) : defaultValue (ex_ty ci k) = vp_V ((ex_dfl ci).map (ex_sv B b)) k := by
  have e : ∀ ty : FieldType, ex_sv B b (defaultValue ty) = defaultValue ty := fun ty => by cases ty <;> rfl
  simp [vp_V, ex_dfl, List.getD_eq_getElem?_getD, hk, e]
theorem ex_new2_rep {D : va_G} {dA : Nat → ClassId} {B b : Nat} {scr : Cell} {h : ex_Hp} {H H' : Heap} (hR : ex_Rep D dA B b scr h H) {N K : Nat} (hz : H'.size = H.size + 1 + N) (oq : ∀ q : Nat, q < H.size → H'[q]? = H[q]?) (ho : H'[H.size]? = some (arrV (dA 2) N (fun i => va_rf (if i < N then some (H.size + 1 + i) else none)))) (hi : ∀ j : Nat, j < N → H'[H.size + 1 + j]? = some (arrV (dA 0) K (fun _ => .int 0))) : ex_Rep D dA B b scr (ex_new2 h N K) H' := by
  have ht := ex_top hR
  obtain ⟨r1, r2, r3, r4, r5⟩ := hR
  refine ⟨by show 1 ≤ h.1 + 1 + N; omega, by show H'.size + 1 = B + (h.1 + 1 + N); omega, r3, by rw [oq b (by omega)]; exact r4, fun a' c' hc => ?_⟩
  simp only [ex_new2] at hc
  by_cases e : a' = h.1
  · subst e
    rw [if_pos rfl] at hc
    cases hc
    refine Or.inr ⟨r1, by show h.1 < h.1 + 1 + N; omega, Or.inl rfl, ?_⟩
    show H'[ex_sh B b h.1]? = some (vp_cell _ _)
    rw [ht, ho, vp_cell_q]
    congr 2
    funext i
    dsimp only
    by_cases q : i < N
    · rw [if_pos q, if_pos q]
      show va_rf (some (H.size + 1 + i)) = va_rf (some (ex_sh B b (h.1 + 1 + i)))
      congr 2
      unfold ex_sh
      rw [if_neg (by omega)]
      omega
    · rw [if_neg q, if_neg q]
      rfl
  · rw [if_neg e] at hc
    by_cases e2 : h.1 < a' ∧ a' < h.1 + 1 + N
    · rw [if_pos e2] at hc
      cases hc
      refine Or.inr ⟨by omega, e2.2, Or.inl rfl, ?_⟩
      show H'[ex_sh B b a']? = some (vp_cell _ _)
      rw [vp_cell_i]
      have e3 : ex_sh B b a' = H.size + 1 + (a' - h.1 - 1) := by
        unfold ex_sh
        rw [if_neg (by omega)]
        omega
      rw [e3]
      exact hi _ (by omega)
    · rw [if_neg e2] at hc
      rcases r5 a' c' hc with h9 | ⟨g1, g2, g3, g4⟩
      · exact Or.inl h9
      · exact Or.inr ⟨g1, by show a' < h.1 + 1 + N; omega, g3, g4.kept (oq _ g4.lt)⟩
section EXM
variable {p : Program} {l : Launch} {e : Env} {R : Room} {s : State} {m : MethodId} {args : Array Value} {below : List Frame} {meth : Method} {c : Code} {H : Heap} {locs : List Loc} {cells slots : Nat} {Q : State → Prop}
variable {D : va_G} {dA : Nat → ClassId} {B b : Nat} {scr : Cell} {cc : ByteArray} {pc : Nat} {ls : Array Slot} {rest : List Value} {h : ex_Hp} {own : String} {index : Nat}
theorem ex_Sgrow {H' : Heap} {N : Nat} (hS : va_S (fun q => B ≤ q) s.heap H locs) (hz : H'.size = H.size + N) (oq : ∀ q : Nat, q < H.size → H'[q]? = H[q]?) : va_S (fun q => B ≤ q) s.heap H' locs :=
  ⟨Nat.le_trans hS.1 (by omega), fun x h1 h2 => (oq x (Nat.lt_of_lt_of_le h1 hS.1)).trans (hS.2.1 x h1 h2), hS.2.2⟩
theorem ex_rnew (hx : p.tables.exec = Jvm.exec) (hb : c.code = cc) (hts : ∀ w ∈ ex_gw, w.before args s = true) (hown : s.vm.findClass own = some m.cls) (hK : ex_K D dA scr s) (hR : ex_Rep D dA B b scr h H) (hS : va_S (fun q => B ≤ q) s.heap H locs) {ci : Nat} (hci : ci < 9) (hcl : Jvm.Cond.classLink own index (ex_T ci).1 ∈ ex_gw) (hcells : cells + 1 ≤ R.cells) (hslots : slots + ex_nf ci ≤ R.slots) (hdg : decode cc pc = .ok (.new index, 3))
    (kk : ∀ H' : Heap, ex_Rep D dA B b scr (ex_new h (.inr (.inr (ci, ex_dfl ci))) (ex_nf ci)) H' → va_S (fun q => B ≤ q) s.heap H' locs → W p l e R s m args below meth c H' locs (cells + 1) (slots + ex_nf ci) Q (F0 m (pc + 3) ls (.ref (ex_sh B b h.1) :: rest))) : W p l e R s m args below meth c H locs cells slots Q (F0 m pc ls rest) := by
  have hKn := hK.1.1 ci _ (ex_vw hci)
  have hi := (ex_vw_new hci).1
  rw [ex_nfN hci] at hi
  refine W.newcK (n := ex_nf ci) hx hb hown (hts _ hcl) (hts _ hi) (hts _ (ex_vw_new hci).2) rfl hdg hcells hslots hKn.2.1 rfl fun H1 kC hkC e1 z1 o1 => ?_
  have k1 := kk H1 (hR.push z1 o1 hci ?_) (ex_Sgrow hS z1 o1)
  · rw [ex_top hR] at k1
    exact k1
  · exact ⟨_, ex_vw hci, (u_born (ex_ty ci) hts (ex_vw_in hci) hKn hkC e1 (ex_tyok hci)).to (fun j hj => ex_dflV B b (by rw [← ex_nfN hci]; exact hj))⟩
theorem ex_rnewa (hx : p.tables.exec = Jvm.exec) (hb : c.code = cc) (hts : ∀ w ∈ ex_gw, w.before args s = true) (hK : ex_K D dA scr s) (hR : ex_Rep D dA B b scr h H) (hS : va_S (fun q => B ≤ q) s.heap H locs) {t : Nat} {atype : ArrayType} (hat : (t = 0 ∧ atype = .int) ∨ (t = 1 ∧ atype = .boolean)) {n : Int32} (hn : ¬ (n < 0 ∨ 100000 < n.toNatClampNeg)) (hcells : cells + 1 ≤ R.cells) (hslots : slots + n.toNatClampNeg ≤ R.slots) (hdg : decode cc pc = .ok (.newarray atype, 2))
    (kk : ∀ H' : Heap, ex_Rep D dA B b scr (ex_new h (.inl (t, n.toNatClampNeg, fun _ => 0)) n.toNatClampNeg) H' → va_S (fun q => B ≤ q) s.heap H' locs → W p l e R s m args below meth c H' locs (cells + 1) (slots + n.toNatClampNeg) Q (F0 m (pc + 2) ls (.ref (ex_sh B b h.1) :: rest))) : W p l e R s m args below meth c H locs cells slots Q (F0 m pc ls (.int n :: rest)) := by
  have h1 : ¬ n < 0 := fun q => hn (Or.inl q)
  have h2 : n.toNatClampNeg ≤ 100000 := Nat.not_lt.mp fun q => hn (Or.inr q)
  rcases hat with ⟨rfl, rfl⟩ | ⟨rfl, rfl⟩
  · refine va_newaK (atype := .int) hx hb (hts _ (ex_gw_of ex_arr_in.1)) rfl hdg rfl h1 rfl (by show n.toNatClampNeg * 4 ≤ _; omega) hcells hslots rfl fun H1 cA e1 z1 o1 hAr hNm => ?_
    have ec : dA 0 = cA := Option.some.inj ((hK.1.2 0 _ rfl).2.symm.trans hNm)
    have k1 := kk H1 (hR.push z1 o1 (Or.inl rfl) (by show H1[H.size]? = some (vp_cell _ _); rw [vp_cell_i, ec]; exact e1)) (ex_Sgrow hS z1 o1)
    rw [ex_top hR] at k1
    exact k1
  · refine va_newaK (atype := .boolean) hx hb (hts _ (ex_gw_of ex_arr_in.2)) rfl hdg rfl h1 rfl (by show n.toNatClampNeg * 1 ≤ _; omega) hcells hslots rfl fun H1 cA e1 z1 o1 hAr hNm => ?_
    have ec : dA 1 = cA := Option.some.inj ((hK.1.2 1 _ rfl).2.symm.trans hNm)
    have k1 := kk H1 (hR.push z1 o1 (Or.inr rfl) (by show H1[H.size]? = some (vp_cell _ _); rw [vp_cell_i, ec]; exact e1)) (ex_Sgrow hS z1 o1)
    rw [ex_top hR] at k1
    exact k1
theorem ex_ranew (hx : p.tables.exec = Jvm.exec) (hb : c.code = cc) (hts : ∀ w ∈ ex_gw, w.before args s = true) (hown : s.vm.findClass own = some m.cls) (hK : ex_K D dA scr s) (hR : ex_Rep D dA B b scr h H) (hS : va_S (fun q => B ≤ q) s.heap H locs) {t : Nat} {C : String} (hat : (t = 3 ∧ C = RX1) ∨ (t = 4 ∧ C = RX5) ∨ (t = 5 ∧ C = RX7)) (hcl : Jvm.Cond.classLink own index C ∈ ex_gw) {n : Int32} (hn : ¬ (n < 0 ∨ 100000 < n.toNatClampNeg)) (hcells : cells + 1 ≤ R.cells) (hslots : slots + n.toNatClampNeg ≤ R.slots) (hdg : decode cc pc = .ok (.anewarray index, 3))
    (kk : ∀ H' : Heap, ex_Rep D dA B b scr (ex_new h (.inr (.inl (t, n.toNatClampNeg, fun _ => none))) n.toNatClampNeg) H' → va_S (fun q => B ≤ q) s.heap H' locs → W p l e R s m args below meth c H' locs (cells + 1) (slots + n.toNatClampNeg) Q (F0 m (pc + 3) ls (.ref (ex_sh B b h.1) :: rest))) : W p l e R s m args below meth c H locs cells slots Q (F0 m pc ls (.int n :: rest)) := by
  have h1 : ¬ n < 0 := fun q => hn (Or.inl q)
  have h2 : n.toNatClampNeg ≤ 100000 := Nat.not_lt.mp fun q => hn (Or.inr q)
  have key : (Jvm.Cond.arrayOver (.object C)).before #[] s = true → va_RA s (dA t) (.object C) → (t = 2 ∨ t = 3 ∨ t = 4 ∨ t = 5) → W p l e R s m args below meth c H locs cells slots Q (F0 m pc ls (.int n :: rest)) := by
    intro hover hra htt
    obtain ⟨kA', comp', -, -, -, hra4⟩ := hra
    refine W.anew hx hb hown (hts _ hcl) hover rfl hdg rfl h1 (by omega) hcells hslots fun cA kA comp f1 f2 f3 f4 => ?_
    have ec : dA t = cA := Option.some.inj (hra4.symm.trans f1)
    have k1 := kk (H.push ({ cls := cA, slots := Array.replicate n.toNatClampNeg .null, vm := .none } : Cell)) (hR.push (by rw [Array.size_push]) (fun q hq => by rw [Array.getElem?_push, if_neg (Nat.ne_of_lt hq)]) htt (by
      show (H.push _)[H.size]? = some (arrV (dA t) _ (fun _ => .null))
      rw [Array.getElem?_push_size, ← arrV_new, ec])) (ex_Sgrow hS (N := 1) (by rw [Array.size_push]) (fun q hq => by rw [Array.getElem?_push, if_neg (Nat.ne_of_lt hq)]))
    rw [ex_top hR] at k1
    exact k1
  rcases hat with ⟨rfl, rfl⟩ | ⟨rfl, rfl⟩ | ⟨rfl, rfl⟩
  · exact key (hK.2.2.1 _ (by simp [ex_over])) (hK.1.2 3 _ rfl).2 (by omega)
  · exact key (hK.2.2.1 _ (by simp [ex_over])) (hK.1.2 4 _ rfl).2 (by omega)
  · exact key (hK.2.2.1 _ (by simp [ex_over])) (hK.1.2 5 _ rfl).2 (by omega)
theorem ex_outer (ca : ClassId) (N h0 : Nat) : ∀ i : Nat, Jvm.Free.Multi.outerC ca N h0 i = arrV ca N (fun j => va_rf (if j < i then some (h0 + 1 + j) else none))
  | 0 => by
    show ({ cls := ca, slots := Array.replicate N .null, vm := .none } : Cell) = _
    rw [arrV_new]
    refine congrArg (arrV ca N) (funext fun j => ?_)
    simp [va_rf]
  | i + 1 => by
    show (Jvm.Free.Multi.outerC ca N h0 i).setSlot i (.ref (h0 + 1 + i)) = _
    rw [ex_outer ca N h0 i, arrV_store]
    refine congrArg (arrV ca N) (funext fun j => ?_)
    by_cases e : j = i
    · subst e
      simp [updV, va_rf]
    · by_cases h : j < i
      · simp [updV, e, h, Nat.lt_succ_of_lt h]
      · simp [updV, e, h, show ¬ j < i + 1 by omega]
theorem ex_rmna (hx : p.tables.exec = Jvm.exec) (hb : c.code = cc) (hts : ∀ w ∈ ex_gw, w.before args s = true) (hown : s.vm.findClass own = some m.cls) (hK : ex_K D dA scr s) (hR : ex_Rep D dA B b scr h H) (hS : va_S (fun q => B ≤ q) s.heap H locs) (hcl : Jvm.Cond.classLink own index "[[I" ∈ ex_gw) {n k : Int32} (hn : ¬ (n < 0 ∨ 100000 < n.toNatClampNeg ∨ k < 0 ∨ 100000 < k.toNatClampNeg)) (hcells : cells + (1 + n.toNatClampNeg) ≤ R.cells) (hslots : slots + (n.toNatClampNeg + n.toNatClampNeg * k.toNatClampNeg) ≤ R.slots) (hdg : decode cc pc = .ok (.multianewarray index 2, 4))
    (kk : ∀ H' : Heap, ex_Rep D dA B b scr (ex_new2 h n.toNatClampNeg k.toNatClampNeg) H' → va_S (fun q => B ≤ q) s.heap H' locs → W p l e R s m args below meth c H' locs (cells + 1 + n.toNatClampNeg) (slots + n.toNatClampNeg + n.toNatClampNeg * k.toNatClampNeg) Q (F0 m (pc + 4) ls (.ref (ex_sh B b h.1) :: rest))) : W p l e R s m args below meth c H locs cells slots Q (F0 m pc ls (.int k :: .int n :: rest)) := by
  have h1 : ¬ n < 0 := fun q => hn (Or.inl q)
  have h2 : n.toNatClampNeg ≤ 100000 := Nat.not_lt.mp fun q => hn (Or.inr (Or.inl q))
  have h3 : ¬ k < 0 := fun q => hn (Or.inr (Or.inr (Or.inl q)))
  have h4 : k.toNatClampNeg ≤ 100000 := Nat.not_lt.mp fun q => hn (Or.inr (Or.inr (Or.inr q)))
  intro T hT Xs
  obtain ⟨vm₁, cA, comp, -, fA, fC, hO, -, X', step⟩ := Xs.multianewarray2F (ty := .int) hx hown (hts _ hcl) (hK.2.2.1 (.array .int) (by simp [ex_over])) (hts _ (ex_gw_of ex_arr_in.1)) (g := F0 m pc ls (.int k :: .int n :: rest)) rfl (by rw [hb]; exact hdg) rfl h1 h3 (by omega) (by show k.toNatClampNeg * 4 ≤ _; omega) (by omega) rfl rfl hcells hslots
  have e0 : dA 0 = comp := Option.some.inj ((hK.1.2 0 _ rfl).2.symm.trans fC)
  have e2 : dA 2 = cA := Option.some.inj ((hK.1.2 2 _ rfl).2.symm.trans fA)
  generalize hF : Jvm.Free.Multi.fill (T.setVm vm₁) cA comp n.toNatClampNeg k.toNatClampNeg (defaultValue .int) n.toNatClampNeg = F at X' step
  have hTh : (T.setVm vm₁).heap = H := hT
  obtain ⟨f1, f2, -, -⟩ := Jvm.Free.Multi.fill_facts (T.setVm vm₁) cA comp n.toNatClampNeg k.toNatClampNeg (defaultValue .int) n.toNatClampNeg
  rw [hF, hTh] at f1 f2
  have hold : ∀ x : Nat, x < H.size → F.heap[x]? = H[x]? := fun x hx9 => by
    have := Jvm.Free.Multi.fill_old (T.setVm vm₁) cA comp n.toNatClampNeg k.toNatClampNeg (defaultValue .int) (a := x) (by rw [hTh]; exact hx9) n.toNatClampNeg
    rw [hF, hTh] at this
    exact this
  have hrow : ∀ j : Nat, j < n.toNatClampNeg → F.heap[H.size + 1 + j]? = some (arrV (dA 0) k.toNatClampNeg (fun _ => .int 0)) := fun j hj => by
    have := Jvm.Free.Multi.fill_inner (T.setVm vm₁) cA comp n.toNatClampNeg k.toNatClampNeg (defaultValue .int) n.toNatClampNeg j hj
    rw [hF, hTh] at this
    rw [this, e0, ← arrV_new]
    rfl
  rw [ex_outer, ← e2] at f2
  have f1' : F.heap.size = H.size + (1 + n.toNatClampNeg) := by omega
  obtain ⟨t, a1, b1⟩ := kk F.heap (ex_new2_rep hR f1 hold f2 hrow) (ex_Sgrow hS f1' hold) F rfl X'
  refine ⟨t, step t ?_, b1⟩
  have e9 : T.heap.size = H.size := by rw [hT]
  rw [ex_top hR] at a1
  rw [e9]
  exact a1
theorem ex_rcopy (hx : p.tables.exec = Jvm.exec) (hb : c.code = cc) (hml : c.maxLocals = ls.size) (hts : ∀ w ∈ ex_gw, w.before args s = true) (hown : s.vm.findClass own = some m.cls) (hl : Jvm.Cond.methodLink own index arraycopyName ∈ ex_gw) (hK : ex_K D dA scr s) (hR : ex_Rep D dA B b scr h H) (hS : va_S (fun q => B ≤ q) s.heap H locs) {o d n0 n1 : Nat} {f g : Nat → Int32} (ho : h.2.2 o = some (.inl (0, n0, f))) (hd : h.2.2 d = some (.inl (0, n1, g))) {sp dp n : Int32} (h1 : ¬ sp < 0) (h2 : ¬ dp < 0) (h3 : ¬ n < 0) (h4 : sp.toNatClampNeg + n.toNatClampNeg ≤ n0) (h5 : dp.toNatClampNeg + n.toNatClampNeg ≤ n1)
    (hframes : 1 ≤ R.frames) (hlocals : (rest.map fun v => v.category).sum + (nativeFrameWords "java/lang/System" "arraycopy" 5 + 11) ≤ R.locals) (hdg : decode cc pc = .ok (.invokestatic index, 3))
    (kk : ∀ (H' : Heap) (locs' : List Loc), ex_Rep D dA B b scr (ex_set h d (.inl (0, n1, va_cpy f g sp.toNatClampNeg dp.toNatClampNeg n.toNatClampNeg))) H' → va_S (fun q => B ≤ q) s.heap H' locs' → W p l e R s m args below meth c H' locs' cells slots Q (F0 m (pc + 3) ls rest)) : W p l e R s m args below meth c H locs cells slots Q (F0 m pc ls (.int n :: .int dp :: .ref (ex_sh B b d) :: .int sp :: .ref (ex_sh B b o) :: rest)) := by
  have nn : ∀ z : Int32, ¬ z < 0 → z.toInt = (z.toNatClampNeg : Int) := by
    intro z hz
    have hz0 : (0 : Int) ≤ z.toInt := by
      have := Int32.not_lt.mp hz
      simpa using Int32.le_iff_toInt_le.mp this
    show z.toInt = ((z.toInt.toNat : Nat) : Int)
    omega
  rcases hR.2.2.2.2 o _ ho with ⟨rfl, n', f', hc, q1, q2, q3⟩ | ⟨g1, g2, g3, hc0⟩
  · cases hc
  rcases hR.2.2.2.2 d _ hd with ⟨rfl, n', f', hc, q1, q2, q3⟩ | ⟨w1, w2, w3, hc1⟩
  · cases hc
  have hc0 : H[ex_sh B b o]? = some (vp_cell (dA 0) (n0, .inl f)) := hc0
  have hc1 : H[ex_sh B b d]? = some (vp_cell (dA 0) (n1, .inl g)) := hc1
  intro T hT X
  obtain ⟨-, k0, hk0, cm0, hkk0⟩ := (hK.1.2 0 _ rfl).1 n0 (fun j => .int (f j))
  obtain ⟨vm', X', step⟩ := X.arraycopy hx hown (hts _ hl) (hts _ (ex_gw_of ex_copy_in.1)) (hts _ (ex_gw_of ex_copy_in.2.1)) (hts _ (ex_gw_of ex_copy_in.2.2)) (src := ex_sh B b o) (dst := ex_sh B b d) (cs := vp_cell (dA 0) (n0, .inl f)) (cd := vp_cell (dA 0) (n1, .inl g)) (srcPos := sp) (destPos := dp) (n := n) (by rw [hT]; exact hc0) (by rw [hT]; exact hc1)
    (fun _ h => by cases h) (fun _ h => by cases h) (fun h => by cases h) (fun h => by cases h) hk0 hk0 hkk0 hkk0 (by simp [refKind]) h1 h2 h3
    (by rw [nn sp h1, nn n h3]; show ¬ _ > ((arrV (dA 0) n0 (fun j => .int (f j))).slots.size : Int); rw [arrV_size]; omega)
    (by rw [nn dp h2, nn n h3]; show ¬ _ > ((arrV (dA 0) n1 (fun j => .int (g j))).slots.size : Int); rw [arrV_size]; omega)
    (fun vm₁ _ i hi => by
      have e : (vp_cell (dA 0) (n0, .inl f)).slots.getD (sp.toNatClampNeg + i) .null = .int (f (sp.toNatClampNeg + i)) := by
        show (arrV (dA 0) n0 (fun j => .int (f j))).slots.getD _ _ = _
        rw [Array.getD_eq_getD_getElem?, arrV_read _ _ (by omega)]
        rfl
      refine ⟨?_, ?_⟩
      · rw [e]
        rfl
      · rw [e]
        exact trivial)
    (g := F0 m pc ls (.int n :: .int dp :: .ref (ex_sh B b d) :: .int sp :: .ref (ex_sh B b o) :: rest)) rfl (by rw [hml]) (rest := rest) rfl (by rw [hb]; exact hdg) hframes (by show 2 * 0 + _ + _ ≤ _; omega)
  have e1 : copied (vp_cell (dA 0) (n0, .inl f)) (vp_cell (dA 0) (n1, .inl g)) sp dp n = vp_cell (dA 0) (n1, .inl (va_cpy f g sp.toNatClampNeg dp.toNatClampNeg n.toNatClampNeg)) := va_copied (fun z => .int z) (dA 0) (dA 0) f g h4
  rw [e1] at X' step
  have hlt : ex_sh B b d < H.size := (Array.getElem?_eq_some_iff.mp hc1).1
  generalize hN : vp_cell (dA 0) (n1, .inl (va_cpy f g sp.toNatClampNeg dp.toNatClampNeg n.toNatClampNeg)) = newc at X' step
  have hheap : ((T.setVm vm').setCell (ex_sh B b d) newc).heap = H.setIfInBounds (ex_sh B b d) newc := by rw [← hT]; rfl
  have oq : ∀ q : Nat, q ≠ ex_sh B b d → (H.setIfInBounds (ex_sh B b d) newc)[q]? = H[q]? := fun q hq => by simp [Array.getElem?_setIfInBounds, Ne.symm hq]
  obtain ⟨t, a1, b1⟩ := kk (H.setIfInBounds (ex_sh B b d) newc) _ (hR.put w1 w2 (by simp) oq (Or.inl rfl) (show (H.setIfInBounds (ex_sh B b d) newc)[ex_sh B b d]? = some (vp_cell (dA 0) _) by rw [hN]; simp [Array.getElem?_setIfInBounds, hlt])) ⟨by simp; exact hS.1, fun q g1 g2 => by
      rw [oq q (fun e => g2 (by rw [e]; exact ex_sh_ge w1))]
      exact hS.2.1 q g1 g2, fun q hq => by
      rcases List.mem_append.mp hq with h | h
      · exact hS.2.2 q h
      · obtain ⟨z, -, hz⟩ := List.mem_map.mp h
        rw [← hz]
        exact ex_sh_ge w1⟩ _ hheap X'
  exact ⟨t, step t a1, b1⟩
theorem ex_rclone (hx : p.tables.exec = Jvm.exec) (hb : c.code = cc) (hml : c.maxLocals = ls.size) (hts : ∀ w ∈ ex_gw, w.before args s = true) (hown : s.vm.findClass own = some m.cls) (hl : Jvm.Cond.methodLink own index ex_clname ∈ ex_gw) (hK : ex_K D dA scr s) (hR : ex_Rep D dA B b scr h H) (hS : va_S (fun q => B ≤ q) s.heap H locs) {o n : Nat} {f : Nat → Int32} (ho : h.2.2 o = some (.inl (0, n, f)))
    (hframes : 1 ≤ R.frames) (hlocals : (rest.map fun v => v.category).sum + 14 ≤ R.locals) (hcells : cells + 1 ≤ R.cells) (hslots : slots + n ≤ R.slots) (hdg : decode cc pc = .ok (.invokevirtual index, 3))
    (kk : ∀ H' : Heap, ex_Rep D dA B b scr (ex_new h (.inl (0, n, f)) n) H' → va_S (fun q => B ≤ q) s.heap H' locs → W p l e R s m args below meth c H' locs (cells + 1) (slots + n) Q (F0 m (pc + 3) ls (.ref (ex_sh B b h.1) :: rest))) : W p l e R s m args below meth c H locs cells slots Q (F0 m pc ls (.ref (ex_sh B b o) :: rest)) := by
  rcases hR.2.2.2.2 o _ ho with ⟨rfl, n', f', hc, q1, q2, q3⟩ | ⟨g1, g2, g3, hc0⟩
  · cases hc
  have hc0 : H[ex_sh B b o]? = some (arrV (dA 0) n (fun j => .int (f j))) := hc0
  have hnm : s.vm.findClass "[I" = some (dA 0) := (hK.1.2 0 _ rfl).2
  obtain ⟨c0, t0', f1, f2, f3⟩ := Cond.castable_spec (va_Nw.use (A := args) rfl hK.2.2.2.1)
  cases hnm.symm.trans f1
  intro T hT X
  have hcellT : T.heap[ex_sh B b o]? = some (arrV (dA 0) n (fun j => .int (f j))) := by rw [hT]; exact hc0
  obtain ⟨-, kA, hkA, comp, hkind⟩ := State.isArrayOf_alike X.warmed.alike ((hK.1.2 0 _ rfl).1 0 (fun _ => .null))
  obtain ⟨-, kS, hkS, compS, hkindS⟩ := (hK.1.2 0 _ rfl).1 0 (fun _ => .null)
  obtain ⟨vm', X', st⟩ := X.cloneArray hx hown (hts _ hl) (hts _ (ex_gw_of ex_clone_in.1)) (hts _ (ex_gw_of ex_clone_in.2.1)) (hts _ (ex_gw_of ex_clone_in.2.2.1)) (hts _ (ex_gw_of ex_clone_in.2.2.2)) (a := ex_sh B b o) (cell := arrV (dA 0) n (fun j => .int (f j))) hcellT (fun k h => by cases h) (fun h => by cases h) hnm f2 f3
    (fun i v hv => by
      have hk' : T.vm.classes[dA 0]? = some kA := hkA
      have hf : fits .int v = true := by
        by_cases hi : i < n
        · rw [arrV_read _ _ hi] at hv
          cases hv
          rfl
        · rw [Array.getElem?_eq_none (by rw [arrV_size]; omega)] at hv
          cases hv
      show T.fitsSlot (dA 0) _ i v = true
      simpa [State.fitsSlot, State.slotType?, hk', hkind, arrV] using hf)
    (g := F0 m pc ls (.ref (ex_sh B b o) :: rest)) rfl (by rw [hml]) rfl (by rw [hb]; exact hdg) hframes (by show 2 * 0 + _ + 14 ≤ _; omega) hcells (by rw [arrV_size]; exact hslots) (hloader := Vm.clonesLoader_of_array hkS hkindS)
  have hcE : ({ cls := (arrV (dA 0) n (fun j => .int (f j))).cls, slots := (arrV (dA 0) n (fun j => .int (f j))).slots } : Cell) = arrV (dA 0) n (fun j => .int (f j)) := rfl
  rw [hcE, arrV_size] at X'
  rw [hcE] at st
  obtain ⟨t, b1, b2⟩ := kk (H.push (arrV (dA 0) n (fun j => .int (f j)))) (hR.push (by rw [Array.size_push]) (fun q hq => by rw [Array.getElem?_push, if_neg (Nat.ne_of_lt hq)]) (Or.inl rfl) (by
      show (H.push _)[H.size]? = some (vp_cell _ _)
      rw [Array.getElem?_push_size, vp_cell_i])) (ex_Sgrow hS (N := 1) (by rw [Array.size_push]) (fun q hq => by rw [Array.getElem?_push, if_neg (Nat.ne_of_lt hq)]))
    ((T.setVm vm').pushCell (arrV (dA 0) n (fun j => .int (f j)))) (by rw [← hT]; rfl) X'
  refine ⟨t, st t ?_, b2⟩
  rw [ex_top hR, ← hT] at b1
  exact b1
end EXM
end
section
/-! EVERY STEP OF THE PURE MACHINE IS ONE OF THE MACHINE'S. -/
def ex_L (B b : Nat) (ls : Array Slot) (nL : Nat) (L : List Value) : Prop := ls.size = nL ∧ lv_wf ls ∧ L.length = nL ∧ ∀ (i : Nat) (v : Value), L[i]? = some v → v.category = 1 → ls[i]? = some (.val (ex_sv B b v))
def ex_lv (B b : Nat) (L : List Value) : List (Nat × Value) := (L.zipIdx.filter (fun q => q.1.category == 1)).map (fun q => (q.2, ex_sv B b q.1))
theorem ex_sv_cat (B b : Nat) (v : Value) : (ex_sv B b v).category = v.category := by cases v <;> rfl
theorem ex_lv_mem {B b : Nat} {L : List Value} {i : Nat} {v : Value} (h : L[i]? = some v) (hc : v.category = 1) : (i, ex_sv B b v) ∈ ex_lv B b L :=
  List.mem_map.mpr ⟨(v, i), List.mem_filter.mpr ⟨List.mem_zipIdx_iff_getElem?.mpr h, by simpa using hc⟩, rfl⟩
theorem ex_lv_has {B b : Nat} {ls : Array Slot} {nL : Nat} {L : List Value} (h : ex_L B b ls nL L) : lv_has ls nL (ex_lv B b L) := by
  refine ⟨h.1, h.2.1, fun q hq => ?_⟩
  obtain ⟨x, hx, rfl⟩ := List.mem_map.mp hq
  obtain ⟨h1, h2⟩ := List.mem_filter.mp hx
  exact h.2.2.2 x.2 x.1 (List.mem_zipIdx_iff_getElem?.mp h1) (by simpa using h2)
theorem ex_L_set {B b : Nat} {ls ls' : Array Slot} {nL : Nat} {L : List Value} (h : ex_L B b ls nL L) {i : Nat} {v : Value} (hi : i < L.length) (h' : lv_has ls' nL ((i, ex_sv B b v) :: (ex_lv B b L).filter (fun q => !(q.1 == i) && !(q.1 + 1 == i && q.2.category == 2)))) : ex_L B b ls' nL (L.set i v) := by
  refine ⟨h'.1, h'.2.1, by rw [List.length_set]; exact h.2.2.1, fun j w hj hw => ?_⟩
  by_cases e : j = i
  · subst e
    rw [List.getElem?_set_self hi] at hj
    cases hj
    exact h'.2.2 (j, _) List.mem_cons_self
  · rw [List.getElem?_set_ne (Ne.symm e)] at hj
    refine h'.2.2 (j, ex_sv B b w) (List.mem_cons_of_mem _ (List.mem_filter.mpr ⟨ex_lv_mem hj hw, ?_⟩))
    simp [e, ex_sv_cat, hw]
theorem ex_fl_gw {e : Nat × Nat × Nat × Nat} (h : ex_fl.contains e = true) : ex_flc e ∈ ex_gw := ex_gw_of (List.all_eq_true.mp ex_fl_in e (List.contains_iff_mem.mp h))
theorem ex_cl_gw {e : Nat × Nat × String} (h : ex_cl.contains e = true) : ex_clc e ∈ ex_gw := ex_gw_of (List.all_eq_true.mp ex_cl_in e (List.contains_iff_mem.mp h))
theorem ex_ml_all {e : Nat × Nat × Nat × Nat} (h : ex_ml.contains e = true) : ex_mlc e = true := by
  have h1 := List.contains_iff_mem.mp h
  rw [← List.take_append_drop 70 ex_ml] at h1
  rcases List.mem_append.mp h1 with h2 | h2
  · exact List.all_eq_true.mp ex_ml_in1 e h2
  · rw [← List.take_append_drop 70 (ex_ml.drop 70), List.drop_drop] at h2
    rcases List.mem_append.mp h2 with h3 | h3
    · exact List.all_eq_true.mp ex_ml_in2 e h3
    · exact List.all_eq_true.mp ex_ml_in3 e h3
theorem ex_mk_all : ∀ y, y < 161 → ex_mk y = true := by
  intro y hy
  by_cases h0 : y < 41
  · exact List.all_eq_true.mp ex_mk_0 y (List.mem_range'_1.mpr ⟨by omega, by omega⟩)
  by_cases h1 : y < 82
  · exact List.all_eq_true.mp ex_mk_1 y (List.mem_range'_1.mpr ⟨by omega, by omega⟩)
  by_cases h2 : y < 123
  · exact List.all_eq_true.mp ex_mk_2 y (List.mem_range'_1.mpr ⟨by omega, by omega⟩)
  · exact List.all_eq_true.mp ex_mk_3 y (List.mem_range'_1.mpr ⟨by omega, by omega⟩)
section EXS
variable {p : Program} {l : Launch} {e : Env} {R : Room} {s : State} {m : MethodId} {args : Array Value} {below : List Frame} {meth : Method} {c : Code} {H : Heap} {locs : List Loc} {cells slots : Nat} {Q : State → Prop}
variable {D : va_G} {dA : Nat → ClassId} {B b : Nat} {scr : Cell} {cc : ByteArray} {pc len a cN y nL : Nat} {v : Int32} {ins : Instr} {ls : Array Slot} {h h' : ex_Hp} {L S L' S' : List Value}
theorem ex_s1 (hx : p.tables.exec = Jvm.exec) (hb : c.code = cc) (hdg : decode cc pc = .ok (ins, len)) (hok : ex_okA y pc ins len a cN v = true) (hst : ex_st1 ins a v L S = some (L', S')) (hL : ex_L B b ls nL L)
    (kk : ∀ ls' : Array Slot, ex_L B b ls' nL L' → W p l e R s m args below meth c H locs cells slots Q (F0 m (pc + len) ls' (S'.map (ex_sv B b)))) : W p l e R s m args below meth c H locs cells slots Q (F0 m pc ls (S.map (ex_sv B b))) := by
  have hlv := ex_lv_has hL
  unfold ex_st1 at hst
  split at hst
  · simp only [ex_okA, decide_eq_true_eq] at hok
    obtain ⟨rfl, hv⟩ := hok
    cases hst
    exact lv_iconst hx hb hdg hv (kk ls hL)
  · simp only [ex_okA, decide_eq_true_eq] at hok
    obtain ⟨rfl, hv⟩ := hok
    cases hst
    exact lv_bipush hx hb hdg hv (kk ls hL)
  · simp only [ex_okA, decide_eq_true_eq] at hok
    obtain ⟨rfl, hv⟩ := hok
    cases hst
    exact lv_sipush hx hb hdg hv (kk ls hL)
  · split at hst
    · rename_i x hLx
      cases hst
      simp only [ex_okA, decide_eq_true_eq] at hok
      obtain ⟨rfl, rfl⟩ := hok
      exact lv_iload hx hb hdg (hL.2.2.2 _ _ hLx rfl) (kk ls hL)
    · cases hst
  · split at hst
    · rename_i x hLx
      cases hst
      simp only [ex_okA, decide_eq_true_eq] at hok
      obtain ⟨rfl, rfl⟩ := hok
      exact lv_iload_n hx hb hdg rfl (hL.2.2.2 _ _ hLx rfl) (kk ls hL)
    · cases hst
  · split at hst
    · rename_i x hLx
      cases hst
      simp only [ex_okA, decide_eq_true_eq] at hok
      obtain ⟨rfl, rfl⟩ := hok
      exact lv_aload hx hb hdg (hL.2.2.2 _ _ hLx rfl) (kk ls hL)
    · rename_i hLx
      cases hst
      simp only [ex_okA, decide_eq_true_eq] at hok
      obtain ⟨rfl, rfl⟩ := hok
      exact lv_aloadN hx hb hdg (hL.2.2.2 _ _ hLx rfl) (kk ls hL)
    · cases hst
  · split at hst
    · rename_i x hLx
      cases hst
      simp only [ex_okA, decide_eq_true_eq] at hok
      obtain ⟨rfl, rfl⟩ := hok
      exact lv_aload_n hx hb hdg rfl (hL.2.2.2 _ _ hLx rfl) (kk ls hL)
    · rename_i hLx
      cases hst
      simp only [ex_okA, decide_eq_true_eq] at hok
      obtain ⟨rfl, rfl⟩ := hok
      exact lv_aload_nN hx hb hdg rfl (hL.2.2.2 _ _ hLx rfl) (kk ls hL)
    · cases hst
  · split at hst
    · split at hst
      · rename_i hlt
        cases hst
        simp only [ex_okA, decide_eq_true_eq] at hok
        obtain ⟨rfl, rfl⟩ := hok
        exact lv_istore hx hb hdg hlv (by rw [← hL.2.2.1]; exact hlt) rfl (fun ls' h9 => kk ls' (ex_L_set hL hlt h9))
      · cases hst
    · cases hst
  · split at hst
    · split at hst
      · rename_i hlt
        cases hst
        simp only [ex_okA, decide_eq_true_eq] at hok
        obtain ⟨rfl, rfl⟩ := hok
        exact lv_istore_n hx hb hdg rfl hlv (by rw [← hL.2.2.1]; exact hlt) rfl (fun ls' h9 => kk ls' (ex_L_set hL hlt h9))
      · cases hst
    · cases hst
  · split at hst
    · split at hst
      · rename_i hlt
        cases hst
        simp only [ex_okA, decide_eq_true_eq] at hok
        obtain ⟨rfl, rfl⟩ := hok
        exact lv_astore hx hb hdg hlv (by rw [← hL.2.2.1]; exact hlt) rfl (fun ls' h9 => kk ls' (ex_L_set hL hlt h9))
      · cases hst
    · split at hst
      · rename_i hlt
        cases hst
        simp only [ex_okA, decide_eq_true_eq] at hok
        obtain ⟨rfl, rfl⟩ := hok
        exact lv_astoreN hx hb hdg hlv (by rw [← hL.2.2.1]; exact hlt) rfl (fun ls' h9 => kk ls' (ex_L_set hL hlt h9))
      · cases hst
    · cases hst
  · split at hst
    · split at hst
      · rename_i hlt
        cases hst
        simp only [ex_okA, decide_eq_true_eq] at hok
        obtain ⟨rfl, rfl⟩ := hok
        exact lv_astore_n hx hb hdg rfl hlv (by rw [← hL.2.2.1]; exact hlt) rfl (fun ls' h9 => kk ls' (ex_L_set hL hlt h9))
      · cases hst
    · split at hst
      · rename_i hlt
        cases hst
        simp only [ex_okA, decide_eq_true_eq] at hok
        obtain ⟨rfl, rfl⟩ := hok
        exact lv_astore_nN hx hb hdg rfl hlv (by rw [← hL.2.2.1]; exact hlt) rfl (fun ls' h9 => kk ls' (ex_L_set hL hlt h9))
      · cases hst
    · cases hst
  · split at hst
    · rename_i x hLx
      cases hst
      simp only [ex_okA, decide_eq_true_eq] at hok
      obtain ⟨rfl, rfl, hv⟩ := hok
      have hlt := (List.getElem?_eq_some_iff.mp hLx).1
      obtain ⟨k, hk⟩ := List.getElem?_of_mem (ex_lv_mem (B := B) (b := b) hLx rfl)
      exact lv_iinc hx hb hdg hlv hk (by rw [hv]) (by rw [← hL.2.2.1]; exact hlt) rfl (fun ls' h9 => kk ls' (ex_L_set hL hlt h9))
    · cases hst
  · split at hst
    · cases hst
      simp only [ex_okA, decide_eq_true_eq] at hok
      subst hok
      exact lv_ineg hx hb hdg (kk ls hL)
    · cases hst
  · split at hst
    · cases hst
      simp only [ex_okA, decide_eq_true_eq] at hok
      subst hok
      exact lv_dup hx hb hdg rfl (kk ls hL)
    · cases hst
      simp only [ex_okA, decide_eq_true_eq] at hok
      subst hok
      exact lv_dup hx hb hdg rfl (kk ls hL)
    · cases hst
  · split at hst
    · cases hst
      simp only [ex_okA, decide_eq_true_eq] at hok
      subst hok
      exact lv_pop hx hb hdg rfl (kk ls hL)
    · cases hst
      simp only [ex_okA, decide_eq_true_eq] at hok
      subst hok
      exact lv_pop hx hb hdg rfl (kk ls hL)
    · cases hst
  · split at hst
    · split at hst
      · rename_i heq
        cases hst
        unfold ex_ari at heq
        split at heq
        · cases heq
          simp only [ex_okA, decide_eq_true_eq] at hok
          subst hok
          exact lv_iadd hx hb hdg (kk ls hL)
        · cases heq
          simp only [ex_okA, decide_eq_true_eq] at hok
          subst hok
          exact lv_isub hx hb hdg (kk ls hL)
        · cases heq
          simp only [ex_okA, decide_eq_true_eq] at hok
          subst hok
          exact lv_imul hx hb hdg (kk ls hL)
        · split at heq
          · cases heq
          · rename_i hne
            cases heq
            simp only [ex_okA, decide_eq_true_eq] at hok
            subst hok
            exact lv_idiv hx hb hdg hne (kk ls hL)
        · split at heq
          · cases heq
          · rename_i hne
            cases heq
            simp only [ex_okA, decide_eq_true_eq] at hok
            subst hok
            exact lv_irem hx hb hdg hne (kk ls hL)
        · cases heq
          simp only [ex_okA, decide_eq_true_eq] at hok
          subst hok
          exact lv_ishl hx hb hdg (kk ls hL)
        · cases heq
          simp only [ex_okA, decide_eq_true_eq] at hok
          subst hok
          exact lv_ishr hx hb hdg (kk ls hL)
        · cases heq
          simp only [ex_okA, decide_eq_true_eq] at hok
          subst hok
          exact lv_iand hx hb hdg (kk ls hL)
        · cases heq
          simp only [ex_okA, decide_eq_true_eq] at hok
          subst hok
          exact lv_ior hx hb hdg (kk ls hL)
        · cases heq
      · cases hst
    · cases hst
theorem ex_s2 (hx : p.tables.exec = Jvm.exec) (hb : c.code = cc) (hdg : decode cc pc = .ok (ins, len)) (hok : ex_okA y pc ins len a cN v = true) {q : Nat} (hst : ex_st2 ins pc len a S = some (q, S'))
    (kk : W p l e R s m args below meth c H locs cells slots Q (F0 m q ls (S'.map (ex_sv B b)))) : W p l e R s m args below meth c H locs cells slots Q (F0 m pc ls (S.map (ex_sv B b))) := by
  unfold ex_st2 at hst
  split at hst
  · split at hst
    · rename_i k off _ x S0
      cases hst
      simp only [ex_okA, decide_eq_true_eq] at hok
      obtain ⟨rfl, ht⟩ := hok
      cases k
      · exact lv_if_eq hx hb hdg ht (fun z => by rw [if_pos (by simp [ex_cmp, z])] at kk; exact kk) (fun z => by rw [if_neg (by simp [ex_cmp, z])] at kk; exact kk)
      · exact lv_if_ne hx hb hdg ht (fun z => by rw [if_pos (by simp [ex_cmp, z])] at kk; exact kk) (fun z => by rw [if_neg (by simp [ex_cmp, z])] at kk; exact kk)
      · exact lv_if_lt hx hb hdg ht (fun z => by rw [if_pos (by simp only [ex_cmp, decide_eq_true_eq]; exact z)] at kk; exact kk) (fun z => by rw [if_neg (by simp only [ex_cmp, decide_eq_true_eq]; exact z)] at kk; exact kk)
      · exact lv_if_ge hx hb hdg ht (fun z => by rw [if_pos (by simp only [ex_cmp, decide_eq_true_eq]; exact z)] at kk; exact kk) (fun z => by rw [if_neg (by simp only [ex_cmp, decide_eq_true_eq]; exact z)] at kk; exact kk)
      · exact lv_if_gt hx hb hdg ht (fun z => by rw [if_pos (by simp only [ex_cmp, decide_eq_true_eq]; exact z)] at kk; exact kk) (fun z => by rw [if_neg (by simp only [ex_cmp, decide_eq_true_eq]; exact z)] at kk; exact kk)
      · exact lv_if_le hx hb hdg ht (fun z => by rw [if_pos (by simp only [ex_cmp, decide_eq_true_eq]; exact z)] at kk; exact kk) (fun z => by rw [if_neg (by simp only [ex_cmp, decide_eq_true_eq]; exact z)] at kk; exact kk)
    · cases hst
  · split at hst
    · rename_i k off _ y1 x S0
      cases hst
      simp only [ex_okA, decide_eq_true_eq] at hok
      obtain ⟨rfl, ht⟩ := hok
      cases k
      · exact lv_icmp_eq hx hb hdg ht (fun z => by rw [if_pos (by simp only [ex_cmp, decide_eq_true_eq]; exact z)] at kk; exact kk) (fun z => by rw [if_neg (by simp only [ex_cmp, decide_eq_true_eq]; exact z)] at kk; exact kk)
      · exact lv_icmp_ne hx hb hdg ht (fun z => by rw [if_pos (by simp only [ex_cmp, decide_eq_true_eq]; exact z)] at kk; exact kk) (fun z => by rw [if_neg (by simp only [ex_cmp, decide_eq_true_eq]; exact fun g => g z)] at kk; exact kk)
      · exact lv_icmp_lt hx hb hdg ht (fun z => by rw [if_pos (by simp only [ex_cmp, decide_eq_true_eq]; exact z)] at kk; exact kk) (fun z => by rw [if_neg (by simp only [ex_cmp, decide_eq_true_eq]; exact z)] at kk; exact kk)
      · exact lv_icmp_ge hx hb hdg ht (fun z => by rw [if_pos (by simp only [ex_cmp, decide_eq_true_eq]; exact z)] at kk; exact kk) (fun z => by rw [if_neg (by simp only [ex_cmp, decide_eq_true_eq]; exact z)] at kk; exact kk)
      · exact lv_icmp_gt hx hb hdg ht (fun z => by rw [if_pos (by simp only [ex_cmp, decide_eq_true_eq]; exact z)] at kk; exact kk) (fun z => by rw [if_neg (by simp only [ex_cmp, decide_eq_true_eq]; exact z)] at kk; exact kk)
      · exact lv_icmp_le hx hb hdg ht (fun z => by rw [if_pos (by simp only [ex_cmp, decide_eq_true_eq]; exact z)] at kk; exact kk) (fun z => by rw [if_neg (by simp only [ex_cmp, decide_eq_true_eq]; exact z)] at kk; exact kk)
    · cases hst
  · cases hst
    simp only [ex_okA, decide_eq_true_eq] at hok
    obtain ⟨rfl, ht⟩ := hok
    exact lv_goto hx hb hdg ht kk
  · split at hst
    · cases hst
      simp only [ex_okA, decide_eq_true_eq] at hok
      obtain ⟨rfl, ht⟩ := hok
      exact lv_ifnullN hx hb hdg ht kk
    · cases hst
      simp only [ex_okA, decide_eq_true_eq] at hok
      obtain ⟨rfl, ht⟩ := hok
      exact lv_ifnull hx hb hdg kk
    · cases hst
  · split at hst
    · cases hst
      simp only [ex_okA, decide_eq_true_eq] at hok
      obtain ⟨rfl, ht⟩ := hok
      exact lv_ifnonnullN hx hb hdg kk
    · cases hst
      simp only [ex_okA, decide_eq_true_eq] at hok
      obtain ⟨rfl, ht⟩ := hok
      exact lv_ifnonnull hx hb hdg ht kk
    · cases hst
  · split at hst
    · simp only [ex_okA, Bool.and_eq_true, decide_eq_true_eq] at hok
      obtain ⟨ht, hall⟩ := hok
      split at hst
      · rename_i hout
        cases hst
        exact lv_tableOut hx hb hdg hout ht kk
      · rename_i hin
        split at hst
        · rename_i o ho
          cases hst
          have hpos := List.all_eq_true.mp hall o (Array.mem_toList_iff.mpr (Array.mem_of_getElem? ho))
          rw [decide_eq_true_eq] at hpos
          exact lv_tableIn hx hb hdg (fun z => hin (Or.inl z)) (fun z => hin (Or.inr z)) ho (by rw [Int.toNat_of_nonneg hpos]) kk
        · cases hst
    · cases hst
  · cases hst
end EXS
end
section
section EXT
variable {p : Program} {l : Launch} {e : Env} {R : Room} {s : State} {m : MethodId} {args : Array Value} {below : List Frame} {meth : Method} {c : Code} {H : Heap} {locs : List Loc} {cells slots cells' slots' : Nat} {Q : State → Prop}
variable {D : va_G} {dA : Nat → ClassId} {B b : Nat} {scr : Cell} {pc len a cN y : Nat} {v : Int32} {ins : Instr} {ls : Array Slot} {h h' : ex_Hp} {S S' : List Value}
theorem ex_s3 (hx : p.tables.exec = Jvm.exec) (hb : c.code = ex_by y) (hts : ∀ w ∈ ex_gw, w.before args s = true) (hown : s.vm.findClass (ex_o (ex_ow y)) = some m.cls) (hK : ex_K D dA scr s) (hnm : (ex_nm y).name = "<init>" → meth.name = "<init>") (hR : ex_Rep D dA B b scr h H) (hS : va_S (fun q => B ≤ q) s.heap H locs) (hdg : decode (ex_by y) pc = .ok (ins, len)) (hok : ex_okA y pc ins len a cN v = true) (hst : ex_st3 ins a cN S h = some (S', h'))
    (kk : ∀ (H' : Heap) (locs' : List Loc), ex_Rep D dA B b scr h' H' → va_S (fun q => B ≤ q) s.heap H' locs' → W p l e R s m args below meth c H' locs' cells slots Q (F0 m (pc + len) ls (S'.map (ex_sv B b)))) : W p l e R s m args below meth c H locs cells slots Q (F0 m pc ls (S.map (ex_sv B b))) := by
  unfold ex_st3 at hst
  split at hst
  · split at hst
    · split at hst
      · rename_i o S0 ho0 ci fs ho
        split at hst
        · rename_i hci
          split at hst
          · rename_i v0 hv
            cases hst
            subst hci
            simp only [ex_okA, Bool.and_eq_true, decide_eq_true_eq] at hok
            obtain ⟨⟨rfl, h1, h2⟩, h3⟩ := hok
            exact ex_rget hx hb hts hown hK hR ho h1 h2 hv (ex_fl_gw h3) hdg (kk H locs hR hS)
          · cases hst
        · cases hst
      · cases hst
    · cases hst
  · split at hst
    · split at hst
      · rename_i v0 o S0 ho0 ci fs ho
        split at hst
        · rename_i hcond
          obtain ⟨hci, hfit, hlen⟩ := hcond
          cases hst
          subst hci
          simp only [ex_okA, Bool.and_eq_true, Bool.or_eq_true, Bool.not_eq_true', decide_eq_true_eq] at hok
          obtain ⟨⟨⟨rfl, h1, h2⟩, h3⟩, h4⟩ := hok
          exact ex_rput hx hb hts hown hK hR hS ho h1 h2 hfit hlen (ex_fl_gw h3) (h4.imp id (fun z => ⟨hnm z.1, z.2⟩)) hdg kk
        · cases hst
      · cases hst
    · cases hst
  · split at hst
    · split at hst
      · rename_i i o S0 ho0 t n f ho
        split at hst
        · rename_i ht
          split at hst
          · rename_i j hj
            cases hst
            simp only [ex_okA, decide_eq_true_eq] at hok
            subst hok
            exact ex_riald hx hb hK hR ho ht hj hdg (kk H locs hR hS)
          · cases hst
        · cases hst
      · cases hst
    · cases hst
  · split at hst
    · split at hst
      · rename_i i o S0 ho0 t n f ho
        split at hst
        · rename_i ht
          split at hst
          · rename_i j hj
            cases hst
            simp only [ex_okA, decide_eq_true_eq] at hok
            subst hok
            exact ex_rbald hx hb hK hR ho ht hj hdg (kk H locs hR hS)
          · cases hst
        · cases hst
      · cases hst
    · cases hst
  · split at hst
    · split at hst
      · rename_i x i o S0 ho0 t n f ho
        split at hst
        · rename_i ht
          split at hst
          · rename_i j hj
            cases hst
            simp only [ex_okA, decide_eq_true_eq] at hok
            subst hok
            exact ex_riast hx hb hK hR hS ho ht hj hdg kk
          · cases hst
        · cases hst
      · cases hst
    · cases hst
  · split at hst
    · split at hst
      · rename_i x i o S0 ho0 t n f ho
        split at hst
        · rename_i ht
          split at hst
          · rename_i j hj
            cases hst
            simp only [ex_okA, decide_eq_true_eq] at hok
            subst hok
            exact ex_rbast hx hb hK hR hS ho ht hj hdg kk
          · cases hst
        · cases hst
      · cases hst
    · cases hst
  · split at hst
    · split at hst
      · rename_i i o S0 ho0 t n f ho
        split at hst
        · rename_i j hj
          cases hst
          simp only [ex_okA, decide_eq_true_eq] at hok
          subst hok
          exact ex_raald hx hb hK hR ho hj hdg (kk H locs hR hS)
        · cases hst
      · cases hst
    · cases hst
  · split at hst
    · split at hst
      · rename_i x i o S0 ho0 hd0 t n f d ho hd
        split at hst
        · rename_i hm
          split at hst
          · rename_i j hj
            cases hst
            simp only [ex_okA, decide_eq_true_eq] at hok
            subst hok
            exact ex_raast hx hb hK hR hS ho hd hm hj hdg kk
          · cases hst
        · cases hst
      · cases hst
    · cases hst
  · split at hst
    · split at hst
      · rename_i o S0 ho0 t n f ho
        cases hst
        simp only [ex_okA, decide_eq_true_eq] at hok
        subst hok
        exact ex_ralen hx hb hK hR (Or.inl ⟨_, _, ho⟩) hdg (kk H locs hR hS)
      · rename_i o S0 ho0 t n f ho
        cases hst
        simp only [ex_okA, decide_eq_true_eq] at hok
        subst hok
        exact ex_ralen hx hb hK hR (Or.inr ⟨_, _, ho⟩) hdg (kk H locs hR hS)
      · cases hst
    · cases hst
  · split at hst
    · split at hst
      · rename_i o S0 ho0 t n f ho
        split at hst
        · rename_i ht
          cases hst
          simp only [ex_okA, Bool.and_eq_true, decide_eq_true_eq] at hok
          obtain ⟨rfl, h3⟩ := hok
          exact ex_rcast hx hb hts hown hK hR ho ht (ex_cl_gw h3) hdg (kk H locs hR hS)
        · cases hst
      · cases hst
    · cases hst
  · cases hst
theorem ex_sv_sum (B b : Nat) (S : List Value) : ((S.map (ex_sv B b)).map fun v => v.category).sum = ex_cat S := by
  unfold ex_cat
  rw [List.map_map]
  congr 1
  apply List.map_congr_left
  intro v _
  exact ex_sv_cat B b v
theorem ex_mlw {o i a k : Nat} (h : ex_ml.contains (o, i, a, k) = true) : Jvm.Cond.methodLink (ex_o o) i (ex_mn a) ∈ ex_gw ∨ Jvm.Cond.methodLinkNest (ex_o o) i (ex_mn a) RX8 ∈ ex_nest := by
  have h1 := ex_ml_all h
  unfold ex_mlc at h1
  rw [Bool.or_eq_true, decide_eq_true_eq] at h1
  exact h1.imp ex_gw_of id
theorem ex_nest_own {o : String} {i : Nat} {y : MethodName} (h : Jvm.Cond.methodLinkNest o i y RX8 ∈ ex_nest) : y.cls ≠ "java/lang/Object" ∧ y.cls ≠ "java/lang/System" ∧ y.cls ≠ "[I" ∧ y.cls ≠ "java/lang/Math" := by
  simp only [ex_nest, List.mem_cons, List.not_mem_nil, or_false, Jvm.Cond.methodLinkNest.injEq] at h
  rcases h with ⟨-, -, rfl, -⟩ | ⟨-, -, rfl, -⟩ | ⟨-, -, rfl, -⟩ | ⟨-, -, rfl, -⟩ | ⟨-, -, rfl, -⟩ | ⟨-, -, rfl, -⟩ <;> decide
theorem ex_s4 (hx : p.tables.exec = Jvm.exec) (hb : c.code = ex_by y) (hml : c.maxLocals = ls.size) (hts : ∀ w ∈ ex_gw, w.before args s = true) (hown : s.vm.findClass (ex_o (ex_ow y)) = some m.cls) (hK : ex_K D dA scr s) (hR : ex_Rep D dA B b scr h H) (hS : va_S (fun q => B ≤ q) s.heap H locs) (hfr : ex_fr y ≤ R.frames) (hlo : ex_lo y ≤ R.locals) (hdg : decode (ex_by y) pc = .ok (ins, len)) (hok : ex_okA y pc ins len a cN v = true) (hkd : ex_kind ins a = 4) (hst : ex_st4 ins a S h = some (S', h'))
    (e1 : cells' + h.1 = cells + h'.1) (e2 : slots' + h.2.1 = slots + h'.2.1) (b1 : cells' ≤ R.cells) (b2 : slots' ≤ R.slots)
    (kk : ∀ (H' : Heap) (locs' : List Loc), ex_Rep D dA B b scr h' H' → va_S (fun q => B ≤ q) s.heap H' locs' → W p l e R s m args below meth c H' locs' cells' slots' Q (F0 m (pc + len) ls (S'.map (ex_sv B b)))) : W p l e R s m args below meth c H locs cells slots Q (F0 m pc ls (S.map (ex_sv B b))) := by
  unfold ex_st4 at hst
  split at hst
  · cases hst
    simp only [ex_okA, Bool.and_eq_true, decide_eq_true_eq] at hok
    obtain ⟨⟨rfl, h1⟩, h3⟩ := hok
    obtain rfl : cells' = cells + 1 := by simp only [ex_new] at e1; omega
    obtain rfl : slots' = slots + ex_nf a := by simp only [ex_new] at e2; omega
    exact ex_rnew hx hb hts hown hK hR hS h1 (ex_cl_gw h3) b1 b2 hdg (fun H' r1 r2 => kk H' locs r1 r2)
  · split at hst
    · split at hst
      · cases hst
      · rename_i n S0 hn
        cases hst
        simp only [ex_okA, Bool.and_eq_true, Bool.or_eq_true, decide_eq_true_eq] at hok
        obtain ⟨rfl, h3⟩ := hok
        obtain rfl : cells' = cells + 1 := by simp only [ex_new] at e1; omega
        obtain rfl : slots' = slots + n.toNatClampNeg := by simp only [ex_new] at e2; omega
        exact ex_rnewa hx hb hts hK hR hS h3 hn b1 b2 hdg (fun H' r1 r2 => kk H' locs r1 r2)
    · cases hst
  · split at hst
    · split at hst
      · cases hst
      · rename_i n S0 hn
        cases hst
        simp only [ex_okA, Bool.and_eq_true, Bool.or_eq_true, decide_eq_true_eq] at hok
        obtain ⟨rfl, h3⟩ := hok
        obtain rfl : cells' = cells + 1 := by simp only [ex_new] at e1; omega
        obtain rfl : slots' = slots + n.toNatClampNeg := by simp only [ex_new] at e2; omega
        rcases h3 with (⟨rfl, h3⟩ | ⟨rfl, h3⟩) | ⟨rfl, h3⟩
        · exact ex_ranew hx hb hts hown hK hR hS (Or.inl ⟨rfl, rfl⟩) (ex_cl_gw h3) hn b1 b2 hdg (fun H' r1 r2 => kk H' locs r1 r2)
        · exact ex_ranew hx hb hts hown hK hR hS (Or.inr (Or.inl ⟨rfl, rfl⟩)) (ex_cl_gw h3) hn b1 b2 hdg (fun H' r1 r2 => kk H' locs r1 r2)
        · exact ex_ranew hx hb hts hown hK hR hS (Or.inr (Or.inr ⟨rfl, rfl⟩)) (ex_cl_gw h3) hn b1 b2 hdg (fun H' r1 r2 => kk H' locs r1 r2)
    · cases hst
  · split at hst
    · split at hst
      · cases hst
      · rename_i k n S0 hn
        cases hst
        simp only [ex_okA, Bool.and_eq_true, decide_eq_true_eq] at hok
        obtain ⟨⟨rfl, rfl⟩, h3⟩ := hok
        simp only [ex_new2] at e1 e2
        obtain rfl : cells' = cells + 1 + n.toNatClampNeg := by omega
        obtain rfl : slots' = slots + n.toNatClampNeg + n.toNatClampNeg * k.toNatClampNeg := by omega
        exact ex_rmna hx hb hts hown hK hR hS (ex_cl_gw h3) hn (by omega) (by omega) hdg (fun H' r1 r2 => kk H' locs r1 r2)
    · cases hst
  · split at hst
    · split at hst
      · rename_i hrest
        cases hst
        simp only [ex_kind] at hkd
        have ha : ¬ a < 1000 := fun z => by rw [if_pos z] at hkd; cases hkd
        simp only [ex_okA, Bool.and_eq_true, if_neg ha, decide_eq_true_eq] at hok
        obtain ⟨⟨rfl, h3⟩, rfl, h4, h5⟩ := hok
        obtain rfl : cells' = cells := by omega
        obtain rfl : slots' = slots := by omega
        rcases ex_mlw h3 with h6 | h6
        · refine W.objInit hx hb hown (hts _ h6) (hts _ (ex_gw_of ex_obj_in.1)) (hts _ (ex_gw_of ex_obj_in.2)) rfl hml.symm rfl hdg (by omega) ?_ (kk H locs hR hS)
          have := ex_sv_sum B b S'
          show 2 * 0 + _ + 12 ≤ R.locals
          rw [this]
          omega
        · exact absurd rfl (ex_nest_own h6).1
      · cases hst
    · cases hst
  · split at hst
    · rename_i ha3
      split at hst
      · split at hst
        · rename_i hrest
          cases hst
          subst ha3
          simp only [ex_okA, Bool.and_eq_true, if_neg (show ¬ (1003 : Nat) < 1000 by decide), decide_eq_true_eq] at hok
          obtain ⟨⟨rfl, h3⟩, -, h4, -, h5⟩ := hok
          obtain rfl : cells' = cells := by omega
          obtain rfl : slots' = slots := by omega
          rcases ex_mlw h3 with h6 | h6
          · refine va_mmin hx hb hml hown (hts _ h6) (hts _ (ex_gw_of ex_min_in.1)) (hts _ (ex_gw_of ex_min_in.2.1)) (hts _ (ex_gw_of ex_min_in.2.2)) (by omega) ?_ b1 b2 hdg (kk H locs hR hS)
            rw [ex_sv_sum]
            omega
          · exact absurd rfl (ex_nest_own h6).2.2.2
        · cases hst
      · cases hst
    · rename_i ha3
      split at hst
      · split at hst
        · rename_i n dp d sp o S0 ho0 hd0 t0 n0 f t1 n1 g ho hd
          split at hst
          · rename_i hcond
            obtain ⟨hrest, rfl, rfl, z1, z2, z3, z4, z5⟩ := hcond
            cases hst
            simp only [ex_kind] at hkd
            have ha : ¬ a < 1000 := fun z => by rw [if_pos z] at hkd; cases hkd
            simp only [ex_okA, Bool.and_eq_true, if_neg ha, decide_eq_true_eq] at hok
            obtain ⟨⟨rfl, h3⟩, h7, h4, h8, h5⟩ := hok
            obtain rfl : a = 1001 := by omega
            obtain rfl : cells' = cells := by simp only [ex_set] at e1; omega
            obtain rfl : slots' = slots := by simp only [ex_set] at e2; omega
            have h8 := h8 rfl
            rcases ex_mlw h3 with h6 | h6
            · refine ex_rcopy hx hb hml hts hown h6 hK hR hS ho hd z1 z2 z3 z4 z5 (by omega) ?_ hdg kk
              rw [ex_sv_sum]
              show _ + (7 + 11) ≤ _
              omega
            · exact absurd rfl (ex_nest_own h6).2.1
          · cases hst
        · cases hst
      · cases hst
  · split at hst
    · split at hst
      · rename_i o S0 ho0 t n f ho
        split at hst
        · rename_i hcond
          obtain ⟨rfl, hrest⟩ := hcond
          cases hst
          simp only [ex_kind] at hkd
          have ha : ¬ a < 1000 := fun z => by rw [if_pos z] at hkd; cases hkd
          simp only [ex_okA, Bool.and_eq_true, if_neg ha, decide_eq_true_eq] at hok
          obtain ⟨⟨rfl, h3⟩, rfl, h4, h5⟩ := hok
          obtain rfl : cells' = cells + 1 := by simp only [ex_new] at e1; omega
          obtain rfl : slots' = slots + n := by simp only [ex_new] at e2; omega
          rcases ex_mlw h3 with h6 | h6
          · refine ex_rclone hx hb hml hts hown h6 hK hR hS ho (by omega) ?_ b1 b2 hdg (fun H' r1 r2 => kk H' locs r1 r2)
            rw [ex_sv_sum]
            omega
          · exact absurd rfl (ex_nest_own h6).2.2.1
        · cases hst
      · cases hst
    · cases hst
  · cases hst
end EXT
end
section
/-! THE PURE MACHINE's RUN IS THE MACHINE's. -/
def ex_C (D : va_G) (dA : Nat → ClassId) (scr : Cell) (y : Nat) (p : Program) (R : Room) (s : State) (m : MethodId) (args : Array Value) (meth : Method) (c : Code) : Prop :=
  p.tables.exec = Jvm.exec ∧ c.code = ex_by y ∧ c.maxLocals = ex_mL y ∧ s.vm.findClass (ex_o (ex_ow y)) = some m.cls ∧ (∀ w ∈ ex_gw, w.before args s = true) ∧ ex_K D dA scr s ∧ ((ex_nm y).name = "<init>" → meth.name = "<init>") ∧ meth.sig.returnType = ex_rt y ∧ meth.locks = false ∧ ex_fr y ≤ R.frames ∧ ex_lo y ≤ R.locals
def ex_E (y pc : Nat) (r : Option Value) : Prop :=
  (decode (ex_by y) pc = .ok (.ireturn, 1) ∧ ∃ x : Int32, r = some (.int x) ∧ (ex_rt y = some .int ∨ (ex_rt y = some .boolean ∧ (x = 0 ∨ x = 1)))) ∨
  (decode (ex_by y) pc = .ok (.areturn, 1) ∧ (∃ x : Nat, r = some (.ref x)) ∧ ex_rt y = some (.array .int)) ∨
  (decode (ex_by y) pc = .ok (.return_, 1) ∧ r = none ∧ ex_rt y = none)
def ex_Snd (l : Launch) (D : va_G) (dA : Nat → ClassId) (B b : Nat) (scr : Cell) (y pc : Nat) (L S : List Value) (h : ex_Hp) (r : Option Value) (h' : ex_Hp) : Prop :=
  h.1 ≤ h'.1 ∧ h.2.1 ≤ h'.2.1 ∧ ∀ (p : Program) (e : Env) (R : Room) (s : State) (m : MethodId) (args : Array Value) (below : List Frame) (meth : Method) (c : Code) (Q : State → Prop) (H : Heap) (locs : List Loc) (cells slots mc ms : Nat) (ls : Array Slot),
    ex_C D dA scr y p R s m args meth c → ex_Rep D dA B b scr h H → va_S (fun q => B ≤ q) s.heap H locs → ex_L B b ls (ex_mL y) L → mc + h.1 = cells + h'.1 → ms + h.2.1 = slots + h'.2.1 → mc ≤ R.cells → ms ≤ R.slots →
    (∀ (H' : Heap) (locs' : List Loc) (ls' : Array Slot) (pc' : Nat), ex_Rep D dA B b scr h' H' → va_S (fun q => B ≤ q) s.heap H' locs' → ex_E y pc' r → W p l e R s m args below meth c H' locs' mc ms Q (F0 m pc' ls' (r.toList.map (ex_sv B b)))) →
    W p l e R s m args below meth c H locs cells slots Q (F0 m pc ls (S.map (ex_sv B b)))
theorem ex_okI_of {y pc : Nat} {ins : Instr} {len a cN : Nat} {v : Int32} (hmo : ex_mo y pc = (ins, len, a, cN, v)) (hne : ins ≠ .nop) : decode (ex_by y) pc = .ok (ins, len) ∧ ex_okA y pc ins len a cN v = true := by
  have h1 : ¬ ex_mo y pc = ex_no := fun z => by
    rw [hmo] at z
    exact hne (congrArg Prod.fst z)
  have h2 := ex_ok h1
  rw [hmo] at h2
  unfold ex_okI at h2
  rw [Bool.and_eq_true, decide_eq_true_eq] at h2
  exact h2
theorem ex_end_E {y pc : Nat} {S : List Value} {r : Option Value} (h : ex_end y pc S = some r) : ex_E y pc r ∧ S = r.toList := by
  obtain ⟨ins, len, a, cN, v, hmo⟩ : ∃ (ins : Instr) (len a cN : Nat) (v : Int32), ex_mo y pc = (ins, len, a, cN, v) := ⟨_, _, _, _, _, rfl⟩
  unfold ex_end at h
  rw [hmo] at h
  dsimp only at h
  split at h
  · obtain ⟨h1, h2⟩ := ex_okI_of hmo (by intro z; cases z)
    split at h
    · split at h
      · rename_i x hx
        cases h
        simp only [ex_okA, Bool.and_eq_true, Bool.or_eq_true, decide_eq_true_eq] at h2
        obtain ⟨rfl, h3⟩ := h2
        refine ⟨Or.inl ⟨h1, x, rfl, ?_⟩, rfl⟩
        rcases h3 with ⟨ha, h3⟩ | ⟨ha, h3⟩
        · exact Or.inl h3
        · refine Or.inr ⟨h3, ?_⟩
          rcases hx with hx | hx
          · omega
          · exact hx
      · cases h
    · cases h
  · obtain ⟨h1, h2⟩ := ex_okI_of hmo (by intro z; cases z)
    split at h
    · cases h
      simp only [ex_okA, decide_eq_true_eq] at h2
      obtain ⟨rfl, h3⟩ := h2
      exact ⟨Or.inr (Or.inl ⟨h1, ⟨_, rfl⟩, h3⟩), rfl⟩
    · cases h
  · obtain ⟨h1, h2⟩ := ex_okI_of hmo (by intro z; cases z)
    split at h
    · cases h
      simp only [ex_okA, decide_eq_true_eq] at h2
      obtain ⟨rfl, h3⟩ := h2
      exact ⟨Or.inr (Or.inr ⟨h1, rfl, h3⟩), rfl⟩
    · cases h
  · cases h
def ex_ws (y : Nat) : List Jvm.Cond := Jvm.Cond.code (ex_nm y) (ex_by y) (ex_mL y) (ex_rt y) :: ex_gw
def ex_rm (y mc ms : Nat) : Room := { frames := ex_fr y, cells := mc, slots := ms, locals := ex_lo y }
def ex_Pc (D : va_G) (dA : Nat → ClassId) (B b : Nat) (scr : Cell) (A : List Value) (h : ex_Hp) : Array Value → State → Prop := fun v U => v = (A.map (ex_sv B b)).toArray ∧ ex_Rep D dA B b scr h U.heap ∧ ex_K D dA scr U
def ex_Qc (D : va_G) (dA : Nat → ClassId) (B b : Nat) (scr : Cell) (r : Option Value) (h' : ex_Hp) : Array Value → State → Outcome → State → Prop := fun _ st o t => o = .returned (r.map (ex_sv B b)) ∧ ex_Rep D dA B b scr h' t.heap ∧ va_F (fun q => B ≤ q) st t
theorem ex_mk_parts {y : Nat} (hy : y < 161) : Jvm.Cond.initialized (ex_nm y).cls ∈ ex_gw ∧ ((ex_nm y).cls ≠ "java/lang/invoke/MethodHandle" ∧ (ex_nm y).cls ≠ "java/lang/invoke/VarHandle") ∧ Jvm.plainName (ex_nm y).cls = true ∧ ex_na y ≤ ex_mL y ∧ (ex_nm y).cls = ex_o (ex_ow y) := by
  have h := ex_mk_all y hy
  unfold ex_mk at h
  simp only [Bool.and_eq_true, decide_eq_true_eq] at h
  obtain ⟨⟨⟨⟨⟨h1, h2⟩, h3⟩, h4⟩, h5⟩, -⟩ := h
  exact ⟨ex_gw_of h1, h2, h3, h4, h5⟩
theorem ex_mk0 {y : Nat} (hy : y < 161) (hk : ex_kd y = 0) : Jvm.Cond.static (ex_nm y) ∈ ex_gw ∧ (parseMethodDescriptor (ex_nm y).desc).map (fun d => d.parameters.length) = some (ex_na y) := by
  have h := ex_mk_all y hy
  unfold ex_mk at h
  rw [Bool.and_eq_true, hk] at h
  have h9 := h.2
  simp only [Bool.and_eq_true, decide_eq_true_eq] at h9
  exact ⟨ex_gw_of h9.1, h9.2⟩
theorem ex_mk1 {y : Nat} (hy : y < 161) (hk : ex_kd y = 1) : Jvm.Cond.instanceMethod (ex_nm y) ∈ ex_gw ∧ Jvm.Cond.selects (ex_nm y).cls (ex_nm y) (ex_nm y) ∈ ex_gw ∧ (parseMethodDescriptor (ex_nm y).desc).map (fun d => d.parameters.length + 1) = some (ex_na y) := by
  have h := ex_mk_all y hy
  unfold ex_mk at h
  rw [Bool.and_eq_true, hk] at h
  have h9 := h.2
  simp only [Bool.and_eq_true, decide_eq_true_eq] at h9
  exact ⟨ex_gw_of h9.1.1, ex_gw_of h9.1.2, h9.2⟩
theorem ex_mk2 {y : Nat} (hy : y < 161) (hk : ex_kd y = 2) : Jvm.Cond.instanceMethod (ex_nm y) ∈ ex_gw ∧ ((ex_nm y).name = "<init>" ∧ ex_rt y = none) ∧ (parseMethodDescriptor (ex_nm y).desc).map (fun d => d.parameters.length + 1) = some (ex_na y) := by
  have h := ex_mk_all y hy
  unfold ex_mk at h
  rw [Bool.and_eq_true, hk] at h
  have h9 := h.2
  simp only [Bool.and_eq_true, decide_eq_true_eq] at h9
  exact ⟨ex_gw_of h9.1.1, h9.1.2, h9.2⟩
theorem ex_entry {B b : Nat} {A : List Value} {n : Nat} (hA : A.length ≤ n) (hc : ∀ v ∈ A, v.category = 1) : ex_L B b (((A.map (ex_sv B b)).map Slot.val ++ List.replicate (n - (A.map (ex_sv B b)).length) Slot.unset).toArray) n (A ++ List.replicate (n - A.length) (.long 0)) := by
  have key : ∀ i : Nat, (((A.map (ex_sv B b)).map Slot.val ++ List.replicate (n - (A.map (ex_sv B b)).length) Slot.unset).toArray)[i]? = if i < A.length then (A[i]?).map (fun v => Slot.val (ex_sv B b v)) else if i < n then some Slot.unset else none := by
    intro i
    rw [List.getElem?_toArray]
    by_cases hi : i < A.length
    · rw [if_pos hi, List.getElem?_append_left (by simpa using hi)]
      simp only [List.map_map, List.getElem?_map]
      rfl
    · rw [if_neg hi, List.getElem?_append_right (by simpa using hi)]
      simp only [List.getElem?_replicate, List.length_map]
      by_cases h2 : i < n
      · rw [if_pos h2, if_pos (by omega)]
      · rw [if_neg h2, if_neg (by omega)]
  refine ⟨by simp; omega, ⟨fun i v hi hv => ?_, fun i hi => ?_⟩, by simp; omega, fun i v hi hv => ?_⟩
  · rw [key i] at hi
    split at hi
    · cases hg : A[i]? with
      | none => rw [hg] at hi; cases hi
      | some w =>
        rw [hg] at hi
        cases hi
        rw [ex_sv_cat, hc w (List.mem_of_getElem? hg)] at hv
        cases hv
    · split at hi <;> cases hi
  · rw [key i] at hi
    split at hi
    · cases hg : A[i]? with
      | none => rw [hg] at hi; cases hi
      | some w => rw [hg] at hi; cases hi
    · split at hi <;> cases hi
  · rw [key i]
    by_cases h1 : i < A.length
    · rw [if_pos h1]
      rw [List.getElem?_append_left h1] at hi
      rw [hi]
      rfl
    · rw [List.getElem?_append_right (by omega), List.getElem?_replicate] at hi
      split at hi
      · cases hi
        cases hv
      · cases hi
theorem ex_met {l : Launch} {D : va_G} {dA : Nat → ClassId} {B b : Nat} {scr : Cell} {y : Nat} (hy : y < 161) {A : List Value} {h h1 : ex_Hp} {r : Option Value} (hA : A.length = ex_na y) (hc : ∀ v ∈ A, v.category = 1) (hS : ex_Snd l D dA B b scr y 0 (ex_in y A) [] h r h1) : Met l (ex_nm y) (ex_ws y) (ex_rm y (h1.1 - h.1) (h1.2.1 - h.2.1)) (ex_Pc D dA B b scr A h) (ex_Qc D dA B b scr r h1) (h1.1 - h.1) (h1.2.1 - h.2.1) (fun q => B ≤ q) := by
  obtain ⟨p1, p2, p3, p4, p5⟩ := ex_mk_parts hy
  obtain ⟨m1, m2, hW⟩ := hS
  refine Met.ofW (cc := ex_by y) (maxL := ex_mL y) (ret := ex_rt y) p3 rfl ?_
  intro p e s m args below meth c s₁ Bd hml hv
  obtain ⟨rfl, hRep, hK⟩ := hv
  have hts := atoms_spec (ws := ex_ws y) Bd.pre
  have hown : s.vm.findClass (ex_nm y).cls = some m.cls := findClass_of_methodNamed Bd.named
  have hname : meth.name = (ex_nm y).name := (name_of_methodNamed Bd.named Bd.method).1
  have hlocks := Bd.notSynchronized
  rw [entry_eq m (A.map (ex_sv B b)) (fun v hv => by
    obtain ⟨w, hw, rfl⟩ := List.mem_map.mp hv
    rw [ex_sv_cat]
    exact hc w hw)]
  have hC : ex_C D dA scr y p (headSpec (ex_ws y) (ex_rm y (h1.1 - h.1) (h1.2.1 - h.2.1))).room s m (A.map (ex_sv B b)).toArray meth c :=
    ⟨Bd.exec, Bd.bytes, hml, by rw [← p5]; exact hown, fun w hw => hts w (List.mem_cons_of_mem _ hw), hK, fun z => hname.trans z, Bd.returns, hlocks, Nat.le_refl _, Nat.le_refl _⟩
  refine hW p e _ s m _ below meth c _ s.heap [] 0 0 (h1.1 - h.1) (h1.2.1 - h.2.1) _ hC hRep va_S.rf (ex_entry (by rw [hA]; exact p4) hc) (by omega) (by omega) (Nat.le_refl _) (Nat.le_refl _) ?_
  intro H' locs' ls' pc' hR' hS' hE
  have hret := Bd.returns
  rcases hE with ⟨hdg, x, rfl, ht⟩ | ⟨hdg, ⟨x, rfl⟩, ht⟩ | ⟨hdg, rfl, ht⟩
  · rcases ht with ht | ⟨ht, hx01⟩
    · exact W.iret (v := x) Bd.exec Bd.bytes (hret.trans ht) (fun t e1 hWm => ⟨rfl, by rw [e1]; exact hR', hS'.F e1⟩) hS'.2.2 hdg hlocks
    · exact W.zret (v := x) (ty := .boolean) Bd.exec Bd.bytes (hret.trans ht) (by rcases hx01 with rfl | rfl <;> rfl) (fun t e1 hWm => ⟨rfl, by rw [e1]; exact hR', hS'.F e1⟩) hS'.2.2 hdg hlocks
  · exact W.aret (v := .ref (ex_sh B b x)) (rt := .array .int) Bd.exec Bd.bytes (hret.trans ht) (Or.inr ⟨_, rfl⟩) (Or.inr ⟨_, rfl⟩) (fun t e1 hWm => ⟨rfl, by rw [e1]; exact hR', hS'.F e1⟩) hS'.2.2 hdg hlocks
  · exact W.vret Bd.exec Bd.bytes (hret.trans ht) (fun t e1 hWm => ⟨rfl, by rw [e1]; exact hR', hS'.F e1⟩) hS'.2.2 hdg hlocks
theorem ex_vwi_ok : ∀ o, o < 13 → ex_vwi.getD o 9 < 9 → (ex_T (ex_vwi.getD o 9)).1 = ex_o o := by decide +kernel
theorem ex_ow_lt {y : Nat} (hy : y < 161) : ex_ow y < 13 := by
  have : ∀ y, y < 161 → ex_ow y < 13 := by decide +kernel
  exact this y hy
theorem ex_recv1 {a : Nat} {A : List Value} {h : ex_Hp} (hk : ex_kd a = 1) (hc : ex_recv a A h = true) : ∃ (o : Nat) (As : List Value) (ci : Nat) (fs : List Value), A = .ref o :: As ∧ h.2.2 o = some (.inr (.inr (ci, fs))) ∧ ci = ex_vwi.getD (ex_ow a) 9 := by
  simp only [ex_recv, hk] at hc
  split at hc
  · split at hc
    · rename_i ho
      rw [decide_eq_true_eq] at hc
      exact ⟨_, _, _, _, rfl, ho, hc⟩
    · cases hc
  · cases hc
theorem ex_recv2 {a : Nat} {A : List Value} {h : ex_Hp} (hk : ex_kd a = 2) (hc : ex_recv a A h = true) : ∃ (o : Nat) (As : List Value), A = .ref o :: As := by
  simp only [ex_recv, hk] at hc
  split at hc
  · exact ⟨_, _, rfl⟩
  · cases hc
theorem ex_Pc_blind {D : va_G} {dA : Nat → ClassId} {B b : Nat} {scr : Cell} {A : List Value} {h : ex_Hp} : FrameBlind (ex_Pc D dA B b scr A h) := fun a U g mk q => ⟨q.1, q.2.1, ex_K.same (s := U) (U := U.calling g mk a) rfl q.2.2⟩
section EXU
variable {p : Program} {l : Launch} {e : Env} {R : Room} {s : State} {m : MethodId} {args : Array Value} {below : List Frame} {meth : Method} {c : Code} {H : Heap} {locs : List Loc} {cells slots : Nat} {Q : State → Prop}
variable {D : va_G} {dA : Nat → ClassId} {B b : Nat} {scr : Cell} {pc len a cN y : Nat} {v : Int32} {ins : Instr} {ls : Array Slot} {h h1 : ex_Hp} {L S : List Value} {r : Option Value}
/-- a call of one of the claim's own methods, told by the pure machine's run of it -/
theorem ex_s5 (hC : ex_C D dA scr y p R s m args meth c) (hR : ex_Rep D dA B b scr h H) (hL : ls.size = ex_mL y) (hdg : decode (ex_by y) pc = .ok (ins, len)) (hok : ex_okA y pc ins len a cN v = true) (hkd : ex_kind ins a = 5) (hc1 : cN ≤ S.length) (hc2 : ex_cat (S.drop cN) ≤ 8) (hc3 : (S.take cN).all (fun v => v.category == 1) = true) (hc4 : ex_recv a (S.take cN).reverse h = true)
    (hM : a < 161 → ex_na a = cN → Met l (ex_nm a) (ex_ws a) (ex_rm a (h1.1 - h.1) (h1.2.1 - h.2.1)) (ex_Pc D dA B b scr (S.take cN).reverse h) (ex_Qc D dA B b scr r h1) (h1.1 - h.1) (h1.2.1 - h.2.1) (fun q => B ≤ q)) (hf : cells + (h1.1 - h.1) ≤ R.cells ∧ slots + (h1.2.1 - h.2.1) ≤ R.slots) :
    len = 3 ∧ va_Run p l e R s m args below meth c H locs cells slots (h1.1 - h.1) (h1.2.1 - h.2.1) (F0 m pc ls (S.map (ex_sv B b))) ((S.drop cN).map (ex_sv B b)) (ex_Qc D dA B b scr r h1 (((S.take cN).reverse.map (ex_sv B b)).toArray)) (fun q => B ≤ q) := by
  obtain ⟨hx, hb, hml, hown, hts, hK, hnm, hrt, hlk, hfr, hlo⟩ := hC
  have ha : a < 1000 := by
    rcases Nat.lt_or_ge a 1000 with z | z
    · exact z
    · exfalso
      unfold ex_kind at hkd
      split at hkd <;> first | (cases hkd; done) | (rw [if_neg (by omega)] at hkd; cases hkd)
  have hfix : CallFix p m c (ex_by y) (ex_mL y) s args ex_gw (ex_o (ex_ow y)) := ⟨hx, hb, hml, hown, hts⟩
  have hW8 : 2 * (F0 m pc ls (S.map (ex_sv B b))).monitorRoom + (((S.drop cN).map (ex_sv B b)).map fun v => v.category).sum ≤ 8 := by
    rw [ex_sv_sum]
    show 2 * 0 + _ ≤ 8
    omega
  have body : ex_okC y a cN = true → a < 161 ∧ ex_na a = cN ∧ ex_fr a + 1 ≤ R.frames ∧ 8 + (ex_mL a + 11) + ex_lo a ≤ R.locals := fun z => by
    unfold ex_okC at z
    simp only [Bool.and_eq_true, decide_eq_true_eq] at z
    obtain ⟨⟨⟨z1, z2⟩, z3⟩, z4⟩ := z
    exact ⟨z1, z2.symm, by omega, by omega⟩
  have code : a < 161 → Jvm.Cond.code (ex_nm a) (ex_by a) (ex_mL a) (ex_rt a) ∈ ex_gw := fun z => List.mem_filter.mpr (ex_code_in a (by omega))
  have words : a < 161 → ∀ w ∈ ex_ws a, ∀ (a' : Array Value) (U : State), s.WarmedH U.vm → w.before a' U = true := fun z w hw a' U hWm => by
    have hg : w ∈ ex_gw := by
      rcases List.mem_cons.mp hw with rfl | hw
      · exact code z
      · exact hw
    exact word_at hWm (ex_gw_good hg) (hts w hg)
  have hPre : ∀ U : State, U.heap = H → s.WarmedH U.vm → ex_Pc D dA B b scr (S.take cN).reverse h ((S.take cN).reverse.map (ex_sv B b)).toArray U := fun U hU hWm => ⟨rfl, by rw [hU]; exact hR, hK.moved hWm⟩
  have hsplit : S.map (ex_sv B b) = ((S.take cN).reverse.map (ex_sv B b)).reverse ++ (S.drop cN).map (ex_sv B b) := by
    rw [← List.map_reverse, List.reverse_reverse, ← List.map_append, List.take_append_drop]
  have hmn : ex_mn a = ex_nm a := by unfold ex_mn; rw [if_pos ha]
  unfold ex_kind at hkd
  split at hkd <;> (try (cases hkd; done))
  · -- a constructor
    simp only [ex_okA, Bool.and_eq_true, if_pos ha, decide_eq_true_eq] at hok
    obtain ⟨⟨rfl, h3⟩, h4, h5⟩ := hok
    obtain ⟨b1, b2, b3, b4⟩ := body h4
    obtain ⟨p1, p2, p3, p4, p5⟩ := ex_mk_parts b1
    obtain ⟨q1, q2, q3⟩ := ex_mk2 b1 h5
    have hlenA : (S.take cN).reverse.length = cN := by rw [List.length_reverse, List.length_take]; omega
    obtain ⟨o, As, hAr⟩ := ex_recv2 h5 hc4
    rw [hAr] at hlenA
    have hn : ∀ sig, parseMethodDescriptor (ex_nm a).desc = some sig → As.length = sig.parameters.length := fun sig hs => by
      rw [hs, b2] at q3
      simp only [Option.map_some, Option.some.injEq] at q3
      simp only [List.length_cons] at hlenA
      omega
    have hM' := hM b1 b2
    rw [hAr] at hM' hPre hsplit ⊢
    have hst : (F0 m pc ls (S.map (ex_sv B b))).stack = (As.map (ex_sv B b)).reverse ++ .ref (ex_sh B b o) :: (S.drop cN).map (ex_sv B b) := by
      show S.map (ex_sv B b) = _
      rw [hsplit]
      simp [ex_sv]
    have hcd := hts _ (code b1)
    have hmem : Jvm.Cond.code (ex_nm a) (ex_by a) (ex_mL a) (ex_rt a) ∈ ex_ws a := List.mem_cons_self
    rw [q2.2] at hcd hmem
    refine ⟨rfl, ?_⟩
    rcases ex_mlw h3 with h6 | h6
    · rw [hmn] at h6
      exact va_runI (n := As.length) (bytes := ex_by a) (maxL := ex_mL a) hfix hM' ⟨⟨rfl, rfl, b3, b4, words b1, hmem, hcd, hts _ p1, p2, hn, hts _ h6⟩, q2.1, hts _ q1⟩ ⟨ex_Pc_blind, hPre⟩ rfl (by simp) hL hst hW8 hdg hf
    · rw [hmn] at h6
      exact va_runIN (n := As.length) (bytes := ex_by a) (maxL := ex_mL a) (host := RX8) hfix hM' ⟨⟨⟨rfl, rfl, b3, b4, words b1, hmem⟩, hcd, hts _ p1, p2, hn, va_Nw.use rfl (hK.2.2.2.2 _ h6)⟩, q2.1, hts _ q1⟩ ⟨ex_Pc_blind, hPre⟩ rfl (by simp) hL hst hW8 hdg hf
  · -- a static method
    simp only [ex_okA, Bool.and_eq_true, if_pos ha, decide_eq_true_eq] at hok
    obtain ⟨⟨rfl, h3⟩, h4, h5⟩ := hok
    obtain ⟨b1, b2, b3, b4⟩ := body h4
    obtain ⟨p1, p2, p3, p4, p5⟩ := ex_mk_parts b1
    obtain ⟨q1, q3⟩ := ex_mk0 b1 h5
    have hlenA : (S.take cN).reverse.length = cN := by rw [List.length_reverse, List.length_take]; omega
    have hn : ∀ sig, parseMethodDescriptor (ex_nm a).desc = some sig → (S.take cN).reverse.length = sig.parameters.length := fun sig hs => by
      rw [hs, b2] at q3
      simp only [Option.map_some, Option.some.injEq] at q3
      omega
    refine ⟨rfl, ?_⟩
    rcases ex_mlw h3 with h6 | h6
    · rw [hmn] at h6
      exact va_runS (n := (S.take cN).reverse.length) (bytes := ex_by a) (maxL := ex_mL a) (ret := ex_rt a) hfix (hM b1 b2) ⟨⟨rfl, rfl, b3, b4, words b1, List.mem_cons_self, hts _ (code b1), hts _ p1, p2, hn, hts _ h6⟩, hts _ q1⟩ ⟨ex_Pc_blind, hPre⟩ rfl (by simp) hL hsplit hW8 hdg hf
    · rw [hmn] at h6
      exact va_runSN (n := (S.take cN).reverse.length) (bytes := ex_by a) (maxL := ex_mL a) (ret := ex_rt a) (host := RX8) hfix (hM b1 b2) ⟨⟨⟨rfl, rfl, b3, b4, words b1, List.mem_cons_self⟩, hts _ (code b1), hts _ p1, p2, hn, va_Nw.use rfl (hK.2.2.2.2 _ h6)⟩, hts _ q1, trivial⟩ ⟨ex_Pc_blind, hPre⟩ rfl (by simp) hL hsplit hW8 hdg hf
  · -- a method of an object
    simp only [ex_okA, Bool.and_eq_true, if_pos ha, decide_eq_true_eq] at hok
    obtain ⟨⟨rfl, h3⟩, h4, h5⟩ := hok
    obtain ⟨b1, b2, b3, b4⟩ := body h4
    obtain ⟨p1, p2, p3, p4, p5⟩ := ex_mk_parts b1
    obtain ⟨q1, q2, q3⟩ := ex_mk1 b1 h5
    have hlenA : (S.take cN).reverse.length = cN := by rw [List.length_reverse, List.length_take]; omega
    obtain ⟨o, As, ci, fs, hAr, ho, hci9⟩ := ex_recv1 h5 hc4
    rw [hAr] at hlenA
    have hn : ∀ sig, parseMethodDescriptor (ex_nm a).desc = some sig → As.length = sig.parameters.length := fun sig hs => by
      rw [hs, b2] at q3
      simp only [Option.map_some, Option.some.injEq] at q3
      simp only [List.length_cons] at hlenA
      omega
    have hM' := hM b1 b2
    rw [hAr] at hM' hPre hsplit ⊢
    have hst : (F0 m pc ls (S.map (ex_sv B b))).stack = (As.map (ex_sv B b)).reverse ++ .ref (ex_sh B b o) :: (S.drop cN).map (ex_sv B b) := by
      show S.map (ex_sv B b) = _
      rw [hsplit]
      simp [ex_sv]
    have hrecv : ∃ cellB : Cell, H[ex_sh B b o]? = some cellB ∧ cellB.vm.isStatics = false ∧ s.vm.findClass (ex_nm a).cls = some cellB.cls := by
      rcases hR.2.2.2.2 o _ ho with ⟨-, n, f, hcc, -⟩ | ⟨g1, g2, g3, g4⟩
      · cases hcc
      · have hci : ci < 9 := g3
        have e1 : (ex_T ci).1 = (ex_nm a).cls := by
          rw [hci9, ex_vwi_ok _ (ex_ow_lt b1) (by rw [← hci9]; exact hci)]
          exact p5.symm
        have := va_recv hK.1 (ex_one g4) (ex_vw hci) (q0 := 0) rfl
        rw [e1] at this
        exact this
    refine ⟨rfl, ?_⟩
    rcases ex_mlw h3 with h6 | h6
    · rw [hmn] at h6
      exact va_runV (n := As.length) (bytes := ex_by a) (maxL := ex_mL a) (ret := ex_rt a) (C := (ex_nm a).cls) hfix hM' ⟨⟨rfl, rfl, b3, b4, words b1, List.mem_cons_self, hts _ (code b1), hts _ p1, p2, hn, hts _ h6⟩, hts _ q1, hts _ q2⟩ ⟨ex_Pc_blind, hrecv, hPre⟩ rfl (by simp) hL hst hW8 hdg hf
    · rw [hmn] at h6
      exact va_runVN (n := As.length) (bytes := ex_by a) (maxL := ex_mL a) (ret := ex_rt a) (C := (ex_nm a).cls) (host := RX8) hfix hM' ⟨⟨⟨rfl, rfl, b3, b4, words b1, List.mem_cons_self⟩, hts _ (code b1), hts _ p1, p2, hn, va_Nw.use rfl (hK.2.2.2.2 _ h6)⟩, hts _ q1, hts _ q2⟩ ⟨ex_Pc_blind, hrecv, hPre⟩ rfl (by simp) hL hst hW8 hdg hf
end EXU
end
section
theorem ex_st3_sz {ins : Instr} {a cN : Nat} {S S' : List Value} {h h' : ex_Hp} (hst : ex_st3 ins a cN S h = some (S', h')) : h'.1 = h.1 ∧ h'.2.1 = h.2.1 := by
  unfold ex_st3 at hst
  repeat' split at hst
  all_goals first | (cases hst; exact ⟨rfl, rfl⟩) | (cases hst; done)
theorem ex_st4_sz {ins : Instr} {a : Nat} {S S' : List Value} {h h' : ex_Hp} (hst : ex_st4 ins a S h = some (S', h')) : h.1 ≤ h'.1 ∧ h.2.1 ≤ h'.2.1 := by
  unfold ex_st4 at hst
  repeat' split at hst
  all_goals first | (cases hst; done) | (cases hst; exact ⟨Nat.le_refl _, Nat.le_refl _⟩) | (cases hst; simp only [ex_new, ex_new2, ex_set]; omega)
theorem ex_st1_nop {a : Nat} {v : Int32} {L S : List Value} : ex_st1 .nop a v L S = none := by
  simp only [ex_st1, ex_ari]
  split <;> rfl
theorem ex_sound (l : Launch) (D : va_G) (dA : Nat → ClassId) (B b : Nat) (scr : Cell) : ∀ (n y pc : Nat) (L S : List Value) (h : ex_Hp) (r : Option Value) (h' : ex_Hp), ex_run n y pc L S h = some (r, h') → ex_Snd l D dA B b scr y pc L S h r h' := by
  intro n
  induction n with
  | zero => intro y pc L S h r h' hrun; cases hrun
  | succ n ih =>
    intro y pc L S h r h' hrun
    obtain ⟨ins, len, a, cN, v, hmo⟩ : ∃ (ins : Instr) (len a cN : Nat) (v : Int32), ex_mo y pc = (ins, len, a, cN, v) := ⟨_, _, _, _, _, rfl⟩
    rw [ex_run, hmo] at hrun
    dsimp only at hrun
    split at hrun
    · rename_i hkd
      obtain ⟨hdg, hok⟩ := ex_okI_of hmo (by intro z; subst z; exact absurd hkd (show ¬ ((1 : Nat) = 5) by decide))
      split at hrun
      · rename_i hc
        obtain ⟨hc1, hc2, hc3, hc4⟩ := hc
        split at hrun
        · rename_i r1 h1 hrun1
          have I1 := ih _ _ _ _ _ _ _ hrun1
          have I2 := ih _ _ _ _ _ _ _ hrun
          have m1 := I1.1
          have m2 := I1.2.1
          have m3 := I2.1
          have m4 := I2.2.1
          refine ⟨Nat.le_trans m1 m3, Nat.le_trans m2 m4, ?_⟩
          intro p e R s m args below meth c Q H locs cells slots mc ms ls hC hR hS hL e1 e2 b1 b2 hend
          obtain ⟨hlen, hrun5⟩ := ex_s5 (l := l) (e := e) (below := below) (locs := locs) (cells := cells) (slots := slots) hC hR hL.1 hdg hok hkd hc1 hc2 hc3 hc4 (fun z1 z2 => ex_met z1 (by rw [List.length_reverse, List.length_take, z2]; omega) (fun w hw => by
            have := List.all_eq_true.mp hc3 w (List.mem_reverse.mp hw)
            simpa using this) I1) ⟨by omega, by omega⟩
          subst hlen
          intro T hT X
          obtain ⟨v', st₀, t, T', Lc, h0, X', hL', f1, f2, ⟨hv, hRep1, hF⟩, st⟩ := hrun5 T hT X
          cases hv
          have hS' : va_S (fun q => B ≤ q) s.heap T'.heap (locs ++ Lc) := by
            refine ⟨Nat.le_trans hS.1 (by rw [f1, ← h0]; exact hF.1), fun q z1 z2 => ?_, fun q hq => ?_⟩
            · rw [f1, hF.2 q (by rw [h0]; exact Nat.lt_of_lt_of_le z1 hS.1) z2, h0]
              exact hS.2.1 q z1 z2
            · rcases List.mem_append.mp hq with z | z
              · exact hS.2.2 q z
              · exact hL' q z
          obtain ⟨t2, a1, q1⟩ := I2.2.2 p e R s m args below meth c Q T'.heap (locs ++ Lc) (cells + (h1.1 - h.1)) (slots + (h1.2.1 - h.2.1)) mc ms ls hC (by rw [f1]; exact hRep1) hS' hL (by omega) (by omega) b1 b2 hend T' rfl X'
          refine ⟨t2, st t2 ?_, q1⟩
          cases r1 <;> exact a1
        · cases hrun
      · cases hrun
    · split at hrun
      · rename_i hE
        cases hrun
        obtain ⟨hE1, rfl⟩ := ex_end_E hE
        refine ⟨Nat.le_refl _, Nat.le_refl _, ?_⟩
        intro p e R s m args below meth c Q H locs cells slots mc ms ls hC hR hS hL e1 e2 b1 b2 hend
        obtain rfl : mc = cells := by omega
        obtain rfl : ms = slots := by omega
        exact hend H locs ls pc hR hS hE1
      · cases hrun
    · split at hrun
      · rename_i pc' L' S' h1 hst
        have I2 := ih _ _ _ _ _ _ _ hrun
        unfold ex_step at hst
        rw [hmo] at hst
        dsimp only at hst
        split at hst
        · split at hst
          · rename_i L1 S1 hst1
            cases hst
            obtain ⟨hdg, hok⟩ := ex_okI_of hmo (by intro z; subst z; rw [ex_st1_nop] at hst1; cases hst1)
            refine ⟨I2.1, I2.2.1, ?_⟩
            intro p e R s m args below meth c Q H locs cells slots mc ms ls hC hR hS hL e1 e2 b1 b2 hend
            exact ex_s1 hC.1 hC.2.1 hdg hok hst1 hL (fun ls' hL' => I2.2.2 p e R s m args below meth c Q H locs cells slots mc ms ls' hC hR hS hL' e1 e2 b1 b2 hend)
          · cases hst
        · rename_i hkd
          split at hst
          · rename_i q1 S1 hst1
            cases hst
            obtain ⟨hdg, hok⟩ := ex_okI_of hmo (by intro z; subst z; exact absurd hkd (show ¬ ((1 : Nat) = 2) by decide))
            refine ⟨I2.1, I2.2.1, ?_⟩
            intro p e R s m args below meth c Q H locs cells slots mc ms ls hC hR hS hL e1 e2 b1 b2 hend
            exact ex_s2 hC.1 hC.2.1 hdg hok hst1 (I2.2.2 p e R s m args below meth c Q H locs cells slots mc ms ls hC hR hS hL e1 e2 b1 b2 hend)
          · cases hst
        · rename_i hkd
          split at hst
          · rename_i S1 h2 hst1
            cases hst
            obtain ⟨hdg, hok⟩ := ex_okI_of hmo (by intro z; subst z; exact absurd hkd (show ¬ ((1 : Nat) = 3) by decide))
            have hsz : h1.1 = h.1 ∧ h1.2.1 = h.2.1 := ex_st3_sz hst1
            refine ⟨by rw [← hsz.1]; exact I2.1, by rw [← hsz.2]; exact I2.2.1, ?_⟩
            intro p e R s m args below meth c Q H locs cells slots mc ms ls hC hR hS hL e1 e2 b1 b2 hend
            obtain ⟨c1, c2, c3, c4, c5, c6, c7, c8, c9, c10, c11⟩ := hC
            exact ex_s3 c1 c2 c5 c4 c6 c7 hR hS hdg hok hst1 (fun H' locs' hR' hS' => I2.2.2 p e R s m args below meth c Q H' locs' cells slots mc ms ls ⟨c1, c2, c3, c4, c5, c6, c7, c8, c9, c10, c11⟩ hR' hS' hL (by rw [hsz.1]; exact e1) (by rw [hsz.2]; exact e2) b1 b2 hend)
          · cases hst
        · rename_i hkd
          split at hst
          · rename_i S1 h2 hst1
            cases hst
            obtain ⟨hdg, hok⟩ := ex_okI_of hmo (by intro z; subst z; exact absurd hkd (show ¬ ((1 : Nat) = 4) by decide))
            have hsz : h.1 ≤ h1.1 ∧ h.2.1 ≤ h1.2.1 := ex_st4_sz hst1
            have m3 := I2.1
            have m4 := I2.2.1
            refine ⟨Nat.le_trans hsz.1 m3, Nat.le_trans hsz.2 m4, ?_⟩
            intro p e R s m args below meth c Q H locs cells slots mc ms ls hC hR hS hL e1 e2 b1 b2 hend
            have hz1 := hsz.1
            have hz2 := hsz.2
            obtain ⟨c1, c2, c3, c4, c5, c6, c7, c8, c9, c10, c11⟩ := hC
            exact ex_s4 (cells' := cells + (h1.1 - h.1)) (slots' := slots + (h1.2.1 - h.2.1)) c1 c2 (c3.trans hL.1.symm) c5 c4 c6 hR hS c10 c11 hdg hok hkd hst1 (by omega) (by omega) (by omega) (by omega) (fun H' locs' hR' hS' => I2.2.2 p e R s m args below meth c Q H' locs' _ _ mc ms ls ⟨c1, c2, c3, c4, c5, c6, c7, c8, c9, c10, c11⟩ hR' hS' hL (by omega) (by omega) b1 b2 hend)
          · cases hst
        · cases hst
      · cases hrun
end
section
/-! THE CLAIM OUT OF ONE WALK OF THE LAW'S BODY. Your part is whole_start (and what it stands on); all else here is the same for every law, but numbers. -/
def R_law : String := "LoopStrandsLaw"
def lw_P (b : Addr) (xs : List Int32) (args : Array Value) (s : State) : Prop := args = #[.ref b] ∧ s.IntsAt b xs ∧ xs.length ≤ 2560 ∧ (Jvm.Cond.and given_1 narrow_1).before args s = true
def lw_Q (_ : Array Value) (s : State) (o : Outcome) (t : State) : Prop := o = .returned (some (.int 1)) ∧ Framed s o t [] 656475 7132822
def lw_Z (below : List Frame) (a : Array Value) (s : State) : State → Prop := fun t => ∃ o, t.status = .running ∧ Ended t below o ∧ lw_Q a s o t
/-- the law's own end, with 1 on the stack, nothing written that was there before, its room as the claim has it -/
theorem lw_ret {p : Program} {l : Launch} {e : Env} {s : State} {m : MethodId} {below : List Frame} {meth : Method} {c : Code} {b : Nat} (hx : p.tables.exec = Jvm.exec) (hb : c.code = code) (hr : meth.sig.returnType = ret) (hlocks : meth.locks = false) {pc : Nat} {H : Heap} {ls : Array Slot} (hdg : decode code pc = .ok (.ireturn, 1)) : W p l e room_1 s m #[Value.ref b] below meth c H [] 656475 7132822 (lw_Z below #[Value.ref b] s) (F0 m pc ls [.int 1]) := by
  intro T hT X
  obtain ⟨fs, hret, hrun, hended, hW, hframe⟩ := X.leave (v := some (.int 1)) (hlocks := hlocks) (fun h => by rw [hr] at h; cases h)
  have hmeth' : T.vm.method? m = some meth := X.method'
  refine ⟨T.setFrames fs, ?_, .returned (some (.int 1)), hrun, hended, rfl, ⟨_, rfl⟩, hW, hframe⟩
  jvm_step X.here [X.here.top, hx, hb, hdg, hmeth', hr, ret, narrow_b1]
  (try refine ⟨rfl, ?_⟩); (try refine ⟨rfl, ?_⟩)
  first | (intro acts; rw [hret _ acts rfl rfl rfl]) | rw [hret _ _ rfl rfl rfl]
  exact Steps.refl _
/-- what holds at the law's entry: the machine, the code, the tables' words (any of lw_tbl by 'hts w (by decide +kernel)'), the script of L ints xs at the cell b, what the Statement gives of the start (any of its parts by flat_of_before) -/
def lw_At (p : Program) (s : State) (m : MethodId) (meth : Method) (c : Code) (b L : Nat) (xs : Nat → Int32) : Prop :=
  p.tables.exec = Jvm.exec ∧ c.code = code ∧ meth.sig.returnType = ret ∧ c.maxLocals = 4 ∧ s.vm.findClass R_law = some m.cls ∧ (∀ w ∈ lw_tbl, w.before #[Value.ref b] s = true) ∧ va_X b L xs s s.heap ∧ b < s.heap.size ∧ meth.locks = false ∧ (Jvm.Cond.and given_1 narrow_1).before #[Value.ref b] s = true
/-- the script in the pure machine -/
def ex_h0 (L : Nat) (xs : Nat → Int32) : ex_Hp := (1, 0, fun q => if q = 0 then some (.inl (9, L, xs)) else none)
theorem ex_over_in : ∀ t ∈ ex_over, Jvm.Cond.arrayOver t ∈ lw_tbl := by decide +kernel
theorem ex_nest_in : ∀ w ∈ ex_nest, w ∈ lw_tbl := by decide +kernel
theorem ex_cast_in : Jvm.Cond.castable "[I" "java/lang/Cloneable" ∈ lw_tbl := by decide +kernel
set_option maxRecDepth 100000 in
theorem ex_law_m : ex_m 161 = (yL_law, cL_law, 4, some .boolean, 12, 1, 7, 176) := rfl
theorem ex_known {s : State} {args : Array Value} (hts : ∀ w ∈ lw_tbl, w.before args s = true) {scr : Cell} (hscr : s.isArrayOf scr .int) : ∃ (D : va_G) (dA : Nat → ClassId), ex_K D dA scr s := by
  have hgw : ∀ w ∈ ex_gw, w.before args s = true := fun w hw => hts w (List.mem_filter.mp hw).1
  have h1 : ∀ k : Nat, ∃ q : ClassId × (Nat → Nat), ∀ x : vw_C, vwCl[k]? = some x → u_Kn s x.1 x.2.1 x.2.2 q.1 q.2 := by
    intro k
    by_cases hk : k < 9
    · obtain ⟨cC, iS, h⟩ := u_known (C := (ex_T k).1) (T := (ex_T k).2.1) (N := (ex_T k).2.2) (n := (ex_T k).2.2) hgw (ex_vw_in hk) (hgw _ (ex_vw_new hk).1)
      refine ⟨(cC, iS), fun x hx => ?_⟩
      rw [ex_vw hk] at hx
      cases hx
      exact h
    · refine ⟨(0, fun _ => 0), fun x hx => ?_⟩
      rw [List.getElem?_eq_none (show vwCl.length ≤ k by show 9 ≤ k; omega)] at hx
      cases hx
  obtain ⟨ci, ki, cpi, i1, i2, i3⟩ := Cond.arrayClass_spec (hgw _ (ex_gw_of ex_arr_in.1))
  obtain ⟨cz, kz, cpz, z1, z2, z3⟩ := Cond.arrayClass_spec (hgw _ (ex_gw_of ex_arr_in.2))
  have hov : ∀ t ∈ ex_over, (Jvm.Cond.arrayOver t).before args s = true := fun t ht => hts _ (ex_over_in t ht)
  obtain ⟨co, ca, ka, a1, -, a3, a4, a5⟩ := arrayOverA_spec (hov (.array .int) (by simp [ex_over]))
  obtain ⟨do1, dc1, dk1, d11, -, d13, d14, d15⟩ := Cond.arrayOver_spec (hov (.object RX1) (by simp [ex_over]))
  obtain ⟨do5, dc5, dk5, d51, -, d53, d54, d55⟩ := Cond.arrayOver_spec (hov (.object RX5) (by simp [ex_over]))
  obtain ⟨do7, dc7, dk7, d71, -, d73, d74, d75⟩ := Cond.arrayOver_spec (hov (.object RX7) (by simp [ex_over]))
  refine ⟨(fun k => (Classical.choose (h1 k)).1, fun k => (Classical.choose (h1 k)).2), fun t => ([ci, cz, ca, dc1, dc5, dc7] : List ClassId).getD t 0, ⟨fun k x hx => Classical.choose_spec (h1 k) x hx, fun k x hx => ?_⟩, hscr, fun t ht => ?_, va_Nw.of rfl (hts _ ex_cast_in), fun w hw => ?_⟩
  · match k, hx with
    | 0, hx => cases hx; exact ⟨fun n z => ⟨fun q h => (by cases h), ki, i2, cpi, i3⟩, i1⟩
    | 1, hx => cases hx; exact ⟨fun n z => ⟨fun q h => (by cases h), kz, z2, cpz, z3⟩, z1⟩
    | 2, hx => cases hx; exact ⟨fun n z => ⟨fun q h => (by cases h), ka, a3, co, a4⟩, a5⟩
    | 3, hx => cases hx; exact ⟨fun n z => ⟨fun q h => (by cases h), dk1, d13, do1, d14⟩, dk1, do1, d13, d14, d11, d15⟩
    | 4, hx => cases hx; exact ⟨fun n z => ⟨fun q h => (by cases h), dk5, d53, do5, d54⟩, dk5, do5, d53, d54, d51, d55⟩
    | 5, hx => cases hx; exact ⟨fun n z => ⟨fun q h => (by cases h), dk7, d73, do7, d74⟩, dk7, do7, d73, d74, d71, d75⟩
    | k + 6, hx => simp [ex_tyl] at hx
  · exact hov t ht
  · have hz := hts w (ex_nest_in w hw)
    simp only [ex_nest, List.mem_cons, List.not_mem_nil, or_false] at hw
    rcases hw with rfl | rfl | rfl | rfl | rfl | rfl <;> exact va_Nw.of rfl hz
/-- the law's run in the pure machine gives the walk of its body -/
theorem ex_whole {p : Program} {e : Env} {s : State} {m : MethodId} {below : List Frame} {meth : Method} {c : Code} (l : Launch) {b L : Nat} {xs : Nat → Int32} (C0 : lw_At p s m meth c b L xs) {n : Nat} {h' : ex_Hp} (hrun : ex_run n 161 0 [.ref 0, .long 0, .long 0, .long 0] [] (ex_h0 L xs) = some (some (.int 1), h')) (hb1 : h'.1 ≤ 656475) (hb2 : h'.2.1 ≤ 7132822) : W p l e room_1 s m #[Value.ref b] below meth c s.heap [] 0 0 (lw_Z below #[Value.ref b] s) (entryFrame m ([Value.ref b] : List Value).toArray 4) := by
  obtain ⟨hx, hb, hr, hml, hown, hts, hX, hbl, hlocks, hgv⟩ := id C0
  obtain ⟨scr, x1, x2, x3, x4, x5⟩ := hX
  obtain ⟨D, dA, hK⟩ := ex_known hts x2
  obtain ⟨m1, m2, hW⟩ := ex_sound l D dA s.heap.size b scr n 161 0 _ _ _ _ _ hrun
  have e161 := ex_law_m
  have hC : ex_C D dA scr 161 p room_1 s m #[Value.ref b] meth c := by
    unfold ex_C ex_by ex_mL ex_ow ex_nm ex_rt ex_fr ex_lo
    rw [e161]
    exact ⟨hx, hb, hml, hown, fun w hw => hts w (List.mem_filter.mp hw).1, hK, fun z => absurd z (by decide), hr, hlocks, by decide, by decide⟩
  have hRep : ex_Rep D dA s.heap.size b scr (ex_h0 L xs) s.heap := by
    refine ⟨Nat.le_refl 1, rfl, hbl, x1, fun a c' hc => ?_⟩
    simp only [ex_h0] at hc
    by_cases ha : a = 0
    · rw [if_pos ha] at hc
      cases hc
      exact Or.inl ⟨ha, L, xs, rfl, x3, x4, x5⟩
    · rw [if_neg ha] at hc
      cases hc
  have hent := ex_entry (B := s.heap.size) (b := b) (A := [Value.ref 0]) (n := 4) (by decide) (by simp [Value.category])
  rw [entry_eq m [Value.ref b] (by simp [Value.category]) 4]
  have hm4 : ex_mL 161 = 4 := by unfold ex_mL; rw [e161]
  have k := hW p e room_1 s m #[Value.ref b] below meth c (lw_Z below #[Value.ref b] s) s.heap [] 0 0 (h'.1 - 1) h'.2.1 _ hC hRep va_S.rf (by rw [hm4]; exact hent) (by show h'.1 - 1 + 1 = 0 + h'.1; have : 1 ≤ h'.1 := m1; omega) (by show h'.2.1 + 0 = 0 + h'.2.1; omega) (by show h'.1 - 1 ≤ 656475; omega) hb2 ?_
  · exact k
  · intro H' locs' ls' pc' hR' hS' hE
    have hdg : decode code pc' = .ok (.ireturn, 1) := by
      rcases hE with ⟨z, -⟩ | ⟨-, ⟨x, z⟩, -⟩ | ⟨-, z, -⟩
      · have : ex_by 161 = code := by unfold ex_by; rw [e161]
        rw [this] at z
        exact z
      · cases z
      · cases z
    refine va_forget (fun q hq => hS'.2.2 q hq) ?_
    refine W.widen (k := 656475) (n := 7132822) (by omega) hb2 ?_
    exact lw_ret hx hb hr hlocks hdg
end
section
/-! THE PURE MACHINE, goal first: ex_W y pc L S h X: from there the run comes to an end with X. -/
def ex_W (y pc : Nat) (L S : List Value) (h : ex_Hp) (X : Option Value → ex_Hp → Prop) : Prop := ∃ (n : Nat) (r : Option Value) (h' : ex_Hp), ex_run n y pc L S h = some (r, h') ∧ X r h'
theorem ex_mono : ∀ (n k y pc : Nat) (L S : List Value) (h : ex_Hp) (x : Option Value × ex_Hp), ex_run n y pc L S h = some x → ex_run (n + k) y pc L S h = some x := by
  intro n
  induction n with
  | zero => intro k y pc L S h x hr; cases hr
  | succ n ih =>
    intro k y pc L S h x hr
    rw [show n + 1 + k = (n + k) + 1 by omega]
    rw [ex_run] at hr ⊢
    try dsimp only at hr ⊢
    split at hr
    · rename_i hk
      split at hr
      · rename_i hc
        rw [if_pos hc]
        split at hr
        · rename_i r1 h1 hr1
          rw [ih k _ _ _ _ _ _ hr1]
          exact ih k _ _ _ _ _ _ hr
        · cases hr
      · cases hr
    · exact hr
    · split at hr
      · rename_i hs
        exact ih k _ _ _ _ _ _ hr
      · cases hr
theorem ex_step_kind {y pc : Nat} {L S : List Value} {h : ex_Hp} {q : ex_St} (hs : ex_step y pc L S h = some q) : ¬ ex_kind (ex_mo y pc).1 (ex_mo y pc).2.2.1 = 5 ∧ ¬ ex_kind (ex_mo y pc).1 (ex_mo y pc).2.2.1 = 6 := by
  unfold ex_step at hs
  try dsimp only at hs
  constructor
  · intro z
    rw [z] at hs
    cases hs
  · intro z
    rw [z] at hs
    cases hs
theorem ex_run_step {n y pc : Nat} {L S L' S' : List Value} {h h1 : ex_Hp} {pc' : Nat} (hs : ex_step y pc L S h = some (pc', L', S', h1)) : ex_run (n + 1) y pc L S h = ex_run n y pc' L' S' h1 := by
  obtain ⟨k5, k6⟩ := ex_step_kind hs
  rw [ex_run]
  try dsimp only
  split
  · rename_i z; exact absurd z k5
  · rename_i z; exact absurd z k6
  · rw [hs]
theorem w_st {y pc : Nat} {L S L' S' : List Value} {h h1 : ex_Hp} {pc' : Nat} {X : Option Value → ex_Hp → Prop} (hs : ex_step y pc L S h = some (pc', L', S', h1)) : ex_W y pc L S h X ↔ ex_W y pc' L' S' h1 X := by
  constructor
  · rintro ⟨n, r, h', hr, hX⟩
    cases n with
    | zero => cases hr
    | succ n =>
      rw [ex_run_step hs] at hr
      exact ⟨n, r, h', hr, hX⟩
  · rintro ⟨n, r, h', hr, hX⟩
    exact ⟨n + 1, r, h', by rw [ex_run_step hs]; exact hr, hX⟩
/-- no step: no end -/
theorem w_no {y pc : Nat} {L S : List Value} {h : ex_Hp} {X : Option Value → ex_Hp → Prop} (k5 : ¬ ex_kind (ex_mo y pc).1 (ex_mo y pc).2.2.1 = 5) (k6 : ¬ ex_kind (ex_mo y pc).1 (ex_mo y pc).2.2.1 = 6) (hs : ex_step y pc L S h = none) : ex_W y pc L S h X ↔ False := by
  constructor
  · rintro ⟨n, r, h', hr, hX⟩
    cases n with
    | zero => cases hr
    | succ n =>
      rw [ex_run] at hr
      try dsimp only at hr
      split at hr
      · rename_i z; exact absurd z k5
      · rename_i z; exact absurd z k6
      · rw [hs] at hr; cases hr
  · exact False.elim
theorem w_re {y pc : Nat} {L S : List Value} {h : ex_Hp} {r : Option Value} {X : Option Value → ex_Hp → Prop} (hk : ex_kind (ex_mo y pc).1 (ex_mo y pc).2.2.1 = 6) (he : ex_end y pc S = some r) : ex_W y pc L S h X ↔ X r h := by
  have key : ∀ n, ex_run (n + 1) y pc L S h = some (r, h) := by
    intro n
    simp only [ex_run, hk, he]
  constructor
  · rintro ⟨n, r', h', hr, hX⟩
    cases n with
    | zero => cases hr
    | succ n =>
      rw [key] at hr
      cases hr
      exact hX
  · intro hX
    exact ⟨1, r, h, key 0, hX⟩
theorem w_ca {y pc a cN nx : Nat} {ins : Instr} {len : Nat} {v : Int32} {L S A rest : List Value} {h : ex_Hp} {X : Option Value → ex_Hp → Prop} (hm : ex_mo y pc = (ins, len, a, cN, v)) (hk : ex_kind ins a = 5) (hnx : pc + len = nx) (hA : (S.take cN).reverse = A) (hr : S.drop cN = rest) (hl : cN ≤ S.length) (hc : (S.take cN).all (fun v => v.category == 1) = true) {L0 : List Value} (hL0 : ex_in a A = L0) :
    ex_W y pc L S h X ↔ ex_cat rest ≤ 8 ∧ ex_recv a A h = true ∧ ex_W a 0 L0 [] h (fun r h1 => ex_W y nx L (r.toList ++ rest) h1 X) := by
  subst hA
  subst hr
  subst hL0
  subst hnx
  constructor
  · rintro ⟨n, r, h', hrun, hX⟩
    cases n with
    | zero => cases hrun
    | succ n =>
      simp only [ex_run, hm, hk] at hrun
      split at hrun
      · rename_i hcond
        split at hrun
        · rename_i r1 h1 hr1
          exact ⟨hcond.2.1, hcond.2.2.2, n, r1, h1, hr1, n, r, h', hrun, hX⟩
        · cases hrun
      · cases hrun
  · rintro ⟨hc1, hc2, n, r1, h1, hr1, n2, r, h', hrun, hX⟩
    refine ⟨n + n2 + 1, r, h', ?_, hX⟩
    simp only [ex_run, hm, hk]
    rw [if_pos ⟨hl, hc1, hc, hc2⟩, ex_mono n n2 _ _ _ _ _ _ hr1]
    try dsimp only
    rw [Nat.add_comm n n2]
    exact ex_mono n2 n _ _ _ _ _ _ hrun
theorem w_imp {y pc : Nat} {L S : List Value} {h : ex_Hp} {X Y : Option Value → ex_Hp → Prop} (hXY : ∀ r h', X r h' → Y r h') (hw : ex_W y pc L S h X) : ex_W y pc L S h Y := by
  obtain ⟨n, r, h', hr, hX⟩ := hw
  exact ⟨n, r, h', hr, hXY r h' hX⟩
theorem w_br {y : Nat} {a b : Nat} {L S : List Value} {h : ex_Hp} {X : Option Value → ex_Hp → Prop} {p : Prop} [Decidable p] : ex_W y (if p then a else b) L S h X ↔ if p then ex_W y a L S h X else ex_W y b L S h X := by
  split <;> exact Iff.rfl
abbrev oU : Value := .long 0
def ex_g (h : ex_Hp) (a : Nat) : Option ex_AC := h.2.2 a
/-- an int[] -/
abbrev cI (n : Nat) (f : Nat → Int32) : ex_AC := .inl (0, n, f)
/-- a boolean[] -/
abbrev cZ (n : Nat) (f : Nat → Int32) : ex_AC := .inl (1, n, f)
abbrev cR (t n : Nat) (f : Nat → Option Nat) : ex_AC := .inr (.inl (t, n, f))
abbrev cO (ci : Nat) (fs : List Value) : ex_AC := .inr (.inr (ci, fs))
def ex_gf (c : Option ex_AC) (ci k : Nat) (F : Value → Prop) : Prop := match c with
  | some (.inr (.inr (c', fs))) => if c' = ci then match fs[k]? with
    | some v => F v
    | none => False
    else False
  | _ => False
def ex_pf (c : Option ex_AC) (ci k : Nat) (v : Value) (F : ex_AC → Prop) : Prop := match c with
  | some (.inr (.inr (c', fs))) => if c' = ci ∧ ex_fit (ex_ty ci k) v = true ∧ k < fs.length then F (.inr (.inr (c', fs.set k v))) else False
  | _ => False
def ex_xi (i : Int32) (n : Nat) (F : Nat → Prop) : Prop := if i < 0 ∨ n ≤ i.toNatClampNeg then False else F i.toNatClampNeg
def ex_al (c : Option ex_AC) (i : Int32) (F : Int32 → Prop) : Prop := match c with
  | some (.inl (t, n, f)) => if t = 0 ∨ t = 9 then ex_xi i n (fun j => F (f j)) else False
  | _ => False
def ex_zl (c : Option ex_AC) (i : Int32) (F : Int32 → Prop) : Prop := match c with
  | some (.inl (t, n, f)) => if t = 1 then ex_xi i n (fun j => F (f j)) else False
  | _ => False
def ex_as (c : Option ex_AC) (i x : Int32) (F : ex_AC → Prop) : Prop := match c with
  | some (.inl (t, n, f)) => if t = 0 then ex_xi i n (fun j => F (.inl (t, n, upd f j x))) else False
  | _ => False
def ex_zs (c : Option ex_AC) (i x : Int32) (F : ex_AC → Prop) : Prop := match c with
  | some (.inl (t, n, f)) => if t = 1 ∧ (x = 0 ∨ x = 1) then ex_xi i n (fun j => F (.inl (t, n, upd f j x))) else False
  | _ => False
def ex_rl (c : Option ex_AC) (i : Int32) (F : Value → Prop) : Prop := match c with
  | some (.inr (.inl (t, n, f))) => ex_xi i n (fun j => F (va_rf (f j)))
  | _ => False
def ex_rs (c d : Option ex_AC) (i : Int32) (x : Nat) (F : ex_AC → Prop) : Prop := match c, d with
  | some (.inr (.inl (t, n, f))), some d => if ex_may t d = true then ex_xi i n (fun j => F (.inr (.inl (t, n, va_up f j (some x))))) else False
  | _, _ => False
def ex_ln (c : Option ex_AC) (F : Int32 → Prop) : Prop := match c with
  | some (.inl (_, n, _)) => F (Int32.ofNat n)
  | some (.inr (.inl (_, n, _))) => F (Int32.ofNat n)
  | _ => False
section WK
variable {y pc len a c : Nat} {v : Int32} {ins : Instr} {L S : List Value} {h : ex_Hp} {X : Option Value → ex_Hp → Prop} {o : Nat} {i x : Int32}
theorem w_m3 (hk : ∀ a, ex_kind ins a = 3) (hm : ex_mo y pc = (ins, len, a, c, v)) : ex_W y pc L S h X ↔ match ex_st3 ins a c S h with | some (S', h') => ex_W y (pc + len) L S' h' X | none => False := by
  have h1 : ex_step y pc L S h = match ex_st3 ins a c S h with | some (S', h') => some (pc + len, L, S', h') | none => none := by
    simp only [ex_step, hm, hk]
    rfl
  cases hs : ex_st3 ins a c S h with
  | none =>
    rw [hs] at h1
    exact w_no (by rw [hm]; dsimp only; rw [hk]; decide) (by rw [hm]; dsimp only; rw [hk]; decide) h1
  | some q =>
    obtain ⟨S', h'⟩ := q
    rw [hs] at h1
    exact w_st h1
theorem w_m4 (hk : ex_kind ins a = 4) (hm : ex_mo y pc = (ins, len, a, c, v)) : ex_W y pc L S h X ↔ match ex_st4 ins a S h with | some (S', h') => ex_W y (pc + len) L S' h' X | none => False := by
  have h1 : ex_step y pc L S h = match ex_st4 ins a S h with | some (S', h') => some (pc + len, L, S', h') | none => none := by
    simp only [ex_step, hm, hk]
    rfl
  cases hs : ex_st4 ins a S h with
  | none =>
    rw [hs] at h1
    exact w_no (by rw [hm]; dsimp only; rw [hk]; decide) (by rw [hm]; dsimp only; rw [hk]; decide) h1
  | some q =>
    obtain ⟨S', h'⟩ := q
    rw [hs] at h1
    exact w_st h1
theorem ex_xi_ix {n : Nat} {F : Nat → Prop} : ex_xi i n F ↔ match ex_ix i n with | some j => F j | none => False := by
  unfold ex_xi ex_ix
  split <;> exact Iff.rfl
theorem w_getf {idx : Nat} {nx : Nat} (hm : ex_mo y pc = (.getfield idx, len, a, c, v)) (hn : pc + len = nx) : ex_W y pc L (.ref o :: S) h X ↔ ex_gf (ex_g h o) a c (fun w => ex_W y nx L (w :: S) h X) := by
  subst hn
  rw [w_m3 (fun _ => rfl) hm]
  simp only [ex_st3, ex_gf, ex_g]
  generalize h.2.2 o = z
  rcases z with _ | (⟨t, n, f⟩ | (⟨t, n, f⟩ | ⟨ci, fs⟩)) <;> try exact Iff.rfl
  dsimp only
  by_cases hc : ci = a
  · simp only [if_pos hc]
    cases fs[c]? <;> exact Iff.rfl
  · simp only [if_neg hc]
theorem w_putf {idx : Nat} {nx : Nat} {w : Value} (hm : ex_mo y pc = (.putfield idx, len, a, c, v)) (hn : pc + len = nx) : ex_W y pc L (w :: .ref o :: S) h X ↔ ex_pf (ex_g h o) a c w (fun d => ex_W y nx L S (ex_set h o d) X) := by
  subst hn
  rw [w_m3 (fun _ => rfl) hm]
  simp only [ex_st3, ex_pf, ex_g]
  generalize h.2.2 o = z
  rcases z with _ | (⟨t, n, f⟩ | (⟨t, n, f⟩ | ⟨ci, fs⟩)) <;> try exact Iff.rfl
  dsimp only
  by_cases hc : ci = a ∧ ex_fit (ex_ty a c) w = true ∧ c < fs.length
  · simp only [if_pos hc]
  · simp only [if_neg hc]
theorem w_iald {nx : Nat} (hm : ex_mo y pc = (.iaload, len, a, c, v)) (hn : pc + len = nx) : ex_W y pc L (.int i :: .ref o :: S) h X ↔ ex_al (ex_g h o) i (fun z => ex_W y nx L (.int z :: S) h X) := by
  subst hn
  rw [w_m3 (fun _ => rfl) hm]
  simp only [ex_st3, ex_al, ex_g]
  generalize h.2.2 o = z
  rcases z with _ | (⟨t, n, f⟩ | (⟨t, n, f⟩ | ⟨ci, fs⟩)) <;> try exact Iff.rfl
  dsimp only
  by_cases hc : t = 0 ∨ t = 9
  · simp only [if_pos hc, ex_xi_ix]
    cases ex_ix i n <;> exact Iff.rfl
  · simp only [if_neg hc]
theorem w_bald {nx : Nat} (hm : ex_mo y pc = (.baload, len, a, c, v)) (hn : pc + len = nx) : ex_W y pc L (.int i :: .ref o :: S) h X ↔ ex_zl (ex_g h o) i (fun z => ex_W y nx L (.int z :: S) h X) := by
  subst hn
  rw [w_m3 (fun _ => rfl) hm]
  simp only [ex_st3, ex_zl, ex_g]
  generalize h.2.2 o = z
  rcases z with _ | (⟨t, n, f⟩ | (⟨t, n, f⟩ | ⟨ci, fs⟩)) <;> try exact Iff.rfl
  dsimp only
  by_cases hc : t = 1
  · simp only [if_pos hc, ex_xi_ix]
    cases ex_ix i n <;> exact Iff.rfl
  · simp only [if_neg hc]
theorem w_iast {nx : Nat} (hm : ex_mo y pc = (.iastore, len, a, c, v)) (hn : pc + len = nx) : ex_W y pc L (.int x :: .int i :: .ref o :: S) h X ↔ ex_as (ex_g h o) i x (fun d => ex_W y nx L S (ex_set h o d) X) := by
  subst hn
  rw [w_m3 (fun _ => rfl) hm]
  simp only [ex_st3, ex_as, ex_g]
  generalize h.2.2 o = z
  rcases z with _ | (⟨t, n, f⟩ | (⟨t, n, f⟩ | ⟨ci, fs⟩)) <;> try exact Iff.rfl
  dsimp only
  by_cases hc : t = 0
  · simp only [if_pos hc, ex_xi_ix]
    cases ex_ix i n <;> exact Iff.rfl
  · simp only [if_neg hc]
theorem w_bast {nx : Nat} (hm : ex_mo y pc = (.bastore, len, a, c, v)) (hn : pc + len = nx) : ex_W y pc L (.int x :: .int i :: .ref o :: S) h X ↔ ex_zs (ex_g h o) i x (fun d => ex_W y nx L S (ex_set h o d) X) := by
  subst hn
  rw [w_m3 (fun _ => rfl) hm]
  simp only [ex_st3, ex_zs, ex_g]
  generalize h.2.2 o = z
  rcases z with _ | (⟨t, n, f⟩ | (⟨t, n, f⟩ | ⟨ci, fs⟩)) <;> try exact Iff.rfl
  dsimp only
  by_cases hc : t = 1 ∧ (x = 0 ∨ x = 1)
  · simp only [if_pos hc, ex_xi_ix]
    cases ex_ix i n <;> exact Iff.rfl
  · simp only [if_neg hc]
theorem w_aald {nx : Nat} (hm : ex_mo y pc = (.aaload, len, a, c, v)) (hn : pc + len = nx) : ex_W y pc L (.int i :: .ref o :: S) h X ↔ ex_rl (ex_g h o) i (fun w => ex_W y nx L (w :: S) h X) := by
  subst hn
  rw [w_m3 (fun _ => rfl) hm]
  simp only [ex_st3, ex_rl, ex_g]
  generalize h.2.2 o = z
  rcases z with _ | (⟨t, n, f⟩ | (⟨t, n, f⟩ | ⟨ci, fs⟩)) <;> try exact Iff.rfl
  dsimp only
  simp only [ex_xi_ix]
  cases ex_ix i n <;> exact Iff.rfl
theorem w_aast {nx z : Nat} (hm : ex_mo y pc = (.aastore, len, a, c, v)) (hn : pc + len = nx) : ex_W y pc L (.ref z :: .int i :: .ref o :: S) h X ↔ ex_rs (ex_g h o) (ex_g h z) i z (fun d => ex_W y nx L S (ex_set h o d) X) := by
  subst hn
  rw [w_m3 (fun _ => rfl) hm]
  simp only [ex_st3, ex_rs, ex_g]
  generalize h.2.2 o = q1
  generalize h.2.2 z = q2
  rcases q1 with _ | (⟨t, n, f⟩ | (⟨t, n, f⟩ | ⟨ci, fs⟩)) <;> try exact Iff.rfl
  cases q2 with
  | none => exact Iff.rfl
  | some d =>
    dsimp only
    by_cases hc : ex_may t d = true
    · simp only [if_pos hc, ex_xi_ix]
      cases ex_ix i n <;> exact Iff.rfl
    · simp only [if_neg hc]
theorem w_alen {nx : Nat} (hm : ex_mo y pc = (.arraylength, len, a, c, v)) (hn : pc + len = nx) : ex_W y pc L (.ref o :: S) h X ↔ ex_ln (ex_g h o) (fun z => ex_W y nx L (.int z :: S) h X) := by
  subst hn
  rw [w_m3 (fun _ => rfl) hm]
  simp only [ex_st3, ex_ln, ex_g]
  generalize h.2.2 o = z
  rcases z with _ | (⟨t, n, f⟩ | (⟨t, n, f⟩ | ⟨ci, fs⟩)) <;> exact Iff.rfl
end WK
end
section
/-! more of it: branches, divisions, makings, calls -/
def ex_na0 (i : Int32) (F : Nat → Prop) : Prop := if i < 0 ∨ 100000 < i.toNatClampNeg then False else F i.toNatClampNeg
def ex_is (c : Option ex_AC) (ci : Nat) : Prop := match c with
  | some (.inr (.inr (c', _))) => c' = ci
  | _ => False
def ex_ck (c : Option ex_AC) (P : Prop) : Prop := match c with
  | some (.inl (t, _, _)) => if t = 0 then P else False
  | _ => False
def ex_cln (c : Option ex_AC) (F : Nat → (Nat → Int32) → Prop) : Prop := match c with
  | some (.inl (t, n, f)) => if t = 0 then F n f else False
  | _ => False
def ex_cpy (c d : Option ex_AC) (sp dp n : Int32) (F : ex_AC → Prop) : Prop := match c, d with
  | some (.inl (t0, n0, f)), some (.inl (t1, n1, g)) => if t0 = 0 ∧ t1 = 0 ∧ ¬ sp < 0 ∧ ¬ dp < 0 ∧ ¬ n < 0 ∧ sp.toNatClampNeg + n.toNatClampNeg ≤ n0 ∧ dp.toNatClampNeg + n.toNatClampNeg ≤ n1 then F (.inl (t1, n1, va_cpy f g sp.toNatClampNeg dp.toNatClampNeg n.toNatClampNeg)) else False
  | _, _ => False
section WL
variable {y pc len a c nx : Nat} {v : Int32} {ins : Instr} {L S : List Value} {h : ex_Hp} {X : Option Value → ex_Hp → Prop} {o : Nat} {i x z : Int32}
theorem w_cmp {k : Bool} {p : Prop} [Decidable p] {b : Nat} (hp : k = true ↔ p) : ex_W y (if k = true then a else b) L S h X ↔ if p then ex_W y a L S h X else ex_W y b L S h X := by
  by_cases hq : p
  · rw [if_pos hq, if_pos (hp.mpr hq)]
  · rw [if_neg hq, if_neg (fun t => hq (hp.mp t))]
theorem w_idiv (hm : ex_mo y pc = (.idiv, 1, a, c, v)) : ex_W y pc L (.int z :: .int x :: S) h X ↔ ¬ z = 0 ∧ ex_W y (pc + 1) L (.int (x / z) :: S) h X := by
  by_cases hz : z = 0
  · rw [w_no (by rw [hm]; simp [ex_kind]) (by rw [hm]; simp [ex_kind]) (by simp [ex_step, hm, ex_kind, ex_st1, ex_ari, hz])]
    simp [hz]
  · rw [w_st (pc' := pc + 1) (L' := L) (S' := .int (x / z) :: S) (h1 := h) (by simp [ex_step, hm, ex_kind, ex_st1, ex_ari, hz])]
    simp [hz]
theorem w_irem (hm : ex_mo y pc = (.irem, 1, a, c, v)) : ex_W y pc L (.int z :: .int x :: S) h X ↔ ¬ z = 0 ∧ ex_W y (pc + 1) L (.int (x - x / z * z) :: S) h X := by
  by_cases hz : z = 0
  · rw [w_no (by rw [hm]; simp [ex_kind]) (by rw [hm]; simp [ex_kind]) (by simp [ex_step, hm, ex_kind, ex_st1, ex_ari, hz])]
    simp [hz]
  · rw [w_st (pc' := pc + 1) (L' := L) (S' := .int (x - x / z * z) :: S) (h1 := h) (by simp [ex_step, hm, ex_kind, ex_st1, ex_ari, hz])]
    simp [hz]
theorem w_tsw {d hi : Int} {offs : Array Int} (hm : ex_mo y pc = (.tableswitch d 0 hi offs, len, a, c, v)) : ex_W y pc L (.int x :: S) h X ↔ if x.toInt < 0 ∨ hi < x.toInt then ex_W y a L S h X else match offs[x.toInt.toNat]? with | some o => ex_W y ((pc : Int) + o).toNat L S h X | none => False := by
  by_cases hz : x.toInt < 0 ∨ hi < x.toInt
  · rw [if_pos hz]
    exact w_st (by simp [ex_step, hm, ex_kind, ex_st2, hz])
  · rw [if_neg hz]
    cases ho : offs[x.toInt.toNat]? with
    | none => exact w_no (by rw [hm]; simp [ex_kind]) (by rw [hm]; simp [ex_kind]) (by simp only [ex_step, hm, ex_kind, ex_st2, if_neg hz, Int.sub_zero, ho])
    | some o => exact w_st (by simp only [ex_step, hm, ex_kind, ex_st2, if_neg hz, Int.sub_zero, ho])
theorem w_nwa {t : ArrayType} (hm : ex_mo y pc = (.newarray t, len, a, c, v)) (hn : pc + len = nx) : ex_W y pc L (.int i :: S) h X ↔ ex_na0 i (fun n => ex_W y nx L (.ref h.1 :: S) (ex_new h (.inl (a, n, fun _ => 0)) n) X) := by
  subst hn
  rw [w_m4 rfl hm]
  simp only [ex_st4, ex_na0]
  by_cases hc : i < 0 ∨ 100000 < i.toNatClampNeg
  · simp only [if_pos hc]
  · simp only [if_neg hc]
theorem w_nwr {t : Nat} (hm : ex_mo y pc = (.anewarray t, len, a, c, v)) (hn : pc + len = nx) : ex_W y pc L (.int i :: S) h X ↔ ex_na0 i (fun n => ex_W y nx L (.ref h.1 :: S) (ex_new h (cR a n (fun _ => none)) n) X) := by
  subst hn
  rw [w_m4 rfl hm]
  simp only [ex_st4, ex_na0]
  by_cases hc : i < 0 ∨ 100000 < i.toNatClampNeg
  · simp only [if_pos hc]
  · simp only [if_neg hc]
theorem w_nw2 {t u : Nat} (hm : ex_mo y pc = (.multianewarray t u, len, a, c, v)) (hn : pc + len = nx) : ex_W y pc L (.int i :: .int x :: S) h X ↔ ex_na0 x (fun n => ex_na0 i (fun k => ex_W y nx L (.ref h.1 :: S) (ex_new2 h n k) X)) := by
  subst hn
  rw [w_m4 rfl hm]
  simp only [ex_st4, ex_na0]
  by_cases hc : x < 0 ∨ 100000 < x.toNatClampNeg
  · rw [if_pos hc, if_pos (hc.elim Or.inl (fun q => Or.inr (Or.inl q)))]
  · rw [if_neg hc]
    by_cases hd : i < 0 ∨ 100000 < i.toNatClampNeg
    · rw [if_pos hd, if_pos (Or.inr (Or.inr hd))]
    · rw [if_neg hd, if_neg (fun q => q.elim (fun q => hc (Or.inl q)) (fun q => q.elim (fun q => hc (Or.inr q)) hd))]
theorem w_ckc {t : Nat} (hm : ex_mo y pc = (.checkcast t, len, a, c, v)) (hn : pc + len = nx) : ex_W y pc L (.ref o :: S) h X ↔ ex_ck (ex_g h o) (ex_W y nx L (.ref o :: S) h X) := by
  subst hn
  rw [w_m3 (fun _ => rfl) hm]
  simp only [ex_st3, ex_ck, ex_g]
  generalize h.2.2 o = z
  rcases z with _ | (⟨t, n, f⟩ | (⟨t, n, f⟩ | ⟨ci, fs⟩)) <;> try exact Iff.rfl
  dsimp only
  by_cases hc : t = 0
  · simp only [if_pos hc]
  · simp only [if_neg hc]
theorem w_obj {t : Nat} (hm : ex_mo y pc = (.invokespecial t, len, 1000, c, v)) (hn : pc + len = nx) : ex_W y pc L (.ref o :: S) h X ↔ ex_cat S ≤ 8 ∧ ex_W y nx L S h X := by
  subst hn
  rw [w_m4 rfl hm]
  simp only [ex_st4]
  by_cases hc : ex_cat S ≤ 8
  · simp only [if_pos hc]
    simp only [hc, true_and]
  · simp only [if_neg hc]
    simp only [hc, false_and]
theorem w_min {t : Nat} (hm : ex_mo y pc = (.invokestatic t, len, 1003, c, v)) (hn : pc + len = nx) : ex_W y pc L (.int z :: .int x :: S) h X ↔ ex_cat S ≤ 8 ∧ ex_W y nx L (.int (if z < x then z else x) :: S) h X := by
  subst hn
  rw [w_m4 rfl hm]
  simp only [ex_st4, if_true]
  by_cases hc : ex_cat S ≤ 8
  · simp only [if_pos hc]
    simp only [hc, true_and]
  · simp only [if_neg hc]
    simp only [hc, false_and]
theorem w_cln {t : Nat} (hm : ex_mo y pc = (.invokevirtual t, len, 1002, c, v)) (hn : pc + len = nx) : ex_W y pc L (.ref o :: S) h X ↔ ex_cat S ≤ 8 ∧ ex_cln (ex_g h o) (fun n f => ex_W y nx L (.ref h.1 :: S) (ex_new h (cI n f) n) X) := by
  subst hn
  rw [w_m4 rfl hm]
  simp only [ex_st4, ex_cln, ex_g]
  generalize h.2.2 o = z
  rcases z with _ | (⟨t, n, f⟩ | (⟨t, n, f⟩ | ⟨ci, fs⟩)) <;> try (simp only [and_false]; done)
  dsimp only
  by_cases hc : t = 0
  · subst hc
    by_cases hd : ex_cat S ≤ 8
    · simp only [if_pos, hd, true_and, and_self]
    · simp only [hd, and_false, if_false, false_and]
  · simp only [hc, false_and, if_false, and_false]
theorem w_cpy {t d : Nat} {n dp sp : Int32} (hm : ex_mo y pc = (.invokestatic t, len, 1001, c, v)) (hn : pc + len = nx) : ex_W y pc L (.int n :: .int dp :: .ref d :: .int sp :: .ref o :: S) h X ↔ ex_cat S ≤ 8 ∧ ex_cpy (ex_g h o) (ex_g h d) sp dp n (fun w => ex_W y nx L S (ex_set h d w) X) := by
  subst hn
  rw [w_m4 rfl hm]
  simp only [ex_st4, ex_cpy, ex_g, show ¬ ((1001 : Nat) = 1003) by decide, if_false]
  generalize h.2.2 o = z1
  generalize h.2.2 d = z2
  rcases z1 with _ | (⟨t, n0, f⟩ | (⟨t, n0, f⟩ | ⟨ci, fs⟩)) <;> rcases z2 with _ | (⟨t2, n2, f2⟩ | (⟨t2, n2, f2⟩ | ⟨ci2, fs2⟩)) <;> try (simp only [and_false]; done)
  dsimp only
  by_cases hd : ex_cat S ≤ 8
  · by_cases hc : t = 0 ∧ t2 = 0 ∧ ¬ sp < 0 ∧ ¬ dp < 0 ∧ ¬ n < 0 ∧ sp.toNatClampNeg + n.toNatClampNeg ≤ n0 ∧ dp.toNatClampNeg + n.toNatClampNeg ≤ n2
    · rw [if_pos ⟨hd, hc⟩, if_pos hc]
      simp only [hd, true_and]
    · rw [if_neg (fun q => hc q.2), if_neg hc]
      simp only [and_false]
  · rw [if_neg (fun q => hd q.1)]
    simp only [hd, false_and]
theorem w_rez (hm : ex_mo y pc = (.ireturn, 1, 1, c, v)) : ex_W y pc L [.int x] h X ↔ (x = 0 ∨ x = 1) ∧ X (some (.int x)) h := by
  by_cases hz : x = 0 ∨ x = 1
  · rw [w_re (r := some (.int x)) (by rw [hm]; rfl) (by simp [ex_end, hm, hz])]
    simp only [hz, true_and]
  · constructor
    · rintro ⟨n, r, h', hr, hX⟩
      cases n with
      | zero => cases hr
      | succ n =>
        have he : ex_end y pc [.int x] = none := by simp [ex_end, hm, hz]
        have hk : ex_kind Instr.ireturn 1 = 6 := rfl
        simp only [ex_run, hm, hk, he] at hr
        cases hr
    · intro q
      exact absurd q.1 hz
theorem w_cas {A rest L0 : List Value} {cN : Nat} (hm : ex_mo y pc = (ins, len, a, cN, v)) (hk : ex_kind ins a = 5) (hnx : pc + len = nx) (hS : S = A.reverse ++ rest) (hlen : A.length = cN) (hc : A.all (fun v => v.category == 1) = true) (hL0 : ex_in a A = L0) (hrec : ∀ h, ex_recv a A h = true) :
    ex_W y pc L S h X ↔ ex_cat rest ≤ 8 ∧ ex_W a 0 L0 [] h (fun r h1 => ex_W y nx L (r.toList ++ rest) h1 X) := by
  subst hlen
  have e1 : S.take A.length = A.reverse := by rw [hS, List.take_left' (by rw [List.length_reverse])]
  have e2 : S.drop A.length = rest := by rw [hS, List.drop_left' (by rw [List.length_reverse])]
  rw [w_ca (A := A) (rest := rest) hm hk hnx (by rw [e1, List.reverse_reverse]) e2 (by rw [hS]; simp) (by rw [e1, List.all_reverse]; exact hc) hL0]
  simp only [hrec h, true_and]
theorem ex_recv_is {As : List Value} {ci : Nat} (hk : ex_kd a = 1) (hv : ex_vwi.getD (ex_ow a) 9 = ci) : ex_recv a (.ref o :: As) h = true ↔ ex_is (ex_g h o) ci := by
  subst hv
  simp only [ex_recv, hk, ex_is, ex_g]
  generalize h.2.2 o = z
  rcases z with _ | (⟨t, n, f⟩ | (⟨t, n, f⟩ | ⟨ci, fs⟩)) <;> simp
theorem w_cav {As rest L0 : List Value} {cN ci : Nat} (hm : ex_mo y pc = (ins, len, a, cN, v)) (hk : ex_kind ins a = 5) (hnx : pc + len = nx) (hS : S = (Value.ref o :: As).reverse ++ rest) (hlen : As.length + 1 = cN) (hc : As.all (fun v => v.category == 1) = true) (hL0 : ex_in a (.ref o :: As) = L0) (hkd : ex_kd a = 1) (hv : ex_vwi.getD (ex_ow a) 9 = ci) :
    ex_W y pc L S h X ↔ ex_cat rest ≤ 8 ∧ ex_is (ex_g h o) ci ∧ ex_W a 0 L0 [] h (fun r h1 => ex_W y nx L (r.toList ++ rest) h1 X) := by
  have hlen2 : (Value.ref o :: As).length = cN := hlen
  subst hlen2
  have e1 : S.take (Value.ref o :: As).length = (Value.ref o :: As).reverse := by rw [hS, List.take_left' (by rw [List.length_reverse])]
  have e2 : S.drop (Value.ref o :: As).length = rest := by rw [hS, List.drop_left' (by rw [List.length_reverse])]
  rw [w_ca (A := .ref o :: As) (rest := rest) hm hk hnx (by rw [e1, List.reverse_reverse]) e2 (by rw [hS]; simp) (by rw [e1, List.all_reverse]; simp only [List.all_cons, hc, Bool.and_true]; rfl) hL0, ex_recv_is hkd hv]
end WL
end
section
-- 26: LoopStrands$Numbers.<init>
theorem s26_0 {S : List Value} {h : ex_Hp} {X : Option Value → ex_Hp → Prop} {o : Nat} : ex_W 26 0 [.ref o] S h X ↔ ex_W 26 1 [.ref o] (.ref o :: S) h X := w_st rfl
theorem s26_1 {l0 : Value} {S : List Value} {h : ex_Hp} {X : Option Value → ex_Hp → Prop} {o : Nat} : ex_W 26 1 [l0] (.ref o :: S) h X ↔ ex_cat S ≤ 8 ∧ ex_W 26 4 [l0] S h X := w_obj rfl rfl
theorem s26_4 {S : List Value} {h : ex_Hp} {X : Option Value → ex_Hp → Prop} {o : Nat} : ex_W 26 4 [.ref o] S h X ↔ ex_W 26 5 [.ref o] (.ref o :: S) h X := w_st rfl
theorem s26_5 {l0 : Value} {S : List Value} {h : ex_Hp} {X : Option Value → ex_Hp → Prop} : ex_W 26 5 [l0] S h X ↔ ex_W 26 7 [l0] (.int 6 :: S) h X := w_st rfl
theorem s26_7 {l0 : Value} {S : List Value} {h : ex_Hp} {X : Option Value → ex_Hp → Prop} {i : Int32} : ex_W 26 7 [l0] (.int i :: S) h X ↔ ex_na0 i (fun n => ex_W 26 9 [l0] (.ref h.1 :: S) (ex_new h (.inl (0, n, fun _ => 0)) n) X) := w_nwa rfl rfl
theorem s26_9 {l0 : Value} {S : List Value} {h : ex_Hp} {X : Option Value → ex_Hp → Prop} {o : Nat} {z : Nat} : ex_W 26 9 [l0] (.ref z :: .ref o :: S) h X ↔ ex_pf (ex_g h o) 2 2 (.ref z) (fun d => ex_W 26 12 [l0] S (ex_set h o d) X) := w_putf rfl rfl
theorem s26_12 {l0 : Value} {h : ex_Hp} {X : Option Value → ex_Hp → Prop} : ex_W 26 12 [l0] [] h X ↔ X none h := w_re rfl rfl
-- 27: LoopStrands$Numbers.tell
theorem s27_0 {l1 l2 l3 : Value} {S : List Value} {h : ex_Hp} {X : Option Value → ex_Hp → Prop} {o : Nat} : ex_W 27 0 [.ref o, l1, l2, l3] S h X ↔ ex_W 27 1 [.ref o, l1, l2, l3] (.ref o :: S) h X := w_st rfl
theorem s27_1 {l0 l2 l3 : Value} {S : List Value} {h : ex_Hp} {X : Option Value → ex_Hp → Prop} {x : Int32} : ex_W 27 1 [l0, .int x, l2, l3] S h X ↔ ex_W 27 2 [l0, .int x, l2, l3] (.int x :: S) h X := w_st rfl
theorem s27_2 {l0 l1 l2 l3 : Value} {S : List Value} {h : ex_Hp} {X : Option Value → ex_Hp → Prop} {o : Nat} {x : Int32} : ex_W 27 2 [l0, l1, l2, l3] (.int x :: .ref o :: S) h X ↔ ex_pf (ex_g h o) 2 0 (.int x) (fun d => ex_W 27 5 [l0, l1, l2, l3] S (ex_set h o d) X) := w_putf rfl rfl
theorem s27_5 {l1 l2 l3 : Value} {S : List Value} {h : ex_Hp} {X : Option Value → ex_Hp → Prop} {o : Nat} : ex_W 27 5 [.ref o, l1, l2, l3] S h X ↔ ex_W 27 6 [.ref o, l1, l2, l3] (.ref o :: S) h X := w_st rfl
theorem s27_6 {l0 l1 l3 : Value} {S : List Value} {h : ex_Hp} {X : Option Value → ex_Hp → Prop} {x : Int32} : ex_W 27 6 [l0, l1, .int x, l3] S h X ↔ ex_W 27 7 [l0, l1, .int x, l3] (.int x :: S) h X := w_st rfl
theorem s27_7 {l0 l1 l2 l3 : Value} {S : List Value} {h : ex_Hp} {X : Option Value → ex_Hp → Prop} {o : Nat} {x : Int32} : ex_W 27 7 [l0, l1, l2, l3] (.int x :: .ref o :: S) h X ↔ ex_pf (ex_g h o) 2 1 (.int x) (fun d => ex_W 27 10 [l0, l1, l2, l3] S (ex_set h o d) X) := w_putf rfl rfl
theorem s27_10 {l1 l2 l3 : Value} {S : List Value} {h : ex_Hp} {X : Option Value → ex_Hp → Prop} {o : Nat} : ex_W 27 10 [.ref o, l1, l2, l3] S h X ↔ ex_W 27 11 [.ref o, l1, l2, l3] (.ref o :: S) h X := w_st rfl
theorem s27_11 {l0 l1 l2 l3 : Value} {S : List Value} {h : ex_Hp} {X : Option Value → ex_Hp → Prop} {o : Nat} : ex_W 27 11 [l0, l1, l2, l3] (.ref o :: S) h X ↔ ex_gf (ex_g h o) 2 2 (fun w => ex_W 27 14 [l0, l1, l2, l3] (w :: S) h X) := w_getf rfl rfl
theorem s27_14 {l0 l1 l2 l3 : Value} {S : List Value} {h : ex_Hp} {X : Option Value → ex_Hp → Prop} : ex_W 27 14 [l0, l1, l2, l3] S h X ↔ ex_W 27 15 [l0, l1, l2, l3] (.int 0 :: S) h X := w_st rfl
theorem s27_15 {l0 l1 l2 l3 : Value} {S : List Value} {h : ex_Hp} {X : Option Value → ex_Hp → Prop} : ex_W 27 15 [l0, l1, l2, l3] S h X ↔ ex_W 27 16 [l0, l1, l2, l3] (.int 1 :: S) h X := w_st rfl
theorem s27_16 {l0 l1 l2 l3 : Value} {S : List Value} {h : ex_Hp} {X : Option Value → ex_Hp → Prop} {o : Nat} {i x : Int32} : ex_W 27 16 [l0, l1, l2, l3] (.int x :: .int i :: .ref o :: S) h X ↔ ex_as (ex_g h o) i x (fun d => ex_W 27 17 [l0, l1, l2, l3] S (ex_set h o d) X) := w_iast rfl rfl
theorem s27_17 {l0 l1 l2 l3 : Value} {S : List Value} {h : ex_Hp} {X : Option Value → ex_Hp → Prop} : ex_W 27 17 [l0, l1, l2, l3] S h X ↔ ex_W 27 18 [l0, l1, l2, l3] (.int 1 :: S) h X := w_st rfl
theorem s27_18 {l0 l1 l2 l3 : Value} {S : List Value} {h : ex_Hp} {X : Option Value → ex_Hp → Prop} {x : Int32} : ex_W 27 18 [l0, l1, l2, l3] (.int x :: S) h X ↔ ex_W 27 19 [l0, l1, l2, .int x] S h X := w_st rfl
theorem s27_19 {l0 l1 l2 : Value} {S : List Value} {h : ex_Hp} {X : Option Value → ex_Hp → Prop} {x : Int32} : ex_W 27 19 [l0, l1, l2, .int x] S h X ↔ ex_W 27 20 [l0, l1, l2, .int x] (.int x :: S) h X := w_st rfl
theorem s27_20 {l1 l2 l3 : Value} {S : List Value} {h : ex_Hp} {X : Option Value → ex_Hp → Prop} {o : Nat} : ex_W 27 20 [.ref o, l1, l2, l3] S h X ↔ ex_W 27 21 [.ref o, l1, l2, l3] (.ref o :: S) h X := w_st rfl
theorem s27_21 {l0 l1 l2 l3 : Value} {S : List Value} {h : ex_Hp} {X : Option Value → ex_Hp → Prop} {o : Nat} : ex_W 27 21 [l0, l1, l2, l3] (.ref o :: S) h X ↔ ex_gf (ex_g h o) 2 2 (fun w => ex_W 27 24 [l0, l1, l2, l3] (w :: S) h X) := w_getf rfl rfl
theorem s27_24 {l0 l1 l2 l3 : Value} {S : List Value} {h : ex_Hp} {X : Option Value → ex_Hp → Prop} {o : Nat} : ex_W 27 24 [l0, l1, l2, l3] (.ref o :: S) h X ↔ ex_ln (ex_g h o) (fun z => ex_W 27 25 [l0, l1, l2, l3] (.int z :: S) h X) := w_alen rfl rfl
theorem s27_25 {l0 l1 l2 l3 : Value} {S : List Value} {h : ex_Hp} {X : Option Value → ex_Hp → Prop} {x z : Int32} : ex_W 27 25 [l0, l1, l2, l3] (.int z :: .int x :: S) h X ↔ if z ≤ x then ex_W 27 53 [l0, l1, l2, l3] S h X else ex_W 27 28 [l0, l1, l2, l3] S h X := (w_st rfl).trans (w_cmp (p := z ≤ x) (by simp only [ex_cmp, decide_eq_true_eq]))
theorem s27_28 {l1 l2 l3 : Value} {S : List Value} {h : ex_Hp} {X : Option Value → ex_Hp → Prop} {o : Nat} : ex_W 27 28 [.ref o, l1, l2, l3] S h X ↔ ex_W 27 29 [.ref o, l1, l2, l3] (.ref o :: S) h X := w_st rfl
theorem s27_29 {l0 l1 l2 l3 : Value} {S : List Value} {h : ex_Hp} {X : Option Value → ex_Hp → Prop} {o : Nat} : ex_W 27 29 [l0, l1, l2, l3] (.ref o :: S) h X ↔ ex_gf (ex_g h o) 2 2 (fun w => ex_W 27 32 [l0, l1, l2, l3] (w :: S) h X) := w_getf rfl rfl
theorem s27_32 {l0 l1 l2 : Value} {S : List Value} {h : ex_Hp} {X : Option Value → ex_Hp → Prop} {x : Int32} : ex_W 27 32 [l0, l1, l2, .int x] S h X ↔ ex_W 27 33 [l0, l1, l2, .int x] (.int x :: S) h X := w_st rfl
theorem s27_33 {l1 l2 l3 : Value} {S : List Value} {h : ex_Hp} {X : Option Value → ex_Hp → Prop} {o : Nat} : ex_W 27 33 [.ref o, l1, l2, l3] S h X ↔ ex_W 27 34 [.ref o, l1, l2, l3] (.ref o :: S) h X := w_st rfl
theorem s27_34 {l1 l2 l3 : Value} {S : List Value} {h : ex_Hp} {X : Option Value → ex_Hp → Prop} {o : Nat} : ex_W 27 34 [.ref o, l1, l2, l3] S h X ↔ ex_W 27 35 [.ref o, l1, l2, l3] (.ref o :: S) h X := w_st rfl
theorem s27_35 {l0 l1 l2 l3 : Value} {S : List Value} {h : ex_Hp} {X : Option Value → ex_Hp → Prop} {o : Nat} : ex_W 27 35 [l0, l1, l2, l3] (.ref o :: S) h X ↔ ex_gf (ex_g h o) 2 2 (fun w => ex_W 27 38 [l0, l1, l2, l3] (w :: S) h X) := w_getf rfl rfl
theorem s27_38 {l0 l1 l2 : Value} {S : List Value} {h : ex_Hp} {X : Option Value → ex_Hp → Prop} {x : Int32} : ex_W 27 38 [l0, l1, l2, .int x] S h X ↔ ex_W 27 39 [l0, l1, l2, .int x] (.int x :: S) h X := w_st rfl
theorem s27_39 {l0 l1 l2 l3 : Value} {S : List Value} {h : ex_Hp} {X : Option Value → ex_Hp → Prop} : ex_W 27 39 [l0, l1, l2, l3] S h X ↔ ex_W 27 40 [l0, l1, l2, l3] (.int 1 :: S) h X := w_st rfl
theorem s27_40 {l0 l1 l2 l3 : Value} {S : List Value} {h : ex_Hp} {X : Option Value → ex_Hp → Prop} {x z : Int32} : ex_W 27 40 [l0, l1, l2, l3] (.int z :: .int x :: S) h X ↔ ex_W 27 41 [l0, l1, l2, l3] (.int (x - z) :: S) h X := w_st rfl
theorem s27_41 {l0 l1 l2 l3 : Value} {S : List Value} {h : ex_Hp} {X : Option Value → ex_Hp → Prop} {o : Nat} {i : Int32} : ex_W 27 41 [l0, l1, l2, l3] (.int i :: .ref o :: S) h X ↔ ex_al (ex_g h o) i (fun z => ex_W 27 42 [l0, l1, l2, l3] (.int z :: S) h X) := w_iald rfl rfl
theorem s27_42 {l0 l1 l3 : Value} {S : List Value} {h : ex_Hp} {X : Option Value → ex_Hp → Prop} {x : Int32} : ex_W 27 42 [l0, l1, .int x, l3] S h X ↔ ex_W 27 43 [l0, l1, .int x, l3] (.int x :: S) h X := w_st rfl
theorem s27_43 {l0 l1 l2 l3 : Value} {S : List Value} {h : ex_Hp} {X : Option Value → ex_Hp → Prop} {x0 : Nat} {x1 : Int32} {x2 : Int32} : ex_W 27 43 [l0, l1, l2, l3] (.int x2 :: .int x1 :: .ref x0 :: S) h X ↔ ex_cat S ≤ 8 ∧ ex_is (ex_g h x0) 2 ∧ ex_W 31 0 [.ref x0, .int x1, .int x2] [] h (fun r h1 => ex_W 27 46 [l0, l1, l2, l3] (r.toList ++ S) h1 X) := w_cav (o := x0) (As := [.int x1, .int x2]) (rest := S) rfl rfl rfl rfl rfl rfl rfl rfl rfl
theorem s27_46 {l0 l1 l2 l3 : Value} {S : List Value} {h : ex_Hp} {X : Option Value → ex_Hp → Prop} {o : Nat} {i x : Int32} : ex_W 27 46 [l0, l1, l2, l3] (.int x :: .int i :: .ref o :: S) h X ↔ ex_as (ex_g h o) i x (fun d => ex_W 27 47 [l0, l1, l2, l3] S (ex_set h o d) X) := w_iast rfl rfl
theorem s27_47 {l0 l1 l2 : Value} {S : List Value} {h : ex_Hp} {X : Option Value → ex_Hp → Prop} {x : Int32} : ex_W 27 47 [l0, l1, l2, .int x] S h X ↔ ex_W 27 50 [l0, l1, l2, .int (x + 1)] S h X := w_st rfl
theorem s27_50 {l0 l1 l2 l3 : Value} {S : List Value} {h : ex_Hp} {X : Option Value → ex_Hp → Prop} : ex_W 27 50 [l0, l1, l2, l3] S h X ↔ ex_W 27 19 [l0, l1, l2, l3] S h X := w_st rfl
theorem s27_53 {l0 l1 l2 l3 : Value} {h : ex_Hp} {X : Option Value → ex_Hp → Prop} : ex_W 27 53 [l0, l1, l2, l3] [] h X ↔ X none h := w_re rfl rfl
-- 28: LoopStrands$Numbers.leftOver
theorem s28_0 {l1 l2 : Value} {S : List Value} {h : ex_Hp} {X : Option Value → ex_Hp → Prop} {o : Nat} : ex_W 28 0 [.ref o, l1, l2] S h X ↔ ex_W 28 1 [.ref o, l1, l2] (.ref o :: S) h X := w_st rfl
theorem s28_1 {l0 l1 l2 : Value} {S : List Value} {h : ex_Hp} {X : Option Value → ex_Hp → Prop} {o : Nat} : ex_W 28 1 [l0, l1, l2] (.ref o :: S) h X ↔ ex_gf (ex_g h o) 2 0 (fun w => ex_W 28 4 [l0, l1, l2] (w :: S) h X) := w_getf rfl rfl
theorem s28_4 {l0 l1 l2 : Value} {S : List Value} {h : ex_Hp} {X : Option Value → ex_Hp → Prop} : ex_W 28 4 [l0, l1, l2] S h X ↔ ex_W 28 5 [l0, l1, l2] (.int 2 :: S) h X := w_st rfl
theorem s28_5 {l0 l1 l2 : Value} {S : List Value} {h : ex_Hp} {X : Option Value → ex_Hp → Prop} {x z : Int32} : ex_W 28 5 [l0, l1, l2] (.int z :: .int x :: S) h X ↔ if z ≤ x then ex_W 28 10 [l0, l1, l2] S h X else ex_W 28 8 [l0, l1, l2] S h X := (w_st rfl).trans (w_cmp (p := z ≤ x) (by simp only [ex_cmp, decide_eq_true_eq]))
theorem s28_8 {l0 l1 l2 : Value} {S : List Value} {h : ex_Hp} {X : Option Value → ex_Hp → Prop} : ex_W 28 8 [l0, l1, l2] S h X ↔ ex_W 28 9 [l0, l1, l2] (.int 0 :: S) h X := w_st rfl
theorem s28_9 {l0 l1 l2 : Value} {h : ex_Hp} {X : Option Value → ex_Hp → Prop} {x : Int32} : ex_W 28 9 [l0, l1, l2] [.int x] h X ↔ X (some (.int x)) h := w_re rfl rfl
theorem s28_10 {l0 l2 : Value} {S : List Value} {h : ex_Hp} {X : Option Value → ex_Hp → Prop} {x : Int32} : ex_W 28 10 [l0, .int x, l2] S h X ↔ ex_W 28 11 [l0, .int x, l2] (.int x :: S) h X := w_st rfl
theorem s28_11 {l1 l2 : Value} {S : List Value} {h : ex_Hp} {X : Option Value → ex_Hp → Prop} {o : Nat} : ex_W 28 11 [.ref o, l1, l2] S h X ↔ ex_W 28 12 [.ref o, l1, l2] (.ref o :: S) h X := w_st rfl
theorem s28_12 {l0 l1 l2 : Value} {S : List Value} {h : ex_Hp} {X : Option Value → ex_Hp → Prop} {o : Nat} : ex_W 28 12 [l0, l1, l2] (.ref o :: S) h X ↔ ex_gf (ex_g h o) 2 0 (fun w => ex_W 28 15 [l0, l1, l2] (w :: S) h X) := w_getf rfl rfl
theorem s28_15 {l0 l1 l2 : Value} {S : List Value} {h : ex_Hp} {X : Option Value → ex_Hp → Prop} {x z : Int32} : ex_W 28 15 [l0, l1, l2] (.int z :: .int x :: S) h X ↔ ¬ z = 0 ∧ ex_W 28 16 [l0, l1, l2] (.int (x - x / z * z) :: S) h X := w_irem rfl
theorem s28_16 {l0 l1 l2 : Value} {S : List Value} {h : ex_Hp} {X : Option Value → ex_Hp → Prop} {x : Int32} : ex_W 28 16 [l0, l1, l2] (.int x :: S) h X ↔ ex_W 28 17 [l0, l1, .int x] S h X := w_st rfl
theorem s28_17 {l0 l1 : Value} {S : List Value} {h : ex_Hp} {X : Option Value → ex_Hp → Prop} {x : Int32} : ex_W 28 17 [l0, l1, .int x] S h X ↔ ex_W 28 18 [l0, l1, .int x] (.int x :: S) h X := w_st rfl
theorem s28_18 {l0 l1 l2 : Value} {S : List Value} {h : ex_Hp} {X : Option Value → ex_Hp → Prop} {x : Int32} : ex_W 28 18 [l0, l1, l2] (.int x :: S) h X ↔ if 0 ≤ x then ex_W 28 30 [l0, l1, l2] S h X else ex_W 28 21 [l0, l1, l2] S h X := (w_st rfl).trans (w_cmp (p := 0 ≤ x) (by simp only [ex_cmp, decide_eq_true_eq]))
theorem s28_21 {l0 l1 : Value} {S : List Value} {h : ex_Hp} {X : Option Value → ex_Hp → Prop} {x : Int32} : ex_W 28 21 [l0, l1, .int x] S h X ↔ ex_W 28 22 [l0, l1, .int x] (.int x :: S) h X := w_st rfl
theorem s28_22 {l1 l2 : Value} {S : List Value} {h : ex_Hp} {X : Option Value → ex_Hp → Prop} {o : Nat} : ex_W 28 22 [.ref o, l1, l2] S h X ↔ ex_W 28 23 [.ref o, l1, l2] (.ref o :: S) h X := w_st rfl
theorem s28_23 {l0 l1 l2 : Value} {S : List Value} {h : ex_Hp} {X : Option Value → ex_Hp → Prop} {o : Nat} : ex_W 28 23 [l0, l1, l2] (.ref o :: S) h X ↔ ex_gf (ex_g h o) 2 0 (fun w => ex_W 28 26 [l0, l1, l2] (w :: S) h X) := w_getf rfl rfl
theorem s28_26 {l0 l1 l2 : Value} {S : List Value} {h : ex_Hp} {X : Option Value → ex_Hp → Prop} {x z : Int32} : ex_W 28 26 [l0, l1, l2] (.int z :: .int x :: S) h X ↔ ex_W 28 27 [l0, l1, l2] (.int (x + z) :: S) h X := w_st rfl
theorem s28_27 {l0 l1 l2 : Value} {S : List Value} {h : ex_Hp} {X : Option Value → ex_Hp → Prop} : ex_W 28 27 [l0, l1, l2] S h X ↔ ex_W 28 31 [l0, l1, l2] S h X := w_st rfl
theorem s28_30 {l0 l1 : Value} {S : List Value} {h : ex_Hp} {X : Option Value → ex_Hp → Prop} {x : Int32} : ex_W 28 30 [l0, l1, .int x] S h X ↔ ex_W 28 31 [l0, l1, .int x] (.int x :: S) h X := w_st rfl
theorem s28_31 {l0 l1 l2 : Value} {h : ex_Hp} {X : Option Value → ex_Hp → Prop} {x : Int32} : ex_W 28 31 [l0, l1, l2] [.int x] h X ↔ X (some (.int x)) h := w_re rfl rfl
-- 29: LoopStrands$Numbers.add
theorem s29_0 {l1 l2 : Value} {S : List Value} {h : ex_Hp} {X : Option Value → ex_Hp → Prop} {o : Nat} : ex_W 29 0 [.ref o, l1, l2] S h X ↔ ex_W 29 1 [.ref o, l1, l2] (.ref o :: S) h X := w_st rfl
theorem s29_1 {l0 l2 : Value} {S : List Value} {h : ex_Hp} {X : Option Value → ex_Hp → Prop} {x : Int32} : ex_W 29 1 [l0, .int x, l2] S h X ↔ ex_W 29 2 [l0, .int x, l2] (.int x :: S) h X := w_st rfl
theorem s29_2 {l0 l1 : Value} {S : List Value} {h : ex_Hp} {X : Option Value → ex_Hp → Prop} {x : Int32} : ex_W 29 2 [l0, l1, .int x] S h X ↔ ex_W 29 3 [l0, l1, .int x] (.int x :: S) h X := w_st rfl
theorem s29_3 {l0 l1 l2 : Value} {S : List Value} {h : ex_Hp} {X : Option Value → ex_Hp → Prop} {x z : Int32} : ex_W 29 3 [l0, l1, l2] (.int z :: .int x :: S) h X ↔ ex_W 29 4 [l0, l1, l2] (.int (x + z) :: S) h X := w_st rfl
theorem s29_4 {l0 l1 l2 : Value} {S : List Value} {h : ex_Hp} {X : Option Value → ex_Hp → Prop} {x0 : Nat} {x1 : Int32} : ex_W 29 4 [l0, l1, l2] (.int x1 :: .ref x0 :: S) h X ↔ ex_cat S ≤ 8 ∧ ex_is (ex_g h x0) 2 ∧ ex_W 28 0 [.ref x0, .int x1, oU] [] h (fun r h1 => ex_W 29 7 [l0, l1, l2] (r.toList ++ S) h1 X) := w_cav (o := x0) (As := [.int x1]) (rest := S) rfl rfl rfl rfl rfl rfl rfl rfl rfl
theorem s29_7 {l0 l1 l2 : Value} {h : ex_Hp} {X : Option Value → ex_Hp → Prop} {x : Int32} : ex_W 29 7 [l0, l1, l2] [.int x] h X ↔ X (some (.int x)) h := w_re rfl rfl
-- 30: LoopStrands$Numbers.subtract
theorem s30_0 {l1 l2 : Value} {S : List Value} {h : ex_Hp} {X : Option Value → ex_Hp → Prop} {o : Nat} : ex_W 30 0 [.ref o, l1, l2] S h X ↔ ex_W 30 1 [.ref o, l1, l2] (.ref o :: S) h X := w_st rfl
theorem s30_1 {l0 l2 : Value} {S : List Value} {h : ex_Hp} {X : Option Value → ex_Hp → Prop} {x : Int32} : ex_W 30 1 [l0, .int x, l2] S h X ↔ ex_W 30 2 [l0, .int x, l2] (.int x :: S) h X := w_st rfl
theorem s30_2 {l0 l1 : Value} {S : List Value} {h : ex_Hp} {X : Option Value → ex_Hp → Prop} {x : Int32} : ex_W 30 2 [l0, l1, .int x] S h X ↔ ex_W 30 3 [l0, l1, .int x] (.int x :: S) h X := w_st rfl
theorem s30_3 {l0 l1 l2 : Value} {S : List Value} {h : ex_Hp} {X : Option Value → ex_Hp → Prop} {x z : Int32} : ex_W 30 3 [l0, l1, l2] (.int z :: .int x :: S) h X ↔ ex_W 30 4 [l0, l1, l2] (.int (x - z) :: S) h X := w_st rfl
theorem s30_4 {l0 l1 l2 : Value} {S : List Value} {h : ex_Hp} {X : Option Value → ex_Hp → Prop} {x0 : Nat} {x1 : Int32} : ex_W 30 4 [l0, l1, l2] (.int x1 :: .ref x0 :: S) h X ↔ ex_cat S ≤ 8 ∧ ex_is (ex_g h x0) 2 ∧ ex_W 28 0 [.ref x0, .int x1, oU] [] h (fun r h1 => ex_W 30 7 [l0, l1, l2] (r.toList ++ S) h1 X) := w_cav (o := x0) (As := [.int x1]) (rest := S) rfl rfl rfl rfl rfl rfl rfl rfl rfl
theorem s30_7 {l0 l1 l2 : Value} {h : ex_Hp} {X : Option Value → ex_Hp → Prop} {x : Int32} : ex_W 30 7 [l0, l1, l2] [.int x] h X ↔ X (some (.int x)) h := w_re rfl rfl
-- 31: LoopStrands$Numbers.multiply
theorem s31_0 {l1 l2 : Value} {S : List Value} {h : ex_Hp} {X : Option Value → ex_Hp → Prop} {o : Nat} : ex_W 31 0 [.ref o, l1, l2] S h X ↔ ex_W 31 1 [.ref o, l1, l2] (.ref o :: S) h X := w_st rfl
theorem s31_1 {l0 l2 : Value} {S : List Value} {h : ex_Hp} {X : Option Value → ex_Hp → Prop} {x : Int32} : ex_W 31 1 [l0, .int x, l2] S h X ↔ ex_W 31 2 [l0, .int x, l2] (.int x :: S) h X := w_st rfl
theorem s31_2 {l0 l1 : Value} {S : List Value} {h : ex_Hp} {X : Option Value → ex_Hp → Prop} {x : Int32} : ex_W 31 2 [l0, l1, .int x] S h X ↔ ex_W 31 3 [l0, l1, .int x] (.int x :: S) h X := w_st rfl
theorem s31_3 {l0 l1 l2 : Value} {S : List Value} {h : ex_Hp} {X : Option Value → ex_Hp → Prop} {x z : Int32} : ex_W 31 3 [l0, l1, l2] (.int z :: .int x :: S) h X ↔ ex_W 31 4 [l0, l1, l2] (.int (x * z) :: S) h X := w_st rfl
theorem s31_4 {l0 l1 l2 : Value} {S : List Value} {h : ex_Hp} {X : Option Value → ex_Hp → Prop} {x0 : Nat} {x1 : Int32} : ex_W 31 4 [l0, l1, l2] (.int x1 :: .ref x0 :: S) h X ↔ ex_cat S ≤ 8 ∧ ex_is (ex_g h x0) 2 ∧ ex_W 28 0 [.ref x0, .int x1, oU] [] h (fun r h1 => ex_W 31 7 [l0, l1, l2] (r.toList ++ S) h1 X) := w_cav (o := x0) (As := [.int x1]) (rest := S) rfl rfl rfl rfl rfl rfl rfl rfl rfl
theorem s31_7 {l0 l1 l2 : Value} {h : ex_Hp} {X : Option Value → ex_Hp → Prop} {x : Int32} : ex_W 31 7 [l0, l1, l2] [.int x] h X ↔ X (some (.int x)) h := w_re rfl rfl
-- 32: LoopStrands$Numbers.inverse
theorem s32_0 {l0 l1 l2 : Value} {S : List Value} {h : ex_Hp} {X : Option Value → ex_Hp → Prop} : ex_W 32 0 [l0, l1, l2] S h X ↔ ex_W 32 1 [l0, l1, l2] (.int 1 :: S) h X := w_st rfl
theorem s32_1 {l0 l1 l2 : Value} {S : List Value} {h : ex_Hp} {X : Option Value → ex_Hp → Prop} {x : Int32} : ex_W 32 1 [l0, l1, l2] (.int x :: S) h X ↔ ex_W 32 2 [l0, l1, .int x] S h X := w_st rfl
theorem s32_2 {l0 l1 : Value} {S : List Value} {h : ex_Hp} {X : Option Value → ex_Hp → Prop} {x : Int32} : ex_W 32 2 [l0, l1, .int x] S h X ↔ ex_W 32 3 [l0, l1, .int x] (.int x :: S) h X := w_st rfl
theorem s32_3 {l1 l2 : Value} {S : List Value} {h : ex_Hp} {X : Option Value → ex_Hp → Prop} {o : Nat} : ex_W 32 3 [.ref o, l1, l2] S h X ↔ ex_W 32 4 [.ref o, l1, l2] (.ref o :: S) h X := w_st rfl
theorem s32_4 {l0 l1 l2 : Value} {S : List Value} {h : ex_Hp} {X : Option Value → ex_Hp → Prop} {o : Nat} : ex_W 32 4 [l0, l1, l2] (.ref o :: S) h X ↔ ex_gf (ex_g h o) 2 0 (fun w => ex_W 32 7 [l0, l1, l2] (w :: S) h X) := w_getf rfl rfl
theorem s32_7 {l0 l1 l2 : Value} {S : List Value} {h : ex_Hp} {X : Option Value → ex_Hp → Prop} {x z : Int32} : ex_W 32 7 [l0, l1, l2] (.int z :: .int x :: S) h X ↔ if z ≤ x then ex_W 32 28 [l0, l1, l2] S h X else ex_W 32 10 [l0, l1, l2] S h X := (w_st rfl).trans (w_cmp (p := z ≤ x) (by simp only [ex_cmp, decide_eq_true_eq]))
theorem s32_10 {l1 l2 : Value} {S : List Value} {h : ex_Hp} {X : Option Value → ex_Hp → Prop} {o : Nat} : ex_W 32 10 [.ref o, l1, l2] S h X ↔ ex_W 32 11 [.ref o, l1, l2] (.ref o :: S) h X := w_st rfl
theorem s32_11 {l0 l2 : Value} {S : List Value} {h : ex_Hp} {X : Option Value → ex_Hp → Prop} {x : Int32} : ex_W 32 11 [l0, .int x, l2] S h X ↔ ex_W 32 12 [l0, .int x, l2] (.int x :: S) h X := w_st rfl
theorem s32_12 {l0 l1 : Value} {S : List Value} {h : ex_Hp} {X : Option Value → ex_Hp → Prop} {x : Int32} : ex_W 32 12 [l0, l1, .int x] S h X ↔ ex_W 32 13 [l0, l1, .int x] (.int x :: S) h X := w_st rfl
theorem s32_13 {l0 l1 l2 : Value} {S : List Value} {h : ex_Hp} {X : Option Value → ex_Hp → Prop} {x0 : Nat} {x1 : Int32} {x2 : Int32} : ex_W 32 13 [l0, l1, l2] (.int x2 :: .int x1 :: .ref x0 :: S) h X ↔ ex_cat S ≤ 8 ∧ ex_is (ex_g h x0) 2 ∧ ex_W 31 0 [.ref x0, .int x1, .int x2] [] h (fun r h1 => ex_W 32 16 [l0, l1, l2] (r.toList ++ S) h1 X) := w_cav (o := x0) (As := [.int x1, .int x2]) (rest := S) rfl rfl rfl rfl rfl rfl rfl rfl rfl
theorem s32_16 {l0 l1 l2 : Value} {S : List Value} {h : ex_Hp} {X : Option Value → ex_Hp → Prop} : ex_W 32 16 [l0, l1, l2] S h X ↔ ex_W 32 17 [l0, l1, l2] (.int 1 :: S) h X := w_st rfl
theorem s32_17 {l0 l1 l2 : Value} {S : List Value} {h : ex_Hp} {X : Option Value → ex_Hp → Prop} {x z : Int32} : ex_W 32 17 [l0, l1, l2] (.int z :: .int x :: S) h X ↔ if ¬ x = z then ex_W 32 22 [l0, l1, l2] S h X else ex_W 32 20 [l0, l1, l2] S h X := (w_st rfl).trans (w_cmp (p := ¬ x = z) (by simp only [ex_cmp, decide_eq_true_eq]))
theorem s32_20 {l0 l1 : Value} {S : List Value} {h : ex_Hp} {X : Option Value → ex_Hp → Prop} {x : Int32} : ex_W 32 20 [l0, l1, .int x] S h X ↔ ex_W 32 21 [l0, l1, .int x] (.int x :: S) h X := w_st rfl
theorem s32_21 {l0 l1 l2 : Value} {h : ex_Hp} {X : Option Value → ex_Hp → Prop} {x : Int32} : ex_W 32 21 [l0, l1, l2] [.int x] h X ↔ X (some (.int x)) h := w_re rfl rfl
theorem s32_22 {l0 l1 : Value} {S : List Value} {h : ex_Hp} {X : Option Value → ex_Hp → Prop} {x : Int32} : ex_W 32 22 [l0, l1, .int x] S h X ↔ ex_W 32 25 [l0, l1, .int (x + 1)] S h X := w_st rfl
theorem s32_25 {l0 l1 l2 : Value} {S : List Value} {h : ex_Hp} {X : Option Value → ex_Hp → Prop} : ex_W 32 25 [l0, l1, l2] S h X ↔ ex_W 32 2 [l0, l1, l2] S h X := w_st rfl
theorem s32_28 {l0 l1 l2 : Value} {S : List Value} {h : ex_Hp} {X : Option Value → ex_Hp → Prop} : ex_W 32 28 [l0, l1, l2] S h X ↔ ex_W 32 29 [l0, l1, l2] (.int 0 :: S) h X := w_st rfl
theorem s32_29 {l0 l1 l2 : Value} {h : ex_Hp} {X : Option Value → ex_Hp → Prop} {x : Int32} : ex_W 32 29 [l0, l1, l2] [.int x] h X ↔ X (some (.int x)) h := w_re rfl rfl
-- 33: LoopStrands$Numbers.loopPower
theorem s33_0 {l0 : Value} {S : List Value} {h : ex_Hp} {X : Option Value → ex_Hp → Prop} {x : Int32} : ex_W 33 0 [l0, .int x] S h X ↔ ex_W 33 1 [l0, .int x] (.int x :: S) h X := w_st rfl
theorem s33_1 {l0 l1 : Value} {S : List Value} {h : ex_Hp} {X : Option Value → ex_Hp → Prop} : ex_W 33 1 [l0, l1] S h X ↔ ex_W 33 2 [l0, l1] (.int 0 :: S) h X := w_st rfl
theorem s33_2 {l0 l1 : Value} {S : List Value} {h : ex_Hp} {X : Option Value → ex_Hp → Prop} : ex_W 33 2 [l0, l1] S h X ↔ ex_W 33 3 [l0, l1] (.int 5 :: S) h X := w_st rfl
theorem s33_3 {l0 l1 : Value} {S : List Value} {h : ex_Hp} {X : Option Value → ex_Hp → Prop} {x0 : Int32} {x1 : Int32} {x2 : Int32} : ex_W 33 3 [l0, l1] (.int x2 :: .int x1 :: .int x0 :: S) h X ↔ ex_cat S ≤ 8 ∧ ex_W 85 0 [.int x0, .int x1, .int x2] [] h (fun r h1 => ex_W 33 6 [l0, l1] (r.toList ++ S) h1 X) := w_cas (A := [.int x0, .int x1, .int x2]) (rest := S) rfl rfl rfl rfl rfl rfl rfl (fun _ => rfl)
theorem s33_6 {l0 l1 : Value} {S : List Value} {h : ex_Hp} {X : Option Value → ex_Hp → Prop} {x : Int32} : ex_W 33 6 [l0, l1] (.int x :: S) h X ↔ if x = 0 then ex_W 33 18 [l0, l1] S h X else ex_W 33 9 [l0, l1] S h X := (w_st rfl).trans (w_cmp (p := x = 0) (by simp only [ex_cmp, decide_eq_true_eq]))
theorem s33_9 {l1 : Value} {S : List Value} {h : ex_Hp} {X : Option Value → ex_Hp → Prop} {o : Nat} : ex_W 33 9 [.ref o, l1] S h X ↔ ex_W 33 10 [.ref o, l1] (.ref o :: S) h X := w_st rfl
theorem s33_10 {l0 l1 : Value} {S : List Value} {h : ex_Hp} {X : Option Value → ex_Hp → Prop} {o : Nat} : ex_W 33 10 [l0, l1] (.ref o :: S) h X ↔ ex_gf (ex_g h o) 2 2 (fun w => ex_W 33 13 [l0, l1] (w :: S) h X) := w_getf rfl rfl
theorem s33_13 {l0 : Value} {S : List Value} {h : ex_Hp} {X : Option Value → ex_Hp → Prop} {x : Int32} : ex_W 33 13 [l0, .int x] S h X ↔ ex_W 33 14 [l0, .int x] (.int x :: S) h X := w_st rfl
theorem s33_14 {l0 l1 : Value} {S : List Value} {h : ex_Hp} {X : Option Value → ex_Hp → Prop} {o : Nat} {i : Int32} : ex_W 33 14 [l0, l1] (.int i :: .ref o :: S) h X ↔ ex_al (ex_g h o) i (fun z => ex_W 33 15 [l0, l1] (.int z :: S) h X) := w_iald rfl rfl
theorem s33_15 {l0 l1 : Value} {S : List Value} {h : ex_Hp} {X : Option Value → ex_Hp → Prop} : ex_W 33 15 [l0, l1] S h X ↔ ex_W 33 19 [l0, l1] S h X := w_st rfl
theorem s33_18 {l0 l1 : Value} {S : List Value} {h : ex_Hp} {X : Option Value → ex_Hp → Prop} : ex_W 33 18 [l0, l1] S h X ↔ ex_W 33 19 [l0, l1] (.int 0 :: S) h X := w_st rfl
theorem s33_19 {l0 l1 : Value} {h : ex_Hp} {X : Option Value → ex_Hp → Prop} {x : Int32} : ex_W 33 19 [l0, l1] [.int x] h X ↔ X (some (.int x)) h := w_re rfl rfl
-- 34: LoopStrands$Numbers.bracketOf
theorem s34_0 {l0 l1 l2 l3 l4 l5 : Value} {S : List Value} {h : ex_Hp} {X : Option Value → ex_Hp → Prop} : ex_W 34 0 [l0, l1, l2, l3, l4, l5] S h X ↔ ex_W 34 1 [l0, l1, l2, l3, l4, l5] (.int 0 :: S) h X := w_st rfl
theorem s34_1 {l0 l1 l2 l3 l4 l5 : Value} {S : List Value} {h : ex_Hp} {X : Option Value → ex_Hp → Prop} {x : Int32} : ex_W 34 1 [l0, l1, l2, l3, l4, l5] (.int x :: S) h X ↔ ex_W 34 2 [l0, l1, .int x, l3, l4, l5] S h X := w_st rfl
theorem s34_2 {l0 l1 l2 l3 l4 l5 : Value} {S : List Value} {h : ex_Hp} {X : Option Value → ex_Hp → Prop} : ex_W 34 2 [l0, l1, l2, l3, l4, l5] S h X ↔ ex_W 34 3 [l0, l1, l2, l3, l4, l5] (.int 1 :: S) h X := w_st rfl
theorem s34_3 {l0 l1 l2 l3 l4 l5 : Value} {S : List Value} {h : ex_Hp} {X : Option Value → ex_Hp → Prop} {x : Int32} : ex_W 34 3 [l0, l1, l2, l3, l4, l5] (.int x :: S) h X ↔ ex_W 34 4 [l0, l1, l2, .int x, l4, l5] S h X := w_st rfl
theorem s34_4 {l0 l1 l2 l3 l4 l5 : Value} {S : List Value} {h : ex_Hp} {X : Option Value → ex_Hp → Prop} : ex_W 34 4 [l0, l1, l2, l3, l4, l5] S h X ↔ ex_W 34 5 [l0, l1, l2, l3, l4, l5] (.int 0 :: S) h X := w_st rfl
theorem s34_5 {l0 l1 l2 l3 l4 l5 : Value} {S : List Value} {h : ex_Hp} {X : Option Value → ex_Hp → Prop} {x : Int32} : ex_W 34 5 [l0, l1, l2, l3, l4, l5] (.int x :: S) h X ↔ ex_W 34 7 [l0, l1, l2, l3, .int x, l5] S h X := w_st rfl
theorem s34_7 {l0 l1 l2 l3 l5 : Value} {S : List Value} {h : ex_Hp} {X : Option Value → ex_Hp → Prop} {x : Int32} : ex_W 34 7 [l0, l1, l2, l3, .int x, l5] S h X ↔ ex_W 34 9 [l0, l1, l2, l3, .int x, l5] (.int x :: S) h X := w_st rfl
theorem s34_9 {l0 l2 l3 l4 l5 : Value} {S : List Value} {h : ex_Hp} {X : Option Value → ex_Hp → Prop} {x : Int32} : ex_W 34 9 [l0, .int x, l2, l3, l4, l5] S h X ↔ ex_W 34 10 [l0, .int x, l2, l3, l4, l5] (.int x :: S) h X := w_st rfl
theorem s34_10 {l0 l1 l2 l3 l4 l5 : Value} {S : List Value} {h : ex_Hp} {X : Option Value → ex_Hp → Prop} {x z : Int32} : ex_W 34 10 [l0, l1, l2, l3, l4, l5] (.int z :: .int x :: S) h X ↔ if z ≤ x then ex_W 34 40 [l0, l1, l2, l3, l4, l5] S h X else ex_W 34 13 [l0, l1, l2, l3, l4, l5] S h X := (w_st rfl).trans (w_cmp (p := z ≤ x) (by simp only [ex_cmp, decide_eq_true_eq]))
theorem s34_13 {l1 l2 l3 l4 l5 : Value} {S : List Value} {h : ex_Hp} {X : Option Value → ex_Hp → Prop} {o : Nat} : ex_W 34 13 [.ref o, l1, l2, l3, l4, l5] S h X ↔ ex_W 34 14 [.ref o, l1, l2, l3, l4, l5] (.ref o :: S) h X := w_st rfl
theorem s34_14 {l1 l2 l3 l4 l5 : Value} {S : List Value} {h : ex_Hp} {X : Option Value → ex_Hp → Prop} {o : Nat} : ex_W 34 14 [.ref o, l1, l2, l3, l4, l5] S h X ↔ ex_W 34 15 [.ref o, l1, l2, l3, l4, l5] (.ref o :: S) h X := w_st rfl
theorem s34_15 {l1 l2 l3 l4 l5 : Value} {S : List Value} {h : ex_Hp} {X : Option Value → ex_Hp → Prop} {o : Nat} : ex_W 34 15 [.ref o, l1, l2, l3, l4, l5] S h X ↔ ex_W 34 16 [.ref o, l1, l2, l3, l4, l5] (.ref o :: S) h X := w_st rfl
theorem s34_16 {l0 l1 l2 l3 l4 l5 : Value} {S : List Value} {h : ex_Hp} {X : Option Value → ex_Hp → Prop} {o : Nat} : ex_W 34 16 [l0, l1, l2, l3, l4, l5] (.ref o :: S) h X ↔ ex_gf (ex_g h o) 2 1 (fun w => ex_W 34 19 [l0, l1, l2, l3, l4, l5] (w :: S) h X) := w_getf rfl rfl
theorem s34_19 {l0 l1 l2 l4 l5 : Value} {S : List Value} {h : ex_Hp} {X : Option Value → ex_Hp → Prop} {x : Int32} : ex_W 34 19 [l0, l1, l2, .int x, l4, l5] S h X ↔ ex_W 34 20 [l0, l1, l2, .int x, l4, l5] (.int x :: S) h X := w_st rfl
theorem s34_20 {l0 l1 l2 l3 l4 l5 : Value} {S : List Value} {h : ex_Hp} {X : Option Value → ex_Hp → Prop} {x0 : Nat} {x1 : Int32} {x2 : Int32} : ex_W 34 20 [l0, l1, l2, l3, l4, l5] (.int x2 :: .int x1 :: .ref x0 :: S) h X ↔ ex_cat S ≤ 8 ∧ ex_is (ex_g h x0) 2 ∧ ex_W 31 0 [.ref x0, .int x1, .int x2] [] h (fun r h1 => ex_W 34 23 [l0, l1, l2, l3, l4, l5] (r.toList ++ S) h1 X) := w_cav (o := x0) (As := [.int x1, .int x2]) (rest := S) rfl rfl rfl rfl rfl rfl rfl rfl rfl
theorem s34_23 {l0 l1 l3 l4 l5 : Value} {S : List Value} {h : ex_Hp} {X : Option Value → ex_Hp → Prop} {x : Int32} : ex_W 34 23 [l0, l1, .int x, l3, l4, l5] S h X ↔ ex_W 34 24 [l0, l1, .int x, l3, l4, l5] (.int x :: S) h X := w_st rfl
theorem s34_24 {l0 l1 l2 l3 l4 l5 : Value} {S : List Value} {h : ex_Hp} {X : Option Value → ex_Hp → Prop} {x0 : Nat} {x1 : Int32} {x2 : Int32} : ex_W 34 24 [l0, l1, l2, l3, l4, l5] (.int x2 :: .int x1 :: .ref x0 :: S) h X ↔ ex_cat S ≤ 8 ∧ ex_is (ex_g h x0) 2 ∧ ex_W 30 0 [.ref x0, .int x1, .int x2] [] h (fun r h1 => ex_W 34 27 [l0, l1, l2, l3, l4, l5] (r.toList ++ S) h1 X) := w_cav (o := x0) (As := [.int x1, .int x2]) (rest := S) rfl rfl rfl rfl rfl rfl rfl rfl rfl
theorem s34_27 {l0 l1 l2 l3 l4 l5 : Value} {S : List Value} {h : ex_Hp} {X : Option Value → ex_Hp → Prop} {x : Int32} : ex_W 34 27 [l0, l1, l2, l3, l4, l5] (.int x :: S) h X ↔ ex_W 34 29 [l0, l1, l2, l3, l4, .int x] S h X := w_st rfl
theorem s34_29 {l0 l1 l2 l4 l5 : Value} {S : List Value} {h : ex_Hp} {X : Option Value → ex_Hp → Prop} {x : Int32} : ex_W 34 29 [l0, l1, l2, .int x, l4, l5] S h X ↔ ex_W 34 30 [l0, l1, l2, .int x, l4, l5] (.int x :: S) h X := w_st rfl
theorem s34_30 {l0 l1 l2 l3 l4 l5 : Value} {S : List Value} {h : ex_Hp} {X : Option Value → ex_Hp → Prop} {x : Int32} : ex_W 34 30 [l0, l1, l2, l3, l4, l5] (.int x :: S) h X ↔ ex_W 34 31 [l0, l1, .int x, l3, l4, l5] S h X := w_st rfl
theorem s34_31 {l0 l1 l2 l3 l4 : Value} {S : List Value} {h : ex_Hp} {X : Option Value → ex_Hp → Prop} {x : Int32} : ex_W 34 31 [l0, l1, l2, l3, l4, .int x] S h X ↔ ex_W 34 33 [l0, l1, l2, l3, l4, .int x] (.int x :: S) h X := w_st rfl
theorem s34_33 {l0 l1 l2 l3 l4 l5 : Value} {S : List Value} {h : ex_Hp} {X : Option Value → ex_Hp → Prop} {x : Int32} : ex_W 34 33 [l0, l1, l2, l3, l4, l5] (.int x :: S) h X ↔ ex_W 34 34 [l0, l1, l2, .int x, l4, l5] S h X := w_st rfl
theorem s34_34 {l0 l1 l2 l3 l5 : Value} {S : List Value} {h : ex_Hp} {X : Option Value → ex_Hp → Prop} {x : Int32} : ex_W 34 34 [l0, l1, l2, l3, .int x, l5] S h X ↔ ex_W 34 37 [l0, l1, l2, l3, .int (x + 1), l5] S h X := w_st rfl
theorem s34_37 {l0 l1 l2 l3 l4 l5 : Value} {S : List Value} {h : ex_Hp} {X : Option Value → ex_Hp → Prop} : ex_W 34 37 [l0, l1, l2, l3, l4, l5] S h X ↔ ex_W 34 7 [l0, l1, l2, l3, l4, l5] S h X := w_st rfl
theorem s34_40 {l0 l1 l3 l4 l5 : Value} {S : List Value} {h : ex_Hp} {X : Option Value → ex_Hp → Prop} {x : Int32} : ex_W 34 40 [l0, l1, .int x, l3, l4, l5] S h X ↔ ex_W 34 41 [l0, l1, .int x, l3, l4, l5] (.int x :: S) h X := w_st rfl
theorem s34_41 {l0 l1 l2 l3 l4 l5 : Value} {h : ex_Hp} {X : Option Value → ex_Hp → Prop} {x : Int32} : ex_W 34 41 [l0, l1, l2, l3, l4, l5] [.int x] h X ↔ X (some (.int x)) h := w_re rfl rfl
-- 35: LoopStrands$Numbers.hasProjector
theorem s35_0 {l0 l1 l2 : Value} {S : List Value} {h : ex_Hp} {X : Option Value → ex_Hp → Prop} : ex_W 35 0 [l0, l1, l2] S h X ↔ ex_W 35 1 [l0, l1, l2] (.int 2 :: S) h X := w_st rfl
theorem s35_1 {l0 l1 l2 : Value} {S : List Value} {h : ex_Hp} {X : Option Value → ex_Hp → Prop} {x : Int32} : ex_W 35 1 [l0, l1, l2] (.int x :: S) h X ↔ ex_W 35 2 [l0, l1, .int x] S h X := w_st rfl
theorem s35_2 {l0 l1 : Value} {S : List Value} {h : ex_Hp} {X : Option Value → ex_Hp → Prop} {x : Int32} : ex_W 35 2 [l0, l1, .int x] S h X ↔ ex_W 35 3 [l0, l1, .int x] (.int x :: S) h X := w_st rfl
theorem s35_3 {l0 l2 : Value} {S : List Value} {h : ex_Hp} {X : Option Value → ex_Hp → Prop} {x : Int32} : ex_W 35 3 [l0, .int x, l2] S h X ↔ ex_W 35 4 [l0, .int x, l2] (.int x :: S) h X := w_st rfl
theorem s35_4 {l0 l1 l2 : Value} {S : List Value} {h : ex_Hp} {X : Option Value → ex_Hp → Prop} {x z : Int32} : ex_W 35 4 [l0, l1, l2] (.int z :: .int x :: S) h X ↔ if z < x then ex_W 35 23 [l0, l1, l2] S h X else ex_W 35 7 [l0, l1, l2] S h X := (w_st rfl).trans (w_cmp (p := z < x) (by simp only [ex_cmp, decide_eq_true_eq]))
theorem s35_7 {l1 l2 : Value} {S : List Value} {h : ex_Hp} {X : Option Value → ex_Hp → Prop} {o : Nat} : ex_W 35 7 [.ref o, l1, l2] S h X ↔ ex_W 35 8 [.ref o, l1, l2] (.ref o :: S) h X := w_st rfl
theorem s35_8 {l0 l1 : Value} {S : List Value} {h : ex_Hp} {X : Option Value → ex_Hp → Prop} {x : Int32} : ex_W 35 8 [l0, l1, .int x] S h X ↔ ex_W 35 9 [l0, l1, .int x] (.int x :: S) h X := w_st rfl
theorem s35_9 {l0 l1 l2 : Value} {S : List Value} {h : ex_Hp} {X : Option Value → ex_Hp → Prop} {x0 : Nat} {x1 : Int32} : ex_W 35 9 [l0, l1, l2] (.int x1 :: .ref x0 :: S) h X ↔ ex_cat S ≤ 8 ∧ ex_is (ex_g h x0) 2 ∧ ex_W 34 0 [.ref x0, .int x1, oU, oU, oU, oU] [] h (fun r h1 => ex_W 35 12 [l0, l1, l2] (r.toList ++ S) h1 X) := w_cav (o := x0) (As := [.int x1]) (rest := S) rfl rfl rfl rfl rfl rfl rfl rfl rfl
theorem s35_12 {l0 l1 l2 : Value} {S : List Value} {h : ex_Hp} {X : Option Value → ex_Hp → Prop} {x : Int32} : ex_W 35 12 [l0, l1, l2] (.int x :: S) h X ↔ if ¬ x = 0 then ex_W 35 17 [l0, l1, l2] S h X else ex_W 35 15 [l0, l1, l2] S h X := (w_st rfl).trans (w_cmp (p := ¬ x = 0) (by simp only [ex_cmp, decide_eq_true_eq]))
theorem s35_15 {l0 l1 l2 : Value} {S : List Value} {h : ex_Hp} {X : Option Value → ex_Hp → Prop} : ex_W 35 15 [l0, l1, l2] S h X ↔ ex_W 35 16 [l0, l1, l2] (.int 0 :: S) h X := w_st rfl
theorem s35_16 {l0 l1 l2 : Value} {h : ex_Hp} {X : Option Value → ex_Hp → Prop} {x : Int32} : ex_W 35 16 [l0, l1, l2] [.int x] h X ↔ (x = 0 ∨ x = 1) ∧ X (some (.int x)) h := w_rez rfl
theorem s35_17 {l0 l1 : Value} {S : List Value} {h : ex_Hp} {X : Option Value → ex_Hp → Prop} {x : Int32} : ex_W 35 17 [l0, l1, .int x] S h X ↔ ex_W 35 20 [l0, l1, .int (x + 1)] S h X := w_st rfl
theorem s35_20 {l0 l1 l2 : Value} {S : List Value} {h : ex_Hp} {X : Option Value → ex_Hp → Prop} : ex_W 35 20 [l0, l1, l2] S h X ↔ ex_W 35 2 [l0, l1, l2] S h X := w_st rfl
theorem s35_23 {l0 l1 l2 : Value} {S : List Value} {h : ex_Hp} {X : Option Value → ex_Hp → Prop} : ex_W 35 23 [l0, l1, l2] S h X ↔ ex_W 35 24 [l0, l1, l2] (.int 1 :: S) h X := w_st rfl
theorem s35_24 {l0 l1 l2 : Value} {h : ex_Hp} {X : Option Value → ex_Hp → Prop} {x : Int32} : ex_W 35 24 [l0, l1, l2] [.int x] h X ↔ (x = 0 ∨ x = 1) ∧ X (some (.int x)) h := w_rez rfl
-- 84: LoopStrands.count
theorem s84_0 {l0 : Value} {S : List Value} {h : ex_Hp} {X : Option Value → ex_Hp → Prop} {x : Int32} : ex_W 84 0 [l0, .int x] S h X ↔ ex_W 84 1 [l0, .int x] (.int x :: S) h X := w_st rfl
theorem s84_1 {l0 l1 : Value} {S : List Value} {h : ex_Hp} {X : Option Value → ex_Hp → Prop} {x : Int32} : ex_W 84 1 [l0, l1] (.int x :: S) h X ↔ if x = 0 then ex_W 84 40 [l0, l1] S h X else if x = 1 then ex_W 84 51 [l0, l1] S h X else if x = 2 then ex_W 84 65 [l0, l1] S h X else if x = 3 then ex_W 84 76 [l0, l1] S h X else if x = 4 then ex_W 84 87 [l0, l1] S h X else if x = 5 then ex_W 84 95 [l0, l1] S h X else ex_W 84 125 [l0, l1] S h X := (w_tsw rfl).trans (by
  by_cases q0 : x = 0
  · subst q0
    exact Iff.rfl
  by_cases q1 : x = 1
  · subst q1
    exact Iff.rfl
  by_cases q2 : x = 2
  · subst q2
    exact Iff.rfl
  by_cases q3 : x = 3
  · subst q3
    exact Iff.rfl
  by_cases q4 : x = 4
  · subst q4
    exact Iff.rfl
  by_cases q5 : x = 5
  · subst q5
    exact Iff.rfl
  have r0 := lv_neT (a := 0) q0 rfl
  have r1 := lv_neT (a := 1) q1 rfl
  have r2 := lv_neT (a := 2) q2 rfl
  have r3 := lv_neT (a := 3) q3 rfl
  have r4 := lv_neT (a := 4) q4 rfl
  have r5 := lv_neT (a := 5) q5 rfl
  rw [if_pos (show x.toInt < 0 ∨ (5 : Int) < x.toInt by omega), if_neg q0, if_neg q1, if_neg q2, if_neg q3, if_neg q4, if_neg q5])
theorem s84_40 {l1 : Value} {S : List Value} {h : ex_Hp} {X : Option Value → ex_Hp → Prop} {o : Nat} : ex_W 84 40 [.ref o, l1] S h X ↔ ex_W 84 41 [.ref o, l1] (.ref o :: S) h X := w_st rfl
theorem s84_41 {l0 l1 : Value} {S : List Value} {h : ex_Hp} {X : Option Value → ex_Hp → Prop} {o : Nat} : ex_W 84 41 [l0, l1] (.ref o :: S) h X ↔ ex_gf (ex_g h o) 7 2 (fun w => ex_W 84 44 [l0, l1] (w :: S) h X) := w_getf rfl rfl
theorem s84_44 {l0 l1 : Value} {S : List Value} {h : ex_Hp} {X : Option Value → ex_Hp → Prop} {o : Nat} : ex_W 84 44 [l0, l1] (.ref o :: S) h X ↔ ex_gf (ex_g h o) 4 0 (fun w => ex_W 84 47 [l0, l1] (w :: S) h X) := w_getf rfl rfl
theorem s84_47 {l0 l1 : Value} {S : List Value} {h : ex_Hp} {X : Option Value → ex_Hp → Prop} {o : Nat} : ex_W 84 47 [l0, l1] (.ref o :: S) h X ↔ ex_gf (ex_g h o) 1 0 (fun w => ex_W 84 50 [l0, l1] (w :: S) h X) := w_getf rfl rfl
theorem s84_50 {l0 l1 : Value} {h : ex_Hp} {X : Option Value → ex_Hp → Prop} {x : Int32} : ex_W 84 50 [l0, l1] [.int x] h X ↔ X (some (.int x)) h := w_re rfl rfl
theorem s84_51 {l1 : Value} {S : List Value} {h : ex_Hp} {X : Option Value → ex_Hp → Prop} {o : Nat} : ex_W 84 51 [.ref o, l1] S h X ↔ ex_W 84 52 [.ref o, l1] (.ref o :: S) h X := w_st rfl
theorem s84_52 {l0 l1 : Value} {S : List Value} {h : ex_Hp} {X : Option Value → ex_Hp → Prop} {o : Nat} : ex_W 84 52 [l0, l1] (.ref o :: S) h X ↔ ex_gf (ex_g h o) 7 2 (fun w => ex_W 84 55 [l0, l1] (w :: S) h X) := w_getf rfl rfl
theorem s84_55 {l0 l1 : Value} {S : List Value} {h : ex_Hp} {X : Option Value → ex_Hp → Prop} {o : Nat} : ex_W 84 55 [l0, l1] (.ref o :: S) h X ↔ ex_gf (ex_g h o) 4 0 (fun w => ex_W 84 58 [l0, l1] (w :: S) h X) := w_getf rfl rfl
theorem s84_58 {l0 l1 : Value} {S : List Value} {h : ex_Hp} {X : Option Value → ex_Hp → Prop} {o : Nat} : ex_W 84 58 [l0, l1] (.ref o :: S) h X ↔ ex_gf (ex_g h o) 1 2 (fun w => ex_W 84 61 [l0, l1] (w :: S) h X) := w_getf rfl rfl
theorem s84_61 {l0 l1 : Value} {S : List Value} {h : ex_Hp} {X : Option Value → ex_Hp → Prop} {o : Nat} : ex_W 84 61 [l0, l1] (.ref o :: S) h X ↔ ex_gf (ex_g h o) 6 0 (fun w => ex_W 84 64 [l0, l1] (w :: S) h X) := w_getf rfl rfl
theorem s84_64 {l0 l1 : Value} {h : ex_Hp} {X : Option Value → ex_Hp → Prop} {x : Int32} : ex_W 84 64 [l0, l1] [.int x] h X ↔ X (some (.int x)) h := w_re rfl rfl
theorem s84_65 {l1 : Value} {S : List Value} {h : ex_Hp} {X : Option Value → ex_Hp → Prop} {o : Nat} : ex_W 84 65 [.ref o, l1] S h X ↔ ex_W 84 66 [.ref o, l1] (.ref o :: S) h X := w_st rfl
theorem s84_66 {l0 l1 : Value} {S : List Value} {h : ex_Hp} {X : Option Value → ex_Hp → Prop} {o : Nat} : ex_W 84 66 [l0, l1] (.ref o :: S) h X ↔ ex_gf (ex_g h o) 7 2 (fun w => ex_W 84 69 [l0, l1] (w :: S) h X) := w_getf rfl rfl
theorem s84_69 {l0 l1 : Value} {S : List Value} {h : ex_Hp} {X : Option Value → ex_Hp → Prop} {o : Nat} : ex_W 84 69 [l0, l1] (.ref o :: S) h X ↔ ex_gf (ex_g h o) 4 1 (fun w => ex_W 84 72 [l0, l1] (w :: S) h X) := w_getf rfl rfl
theorem s84_72 {l0 l1 : Value} {S : List Value} {h : ex_Hp} {X : Option Value → ex_Hp → Prop} {o : Nat} : ex_W 84 72 [l0, l1] (.ref o :: S) h X ↔ ex_gf (ex_g h o) 2 0 (fun w => ex_W 84 75 [l0, l1] (w :: S) h X) := w_getf rfl rfl
theorem s84_75 {l0 l1 : Value} {h : ex_Hp} {X : Option Value → ex_Hp → Prop} {x : Int32} : ex_W 84 75 [l0, l1] [.int x] h X ↔ X (some (.int x)) h := w_re rfl rfl
theorem s84_76 {l1 : Value} {S : List Value} {h : ex_Hp} {X : Option Value → ex_Hp → Prop} {o : Nat} : ex_W 84 76 [.ref o, l1] S h X ↔ ex_W 84 77 [.ref o, l1] (.ref o :: S) h X := w_st rfl
theorem s84_77 {l0 l1 : Value} {S : List Value} {h : ex_Hp} {X : Option Value → ex_Hp → Prop} {o : Nat} : ex_W 84 77 [l0, l1] (.ref o :: S) h X ↔ ex_gf (ex_g h o) 7 2 (fun w => ex_W 84 80 [l0, l1] (w :: S) h X) := w_getf rfl rfl
theorem s84_80 {l0 l1 : Value} {S : List Value} {h : ex_Hp} {X : Option Value → ex_Hp → Prop} {o : Nat} : ex_W 84 80 [l0, l1] (.ref o :: S) h X ↔ ex_gf (ex_g h o) 4 1 (fun w => ex_W 84 83 [l0, l1] (w :: S) h X) := w_getf rfl rfl
theorem s84_83 {l0 l1 : Value} {S : List Value} {h : ex_Hp} {X : Option Value → ex_Hp → Prop} {o : Nat} : ex_W 84 83 [l0, l1] (.ref o :: S) h X ↔ ex_gf (ex_g h o) 2 1 (fun w => ex_W 84 86 [l0, l1] (w :: S) h X) := w_getf rfl rfl
theorem s84_86 {l0 l1 : Value} {h : ex_Hp} {X : Option Value → ex_Hp → Prop} {x : Int32} : ex_W 84 86 [l0, l1] [.int x] h X ↔ X (some (.int x)) h := w_re rfl rfl
theorem s84_87 {l1 : Value} {S : List Value} {h : ex_Hp} {X : Option Value → ex_Hp → Prop} {o : Nat} : ex_W 84 87 [.ref o, l1] S h X ↔ ex_W 84 88 [.ref o, l1] (.ref o :: S) h X := w_st rfl
theorem s84_88 {l0 l1 : Value} {S : List Value} {h : ex_Hp} {X : Option Value → ex_Hp → Prop} {o : Nat} : ex_W 84 88 [l0, l1] (.ref o :: S) h X ↔ ex_gf (ex_g h o) 7 0 (fun w => ex_W 84 91 [l0, l1] (w :: S) h X) := w_getf rfl rfl
theorem s84_91 {l0 l1 : Value} {S : List Value} {h : ex_Hp} {X : Option Value → ex_Hp → Prop} {o : Nat} : ex_W 84 91 [l0, l1] (.ref o :: S) h X ↔ ex_gf (ex_g h o) 3 1 (fun w => ex_W 84 94 [l0, l1] (w :: S) h X) := w_getf rfl rfl
theorem s84_94 {l0 l1 : Value} {h : ex_Hp} {X : Option Value → ex_Hp → Prop} {x : Int32} : ex_W 84 94 [l0, l1] [.int x] h X ↔ X (some (.int x)) h := w_re rfl rfl
theorem s84_95 {l1 : Value} {S : List Value} {h : ex_Hp} {X : Option Value → ex_Hp → Prop} {o : Nat} : ex_W 84 95 [.ref o, l1] S h X ↔ ex_W 84 96 [.ref o, l1] (.ref o :: S) h X := w_st rfl
theorem s84_96 {l0 l1 : Value} {S : List Value} {h : ex_Hp} {X : Option Value → ex_Hp → Prop} {o : Nat} : ex_W 84 96 [l0, l1] (.ref o :: S) h X ↔ ex_gf (ex_g h o) 7 3 (fun w => ex_W 84 99 [l0, l1] (w :: S) h X) := w_getf rfl rfl
theorem s84_99 {l0 l1 : Value} {S : List Value} {h : ex_Hp} {X : Option Value → ex_Hp → Prop} : ex_W 84 99 [l0, l1] S h X ↔ ex_W 84 100 [l0, l1] (.int 0 :: S) h X := w_st rfl
theorem s84_100 {l0 l1 : Value} {S : List Value} {h : ex_Hp} {X : Option Value → ex_Hp → Prop} {o : Nat} {i : Int32} : ex_W 84 100 [l0, l1] (.int i :: .ref o :: S) h X ↔ ex_rl (ex_g h o) i (fun w => ex_W 84 101 [l0, l1] (w :: S) h X) := w_aald rfl rfl
theorem s84_101n {l0 l1 : Value} {S : List Value} {h : ex_Hp} {X : Option Value → ex_Hp → Prop} : ex_W 84 101 [l0, l1] (.null :: S) h X ↔ ex_W 84 104 [l0, l1] S h X := w_st rfl
theorem s84_101 {l0 l1 : Value} {S : List Value} {h : ex_Hp} {X : Option Value → ex_Hp → Prop} {o : Nat} : ex_W 84 101 [l0, l1] (.ref o :: S) h X ↔ ex_W 84 108 [l0, l1] S h X := w_st rfl
theorem s84_104 {l0 l1 : Value} {S : List Value} {h : ex_Hp} {X : Option Value → ex_Hp → Prop} : ex_W 84 104 [l0, l1] S h X ↔ ex_W 84 105 [l0, l1] (.int 0 :: S) h X := w_st rfl
theorem s84_105 {l0 l1 : Value} {S : List Value} {h : ex_Hp} {X : Option Value → ex_Hp → Prop} : ex_W 84 105 [l0, l1] S h X ↔ ex_W 84 109 [l0, l1] S h X := w_st rfl
theorem s84_108 {l0 l1 : Value} {S : List Value} {h : ex_Hp} {X : Option Value → ex_Hp → Prop} : ex_W 84 108 [l0, l1] S h X ↔ ex_W 84 109 [l0, l1] (.int 1 :: S) h X := w_st rfl
theorem s84_109 {l1 : Value} {S : List Value} {h : ex_Hp} {X : Option Value → ex_Hp → Prop} {o : Nat} : ex_W 84 109 [.ref o, l1] S h X ↔ ex_W 84 110 [.ref o, l1] (.ref o :: S) h X := w_st rfl
theorem s84_110 {l0 l1 : Value} {S : List Value} {h : ex_Hp} {X : Option Value → ex_Hp → Prop} {o : Nat} : ex_W 84 110 [l0, l1] (.ref o :: S) h X ↔ ex_gf (ex_g h o) 7 3 (fun w => ex_W 84 113 [l0, l1] (w :: S) h X) := w_getf rfl rfl
theorem s84_113 {l0 l1 : Value} {S : List Value} {h : ex_Hp} {X : Option Value → ex_Hp → Prop} : ex_W 84 113 [l0, l1] S h X ↔ ex_W 84 114 [l0, l1] (.int 1 :: S) h X := w_st rfl
theorem s84_114 {l0 l1 : Value} {S : List Value} {h : ex_Hp} {X : Option Value → ex_Hp → Prop} {o : Nat} {i : Int32} : ex_W 84 114 [l0, l1] (.int i :: .ref o :: S) h X ↔ ex_rl (ex_g h o) i (fun w => ex_W 84 115 [l0, l1] (w :: S) h X) := w_aald rfl rfl
theorem s84_115n {l0 l1 : Value} {S : List Value} {h : ex_Hp} {X : Option Value → ex_Hp → Prop} : ex_W 84 115 [l0, l1] (.null :: S) h X ↔ ex_W 84 118 [l0, l1] S h X := w_st rfl
theorem s84_115 {l0 l1 : Value} {S : List Value} {h : ex_Hp} {X : Option Value → ex_Hp → Prop} {o : Nat} : ex_W 84 115 [l0, l1] (.ref o :: S) h X ↔ ex_W 84 122 [l0, l1] S h X := w_st rfl
theorem s84_118 {l0 l1 : Value} {S : List Value} {h : ex_Hp} {X : Option Value → ex_Hp → Prop} : ex_W 84 118 [l0, l1] S h X ↔ ex_W 84 119 [l0, l1] (.int 0 :: S) h X := w_st rfl
theorem s84_119 {l0 l1 : Value} {S : List Value} {h : ex_Hp} {X : Option Value → ex_Hp → Prop} : ex_W 84 119 [l0, l1] S h X ↔ ex_W 84 123 [l0, l1] S h X := w_st rfl
theorem s84_122 {l0 l1 : Value} {S : List Value} {h : ex_Hp} {X : Option Value → ex_Hp → Prop} : ex_W 84 122 [l0, l1] S h X ↔ ex_W 84 123 [l0, l1] (.int 2 :: S) h X := w_st rfl
theorem s84_123 {l0 l1 : Value} {S : List Value} {h : ex_Hp} {X : Option Value → ex_Hp → Prop} {x z : Int32} : ex_W 84 123 [l0, l1] (.int z :: .int x :: S) h X ↔ ex_W 84 124 [l0, l1] (.int (x + z) :: S) h X := w_st rfl
theorem s84_124 {l0 l1 : Value} {h : ex_Hp} {X : Option Value → ex_Hp → Prop} {x : Int32} : ex_W 84 124 [l0, l1] [.int x] h X ↔ X (some (.int x)) h := w_re rfl rfl
theorem s84_125 {l0 l1 : Value} {S : List Value} {h : ex_Hp} {X : Option Value → ex_Hp → Prop} : ex_W 84 125 [l0, l1] S h X ↔ ex_W 84 127 [l0, l1] (.int (-2) :: S) h X := w_st rfl
theorem s84_127 {l0 l1 : Value} {h : ex_Hp} {X : Option Value → ex_Hp → Prop} {x : Int32} : ex_W 84 127 [l0, l1] [.int x] h X ↔ X (some (.int x)) h := w_re rfl rfl
end
section
/-! objects and arrays: what a read or a write of a known cell is -/
theorem gf0_0 {a0 a1 a2 : Value} {F : Value → Prop} : ex_gf (some (cO 0 [a0, a1, a2])) 0 0 F = F a0 := rfl
theorem pf0_0 {a0 a1 a2 : Value} {z : Nat} {F : ex_AC → Prop} : ex_pf (some (cO 0 [a0, a1, a2])) 0 0 (.ref z) F = F (cO 0 [.ref z, a1, a2]) := rfl
theorem gf0_1 {a0 a1 a2 : Value} {F : Value → Prop} : ex_gf (some (cO 0 [a0, a1, a2])) 0 1 F = F a1 := rfl
theorem pf0_1 {a0 a1 a2 : Value} {z : Nat} {F : ex_AC → Prop} : ex_pf (some (cO 0 [a0, a1, a2])) 0 1 (.ref z) F = F (cO 0 [a0, .ref z, a2]) := rfl
theorem gf0_2 {a0 a1 a2 : Value} {F : Value → Prop} : ex_gf (some (cO 0 [a0, a1, a2])) 0 2 F = F a2 := rfl
theorem pf0_2 {a0 a1 a2 : Value} {z : Nat} {F : ex_AC → Prop} : ex_pf (some (cO 0 [a0, a1, a2])) 0 2 (.ref z) F = F (cO 0 [a0, a1, .ref z]) := rfl
theorem gf1_0 {a0 a1 a2 a3 a4 a5 a6 a7 a8 a9 a10 a11 : Value} {F : Value → Prop} : ex_gf (some (cO 1 [a0, a1, a2, a3, a4, a5, a6, a7, a8, a9, a10, a11])) 1 0 F = F a0 := rfl
theorem pf1_0 {a0 a1 a2 a3 a4 a5 a6 a7 a8 a9 a10 a11 : Value} {x : Int32} {F : ex_AC → Prop} : ex_pf (some (cO 1 [a0, a1, a2, a3, a4, a5, a6, a7, a8, a9, a10, a11])) 1 0 (.int x) F = F (cO 1 [.int x, a1, a2, a3, a4, a5, a6, a7, a8, a9, a10, a11]) := rfl
theorem gf1_1 {a0 a1 a2 a3 a4 a5 a6 a7 a8 a9 a10 a11 : Value} {F : Value → Prop} : ex_gf (some (cO 1 [a0, a1, a2, a3, a4, a5, a6, a7, a8, a9, a10, a11])) 1 1 F = F a1 := rfl
theorem pf1_1 {a0 a1 a2 a3 a4 a5 a6 a7 a8 a9 a10 a11 : Value} {x : Int32} {F : ex_AC → Prop} : ex_pf (some (cO 1 [a0, a1, a2, a3, a4, a5, a6, a7, a8, a9, a10, a11])) 1 1 (.int x) F = F (cO 1 [a0, .int x, a2, a3, a4, a5, a6, a7, a8, a9, a10, a11]) := rfl
theorem gf1_2 {a0 a1 a2 a3 a4 a5 a6 a7 a8 a9 a10 a11 : Value} {F : Value → Prop} : ex_gf (some (cO 1 [a0, a1, a2, a3, a4, a5, a6, a7, a8, a9, a10, a11])) 1 2 F = F a2 := rfl
theorem pf1_2 {a0 a1 a2 a3 a4 a5 a6 a7 a8 a9 a10 a11 : Value} {z : Nat} {F : ex_AC → Prop} : ex_pf (some (cO 1 [a0, a1, a2, a3, a4, a5, a6, a7, a8, a9, a10, a11])) 1 2 (.ref z) F = F (cO 1 [a0, a1, .ref z, a3, a4, a5, a6, a7, a8, a9, a10, a11]) := rfl
theorem gf1_3 {a0 a1 a2 a3 a4 a5 a6 a7 a8 a9 a10 a11 : Value} {F : Value → Prop} : ex_gf (some (cO 1 [a0, a1, a2, a3, a4, a5, a6, a7, a8, a9, a10, a11])) 1 3 F = F a3 := rfl
theorem pf1_3 {a0 a1 a2 a3 a4 a5 a6 a7 a8 a9 a10 a11 : Value} {z : Nat} {F : ex_AC → Prop} : ex_pf (some (cO 1 [a0, a1, a2, a3, a4, a5, a6, a7, a8, a9, a10, a11])) 1 3 (.ref z) F = F (cO 1 [a0, a1, a2, .ref z, a4, a5, a6, a7, a8, a9, a10, a11]) := rfl
theorem gf1_4 {a0 a1 a2 a3 a4 a5 a6 a7 a8 a9 a10 a11 : Value} {F : Value → Prop} : ex_gf (some (cO 1 [a0, a1, a2, a3, a4, a5, a6, a7, a8, a9, a10, a11])) 1 4 F = F a4 := rfl
theorem pf1_4 {a0 a1 a2 a3 a4 a5 a6 a7 a8 a9 a10 a11 : Value} {z : Nat} {F : ex_AC → Prop} : ex_pf (some (cO 1 [a0, a1, a2, a3, a4, a5, a6, a7, a8, a9, a10, a11])) 1 4 (.ref z) F = F (cO 1 [a0, a1, a2, a3, .ref z, a5, a6, a7, a8, a9, a10, a11]) := rfl
theorem gf1_5 {a0 a1 a2 a3 a4 a5 a6 a7 a8 a9 a10 a11 : Value} {F : Value → Prop} : ex_gf (some (cO 1 [a0, a1, a2, a3, a4, a5, a6, a7, a8, a9, a10, a11])) 1 5 F = F a5 := rfl
theorem pf1_5 {a0 a1 a2 a3 a4 a5 a6 a7 a8 a9 a10 a11 : Value} {z : Nat} {F : ex_AC → Prop} : ex_pf (some (cO 1 [a0, a1, a2, a3, a4, a5, a6, a7, a8, a9, a10, a11])) 1 5 (.ref z) F = F (cO 1 [a0, a1, a2, a3, a4, .ref z, a6, a7, a8, a9, a10, a11]) := rfl
theorem gf1_6 {a0 a1 a2 a3 a4 a5 a6 a7 a8 a9 a10 a11 : Value} {F : Value → Prop} : ex_gf (some (cO 1 [a0, a1, a2, a3, a4, a5, a6, a7, a8, a9, a10, a11])) 1 6 F = F a6 := rfl
theorem pf1_6 {a0 a1 a2 a3 a4 a5 a6 a7 a8 a9 a10 a11 : Value} {z : Nat} {F : ex_AC → Prop} : ex_pf (some (cO 1 [a0, a1, a2, a3, a4, a5, a6, a7, a8, a9, a10, a11])) 1 6 (.ref z) F = F (cO 1 [a0, a1, a2, a3, a4, a5, .ref z, a7, a8, a9, a10, a11]) := rfl
theorem gf1_7 {a0 a1 a2 a3 a4 a5 a6 a7 a8 a9 a10 a11 : Value} {F : Value → Prop} : ex_gf (some (cO 1 [a0, a1, a2, a3, a4, a5, a6, a7, a8, a9, a10, a11])) 1 7 F = F a7 := rfl
theorem pf1_7 {a0 a1 a2 a3 a4 a5 a6 a7 a8 a9 a10 a11 : Value} {z : Nat} {F : ex_AC → Prop} : ex_pf (some (cO 1 [a0, a1, a2, a3, a4, a5, a6, a7, a8, a9, a10, a11])) 1 7 (.ref z) F = F (cO 1 [a0, a1, a2, a3, a4, a5, a6, .ref z, a8, a9, a10, a11]) := rfl
theorem gf1_8 {a0 a1 a2 a3 a4 a5 a6 a7 a8 a9 a10 a11 : Value} {F : Value → Prop} : ex_gf (some (cO 1 [a0, a1, a2, a3, a4, a5, a6, a7, a8, a9, a10, a11])) 1 8 F = F a8 := rfl
theorem pf1_8 {a0 a1 a2 a3 a4 a5 a6 a7 a8 a9 a10 a11 : Value} {z : Nat} {F : ex_AC → Prop} : ex_pf (some (cO 1 [a0, a1, a2, a3, a4, a5, a6, a7, a8, a9, a10, a11])) 1 8 (.ref z) F = F (cO 1 [a0, a1, a2, a3, a4, a5, a6, a7, .ref z, a9, a10, a11]) := rfl
theorem gf1_9 {a0 a1 a2 a3 a4 a5 a6 a7 a8 a9 a10 a11 : Value} {F : Value → Prop} : ex_gf (some (cO 1 [a0, a1, a2, a3, a4, a5, a6, a7, a8, a9, a10, a11])) 1 9 F = F a9 := rfl
theorem pf1_9 {a0 a1 a2 a3 a4 a5 a6 a7 a8 a9 a10 a11 : Value} {z : Nat} {F : ex_AC → Prop} : ex_pf (some (cO 1 [a0, a1, a2, a3, a4, a5, a6, a7, a8, a9, a10, a11])) 1 9 (.ref z) F = F (cO 1 [a0, a1, a2, a3, a4, a5, a6, a7, a8, .ref z, a10, a11]) := rfl
theorem gf1_10 {a0 a1 a2 a3 a4 a5 a6 a7 a8 a9 a10 a11 : Value} {F : Value → Prop} : ex_gf (some (cO 1 [a0, a1, a2, a3, a4, a5, a6, a7, a8, a9, a10, a11])) 1 10 F = F a10 := rfl
theorem pf1_10 {a0 a1 a2 a3 a4 a5 a6 a7 a8 a9 a10 a11 : Value} {z : Nat} {F : ex_AC → Prop} : ex_pf (some (cO 1 [a0, a1, a2, a3, a4, a5, a6, a7, a8, a9, a10, a11])) 1 10 (.ref z) F = F (cO 1 [a0, a1, a2, a3, a4, a5, a6, a7, a8, a9, .ref z, a11]) := rfl
theorem gf1_11 {a0 a1 a2 a3 a4 a5 a6 a7 a8 a9 a10 a11 : Value} {F : Value → Prop} : ex_gf (some (cO 1 [a0, a1, a2, a3, a4, a5, a6, a7, a8, a9, a10, a11])) 1 11 F = F a11 := rfl
theorem pf1_11 {a0 a1 a2 a3 a4 a5 a6 a7 a8 a9 a10 a11 : Value} {z : Nat} {F : ex_AC → Prop} : ex_pf (some (cO 1 [a0, a1, a2, a3, a4, a5, a6, a7, a8, a9, a10, a11])) 1 11 (.ref z) F = F (cO 1 [a0, a1, a2, a3, a4, a5, a6, a7, a8, a9, a10, .ref z]) := rfl
theorem gf2_0 {a0 a1 a2 : Value} {F : Value → Prop} : ex_gf (some (cO 2 [a0, a1, a2])) 2 0 F = F a0 := rfl
theorem pf2_0 {a0 a1 a2 : Value} {x : Int32} {F : ex_AC → Prop} : ex_pf (some (cO 2 [a0, a1, a2])) 2 0 (.int x) F = F (cO 2 [.int x, a1, a2]) := rfl
theorem gf2_1 {a0 a1 a2 : Value} {F : Value → Prop} : ex_gf (some (cO 2 [a0, a1, a2])) 2 1 F = F a1 := rfl
theorem pf2_1 {a0 a1 a2 : Value} {x : Int32} {F : ex_AC → Prop} : ex_pf (some (cO 2 [a0, a1, a2])) 2 1 (.int x) F = F (cO 2 [a0, .int x, a2]) := rfl
theorem gf2_2 {a0 a1 a2 : Value} {F : Value → Prop} : ex_gf (some (cO 2 [a0, a1, a2])) 2 2 F = F a2 := rfl
theorem pf2_2 {a0 a1 a2 : Value} {z : Nat} {F : ex_AC → Prop} : ex_pf (some (cO 2 [a0, a1, a2])) 2 2 (.ref z) F = F (cO 2 [a0, a1, .ref z]) := rfl
theorem gf3_0 {a0 a1 : Value} {F : Value → Prop} : ex_gf (some (cO 3 [a0, a1])) 3 0 F = F a0 := rfl
theorem pf3_0 {a0 a1 : Value} {z : Nat} {F : ex_AC → Prop} : ex_pf (some (cO 3 [a0, a1])) 3 0 (.ref z) F = F (cO 3 [.ref z, a1]) := rfl
theorem gf3_1 {a0 a1 : Value} {F : Value → Prop} : ex_gf (some (cO 3 [a0, a1])) 3 1 F = F a1 := rfl
theorem pf3_1 {a0 a1 : Value} {x : Int32} {F : ex_AC → Prop} : ex_pf (some (cO 3 [a0, a1])) 3 1 (.int x) F = F (cO 3 [a0, .int x]) := rfl
theorem gf4_0 {a0 a1 a2 : Value} {F : Value → Prop} : ex_gf (some (cO 4 [a0, a1, a2])) 4 0 F = F a0 := rfl
theorem pf4_0 {a0 a1 a2 : Value} {z : Nat} {F : ex_AC → Prop} : ex_pf (some (cO 4 [a0, a1, a2])) 4 0 (.ref z) F = F (cO 4 [.ref z, a1, a2]) := rfl
theorem gf4_1 {a0 a1 a2 : Value} {F : Value → Prop} : ex_gf (some (cO 4 [a0, a1, a2])) 4 1 F = F a1 := rfl
theorem pf4_1 {a0 a1 a2 : Value} {z : Nat} {F : ex_AC → Prop} : ex_pf (some (cO 4 [a0, a1, a2])) 4 1 (.ref z) F = F (cO 4 [a0, .ref z, a2]) := rfl
theorem gf4_2 {a0 a1 a2 : Value} {F : Value → Prop} : ex_gf (some (cO 4 [a0, a1, a2])) 4 2 F = F a2 := rfl
theorem pf4_2 {a0 a1 a2 : Value} {z : Nat} {F : ex_AC → Prop} : ex_pf (some (cO 4 [a0, a1, a2])) 4 2 (.ref z) F = F (cO 4 [a0, a1, .ref z]) := rfl
theorem gf5_0 {a0 a1 a2 a3 : Value} {F : Value → Prop} : ex_gf (some (cO 5 [a0, a1, a2, a3])) 5 0 F = F a0 := rfl
theorem pf5_0 {a0 a1 a2 a3 : Value} {x : Int32} {F : ex_AC → Prop} : ex_pf (some (cO 5 [a0, a1, a2, a3])) 5 0 (.int x) F = F (cO 5 [.int x, a1, a2, a3]) := rfl
theorem gf5_1 {a0 a1 a2 a3 : Value} {F : Value → Prop} : ex_gf (some (cO 5 [a0, a1, a2, a3])) 5 1 F = F a1 := rfl
theorem pf5_1 {a0 a1 a2 a3 : Value} {x : Int32} {F : ex_AC → Prop} : ex_pf (some (cO 5 [a0, a1, a2, a3])) 5 1 (.int x) F = F (cO 5 [a0, .int x, a2, a3]) := rfl
theorem gf5_2 {a0 a1 a2 a3 : Value} {F : Value → Prop} : ex_gf (some (cO 5 [a0, a1, a2, a3])) 5 2 F = F a2 := rfl
theorem pf5_2 {a0 a1 a2 a3 : Value} {z : Nat} {F : ex_AC → Prop} : ex_pf (some (cO 5 [a0, a1, a2, a3])) 5 2 (.ref z) F = F (cO 5 [a0, a1, .ref z, a3]) := rfl
theorem gf5_3 {a0 a1 a2 a3 : Value} {F : Value → Prop} : ex_gf (some (cO 5 [a0, a1, a2, a3])) 5 3 F = F a3 := rfl
theorem pf5_3 {a0 a1 a2 a3 : Value} {x : Int32} {F : ex_AC → Prop} : ex_pf (some (cO 5 [a0, a1, a2, a3])) 5 3 (.int x) F = F (cO 5 [a0, a1, a2, .int x]) := rfl
theorem gf6_0 {a0 a1 a2 a3 a4 a5 a6 : Value} {F : Value → Prop} : ex_gf (some (cO 6 [a0, a1, a2, a3, a4, a5, a6])) 6 0 F = F a0 := rfl
theorem pf6_0 {a0 a1 a2 a3 a4 a5 a6 : Value} {x : Int32} {F : ex_AC → Prop} : ex_pf (some (cO 6 [a0, a1, a2, a3, a4, a5, a6])) 6 0 (.int x) F = F (cO 6 [.int x, a1, a2, a3, a4, a5, a6]) := rfl
theorem gf6_1 {a0 a1 a2 a3 a4 a5 a6 : Value} {F : Value → Prop} : ex_gf (some (cO 6 [a0, a1, a2, a3, a4, a5, a6])) 6 1 F = F a1 := rfl
theorem pf6_1 {a0 a1 a2 a3 a4 a5 a6 : Value} {z : Nat} {F : ex_AC → Prop} : ex_pf (some (cO 6 [a0, a1, a2, a3, a4, a5, a6])) 6 1 (.ref z) F = F (cO 6 [a0, .ref z, a2, a3, a4, a5, a6]) := rfl
theorem gf6_2 {a0 a1 a2 a3 a4 a5 a6 : Value} {F : Value → Prop} : ex_gf (some (cO 6 [a0, a1, a2, a3, a4, a5, a6])) 6 2 F = F a2 := rfl
theorem pf6_2 {a0 a1 a2 a3 a4 a5 a6 : Value} {z : Nat} {F : ex_AC → Prop} : ex_pf (some (cO 6 [a0, a1, a2, a3, a4, a5, a6])) 6 2 (.ref z) F = F (cO 6 [a0, a1, .ref z, a3, a4, a5, a6]) := rfl
theorem gf6_3 {a0 a1 a2 a3 a4 a5 a6 : Value} {F : Value → Prop} : ex_gf (some (cO 6 [a0, a1, a2, a3, a4, a5, a6])) 6 3 F = F a3 := rfl
theorem pf6_3 {a0 a1 a2 a3 a4 a5 a6 : Value} {x : Int32} {F : ex_AC → Prop} : ex_pf (some (cO 6 [a0, a1, a2, a3, a4, a5, a6])) 6 3 (.int x) F = F (cO 6 [a0, a1, a2, .int x, a4, a5, a6]) := rfl
theorem gf6_4 {a0 a1 a2 a3 a4 a5 a6 : Value} {F : Value → Prop} : ex_gf (some (cO 6 [a0, a1, a2, a3, a4, a5, a6])) 6 4 F = F a4 := rfl
theorem pf6_4 {a0 a1 a2 a3 a4 a5 a6 : Value} {x : Int32} {F : ex_AC → Prop} : ex_pf (some (cO 6 [a0, a1, a2, a3, a4, a5, a6])) 6 4 (.int x) F = F (cO 6 [a0, a1, a2, a3, .int x, a5, a6]) := rfl
theorem gf6_5 {a0 a1 a2 a3 a4 a5 a6 : Value} {F : Value → Prop} : ex_gf (some (cO 6 [a0, a1, a2, a3, a4, a5, a6])) 6 5 F = F a5 := rfl
theorem pf6_5 {a0 a1 a2 a3 a4 a5 a6 : Value} {x : Int32} {F : ex_AC → Prop} : ex_pf (some (cO 6 [a0, a1, a2, a3, a4, a5, a6])) 6 5 (.int x) F = F (cO 6 [a0, a1, a2, a3, a4, .int x, a6]) := rfl
theorem gf6_6 {a0 a1 a2 a3 a4 a5 a6 : Value} {F : Value → Prop} : ex_gf (some (cO 6 [a0, a1, a2, a3, a4, a5, a6])) 6 6 F = F a6 := rfl
theorem pf6_6 {a0 a1 a2 a3 a4 a5 a6 : Value} {z : Nat} {F : ex_AC → Prop} : ex_pf (some (cO 6 [a0, a1, a2, a3, a4, a5, a6])) 6 6 (.ref z) F = F (cO 6 [a0, a1, a2, a3, a4, a5, .ref z]) := rfl
theorem gf7_0 {a0 a1 a2 a3 a4 a5 : Value} {F : Value → Prop} : ex_gf (some (cO 7 [a0, a1, a2, a3, a4, a5])) 7 0 F = F a0 := rfl
theorem pf7_0 {a0 a1 a2 a3 a4 a5 : Value} {z : Nat} {F : ex_AC → Prop} : ex_pf (some (cO 7 [a0, a1, a2, a3, a4, a5])) 7 0 (.ref z) F = F (cO 7 [.ref z, a1, a2, a3, a4, a5]) := rfl
theorem gf7_1 {a0 a1 a2 a3 a4 a5 : Value} {F : Value → Prop} : ex_gf (some (cO 7 [a0, a1, a2, a3, a4, a5])) 7 1 F = F a1 := rfl
theorem pf7_1 {a0 a1 a2 a3 a4 a5 : Value} {z : Nat} {F : ex_AC → Prop} : ex_pf (some (cO 7 [a0, a1, a2, a3, a4, a5])) 7 1 (.ref z) F = F (cO 7 [a0, .ref z, a2, a3, a4, a5]) := rfl
theorem gf7_2 {a0 a1 a2 a3 a4 a5 : Value} {F : Value → Prop} : ex_gf (some (cO 7 [a0, a1, a2, a3, a4, a5])) 7 2 F = F a2 := rfl
theorem pf7_2 {a0 a1 a2 a3 a4 a5 : Value} {z : Nat} {F : ex_AC → Prop} : ex_pf (some (cO 7 [a0, a1, a2, a3, a4, a5])) 7 2 (.ref z) F = F (cO 7 [a0, a1, .ref z, a3, a4, a5]) := rfl
theorem gf7_3 {a0 a1 a2 a3 a4 a5 : Value} {F : Value → Prop} : ex_gf (some (cO 7 [a0, a1, a2, a3, a4, a5])) 7 3 F = F a3 := rfl
theorem pf7_3 {a0 a1 a2 a3 a4 a5 : Value} {z : Nat} {F : ex_AC → Prop} : ex_pf (some (cO 7 [a0, a1, a2, a3, a4, a5])) 7 3 (.ref z) F = F (cO 7 [a0, a1, a2, .ref z, a4, a5]) := rfl
theorem gf7_4 {a0 a1 a2 a3 a4 a5 : Value} {F : Value → Prop} : ex_gf (some (cO 7 [a0, a1, a2, a3, a4, a5])) 7 4 F = F a4 := rfl
theorem pf7_4 {a0 a1 a2 a3 a4 a5 : Value} {z : Nat} {F : ex_AC → Prop} : ex_pf (some (cO 7 [a0, a1, a2, a3, a4, a5])) 7 4 (.ref z) F = F (cO 7 [a0, a1, a2, a3, .ref z, a5]) := rfl
theorem gf7_5 {a0 a1 a2 a3 a4 a5 : Value} {F : Value → Prop} : ex_gf (some (cO 7 [a0, a1, a2, a3, a4, a5])) 7 5 F = F a5 := rfl
theorem pf7_5 {a0 a1 a2 a3 a4 a5 : Value} {z : Nat} {F : ex_AC → Prop} : ex_pf (some (cO 7 [a0, a1, a2, a3, a4, a5])) 7 5 (.ref z) F = F (cO 7 [a0, a1, a2, a3, a4, .ref z]) := rfl
theorem gf8_0 {a0 a1 a2 a3 a4 a5 a6 a7 a8 a9 a10 a11 a12 a13 a14 a15 a16 a17 a18 a19 a20 a21 a22 a23 a24 a25 a26 : Value} {F : Value → Prop} : ex_gf (some (cO 8 [a0, a1, a2, a3, a4, a5, a6, a7, a8, a9, a10, a11, a12, a13, a14, a15, a16, a17, a18, a19, a20, a21, a22, a23, a24, a25, a26])) 8 0 F = F a0 := rfl
theorem pf8_0 {a0 a1 a2 a3 a4 a5 a6 a7 a8 a9 a10 a11 a12 a13 a14 a15 a16 a17 a18 a19 a20 a21 a22 a23 a24 a25 a26 : Value} {z : Nat} {F : ex_AC → Prop} : ex_pf (some (cO 8 [a0, a1, a2, a3, a4, a5, a6, a7, a8, a9, a10, a11, a12, a13, a14, a15, a16, a17, a18, a19, a20, a21, a22, a23, a24, a25, a26])) 8 0 (.ref z) F = F (cO 8 [.ref z, a1, a2, a3, a4, a5, a6, a7, a8, a9, a10, a11, a12, a13, a14, a15, a16, a17, a18, a19, a20, a21, a22, a23, a24, a25, a26]) := rfl
theorem gf8_1 {a0 a1 a2 a3 a4 a5 a6 a7 a8 a9 a10 a11 a12 a13 a14 a15 a16 a17 a18 a19 a20 a21 a22 a23 a24 a25 a26 : Value} {F : Value → Prop} : ex_gf (some (cO 8 [a0, a1, a2, a3, a4, a5, a6, a7, a8, a9, a10, a11, a12, a13, a14, a15, a16, a17, a18, a19, a20, a21, a22, a23, a24, a25, a26])) 8 1 F = F a1 := rfl
theorem pf8_1 {a0 a1 a2 a3 a4 a5 a6 a7 a8 a9 a10 a11 a12 a13 a14 a15 a16 a17 a18 a19 a20 a21 a22 a23 a24 a25 a26 : Value} {z : Nat} {F : ex_AC → Prop} : ex_pf (some (cO 8 [a0, a1, a2, a3, a4, a5, a6, a7, a8, a9, a10, a11, a12, a13, a14, a15, a16, a17, a18, a19, a20, a21, a22, a23, a24, a25, a26])) 8 1 (.ref z) F = F (cO 8 [a0, .ref z, a2, a3, a4, a5, a6, a7, a8, a9, a10, a11, a12, a13, a14, a15, a16, a17, a18, a19, a20, a21, a22, a23, a24, a25, a26]) := rfl
theorem gf8_2 {a0 a1 a2 a3 a4 a5 a6 a7 a8 a9 a10 a11 a12 a13 a14 a15 a16 a17 a18 a19 a20 a21 a22 a23 a24 a25 a26 : Value} {F : Value → Prop} : ex_gf (some (cO 8 [a0, a1, a2, a3, a4, a5, a6, a7, a8, a9, a10, a11, a12, a13, a14, a15, a16, a17, a18, a19, a20, a21, a22, a23, a24, a25, a26])) 8 2 F = F a2 := rfl
theorem pf8_2 {a0 a1 a2 a3 a4 a5 a6 a7 a8 a9 a10 a11 a12 a13 a14 a15 a16 a17 a18 a19 a20 a21 a22 a23 a24 a25 a26 : Value} {z : Nat} {F : ex_AC → Prop} : ex_pf (some (cO 8 [a0, a1, a2, a3, a4, a5, a6, a7, a8, a9, a10, a11, a12, a13, a14, a15, a16, a17, a18, a19, a20, a21, a22, a23, a24, a25, a26])) 8 2 (.ref z) F = F (cO 8 [a0, a1, .ref z, a3, a4, a5, a6, a7, a8, a9, a10, a11, a12, a13, a14, a15, a16, a17, a18, a19, a20, a21, a22, a23, a24, a25, a26]) := rfl
theorem gf8_3 {a0 a1 a2 a3 a4 a5 a6 a7 a8 a9 a10 a11 a12 a13 a14 a15 a16 a17 a18 a19 a20 a21 a22 a23 a24 a25 a26 : Value} {F : Value → Prop} : ex_gf (some (cO 8 [a0, a1, a2, a3, a4, a5, a6, a7, a8, a9, a10, a11, a12, a13, a14, a15, a16, a17, a18, a19, a20, a21, a22, a23, a24, a25, a26])) 8 3 F = F a3 := rfl
theorem pf8_3 {a0 a1 a2 a3 a4 a5 a6 a7 a8 a9 a10 a11 a12 a13 a14 a15 a16 a17 a18 a19 a20 a21 a22 a23 a24 a25 a26 : Value} {z : Nat} {F : ex_AC → Prop} : ex_pf (some (cO 8 [a0, a1, a2, a3, a4, a5, a6, a7, a8, a9, a10, a11, a12, a13, a14, a15, a16, a17, a18, a19, a20, a21, a22, a23, a24, a25, a26])) 8 3 (.ref z) F = F (cO 8 [a0, a1, a2, .ref z, a4, a5, a6, a7, a8, a9, a10, a11, a12, a13, a14, a15, a16, a17, a18, a19, a20, a21, a22, a23, a24, a25, a26]) := rfl
theorem gf8_4 {a0 a1 a2 a3 a4 a5 a6 a7 a8 a9 a10 a11 a12 a13 a14 a15 a16 a17 a18 a19 a20 a21 a22 a23 a24 a25 a26 : Value} {F : Value → Prop} : ex_gf (some (cO 8 [a0, a1, a2, a3, a4, a5, a6, a7, a8, a9, a10, a11, a12, a13, a14, a15, a16, a17, a18, a19, a20, a21, a22, a23, a24, a25, a26])) 8 4 F = F a4 := rfl
theorem pf8_4 {a0 a1 a2 a3 a4 a5 a6 a7 a8 a9 a10 a11 a12 a13 a14 a15 a16 a17 a18 a19 a20 a21 a22 a23 a24 a25 a26 : Value} {x : Int32} {F : ex_AC → Prop} : ex_pf (some (cO 8 [a0, a1, a2, a3, a4, a5, a6, a7, a8, a9, a10, a11, a12, a13, a14, a15, a16, a17, a18, a19, a20, a21, a22, a23, a24, a25, a26])) 8 4 (.int x) F = F (cO 8 [a0, a1, a2, a3, .int x, a5, a6, a7, a8, a9, a10, a11, a12, a13, a14, a15, a16, a17, a18, a19, a20, a21, a22, a23, a24, a25, a26]) := rfl
theorem gf8_5 {a0 a1 a2 a3 a4 a5 a6 a7 a8 a9 a10 a11 a12 a13 a14 a15 a16 a17 a18 a19 a20 a21 a22 a23 a24 a25 a26 : Value} {F : Value → Prop} : ex_gf (some (cO 8 [a0, a1, a2, a3, a4, a5, a6, a7, a8, a9, a10, a11, a12, a13, a14, a15, a16, a17, a18, a19, a20, a21, a22, a23, a24, a25, a26])) 8 5 F = F a5 := rfl
theorem pf8_5 {a0 a1 a2 a3 a4 a5 a6 a7 a8 a9 a10 a11 a12 a13 a14 a15 a16 a17 a18 a19 a20 a21 a22 a23 a24 a25 a26 : Value} {z : Nat} {F : ex_AC → Prop} : ex_pf (some (cO 8 [a0, a1, a2, a3, a4, a5, a6, a7, a8, a9, a10, a11, a12, a13, a14, a15, a16, a17, a18, a19, a20, a21, a22, a23, a24, a25, a26])) 8 5 (.ref z) F = F (cO 8 [a0, a1, a2, a3, a4, .ref z, a6, a7, a8, a9, a10, a11, a12, a13, a14, a15, a16, a17, a18, a19, a20, a21, a22, a23, a24, a25, a26]) := rfl
theorem gf8_6 {a0 a1 a2 a3 a4 a5 a6 a7 a8 a9 a10 a11 a12 a13 a14 a15 a16 a17 a18 a19 a20 a21 a22 a23 a24 a25 a26 : Value} {F : Value → Prop} : ex_gf (some (cO 8 [a0, a1, a2, a3, a4, a5, a6, a7, a8, a9, a10, a11, a12, a13, a14, a15, a16, a17, a18, a19, a20, a21, a22, a23, a24, a25, a26])) 8 6 F = F a6 := rfl
theorem pf8_6 {a0 a1 a2 a3 a4 a5 a6 a7 a8 a9 a10 a11 a12 a13 a14 a15 a16 a17 a18 a19 a20 a21 a22 a23 a24 a25 a26 : Value} {z : Nat} {F : ex_AC → Prop} : ex_pf (some (cO 8 [a0, a1, a2, a3, a4, a5, a6, a7, a8, a9, a10, a11, a12, a13, a14, a15, a16, a17, a18, a19, a20, a21, a22, a23, a24, a25, a26])) 8 6 (.ref z) F = F (cO 8 [a0, a1, a2, a3, a4, a5, .ref z, a7, a8, a9, a10, a11, a12, a13, a14, a15, a16, a17, a18, a19, a20, a21, a22, a23, a24, a25, a26]) := rfl
theorem gf8_7 {a0 a1 a2 a3 a4 a5 a6 a7 a8 a9 a10 a11 a12 a13 a14 a15 a16 a17 a18 a19 a20 a21 a22 a23 a24 a25 a26 : Value} {F : Value → Prop} : ex_gf (some (cO 8 [a0, a1, a2, a3, a4, a5, a6, a7, a8, a9, a10, a11, a12, a13, a14, a15, a16, a17, a18, a19, a20, a21, a22, a23, a24, a25, a26])) 8 7 F = F a7 := rfl
theorem pf8_7 {a0 a1 a2 a3 a4 a5 a6 a7 a8 a9 a10 a11 a12 a13 a14 a15 a16 a17 a18 a19 a20 a21 a22 a23 a24 a25 a26 : Value} {x : Int32} {F : ex_AC → Prop} : ex_pf (some (cO 8 [a0, a1, a2, a3, a4, a5, a6, a7, a8, a9, a10, a11, a12, a13, a14, a15, a16, a17, a18, a19, a20, a21, a22, a23, a24, a25, a26])) 8 7 (.int x) F = F (cO 8 [a0, a1, a2, a3, a4, a5, a6, .int x, a8, a9, a10, a11, a12, a13, a14, a15, a16, a17, a18, a19, a20, a21, a22, a23, a24, a25, a26]) := rfl
theorem gf8_8 {a0 a1 a2 a3 a4 a5 a6 a7 a8 a9 a10 a11 a12 a13 a14 a15 a16 a17 a18 a19 a20 a21 a22 a23 a24 a25 a26 : Value} {F : Value → Prop} : ex_gf (some (cO 8 [a0, a1, a2, a3, a4, a5, a6, a7, a8, a9, a10, a11, a12, a13, a14, a15, a16, a17, a18, a19, a20, a21, a22, a23, a24, a25, a26])) 8 8 F = F a8 := rfl
theorem pf8_8 {a0 a1 a2 a3 a4 a5 a6 a7 a8 a9 a10 a11 a12 a13 a14 a15 a16 a17 a18 a19 a20 a21 a22 a23 a24 a25 a26 : Value} {z : Nat} {F : ex_AC → Prop} : ex_pf (some (cO 8 [a0, a1, a2, a3, a4, a5, a6, a7, a8, a9, a10, a11, a12, a13, a14, a15, a16, a17, a18, a19, a20, a21, a22, a23, a24, a25, a26])) 8 8 (.ref z) F = F (cO 8 [a0, a1, a2, a3, a4, a5, a6, a7, .ref z, a9, a10, a11, a12, a13, a14, a15, a16, a17, a18, a19, a20, a21, a22, a23, a24, a25, a26]) := rfl
theorem gf8_9 {a0 a1 a2 a3 a4 a5 a6 a7 a8 a9 a10 a11 a12 a13 a14 a15 a16 a17 a18 a19 a20 a21 a22 a23 a24 a25 a26 : Value} {F : Value → Prop} : ex_gf (some (cO 8 [a0, a1, a2, a3, a4, a5, a6, a7, a8, a9, a10, a11, a12, a13, a14, a15, a16, a17, a18, a19, a20, a21, a22, a23, a24, a25, a26])) 8 9 F = F a9 := rfl
theorem pf8_9 {a0 a1 a2 a3 a4 a5 a6 a7 a8 a9 a10 a11 a12 a13 a14 a15 a16 a17 a18 a19 a20 a21 a22 a23 a24 a25 a26 : Value} {z : Nat} {F : ex_AC → Prop} : ex_pf (some (cO 8 [a0, a1, a2, a3, a4, a5, a6, a7, a8, a9, a10, a11, a12, a13, a14, a15, a16, a17, a18, a19, a20, a21, a22, a23, a24, a25, a26])) 8 9 (.ref z) F = F (cO 8 [a0, a1, a2, a3, a4, a5, a6, a7, a8, .ref z, a10, a11, a12, a13, a14, a15, a16, a17, a18, a19, a20, a21, a22, a23, a24, a25, a26]) := rfl
theorem gf8_10 {a0 a1 a2 a3 a4 a5 a6 a7 a8 a9 a10 a11 a12 a13 a14 a15 a16 a17 a18 a19 a20 a21 a22 a23 a24 a25 a26 : Value} {F : Value → Prop} : ex_gf (some (cO 8 [a0, a1, a2, a3, a4, a5, a6, a7, a8, a9, a10, a11, a12, a13, a14, a15, a16, a17, a18, a19, a20, a21, a22, a23, a24, a25, a26])) 8 10 F = F a10 := rfl
theorem pf8_10 {a0 a1 a2 a3 a4 a5 a6 a7 a8 a9 a10 a11 a12 a13 a14 a15 a16 a17 a18 a19 a20 a21 a22 a23 a24 a25 a26 : Value} {z : Nat} {F : ex_AC → Prop} : ex_pf (some (cO 8 [a0, a1, a2, a3, a4, a5, a6, a7, a8, a9, a10, a11, a12, a13, a14, a15, a16, a17, a18, a19, a20, a21, a22, a23, a24, a25, a26])) 8 10 (.ref z) F = F (cO 8 [a0, a1, a2, a3, a4, a5, a6, a7, a8, a9, .ref z, a11, a12, a13, a14, a15, a16, a17, a18, a19, a20, a21, a22, a23, a24, a25, a26]) := rfl
theorem gf8_11 {a0 a1 a2 a3 a4 a5 a6 a7 a8 a9 a10 a11 a12 a13 a14 a15 a16 a17 a18 a19 a20 a21 a22 a23 a24 a25 a26 : Value} {F : Value → Prop} : ex_gf (some (cO 8 [a0, a1, a2, a3, a4, a5, a6, a7, a8, a9, a10, a11, a12, a13, a14, a15, a16, a17, a18, a19, a20, a21, a22, a23, a24, a25, a26])) 8 11 F = F a11 := rfl
theorem pf8_11 {a0 a1 a2 a3 a4 a5 a6 a7 a8 a9 a10 a11 a12 a13 a14 a15 a16 a17 a18 a19 a20 a21 a22 a23 a24 a25 a26 : Value} {z : Nat} {F : ex_AC → Prop} : ex_pf (some (cO 8 [a0, a1, a2, a3, a4, a5, a6, a7, a8, a9, a10, a11, a12, a13, a14, a15, a16, a17, a18, a19, a20, a21, a22, a23, a24, a25, a26])) 8 11 (.ref z) F = F (cO 8 [a0, a1, a2, a3, a4, a5, a6, a7, a8, a9, a10, .ref z, a12, a13, a14, a15, a16, a17, a18, a19, a20, a21, a22, a23, a24, a25, a26]) := rfl
theorem gf8_12 {a0 a1 a2 a3 a4 a5 a6 a7 a8 a9 a10 a11 a12 a13 a14 a15 a16 a17 a18 a19 a20 a21 a22 a23 a24 a25 a26 : Value} {F : Value → Prop} : ex_gf (some (cO 8 [a0, a1, a2, a3, a4, a5, a6, a7, a8, a9, a10, a11, a12, a13, a14, a15, a16, a17, a18, a19, a20, a21, a22, a23, a24, a25, a26])) 8 12 F = F a12 := rfl
theorem pf8_12 {a0 a1 a2 a3 a4 a5 a6 a7 a8 a9 a10 a11 a12 a13 a14 a15 a16 a17 a18 a19 a20 a21 a22 a23 a24 a25 a26 : Value} {z : Nat} {F : ex_AC → Prop} : ex_pf (some (cO 8 [a0, a1, a2, a3, a4, a5, a6, a7, a8, a9, a10, a11, a12, a13, a14, a15, a16, a17, a18, a19, a20, a21, a22, a23, a24, a25, a26])) 8 12 (.ref z) F = F (cO 8 [a0, a1, a2, a3, a4, a5, a6, a7, a8, a9, a10, a11, .ref z, a13, a14, a15, a16, a17, a18, a19, a20, a21, a22, a23, a24, a25, a26]) := rfl
theorem gf8_13 {a0 a1 a2 a3 a4 a5 a6 a7 a8 a9 a10 a11 a12 a13 a14 a15 a16 a17 a18 a19 a20 a21 a22 a23 a24 a25 a26 : Value} {F : Value → Prop} : ex_gf (some (cO 8 [a0, a1, a2, a3, a4, a5, a6, a7, a8, a9, a10, a11, a12, a13, a14, a15, a16, a17, a18, a19, a20, a21, a22, a23, a24, a25, a26])) 8 13 F = F a13 := rfl
theorem pf8_13 {a0 a1 a2 a3 a4 a5 a6 a7 a8 a9 a10 a11 a12 a13 a14 a15 a16 a17 a18 a19 a20 a21 a22 a23 a24 a25 a26 : Value} {z : Nat} {F : ex_AC → Prop} : ex_pf (some (cO 8 [a0, a1, a2, a3, a4, a5, a6, a7, a8, a9, a10, a11, a12, a13, a14, a15, a16, a17, a18, a19, a20, a21, a22, a23, a24, a25, a26])) 8 13 (.ref z) F = F (cO 8 [a0, a1, a2, a3, a4, a5, a6, a7, a8, a9, a10, a11, a12, .ref z, a14, a15, a16, a17, a18, a19, a20, a21, a22, a23, a24, a25, a26]) := rfl
theorem gf8_14 {a0 a1 a2 a3 a4 a5 a6 a7 a8 a9 a10 a11 a12 a13 a14 a15 a16 a17 a18 a19 a20 a21 a22 a23 a24 a25 a26 : Value} {F : Value → Prop} : ex_gf (some (cO 8 [a0, a1, a2, a3, a4, a5, a6, a7, a8, a9, a10, a11, a12, a13, a14, a15, a16, a17, a18, a19, a20, a21, a22, a23, a24, a25, a26])) 8 14 F = F a14 := rfl
theorem pf8_14 {a0 a1 a2 a3 a4 a5 a6 a7 a8 a9 a10 a11 a12 a13 a14 a15 a16 a17 a18 a19 a20 a21 a22 a23 a24 a25 a26 : Value} {z : Nat} {F : ex_AC → Prop} : ex_pf (some (cO 8 [a0, a1, a2, a3, a4, a5, a6, a7, a8, a9, a10, a11, a12, a13, a14, a15, a16, a17, a18, a19, a20, a21, a22, a23, a24, a25, a26])) 8 14 (.ref z) F = F (cO 8 [a0, a1, a2, a3, a4, a5, a6, a7, a8, a9, a10, a11, a12, a13, .ref z, a15, a16, a17, a18, a19, a20, a21, a22, a23, a24, a25, a26]) := rfl
theorem gf8_15 {a0 a1 a2 a3 a4 a5 a6 a7 a8 a9 a10 a11 a12 a13 a14 a15 a16 a17 a18 a19 a20 a21 a22 a23 a24 a25 a26 : Value} {F : Value → Prop} : ex_gf (some (cO 8 [a0, a1, a2, a3, a4, a5, a6, a7, a8, a9, a10, a11, a12, a13, a14, a15, a16, a17, a18, a19, a20, a21, a22, a23, a24, a25, a26])) 8 15 F = F a15 := rfl
theorem pf8_15 {a0 a1 a2 a3 a4 a5 a6 a7 a8 a9 a10 a11 a12 a13 a14 a15 a16 a17 a18 a19 a20 a21 a22 a23 a24 a25 a26 : Value} {z : Nat} {F : ex_AC → Prop} : ex_pf (some (cO 8 [a0, a1, a2, a3, a4, a5, a6, a7, a8, a9, a10, a11, a12, a13, a14, a15, a16, a17, a18, a19, a20, a21, a22, a23, a24, a25, a26])) 8 15 (.ref z) F = F (cO 8 [a0, a1, a2, a3, a4, a5, a6, a7, a8, a9, a10, a11, a12, a13, a14, .ref z, a16, a17, a18, a19, a20, a21, a22, a23, a24, a25, a26]) := rfl
theorem gf8_16 {a0 a1 a2 a3 a4 a5 a6 a7 a8 a9 a10 a11 a12 a13 a14 a15 a16 a17 a18 a19 a20 a21 a22 a23 a24 a25 a26 : Value} {F : Value → Prop} : ex_gf (some (cO 8 [a0, a1, a2, a3, a4, a5, a6, a7, a8, a9, a10, a11, a12, a13, a14, a15, a16, a17, a18, a19, a20, a21, a22, a23, a24, a25, a26])) 8 16 F = F a16 := rfl
theorem pf8_16 {a0 a1 a2 a3 a4 a5 a6 a7 a8 a9 a10 a11 a12 a13 a14 a15 a16 a17 a18 a19 a20 a21 a22 a23 a24 a25 a26 : Value} {z : Nat} {F : ex_AC → Prop} : ex_pf (some (cO 8 [a0, a1, a2, a3, a4, a5, a6, a7, a8, a9, a10, a11, a12, a13, a14, a15, a16, a17, a18, a19, a20, a21, a22, a23, a24, a25, a26])) 8 16 (.ref z) F = F (cO 8 [a0, a1, a2, a3, a4, a5, a6, a7, a8, a9, a10, a11, a12, a13, a14, a15, .ref z, a17, a18, a19, a20, a21, a22, a23, a24, a25, a26]) := rfl
theorem gf8_17 {a0 a1 a2 a3 a4 a5 a6 a7 a8 a9 a10 a11 a12 a13 a14 a15 a16 a17 a18 a19 a20 a21 a22 a23 a24 a25 a26 : Value} {F : Value → Prop} : ex_gf (some (cO 8 [a0, a1, a2, a3, a4, a5, a6, a7, a8, a9, a10, a11, a12, a13, a14, a15, a16, a17, a18, a19, a20, a21, a22, a23, a24, a25, a26])) 8 17 F = F a17 := rfl
theorem pf8_17 {a0 a1 a2 a3 a4 a5 a6 a7 a8 a9 a10 a11 a12 a13 a14 a15 a16 a17 a18 a19 a20 a21 a22 a23 a24 a25 a26 : Value} {z : Nat} {F : ex_AC → Prop} : ex_pf (some (cO 8 [a0, a1, a2, a3, a4, a5, a6, a7, a8, a9, a10, a11, a12, a13, a14, a15, a16, a17, a18, a19, a20, a21, a22, a23, a24, a25, a26])) 8 17 (.ref z) F = F (cO 8 [a0, a1, a2, a3, a4, a5, a6, a7, a8, a9, a10, a11, a12, a13, a14, a15, a16, .ref z, a18, a19, a20, a21, a22, a23, a24, a25, a26]) := rfl
theorem gf8_18 {a0 a1 a2 a3 a4 a5 a6 a7 a8 a9 a10 a11 a12 a13 a14 a15 a16 a17 a18 a19 a20 a21 a22 a23 a24 a25 a26 : Value} {F : Value → Prop} : ex_gf (some (cO 8 [a0, a1, a2, a3, a4, a5, a6, a7, a8, a9, a10, a11, a12, a13, a14, a15, a16, a17, a18, a19, a20, a21, a22, a23, a24, a25, a26])) 8 18 F = F a18 := rfl
theorem pf8_18 {a0 a1 a2 a3 a4 a5 a6 a7 a8 a9 a10 a11 a12 a13 a14 a15 a16 a17 a18 a19 a20 a21 a22 a23 a24 a25 a26 : Value} {z : Nat} {F : ex_AC → Prop} : ex_pf (some (cO 8 [a0, a1, a2, a3, a4, a5, a6, a7, a8, a9, a10, a11, a12, a13, a14, a15, a16, a17, a18, a19, a20, a21, a22, a23, a24, a25, a26])) 8 18 (.ref z) F = F (cO 8 [a0, a1, a2, a3, a4, a5, a6, a7, a8, a9, a10, a11, a12, a13, a14, a15, a16, a17, .ref z, a19, a20, a21, a22, a23, a24, a25, a26]) := rfl
theorem gf8_19 {a0 a1 a2 a3 a4 a5 a6 a7 a8 a9 a10 a11 a12 a13 a14 a15 a16 a17 a18 a19 a20 a21 a22 a23 a24 a25 a26 : Value} {F : Value → Prop} : ex_gf (some (cO 8 [a0, a1, a2, a3, a4, a5, a6, a7, a8, a9, a10, a11, a12, a13, a14, a15, a16, a17, a18, a19, a20, a21, a22, a23, a24, a25, a26])) 8 19 F = F a19 := rfl
theorem pf8_19 {a0 a1 a2 a3 a4 a5 a6 a7 a8 a9 a10 a11 a12 a13 a14 a15 a16 a17 a18 a19 a20 a21 a22 a23 a24 a25 a26 : Value} {z : Nat} {F : ex_AC → Prop} : ex_pf (some (cO 8 [a0, a1, a2, a3, a4, a5, a6, a7, a8, a9, a10, a11, a12, a13, a14, a15, a16, a17, a18, a19, a20, a21, a22, a23, a24, a25, a26])) 8 19 (.ref z) F = F (cO 8 [a0, a1, a2, a3, a4, a5, a6, a7, a8, a9, a10, a11, a12, a13, a14, a15, a16, a17, a18, .ref z, a20, a21, a22, a23, a24, a25, a26]) := rfl
theorem gf8_20 {a0 a1 a2 a3 a4 a5 a6 a7 a8 a9 a10 a11 a12 a13 a14 a15 a16 a17 a18 a19 a20 a21 a22 a23 a24 a25 a26 : Value} {F : Value → Prop} : ex_gf (some (cO 8 [a0, a1, a2, a3, a4, a5, a6, a7, a8, a9, a10, a11, a12, a13, a14, a15, a16, a17, a18, a19, a20, a21, a22, a23, a24, a25, a26])) 8 20 F = F a20 := rfl
theorem pf8_20 {a0 a1 a2 a3 a4 a5 a6 a7 a8 a9 a10 a11 a12 a13 a14 a15 a16 a17 a18 a19 a20 a21 a22 a23 a24 a25 a26 : Value} {z : Nat} {F : ex_AC → Prop} : ex_pf (some (cO 8 [a0, a1, a2, a3, a4, a5, a6, a7, a8, a9, a10, a11, a12, a13, a14, a15, a16, a17, a18, a19, a20, a21, a22, a23, a24, a25, a26])) 8 20 (.ref z) F = F (cO 8 [a0, a1, a2, a3, a4, a5, a6, a7, a8, a9, a10, a11, a12, a13, a14, a15, a16, a17, a18, a19, .ref z, a21, a22, a23, a24, a25, a26]) := rfl
theorem gf8_21 {a0 a1 a2 a3 a4 a5 a6 a7 a8 a9 a10 a11 a12 a13 a14 a15 a16 a17 a18 a19 a20 a21 a22 a23 a24 a25 a26 : Value} {F : Value → Prop} : ex_gf (some (cO 8 [a0, a1, a2, a3, a4, a5, a6, a7, a8, a9, a10, a11, a12, a13, a14, a15, a16, a17, a18, a19, a20, a21, a22, a23, a24, a25, a26])) 8 21 F = F a21 := rfl
theorem pf8_21 {a0 a1 a2 a3 a4 a5 a6 a7 a8 a9 a10 a11 a12 a13 a14 a15 a16 a17 a18 a19 a20 a21 a22 a23 a24 a25 a26 : Value} {z : Nat} {F : ex_AC → Prop} : ex_pf (some (cO 8 [a0, a1, a2, a3, a4, a5, a6, a7, a8, a9, a10, a11, a12, a13, a14, a15, a16, a17, a18, a19, a20, a21, a22, a23, a24, a25, a26])) 8 21 (.ref z) F = F (cO 8 [a0, a1, a2, a3, a4, a5, a6, a7, a8, a9, a10, a11, a12, a13, a14, a15, a16, a17, a18, a19, a20, .ref z, a22, a23, a24, a25, a26]) := rfl
theorem gf8_22 {a0 a1 a2 a3 a4 a5 a6 a7 a8 a9 a10 a11 a12 a13 a14 a15 a16 a17 a18 a19 a20 a21 a22 a23 a24 a25 a26 : Value} {F : Value → Prop} : ex_gf (some (cO 8 [a0, a1, a2, a3, a4, a5, a6, a7, a8, a9, a10, a11, a12, a13, a14, a15, a16, a17, a18, a19, a20, a21, a22, a23, a24, a25, a26])) 8 22 F = F a22 := rfl
theorem pf8_22 {a0 a1 a2 a3 a4 a5 a6 a7 a8 a9 a10 a11 a12 a13 a14 a15 a16 a17 a18 a19 a20 a21 a22 a23 a24 a25 a26 : Value} {x : Int32} {F : ex_AC → Prop} : ex_pf (some (cO 8 [a0, a1, a2, a3, a4, a5, a6, a7, a8, a9, a10, a11, a12, a13, a14, a15, a16, a17, a18, a19, a20, a21, a22, a23, a24, a25, a26])) 8 22 (.int x) F = F (cO 8 [a0, a1, a2, a3, a4, a5, a6, a7, a8, a9, a10, a11, a12, a13, a14, a15, a16, a17, a18, a19, a20, a21, .int x, a23, a24, a25, a26]) := rfl
theorem gf8_23 {a0 a1 a2 a3 a4 a5 a6 a7 a8 a9 a10 a11 a12 a13 a14 a15 a16 a17 a18 a19 a20 a21 a22 a23 a24 a25 a26 : Value} {F : Value → Prop} : ex_gf (some (cO 8 [a0, a1, a2, a3, a4, a5, a6, a7, a8, a9, a10, a11, a12, a13, a14, a15, a16, a17, a18, a19, a20, a21, a22, a23, a24, a25, a26])) 8 23 F = F a23 := rfl
theorem pf8_23 {a0 a1 a2 a3 a4 a5 a6 a7 a8 a9 a10 a11 a12 a13 a14 a15 a16 a17 a18 a19 a20 a21 a22 a23 a24 a25 a26 : Value} {z : Nat} {F : ex_AC → Prop} : ex_pf (some (cO 8 [a0, a1, a2, a3, a4, a5, a6, a7, a8, a9, a10, a11, a12, a13, a14, a15, a16, a17, a18, a19, a20, a21, a22, a23, a24, a25, a26])) 8 23 (.ref z) F = F (cO 8 [a0, a1, a2, a3, a4, a5, a6, a7, a8, a9, a10, a11, a12, a13, a14, a15, a16, a17, a18, a19, a20, a21, a22, .ref z, a24, a25, a26]) := rfl
theorem gf8_24 {a0 a1 a2 a3 a4 a5 a6 a7 a8 a9 a10 a11 a12 a13 a14 a15 a16 a17 a18 a19 a20 a21 a22 a23 a24 a25 a26 : Value} {F : Value → Prop} : ex_gf (some (cO 8 [a0, a1, a2, a3, a4, a5, a6, a7, a8, a9, a10, a11, a12, a13, a14, a15, a16, a17, a18, a19, a20, a21, a22, a23, a24, a25, a26])) 8 24 F = F a24 := rfl
theorem pf8_24 {a0 a1 a2 a3 a4 a5 a6 a7 a8 a9 a10 a11 a12 a13 a14 a15 a16 a17 a18 a19 a20 a21 a22 a23 a24 a25 a26 : Value} {z : Nat} {F : ex_AC → Prop} : ex_pf (some (cO 8 [a0, a1, a2, a3, a4, a5, a6, a7, a8, a9, a10, a11, a12, a13, a14, a15, a16, a17, a18, a19, a20, a21, a22, a23, a24, a25, a26])) 8 24 (.ref z) F = F (cO 8 [a0, a1, a2, a3, a4, a5, a6, a7, a8, a9, a10, a11, a12, a13, a14, a15, a16, a17, a18, a19, a20, a21, a22, a23, .ref z, a25, a26]) := rfl
theorem gf8_25 {a0 a1 a2 a3 a4 a5 a6 a7 a8 a9 a10 a11 a12 a13 a14 a15 a16 a17 a18 a19 a20 a21 a22 a23 a24 a25 a26 : Value} {F : Value → Prop} : ex_gf (some (cO 8 [a0, a1, a2, a3, a4, a5, a6, a7, a8, a9, a10, a11, a12, a13, a14, a15, a16, a17, a18, a19, a20, a21, a22, a23, a24, a25, a26])) 8 25 F = F a25 := rfl
theorem pf8_25 {a0 a1 a2 a3 a4 a5 a6 a7 a8 a9 a10 a11 a12 a13 a14 a15 a16 a17 a18 a19 a20 a21 a22 a23 a24 a25 a26 : Value} {x : Int32} {F : ex_AC → Prop} : ex_pf (some (cO 8 [a0, a1, a2, a3, a4, a5, a6, a7, a8, a9, a10, a11, a12, a13, a14, a15, a16, a17, a18, a19, a20, a21, a22, a23, a24, a25, a26])) 8 25 (.int x) F = F (cO 8 [a0, a1, a2, a3, a4, a5, a6, a7, a8, a9, a10, a11, a12, a13, a14, a15, a16, a17, a18, a19, a20, a21, a22, a23, a24, .int x, a26]) := rfl
theorem gf8_26 {a0 a1 a2 a3 a4 a5 a6 a7 a8 a9 a10 a11 a12 a13 a14 a15 a16 a17 a18 a19 a20 a21 a22 a23 a24 a25 a26 : Value} {F : Value → Prop} : ex_gf (some (cO 8 [a0, a1, a2, a3, a4, a5, a6, a7, a8, a9, a10, a11, a12, a13, a14, a15, a16, a17, a18, a19, a20, a21, a22, a23, a24, a25, a26])) 8 26 F = F a26 := rfl
theorem pf8_26 {a0 a1 a2 a3 a4 a5 a6 a7 a8 a9 a10 a11 a12 a13 a14 a15 a16 a17 a18 a19 a20 a21 a22 a23 a24 a25 a26 : Value} {x : Int32} {F : ex_AC → Prop} : ex_pf (some (cO 8 [a0, a1, a2, a3, a4, a5, a6, a7, a8, a9, a10, a11, a12, a13, a14, a15, a16, a17, a18, a19, a20, a21, a22, a23, a24, a25, a26])) 8 26 (.int x) F = F (cO 8 [a0, a1, a2, a3, a4, a5, a6, a7, a8, a9, a10, a11, a12, a13, a14, a15, a16, a17, a18, a19, a20, a21, a22, a23, a24, a25, .int x]) := rfl
theorem is_O {ci : Nat} {fs : List Value} : ex_is (some (cO ci fs)) ci = True := eq_true rfl
theorem al_I {n : Nat} {f : Nat → Int32} {i : Int32} {F : Int32 → Prop} : ex_al (some (cI n f)) i F = ex_xi i n (fun j => F (f j)) := rfl
theorem al_S {n : Nat} {f : Nat → Int32} {i : Int32} {F : Int32 → Prop} : ex_al (some (.inl (9, n, f))) i F = ex_xi i n (fun j => F (f j)) := rfl
theorem zl_Z {n : Nat} {f : Nat → Int32} {i : Int32} {F : Int32 → Prop} : ex_zl (some (cZ n f)) i F = ex_xi i n (fun j => F (f j)) := rfl
theorem as_I {n : Nat} {f : Nat → Int32} {i x : Int32} {F : ex_AC → Prop} : ex_as (some (cI n f)) i x F = ex_xi i n (fun j => F (cI n (upd f j x))) := rfl
theorem zs_0 {n : Nat} {f : Nat → Int32} {i : Int32} {F : ex_AC → Prop} : ex_zs (some (cZ n f)) i 0 F = ex_xi i n (fun j => F (cZ n (upd f j 0))) := rfl
theorem zs_1 {n : Nat} {f : Nat → Int32} {i : Int32} {F : ex_AC → Prop} : ex_zs (some (cZ n f)) i 1 F = ex_xi i n (fun j => F (cZ n (upd f j 1))) := rfl
theorem rl_R {t n : Nat} {f : Nat → Option Nat} {i : Int32} {F : Value → Prop} : ex_rl (some (cR t n f)) i F = ex_xi i n (fun j => F (va_rf (f j))) := rfl
theorem ln_I {n : Nat} {f : Nat → Int32} {F : Int32 → Prop} : ex_ln (some (cI n f)) F = F (nI n) := rfl
theorem ln_S {n : Nat} {f : Nat → Int32} {F : Int32 → Prop} : ex_ln (some (.inl (9, n, f))) F = F (nI n) := rfl
theorem ln_R {t n : Nat} {f : Nat → Option Nat} {F : Int32 → Prop} : ex_ln (some (cR t n f)) F = F (nI n) := rfl
theorem xi_n {j n : Nat} {F : Nat → Prop} (h : j < n) (hn : n < 2147483648) : ex_xi (nI j) n F = F j := by
  unfold ex_xi
  rw [if_neg (nI_in h (by simpa using hn)), nI_clamp (by have : (2 : Nat) ^ 31 = 2147483648 := rfl; omega)]
theorem g_set {h : ex_Hp} {a : Nat} {c : ex_AC} : ex_g (ex_set h a c) a = some c := by simp [ex_g, ex_set]
theorem g_ne {h : ex_Hp} {a q : Nat} {c : ex_AC} (hq : ¬ q = a) : ex_g (ex_set h a c) q = ex_g h q := by simp [ex_g, ex_set, hq]
theorem set_set {h : ex_Hp} {a : Nat} {c d : ex_AC} : ex_set (ex_set h a c) a d = ex_set h a d := by
  unfold ex_set
  refine congrArg (Prod.mk _) (congrArg (Prod.mk _) (funext fun q => ?_))
  by_cases hq : q = a <;> simp [hq]
theorem set_comm {h : ex_Hp} {a b : Nat} {c d : ex_AC} (hab : ¬ a = b) : ex_set (ex_set h a c) b d = ex_set (ex_set h b d) a c := by
  unfold ex_set
  refine congrArg (Prod.mk _) (congrArg (Prod.mk _) (funext fun q => ?_))
  by_cases h1 : q = a
  · by_cases h2 : q = b
    · exact absurd (h1.symm.trans h2) hab
    · simp [h1, hab]
  · simp [h1]
theorem set_same {h : ex_Hp} {a : Nat} {c : ex_AC} (hc : ex_g h a = some c) : ex_set h a c = h := by
  obtain ⟨n, k, f⟩ := h
  unfold ex_set
  refine congrArg (Prod.mk _) (congrArg (Prod.mk _) (funext fun q => ?_))
  by_cases h1 : q = a
  · subst h1
    simp only [if_true]
    exact hc.symm
  · simp [h1]
theorem cat_0 : ex_cat [] = 0 := rfl
theorem cat_i {x : Int32} {S : List Value} : ex_cat (.int x :: S) = ex_cat S + 1 := by simp [ex_cat, Value.category, Nat.add_comm]
theorem cat_r {x : Nat} {S : List Value} : ex_cat (.ref x :: S) = ex_cat S + 1 := by simp [ex_cat, Value.category, Nat.add_comm]
theorem opt_n {S : List Value} : (none : Option Value).toList ++ S = S := rfl
theorem opt_s {v : Value} {S : List Value} : (some v).toList ++ S = v :: S := rfl
end
section
def nF (p v : Int32) : Int32 := if p < 2 then 0 else if v - v / p * p < 0 then v - v / p * p + p else v - v / p * p
abbrev oNum (p lo : Int32) (lp : Nat) : ex_AC := cO 2 [.int p, .int lo, .ref lp]
theorem m_leftOver {h : ex_Hp} {nb lp : Nat} {p lo v : Int32} {X : Option Value → ex_Hp → Prop} (hn : ex_g h nb = some (oNum p lo lp)) : ex_W 28 0 [.ref nb, .int v, oU] [] h X ↔ X (some (.int (nF p v))) h := by
  simp only [s28_0, s28_1, s28_4, s28_5, s28_8, s28_9, s28_10, s28_11, s28_12, s28_15, s28_16, s28_17, s28_18, s28_21, s28_22, s28_23, s28_26, s28_27, s28_30, s28_31, hn, gf2_0, nF]
  by_cases h1 : p < 2
  · simp only [h1, if_true]
  · sorry
theorem m_add {h : ex_Hp} {nb lp : Nat} {p lo x z : Int32} {X : Option Value → ex_Hp → Prop} (hn : ex_g h nb = some (oNum p lo lp)) : ex_W 29 0 [.ref nb, .int x, .int z] [] h X ↔ X (some (.int (nF p (x + z)))) h := by
  simp only [s29_0, s29_1, s29_2, s29_3, s29_4, s29_7, hn, gf2_0, is_O, m_leftOver hn, opt_s, cat_0, true_and, Nat.zero_le]
end
