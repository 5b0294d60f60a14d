section
-- ===== PART A: goes FIRST, ahead of the names: the tables' words, and 'selects' of the private methods out of them =====
/-- a private method of a class that the tables say can be made, by its rows of tables_1 -/
def lw_okq (q : MethodName × Nat) : Prop := (q.1.cls ≠ "java/lang/invoke/MethodHandle" ∧ q.1.cls ≠ "java/lang/invoke/VarHandle") ∧ Cond.instantiable q.1.cls q.2 ∈ tables_1 ∧ Cond.privateMethod q.1 ∈ tables_1 ∧ Cond.instanceMethod q.1 ∈ tables_1
theorem lw_p0 : lw_okq (⟨"LightChecks$Tree", "reckon", "()V"⟩, 2) := ⟨⟨by decide +kernel, by decide +kernel⟩, List.mem_of_getElem? (i := 47) (by decide +kernel), List.mem_of_getElem? (i := 53) (by decide +kernel), List.mem_of_getElem? (i := 54) (by decide +kernel)⟩
theorem lw_p1 : lw_okq (⟨"LightChecks$Proof", "take", "(LLightChecks$Tree;II)V"⟩, 7) := ⟨⟨by decide +kernel, by decide +kernel⟩, List.mem_of_getElem? (i := 77) (by decide +kernel), List.mem_of_getElem? (i := 141) (by decide +kernel), List.mem_of_getElem? (i := 142) (by decide +kernel)⟩
theorem lw_p2 : lw_okq (⟨"LightChecks$Tree", "leafAt", "(I)J"⟩, 2) := ⟨⟨by decide +kernel, by decide +kernel⟩, List.mem_of_getElem? (i := 47) (by decide +kernel), List.mem_of_getElem? (i := 145) (by decide +kernel), List.mem_of_getElem? (i := 146) (by decide +kernel)⟩
theorem lw_p3 : lw_okq (⟨"LightChecks$Proof", "isBeside", "(I)Z"⟩, 7) := ⟨⟨by decide +kernel, by decide +kernel⟩, List.mem_of_getElem? (i := 77) (by decide +kernel), List.mem_of_getElem? (i := 152) (by decide +kernel), List.mem_of_getElem? (i := 153) (by decide +kernel)⟩
theorem lw_p4 : lw_okq (⟨"LightChecks$Proof", "isOnWay", "(I)Z"⟩, 7) := ⟨⟨by decide +kernel, by decide +kernel⟩, List.mem_of_getElem? (i := 77) (by decide +kernel), List.mem_of_getElem? (i := 156) (by decide +kernel), List.mem_of_getElem? (i := 157) (by decide +kernel)⟩
theorem lw_p5 : lw_okq (⟨"LightChecks$Tree", "nodeAt", "(I)J"⟩, 2) := ⟨⟨by decide +kernel, by decide +kernel⟩, List.mem_of_getElem? (i := 47) (by decide +kernel), List.mem_of_getElem? (i := 160) (by decide +kernel), List.mem_of_getElem? (i := 161) (by decide +kernel)⟩
theorem lw_p6 : lw_okq (⟨"LightChecks", "setAt", "(I)LLightChecks$WeightSet;"⟩, 9) := ⟨⟨by decide +kernel, by decide +kernel⟩, List.mem_of_getElem? (i := 12) (by decide +kernel), List.mem_of_getElem? (i := 228) (by decide +kernel), List.mem_of_getElem? (i := 229) (by decide +kernel)⟩
theorem lw_p7 : lw_okq (⟨"LightChecks$HeadRow", "isFull", "()Z"⟩, 2) := ⟨⟨by decide +kernel, by decide +kernel⟩, List.mem_of_getElem? (i := 22) (by decide +kernel), List.mem_of_getElem? (i := 236) (by decide +kernel), List.mem_of_getElem? (i := 237) (by decide +kernel)⟩
theorem lw_p8 : lw_okq (⟨"LightChecks$HeadRow", "add", "(LLightChecks$Head;)V"⟩, 2) := ⟨⟨by decide +kernel, by decide +kernel⟩, List.mem_of_getElem? (i := 22) (by decide +kernel), List.mem_of_getElem? (i := 283) (by decide +kernel), List.mem_of_getElem? (i := 284) (by decide +kernel)⟩
theorem lw_p9 : lw_okq (⟨"LightChecks$HeadRow", "at", "(I)LLightChecks$Head;"⟩, 2) := ⟨⟨by decide +kernel, by decide +kernel⟩, List.mem_of_getElem? (i := 22) (by decide +kernel), List.mem_of_getElem? (i := 292) (by decide +kernel), List.mem_of_getElem? (i := 293) (by decide +kernel)⟩
theorem lw_p10 : lw_okq (⟨"LightChecks$WeightSet", "weightOf", "(I)I"⟩, 4) := ⟨⟨by decide +kernel, by decide +kernel⟩, List.mem_of_getElem? (i := 201) (by decide +kernel), List.mem_of_getElem? (i := 315) (by decide +kernel), List.mem_of_getElem? (i := 316) (by decide +kernel)⟩
theorem lw_p11 : lw_okq (⟨"LightChecks", "doesOverlap", "(LLightChecks$Head;LLightChecks$WeightSet;)Z"⟩, 9) := ⟨⟨by decide +kernel, by decide +kernel⟩, List.mem_of_getElem? (i := 12) (by decide +kernel), List.mem_of_getElem? (i := 323) (by decide +kernel), List.mem_of_getElem? (i := 324) (by decide +kernel)⟩
theorem lw_p12 : lw_okq (⟨"LightChecks", "clientAt", "(I)LLightChecks$Client;"⟩, 9) := ⟨⟨by decide +kernel, by decide +kernel⟩, List.mem_of_getElem? (i := 12) (by decide +kernel), List.mem_of_getElem? (i := 331) (by decide +kernel), List.mem_of_getElem? (i := 332) (by decide +kernel)⟩
theorem lw_p13 : lw_okq (⟨"LightChecks$Client", "begin", "(LLightChecks$Head;)V"⟩, 4) := ⟨⟨by decide +kernel, by decide +kernel⟩, List.mem_of_getElem? (i := 105) (by decide +kernel), List.mem_of_getElem? (i := 335) (by decide +kernel), List.mem_of_getElem? (i := 336) (by decide +kernel)⟩
theorem lw_p14 : lw_okq (⟨"LightChecks$HeadRow", "cutTo", "(I)V"⟩, 2) := ⟨⟨by decide +kernel, by decide +kernel⟩, List.mem_of_getElem? (i := 22) (by decide +kernel), List.mem_of_getElem? (i := 339) (by decide +kernel), List.mem_of_getElem? (i := 340) (by decide +kernel)⟩
theorem lw_p15 : lw_okq (⟨"LightChecks$Client", "trusted", "()LLightChecks$Head;"⟩, 4) := ⟨⟨by decide +kernel, by decide +kernel⟩, List.mem_of_getElem? (i := 105) (by decide +kernel), List.mem_of_getElem? (i := 351) (by decide +kernel), List.mem_of_getElem? (i := 352) (by decide +kernel)⟩
def lw_privs_1 : List (MethodName × Nat) := [(⟨"LightChecks$Tree", "reckon", "()V"⟩, 2), (⟨"LightChecks$Proof", "take", "(LLightChecks$Tree;II)V"⟩, 7), (⟨"LightChecks$Tree", "leafAt", "(I)J"⟩, 2), (⟨"LightChecks$Proof", "isBeside", "(I)Z"⟩, 7), (⟨"LightChecks$Proof", "isOnWay", "(I)Z"⟩, 7), (⟨"LightChecks$Tree", "nodeAt", "(I)J"⟩, 2), (⟨"LightChecks", "setAt", "(I)LLightChecks$WeightSet;"⟩, 9), (⟨"LightChecks$HeadRow", "isFull", "()Z"⟩, 2), (⟨"LightChecks$HeadRow", "add", "(LLightChecks$Head;)V"⟩, 2), (⟨"LightChecks$HeadRow", "at", "(I)LLightChecks$Head;"⟩, 2), (⟨"LightChecks$WeightSet", "weightOf", "(I)I"⟩, 4), (⟨"LightChecks", "doesOverlap", "(LLightChecks$Head;LLightChecks$WeightSet;)Z"⟩, 9), (⟨"LightChecks", "clientAt", "(I)LLightChecks$Client;"⟩, 9), (⟨"LightChecks$Client", "begin", "(LLightChecks$Head;)V"⟩, 4), (⟨"LightChecks$HeadRow", "cutTo", "(I)V"⟩, 2), (⟨"LightChecks$Client", "trusted", "()LLightChecks$Head;"⟩, 4)]
theorem lw_r1 : ∀ q ∈ lw_privs_1, lw_okq q := List.forall_mem_cons.mpr ⟨lw_p0, List.forall_mem_cons.mpr ⟨lw_p1, List.forall_mem_cons.mpr ⟨lw_p2, List.forall_mem_cons.mpr ⟨lw_p3, List.forall_mem_cons.mpr ⟨lw_p4, List.forall_mem_cons.mpr ⟨lw_p5, List.forall_mem_cons.mpr ⟨lw_p6, List.forall_mem_cons.mpr ⟨lw_p7, List.forall_mem_cons.mpr ⟨lw_p8, List.forall_mem_cons.mpr ⟨lw_p9, List.forall_mem_cons.mpr ⟨lw_p10, List.forall_mem_cons.mpr ⟨lw_p11, List.forall_mem_cons.mpr ⟨lw_p12, List.forall_mem_cons.mpr ⟨lw_p13, List.forall_mem_cons.mpr ⟨lw_p14, List.forall_mem_cons.mpr ⟨lw_p15, fun _ h => absurd h List.not_mem_nil⟩⟩⟩⟩⟩⟩⟩⟩⟩⟩⟩⟩⟩⟩⟩⟩
theorem lw_p16 : lw_okq (⟨"LightChecks", "refusal", "(LLightChecks$Head;LLightChecks$Head;)I"⟩, 9) := ⟨⟨by decide +kernel, by decide +kernel⟩, List.mem_of_getElem? (i := 12) (by decide +kernel), List.mem_of_getElem? (i := 356) (by decide +kernel), List.mem_of_getElem? (i := 357) (by decide +kernel)⟩
theorem lw_p17 : lw_okq (⟨"LightChecks", "stepRefusal", "(LLightChecks$Head;LLightChecks$Head;)I"⟩, 9) := ⟨⟨by decide +kernel, by decide +kernel⟩, List.mem_of_getElem? (i := 12) (by decide +kernel), List.mem_of_getElem? (i := 360) (by decide +kernel), List.mem_of_getElem? (i := 361) (by decide +kernel)⟩
theorem lw_p18 : lw_okq (⟨"LightChecks", "skipRefusal", "(LLightChecks$Head;LLightChecks$Head;)I"⟩, 9) := ⟨⟨by decide +kernel, by decide +kernel⟩, List.mem_of_getElem? (i := 12) (by decide +kernel), List.mem_of_getElem? (i := 364) (by decide +kernel), List.mem_of_getElem? (i := 365) (by decide +kernel)⟩
theorem lw_p19 : lw_okq (⟨"LightChecks$Client", "refuse", "(II)I"⟩, 4) := ⟨⟨by decide +kernel, by decide +kernel⟩, List.mem_of_getElem? (i := 105) (by decide +kernel), List.mem_of_getElem? (i := 368) (by decide +kernel), List.mem_of_getElem? (i := 369) (by decide +kernel)⟩
theorem lw_p20 : lw_okq (⟨"LightChecks$Client", "keep", "(LLightChecks$Head;I)V"⟩, 4) := ⟨⟨by decide +kernel, by decide +kernel⟩, List.mem_of_getElem? (i := 105) (by decide +kernel), List.mem_of_getElem? (i := 372) (by decide +kernel), List.mem_of_getElem? (i := 373) (by decide +kernel)⟩
theorem lw_p21 : lw_okq (⟨"LightChecks$HeadRow", "put", "(ILLightChecks$Head;)V"⟩, 2) := ⟨⟨by decide +kernel, by decide +kernel⟩, List.mem_of_getElem? (i := 22) (by decide +kernel), List.mem_of_getElem? (i := 376) (by decide +kernel), List.mem_of_getElem? (i := 377) (by decide +kernel)⟩
theorem lw_p22 : lw_okq (⟨"LightChecks", "giverAt", "(I)LLightChecks$Giver;"⟩, 9) := ⟨⟨by decide +kernel, by decide +kernel⟩, List.mem_of_getElem? (i := 12) (by decide +kernel), List.mem_of_getElem? (i := 384) (by decide +kernel), List.mem_of_getElem? (i := 385) (by decide +kernel)⟩
theorem lw_p23 : lw_okq (⟨"LightChecks$Giver", "replace", "(LLightChecks$Head;)LLightChecks$Head;"⟩, 1) := ⟨⟨by decide +kernel, by decide +kernel⟩, List.mem_of_getElem? (i := 129) (by decide +kernel), List.mem_of_getElem? (i := 388) (by decide +kernel), List.mem_of_getElem? (i := 389) (by decide +kernel)⟩
theorem lw_p24 : lw_okq (⟨"LightChecks$Giver", "placeOf", "(I)I"⟩, 1) := ⟨⟨by decide +kernel, by decide +kernel⟩, List.mem_of_getElem? (i := 129) (by decide +kernel), List.mem_of_getElem? (i := 392) (by decide +kernel), List.mem_of_getElem? (i := 393) (by decide +kernel)⟩
theorem lw_p25 : lw_okq (⟨"LightChecks", "climb", "(LLightChecks$Client;LLightChecks$Giver;I)I"⟩, 9) := ⟨⟨by decide +kernel, by decide +kernel⟩, List.mem_of_getElem? (i := 12) (by decide +kernel), List.mem_of_getElem? (i := 403) (by decide +kernel), List.mem_of_getElem? (i := 404) (by decide +kernel)⟩
theorem lw_p26 : lw_okq (⟨"LightChecks$Giver", "headAt", "(I)LLightChecks$Head;"⟩, 1) := ⟨⟨by decide +kernel, by decide +kernel⟩, List.mem_of_getElem? (i := 129) (by decide +kernel), List.mem_of_getElem? (i := 408) (by decide +kernel), List.mem_of_getElem? (i := 409) (by decide +kernel)⟩
theorem lw_p27 : lw_okq (⟨"LightChecks$Giver", "leastUnlike", "(LLightChecks$Giver;)I"⟩, 1) := ⟨⟨by decide +kernel, by decide +kernel⟩, List.mem_of_getElem? (i := 129) (by decide +kernel), List.mem_of_getElem? (i := 424) (by decide +kernel), List.mem_of_getElem? (i := 425) (by decide +kernel)⟩
theorem lw_p28 : lw_okq (⟨"LightChecks$Client", "lastBelow", "(I)LLightChecks$Head;"⟩, 4) := ⟨⟨by decide +kernel, by decide +kernel⟩, List.mem_of_getElem? (i := 105) (by decide +kernel), List.mem_of_getElem? (i := 436) (by decide +kernel), List.mem_of_getElem? (i := 437) (by decide +kernel)⟩
theorem lw_p29 : lw_okq (⟨"LightChecks$Tree", "change", "(IJ)J"⟩, 2) := ⟨⟨by decide +kernel, by decide +kernel⟩, List.mem_of_getElem? (i := 47) (by decide +kernel), List.mem_of_getElem? (i := 444) (by decide +kernel), List.mem_of_getElem? (i := 445) (by decide +kernel)⟩
theorem lw_p30 : lw_okq (⟨"LightChecks$Proof", "numberAt", "(I)J"⟩, 7) := ⟨⟨by decide +kernel, by decide +kernel⟩, List.mem_of_getElem? (i := 77) (by decide +kernel), List.mem_of_getElem? (i := 462) (by decide +kernel), List.mem_of_getElem? (i := 463) (by decide +kernel)⟩
theorem lw_p31 : lw_okq (⟨"LightChecks$Proof", "hasNode", "(I)Z"⟩, 7) := ⟨⟨by decide +kernel, by decide +kernel⟩, List.mem_of_getElem? (i := 77) (by decide +kernel), List.mem_of_getElem? (i := 466) (by decide +kernel), List.mem_of_getElem? (i := 467) (by decide +kernel)⟩
def lw_privs_2 : List (MethodName × Nat) := [(⟨"LightChecks", "refusal", "(LLightChecks$Head;LLightChecks$Head;)I"⟩, 9), (⟨"LightChecks", "stepRefusal", "(LLightChecks$Head;LLightChecks$Head;)I"⟩, 9), (⟨"LightChecks", "skipRefusal", "(LLightChecks$Head;LLightChecks$Head;)I"⟩, 9), (⟨"LightChecks$Client", "refuse", "(II)I"⟩, 4), (⟨"LightChecks$Client", "keep", "(LLightChecks$Head;I)V"⟩, 4), (⟨"LightChecks$HeadRow", "put", "(ILLightChecks$Head;)V"⟩, 2), (⟨"LightChecks", "giverAt", "(I)LLightChecks$Giver;"⟩, 9), (⟨"LightChecks$Giver", "replace", "(LLightChecks$Head;)LLightChecks$Head;"⟩, 1), (⟨"LightChecks$Giver", "placeOf", "(I)I"⟩, 1), (⟨"LightChecks", "climb", "(LLightChecks$Client;LLightChecks$Giver;I)I"⟩, 9), (⟨"LightChecks$Giver", "headAt", "(I)LLightChecks$Head;"⟩, 1), (⟨"LightChecks$Giver", "leastUnlike", "(LLightChecks$Giver;)I"⟩, 1), (⟨"LightChecks$Client", "lastBelow", "(I)LLightChecks$Head;"⟩, 4), (⟨"LightChecks$Tree", "change", "(IJ)J"⟩, 2), (⟨"LightChecks$Proof", "numberAt", "(I)J"⟩, 7), (⟨"LightChecks$Proof", "hasNode", "(I)Z"⟩, 7)]
theorem lw_r2 : ∀ q ∈ lw_privs_2, lw_okq q := List.forall_mem_cons.mpr ⟨lw_p16, List.forall_mem_cons.mpr ⟨lw_p17, List.forall_mem_cons.mpr ⟨lw_p18, List.forall_mem_cons.mpr ⟨lw_p19, List.forall_mem_cons.mpr ⟨lw_p20, List.forall_mem_cons.mpr ⟨lw_p21, List.forall_mem_cons.mpr ⟨lw_p22, List.forall_mem_cons.mpr ⟨lw_p23, List.forall_mem_cons.mpr ⟨lw_p24, List.forall_mem_cons.mpr ⟨lw_p25, List.forall_mem_cons.mpr ⟨lw_p26, List.forall_mem_cons.mpr ⟨lw_p27, List.forall_mem_cons.mpr ⟨lw_p28, List.forall_mem_cons.mpr ⟨lw_p29, List.forall_mem_cons.mpr ⟨lw_p30, List.forall_mem_cons.mpr ⟨lw_p31, fun _ h => absurd h List.not_mem_nil⟩⟩⟩⟩⟩⟩⟩⟩⟩⟩⟩⟩⟩⟩⟩⟩
theorem lw_p32 : lw_okq (⟨"LightChecks$Proof", "replace", "(IJ)Z"⟩, 7) := ⟨⟨by decide +kernel, by decide +kernel⟩, List.mem_of_getElem? (i := 77) (by decide +kernel), List.mem_of_getElem? (i := 474) (by decide +kernel), List.mem_of_getElem? (i := 475) (by decide +kernel)⟩
theorem lw_p33 : lw_okq (⟨"LightChecks$Proof", "topBefore", "()J"⟩, 7) := ⟨⟨by decide +kernel, by decide +kernel⟩, List.mem_of_getElem? (i := 77) (by decide +kernel), List.mem_of_getElem? (i := 482) (by decide +kernel), List.mem_of_getElem? (i := 483) (by decide +kernel)⟩
theorem lw_p34 : lw_okq (⟨"LightChecks$Proof", "topWith", "(JJ)J"⟩, 7) := ⟨⟨by decide +kernel, by decide +kernel⟩, List.mem_of_getElem? (i := 77) (by decide +kernel), List.mem_of_getElem? (i := 486) (by decide +kernel), List.mem_of_getElem? (i := 487) (by decide +kernel)⟩
theorem lw_p35 : lw_okq (⟨"LightChecks$Proof", "topBehind", "(J)J"⟩, 7) := ⟨⟨by decide +kernel, by decide +kernel⟩, List.mem_of_getElem? (i := 77) (by decide +kernel), List.mem_of_getElem? (i := 492) (by decide +kernel), List.mem_of_getElem? (i := 493) (by decide +kernel)⟩
theorem lw_p36 : lw_okq (⟨"LightChecksModel", "grow", "()V"⟩, 29) := ⟨⟨by decide +kernel, by decide +kernel⟩, List.mem_of_getElem? (i := 522) (by decide +kernel), List.mem_of_getElem? (i := 536) (by decide +kernel), List.mem_of_getElem? (i := 537) (by decide +kernel)⟩
theorem lw_p37 : lw_okq (⟨"LightChecksModel", "isSet", "(I)Z"⟩, 29) := ⟨⟨by decide +kernel, by decide +kernel⟩, List.mem_of_getElem? (i := 522) (by decide +kernel), List.mem_of_getElem? (i := 651) (by decide +kernel), List.mem_of_getElem? (i := 652) (by decide +kernel)⟩
theorem lw_p38 : lw_okq (⟨"LightChecksModel", "isHead", "(I)Z"⟩, 29) := ⟨⟨by decide +kernel, by decide +kernel⟩, List.mem_of_getElem? (i := 522) (by decide +kernel), List.mem_of_getElem? (i := 659) (by decide +kernel), List.mem_of_getElem? (i := 660) (by decide +kernel)⟩
theorem lw_p39 : lw_okq (⟨"LightChecksModel", "digestOf", "(I)J"⟩, 29) := ⟨⟨by decide +kernel, by decide +kernel⟩, List.mem_of_getElem? (i := 522) (by decide +kernel), List.mem_of_getElem? (i := 675) (by decide +kernel), List.mem_of_getElem? (i := 676) (by decide +kernel)⟩
theorem lw_p40 : lw_okq (⟨"LightChecksModel", "isCertified", "(I)Z"⟩, 29) := ⟨⟨by decide +kernel, by decide +kernel⟩, List.mem_of_getElem? (i := 522) (by decide +kernel), List.mem_of_getElem? (i := 683) (by decide +kernel), List.mem_of_getElem? (i := 684) (by decide +kernel)⟩
theorem lw_p41 : lw_okq (⟨"LightChecksModel", "weightOf", "(II)I"⟩, 29) := ⟨⟨by decide +kernel, by decide +kernel⟩, List.mem_of_getElem? (i := 522) (by decide +kernel), List.mem_of_getElem? (i := 687) (by decide +kernel), List.mem_of_getElem? (i := 688) (by decide +kernel)⟩
theorem lw_p42 : lw_okq (⟨"LightChecksModel", "doesOverlap", "(II)Z"⟩, 29) := ⟨⟨by decide +kernel, by decide +kernel⟩, List.mem_of_getElem? (i := 522) (by decide +kernel), List.mem_of_getElem? (i := 695) (by decide +kernel), List.mem_of_getElem? (i := 696) (by decide +kernel)⟩
theorem lw_p43 : lw_okq (⟨"LightChecksModel", "attempt", "(II)I"⟩, 29) := ⟨⟨by decide +kernel, by decide +kernel⟩, List.mem_of_getElem? (i := 522) (by decide +kernel), List.mem_of_getElem? (i := 710) (by decide +kernel), List.mem_of_getElem? (i := 711) (by decide +kernel)⟩
theorem lw_p44 : lw_okq (⟨"LightChecksModel", "trustedOf", "(I)I"⟩, 29) := ⟨⟨by decide +kernel, by decide +kernel⟩, List.mem_of_getElem? (i := 522) (by decide +kernel), List.mem_of_getElem? (i := 714) (by decide +kernel), List.mem_of_getElem? (i := 715) (by decide +kernel)⟩
theorem lw_p45 : lw_okq (⟨"LightChecksModel", "against", "(II)I"⟩, 29) := ⟨⟨by decide +kernel, by decide +kernel⟩, List.mem_of_getElem? (i := 522) (by decide +kernel), List.mem_of_getElem? (i := 718) (by decide +kernel), List.mem_of_getElem? (i := 719) (by decide +kernel)⟩
theorem lw_p46 : lw_okq (⟨"LightChecksModel", "refuse", "(III)I"⟩, 29) := ⟨⟨by decide +kernel, by decide +kernel⟩, List.mem_of_getElem? (i := 522) (by decide +kernel), List.mem_of_getElem? (i := 722) (by decide +kernel), List.mem_of_getElem? (i := 723) (by decide +kernel)⟩
theorem lw_p47 : lw_okq (⟨"LightChecksModel", "placeOf", "(II)I"⟩, 29) := ⟨⟨by decide +kernel, by decide +kernel⟩, List.mem_of_getElem? (i := 522) (by decide +kernel), List.mem_of_getElem? (i := 730) (by decide +kernel), List.mem_of_getElem? (i := 731) (by decide +kernel)⟩
def lw_privs_3 : List (MethodName × Nat) := [(⟨"LightChecks$Proof", "replace", "(IJ)Z"⟩, 7), (⟨"LightChecks$Proof", "topBefore", "()J"⟩, 7), (⟨"LightChecks$Proof", "topWith", "(JJ)J"⟩, 7), (⟨"LightChecks$Proof", "topBehind", "(J)J"⟩, 7), (⟨"LightChecksModel", "grow", "()V"⟩, 29), (⟨"LightChecksModel", "isSet", "(I)Z"⟩, 29), (⟨"LightChecksModel", "isHead", "(I)Z"⟩, 29), (⟨"LightChecksModel", "digestOf", "(I)J"⟩, 29), (⟨"LightChecksModel", "isCertified", "(I)Z"⟩, 29), (⟨"LightChecksModel", "weightOf", "(II)I"⟩, 29), (⟨"LightChecksModel", "doesOverlap", "(II)Z"⟩, 29), (⟨"LightChecksModel", "attempt", "(II)I"⟩, 29), (⟨"LightChecksModel", "trustedOf", "(I)I"⟩, 29), (⟨"LightChecksModel", "against", "(II)I"⟩, 29), (⟨"LightChecksModel", "refuse", "(III)I"⟩, 29), (⟨"LightChecksModel", "placeOf", "(II)I"⟩, 29)]
theorem lw_r3 : ∀ q ∈ lw_privs_3, lw_okq q := List.forall_mem_cons.mpr ⟨lw_p32, List.forall_mem_cons.mpr ⟨lw_p33, List.forall_mem_cons.mpr ⟨lw_p34, List.forall_mem_cons.mpr ⟨lw_p35, List.forall_mem_cons.mpr ⟨lw_p36, List.forall_mem_cons.mpr ⟨lw_p37, List.forall_mem_cons.mpr ⟨lw_p38, List.forall_mem_cons.mpr ⟨lw_p39, List.forall_mem_cons.mpr ⟨lw_p40, List.forall_mem_cons.mpr ⟨lw_p41, List.forall_mem_cons.mpr ⟨lw_p42, List.forall_mem_cons.mpr ⟨lw_p43, List.forall_mem_cons.mpr ⟨lw_p44, List.forall_mem_cons.mpr ⟨lw_p45, List.forall_mem_cons.mpr ⟨lw_p46, List.forall_mem_cons.mpr ⟨lw_p47, fun _ h => absurd h List.not_mem_nil⟩⟩⟩⟩⟩⟩⟩⟩⟩⟩⟩⟩⟩⟩⟩⟩
theorem lw_p48 : lw_okq (⟨"LightChecksModel", "headAt", "(II)I"⟩, 29) := ⟨⟨by decide +kernel, by decide +kernel⟩, List.mem_of_getElem? (i := 522) (by decide +kernel), List.mem_of_getElem? (i := 738) (by decide +kernel), List.mem_of_getElem? (i := 739) (by decide +kernel)⟩
theorem lw_p49 : lw_okq (⟨"LightChecksModel", "top", "(JJ)J"⟩, 29) := ⟨⟨by decide +kernel, by decide +kernel⟩, List.mem_of_getElem? (i := 522) (by decide +kernel), List.mem_of_getElem? (i := 782) (by decide +kernel), List.mem_of_getElem? (i := 783) (by decide +kernel)⟩
def lw_privs_4 : List (MethodName × Nat) := [(⟨"LightChecksModel", "headAt", "(II)I"⟩, 29), (⟨"LightChecksModel", "top", "(JJ)J"⟩, 29)]
theorem lw_r4 : ∀ q ∈ lw_privs_4, lw_okq q := List.forall_mem_cons.mpr ⟨lw_p48, List.forall_mem_cons.mpr ⟨lw_p49, fun _ h => absurd h List.not_mem_nil⟩⟩
def lw_privs : List (MethodName × Nat) := lw_privs_1 ++ (lw_privs_2 ++ (lw_privs_3 ++ (lw_privs_4)))
def lw_tbl : List Cond := k2_sels lw_privs ++ tables_1
theorem lw_privs_ok : ∀ q ∈ lw_privs, lw_okq q := by
  show ∀ q ∈ lw_privs_1 ++ (lw_privs_2 ++ (lw_privs_3 ++ (lw_privs_4))), lw_okq q
  exact List.forall_mem_append.mpr ⟨lw_r1, List.forall_mem_append.mpr ⟨lw_r2, List.forall_mem_append.mpr ⟨lw_r3, lw_r4⟩⟩⟩
end
section
def RX0 : String := "LightChecks$Client"
def TX0 : u_T := fun k => match k with
  | 0 => ("LightChecks$Client", "rows", "LLightChecks$HeadRow;", true)
  | 1 => ("LightChecks$Client", "cost", "I", false)
  | 2 => ("LightChecks$Client", "refusedBy", "I", false)
  | _ => ("LightChecks$Client", "refusedAt", "I", false)
def tyX0 : Nat → FieldType := fun k => match k with
  | 0 => .object "LightChecks$HeadRow"
  | 1 => .int
  | 2 => .int
  | _ => .int
abbrev wsX00 : List Cond := u_ws RX0 TX0 4
theorem nmX0 : ∀ a, a < 4 → ∀ b, b < 4 → a ≠ b → (TX0 a).2.1 ≠ (TX0 b).2.1 := by decide +kernel
theorem tyX0_ok : ∀ k, k < 4 → parseFieldDescriptor (TX0 k).2.2.1 = some (tyX0 k) := by decide +kernel
abbrev cX0_init : ByteArray := prog_2_method_1_code
def yX0_init : MethodName := ⟨RX0, "<init>", "()V"⟩
abbrev cX0_begin : ByteArray := prog_2_method_2_code
def yX0_begin : MethodName := ⟨RX0, "begin", "(LLightChecks$Head;)V"⟩
abbrev cX0_trusted : ByteArray := prog_2_method_3_code
def yX0_trusted : MethodName := ⟨RX0, "trusted", "()LLightChecks$Head;"⟩
abbrev cX0_keep : ByteArray := prog_2_method_4_code
def yX0_keep : MethodName := ⟨RX0, "keep", "(LLightChecks$Head;I)V"⟩
abbrev cX0_refuse : ByteArray := prog_2_method_5_code
def yX0_refuse : MethodName := ⟨RX0, "refuse", "(II)I"⟩
abbrev cX0_lastBelow : ByteArray := prog_2_method_6_code
def yX0_lastBelow : MethodName := ⟨RX0, "lastBelow", "(I)LLightChecks$Head;"⟩
def RX1 : String := "LightChecks$Giver"
def TX1 : u_T := fun k => match k with
  | _ => ("LightChecks$Giver", "rows", "LLightChecks$HeadRow;", true)
def tyX1 : Nat → FieldType := fun k => match k with
  | _ => .object "LightChecks$HeadRow"
abbrev wsX10 : List Cond := u_ws RX1 TX1 1
theorem nmX1 : ∀ a, a < 1 → ∀ b, b < 1 → a ≠ b → (TX1 a).2.1 ≠ (TX1 b).2.1 := by decide +kernel
theorem tyX1_ok : ∀ k, k < 1 → parseFieldDescriptor (TX1 k).2.2.1 = some (tyX1 k) := by decide +kernel
abbrev cX1_init : ByteArray := prog_3_method_1_code
def yX1_init : MethodName := ⟨RX1, "<init>", "()V"⟩
abbrev cX1_placeOf : ByteArray := prog_3_method_2_code
def yX1_placeOf : MethodName := ⟨RX1, "placeOf", "(I)I"⟩
abbrev cX1_headAt : ByteArray := prog_3_method_3_code
def yX1_headAt : MethodName := ⟨RX1, "headAt", "(I)LLightChecks$Head;"⟩
abbrev cX1_replace : ByteArray := prog_3_method_4_code
def yX1_replace : MethodName := ⟨RX1, "replace", "(LLightChecks$Head;)LLightChecks$Head;"⟩
abbrev cX1_leastUnlike : ByteArray := prog_3_method_5_code
def yX1_leastUnlike : MethodName := ⟨RX1, "leastUnlike", "(LLightChecks$Giver;)I"⟩
abbrev cX1_isUnlike : ByteArray := prog_3_method_6_code
def yX1_isUnlike : MethodName := ⟨RX1, "isUnlike", "(LLightChecks$Head;LLightChecks$Giver;)Z"⟩
def RX2 : String := "LightChecks$Head"
def TX2 : u_T := fun k => match k with
  | 0 => ("LightChecks$Head", "number", "I", true)
  | 1 => ("LightChecks$Head", "height", "I", true)
  | 2 => ("LightChecks$Head", "parent", "J", true)
  | 3 => ("LightChecks$Head", "own", "LLightChecks$WeightSet;", true)
  | 4 => ("LightChecks$Head", "following", "LLightChecks$WeightSet;", true)
  | 5 => ("LightChecks$Head", "root", "J", true)
  | 6 => ("LightChecks$Head", "fingerprint", "J", true)
  | _ => ("LightChecks$Head", "signers", "I", false)
def tyX2 : Nat → FieldType := fun k => match k with
  | 0 => .int
  | 1 => .int
  | 2 => .long
  | 3 => .object "LightChecks$WeightSet"
  | 4 => .object "LightChecks$WeightSet"
  | 5 => .long
  | 6 => .long
  | _ => .int
abbrev wsX20 : List Cond := u_ws RX2 TX2 8
theorem nmX2 : ∀ a, a < 8 → ∀ b, b < 8 → a ≠ b → (TX2 a).2.1 ≠ (TX2 b).2.1 := by decide +kernel
theorem tyX2_ok : ∀ k, k < 8 → parseFieldDescriptor (TX2 k).2.2.1 = some (tyX2 k) := by decide +kernel
abbrev cX2_init : ByteArray := prog_4_method_1_code
def yX2_init : MethodName := ⟨RX2, "<init>", "(IIJLLightChecks$WeightSet;LLightChecks$WeightSet;J)V"⟩
def RX3 : String := "LightChecks$HeadRow"
def TX3 : u_T := fun k => match k with
  | 0 => ("LightChecks$HeadRow", "places", "[LLightChecks$Head;", true)
  | _ => ("LightChecks$HeadRow", "size", "I", false)
def tyX3 : Nat → FieldType := fun k => match k with
  | 0 => .array (.object "LightChecks$Head")
  | _ => .int
abbrev wsX30 : List Cond := u_ws RX3 TX3 2
theorem nmX3 : ∀ a, a < 2 → ∀ b, b < 2 → a ≠ b → (TX3 a).2.1 ≠ (TX3 b).2.1 := by decide +kernel
theorem tyX3_ok : ∀ k, k < 2 → parseFieldDescriptor (TX3 k).2.2.1 = some (tyX3 k) := by decide +kernel
abbrev cX3_init : ByteArray := prog_5_method_1_code
def yX3_init : MethodName := ⟨RX3, "<init>", "(I)V"⟩
abbrev cX3_at : ByteArray := prog_5_method_2_code
def yX3_at : MethodName := ⟨RX3, "at", "(I)LLightChecks$Head;"⟩
abbrev cX3_isFull : ByteArray := prog_5_method_3_code
def yX3_isFull : MethodName := ⟨RX3, "isFull", "()Z"⟩
abbrev cX3_add : ByteArray := prog_5_method_4_code
def yX3_add : MethodName := ⟨RX3, "add", "(LLightChecks$Head;)V"⟩
abbrev cX3_put : ByteArray := prog_5_method_5_code
def yX3_put : MethodName := ⟨RX3, "put", "(ILLightChecks$Head;)V"⟩
abbrev cX3_cutTo : ByteArray := prog_5_method_6_code
def yX3_cutTo : MethodName := ⟨RX3, "cutTo", "(I)V"⟩
def RX4 : String := "LightChecks$Proof"
def TX4 : u_T := fun k => match k with
  | 0 => ("LightChecks$Proof", "a", "I", false)
  | 1 => ("LightChecks$Proof", "b", "I", false)
  | 2 => ("LightChecks$Proof", "valueA", "J", false)
  | 3 => ("LightChecks$Proof", "valueB", "J", false)
  | 4 => ("LightChecks$Proof", "nodes", "[J", true)
  | 5 => ("LightChecks$Proof", "count", "I", false)
  | _ => ("LightChecks$Proof", "reckoned", "[J", true)
def tyX4 : Nat → FieldType := fun k => match k with
  | 0 => .int
  | 1 => .int
  | 2 => .long
  | 3 => .long
  | 4 => .array .long
  | 5 => .int
  | _ => .array .long
abbrev wsX40 : List Cond := u_ws RX4 TX4 7
theorem nmX4 : ∀ a, a < 7 → ∀ b, b < 7 → a ≠ b → (TX4 a).2.1 ≠ (TX4 b).2.1 := by decide +kernel
theorem tyX4_ok : ∀ k, k < 7 → parseFieldDescriptor (TX4 k).2.2.1 = some (tyX4 k) := by decide +kernel
abbrev cX4_init : ByteArray := prog_6_method_1_code
def yX4_init : MethodName := ⟨RX4, "<init>", "()V"⟩
abbrev cX4_take : ByteArray := prog_6_method_2_code
def yX4_take : MethodName := ⟨RX4, "take", "(LLightChecks$Tree;II)V"⟩
abbrev cX4_isOnWay : ByteArray := prog_6_method_3_code
def yX4_isOnWay : MethodName := ⟨RX4, "isOnWay", "(I)Z"⟩
abbrev cX4_isBeside : ByteArray := prog_6_method_4_code
def yX4_isBeside : MethodName := ⟨RX4, "isBeside", "(I)Z"⟩
abbrev cX4_hasNode : ByteArray := prog_6_method_5_code
def yX4_hasNode : MethodName := ⟨RX4, "hasNode", "(I)Z"⟩
abbrev cX4_numberAt : ByteArray := prog_6_method_6_code
def yX4_numberAt : MethodName := ⟨RX4, "numberAt", "(I)J"⟩
abbrev cX4_replace : ByteArray := prog_6_method_7_code
def yX4_replace : MethodName := ⟨RX4, "replace", "(IJ)Z"⟩
abbrev cX4_topBefore : ByteArray := prog_6_method_8_code
def yX4_topBefore : MethodName := ⟨RX4, "topBefore", "()J"⟩
abbrev cX4_topBehind : ByteArray := prog_6_method_9_code
def yX4_topBehind : MethodName := ⟨RX4, "topBehind", "(J)J"⟩
abbrev cX4_topWith : ByteArray := prog_6_method_10_code
def yX4_topWith : MethodName := ⟨RX4, "topWith", "(JJ)J"⟩
def RX5 : String := "LightChecks$Tree"
def TX5 : u_T := fun k => match k with
  | 0 => ("LightChecks$Tree", "leaves", "[J", true)
  | _ => ("LightChecks$Tree", "nodes", "[J", true)
def tyX5 : Nat → FieldType := fun k => match k with
  | 0 => .array .long
  | _ => .array .long
abbrev wsX50 : List Cond := u_ws RX5 TX5 2
theorem nmX5 : ∀ a, a < 2 → ∀ b, b < 2 → a ≠ b → (TX5 a).2.1 ≠ (TX5 b).2.1 := by decide +kernel
theorem tyX5_ok : ∀ k, k < 2 → parseFieldDescriptor (TX5 k).2.2.1 = some (tyX5 k) := by decide +kernel
abbrev cX5_init : ByteArray := prog_7_method_1_code
def yX5_init : MethodName := ⟨RX5, "<init>", "()V"⟩
abbrev cX5_reckon : ByteArray := prog_7_method_2_code
def yX5_reckon : MethodName := ⟨RX5, "reckon", "()V"⟩
abbrev cX5_leafAt : ByteArray := prog_7_method_3_code
def yX5_leafAt : MethodName := ⟨RX5, "leafAt", "(I)J"⟩
abbrev cX5_nodeAt : ByteArray := prog_7_method_4_code
def yX5_nodeAt : MethodName := ⟨RX5, "nodeAt", "(I)J"⟩
abbrev cX5_change : ByteArray := prog_7_method_5_code
def yX5_change : MethodName := ⟨RX5, "change", "(IJ)J"⟩
def RX6 : String := "LightChecks$WeightSet"
def TX6 : u_T := fun k => match k with
  | 0 => ("LightChecks$WeightSet", "number", "I", true)
  | 1 => ("LightChecks$WeightSet", "low", "J", true)
  | 2 => ("LightChecks$WeightSet", "high", "J", true)
  | _ => ("LightChecks$WeightSet", "total", "I", true)
def tyX6 : Nat → FieldType := fun k => match k with
  | 0 => .int
  | 1 => .long
  | 2 => .long
  | _ => .int
abbrev wsX60 : List Cond := u_ws RX6 TX6 4
theorem nmX6 : ∀ a, a < 4 → ∀ b, b < 4 → a ≠ b → (TX6 a).2.1 ≠ (TX6 b).2.1 := by decide +kernel
theorem tyX6_ok : ∀ k, k < 4 → parseFieldDescriptor (TX6 k).2.2.1 = some (tyX6 k) := by decide +kernel
abbrev cX6_init : ByteArray := prog_8_method_1_code
def yX6_init : MethodName := ⟨RX6, "<init>", "(IJJ)V"⟩
abbrev cX6_weightOf : ByteArray := prog_8_method_2_code
def yX6_weightOf : MethodName := ⟨RX6, "weightOf", "(I)I"⟩
def RX7 : String := "LightChecks"
def TX7 : u_T := fun k => match k with
  | 0 => ("LightChecks", "sets", "[LLightChecks$WeightSet;", true)
  | 1 => ("LightChecks", "setCount", "I", false)
  | 2 => ("LightChecks", "heads", "LLightChecks$HeadRow;", true)
  | 3 => ("LightChecks", "terms", "[I", true)
  | 4 => ("LightChecks", "clients", "[LLightChecks$Client;", true)
  | 5 => ("LightChecks", "givers", "[LLightChecks$Giver;", true)
  | 6 => ("LightChecks", "pile", "[I", true)
  | 7 => ("LightChecks", "theTree", "LLightChecks$Tree;", true)
  | _ => ("LightChecks", "theProof", "LLightChecks$Proof;", true)
def tyX7 : Nat → FieldType := fun k => match k with
  | 0 => .array (.object "LightChecks$WeightSet")
  | 1 => .int
  | 2 => .object "LightChecks$HeadRow"
  | 3 => .array .int
  | 4 => .array (.object "LightChecks$Client")
  | 5 => .array (.object "LightChecks$Giver")
  | 6 => .array .int
  | 7 => .object "LightChecks$Tree"
  | _ => .object "LightChecks$Proof"
abbrev wsX70 : List Cond := u_ws RX7 TX7 9
theorem nmX7 : ∀ a, a < 9 → ∀ b, b < 9 → a ≠ b → (TX7 a).2.1 ≠ (TX7 b).2.1 := by decide +kernel
theorem tyX7_ok : ∀ k, k < 9 → parseFieldDescriptor (TX7 k).2.2.1 = some (tyX7 k) := by decide +kernel
abbrev cX7_init : ByteArray := prog_1_method_1_code
def yX7_init : MethodName := ⟨RX7, "<init>", "()V"⟩
abbrev cX7_set : ByteArray := prog_1_method_2_code
def yX7_set : MethodName := ⟨RX7, "set", "(JJ)I"⟩
abbrev cX7_head : ByteArray := prog_1_method_3_code
def yX7_head : MethodName := ⟨RX7, "head", "(IJIIJ)I"⟩
abbrev cX7_sign : ByteArray := prog_1_method_4_code
def yX7_sign : MethodName := ⟨RX7, "sign", "(II)I"⟩
abbrev cX7_term : ByteArray := prog_1_method_5_code
def yX7_term : MethodName := ⟨RX7, "term", "(II)I"⟩
abbrev cX7_digest : ByteArray := prog_1_method_6_code
def yX7_digest : MethodName := ⟨RX7, "digest", "(I)J"⟩
abbrev cX7_certified : ByteArray := prog_1_method_7_code
def yX7_certified : MethodName := ⟨RX7, "certified", "(I)I"⟩
abbrev cX7_overlaps : ByteArray := prog_1_method_8_code
def yX7_overlaps : MethodName := ⟨RX7, "overlaps", "(II)I"⟩
abbrev cX7_start : ByteArray := prog_1_method_9_code
def yX7_start : MethodName := ⟨RX7, "start", "(II)I"⟩
abbrev cX7_follow : ByteArray := prog_1_method_10_code
def yX7_follow : MethodName := ⟨RX7, "follow", "(II)I"⟩
abbrev cX7_give : ByteArray := prog_1_method_11_code
def yX7_give : MethodName := ⟨RX7, "give", "(II)I"⟩
abbrev cX7_seek : ByteArray := prog_1_method_12_code
def yX7_seek : MethodName := ⟨RX7, "seek", "(III)I"⟩
abbrev cX7_stored : ByteArray := prog_1_method_13_code
def yX7_stored : MethodName := ⟨RX7, "stored", "(II)I"⟩
abbrev cX7_client : ByteArray := prog_1_method_14_code
def yX7_client : MethodName := ⟨RX7, "client", "(II)I"⟩
abbrev cX7_compare : ByteArray := prog_1_method_15_code
def yX7_compare : MethodName := ⟨RX7, "compare", "(II)I"⟩
abbrev cX7_blame : ByteArray := prog_1_method_16_code
def yX7_blame : MethodName := ⟨RX7, "blame", "(III)I"⟩
abbrev cX7_leaf : ByteArray := prog_1_method_17_code
def yX7_leaf : MethodName := ⟨RX7, "leaf", "(IJ)J"⟩
abbrev cX7_tree : ByteArray := prog_1_method_18_code
def yX7_tree : MethodName := ⟨RX7, "tree", "(I)J"⟩
abbrev cX7_prove : ByteArray := prog_1_method_19_code
def yX7_prove : MethodName := ⟨RX7, "prove", "(II)I"⟩
abbrev cX7_proof : ByteArray := prog_1_method_20_code
def yX7_proof : MethodName := ⟨RX7, "proof", "(I)J"⟩
abbrev cX7_alter : ByteArray := prog_1_method_21_code
def yX7_alter : MethodName := ⟨RX7, "alter", "(IJ)I"⟩
abbrev cX7_fraud : ByteArray := prog_1_method_22_code
def yX7_fraud : MethodName := ⟨RX7, "fraud", "(IIJ)I"⟩
abbrev cX7_chance : ByteArray := prog_1_method_23_code
def yX7_chance : MethodName := ⟨RX7, "chance", "(IIII)J"⟩
abbrev cX7_samples : ByteArray := prog_1_method_24_code
def yX7_samples : MethodName := ⟨RX7, "samples", "(III)I"⟩
abbrev cX7_told : ByteArray := prog_1_method_25_code
def yX7_told : MethodName := ⟨RX7, "told", "(I)I"⟩
abbrev cX7_setAt : ByteArray := prog_1_method_26_code
def yX7_setAt : MethodName := ⟨RX7, "setAt", "(I)LLightChecks$WeightSet;"⟩
abbrev cX7_clientAt : ByteArray := prog_1_method_27_code
def yX7_clientAt : MethodName := ⟨RX7, "clientAt", "(I)LLightChecks$Client;"⟩
abbrev cX7_giverAt : ByteArray := prog_1_method_28_code
def yX7_giverAt : MethodName := ⟨RX7, "giverAt", "(I)LLightChecks$Giver;"⟩
abbrev cX7_doesOverlap : ByteArray := prog_1_method_29_code
def yX7_doesOverlap : MethodName := ⟨RX7, "doesOverlap", "(LLightChecks$Head;LLightChecks$WeightSet;)Z"⟩
abbrev cX7_refusal : ByteArray := prog_1_method_30_code
def yX7_refusal : MethodName := ⟨RX7, "refusal", "(LLightChecks$Head;LLightChecks$Head;)I"⟩
abbrev cX7_stepRefusal : ByteArray := prog_1_method_31_code
def yX7_stepRefusal : MethodName := ⟨RX7, "stepRefusal", "(LLightChecks$Head;LLightChecks$Head;)I"⟩
abbrev cX7_skipRefusal : ByteArray := prog_1_method_32_code
def yX7_skipRefusal : MethodName := ⟨RX7, "skipRefusal", "(LLightChecks$Head;LLightChecks$Head;)I"⟩
abbrev cX7_climb : ByteArray := prog_1_method_33_code
def yX7_climb : MethodName := ⟨RX7, "climb", "(LLightChecks$Client;LLightChecks$Giver;I)I"⟩
abbrev cX7_isHeight : ByteArray := prog_1_method_34_code
def yX7_isHeight : MethodName := ⟨RX7, "isHeight", "(I)Z"⟩
abbrev cX7_isLeaf : ByteArray := prog_1_method_35_code
def yX7_isLeaf : MethodName := ⟨RX7, "isLeaf", "(I)Z"⟩
abbrev cX7_arePieces : ByteArray := prog_1_method_36_code
def yX7_arePieces : MethodName := ⟨RX7, "arePieces", "(II)Z"⟩
abbrev cX7_isCertified : ByteArray := prog_1_method_37_code
def yX7_isCertified : MethodName := ⟨RX7, "isCertified", "(LLightChecks$Head;)Z"⟩
abbrev cX7_weightIn : ByteArray := prog_1_method_38_code
def yX7_weightIn : MethodName := ⟨RX7, "weightIn", "(JI)I"⟩
abbrev cX7_holdsWeights : ByteArray := prog_1_method_39_code
def yX7_holdsWeights : MethodName := ⟨RX7, "holdsWeights", "(J)Z"⟩
abbrev cX7_mix : ByteArray := prog_1_method_40_code
def yX7_mix : MethodName := ⟨RX7, "mix", "(J)J"⟩
abbrev cX7_pair : ByteArray := prog_1_method_41_code
def yX7_pair : MethodName := ⟨RX7, "pair", "(JJ)J"⟩
abbrev cX7_choose : ByteArray := prog_1_method_42_code
def yX7_choose : MethodName := ⟨RX7, "choose", "(II)J"⟩
abbrev cX7_commonDivisor : ByteArray := prog_1_method_43_code
def yX7_commonDivisor : MethodName := ⟨RX7, "commonDivisor", "(JJ)J"⟩
def RX8 : String := "LightChecksModel"
def TX8 : u_T := fun k => match k with
  | 0 => ("LightChecksModel", "sets", "I", false)
  | 1 => ("LightChecksModel", "weight", "[I", true)
  | 2 => ("LightChecksModel", "heads", "I", false)
  | 3 => ("LightChecksModel", "height", "[I", true)
  | 4 => ("LightChecksModel", "parent", "[J", true)
  | 5 => ("LightChecksModel", "setOf", "[I", true)
  | 6 => ("LightChecksModel", "nextOf", "[I", true)
  | 7 => ("LightChecksModel", "root", "[J", true)
  | 8 => ("LightChecksModel", "signed", "[I", true)
  | 9 => ("LightChecksModel", "terms", "[I", true)
  | 10 => ("LightChecksModel", "storedMany", "[I", true)
  | 11 => ("LightChecksModel", "stored", "[I", true)
  | 12 => ("LightChecksModel", "cost", "[I", true)
  | 13 => ("LightChecksModel", "refused", "[I", true)
  | 14 => ("LightChecksModel", "refusedAt", "[I", true)
  | 15 => ("LightChecksModel", "givenMany", "[I", true)
  | 16 => ("LightChecksModel", "given", "[I", true)
  | 17 => ("LightChecksModel", "leaves", "[J", true)
  | 18 => ("LightChecksModel", "nodes", "[J", true)
  | 19 => ("LightChecksModel", "proofA", "I", false)
  | 20 => ("LightChecksModel", "proofB", "I", false)
  | 21 => ("LightChecksModel", "proofFirst", "J", false)
  | 22 => ("LightChecksModel", "proofSecond", "J", false)
  | 23 => ("LightChecksModel", "proofMany", "I", false)
  | 24 => ("LightChecksModel", "proofNode", "[I", true)
  | 25 => ("LightChecksModel", "proofValue", "[J", true)
  | 26 => ("LightChecksModel", "pile", "[I", true)
  | 27 => ("LightChecksModel", "isKnown", "[Z", true)
  | _ => ("LightChecksModel", "reckoned", "[J", true)
def tyX8 : Nat → FieldType := fun k => match k with
  | 0 => .int
  | 1 => .array .int
  | 2 => .int
  | 3 => .array .int
  | 4 => .array .long
  | 5 => .array .int
  | 6 => .array .int
  | 7 => .array .long
  | 8 => .array .int
  | 9 => .array .int
  | 10 => .array .int
  | 11 => .array .int
  | 12 => .array .int
  | 13 => .array .int
  | 14 => .array .int
  | 15 => .array .int
  | 16 => .array .int
  | 17 => .array .long
  | 18 => .array .long
  | 19 => .int
  | 20 => .int
  | 21 => .long
  | 22 => .long
  | 23 => .int
  | 24 => .array .int
  | 25 => .array .long
  | 26 => .array .int
  | 27 => .array .boolean
  | _ => .array .long
abbrev wsX80 : List Cond := u_ws RX8 TX8 29
theorem nmX8 : ∀ a, a < 29 → ∀ b, b < 29 → a ≠ b → (TX8 a).2.1 ≠ (TX8 b).2.1 := by decide +kernel
theorem tyX8_ok : ∀ k, k < 29 → parseFieldDescriptor (TX8 k).2.2.1 = some (tyX8 k) := by decide +kernel
abbrev cX8_init : ByteArray := prog_10_method_1_code
def yX8_init : MethodName := ⟨RX8, "<init>", "()V"⟩
abbrev cX8_in : ByteArray := prog_10_method_3_code
def yX8_in : MethodName := ⟨RX8, "in", "(JJJ)Z"⟩
abbrev cX8_mix : ByteArray := prog_10_method_4_code
def yX8_mix : MethodName := ⟨RX8, "mix", "(J)J"⟩
abbrev cX8_pair : ByteArray := prog_10_method_5_code
def yX8_pair : MethodName := ⟨RX8, "pair", "(JJ)J"⟩
abbrev cX8_set : ByteArray := prog_10_method_6_code
def yX8_set : MethodName := ⟨RX8, "set", "(JJ)I"⟩
abbrev cX8_isSet : ByteArray := prog_10_method_7_code
def yX8_isSet : MethodName := ⟨RX8, "isSet", "(I)Z"⟩
abbrev cX8_isHead : ByteArray := prog_10_method_8_code
def yX8_isHead : MethodName := ⟨RX8, "isHead", "(I)Z"⟩
abbrev cX8_head : ByteArray := prog_10_method_9_code
def yX8_head : MethodName := ⟨RX8, "head", "(IJIIJ)I"⟩
abbrev cX8_sign : ByteArray := prog_10_method_10_code
def yX8_sign : MethodName := ⟨RX8, "sign", "(II)I"⟩
abbrev cX8_term : ByteArray := prog_10_method_11_code
def yX8_term : MethodName := ⟨RX8, "term", "(II)I"⟩
abbrev cX8_digestOf : ByteArray := prog_10_method_12_code
def yX8_digestOf : MethodName := ⟨RX8, "digestOf", "(I)J"⟩
abbrev cX8_digest : ByteArray := prog_10_method_13_code
def yX8_digest : MethodName := ⟨RX8, "digest", "(I)J"⟩
abbrev cX8_weightOf : ByteArray := prog_10_method_14_code
def yX8_weightOf : MethodName := ⟨RX8, "weightOf", "(II)I"⟩
abbrev cX8_isCertified : ByteArray := prog_10_method_15_code
def yX8_isCertified : MethodName := ⟨RX8, "isCertified", "(I)Z"⟩
abbrev cX8_doesOverlap : ByteArray := prog_10_method_16_code
def yX8_doesOverlap : MethodName := ⟨RX8, "doesOverlap", "(II)Z"⟩
abbrev cX8_certified : ByteArray := prog_10_method_17_code
def yX8_certified : MethodName := ⟨RX8, "certified", "(I)I"⟩
abbrev cX8_overlaps : ByteArray := prog_10_method_18_code
def yX8_overlaps : MethodName := ⟨RX8, "overlaps", "(II)I"⟩
abbrev cX8_isFour : ByteArray := prog_10_method_19_code
def yX8_isFour : MethodName := ⟨RX8, "isFour", "(I)Z"⟩
abbrev cX8_start : ByteArray := prog_10_method_20_code
def yX8_start : MethodName := ⟨RX8, "start", "(II)I"⟩
abbrev cX8_against : ByteArray := prog_10_method_21_code
def yX8_against : MethodName := ⟨RX8, "against", "(II)I"⟩
abbrev cX8_trustedOf : ByteArray := prog_10_method_22_code
def yX8_trustedOf : MethodName := ⟨RX8, "trustedOf", "(I)I"⟩
abbrev cX8_attempt : ByteArray := prog_10_method_23_code
def yX8_attempt : MethodName := ⟨RX8, "attempt", "(II)I"⟩
abbrev cX8_refuse : ByteArray := prog_10_method_24_code
def yX8_refuse : MethodName := ⟨RX8, "refuse", "(III)I"⟩
abbrev cX8_follow : ByteArray := prog_10_method_25_code
def yX8_follow : MethodName := ⟨RX8, "follow", "(II)I"⟩
abbrev cX8_placeOf : ByteArray := prog_10_method_26_code
def yX8_placeOf : MethodName := ⟨RX8, "placeOf", "(II)I"⟩
abbrev cX8_headAt : ByteArray := prog_10_method_27_code
def yX8_headAt : MethodName := ⟨RX8, "headAt", "(II)I"⟩
abbrev cX8_give : ByteArray := prog_10_method_28_code
def yX8_give : MethodName := ⟨RX8, "give", "(II)I"⟩
abbrev cX8_seek : ByteArray := prog_10_method_29_code
def yX8_seek : MethodName := ⟨RX8, "seek", "(III)I"⟩
abbrev cX8_stored : ByteArray := prog_10_method_30_code
def yX8_stored : MethodName := ⟨RX8, "stored", "(II)I"⟩
abbrev cX8_client : ByteArray := prog_10_method_31_code
def yX8_client : MethodName := ⟨RX8, "client", "(II)I"⟩
abbrev cX8_compare : ByteArray := prog_10_method_32_code
def yX8_compare : MethodName := ⟨RX8, "compare", "(II)I"⟩
abbrev cX8_blame : ByteArray := prog_10_method_33_code
def yX8_blame : MethodName := ⟨RX8, "blame", "(III)I"⟩
abbrev cX8_leaf : ByteArray := prog_10_method_34_code
def yX8_leaf : MethodName := ⟨RX8, "leaf", "(IJ)J"⟩
abbrev cX8_grow : ByteArray := prog_10_method_35_code
def yX8_grow : MethodName := ⟨RX8, "grow", "()V"⟩
abbrev cX8_tree : ByteArray := prog_10_method_36_code
def yX8_tree : MethodName := ⟨RX8, "tree", "(I)J"⟩
abbrev cX8_prove : ByteArray := prog_10_method_37_code
def yX8_prove : MethodName := ⟨RX8, "prove", "(II)I"⟩
abbrev cX8_proof : ByteArray := prog_10_method_38_code
def yX8_proof : MethodName := ⟨RX8, "proof", "(I)J"⟩
abbrev cX8_alter : ByteArray := prog_10_method_39_code
def yX8_alter : MethodName := ⟨RX8, "alter", "(IJ)I"⟩
abbrev cX8_top : ByteArray := prog_10_method_40_code
def yX8_top : MethodName := ⟨RX8, "top", "(JJ)J"⟩
abbrev cX8_fraud : ByteArray := prog_10_method_41_code
def yX8_fraud : MethodName := ⟨RX8, "fraud", "(IIJ)I"⟩
abbrev cX8_gcd : ByteArray := prog_10_method_42_code
def yX8_gcd : MethodName := ⟨RX8, "gcd", "(JJ)J"⟩
abbrev cX8_choose : ByteArray := prog_10_method_43_code
def yX8_choose : MethodName := ⟨RX8, "choose", "(II)J"⟩
abbrev cX8_chance : ByteArray := prog_10_method_44_code
def yX8_chance : MethodName := ⟨RX8, "chance", "(IIII)J"⟩
abbrev cX8_samples : ByteArray := prog_10_method_45_code
def yX8_samples : MethodName := ⟨RX8, "samples", "(III)I"⟩
abbrev cX8_told : ByteArray := prog_10_method_46_code
def yX8_told : MethodName := ⟨RX8, "told", "(I)I"⟩
def RL : String := "LightChecksLaw"
abbrev cL_law : ByteArray := code
abbrev vwCl : List vw_C := [(RX0, TX0, 4), (RX1, TX1, 1), (RX2, TX2, 8), (RX3, TX3, 2), (RX4, TX4, 7), (RX5, TX5, 2), (RX6, TX6, 4), (RX7, TX7, 9), (RX8, TX8, 29)]
abbrev wg_cl : List vw_C := vwCl
end
section
theorem dX0_init_0 : decode cX0_init 0 = .ok (.aload_n 0, 1) := by decide +kernel
theorem dX0_init_1 : decode cX0_init 1 = .ok (.invokespecial 3, 3) := by decide +kernel
theorem dX0_init_4 : decode cX0_init 4 = .ok (.aload_n 0, 1) := by decide +kernel
theorem dX0_init_5 : decode cX0_init 5 = .ok (.new 9, 3) := by decide +kernel
theorem dX0_init_8 : decode cX0_init 8 = .ok (.dup, 1) := by decide +kernel
theorem dX0_init_9 : decode cX0_init 9 = .ok (.bipush 11, 2) := by decide +kernel
theorem dX0_init_11 : decode cX0_init 11 = .ok (.invokespecial 11, 3) := by decide +kernel
theorem dX0_init_14 : decode cX0_init 14 = .ok (.putfield 14, 3) := by decide +kernel
theorem dX0_init_17 : decode cX0_init 17 = .ok (.aload_n 0, 1) := by decide +kernel
theorem dX0_init_18 : decode cX0_init 18 = .ok (.iconst 0, 1) := by decide +kernel
theorem dX0_init_19 : decode cX0_init 19 = .ok (.putfield 20, 3) := by decide +kernel
theorem dX0_init_22 : decode cX0_init 22 = .ok (.aload_n 0, 1) := by decide +kernel
theorem dX0_init_23 : decode cX0_init 23 = .ok (.bipush (-2), 2) := by decide +kernel
theorem dX0_init_25 : decode cX0_init 25 = .ok (.putfield 24, 3) := by decide +kernel
theorem dX0_init_28 : decode cX0_init 28 = .ok (.aload_n 0, 1) := by decide +kernel
theorem dX0_init_29 : decode cX0_init 29 = .ok (.bipush (-2), 2) := by decide +kernel
theorem dX0_init_31 : decode cX0_init 31 = .ok (.putfield 27, 3) := by decide +kernel
theorem dX0_init_34 : decode cX0_init 34 = .ok (.return_, 1) := by decide +kernel
theorem dX0_begin_0 : decode cX0_begin 0 = .ok (.aload_n 0, 1) := by decide +kernel
theorem dX0_begin_1 : decode cX0_begin 1 = .ok (.getfield 14, 3) := by decide +kernel
theorem dX0_begin_4 : decode cX0_begin 4 = .ok (.iconst 0, 1) := by decide +kernel
theorem dX0_begin_5 : decode cX0_begin 5 = .ok (.invokevirtual 30, 3) := by decide +kernel
theorem dX0_begin_8 : decode cX0_begin 8 = .ok (.aload_n 0, 1) := by decide +kernel
theorem dX0_begin_9 : decode cX0_begin 9 = .ok (.getfield 14, 3) := by decide +kernel
theorem dX0_begin_12 : decode cX0_begin 12 = .ok (.aload_n 1, 1) := by decide +kernel
theorem dX0_begin_13 : decode cX0_begin 13 = .ok (.invokevirtual 33, 3) := by decide +kernel
theorem dX0_begin_16 : decode cX0_begin 16 = .ok (.aload_n 0, 1) := by decide +kernel
theorem dX0_begin_17 : decode cX0_begin 17 = .ok (.iconst 0, 1) := by decide +kernel
theorem dX0_begin_18 : decode cX0_begin 18 = .ok (.putfield 20, 3) := by decide +kernel
theorem dX0_begin_21 : decode cX0_begin 21 = .ok (.aload_n 0, 1) := by decide +kernel
theorem dX0_begin_22 : decode cX0_begin 22 = .ok (.bipush (-2), 2) := by decide +kernel
theorem dX0_begin_24 : decode cX0_begin 24 = .ok (.putfield 24, 3) := by decide +kernel
theorem dX0_begin_27 : decode cX0_begin 27 = .ok (.aload_n 0, 1) := by decide +kernel
theorem dX0_begin_28 : decode cX0_begin 28 = .ok (.bipush (-2), 2) := by decide +kernel
theorem dX0_begin_30 : decode cX0_begin 30 = .ok (.putfield 27, 3) := by decide +kernel
theorem dX0_begin_33 : decode cX0_begin 33 = .ok (.return_, 1) := by decide +kernel
theorem dX0_trusted_0 : decode cX0_trusted 0 = .ok (.aload_n 0, 1) := by decide +kernel
theorem dX0_trusted_1 : decode cX0_trusted 1 = .ok (.getfield 14, 3) := by decide +kernel
theorem dX0_trusted_4 : decode cX0_trusted 4 = .ok (.aload_n 0, 1) := by decide +kernel
theorem dX0_trusted_5 : decode cX0_trusted 5 = .ok (.getfield 14, 3) := by decide +kernel
theorem dX0_trusted_8 : decode cX0_trusted 8 = .ok (.getfield 37, 3) := by decide +kernel
theorem dX0_trusted_11 : decode cX0_trusted 11 = .ok (.iconst 1, 1) := by decide +kernel
theorem dX0_trusted_12 : decode cX0_trusted 12 = .ok (.isub, 1) := by decide +kernel
theorem dX0_trusted_13 : decode cX0_trusted 13 = .ok (.invokevirtual 40, 3) := by decide +kernel
theorem dX0_trusted_16 : decode cX0_trusted 16 = .ok (.areturn, 1) := by decide +kernel
theorem dX0_keep_0 : decode cX0_keep 0 = .ok (.aload_n 0, 1) := by decide +kernel
theorem dX0_keep_1 : decode cX0_keep 1 = .ok (.getfield 14, 3) := by decide +kernel
theorem dX0_keep_4 : decode cX0_keep 4 = .ok (.aload_n 1, 1) := by decide +kernel
theorem dX0_keep_5 : decode cX0_keep 5 = .ok (.invokevirtual 33, 3) := by decide +kernel
theorem dX0_keep_8 : decode cX0_keep 8 = .ok (.aload_n 0, 1) := by decide +kernel
theorem dX0_keep_9 : decode cX0_keep 9 = .ok (.getfield 14, 3) := by decide +kernel
theorem dX0_keep_12 : decode cX0_keep 12 = .ok (.getfield 37, 3) := by decide +kernel
theorem dX0_keep_15 : decode cX0_keep 15 = .ok (.iload_n 2, 1) := by decide +kernel
theorem dX0_keep_16 : decode cX0_keep 16 = .ok (.isub, 1) := by decide +kernel
theorem dX0_keep_17 : decode cX0_keep 17 = .ok (.istore_n 3, 1) := by decide +kernel
theorem dX0_keep_18 : decode cX0_keep 18 = .ok (.iload_n 3, 1) := by decide +kernel
theorem dX0_keep_19 : decode cX0_keep 19 = .ok (.ifCond .gt 4, 3) := by decide +kernel
theorem dX0_keep_22 : decode cX0_keep 22 = .ok (.return_, 1) := by decide +kernel
theorem dX0_keep_23 : decode cX0_keep 23 = .ok (.iconst 1, 1) := by decide +kernel
theorem dX0_keep_24 : decode cX0_keep 24 = .ok (.istore 4, 2) := by decide +kernel
theorem dX0_keep_26 : decode cX0_keep 26 = .ok (.iload 4, 2) := by decide +kernel
theorem dX0_keep_28 : decode cX0_keep 28 = .ok (.iload_n 2, 1) := by decide +kernel
theorem dX0_keep_29 : decode cX0_keep 29 = .ok (.if_icmp .ge 29, 3) := by decide +kernel
theorem dX0_keep_32 : decode cX0_keep 32 = .ok (.aload_n 0, 1) := by decide +kernel
theorem dX0_keep_33 : decode cX0_keep 33 = .ok (.getfield 14, 3) := by decide +kernel
theorem dX0_keep_36 : decode cX0_keep 36 = .ok (.iload 4, 2) := by decide +kernel
theorem dX0_keep_38 : decode cX0_keep 38 = .ok (.aload_n 0, 1) := by decide +kernel
theorem dX0_keep_39 : decode cX0_keep 39 = .ok (.getfield 14, 3) := by decide +kernel
theorem dX0_keep_42 : decode cX0_keep 42 = .ok (.iload 4, 2) := by decide +kernel
theorem dX0_keep_44 : decode cX0_keep 44 = .ok (.iload_n 3, 1) := by decide +kernel
theorem dX0_keep_45 : decode cX0_keep 45 = .ok (.iadd, 1) := by decide +kernel
theorem dX0_keep_46 : decode cX0_keep 46 = .ok (.invokevirtual 40, 3) := by decide +kernel
theorem dX0_keep_49 : decode cX0_keep 49 = .ok (.invokevirtual 44, 3) := by decide +kernel
theorem dX0_keep_52 : decode cX0_keep 52 = .ok (.iinc 4 1, 3) := by decide +kernel
theorem dX0_keep_55 : decode cX0_keep 55 = .ok (.goto (-29), 3) := by decide +kernel
theorem dX0_keep_58 : decode cX0_keep 58 = .ok (.aload_n 0, 1) := by decide +kernel
theorem dX0_keep_59 : decode cX0_keep 59 = .ok (.getfield 14, 3) := by decide +kernel
theorem dX0_keep_62 : decode cX0_keep 62 = .ok (.iload_n 2, 1) := by decide +kernel
theorem dX0_keep_63 : decode cX0_keep 63 = .ok (.invokevirtual 30, 3) := by decide +kernel
theorem dX0_keep_66 : decode cX0_keep 66 = .ok (.return_, 1) := by decide +kernel
theorem dX0_refuse_0 : decode cX0_refuse 0 = .ok (.aload_n 0, 1) := by decide +kernel
theorem dX0_refuse_1 : decode cX0_refuse 1 = .ok (.iload_n 1, 1) := by decide +kernel
theorem dX0_refuse_2 : decode cX0_refuse 2 = .ok (.putfield 24, 3) := by decide +kernel
theorem dX0_refuse_5 : decode cX0_refuse 5 = .ok (.aload_n 0, 1) := by decide +kernel
theorem dX0_refuse_6 : decode cX0_refuse 6 = .ok (.iload_n 2, 1) := by decide +kernel
theorem dX0_refuse_7 : decode cX0_refuse 7 = .ok (.putfield 27, 3) := by decide +kernel
theorem dX0_refuse_10 : decode cX0_refuse 10 = .ok (.bipush (-10), 2) := by decide +kernel
theorem dX0_refuse_12 : decode cX0_refuse 12 = .ok (.iload_n 1, 1) := by decide +kernel
theorem dX0_refuse_13 : decode cX0_refuse 13 = .ok (.isub, 1) := by decide +kernel
theorem dX0_refuse_14 : decode cX0_refuse 14 = .ok (.ireturn, 1) := by decide +kernel
theorem dX0_lastBelow_0 : decode cX0_lastBelow 0 = .ok (.aload_n 0, 1) := by decide +kernel
theorem dX0_lastBelow_1 : decode cX0_lastBelow 1 = .ok (.getfield 14, 3) := by decide +kernel
theorem dX0_lastBelow_4 : decode cX0_lastBelow 4 = .ok (.getfield 37, 3) := by decide +kernel
theorem dX0_lastBelow_7 : decode cX0_lastBelow 7 = .ok (.iconst 1, 1) := by decide +kernel
theorem dX0_lastBelow_8 : decode cX0_lastBelow 8 = .ok (.isub, 1) := by decide +kernel
theorem dX0_lastBelow_9 : decode cX0_lastBelow 9 = .ok (.istore_n 2, 1) := by decide +kernel
theorem dX0_lastBelow_10 : decode cX0_lastBelow 10 = .ok (.iload_n 2, 1) := by decide +kernel
theorem dX0_lastBelow_11 : decode cX0_lastBelow 11 = .ok (.ifCond .lt 32, 3) := by decide +kernel
theorem dX0_lastBelow_14 : decode cX0_lastBelow 14 = .ok (.aload_n 0, 1) := by decide +kernel
theorem dX0_lastBelow_15 : decode cX0_lastBelow 15 = .ok (.getfield 14, 3) := by decide +kernel
theorem dX0_lastBelow_18 : decode cX0_lastBelow 18 = .ok (.iload_n 2, 1) := by decide +kernel
theorem dX0_lastBelow_19 : decode cX0_lastBelow 19 = .ok (.invokevirtual 40, 3) := by decide +kernel
theorem dX0_lastBelow_22 : decode cX0_lastBelow 22 = .ok (.astore_n 3, 1) := by decide +kernel
theorem dX0_lastBelow_23 : decode cX0_lastBelow 23 = .ok (.aload_n 3, 1) := by decide +kernel
theorem dX0_lastBelow_24 : decode cX0_lastBelow 24 = .ok (.ifnull 13, 3) := by decide +kernel
theorem dX0_lastBelow_27 : decode cX0_lastBelow 27 = .ok (.aload_n 3, 1) := by decide +kernel
theorem dX0_lastBelow_28 : decode cX0_lastBelow 28 = .ok (.getfield 48, 3) := by decide +kernel
theorem dX0_lastBelow_31 : decode cX0_lastBelow 31 = .ok (.iload_n 1, 1) := by decide +kernel
theorem dX0_lastBelow_32 : decode cX0_lastBelow 32 = .ok (.if_icmp .ge 5, 3) := by decide +kernel
theorem dX0_lastBelow_35 : decode cX0_lastBelow 35 = .ok (.aload_n 3, 1) := by decide +kernel
theorem dX0_lastBelow_36 : decode cX0_lastBelow 36 = .ok (.areturn, 1) := by decide +kernel
theorem dX0_lastBelow_37 : decode cX0_lastBelow 37 = .ok (.iinc 2 (-1), 3) := by decide +kernel
theorem dX0_lastBelow_40 : decode cX0_lastBelow 40 = .ok (.goto (-30), 3) := by decide +kernel
theorem dX0_lastBelow_43 : decode cX0_lastBelow 43 = .ok (.aconst_null, 1) := by decide +kernel
theorem dX0_lastBelow_44 : decode cX0_lastBelow 44 = .ok (.areturn, 1) := by decide +kernel
theorem dX1_init_0 : decode cX1_init 0 = .ok (.aload_n 0, 1) := by decide +kernel
theorem dX1_init_1 : decode cX1_init 1 = .ok (.invokespecial 3, 3) := by decide +kernel
theorem dX1_init_4 : decode cX1_init 4 = .ok (.aload_n 0, 1) := by decide +kernel
theorem dX1_init_5 : decode cX1_init 5 = .ok (.new 9, 3) := by decide +kernel
theorem dX1_init_8 : decode cX1_init 8 = .ok (.dup, 1) := by decide +kernel
theorem dX1_init_9 : decode cX1_init 9 = .ok (.bipush 60, 2) := by decide +kernel
theorem dX1_init_11 : decode cX1_init 11 = .ok (.invokespecial 11, 3) := by decide +kernel
theorem dX1_init_14 : decode cX1_init 14 = .ok (.putfield 14, 3) := by decide +kernel
theorem dX1_init_17 : decode cX1_init 17 = .ok (.return_, 1) := by decide +kernel
theorem dX1_placeOf_0 : decode cX1_placeOf 0 = .ok (.iconst 0, 1) := by decide +kernel
theorem dX1_placeOf_1 : decode cX1_placeOf 1 = .ok (.istore_n 2, 1) := by decide +kernel
theorem dX1_placeOf_2 : decode cX1_placeOf 2 = .ok (.iload_n 2, 1) := by decide +kernel
theorem dX1_placeOf_3 : decode cX1_placeOf 3 = .ok (.aload_n 0, 1) := by decide +kernel
theorem dX1_placeOf_4 : decode cX1_placeOf 4 = .ok (.getfield 14, 3) := by decide +kernel
theorem dX1_placeOf_7 : decode cX1_placeOf 7 = .ok (.getfield 20, 3) := by decide +kernel
theorem dX1_placeOf_10 : decode cX1_placeOf 10 = .ok (.if_icmp .ge 32, 3) := by decide +kernel
theorem dX1_placeOf_13 : decode cX1_placeOf 13 = .ok (.aload_n 0, 1) := by decide +kernel
theorem dX1_placeOf_14 : decode cX1_placeOf 14 = .ok (.getfield 14, 3) := by decide +kernel
theorem dX1_placeOf_17 : decode cX1_placeOf 17 = .ok (.iload_n 2, 1) := by decide +kernel
theorem dX1_placeOf_18 : decode cX1_placeOf 18 = .ok (.invokevirtual 24, 3) := by decide +kernel
theorem dX1_placeOf_21 : decode cX1_placeOf 21 = .ok (.astore_n 3, 1) := by decide +kernel
theorem dX1_placeOf_22 : decode cX1_placeOf 22 = .ok (.aload_n 3, 1) := by decide +kernel
theorem dX1_placeOf_23 : decode cX1_placeOf 23 = .ok (.ifnull 13, 3) := by decide +kernel
theorem dX1_placeOf_26 : decode cX1_placeOf 26 = .ok (.aload_n 3, 1) := by decide +kernel
theorem dX1_placeOf_27 : decode cX1_placeOf 27 = .ok (.getfield 28, 3) := by decide +kernel
theorem dX1_placeOf_30 : decode cX1_placeOf 30 = .ok (.iload_n 1, 1) := by decide +kernel
theorem dX1_placeOf_31 : decode cX1_placeOf 31 = .ok (.if_icmp .ne 5, 3) := by decide +kernel
theorem dX1_placeOf_34 : decode cX1_placeOf 34 = .ok (.iload_n 2, 1) := by decide +kernel
theorem dX1_placeOf_35 : decode cX1_placeOf 35 = .ok (.ireturn, 1) := by decide +kernel
theorem dX1_placeOf_36 : decode cX1_placeOf 36 = .ok (.iinc 2 1, 3) := by decide +kernel
theorem dX1_placeOf_39 : decode cX1_placeOf 39 = .ok (.goto (-37), 3) := by decide +kernel
theorem dX1_placeOf_42 : decode cX1_placeOf 42 = .ok (.bipush (-2), 2) := by decide +kernel
theorem dX1_placeOf_44 : decode cX1_placeOf 44 = .ok (.ireturn, 1) := by decide +kernel
theorem dX1_headAt_0 : decode cX1_headAt 0 = .ok (.aload_n 0, 1) := by decide +kernel
theorem dX1_headAt_1 : decode cX1_headAt 1 = .ok (.getfield 14, 3) := by decide +kernel
theorem dX1_headAt_4 : decode cX1_headAt 4 = .ok (.aload_n 0, 1) := by decide +kernel
theorem dX1_headAt_5 : decode cX1_headAt 5 = .ok (.iload_n 1, 1) := by decide +kernel
theorem dX1_headAt_6 : decode cX1_headAt 6 = .ok (.invokevirtual 33, 3) := by decide +kernel
theorem dX1_headAt_9 : decode cX1_headAt 9 = .ok (.invokevirtual 24, 3) := by decide +kernel
theorem dX1_headAt_12 : decode cX1_headAt 12 = .ok (.areturn, 1) := by decide +kernel
theorem dX1_replace_0 : decode cX1_replace 0 = .ok (.aload_n 0, 1) := by decide +kernel
theorem dX1_replace_1 : decode cX1_replace 1 = .ok (.aload_n 1, 1) := by decide +kernel
theorem dX1_replace_2 : decode cX1_replace 2 = .ok (.getfield 28, 3) := by decide +kernel
theorem dX1_replace_5 : decode cX1_replace 5 = .ok (.invokevirtual 33, 3) := by decide +kernel
theorem dX1_replace_8 : decode cX1_replace 8 = .ok (.istore_n 2, 1) := by decide +kernel
theorem dX1_replace_9 : decode cX1_replace 9 = .ok (.aload_n 0, 1) := by decide +kernel
theorem dX1_replace_10 : decode cX1_replace 10 = .ok (.getfield 14, 3) := by decide +kernel
theorem dX1_replace_13 : decode cX1_replace 13 = .ok (.iload_n 2, 1) := by decide +kernel
theorem dX1_replace_14 : decode cX1_replace 14 = .ok (.invokevirtual 24, 3) := by decide +kernel
theorem dX1_replace_17 : decode cX1_replace 17 = .ok (.astore_n 3, 1) := by decide +kernel
theorem dX1_replace_18 : decode cX1_replace 18 = .ok (.aload_n 3, 1) := by decide +kernel
theorem dX1_replace_19 : decode cX1_replace 19 = .ok (.ifnonnull 14, 3) := by decide +kernel
theorem dX1_replace_22 : decode cX1_replace 22 = .ok (.aload_n 0, 1) := by decide +kernel
theorem dX1_replace_23 : decode cX1_replace 23 = .ok (.getfield 14, 3) := by decide +kernel
theorem dX1_replace_26 : decode cX1_replace 26 = .ok (.aload_n 1, 1) := by decide +kernel
theorem dX1_replace_27 : decode cX1_replace 27 = .ok (.invokevirtual 37, 3) := by decide +kernel
theorem dX1_replace_30 : decode cX1_replace 30 = .ok (.goto 12, 3) := by decide +kernel
theorem dX1_replace_33 : decode cX1_replace 33 = .ok (.aload_n 0, 1) := by decide +kernel
theorem dX1_replace_34 : decode cX1_replace 34 = .ok (.getfield 14, 3) := by decide +kernel
theorem dX1_replace_37 : decode cX1_replace 37 = .ok (.iload_n 2, 1) := by decide +kernel
theorem dX1_replace_38 : decode cX1_replace 38 = .ok (.aload_n 1, 1) := by decide +kernel
theorem dX1_replace_39 : decode cX1_replace 39 = .ok (.invokevirtual 41, 3) := by decide +kernel
theorem dX1_replace_42 : decode cX1_replace 42 = .ok (.aload_n 3, 1) := by decide +kernel
theorem dX1_replace_43 : decode cX1_replace 43 = .ok (.areturn, 1) := by decide +kernel
theorem dX1_leastUnlike_0 : decode cX1_leastUnlike 0 = .ok (.bipush (-2), 2) := by decide +kernel
theorem dX1_leastUnlike_2 : decode cX1_leastUnlike 2 = .ok (.istore_n 2, 1) := by decide +kernel
theorem dX1_leastUnlike_3 : decode cX1_leastUnlike 3 = .ok (.iconst 0, 1) := by decide +kernel
theorem dX1_leastUnlike_4 : decode cX1_leastUnlike 4 = .ok (.istore_n 3, 1) := by decide +kernel
theorem dX1_leastUnlike_5 : decode cX1_leastUnlike 5 = .ok (.iload_n 3, 1) := by decide +kernel
theorem dX1_leastUnlike_6 : decode cX1_leastUnlike 6 = .ok (.aload_n 0, 1) := by decide +kernel
theorem dX1_leastUnlike_7 : decode cX1_leastUnlike 7 = .ok (.getfield 14, 3) := by decide +kernel
theorem dX1_leastUnlike_10 : decode cX1_leastUnlike 10 = .ok (.getfield 20, 3) := by decide +kernel
theorem dX1_leastUnlike_13 : decode cX1_leastUnlike 13 = .ok (.if_icmp .ge 54, 3) := by decide +kernel
theorem dX1_leastUnlike_16 : decode cX1_leastUnlike 16 = .ok (.aload_n 0, 1) := by decide +kernel
theorem dX1_leastUnlike_17 : decode cX1_leastUnlike 17 = .ok (.getfield 14, 3) := by decide +kernel
theorem dX1_leastUnlike_20 : decode cX1_leastUnlike 20 = .ok (.iload_n 3, 1) := by decide +kernel
theorem dX1_leastUnlike_21 : decode cX1_leastUnlike 21 = .ok (.invokevirtual 24, 3) := by decide +kernel
theorem dX1_leastUnlike_24 : decode cX1_leastUnlike 24 = .ok (.astore 4, 2) := by decide +kernel
theorem dX1_leastUnlike_26 : decode cX1_leastUnlike 26 = .ok (.aload 4, 2) := by decide +kernel
theorem dX1_leastUnlike_28 : decode cX1_leastUnlike 28 = .ok (.ifnull 33, 3) := by decide +kernel
theorem dX1_leastUnlike_31 : decode cX1_leastUnlike 31 = .ok (.aload 4, 2) := by decide +kernel
theorem dX1_leastUnlike_33 : decode cX1_leastUnlike 33 = .ok (.aload_n 1, 1) := by decide +kernel
theorem dX1_leastUnlike_34 : decode cX1_leastUnlike 34 = .ok (.invokestatic 45, 3) := by decide +kernel
theorem dX1_leastUnlike_37 : decode cX1_leastUnlike 37 = .ok (.ifCond .eq 24, 3) := by decide +kernel
theorem dX1_leastUnlike_40 : decode cX1_leastUnlike 40 = .ok (.iload_n 2, 1) := by decide +kernel
theorem dX1_leastUnlike_41 : decode cX1_leastUnlike 41 = .ok (.bipush (-2), 2) := by decide +kernel
theorem dX1_leastUnlike_43 : decode cX1_leastUnlike 43 = .ok (.if_icmp .eq 12, 3) := by decide +kernel
theorem dX1_leastUnlike_46 : decode cX1_leastUnlike 46 = .ok (.aload 4, 2) := by decide +kernel
theorem dX1_leastUnlike_48 : decode cX1_leastUnlike 48 = .ok (.getfield 28, 3) := by decide +kernel
theorem dX1_leastUnlike_51 : decode cX1_leastUnlike 51 = .ok (.iload_n 2, 1) := by decide +kernel
theorem dX1_leastUnlike_52 : decode cX1_leastUnlike 52 = .ok (.if_icmp .ge 9, 3) := by decide +kernel
theorem dX1_leastUnlike_55 : decode cX1_leastUnlike 55 = .ok (.aload 4, 2) := by decide +kernel
theorem dX1_leastUnlike_57 : decode cX1_leastUnlike 57 = .ok (.getfield 28, 3) := by decide +kernel
theorem dX1_leastUnlike_60 : decode cX1_leastUnlike 60 = .ok (.istore_n 2, 1) := by decide +kernel
theorem dX1_leastUnlike_61 : decode cX1_leastUnlike 61 = .ok (.iinc 3 1, 3) := by decide +kernel
theorem dX1_leastUnlike_64 : decode cX1_leastUnlike 64 = .ok (.goto (-59), 3) := by decide +kernel
theorem dX1_leastUnlike_67 : decode cX1_leastUnlike 67 = .ok (.iload_n 2, 1) := by decide +kernel
theorem dX1_leastUnlike_68 : decode cX1_leastUnlike 68 = .ok (.ireturn, 1) := by decide +kernel
theorem dX1_isUnlike_0 : decode cX1_isUnlike 0 = .ok (.aload_n 1, 1) := by decide +kernel
theorem dX1_isUnlike_1 : decode cX1_isUnlike 1 = .ok (.aload_n 0, 1) := by decide +kernel
theorem dX1_isUnlike_2 : decode cX1_isUnlike 2 = .ok (.getfield 28, 3) := by decide +kernel
theorem dX1_isUnlike_5 : decode cX1_isUnlike 5 = .ok (.invokevirtual 49, 3) := by decide +kernel
theorem dX1_isUnlike_8 : decode cX1_isUnlike 8 = .ok (.astore_n 2, 1) := by decide +kernel
theorem dX1_isUnlike_9 : decode cX1_isUnlike 9 = .ok (.aload_n 2, 1) := by decide +kernel
theorem dX1_isUnlike_10 : decode cX1_isUnlike 10 = .ok (.ifnull 19, 3) := by decide +kernel
theorem dX1_isUnlike_13 : decode cX1_isUnlike 13 = .ok (.aload_n 2, 1) := by decide +kernel
theorem dX1_isUnlike_14 : decode cX1_isUnlike 14 = .ok (.getfield 52, 3) := by decide +kernel
theorem dX1_isUnlike_17 : decode cX1_isUnlike 17 = .ok (.aload_n 0, 1) := by decide +kernel
theorem dX1_isUnlike_18 : decode cX1_isUnlike 18 = .ok (.getfield 52, 3) := by decide +kernel
theorem dX1_isUnlike_21 : decode cX1_isUnlike 21 = .ok (.lcmp, 1) := by decide +kernel
theorem dX1_isUnlike_22 : decode cX1_isUnlike 22 = .ok (.ifCond .eq 7, 3) := by decide +kernel
theorem dX1_isUnlike_25 : decode cX1_isUnlike 25 = .ok (.iconst 1, 1) := by decide +kernel
theorem dX1_isUnlike_26 : decode cX1_isUnlike 26 = .ok (.goto 4, 3) := by decide +kernel
theorem dX1_isUnlike_29 : decode cX1_isUnlike 29 = .ok (.iconst 0, 1) := by decide +kernel
theorem dX1_isUnlike_30 : decode cX1_isUnlike 30 = .ok (.ireturn, 1) := by decide +kernel
theorem dX2_init_0 : decode cX2_init 0 = .ok (.aload_n 0, 1) := by decide +kernel
theorem dX2_init_1 : decode cX2_init 1 = .ok (.invokespecial 1, 3) := by decide +kernel
theorem dX2_init_4 : decode cX2_init 4 = .ok (.aload_n 0, 1) := by decide +kernel
theorem dX2_init_5 : decode cX2_init 5 = .ok (.iconst 0, 1) := by decide +kernel
theorem dX2_init_6 : decode cX2_init 6 = .ok (.putfield 7, 3) := by decide +kernel
theorem dX2_init_9 : decode cX2_init 9 = .ok (.aload_n 0, 1) := by decide +kernel
theorem dX2_init_10 : decode cX2_init 10 = .ok (.iload_n 1, 1) := by decide +kernel
theorem dX2_init_11 : decode cX2_init 11 = .ok (.putfield 13, 3) := by decide +kernel
theorem dX2_init_14 : decode cX2_init 14 = .ok (.aload_n 0, 1) := by decide +kernel
theorem dX2_init_15 : decode cX2_init 15 = .ok (.iload_n 2, 1) := by decide +kernel
theorem dX2_init_16 : decode cX2_init 16 = .ok (.putfield 16, 3) := by decide +kernel
theorem dX2_init_19 : decode cX2_init 19 = .ok (.aload_n 0, 1) := by decide +kernel
theorem dX2_init_20 : decode cX2_init 20 = .ok (.lload_n 3, 1) := by decide +kernel
theorem dX2_init_21 : decode cX2_init 21 = .ok (.putfield 19, 3) := by decide +kernel
theorem dX2_init_24 : decode cX2_init 24 = .ok (.aload_n 0, 1) := by decide +kernel
theorem dX2_init_25 : decode cX2_init 25 = .ok (.aload 5, 2) := by decide +kernel
theorem dX2_init_27 : decode cX2_init 27 = .ok (.putfield 23, 3) := by decide +kernel
theorem dX2_init_30 : decode cX2_init 30 = .ok (.aload_n 0, 1) := by decide +kernel
theorem dX2_init_31 : decode cX2_init 31 = .ok (.aload 6, 2) := by decide +kernel
theorem dX2_init_33 : decode cX2_init 33 = .ok (.putfield 27, 3) := by decide +kernel
theorem dX2_init_36 : decode cX2_init 36 = .ok (.aload_n 0, 1) := by decide +kernel
theorem dX2_init_37 : decode cX2_init 37 = .ok (.lload 7, 2) := by decide +kernel
theorem dX2_init_39 : decode cX2_init 39 = .ok (.putfield 30, 3) := by decide +kernel
theorem dX2_init_42 : decode cX2_init 42 = .ok (.aload_n 0, 1) := by decide +kernel
theorem dX2_init_43 : decode cX2_init 43 = .ok (.iload_n 2, 1) := by decide +kernel
theorem dX2_init_44 : decode cX2_init 44 = .ok (.i2l, 1) := by decide +kernel
theorem dX2_init_45 : decode cX2_init 45 = .ok (.lload_n 3, 1) := by decide +kernel
theorem dX2_init_46 : decode cX2_init 46 = .ok (.invokestatic 33, 3) := by decide +kernel
theorem dX2_init_49 : decode cX2_init 49 = .ok (.aload 5, 2) := by decide +kernel
theorem dX2_init_51 : decode cX2_init 51 = .ok (.getfield 39, 3) := by decide +kernel
theorem dX2_init_54 : decode cX2_init 54 = .ok (.i2l, 1) := by decide +kernel
theorem dX2_init_55 : decode cX2_init 55 = .ok (.aload 6, 2) := by decide +kernel
theorem dX2_init_57 : decode cX2_init 57 = .ok (.getfield 39, 3) := by decide +kernel
theorem dX2_init_60 : decode cX2_init 60 = .ok (.i2l, 1) := by decide +kernel
theorem dX2_init_61 : decode cX2_init 61 = .ok (.invokestatic 33, 3) := by decide +kernel
theorem dX2_init_64 : decode cX2_init 64 = .ok (.invokestatic 33, 3) := by decide +kernel
theorem dX2_init_67 : decode cX2_init 67 = .ok (.lload 7, 2) := by decide +kernel
theorem dX2_init_69 : decode cX2_init 69 = .ok (.invokestatic 33, 3) := by decide +kernel
theorem dX2_init_72 : decode cX2_init 72 = .ok (.putfield 42, 3) := by decide +kernel
theorem dX2_init_75 : decode cX2_init 75 = .ok (.return_, 1) := by decide +kernel
theorem dX3_init_0 : decode cX3_init 0 = .ok (.aload_n 0, 1) := by decide +kernel
theorem dX3_init_1 : decode cX3_init 1 = .ok (.invokespecial 1, 3) := by decide +kernel
theorem dX3_init_4 : decode cX3_init 4 = .ok (.aload_n 0, 1) := by decide +kernel
theorem dX3_init_5 : decode cX3_init 5 = .ok (.iconst 0, 1) := by decide +kernel
theorem dX3_init_6 : decode cX3_init 6 = .ok (.putfield 7, 3) := by decide +kernel
theorem dX3_init_9 : decode cX3_init 9 = .ok (.aload_n 0, 1) := by decide +kernel
theorem dX3_init_10 : decode cX3_init 10 = .ok (.iconst 0, 1) := by decide +kernel
theorem dX3_init_11 : decode cX3_init 11 = .ok (.iload_n 1, 1) := by decide +kernel
theorem dX3_init_12 : decode cX3_init 12 = .ok (.invokestatic 13, 3) := by decide +kernel
theorem dX3_init_15 : decode cX3_init 15 = .ok (.anewarray 19, 3) := by decide +kernel
theorem dX3_init_18 : decode cX3_init 18 = .ok (.putfield 21, 3) := by decide +kernel
theorem dX3_init_21 : decode cX3_init 21 = .ok (.return_, 1) := by decide +kernel
theorem dX3_at_0 : decode cX3_at 0 = .ok (.iload_n 1, 1) := by decide +kernel
theorem dX3_at_1 : decode cX3_at 1 = .ok (.ifCond .lt 29, 3) := by decide +kernel
theorem dX3_at_4 : decode cX3_at 4 = .ok (.iload_n 1, 1) := by decide +kernel
theorem dX3_at_5 : decode cX3_at 5 = .ok (.aload_n 0, 1) := by decide +kernel
theorem dX3_at_6 : decode cX3_at 6 = .ok (.getfield 7, 3) := by decide +kernel
theorem dX3_at_9 : decode cX3_at 9 = .ok (.if_icmp .ge 21, 3) := by decide +kernel
theorem dX3_at_12 : decode cX3_at 12 = .ok (.iload_n 1, 1) := by decide +kernel
theorem dX3_at_13 : decode cX3_at 13 = .ok (.aload_n 0, 1) := by decide +kernel
theorem dX3_at_14 : decode cX3_at 14 = .ok (.getfield 21, 3) := by decide +kernel
theorem dX3_at_17 : decode cX3_at 17 = .ok (.arraylength, 1) := by decide +kernel
theorem dX3_at_18 : decode cX3_at 18 = .ok (.if_icmp .ge 12, 3) := by decide +kernel
theorem dX3_at_21 : decode cX3_at 21 = .ok (.aload_n 0, 1) := by decide +kernel
theorem dX3_at_22 : decode cX3_at 22 = .ok (.getfield 21, 3) := by decide +kernel
theorem dX3_at_25 : decode cX3_at 25 = .ok (.iload_n 1, 1) := by decide +kernel
theorem dX3_at_26 : decode cX3_at 26 = .ok (.aaload, 1) := by decide +kernel
theorem dX3_at_27 : decode cX3_at 27 = .ok (.goto 4, 3) := by decide +kernel
theorem dX3_at_30 : decode cX3_at 30 = .ok (.aconst_null, 1) := by decide +kernel
theorem dX3_at_31 : decode cX3_at 31 = .ok (.areturn, 1) := by decide +kernel
theorem dX3_isFull_0 : decode cX3_isFull 0 = .ok (.aload_n 0, 1) := by decide +kernel
theorem dX3_isFull_1 : decode cX3_isFull 1 = .ok (.getfield 7, 3) := by decide +kernel
theorem dX3_isFull_4 : decode cX3_isFull 4 = .ok (.aload_n 0, 1) := by decide +kernel
theorem dX3_isFull_5 : decode cX3_isFull 5 = .ok (.getfield 21, 3) := by decide +kernel
theorem dX3_isFull_8 : decode cX3_isFull 8 = .ok (.arraylength, 1) := by decide +kernel
theorem dX3_isFull_9 : decode cX3_isFull 9 = .ok (.if_icmp .lt 7, 3) := by decide +kernel
theorem dX3_isFull_12 : decode cX3_isFull 12 = .ok (.iconst 1, 1) := by decide +kernel
theorem dX3_isFull_13 : decode cX3_isFull 13 = .ok (.goto 4, 3) := by decide +kernel
theorem dX3_isFull_16 : decode cX3_isFull 16 = .ok (.iconst 0, 1) := by decide +kernel
theorem dX3_isFull_17 : decode cX3_isFull 17 = .ok (.ireturn, 1) := by decide +kernel
theorem dX3_add_0 : decode cX3_add 0 = .ok (.aload_n 0, 1) := by decide +kernel
theorem dX3_add_1 : decode cX3_add 1 = .ok (.invokevirtual 25, 3) := by decide +kernel
theorem dX3_add_4 : decode cX3_add 4 = .ok (.ifCond .ne 23, 3) := by decide +kernel
theorem dX3_add_7 : decode cX3_add 7 = .ok (.aload_n 0, 1) := by decide +kernel
theorem dX3_add_8 : decode cX3_add 8 = .ok (.getfield 21, 3) := by decide +kernel
theorem dX3_add_11 : decode cX3_add 11 = .ok (.aload_n 0, 1) := by decide +kernel
theorem dX3_add_12 : decode cX3_add 12 = .ok (.getfield 7, 3) := by decide +kernel
theorem dX3_add_15 : decode cX3_add 15 = .ok (.aload_n 1, 1) := by decide +kernel
theorem dX3_add_16 : decode cX3_add 16 = .ok (.aastore, 1) := by decide +kernel
theorem dX3_add_17 : decode cX3_add 17 = .ok (.aload_n 0, 1) := by decide +kernel
theorem dX3_add_18 : decode cX3_add 18 = .ok (.dup, 1) := by decide +kernel
theorem dX3_add_19 : decode cX3_add 19 = .ok (.getfield 7, 3) := by decide +kernel
theorem dX3_add_22 : decode cX3_add 22 = .ok (.iconst 1, 1) := by decide +kernel
theorem dX3_add_23 : decode cX3_add 23 = .ok (.iadd, 1) := by decide +kernel
theorem dX3_add_24 : decode cX3_add 24 = .ok (.putfield 7, 3) := by decide +kernel
theorem dX3_add_27 : decode cX3_add 27 = .ok (.return_, 1) := by decide +kernel
theorem dX3_put_0 : decode cX3_put 0 = .ok (.iload_n 1, 1) := by decide +kernel
theorem dX3_put_1 : decode cX3_put 1 = .ok (.ifCond .lt 27, 3) := by decide +kernel
theorem dX3_put_4 : decode cX3_put 4 = .ok (.iload_n 1, 1) := by decide +kernel
theorem dX3_put_5 : decode cX3_put 5 = .ok (.aload_n 0, 1) := by decide +kernel
theorem dX3_put_6 : decode cX3_put 6 = .ok (.getfield 7, 3) := by decide +kernel
theorem dX3_put_9 : decode cX3_put 9 = .ok (.if_icmp .ge 19, 3) := by decide +kernel
theorem dX3_put_12 : decode cX3_put 12 = .ok (.iload_n 1, 1) := by decide +kernel
theorem dX3_put_13 : decode cX3_put 13 = .ok (.aload_n 0, 1) := by decide +kernel
theorem dX3_put_14 : decode cX3_put 14 = .ok (.getfield 21, 3) := by decide +kernel
theorem dX3_put_17 : decode cX3_put 17 = .ok (.arraylength, 1) := by decide +kernel
theorem dX3_put_18 : decode cX3_put 18 = .ok (.if_icmp .ge 10, 3) := by decide +kernel
theorem dX3_put_21 : decode cX3_put 21 = .ok (.aload_n 0, 1) := by decide +kernel
theorem dX3_put_22 : decode cX3_put 22 = .ok (.getfield 21, 3) := by decide +kernel
theorem dX3_put_25 : decode cX3_put 25 = .ok (.iload_n 1, 1) := by decide +kernel
theorem dX3_put_26 : decode cX3_put 26 = .ok (.aload_n 2, 1) := by decide +kernel
theorem dX3_put_27 : decode cX3_put 27 = .ok (.aastore, 1) := by decide +kernel
theorem dX3_put_28 : decode cX3_put 28 = .ok (.return_, 1) := by decide +kernel
theorem dX3_cutTo_0 : decode cX3_cutTo 0 = .ok (.aload_n 0, 1) := by decide +kernel
theorem dX3_cutTo_1 : decode cX3_cutTo 1 = .ok (.aload_n 0, 1) := by decide +kernel
theorem dX3_cutTo_2 : decode cX3_cutTo 2 = .ok (.getfield 7, 3) := by decide +kernel
theorem dX3_cutTo_5 : decode cX3_cutTo 5 = .ok (.iconst 0, 1) := by decide +kernel
theorem dX3_cutTo_6 : decode cX3_cutTo 6 = .ok (.iload_n 1, 1) := by decide +kernel
theorem dX3_cutTo_7 : decode cX3_cutTo 7 = .ok (.invokestatic 13, 3) := by decide +kernel
theorem dX3_cutTo_10 : decode cX3_cutTo 10 = .ok (.invokestatic 29, 3) := by decide +kernel
theorem dX3_cutTo_13 : decode cX3_cutTo 13 = .ok (.putfield 7, 3) := by decide +kernel
theorem dX3_cutTo_16 : decode cX3_cutTo 16 = .ok (.return_, 1) := by decide +kernel
theorem dX4_init_0 : decode cX4_init 0 = .ok (.aload_n 0, 1) := by decide +kernel
theorem dX4_init_1 : decode cX4_init 1 = .ok (.invokespecial 3, 3) := by decide +kernel
theorem dX4_init_4 : decode cX4_init 4 = .ok (.aload_n 0, 1) := by decide +kernel
theorem dX4_init_5 : decode cX4_init 5 = .ok (.iconst 0, 1) := by decide +kernel
theorem dX4_init_6 : decode cX4_init 6 = .ok (.putfield 9, 3) := by decide +kernel
theorem dX4_init_9 : decode cX4_init 9 = .ok (.aload_n 0, 1) := by decide +kernel
theorem dX4_init_10 : decode cX4_init 10 = .ok (.iconst 0, 1) := by decide +kernel
theorem dX4_init_11 : decode cX4_init 11 = .ok (.putfield 15, 3) := by decide +kernel
theorem dX4_init_14 : decode cX4_init 14 = .ok (.aload_n 0, 1) := by decide +kernel
theorem dX4_init_15 : decode cX4_init 15 = .ok (.lconst 0, 1) := by decide +kernel
theorem dX4_init_16 : decode cX4_init 16 = .ok (.putfield 18, 3) := by decide +kernel
theorem dX4_init_19 : decode cX4_init 19 = .ok (.aload_n 0, 1) := by decide +kernel
theorem dX4_init_20 : decode cX4_init 20 = .ok (.lconst 0, 1) := by decide +kernel
theorem dX4_init_21 : decode cX4_init 21 = .ok (.putfield 22, 3) := by decide +kernel
theorem dX4_init_24 : decode cX4_init 24 = .ok (.aload_n 0, 1) := by decide +kernel
theorem dX4_init_25 : decode cX4_init 25 = .ok (.iconst 4, 1) := by decide +kernel
theorem dX4_init_26 : decode cX4_init 26 = .ok (.newarray .long, 2) := by decide +kernel
theorem dX4_init_28 : decode cX4_init 28 = .ok (.putfield 25, 3) := by decide +kernel
theorem dX4_init_31 : decode cX4_init 31 = .ok (.aload_n 0, 1) := by decide +kernel
theorem dX4_init_32 : decode cX4_init 32 = .ok (.iconst 0, 1) := by decide +kernel
theorem dX4_init_33 : decode cX4_init 33 = .ok (.putfield 29, 3) := by decide +kernel
theorem dX4_init_36 : decode cX4_init 36 = .ok (.aload_n 0, 1) := by decide +kernel
theorem dX4_init_37 : decode cX4_init 37 = .ok (.bipush 16, 2) := by decide +kernel
theorem dX4_init_39 : decode cX4_init 39 = .ok (.newarray .long, 2) := by decide +kernel
theorem dX4_init_41 : decode cX4_init 41 = .ok (.putfield 32, 3) := by decide +kernel
theorem dX4_init_44 : decode cX4_init 44 = .ok (.return_, 1) := by decide +kernel
theorem dX4_take_0 : decode cX4_take 0 = .ok (.aload_n 0, 1) := by decide +kernel
theorem dX4_take_1 : decode cX4_take 1 = .ok (.iload_n 2, 1) := by decide +kernel
theorem dX4_take_2 : decode cX4_take 2 = .ok (.putfield 9, 3) := by decide +kernel
theorem dX4_take_5 : decode cX4_take 5 = .ok (.aload_n 0, 1) := by decide +kernel
theorem dX4_take_6 : decode cX4_take 6 = .ok (.iload_n 3, 1) := by decide +kernel
theorem dX4_take_7 : decode cX4_take 7 = .ok (.putfield 15, 3) := by decide +kernel
theorem dX4_take_10 : decode cX4_take 10 = .ok (.aload_n 0, 1) := by decide +kernel
theorem dX4_take_11 : decode cX4_take 11 = .ok (.aload_n 1, 1) := by decide +kernel
theorem dX4_take_12 : decode cX4_take 12 = .ok (.iload_n 2, 1) := by decide +kernel
theorem dX4_take_13 : decode cX4_take 13 = .ok (.invokevirtual 35, 3) := by decide +kernel
theorem dX4_take_16 : decode cX4_take 16 = .ok (.putfield 18, 3) := by decide +kernel
theorem dX4_take_19 : decode cX4_take 19 = .ok (.aload_n 0, 1) := by decide +kernel
theorem dX4_take_20 : decode cX4_take 20 = .ok (.aload_n 1, 1) := by decide +kernel
theorem dX4_take_21 : decode cX4_take 21 = .ok (.iload_n 3, 1) := by decide +kernel
theorem dX4_take_22 : decode cX4_take 22 = .ok (.invokevirtual 35, 3) := by decide +kernel
theorem dX4_take_25 : decode cX4_take 25 = .ok (.putfield 22, 3) := by decide +kernel
theorem dX4_take_28 : decode cX4_take 28 = .ok (.aload_n 0, 1) := by decide +kernel
theorem dX4_take_29 : decode cX4_take 29 = .ok (.iconst 0, 1) := by decide +kernel
theorem dX4_take_30 : decode cX4_take 30 = .ok (.putfield 29, 3) := by decide +kernel
theorem dX4_take_33 : decode cX4_take 33 = .ok (.bipush 15, 2) := by decide +kernel
theorem dX4_take_35 : decode cX4_take 35 = .ok (.istore 4, 2) := by decide +kernel
theorem dX4_take_37 : decode cX4_take 37 = .ok (.iload 4, 2) := by decide +kernel
theorem dX4_take_39 : decode cX4_take 39 = .ok (.iconst 1, 1) := by decide +kernel
theorem dX4_take_40 : decode cX4_take 40 = .ok (.if_icmp .le 51, 3) := by decide +kernel
theorem dX4_take_43 : decode cX4_take 43 = .ok (.aload_n 0, 1) := by decide +kernel
theorem dX4_take_44 : decode cX4_take 44 = .ok (.iload 4, 2) := by decide +kernel
theorem dX4_take_46 : decode cX4_take 46 = .ok (.invokevirtual 41, 3) := by decide +kernel
theorem dX4_take_49 : decode cX4_take 49 = .ok (.ifCond .eq 36, 3) := by decide +kernel
theorem dX4_take_52 : decode cX4_take 52 = .ok (.aload_n 0, 1) := by decide +kernel
theorem dX4_take_53 : decode cX4_take 53 = .ok (.getfield 29, 3) := by decide +kernel
theorem dX4_take_56 : decode cX4_take 56 = .ok (.iconst 4, 1) := by decide +kernel
theorem dX4_take_57 : decode cX4_take 57 = .ok (.if_icmp .ge 28, 3) := by decide +kernel
theorem dX4_take_60 : decode cX4_take 60 = .ok (.aload_n 0, 1) := by decide +kernel
theorem dX4_take_61 : decode cX4_take 61 = .ok (.getfield 25, 3) := by decide +kernel
theorem dX4_take_64 : decode cX4_take 64 = .ok (.aload_n 0, 1) := by decide +kernel
theorem dX4_take_65 : decode cX4_take 65 = .ok (.getfield 29, 3) := by decide +kernel
theorem dX4_take_68 : decode cX4_take 68 = .ok (.aload_n 1, 1) := by decide +kernel
theorem dX4_take_69 : decode cX4_take 69 = .ok (.iload 4, 2) := by decide +kernel
theorem dX4_take_71 : decode cX4_take 71 = .ok (.invokevirtual 45, 3) := by decide +kernel
theorem dX4_take_74 : decode cX4_take 74 = .ok (.lastore, 1) := by decide +kernel
theorem dX4_take_75 : decode cX4_take 75 = .ok (.aload_n 0, 1) := by decide +kernel
theorem dX4_take_76 : decode cX4_take 76 = .ok (.dup, 1) := by decide +kernel
theorem dX4_take_77 : decode cX4_take 77 = .ok (.getfield 29, 3) := by decide +kernel
theorem dX4_take_80 : decode cX4_take 80 = .ok (.iconst 1, 1) := by decide +kernel
theorem dX4_take_81 : decode cX4_take 81 = .ok (.iadd, 1) := by decide +kernel
theorem dX4_take_82 : decode cX4_take 82 = .ok (.putfield 29, 3) := by decide +kernel
theorem dX4_take_85 : decode cX4_take 85 = .ok (.iinc 4 (-1), 3) := by decide +kernel
theorem dX4_take_88 : decode cX4_take 88 = .ok (.goto (-51), 3) := by decide +kernel
theorem dX4_take_91 : decode cX4_take 91 = .ok (.return_, 1) := by decide +kernel
theorem dX4_isOnWay_0 : decode cX4_isOnWay 0 = .ok (.iconst 0, 1) := by decide +kernel
theorem dX4_isOnWay_1 : decode cX4_isOnWay 1 = .ok (.istore_n 2, 1) := by decide +kernel
theorem dX4_isOnWay_2 : decode cX4_isOnWay 2 = .ok (.iload_n 2, 1) := by decide +kernel
theorem dX4_isOnWay_3 : decode cX4_isOnWay 3 = .ok (.iconst 4, 1) := by decide +kernel
theorem dX4_isOnWay_4 : decode cX4_isOnWay 4 = .ok (.if_icmp .ge 37, 3) := by decide +kernel
theorem dX4_isOnWay_7 : decode cX4_isOnWay 7 = .ok (.bipush 8, 2) := by decide +kernel
theorem dX4_isOnWay_9 : decode cX4_isOnWay 9 = .ok (.aload_n 0, 1) := by decide +kernel
theorem dX4_isOnWay_10 : decode cX4_isOnWay 10 = .ok (.getfield 9, 3) := by decide +kernel
theorem dX4_isOnWay_13 : decode cX4_isOnWay 13 = .ok (.iadd, 1) := by decide +kernel
theorem dX4_isOnWay_14 : decode cX4_isOnWay 14 = .ok (.iload_n 2, 1) := by decide +kernel
theorem dX4_isOnWay_15 : decode cX4_isOnWay 15 = .ok (.iushr, 1) := by decide +kernel
theorem dX4_isOnWay_16 : decode cX4_isOnWay 16 = .ok (.iload_n 1, 1) := by decide +kernel
theorem dX4_isOnWay_17 : decode cX4_isOnWay 17 = .ok (.if_icmp .eq 16, 3) := by decide +kernel
theorem dX4_isOnWay_20 : decode cX4_isOnWay 20 = .ok (.bipush 8, 2) := by decide +kernel
theorem dX4_isOnWay_22 : decode cX4_isOnWay 22 = .ok (.aload_n 0, 1) := by decide +kernel
theorem dX4_isOnWay_23 : decode cX4_isOnWay 23 = .ok (.getfield 15, 3) := by decide +kernel
theorem dX4_isOnWay_26 : decode cX4_isOnWay 26 = .ok (.iadd, 1) := by decide +kernel
theorem dX4_isOnWay_27 : decode cX4_isOnWay 27 = .ok (.iload_n 2, 1) := by decide +kernel
theorem dX4_isOnWay_28 : decode cX4_isOnWay 28 = .ok (.iushr, 1) := by decide +kernel
theorem dX4_isOnWay_29 : decode cX4_isOnWay 29 = .ok (.iload_n 1, 1) := by decide +kernel
theorem dX4_isOnWay_30 : decode cX4_isOnWay 30 = .ok (.if_icmp .ne 5, 3) := by decide +kernel
theorem dX4_isOnWay_33 : decode cX4_isOnWay 33 = .ok (.iconst 1, 1) := by decide +kernel
theorem dX4_isOnWay_34 : decode cX4_isOnWay 34 = .ok (.ireturn, 1) := by decide +kernel
theorem dX4_isOnWay_35 : decode cX4_isOnWay 35 = .ok (.iinc 2 1, 3) := by decide +kernel
theorem dX4_isOnWay_38 : decode cX4_isOnWay 38 = .ok (.goto (-36), 3) := by decide +kernel
theorem dX4_isOnWay_41 : decode cX4_isOnWay 41 = .ok (.iconst 0, 1) := by decide +kernel
theorem dX4_isOnWay_42 : decode cX4_isOnWay 42 = .ok (.ireturn, 1) := by decide +kernel
theorem dX4_isBeside_0 : decode cX4_isBeside 0 = .ok (.aload_n 0, 1) := by decide +kernel
theorem dX4_isBeside_1 : decode cX4_isBeside 1 = .ok (.iload_n 1, 1) := by decide +kernel
theorem dX4_isBeside_2 : decode cX4_isBeside 2 = .ok (.invokevirtual 48, 3) := by decide +kernel
theorem dX4_isBeside_5 : decode cX4_isBeside 5 = .ok (.ifCond .ne 17, 3) := by decide +kernel
theorem dX4_isBeside_8 : decode cX4_isBeside 8 = .ok (.aload_n 0, 1) := by decide +kernel
theorem dX4_isBeside_9 : decode cX4_isBeside 9 = .ok (.iload_n 1, 1) := by decide +kernel
theorem dX4_isBeside_10 : decode cX4_isBeside 10 = .ok (.iconst 1, 1) := by decide +kernel
theorem dX4_isBeside_11 : decode cX4_isBeside 11 = .ok (.ixor, 1) := by decide +kernel
theorem dX4_isBeside_12 : decode cX4_isBeside 12 = .ok (.invokevirtual 48, 3) := by decide +kernel
theorem dX4_isBeside_15 : decode cX4_isBeside 15 = .ok (.ifCond .eq 7, 3) := by decide +kernel
theorem dX4_isBeside_18 : decode cX4_isBeside 18 = .ok (.iconst 1, 1) := by decide +kernel
theorem dX4_isBeside_19 : decode cX4_isBeside 19 = .ok (.goto 4, 3) := by decide +kernel
theorem dX4_isBeside_22 : decode cX4_isBeside 22 = .ok (.iconst 0, 1) := by decide +kernel
theorem dX4_isBeside_23 : decode cX4_isBeside 23 = .ok (.ireturn, 1) := by decide +kernel
theorem dX4_hasNode_0 : decode cX4_hasNode 0 = .ok (.iload_n 1, 1) := by decide +kernel
theorem dX4_hasNode_1 : decode cX4_hasNode 1 = .ok (.ifCond .lt 20, 3) := by decide +kernel
theorem dX4_hasNode_4 : decode cX4_hasNode 4 = .ok (.iload_n 1, 1) := by decide +kernel
theorem dX4_hasNode_5 : decode cX4_hasNode 5 = .ok (.aload_n 0, 1) := by decide +kernel
theorem dX4_hasNode_6 : decode cX4_hasNode 6 = .ok (.getfield 29, 3) := by decide +kernel
theorem dX4_hasNode_9 : decode cX4_hasNode 9 = .ok (.if_icmp .ge 12, 3) := by decide +kernel
theorem dX4_hasNode_12 : decode cX4_hasNode 12 = .ok (.iload_n 1, 1) := by decide +kernel
theorem dX4_hasNode_13 : decode cX4_hasNode 13 = .ok (.iconst 4, 1) := by decide +kernel
theorem dX4_hasNode_14 : decode cX4_hasNode 14 = .ok (.if_icmp .ge 7, 3) := by decide +kernel
theorem dX4_hasNode_17 : decode cX4_hasNode 17 = .ok (.iconst 1, 1) := by decide +kernel
theorem dX4_hasNode_18 : decode cX4_hasNode 18 = .ok (.goto 4, 3) := by decide +kernel
theorem dX4_hasNode_21 : decode cX4_hasNode 21 = .ok (.iconst 0, 1) := by decide +kernel
theorem dX4_hasNode_22 : decode cX4_hasNode 22 = .ok (.ireturn, 1) := by decide +kernel
theorem dX4_numberAt_0 : decode cX4_numberAt 0 = .ok (.iload_n 1, 1) := by decide +kernel
theorem dX4_numberAt_1 : decode cX4_numberAt 1 = .ok (.tableswitch 53 0 3 #[31, 37, 43, 48], 31) := by decide +kernel
theorem dX4_numberAt_32 : decode cX4_numberAt 32 = .ok (.aload_n 0, 1) := by decide +kernel
theorem dX4_numberAt_33 : decode cX4_numberAt 33 = .ok (.getfield 9, 3) := by decide +kernel
theorem dX4_numberAt_36 : decode cX4_numberAt 36 = .ok (.i2l, 1) := by decide +kernel
theorem dX4_numberAt_37 : decode cX4_numberAt 37 = .ok (.lreturn, 1) := by decide +kernel
theorem dX4_numberAt_38 : decode cX4_numberAt 38 = .ok (.aload_n 0, 1) := by decide +kernel
theorem dX4_numberAt_39 : decode cX4_numberAt 39 = .ok (.getfield 15, 3) := by decide +kernel
theorem dX4_numberAt_42 : decode cX4_numberAt 42 = .ok (.i2l, 1) := by decide +kernel
theorem dX4_numberAt_43 : decode cX4_numberAt 43 = .ok (.lreturn, 1) := by decide +kernel
theorem dX4_numberAt_44 : decode cX4_numberAt 44 = .ok (.aload_n 0, 1) := by decide +kernel
theorem dX4_numberAt_45 : decode cX4_numberAt 45 = .ok (.getfield 18, 3) := by decide +kernel
theorem dX4_numberAt_48 : decode cX4_numberAt 48 = .ok (.lreturn, 1) := by decide +kernel
theorem dX4_numberAt_49 : decode cX4_numberAt 49 = .ok (.aload_n 0, 1) := by decide +kernel
theorem dX4_numberAt_50 : decode cX4_numberAt 50 = .ok (.getfield 22, 3) := by decide +kernel
theorem dX4_numberAt_53 : decode cX4_numberAt 53 = .ok (.lreturn, 1) := by decide +kernel
theorem dX4_numberAt_54 : decode cX4_numberAt 54 = .ok (.iload_n 1, 1) := by decide +kernel
theorem dX4_numberAt_55 : decode cX4_numberAt 55 = .ok (.iconst 4, 1) := by decide +kernel
theorem dX4_numberAt_56 : decode cX4_numberAt 56 = .ok (.if_icmp .lt 24, 3) := by decide +kernel
theorem dX4_numberAt_59 : decode cX4_numberAt 59 = .ok (.aload_n 0, 1) := by decide +kernel
theorem dX4_numberAt_60 : decode cX4_numberAt 60 = .ok (.iload_n 1, 1) := by decide +kernel
theorem dX4_numberAt_61 : decode cX4_numberAt 61 = .ok (.iconst 4, 1) := by decide +kernel
theorem dX4_numberAt_62 : decode cX4_numberAt 62 = .ok (.isub, 1) := by decide +kernel
theorem dX4_numberAt_63 : decode cX4_numberAt 63 = .ok (.invokevirtual 51, 3) := by decide +kernel
theorem dX4_numberAt_66 : decode cX4_numberAt 66 = .ok (.ifCond .eq 14, 3) := by decide +kernel
theorem dX4_numberAt_69 : decode cX4_numberAt 69 = .ok (.aload_n 0, 1) := by decide +kernel
theorem dX4_numberAt_70 : decode cX4_numberAt 70 = .ok (.getfield 25, 3) := by decide +kernel
theorem dX4_numberAt_73 : decode cX4_numberAt 73 = .ok (.iload_n 1, 1) := by decide +kernel
theorem dX4_numberAt_74 : decode cX4_numberAt 74 = .ok (.iconst 4, 1) := by decide +kernel
theorem dX4_numberAt_75 : decode cX4_numberAt 75 = .ok (.isub, 1) := by decide +kernel
theorem dX4_numberAt_76 : decode cX4_numberAt 76 = .ok (.laload, 1) := by decide +kernel
theorem dX4_numberAt_77 : decode cX4_numberAt 77 = .ok (.goto 4, 3) := by decide +kernel
theorem dX4_numberAt_80 : decode cX4_numberAt 80 = .ok (.lconst 0, 1) := by decide +kernel
theorem dX4_numberAt_81 : decode cX4_numberAt 81 = .ok (.lreturn, 1) := by decide +kernel
theorem dX4_replace_0 : decode cX4_replace 0 = .ok (.iload_n 1, 1) := by decide +kernel
theorem dX4_replace_1 : decode cX4_replace 1 = .ok (.iconst 2, 1) := by decide +kernel
theorem dX4_replace_2 : decode cX4_replace 2 = .ok (.if_icmp .ne 11, 3) := by decide +kernel
theorem dX4_replace_5 : decode cX4_replace 5 = .ok (.aload_n 0, 1) := by decide +kernel
theorem dX4_replace_6 : decode cX4_replace 6 = .ok (.lload_n 2, 1) := by decide +kernel
theorem dX4_replace_7 : decode cX4_replace 7 = .ok (.putfield 18, 3) := by decide +kernel
theorem dX4_replace_10 : decode cX4_replace 10 = .ok (.goto 45, 3) := by decide +kernel
theorem dX4_replace_13 : decode cX4_replace 13 = .ok (.iload_n 1, 1) := by decide +kernel
theorem dX4_replace_14 : decode cX4_replace 14 = .ok (.iconst 3, 1) := by decide +kernel
theorem dX4_replace_15 : decode cX4_replace 15 = .ok (.if_icmp .ne 11, 3) := by decide +kernel
theorem dX4_replace_18 : decode cX4_replace 18 = .ok (.aload_n 0, 1) := by decide +kernel
theorem dX4_replace_19 : decode cX4_replace 19 = .ok (.lload_n 2, 1) := by decide +kernel
theorem dX4_replace_20 : decode cX4_replace 20 = .ok (.putfield 22, 3) := by decide +kernel
theorem dX4_replace_23 : decode cX4_replace 23 = .ok (.goto 32, 3) := by decide +kernel
theorem dX4_replace_26 : decode cX4_replace 26 = .ok (.iload_n 1, 1) := by decide +kernel
theorem dX4_replace_27 : decode cX4_replace 27 = .ok (.iconst 4, 1) := by decide +kernel
theorem dX4_replace_28 : decode cX4_replace 28 = .ok (.if_icmp .lt 25, 3) := by decide +kernel
theorem dX4_replace_31 : decode cX4_replace 31 = .ok (.aload_n 0, 1) := by decide +kernel
theorem dX4_replace_32 : decode cX4_replace 32 = .ok (.iload_n 1, 1) := by decide +kernel
theorem dX4_replace_33 : decode cX4_replace 33 = .ok (.iconst 4, 1) := by decide +kernel
theorem dX4_replace_34 : decode cX4_replace 34 = .ok (.isub, 1) := by decide +kernel
theorem dX4_replace_35 : decode cX4_replace 35 = .ok (.invokevirtual 51, 3) := by decide +kernel
theorem dX4_replace_38 : decode cX4_replace 38 = .ok (.ifCond .eq 15, 3) := by decide +kernel
theorem dX4_replace_41 : decode cX4_replace 41 = .ok (.aload_n 0, 1) := by decide +kernel
theorem dX4_replace_42 : decode cX4_replace 42 = .ok (.getfield 25, 3) := by decide +kernel
theorem dX4_replace_45 : decode cX4_replace 45 = .ok (.iload_n 1, 1) := by decide +kernel
theorem dX4_replace_46 : decode cX4_replace 46 = .ok (.iconst 4, 1) := by decide +kernel
theorem dX4_replace_47 : decode cX4_replace 47 = .ok (.isub, 1) := by decide +kernel
theorem dX4_replace_48 : decode cX4_replace 48 = .ok (.lload_n 2, 1) := by decide +kernel
theorem dX4_replace_49 : decode cX4_replace 49 = .ok (.lastore, 1) := by decide +kernel
theorem dX4_replace_50 : decode cX4_replace 50 = .ok (.goto 5, 3) := by decide +kernel
theorem dX4_replace_53 : decode cX4_replace 53 = .ok (.iconst 0, 1) := by decide +kernel
theorem dX4_replace_54 : decode cX4_replace 54 = .ok (.ireturn, 1) := by decide +kernel
theorem dX4_replace_55 : decode cX4_replace 55 = .ok (.iconst 1, 1) := by decide +kernel
theorem dX4_replace_56 : decode cX4_replace 56 = .ok (.ireturn, 1) := by decide +kernel
theorem dX4_topBefore_0 : decode cX4_topBefore 0 = .ok (.aload_n 0, 1) := by decide +kernel
theorem dX4_topBefore_1 : decode cX4_topBefore 1 = .ok (.aload_n 0, 1) := by decide +kernel
theorem dX4_topBefore_2 : decode cX4_topBefore 2 = .ok (.getfield 18, 3) := by decide +kernel
theorem dX4_topBefore_5 : decode cX4_topBefore 5 = .ok (.aload_n 0, 1) := by decide +kernel
theorem dX4_topBefore_6 : decode cX4_topBefore 6 = .ok (.getfield 22, 3) := by decide +kernel
theorem dX4_topBefore_9 : decode cX4_topBefore 9 = .ok (.invokevirtual 54, 3) := by decide +kernel
theorem dX4_topBefore_12 : decode cX4_topBefore 12 = .ok (.lreturn, 1) := by decide +kernel
theorem dX4_topBehind_0 : decode cX4_topBehind 0 = .ok (.aload_n 0, 1) := by decide +kernel
theorem dX4_topBehind_1 : decode cX4_topBehind 1 = .ok (.getfield 18, 3) := by decide +kernel
theorem dX4_topBehind_4 : decode cX4_topBehind 4 = .ok (.lload_n 1, 1) := by decide +kernel
theorem dX4_topBehind_5 : decode cX4_topBehind 5 = .ok (.lcmp, 1) := by decide +kernel
theorem dX4_topBehind_6 : decode cX4_topBehind 6 = .ok (.ifCond .ge 10, 3) := by decide +kernel
theorem dX4_topBehind_9 : decode cX4_topBehind 9 = .ok (.aload_n 0, 1) := by decide +kernel
theorem dX4_topBehind_10 : decode cX4_topBehind 10 = .ok (.invokevirtual 58, 3) := by decide +kernel
theorem dX4_topBehind_13 : decode cX4_topBehind 13 = .ok (.goto 19, 3) := by decide +kernel
theorem dX4_topBehind_16 : decode cX4_topBehind 16 = .ok (.aload_n 0, 1) := by decide +kernel
theorem dX4_topBehind_17 : decode cX4_topBehind 17 = .ok (.aload_n 0, 1) := by decide +kernel
theorem dX4_topBehind_18 : decode cX4_topBehind 18 = .ok (.getfield 18, 3) := by decide +kernel
theorem dX4_topBehind_21 : decode cX4_topBehind 21 = .ok (.lload_n 1, 1) := by decide +kernel
theorem dX4_topBehind_22 : decode cX4_topBehind 22 = .ok (.lsub, 1) := by decide +kernel
theorem dX4_topBehind_23 : decode cX4_topBehind 23 = .ok (.aload_n 0, 1) := by decide +kernel
theorem dX4_topBehind_24 : decode cX4_topBehind 24 = .ok (.getfield 22, 3) := by decide +kernel
theorem dX4_topBehind_27 : decode cX4_topBehind 27 = .ok (.lload_n 1, 1) := by decide +kernel
theorem dX4_topBehind_28 : decode cX4_topBehind 28 = .ok (.ladd, 1) := by decide +kernel
theorem dX4_topBehind_29 : decode cX4_topBehind 29 = .ok (.invokevirtual 54, 3) := by decide +kernel
theorem dX4_topBehind_32 : decode cX4_topBehind 32 = .ok (.lreturn, 1) := by decide +kernel
theorem dX4_topWith_0 : decode cX4_topWith 0 = .ok (.iconst 0, 1) := by decide +kernel
theorem dX4_topWith_1 : decode cX4_topWith 1 = .ok (.istore 5, 2) := by decide +kernel
theorem dX4_topWith_3 : decode cX4_topWith 3 = .ok (.bipush 15, 2) := by decide +kernel
theorem dX4_topWith_5 : decode cX4_topWith 5 = .ok (.istore 6, 2) := by decide +kernel
theorem dX4_topWith_7 : decode cX4_topWith 7 = .ok (.iload 6, 2) := by decide +kernel
theorem dX4_topWith_9 : decode cX4_topWith 9 = .ok (.iconst 1, 1) := by decide +kernel
theorem dX4_topWith_10 : decode cX4_topWith 10 = .ok (.if_icmp .lt 116, 3) := by decide +kernel
theorem dX4_topWith_13 : decode cX4_topWith 13 = .ok (.aload_n 0, 1) := by decide +kernel
theorem dX4_topWith_14 : decode cX4_topWith 14 = .ok (.iload 6, 2) := by decide +kernel
theorem dX4_topWith_16 : decode cX4_topWith 16 = .ok (.invokevirtual 48, 3) := by decide +kernel
theorem dX4_topWith_19 : decode cX4_topWith 19 = .ok (.ifCond .eq 66, 3) := by decide +kernel
theorem dX4_topWith_22 : decode cX4_topWith 22 = .ok (.aload_n 0, 1) := by decide +kernel
theorem dX4_topWith_23 : decode cX4_topWith 23 = .ok (.getfield 32, 3) := by decide +kernel
theorem dX4_topWith_26 : decode cX4_topWith 26 = .ok (.iload 6, 2) := by decide +kernel
theorem dX4_topWith_28 : decode cX4_topWith 28 = .ok (.iload 6, 2) := by decide +kernel
theorem dX4_topWith_30 : decode cX4_topWith 30 = .ok (.bipush 8, 2) := by decide +kernel
theorem dX4_topWith_32 : decode cX4_topWith 32 = .ok (.if_icmp .lt 26, 3) := by decide +kernel
theorem dX4_topWith_35 : decode cX4_topWith 35 = .ok (.iload 6, 2) := by decide +kernel
theorem dX4_topWith_37 : decode cX4_topWith 37 = .ok (.bipush 8, 2) := by decide +kernel
theorem dX4_topWith_39 : decode cX4_topWith 39 = .ok (.aload_n 0, 1) := by decide +kernel
theorem dX4_topWith_40 : decode cX4_topWith 40 = .ok (.getfield 9, 3) := by decide +kernel
theorem dX4_topWith_43 : decode cX4_topWith 43 = .ok (.iadd, 1) := by decide +kernel
theorem dX4_topWith_44 : decode cX4_topWith 44 = .ok (.if_icmp .ne 7, 3) := by decide +kernel
theorem dX4_topWith_47 : decode cX4_topWith 47 = .ok (.lload_n 1, 1) := by decide +kernel
theorem dX4_topWith_48 : decode cX4_topWith 48 = .ok (.goto 4, 3) := by decide +kernel
theorem dX4_topWith_51 : decode cX4_topWith 51 = .ok (.lload_n 3, 1) := by decide +kernel
theorem dX4_topWith_52 : decode cX4_topWith 52 = .ok (.invokestatic 62, 3) := by decide +kernel
theorem dX4_topWith_55 : decode cX4_topWith 55 = .ok (.goto 26, 3) := by decide +kernel
theorem dX4_topWith_58 : decode cX4_topWith 58 = .ok (.aload_n 0, 1) := by decide +kernel
theorem dX4_topWith_59 : decode cX4_topWith 59 = .ok (.getfield 32, 3) := by decide +kernel
theorem dX4_topWith_62 : decode cX4_topWith 62 = .ok (.iconst 2, 1) := by decide +kernel
theorem dX4_topWith_63 : decode cX4_topWith 63 = .ok (.iload 6, 2) := by decide +kernel
theorem dX4_topWith_65 : decode cX4_topWith 65 = .ok (.imul, 1) := by decide +kernel
theorem dX4_topWith_66 : decode cX4_topWith 66 = .ok (.laload, 1) := by decide +kernel
theorem dX4_topWith_67 : decode cX4_topWith 67 = .ok (.aload_n 0, 1) := by decide +kernel
theorem dX4_topWith_68 : decode cX4_topWith 68 = .ok (.getfield 32, 3) := by decide +kernel
theorem dX4_topWith_71 : decode cX4_topWith 71 = .ok (.iconst 2, 1) := by decide +kernel
theorem dX4_topWith_72 : decode cX4_topWith 72 = .ok (.iload 6, 2) := by decide +kernel
theorem dX4_topWith_74 : decode cX4_topWith 74 = .ok (.imul, 1) := by decide +kernel
theorem dX4_topWith_75 : decode cX4_topWith 75 = .ok (.iconst 1, 1) := by decide +kernel
theorem dX4_topWith_76 : decode cX4_topWith 76 = .ok (.iadd, 1) := by decide +kernel
theorem dX4_topWith_77 : decode cX4_topWith 77 = .ok (.laload, 1) := by decide +kernel
theorem dX4_topWith_78 : decode cX4_topWith 78 = .ok (.invokestatic 66, 3) := by decide +kernel
theorem dX4_topWith_81 : decode cX4_topWith 81 = .ok (.lastore, 1) := by decide +kernel
theorem dX4_topWith_82 : decode cX4_topWith 82 = .ok (.goto 38, 3) := by decide +kernel
theorem dX4_topWith_85 : decode cX4_topWith 85 = .ok (.aload_n 0, 1) := by decide +kernel
theorem dX4_topWith_86 : decode cX4_topWith 86 = .ok (.iload 6, 2) := by decide +kernel
theorem dX4_topWith_88 : decode cX4_topWith 88 = .ok (.invokevirtual 41, 3) := by decide +kernel
theorem dX4_topWith_91 : decode cX4_topWith 91 = .ok (.ifCond .eq 29, 3) := by decide +kernel
theorem dX4_topWith_94 : decode cX4_topWith 94 = .ok (.aload_n 0, 1) := by decide +kernel
theorem dX4_topWith_95 : decode cX4_topWith 95 = .ok (.iload 5, 2) := by decide +kernel
theorem dX4_topWith_97 : decode cX4_topWith 97 = .ok (.invokevirtual 51, 3) := by decide +kernel
theorem dX4_topWith_100 : decode cX4_topWith 100 = .ok (.ifCond .eq 20, 3) := by decide +kernel
theorem dX4_topWith_103 : decode cX4_topWith 103 = .ok (.aload_n 0, 1) := by decide +kernel
theorem dX4_topWith_104 : decode cX4_topWith 104 = .ok (.getfield 32, 3) := by decide +kernel
theorem dX4_topWith_107 : decode cX4_topWith 107 = .ok (.iload 6, 2) := by decide +kernel
theorem dX4_topWith_109 : decode cX4_topWith 109 = .ok (.aload_n 0, 1) := by decide +kernel
theorem dX4_topWith_110 : decode cX4_topWith 110 = .ok (.getfield 25, 3) := by decide +kernel
theorem dX4_topWith_113 : decode cX4_topWith 113 = .ok (.iload 5, 2) := by decide +kernel
theorem dX4_topWith_115 : decode cX4_topWith 115 = .ok (.laload, 1) := by decide +kernel
theorem dX4_topWith_116 : decode cX4_topWith 116 = .ok (.lastore, 1) := by decide +kernel
theorem dX4_topWith_117 : decode cX4_topWith 117 = .ok (.iinc 5 1, 3) := by decide +kernel
theorem dX4_topWith_120 : decode cX4_topWith 120 = .ok (.iinc 6 (-1), 3) := by decide +kernel
theorem dX4_topWith_123 : decode cX4_topWith 123 = .ok (.goto (-116), 3) := by decide +kernel
theorem dX4_topWith_126 : decode cX4_topWith 126 = .ok (.aload_n 0, 1) := by decide +kernel
theorem dX4_topWith_127 : decode cX4_topWith 127 = .ok (.getfield 32, 3) := by decide +kernel
theorem dX4_topWith_130 : decode cX4_topWith 130 = .ok (.iconst 1, 1) := by decide +kernel
theorem dX4_topWith_131 : decode cX4_topWith 131 = .ok (.laload, 1) := by decide +kernel
theorem dX4_topWith_132 : decode cX4_topWith 132 = .ok (.lreturn, 1) := by decide +kernel
theorem dX5_init_0 : decode cX5_init 0 = .ok (.aload_n 0, 1) := by decide +kernel
theorem dX5_init_1 : decode cX5_init 1 = .ok (.invokespecial 3, 3) := by decide +kernel
theorem dX5_init_4 : decode cX5_init 4 = .ok (.aload_n 0, 1) := by decide +kernel
theorem dX5_init_5 : decode cX5_init 5 = .ok (.bipush 8, 2) := by decide +kernel
theorem dX5_init_7 : decode cX5_init 7 = .ok (.newarray .long, 2) := by decide +kernel
theorem dX5_init_9 : decode cX5_init 9 = .ok (.putfield 9, 3) := by decide +kernel
theorem dX5_init_12 : decode cX5_init 12 = .ok (.aload_n 0, 1) := by decide +kernel
theorem dX5_init_13 : decode cX5_init 13 = .ok (.bipush 16, 2) := by decide +kernel
theorem dX5_init_15 : decode cX5_init 15 = .ok (.newarray .long, 2) := by decide +kernel
theorem dX5_init_17 : decode cX5_init 17 = .ok (.putfield 15, 3) := by decide +kernel
theorem dX5_init_20 : decode cX5_init 20 = .ok (.aload_n 0, 1) := by decide +kernel
theorem dX5_init_21 : decode cX5_init 21 = .ok (.invokevirtual 18, 3) := by decide +kernel
theorem dX5_init_24 : decode cX5_init 24 = .ok (.return_, 1) := by decide +kernel
theorem dX5_reckon_0 : decode cX5_reckon 0 = .ok (.bipush 15, 2) := by decide +kernel
theorem dX5_reckon_2 : decode cX5_reckon 2 = .ok (.istore_n 1, 1) := by decide +kernel
theorem dX5_reckon_3 : decode cX5_reckon 3 = .ok (.iload_n 1, 1) := by decide +kernel
theorem dX5_reckon_4 : decode cX5_reckon 4 = .ok (.iconst 1, 1) := by decide +kernel
theorem dX5_reckon_5 : decode cX5_reckon 5 = .ok (.if_icmp .lt 57, 3) := by decide +kernel
theorem dX5_reckon_8 : decode cX5_reckon 8 = .ok (.aload_n 0, 1) := by decide +kernel
theorem dX5_reckon_9 : decode cX5_reckon 9 = .ok (.getfield 15, 3) := by decide +kernel
theorem dX5_reckon_12 : decode cX5_reckon 12 = .ok (.iload_n 1, 1) := by decide +kernel
theorem dX5_reckon_13 : decode cX5_reckon 13 = .ok (.iload_n 1, 1) := by decide +kernel
theorem dX5_reckon_14 : decode cX5_reckon 14 = .ok (.bipush 8, 2) := by decide +kernel
theorem dX5_reckon_16 : decode cX5_reckon 16 = .ok (.if_icmp .lt 18, 3) := by decide +kernel
theorem dX5_reckon_19 : decode cX5_reckon 19 = .ok (.aload_n 0, 1) := by decide +kernel
theorem dX5_reckon_20 : decode cX5_reckon 20 = .ok (.getfield 9, 3) := by decide +kernel
theorem dX5_reckon_23 : decode cX5_reckon 23 = .ok (.iload_n 1, 1) := by decide +kernel
theorem dX5_reckon_24 : decode cX5_reckon 24 = .ok (.bipush 8, 2) := by decide +kernel
theorem dX5_reckon_26 : decode cX5_reckon 26 = .ok (.isub, 1) := by decide +kernel
theorem dX5_reckon_27 : decode cX5_reckon 27 = .ok (.laload, 1) := by decide +kernel
theorem dX5_reckon_28 : decode cX5_reckon 28 = .ok (.invokestatic 21, 3) := by decide +kernel
theorem dX5_reckon_31 : decode cX5_reckon 31 = .ok (.goto 24, 3) := by decide +kernel
theorem dX5_reckon_34 : decode cX5_reckon 34 = .ok (.aload_n 0, 1) := by decide +kernel
theorem dX5_reckon_35 : decode cX5_reckon 35 = .ok (.getfield 15, 3) := by decide +kernel
theorem dX5_reckon_38 : decode cX5_reckon 38 = .ok (.iconst 2, 1) := by decide +kernel
theorem dX5_reckon_39 : decode cX5_reckon 39 = .ok (.iload_n 1, 1) := by decide +kernel
theorem dX5_reckon_40 : decode cX5_reckon 40 = .ok (.imul, 1) := by decide +kernel
theorem dX5_reckon_41 : decode cX5_reckon 41 = .ok (.laload, 1) := by decide +kernel
theorem dX5_reckon_42 : decode cX5_reckon 42 = .ok (.aload_n 0, 1) := by decide +kernel
theorem dX5_reckon_43 : decode cX5_reckon 43 = .ok (.getfield 15, 3) := by decide +kernel
theorem dX5_reckon_46 : decode cX5_reckon 46 = .ok (.iconst 2, 1) := by decide +kernel
theorem dX5_reckon_47 : decode cX5_reckon 47 = .ok (.iload_n 1, 1) := by decide +kernel
theorem dX5_reckon_48 : decode cX5_reckon 48 = .ok (.imul, 1) := by decide +kernel
theorem dX5_reckon_49 : decode cX5_reckon 49 = .ok (.iconst 1, 1) := by decide +kernel
theorem dX5_reckon_50 : decode cX5_reckon 50 = .ok (.iadd, 1) := by decide +kernel
theorem dX5_reckon_51 : decode cX5_reckon 51 = .ok (.laload, 1) := by decide +kernel
theorem dX5_reckon_52 : decode cX5_reckon 52 = .ok (.invokestatic 25, 3) := by decide +kernel
theorem dX5_reckon_55 : decode cX5_reckon 55 = .ok (.lastore, 1) := by decide +kernel
theorem dX5_reckon_56 : decode cX5_reckon 56 = .ok (.iinc 1 (-1), 3) := by decide +kernel
theorem dX5_reckon_59 : decode cX5_reckon 59 = .ok (.goto (-56), 3) := by decide +kernel
theorem dX5_reckon_62 : decode cX5_reckon 62 = .ok (.return_, 1) := by decide +kernel
theorem dX5_leafAt_0 : decode cX5_leafAt 0 = .ok (.iload_n 1, 1) := by decide +kernel
theorem dX5_leafAt_1 : decode cX5_leafAt 1 = .ok (.invokestatic 29, 3) := by decide +kernel
theorem dX5_leafAt_4 : decode cX5_leafAt 4 = .ok (.ifCond .eq 12, 3) := by decide +kernel
theorem dX5_leafAt_7 : decode cX5_leafAt 7 = .ok (.aload_n 0, 1) := by decide +kernel
end
section
theorem dX5_leafAt_8 : decode cX5_leafAt 8 = .ok (.getfield 9, 3) := by decide +kernel
theorem dX5_leafAt_11 : decode cX5_leafAt 11 = .ok (.iload_n 1, 1) := by decide +kernel
theorem dX5_leafAt_12 : decode cX5_leafAt 12 = .ok (.laload, 1) := by decide +kernel
theorem dX5_leafAt_13 : decode cX5_leafAt 13 = .ok (.goto 4, 3) := by decide +kernel
theorem dX5_leafAt_16 : decode cX5_leafAt 16 = .ok (.lconst 0, 1) := by decide +kernel
theorem dX5_leafAt_17 : decode cX5_leafAt 17 = .ok (.lreturn, 1) := by decide +kernel
theorem dX5_nodeAt_0 : decode cX5_nodeAt 0 = .ok (.iload_n 1, 1) := by decide +kernel
theorem dX5_nodeAt_1 : decode cX5_nodeAt 1 = .ok (.iconst 1, 1) := by decide +kernel
theorem dX5_nodeAt_2 : decode cX5_nodeAt 2 = .ok (.if_icmp .lt 18, 3) := by decide +kernel
theorem dX5_nodeAt_5 : decode cX5_nodeAt 5 = .ok (.iload_n 1, 1) := by decide +kernel
theorem dX5_nodeAt_6 : decode cX5_nodeAt 6 = .ok (.bipush 16, 2) := by decide +kernel
theorem dX5_nodeAt_8 : decode cX5_nodeAt 8 = .ok (.if_icmp .ge 12, 3) := by decide +kernel
theorem dX5_nodeAt_11 : decode cX5_nodeAt 11 = .ok (.aload_n 0, 1) := by decide +kernel
theorem dX5_nodeAt_12 : decode cX5_nodeAt 12 = .ok (.getfield 15, 3) := by decide +kernel
theorem dX5_nodeAt_15 : decode cX5_nodeAt 15 = .ok (.iload_n 1, 1) := by decide +kernel
theorem dX5_nodeAt_16 : decode cX5_nodeAt 16 = .ok (.laload, 1) := by decide +kernel
theorem dX5_nodeAt_17 : decode cX5_nodeAt 17 = .ok (.goto 4, 3) := by decide +kernel
theorem dX5_nodeAt_20 : decode cX5_nodeAt 20 = .ok (.lconst 0, 1) := by decide +kernel
theorem dX5_nodeAt_21 : decode cX5_nodeAt 21 = .ok (.lreturn, 1) := by decide +kernel
theorem dX5_change_0 : decode cX5_change 0 = .ok (.iload_n 1, 1) := by decide +kernel
theorem dX5_change_1 : decode cX5_change 1 = .ok (.invokestatic 29, 3) := by decide +kernel
theorem dX5_change_4 : decode cX5_change 4 = .ok (.ifCond .ne 5, 3) := by decide +kernel
theorem dX5_change_7 : decode cX5_change 7 = .ok (.lconst 0, 1) := by decide +kernel
theorem dX5_change_8 : decode cX5_change 8 = .ok (.lreturn, 1) := by decide +kernel
theorem dX5_change_9 : decode cX5_change 9 = .ok (.aload_n 0, 1) := by decide +kernel
theorem dX5_change_10 : decode cX5_change 10 = .ok (.getfield 9, 3) := by decide +kernel
theorem dX5_change_13 : decode cX5_change 13 = .ok (.iload_n 1, 1) := by decide +kernel
theorem dX5_change_14 : decode cX5_change 14 = .ok (.laload, 1) := by decide +kernel
theorem dX5_change_15 : decode cX5_change 15 = .ok (.lstore 4, 2) := by decide +kernel
theorem dX5_change_17 : decode cX5_change 17 = .ok (.aload_n 0, 1) := by decide +kernel
theorem dX5_change_18 : decode cX5_change 18 = .ok (.getfield 9, 3) := by decide +kernel
theorem dX5_change_21 : decode cX5_change 21 = .ok (.iload_n 1, 1) := by decide +kernel
theorem dX5_change_22 : decode cX5_change 22 = .ok (.lload_n 2, 1) := by decide +kernel
theorem dX5_change_23 : decode cX5_change 23 = .ok (.lastore, 1) := by decide +kernel
theorem dX5_change_24 : decode cX5_change 24 = .ok (.aload_n 0, 1) := by decide +kernel
theorem dX5_change_25 : decode cX5_change 25 = .ok (.invokevirtual 18, 3) := by decide +kernel
theorem dX5_change_28 : decode cX5_change 28 = .ok (.lload 4, 2) := by decide +kernel
theorem dX5_change_30 : decode cX5_change 30 = .ok (.lreturn, 1) := by decide +kernel
theorem dX6_init_0 : decode cX6_init 0 = .ok (.aload_n 0, 1) := by decide +kernel
theorem dX6_init_1 : decode cX6_init 1 = .ok (.invokespecial 3, 3) := by decide +kernel
theorem dX6_init_4 : decode cX6_init 4 = .ok (.aload_n 0, 1) := by decide +kernel
theorem dX6_init_5 : decode cX6_init 5 = .ok (.iload_n 1, 1) := by decide +kernel
theorem dX6_init_6 : decode cX6_init 6 = .ok (.putfield 9, 3) := by decide +kernel
theorem dX6_init_9 : decode cX6_init 9 = .ok (.aload_n 0, 1) := by decide +kernel
theorem dX6_init_10 : decode cX6_init 10 = .ok (.lload_n 2, 1) := by decide +kernel
theorem dX6_init_11 : decode cX6_init 11 = .ok (.putfield 15, 3) := by decide +kernel
theorem dX6_init_14 : decode cX6_init 14 = .ok (.aload_n 0, 1) := by decide +kernel
theorem dX6_init_15 : decode cX6_init 15 = .ok (.lload 4, 2) := by decide +kernel
theorem dX6_init_17 : decode cX6_init 17 = .ok (.putfield 19, 3) := by decide +kernel
theorem dX6_init_20 : decode cX6_init 20 = .ok (.iconst 0, 1) := by decide +kernel
theorem dX6_init_21 : decode cX6_init 21 = .ok (.istore 6, 2) := by decide +kernel
theorem dX6_init_23 : decode cX6_init 23 = .ok (.iconst 0, 1) := by decide +kernel
theorem dX6_init_24 : decode cX6_init 24 = .ok (.istore 7, 2) := by decide +kernel
theorem dX6_init_26 : decode cX6_init 26 = .ok (.iload 7, 2) := by decide +kernel
theorem dX6_init_28 : decode cX6_init 28 = .ok (.iconst 5, 1) := by decide +kernel
theorem dX6_init_29 : decode cX6_init 29 = .ok (.if_icmp .ge 28, 3) := by decide +kernel
theorem dX6_init_32 : decode cX6_init 32 = .ok (.iload 6, 2) := by decide +kernel
theorem dX6_init_34 : decode cX6_init 34 = .ok (.lload_n 2, 1) := by decide +kernel
theorem dX6_init_35 : decode cX6_init 35 = .ok (.iload 7, 2) := by decide +kernel
theorem dX6_init_37 : decode cX6_init 37 = .ok (.invokestatic 22, 3) := by decide +kernel
theorem dX6_init_40 : decode cX6_init 40 = .ok (.lload 4, 2) := by decide +kernel
theorem dX6_init_42 : decode cX6_init 42 = .ok (.iload 7, 2) := by decide +kernel
theorem dX6_init_44 : decode cX6_init 44 = .ok (.invokestatic 22, 3) := by decide +kernel
theorem dX6_init_47 : decode cX6_init 47 = .ok (.iadd, 1) := by decide +kernel
theorem dX6_init_48 : decode cX6_init 48 = .ok (.iadd, 1) := by decide +kernel
theorem dX6_init_49 : decode cX6_init 49 = .ok (.istore 6, 2) := by decide +kernel
theorem dX6_init_51 : decode cX6_init 51 = .ok (.iinc 7 1, 3) := by decide +kernel
theorem dX6_init_54 : decode cX6_init 54 = .ok (.goto (-28), 3) := by decide +kernel
theorem dX6_init_57 : decode cX6_init 57 = .ok (.aload_n 0, 1) := by decide +kernel
theorem dX6_init_58 : decode cX6_init 58 = .ok (.iload 6, 2) := by decide +kernel
theorem dX6_init_60 : decode cX6_init 60 = .ok (.putfield 26, 3) := by decide +kernel
theorem dX6_init_63 : decode cX6_init 63 = .ok (.return_, 1) := by decide +kernel
theorem dX6_weightOf_0 : decode cX6_weightOf 0 = .ok (.iconst 0, 1) := by decide +kernel
theorem dX6_weightOf_1 : decode cX6_weightOf 1 = .ok (.istore_n 2, 1) := by decide +kernel
theorem dX6_weightOf_2 : decode cX6_weightOf 2 = .ok (.iconst 0, 1) := by decide +kernel
theorem dX6_weightOf_3 : decode cX6_weightOf 3 = .ok (.istore_n 3, 1) := by decide +kernel
theorem dX6_weightOf_4 : decode cX6_weightOf 4 = .ok (.iload_n 3, 1) := by decide +kernel
theorem dX6_weightOf_5 : decode cX6_weightOf 5 = .ok (.iconst 5, 1) := by decide +kernel
theorem dX6_weightOf_6 : decode cX6_weightOf 6 = .ok (.if_icmp .ge 49, 3) := by decide +kernel
theorem dX6_weightOf_9 : decode cX6_weightOf 9 = .ok (.iload_n 1, 1) := by decide +kernel
theorem dX6_weightOf_10 : decode cX6_weightOf 10 = .ok (.iconst 1, 1) := by decide +kernel
theorem dX6_weightOf_11 : decode cX6_weightOf 11 = .ok (.iload_n 3, 1) := by decide +kernel
theorem dX6_weightOf_12 : decode cX6_weightOf 12 = .ok (.ishl, 1) := by decide +kernel
theorem dX6_weightOf_13 : decode cX6_weightOf 13 = .ok (.iand, 1) := by decide +kernel
theorem dX6_weightOf_14 : decode cX6_weightOf 14 = .ok (.ifCond .eq 14, 3) := by decide +kernel
theorem dX6_weightOf_17 : decode cX6_weightOf 17 = .ok (.iload_n 2, 1) := by decide +kernel
theorem dX6_weightOf_18 : decode cX6_weightOf 18 = .ok (.aload_n 0, 1) := by decide +kernel
theorem dX6_weightOf_19 : decode cX6_weightOf 19 = .ok (.getfield 15, 3) := by decide +kernel
theorem dX6_weightOf_22 : decode cX6_weightOf 22 = .ok (.iload_n 3, 1) := by decide +kernel
theorem dX6_weightOf_23 : decode cX6_weightOf 23 = .ok (.invokestatic 22, 3) := by decide +kernel
theorem dX6_weightOf_26 : decode cX6_weightOf 26 = .ok (.iadd, 1) := by decide +kernel
theorem dX6_weightOf_27 : decode cX6_weightOf 27 = .ok (.istore_n 2, 1) := by decide +kernel
theorem dX6_weightOf_28 : decode cX6_weightOf 28 = .ok (.iload_n 1, 1) := by decide +kernel
theorem dX6_weightOf_29 : decode cX6_weightOf 29 = .ok (.iconst 1, 1) := by decide +kernel
theorem dX6_weightOf_30 : decode cX6_weightOf 30 = .ok (.iload_n 3, 1) := by decide +kernel
theorem dX6_weightOf_31 : decode cX6_weightOf 31 = .ok (.iconst 5, 1) := by decide +kernel
theorem dX6_weightOf_32 : decode cX6_weightOf 32 = .ok (.iadd, 1) := by decide +kernel
theorem dX6_weightOf_33 : decode cX6_weightOf 33 = .ok (.ishl, 1) := by decide +kernel
theorem dX6_weightOf_34 : decode cX6_weightOf 34 = .ok (.iand, 1) := by decide +kernel
theorem dX6_weightOf_35 : decode cX6_weightOf 35 = .ok (.ifCond .eq 14, 3) := by decide +kernel
theorem dX6_weightOf_38 : decode cX6_weightOf 38 = .ok (.iload_n 2, 1) := by decide +kernel
theorem dX6_weightOf_39 : decode cX6_weightOf 39 = .ok (.aload_n 0, 1) := by decide +kernel
theorem dX6_weightOf_40 : decode cX6_weightOf 40 = .ok (.getfield 19, 3) := by decide +kernel
theorem dX6_weightOf_43 : decode cX6_weightOf 43 = .ok (.iload_n 3, 1) := by decide +kernel
theorem dX6_weightOf_44 : decode cX6_weightOf 44 = .ok (.invokestatic 22, 3) := by decide +kernel
theorem dX6_weightOf_47 : decode cX6_weightOf 47 = .ok (.iadd, 1) := by decide +kernel
theorem dX6_weightOf_48 : decode cX6_weightOf 48 = .ok (.istore_n 2, 1) := by decide +kernel
theorem dX6_weightOf_49 : decode cX6_weightOf 49 = .ok (.iinc 3 1, 3) := by decide +kernel
theorem dX6_weightOf_52 : decode cX6_weightOf 52 = .ok (.goto (-48), 3) := by decide +kernel
theorem dX6_weightOf_55 : decode cX6_weightOf 55 = .ok (.iload_n 2, 1) := by decide +kernel
theorem dX6_weightOf_56 : decode cX6_weightOf 56 = .ok (.ireturn, 1) := by decide +kernel
end
section
theorem dX7_init_0 : decode cX7_init 0 = .ok (.aload_n 0, 1) := by decide +kernel
theorem dX7_init_1 : decode cX7_init 1 = .ok (.invokespecial 3, 3) := by decide +kernel
theorem dX7_init_4 : decode cX7_init 4 = .ok (.aload_n 0, 1) := by decide +kernel
theorem dX7_init_5 : decode cX7_init 5 = .ok (.bipush 16, 2) := by decide +kernel
theorem dX7_init_7 : decode cX7_init 7 = .ok (.anewarray 9, 3) := by decide +kernel
theorem dX7_init_10 : decode cX7_init 10 = .ok (.putfield 11, 3) := by decide +kernel
theorem dX7_init_13 : decode cX7_init 13 = .ok (.aload_n 0, 1) := by decide +kernel
theorem dX7_init_14 : decode cX7_init 14 = .ok (.iconst 0, 1) := by decide +kernel
theorem dX7_init_15 : decode cX7_init 15 = .ok (.putfield 15, 3) := by decide +kernel
theorem dX7_init_18 : decode cX7_init 18 = .ok (.aload_n 0, 1) := by decide +kernel
theorem dX7_init_19 : decode cX7_init 19 = .ok (.new 19, 3) := by decide +kernel
theorem dX7_init_22 : decode cX7_init 22 = .ok (.dup, 1) := by decide +kernel
theorem dX7_init_23 : decode cX7_init 23 = .ok (.bipush 60, 2) := by decide +kernel
theorem dX7_init_25 : decode cX7_init 25 = .ok (.invokespecial 21, 3) := by decide +kernel
theorem dX7_init_28 : decode cX7_init 28 = .ok (.putfield 24, 3) := by decide +kernel
theorem dX7_init_31 : decode cX7_init 31 = .ok (.aload_n 0, 1) := by decide +kernel
theorem dX7_init_32 : decode cX7_init 32 = .ok (.iconst 4, 1) := by decide +kernel
theorem dX7_init_33 : decode cX7_init 33 = .ok (.newarray .int, 2) := by decide +kernel
theorem dX7_init_35 : decode cX7_init 35 = .ok (.dup, 1) := by decide +kernel
theorem dX7_init_36 : decode cX7_init 36 = .ok (.iconst 0, 1) := by decide +kernel
theorem dX7_init_37 : decode cX7_init 37 = .ok (.iconst 1, 1) := by decide +kernel
theorem dX7_init_38 : decode cX7_init 38 = .ok (.iastore, 1) := by decide +kernel
theorem dX7_init_39 : decode cX7_init 39 = .ok (.dup, 1) := by decide +kernel
theorem dX7_init_40 : decode cX7_init 40 = .ok (.iconst 1, 1) := by decide +kernel
theorem dX7_init_41 : decode cX7_init 41 = .ok (.iconst 3, 1) := by decide +kernel
theorem dX7_init_42 : decode cX7_init 42 = .ok (.iastore, 1) := by decide +kernel
theorem dX7_init_43 : decode cX7_init 43 = .ok (.dup, 1) := by decide +kernel
theorem dX7_init_44 : decode cX7_init 44 = .ok (.iconst 2, 1) := by decide +kernel
theorem dX7_init_45 : decode cX7_init 45 = .ok (.bipush 50, 2) := by decide +kernel
theorem dX7_init_47 : decode cX7_init 47 = .ok (.iastore, 1) := by decide +kernel
theorem dX7_init_48 : decode cX7_init 48 = .ok (.dup, 1) := by decide +kernel
theorem dX7_init_49 : decode cX7_init 49 = .ok (.iconst 3, 1) := by decide +kernel
theorem dX7_init_50 : decode cX7_init 50 = .ok (.iconst 4, 1) := by decide +kernel
theorem dX7_init_51 : decode cX7_init 51 = .ok (.iastore, 1) := by decide +kernel
theorem dX7_init_52 : decode cX7_init 52 = .ok (.putfield 28, 3) := by decide +kernel
theorem dX7_init_55 : decode cX7_init 55 = .ok (.aload_n 0, 1) := by decide +kernel
theorem dX7_init_56 : decode cX7_init 56 = .ok (.iconst 4, 1) := by decide +kernel
theorem dX7_init_57 : decode cX7_init 57 = .ok (.anewarray 32, 3) := by decide +kernel
theorem dX7_init_60 : decode cX7_init 60 = .ok (.putfield 34, 3) := by decide +kernel
theorem dX7_init_63 : decode cX7_init 63 = .ok (.aload_n 0, 1) := by decide +kernel
theorem dX7_init_64 : decode cX7_init 64 = .ok (.iconst 4, 1) := by decide +kernel
theorem dX7_init_65 : decode cX7_init 65 = .ok (.anewarray 38, 3) := by decide +kernel
theorem dX7_init_68 : decode cX7_init 68 = .ok (.putfield 40, 3) := by decide +kernel
theorem dX7_init_71 : decode cX7_init 71 = .ok (.aload_n 0, 1) := by decide +kernel
theorem dX7_init_72 : decode cX7_init 72 = .ok (.bipush 32, 2) := by decide +kernel
theorem dX7_init_74 : decode cX7_init 74 = .ok (.newarray .int, 2) := by decide +kernel
theorem dX7_init_76 : decode cX7_init 76 = .ok (.putfield 44, 3) := by decide +kernel
theorem dX7_init_79 : decode cX7_init 79 = .ok (.aload_n 0, 1) := by decide +kernel
theorem dX7_init_80 : decode cX7_init 80 = .ok (.new 47, 3) := by decide +kernel
theorem dX7_init_83 : decode cX7_init 83 = .ok (.dup, 1) := by decide +kernel
theorem dX7_init_84 : decode cX7_init 84 = .ok (.invokespecial 49, 3) := by decide +kernel
theorem dX7_init_87 : decode cX7_init 87 = .ok (.putfield 50, 3) := by decide +kernel
theorem dX7_init_90 : decode cX7_init 90 = .ok (.aload_n 0, 1) := by decide +kernel
theorem dX7_init_91 : decode cX7_init 91 = .ok (.new 54, 3) := by decide +kernel
theorem dX7_init_94 : decode cX7_init 94 = .ok (.dup, 1) := by decide +kernel
theorem dX7_init_95 : decode cX7_init 95 = .ok (.invokespecial 56, 3) := by decide +kernel
theorem dX7_init_98 : decode cX7_init 98 = .ok (.putfield 57, 3) := by decide +kernel
theorem dX7_init_101 : decode cX7_init 101 = .ok (.iconst 0, 1) := by decide +kernel
theorem dX7_init_102 : decode cX7_init 102 = .ok (.istore_n 1, 1) := by decide +kernel
theorem dX7_init_103 : decode cX7_init 103 = .ok (.iload_n 1, 1) := by decide +kernel
theorem dX7_init_104 : decode cX7_init 104 = .ok (.iconst 4, 1) := by decide +kernel
theorem dX7_init_105 : decode cX7_init 105 = .ok (.if_icmp .ge 22, 3) := by decide +kernel
theorem dX7_init_108 : decode cX7_init 108 = .ok (.aload_n 0, 1) := by decide +kernel
theorem dX7_init_109 : decode cX7_init 109 = .ok (.getfield 34, 3) := by decide +kernel
theorem dX7_init_112 : decode cX7_init 112 = .ok (.iload_n 1, 1) := by decide +kernel
theorem dX7_init_113 : decode cX7_init 113 = .ok (.new 32, 3) := by decide +kernel
theorem dX7_init_116 : decode cX7_init 116 = .ok (.dup, 1) := by decide +kernel
theorem dX7_init_117 : decode cX7_init 117 = .ok (.invokespecial 61, 3) := by decide +kernel
theorem dX7_init_120 : decode cX7_init 120 = .ok (.aastore, 1) := by decide +kernel
theorem dX7_init_121 : decode cX7_init 121 = .ok (.iinc 1 1, 3) := by decide +kernel
theorem dX7_init_124 : decode cX7_init 124 = .ok (.goto (-21), 3) := by decide +kernel
theorem dX7_init_127 : decode cX7_init 127 = .ok (.iconst 0, 1) := by decide +kernel
theorem dX7_init_128 : decode cX7_init 128 = .ok (.istore_n 1, 1) := by decide +kernel
theorem dX7_init_129 : decode cX7_init 129 = .ok (.iload_n 1, 1) := by decide +kernel
theorem dX7_init_130 : decode cX7_init 130 = .ok (.iconst 4, 1) := by decide +kernel
theorem dX7_init_131 : decode cX7_init 131 = .ok (.if_icmp .ge 22, 3) := by decide +kernel
theorem dX7_init_134 : decode cX7_init 134 = .ok (.aload_n 0, 1) := by decide +kernel
theorem dX7_init_135 : decode cX7_init 135 = .ok (.getfield 40, 3) := by decide +kernel
theorem dX7_init_138 : decode cX7_init 138 = .ok (.iload_n 1, 1) := by decide +kernel
theorem dX7_init_139 : decode cX7_init 139 = .ok (.new 38, 3) := by decide +kernel
theorem dX7_init_142 : decode cX7_init 142 = .ok (.dup, 1) := by decide +kernel
theorem dX7_init_143 : decode cX7_init 143 = .ok (.invokespecial 62, 3) := by decide +kernel
theorem dX7_init_146 : decode cX7_init 146 = .ok (.aastore, 1) := by decide +kernel
theorem dX7_init_147 : decode cX7_init 147 = .ok (.iinc 1 1, 3) := by decide +kernel
theorem dX7_init_150 : decode cX7_init 150 = .ok (.goto (-21), 3) := by decide +kernel
theorem dX7_init_153 : decode cX7_init 153 = .ok (.aload_n 0, 1) := by decide +kernel
theorem dX7_init_154 : decode cX7_init 154 = .ok (.getfield 57, 3) := by decide +kernel
theorem dX7_init_157 : decode cX7_init 157 = .ok (.aload_n 0, 1) := by decide +kernel
theorem dX7_init_158 : decode cX7_init 158 = .ok (.getfield 50, 3) := by decide +kernel
theorem dX7_init_161 : decode cX7_init 161 = .ok (.iconst 0, 1) := by decide +kernel
theorem dX7_init_162 : decode cX7_init 162 = .ok (.iconst 1, 1) := by decide +kernel
theorem dX7_init_163 : decode cX7_init 163 = .ok (.invokevirtual 63, 3) := by decide +kernel
theorem dX7_init_166 : decode cX7_init 166 = .ok (.return_, 1) := by decide +kernel
theorem dX7_set_0 : decode cX7_set 0 = .ok (.lload_n 1, 1) := by decide +kernel
theorem dX7_set_1 : decode cX7_set 1 = .ok (.invokestatic 67, 3) := by decide +kernel
theorem dX7_set_4 : decode cX7_set 4 = .ok (.ifCond .eq 10, 3) := by decide +kernel
theorem dX7_set_7 : decode cX7_set 7 = .ok (.lload_n 3, 1) := by decide +kernel
theorem dX7_set_8 : decode cX7_set 8 = .ok (.invokestatic 67, 3) := by decide +kernel
theorem dX7_set_11 : decode cX7_set 11 = .ok (.ifCond .ne 5, 3) := by decide +kernel
theorem dX7_set_14 : decode cX7_set 14 = .ok (.iconst (-1), 1) := by decide +kernel
theorem dX7_set_15 : decode cX7_set 15 = .ok (.ireturn, 1) := by decide +kernel
theorem dX7_set_16 : decode cX7_set 16 = .ok (.aload_n 0, 1) := by decide +kernel
theorem dX7_set_17 : decode cX7_set 17 = .ok (.getfield 15, 3) := by decide +kernel
theorem dX7_set_20 : decode cX7_set 20 = .ok (.bipush 16, 2) := by decide +kernel
theorem dX7_set_22 : decode cX7_set 22 = .ok (.if_icmp .lt 6, 3) := by decide +kernel
theorem dX7_set_25 : decode cX7_set 25 = .ok (.bipush (-3), 2) := by decide +kernel
theorem dX7_set_27 : decode cX7_set 27 = .ok (.ireturn, 1) := by decide +kernel
theorem dX7_set_28 : decode cX7_set 28 = .ok (.aload_n 0, 1) := by decide +kernel
theorem dX7_set_29 : decode cX7_set 29 = .ok (.getfield 11, 3) := by decide +kernel
theorem dX7_set_32 : decode cX7_set 32 = .ok (.aload_n 0, 1) := by decide +kernel
theorem dX7_set_33 : decode cX7_set 33 = .ok (.getfield 15, 3) := by decide +kernel
theorem dX7_set_36 : decode cX7_set 36 = .ok (.new 9, 3) := by decide +kernel
theorem dX7_set_39 : decode cX7_set 39 = .ok (.dup, 1) := by decide +kernel
theorem dX7_set_40 : decode cX7_set 40 = .ok (.aload_n 0, 1) := by decide +kernel
theorem dX7_set_41 : decode cX7_set 41 = .ok (.getfield 15, 3) := by decide +kernel
theorem dX7_set_44 : decode cX7_set 44 = .ok (.lload_n 1, 1) := by decide +kernel
theorem dX7_set_45 : decode cX7_set 45 = .ok (.lload_n 3, 1) := by decide +kernel
theorem dX7_set_46 : decode cX7_set 46 = .ok (.invokespecial 71, 3) := by decide +kernel
theorem dX7_set_49 : decode cX7_set 49 = .ok (.aastore, 1) := by decide +kernel
theorem dX7_set_50 : decode cX7_set 50 = .ok (.aload_n 0, 1) := by decide +kernel
theorem dX7_set_51 : decode cX7_set 51 = .ok (.dup, 1) := by decide +kernel
theorem dX7_set_52 : decode cX7_set 52 = .ok (.getfield 15, 3) := by decide +kernel
theorem dX7_set_55 : decode cX7_set 55 = .ok (.iconst 1, 1) := by decide +kernel
theorem dX7_set_56 : decode cX7_set 56 = .ok (.iadd, 1) := by decide +kernel
theorem dX7_set_57 : decode cX7_set 57 = .ok (.putfield 15, 3) := by decide +kernel
theorem dX7_set_60 : decode cX7_set 60 = .ok (.aload_n 0, 1) := by decide +kernel
theorem dX7_set_61 : decode cX7_set 61 = .ok (.getfield 15, 3) := by decide +kernel
theorem dX7_set_64 : decode cX7_set 64 = .ok (.iconst 1, 1) := by decide +kernel
theorem dX7_set_65 : decode cX7_set 65 = .ok (.isub, 1) := by decide +kernel
theorem dX7_set_66 : decode cX7_set 66 = .ok (.ireturn, 1) := by decide +kernel
theorem dX7_head_0 : decode cX7_head 0 = .ok (.aload_n 0, 1) := by decide +kernel
theorem dX7_head_1 : decode cX7_head 1 = .ok (.iload 4, 2) := by decide +kernel
theorem dX7_head_3 : decode cX7_head 3 = .ok (.invokevirtual 74, 3) := by decide +kernel
theorem dX7_head_6 : decode cX7_head 6 = .ok (.astore 8, 2) := by decide +kernel
theorem dX7_head_8 : decode cX7_head 8 = .ok (.aload_n 0, 1) := by decide +kernel
theorem dX7_head_9 : decode cX7_head 9 = .ok (.iload 5, 2) := by decide +kernel
theorem dX7_head_11 : decode cX7_head 11 = .ok (.invokevirtual 74, 3) := by decide +kernel
theorem dX7_head_14 : decode cX7_head 14 = .ok (.astore 9, 2) := by decide +kernel
theorem dX7_head_16 : decode cX7_head 16 = .ok (.iload_n 1, 1) := by decide +kernel
theorem dX7_head_17 : decode cX7_head 17 = .ok (.invokestatic 78, 3) := by decide +kernel
theorem dX7_head_20 : decode cX7_head 20 = .ok (.ifCond .eq 13, 3) := by decide +kernel
theorem dX7_head_23 : decode cX7_head 23 = .ok (.aload 8, 2) := by decide +kernel
theorem dX7_head_25 : decode cX7_head 25 = .ok (.ifnull 8, 3) := by decide +kernel
theorem dX7_head_28 : decode cX7_head 28 = .ok (.aload 9, 2) := by decide +kernel
theorem dX7_head_30 : decode cX7_head 30 = .ok (.ifnonnull 5, 3) := by decide +kernel
theorem dX7_head_33 : decode cX7_head 33 = .ok (.iconst (-1), 1) := by decide +kernel
theorem dX7_head_34 : decode cX7_head 34 = .ok (.ireturn, 1) := by decide +kernel
theorem dX7_head_35 : decode cX7_head 35 = .ok (.aload_n 0, 1) := by decide +kernel
theorem dX7_head_36 : decode cX7_head 36 = .ok (.getfield 24, 3) := by decide +kernel
theorem dX7_head_39 : decode cX7_head 39 = .ok (.invokevirtual 82, 3) := by decide +kernel
theorem dX7_head_42 : decode cX7_head 42 = .ok (.ifCond .eq 6, 3) := by decide +kernel
theorem dX7_head_45 : decode cX7_head 45 = .ok (.bipush (-3), 2) := by decide +kernel
theorem dX7_head_47 : decode cX7_head 47 = .ok (.ireturn, 1) := by decide +kernel
theorem dX7_head_48 : decode cX7_head 48 = .ok (.aload_n 0, 1) := by decide +kernel
theorem dX7_head_49 : decode cX7_head 49 = .ok (.getfield 24, 3) := by decide +kernel
theorem dX7_head_52 : decode cX7_head 52 = .ok (.getfield 86, 3) := by decide +kernel
theorem dX7_head_55 : decode cX7_head 55 = .ok (.istore 10, 2) := by decide +kernel
theorem dX7_head_57 : decode cX7_head 57 = .ok (.aload_n 0, 1) := by decide +kernel
theorem dX7_head_58 : decode cX7_head 58 = .ok (.getfield 24, 3) := by decide +kernel
theorem dX7_head_61 : decode cX7_head 61 = .ok (.new 89, 3) := by decide +kernel
theorem dX7_head_64 : decode cX7_head 64 = .ok (.dup, 1) := by decide +kernel
theorem dX7_head_65 : decode cX7_head 65 = .ok (.iload 10, 2) := by decide +kernel
theorem dX7_head_67 : decode cX7_head 67 = .ok (.iload_n 1, 1) := by decide +kernel
theorem dX7_head_68 : decode cX7_head 68 = .ok (.lload_n 2, 1) := by decide +kernel
theorem dX7_head_69 : decode cX7_head 69 = .ok (.aload 8, 2) := by decide +kernel
theorem dX7_head_71 : decode cX7_head 71 = .ok (.aload 9, 2) := by decide +kernel
theorem dX7_head_73 : decode cX7_head 73 = .ok (.lload 6, 2) := by decide +kernel
theorem dX7_head_75 : decode cX7_head 75 = .ok (.invokespecial 91, 3) := by decide +kernel
theorem dX7_head_78 : decode cX7_head 78 = .ok (.invokevirtual 94, 3) := by decide +kernel
theorem dX7_head_81 : decode cX7_head 81 = .ok (.iload 10, 2) := by decide +kernel
theorem dX7_head_83 : decode cX7_head 83 = .ok (.ireturn, 1) := by decide +kernel
theorem dX7_sign_0 : decode cX7_sign 0 = .ok (.aload_n 0, 1) := by decide +kernel
theorem dX7_sign_1 : decode cX7_sign 1 = .ok (.getfield 24, 3) := by decide +kernel
theorem dX7_sign_4 : decode cX7_sign 4 = .ok (.iload_n 1, 1) := by decide +kernel
theorem dX7_sign_5 : decode cX7_sign 5 = .ok (.invokevirtual 98, 3) := by decide +kernel
theorem dX7_sign_8 : decode cX7_sign 8 = .ok (.astore_n 3, 1) := by decide +kernel
theorem dX7_sign_9 : decode cX7_sign 9 = .ok (.aload_n 3, 1) := by decide +kernel
theorem dX7_sign_10 : decode cX7_sign 10 = .ok (.ifnull 13, 3) := by decide +kernel
theorem dX7_sign_13 : decode cX7_sign 13 = .ok (.iload_n 2, 1) := by decide +kernel
theorem dX7_sign_14 : decode cX7_sign 14 = .ok (.ifCond .lt 9, 3) := by decide +kernel
theorem dX7_sign_17 : decode cX7_sign 17 = .ok (.iload_n 2, 1) := by decide +kernel
theorem dX7_sign_18 : decode cX7_sign 18 = .ok (.bipush 10, 2) := by decide +kernel
theorem dX7_sign_20 : decode cX7_sign 20 = .ok (.if_icmp .lt 5, 3) := by decide +kernel
theorem dX7_sign_23 : decode cX7_sign 23 = .ok (.iconst (-1), 1) := by decide +kernel
theorem dX7_sign_24 : decode cX7_sign 24 = .ok (.ireturn, 1) := by decide +kernel
theorem dX7_sign_25 : decode cX7_sign 25 = .ok (.iconst 1, 1) := by decide +kernel
theorem dX7_sign_26 : decode cX7_sign 26 = .ok (.iload_n 2, 1) := by decide +kernel
theorem dX7_sign_27 : decode cX7_sign 27 = .ok (.ishl, 1) := by decide +kernel
theorem dX7_sign_28 : decode cX7_sign 28 = .ok (.istore 4, 2) := by decide +kernel
theorem dX7_sign_30 : decode cX7_sign 30 = .ok (.aload_n 3, 1) := by decide +kernel
theorem dX7_sign_31 : decode cX7_sign 31 = .ok (.getfield 102, 3) := by decide +kernel
theorem dX7_sign_34 : decode cX7_sign 34 = .ok (.iload 4, 2) := by decide +kernel
theorem dX7_sign_36 : decode cX7_sign 36 = .ok (.iand, 1) := by decide +kernel
theorem dX7_sign_37 : decode cX7_sign 37 = .ok (.ifCond .eq 5, 3) := by decide +kernel
theorem dX7_sign_40 : decode cX7_sign 40 = .ok (.iconst 0, 1) := by decide +kernel
theorem dX7_sign_41 : decode cX7_sign 41 = .ok (.ireturn, 1) := by decide +kernel
theorem dX7_sign_42 : decode cX7_sign 42 = .ok (.aload_n 3, 1) := by decide +kernel
theorem dX7_sign_43 : decode cX7_sign 43 = .ok (.dup, 1) := by decide +kernel
theorem dX7_sign_44 : decode cX7_sign 44 = .ok (.getfield 102, 3) := by decide +kernel
theorem dX7_sign_47 : decode cX7_sign 47 = .ok (.iload 4, 2) := by decide +kernel
theorem dX7_sign_49 : decode cX7_sign 49 = .ok (.ior, 1) := by decide +kernel
theorem dX7_sign_50 : decode cX7_sign 50 = .ok (.putfield 102, 3) := by decide +kernel
theorem dX7_sign_53 : decode cX7_sign 53 = .ok (.iconst 1, 1) := by decide +kernel
theorem dX7_sign_54 : decode cX7_sign 54 = .ok (.ireturn, 1) := by decide +kernel
theorem dX7_term_0 : decode cX7_term 0 = .ok (.iload_n 1, 1) := by decide +kernel
theorem dX7_term_1 : decode cX7_term 1 = .ok (.ifCond .lt 26, 3) := by decide +kernel
theorem dX7_term_4 : decode cX7_term 4 = .ok (.iload_n 1, 1) := by decide +kernel
theorem dX7_term_5 : decode cX7_term 5 = .ok (.iconst 4, 1) := by decide +kernel
theorem dX7_term_6 : decode cX7_term 6 = .ok (.if_icmp .ge 21, 3) := by decide +kernel
theorem dX7_term_9 : decode cX7_term 9 = .ok (.iload_n 2, 1) := by decide +kernel
theorem dX7_term_10 : decode cX7_term 10 = .ok (.getstatic 105, 3) := by decide +kernel
theorem dX7_term_13 : decode cX7_term 13 = .ok (.iload_n 1, 1) := by decide +kernel
theorem dX7_term_14 : decode cX7_term 14 = .ok (.iaload, 1) := by decide +kernel
theorem dX7_term_15 : decode cX7_term 15 = .ok (.if_icmp .lt 12, 3) := by decide +kernel
theorem dX7_term_18 : decode cX7_term 18 = .ok (.iload_n 2, 1) := by decide +kernel
theorem dX7_term_19 : decode cX7_term 19 = .ok (.getstatic 108, 3) := by decide +kernel
theorem dX7_term_22 : decode cX7_term 22 = .ok (.iload_n 1, 1) := by decide +kernel
theorem dX7_term_23 : decode cX7_term 23 = .ok (.iaload, 1) := by decide +kernel
theorem dX7_term_24 : decode cX7_term 24 = .ok (.if_icmp .le 5, 3) := by decide +kernel
theorem dX7_term_27 : decode cX7_term 27 = .ok (.iconst (-1), 1) := by decide +kernel
theorem dX7_term_28 : decode cX7_term 28 = .ok (.ireturn, 1) := by decide +kernel
theorem dX7_term_29 : decode cX7_term 29 = .ok (.aload_n 0, 1) := by decide +kernel
theorem dX7_term_30 : decode cX7_term 30 = .ok (.getfield 28, 3) := by decide +kernel
theorem dX7_term_33 : decode cX7_term 33 = .ok (.iload_n 1, 1) := by decide +kernel
theorem dX7_term_34 : decode cX7_term 34 = .ok (.iaload, 1) := by decide +kernel
theorem dX7_term_35 : decode cX7_term 35 = .ok (.istore_n 3, 1) := by decide +kernel
theorem dX7_term_36 : decode cX7_term 36 = .ok (.aload_n 0, 1) := by decide +kernel
theorem dX7_term_37 : decode cX7_term 37 = .ok (.getfield 28, 3) := by decide +kernel
theorem dX7_term_40 : decode cX7_term 40 = .ok (.iload_n 1, 1) := by decide +kernel
theorem dX7_term_41 : decode cX7_term 41 = .ok (.iload_n 2, 1) := by decide +kernel
theorem dX7_term_42 : decode cX7_term 42 = .ok (.iastore, 1) := by decide +kernel
theorem dX7_term_43 : decode cX7_term 43 = .ok (.iload_n 3, 1) := by decide +kernel
theorem dX7_term_44 : decode cX7_term 44 = .ok (.ireturn, 1) := by decide +kernel
theorem dX7_digest_0 : decode cX7_digest 0 = .ok (.aload_n 0, 1) := by decide +kernel
theorem dX7_digest_1 : decode cX7_digest 1 = .ok (.getfield 24, 3) := by decide +kernel
theorem dX7_digest_4 : decode cX7_digest 4 = .ok (.iload_n 1, 1) := by decide +kernel
theorem dX7_digest_5 : decode cX7_digest 5 = .ok (.invokevirtual 98, 3) := by decide +kernel
theorem dX7_digest_8 : decode cX7_digest 8 = .ok (.astore_n 2, 1) := by decide +kernel
theorem dX7_digest_9 : decode cX7_digest 9 = .ok (.aload_n 2, 1) := by decide +kernel
theorem dX7_digest_10 : decode cX7_digest 10 = .ok (.ifnonnull 7, 3) := by decide +kernel
theorem dX7_digest_13 : decode cX7_digest 13 = .ok (.lconst 0, 1) := by decide +kernel
theorem dX7_digest_14 : decode cX7_digest 14 = .ok (.goto 7, 3) := by decide +kernel
theorem dX7_digest_17 : decode cX7_digest 17 = .ok (.aload_n 2, 1) := by decide +kernel
theorem dX7_digest_18 : decode cX7_digest 18 = .ok (.getfield 111, 3) := by decide +kernel
theorem dX7_digest_21 : decode cX7_digest 21 = .ok (.lreturn, 1) := by decide +kernel
theorem dX7_certified_0 : decode cX7_certified 0 = .ok (.aload_n 0, 1) := by decide +kernel
theorem dX7_certified_1 : decode cX7_certified 1 = .ok (.getfield 24, 3) := by decide +kernel
theorem dX7_certified_4 : decode cX7_certified 4 = .ok (.iload_n 1, 1) := by decide +kernel
theorem dX7_certified_5 : decode cX7_certified 5 = .ok (.invokevirtual 98, 3) := by decide +kernel
theorem dX7_certified_8 : decode cX7_certified 8 = .ok (.astore_n 2, 1) := by decide +kernel
theorem dX7_certified_9 : decode cX7_certified 9 = .ok (.aload_n 2, 1) := by decide +kernel
theorem dX7_certified_10 : decode cX7_certified 10 = .ok (.ifnonnull 5, 3) := by decide +kernel
theorem dX7_certified_13 : decode cX7_certified 13 = .ok (.iconst (-1), 1) := by decide +kernel
theorem dX7_certified_14 : decode cX7_certified 14 = .ok (.ireturn, 1) := by decide +kernel
theorem dX7_certified_15 : decode cX7_certified 15 = .ok (.aload_n 2, 1) := by decide +kernel
theorem dX7_certified_16 : decode cX7_certified 16 = .ok (.invokestatic 115, 3) := by decide +kernel
theorem dX7_certified_19 : decode cX7_certified 19 = .ok (.ifCond .eq 7, 3) := by decide +kernel
theorem dX7_certified_22 : decode cX7_certified 22 = .ok (.iconst 1, 1) := by decide +kernel
theorem dX7_certified_23 : decode cX7_certified 23 = .ok (.goto 4, 3) := by decide +kernel
theorem dX7_certified_26 : decode cX7_certified 26 = .ok (.iconst 0, 1) := by decide +kernel
theorem dX7_certified_27 : decode cX7_certified 27 = .ok (.ireturn, 1) := by decide +kernel
theorem dX7_overlaps_0 : decode cX7_overlaps 0 = .ok (.aload_n 0, 1) := by decide +kernel
theorem dX7_overlaps_1 : decode cX7_overlaps 1 = .ok (.getfield 24, 3) := by decide +kernel
theorem dX7_overlaps_4 : decode cX7_overlaps 4 = .ok (.iload_n 1, 1) := by decide +kernel
theorem dX7_overlaps_5 : decode cX7_overlaps 5 = .ok (.invokevirtual 98, 3) := by decide +kernel
theorem dX7_overlaps_8 : decode cX7_overlaps 8 = .ok (.astore_n 3, 1) := by decide +kernel
theorem dX7_overlaps_9 : decode cX7_overlaps 9 = .ok (.aload_n 0, 1) := by decide +kernel
theorem dX7_overlaps_10 : decode cX7_overlaps 10 = .ok (.iload_n 2, 1) := by decide +kernel
theorem dX7_overlaps_11 : decode cX7_overlaps 11 = .ok (.invokevirtual 74, 3) := by decide +kernel
theorem dX7_overlaps_14 : decode cX7_overlaps 14 = .ok (.astore 4, 2) := by decide +kernel
theorem dX7_overlaps_16 : decode cX7_overlaps 16 = .ok (.aload_n 3, 1) := by decide +kernel
theorem dX7_overlaps_17 : decode cX7_overlaps 17 = .ok (.ifnull 8, 3) := by decide +kernel
theorem dX7_overlaps_20 : decode cX7_overlaps 20 = .ok (.aload 4, 2) := by decide +kernel
theorem dX7_overlaps_22 : decode cX7_overlaps 22 = .ok (.ifnonnull 5, 3) := by decide +kernel
theorem dX7_overlaps_25 : decode cX7_overlaps 25 = .ok (.iconst (-1), 1) := by decide +kernel
theorem dX7_overlaps_26 : decode cX7_overlaps 26 = .ok (.ireturn, 1) := by decide +kernel
theorem dX7_overlaps_27 : decode cX7_overlaps 27 = .ok (.aload_n 0, 1) := by decide +kernel
theorem dX7_overlaps_28 : decode cX7_overlaps 28 = .ok (.aload_n 3, 1) := by decide +kernel
theorem dX7_overlaps_29 : decode cX7_overlaps 29 = .ok (.aload 4, 2) := by decide +kernel
theorem dX7_overlaps_31 : decode cX7_overlaps 31 = .ok (.invokevirtual 119, 3) := by decide +kernel
theorem dX7_overlaps_34 : decode cX7_overlaps 34 = .ok (.ifCond .eq 7, 3) := by decide +kernel
theorem dX7_overlaps_37 : decode cX7_overlaps 37 = .ok (.iconst 1, 1) := by decide +kernel
theorem dX7_overlaps_38 : decode cX7_overlaps 38 = .ok (.goto 4, 3) := by decide +kernel
theorem dX7_overlaps_41 : decode cX7_overlaps 41 = .ok (.iconst 0, 1) := by decide +kernel
theorem dX7_overlaps_42 : decode cX7_overlaps 42 = .ok (.ireturn, 1) := by decide +kernel
theorem dX7_start_0 : decode cX7_start 0 = .ok (.aload_n 0, 1) := by decide +kernel
theorem dX7_start_1 : decode cX7_start 1 = .ok (.iload_n 1, 1) := by decide +kernel
theorem dX7_start_2 : decode cX7_start 2 = .ok (.invokevirtual 123, 3) := by decide +kernel
theorem dX7_start_5 : decode cX7_start 5 = .ok (.astore_n 3, 1) := by decide +kernel
theorem dX7_start_6 : decode cX7_start 6 = .ok (.aload_n 0, 1) := by decide +kernel
theorem dX7_start_7 : decode cX7_start 7 = .ok (.getfield 24, 3) := by decide +kernel
theorem dX7_start_10 : decode cX7_start 10 = .ok (.iload_n 2, 1) := by decide +kernel
theorem dX7_start_11 : decode cX7_start 11 = .ok (.invokevirtual 98, 3) := by decide +kernel
theorem dX7_start_14 : decode cX7_start 14 = .ok (.astore 4, 2) := by decide +kernel
theorem dX7_start_16 : decode cX7_start 16 = .ok (.aload_n 3, 1) := by decide +kernel
theorem dX7_start_17 : decode cX7_start 17 = .ok (.ifnull 8, 3) := by decide +kernel
theorem dX7_start_20 : decode cX7_start 20 = .ok (.aload 4, 2) := by decide +kernel
theorem dX7_start_22 : decode cX7_start 22 = .ok (.ifnonnull 5, 3) := by decide +kernel
theorem dX7_start_25 : decode cX7_start 25 = .ok (.iconst (-1), 1) := by decide +kernel
theorem dX7_start_26 : decode cX7_start 26 = .ok (.ireturn, 1) := by decide +kernel
theorem dX7_start_27 : decode cX7_start 27 = .ok (.aload_n 3, 1) := by decide +kernel
theorem dX7_start_28 : decode cX7_start 28 = .ok (.aload 4, 2) := by decide +kernel
theorem dX7_start_30 : decode cX7_start 30 = .ok (.invokevirtual 127, 3) := by decide +kernel
theorem dX7_start_33 : decode cX7_start 33 = .ok (.iconst 1, 1) := by decide +kernel
theorem dX7_start_34 : decode cX7_start 34 = .ok (.ireturn, 1) := by decide +kernel
theorem dX7_follow_0 : decode cX7_follow 0 = .ok (.aload_n 0, 1) := by decide +kernel
theorem dX7_follow_1 : decode cX7_follow 1 = .ok (.iload_n 1, 1) := by decide +kernel
theorem dX7_follow_2 : decode cX7_follow 2 = .ok (.invokevirtual 123, 3) := by decide +kernel
theorem dX7_follow_5 : decode cX7_follow 5 = .ok (.astore_n 3, 1) := by decide +kernel
theorem dX7_follow_6 : decode cX7_follow 6 = .ok (.aload_n 0, 1) := by decide +kernel
theorem dX7_follow_7 : decode cX7_follow 7 = .ok (.getfield 24, 3) := by decide +kernel
theorem dX7_follow_10 : decode cX7_follow 10 = .ok (.iload_n 2, 1) := by decide +kernel
theorem dX7_follow_11 : decode cX7_follow 11 = .ok (.invokevirtual 98, 3) := by decide +kernel
theorem dX7_follow_14 : decode cX7_follow 14 = .ok (.astore 4, 2) := by decide +kernel
theorem dX7_follow_16 : decode cX7_follow 16 = .ok (.aload_n 3, 1) := by decide +kernel
theorem dX7_follow_17 : decode cX7_follow 17 = .ok (.ifnull 8, 3) := by decide +kernel
theorem dX7_follow_20 : decode cX7_follow 20 = .ok (.aload 4, 2) := by decide +kernel
theorem dX7_follow_22 : decode cX7_follow 22 = .ok (.ifnonnull 5, 3) := by decide +kernel
theorem dX7_follow_25 : decode cX7_follow 25 = .ok (.iconst (-1), 1) := by decide +kernel
theorem dX7_follow_26 : decode cX7_follow 26 = .ok (.ireturn, 1) := by decide +kernel
theorem dX7_follow_27 : decode cX7_follow 27 = .ok (.aload_n 3, 1) := by decide +kernel
theorem dX7_follow_28 : decode cX7_follow 28 = .ok (.invokevirtual 130, 3) := by decide +kernel
theorem dX7_follow_31 : decode cX7_follow 31 = .ok (.astore 5, 2) := by decide +kernel
theorem dX7_follow_33 : decode cX7_follow 33 = .ok (.aload 5, 2) := by decide +kernel
theorem dX7_follow_35 : decode cX7_follow 35 = .ok (.ifnonnull 6, 3) := by decide +kernel
theorem dX7_follow_38 : decode cX7_follow 38 = .ok (.bipush (-2), 2) := by decide +kernel
theorem dX7_follow_40 : decode cX7_follow 40 = .ok (.ireturn, 1) := by decide +kernel
theorem dX7_follow_41 : decode cX7_follow 41 = .ok (.aload_n 0, 1) := by decide +kernel
theorem dX7_follow_42 : decode cX7_follow 42 = .ok (.aload 5, 2) := by decide +kernel
theorem dX7_follow_44 : decode cX7_follow 44 = .ok (.aload 4, 2) := by decide +kernel
theorem dX7_follow_46 : decode cX7_follow 46 = .ok (.invokevirtual 134, 3) := by decide +kernel
theorem dX7_follow_49 : decode cX7_follow 49 = .ok (.istore 6, 2) := by decide +kernel
theorem dX7_follow_51 : decode cX7_follow 51 = .ok (.iload 6, 2) := by decide +kernel
theorem dX7_follow_53 : decode cX7_follow 53 = .ok (.ifCond .eq 15, 3) := by decide +kernel
theorem dX7_follow_56 : decode cX7_follow 56 = .ok (.aload_n 3, 1) := by decide +kernel
theorem dX7_follow_57 : decode cX7_follow 57 = .ok (.iload 6, 2) := by decide +kernel
theorem dX7_follow_59 : decode cX7_follow 59 = .ok (.aload 4, 2) := by decide +kernel
theorem dX7_follow_61 : decode cX7_follow 61 = .ok (.getfield 138, 3) := by decide +kernel
theorem dX7_follow_64 : decode cX7_follow 64 = .ok (.invokevirtual 141, 3) := by decide +kernel
theorem dX7_follow_67 : decode cX7_follow 67 = .ok (.ireturn, 1) := by decide +kernel
theorem dX7_follow_68 : decode cX7_follow 68 = .ok (.aload_n 3, 1) := by decide +kernel
theorem dX7_follow_69 : decode cX7_follow 69 = .ok (.aload 4, 2) := by decide +kernel
theorem dX7_follow_71 : decode cX7_follow 71 = .ok (.aload_n 0, 1) := by decide +kernel
theorem dX7_follow_72 : decode cX7_follow 72 = .ok (.getfield 28, 3) := by decide +kernel
theorem dX7_follow_75 : decode cX7_follow 75 = .ok (.iconst 3, 1) := by decide +kernel
theorem dX7_follow_76 : decode cX7_follow 76 = .ok (.iaload, 1) := by decide +kernel
theorem dX7_follow_77 : decode cX7_follow 77 = .ok (.invokevirtual 145, 3) := by decide +kernel
theorem dX7_follow_80 : decode cX7_follow 80 = .ok (.iconst 1, 1) := by decide +kernel
theorem dX7_follow_81 : decode cX7_follow 81 = .ok (.ireturn, 1) := by decide +kernel
theorem dX7_give_0 : decode cX7_give 0 = .ok (.aload_n 0, 1) := by decide +kernel
theorem dX7_give_1 : decode cX7_give 1 = .ok (.iload_n 1, 1) := by decide +kernel
theorem dX7_give_2 : decode cX7_give 2 = .ok (.invokevirtual 149, 3) := by decide +kernel
theorem dX7_give_5 : decode cX7_give 5 = .ok (.astore_n 3, 1) := by decide +kernel
theorem dX7_give_6 : decode cX7_give 6 = .ok (.aload_n 0, 1) := by decide +kernel
theorem dX7_give_7 : decode cX7_give 7 = .ok (.getfield 24, 3) := by decide +kernel
theorem dX7_give_10 : decode cX7_give 10 = .ok (.iload_n 2, 1) := by decide +kernel
theorem dX7_give_11 : decode cX7_give 11 = .ok (.invokevirtual 98, 3) := by decide +kernel
theorem dX7_give_14 : decode cX7_give 14 = .ok (.astore 4, 2) := by decide +kernel
theorem dX7_give_16 : decode cX7_give 16 = .ok (.aload_n 3, 1) := by decide +kernel
theorem dX7_give_17 : decode cX7_give 17 = .ok (.ifnull 8, 3) := by decide +kernel
theorem dX7_give_20 : decode cX7_give 20 = .ok (.aload 4, 2) := by decide +kernel
theorem dX7_give_22 : decode cX7_give 22 = .ok (.ifnonnull 5, 3) := by decide +kernel
theorem dX7_give_25 : decode cX7_give 25 = .ok (.iconst (-1), 1) := by decide +kernel
theorem dX7_give_26 : decode cX7_give 26 = .ok (.ireturn, 1) := by decide +kernel
theorem dX7_give_27 : decode cX7_give 27 = .ok (.aload_n 3, 1) := by decide +kernel
theorem dX7_give_28 : decode cX7_give 28 = .ok (.aload 4, 2) := by decide +kernel
theorem dX7_give_30 : decode cX7_give 30 = .ok (.invokevirtual 153, 3) := by decide +kernel
theorem dX7_give_33 : decode cX7_give 33 = .ok (.astore 5, 2) := by decide +kernel
theorem dX7_give_35 : decode cX7_give 35 = .ok (.aload 5, 2) := by decide +kernel
theorem dX7_give_37 : decode cX7_give 37 = .ok (.ifnonnull 8, 3) := by decide +kernel
theorem dX7_give_40 : decode cX7_give 40 = .ok (.bipush (-2), 2) := by decide +kernel
theorem dX7_give_42 : decode cX7_give 42 = .ok (.goto 8, 3) := by decide +kernel
theorem dX7_give_45 : decode cX7_give 45 = .ok (.aload 5, 2) := by decide +kernel
theorem dX7_give_47 : decode cX7_give 47 = .ok (.getfield 157, 3) := by decide +kernel
theorem dX7_give_50 : decode cX7_give 50 = .ok (.ireturn, 1) := by decide +kernel
theorem dX7_seek_0 : decode cX7_seek 0 = .ok (.aload_n 0, 1) := by decide +kernel
theorem dX7_seek_1 : decode cX7_seek 1 = .ok (.iload_n 1, 1) := by decide +kernel
theorem dX7_seek_2 : decode cX7_seek 2 = .ok (.invokevirtual 123, 3) := by decide +kernel
theorem dX7_seek_5 : decode cX7_seek 5 = .ok (.astore 4, 2) := by decide +kernel
theorem dX7_seek_7 : decode cX7_seek 7 = .ok (.aload_n 0, 1) := by decide +kernel
theorem dX7_seek_8 : decode cX7_seek 8 = .ok (.iload_n 2, 1) := by decide +kernel
theorem dX7_seek_9 : decode cX7_seek 9 = .ok (.invokevirtual 149, 3) := by decide +kernel
theorem dX7_seek_12 : decode cX7_seek 12 = .ok (.astore 5, 2) := by decide +kernel
theorem dX7_seek_14 : decode cX7_seek 14 = .ok (.aload 4, 2) := by decide +kernel
theorem dX7_seek_16 : decode cX7_seek 16 = .ok (.ifnull 15, 3) := by decide +kernel
theorem dX7_seek_19 : decode cX7_seek 19 = .ok (.aload 5, 2) := by decide +kernel
theorem dX7_seek_21 : decode cX7_seek 21 = .ok (.ifnull 10, 3) := by decide +kernel
theorem dX7_seek_24 : decode cX7_seek 24 = .ok (.iload_n 3, 1) := by decide +kernel
theorem dX7_seek_25 : decode cX7_seek 25 = .ok (.invokestatic 78, 3) := by decide +kernel
theorem dX7_seek_28 : decode cX7_seek 28 = .ok (.ifCond .ne 5, 3) := by decide +kernel
theorem dX7_seek_31 : decode cX7_seek 31 = .ok (.iconst (-1), 1) := by decide +kernel
theorem dX7_seek_32 : decode cX7_seek 32 = .ok (.ireturn, 1) := by decide +kernel
theorem dX7_seek_33 : decode cX7_seek 33 = .ok (.aload 4, 2) := by decide +kernel
theorem dX7_seek_35 : decode cX7_seek 35 = .ok (.invokevirtual 130, 3) := by decide +kernel
theorem dX7_seek_38 : decode cX7_seek 38 = .ok (.ifnonnull 6, 3) := by decide +kernel
theorem dX7_seek_41 : decode cX7_seek 41 = .ok (.bipush (-2), 2) := by decide +kernel
theorem dX7_seek_43 : decode cX7_seek 43 = .ok (.ireturn, 1) := by decide +kernel
theorem dX7_seek_44 : decode cX7_seek 44 = .ok (.aload_n 0, 1) := by decide +kernel
theorem dX7_seek_45 : decode cX7_seek 45 = .ok (.aload 4, 2) := by decide +kernel
theorem dX7_seek_47 : decode cX7_seek 47 = .ok (.aload 5, 2) := by decide +kernel
theorem dX7_seek_49 : decode cX7_seek 49 = .ok (.iload_n 3, 1) := by decide +kernel
theorem dX7_seek_50 : decode cX7_seek 50 = .ok (.invokevirtual 160, 3) := by decide +kernel
theorem dX7_seek_53 : decode cX7_seek 53 = .ok (.ireturn, 1) := by decide +kernel
theorem dX7_stored_0 : decode cX7_stored 0 = .ok (.aload_n 0, 1) := by decide +kernel
theorem dX7_stored_1 : decode cX7_stored 1 = .ok (.iload_n 1, 1) := by decide +kernel
theorem dX7_stored_2 : decode cX7_stored 2 = .ok (.invokevirtual 123, 3) := by decide +kernel
theorem dX7_stored_5 : decode cX7_stored 5 = .ok (.astore_n 3, 1) := by decide +kernel
theorem dX7_stored_6 : decode cX7_stored 6 = .ok (.aload_n 3, 1) := by decide +kernel
theorem dX7_stored_7 : decode cX7_stored 7 = .ok (.ifnull 8, 3) := by decide +kernel
theorem dX7_stored_10 : decode cX7_stored 10 = .ok (.iload_n 2, 1) := by decide +kernel
theorem dX7_stored_11 : decode cX7_stored 11 = .ok (.iconst (-1), 1) := by decide +kernel
theorem dX7_stored_12 : decode cX7_stored 12 = .ok (.if_icmp .ge 5, 3) := by decide +kernel
theorem dX7_stored_15 : decode cX7_stored 15 = .ok (.iconst (-1), 1) := by decide +kernel
theorem dX7_stored_16 : decode cX7_stored 16 = .ok (.ireturn, 1) := by decide +kernel
theorem dX7_stored_17 : decode cX7_stored 17 = .ok (.iload_n 2, 1) := by decide +kernel
theorem dX7_stored_18 : decode cX7_stored 18 = .ok (.iconst (-1), 1) := by decide +kernel
theorem dX7_stored_19 : decode cX7_stored 19 = .ok (.if_icmp .ne 11, 3) := by decide +kernel
theorem dX7_stored_22 : decode cX7_stored 22 = .ok (.aload_n 3, 1) := by decide +kernel
theorem dX7_stored_23 : decode cX7_stored 23 = .ok (.getfield 164, 3) := by decide +kernel
theorem dX7_stored_26 : decode cX7_stored 26 = .ok (.getfield 86, 3) := by decide +kernel
theorem dX7_stored_29 : decode cX7_stored 29 = .ok (.ireturn, 1) := by decide +kernel
theorem dX7_stored_30 : decode cX7_stored 30 = .ok (.aload_n 3, 1) := by decide +kernel
theorem dX7_stored_31 : decode cX7_stored 31 = .ok (.getfield 164, 3) := by decide +kernel
theorem dX7_stored_34 : decode cX7_stored 34 = .ok (.iload_n 2, 1) := by decide +kernel
theorem dX7_stored_35 : decode cX7_stored 35 = .ok (.invokevirtual 98, 3) := by decide +kernel
theorem dX7_stored_38 : decode cX7_stored 38 = .ok (.astore 4, 2) := by decide +kernel
theorem dX7_stored_40 : decode cX7_stored 40 = .ok (.aload 4, 2) := by decide +kernel
theorem dX7_stored_42 : decode cX7_stored 42 = .ok (.ifnonnull 8, 3) := by decide +kernel
theorem dX7_stored_45 : decode cX7_stored 45 = .ok (.bipush (-2), 2) := by decide +kernel
theorem dX7_stored_47 : decode cX7_stored 47 = .ok (.goto 8, 3) := by decide +kernel
theorem dX7_stored_50 : decode cX7_stored 50 = .ok (.aload 4, 2) := by decide +kernel
theorem dX7_stored_52 : decode cX7_stored 52 = .ok (.getfield 157, 3) := by decide +kernel
theorem dX7_stored_55 : decode cX7_stored 55 = .ok (.ireturn, 1) := by decide +kernel
theorem dX7_client_0 : decode cX7_client 0 = .ok (.aload_n 0, 1) := by decide +kernel
theorem dX7_client_1 : decode cX7_client 1 = .ok (.iload_n 1, 1) := by decide +kernel
theorem dX7_client_2 : decode cX7_client 2 = .ok (.invokevirtual 123, 3) := by decide +kernel
theorem dX7_client_5 : decode cX7_client 5 = .ok (.astore_n 3, 1) := by decide +kernel
theorem dX7_client_6 : decode cX7_client 6 = .ok (.aload_n 3, 1) := by decide +kernel
theorem dX7_client_7 : decode cX7_client 7 = .ok (.ifnull 12, 3) := by decide +kernel
theorem dX7_client_10 : decode cX7_client 10 = .ok (.iload_n 2, 1) := by decide +kernel
theorem dX7_client_11 : decode cX7_client 11 = .ok (.ifCond .lt 8, 3) := by decide +kernel
theorem dX7_client_14 : decode cX7_client 14 = .ok (.iload_n 2, 1) := by decide +kernel
theorem dX7_client_15 : decode cX7_client 15 = .ok (.iconst 2, 1) := by decide +kernel
theorem dX7_client_16 : decode cX7_client 16 = .ok (.if_icmp .le 5, 3) := by decide +kernel
theorem dX7_client_19 : decode cX7_client 19 = .ok (.iconst (-1), 1) := by decide +kernel
theorem dX7_client_20 : decode cX7_client 20 = .ok (.ireturn, 1) := by decide +kernel
theorem dX7_client_21 : decode cX7_client 21 = .ok (.iload_n 2, 1) := by decide +kernel
theorem dX7_client_22 : decode cX7_client 22 = .ok (.ifCond .ne 8, 3) := by decide +kernel
theorem dX7_client_25 : decode cX7_client 25 = .ok (.aload_n 3, 1) := by decide +kernel
theorem dX7_client_26 : decode cX7_client 26 = .ok (.getfield 167, 3) := by decide +kernel
theorem dX7_client_29 : decode cX7_client 29 = .ok (.ireturn, 1) := by decide +kernel
theorem dX7_client_30 : decode cX7_client 30 = .ok (.iload_n 2, 1) := by decide +kernel
theorem dX7_client_31 : decode cX7_client 31 = .ok (.iconst 1, 1) := by decide +kernel
theorem dX7_client_32 : decode cX7_client 32 = .ok (.if_icmp .ne 10, 3) := by decide +kernel
theorem dX7_client_35 : decode cX7_client 35 = .ok (.aload_n 3, 1) := by decide +kernel
theorem dX7_client_36 : decode cX7_client 36 = .ok (.getfield 170, 3) := by decide +kernel
theorem dX7_client_39 : decode cX7_client 39 = .ok (.goto 7, 3) := by decide +kernel
theorem dX7_client_42 : decode cX7_client 42 = .ok (.aload_n 3, 1) := by decide +kernel
theorem dX7_client_43 : decode cX7_client 43 = .ok (.getfield 173, 3) := by decide +kernel
theorem dX7_client_46 : decode cX7_client 46 = .ok (.ireturn, 1) := by decide +kernel
theorem dX7_compare_0 : decode cX7_compare 0 = .ok (.aload_n 0, 1) := by decide +kernel
theorem dX7_compare_1 : decode cX7_compare 1 = .ok (.iload_n 1, 1) := by decide +kernel
theorem dX7_compare_2 : decode cX7_compare 2 = .ok (.invokevirtual 149, 3) := by decide +kernel
theorem dX7_compare_5 : decode cX7_compare 5 = .ok (.astore_n 3, 1) := by decide +kernel
theorem dX7_compare_6 : decode cX7_compare 6 = .ok (.aload_n 0, 1) := by decide +kernel
theorem dX7_compare_7 : decode cX7_compare 7 = .ok (.iload_n 2, 1) := by decide +kernel
theorem dX7_compare_8 : decode cX7_compare 8 = .ok (.invokevirtual 149, 3) := by decide +kernel
theorem dX7_compare_11 : decode cX7_compare 11 = .ok (.astore 4, 2) := by decide +kernel
theorem dX7_compare_13 : decode cX7_compare 13 = .ok (.aload_n 3, 1) := by decide +kernel
theorem dX7_compare_14 : decode cX7_compare 14 = .ok (.ifnull 8, 3) := by decide +kernel
theorem dX7_compare_17 : decode cX7_compare 17 = .ok (.aload 4, 2) := by decide +kernel
theorem dX7_compare_19 : decode cX7_compare 19 = .ok (.ifnonnull 5, 3) := by decide +kernel
theorem dX7_compare_22 : decode cX7_compare 22 = .ok (.iconst (-1), 1) := by decide +kernel
theorem dX7_compare_23 : decode cX7_compare 23 = .ok (.ireturn, 1) := by decide +kernel
theorem dX7_compare_24 : decode cX7_compare 24 = .ok (.aload_n 3, 1) := by decide +kernel
theorem dX7_compare_25 : decode cX7_compare 25 = .ok (.aload 4, 2) := by decide +kernel
theorem dX7_compare_27 : decode cX7_compare 27 = .ok (.invokevirtual 176, 3) := by decide +kernel
theorem dX7_compare_30 : decode cX7_compare 30 = .ok (.ireturn, 1) := by decide +kernel
theorem dX7_blame_0 : decode cX7_blame 0 = .ok (.aload_n 0, 1) := by decide +kernel
theorem dX7_blame_1 : decode cX7_blame 1 = .ok (.iload_n 1, 1) := by decide +kernel
theorem dX7_blame_2 : decode cX7_blame 2 = .ok (.invokevirtual 123, 3) := by decide +kernel
theorem dX7_blame_5 : decode cX7_blame 5 = .ok (.astore 4, 2) := by decide +kernel
theorem dX7_blame_7 : decode cX7_blame 7 = .ok (.aload_n 0, 1) := by decide +kernel
theorem dX7_blame_8 : decode cX7_blame 8 = .ok (.iload_n 2, 1) := by decide +kernel
theorem dX7_blame_9 : decode cX7_blame 9 = .ok (.invokevirtual 149, 3) := by decide +kernel
theorem dX7_blame_12 : decode cX7_blame 12 = .ok (.astore 5, 2) := by decide +kernel
theorem dX7_blame_14 : decode cX7_blame 14 = .ok (.aload_n 0, 1) := by decide +kernel
theorem dX7_blame_15 : decode cX7_blame 15 = .ok (.iload_n 3, 1) := by decide +kernel
theorem dX7_blame_16 : decode cX7_blame 16 = .ok (.invokevirtual 149, 3) := by decide +kernel
theorem dX7_blame_19 : decode cX7_blame 19 = .ok (.astore 6, 2) := by decide +kernel
theorem dX7_blame_21 : decode cX7_blame 21 = .ok (.aload 4, 2) := by decide +kernel
theorem dX7_blame_23 : decode cX7_blame 23 = .ok (.ifnull 13, 3) := by decide +kernel
theorem dX7_blame_26 : decode cX7_blame 26 = .ok (.aload 5, 2) := by decide +kernel
theorem dX7_blame_28 : decode cX7_blame 28 = .ok (.ifnull 8, 3) := by decide +kernel
theorem dX7_blame_31 : decode cX7_blame 31 = .ok (.aload 6, 2) := by decide +kernel
theorem dX7_blame_33 : decode cX7_blame 33 = .ok (.ifnonnull 5, 3) := by decide +kernel
theorem dX7_blame_36 : decode cX7_blame 36 = .ok (.iconst (-1), 1) := by decide +kernel
theorem dX7_blame_37 : decode cX7_blame 37 = .ok (.ireturn, 1) := by decide +kernel
theorem dX7_blame_38 : decode cX7_blame 38 = .ok (.aload 5, 2) := by decide +kernel
theorem dX7_blame_40 : decode cX7_blame 40 = .ok (.aload 6, 2) := by decide +kernel
theorem dX7_blame_42 : decode cX7_blame 42 = .ok (.invokevirtual 176, 3) := by decide +kernel
theorem dX7_blame_45 : decode cX7_blame 45 = .ok (.istore 7, 2) := by decide +kernel
theorem dX7_blame_47 : decode cX7_blame 47 = .ok (.iload 7, 2) := by decide +kernel
theorem dX7_blame_49 : decode cX7_blame 49 = .ok (.bipush (-2), 2) := by decide +kernel
theorem dX7_blame_51 : decode cX7_blame 51 = .ok (.if_icmp .ne 6, 3) := by decide +kernel
theorem dX7_blame_54 : decode cX7_blame 54 = .ok (.bipush (-2), 2) := by decide +kernel
theorem dX7_blame_56 : decode cX7_blame 56 = .ok (.ireturn, 1) := by decide +kernel
theorem dX7_blame_57 : decode cX7_blame 57 = .ok (.aload 4, 2) := by decide +kernel
theorem dX7_blame_59 : decode cX7_blame 59 = .ok (.iload 7, 2) := by decide +kernel
theorem dX7_blame_61 : decode cX7_blame 61 = .ok (.invokevirtual 180, 3) := by decide +kernel
theorem dX7_blame_64 : decode cX7_blame 64 = .ok (.astore 8, 2) := by decide +kernel
theorem dX7_blame_66 : decode cX7_blame 66 = .ok (.aload 8, 2) := by decide +kernel
theorem dX7_blame_68 : decode cX7_blame 68 = .ok (.ifnonnull 6, 3) := by decide +kernel
theorem dX7_blame_71 : decode cX7_blame 71 = .ok (.bipush (-2), 2) := by decide +kernel
theorem dX7_blame_73 : decode cX7_blame 73 = .ok (.ireturn, 1) := by decide +kernel
theorem dX7_blame_74 : decode cX7_blame 74 = .ok (.aload_n 0, 1) := by decide +kernel
theorem dX7_blame_75 : decode cX7_blame 75 = .ok (.aload 8, 2) := by decide +kernel
theorem dX7_blame_77 : decode cX7_blame 77 = .ok (.aload 5, 2) := by decide +kernel
theorem dX7_blame_79 : decode cX7_blame 79 = .ok (.iload 7, 2) := by decide +kernel
theorem dX7_blame_81 : decode cX7_blame 81 = .ok (.invokevirtual 183, 3) := by decide +kernel
theorem dX7_blame_84 : decode cX7_blame 84 = .ok (.invokevirtual 134, 3) := by decide +kernel
theorem dX7_blame_87 : decode cX7_blame 87 = .ok (.ifCond .ne 7, 3) := by decide +kernel
theorem dX7_blame_90 : decode cX7_blame 90 = .ok (.iconst 1, 1) := by decide +kernel
theorem dX7_blame_91 : decode cX7_blame 91 = .ok (.goto 4, 3) := by decide +kernel
theorem dX7_blame_94 : decode cX7_blame 94 = .ok (.iconst 0, 1) := by decide +kernel
theorem dX7_blame_95 : decode cX7_blame 95 = .ok (.istore 9, 2) := by decide +kernel
theorem dX7_blame_97 : decode cX7_blame 97 = .ok (.aload_n 0, 1) := by decide +kernel
theorem dX7_blame_98 : decode cX7_blame 98 = .ok (.aload 8, 2) := by decide +kernel
theorem dX7_blame_100 : decode cX7_blame 100 = .ok (.aload 6, 2) := by decide +kernel
theorem dX7_blame_102 : decode cX7_blame 102 = .ok (.iload 7, 2) := by decide +kernel
theorem dX7_blame_104 : decode cX7_blame 104 = .ok (.invokevirtual 183, 3) := by decide +kernel
theorem dX7_blame_107 : decode cX7_blame 107 = .ok (.invokevirtual 134, 3) := by decide +kernel
theorem dX7_blame_110 : decode cX7_blame 110 = .ok (.ifCond .ne 10, 3) := by decide +kernel
theorem dX7_blame_113 : decode cX7_blame 113 = .ok (.iload 9, 2) := by decide +kernel
theorem dX7_blame_115 : decode cX7_blame 115 = .ok (.iconst 2, 1) := by decide +kernel
theorem dX7_blame_116 : decode cX7_blame 116 = .ok (.iadd, 1) := by decide +kernel
theorem dX7_blame_117 : decode cX7_blame 117 = .ok (.goto 5, 3) := by decide +kernel
theorem dX7_blame_120 : decode cX7_blame 120 = .ok (.iload 9, 2) := by decide +kernel
theorem dX7_blame_122 : decode cX7_blame 122 = .ok (.ireturn, 1) := by decide +kernel
theorem dX7_leaf_0 : decode cX7_leaf 0 = .ok (.aload_n 0, 1) := by decide +kernel
theorem dX7_leaf_1 : decode cX7_leaf 1 = .ok (.getfield 50, 3) := by decide +kernel
theorem dX7_leaf_4 : decode cX7_leaf 4 = .ok (.iload_n 1, 1) := by decide +kernel
theorem dX7_leaf_5 : decode cX7_leaf 5 = .ok (.lload_n 2, 1) := by decide +kernel
theorem dX7_leaf_6 : decode cX7_leaf 6 = .ok (.invokevirtual 186, 3) := by decide +kernel
theorem dX7_leaf_9 : decode cX7_leaf 9 = .ok (.lreturn, 1) := by decide +kernel
theorem dX7_tree_0 : decode cX7_tree 0 = .ok (.aload_n 0, 1) := by decide +kernel
theorem dX7_tree_1 : decode cX7_tree 1 = .ok (.getfield 50, 3) := by decide +kernel
theorem dX7_tree_4 : decode cX7_tree 4 = .ok (.iload_n 1, 1) := by decide +kernel
theorem dX7_tree_5 : decode cX7_tree 5 = .ok (.invokevirtual 190, 3) := by decide +kernel
theorem dX7_tree_8 : decode cX7_tree 8 = .ok (.lreturn, 1) := by decide +kernel
theorem dX7_prove_0 : decode cX7_prove 0 = .ok (.iload_n 1, 1) := by decide +kernel
theorem dX7_prove_1 : decode cX7_prove 1 = .ok (.invokestatic 194, 3) := by decide +kernel
theorem dX7_prove_4 : decode cX7_prove 4 = .ok (.ifCond .eq 15, 3) := by decide +kernel
theorem dX7_prove_7 : decode cX7_prove 7 = .ok (.iload_n 2, 1) := by decide +kernel
theorem dX7_prove_8 : decode cX7_prove 8 = .ok (.invokestatic 194, 3) := by decide +kernel
theorem dX7_prove_11 : decode cX7_prove 11 = .ok (.ifCond .eq 8, 3) := by decide +kernel
theorem dX7_prove_14 : decode cX7_prove 14 = .ok (.iload_n 1, 1) := by decide +kernel
theorem dX7_prove_15 : decode cX7_prove 15 = .ok (.iload_n 2, 1) := by decide +kernel
theorem dX7_prove_16 : decode cX7_prove 16 = .ok (.if_icmp .ne 5, 3) := by decide +kernel
theorem dX7_prove_19 : decode cX7_prove 19 = .ok (.iconst (-1), 1) := by decide +kernel
theorem dX7_prove_20 : decode cX7_prove 20 = .ok (.ireturn, 1) := by decide +kernel
theorem dX7_prove_21 : decode cX7_prove 21 = .ok (.aload_n 0, 1) := by decide +kernel
theorem dX7_prove_22 : decode cX7_prove 22 = .ok (.getfield 57, 3) := by decide +kernel
theorem dX7_prove_25 : decode cX7_prove 25 = .ok (.aload_n 0, 1) := by decide +kernel
theorem dX7_prove_26 : decode cX7_prove 26 = .ok (.getfield 50, 3) := by decide +kernel
theorem dX7_prove_29 : decode cX7_prove 29 = .ok (.iload_n 1, 1) := by decide +kernel
theorem dX7_prove_30 : decode cX7_prove 30 = .ok (.iload_n 2, 1) := by decide +kernel
theorem dX7_prove_31 : decode cX7_prove 31 = .ok (.invokevirtual 63, 3) := by decide +kernel
theorem dX7_prove_34 : decode cX7_prove 34 = .ok (.aload_n 0, 1) := by decide +kernel
theorem dX7_prove_35 : decode cX7_prove 35 = .ok (.getfield 57, 3) := by decide +kernel
theorem dX7_prove_38 : decode cX7_prove 38 = .ok (.getfield 197, 3) := by decide +kernel
theorem dX7_prove_41 : decode cX7_prove 41 = .ok (.ireturn, 1) := by decide +kernel
theorem dX7_proof_0 : decode cX7_proof 0 = .ok (.aload_n 0, 1) := by decide +kernel
theorem dX7_proof_1 : decode cX7_proof 1 = .ok (.getfield 57, 3) := by decide +kernel
theorem dX7_proof_4 : decode cX7_proof 4 = .ok (.iload_n 1, 1) := by decide +kernel
theorem dX7_proof_5 : decode cX7_proof 5 = .ok (.invokevirtual 200, 3) := by decide +kernel
theorem dX7_proof_8 : decode cX7_proof 8 = .ok (.lreturn, 1) := by decide +kernel
theorem dX7_alter_0 : decode cX7_alter 0 = .ok (.aload_n 0, 1) := by decide +kernel
theorem dX7_alter_1 : decode cX7_alter 1 = .ok (.getfield 57, 3) := by decide +kernel
theorem dX7_alter_4 : decode cX7_alter 4 = .ok (.iload_n 1, 1) := by decide +kernel
theorem dX7_alter_5 : decode cX7_alter 5 = .ok (.lload_n 2, 1) := by decide +kernel
theorem dX7_alter_6 : decode cX7_alter 6 = .ok (.invokevirtual 203, 3) := by decide +kernel
theorem dX7_alter_9 : decode cX7_alter 9 = .ok (.ifCond .eq 7, 3) := by decide +kernel
theorem dX7_alter_12 : decode cX7_alter 12 = .ok (.iconst 1, 1) := by decide +kernel
theorem dX7_alter_13 : decode cX7_alter 13 = .ok (.goto 4, 3) := by decide +kernel
theorem dX7_alter_16 : decode cX7_alter 16 = .ok (.iconst (-1), 1) := by decide +kernel
theorem dX7_alter_17 : decode cX7_alter 17 = .ok (.ireturn, 1) := by decide +kernel
theorem dX7_fraud_0 : decode cX7_fraud 0 = .ok (.aload_n 0, 1) := by decide +kernel
theorem dX7_fraud_1 : decode cX7_fraud 1 = .ok (.getfield 24, 3) := by decide +kernel
theorem dX7_fraud_4 : decode cX7_fraud 4 = .ok (.iload_n 1, 1) := by decide +kernel
theorem dX7_fraud_5 : decode cX7_fraud 5 = .ok (.invokevirtual 98, 3) := by decide +kernel
theorem dX7_fraud_8 : decode cX7_fraud 8 = .ok (.astore 5, 2) := by decide +kernel
theorem dX7_fraud_10 : decode cX7_fraud 10 = .ok (.aload_n 0, 1) := by decide +kernel
theorem dX7_fraud_11 : decode cX7_fraud 11 = .ok (.getfield 24, 3) := by decide +kernel
theorem dX7_fraud_14 : decode cX7_fraud 14 = .ok (.iload_n 2, 1) := by decide +kernel
theorem dX7_fraud_15 : decode cX7_fraud 15 = .ok (.invokevirtual 98, 3) := by decide +kernel
theorem dX7_fraud_18 : decode cX7_fraud 18 = .ok (.astore 6, 2) := by decide +kernel
theorem dX7_fraud_20 : decode cX7_fraud 20 = .ok (.aload 5, 2) := by decide +kernel
theorem dX7_fraud_22 : decode cX7_fraud 22 = .ok (.ifnull 14, 3) := by decide +kernel
theorem dX7_fraud_25 : decode cX7_fraud 25 = .ok (.aload 6, 2) := by decide +kernel
theorem dX7_fraud_27 : decode cX7_fraud 27 = .ok (.ifnull 9, 3) := by decide +kernel
theorem dX7_fraud_30 : decode cX7_fraud 30 = .ok (.lload_n 3, 1) := by decide +kernel
theorem dX7_fraud_31 : decode cX7_fraud 31 = .ok (.lconst 0, 1) := by decide +kernel
theorem dX7_fraud_32 : decode cX7_fraud 32 = .ok (.lcmp, 1) := by decide +kernel
theorem dX7_fraud_33 : decode cX7_fraud 33 = .ok (.ifCond .gt 5, 3) := by decide +kernel
theorem dX7_fraud_36 : decode cX7_fraud 36 = .ok (.iconst (-1), 1) := by decide +kernel
theorem dX7_fraud_37 : decode cX7_fraud 37 = .ok (.ireturn, 1) := by decide +kernel
theorem dX7_fraud_38 : decode cX7_fraud 38 = .ok (.aload_n 0, 1) := by decide +kernel
theorem dX7_fraud_39 : decode cX7_fraud 39 = .ok (.getfield 57, 3) := by decide +kernel
theorem dX7_fraud_42 : decode cX7_fraud 42 = .ok (.invokevirtual 206, 3) := by decide +kernel
theorem dX7_fraud_45 : decode cX7_fraud 45 = .ok (.aload 5, 2) := by decide +kernel
theorem dX7_fraud_47 : decode cX7_fraud 47 = .ok (.getfield 210, 3) := by decide +kernel
theorem dX7_fraud_50 : decode cX7_fraud 50 = .ok (.lcmp, 1) := by decide +kernel
theorem dX7_fraud_51 : decode cX7_fraud 51 = .ok (.ifCond .eq 6, 3) := by decide +kernel
theorem dX7_fraud_54 : decode cX7_fraud 54 = .ok (.bipush (-2), 2) := by decide +kernel
theorem dX7_fraud_56 : decode cX7_fraud 56 = .ok (.ireturn, 1) := by decide +kernel
theorem dX7_fraud_57 : decode cX7_fraud 57 = .ok (.aload_n 0, 1) := by decide +kernel
theorem dX7_fraud_58 : decode cX7_fraud 58 = .ok (.getfield 57, 3) := by decide +kernel
theorem dX7_fraud_61 : decode cX7_fraud 61 = .ok (.lload_n 3, 1) := by decide +kernel
theorem dX7_fraud_62 : decode cX7_fraud 62 = .ok (.invokevirtual 213, 3) := by decide +kernel
theorem dX7_fraud_65 : decode cX7_fraud 65 = .ok (.aload 6, 2) := by decide +kernel
theorem dX7_fraud_67 : decode cX7_fraud 67 = .ok (.getfield 210, 3) := by decide +kernel
theorem dX7_fraud_70 : decode cX7_fraud 70 = .ok (.lcmp, 1) := by decide +kernel
theorem dX7_fraud_71 : decode cX7_fraud 71 = .ok (.ifCond .eq 7, 3) := by decide +kernel
theorem dX7_fraud_74 : decode cX7_fraud 74 = .ok (.iconst 1, 1) := by decide +kernel
theorem dX7_fraud_75 : decode cX7_fraud 75 = .ok (.goto 4, 3) := by decide +kernel
theorem dX7_fraud_78 : decode cX7_fraud 78 = .ok (.iconst 0, 1) := by decide +kernel
theorem dX7_fraud_79 : decode cX7_fraud 79 = .ok (.ireturn, 1) := by decide +kernel
theorem dX7_chance_0 : decode cX7_chance 0 = .ok (.iload_n 1, 1) := by decide +kernel
theorem dX7_chance_1 : decode cX7_chance 1 = .ok (.iload_n 2, 1) := by decide +kernel
theorem dX7_chance_2 : decode cX7_chance 2 = .ok (.invokestatic 217, 3) := by decide +kernel
theorem dX7_chance_5 : decode cX7_chance 5 = .ok (.ifCond .eq 23, 3) := by decide +kernel
theorem dX7_chance_8 : decode cX7_chance 8 = .ok (.iload_n 3, 1) := by decide +kernel
theorem dX7_chance_9 : decode cX7_chance 9 = .ok (.ifCond .lt 19, 3) := by decide +kernel
theorem dX7_chance_12 : decode cX7_chance 12 = .ok (.iload_n 3, 1) := by decide +kernel
theorem dX7_chance_13 : decode cX7_chance 13 = .ok (.iload_n 1, 1) := by decide +kernel
theorem dX7_chance_14 : decode cX7_chance 14 = .ok (.if_icmp .gt 14, 3) := by decide +kernel
theorem dX7_chance_17 : decode cX7_chance 17 = .ok (.iload 4, 2) := by decide +kernel
theorem dX7_chance_19 : decode cX7_chance 19 = .ok (.ifCond .lt 9, 3) := by decide +kernel
theorem dX7_chance_22 : decode cX7_chance 22 = .ok (.iload 4, 2) := by decide +kernel
theorem dX7_chance_24 : decode cX7_chance 24 = .ok (.iconst 1, 1) := by decide +kernel
theorem dX7_chance_25 : decode cX7_chance 25 = .ok (.if_icmp .le 7, 3) := by decide +kernel
theorem dX7_chance_28 : decode cX7_chance 28 = .ok (.ldc2_w 221, 3) := by decide +kernel
theorem dX7_chance_31 : decode cX7_chance 31 = .ok (.lreturn, 1) := by decide +kernel
theorem dX7_chance_32 : decode cX7_chance 32 = .ok (.iload_n 1, 1) := by decide +kernel
theorem dX7_chance_33 : decode cX7_chance 33 = .ok (.iload_n 2, 1) := by decide +kernel
theorem dX7_chance_34 : decode cX7_chance 34 = .ok (.isub, 1) := by decide +kernel
theorem dX7_chance_35 : decode cX7_chance 35 = .ok (.iload_n 3, 1) := by decide +kernel
theorem dX7_chance_36 : decode cX7_chance 36 = .ok (.invokestatic 223, 3) := by decide +kernel
theorem dX7_chance_39 : decode cX7_chance 39 = .ok (.lstore 5, 2) := by decide +kernel
theorem dX7_chance_41 : decode cX7_chance 41 = .ok (.iload_n 1, 1) := by decide +kernel
theorem dX7_chance_42 : decode cX7_chance 42 = .ok (.iload_n 3, 1) := by decide +kernel
theorem dX7_chance_43 : decode cX7_chance 43 = .ok (.invokestatic 223, 3) := by decide +kernel
theorem dX7_chance_46 : decode cX7_chance 46 = .ok (.lstore 7, 2) := by decide +kernel
theorem dX7_chance_48 : decode cX7_chance 48 = .ok (.iload 4, 2) := by decide +kernel
theorem dX7_chance_50 : decode cX7_chance 50 = .ok (.ifCond .ne 8, 3) := by decide +kernel
theorem dX7_chance_53 : decode cX7_chance 53 = .ok (.lload 5, 2) := by decide +kernel
theorem dX7_chance_55 : decode cX7_chance 55 = .ok (.goto 5, 3) := by decide +kernel
theorem dX7_chance_58 : decode cX7_chance 58 = .ok (.lload 7, 2) := by decide +kernel
theorem dX7_chance_60 : decode cX7_chance 60 = .ok (.lload 5, 2) := by decide +kernel
theorem dX7_chance_62 : decode cX7_chance 62 = .ok (.lload 7, 2) := by decide +kernel
theorem dX7_chance_64 : decode cX7_chance 64 = .ok (.invokestatic 227, 3) := by decide +kernel
theorem dX7_chance_67 : decode cX7_chance 67 = .ok (.ldiv, 1) := by decide +kernel
theorem dX7_chance_68 : decode cX7_chance 68 = .ok (.lreturn, 1) := by decide +kernel
theorem dX7_samples_0 : decode cX7_samples 0 = .ok (.iload_n 1, 1) := by decide +kernel
theorem dX7_samples_1 : decode cX7_samples 1 = .ok (.iload_n 2, 1) := by decide +kernel
theorem dX7_samples_2 : decode cX7_samples 2 = .ok (.invokestatic 217, 3) := by decide +kernel
theorem dX7_samples_5 : decode cX7_samples 5 = .ok (.ifCond .eq 14, 3) := by decide +kernel
theorem dX7_samples_8 : decode cX7_samples 8 = .ok (.iload_n 3, 1) := by decide +kernel
theorem dX7_samples_9 : decode cX7_samples 9 = .ok (.iconst 1, 1) := by decide +kernel
theorem dX7_samples_10 : decode cX7_samples 10 = .ok (.if_icmp .lt 9, 3) := by decide +kernel
theorem dX7_samples_13 : decode cX7_samples 13 = .ok (.iload_n 3, 1) := by decide +kernel
theorem dX7_samples_14 : decode cX7_samples 14 = .ok (.ldc 231, 2) := by decide +kernel
theorem dX7_samples_16 : decode cX7_samples 16 = .ok (.if_icmp .le 5, 3) := by decide +kernel
theorem dX7_samples_19 : decode cX7_samples 19 = .ok (.iconst (-1), 1) := by decide +kernel
theorem dX7_samples_20 : decode cX7_samples 20 = .ok (.ireturn, 1) := by decide +kernel
theorem dX7_samples_21 : decode cX7_samples 21 = .ok (.iconst 0, 1) := by decide +kernel
theorem dX7_samples_22 : decode cX7_samples 22 = .ok (.istore 4, 2) := by decide +kernel
theorem dX7_samples_24 : decode cX7_samples 24 = .ok (.iload 4, 2) := by decide +kernel
theorem dX7_samples_26 : decode cX7_samples 26 = .ok (.iload_n 1, 1) := by decide +kernel
theorem dX7_samples_27 : decode cX7_samples 27 = .ok (.if_icmp .gt 33, 3) := by decide +kernel
theorem dX7_samples_30 : decode cX7_samples 30 = .ok (.iload_n 1, 1) := by decide +kernel
theorem dX7_samples_31 : decode cX7_samples 31 = .ok (.iload_n 2, 1) := by decide +kernel
theorem dX7_samples_32 : decode cX7_samples 32 = .ok (.isub, 1) := by decide +kernel
theorem dX7_samples_33 : decode cX7_samples 33 = .ok (.iload 4, 2) := by decide +kernel
theorem dX7_samples_35 : decode cX7_samples 35 = .ok (.invokestatic 223, 3) := by decide +kernel
theorem dX7_samples_38 : decode cX7_samples 38 = .ok (.iload_n 1, 1) := by decide +kernel
theorem dX7_samples_39 : decode cX7_samples 39 = .ok (.iload 4, 2) := by decide +kernel
theorem dX7_samples_41 : decode cX7_samples 41 = .ok (.invokestatic 223, 3) := by decide +kernel
theorem dX7_samples_44 : decode cX7_samples 44 = .ok (.iload_n 3, 1) := by decide +kernel
theorem dX7_samples_45 : decode cX7_samples 45 = .ok (.i2l, 1) := by decide +kernel
theorem dX7_samples_46 : decode cX7_samples 46 = .ok (.ldiv, 1) := by decide +kernel
theorem dX7_samples_47 : decode cX7_samples 47 = .ok (.lcmp, 1) := by decide +kernel
theorem dX7_samples_48 : decode cX7_samples 48 = .ok (.ifCond .gt 6, 3) := by decide +kernel
theorem dX7_samples_51 : decode cX7_samples 51 = .ok (.iload 4, 2) := by decide +kernel
theorem dX7_samples_53 : decode cX7_samples 53 = .ok (.ireturn, 1) := by decide +kernel
theorem dX7_samples_54 : decode cX7_samples 54 = .ok (.iinc 4 1, 3) := by decide +kernel
theorem dX7_samples_57 : decode cX7_samples 57 = .ok (.goto (-33), 3) := by decide +kernel
theorem dX7_samples_60 : decode cX7_samples 60 = .ok (.bipush (-2), 2) := by decide +kernel
theorem dX7_samples_62 : decode cX7_samples 62 = .ok (.ireturn, 1) := by decide +kernel
end
section
theorem dX7_told_0 : decode cX7_told 0 = .ok (.iload_n 1, 1) := by decide +kernel
theorem dX7_told_1 : decode cX7_told 1 = .ok (.ifCond .ne 8, 3) := by decide +kernel
theorem dX7_told_4 : decode cX7_told 4 = .ok (.aload_n 0, 1) := by decide +kernel
theorem dX7_told_5 : decode cX7_told 5 = .ok (.getfield 15, 3) := by decide +kernel
theorem dX7_told_8 : decode cX7_told 8 = .ok (.ireturn, 1) := by decide +kernel
theorem dX7_told_9 : decode cX7_told 9 = .ok (.iload_n 1, 1) := by decide +kernel
theorem dX7_told_10 : decode cX7_told 10 = .ok (.iconst 1, 1) := by decide +kernel
theorem dX7_told_11 : decode cX7_told 11 = .ok (.if_icmp .ne 11, 3) := by decide +kernel
theorem dX7_told_14 : decode cX7_told 14 = .ok (.aload_n 0, 1) := by decide +kernel
theorem dX7_told_15 : decode cX7_told 15 = .ok (.getfield 24, 3) := by decide +kernel
theorem dX7_told_18 : decode cX7_told 18 = .ok (.getfield 86, 3) := by decide +kernel
theorem dX7_told_21 : decode cX7_told 21 = .ok (.ireturn, 1) := by decide +kernel
theorem dX7_told_22 : decode cX7_told 22 = .ok (.iload_n 1, 1) := by decide +kernel
theorem dX7_told_23 : decode cX7_told 23 = .ok (.iconst 2, 1) := by decide +kernel
theorem dX7_told_24 : decode cX7_told 24 = .ok (.if_icmp .lt 20, 3) := by decide +kernel
theorem dX7_told_27 : decode cX7_told 27 = .ok (.iload_n 1, 1) := by decide +kernel
theorem dX7_told_28 : decode cX7_told 28 = .ok (.bipush 6, 2) := by decide +kernel
theorem dX7_told_30 : decode cX7_told 30 = .ok (.if_icmp .ge 14, 3) := by decide +kernel
theorem dX7_told_33 : decode cX7_told 33 = .ok (.aload_n 0, 1) := by decide +kernel
theorem dX7_told_34 : decode cX7_told 34 = .ok (.getfield 28, 3) := by decide +kernel
theorem dX7_told_37 : decode cX7_told 37 = .ok (.iload_n 1, 1) := by decide +kernel
theorem dX7_told_38 : decode cX7_told 38 = .ok (.iconst 2, 1) := by decide +kernel
theorem dX7_told_39 : decode cX7_told 39 = .ok (.isub, 1) := by decide +kernel
theorem dX7_told_40 : decode cX7_told 40 = .ok (.iaload, 1) := by decide +kernel
theorem dX7_told_41 : decode cX7_told 41 = .ok (.goto 4, 3) := by decide +kernel
theorem dX7_told_44 : decode cX7_told 44 = .ok (.iconst (-1), 1) := by decide +kernel
theorem dX7_told_45 : decode cX7_told 45 = .ok (.ireturn, 1) := by decide +kernel
theorem dX7_setAt_0 : decode cX7_setAt 0 = .ok (.iload_n 1, 1) := by decide +kernel
theorem dX7_setAt_1 : decode cX7_setAt 1 = .ok (.ifCond .lt 29, 3) := by decide +kernel
theorem dX7_setAt_4 : decode cX7_setAt 4 = .ok (.iload_n 1, 1) := by decide +kernel
theorem dX7_setAt_5 : decode cX7_setAt 5 = .ok (.aload_n 0, 1) := by decide +kernel
theorem dX7_setAt_6 : decode cX7_setAt 6 = .ok (.getfield 15, 3) := by decide +kernel
theorem dX7_setAt_9 : decode cX7_setAt 9 = .ok (.if_icmp .ge 21, 3) := by decide +kernel
theorem dX7_setAt_12 : decode cX7_setAt 12 = .ok (.iload_n 1, 1) := by decide +kernel
theorem dX7_setAt_13 : decode cX7_setAt 13 = .ok (.aload_n 0, 1) := by decide +kernel
theorem dX7_setAt_14 : decode cX7_setAt 14 = .ok (.getfield 11, 3) := by decide +kernel
theorem dX7_setAt_17 : decode cX7_setAt 17 = .ok (.arraylength, 1) := by decide +kernel
theorem dX7_setAt_18 : decode cX7_setAt 18 = .ok (.if_icmp .ge 12, 3) := by decide +kernel
theorem dX7_setAt_21 : decode cX7_setAt 21 = .ok (.aload_n 0, 1) := by decide +kernel
theorem dX7_setAt_22 : decode cX7_setAt 22 = .ok (.getfield 11, 3) := by decide +kernel
theorem dX7_setAt_25 : decode cX7_setAt 25 = .ok (.iload_n 1, 1) := by decide +kernel
theorem dX7_setAt_26 : decode cX7_setAt 26 = .ok (.aaload, 1) := by decide +kernel
theorem dX7_setAt_27 : decode cX7_setAt 27 = .ok (.goto 4, 3) := by decide +kernel
theorem dX7_setAt_30 : decode cX7_setAt 30 = .ok (.aconst_null, 1) := by decide +kernel
theorem dX7_setAt_31 : decode cX7_setAt 31 = .ok (.areturn, 1) := by decide +kernel
theorem dX7_clientAt_0 : decode cX7_clientAt 0 = .ok (.iload_n 1, 1) := by decide +kernel
theorem dX7_clientAt_1 : decode cX7_clientAt 1 = .ok (.ifCond .lt 21, 3) := by decide +kernel
theorem dX7_clientAt_4 : decode cX7_clientAt 4 = .ok (.iload_n 1, 1) := by decide +kernel
theorem dX7_clientAt_5 : decode cX7_clientAt 5 = .ok (.aload_n 0, 1) := by decide +kernel
theorem dX7_clientAt_6 : decode cX7_clientAt 6 = .ok (.getfield 34, 3) := by decide +kernel
theorem dX7_clientAt_9 : decode cX7_clientAt 9 = .ok (.arraylength, 1) := by decide +kernel
theorem dX7_clientAt_10 : decode cX7_clientAt 10 = .ok (.if_icmp .ge 12, 3) := by decide +kernel
theorem dX7_clientAt_13 : decode cX7_clientAt 13 = .ok (.aload_n 0, 1) := by decide +kernel
theorem dX7_clientAt_14 : decode cX7_clientAt 14 = .ok (.getfield 34, 3) := by decide +kernel
theorem dX7_clientAt_17 : decode cX7_clientAt 17 = .ok (.iload_n 1, 1) := by decide +kernel
theorem dX7_clientAt_18 : decode cX7_clientAt 18 = .ok (.aaload, 1) := by decide +kernel
theorem dX7_clientAt_19 : decode cX7_clientAt 19 = .ok (.goto 4, 3) := by decide +kernel
theorem dX7_clientAt_22 : decode cX7_clientAt 22 = .ok (.aconst_null, 1) := by decide +kernel
theorem dX7_clientAt_23 : decode cX7_clientAt 23 = .ok (.areturn, 1) := by decide +kernel
theorem dX7_giverAt_0 : decode cX7_giverAt 0 = .ok (.iload_n 1, 1) := by decide +kernel
theorem dX7_giverAt_1 : decode cX7_giverAt 1 = .ok (.ifCond .lt 21, 3) := by decide +kernel
theorem dX7_giverAt_4 : decode cX7_giverAt 4 = .ok (.iload_n 1, 1) := by decide +kernel
theorem dX7_giverAt_5 : decode cX7_giverAt 5 = .ok (.aload_n 0, 1) := by decide +kernel
theorem dX7_giverAt_6 : decode cX7_giverAt 6 = .ok (.getfield 40, 3) := by decide +kernel
theorem dX7_giverAt_9 : decode cX7_giverAt 9 = .ok (.arraylength, 1) := by decide +kernel
theorem dX7_giverAt_10 : decode cX7_giverAt 10 = .ok (.if_icmp .ge 12, 3) := by decide +kernel
theorem dX7_giverAt_13 : decode cX7_giverAt 13 = .ok (.aload_n 0, 1) := by decide +kernel
theorem dX7_giverAt_14 : decode cX7_giverAt 14 = .ok (.getfield 40, 3) := by decide +kernel
theorem dX7_giverAt_17 : decode cX7_giverAt 17 = .ok (.iload_n 1, 1) := by decide +kernel
theorem dX7_giverAt_18 : decode cX7_giverAt 18 = .ok (.aaload, 1) := by decide +kernel
theorem dX7_giverAt_19 : decode cX7_giverAt 19 = .ok (.goto 4, 3) := by decide +kernel
theorem dX7_giverAt_22 : decode cX7_giverAt 22 = .ok (.aconst_null, 1) := by decide +kernel
theorem dX7_giverAt_23 : decode cX7_giverAt 23 = .ok (.areturn, 1) := by decide +kernel
theorem dX7_doesOverlap_0 : decode cX7_doesOverlap 0 = .ok (.aload_n 0, 1) := by decide +kernel
theorem dX7_doesOverlap_1 : decode cX7_doesOverlap 1 = .ok (.getfield 28, 3) := by decide +kernel
theorem dX7_doesOverlap_4 : decode cX7_doesOverlap 4 = .ok (.iconst 1, 1) := by decide +kernel
theorem dX7_doesOverlap_5 : decode cX7_doesOverlap 5 = .ok (.iaload, 1) := by decide +kernel
theorem dX7_doesOverlap_6 : decode cX7_doesOverlap 6 = .ok (.aload_n 2, 1) := by decide +kernel
theorem dX7_doesOverlap_7 : decode cX7_doesOverlap 7 = .ok (.aload_n 1, 1) := by decide +kernel
theorem dX7_doesOverlap_8 : decode cX7_doesOverlap 8 = .ok (.getfield 102, 3) := by decide +kernel
theorem dX7_doesOverlap_11 : decode cX7_doesOverlap 11 = .ok (.invokevirtual 232, 3) := by decide +kernel
theorem dX7_doesOverlap_14 : decode cX7_doesOverlap 14 = .ok (.imul, 1) := by decide +kernel
theorem dX7_doesOverlap_15 : decode cX7_doesOverlap 15 = .ok (.aload_n 0, 1) := by decide +kernel
theorem dX7_doesOverlap_16 : decode cX7_doesOverlap 16 = .ok (.getfield 28, 3) := by decide +kernel
theorem dX7_doesOverlap_19 : decode cX7_doesOverlap 19 = .ok (.iconst 0, 1) := by decide +kernel
theorem dX7_doesOverlap_20 : decode cX7_doesOverlap 20 = .ok (.iaload, 1) := by decide +kernel
theorem dX7_doesOverlap_21 : decode cX7_doesOverlap 21 = .ok (.aload_n 2, 1) := by decide +kernel
theorem dX7_doesOverlap_22 : decode cX7_doesOverlap 22 = .ok (.getfield 236, 3) := by decide +kernel
theorem dX7_doesOverlap_25 : decode cX7_doesOverlap 25 = .ok (.imul, 1) := by decide +kernel
theorem dX7_doesOverlap_26 : decode cX7_doesOverlap 26 = .ok (.if_icmp .le 7, 3) := by decide +kernel
theorem dX7_doesOverlap_29 : decode cX7_doesOverlap 29 = .ok (.iconst 1, 1) := by decide +kernel
theorem dX7_doesOverlap_30 : decode cX7_doesOverlap 30 = .ok (.goto 4, 3) := by decide +kernel
theorem dX7_doesOverlap_33 : decode cX7_doesOverlap 33 = .ok (.iconst 0, 1) := by decide +kernel
theorem dX7_doesOverlap_34 : decode cX7_doesOverlap 34 = .ok (.ireturn, 1) := by decide +kernel
theorem dX7_refusal_0 : decode cX7_refusal 0 = .ok (.aload_n 2, 1) := by decide +kernel
theorem dX7_refusal_1 : decode cX7_refusal 1 = .ok (.ifnonnull 6, 3) := by decide +kernel
theorem dX7_refusal_4 : decode cX7_refusal 4 = .ok (.bipush 7, 2) := by decide +kernel
theorem dX7_refusal_6 : decode cX7_refusal 6 = .ok (.ireturn, 1) := by decide +kernel
theorem dX7_refusal_7 : decode cX7_refusal 7 = .ok (.aload_n 2, 1) := by decide +kernel
theorem dX7_refusal_8 : decode cX7_refusal 8 = .ok (.getfield 138, 3) := by decide +kernel
theorem dX7_refusal_11 : decode cX7_refusal 11 = .ok (.aload_n 1, 1) := by decide +kernel
theorem dX7_refusal_12 : decode cX7_refusal 12 = .ok (.getfield 138, 3) := by decide +kernel
theorem dX7_refusal_15 : decode cX7_refusal 15 = .ok (.isub, 1) := by decide +kernel
theorem dX7_refusal_16 : decode cX7_refusal 16 = .ok (.istore_n 3, 1) := by decide +kernel
theorem dX7_refusal_17 : decode cX7_refusal 17 = .ok (.iload_n 3, 1) := by decide +kernel
theorem dX7_refusal_18 : decode cX7_refusal 18 = .ok (.iconst 1, 1) := by decide +kernel
theorem dX7_refusal_19 : decode cX7_refusal 19 = .ok (.if_icmp .ge 5, 3) := by decide +kernel
theorem dX7_refusal_22 : decode cX7_refusal 22 = .ok (.iconst 1, 1) := by decide +kernel
theorem dX7_refusal_23 : decode cX7_refusal 23 = .ok (.ireturn, 1) := by decide +kernel
theorem dX7_refusal_24 : decode cX7_refusal 24 = .ok (.iload_n 3, 1) := by decide +kernel
theorem dX7_refusal_25 : decode cX7_refusal 25 = .ok (.iconst 1, 1) := by decide +kernel
theorem dX7_refusal_26 : decode cX7_refusal 26 = .ok (.if_icmp .ne 12, 3) := by decide +kernel
theorem dX7_refusal_29 : decode cX7_refusal 29 = .ok (.aload_n 0, 1) := by decide +kernel
theorem dX7_refusal_30 : decode cX7_refusal 30 = .ok (.aload_n 1, 1) := by decide +kernel
theorem dX7_refusal_31 : decode cX7_refusal 31 = .ok (.aload_n 2, 1) := by decide +kernel
theorem dX7_refusal_32 : decode cX7_refusal 32 = .ok (.invokevirtual 239, 3) := by decide +kernel
theorem dX7_refusal_35 : decode cX7_refusal 35 = .ok (.goto 9, 3) := by decide +kernel
theorem dX7_refusal_38 : decode cX7_refusal 38 = .ok (.aload_n 0, 1) := by decide +kernel
theorem dX7_refusal_39 : decode cX7_refusal 39 = .ok (.aload_n 1, 1) := by decide +kernel
theorem dX7_refusal_40 : decode cX7_refusal 40 = .ok (.aload_n 2, 1) := by decide +kernel
theorem dX7_refusal_41 : decode cX7_refusal 41 = .ok (.invokevirtual 242, 3) := by decide +kernel
theorem dX7_refusal_44 : decode cX7_refusal 44 = .ok (.ireturn, 1) := by decide +kernel
theorem dX7_stepRefusal_0 : decode cX7_stepRefusal 0 = .ok (.aload_n 2, 1) := by decide +kernel
theorem dX7_stepRefusal_1 : decode cX7_stepRefusal 1 = .ok (.getfield 245, 3) := by decide +kernel
theorem dX7_stepRefusal_4 : decode cX7_stepRefusal 4 = .ok (.aload_n 1, 1) := by decide +kernel
theorem dX7_stepRefusal_5 : decode cX7_stepRefusal 5 = .ok (.getfield 111, 3) := by decide +kernel
theorem dX7_stepRefusal_8 : decode cX7_stepRefusal 8 = .ok (.lcmp, 1) := by decide +kernel
theorem dX7_stepRefusal_9 : decode cX7_stepRefusal 9 = .ok (.ifCond .eq 5, 3) := by decide +kernel
theorem dX7_stepRefusal_12 : decode cX7_stepRefusal 12 = .ok (.iconst 2, 1) := by decide +kernel
theorem dX7_stepRefusal_13 : decode cX7_stepRefusal 13 = .ok (.ireturn, 1) := by decide +kernel
theorem dX7_stepRefusal_14 : decode cX7_stepRefusal 14 = .ok (.aload_n 2, 1) := by decide +kernel
theorem dX7_stepRefusal_15 : decode cX7_stepRefusal 15 = .ok (.getfield 248, 3) := by decide +kernel
theorem dX7_stepRefusal_18 : decode cX7_stepRefusal 18 = .ok (.getfield 252, 3) := by decide +kernel
theorem dX7_stepRefusal_21 : decode cX7_stepRefusal 21 = .ok (.aload_n 1, 1) := by decide +kernel
theorem dX7_stepRefusal_22 : decode cX7_stepRefusal 22 = .ok (.getfield 253, 3) := by decide +kernel
theorem dX7_stepRefusal_25 : decode cX7_stepRefusal 25 = .ok (.getfield 252, 3) := by decide +kernel
theorem dX7_stepRefusal_28 : decode cX7_stepRefusal 28 = .ok (.if_icmp .eq 5, 3) := by decide +kernel
theorem dX7_stepRefusal_31 : decode cX7_stepRefusal 31 = .ok (.iconst 3, 1) := by decide +kernel
theorem dX7_stepRefusal_32 : decode cX7_stepRefusal 32 = .ok (.ireturn, 1) := by decide +kernel
theorem dX7_stepRefusal_33 : decode cX7_stepRefusal 33 = .ok (.aload_n 2, 1) := by decide +kernel
theorem dX7_stepRefusal_34 : decode cX7_stepRefusal 34 = .ok (.invokestatic 115, 3) := by decide +kernel
theorem dX7_stepRefusal_37 : decode cX7_stepRefusal 37 = .ok (.ifCond .eq 7, 3) := by decide +kernel
theorem dX7_stepRefusal_40 : decode cX7_stepRefusal 40 = .ok (.iconst 0, 1) := by decide +kernel
theorem dX7_stepRefusal_41 : decode cX7_stepRefusal 41 = .ok (.goto 4, 3) := by decide +kernel
theorem dX7_stepRefusal_44 : decode cX7_stepRefusal 44 = .ok (.iconst 4, 1) := by decide +kernel
theorem dX7_stepRefusal_45 : decode cX7_stepRefusal 45 = .ok (.ireturn, 1) := by decide +kernel
theorem dX7_skipRefusal_0 : decode cX7_skipRefusal 0 = .ok (.aload_n 2, 1) := by decide +kernel
theorem dX7_skipRefusal_1 : decode cX7_skipRefusal 1 = .ok (.getfield 138, 3) := by decide +kernel
theorem dX7_skipRefusal_4 : decode cX7_skipRefusal 4 = .ok (.aload_n 1, 1) := by decide +kernel
theorem dX7_skipRefusal_5 : decode cX7_skipRefusal 5 = .ok (.getfield 138, 3) := by decide +kernel
theorem dX7_skipRefusal_8 : decode cX7_skipRefusal 8 = .ok (.isub, 1) := by decide +kernel
theorem dX7_skipRefusal_9 : decode cX7_skipRefusal 9 = .ok (.aload_n 0, 1) := by decide +kernel
theorem dX7_skipRefusal_10 : decode cX7_skipRefusal 10 = .ok (.getfield 28, 3) := by decide +kernel
theorem dX7_skipRefusal_13 : decode cX7_skipRefusal 13 = .ok (.iconst 2, 1) := by decide +kernel
theorem dX7_skipRefusal_14 : decode cX7_skipRefusal 14 = .ok (.iaload, 1) := by decide +kernel
theorem dX7_skipRefusal_15 : decode cX7_skipRefusal 15 = .ok (.if_icmp .le 5, 3) := by decide +kernel
theorem dX7_skipRefusal_18 : decode cX7_skipRefusal 18 = .ok (.iconst 5, 1) := by decide +kernel
theorem dX7_skipRefusal_19 : decode cX7_skipRefusal 19 = .ok (.ireturn, 1) := by decide +kernel
theorem dX7_skipRefusal_20 : decode cX7_skipRefusal 20 = .ok (.aload_n 2, 1) := by decide +kernel
theorem dX7_skipRefusal_21 : decode cX7_skipRefusal 21 = .ok (.invokestatic 115, 3) := by decide +kernel
theorem dX7_skipRefusal_24 : decode cX7_skipRefusal 24 = .ok (.ifCond .ne 5, 3) := by decide +kernel
theorem dX7_skipRefusal_27 : decode cX7_skipRefusal 27 = .ok (.iconst 4, 1) := by decide +kernel
theorem dX7_skipRefusal_28 : decode cX7_skipRefusal 28 = .ok (.ireturn, 1) := by decide +kernel
theorem dX7_skipRefusal_29 : decode cX7_skipRefusal 29 = .ok (.aload_n 0, 1) := by decide +kernel
theorem dX7_skipRefusal_30 : decode cX7_skipRefusal 30 = .ok (.aload_n 2, 1) := by decide +kernel
theorem dX7_skipRefusal_31 : decode cX7_skipRefusal 31 = .ok (.aload_n 1, 1) := by decide +kernel
theorem dX7_skipRefusal_32 : decode cX7_skipRefusal 32 = .ok (.getfield 253, 3) := by decide +kernel
theorem dX7_skipRefusal_35 : decode cX7_skipRefusal 35 = .ok (.invokevirtual 119, 3) := by decide +kernel
theorem dX7_skipRefusal_38 : decode cX7_skipRefusal 38 = .ok (.ifCond .eq 7, 3) := by decide +kernel
theorem dX7_skipRefusal_41 : decode cX7_skipRefusal 41 = .ok (.iconst 0, 1) := by decide +kernel
theorem dX7_skipRefusal_42 : decode cX7_skipRefusal 42 = .ok (.goto 5, 3) := by decide +kernel
theorem dX7_skipRefusal_45 : decode cX7_skipRefusal 45 = .ok (.bipush 6, 2) := by decide +kernel
theorem dX7_skipRefusal_47 : decode cX7_skipRefusal 47 = .ok (.ireturn, 1) := by decide +kernel
theorem dX7_climb_0 : decode cX7_climb 0 = .ok (.aload_n 0, 1) := by decide +kernel
theorem dX7_climb_1 : decode cX7_climb 1 = .ok (.getfield 44, 3) := by decide +kernel
theorem dX7_climb_4 : decode cX7_climb 4 = .ok (.iconst 0, 1) := by decide +kernel
theorem dX7_climb_5 : decode cX7_climb 5 = .ok (.iload_n 3, 1) := by decide +kernel
theorem dX7_climb_6 : decode cX7_climb 6 = .ok (.iastore, 1) := by decide +kernel
theorem dX7_climb_7 : decode cX7_climb 7 = .ok (.iconst 1, 1) := by decide +kernel
theorem dX7_climb_8 : decode cX7_climb 8 = .ok (.istore 4, 2) := by decide +kernel
theorem dX7_climb_10 : decode cX7_climb 10 = .ok (.aload_n 1, 1) := by decide +kernel
theorem dX7_climb_11 : decode cX7_climb 11 = .ok (.invokevirtual 130, 3) := by decide +kernel
theorem dX7_climb_14 : decode cX7_climb 14 = .ok (.astore 5, 2) := by decide +kernel
theorem dX7_climb_16 : decode cX7_climb 16 = .ok (.iconst 0, 1) := by decide +kernel
theorem dX7_climb_17 : decode cX7_climb 17 = .ok (.istore 6, 2) := by decide +kernel
theorem dX7_climb_19 : decode cX7_climb 19 = .ok (.aload 5, 2) := by decide +kernel
theorem dX7_climb_21 : decode cX7_climb 21 = .ok (.ifnull 139, 3) := by decide +kernel
theorem dX7_climb_24 : decode cX7_climb 24 = .ok (.iload 4, 2) := by decide +kernel
theorem dX7_climb_26 : decode cX7_climb 26 = .ok (.ifCond .le 134, 3) := by decide +kernel
theorem dX7_climb_29 : decode cX7_climb 29 = .ok (.iload 6, 2) := by decide +kernel
theorem dX7_climb_31 : decode cX7_climb 31 = .ok (.ldc 231, 2) := by decide +kernel
theorem dX7_climb_33 : decode cX7_climb 33 = .ok (.if_icmp .ge 127, 3) := by decide +kernel
theorem dX7_climb_36 : decode cX7_climb 36 = .ok (.aload_n 0, 1) := by decide +kernel
theorem dX7_climb_37 : decode cX7_climb 37 = .ok (.getfield 44, 3) := by decide +kernel
theorem dX7_climb_40 : decode cX7_climb 40 = .ok (.iload 4, 2) := by decide +kernel
theorem dX7_climb_42 : decode cX7_climb 42 = .ok (.iconst 1, 1) := by decide +kernel
theorem dX7_climb_43 : decode cX7_climb 43 = .ok (.isub, 1) := by decide +kernel
theorem dX7_climb_44 : decode cX7_climb 44 = .ok (.iaload, 1) := by decide +kernel
theorem dX7_climb_45 : decode cX7_climb 45 = .ok (.istore 7, 2) := by decide +kernel
theorem dX7_climb_47 : decode cX7_climb 47 = .ok (.aload_n 2, 1) := by decide +kernel
theorem dX7_climb_48 : decode cX7_climb 48 = .ok (.iload 7, 2) := by decide +kernel
theorem dX7_climb_50 : decode cX7_climb 50 = .ok (.invokevirtual 183, 3) := by decide +kernel
theorem dX7_climb_53 : decode cX7_climb 53 = .ok (.astore 8, 2) := by decide +kernel
theorem dX7_climb_55 : decode cX7_climb 55 = .ok (.aload_n 0, 1) := by decide +kernel
theorem dX7_climb_56 : decode cX7_climb 56 = .ok (.aload 5, 2) := by decide +kernel
theorem dX7_climb_58 : decode cX7_climb 58 = .ok (.aload 8, 2) := by decide +kernel
theorem dX7_climb_60 : decode cX7_climb 60 = .ok (.invokevirtual 134, 3) := by decide +kernel
theorem dX7_climb_63 : decode cX7_climb 63 = .ok (.istore 9, 2) := by decide +kernel
theorem dX7_climb_65 : decode cX7_climb 65 = .ok (.aload_n 1, 1) := by decide +kernel
theorem dX7_climb_66 : decode cX7_climb 66 = .ok (.dup, 1) := by decide +kernel
theorem dX7_climb_67 : decode cX7_climb 67 = .ok (.getfield 167, 3) := by decide +kernel
theorem dX7_climb_70 : decode cX7_climb 70 = .ok (.iconst 1, 1) := by decide +kernel
theorem dX7_climb_71 : decode cX7_climb 71 = .ok (.iadd, 1) := by decide +kernel
theorem dX7_climb_72 : decode cX7_climb 72 = .ok (.putfield 167, 3) := by decide +kernel
theorem dX7_climb_75 : decode cX7_climb 75 = .ok (.iload 9, 2) := by decide +kernel
theorem dX7_climb_77 : decode cX7_climb 77 = .ok (.ifCond .ne 25, 3) := by decide +kernel
theorem dX7_climb_80 : decode cX7_climb 80 = .ok (.aload_n 1, 1) := by decide +kernel
theorem dX7_climb_81 : decode cX7_climb 81 = .ok (.aload 8, 2) := by decide +kernel
theorem dX7_climb_83 : decode cX7_climb 83 = .ok (.aload_n 0, 1) := by decide +kernel
theorem dX7_climb_84 : decode cX7_climb 84 = .ok (.getfield 28, 3) := by decide +kernel
theorem dX7_climb_87 : decode cX7_climb 87 = .ok (.iconst 3, 1) := by decide +kernel
theorem dX7_climb_88 : decode cX7_climb 88 = .ok (.iaload, 1) := by decide +kernel
theorem dX7_climb_89 : decode cX7_climb 89 = .ok (.invokevirtual 145, 3) := by decide +kernel
theorem dX7_climb_92 : decode cX7_climb 92 = .ok (.aload 8, 2) := by decide +kernel
theorem dX7_climb_94 : decode cX7_climb 94 = .ok (.astore 5, 2) := by decide +kernel
theorem dX7_climb_96 : decode cX7_climb 96 = .ok (.iinc 4 (-1), 3) := by decide +kernel
theorem dX7_climb_99 : decode cX7_climb 99 = .ok (.goto 55, 3) := by decide +kernel
theorem dX7_climb_102 : decode cX7_climb 102 = .ok (.iload 9, 2) := by decide +kernel
theorem dX7_climb_104 : decode cX7_climb 104 = .ok (.iconst 5, 1) := by decide +kernel
theorem dX7_climb_105 : decode cX7_climb 105 = .ok (.if_icmp .eq 10, 3) := by decide +kernel
theorem dX7_climb_108 : decode cX7_climb 108 = .ok (.iload 9, 2) := by decide +kernel
theorem dX7_climb_110 : decode cX7_climb 110 = .ok (.bipush 6, 2) := by decide +kernel
theorem dX7_climb_112 : decode cX7_climb 112 = .ok (.if_icmp .ne 33, 3) := by decide +kernel
theorem dX7_climb_115 : decode cX7_climb 115 = .ok (.iload 4, 2) := by decide +kernel
theorem dX7_climb_117 : decode cX7_climb 117 = .ok (.bipush 32, 2) := by decide +kernel
theorem dX7_climb_119 : decode cX7_climb 119 = .ok (.if_icmp .ge 26, 3) := by decide +kernel
theorem dX7_climb_122 : decode cX7_climb 122 = .ok (.aload_n 0, 1) := by decide +kernel
theorem dX7_climb_123 : decode cX7_climb 123 = .ok (.getfield 44, 3) := by decide +kernel
theorem dX7_climb_126 : decode cX7_climb 126 = .ok (.iload 4, 2) := by decide +kernel
theorem dX7_climb_128 : decode cX7_climb 128 = .ok (.aload 5, 2) := by decide +kernel
theorem dX7_climb_130 : decode cX7_climb 130 = .ok (.getfield 138, 3) := by decide +kernel
theorem dX7_climb_133 : decode cX7_climb 133 = .ok (.iload 7, 2) := by decide +kernel
theorem dX7_climb_135 : decode cX7_climb 135 = .ok (.iadd, 1) := by decide +kernel
theorem dX7_climb_136 : decode cX7_climb 136 = .ok (.iconst 2, 1) := by decide +kernel
theorem dX7_climb_137 : decode cX7_climb 137 = .ok (.idiv, 1) := by decide +kernel
theorem dX7_climb_138 : decode cX7_climb 138 = .ok (.iastore, 1) := by decide +kernel
theorem dX7_climb_139 : decode cX7_climb 139 = .ok (.iinc 4 1, 3) := by decide +kernel
theorem dX7_climb_142 : decode cX7_climb 142 = .ok (.goto 12, 3) := by decide +kernel
theorem dX7_climb_145 : decode cX7_climb 145 = .ok (.aload_n 1, 1) := by decide +kernel
theorem dX7_climb_146 : decode cX7_climb 146 = .ok (.iload 9, 2) := by decide +kernel
theorem dX7_climb_148 : decode cX7_climb 148 = .ok (.iload 7, 2) := by decide +kernel
theorem dX7_climb_150 : decode cX7_climb 150 = .ok (.invokevirtual 141, 3) := by decide +kernel
theorem dX7_climb_153 : decode cX7_climb 153 = .ok (.ireturn, 1) := by decide +kernel
theorem dX7_climb_154 : decode cX7_climb 154 = .ok (.iinc 6 1, 3) := by decide +kernel
theorem dX7_climb_157 : decode cX7_climb 157 = .ok (.goto (-138), 3) := by decide +kernel
theorem dX7_climb_160 : decode cX7_climb 160 = .ok (.iconst 1, 1) := by decide +kernel
theorem dX7_climb_161 : decode cX7_climb 161 = .ok (.ireturn, 1) := by decide +kernel
theorem dX7_isHeight_0 : decode cX7_isHeight 0 = .ok (.iload_n 0, 1) := by decide +kernel
theorem dX7_isHeight_1 : decode cX7_isHeight 1 = .ok (.ifCond .lt 14, 3) := by decide +kernel
theorem dX7_isHeight_4 : decode cX7_isHeight 4 = .ok (.iload_n 0, 1) := by decide +kernel
theorem dX7_isHeight_5 : decode cX7_isHeight 5 = .ok (.ldc_w 256, 3) := by decide +kernel
theorem dX7_isHeight_8 : decode cX7_isHeight 8 = .ok (.if_icmp .gt 7, 3) := by decide +kernel
theorem dX7_isHeight_11 : decode cX7_isHeight 11 = .ok (.iconst 1, 1) := by decide +kernel
theorem dX7_isHeight_12 : decode cX7_isHeight 12 = .ok (.goto 4, 3) := by decide +kernel
theorem dX7_isHeight_15 : decode cX7_isHeight 15 = .ok (.iconst 0, 1) := by decide +kernel
theorem dX7_isHeight_16 : decode cX7_isHeight 16 = .ok (.ireturn, 1) := by decide +kernel
theorem dX7_isLeaf_0 : decode cX7_isLeaf 0 = .ok (.iload_n 0, 1) := by decide +kernel
theorem dX7_isLeaf_1 : decode cX7_isLeaf 1 = .ok (.ifCond .lt 13, 3) := by decide +kernel
theorem dX7_isLeaf_4 : decode cX7_isLeaf 4 = .ok (.iload_n 0, 1) := by decide +kernel
theorem dX7_isLeaf_5 : decode cX7_isLeaf 5 = .ok (.bipush 8, 2) := by decide +kernel
theorem dX7_isLeaf_7 : decode cX7_isLeaf 7 = .ok (.if_icmp .ge 7, 3) := by decide +kernel
theorem dX7_isLeaf_10 : decode cX7_isLeaf 10 = .ok (.iconst 1, 1) := by decide +kernel
theorem dX7_isLeaf_11 : decode cX7_isLeaf 11 = .ok (.goto 4, 3) := by decide +kernel
theorem dX7_isLeaf_14 : decode cX7_isLeaf 14 = .ok (.iconst 0, 1) := by decide +kernel
theorem dX7_isLeaf_15 : decode cX7_isLeaf 15 = .ok (.ireturn, 1) := by decide +kernel
theorem dX7_arePieces_0 : decode cX7_arePieces 0 = .ok (.iload_n 0, 1) := by decide +kernel
theorem dX7_arePieces_1 : decode cX7_arePieces 1 = .ok (.iconst 1, 1) := by decide +kernel
theorem dX7_arePieces_2 : decode cX7_arePieces 2 = .ok (.if_icmp .lt 22, 3) := by decide +kernel
theorem dX7_arePieces_5 : decode cX7_arePieces 5 = .ok (.iload_n 0, 1) := by decide +kernel
theorem dX7_arePieces_6 : decode cX7_arePieces 6 = .ok (.bipush 60, 2) := by decide +kernel
theorem dX7_arePieces_8 : decode cX7_arePieces 8 = .ok (.if_icmp .gt 16, 3) := by decide +kernel
theorem dX7_arePieces_11 : decode cX7_arePieces 11 = .ok (.iload_n 1, 1) := by decide +kernel
theorem dX7_arePieces_12 : decode cX7_arePieces 12 = .ok (.ifCond .lt 12, 3) := by decide +kernel
theorem dX7_arePieces_15 : decode cX7_arePieces 15 = .ok (.iload_n 1, 1) := by decide +kernel
theorem dX7_arePieces_16 : decode cX7_arePieces 16 = .ok (.iload_n 0, 1) := by decide +kernel
theorem dX7_arePieces_17 : decode cX7_arePieces 17 = .ok (.if_icmp .gt 7, 3) := by decide +kernel
theorem dX7_arePieces_20 : decode cX7_arePieces 20 = .ok (.iconst 1, 1) := by decide +kernel
theorem dX7_arePieces_21 : decode cX7_arePieces 21 = .ok (.goto 4, 3) := by decide +kernel
theorem dX7_arePieces_24 : decode cX7_arePieces 24 = .ok (.iconst 0, 1) := by decide +kernel
theorem dX7_arePieces_25 : decode cX7_arePieces 25 = .ok (.ireturn, 1) := by decide +kernel
theorem dX7_isCertified_0 : decode cX7_isCertified 0 = .ok (.iconst 3, 1) := by decide +kernel
theorem dX7_isCertified_1 : decode cX7_isCertified 1 = .ok (.aload_n 0, 1) := by decide +kernel
theorem dX7_isCertified_2 : decode cX7_isCertified 2 = .ok (.getfield 248, 3) := by decide +kernel
theorem dX7_isCertified_5 : decode cX7_isCertified 5 = .ok (.aload_n 0, 1) := by decide +kernel
theorem dX7_isCertified_6 : decode cX7_isCertified 6 = .ok (.getfield 102, 3) := by decide +kernel
theorem dX7_isCertified_9 : decode cX7_isCertified 9 = .ok (.invokevirtual 232, 3) := by decide +kernel
theorem dX7_isCertified_12 : decode cX7_isCertified 12 = .ok (.imul, 1) := by decide +kernel
theorem dX7_isCertified_13 : decode cX7_isCertified 13 = .ok (.iconst 2, 1) := by decide +kernel
theorem dX7_isCertified_14 : decode cX7_isCertified 14 = .ok (.aload_n 0, 1) := by decide +kernel
theorem dX7_isCertified_15 : decode cX7_isCertified 15 = .ok (.getfield 248, 3) := by decide +kernel
theorem dX7_isCertified_18 : decode cX7_isCertified 18 = .ok (.getfield 236, 3) := by decide +kernel
theorem dX7_isCertified_21 : decode cX7_isCertified 21 = .ok (.imul, 1) := by decide +kernel
theorem dX7_isCertified_22 : decode cX7_isCertified 22 = .ok (.if_icmp .le 7, 3) := by decide +kernel
theorem dX7_isCertified_25 : decode cX7_isCertified 25 = .ok (.iconst 1, 1) := by decide +kernel
theorem dX7_isCertified_26 : decode cX7_isCertified 26 = .ok (.goto 4, 3) := by decide +kernel
theorem dX7_isCertified_29 : decode cX7_isCertified 29 = .ok (.iconst 0, 1) := by decide +kernel
theorem dX7_isCertified_30 : decode cX7_isCertified 30 = .ok (.ireturn, 1) := by decide +kernel
theorem dX7_weightIn_0 : decode cX7_weightIn 0 = .ok (.lload_n 0, 1) := by decide +kernel
theorem dX7_weightIn_1 : decode cX7_weightIn 1 = .ok (.bipush 7, 2) := by decide +kernel
theorem dX7_weightIn_3 : decode cX7_weightIn 3 = .ok (.iload_n 2, 1) := by decide +kernel
theorem dX7_weightIn_4 : decode cX7_weightIn 4 = .ok (.imul, 1) := by decide +kernel
theorem dX7_weightIn_5 : decode cX7_weightIn 5 = .ok (.lushr, 1) := by decide +kernel
theorem dX7_weightIn_6 : decode cX7_weightIn 6 = .ok (.l2i, 1) := by decide +kernel
theorem dX7_weightIn_7 : decode cX7_weightIn 7 = .ok (.bipush 127, 2) := by decide +kernel
theorem dX7_weightIn_9 : decode cX7_weightIn 9 = .ok (.iand, 1) := by decide +kernel
theorem dX7_weightIn_10 : decode cX7_weightIn 10 = .ok (.ireturn, 1) := by decide +kernel
theorem dX7_holdsWeights_0 : decode cX7_holdsWeights 0 = .ok (.iconst 0, 1) := by decide +kernel
theorem dX7_holdsWeights_1 : decode cX7_holdsWeights 1 = .ok (.istore_n 2, 1) := by decide +kernel
theorem dX7_holdsWeights_2 : decode cX7_holdsWeights 2 = .ok (.iload_n 2, 1) := by decide +kernel
theorem dX7_holdsWeights_3 : decode cX7_holdsWeights 3 = .ok (.iconst 5, 1) := by decide +kernel
theorem dX7_holdsWeights_4 : decode cX7_holdsWeights 4 = .ok (.if_icmp .ge 21, 3) := by decide +kernel
theorem dX7_holdsWeights_7 : decode cX7_holdsWeights 7 = .ok (.lload_n 0, 1) := by decide +kernel
theorem dX7_holdsWeights_8 : decode cX7_holdsWeights 8 = .ok (.iload_n 2, 1) := by decide +kernel
theorem dX7_holdsWeights_9 : decode cX7_holdsWeights 9 = .ok (.invokestatic 257, 3) := by decide +kernel
theorem dX7_holdsWeights_12 : decode cX7_holdsWeights 12 = .ok (.bipush 100, 2) := by decide +kernel
theorem dX7_holdsWeights_14 : decode cX7_holdsWeights 14 = .ok (.if_icmp .le 5, 3) := by decide +kernel
theorem dX7_holdsWeights_17 : decode cX7_holdsWeights 17 = .ok (.iconst 0, 1) := by decide +kernel
theorem dX7_holdsWeights_18 : decode cX7_holdsWeights 18 = .ok (.ireturn, 1) := by decide +kernel
theorem dX7_holdsWeights_19 : decode cX7_holdsWeights 19 = .ok (.iinc 2 1, 3) := by decide +kernel
theorem dX7_holdsWeights_22 : decode cX7_holdsWeights 22 = .ok (.goto (-20), 3) := by decide +kernel
theorem dX7_holdsWeights_25 : decode cX7_holdsWeights 25 = .ok (.lload_n 0, 1) := by decide +kernel
theorem dX7_holdsWeights_26 : decode cX7_holdsWeights 26 = .ok (.bipush 35, 2) := by decide +kernel
theorem dX7_holdsWeights_28 : decode cX7_holdsWeights 28 = .ok (.lushr, 1) := by decide +kernel
theorem dX7_holdsWeights_29 : decode cX7_holdsWeights 29 = .ok (.lconst 0, 1) := by decide +kernel
theorem dX7_holdsWeights_30 : decode cX7_holdsWeights 30 = .ok (.lcmp, 1) := by decide +kernel
theorem dX7_holdsWeights_31 : decode cX7_holdsWeights 31 = .ok (.ifCond .ne 7, 3) := by decide +kernel
theorem dX7_holdsWeights_34 : decode cX7_holdsWeights 34 = .ok (.iconst 1, 1) := by decide +kernel
theorem dX7_holdsWeights_35 : decode cX7_holdsWeights 35 = .ok (.goto 4, 3) := by decide +kernel
theorem dX7_holdsWeights_38 : decode cX7_holdsWeights 38 = .ok (.iconst 0, 1) := by decide +kernel
theorem dX7_holdsWeights_39 : decode cX7_holdsWeights 39 = .ok (.ireturn, 1) := by decide +kernel
theorem dX7_mix_0 : decode cX7_mix 0 = .ok (.lload_n 0, 1) := by decide +kernel
theorem dX7_mix_1 : decode cX7_mix 1 = .ok (.lload_n 0, 1) := by decide +kernel
theorem dX7_mix_2 : decode cX7_mix 2 = .ok (.bipush 30, 2) := by decide +kernel
theorem dX7_mix_4 : decode cX7_mix 4 = .ok (.lushr, 1) := by decide +kernel
theorem dX7_mix_5 : decode cX7_mix 5 = .ok (.lxor, 1) := by decide +kernel
theorem dX7_mix_6 : decode cX7_mix 6 = .ok (.ldc2_w 261, 3) := by decide +kernel
theorem dX7_mix_9 : decode cX7_mix 9 = .ok (.lmul, 1) := by decide +kernel
theorem dX7_mix_10 : decode cX7_mix 10 = .ok (.lstore_n 0, 1) := by decide +kernel
theorem dX7_mix_11 : decode cX7_mix 11 = .ok (.lload_n 0, 1) := by decide +kernel
theorem dX7_mix_12 : decode cX7_mix 12 = .ok (.lload_n 0, 1) := by decide +kernel
theorem dX7_mix_13 : decode cX7_mix 13 = .ok (.bipush 27, 2) := by decide +kernel
theorem dX7_mix_15 : decode cX7_mix 15 = .ok (.lushr, 1) := by decide +kernel
theorem dX7_mix_16 : decode cX7_mix 16 = .ok (.lxor, 1) := by decide +kernel
theorem dX7_mix_17 : decode cX7_mix 17 = .ok (.ldc2_w 263, 3) := by decide +kernel
theorem dX7_mix_20 : decode cX7_mix 20 = .ok (.lmul, 1) := by decide +kernel
theorem dX7_mix_21 : decode cX7_mix 21 = .ok (.lstore_n 0, 1) := by decide +kernel
theorem dX7_mix_22 : decode cX7_mix 22 = .ok (.lload_n 0, 1) := by decide +kernel
theorem dX7_mix_23 : decode cX7_mix 23 = .ok (.lload_n 0, 1) := by decide +kernel
theorem dX7_mix_24 : decode cX7_mix 24 = .ok (.bipush 31, 2) := by decide +kernel
theorem dX7_mix_26 : decode cX7_mix 26 = .ok (.lushr, 1) := by decide +kernel
theorem dX7_mix_27 : decode cX7_mix 27 = .ok (.lxor, 1) := by decide +kernel
theorem dX7_mix_28 : decode cX7_mix 28 = .ok (.lreturn, 1) := by decide +kernel
theorem dX7_pair_0 : decode cX7_pair 0 = .ok (.lload_n 0, 1) := by decide +kernel
theorem dX7_pair_1 : decode cX7_pair 1 = .ok (.invokestatic 265, 3) := by decide +kernel
theorem dX7_pair_4 : decode cX7_pair 4 = .ok (.ldc2_w 268, 3) := by decide +kernel
theorem dX7_pair_7 : decode cX7_pair 7 = .ok (.lload_n 2, 1) := by decide +kernel
theorem dX7_pair_8 : decode cX7_pair 8 = .ok (.invokestatic 265, 3) := by decide +kernel
theorem dX7_pair_11 : decode cX7_pair 11 = .ok (.lmul, 1) := by decide +kernel
theorem dX7_pair_12 : decode cX7_pair 12 = .ok (.ladd, 1) := by decide +kernel
theorem dX7_pair_13 : decode cX7_pair 13 = .ok (.ldc2_w 270, 3) := by decide +kernel
theorem dX7_pair_16 : decode cX7_pair 16 = .ok (.ladd, 1) := by decide +kernel
theorem dX7_pair_17 : decode cX7_pair 17 = .ok (.invokestatic 265, 3) := by decide +kernel
theorem dX7_pair_20 : decode cX7_pair 20 = .ok (.lreturn, 1) := by decide +kernel
theorem dX7_choose_0 : decode cX7_choose 0 = .ok (.iload_n 1, 1) := by decide +kernel
theorem dX7_choose_1 : decode cX7_choose 1 = .ok (.iload_n 0, 1) := by decide +kernel
theorem dX7_choose_2 : decode cX7_choose 2 = .ok (.if_icmp .le 5, 3) := by decide +kernel
theorem dX7_choose_5 : decode cX7_choose 5 = .ok (.lconst 0, 1) := by decide +kernel
theorem dX7_choose_6 : decode cX7_choose 6 = .ok (.lreturn, 1) := by decide +kernel
theorem dX7_choose_7 : decode cX7_choose 7 = .ok (.lconst 1, 1) := by decide +kernel
theorem dX7_choose_8 : decode cX7_choose 8 = .ok (.lstore_n 2, 1) := by decide +kernel
theorem dX7_choose_9 : decode cX7_choose 9 = .ok (.iconst 0, 1) := by decide +kernel
theorem dX7_choose_10 : decode cX7_choose 10 = .ok (.istore 4, 2) := by decide +kernel
theorem dX7_choose_12 : decode cX7_choose 12 = .ok (.iload 4, 2) := by decide +kernel
theorem dX7_choose_14 : decode cX7_choose 14 = .ok (.iload_n 1, 1) := by decide +kernel
theorem dX7_choose_15 : decode cX7_choose 15 = .ok (.if_icmp .ge 23, 3) := by decide +kernel
theorem dX7_choose_18 : decode cX7_choose 18 = .ok (.lload_n 2, 1) := by decide +kernel
theorem dX7_choose_19 : decode cX7_choose 19 = .ok (.iload_n 0, 1) := by decide +kernel
theorem dX7_choose_20 : decode cX7_choose 20 = .ok (.iload 4, 2) := by decide +kernel
theorem dX7_choose_22 : decode cX7_choose 22 = .ok (.isub, 1) := by decide +kernel
theorem dX7_choose_23 : decode cX7_choose 23 = .ok (.i2l, 1) := by decide +kernel
theorem dX7_choose_24 : decode cX7_choose 24 = .ok (.lmul, 1) := by decide +kernel
theorem dX7_choose_25 : decode cX7_choose 25 = .ok (.iload 4, 2) := by decide +kernel
theorem dX7_choose_27 : decode cX7_choose 27 = .ok (.iconst 1, 1) := by decide +kernel
theorem dX7_choose_28 : decode cX7_choose 28 = .ok (.iadd, 1) := by decide +kernel
theorem dX7_choose_29 : decode cX7_choose 29 = .ok (.i2l, 1) := by decide +kernel
theorem dX7_choose_30 : decode cX7_choose 30 = .ok (.ldiv, 1) := by decide +kernel
theorem dX7_choose_31 : decode cX7_choose 31 = .ok (.lstore_n 2, 1) := by decide +kernel
theorem dX7_choose_32 : decode cX7_choose 32 = .ok (.iinc 4 1, 3) := by decide +kernel
theorem dX7_choose_35 : decode cX7_choose 35 = .ok (.goto (-23), 3) := by decide +kernel
theorem dX7_choose_38 : decode cX7_choose 38 = .ok (.lload_n 2, 1) := by decide +kernel
theorem dX7_choose_39 : decode cX7_choose 39 = .ok (.lreturn, 1) := by decide +kernel
theorem dX7_commonDivisor_0 : decode cX7_commonDivisor 0 = .ok (.iconst 0, 1) := by decide +kernel
theorem dX7_commonDivisor_1 : decode cX7_commonDivisor 1 = .ok (.istore 4, 2) := by decide +kernel
theorem dX7_commonDivisor_3 : decode cX7_commonDivisor 3 = .ok (.iload 4, 2) := by decide +kernel
theorem dX7_commonDivisor_5 : decode cX7_commonDivisor 5 = .ok (.sipush 200, 3) := by decide +kernel
theorem dX7_commonDivisor_8 : decode cX7_commonDivisor 8 = .ok (.if_icmp .ge 25, 3) := by decide +kernel
theorem dX7_commonDivisor_11 : decode cX7_commonDivisor 11 = .ok (.lload_n 2, 1) := by decide +kernel
theorem dX7_commonDivisor_12 : decode cX7_commonDivisor 12 = .ok (.lconst 0, 1) := by decide +kernel
theorem dX7_commonDivisor_13 : decode cX7_commonDivisor 13 = .ok (.lcmp, 1) := by decide +kernel
theorem dX7_commonDivisor_14 : decode cX7_commonDivisor 14 = .ok (.ifCond .eq 19, 3) := by decide +kernel
theorem dX7_commonDivisor_17 : decode cX7_commonDivisor 17 = .ok (.lload_n 0, 1) := by decide +kernel
theorem dX7_commonDivisor_18 : decode cX7_commonDivisor 18 = .ok (.lload_n 2, 1) := by decide +kernel
theorem dX7_commonDivisor_19 : decode cX7_commonDivisor 19 = .ok (.lrem, 1) := by decide +kernel
theorem dX7_commonDivisor_20 : decode cX7_commonDivisor 20 = .ok (.lstore 5, 2) := by decide +kernel
theorem dX7_commonDivisor_22 : decode cX7_commonDivisor 22 = .ok (.lload_n 2, 1) := by decide +kernel
theorem dX7_commonDivisor_23 : decode cX7_commonDivisor 23 = .ok (.lstore_n 0, 1) := by decide +kernel
theorem dX7_commonDivisor_24 : decode cX7_commonDivisor 24 = .ok (.lload 5, 2) := by decide +kernel
theorem dX7_commonDivisor_26 : decode cX7_commonDivisor 26 = .ok (.lstore_n 2, 1) := by decide +kernel
theorem dX7_commonDivisor_27 : decode cX7_commonDivisor 27 = .ok (.iinc 4 1, 3) := by decide +kernel
theorem dX7_commonDivisor_30 : decode cX7_commonDivisor 30 = .ok (.goto (-27), 3) := by decide +kernel
theorem dX7_commonDivisor_33 : decode cX7_commonDivisor 33 = .ok (.lconst 1, 1) := by decide +kernel
theorem dX7_commonDivisor_34 : decode cX7_commonDivisor 34 = .ok (.lload_n 0, 1) := by decide +kernel
theorem dX7_commonDivisor_35 : decode cX7_commonDivisor 35 = .ok (.invokestatic 272, 3) := by decide +kernel
theorem dX7_commonDivisor_38 : decode cX7_commonDivisor 38 = .ok (.lreturn, 1) := by decide +kernel
end
section
theorem dX8_init_0 : decode cX8_init 0 = .ok (.aload_n 0, 1) := by decide +kernel
theorem dX8_init_1 : decode cX8_init 1 = .ok (.invokespecial 1, 3) := by decide +kernel
theorem dX8_init_4 : decode cX8_init 4 = .ok (.aload_n 0, 1) := by decide +kernel
theorem dX8_init_5 : decode cX8_init 5 = .ok (.sipush 160, 3) := by decide +kernel
theorem dX8_init_8 : decode cX8_init 8 = .ok (.newarray .int, 2) := by decide +kernel
theorem dX8_init_10 : decode cX8_init 10 = .ok (.putfield 7, 3) := by decide +kernel
theorem dX8_init_13 : decode cX8_init 13 = .ok (.aload_n 0, 1) := by decide +kernel
theorem dX8_init_14 : decode cX8_init 14 = .ok (.bipush 60, 2) := by decide +kernel
theorem dX8_init_16 : decode cX8_init 16 = .ok (.newarray .int, 2) := by decide +kernel
theorem dX8_init_18 : decode cX8_init 18 = .ok (.putfield 13, 3) := by decide +kernel
theorem dX8_init_21 : decode cX8_init 21 = .ok (.aload_n 0, 1) := by decide +kernel
theorem dX8_init_22 : decode cX8_init 22 = .ok (.bipush 60, 2) := by decide +kernel
theorem dX8_init_24 : decode cX8_init 24 = .ok (.newarray .long, 2) := by decide +kernel
theorem dX8_init_26 : decode cX8_init 26 = .ok (.putfield 16, 3) := by decide +kernel
theorem dX8_init_29 : decode cX8_init 29 = .ok (.aload_n 0, 1) := by decide +kernel
theorem dX8_init_30 : decode cX8_init 30 = .ok (.bipush 60, 2) := by decide +kernel
theorem dX8_init_32 : decode cX8_init 32 = .ok (.newarray .int, 2) := by decide +kernel
theorem dX8_init_34 : decode cX8_init 34 = .ok (.putfield 20, 3) := by decide +kernel
theorem dX8_init_37 : decode cX8_init 37 = .ok (.aload_n 0, 1) := by decide +kernel
theorem dX8_init_38 : decode cX8_init 38 = .ok (.bipush 60, 2) := by decide +kernel
theorem dX8_init_40 : decode cX8_init 40 = .ok (.newarray .int, 2) := by decide +kernel
theorem dX8_init_42 : decode cX8_init 42 = .ok (.putfield 23, 3) := by decide +kernel
theorem dX8_init_45 : decode cX8_init 45 = .ok (.aload_n 0, 1) := by decide +kernel
theorem dX8_init_46 : decode cX8_init 46 = .ok (.bipush 60, 2) := by decide +kernel
theorem dX8_init_48 : decode cX8_init 48 = .ok (.newarray .long, 2) := by decide +kernel
theorem dX8_init_50 : decode cX8_init 50 = .ok (.putfield 26, 3) := by decide +kernel
theorem dX8_init_53 : decode cX8_init 53 = .ok (.aload_n 0, 1) := by decide +kernel
theorem dX8_init_54 : decode cX8_init 54 = .ok (.bipush 60, 2) := by decide +kernel
theorem dX8_init_56 : decode cX8_init 56 = .ok (.newarray .int, 2) := by decide +kernel
theorem dX8_init_58 : decode cX8_init 58 = .ok (.putfield 29, 3) := by decide +kernel
theorem dX8_init_61 : decode cX8_init 61 = .ok (.aload_n 0, 1) := by decide +kernel
theorem dX8_init_62 : decode cX8_init 62 = .ok (.iconst 4, 1) := by decide +kernel
theorem dX8_init_63 : decode cX8_init 63 = .ok (.newarray .int, 2) := by decide +kernel
theorem dX8_init_65 : decode cX8_init 65 = .ok (.putfield 32, 3) := by decide +kernel
theorem dX8_init_68 : decode cX8_init 68 = .ok (.aload_n 0, 1) := by decide +kernel
theorem dX8_init_69 : decode cX8_init 69 = .ok (.iconst 4, 1) := by decide +kernel
theorem dX8_init_70 : decode cX8_init 70 = .ok (.newarray .int, 2) := by decide +kernel
theorem dX8_init_72 : decode cX8_init 72 = .ok (.putfield 35, 3) := by decide +kernel
theorem dX8_init_75 : decode cX8_init 75 = .ok (.aload_n 0, 1) := by decide +kernel
theorem dX8_init_76 : decode cX8_init 76 = .ok (.bipush 44, 2) := by decide +kernel
theorem dX8_init_78 : decode cX8_init 78 = .ok (.newarray .int, 2) := by decide +kernel
theorem dX8_init_80 : decode cX8_init 80 = .ok (.putfield 38, 3) := by decide +kernel
theorem dX8_init_83 : decode cX8_init 83 = .ok (.aload_n 0, 1) := by decide +kernel
theorem dX8_init_84 : decode cX8_init 84 = .ok (.iconst 4, 1) := by decide +kernel
theorem dX8_init_85 : decode cX8_init 85 = .ok (.newarray .int, 2) := by decide +kernel
theorem dX8_init_87 : decode cX8_init 87 = .ok (.putfield 41, 3) := by decide +kernel
theorem dX8_init_90 : decode cX8_init 90 = .ok (.aload_n 0, 1) := by decide +kernel
theorem dX8_init_91 : decode cX8_init 91 = .ok (.iconst 4, 1) := by decide +kernel
theorem dX8_init_92 : decode cX8_init 92 = .ok (.newarray .int, 2) := by decide +kernel
theorem dX8_init_94 : decode cX8_init 94 = .ok (.putfield 44, 3) := by decide +kernel
theorem dX8_init_97 : decode cX8_init 97 = .ok (.aload_n 0, 1) := by decide +kernel
theorem dX8_init_98 : decode cX8_init 98 = .ok (.iconst 4, 1) := by decide +kernel
theorem dX8_init_99 : decode cX8_init 99 = .ok (.newarray .int, 2) := by decide +kernel
theorem dX8_init_101 : decode cX8_init 101 = .ok (.putfield 47, 3) := by decide +kernel
theorem dX8_init_104 : decode cX8_init 104 = .ok (.aload_n 0, 1) := by decide +kernel
theorem dX8_init_105 : decode cX8_init 105 = .ok (.iconst 4, 1) := by decide +kernel
theorem dX8_init_106 : decode cX8_init 106 = .ok (.newarray .int, 2) := by decide +kernel
theorem dX8_init_108 : decode cX8_init 108 = .ok (.putfield 50, 3) := by decide +kernel
theorem dX8_init_111 : decode cX8_init 111 = .ok (.aload_n 0, 1) := by decide +kernel
theorem dX8_init_112 : decode cX8_init 112 = .ok (.sipush 240, 3) := by decide +kernel
theorem dX8_init_115 : decode cX8_init 115 = .ok (.newarray .int, 2) := by decide +kernel
theorem dX8_init_117 : decode cX8_init 117 = .ok (.putfield 53, 3) := by decide +kernel
theorem dX8_init_120 : decode cX8_init 120 = .ok (.aload_n 0, 1) := by decide +kernel
theorem dX8_init_121 : decode cX8_init 121 = .ok (.bipush 8, 2) := by decide +kernel
theorem dX8_init_123 : decode cX8_init 123 = .ok (.newarray .long, 2) := by decide +kernel
theorem dX8_init_125 : decode cX8_init 125 = .ok (.putfield 56, 3) := by decide +kernel
theorem dX8_init_128 : decode cX8_init 128 = .ok (.aload_n 0, 1) := by decide +kernel
theorem dX8_init_129 : decode cX8_init 129 = .ok (.bipush 16, 2) := by decide +kernel
theorem dX8_init_131 : decode cX8_init 131 = .ok (.newarray .long, 2) := by decide +kernel
theorem dX8_init_133 : decode cX8_init 133 = .ok (.putfield 59, 3) := by decide +kernel
theorem dX8_init_136 : decode cX8_init 136 = .ok (.aload_n 0, 1) := by decide +kernel
theorem dX8_init_137 : decode cX8_init 137 = .ok (.iconst 4, 1) := by decide +kernel
theorem dX8_init_138 : decode cX8_init 138 = .ok (.newarray .int, 2) := by decide +kernel
theorem dX8_init_140 : decode cX8_init 140 = .ok (.putfield 62, 3) := by decide +kernel
theorem dX8_init_143 : decode cX8_init 143 = .ok (.aload_n 0, 1) := by decide +kernel
theorem dX8_init_144 : decode cX8_init 144 = .ok (.iconst 4, 1) := by decide +kernel
theorem dX8_init_145 : decode cX8_init 145 = .ok (.newarray .long, 2) := by decide +kernel
theorem dX8_init_147 : decode cX8_init 147 = .ok (.putfield 65, 3) := by decide +kernel
theorem dX8_init_150 : decode cX8_init 150 = .ok (.aload_n 0, 1) := by decide +kernel
theorem dX8_init_151 : decode cX8_init 151 = .ok (.bipush 64, 2) := by decide +kernel
theorem dX8_init_153 : decode cX8_init 153 = .ok (.newarray .int, 2) := by decide +kernel
theorem dX8_init_155 : decode cX8_init 155 = .ok (.putfield 68, 3) := by decide +kernel
theorem dX8_init_158 : decode cX8_init 158 = .ok (.aload_n 0, 1) := by decide +kernel
theorem dX8_init_159 : decode cX8_init 159 = .ok (.bipush 16, 2) := by decide +kernel
theorem dX8_init_161 : decode cX8_init 161 = .ok (.newarray .boolean, 2) := by decide +kernel
theorem dX8_init_163 : decode cX8_init 163 = .ok (.putfield 71, 3) := by decide +kernel
theorem dX8_init_166 : decode cX8_init 166 = .ok (.aload_n 0, 1) := by decide +kernel
theorem dX8_init_167 : decode cX8_init 167 = .ok (.bipush 16, 2) := by decide +kernel
theorem dX8_init_169 : decode cX8_init 169 = .ok (.newarray .long, 2) := by decide +kernel
theorem dX8_init_171 : decode cX8_init 171 = .ok (.putfield 75, 3) := by decide +kernel
theorem dX8_init_174 : decode cX8_init 174 = .ok (.aload_n 0, 1) := by decide +kernel
theorem dX8_init_175 : decode cX8_init 175 = .ok (.getfield 32, 3) := by decide +kernel
theorem dX8_init_178 : decode cX8_init 178 = .ok (.iconst 0, 1) := by decide +kernel
theorem dX8_init_179 : decode cX8_init 179 = .ok (.iconst 1, 1) := by decide +kernel
theorem dX8_init_180 : decode cX8_init 180 = .ok (.iastore, 1) := by decide +kernel
theorem dX8_init_181 : decode cX8_init 181 = .ok (.aload_n 0, 1) := by decide +kernel
theorem dX8_init_182 : decode cX8_init 182 = .ok (.getfield 32, 3) := by decide +kernel
theorem dX8_init_185 : decode cX8_init 185 = .ok (.iconst 1, 1) := by decide +kernel
theorem dX8_init_186 : decode cX8_init 186 = .ok (.iconst 3, 1) := by decide +kernel
theorem dX8_init_187 : decode cX8_init 187 = .ok (.iastore, 1) := by decide +kernel
theorem dX8_init_188 : decode cX8_init 188 = .ok (.aload_n 0, 1) := by decide +kernel
theorem dX8_init_189 : decode cX8_init 189 = .ok (.getfield 32, 3) := by decide +kernel
theorem dX8_init_192 : decode cX8_init 192 = .ok (.iconst 2, 1) := by decide +kernel
theorem dX8_init_193 : decode cX8_init 193 = .ok (.bipush 50, 2) := by decide +kernel
theorem dX8_init_195 : decode cX8_init 195 = .ok (.iastore, 1) := by decide +kernel
theorem dX8_init_196 : decode cX8_init 196 = .ok (.aload_n 0, 1) := by decide +kernel
theorem dX8_init_197 : decode cX8_init 197 = .ok (.getfield 32, 3) := by decide +kernel
theorem dX8_init_200 : decode cX8_init 200 = .ok (.iconst 3, 1) := by decide +kernel
theorem dX8_init_201 : decode cX8_init 201 = .ok (.iconst 4, 1) := by decide +kernel
theorem dX8_init_202 : decode cX8_init 202 = .ok (.iastore, 1) := by decide +kernel
theorem dX8_init_203 : decode cX8_init 203 = .ok (.iconst 0, 1) := by decide +kernel
theorem dX8_init_204 : decode cX8_init 204 = .ok (.istore_n 1, 1) := by decide +kernel
theorem dX8_init_205 : decode cX8_init 205 = .ok (.iload_n 1, 1) := by decide +kernel
theorem dX8_init_206 : decode cX8_init 206 = .ok (.iconst 4, 1) := by decide +kernel
theorem dX8_init_207 : decode cX8_init 207 = .ok (.if_icmp .ge 25, 3) := by decide +kernel
theorem dX8_init_210 : decode cX8_init 210 = .ok (.aload_n 0, 1) := by decide +kernel
theorem dX8_init_211 : decode cX8_init 211 = .ok (.getfield 44, 3) := by decide +kernel
theorem dX8_init_214 : decode cX8_init 214 = .ok (.iload_n 1, 1) := by decide +kernel
theorem dX8_init_215 : decode cX8_init 215 = .ok (.bipush (-2), 2) := by decide +kernel
theorem dX8_init_217 : decode cX8_init 217 = .ok (.iastore, 1) := by decide +kernel
theorem dX8_init_218 : decode cX8_init 218 = .ok (.aload_n 0, 1) := by decide +kernel
theorem dX8_init_219 : decode cX8_init 219 = .ok (.getfield 47, 3) := by decide +kernel
theorem dX8_init_222 : decode cX8_init 222 = .ok (.iload_n 1, 1) := by decide +kernel
theorem dX8_init_223 : decode cX8_init 223 = .ok (.bipush (-2), 2) := by decide +kernel
theorem dX8_init_225 : decode cX8_init 225 = .ok (.iastore, 1) := by decide +kernel
theorem dX8_init_226 : decode cX8_init 226 = .ok (.iinc 1 1, 3) := by decide +kernel
theorem dX8_init_229 : decode cX8_init 229 = .ok (.goto (-24), 3) := by decide +kernel
theorem dX8_init_232 : decode cX8_init 232 = .ok (.aload_n 0, 1) := by decide +kernel
theorem dX8_init_233 : decode cX8_init 233 = .ok (.iconst 0, 1) := by decide +kernel
theorem dX8_init_234 : decode cX8_init 234 = .ok (.iconst 1, 1) := by decide +kernel
theorem dX8_init_235 : decode cX8_init 235 = .ok (.invokevirtual 78, 3) := by decide +kernel
theorem dX8_init_238 : decode cX8_init 238 = .ok (.istore_n 1, 1) := by decide +kernel
theorem dX8_init_239 : decode cX8_init 239 = .ok (.return_, 1) := by decide +kernel
theorem dX8_in_0 : decode cX8_in 0 = .ok (.lload_n 0, 1) := by decide +kernel
theorem dX8_in_1 : decode cX8_in 1 = .ok (.lload_n 2, 1) := by decide +kernel
theorem dX8_in_2 : decode cX8_in 2 = .ok (.lcmp, 1) := by decide +kernel
theorem dX8_in_3 : decode cX8_in 3 = .ok (.ifCond .lt 14, 3) := by decide +kernel
theorem dX8_in_6 : decode cX8_in 6 = .ok (.lload_n 0, 1) := by decide +kernel
theorem dX8_in_7 : decode cX8_in 7 = .ok (.lload 4, 2) := by decide +kernel
theorem dX8_in_9 : decode cX8_in 9 = .ok (.lcmp, 1) := by decide +kernel
theorem dX8_in_10 : decode cX8_in 10 = .ok (.ifCond .gt 7, 3) := by decide +kernel
theorem dX8_in_13 : decode cX8_in 13 = .ok (.iconst 1, 1) := by decide +kernel
theorem dX8_in_14 : decode cX8_in 14 = .ok (.goto 4, 3) := by decide +kernel
theorem dX8_in_17 : decode cX8_in 17 = .ok (.iconst 0, 1) := by decide +kernel
theorem dX8_in_18 : decode cX8_in 18 = .ok (.ireturn, 1) := by decide +kernel
theorem dX8_mix_0 : decode cX8_mix 0 = .ok (.lload_n 0, 1) := by decide +kernel
theorem dX8_mix_1 : decode cX8_mix 1 = .ok (.lload_n 0, 1) := by decide +kernel
theorem dX8_mix_2 : decode cX8_mix 2 = .ok (.bipush 30, 2) := by decide +kernel
theorem dX8_mix_4 : decode cX8_mix 4 = .ok (.lushr, 1) := by decide +kernel
theorem dX8_mix_5 : decode cX8_mix 5 = .ok (.lxor, 1) := by decide +kernel
theorem dX8_mix_6 : decode cX8_mix 6 = .ok (.ldc2_w 82, 3) := by decide +kernel
theorem dX8_mix_9 : decode cX8_mix 9 = .ok (.lmul, 1) := by decide +kernel
theorem dX8_mix_10 : decode cX8_mix 10 = .ok (.lstore_n 2, 1) := by decide +kernel
theorem dX8_mix_11 : decode cX8_mix 11 = .ok (.lload_n 2, 1) := by decide +kernel
theorem dX8_mix_12 : decode cX8_mix 12 = .ok (.lload_n 2, 1) := by decide +kernel
theorem dX8_mix_13 : decode cX8_mix 13 = .ok (.bipush 27, 2) := by decide +kernel
theorem dX8_mix_15 : decode cX8_mix 15 = .ok (.lushr, 1) := by decide +kernel
theorem dX8_mix_16 : decode cX8_mix 16 = .ok (.lxor, 1) := by decide +kernel
theorem dX8_mix_17 : decode cX8_mix 17 = .ok (.ldc2_w 84, 3) := by decide +kernel
theorem dX8_mix_20 : decode cX8_mix 20 = .ok (.lmul, 1) := by decide +kernel
theorem dX8_mix_21 : decode cX8_mix 21 = .ok (.lstore_n 2, 1) := by decide +kernel
theorem dX8_mix_22 : decode cX8_mix 22 = .ok (.lload_n 2, 1) := by decide +kernel
theorem dX8_mix_23 : decode cX8_mix 23 = .ok (.lload_n 2, 1) := by decide +kernel
theorem dX8_mix_24 : decode cX8_mix 24 = .ok (.bipush 31, 2) := by decide +kernel
theorem dX8_mix_26 : decode cX8_mix 26 = .ok (.lushr, 1) := by decide +kernel
theorem dX8_mix_27 : decode cX8_mix 27 = .ok (.lxor, 1) := by decide +kernel
theorem dX8_mix_28 : decode cX8_mix 28 = .ok (.lreturn, 1) := by decide +kernel
theorem dX8_pair_0 : decode cX8_pair 0 = .ok (.lload_n 0, 1) := by decide +kernel
theorem dX8_pair_1 : decode cX8_pair 1 = .ok (.invokestatic 86, 3) := by decide +kernel
theorem dX8_pair_4 : decode cX8_pair 4 = .ok (.ldc2_w 90, 3) := by decide +kernel
theorem dX8_pair_7 : decode cX8_pair 7 = .ok (.lload_n 2, 1) := by decide +kernel
theorem dX8_pair_8 : decode cX8_pair 8 = .ok (.invokestatic 86, 3) := by decide +kernel
theorem dX8_pair_11 : decode cX8_pair 11 = .ok (.lmul, 1) := by decide +kernel
theorem dX8_pair_12 : decode cX8_pair 12 = .ok (.ladd, 1) := by decide +kernel
theorem dX8_pair_13 : decode cX8_pair 13 = .ok (.ldc2_w 92, 3) := by decide +kernel
theorem dX8_pair_16 : decode cX8_pair 16 = .ok (.ladd, 1) := by decide +kernel
theorem dX8_pair_17 : decode cX8_pair 17 = .ok (.invokestatic 86, 3) := by decide +kernel
theorem dX8_pair_20 : decode cX8_pair 20 = .ok (.lreturn, 1) := by decide +kernel
theorem dX8_set_0 : decode cX8_set 0 = .ok (.lload_n 1, 1) := by decide +kernel
theorem dX8_set_1 : decode cX8_set 1 = .ok (.lconst 0, 1) := by decide +kernel
theorem dX8_set_2 : decode cX8_set 2 = .ok (.ldc2_w 94, 3) := by decide +kernel
theorem dX8_set_5 : decode cX8_set 5 = .ok (.invokestatic 96, 3) := by decide +kernel
theorem dX8_set_8 : decode cX8_set 8 = .ok (.ifCond .eq 18, 3) := by decide +kernel
theorem dX8_set_11 : decode cX8_set 11 = .ok (.lload_n 3, 1) := by decide +kernel
theorem dX8_set_12 : decode cX8_set 12 = .ok (.lconst 0, 1) := by decide +kernel
theorem dX8_set_13 : decode cX8_set 13 = .ok (.ldc2_w 94, 3) := by decide +kernel
theorem dX8_set_16 : decode cX8_set 16 = .ok (.invokestatic 96, 3) := by decide +kernel
theorem dX8_set_19 : decode cX8_set 19 = .ok (.ifCond .eq 7, 3) := by decide +kernel
theorem dX8_set_22 : decode cX8_set 22 = .ok (.iconst 1, 1) := by decide +kernel
theorem dX8_set_23 : decode cX8_set 23 = .ok (.goto 4, 3) := by decide +kernel
theorem dX8_set_26 : decode cX8_set 26 = .ok (.iconst 0, 1) := by decide +kernel
theorem dX8_set_27 : decode cX8_set 27 = .ok (.istore 5, 2) := by decide +kernel
theorem dX8_set_29 : decode cX8_set 29 = .ok (.iconst 0, 1) := by decide +kernel
theorem dX8_set_30 : decode cX8_set 30 = .ok (.istore 6, 2) := by decide +kernel
theorem dX8_set_32 : decode cX8_set 32 = .ok (.iload 6, 2) := by decide +kernel
theorem dX8_set_34 : decode cX8_set 34 = .ok (.bipush 10, 2) := by decide +kernel
theorem dX8_set_36 : decode cX8_set 36 = .ok (.if_icmp .ge 51, 3) := by decide +kernel
theorem dX8_set_39 : decode cX8_set 39 = .ok (.iload 5, 2) := by decide +kernel
theorem dX8_set_41 : decode cX8_set 41 = .ok (.ifCond .eq 37, 3) := by decide +kernel
theorem dX8_set_44 : decode cX8_set 44 = .ok (.iload 6, 2) := by decide +kernel
theorem dX8_set_46 : decode cX8_set 46 = .ok (.iconst 5, 1) := by decide +kernel
theorem dX8_set_47 : decode cX8_set 47 = .ok (.if_icmp .ge 7, 3) := by decide +kernel
theorem dX8_set_50 : decode cX8_set 50 = .ok (.lload_n 1, 1) := by decide +kernel
theorem dX8_set_51 : decode cX8_set 51 = .ok (.goto 4, 3) := by decide +kernel
theorem dX8_set_54 : decode cX8_set 54 = .ok (.lload_n 3, 1) := by decide +kernel
theorem dX8_set_55 : decode cX8_set 55 = .ok (.bipush 7, 2) := by decide +kernel
theorem dX8_set_57 : decode cX8_set 57 = .ok (.iload 6, 2) := by decide +kernel
theorem dX8_set_59 : decode cX8_set 59 = .ok (.iconst 5, 1) := by decide +kernel
theorem dX8_set_60 : decode cX8_set 60 = .ok (.irem, 1) := by decide +kernel
theorem dX8_set_61 : decode cX8_set 61 = .ok (.imul, 1) := by decide +kernel
theorem dX8_set_62 : decode cX8_set 62 = .ok (.lshr, 1) := by decide +kernel
theorem dX8_set_63 : decode cX8_set 63 = .ok (.ldc2_w 100, 3) := by decide +kernel
theorem dX8_set_66 : decode cX8_set 66 = .ok (.land, 1) := by decide +kernel
theorem dX8_set_67 : decode cX8_set 67 = .ok (.ldc2_w 102, 3) := by decide +kernel
theorem dX8_set_70 : decode cX8_set 70 = .ok (.lcmp, 1) := by decide +kernel
theorem dX8_set_71 : decode cX8_set 71 = .ok (.ifCond .gt 7, 3) := by decide +kernel
theorem dX8_set_74 : decode cX8_set 74 = .ok (.iconst 1, 1) := by decide +kernel
theorem dX8_set_75 : decode cX8_set 75 = .ok (.goto 4, 3) := by decide +kernel
theorem dX8_set_78 : decode cX8_set 78 = .ok (.iconst 0, 1) := by decide +kernel
theorem dX8_set_79 : decode cX8_set 79 = .ok (.istore 5, 2) := by decide +kernel
theorem dX8_set_81 : decode cX8_set 81 = .ok (.iinc 6 1, 3) := by decide +kernel
theorem dX8_set_84 : decode cX8_set 84 = .ok (.goto (-52), 3) := by decide +kernel
theorem dX8_set_87 : decode cX8_set 87 = .ok (.iload 5, 2) := by decide +kernel
theorem dX8_set_89 : decode cX8_set 89 = .ok (.ifCond .ne 5, 3) := by decide +kernel
theorem dX8_set_92 : decode cX8_set 92 = .ok (.iconst (-1), 1) := by decide +kernel
theorem dX8_set_93 : decode cX8_set 93 = .ok (.ireturn, 1) := by decide +kernel
theorem dX8_set_94 : decode cX8_set 94 = .ok (.aload_n 0, 1) := by decide +kernel
theorem dX8_set_95 : decode cX8_set 95 = .ok (.getfield 104, 3) := by decide +kernel
theorem dX8_set_98 : decode cX8_set 98 = .ok (.bipush 16, 2) := by decide +kernel
theorem dX8_set_100 : decode cX8_set 100 = .ok (.if_icmp .ne 6, 3) := by decide +kernel
theorem dX8_set_103 : decode cX8_set 103 = .ok (.bipush (-3), 2) := by decide +kernel
theorem dX8_set_105 : decode cX8_set 105 = .ok (.ireturn, 1) := by decide +kernel
theorem dX8_set_106 : decode cX8_set 106 = .ok (.iconst 0, 1) := by decide +kernel
theorem dX8_set_107 : decode cX8_set 107 = .ok (.istore 6, 2) := by decide +kernel
theorem dX8_set_109 : decode cX8_set 109 = .ok (.iload 6, 2) := by decide +kernel
theorem dX8_set_111 : decode cX8_set 111 = .ok (.bipush 10, 2) := by decide +kernel
theorem dX8_set_113 : decode cX8_set 113 = .ok (.if_icmp .ge 48, 3) := by decide +kernel
theorem dX8_set_116 : decode cX8_set 116 = .ok (.aload_n 0, 1) := by decide +kernel
theorem dX8_set_117 : decode cX8_set 117 = .ok (.getfield 7, 3) := by decide +kernel
theorem dX8_set_120 : decode cX8_set 120 = .ok (.bipush 10, 2) := by decide +kernel
theorem dX8_set_122 : decode cX8_set 122 = .ok (.aload_n 0, 1) := by decide +kernel
theorem dX8_set_123 : decode cX8_set 123 = .ok (.getfield 104, 3) := by decide +kernel
theorem dX8_set_126 : decode cX8_set 126 = .ok (.imul, 1) := by decide +kernel
theorem dX8_set_127 : decode cX8_set 127 = .ok (.iload 6, 2) := by decide +kernel
theorem dX8_set_129 : decode cX8_set 129 = .ok (.iadd, 1) := by decide +kernel
theorem dX8_set_130 : decode cX8_set 130 = .ok (.iload 6, 2) := by decide +kernel
theorem dX8_set_132 : decode cX8_set 132 = .ok (.iconst 5, 1) := by decide +kernel
theorem dX8_set_133 : decode cX8_set 133 = .ok (.if_icmp .ge 7, 3) := by decide +kernel
theorem dX8_set_136 : decode cX8_set 136 = .ok (.lload_n 1, 1) := by decide +kernel
theorem dX8_set_137 : decode cX8_set 137 = .ok (.goto 4, 3) := by decide +kernel
theorem dX8_set_140 : decode cX8_set 140 = .ok (.lload_n 3, 1) := by decide +kernel
theorem dX8_set_141 : decode cX8_set 141 = .ok (.bipush 7, 2) := by decide +kernel
theorem dX8_set_143 : decode cX8_set 143 = .ok (.iload 6, 2) := by decide +kernel
theorem dX8_set_145 : decode cX8_set 145 = .ok (.iconst 5, 1) := by decide +kernel
theorem dX8_set_146 : decode cX8_set 146 = .ok (.irem, 1) := by decide +kernel
theorem dX8_set_147 : decode cX8_set 147 = .ok (.imul, 1) := by decide +kernel
theorem dX8_set_148 : decode cX8_set 148 = .ok (.lshr, 1) := by decide +kernel
theorem dX8_set_149 : decode cX8_set 149 = .ok (.ldc2_w 100, 3) := by decide +kernel
theorem dX8_set_152 : decode cX8_set 152 = .ok (.land, 1) := by decide +kernel
theorem dX8_set_153 : decode cX8_set 153 = .ok (.l2i, 1) := by decide +kernel
theorem dX8_set_154 : decode cX8_set 154 = .ok (.iastore, 1) := by decide +kernel
theorem dX8_set_155 : decode cX8_set 155 = .ok (.iinc 6 1, 3) := by decide +kernel
theorem dX8_set_158 : decode cX8_set 158 = .ok (.goto (-49), 3) := by decide +kernel
theorem dX8_set_161 : decode cX8_set 161 = .ok (.aload_n 0, 1) := by decide +kernel
theorem dX8_set_162 : decode cX8_set 162 = .ok (.dup, 1) := by decide +kernel
theorem dX8_set_163 : decode cX8_set 163 = .ok (.getfield 104, 3) := by decide +kernel
theorem dX8_set_166 : decode cX8_set 166 = .ok (.iconst 1, 1) := by decide +kernel
theorem dX8_set_167 : decode cX8_set 167 = .ok (.iadd, 1) := by decide +kernel
theorem dX8_set_168 : decode cX8_set 168 = .ok (.putfield 104, 3) := by decide +kernel
theorem dX8_set_171 : decode cX8_set 171 = .ok (.aload_n 0, 1) := by decide +kernel
theorem dX8_set_172 : decode cX8_set 172 = .ok (.getfield 104, 3) := by decide +kernel
theorem dX8_set_175 : decode cX8_set 175 = .ok (.iconst 1, 1) := by decide +kernel
theorem dX8_set_176 : decode cX8_set 176 = .ok (.isub, 1) := by decide +kernel
theorem dX8_set_177 : decode cX8_set 177 = .ok (.ireturn, 1) := by decide +kernel
theorem dX8_isSet_0 : decode cX8_isSet 0 = .ok (.iload_n 1, 1) := by decide +kernel
theorem dX8_isSet_1 : decode cX8_isSet 1 = .ok (.i2l, 1) := by decide +kernel
theorem dX8_isSet_2 : decode cX8_isSet 2 = .ok (.lconst 0, 1) := by decide +kernel
theorem dX8_isSet_3 : decode cX8_isSet 3 = .ok (.aload_n 0, 1) := by decide +kernel
theorem dX8_isSet_4 : decode cX8_isSet 4 = .ok (.getfield 104, 3) := by decide +kernel
theorem dX8_isSet_7 : decode cX8_isSet 7 = .ok (.iconst 1, 1) := by decide +kernel
theorem dX8_isSet_8 : decode cX8_isSet 8 = .ok (.isub, 1) := by decide +kernel
theorem dX8_isSet_9 : decode cX8_isSet 9 = .ok (.i2l, 1) := by decide +kernel
theorem dX8_isSet_10 : decode cX8_isSet 10 = .ok (.invokestatic 96, 3) := by decide +kernel
theorem dX8_isSet_13 : decode cX8_isSet 13 = .ok (.ireturn, 1) := by decide +kernel
theorem dX8_isHead_0 : decode cX8_isHead 0 = .ok (.iload_n 1, 1) := by decide +kernel
theorem dX8_isHead_1 : decode cX8_isHead 1 = .ok (.i2l, 1) := by decide +kernel
theorem dX8_isHead_2 : decode cX8_isHead 2 = .ok (.lconst 0, 1) := by decide +kernel
theorem dX8_isHead_3 : decode cX8_isHead 3 = .ok (.aload_n 0, 1) := by decide +kernel
theorem dX8_isHead_4 : decode cX8_isHead 4 = .ok (.getfield 108, 3) := by decide +kernel
theorem dX8_isHead_7 : decode cX8_isHead 7 = .ok (.iconst 1, 1) := by decide +kernel
theorem dX8_isHead_8 : decode cX8_isHead 8 = .ok (.isub, 1) := by decide +kernel
theorem dX8_isHead_9 : decode cX8_isHead 9 = .ok (.i2l, 1) := by decide +kernel
theorem dX8_isHead_10 : decode cX8_isHead 10 = .ok (.invokestatic 96, 3) := by decide +kernel
theorem dX8_isHead_13 : decode cX8_isHead 13 = .ok (.ireturn, 1) := by decide +kernel
theorem dX8_head_0 : decode cX8_head 0 = .ok (.iload_n 1, 1) := by decide +kernel
theorem dX8_head_1 : decode cX8_head 1 = .ok (.i2l, 1) := by decide +kernel
theorem dX8_head_2 : decode cX8_head 2 = .ok (.lconst 0, 1) := by decide +kernel
theorem dX8_head_3 : decode cX8_head 3 = .ok (.ldc2_w 111, 3) := by decide +kernel
theorem dX8_head_6 : decode cX8_head 6 = .ok (.invokestatic 96, 3) := by decide +kernel
theorem dX8_head_9 : decode cX8_head 9 = .ok (.ifCond .eq 21, 3) := by decide +kernel
theorem dX8_head_12 : decode cX8_head 12 = .ok (.aload_n 0, 1) := by decide +kernel
theorem dX8_head_13 : decode cX8_head 13 = .ok (.iload 4, 2) := by decide +kernel
theorem dX8_head_15 : decode cX8_head 15 = .ok (.invokevirtual 113, 3) := by decide +kernel
theorem dX8_head_18 : decode cX8_head 18 = .ok (.ifCond .eq 12, 3) := by decide +kernel
theorem dX8_head_21 : decode cX8_head 21 = .ok (.aload_n 0, 1) := by decide +kernel
theorem dX8_head_22 : decode cX8_head 22 = .ok (.iload 5, 2) := by decide +kernel
theorem dX8_head_24 : decode cX8_head 24 = .ok (.invokevirtual 113, 3) := by decide +kernel
theorem dX8_head_27 : decode cX8_head 27 = .ok (.ifCond .ne 5, 3) := by decide +kernel
theorem dX8_head_30 : decode cX8_head 30 = .ok (.iconst (-1), 1) := by decide +kernel
theorem dX8_head_31 : decode cX8_head 31 = .ok (.ireturn, 1) := by decide +kernel
theorem dX8_head_32 : decode cX8_head 32 = .ok (.aload_n 0, 1) := by decide +kernel
theorem dX8_head_33 : decode cX8_head 33 = .ok (.getfield 108, 3) := by decide +kernel
theorem dX8_head_36 : decode cX8_head 36 = .ok (.bipush 60, 2) := by decide +kernel
theorem dX8_head_38 : decode cX8_head 38 = .ok (.if_icmp .ne 6, 3) := by decide +kernel
theorem dX8_head_41 : decode cX8_head 41 = .ok (.bipush (-3), 2) := by decide +kernel
theorem dX8_head_43 : decode cX8_head 43 = .ok (.ireturn, 1) := by decide +kernel
theorem dX8_head_44 : decode cX8_head 44 = .ok (.aload_n 0, 1) := by decide +kernel
theorem dX8_head_45 : decode cX8_head 45 = .ok (.getfield 13, 3) := by decide +kernel
theorem dX8_head_48 : decode cX8_head 48 = .ok (.aload_n 0, 1) := by decide +kernel
theorem dX8_head_49 : decode cX8_head 49 = .ok (.getfield 108, 3) := by decide +kernel
theorem dX8_head_52 : decode cX8_head 52 = .ok (.iload_n 1, 1) := by decide +kernel
theorem dX8_head_53 : decode cX8_head 53 = .ok (.iastore, 1) := by decide +kernel
theorem dX8_head_54 : decode cX8_head 54 = .ok (.aload_n 0, 1) := by decide +kernel
theorem dX8_head_55 : decode cX8_head 55 = .ok (.getfield 16, 3) := by decide +kernel
theorem dX8_head_58 : decode cX8_head 58 = .ok (.aload_n 0, 1) := by decide +kernel
theorem dX8_head_59 : decode cX8_head 59 = .ok (.getfield 108, 3) := by decide +kernel
theorem dX8_head_62 : decode cX8_head 62 = .ok (.lload_n 2, 1) := by decide +kernel
theorem dX8_head_63 : decode cX8_head 63 = .ok (.lastore, 1) := by decide +kernel
theorem dX8_head_64 : decode cX8_head 64 = .ok (.aload_n 0, 1) := by decide +kernel
theorem dX8_head_65 : decode cX8_head 65 = .ok (.getfield 20, 3) := by decide +kernel
theorem dX8_head_68 : decode cX8_head 68 = .ok (.aload_n 0, 1) := by decide +kernel
theorem dX8_head_69 : decode cX8_head 69 = .ok (.getfield 108, 3) := by decide +kernel
theorem dX8_head_72 : decode cX8_head 72 = .ok (.iload 4, 2) := by decide +kernel
theorem dX8_head_74 : decode cX8_head 74 = .ok (.iastore, 1) := by decide +kernel
theorem dX8_head_75 : decode cX8_head 75 = .ok (.aload_n 0, 1) := by decide +kernel
theorem dX8_head_76 : decode cX8_head 76 = .ok (.getfield 23, 3) := by decide +kernel
theorem dX8_head_79 : decode cX8_head 79 = .ok (.aload_n 0, 1) := by decide +kernel
theorem dX8_head_80 : decode cX8_head 80 = .ok (.getfield 108, 3) := by decide +kernel
theorem dX8_head_83 : decode cX8_head 83 = .ok (.iload 5, 2) := by decide +kernel
theorem dX8_head_85 : decode cX8_head 85 = .ok (.iastore, 1) := by decide +kernel
theorem dX8_head_86 : decode cX8_head 86 = .ok (.aload_n 0, 1) := by decide +kernel
theorem dX8_head_87 : decode cX8_head 87 = .ok (.getfield 26, 3) := by decide +kernel
theorem dX8_head_90 : decode cX8_head 90 = .ok (.aload_n 0, 1) := by decide +kernel
theorem dX8_head_91 : decode cX8_head 91 = .ok (.getfield 108, 3) := by decide +kernel
theorem dX8_head_94 : decode cX8_head 94 = .ok (.lload 6, 2) := by decide +kernel
theorem dX8_head_96 : decode cX8_head 96 = .ok (.lastore, 1) := by decide +kernel
theorem dX8_head_97 : decode cX8_head 97 = .ok (.aload_n 0, 1) := by decide +kernel
theorem dX8_head_98 : decode cX8_head 98 = .ok (.getfield 29, 3) := by decide +kernel
theorem dX8_head_101 : decode cX8_head 101 = .ok (.aload_n 0, 1) := by decide +kernel
theorem dX8_head_102 : decode cX8_head 102 = .ok (.getfield 108, 3) := by decide +kernel
theorem dX8_head_105 : decode cX8_head 105 = .ok (.iconst 0, 1) := by decide +kernel
theorem dX8_head_106 : decode cX8_head 106 = .ok (.iastore, 1) := by decide +kernel
theorem dX8_head_107 : decode cX8_head 107 = .ok (.aload_n 0, 1) := by decide +kernel
theorem dX8_head_108 : decode cX8_head 108 = .ok (.dup, 1) := by decide +kernel
theorem dX8_head_109 : decode cX8_head 109 = .ok (.getfield 108, 3) := by decide +kernel
theorem dX8_head_112 : decode cX8_head 112 = .ok (.iconst 1, 1) := by decide +kernel
theorem dX8_head_113 : decode cX8_head 113 = .ok (.iadd, 1) := by decide +kernel
theorem dX8_head_114 : decode cX8_head 114 = .ok (.putfield 108, 3) := by decide +kernel
theorem dX8_head_117 : decode cX8_head 117 = .ok (.aload_n 0, 1) := by decide +kernel
theorem dX8_head_118 : decode cX8_head 118 = .ok (.getfield 108, 3) := by decide +kernel
theorem dX8_head_121 : decode cX8_head 121 = .ok (.iconst 1, 1) := by decide +kernel
theorem dX8_head_122 : decode cX8_head 122 = .ok (.isub, 1) := by decide +kernel
theorem dX8_head_123 : decode cX8_head 123 = .ok (.ireturn, 1) := by decide +kernel
theorem dX8_sign_0 : decode cX8_sign 0 = .ok (.aload_n 0, 1) := by decide +kernel
theorem dX8_sign_1 : decode cX8_sign 1 = .ok (.iload_n 1, 1) := by decide +kernel
theorem dX8_sign_2 : decode cX8_sign 2 = .ok (.invokevirtual 117, 3) := by decide +kernel
theorem dX8_sign_5 : decode cX8_sign 5 = .ok (.ifCond .eq 15, 3) := by decide +kernel
theorem dX8_sign_8 : decode cX8_sign 8 = .ok (.iload_n 2, 1) := by decide +kernel
theorem dX8_sign_9 : decode cX8_sign 9 = .ok (.i2l, 1) := by decide +kernel
theorem dX8_sign_10 : decode cX8_sign 10 = .ok (.lconst 0, 1) := by decide +kernel
theorem dX8_sign_11 : decode cX8_sign 11 = .ok (.ldc2_w 120, 3) := by decide +kernel
theorem dX8_sign_14 : decode cX8_sign 14 = .ok (.invokestatic 96, 3) := by decide +kernel
theorem dX8_sign_17 : decode cX8_sign 17 = .ok (.ifCond .ne 5, 3) := by decide +kernel
theorem dX8_sign_20 : decode cX8_sign 20 = .ok (.iconst (-1), 1) := by decide +kernel
theorem dX8_sign_21 : decode cX8_sign 21 = .ok (.ireturn, 1) := by decide +kernel
theorem dX8_sign_22 : decode cX8_sign 22 = .ok (.aload_n 0, 1) := by decide +kernel
theorem dX8_sign_23 : decode cX8_sign 23 = .ok (.getfield 29, 3) := by decide +kernel
theorem dX8_sign_26 : decode cX8_sign 26 = .ok (.iload_n 1, 1) := by decide +kernel
theorem dX8_sign_27 : decode cX8_sign 27 = .ok (.iaload, 1) := by decide +kernel
theorem dX8_sign_28 : decode cX8_sign 28 = .ok (.istore_n 3, 1) := by decide +kernel
theorem dX8_sign_29 : decode cX8_sign 29 = .ok (.aload_n 0, 1) := by decide +kernel
theorem dX8_sign_30 : decode cX8_sign 30 = .ok (.getfield 29, 3) := by decide +kernel
theorem dX8_sign_33 : decode cX8_sign 33 = .ok (.iload_n 1, 1) := by decide +kernel
theorem dX8_sign_34 : decode cX8_sign 34 = .ok (.iload_n 3, 1) := by decide +kernel
theorem dX8_sign_35 : decode cX8_sign 35 = .ok (.iconst 1, 1) := by decide +kernel
theorem dX8_sign_36 : decode cX8_sign 36 = .ok (.iload_n 2, 1) := by decide +kernel
theorem dX8_sign_37 : decode cX8_sign 37 = .ok (.ishl, 1) := by decide +kernel
theorem dX8_sign_38 : decode cX8_sign 38 = .ok (.ior, 1) := by decide +kernel
theorem dX8_sign_39 : decode cX8_sign 39 = .ok (.iastore, 1) := by decide +kernel
theorem dX8_sign_40 : decode cX8_sign 40 = .ok (.aload_n 0, 1) := by decide +kernel
theorem dX8_sign_41 : decode cX8_sign 41 = .ok (.getfield 29, 3) := by decide +kernel
theorem dX8_sign_44 : decode cX8_sign 44 = .ok (.iload_n 1, 1) := by decide +kernel
theorem dX8_sign_45 : decode cX8_sign 45 = .ok (.iaload, 1) := by decide +kernel
theorem dX8_sign_46 : decode cX8_sign 46 = .ok (.iload_n 3, 1) := by decide +kernel
theorem dX8_sign_47 : decode cX8_sign 47 = .ok (.if_icmp .ne 7, 3) := by decide +kernel
theorem dX8_sign_50 : decode cX8_sign 50 = .ok (.iconst 0, 1) := by decide +kernel
theorem dX8_sign_51 : decode cX8_sign 51 = .ok (.goto 4, 3) := by decide +kernel
theorem dX8_sign_54 : decode cX8_sign 54 = .ok (.iconst 1, 1) := by decide +kernel
theorem dX8_sign_55 : decode cX8_sign 55 = .ok (.ireturn, 1) := by decide +kernel
theorem dX8_term_0 : decode cX8_term 0 = .ok (.iload_n 1, 1) := by decide +kernel
theorem dX8_term_1 : decode cX8_term 1 = .ok (.i2l, 1) := by decide +kernel
theorem dX8_term_2 : decode cX8_term 2 = .ok (.lconst 0, 1) := by decide +kernel
theorem dX8_term_3 : decode cX8_term 3 = .ok (.ldc2_w 90, 3) := by decide +kernel
theorem dX8_term_6 : decode cX8_term 6 = .ok (.invokestatic 96, 3) := by decide +kernel
theorem dX8_term_9 : decode cX8_term 9 = .ok (.ifCond .eq 37, 3) := by decide +kernel
theorem dX8_term_12 : decode cX8_term 12 = .ok (.iload_n 2, 1) := by decide +kernel
theorem dX8_term_13 : decode cX8_term 13 = .ok (.i2l, 1) := by decide +kernel
theorem dX8_term_14 : decode cX8_term 14 = .ok (.iload_n 1, 1) := by decide +kernel
theorem dX8_term_15 : decode cX8_term 15 = .ok (.iconst 3, 1) := by decide +kernel
theorem dX8_term_16 : decode cX8_term 16 = .ok (.if_icmp .ne 9, 3) := by decide +kernel
theorem dX8_term_19 : decode cX8_term 19 = .ok (.ldc2_w 122, 3) := by decide +kernel
theorem dX8_term_22 : decode cX8_term 22 = .ok (.goto 4, 3) := by decide +kernel
theorem dX8_term_25 : decode cX8_term 25 = .ok (.lconst 1, 1) := by decide +kernel
theorem dX8_term_26 : decode cX8_term 26 = .ok (.iload_n 1, 1) := by decide +kernel
theorem dX8_term_27 : decode cX8_term 27 = .ok (.iconst 2, 1) := by decide +kernel
theorem dX8_term_28 : decode cX8_term 28 = .ok (.if_icmp .ne 9, 3) := by decide +kernel
theorem dX8_term_31 : decode cX8_term 31 = .ok (.ldc2_w 124, 3) := by decide +kernel
theorem dX8_term_34 : decode cX8_term 34 = .ok (.goto 6, 3) := by decide +kernel
theorem dX8_term_37 : decode cX8_term 37 = .ok (.ldc2_w 126, 3) := by decide +kernel
theorem dX8_term_40 : decode cX8_term 40 = .ok (.invokestatic 96, 3) := by decide +kernel
theorem dX8_term_43 : decode cX8_term 43 = .ok (.ifCond .ne 5, 3) := by decide +kernel
theorem dX8_term_46 : decode cX8_term 46 = .ok (.iconst (-1), 1) := by decide +kernel
theorem dX8_term_47 : decode cX8_term 47 = .ok (.ireturn, 1) := by decide +kernel
theorem dX8_term_48 : decode cX8_term 48 = .ok (.aload_n 0, 1) := by decide +kernel
theorem dX8_term_49 : decode cX8_term 49 = .ok (.getfield 32, 3) := by decide +kernel
theorem dX8_term_52 : decode cX8_term 52 = .ok (.iload_n 1, 1) := by decide +kernel
theorem dX8_term_53 : decode cX8_term 53 = .ok (.iaload, 1) := by decide +kernel
theorem dX8_term_54 : decode cX8_term 54 = .ok (.istore_n 3, 1) := by decide +kernel
theorem dX8_term_55 : decode cX8_term 55 = .ok (.aload_n 0, 1) := by decide +kernel
theorem dX8_term_56 : decode cX8_term 56 = .ok (.getfield 32, 3) := by decide +kernel
theorem dX8_term_59 : decode cX8_term 59 = .ok (.iload_n 1, 1) := by decide +kernel
theorem dX8_term_60 : decode cX8_term 60 = .ok (.iload_n 2, 1) := by decide +kernel
theorem dX8_term_61 : decode cX8_term 61 = .ok (.iastore, 1) := by decide +kernel
theorem dX8_term_62 : decode cX8_term 62 = .ok (.iload_n 3, 1) := by decide +kernel
theorem dX8_term_63 : decode cX8_term 63 = .ok (.ireturn, 1) := by decide +kernel
theorem dX8_digestOf_0 : decode cX8_digestOf 0 = .ok (.aload_n 0, 1) := by decide +kernel
theorem dX8_digestOf_1 : decode cX8_digestOf 1 = .ok (.getfield 13, 3) := by decide +kernel
theorem dX8_digestOf_4 : decode cX8_digestOf 4 = .ok (.iload_n 1, 1) := by decide +kernel
theorem dX8_digestOf_5 : decode cX8_digestOf 5 = .ok (.iaload, 1) := by decide +kernel
theorem dX8_digestOf_6 : decode cX8_digestOf 6 = .ok (.i2l, 1) := by decide +kernel
theorem dX8_digestOf_7 : decode cX8_digestOf 7 = .ok (.aload_n 0, 1) := by decide +kernel
theorem dX8_digestOf_8 : decode cX8_digestOf 8 = .ok (.getfield 16, 3) := by decide +kernel
theorem dX8_digestOf_11 : decode cX8_digestOf 11 = .ok (.iload_n 1, 1) := by decide +kernel
theorem dX8_digestOf_12 : decode cX8_digestOf 12 = .ok (.laload, 1) := by decide +kernel
theorem dX8_digestOf_13 : decode cX8_digestOf 13 = .ok (.invokestatic 128, 3) := by decide +kernel
theorem dX8_digestOf_16 : decode cX8_digestOf 16 = .ok (.aload_n 0, 1) := by decide +kernel
theorem dX8_digestOf_17 : decode cX8_digestOf 17 = .ok (.getfield 20, 3) := by decide +kernel
theorem dX8_digestOf_20 : decode cX8_digestOf 20 = .ok (.iload_n 1, 1) := by decide +kernel
theorem dX8_digestOf_21 : decode cX8_digestOf 21 = .ok (.iaload, 1) := by decide +kernel
theorem dX8_digestOf_22 : decode cX8_digestOf 22 = .ok (.i2l, 1) := by decide +kernel
theorem dX8_digestOf_23 : decode cX8_digestOf 23 = .ok (.aload_n 0, 1) := by decide +kernel
theorem dX8_digestOf_24 : decode cX8_digestOf 24 = .ok (.getfield 23, 3) := by decide +kernel
theorem dX8_digestOf_27 : decode cX8_digestOf 27 = .ok (.iload_n 1, 1) := by decide +kernel
theorem dX8_digestOf_28 : decode cX8_digestOf 28 = .ok (.iaload, 1) := by decide +kernel
theorem dX8_digestOf_29 : decode cX8_digestOf 29 = .ok (.i2l, 1) := by decide +kernel
theorem dX8_digestOf_30 : decode cX8_digestOf 30 = .ok (.invokestatic 128, 3) := by decide +kernel
theorem dX8_digestOf_33 : decode cX8_digestOf 33 = .ok (.invokestatic 128, 3) := by decide +kernel
theorem dX8_digestOf_36 : decode cX8_digestOf 36 = .ok (.aload_n 0, 1) := by decide +kernel
theorem dX8_digestOf_37 : decode cX8_digestOf 37 = .ok (.getfield 26, 3) := by decide +kernel
theorem dX8_digestOf_40 : decode cX8_digestOf 40 = .ok (.iload_n 1, 1) := by decide +kernel
theorem dX8_digestOf_41 : decode cX8_digestOf 41 = .ok (.laload, 1) := by decide +kernel
theorem dX8_digestOf_42 : decode cX8_digestOf 42 = .ok (.invokestatic 128, 3) := by decide +kernel
theorem dX8_digestOf_45 : decode cX8_digestOf 45 = .ok (.lreturn, 1) := by decide +kernel
theorem dX8_digest_0 : decode cX8_digest 0 = .ok (.aload_n 0, 1) := by decide +kernel
theorem dX8_digest_1 : decode cX8_digest 1 = .ok (.iload_n 1, 1) := by decide +kernel
theorem dX8_digest_2 : decode cX8_digest 2 = .ok (.invokevirtual 117, 3) := by decide +kernel
theorem dX8_digest_5 : decode cX8_digest 5 = .ok (.ifCond .eq 11, 3) := by decide +kernel
theorem dX8_digest_8 : decode cX8_digest 8 = .ok (.aload_n 0, 1) := by decide +kernel
theorem dX8_digest_9 : decode cX8_digest 9 = .ok (.iload_n 1, 1) := by decide +kernel
theorem dX8_digest_10 : decode cX8_digest 10 = .ok (.invokevirtual 132, 3) := by decide +kernel
theorem dX8_digest_13 : decode cX8_digest 13 = .ok (.goto 4, 3) := by decide +kernel
theorem dX8_digest_16 : decode cX8_digest 16 = .ok (.lconst 0, 1) := by decide +kernel
theorem dX8_digest_17 : decode cX8_digest 17 = .ok (.lreturn, 1) := by decide +kernel
theorem dX8_weightOf_0 : decode cX8_weightOf 0 = .ok (.iconst 0, 1) := by decide +kernel
theorem dX8_weightOf_1 : decode cX8_weightOf 1 = .ok (.istore_n 3, 1) := by decide +kernel
theorem dX8_weightOf_2 : decode cX8_weightOf 2 = .ok (.iconst 0, 1) := by decide +kernel
theorem dX8_weightOf_3 : decode cX8_weightOf 3 = .ok (.istore 4, 2) := by decide +kernel
theorem dX8_weightOf_5 : decode cX8_weightOf 5 = .ok (.iload 4, 2) := by decide +kernel
theorem dX8_weightOf_7 : decode cX8_weightOf 7 = .ok (.bipush 10, 2) := by decide +kernel
theorem dX8_weightOf_9 : decode cX8_weightOf 9 = .ok (.if_icmp .ge 31, 3) := by decide +kernel
theorem dX8_weightOf_12 : decode cX8_weightOf 12 = .ok (.iload_n 3, 1) := by decide +kernel
theorem dX8_weightOf_13 : decode cX8_weightOf 13 = .ok (.iload_n 2, 1) := by decide +kernel
theorem dX8_weightOf_14 : decode cX8_weightOf 14 = .ok (.iload 4, 2) := by decide +kernel
theorem dX8_weightOf_16 : decode cX8_weightOf 16 = .ok (.ishr, 1) := by decide +kernel
theorem dX8_weightOf_17 : decode cX8_weightOf 17 = .ok (.iconst 1, 1) := by decide +kernel
theorem dX8_weightOf_18 : decode cX8_weightOf 18 = .ok (.iand, 1) := by decide +kernel
theorem dX8_weightOf_19 : decode cX8_weightOf 19 = .ok (.aload_n 0, 1) := by decide +kernel
theorem dX8_weightOf_20 : decode cX8_weightOf 20 = .ok (.getfield 7, 3) := by decide +kernel
theorem dX8_weightOf_23 : decode cX8_weightOf 23 = .ok (.bipush 10, 2) := by decide +kernel
theorem dX8_weightOf_25 : decode cX8_weightOf 25 = .ok (.iload_n 1, 1) := by decide +kernel
theorem dX8_weightOf_26 : decode cX8_weightOf 26 = .ok (.imul, 1) := by decide +kernel
theorem dX8_weightOf_27 : decode cX8_weightOf 27 = .ok (.iload 4, 2) := by decide +kernel
theorem dX8_weightOf_29 : decode cX8_weightOf 29 = .ok (.iadd, 1) := by decide +kernel
theorem dX8_weightOf_30 : decode cX8_weightOf 30 = .ok (.iaload, 1) := by decide +kernel
theorem dX8_weightOf_31 : decode cX8_weightOf 31 = .ok (.imul, 1) := by decide +kernel
theorem dX8_weightOf_32 : decode cX8_weightOf 32 = .ok (.iadd, 1) := by decide +kernel
theorem dX8_weightOf_33 : decode cX8_weightOf 33 = .ok (.istore_n 3, 1) := by decide +kernel
theorem dX8_weightOf_34 : decode cX8_weightOf 34 = .ok (.iinc 4 1, 3) := by decide +kernel
theorem dX8_weightOf_37 : decode cX8_weightOf 37 = .ok (.goto (-32), 3) := by decide +kernel
theorem dX8_weightOf_40 : decode cX8_weightOf 40 = .ok (.iload_n 3, 1) := by decide +kernel
theorem dX8_weightOf_41 : decode cX8_weightOf 41 = .ok (.ireturn, 1) := by decide +kernel
theorem dX8_isCertified_0 : decode cX8_isCertified 0 = .ok (.iconst 3, 1) := by decide +kernel
theorem dX8_isCertified_1 : decode cX8_isCertified 1 = .ok (.aload_n 0, 1) := by decide +kernel
theorem dX8_isCertified_2 : decode cX8_isCertified 2 = .ok (.aload_n 0, 1) := by decide +kernel
theorem dX8_isCertified_3 : decode cX8_isCertified 3 = .ok (.getfield 20, 3) := by decide +kernel
theorem dX8_isCertified_6 : decode cX8_isCertified 6 = .ok (.iload_n 1, 1) := by decide +kernel
theorem dX8_isCertified_7 : decode cX8_isCertified 7 = .ok (.iaload, 1) := by decide +kernel
theorem dX8_isCertified_8 : decode cX8_isCertified 8 = .ok (.aload_n 0, 1) := by decide +kernel
theorem dX8_isCertified_9 : decode cX8_isCertified 9 = .ok (.getfield 29, 3) := by decide +kernel
theorem dX8_isCertified_12 : decode cX8_isCertified 12 = .ok (.iload_n 1, 1) := by decide +kernel
theorem dX8_isCertified_13 : decode cX8_isCertified 13 = .ok (.iaload, 1) := by decide +kernel
theorem dX8_isCertified_14 : decode cX8_isCertified 14 = .ok (.invokevirtual 136, 3) := by decide +kernel
theorem dX8_isCertified_17 : decode cX8_isCertified 17 = .ok (.imul, 1) := by decide +kernel
theorem dX8_isCertified_18 : decode cX8_isCertified 18 = .ok (.iconst 2, 1) := by decide +kernel
theorem dX8_isCertified_19 : decode cX8_isCertified 19 = .ok (.aload_n 0, 1) := by decide +kernel
theorem dX8_isCertified_20 : decode cX8_isCertified 20 = .ok (.aload_n 0, 1) := by decide +kernel
theorem dX8_isCertified_21 : decode cX8_isCertified 21 = .ok (.getfield 20, 3) := by decide +kernel
theorem dX8_isCertified_24 : decode cX8_isCertified 24 = .ok (.iload_n 1, 1) := by decide +kernel
theorem dX8_isCertified_25 : decode cX8_isCertified 25 = .ok (.iaload, 1) := by decide +kernel
theorem dX8_isCertified_26 : decode cX8_isCertified 26 = .ok (.sipush 1023, 3) := by decide +kernel
theorem dX8_isCertified_29 : decode cX8_isCertified 29 = .ok (.invokevirtual 136, 3) := by decide +kernel
theorem dX8_isCertified_32 : decode cX8_isCertified 32 = .ok (.imul, 1) := by decide +kernel
theorem dX8_isCertified_33 : decode cX8_isCertified 33 = .ok (.if_icmp .le 7, 3) := by decide +kernel
theorem dX8_isCertified_36 : decode cX8_isCertified 36 = .ok (.iconst 1, 1) := by decide +kernel
theorem dX8_isCertified_37 : decode cX8_isCertified 37 = .ok (.goto 4, 3) := by decide +kernel
theorem dX8_isCertified_40 : decode cX8_isCertified 40 = .ok (.iconst 0, 1) := by decide +kernel
theorem dX8_isCertified_41 : decode cX8_isCertified 41 = .ok (.ireturn, 1) := by decide +kernel
theorem dX8_doesOverlap_0 : decode cX8_doesOverlap 0 = .ok (.aload_n 0, 1) := by decide +kernel
theorem dX8_doesOverlap_1 : decode cX8_doesOverlap 1 = .ok (.getfield 32, 3) := by decide +kernel
theorem dX8_doesOverlap_4 : decode cX8_doesOverlap 4 = .ok (.iconst 1, 1) := by decide +kernel
theorem dX8_doesOverlap_5 : decode cX8_doesOverlap 5 = .ok (.iaload, 1) := by decide +kernel
theorem dX8_doesOverlap_6 : decode cX8_doesOverlap 6 = .ok (.aload_n 0, 1) := by decide +kernel
theorem dX8_doesOverlap_7 : decode cX8_doesOverlap 7 = .ok (.iload_n 2, 1) := by decide +kernel
theorem dX8_doesOverlap_8 : decode cX8_doesOverlap 8 = .ok (.aload_n 0, 1) := by decide +kernel
theorem dX8_doesOverlap_9 : decode cX8_doesOverlap 9 = .ok (.getfield 29, 3) := by decide +kernel
theorem dX8_doesOverlap_12 : decode cX8_doesOverlap 12 = .ok (.iload_n 1, 1) := by decide +kernel
theorem dX8_doesOverlap_13 : decode cX8_doesOverlap 13 = .ok (.iaload, 1) := by decide +kernel
theorem dX8_doesOverlap_14 : decode cX8_doesOverlap 14 = .ok (.invokevirtual 136, 3) := by decide +kernel
theorem dX8_doesOverlap_17 : decode cX8_doesOverlap 17 = .ok (.imul, 1) := by decide +kernel
theorem dX8_doesOverlap_18 : decode cX8_doesOverlap 18 = .ok (.aload_n 0, 1) := by decide +kernel
theorem dX8_doesOverlap_19 : decode cX8_doesOverlap 19 = .ok (.getfield 32, 3) := by decide +kernel
theorem dX8_doesOverlap_22 : decode cX8_doesOverlap 22 = .ok (.iconst 0, 1) := by decide +kernel
theorem dX8_doesOverlap_23 : decode cX8_doesOverlap 23 = .ok (.iaload, 1) := by decide +kernel
theorem dX8_doesOverlap_24 : decode cX8_doesOverlap 24 = .ok (.aload_n 0, 1) := by decide +kernel
theorem dX8_doesOverlap_25 : decode cX8_doesOverlap 25 = .ok (.iload_n 2, 1) := by decide +kernel
theorem dX8_doesOverlap_26 : decode cX8_doesOverlap 26 = .ok (.sipush 1023, 3) := by decide +kernel
theorem dX8_doesOverlap_29 : decode cX8_doesOverlap 29 = .ok (.invokevirtual 136, 3) := by decide +kernel
theorem dX8_doesOverlap_32 : decode cX8_doesOverlap 32 = .ok (.imul, 1) := by decide +kernel
theorem dX8_doesOverlap_33 : decode cX8_doesOverlap 33 = .ok (.if_icmp .le 7, 3) := by decide +kernel
theorem dX8_doesOverlap_36 : decode cX8_doesOverlap 36 = .ok (.iconst 1, 1) := by decide +kernel
theorem dX8_doesOverlap_37 : decode cX8_doesOverlap 37 = .ok (.goto 4, 3) := by decide +kernel
theorem dX8_doesOverlap_40 : decode cX8_doesOverlap 40 = .ok (.iconst 0, 1) := by decide +kernel
theorem dX8_doesOverlap_41 : decode cX8_doesOverlap 41 = .ok (.ireturn, 1) := by decide +kernel
theorem dX8_certified_0 : decode cX8_certified 0 = .ok (.aload_n 0, 1) := by decide +kernel
theorem dX8_certified_1 : decode cX8_certified 1 = .ok (.iload_n 1, 1) := by decide +kernel
theorem dX8_certified_2 : decode cX8_certified 2 = .ok (.invokevirtual 117, 3) := by decide +kernel
theorem dX8_certified_5 : decode cX8_certified 5 = .ok (.ifCond .ne 7, 3) := by decide +kernel
theorem dX8_certified_8 : decode cX8_certified 8 = .ok (.iconst (-1), 1) := by decide +kernel
theorem dX8_certified_9 : decode cX8_certified 9 = .ok (.goto 16, 3) := by decide +kernel
theorem dX8_certified_12 : decode cX8_certified 12 = .ok (.aload_n 0, 1) := by decide +kernel
theorem dX8_certified_13 : decode cX8_certified 13 = .ok (.iload_n 1, 1) := by decide +kernel
theorem dX8_certified_14 : decode cX8_certified 14 = .ok (.invokevirtual 139, 3) := by decide +kernel
theorem dX8_certified_17 : decode cX8_certified 17 = .ok (.ifCond .eq 7, 3) := by decide +kernel
theorem dX8_certified_20 : decode cX8_certified 20 = .ok (.iconst 1, 1) := by decide +kernel
theorem dX8_certified_21 : decode cX8_certified 21 = .ok (.goto 4, 3) := by decide +kernel
theorem dX8_certified_24 : decode cX8_certified 24 = .ok (.iconst 0, 1) := by decide +kernel
theorem dX8_certified_25 : decode cX8_certified 25 = .ok (.ireturn, 1) := by decide +kernel
theorem dX8_overlaps_0 : decode cX8_overlaps 0 = .ok (.aload_n 0, 1) := by decide +kernel
theorem dX8_overlaps_1 : decode cX8_overlaps 1 = .ok (.iload_n 1, 1) := by decide +kernel
theorem dX8_overlaps_2 : decode cX8_overlaps 2 = .ok (.invokevirtual 117, 3) := by decide +kernel
theorem dX8_overlaps_5 : decode cX8_overlaps 5 = .ok (.ifCond .eq 11, 3) := by decide +kernel
theorem dX8_overlaps_8 : decode cX8_overlaps 8 = .ok (.aload_n 0, 1) := by decide +kernel
theorem dX8_overlaps_9 : decode cX8_overlaps 9 = .ok (.iload_n 2, 1) := by decide +kernel
theorem dX8_overlaps_10 : decode cX8_overlaps 10 = .ok (.invokevirtual 113, 3) := by decide +kernel
theorem dX8_overlaps_13 : decode cX8_overlaps 13 = .ok (.ifCond .ne 7, 3) := by decide +kernel
theorem dX8_overlaps_16 : decode cX8_overlaps 16 = .ok (.iconst (-1), 1) := by decide +kernel
theorem dX8_overlaps_17 : decode cX8_overlaps 17 = .ok (.goto 17, 3) := by decide +kernel
theorem dX8_overlaps_20 : decode cX8_overlaps 20 = .ok (.aload_n 0, 1) := by decide +kernel
theorem dX8_overlaps_21 : decode cX8_overlaps 21 = .ok (.iload_n 1, 1) := by decide +kernel
theorem dX8_overlaps_22 : decode cX8_overlaps 22 = .ok (.iload_n 2, 1) := by decide +kernel
theorem dX8_overlaps_23 : decode cX8_overlaps 23 = .ok (.invokevirtual 142, 3) := by decide +kernel
theorem dX8_overlaps_26 : decode cX8_overlaps 26 = .ok (.ifCond .eq 7, 3) := by decide +kernel
theorem dX8_overlaps_29 : decode cX8_overlaps 29 = .ok (.iconst 1, 1) := by decide +kernel
theorem dX8_overlaps_30 : decode cX8_overlaps 30 = .ok (.goto 4, 3) := by decide +kernel
theorem dX8_overlaps_33 : decode cX8_overlaps 33 = .ok (.iconst 0, 1) := by decide +kernel
theorem dX8_overlaps_34 : decode cX8_overlaps 34 = .ok (.ireturn, 1) := by decide +kernel
theorem dX8_isFour_0 : decode cX8_isFour 0 = .ok (.iload_n 0, 1) := by decide +kernel
theorem dX8_isFour_1 : decode cX8_isFour 1 = .ok (.i2l, 1) := by decide +kernel
theorem dX8_isFour_2 : decode cX8_isFour 2 = .ok (.lconst 0, 1) := by decide +kernel
theorem dX8_isFour_3 : decode cX8_isFour 3 = .ok (.ldc2_w 90, 3) := by decide +kernel
theorem dX8_isFour_6 : decode cX8_isFour 6 = .ok (.invokestatic 96, 3) := by decide +kernel
theorem dX8_isFour_9 : decode cX8_isFour 9 = .ok (.ireturn, 1) := by decide +kernel
theorem dX8_start_0 : decode cX8_start 0 = .ok (.iload_n 1, 1) := by decide +kernel
theorem dX8_start_1 : decode cX8_start 1 = .ok (.invokestatic 146, 3) := by decide +kernel
theorem dX8_start_4 : decode cX8_start 4 = .ok (.ifCond .eq 11, 3) := by decide +kernel
theorem dX8_start_7 : decode cX8_start 7 = .ok (.aload_n 0, 1) := by decide +kernel
theorem dX8_start_8 : decode cX8_start 8 = .ok (.iload_n 2, 1) := by decide +kernel
theorem dX8_start_9 : decode cX8_start 9 = .ok (.invokevirtual 117, 3) := by decide +kernel
theorem dX8_start_12 : decode cX8_start 12 = .ok (.ifCond .ne 5, 3) := by decide +kernel
theorem dX8_start_15 : decode cX8_start 15 = .ok (.iconst (-1), 1) := by decide +kernel
theorem dX8_start_16 : decode cX8_start 16 = .ok (.ireturn, 1) := by decide +kernel
theorem dX8_start_17 : decode cX8_start 17 = .ok (.aload_n 0, 1) := by decide +kernel
theorem dX8_start_18 : decode cX8_start 18 = .ok (.getfield 35, 3) := by decide +kernel
theorem dX8_start_21 : decode cX8_start 21 = .ok (.iload_n 1, 1) := by decide +kernel
theorem dX8_start_22 : decode cX8_start 22 = .ok (.iconst 1, 1) := by decide +kernel
theorem dX8_start_23 : decode cX8_start 23 = .ok (.iastore, 1) := by decide +kernel
theorem dX8_start_24 : decode cX8_start 24 = .ok (.aload_n 0, 1) := by decide +kernel
theorem dX8_start_25 : decode cX8_start 25 = .ok (.getfield 38, 3) := by decide +kernel
theorem dX8_start_28 : decode cX8_start 28 = .ok (.bipush 11, 2) := by decide +kernel
theorem dX8_start_30 : decode cX8_start 30 = .ok (.iload_n 1, 1) := by decide +kernel
theorem dX8_start_31 : decode cX8_start 31 = .ok (.imul, 1) := by decide +kernel
theorem dX8_start_32 : decode cX8_start 32 = .ok (.iload_n 2, 1) := by decide +kernel
theorem dX8_start_33 : decode cX8_start 33 = .ok (.iastore, 1) := by decide +kernel
theorem dX8_start_34 : decode cX8_start 34 = .ok (.aload_n 0, 1) := by decide +kernel
theorem dX8_start_35 : decode cX8_start 35 = .ok (.getfield 41, 3) := by decide +kernel
theorem dX8_start_38 : decode cX8_start 38 = .ok (.iload_n 1, 1) := by decide +kernel
theorem dX8_start_39 : decode cX8_start 39 = .ok (.iconst 0, 1) := by decide +kernel
theorem dX8_start_40 : decode cX8_start 40 = .ok (.iastore, 1) := by decide +kernel
theorem dX8_start_41 : decode cX8_start 41 = .ok (.aload_n 0, 1) := by decide +kernel
theorem dX8_start_42 : decode cX8_start 42 = .ok (.getfield 44, 3) := by decide +kernel
theorem dX8_start_45 : decode cX8_start 45 = .ok (.iload_n 1, 1) := by decide +kernel
theorem dX8_start_46 : decode cX8_start 46 = .ok (.bipush (-2), 2) := by decide +kernel
theorem dX8_start_48 : decode cX8_start 48 = .ok (.iastore, 1) := by decide +kernel
theorem dX8_start_49 : decode cX8_start 49 = .ok (.aload_n 0, 1) := by decide +kernel
theorem dX8_start_50 : decode cX8_start 50 = .ok (.getfield 47, 3) := by decide +kernel
theorem dX8_start_53 : decode cX8_start 53 = .ok (.iload_n 1, 1) := by decide +kernel
theorem dX8_start_54 : decode cX8_start 54 = .ok (.bipush (-2), 2) := by decide +kernel
theorem dX8_start_56 : decode cX8_start 56 = .ok (.iastore, 1) := by decide +kernel
theorem dX8_start_57 : decode cX8_start 57 = .ok (.iconst 1, 1) := by decide +kernel
theorem dX8_start_58 : decode cX8_start 58 = .ok (.ireturn, 1) := by decide +kernel
theorem dX8_against_0 : decode cX8_against 0 = .ok (.aload_n 0, 1) := by decide +kernel
theorem dX8_against_1 : decode cX8_against 1 = .ok (.getfield 13, 3) := by decide +kernel
theorem dX8_against_4 : decode cX8_against 4 = .ok (.iload_n 2, 1) := by decide +kernel
theorem dX8_against_5 : decode cX8_against 5 = .ok (.iaload, 1) := by decide +kernel
theorem dX8_against_6 : decode cX8_against 6 = .ok (.aload_n 0, 1) := by decide +kernel
theorem dX8_against_7 : decode cX8_against 7 = .ok (.getfield 13, 3) := by decide +kernel
theorem dX8_against_10 : decode cX8_against 10 = .ok (.iload_n 1, 1) := by decide +kernel
theorem dX8_against_11 : decode cX8_against 11 = .ok (.iaload, 1) := by decide +kernel
theorem dX8_against_12 : decode cX8_against 12 = .ok (.isub, 1) := by decide +kernel
theorem dX8_against_13 : decode cX8_against 13 = .ok (.istore_n 3, 1) := by decide +kernel
theorem dX8_against_14 : decode cX8_against 14 = .ok (.iload_n 3, 1) := by decide +kernel
theorem dX8_against_15 : decode cX8_against 15 = .ok (.ifCond .gt 5, 3) := by decide +kernel
theorem dX8_against_18 : decode cX8_against 18 = .ok (.iconst 1, 1) := by decide +kernel
theorem dX8_against_19 : decode cX8_against 19 = .ok (.ireturn, 1) := by decide +kernel
theorem dX8_against_20 : decode cX8_against 20 = .ok (.iload_n 3, 1) := by decide +kernel
theorem dX8_against_21 : decode cX8_against 21 = .ok (.iconst 1, 1) := by decide +kernel
theorem dX8_against_22 : decode cX8_against 22 = .ok (.if_icmp .ne 55, 3) := by decide +kernel
theorem dX8_against_25 : decode cX8_against 25 = .ok (.aload_n 0, 1) := by decide +kernel
theorem dX8_against_26 : decode cX8_against 26 = .ok (.getfield 16, 3) := by decide +kernel
theorem dX8_against_29 : decode cX8_against 29 = .ok (.iload_n 2, 1) := by decide +kernel
theorem dX8_against_30 : decode cX8_against 30 = .ok (.laload, 1) := by decide +kernel
theorem dX8_against_31 : decode cX8_against 31 = .ok (.aload_n 0, 1) := by decide +kernel
theorem dX8_against_32 : decode cX8_against 32 = .ok (.iload_n 1, 1) := by decide +kernel
theorem dX8_against_33 : decode cX8_against 33 = .ok (.invokevirtual 132, 3) := by decide +kernel
theorem dX8_against_36 : decode cX8_against 36 = .ok (.lcmp, 1) := by decide +kernel
theorem dX8_against_37 : decode cX8_against 37 = .ok (.ifCond .eq 7, 3) := by decide +kernel
theorem dX8_against_40 : decode cX8_against 40 = .ok (.iconst 2, 1) := by decide +kernel
theorem dX8_against_41 : decode cX8_against 41 = .ok (.goto 35, 3) := by decide +kernel
theorem dX8_against_44 : decode cX8_against 44 = .ok (.aload_n 0, 1) := by decide +kernel
theorem dX8_against_45 : decode cX8_against 45 = .ok (.getfield 20, 3) := by decide +kernel
theorem dX8_against_48 : decode cX8_against 48 = .ok (.iload_n 2, 1) := by decide +kernel
theorem dX8_against_49 : decode cX8_against 49 = .ok (.iaload, 1) := by decide +kernel
theorem dX8_against_50 : decode cX8_against 50 = .ok (.aload_n 0, 1) := by decide +kernel
theorem dX8_against_51 : decode cX8_against 51 = .ok (.getfield 23, 3) := by decide +kernel
theorem dX8_against_54 : decode cX8_against 54 = .ok (.iload_n 1, 1) := by decide +kernel
theorem dX8_against_55 : decode cX8_against 55 = .ok (.iaload, 1) := by decide +kernel
theorem dX8_against_56 : decode cX8_against 56 = .ok (.if_icmp .eq 7, 3) := by decide +kernel
theorem dX8_against_59 : decode cX8_against 59 = .ok (.iconst 3, 1) := by decide +kernel
theorem dX8_against_60 : decode cX8_against 60 = .ok (.goto 16, 3) := by decide +kernel
theorem dX8_against_63 : decode cX8_against 63 = .ok (.aload_n 0, 1) := by decide +kernel
theorem dX8_against_64 : decode cX8_against 64 = .ok (.iload_n 2, 1) := by decide +kernel
theorem dX8_against_65 : decode cX8_against 65 = .ok (.invokevirtual 139, 3) := by decide +kernel
theorem dX8_against_68 : decode cX8_against 68 = .ok (.ifCond .eq 7, 3) := by decide +kernel
theorem dX8_against_71 : decode cX8_against 71 = .ok (.iconst 0, 1) := by decide +kernel
theorem dX8_against_72 : decode cX8_against 72 = .ok (.goto 4, 3) := by decide +kernel
theorem dX8_against_75 : decode cX8_against 75 = .ok (.iconst 4, 1) := by decide +kernel
theorem dX8_against_76 : decode cX8_against 76 = .ok (.ireturn, 1) := by decide +kernel
theorem dX8_against_77 : decode cX8_against 77 = .ok (.iload_n 3, 1) := by decide +kernel
theorem dX8_against_78 : decode cX8_against 78 = .ok (.aload_n 0, 1) := by decide +kernel
theorem dX8_against_79 : decode cX8_against 79 = .ok (.getfield 32, 3) := by decide +kernel
theorem dX8_against_82 : decode cX8_against 82 = .ok (.iconst 2, 1) := by decide +kernel
theorem dX8_against_83 : decode cX8_against 83 = .ok (.iaload, 1) := by decide +kernel
theorem dX8_against_84 : decode cX8_against 84 = .ok (.if_icmp .le 7, 3) := by decide +kernel
theorem dX8_against_87 : decode cX8_against 87 = .ok (.iconst 5, 1) := by decide +kernel
theorem dX8_against_88 : decode cX8_against 88 = .ok (.goto 35, 3) := by decide +kernel
theorem dX8_against_91 : decode cX8_against 91 = .ok (.aload_n 0, 1) := by decide +kernel
theorem dX8_against_92 : decode cX8_against 92 = .ok (.iload_n 2, 1) := by decide +kernel
theorem dX8_against_93 : decode cX8_against 93 = .ok (.invokevirtual 139, 3) := by decide +kernel
theorem dX8_against_96 : decode cX8_against 96 = .ok (.ifCond .ne 7, 3) := by decide +kernel
theorem dX8_against_99 : decode cX8_against 99 = .ok (.iconst 4, 1) := by decide +kernel
theorem dX8_against_100 : decode cX8_against 100 = .ok (.goto 23, 3) := by decide +kernel
theorem dX8_against_103 : decode cX8_against 103 = .ok (.aload_n 0, 1) := by decide +kernel
theorem dX8_against_104 : decode cX8_against 104 = .ok (.iload_n 2, 1) := by decide +kernel
theorem dX8_against_105 : decode cX8_against 105 = .ok (.aload_n 0, 1) := by decide +kernel
theorem dX8_against_106 : decode cX8_against 106 = .ok (.getfield 23, 3) := by decide +kernel
theorem dX8_against_109 : decode cX8_against 109 = .ok (.iload_n 1, 1) := by decide +kernel
theorem dX8_against_110 : decode cX8_against 110 = .ok (.iaload, 1) := by decide +kernel
theorem dX8_against_111 : decode cX8_against 111 = .ok (.invokevirtual 142, 3) := by decide +kernel
theorem dX8_against_114 : decode cX8_against 114 = .ok (.ifCond .eq 7, 3) := by decide +kernel
theorem dX8_against_117 : decode cX8_against 117 = .ok (.iconst 0, 1) := by decide +kernel
end
section
theorem dX8_against_118 : decode cX8_against 118 = .ok (.goto 5, 3) := by decide +kernel
theorem dX8_against_121 : decode cX8_against 121 = .ok (.bipush 6, 2) := by decide +kernel
theorem dX8_against_123 : decode cX8_against 123 = .ok (.ireturn, 1) := by decide +kernel
theorem dX8_trustedOf_0 : decode cX8_trustedOf 0 = .ok (.aload_n 0, 1) := by decide +kernel
theorem dX8_trustedOf_1 : decode cX8_trustedOf 1 = .ok (.getfield 38, 3) := by decide +kernel
theorem dX8_trustedOf_4 : decode cX8_trustedOf 4 = .ok (.bipush 11, 2) := by decide +kernel
theorem dX8_trustedOf_6 : decode cX8_trustedOf 6 = .ok (.iload_n 1, 1) := by decide +kernel
theorem dX8_trustedOf_7 : decode cX8_trustedOf 7 = .ok (.imul, 1) := by decide +kernel
theorem dX8_trustedOf_8 : decode cX8_trustedOf 8 = .ok (.aload_n 0, 1) := by decide +kernel
theorem dX8_trustedOf_9 : decode cX8_trustedOf 9 = .ok (.getfield 35, 3) := by decide +kernel
theorem dX8_trustedOf_12 : decode cX8_trustedOf 12 = .ok (.iload_n 1, 1) := by decide +kernel
theorem dX8_trustedOf_13 : decode cX8_trustedOf 13 = .ok (.iaload, 1) := by decide +kernel
theorem dX8_trustedOf_14 : decode cX8_trustedOf 14 = .ok (.iadd, 1) := by decide +kernel
theorem dX8_trustedOf_15 : decode cX8_trustedOf 15 = .ok (.iconst 1, 1) := by decide +kernel
theorem dX8_trustedOf_16 : decode cX8_trustedOf 16 = .ok (.isub, 1) := by decide +kernel
theorem dX8_trustedOf_17 : decode cX8_trustedOf 17 = .ok (.iaload, 1) := by decide +kernel
theorem dX8_trustedOf_18 : decode cX8_trustedOf 18 = .ok (.ireturn, 1) := by decide +kernel
theorem dX8_attempt_0 : decode cX8_attempt 0 = .ok (.aload_n 0, 1) := by decide +kernel
theorem dX8_attempt_1 : decode cX8_attempt 1 = .ok (.aload_n 0, 1) := by decide +kernel
theorem dX8_attempt_2 : decode cX8_attempt 2 = .ok (.iload_n 1, 1) := by decide +kernel
theorem dX8_attempt_3 : decode cX8_attempt 3 = .ok (.invokevirtual 149, 3) := by decide +kernel
theorem dX8_attempt_6 : decode cX8_attempt 6 = .ok (.iload_n 2, 1) := by decide +kernel
theorem dX8_attempt_7 : decode cX8_attempt 7 = .ok (.invokevirtual 153, 3) := by decide +kernel
theorem dX8_attempt_10 : decode cX8_attempt 10 = .ok (.istore_n 3, 1) := by decide +kernel
theorem dX8_attempt_11 : decode cX8_attempt 11 = .ok (.iload_n 3, 1) := by decide +kernel
theorem dX8_attempt_12 : decode cX8_attempt 12 = .ok (.ifCond .ne 120, 3) := by decide +kernel
theorem dX8_attempt_15 : decode cX8_attempt 15 = .ok (.aload_n 0, 1) := by decide +kernel
theorem dX8_attempt_16 : decode cX8_attempt 16 = .ok (.getfield 38, 3) := by decide +kernel
theorem dX8_attempt_19 : decode cX8_attempt 19 = .ok (.bipush 11, 2) := by decide +kernel
theorem dX8_attempt_21 : decode cX8_attempt 21 = .ok (.iload_n 1, 1) := by decide +kernel
theorem dX8_attempt_22 : decode cX8_attempt 22 = .ok (.imul, 1) := by decide +kernel
theorem dX8_attempt_23 : decode cX8_attempt 23 = .ok (.aload_n 0, 1) := by decide +kernel
theorem dX8_attempt_24 : decode cX8_attempt 24 = .ok (.getfield 35, 3) := by decide +kernel
theorem dX8_attempt_27 : decode cX8_attempt 27 = .ok (.iload_n 1, 1) := by decide +kernel
theorem dX8_attempt_28 : decode cX8_attempt 28 = .ok (.iaload, 1) := by decide +kernel
theorem dX8_attempt_29 : decode cX8_attempt 29 = .ok (.iadd, 1) := by decide +kernel
theorem dX8_attempt_30 : decode cX8_attempt 30 = .ok (.iload_n 2, 1) := by decide +kernel
theorem dX8_attempt_31 : decode cX8_attempt 31 = .ok (.iastore, 1) := by decide +kernel
theorem dX8_attempt_32 : decode cX8_attempt 32 = .ok (.aload_n 0, 1) := by decide +kernel
theorem dX8_attempt_33 : decode cX8_attempt 33 = .ok (.getfield 35, 3) := by decide +kernel
theorem dX8_attempt_36 : decode cX8_attempt 36 = .ok (.iload_n 1, 1) := by decide +kernel
theorem dX8_attempt_37 : decode cX8_attempt 37 = .ok (.dup2, 1) := by decide +kernel
theorem dX8_attempt_38 : decode cX8_attempt 38 = .ok (.iaload, 1) := by decide +kernel
theorem dX8_attempt_39 : decode cX8_attempt 39 = .ok (.iconst 1, 1) := by decide +kernel
theorem dX8_attempt_40 : decode cX8_attempt 40 = .ok (.iadd, 1) := by decide +kernel
theorem dX8_attempt_41 : decode cX8_attempt 41 = .ok (.iastore, 1) := by decide +kernel
theorem dX8_attempt_42 : decode cX8_attempt 42 = .ok (.aload_n 0, 1) := by decide +kernel
theorem dX8_attempt_43 : decode cX8_attempt 43 = .ok (.getfield 35, 3) := by decide +kernel
theorem dX8_attempt_46 : decode cX8_attempt 46 = .ok (.iload_n 1, 1) := by decide +kernel
theorem dX8_attempt_47 : decode cX8_attempt 47 = .ok (.iaload, 1) := by decide +kernel
theorem dX8_attempt_48 : decode cX8_attempt 48 = .ok (.aload_n 0, 1) := by decide +kernel
theorem dX8_attempt_49 : decode cX8_attempt 49 = .ok (.getfield 32, 3) := by decide +kernel
theorem dX8_attempt_52 : decode cX8_attempt 52 = .ok (.iconst 3, 1) := by decide +kernel
theorem dX8_attempt_53 : decode cX8_attempt 53 = .ok (.iaload, 1) := by decide +kernel
theorem dX8_attempt_54 : decode cX8_attempt 54 = .ok (.isub, 1) := by decide +kernel
theorem dX8_attempt_55 : decode cX8_attempt 55 = .ok (.istore 4, 2) := by decide +kernel
theorem dX8_attempt_57 : decode cX8_attempt 57 = .ok (.iconst 1, 1) := by decide +kernel
theorem dX8_attempt_58 : decode cX8_attempt 58 = .ok (.istore 5, 2) := by decide +kernel
theorem dX8_attempt_60 : decode cX8_attempt 60 = .ok (.iload 4, 2) := by decide +kernel
theorem dX8_attempt_62 : decode cX8_attempt 62 = .ok (.ifCond .le 50, 3) := by decide +kernel
theorem dX8_attempt_65 : decode cX8_attempt 65 = .ok (.iload 5, 2) := by decide +kernel
theorem dX8_attempt_67 : decode cX8_attempt 67 = .ok (.iload 4, 2) := by decide +kernel
theorem dX8_attempt_69 : decode cX8_attempt 69 = .ok (.iadd, 1) := by decide +kernel
theorem dX8_attempt_70 : decode cX8_attempt 70 = .ok (.aload_n 0, 1) := by decide +kernel
theorem dX8_attempt_71 : decode cX8_attempt 71 = .ok (.getfield 35, 3) := by decide +kernel
theorem dX8_attempt_74 : decode cX8_attempt 74 = .ok (.iload_n 1, 1) := by decide +kernel
theorem dX8_attempt_75 : decode cX8_attempt 75 = .ok (.iaload, 1) := by decide +kernel
theorem dX8_attempt_76 : decode cX8_attempt 76 = .ok (.if_icmp .ge 36, 3) := by decide +kernel
theorem dX8_attempt_79 : decode cX8_attempt 79 = .ok (.aload_n 0, 1) := by decide +kernel
theorem dX8_attempt_80 : decode cX8_attempt 80 = .ok (.getfield 38, 3) := by decide +kernel
theorem dX8_attempt_83 : decode cX8_attempt 83 = .ok (.bipush 11, 2) := by decide +kernel
theorem dX8_attempt_85 : decode cX8_attempt 85 = .ok (.iload_n 1, 1) := by decide +kernel
theorem dX8_attempt_86 : decode cX8_attempt 86 = .ok (.imul, 1) := by decide +kernel
theorem dX8_attempt_87 : decode cX8_attempt 87 = .ok (.iload 5, 2) := by decide +kernel
theorem dX8_attempt_89 : decode cX8_attempt 89 = .ok (.iadd, 1) := by decide +kernel
theorem dX8_attempt_90 : decode cX8_attempt 90 = .ok (.aload_n 0, 1) := by decide +kernel
theorem dX8_attempt_91 : decode cX8_attempt 91 = .ok (.getfield 38, 3) := by decide +kernel
theorem dX8_attempt_94 : decode cX8_attempt 94 = .ok (.bipush 11, 2) := by decide +kernel
theorem dX8_attempt_96 : decode cX8_attempt 96 = .ok (.iload_n 1, 1) := by decide +kernel
theorem dX8_attempt_97 : decode cX8_attempt 97 = .ok (.imul, 1) := by decide +kernel
theorem dX8_attempt_98 : decode cX8_attempt 98 = .ok (.iload 5, 2) := by decide +kernel
theorem dX8_attempt_100 : decode cX8_attempt 100 = .ok (.iadd, 1) := by decide +kernel
theorem dX8_attempt_101 : decode cX8_attempt 101 = .ok (.iload 4, 2) := by decide +kernel
theorem dX8_attempt_103 : decode cX8_attempt 103 = .ok (.iadd, 1) := by decide +kernel
theorem dX8_attempt_104 : decode cX8_attempt 104 = .ok (.iaload, 1) := by decide +kernel
theorem dX8_attempt_105 : decode cX8_attempt 105 = .ok (.iastore, 1) := by decide +kernel
theorem dX8_attempt_106 : decode cX8_attempt 106 = .ok (.iinc 5 1, 3) := by decide +kernel
theorem dX8_attempt_109 : decode cX8_attempt 109 = .ok (.goto (-49), 3) := by decide +kernel
theorem dX8_attempt_112 : decode cX8_attempt 112 = .ok (.aload_n 0, 1) := by decide +kernel
theorem dX8_attempt_113 : decode cX8_attempt 113 = .ok (.getfield 35, 3) := by decide +kernel
theorem dX8_attempt_116 : decode cX8_attempt 116 = .ok (.iload_n 1, 1) := by decide +kernel
theorem dX8_attempt_117 : decode cX8_attempt 117 = .ok (.dup2, 1) := by decide +kernel
theorem dX8_attempt_118 : decode cX8_attempt 118 = .ok (.iaload, 1) := by decide +kernel
theorem dX8_attempt_119 : decode cX8_attempt 119 = .ok (.iload 4, 2) := by decide +kernel
theorem dX8_attempt_121 : decode cX8_attempt 121 = .ok (.ifCond .le 8, 3) := by decide +kernel
theorem dX8_attempt_124 : decode cX8_attempt 124 = .ok (.iload 4, 2) := by decide +kernel
theorem dX8_attempt_126 : decode cX8_attempt 126 = .ok (.goto 4, 3) := by decide +kernel
theorem dX8_attempt_129 : decode cX8_attempt 129 = .ok (.iconst 0, 1) := by decide +kernel
theorem dX8_attempt_130 : decode cX8_attempt 130 = .ok (.isub, 1) := by decide +kernel
theorem dX8_attempt_131 : decode cX8_attempt 131 = .ok (.iastore, 1) := by decide +kernel
theorem dX8_attempt_132 : decode cX8_attempt 132 = .ok (.iload_n 3, 1) := by decide +kernel
theorem dX8_attempt_133 : decode cX8_attempt 133 = .ok (.ireturn, 1) := by decide +kernel
theorem dX8_refuse_0 : decode cX8_refuse 0 = .ok (.aload_n 0, 1) := by decide +kernel
theorem dX8_refuse_1 : decode cX8_refuse 1 = .ok (.getfield 44, 3) := by decide +kernel
theorem dX8_refuse_4 : decode cX8_refuse 4 = .ok (.iload_n 1, 1) := by decide +kernel
theorem dX8_refuse_5 : decode cX8_refuse 5 = .ok (.iload_n 2, 1) := by decide +kernel
theorem dX8_refuse_6 : decode cX8_refuse 6 = .ok (.iastore, 1) := by decide +kernel
theorem dX8_refuse_7 : decode cX8_refuse 7 = .ok (.aload_n 0, 1) := by decide +kernel
theorem dX8_refuse_8 : decode cX8_refuse 8 = .ok (.getfield 47, 3) := by decide +kernel
theorem dX8_refuse_11 : decode cX8_refuse 11 = .ok (.iload_n 1, 1) := by decide +kernel
theorem dX8_refuse_12 : decode cX8_refuse 12 = .ok (.iload_n 3, 1) := by decide +kernel
theorem dX8_refuse_13 : decode cX8_refuse 13 = .ok (.iastore, 1) := by decide +kernel
theorem dX8_refuse_14 : decode cX8_refuse 14 = .ok (.bipush (-10), 2) := by decide +kernel
theorem dX8_refuse_16 : decode cX8_refuse 16 = .ok (.iload_n 2, 1) := by decide +kernel
theorem dX8_refuse_17 : decode cX8_refuse 17 = .ok (.isub, 1) := by decide +kernel
theorem dX8_refuse_18 : decode cX8_refuse 18 = .ok (.ireturn, 1) := by decide +kernel
theorem dX8_follow_0 : decode cX8_follow 0 = .ok (.iload_n 1, 1) := by decide +kernel
theorem dX8_follow_1 : decode cX8_follow 1 = .ok (.invokestatic 146, 3) := by decide +kernel
theorem dX8_follow_4 : decode cX8_follow 4 = .ok (.ifCond .eq 11, 3) := by decide +kernel
theorem dX8_follow_7 : decode cX8_follow 7 = .ok (.aload_n 0, 1) := by decide +kernel
theorem dX8_follow_8 : decode cX8_follow 8 = .ok (.iload_n 2, 1) := by decide +kernel
theorem dX8_follow_9 : decode cX8_follow 9 = .ok (.invokevirtual 117, 3) := by decide +kernel
theorem dX8_follow_12 : decode cX8_follow 12 = .ok (.ifCond .ne 5, 3) := by decide +kernel
theorem dX8_follow_15 : decode cX8_follow 15 = .ok (.iconst (-1), 1) := by decide +kernel
theorem dX8_follow_16 : decode cX8_follow 16 = .ok (.ireturn, 1) := by decide +kernel
theorem dX8_follow_17 : decode cX8_follow 17 = .ok (.aload_n 0, 1) := by decide +kernel
theorem dX8_follow_18 : decode cX8_follow 18 = .ok (.getfield 35, 3) := by decide +kernel
theorem dX8_follow_21 : decode cX8_follow 21 = .ok (.iload_n 1, 1) := by decide +kernel
theorem dX8_follow_22 : decode cX8_follow 22 = .ok (.iaload, 1) := by decide +kernel
theorem dX8_follow_23 : decode cX8_follow 23 = .ok (.ifCond .ne 6, 3) := by decide +kernel
theorem dX8_follow_26 : decode cX8_follow 26 = .ok (.bipush (-2), 2) := by decide +kernel
theorem dX8_follow_28 : decode cX8_follow 28 = .ok (.ireturn, 1) := by decide +kernel
theorem dX8_follow_29 : decode cX8_follow 29 = .ok (.aload_n 0, 1) := by decide +kernel
theorem dX8_follow_30 : decode cX8_follow 30 = .ok (.iload_n 1, 1) := by decide +kernel
theorem dX8_follow_31 : decode cX8_follow 31 = .ok (.iload_n 2, 1) := by decide +kernel
theorem dX8_follow_32 : decode cX8_follow 32 = .ok (.invokevirtual 156, 3) := by decide +kernel
theorem dX8_follow_35 : decode cX8_follow 35 = .ok (.istore_n 3, 1) := by decide +kernel
theorem dX8_follow_36 : decode cX8_follow 36 = .ok (.iload_n 3, 1) := by decide +kernel
theorem dX8_follow_37 : decode cX8_follow 37 = .ok (.ifCond .ne 7, 3) := by decide +kernel
theorem dX8_follow_40 : decode cX8_follow 40 = .ok (.iconst 1, 1) := by decide +kernel
theorem dX8_follow_41 : decode cX8_follow 41 = .ok (.goto 15, 3) := by decide +kernel
theorem dX8_follow_44 : decode cX8_follow 44 = .ok (.aload_n 0, 1) := by decide +kernel
theorem dX8_follow_45 : decode cX8_follow 45 = .ok (.iload_n 1, 1) := by decide +kernel
theorem dX8_follow_46 : decode cX8_follow 46 = .ok (.iload_n 3, 1) := by decide +kernel
theorem dX8_follow_47 : decode cX8_follow 47 = .ok (.aload_n 0, 1) := by decide +kernel
theorem dX8_follow_48 : decode cX8_follow 48 = .ok (.getfield 13, 3) := by decide +kernel
theorem dX8_follow_51 : decode cX8_follow 51 = .ok (.iload_n 2, 1) := by decide +kernel
theorem dX8_follow_52 : decode cX8_follow 52 = .ok (.iaload, 1) := by decide +kernel
theorem dX8_follow_53 : decode cX8_follow 53 = .ok (.invokevirtual 159, 3) := by decide +kernel
theorem dX8_follow_56 : decode cX8_follow 56 = .ok (.ireturn, 1) := by decide +kernel
theorem dX8_placeOf_0 : decode cX8_placeOf 0 = .ok (.bipush 60, 2) := by decide +kernel
theorem dX8_placeOf_2 : decode cX8_placeOf 2 = .ok (.iload_n 1, 1) := by decide +kernel
theorem dX8_placeOf_3 : decode cX8_placeOf 3 = .ok (.imul, 1) := by decide +kernel
theorem dX8_placeOf_4 : decode cX8_placeOf 4 = .ok (.istore_n 3, 1) := by decide +kernel
theorem dX8_placeOf_5 : decode cX8_placeOf 5 = .ok (.iload_n 3, 1) := by decide +kernel
theorem dX8_placeOf_6 : decode cX8_placeOf 6 = .ok (.bipush 60, 2) := by decide +kernel
theorem dX8_placeOf_8 : decode cX8_placeOf 8 = .ok (.iload_n 1, 1) := by decide +kernel
theorem dX8_placeOf_9 : decode cX8_placeOf 9 = .ok (.imul, 1) := by decide +kernel
theorem dX8_placeOf_10 : decode cX8_placeOf 10 = .ok (.aload_n 0, 1) := by decide +kernel
theorem dX8_placeOf_11 : decode cX8_placeOf 11 = .ok (.getfield 50, 3) := by decide +kernel
theorem dX8_placeOf_14 : decode cX8_placeOf 14 = .ok (.iload_n 1, 1) := by decide +kernel
theorem dX8_placeOf_15 : decode cX8_placeOf 15 = .ok (.iaload, 1) := by decide +kernel
theorem dX8_placeOf_16 : decode cX8_placeOf 16 = .ok (.iadd, 1) := by decide +kernel
theorem dX8_placeOf_17 : decode cX8_placeOf 17 = .ok (.if_icmp .ge 26, 3) := by decide +kernel
theorem dX8_placeOf_20 : decode cX8_placeOf 20 = .ok (.aload_n 0, 1) := by decide +kernel
theorem dX8_placeOf_21 : decode cX8_placeOf 21 = .ok (.getfield 13, 3) := by decide +kernel
theorem dX8_placeOf_24 : decode cX8_placeOf 24 = .ok (.aload_n 0, 1) := by decide +kernel
theorem dX8_placeOf_25 : decode cX8_placeOf 25 = .ok (.getfield 53, 3) := by decide +kernel
theorem dX8_placeOf_28 : decode cX8_placeOf 28 = .ok (.iload_n 3, 1) := by decide +kernel
theorem dX8_placeOf_29 : decode cX8_placeOf 29 = .ok (.iaload, 1) := by decide +kernel
theorem dX8_placeOf_30 : decode cX8_placeOf 30 = .ok (.iaload, 1) := by decide +kernel
theorem dX8_placeOf_31 : decode cX8_placeOf 31 = .ok (.iload_n 2, 1) := by decide +kernel
theorem dX8_placeOf_32 : decode cX8_placeOf 32 = .ok (.if_icmp .ne 5, 3) := by decide +kernel
theorem dX8_placeOf_35 : decode cX8_placeOf 35 = .ok (.iload_n 3, 1) := by decide +kernel
theorem dX8_placeOf_36 : decode cX8_placeOf 36 = .ok (.ireturn, 1) := by decide +kernel
theorem dX8_placeOf_37 : decode cX8_placeOf 37 = .ok (.iinc 3 1, 3) := by decide +kernel
theorem dX8_placeOf_40 : decode cX8_placeOf 40 = .ok (.goto (-35), 3) := by decide +kernel
theorem dX8_placeOf_43 : decode cX8_placeOf 43 = .ok (.bipush (-2), 2) := by decide +kernel
theorem dX8_placeOf_45 : decode cX8_placeOf 45 = .ok (.ireturn, 1) := by decide +kernel
theorem dX8_headAt_0 : decode cX8_headAt 0 = .ok (.aload_n 0, 1) := by decide +kernel
theorem dX8_headAt_1 : decode cX8_headAt 1 = .ok (.iload_n 1, 1) := by decide +kernel
theorem dX8_headAt_2 : decode cX8_headAt 2 = .ok (.iload_n 2, 1) := by decide +kernel
theorem dX8_headAt_3 : decode cX8_headAt 3 = .ok (.invokevirtual 163, 3) := by decide +kernel
theorem dX8_headAt_6 : decode cX8_headAt 6 = .ok (.istore_n 3, 1) := by decide +kernel
theorem dX8_headAt_7 : decode cX8_headAt 7 = .ok (.iload_n 3, 1) := by decide +kernel
theorem dX8_headAt_8 : decode cX8_headAt 8 = .ok (.ifCond .ge 8, 3) := by decide +kernel
theorem dX8_headAt_11 : decode cX8_headAt 11 = .ok (.bipush (-2), 2) := by decide +kernel
theorem dX8_headAt_13 : decode cX8_headAt 13 = .ok (.goto 9, 3) := by decide +kernel
theorem dX8_headAt_16 : decode cX8_headAt 16 = .ok (.aload_n 0, 1) := by decide +kernel
theorem dX8_headAt_17 : decode cX8_headAt 17 = .ok (.getfield 53, 3) := by decide +kernel
theorem dX8_headAt_20 : decode cX8_headAt 20 = .ok (.iload_n 3, 1) := by decide +kernel
theorem dX8_headAt_21 : decode cX8_headAt 21 = .ok (.iaload, 1) := by decide +kernel
theorem dX8_headAt_22 : decode cX8_headAt 22 = .ok (.ireturn, 1) := by decide +kernel
theorem dX8_give_0 : decode cX8_give 0 = .ok (.iload_n 1, 1) := by decide +kernel
theorem dX8_give_1 : decode cX8_give 1 = .ok (.invokestatic 146, 3) := by decide +kernel
theorem dX8_give_4 : decode cX8_give 4 = .ok (.ifCond .eq 11, 3) := by decide +kernel
theorem dX8_give_7 : decode cX8_give 7 = .ok (.aload_n 0, 1) := by decide +kernel
theorem dX8_give_8 : decode cX8_give 8 = .ok (.iload_n 2, 1) := by decide +kernel
theorem dX8_give_9 : decode cX8_give 9 = .ok (.invokevirtual 117, 3) := by decide +kernel
theorem dX8_give_12 : decode cX8_give 12 = .ok (.ifCond .ne 5, 3) := by decide +kernel
theorem dX8_give_15 : decode cX8_give 15 = .ok (.iconst (-1), 1) := by decide +kernel
theorem dX8_give_16 : decode cX8_give 16 = .ok (.ireturn, 1) := by decide +kernel
theorem dX8_give_17 : decode cX8_give 17 = .ok (.aload_n 0, 1) := by decide +kernel
theorem dX8_give_18 : decode cX8_give 18 = .ok (.iload_n 1, 1) := by decide +kernel
theorem dX8_give_19 : decode cX8_give 19 = .ok (.aload_n 0, 1) := by decide +kernel
theorem dX8_give_20 : decode cX8_give 20 = .ok (.getfield 13, 3) := by decide +kernel
theorem dX8_give_23 : decode cX8_give 23 = .ok (.iload_n 2, 1) := by decide +kernel
theorem dX8_give_24 : decode cX8_give 24 = .ok (.iaload, 1) := by decide +kernel
theorem dX8_give_25 : decode cX8_give 25 = .ok (.invokevirtual 163, 3) := by decide +kernel
theorem dX8_give_28 : decode cX8_give 28 = .ok (.istore_n 3, 1) := by decide +kernel
theorem dX8_give_29 : decode cX8_give 29 = .ok (.iload_n 3, 1) := by decide +kernel
theorem dX8_give_30 : decode cX8_give 30 = .ok (.ifCond .lt 21, 3) := by decide +kernel
theorem dX8_give_33 : decode cX8_give 33 = .ok (.aload_n 0, 1) := by decide +kernel
theorem dX8_give_34 : decode cX8_give 34 = .ok (.getfield 53, 3) := by decide +kernel
theorem dX8_give_37 : decode cX8_give 37 = .ok (.iload_n 3, 1) := by decide +kernel
theorem dX8_give_38 : decode cX8_give 38 = .ok (.iaload, 1) := by decide +kernel
theorem dX8_give_39 : decode cX8_give 39 = .ok (.istore 4, 2) := by decide +kernel
theorem dX8_give_41 : decode cX8_give 41 = .ok (.aload_n 0, 1) := by decide +kernel
theorem dX8_give_42 : decode cX8_give 42 = .ok (.getfield 53, 3) := by decide +kernel
theorem dX8_give_45 : decode cX8_give 45 = .ok (.iload_n 3, 1) := by decide +kernel
theorem dX8_give_46 : decode cX8_give 46 = .ok (.iload_n 2, 1) := by decide +kernel
theorem dX8_give_47 : decode cX8_give 47 = .ok (.iastore, 1) := by decide +kernel
theorem dX8_give_48 : decode cX8_give 48 = .ok (.iload 4, 2) := by decide +kernel
theorem dX8_give_50 : decode cX8_give 50 = .ok (.ireturn, 1) := by decide +kernel
theorem dX8_give_51 : decode cX8_give 51 = .ok (.aload_n 0, 1) := by decide +kernel
theorem dX8_give_52 : decode cX8_give 52 = .ok (.getfield 53, 3) := by decide +kernel
theorem dX8_give_55 : decode cX8_give 55 = .ok (.bipush 60, 2) := by decide +kernel
theorem dX8_give_57 : decode cX8_give 57 = .ok (.iload_n 1, 1) := by decide +kernel
theorem dX8_give_58 : decode cX8_give 58 = .ok (.imul, 1) := by decide +kernel
theorem dX8_give_59 : decode cX8_give 59 = .ok (.aload_n 0, 1) := by decide +kernel
theorem dX8_give_60 : decode cX8_give 60 = .ok (.getfield 50, 3) := by decide +kernel
theorem dX8_give_63 : decode cX8_give 63 = .ok (.iload_n 1, 1) := by decide +kernel
theorem dX8_give_64 : decode cX8_give 64 = .ok (.iaload, 1) := by decide +kernel
theorem dX8_give_65 : decode cX8_give 65 = .ok (.iadd, 1) := by decide +kernel
theorem dX8_give_66 : decode cX8_give 66 = .ok (.iload_n 2, 1) := by decide +kernel
theorem dX8_give_67 : decode cX8_give 67 = .ok (.iastore, 1) := by decide +kernel
theorem dX8_give_68 : decode cX8_give 68 = .ok (.aload_n 0, 1) := by decide +kernel
theorem dX8_give_69 : decode cX8_give 69 = .ok (.getfield 50, 3) := by decide +kernel
theorem dX8_give_72 : decode cX8_give 72 = .ok (.iload_n 1, 1) := by decide +kernel
theorem dX8_give_73 : decode cX8_give 73 = .ok (.dup2, 1) := by decide +kernel
theorem dX8_give_74 : decode cX8_give 74 = .ok (.iaload, 1) := by decide +kernel
theorem dX8_give_75 : decode cX8_give 75 = .ok (.iconst 1, 1) := by decide +kernel
theorem dX8_give_76 : decode cX8_give 76 = .ok (.iadd, 1) := by decide +kernel
theorem dX8_give_77 : decode cX8_give 77 = .ok (.iastore, 1) := by decide +kernel
theorem dX8_give_78 : decode cX8_give 78 = .ok (.bipush (-2), 2) := by decide +kernel
theorem dX8_give_80 : decode cX8_give 80 = .ok (.ireturn, 1) := by decide +kernel
theorem dX8_seek_0 : decode cX8_seek 0 = .ok (.iload_n 1, 1) := by decide +kernel
theorem dX8_seek_1 : decode cX8_seek 1 = .ok (.invokestatic 146, 3) := by decide +kernel
theorem dX8_seek_4 : decode cX8_seek 4 = .ok (.ifCond .eq 22, 3) := by decide +kernel
theorem dX8_seek_7 : decode cX8_seek 7 = .ok (.iload_n 2, 1) := by decide +kernel
theorem dX8_seek_8 : decode cX8_seek 8 = .ok (.invokestatic 146, 3) := by decide +kernel
theorem dX8_seek_11 : decode cX8_seek 11 = .ok (.ifCond .eq 15, 3) := by decide +kernel
theorem dX8_seek_14 : decode cX8_seek 14 = .ok (.iload_n 3, 1) := by decide +kernel
theorem dX8_seek_15 : decode cX8_seek 15 = .ok (.i2l, 1) := by decide +kernel
theorem dX8_seek_16 : decode cX8_seek 16 = .ok (.lconst 0, 1) := by decide +kernel
theorem dX8_seek_17 : decode cX8_seek 17 = .ok (.ldc2_w 111, 3) := by decide +kernel
theorem dX8_seek_20 : decode cX8_seek 20 = .ok (.invokestatic 96, 3) := by decide +kernel
theorem dX8_seek_23 : decode cX8_seek 23 = .ok (.ifCond .ne 5, 3) := by decide +kernel
theorem dX8_seek_26 : decode cX8_seek 26 = .ok (.iconst (-1), 1) := by decide +kernel
theorem dX8_seek_27 : decode cX8_seek 27 = .ok (.ireturn, 1) := by decide +kernel
theorem dX8_seek_28 : decode cX8_seek 28 = .ok (.aload_n 0, 1) := by decide +kernel
theorem dX8_seek_29 : decode cX8_seek 29 = .ok (.getfield 35, 3) := by decide +kernel
theorem dX8_seek_32 : decode cX8_seek 32 = .ok (.iload_n 1, 1) := by decide +kernel
theorem dX8_seek_33 : decode cX8_seek 33 = .ok (.iaload, 1) := by decide +kernel
theorem dX8_seek_34 : decode cX8_seek 34 = .ok (.ifCond .ne 6, 3) := by decide +kernel
theorem dX8_seek_37 : decode cX8_seek 37 = .ok (.bipush (-2), 2) := by decide +kernel
theorem dX8_seek_39 : decode cX8_seek 39 = .ok (.ireturn, 1) := by decide +kernel
theorem dX8_seek_40 : decode cX8_seek 40 = .ok (.iconst 1, 1) := by decide +kernel
theorem dX8_seek_41 : decode cX8_seek 41 = .ok (.istore 4, 2) := by decide +kernel
theorem dX8_seek_43 : decode cX8_seek 43 = .ok (.aload_n 0, 1) := by decide +kernel
theorem dX8_seek_44 : decode cX8_seek 44 = .ok (.getfield 68, 3) := by decide +kernel
theorem dX8_seek_47 : decode cX8_seek 47 = .ok (.iconst 0, 1) := by decide +kernel
theorem dX8_seek_48 : decode cX8_seek 48 = .ok (.iload_n 3, 1) := by decide +kernel
theorem dX8_seek_49 : decode cX8_seek 49 = .ok (.iastore, 1) := by decide +kernel
theorem dX8_seek_50 : decode cX8_seek 50 = .ok (.iload 4, 2) := by decide +kernel
theorem dX8_seek_52 : decode cX8_seek 52 = .ok (.ifCond .le 117, 3) := by decide +kernel
theorem dX8_seek_55 : decode cX8_seek 55 = .ok (.aload_n 0, 1) := by decide +kernel
theorem dX8_seek_56 : decode cX8_seek 56 = .ok (.getfield 68, 3) := by decide +kernel
theorem dX8_seek_59 : decode cX8_seek 59 = .ok (.iload 4, 2) := by decide +kernel
theorem dX8_seek_61 : decode cX8_seek 61 = .ok (.iconst 1, 1) := by decide +kernel
theorem dX8_seek_62 : decode cX8_seek 62 = .ok (.isub, 1) := by decide +kernel
theorem dX8_seek_63 : decode cX8_seek 63 = .ok (.iaload, 1) := by decide +kernel
theorem dX8_seek_64 : decode cX8_seek 64 = .ok (.istore 5, 2) := by decide +kernel
theorem dX8_seek_66 : decode cX8_seek 66 = .ok (.aload_n 0, 1) := by decide +kernel
theorem dX8_seek_67 : decode cX8_seek 67 = .ok (.getfield 41, 3) := by decide +kernel
theorem dX8_seek_70 : decode cX8_seek 70 = .ok (.iload_n 1, 1) := by decide +kernel
theorem dX8_seek_71 : decode cX8_seek 71 = .ok (.dup2, 1) := by decide +kernel
theorem dX8_seek_72 : decode cX8_seek 72 = .ok (.iaload, 1) := by decide +kernel
theorem dX8_seek_73 : decode cX8_seek 73 = .ok (.iconst 1, 1) := by decide +kernel
theorem dX8_seek_74 : decode cX8_seek 74 = .ok (.iadd, 1) := by decide +kernel
theorem dX8_seek_75 : decode cX8_seek 75 = .ok (.iastore, 1) := by decide +kernel
theorem dX8_seek_76 : decode cX8_seek 76 = .ok (.aload_n 0, 1) := by decide +kernel
theorem dX8_seek_77 : decode cX8_seek 77 = .ok (.iload_n 2, 1) := by decide +kernel
theorem dX8_seek_78 : decode cX8_seek 78 = .ok (.iload 5, 2) := by decide +kernel
theorem dX8_seek_80 : decode cX8_seek 80 = .ok (.invokevirtual 166, 3) := by decide +kernel
theorem dX8_seek_83 : decode cX8_seek 83 = .ok (.istore 6, 2) := by decide +kernel
theorem dX8_seek_85 : decode cX8_seek 85 = .ok (.iload 6, 2) := by decide +kernel
theorem dX8_seek_87 : decode cX8_seek 87 = .ok (.ifCond .ge 8, 3) := by decide +kernel
theorem dX8_seek_90 : decode cX8_seek 90 = .ok (.bipush 7, 2) := by decide +kernel
theorem dX8_seek_92 : decode cX8_seek 92 = .ok (.goto 10, 3) := by decide +kernel
theorem dX8_seek_95 : decode cX8_seek 95 = .ok (.aload_n 0, 1) := by decide +kernel
theorem dX8_seek_96 : decode cX8_seek 96 = .ok (.iload_n 1, 1) := by decide +kernel
theorem dX8_seek_97 : decode cX8_seek 97 = .ok (.iload 6, 2) := by decide +kernel
theorem dX8_seek_99 : decode cX8_seek 99 = .ok (.invokevirtual 156, 3) := by decide +kernel
theorem dX8_seek_102 : decode cX8_seek 102 = .ok (.istore 7, 2) := by decide +kernel
theorem dX8_seek_104 : decode cX8_seek 104 = .ok (.iload 7, 2) := by decide +kernel
theorem dX8_seek_106 : decode cX8_seek 106 = .ok (.ifCond .ne 9, 3) := by decide +kernel
theorem dX8_seek_109 : decode cX8_seek 109 = .ok (.iinc 4 (-1), 3) := by decide +kernel
theorem dX8_seek_112 : decode cX8_seek 112 = .ok (.goto 54, 3) := by decide +kernel
theorem dX8_seek_115 : decode cX8_seek 115 = .ok (.iload 7, 2) := by decide +kernel
theorem dX8_seek_117 : decode cX8_seek 117 = .ok (.iconst 5, 1) := by decide +kernel
theorem dX8_seek_118 : decode cX8_seek 118 = .ok (.if_icmp .eq 10, 3) := by decide +kernel
theorem dX8_seek_121 : decode cX8_seek 121 = .ok (.iload 7, 2) := by decide +kernel
theorem dX8_seek_123 : decode cX8_seek 123 = .ok (.bipush 6, 2) := by decide +kernel
theorem dX8_seek_125 : decode cX8_seek 125 = .ok (.if_icmp .ne 31, 3) := by decide +kernel
theorem dX8_seek_128 : decode cX8_seek 128 = .ok (.aload_n 0, 1) := by decide +kernel
theorem dX8_seek_129 : decode cX8_seek 129 = .ok (.getfield 68, 3) := by decide +kernel
theorem dX8_seek_132 : decode cX8_seek 132 = .ok (.iload 4, 2) := by decide +kernel
theorem dX8_seek_134 : decode cX8_seek 134 = .ok (.aload_n 0, 1) := by decide +kernel
theorem dX8_seek_135 : decode cX8_seek 135 = .ok (.getfield 13, 3) := by decide +kernel
theorem dX8_seek_138 : decode cX8_seek 138 = .ok (.aload_n 0, 1) := by decide +kernel
theorem dX8_seek_139 : decode cX8_seek 139 = .ok (.iload_n 1, 1) := by decide +kernel
theorem dX8_seek_140 : decode cX8_seek 140 = .ok (.invokevirtual 149, 3) := by decide +kernel
theorem dX8_seek_143 : decode cX8_seek 143 = .ok (.iaload, 1) := by decide +kernel
theorem dX8_seek_144 : decode cX8_seek 144 = .ok (.iload 5, 2) := by decide +kernel
theorem dX8_seek_146 : decode cX8_seek 146 = .ok (.iadd, 1) := by decide +kernel
theorem dX8_seek_147 : decode cX8_seek 147 = .ok (.iconst 2, 1) := by decide +kernel
theorem dX8_seek_148 : decode cX8_seek 148 = .ok (.idiv, 1) := by decide +kernel
theorem dX8_seek_149 : decode cX8_seek 149 = .ok (.iastore, 1) := by decide +kernel
theorem dX8_seek_150 : decode cX8_seek 150 = .ok (.iinc 4 1, 3) := by decide +kernel
theorem dX8_seek_153 : decode cX8_seek 153 = .ok (.goto 13, 3) := by decide +kernel
theorem dX8_seek_156 : decode cX8_seek 156 = .ok (.aload_n 0, 1) := by decide +kernel
theorem dX8_seek_157 : decode cX8_seek 157 = .ok (.iload_n 1, 1) := by decide +kernel
theorem dX8_seek_158 : decode cX8_seek 158 = .ok (.iload 7, 2) := by decide +kernel
theorem dX8_seek_160 : decode cX8_seek 160 = .ok (.iload 5, 2) := by decide +kernel
theorem dX8_seek_162 : decode cX8_seek 162 = .ok (.invokevirtual 159, 3) := by decide +kernel
theorem dX8_seek_165 : decode cX8_seek 165 = .ok (.ireturn, 1) := by decide +kernel
theorem dX8_seek_166 : decode cX8_seek 166 = .ok (.goto (-116), 3) := by decide +kernel
theorem dX8_seek_169 : decode cX8_seek 169 = .ok (.iconst 1, 1) := by decide +kernel
theorem dX8_seek_170 : decode cX8_seek 170 = .ok (.ireturn, 1) := by decide +kernel
theorem dX8_stored_0 : decode cX8_stored 0 = .ok (.iload_n 1, 1) := by decide +kernel
theorem dX8_stored_1 : decode cX8_stored 1 = .ok (.invokestatic 146, 3) := by decide +kernel
theorem dX8_stored_4 : decode cX8_stored 4 = .ok (.ifCond .eq 8, 3) := by decide +kernel
theorem dX8_stored_7 : decode cX8_stored 7 = .ok (.iload_n 2, 1) := by decide +kernel
theorem dX8_stored_8 : decode cX8_stored 8 = .ok (.iconst (-1), 1) := by decide +kernel
theorem dX8_stored_9 : decode cX8_stored 9 = .ok (.if_icmp .ge 5, 3) := by decide +kernel
theorem dX8_stored_12 : decode cX8_stored 12 = .ok (.iconst (-1), 1) := by decide +kernel
theorem dX8_stored_13 : decode cX8_stored 13 = .ok (.ireturn, 1) := by decide +kernel
theorem dX8_stored_14 : decode cX8_stored 14 = .ok (.iload_n 2, 1) := by decide +kernel
theorem dX8_stored_15 : decode cX8_stored 15 = .ok (.ifCond .ge 12, 3) := by decide +kernel
theorem dX8_stored_18 : decode cX8_stored 18 = .ok (.aload_n 0, 1) := by decide +kernel
theorem dX8_stored_19 : decode cX8_stored 19 = .ok (.getfield 35, 3) := by decide +kernel
theorem dX8_stored_22 : decode cX8_stored 22 = .ok (.iload_n 1, 1) := by decide +kernel
theorem dX8_stored_23 : decode cX8_stored 23 = .ok (.iaload, 1) := by decide +kernel
theorem dX8_stored_24 : decode cX8_stored 24 = .ok (.goto 29, 3) := by decide +kernel
theorem dX8_stored_27 : decode cX8_stored 27 = .ok (.iload_n 2, 1) := by decide +kernel
theorem dX8_stored_28 : decode cX8_stored 28 = .ok (.aload_n 0, 1) := by decide +kernel
theorem dX8_stored_29 : decode cX8_stored 29 = .ok (.getfield 35, 3) := by decide +kernel
theorem dX8_stored_32 : decode cX8_stored 32 = .ok (.iload_n 1, 1) := by decide +kernel
theorem dX8_stored_33 : decode cX8_stored 33 = .ok (.iaload, 1) := by decide +kernel
theorem dX8_stored_34 : decode cX8_stored 34 = .ok (.if_icmp .ge 17, 3) := by decide +kernel
theorem dX8_stored_37 : decode cX8_stored 37 = .ok (.aload_n 0, 1) := by decide +kernel
theorem dX8_stored_38 : decode cX8_stored 38 = .ok (.getfield 38, 3) := by decide +kernel
theorem dX8_stored_41 : decode cX8_stored 41 = .ok (.bipush 11, 2) := by decide +kernel
theorem dX8_stored_43 : decode cX8_stored 43 = .ok (.iload_n 1, 1) := by decide +kernel
theorem dX8_stored_44 : decode cX8_stored 44 = .ok (.imul, 1) := by decide +kernel
theorem dX8_stored_45 : decode cX8_stored 45 = .ok (.iload_n 2, 1) := by decide +kernel
theorem dX8_stored_46 : decode cX8_stored 46 = .ok (.iadd, 1) := by decide +kernel
theorem dX8_stored_47 : decode cX8_stored 47 = .ok (.iaload, 1) := by decide +kernel
theorem dX8_stored_48 : decode cX8_stored 48 = .ok (.goto 5, 3) := by decide +kernel
theorem dX8_stored_51 : decode cX8_stored 51 = .ok (.bipush (-2), 2) := by decide +kernel
theorem dX8_stored_53 : decode cX8_stored 53 = .ok (.ireturn, 1) := by decide +kernel
theorem dX8_client_0 : decode cX8_client 0 = .ok (.iload_n 1, 1) := by decide +kernel
theorem dX8_client_1 : decode cX8_client 1 = .ok (.invokestatic 146, 3) := by decide +kernel
theorem dX8_client_4 : decode cX8_client 4 = .ok (.ifCond .ne 7, 3) := by decide +kernel
theorem dX8_client_7 : decode cX8_client 7 = .ok (.iconst (-1), 1) := by decide +kernel
theorem dX8_client_8 : decode cX8_client 8 = .ok (.goto 45, 3) := by decide +kernel
theorem dX8_client_11 : decode cX8_client 11 = .ok (.iload_n 2, 1) := by decide +kernel
theorem dX8_client_12 : decode cX8_client 12 = .ok (.ifCond .ne 12, 3) := by decide +kernel
theorem dX8_client_15 : decode cX8_client 15 = .ok (.aload_n 0, 1) := by decide +kernel
theorem dX8_client_16 : decode cX8_client 16 = .ok (.getfield 41, 3) := by decide +kernel
theorem dX8_client_19 : decode cX8_client 19 = .ok (.iload_n 1, 1) := by decide +kernel
theorem dX8_client_20 : decode cX8_client 20 = .ok (.iaload, 1) := by decide +kernel
theorem dX8_client_21 : decode cX8_client 21 = .ok (.goto 32, 3) := by decide +kernel
theorem dX8_client_24 : decode cX8_client 24 = .ok (.iload_n 2, 1) := by decide +kernel
theorem dX8_client_25 : decode cX8_client 25 = .ok (.iconst 1, 1) := by decide +kernel
theorem dX8_client_26 : decode cX8_client 26 = .ok (.if_icmp .ne 12, 3) := by decide +kernel
theorem dX8_client_29 : decode cX8_client 29 = .ok (.aload_n 0, 1) := by decide +kernel
theorem dX8_client_30 : decode cX8_client 30 = .ok (.getfield 44, 3) := by decide +kernel
theorem dX8_client_33 : decode cX8_client 33 = .ok (.iload_n 1, 1) := by decide +kernel
theorem dX8_client_34 : decode cX8_client 34 = .ok (.iaload, 1) := by decide +kernel
theorem dX8_client_35 : decode cX8_client 35 = .ok (.goto 18, 3) := by decide +kernel
theorem dX8_client_38 : decode cX8_client 38 = .ok (.iload_n 2, 1) := by decide +kernel
theorem dX8_client_39 : decode cX8_client 39 = .ok (.iconst 2, 1) := by decide +kernel
theorem dX8_client_40 : decode cX8_client 40 = .ok (.if_icmp .ne 12, 3) := by decide +kernel
theorem dX8_client_43 : decode cX8_client 43 = .ok (.aload_n 0, 1) := by decide +kernel
theorem dX8_client_44 : decode cX8_client 44 = .ok (.getfield 47, 3) := by decide +kernel
theorem dX8_client_47 : decode cX8_client 47 = .ok (.iload_n 1, 1) := by decide +kernel
theorem dX8_client_48 : decode cX8_client 48 = .ok (.iaload, 1) := by decide +kernel
theorem dX8_client_49 : decode cX8_client 49 = .ok (.goto 4, 3) := by decide +kernel
theorem dX8_client_52 : decode cX8_client 52 = .ok (.iconst (-1), 1) := by decide +kernel
theorem dX8_client_53 : decode cX8_client 53 = .ok (.ireturn, 1) := by decide +kernel
theorem dX8_compare_0 : decode cX8_compare 0 = .ok (.iload_n 1, 1) := by decide +kernel
theorem dX8_compare_1 : decode cX8_compare 1 = .ok (.invokestatic 146, 3) := by decide +kernel
theorem dX8_compare_4 : decode cX8_compare 4 = .ok (.ifCond .eq 10, 3) := by decide +kernel
theorem dX8_compare_7 : decode cX8_compare 7 = .ok (.iload_n 2, 1) := by decide +kernel
theorem dX8_compare_8 : decode cX8_compare 8 = .ok (.invokestatic 146, 3) := by decide +kernel
theorem dX8_compare_11 : decode cX8_compare 11 = .ok (.ifCond .ne 5, 3) := by decide +kernel
theorem dX8_compare_14 : decode cX8_compare 14 = .ok (.iconst (-1), 1) := by decide +kernel
theorem dX8_compare_15 : decode cX8_compare 15 = .ok (.ireturn, 1) := by decide +kernel
theorem dX8_compare_16 : decode cX8_compare 16 = .ok (.bipush (-2), 2) := by decide +kernel
theorem dX8_compare_18 : decode cX8_compare 18 = .ok (.istore_n 3, 1) := by decide +kernel
theorem dX8_compare_19 : decode cX8_compare 19 = .ok (.bipush 60, 2) := by decide +kernel
theorem dX8_compare_21 : decode cX8_compare 21 = .ok (.iload_n 1, 1) := by decide +kernel
theorem dX8_compare_22 : decode cX8_compare 22 = .ok (.imul, 1) := by decide +kernel
theorem dX8_compare_23 : decode cX8_compare 23 = .ok (.istore 4, 2) := by decide +kernel
theorem dX8_compare_25 : decode cX8_compare 25 = .ok (.iload 4, 2) := by decide +kernel
theorem dX8_compare_27 : decode cX8_compare 27 = .ok (.bipush 60, 2) := by decide +kernel
theorem dX8_compare_29 : decode cX8_compare 29 = .ok (.iload_n 1, 1) := by decide +kernel
theorem dX8_compare_30 : decode cX8_compare 30 = .ok (.imul, 1) := by decide +kernel
theorem dX8_compare_31 : decode cX8_compare 31 = .ok (.aload_n 0, 1) := by decide +kernel
theorem dX8_compare_32 : decode cX8_compare 32 = .ok (.getfield 50, 3) := by decide +kernel
theorem dX8_compare_35 : decode cX8_compare 35 = .ok (.iload_n 1, 1) := by decide +kernel
theorem dX8_compare_36 : decode cX8_compare 36 = .ok (.iaload, 1) := by decide +kernel
theorem dX8_compare_37 : decode cX8_compare 37 = .ok (.iadd, 1) := by decide +kernel
theorem dX8_compare_38 : decode cX8_compare 38 = .ok (.if_icmp .ge 76, 3) := by decide +kernel
theorem dX8_compare_41 : decode cX8_compare 41 = .ok (.aload_n 0, 1) := by decide +kernel
theorem dX8_compare_42 : decode cX8_compare 42 = .ok (.getfield 53, 3) := by decide +kernel
theorem dX8_compare_45 : decode cX8_compare 45 = .ok (.iload 4, 2) := by decide +kernel
theorem dX8_compare_47 : decode cX8_compare 47 = .ok (.iaload, 1) := by decide +kernel
theorem dX8_compare_48 : decode cX8_compare 48 = .ok (.istore 5, 2) := by decide +kernel
theorem dX8_compare_50 : decode cX8_compare 50 = .ok (.aload_n 0, 1) := by decide +kernel
theorem dX8_compare_51 : decode cX8_compare 51 = .ok (.iload_n 2, 1) := by decide +kernel
theorem dX8_compare_52 : decode cX8_compare 52 = .ok (.aload_n 0, 1) := by decide +kernel
theorem dX8_compare_53 : decode cX8_compare 53 = .ok (.getfield 13, 3) := by decide +kernel
theorem dX8_compare_56 : decode cX8_compare 56 = .ok (.iload 5, 2) := by decide +kernel
theorem dX8_compare_58 : decode cX8_compare 58 = .ok (.iaload, 1) := by decide +kernel
theorem dX8_compare_59 : decode cX8_compare 59 = .ok (.invokevirtual 166, 3) := by decide +kernel
theorem dX8_compare_62 : decode cX8_compare 62 = .ok (.istore 6, 2) := by decide +kernel
theorem dX8_compare_64 : decode cX8_compare 64 = .ok (.iload 6, 2) := by decide +kernel
theorem dX8_compare_66 : decode cX8_compare 66 = .ok (.ifCond .lt 42, 3) := by decide +kernel
theorem dX8_compare_69 : decode cX8_compare 69 = .ok (.aload_n 0, 1) := by decide +kernel
theorem dX8_compare_70 : decode cX8_compare 70 = .ok (.iload 6, 2) := by decide +kernel
theorem dX8_compare_72 : decode cX8_compare 72 = .ok (.invokevirtual 132, 3) := by decide +kernel
theorem dX8_compare_75 : decode cX8_compare 75 = .ok (.aload_n 0, 1) := by decide +kernel
theorem dX8_compare_76 : decode cX8_compare 76 = .ok (.iload 5, 2) := by decide +kernel
theorem dX8_compare_78 : decode cX8_compare 78 = .ok (.invokevirtual 132, 3) := by decide +kernel
theorem dX8_compare_81 : decode cX8_compare 81 = .ok (.lcmp, 1) := by decide +kernel
theorem dX8_compare_82 : decode cX8_compare 82 = .ok (.ifCond .eq 26, 3) := by decide +kernel
theorem dX8_compare_85 : decode cX8_compare 85 = .ok (.iload_n 3, 1) := by decide +kernel
theorem dX8_compare_86 : decode cX8_compare 86 = .ok (.ifCond .lt 14, 3) := by decide +kernel
theorem dX8_compare_89 : decode cX8_compare 89 = .ok (.aload_n 0, 1) := by decide +kernel
theorem dX8_compare_90 : decode cX8_compare 90 = .ok (.getfield 13, 3) := by decide +kernel
theorem dX8_compare_93 : decode cX8_compare 93 = .ok (.iload 5, 2) := by decide +kernel
theorem dX8_compare_95 : decode cX8_compare 95 = .ok (.iaload, 1) := by decide +kernel
theorem dX8_compare_96 : decode cX8_compare 96 = .ok (.iload_n 3, 1) := by decide +kernel
theorem dX8_compare_97 : decode cX8_compare 97 = .ok (.if_icmp .ge 11, 3) := by decide +kernel
theorem dX8_compare_100 : decode cX8_compare 100 = .ok (.aload_n 0, 1) := by decide +kernel
theorem dX8_compare_101 : decode cX8_compare 101 = .ok (.getfield 13, 3) := by decide +kernel
theorem dX8_compare_104 : decode cX8_compare 104 = .ok (.iload 5, 2) := by decide +kernel
theorem dX8_compare_106 : decode cX8_compare 106 = .ok (.iaload, 1) := by decide +kernel
theorem dX8_compare_107 : decode cX8_compare 107 = .ok (.istore_n 3, 1) := by decide +kernel
theorem dX8_compare_108 : decode cX8_compare 108 = .ok (.iinc 4 1, 3) := by decide +kernel
theorem dX8_compare_111 : decode cX8_compare 111 = .ok (.goto (-86), 3) := by decide +kernel
theorem dX8_compare_114 : decode cX8_compare 114 = .ok (.iload_n 3, 1) := by decide +kernel
theorem dX8_compare_115 : decode cX8_compare 115 = .ok (.ireturn, 1) := by decide +kernel
theorem dX8_blame_0 : decode cX8_blame 0 = .ok (.iload_n 1, 1) := by decide +kernel
theorem dX8_blame_1 : decode cX8_blame 1 = .ok (.invokestatic 146, 3) := by decide +kernel
theorem dX8_blame_4 : decode cX8_blame 4 = .ok (.ifCond .eq 17, 3) := by decide +kernel
theorem dX8_blame_7 : decode cX8_blame 7 = .ok (.iload_n 2, 1) := by decide +kernel
theorem dX8_blame_8 : decode cX8_blame 8 = .ok (.invokestatic 146, 3) := by decide +kernel
theorem dX8_blame_11 : decode cX8_blame 11 = .ok (.ifCond .eq 10, 3) := by decide +kernel
theorem dX8_blame_14 : decode cX8_blame 14 = .ok (.iload_n 3, 1) := by decide +kernel
theorem dX8_blame_15 : decode cX8_blame 15 = .ok (.invokestatic 146, 3) := by decide +kernel
theorem dX8_blame_18 : decode cX8_blame 18 = .ok (.ifCond .ne 5, 3) := by decide +kernel
theorem dX8_blame_21 : decode cX8_blame 21 = .ok (.iconst (-1), 1) := by decide +kernel
theorem dX8_blame_22 : decode cX8_blame 22 = .ok (.ireturn, 1) := by decide +kernel
theorem dX8_blame_23 : decode cX8_blame 23 = .ok (.aload_n 0, 1) := by decide +kernel
theorem dX8_blame_24 : decode cX8_blame 24 = .ok (.iload_n 2, 1) := by decide +kernel
theorem dX8_blame_25 : decode cX8_blame 25 = .ok (.iload_n 3, 1) := by decide +kernel
theorem dX8_blame_26 : decode cX8_blame 26 = .ok (.invokevirtual 169, 3) := by decide +kernel
theorem dX8_blame_29 : decode cX8_blame 29 = .ok (.istore 4, 2) := by decide +kernel
theorem dX8_blame_31 : decode cX8_blame 31 = .ok (.bipush (-2), 2) := by decide +kernel
theorem dX8_blame_33 : decode cX8_blame 33 = .ok (.istore 5, 2) := by decide +kernel
theorem dX8_blame_35 : decode cX8_blame 35 = .ok (.iconst 0, 1) := by decide +kernel
theorem dX8_blame_36 : decode cX8_blame 36 = .ok (.istore 6, 2) := by decide +kernel
theorem dX8_blame_38 : decode cX8_blame 38 = .ok (.iload 6, 2) := by decide +kernel
theorem dX8_blame_40 : decode cX8_blame 40 = .ok (.aload_n 0, 1) := by decide +kernel
theorem dX8_blame_41 : decode cX8_blame 41 = .ok (.getfield 35, 3) := by decide +kernel
theorem dX8_blame_44 : decode cX8_blame 44 = .ok (.iload_n 1, 1) := by decide +kernel
theorem dX8_blame_45 : decode cX8_blame 45 = .ok (.iaload, 1) := by decide +kernel
theorem dX8_blame_46 : decode cX8_blame 46 = .ok (.if_icmp .ge 44, 3) := by decide +kernel
theorem dX8_blame_49 : decode cX8_blame 49 = .ok (.aload_n 0, 1) := by decide +kernel
theorem dX8_blame_50 : decode cX8_blame 50 = .ok (.getfield 38, 3) := by decide +kernel
theorem dX8_blame_53 : decode cX8_blame 53 = .ok (.bipush 11, 2) := by decide +kernel
theorem dX8_blame_55 : decode cX8_blame 55 = .ok (.iload_n 1, 1) := by decide +kernel
theorem dX8_blame_56 : decode cX8_blame 56 = .ok (.imul, 1) := by decide +kernel
theorem dX8_blame_57 : decode cX8_blame 57 = .ok (.iload 6, 2) := by decide +kernel
theorem dX8_blame_59 : decode cX8_blame 59 = .ok (.iadd, 1) := by decide +kernel
theorem dX8_blame_60 : decode cX8_blame 60 = .ok (.iaload, 1) := by decide +kernel
theorem dX8_blame_61 : decode cX8_blame 61 = .ok (.istore 7, 2) := by decide +kernel
theorem dX8_blame_63 : decode cX8_blame 63 = .ok (.aload_n 0, 1) := by decide +kernel
theorem dX8_blame_64 : decode cX8_blame 64 = .ok (.getfield 13, 3) := by decide +kernel
theorem dX8_blame_67 : decode cX8_blame 67 = .ok (.iload 7, 2) := by decide +kernel
theorem dX8_blame_69 : decode cX8_blame 69 = .ok (.iaload, 1) := by decide +kernel
theorem dX8_blame_70 : decode cX8_blame 70 = .ok (.iload 4, 2) := by decide +kernel
theorem dX8_blame_72 : decode cX8_blame 72 = .ok (.if_icmp .ge 8, 3) := by decide +kernel
theorem dX8_blame_75 : decode cX8_blame 75 = .ok (.iload 7, 2) := by decide +kernel
theorem dX8_blame_77 : decode cX8_blame 77 = .ok (.goto 5, 3) := by decide +kernel
theorem dX8_blame_80 : decode cX8_blame 80 = .ok (.iload 5, 2) := by decide +kernel
theorem dX8_blame_82 : decode cX8_blame 82 = .ok (.istore 5, 2) := by decide +kernel
theorem dX8_blame_84 : decode cX8_blame 84 = .ok (.iinc 6 1, 3) := by decide +kernel
theorem dX8_blame_87 : decode cX8_blame 87 = .ok (.goto (-49), 3) := by decide +kernel
theorem dX8_blame_90 : decode cX8_blame 90 = .ok (.iload 4, 2) := by decide +kernel
theorem dX8_blame_92 : decode cX8_blame 92 = .ok (.ifCond .lt 8, 3) := by decide +kernel
theorem dX8_blame_95 : decode cX8_blame 95 = .ok (.iload 5, 2) := by decide +kernel
theorem dX8_blame_97 : decode cX8_blame 97 = .ok (.ifCond .ge 6, 3) := by decide +kernel
theorem dX8_blame_100 : decode cX8_blame 100 = .ok (.bipush (-2), 2) := by decide +kernel
theorem dX8_blame_102 : decode cX8_blame 102 = .ok (.ireturn, 1) := by decide +kernel
theorem dX8_blame_103 : decode cX8_blame 103 = .ok (.aload_n 0, 1) := by decide +kernel
theorem dX8_blame_104 : decode cX8_blame 104 = .ok (.iload 5, 2) := by decide +kernel
theorem dX8_blame_106 : decode cX8_blame 106 = .ok (.aload_n 0, 1) := by decide +kernel
theorem dX8_blame_107 : decode cX8_blame 107 = .ok (.iload_n 2, 1) := by decide +kernel
theorem dX8_blame_108 : decode cX8_blame 108 = .ok (.iload 4, 2) := by decide +kernel
theorem dX8_blame_110 : decode cX8_blame 110 = .ok (.invokevirtual 166, 3) := by decide +kernel
theorem dX8_blame_113 : decode cX8_blame 113 = .ok (.invokevirtual 153, 3) := by decide +kernel
theorem dX8_blame_116 : decode cX8_blame 116 = .ok (.ifCond .ne 7, 3) := by decide +kernel
theorem dX8_blame_119 : decode cX8_blame 119 = .ok (.iconst 1, 1) := by decide +kernel
theorem dX8_blame_120 : decode cX8_blame 120 = .ok (.goto 4, 3) := by decide +kernel
theorem dX8_blame_123 : decode cX8_blame 123 = .ok (.iconst 0, 1) := by decide +kernel
theorem dX8_blame_124 : decode cX8_blame 124 = .ok (.aload_n 0, 1) := by decide +kernel
theorem dX8_blame_125 : decode cX8_blame 125 = .ok (.iload 5, 2) := by decide +kernel
theorem dX8_blame_127 : decode cX8_blame 127 = .ok (.aload_n 0, 1) := by decide +kernel
theorem dX8_blame_128 : decode cX8_blame 128 = .ok (.iload_n 3, 1) := by decide +kernel
theorem dX8_blame_129 : decode cX8_blame 129 = .ok (.iload 4, 2) := by decide +kernel
theorem dX8_blame_131 : decode cX8_blame 131 = .ok (.invokevirtual 166, 3) := by decide +kernel
theorem dX8_blame_134 : decode cX8_blame 134 = .ok (.invokevirtual 153, 3) := by decide +kernel
theorem dX8_blame_137 : decode cX8_blame 137 = .ok (.ifCond .ne 7, 3) := by decide +kernel
theorem dX8_blame_140 : decode cX8_blame 140 = .ok (.iconst 2, 1) := by decide +kernel
theorem dX8_blame_141 : decode cX8_blame 141 = .ok (.goto 4, 3) := by decide +kernel
theorem dX8_blame_144 : decode cX8_blame 144 = .ok (.iconst 0, 1) := by decide +kernel
theorem dX8_blame_145 : decode cX8_blame 145 = .ok (.iadd, 1) := by decide +kernel
theorem dX8_blame_146 : decode cX8_blame 146 = .ok (.ireturn, 1) := by decide +kernel
theorem dX8_leaf_0 : decode cX8_leaf 0 = .ok (.iload_n 1, 1) := by decide +kernel
theorem dX8_leaf_1 : decode cX8_leaf 1 = .ok (.i2l, 1) := by decide +kernel
theorem dX8_leaf_2 : decode cX8_leaf 2 = .ok (.lconst 0, 1) := by decide +kernel
theorem dX8_leaf_3 : decode cX8_leaf 3 = .ok (.ldc2_w 172, 3) := by decide +kernel
theorem dX8_leaf_6 : decode cX8_leaf 6 = .ok (.invokestatic 96, 3) := by decide +kernel
theorem dX8_leaf_9 : decode cX8_leaf 9 = .ok (.ifCond .ne 5, 3) := by decide +kernel
theorem dX8_leaf_12 : decode cX8_leaf 12 = .ok (.lconst 0, 1) := by decide +kernel
theorem dX8_leaf_13 : decode cX8_leaf 13 = .ok (.lreturn, 1) := by decide +kernel
theorem dX8_leaf_14 : decode cX8_leaf 14 = .ok (.aload_n 0, 1) := by decide +kernel
theorem dX8_leaf_15 : decode cX8_leaf 15 = .ok (.getfield 56, 3) := by decide +kernel
theorem dX8_leaf_18 : decode cX8_leaf 18 = .ok (.iload_n 1, 1) := by decide +kernel
theorem dX8_leaf_19 : decode cX8_leaf 19 = .ok (.laload, 1) := by decide +kernel
theorem dX8_leaf_20 : decode cX8_leaf 20 = .ok (.lstore 4, 2) := by decide +kernel
theorem dX8_leaf_22 : decode cX8_leaf 22 = .ok (.aload_n 0, 1) := by decide +kernel
theorem dX8_leaf_23 : decode cX8_leaf 23 = .ok (.getfield 56, 3) := by decide +kernel
theorem dX8_leaf_26 : decode cX8_leaf 26 = .ok (.iload_n 1, 1) := by decide +kernel
theorem dX8_leaf_27 : decode cX8_leaf 27 = .ok (.lload_n 2, 1) := by decide +kernel
theorem dX8_leaf_28 : decode cX8_leaf 28 = .ok (.lastore, 1) := by decide +kernel
theorem dX8_leaf_29 : decode cX8_leaf 29 = .ok (.lload 4, 2) := by decide +kernel
theorem dX8_leaf_31 : decode cX8_leaf 31 = .ok (.lreturn, 1) := by decide +kernel
theorem dX8_grow_0 : decode cX8_grow 0 = .ok (.bipush 15, 2) := by decide +kernel
theorem dX8_grow_2 : decode cX8_grow 2 = .ok (.istore_n 1, 1) := by decide +kernel
theorem dX8_grow_3 : decode cX8_grow 3 = .ok (.iload_n 1, 1) := by decide +kernel
theorem dX8_grow_4 : decode cX8_grow 4 = .ok (.ifCond .le 57, 3) := by decide +kernel
theorem dX8_grow_7 : decode cX8_grow 7 = .ok (.aload_n 0, 1) := by decide +kernel
theorem dX8_grow_8 : decode cX8_grow 8 = .ok (.getfield 59, 3) := by decide +kernel
theorem dX8_grow_11 : decode cX8_grow 11 = .ok (.iload_n 1, 1) := by decide +kernel
theorem dX8_grow_12 : decode cX8_grow 12 = .ok (.iload_n 1, 1) := by decide +kernel
theorem dX8_grow_13 : decode cX8_grow 13 = .ok (.bipush 7, 2) := by decide +kernel
theorem dX8_grow_15 : decode cX8_grow 15 = .ok (.if_icmp .le 18, 3) := by decide +kernel
theorem dX8_grow_18 : decode cX8_grow 18 = .ok (.aload_n 0, 1) := by decide +kernel
theorem dX8_grow_19 : decode cX8_grow 19 = .ok (.getfield 56, 3) := by decide +kernel
theorem dX8_grow_22 : decode cX8_grow 22 = .ok (.iload_n 1, 1) := by decide +kernel
theorem dX8_grow_23 : decode cX8_grow 23 = .ok (.bipush 8, 2) := by decide +kernel
theorem dX8_grow_25 : decode cX8_grow 25 = .ok (.isub, 1) := by decide +kernel
theorem dX8_grow_26 : decode cX8_grow 26 = .ok (.laload, 1) := by decide +kernel
theorem dX8_grow_27 : decode cX8_grow 27 = .ok (.invokestatic 86, 3) := by decide +kernel
theorem dX8_grow_30 : decode cX8_grow 30 = .ok (.goto 24, 3) := by decide +kernel
theorem dX8_grow_33 : decode cX8_grow 33 = .ok (.aload_n 0, 1) := by decide +kernel
theorem dX8_grow_34 : decode cX8_grow 34 = .ok (.getfield 59, 3) := by decide +kernel
theorem dX8_grow_37 : decode cX8_grow 37 = .ok (.iconst 2, 1) := by decide +kernel
theorem dX8_grow_38 : decode cX8_grow 38 = .ok (.iload_n 1, 1) := by decide +kernel
theorem dX8_grow_39 : decode cX8_grow 39 = .ok (.imul, 1) := by decide +kernel
theorem dX8_grow_40 : decode cX8_grow 40 = .ok (.laload, 1) := by decide +kernel
theorem dX8_grow_41 : decode cX8_grow 41 = .ok (.aload_n 0, 1) := by decide +kernel
theorem dX8_grow_42 : decode cX8_grow 42 = .ok (.getfield 59, 3) := by decide +kernel
theorem dX8_grow_45 : decode cX8_grow 45 = .ok (.iconst 2, 1) := by decide +kernel
theorem dX8_grow_46 : decode cX8_grow 46 = .ok (.iload_n 1, 1) := by decide +kernel
theorem dX8_grow_47 : decode cX8_grow 47 = .ok (.imul, 1) := by decide +kernel
theorem dX8_grow_48 : decode cX8_grow 48 = .ok (.iconst 1, 1) := by decide +kernel
theorem dX8_grow_49 : decode cX8_grow 49 = .ok (.iadd, 1) := by decide +kernel
theorem dX8_grow_50 : decode cX8_grow 50 = .ok (.laload, 1) := by decide +kernel
theorem dX8_grow_51 : decode cX8_grow 51 = .ok (.invokestatic 128, 3) := by decide +kernel
theorem dX8_grow_54 : decode cX8_grow 54 = .ok (.lastore, 1) := by decide +kernel
theorem dX8_grow_55 : decode cX8_grow 55 = .ok (.iinc 1 (-1), 3) := by decide +kernel
theorem dX8_grow_58 : decode cX8_grow 58 = .ok (.goto (-55), 3) := by decide +kernel
theorem dX8_grow_61 : decode cX8_grow 61 = .ok (.return_, 1) := by decide +kernel
theorem dX8_tree_0 : decode cX8_tree 0 = .ok (.aload_n 0, 1) := by decide +kernel
theorem dX8_tree_1 : decode cX8_tree 1 = .ok (.invokevirtual 174, 3) := by decide +kernel
theorem dX8_tree_4 : decode cX8_tree 4 = .ok (.iload_n 1, 1) := by decide +kernel
theorem dX8_tree_5 : decode cX8_tree 5 = .ok (.i2l, 1) := by decide +kernel
theorem dX8_tree_6 : decode cX8_tree 6 = .ok (.lconst 1, 1) := by decide +kernel
theorem dX8_tree_7 : decode cX8_tree 7 = .ok (.ldc2_w 177, 3) := by decide +kernel
theorem dX8_tree_10 : decode cX8_tree 10 = .ok (.invokestatic 96, 3) := by decide +kernel
theorem dX8_tree_13 : decode cX8_tree 13 = .ok (.ifCond .eq 12, 3) := by decide +kernel
theorem dX8_tree_16 : decode cX8_tree 16 = .ok (.aload_n 0, 1) := by decide +kernel
theorem dX8_tree_17 : decode cX8_tree 17 = .ok (.getfield 59, 3) := by decide +kernel
theorem dX8_tree_20 : decode cX8_tree 20 = .ok (.iload_n 1, 1) := by decide +kernel
theorem dX8_tree_21 : decode cX8_tree 21 = .ok (.laload, 1) := by decide +kernel
theorem dX8_tree_22 : decode cX8_tree 22 = .ok (.goto 4, 3) := by decide +kernel
theorem dX8_tree_25 : decode cX8_tree 25 = .ok (.lconst 0, 1) := by decide +kernel
theorem dX8_tree_26 : decode cX8_tree 26 = .ok (.lreturn, 1) := by decide +kernel
theorem dX8_prove_0 : decode cX8_prove 0 = .ok (.iload_n 1, 1) := by decide +kernel
theorem dX8_prove_1 : decode cX8_prove 1 = .ok (.i2l, 1) := by decide +kernel
theorem dX8_prove_2 : decode cX8_prove 2 = .ok (.lconst 0, 1) := by decide +kernel
theorem dX8_prove_3 : decode cX8_prove 3 = .ok (.ldc2_w 172, 3) := by decide +kernel
theorem dX8_prove_6 : decode cX8_prove 6 = .ok (.invokestatic 96, 3) := by decide +kernel
theorem dX8_prove_9 : decode cX8_prove 9 = .ok (.ifCond .eq 20, 3) := by decide +kernel
theorem dX8_prove_12 : decode cX8_prove 12 = .ok (.iload_n 2, 1) := by decide +kernel
theorem dX8_prove_13 : decode cX8_prove 13 = .ok (.i2l, 1) := by decide +kernel
theorem dX8_prove_14 : decode cX8_prove 14 = .ok (.lconst 0, 1) := by decide +kernel
theorem dX8_prove_15 : decode cX8_prove 15 = .ok (.ldc2_w 172, 3) := by decide +kernel
theorem dX8_prove_18 : decode cX8_prove 18 = .ok (.invokestatic 96, 3) := by decide +kernel
theorem dX8_prove_21 : decode cX8_prove 21 = .ok (.ifCond .eq 8, 3) := by decide +kernel
theorem dX8_prove_24 : decode cX8_prove 24 = .ok (.iload_n 1, 1) := by decide +kernel
theorem dX8_prove_25 : decode cX8_prove 25 = .ok (.iload_n 2, 1) := by decide +kernel
theorem dX8_prove_26 : decode cX8_prove 26 = .ok (.if_icmp .ne 5, 3) := by decide +kernel
theorem dX8_prove_29 : decode cX8_prove 29 = .ok (.iconst (-1), 1) := by decide +kernel
theorem dX8_prove_30 : decode cX8_prove 30 = .ok (.ireturn, 1) := by decide +kernel
theorem dX8_prove_31 : decode cX8_prove 31 = .ok (.aload_n 0, 1) := by decide +kernel
theorem dX8_prove_32 : decode cX8_prove 32 = .ok (.invokevirtual 174, 3) := by decide +kernel
theorem dX8_prove_35 : decode cX8_prove 35 = .ok (.iconst 0, 1) := by decide +kernel
theorem dX8_prove_36 : decode cX8_prove 36 = .ok (.istore_n 3, 1) := by decide +kernel
theorem dX8_prove_37 : decode cX8_prove 37 = .ok (.iload_n 3, 1) := by decide +kernel
theorem dX8_prove_38 : decode cX8_prove 38 = .ok (.bipush 16, 2) := by decide +kernel
theorem dX8_prove_40 : decode cX8_prove 40 = .ok (.if_icmp .ge 36, 3) := by decide +kernel
theorem dX8_prove_43 : decode cX8_prove 43 = .ok (.aload_n 0, 1) := by decide +kernel
theorem dX8_prove_44 : decode cX8_prove 44 = .ok (.getfield 71, 3) := by decide +kernel
theorem dX8_prove_47 : decode cX8_prove 47 = .ok (.iload_n 3, 1) := by decide +kernel
theorem dX8_prove_48 : decode cX8_prove 48 = .ok (.iload_n 3, 1) := by decide +kernel
theorem dX8_prove_49 : decode cX8_prove 49 = .ok (.bipush 8, 2) := by decide +kernel
theorem dX8_prove_51 : decode cX8_prove 51 = .ok (.iload_n 1, 1) := by decide +kernel
theorem dX8_prove_52 : decode cX8_prove 52 = .ok (.iadd, 1) := by decide +kernel
theorem dX8_prove_53 : decode cX8_prove 53 = .ok (.if_icmp .eq 11, 3) := by decide +kernel
theorem dX8_prove_56 : decode cX8_prove 56 = .ok (.iload_n 3, 1) := by decide +kernel
theorem dX8_prove_57 : decode cX8_prove 57 = .ok (.bipush 8, 2) := by decide +kernel
theorem dX8_prove_59 : decode cX8_prove 59 = .ok (.iload_n 2, 1) := by decide +kernel
theorem dX8_prove_60 : decode cX8_prove 60 = .ok (.iadd, 1) := by decide +kernel
theorem dX8_prove_61 : decode cX8_prove 61 = .ok (.if_icmp .ne 7, 3) := by decide +kernel
theorem dX8_prove_64 : decode cX8_prove 64 = .ok (.iconst 1, 1) := by decide +kernel
theorem dX8_prove_65 : decode cX8_prove 65 = .ok (.goto 4, 3) := by decide +kernel
theorem dX8_prove_68 : decode cX8_prove 68 = .ok (.iconst 0, 1) := by decide +kernel
theorem dX8_prove_69 : decode cX8_prove 69 = .ok (.bastore, 1) := by decide +kernel
theorem dX8_prove_70 : decode cX8_prove 70 = .ok (.iinc 3 1, 3) := by decide +kernel
theorem dX8_prove_73 : decode cX8_prove 73 = .ok (.goto (-36), 3) := by decide +kernel
theorem dX8_prove_76 : decode cX8_prove 76 = .ok (.aload_n 0, 1) := by decide +kernel
theorem dX8_prove_77 : decode cX8_prove 77 = .ok (.iload_n 1, 1) := by decide +kernel
theorem dX8_prove_78 : decode cX8_prove 78 = .ok (.putfield 179, 3) := by decide +kernel
theorem dX8_prove_81 : decode cX8_prove 81 = .ok (.aload_n 0, 1) := by decide +kernel
theorem dX8_prove_82 : decode cX8_prove 82 = .ok (.iload_n 2, 1) := by decide +kernel
theorem dX8_prove_83 : decode cX8_prove 83 = .ok (.putfield 182, 3) := by decide +kernel
theorem dX8_prove_86 : decode cX8_prove 86 = .ok (.aload_n 0, 1) := by decide +kernel
theorem dX8_prove_87 : decode cX8_prove 87 = .ok (.aload_n 0, 1) := by decide +kernel
theorem dX8_prove_88 : decode cX8_prove 88 = .ok (.getfield 56, 3) := by decide +kernel
theorem dX8_prove_91 : decode cX8_prove 91 = .ok (.iload_n 1, 1) := by decide +kernel
theorem dX8_prove_92 : decode cX8_prove 92 = .ok (.laload, 1) := by decide +kernel
theorem dX8_prove_93 : decode cX8_prove 93 = .ok (.putfield 185, 3) := by decide +kernel
theorem dX8_prove_96 : decode cX8_prove 96 = .ok (.aload_n 0, 1) := by decide +kernel
theorem dX8_prove_97 : decode cX8_prove 97 = .ok (.aload_n 0, 1) := by decide +kernel
theorem dX8_prove_98 : decode cX8_prove 98 = .ok (.getfield 56, 3) := by decide +kernel
theorem dX8_prove_101 : decode cX8_prove 101 = .ok (.iload_n 2, 1) := by decide +kernel
theorem dX8_prove_102 : decode cX8_prove 102 = .ok (.laload, 1) := by decide +kernel
theorem dX8_prove_103 : decode cX8_prove 103 = .ok (.putfield 189, 3) := by decide +kernel
theorem dX8_prove_106 : decode cX8_prove 106 = .ok (.aload_n 0, 1) := by decide +kernel
theorem dX8_prove_107 : decode cX8_prove 107 = .ok (.iconst 0, 1) := by decide +kernel
theorem dX8_prove_108 : decode cX8_prove 108 = .ok (.putfield 192, 3) := by decide +kernel
theorem dX8_prove_111 : decode cX8_prove 111 = .ok (.bipush 15, 2) := by decide +kernel
theorem dX8_prove_113 : decode cX8_prove 113 = .ok (.istore_n 3, 1) := by decide +kernel
theorem dX8_prove_114 : decode cX8_prove 114 = .ok (.iload_n 3, 1) := by decide +kernel
theorem dX8_prove_115 : decode cX8_prove 115 = .ok (.iconst 1, 1) := by decide +kernel
theorem dX8_prove_116 : decode cX8_prove 116 = .ok (.if_icmp .le 125, 3) := by decide +kernel
theorem dX8_prove_119 : decode cX8_prove 119 = .ok (.aload_n 0, 1) := by decide +kernel
theorem dX8_prove_120 : decode cX8_prove 120 = .ok (.getfield 71, 3) := by decide +kernel
theorem dX8_prove_123 : decode cX8_prove 123 = .ok (.iload_n 3, 1) := by decide +kernel
theorem dX8_prove_124 : decode cX8_prove 124 = .ok (.baload, 1) := by decide +kernel
theorem dX8_prove_125 : decode cX8_prove 125 = .ok (.aload_n 0, 1) := by decide +kernel
theorem dX8_prove_126 : decode cX8_prove 126 = .ok (.getfield 71, 3) := by decide +kernel
theorem dX8_prove_129 : decode cX8_prove 129 = .ok (.iload_n 3, 1) := by decide +kernel
theorem dX8_prove_130 : decode cX8_prove 130 = .ok (.iconst 1, 1) := by decide +kernel
theorem dX8_prove_131 : decode cX8_prove 131 = .ok (.isub, 1) := by decide +kernel
theorem dX8_prove_132 : decode cX8_prove 132 = .ok (.baload, 1) := by decide +kernel
theorem dX8_prove_133 : decode cX8_prove 133 = .ok (.if_icmp .eq 58, 3) := by decide +kernel
theorem dX8_prove_136 : decode cX8_prove 136 = .ok (.aload_n 0, 1) := by decide +kernel
theorem dX8_prove_137 : decode cX8_prove 137 = .ok (.getfield 71, 3) := by decide +kernel
theorem dX8_prove_140 : decode cX8_prove 140 = .ok (.iload_n 3, 1) := by decide +kernel
theorem dX8_prove_141 : decode cX8_prove 141 = .ok (.baload, 1) := by decide +kernel
theorem dX8_prove_142 : decode cX8_prove 142 = .ok (.ifCond .eq 9, 3) := by decide +kernel
end
section
theorem dX8_prove_145 : decode cX8_prove 145 = .ok (.iload_n 3, 1) := by decide +kernel
theorem dX8_prove_146 : decode cX8_prove 146 = .ok (.iconst 1, 1) := by decide +kernel
theorem dX8_prove_147 : decode cX8_prove 147 = .ok (.isub, 1) := by decide +kernel
theorem dX8_prove_148 : decode cX8_prove 148 = .ok (.goto 4, 3) := by decide +kernel
theorem dX8_prove_151 : decode cX8_prove 151 = .ok (.iload_n 3, 1) := by decide +kernel
theorem dX8_prove_152 : decode cX8_prove 152 = .ok (.istore 4, 2) := by decide +kernel
theorem dX8_prove_154 : decode cX8_prove 154 = .ok (.aload_n 0, 1) := by decide +kernel
theorem dX8_prove_155 : decode cX8_prove 155 = .ok (.getfield 62, 3) := by decide +kernel
theorem dX8_prove_158 : decode cX8_prove 158 = .ok (.aload_n 0, 1) := by decide +kernel
theorem dX8_prove_159 : decode cX8_prove 159 = .ok (.getfield 192, 3) := by decide +kernel
theorem dX8_prove_162 : decode cX8_prove 162 = .ok (.iload 4, 2) := by decide +kernel
theorem dX8_prove_164 : decode cX8_prove 164 = .ok (.iastore, 1) := by decide +kernel
theorem dX8_prove_165 : decode cX8_prove 165 = .ok (.aload_n 0, 1) := by decide +kernel
theorem dX8_prove_166 : decode cX8_prove 166 = .ok (.getfield 65, 3) := by decide +kernel
theorem dX8_prove_169 : decode cX8_prove 169 = .ok (.aload_n 0, 1) := by decide +kernel
theorem dX8_prove_170 : decode cX8_prove 170 = .ok (.getfield 192, 3) := by decide +kernel
theorem dX8_prove_173 : decode cX8_prove 173 = .ok (.aload_n 0, 1) := by decide +kernel
theorem dX8_prove_174 : decode cX8_prove 174 = .ok (.getfield 59, 3) := by decide +kernel
theorem dX8_prove_177 : decode cX8_prove 177 = .ok (.iload 4, 2) := by decide +kernel
theorem dX8_prove_179 : decode cX8_prove 179 = .ok (.laload, 1) := by decide +kernel
theorem dX8_prove_180 : decode cX8_prove 180 = .ok (.lastore, 1) := by decide +kernel
theorem dX8_prove_181 : decode cX8_prove 181 = .ok (.aload_n 0, 1) := by decide +kernel
theorem dX8_prove_182 : decode cX8_prove 182 = .ok (.dup, 1) := by decide +kernel
theorem dX8_prove_183 : decode cX8_prove 183 = .ok (.getfield 192, 3) := by decide +kernel
theorem dX8_prove_186 : decode cX8_prove 186 = .ok (.iconst 1, 1) := by decide +kernel
theorem dX8_prove_187 : decode cX8_prove 187 = .ok (.iadd, 1) := by decide +kernel
theorem dX8_prove_188 : decode cX8_prove 188 = .ok (.putfield 192, 3) := by decide +kernel
theorem dX8_prove_191 : decode cX8_prove 191 = .ok (.aload_n 0, 1) := by decide +kernel
theorem dX8_prove_192 : decode cX8_prove 192 = .ok (.getfield 71, 3) := by decide +kernel
theorem dX8_prove_195 : decode cX8_prove 195 = .ok (.iload_n 3, 1) := by decide +kernel
theorem dX8_prove_196 : decode cX8_prove 196 = .ok (.iconst 2, 1) := by decide +kernel
theorem dX8_prove_197 : decode cX8_prove 197 = .ok (.idiv, 1) := by decide +kernel
theorem dX8_prove_198 : decode cX8_prove 198 = .ok (.aload_n 0, 1) := by decide +kernel
theorem dX8_prove_199 : decode cX8_prove 199 = .ok (.getfield 71, 3) := by decide +kernel
theorem dX8_prove_202 : decode cX8_prove 202 = .ok (.iload_n 3, 1) := by decide +kernel
theorem dX8_prove_203 : decode cX8_prove 203 = .ok (.iconst 2, 1) := by decide +kernel
theorem dX8_prove_204 : decode cX8_prove 204 = .ok (.idiv, 1) := by decide +kernel
theorem dX8_prove_205 : decode cX8_prove 205 = .ok (.baload, 1) := by decide +kernel
theorem dX8_prove_206 : decode cX8_prove 206 = .ok (.ifCond .ne 23, 3) := by decide +kernel
theorem dX8_prove_209 : decode cX8_prove 209 = .ok (.aload_n 0, 1) := by decide +kernel
theorem dX8_prove_210 : decode cX8_prove 210 = .ok (.getfield 71, 3) := by decide +kernel
theorem dX8_prove_213 : decode cX8_prove 213 = .ok (.iload_n 3, 1) := by decide +kernel
theorem dX8_prove_214 : decode cX8_prove 214 = .ok (.baload, 1) := by decide +kernel
theorem dX8_prove_215 : decode cX8_prove 215 = .ok (.ifCond .ne 14, 3) := by decide +kernel
theorem dX8_prove_218 : decode cX8_prove 218 = .ok (.aload_n 0, 1) := by decide +kernel
theorem dX8_prove_219 : decode cX8_prove 219 = .ok (.getfield 71, 3) := by decide +kernel
theorem dX8_prove_222 : decode cX8_prove 222 = .ok (.iload_n 3, 1) := by decide +kernel
theorem dX8_prove_223 : decode cX8_prove 223 = .ok (.iconst 1, 1) := by decide +kernel
theorem dX8_prove_224 : decode cX8_prove 224 = .ok (.isub, 1) := by decide +kernel
theorem dX8_prove_225 : decode cX8_prove 225 = .ok (.baload, 1) := by decide +kernel
theorem dX8_prove_226 : decode cX8_prove 226 = .ok (.ifCond .eq 7, 3) := by decide +kernel
theorem dX8_prove_229 : decode cX8_prove 229 = .ok (.iconst 1, 1) := by decide +kernel
theorem dX8_prove_230 : decode cX8_prove 230 = .ok (.goto 4, 3) := by decide +kernel
theorem dX8_prove_233 : decode cX8_prove 233 = .ok (.iconst 0, 1) := by decide +kernel
theorem dX8_prove_234 : decode cX8_prove 234 = .ok (.bastore, 1) := by decide +kernel
theorem dX8_prove_235 : decode cX8_prove 235 = .ok (.iinc 3 (-2), 3) := by decide +kernel
theorem dX8_prove_238 : decode cX8_prove 238 = .ok (.goto (-124), 3) := by decide +kernel
theorem dX8_prove_241 : decode cX8_prove 241 = .ok (.aload_n 0, 1) := by decide +kernel
theorem dX8_prove_242 : decode cX8_prove 242 = .ok (.getfield 192, 3) := by decide +kernel
theorem dX8_prove_245 : decode cX8_prove 245 = .ok (.ireturn, 1) := by decide +kernel
theorem dX8_proof_0 : decode cX8_proof 0 = .ok (.iload_n 1, 1) := by decide +kernel
theorem dX8_proof_1 : decode cX8_proof 1 = .ok (.ifCond .ne 11, 3) := by decide +kernel
theorem dX8_proof_4 : decode cX8_proof 4 = .ok (.aload_n 0, 1) := by decide +kernel
theorem dX8_proof_5 : decode cX8_proof 5 = .ok (.getfield 179, 3) := by decide +kernel
theorem dX8_proof_8 : decode cX8_proof 8 = .ok (.i2l, 1) := by decide +kernel
theorem dX8_proof_9 : decode cX8_proof 9 = .ok (.goto 70, 3) := by decide +kernel
theorem dX8_proof_12 : decode cX8_proof 12 = .ok (.iload_n 1, 1) := by decide +kernel
theorem dX8_proof_13 : decode cX8_proof 13 = .ok (.iconst 1, 1) := by decide +kernel
theorem dX8_proof_14 : decode cX8_proof 14 = .ok (.if_icmp .ne 11, 3) := by decide +kernel
theorem dX8_proof_17 : decode cX8_proof 17 = .ok (.aload_n 0, 1) := by decide +kernel
theorem dX8_proof_18 : decode cX8_proof 18 = .ok (.getfield 182, 3) := by decide +kernel
theorem dX8_proof_21 : decode cX8_proof 21 = .ok (.i2l, 1) := by decide +kernel
theorem dX8_proof_22 : decode cX8_proof 22 = .ok (.goto 57, 3) := by decide +kernel
theorem dX8_proof_25 : decode cX8_proof 25 = .ok (.iload_n 1, 1) := by decide +kernel
theorem dX8_proof_26 : decode cX8_proof 26 = .ok (.iconst 2, 1) := by decide +kernel
theorem dX8_proof_27 : decode cX8_proof 27 = .ok (.if_icmp .ne 10, 3) := by decide +kernel
theorem dX8_proof_30 : decode cX8_proof 30 = .ok (.aload_n 0, 1) := by decide +kernel
theorem dX8_proof_31 : decode cX8_proof 31 = .ok (.getfield 185, 3) := by decide +kernel
theorem dX8_proof_34 : decode cX8_proof 34 = .ok (.goto 45, 3) := by decide +kernel
theorem dX8_proof_37 : decode cX8_proof 37 = .ok (.iload_n 1, 1) := by decide +kernel
theorem dX8_proof_38 : decode cX8_proof 38 = .ok (.iconst 3, 1) := by decide +kernel
theorem dX8_proof_39 : decode cX8_proof 39 = .ok (.if_icmp .ne 10, 3) := by decide +kernel
theorem dX8_proof_42 : decode cX8_proof 42 = .ok (.aload_n 0, 1) := by decide +kernel
theorem dX8_proof_43 : decode cX8_proof 43 = .ok (.getfield 189, 3) := by decide +kernel
theorem dX8_proof_46 : decode cX8_proof 46 = .ok (.goto 33, 3) := by decide +kernel
theorem dX8_proof_49 : decode cX8_proof 49 = .ok (.iload_n 1, 1) := by decide +kernel
theorem dX8_proof_50 : decode cX8_proof 50 = .ok (.i2l, 1) := by decide +kernel
theorem dX8_proof_51 : decode cX8_proof 51 = .ok (.ldc2_w 195, 3) := by decide +kernel
theorem dX8_proof_54 : decode cX8_proof 54 = .ok (.iconst 3, 1) := by decide +kernel
theorem dX8_proof_55 : decode cX8_proof 55 = .ok (.aload_n 0, 1) := by decide +kernel
theorem dX8_proof_56 : decode cX8_proof 56 = .ok (.getfield 192, 3) := by decide +kernel
theorem dX8_proof_59 : decode cX8_proof 59 = .ok (.iadd, 1) := by decide +kernel
theorem dX8_proof_60 : decode cX8_proof 60 = .ok (.i2l, 1) := by decide +kernel
theorem dX8_proof_61 : decode cX8_proof 61 = .ok (.invokestatic 96, 3) := by decide +kernel
theorem dX8_proof_64 : decode cX8_proof 64 = .ok (.ifCond .eq 14, 3) := by decide +kernel
theorem dX8_proof_67 : decode cX8_proof 67 = .ok (.aload_n 0, 1) := by decide +kernel
theorem dX8_proof_68 : decode cX8_proof 68 = .ok (.getfield 65, 3) := by decide +kernel
theorem dX8_proof_71 : decode cX8_proof 71 = .ok (.iload_n 1, 1) := by decide +kernel
theorem dX8_proof_72 : decode cX8_proof 72 = .ok (.iconst 4, 1) := by decide +kernel
theorem dX8_proof_73 : decode cX8_proof 73 = .ok (.isub, 1) := by decide +kernel
theorem dX8_proof_74 : decode cX8_proof 74 = .ok (.laload, 1) := by decide +kernel
theorem dX8_proof_75 : decode cX8_proof 75 = .ok (.goto 4, 3) := by decide +kernel
theorem dX8_proof_78 : decode cX8_proof 78 = .ok (.lconst 0, 1) := by decide +kernel
theorem dX8_proof_79 : decode cX8_proof 79 = .ok (.lreturn, 1) := by decide +kernel
theorem dX8_alter_0 : decode cX8_alter 0 = .ok (.iload_n 1, 1) := by decide +kernel
theorem dX8_alter_1 : decode cX8_alter 1 = .ok (.i2l, 1) := by decide +kernel
theorem dX8_alter_2 : decode cX8_alter 2 = .ok (.ldc2_w 122, 3) := by decide +kernel
theorem dX8_alter_5 : decode cX8_alter 5 = .ok (.iconst 3, 1) := by decide +kernel
theorem dX8_alter_6 : decode cX8_alter 6 = .ok (.aload_n 0, 1) := by decide +kernel
theorem dX8_alter_7 : decode cX8_alter 7 = .ok (.getfield 192, 3) := by decide +kernel
theorem dX8_alter_10 : decode cX8_alter 10 = .ok (.iadd, 1) := by decide +kernel
theorem dX8_alter_11 : decode cX8_alter 11 = .ok (.i2l, 1) := by decide +kernel
theorem dX8_alter_12 : decode cX8_alter 12 = .ok (.invokestatic 96, 3) := by decide +kernel
theorem dX8_alter_15 : decode cX8_alter 15 = .ok (.ifCond .ne 5, 3) := by decide +kernel
theorem dX8_alter_18 : decode cX8_alter 18 = .ok (.iconst (-1), 1) := by decide +kernel
theorem dX8_alter_19 : decode cX8_alter 19 = .ok (.ireturn, 1) := by decide +kernel
theorem dX8_alter_20 : decode cX8_alter 20 = .ok (.iload_n 1, 1) := by decide +kernel
theorem dX8_alter_21 : decode cX8_alter 21 = .ok (.iconst 2, 1) := by decide +kernel
theorem dX8_alter_22 : decode cX8_alter 22 = .ok (.if_icmp .ne 11, 3) := by decide +kernel
theorem dX8_alter_25 : decode cX8_alter 25 = .ok (.aload_n 0, 1) := by decide +kernel
theorem dX8_alter_26 : decode cX8_alter 26 = .ok (.lload_n 2, 1) := by decide +kernel
theorem dX8_alter_27 : decode cX8_alter 27 = .ok (.putfield 185, 3) := by decide +kernel
theorem dX8_alter_30 : decode cX8_alter 30 = .ok (.goto 25, 3) := by decide +kernel
theorem dX8_alter_33 : decode cX8_alter 33 = .ok (.iload_n 1, 1) := by decide +kernel
theorem dX8_alter_34 : decode cX8_alter 34 = .ok (.iconst 3, 1) := by decide +kernel
theorem dX8_alter_35 : decode cX8_alter 35 = .ok (.if_icmp .ne 11, 3) := by decide +kernel
theorem dX8_alter_38 : decode cX8_alter 38 = .ok (.aload_n 0, 1) := by decide +kernel
theorem dX8_alter_39 : decode cX8_alter 39 = .ok (.lload_n 2, 1) := by decide +kernel
theorem dX8_alter_40 : decode cX8_alter 40 = .ok (.putfield 189, 3) := by decide +kernel
theorem dX8_alter_43 : decode cX8_alter 43 = .ok (.goto 12, 3) := by decide +kernel
theorem dX8_alter_46 : decode cX8_alter 46 = .ok (.aload_n 0, 1) := by decide +kernel
theorem dX8_alter_47 : decode cX8_alter 47 = .ok (.getfield 65, 3) := by decide +kernel
theorem dX8_alter_50 : decode cX8_alter 50 = .ok (.iload_n 1, 1) := by decide +kernel
theorem dX8_alter_51 : decode cX8_alter 51 = .ok (.iconst 4, 1) := by decide +kernel
theorem dX8_alter_52 : decode cX8_alter 52 = .ok (.isub, 1) := by decide +kernel
theorem dX8_alter_53 : decode cX8_alter 53 = .ok (.lload_n 2, 1) := by decide +kernel
theorem dX8_alter_54 : decode cX8_alter 54 = .ok (.lastore, 1) := by decide +kernel
theorem dX8_alter_55 : decode cX8_alter 55 = .ok (.iconst 1, 1) := by decide +kernel
theorem dX8_alter_56 : decode cX8_alter 56 = .ok (.ireturn, 1) := by decide +kernel
theorem dX8_top_0 : decode cX8_top 0 = .ok (.iconst 0, 1) := by decide +kernel
theorem dX8_top_1 : decode cX8_top 1 = .ok (.istore 5, 2) := by decide +kernel
theorem dX8_top_3 : decode cX8_top 3 = .ok (.iload 5, 2) := by decide +kernel
theorem dX8_top_5 : decode cX8_top 5 = .ok (.bipush 16, 2) := by decide +kernel
theorem dX8_top_7 : decode cX8_top 7 = .ok (.if_icmp .ge 25, 3) := by decide +kernel
theorem dX8_top_10 : decode cX8_top 10 = .ok (.aload_n 0, 1) := by decide +kernel
theorem dX8_top_11 : decode cX8_top 11 = .ok (.getfield 75, 3) := by decide +kernel
theorem dX8_top_14 : decode cX8_top 14 = .ok (.iload 5, 2) := by decide +kernel
theorem dX8_top_16 : decode cX8_top 16 = .ok (.lconst 0, 1) := by decide +kernel
theorem dX8_top_17 : decode cX8_top 17 = .ok (.lastore, 1) := by decide +kernel
theorem dX8_top_18 : decode cX8_top 18 = .ok (.aload_n 0, 1) := by decide +kernel
theorem dX8_top_19 : decode cX8_top 19 = .ok (.getfield 71, 3) := by decide +kernel
theorem dX8_top_22 : decode cX8_top 22 = .ok (.iload 5, 2) := by decide +kernel
theorem dX8_top_24 : decode cX8_top 24 = .ok (.iconst 0, 1) := by decide +kernel
theorem dX8_top_25 : decode cX8_top 25 = .ok (.bastore, 1) := by decide +kernel
theorem dX8_top_26 : decode cX8_top 26 = .ok (.iinc 5 1, 3) := by decide +kernel
theorem dX8_top_29 : decode cX8_top 29 = .ok (.goto (-26), 3) := by decide +kernel
theorem dX8_top_32 : decode cX8_top 32 = .ok (.aload_n 0, 1) := by decide +kernel
theorem dX8_top_33 : decode cX8_top 33 = .ok (.getfield 75, 3) := by decide +kernel
theorem dX8_top_36 : decode cX8_top 36 = .ok (.bipush 8, 2) := by decide +kernel
theorem dX8_top_38 : decode cX8_top 38 = .ok (.aload_n 0, 1) := by decide +kernel
theorem dX8_top_39 : decode cX8_top 39 = .ok (.getfield 179, 3) := by decide +kernel
theorem dX8_top_42 : decode cX8_top 42 = .ok (.iadd, 1) := by decide +kernel
theorem dX8_top_43 : decode cX8_top 43 = .ok (.lload_n 1, 1) := by decide +kernel
theorem dX8_top_44 : decode cX8_top 44 = .ok (.invokestatic 86, 3) := by decide +kernel
theorem dX8_top_47 : decode cX8_top 47 = .ok (.lastore, 1) := by decide +kernel
theorem dX8_top_48 : decode cX8_top 48 = .ok (.aload_n 0, 1) := by decide +kernel
theorem dX8_top_49 : decode cX8_top 49 = .ok (.getfield 75, 3) := by decide +kernel
theorem dX8_top_52 : decode cX8_top 52 = .ok (.bipush 8, 2) := by decide +kernel
theorem dX8_top_54 : decode cX8_top 54 = .ok (.aload_n 0, 1) := by decide +kernel
theorem dX8_top_55 : decode cX8_top 55 = .ok (.getfield 182, 3) := by decide +kernel
theorem dX8_top_58 : decode cX8_top 58 = .ok (.iadd, 1) := by decide +kernel
theorem dX8_top_59 : decode cX8_top 59 = .ok (.lload_n 3, 1) := by decide +kernel
theorem dX8_top_60 : decode cX8_top 60 = .ok (.invokestatic 86, 3) := by decide +kernel
theorem dX8_top_63 : decode cX8_top 63 = .ok (.lastore, 1) := by decide +kernel
theorem dX8_top_64 : decode cX8_top 64 = .ok (.aload_n 0, 1) := by decide +kernel
theorem dX8_top_65 : decode cX8_top 65 = .ok (.getfield 71, 3) := by decide +kernel
theorem dX8_top_68 : decode cX8_top 68 = .ok (.bipush 8, 2) := by decide +kernel
theorem dX8_top_70 : decode cX8_top 70 = .ok (.aload_n 0, 1) := by decide +kernel
theorem dX8_top_71 : decode cX8_top 71 = .ok (.getfield 179, 3) := by decide +kernel
theorem dX8_top_74 : decode cX8_top 74 = .ok (.iadd, 1) := by decide +kernel
theorem dX8_top_75 : decode cX8_top 75 = .ok (.iconst 1, 1) := by decide +kernel
theorem dX8_top_76 : decode cX8_top 76 = .ok (.bastore, 1) := by decide +kernel
theorem dX8_top_77 : decode cX8_top 77 = .ok (.aload_n 0, 1) := by decide +kernel
theorem dX8_top_78 : decode cX8_top 78 = .ok (.getfield 71, 3) := by decide +kernel
theorem dX8_top_81 : decode cX8_top 81 = .ok (.bipush 8, 2) := by decide +kernel
theorem dX8_top_83 : decode cX8_top 83 = .ok (.aload_n 0, 1) := by decide +kernel
theorem dX8_top_84 : decode cX8_top 84 = .ok (.getfield 182, 3) := by decide +kernel
theorem dX8_top_87 : decode cX8_top 87 = .ok (.iadd, 1) := by decide +kernel
theorem dX8_top_88 : decode cX8_top 88 = .ok (.iconst 1, 1) := by decide +kernel
theorem dX8_top_89 : decode cX8_top 89 = .ok (.bastore, 1) := by decide +kernel
theorem dX8_top_90 : decode cX8_top 90 = .ok (.iconst 0, 1) := by decide +kernel
theorem dX8_top_91 : decode cX8_top 91 = .ok (.istore 5, 2) := by decide +kernel
theorem dX8_top_93 : decode cX8_top 93 = .ok (.iload 5, 2) := by decide +kernel
theorem dX8_top_95 : decode cX8_top 95 = .ok (.aload_n 0, 1) := by decide +kernel
theorem dX8_top_96 : decode cX8_top 96 = .ok (.getfield 192, 3) := by decide +kernel
theorem dX8_top_99 : decode cX8_top 99 = .ok (.if_icmp .ge 41, 3) := by decide +kernel
theorem dX8_top_102 : decode cX8_top 102 = .ok (.aload_n 0, 1) := by decide +kernel
theorem dX8_top_103 : decode cX8_top 103 = .ok (.getfield 75, 3) := by decide +kernel
theorem dX8_top_106 : decode cX8_top 106 = .ok (.aload_n 0, 1) := by decide +kernel
theorem dX8_top_107 : decode cX8_top 107 = .ok (.getfield 62, 3) := by decide +kernel
theorem dX8_top_110 : decode cX8_top 110 = .ok (.iload 5, 2) := by decide +kernel
theorem dX8_top_112 : decode cX8_top 112 = .ok (.iaload, 1) := by decide +kernel
theorem dX8_top_113 : decode cX8_top 113 = .ok (.aload_n 0, 1) := by decide +kernel
theorem dX8_top_114 : decode cX8_top 114 = .ok (.getfield 65, 3) := by decide +kernel
theorem dX8_top_117 : decode cX8_top 117 = .ok (.iload 5, 2) := by decide +kernel
theorem dX8_top_119 : decode cX8_top 119 = .ok (.laload, 1) := by decide +kernel
theorem dX8_top_120 : decode cX8_top 120 = .ok (.lastore, 1) := by decide +kernel
theorem dX8_top_121 : decode cX8_top 121 = .ok (.aload_n 0, 1) := by decide +kernel
theorem dX8_top_122 : decode cX8_top 122 = .ok (.getfield 71, 3) := by decide +kernel
theorem dX8_top_125 : decode cX8_top 125 = .ok (.aload_n 0, 1) := by decide +kernel
theorem dX8_top_126 : decode cX8_top 126 = .ok (.getfield 62, 3) := by decide +kernel
theorem dX8_top_129 : decode cX8_top 129 = .ok (.iload 5, 2) := by decide +kernel
theorem dX8_top_131 : decode cX8_top 131 = .ok (.iaload, 1) := by decide +kernel
theorem dX8_top_132 : decode cX8_top 132 = .ok (.iconst 1, 1) := by decide +kernel
theorem dX8_top_133 : decode cX8_top 133 = .ok (.bastore, 1) := by decide +kernel
theorem dX8_top_134 : decode cX8_top 134 = .ok (.iinc 5 1, 3) := by decide +kernel
theorem dX8_top_137 : decode cX8_top 137 = .ok (.goto (-44), 3) := by decide +kernel
theorem dX8_top_140 : decode cX8_top 140 = .ok (.bipush 7, 2) := by decide +kernel
theorem dX8_top_142 : decode cX8_top 142 = .ok (.istore 5, 2) := by decide +kernel
theorem dX8_top_144 : decode cX8_top 144 = .ok (.iload 5, 2) := by decide +kernel
theorem dX8_top_146 : decode cX8_top 146 = .ok (.ifCond .le 83, 3) := by decide +kernel
theorem dX8_top_149 : decode cX8_top 149 = .ok (.aload_n 0, 1) := by decide +kernel
theorem dX8_top_150 : decode cX8_top 150 = .ok (.getfield 71, 3) := by decide +kernel
theorem dX8_top_153 : decode cX8_top 153 = .ok (.iload 5, 2) := by decide +kernel
theorem dX8_top_155 : decode cX8_top 155 = .ok (.baload, 1) := by decide +kernel
theorem dX8_top_156 : decode cX8_top 156 = .ok (.ifCond .ne 67, 3) := by decide +kernel
theorem dX8_top_159 : decode cX8_top 159 = .ok (.aload_n 0, 1) := by decide +kernel
theorem dX8_top_160 : decode cX8_top 160 = .ok (.getfield 71, 3) := by decide +kernel
theorem dX8_top_163 : decode cX8_top 163 = .ok (.iconst 2, 1) := by decide +kernel
theorem dX8_top_164 : decode cX8_top 164 = .ok (.iload 5, 2) := by decide +kernel
theorem dX8_top_166 : decode cX8_top 166 = .ok (.imul, 1) := by decide +kernel
theorem dX8_top_167 : decode cX8_top 167 = .ok (.baload, 1) := by decide +kernel
theorem dX8_top_168 : decode cX8_top 168 = .ok (.ifCond .eq 55, 3) := by decide +kernel
theorem dX8_top_171 : decode cX8_top 171 = .ok (.aload_n 0, 1) := by decide +kernel
theorem dX8_top_172 : decode cX8_top 172 = .ok (.getfield 71, 3) := by decide +kernel
theorem dX8_top_175 : decode cX8_top 175 = .ok (.iconst 2, 1) := by decide +kernel
theorem dX8_top_176 : decode cX8_top 176 = .ok (.iload 5, 2) := by decide +kernel
theorem dX8_top_178 : decode cX8_top 178 = .ok (.imul, 1) := by decide +kernel
theorem dX8_top_179 : decode cX8_top 179 = .ok (.iconst 1, 1) := by decide +kernel
theorem dX8_top_180 : decode cX8_top 180 = .ok (.iadd, 1) := by decide +kernel
theorem dX8_top_181 : decode cX8_top 181 = .ok (.baload, 1) := by decide +kernel
theorem dX8_top_182 : decode cX8_top 182 = .ok (.ifCond .eq 41, 3) := by decide +kernel
theorem dX8_top_185 : decode cX8_top 185 = .ok (.aload_n 0, 1) := by decide +kernel
theorem dX8_top_186 : decode cX8_top 186 = .ok (.getfield 75, 3) := by decide +kernel
theorem dX8_top_189 : decode cX8_top 189 = .ok (.iload 5, 2) := by decide +kernel
theorem dX8_top_191 : decode cX8_top 191 = .ok (.aload_n 0, 1) := by decide +kernel
theorem dX8_top_192 : decode cX8_top 192 = .ok (.getfield 75, 3) := by decide +kernel
theorem dX8_top_195 : decode cX8_top 195 = .ok (.iconst 2, 1) := by decide +kernel
theorem dX8_top_196 : decode cX8_top 196 = .ok (.iload 5, 2) := by decide +kernel
theorem dX8_top_198 : decode cX8_top 198 = .ok (.imul, 1) := by decide +kernel
theorem dX8_top_199 : decode cX8_top 199 = .ok (.laload, 1) := by decide +kernel
theorem dX8_top_200 : decode cX8_top 200 = .ok (.aload_n 0, 1) := by decide +kernel
theorem dX8_top_201 : decode cX8_top 201 = .ok (.getfield 75, 3) := by decide +kernel
theorem dX8_top_204 : decode cX8_top 204 = .ok (.iconst 2, 1) := by decide +kernel
theorem dX8_top_205 : decode cX8_top 205 = .ok (.iload 5, 2) := by decide +kernel
theorem dX8_top_207 : decode cX8_top 207 = .ok (.imul, 1) := by decide +kernel
theorem dX8_top_208 : decode cX8_top 208 = .ok (.iconst 1, 1) := by decide +kernel
theorem dX8_top_209 : decode cX8_top 209 = .ok (.iadd, 1) := by decide +kernel
theorem dX8_top_210 : decode cX8_top 210 = .ok (.laload, 1) := by decide +kernel
theorem dX8_top_211 : decode cX8_top 211 = .ok (.invokestatic 128, 3) := by decide +kernel
theorem dX8_top_214 : decode cX8_top 214 = .ok (.lastore, 1) := by decide +kernel
theorem dX8_top_215 : decode cX8_top 215 = .ok (.aload_n 0, 1) := by decide +kernel
theorem dX8_top_216 : decode cX8_top 216 = .ok (.getfield 71, 3) := by decide +kernel
theorem dX8_top_219 : decode cX8_top 219 = .ok (.iload 5, 2) := by decide +kernel
theorem dX8_top_221 : decode cX8_top 221 = .ok (.iconst 1, 1) := by decide +kernel
theorem dX8_top_222 : decode cX8_top 222 = .ok (.bastore, 1) := by decide +kernel
theorem dX8_top_223 : decode cX8_top 223 = .ok (.iinc 5 (-1), 3) := by decide +kernel
theorem dX8_top_226 : decode cX8_top 226 = .ok (.goto (-82), 3) := by decide +kernel
theorem dX8_top_229 : decode cX8_top 229 = .ok (.aload_n 0, 1) := by decide +kernel
theorem dX8_top_230 : decode cX8_top 230 = .ok (.getfield 75, 3) := by decide +kernel
theorem dX8_top_233 : decode cX8_top 233 = .ok (.iconst 1, 1) := by decide +kernel
theorem dX8_top_234 : decode cX8_top 234 = .ok (.laload, 1) := by decide +kernel
theorem dX8_top_235 : decode cX8_top 235 = .ok (.lreturn, 1) := by decide +kernel
theorem dX8_fraud_0 : decode cX8_fraud 0 = .ok (.aload_n 0, 1) := by decide +kernel
theorem dX8_fraud_1 : decode cX8_fraud 1 = .ok (.iload_n 1, 1) := by decide +kernel
theorem dX8_fraud_2 : decode cX8_fraud 2 = .ok (.invokevirtual 117, 3) := by decide +kernel
theorem dX8_fraud_5 : decode cX8_fraud 5 = .ok (.ifCond .eq 17, 3) := by decide +kernel
theorem dX8_fraud_8 : decode cX8_fraud 8 = .ok (.aload_n 0, 1) := by decide +kernel
theorem dX8_fraud_9 : decode cX8_fraud 9 = .ok (.iload_n 2, 1) := by decide +kernel
theorem dX8_fraud_10 : decode cX8_fraud 10 = .ok (.invokevirtual 117, 3) := by decide +kernel
theorem dX8_fraud_13 : decode cX8_fraud 13 = .ok (.ifCond .eq 9, 3) := by decide +kernel
theorem dX8_fraud_16 : decode cX8_fraud 16 = .ok (.lload_n 3, 1) := by decide +kernel
theorem dX8_fraud_17 : decode cX8_fraud 17 = .ok (.lconst 1, 1) := by decide +kernel
theorem dX8_fraud_18 : decode cX8_fraud 18 = .ok (.lcmp, 1) := by decide +kernel
theorem dX8_fraud_19 : decode cX8_fraud 19 = .ok (.ifCond .ge 5, 3) := by decide +kernel
theorem dX8_fraud_22 : decode cX8_fraud 22 = .ok (.iconst (-1), 1) := by decide +kernel
theorem dX8_fraud_23 : decode cX8_fraud 23 = .ok (.ireturn, 1) := by decide +kernel
theorem dX8_fraud_24 : decode cX8_fraud 24 = .ok (.aload_n 0, 1) := by decide +kernel
theorem dX8_fraud_25 : decode cX8_fraud 25 = .ok (.aload_n 0, 1) := by decide +kernel
theorem dX8_fraud_26 : decode cX8_fraud 26 = .ok (.getfield 185, 3) := by decide +kernel
theorem dX8_fraud_29 : decode cX8_fraud 29 = .ok (.aload_n 0, 1) := by decide +kernel
theorem dX8_fraud_30 : decode cX8_fraud 30 = .ok (.getfield 189, 3) := by decide +kernel
theorem dX8_fraud_33 : decode cX8_fraud 33 = .ok (.invokevirtual 197, 3) := by decide +kernel
theorem dX8_fraud_36 : decode cX8_fraud 36 = .ok (.aload_n 0, 1) := by decide +kernel
theorem dX8_fraud_37 : decode cX8_fraud 37 = .ok (.getfield 26, 3) := by decide +kernel
theorem dX8_fraud_40 : decode cX8_fraud 40 = .ok (.iload_n 1, 1) := by decide +kernel
theorem dX8_fraud_41 : decode cX8_fraud 41 = .ok (.laload, 1) := by decide +kernel
theorem dX8_fraud_42 : decode cX8_fraud 42 = .ok (.lcmp, 1) := by decide +kernel
theorem dX8_fraud_43 : decode cX8_fraud 43 = .ok (.ifCond .eq 6, 3) := by decide +kernel
theorem dX8_fraud_46 : decode cX8_fraud 46 = .ok (.bipush (-2), 2) := by decide +kernel
theorem dX8_fraud_48 : decode cX8_fraud 48 = .ok (.ireturn, 1) := by decide +kernel
theorem dX8_fraud_49 : decode cX8_fraud 49 = .ok (.aload_n 0, 1) := by decide +kernel
theorem dX8_fraud_50 : decode cX8_fraud 50 = .ok (.getfield 185, 3) := by decide +kernel
theorem dX8_fraud_53 : decode cX8_fraud 53 = .ok (.lload_n 3, 1) := by decide +kernel
theorem dX8_fraud_54 : decode cX8_fraud 54 = .ok (.lcmp, 1) := by decide +kernel
theorem dX8_fraud_55 : decode cX8_fraud 55 = .ok (.ifCond .lt 7, 3) := by decide +kernel
theorem dX8_fraud_58 : decode cX8_fraud 58 = .ok (.iconst 1, 1) := by decide +kernel
theorem dX8_fraud_59 : decode cX8_fraud 59 = .ok (.goto 4, 3) := by decide +kernel
theorem dX8_fraud_62 : decode cX8_fraud 62 = .ok (.iconst 0, 1) := by decide +kernel
theorem dX8_fraud_63 : decode cX8_fraud 63 = .ok (.istore 5, 2) := by decide +kernel
theorem dX8_fraud_65 : decode cX8_fraud 65 = .ok (.aload_n 0, 1) := by decide +kernel
theorem dX8_fraud_66 : decode cX8_fraud 66 = .ok (.iload 5, 2) := by decide +kernel
theorem dX8_fraud_68 : decode cX8_fraud 68 = .ok (.ifCond .eq 12, 3) := by decide +kernel
theorem dX8_fraud_71 : decode cX8_fraud 71 = .ok (.aload_n 0, 1) := by decide +kernel
theorem dX8_fraud_72 : decode cX8_fraud 72 = .ok (.getfield 185, 3) := by decide +kernel
theorem dX8_fraud_75 : decode cX8_fraud 75 = .ok (.lload_n 3, 1) := by decide +kernel
theorem dX8_fraud_76 : decode cX8_fraud 76 = .ok (.lsub, 1) := by decide +kernel
theorem dX8_fraud_77 : decode cX8_fraud 77 = .ok (.goto 7, 3) := by decide +kernel
theorem dX8_fraud_80 : decode cX8_fraud 80 = .ok (.aload_n 0, 1) := by decide +kernel
theorem dX8_fraud_81 : decode cX8_fraud 81 = .ok (.getfield 185, 3) := by decide +kernel
theorem dX8_fraud_84 : decode cX8_fraud 84 = .ok (.iload 5, 2) := by decide +kernel
theorem dX8_fraud_86 : decode cX8_fraud 86 = .ok (.ifCond .eq 12, 3) := by decide +kernel
theorem dX8_fraud_89 : decode cX8_fraud 89 = .ok (.aload_n 0, 1) := by decide +kernel
theorem dX8_fraud_90 : decode cX8_fraud 90 = .ok (.getfield 189, 3) := by decide +kernel
theorem dX8_fraud_93 : decode cX8_fraud 93 = .ok (.lload_n 3, 1) := by decide +kernel
theorem dX8_fraud_94 : decode cX8_fraud 94 = .ok (.ladd, 1) := by decide +kernel
theorem dX8_fraud_95 : decode cX8_fraud 95 = .ok (.goto 7, 3) := by decide +kernel
theorem dX8_fraud_98 : decode cX8_fraud 98 = .ok (.aload_n 0, 1) := by decide +kernel
theorem dX8_fraud_99 : decode cX8_fraud 99 = .ok (.getfield 189, 3) := by decide +kernel
theorem dX8_fraud_102 : decode cX8_fraud 102 = .ok (.invokevirtual 197, 3) := by decide +kernel
theorem dX8_fraud_105 : decode cX8_fraud 105 = .ok (.lstore 6, 2) := by decide +kernel
theorem dX8_fraud_107 : decode cX8_fraud 107 = .ok (.lload 6, 2) := by decide +kernel
theorem dX8_fraud_109 : decode cX8_fraud 109 = .ok (.aload_n 0, 1) := by decide +kernel
theorem dX8_fraud_110 : decode cX8_fraud 110 = .ok (.getfield 26, 3) := by decide +kernel
theorem dX8_fraud_113 : decode cX8_fraud 113 = .ok (.iload_n 2, 1) := by decide +kernel
theorem dX8_fraud_114 : decode cX8_fraud 114 = .ok (.laload, 1) := by decide +kernel
theorem dX8_fraud_115 : decode cX8_fraud 115 = .ok (.lcmp, 1) := by decide +kernel
theorem dX8_fraud_116 : decode cX8_fraud 116 = .ok (.ifCond .ne 7, 3) := by decide +kernel
theorem dX8_fraud_119 : decode cX8_fraud 119 = .ok (.iconst 0, 1) := by decide +kernel
theorem dX8_fraud_120 : decode cX8_fraud 120 = .ok (.goto 4, 3) := by decide +kernel
theorem dX8_fraud_123 : decode cX8_fraud 123 = .ok (.iconst 1, 1) := by decide +kernel
theorem dX8_fraud_124 : decode cX8_fraud 124 = .ok (.ireturn, 1) := by decide +kernel
theorem dX8_gcd_0 : decode cX8_gcd 0 = .ok (.lload_n 0, 1) := by decide +kernel
theorem dX8_gcd_1 : decode cX8_gcd 1 = .ok (.lstore 4, 2) := by decide +kernel
theorem dX8_gcd_3 : decode cX8_gcd 3 = .ok (.lload_n 2, 1) := by decide +kernel
theorem dX8_gcd_4 : decode cX8_gcd 4 = .ok (.lstore 6, 2) := by decide +kernel
theorem dX8_gcd_6 : decode cX8_gcd 6 = .ok (.lload 6, 2) := by decide +kernel
theorem dX8_gcd_8 : decode cX8_gcd 8 = .ok (.lconst 0, 1) := by decide +kernel
theorem dX8_gcd_9 : decode cX8_gcd 9 = .ok (.lcmp, 1) := by decide +kernel
theorem dX8_gcd_10 : decode cX8_gcd 10 = .ok (.ifCond .eq 21, 3) := by decide +kernel
theorem dX8_gcd_13 : decode cX8_gcd 13 = .ok (.lload 4, 2) := by decide +kernel
theorem dX8_gcd_15 : decode cX8_gcd 15 = .ok (.lload 6, 2) := by decide +kernel
theorem dX8_gcd_17 : decode cX8_gcd 17 = .ok (.lrem, 1) := by decide +kernel
theorem dX8_gcd_18 : decode cX8_gcd 18 = .ok (.lstore 8, 2) := by decide +kernel
theorem dX8_gcd_20 : decode cX8_gcd 20 = .ok (.lload 6, 2) := by decide +kernel
theorem dX8_gcd_22 : decode cX8_gcd 22 = .ok (.lstore 4, 2) := by decide +kernel
theorem dX8_gcd_24 : decode cX8_gcd 24 = .ok (.lload 8, 2) := by decide +kernel
theorem dX8_gcd_26 : decode cX8_gcd 26 = .ok (.lstore 6, 2) := by decide +kernel
theorem dX8_gcd_28 : decode cX8_gcd 28 = .ok (.goto (-22), 3) := by decide +kernel
theorem dX8_gcd_31 : decode cX8_gcd 31 = .ok (.lload 4, 2) := by decide +kernel
theorem dX8_gcd_33 : decode cX8_gcd 33 = .ok (.lreturn, 1) := by decide +kernel
theorem dX8_choose_0 : decode cX8_choose 0 = .ok (.iload_n 1, 1) := by decide +kernel
theorem dX8_choose_1 : decode cX8_choose 1 = .ok (.iload_n 0, 1) := by decide +kernel
theorem dX8_choose_2 : decode cX8_choose 2 = .ok (.if_icmp .le 7, 3) := by decide +kernel
theorem dX8_choose_5 : decode cX8_choose 5 = .ok (.lconst 0, 1) := by decide +kernel
theorem dX8_choose_6 : decode cX8_choose 6 = .ok (.goto 4, 3) := by decide +kernel
theorem dX8_choose_9 : decode cX8_choose 9 = .ok (.lconst 1, 1) := by decide +kernel
theorem dX8_choose_10 : decode cX8_choose 10 = .ok (.lstore_n 2, 1) := by decide +kernel
theorem dX8_choose_11 : decode cX8_choose 11 = .ok (.iconst 1, 1) := by decide +kernel
theorem dX8_choose_12 : decode cX8_choose 12 = .ok (.istore 4, 2) := by decide +kernel
theorem dX8_choose_14 : decode cX8_choose 14 = .ok (.iload 4, 2) := by decide +kernel
theorem dX8_choose_16 : decode cX8_choose 16 = .ok (.iload_n 1, 1) := by decide +kernel
theorem dX8_choose_17 : decode cX8_choose 17 = .ok (.if_icmp .gt 53, 3) := by decide +kernel
theorem dX8_choose_20 : decode cX8_choose 20 = .ok (.iload_n 1, 1) := by decide +kernel
theorem dX8_choose_21 : decode cX8_choose 21 = .ok (.iload_n 0, 1) := by decide +kernel
theorem dX8_choose_22 : decode cX8_choose 22 = .ok (.if_icmp .gt 48, 3) := by decide +kernel
theorem dX8_choose_25 : decode cX8_choose 25 = .ok (.iload_n 0, 1) := by decide +kernel
theorem dX8_choose_26 : decode cX8_choose 26 = .ok (.iload_n 1, 1) := by decide +kernel
theorem dX8_choose_27 : decode cX8_choose 27 = .ok (.isub, 1) := by decide +kernel
theorem dX8_choose_28 : decode cX8_choose 28 = .ok (.iload 4, 2) := by decide +kernel
theorem dX8_choose_30 : decode cX8_choose 30 = .ok (.iadd, 1) := by decide +kernel
theorem dX8_choose_31 : decode cX8_choose 31 = .ok (.i2l, 1) := by decide +kernel
theorem dX8_choose_32 : decode cX8_choose 32 = .ok (.iload 4, 2) := by decide +kernel
theorem dX8_choose_34 : decode cX8_choose 34 = .ok (.i2l, 1) := by decide +kernel
theorem dX8_choose_35 : decode cX8_choose 35 = .ok (.invokestatic 200, 3) := by decide +kernel
theorem dX8_choose_38 : decode cX8_choose 38 = .ok (.lstore 5, 2) := by decide +kernel
theorem dX8_choose_40 : decode cX8_choose 40 = .ok (.iload_n 0, 1) := by decide +kernel
theorem dX8_choose_41 : decode cX8_choose 41 = .ok (.iload_n 1, 1) := by decide +kernel
theorem dX8_choose_42 : decode cX8_choose 42 = .ok (.isub, 1) := by decide +kernel
theorem dX8_choose_43 : decode cX8_choose 43 = .ok (.iload 4, 2) := by decide +kernel
theorem dX8_choose_45 : decode cX8_choose 45 = .ok (.iadd, 1) := by decide +kernel
theorem dX8_choose_46 : decode cX8_choose 46 = .ok (.i2l, 1) := by decide +kernel
theorem dX8_choose_47 : decode cX8_choose 47 = .ok (.lload 5, 2) := by decide +kernel
theorem dX8_choose_49 : decode cX8_choose 49 = .ok (.ldiv, 1) := by decide +kernel
theorem dX8_choose_50 : decode cX8_choose 50 = .ok (.lstore 7, 2) := by decide +kernel
theorem dX8_choose_52 : decode cX8_choose 52 = .ok (.lload_n 2, 1) := by decide +kernel
theorem dX8_choose_53 : decode cX8_choose 53 = .ok (.iload 4, 2) := by decide +kernel
theorem dX8_choose_55 : decode cX8_choose 55 = .ok (.i2l, 1) := by decide +kernel
theorem dX8_choose_56 : decode cX8_choose 56 = .ok (.lload 5, 2) := by decide +kernel
theorem dX8_choose_58 : decode cX8_choose 58 = .ok (.ldiv, 1) := by decide +kernel
theorem dX8_choose_59 : decode cX8_choose 59 = .ok (.ldiv, 1) := by decide +kernel
theorem dX8_choose_60 : decode cX8_choose 60 = .ok (.lload 7, 2) := by decide +kernel
theorem dX8_choose_62 : decode cX8_choose 62 = .ok (.lmul, 1) := by decide +kernel
theorem dX8_choose_63 : decode cX8_choose 63 = .ok (.lstore_n 2, 1) := by decide +kernel
theorem dX8_choose_64 : decode cX8_choose 64 = .ok (.iinc 4 1, 3) := by decide +kernel
theorem dX8_choose_67 : decode cX8_choose 67 = .ok (.goto (-53), 3) := by decide +kernel
theorem dX8_choose_70 : decode cX8_choose 70 = .ok (.lload_n 2, 1) := by decide +kernel
theorem dX8_choose_71 : decode cX8_choose 71 = .ok (.lreturn, 1) := by decide +kernel
theorem dX8_chance_0 : decode cX8_chance 0 = .ok (.iload_n 1, 1) := by decide +kernel
theorem dX8_chance_1 : decode cX8_chance 1 = .ok (.i2l, 1) := by decide +kernel
theorem dX8_chance_2 : decode cX8_chance 2 = .ok (.lconst 1, 1) := by decide +kernel
theorem dX8_chance_3 : decode cX8_chance 3 = .ok (.ldc2_w 203, 3) := by decide +kernel
theorem dX8_chance_6 : decode cX8_chance 6 = .ok (.invokestatic 96, 3) := by decide +kernel
theorem dX8_chance_9 : decode cX8_chance 9 = .ok (.ifCond .eq 36, 3) := by decide +kernel
theorem dX8_chance_12 : decode cX8_chance 12 = .ok (.iload_n 2, 1) := by decide +kernel
theorem dX8_chance_13 : decode cX8_chance 13 = .ok (.i2l, 1) := by decide +kernel
theorem dX8_chance_14 : decode cX8_chance 14 = .ok (.lconst 0, 1) := by decide +kernel
theorem dX8_chance_15 : decode cX8_chance 15 = .ok (.iload_n 1, 1) := by decide +kernel
theorem dX8_chance_16 : decode cX8_chance 16 = .ok (.i2l, 1) := by decide +kernel
theorem dX8_chance_17 : decode cX8_chance 17 = .ok (.invokestatic 96, 3) := by decide +kernel
theorem dX8_chance_20 : decode cX8_chance 20 = .ok (.ifCond .eq 25, 3) := by decide +kernel
theorem dX8_chance_23 : decode cX8_chance 23 = .ok (.iload_n 3, 1) := by decide +kernel
theorem dX8_chance_24 : decode cX8_chance 24 = .ok (.i2l, 1) := by decide +kernel
theorem dX8_chance_25 : decode cX8_chance 25 = .ok (.lconst 0, 1) := by decide +kernel
theorem dX8_chance_26 : decode cX8_chance 26 = .ok (.iload_n 1, 1) := by decide +kernel
theorem dX8_chance_27 : decode cX8_chance 27 = .ok (.i2l, 1) := by decide +kernel
theorem dX8_chance_28 : decode cX8_chance 28 = .ok (.invokestatic 96, 3) := by decide +kernel
theorem dX8_chance_31 : decode cX8_chance 31 = .ok (.ifCond .eq 14, 3) := by decide +kernel
theorem dX8_chance_34 : decode cX8_chance 34 = .ok (.iload 4, 2) := by decide +kernel
theorem dX8_chance_36 : decode cX8_chance 36 = .ok (.i2l, 1) := by decide +kernel
theorem dX8_chance_37 : decode cX8_chance 37 = .ok (.lconst 0, 1) := by decide +kernel
theorem dX8_chance_38 : decode cX8_chance 38 = .ok (.lconst 1, 1) := by decide +kernel
theorem dX8_chance_39 : decode cX8_chance 39 = .ok (.invokestatic 96, 3) := by decide +kernel
theorem dX8_chance_42 : decode cX8_chance 42 = .ok (.ifCond .ne 7, 3) := by decide +kernel
theorem dX8_chance_45 : decode cX8_chance 45 = .ok (.ldc2_w 205, 3) := by decide +kernel
theorem dX8_chance_48 : decode cX8_chance 48 = .ok (.lreturn, 1) := by decide +kernel
theorem dX8_chance_49 : decode cX8_chance 49 = .ok (.iload_n 1, 1) := by decide +kernel
theorem dX8_chance_50 : decode cX8_chance 50 = .ok (.iload_n 2, 1) := by decide +kernel
theorem dX8_chance_51 : decode cX8_chance 51 = .ok (.isub, 1) := by decide +kernel
theorem dX8_chance_52 : decode cX8_chance 52 = .ok (.iload_n 3, 1) := by decide +kernel
theorem dX8_chance_53 : decode cX8_chance 53 = .ok (.invokestatic 207, 3) := by decide +kernel
theorem dX8_chance_56 : decode cX8_chance 56 = .ok (.lstore 5, 2) := by decide +kernel
theorem dX8_chance_58 : decode cX8_chance 58 = .ok (.iload_n 1, 1) := by decide +kernel
theorem dX8_chance_59 : decode cX8_chance 59 = .ok (.iload_n 3, 1) := by decide +kernel
theorem dX8_chance_60 : decode cX8_chance 60 = .ok (.invokestatic 207, 3) := by decide +kernel
theorem dX8_chance_63 : decode cX8_chance 63 = .ok (.lstore 7, 2) := by decide +kernel
theorem dX8_chance_65 : decode cX8_chance 65 = .ok (.lload 7, 2) := by decide +kernel
theorem dX8_chance_67 : decode cX8_chance 67 = .ok (.lload 5, 2) := by decide +kernel
theorem dX8_chance_69 : decode cX8_chance 69 = .ok (.invokestatic 200, 3) := by decide +kernel
theorem dX8_chance_72 : decode cX8_chance 72 = .ok (.lstore 9, 2) := by decide +kernel
theorem dX8_chance_74 : decode cX8_chance 74 = .ok (.iload 4, 2) := by decide +kernel
theorem dX8_chance_76 : decode cX8_chance 76 = .ok (.ifCond .ne 11, 3) := by decide +kernel
theorem dX8_chance_79 : decode cX8_chance 79 = .ok (.lload 5, 2) := by decide +kernel
theorem dX8_chance_81 : decode cX8_chance 81 = .ok (.lload 9, 2) := by decide +kernel
theorem dX8_chance_83 : decode cX8_chance 83 = .ok (.ldiv, 1) := by decide +kernel
theorem dX8_chance_84 : decode cX8_chance 84 = .ok (.goto 8, 3) := by decide +kernel
theorem dX8_chance_87 : decode cX8_chance 87 = .ok (.lload 7, 2) := by decide +kernel
theorem dX8_chance_89 : decode cX8_chance 89 = .ok (.lload 9, 2) := by decide +kernel
theorem dX8_chance_91 : decode cX8_chance 91 = .ok (.ldiv, 1) := by decide +kernel
theorem dX8_chance_92 : decode cX8_chance 92 = .ok (.lreturn, 1) := by decide +kernel
theorem dX8_samples_0 : decode cX8_samples 0 = .ok (.iload_n 1, 1) := by decide +kernel
theorem dX8_samples_1 : decode cX8_samples 1 = .ok (.i2l, 1) := by decide +kernel
theorem dX8_samples_2 : decode cX8_samples 2 = .ok (.lconst 1, 1) := by decide +kernel
theorem dX8_samples_3 : decode cX8_samples 3 = .ok (.ldc2_w 203, 3) := by decide +kernel
theorem dX8_samples_6 : decode cX8_samples 6 = .ok (.invokestatic 96, 3) := by decide +kernel
theorem dX8_samples_9 : decode cX8_samples 9 = .ok (.ifCond .eq 26, 3) := by decide +kernel
theorem dX8_samples_12 : decode cX8_samples 12 = .ok (.iload_n 2, 1) := by decide +kernel
theorem dX8_samples_13 : decode cX8_samples 13 = .ok (.i2l, 1) := by decide +kernel
theorem dX8_samples_14 : decode cX8_samples 14 = .ok (.lconst 0, 1) := by decide +kernel
theorem dX8_samples_15 : decode cX8_samples 15 = .ok (.iload_n 1, 1) := by decide +kernel
theorem dX8_samples_16 : decode cX8_samples 16 = .ok (.i2l, 1) := by decide +kernel
theorem dX8_samples_17 : decode cX8_samples 17 = .ok (.invokestatic 96, 3) := by decide +kernel
theorem dX8_samples_20 : decode cX8_samples 20 = .ok (.ifCond .eq 15, 3) := by decide +kernel
theorem dX8_samples_23 : decode cX8_samples 23 = .ok (.iload_n 3, 1) := by decide +kernel
theorem dX8_samples_24 : decode cX8_samples 24 = .ok (.i2l, 1) := by decide +kernel
theorem dX8_samples_25 : decode cX8_samples 25 = .ok (.lconst 1, 1) := by decide +kernel
theorem dX8_samples_26 : decode cX8_samples 26 = .ok (.ldc2_w 211, 3) := by decide +kernel
theorem dX8_samples_29 : decode cX8_samples 29 = .ok (.invokestatic 96, 3) := by decide +kernel
theorem dX8_samples_32 : decode cX8_samples 32 = .ok (.ifCond .ne 5, 3) := by decide +kernel
theorem dX8_samples_35 : decode cX8_samples 35 = .ok (.iconst (-1), 1) := by decide +kernel
theorem dX8_samples_36 : decode cX8_samples 36 = .ok (.ireturn, 1) := by decide +kernel
theorem dX8_samples_37 : decode cX8_samples 37 = .ok (.iconst 0, 1) := by decide +kernel
theorem dX8_samples_38 : decode cX8_samples 38 = .ok (.istore 4, 2) := by decide +kernel
theorem dX8_samples_40 : decode cX8_samples 40 = .ok (.iload 4, 2) := by decide +kernel
theorem dX8_samples_42 : decode cX8_samples 42 = .ok (.iload_n 1, 1) := by decide +kernel
theorem dX8_samples_43 : decode cX8_samples 43 = .ok (.if_icmp .gt 33, 3) := by decide +kernel
theorem dX8_samples_46 : decode cX8_samples 46 = .ok (.iload_n 1, 1) := by decide +kernel
theorem dX8_samples_47 : decode cX8_samples 47 = .ok (.iload_n 2, 1) := by decide +kernel
theorem dX8_samples_48 : decode cX8_samples 48 = .ok (.isub, 1) := by decide +kernel
theorem dX8_samples_49 : decode cX8_samples 49 = .ok (.iload 4, 2) := by decide +kernel
theorem dX8_samples_51 : decode cX8_samples 51 = .ok (.invokestatic 207, 3) := by decide +kernel
theorem dX8_samples_54 : decode cX8_samples 54 = .ok (.iload_n 1, 1) := by decide +kernel
theorem dX8_samples_55 : decode cX8_samples 55 = .ok (.iload 4, 2) := by decide +kernel
theorem dX8_samples_57 : decode cX8_samples 57 = .ok (.invokestatic 207, 3) := by decide +kernel
theorem dX8_samples_60 : decode cX8_samples 60 = .ok (.iload_n 3, 1) := by decide +kernel
theorem dX8_samples_61 : decode cX8_samples 61 = .ok (.i2l, 1) := by decide +kernel
theorem dX8_samples_62 : decode cX8_samples 62 = .ok (.ldiv, 1) := by decide +kernel
theorem dX8_samples_63 : decode cX8_samples 63 = .ok (.lcmp, 1) := by decide +kernel
theorem dX8_samples_64 : decode cX8_samples 64 = .ok (.ifCond .gt 6, 3) := by decide +kernel
theorem dX8_samples_67 : decode cX8_samples 67 = .ok (.iload 4, 2) := by decide +kernel
theorem dX8_samples_69 : decode cX8_samples 69 = .ok (.ireturn, 1) := by decide +kernel
theorem dX8_samples_70 : decode cX8_samples 70 = .ok (.iinc 4 1, 3) := by decide +kernel
theorem dX8_samples_73 : decode cX8_samples 73 = .ok (.goto (-33), 3) := by decide +kernel
theorem dX8_samples_76 : decode cX8_samples 76 = .ok (.bipush (-2), 2) := by decide +kernel
theorem dX8_samples_78 : decode cX8_samples 78 = .ok (.ireturn, 1) := by decide +kernel
theorem dX8_told_0 : decode cX8_told 0 = .ok (.iload_n 1, 1) := by decide +kernel
theorem dX8_told_1 : decode cX8_told 1 = .ok (.ifCond .ne 10, 3) := by decide +kernel
theorem dX8_told_4 : decode cX8_told 4 = .ok (.aload_n 0, 1) := by decide +kernel
theorem dX8_told_5 : decode cX8_told 5 = .ok (.getfield 104, 3) := by decide +kernel
theorem dX8_told_8 : decode cX8_told 8 = .ok (.goto 41, 3) := by decide +kernel
theorem dX8_told_11 : decode cX8_told 11 = .ok (.iload_n 1, 1) := by decide +kernel
theorem dX8_told_12 : decode cX8_told 12 = .ok (.iconst 1, 1) := by decide +kernel
theorem dX8_told_13 : decode cX8_told 13 = .ok (.if_icmp .ne 10, 3) := by decide +kernel
theorem dX8_told_16 : decode cX8_told 16 = .ok (.aload_n 0, 1) := by decide +kernel
theorem dX8_told_17 : decode cX8_told 17 = .ok (.getfield 108, 3) := by decide +kernel
theorem dX8_told_20 : decode cX8_told 20 = .ok (.goto 29, 3) := by decide +kernel
theorem dX8_told_23 : decode cX8_told 23 = .ok (.iload_n 1, 1) := by decide +kernel
theorem dX8_told_24 : decode cX8_told 24 = .ok (.i2l, 1) := by decide +kernel
theorem dX8_told_25 : decode cX8_told 25 = .ok (.ldc2_w 122, 3) := by decide +kernel
theorem dX8_told_28 : decode cX8_told 28 = .ok (.ldc2_w 213, 3) := by decide +kernel
theorem dX8_told_31 : decode cX8_told 31 = .ok (.invokestatic 96, 3) := by decide +kernel
theorem dX8_told_34 : decode cX8_told 34 = .ok (.ifCond .eq 14, 3) := by decide +kernel
theorem dX8_told_37 : decode cX8_told 37 = .ok (.aload_n 0, 1) := by decide +kernel
theorem dX8_told_38 : decode cX8_told 38 = .ok (.getfield 32, 3) := by decide +kernel
theorem dX8_told_41 : decode cX8_told 41 = .ok (.iload_n 1, 1) := by decide +kernel
theorem dX8_told_42 : decode cX8_told 42 = .ok (.iconst 2, 1) := by decide +kernel
theorem dX8_told_43 : decode cX8_told 43 = .ok (.isub, 1) := by decide +kernel
theorem dX8_told_44 : decode cX8_told 44 = .ok (.iaload, 1) := by decide +kernel
theorem dX8_told_45 : decode cX8_told 45 = .ok (.goto 4, 3) := by decide +kernel
theorem dX8_told_48 : decode cX8_told 48 = .ok (.iconst (-1), 1) := by decide +kernel
theorem dX8_told_49 : decode cX8_told 49 = .ok (.ireturn, 1) := by decide +kernel
end
section
theorem dL_law_0 : decode cL_law 0 = .ok (.new 7, 3) := by decide +kernel
theorem dL_law_3 : decode cL_law 3 = .ok (.dup, 1) := by decide +kernel
theorem dL_law_4 : decode cL_law 4 = .ok (.invokespecial 9, 3) := by decide +kernel
theorem dL_law_7 : decode cL_law 7 = .ok (.astore_n 1, 1) := by decide +kernel
theorem dL_law_8 : decode cL_law 8 = .ok (.new 10, 3) := by decide +kernel
theorem dL_law_11 : decode cL_law 11 = .ok (.dup, 1) := by decide +kernel
theorem dL_law_12 : decode cL_law 12 = .ok (.invokespecial 12, 3) := by decide +kernel
theorem dL_law_15 : decode cL_law 15 = .ok (.astore_n 2, 1) := by decide +kernel
theorem dL_law_16 : decode cL_law 16 = .ok (.iconst 0, 1) := by decide +kernel
theorem dL_law_17 : decode cL_law 17 = .ok (.istore_n 3, 1) := by decide +kernel
theorem dL_law_18 : decode cL_law 18 = .ok (.iload_n 3, 1) := by decide +kernel
theorem dL_law_19 : decode cL_law 19 = .ok (.aload_n 0, 1) := by decide +kernel
theorem dL_law_20 : decode cL_law 20 = .ok (.arraylength, 1) := by decide +kernel
theorem dL_law_21 : decode cL_law 21 = .ok (.bipush 8, 2) := by decide +kernel
theorem dL_law_23 : decode cL_law 23 = .ok (.isub, 1) := by decide +kernel
theorem dL_law_24 : decode cL_law 24 = .ok (.if_icmp .gt 1177, 3) := by decide +kernel
theorem dL_law_27 : decode cL_law 27 = .ok (.aload_n 0, 1) := by decide +kernel
theorem dL_law_28 : decode cL_law 28 = .ok (.iload_n 3, 1) := by decide +kernel
theorem dL_law_29 : decode cL_law 29 = .ok (.iaload, 1) := by decide +kernel
theorem dL_law_30 : decode cL_law 30 = .ok (.bipush 31, 2) := by decide +kernel
theorem dL_law_32 : decode cL_law 32 = .ok (.iand, 1) := by decide +kernel
theorem dL_law_33 : decode cL_law 33 = .ok (.tableswitch 1162 0 23 #[111, 204, 331, 364, 397, 421, 444, 477, 510, 543, 576, 619, 652, 685, 718, 761, 825, 849, 882, 906, 969, 1042, 1096, 1139], 111) := by decide +kernel
theorem dL_law_144 : decode cL_law 144 = .ok (.aload_n 1, 1) := by decide +kernel
theorem dL_law_145 : decode cL_law 145 = .ok (.aload_n 0, 1) := by decide +kernel
theorem dL_law_146 : decode cL_law 146 = .ok (.iload_n 3, 1) := by decide +kernel
theorem dL_law_147 : decode cL_law 147 = .ok (.iconst 1, 1) := by decide +kernel
theorem dL_law_148 : decode cL_law 148 = .ok (.iadd, 1) := by decide +kernel
theorem dL_law_149 : decode cL_law 149 = .ok (.iaload, 1) := by decide +kernel
theorem dL_law_150 : decode cL_law 150 = .ok (.i2l, 1) := by decide +kernel
theorem dL_law_151 : decode cL_law 151 = .ok (.bipush 32, 2) := by decide +kernel
theorem dL_law_153 : decode cL_law 153 = .ok (.lshl, 1) := by decide +kernel
theorem dL_law_154 : decode cL_law 154 = .ok (.aload_n 0, 1) := by decide +kernel
theorem dL_law_155 : decode cL_law 155 = .ok (.iload_n 3, 1) := by decide +kernel
theorem dL_law_156 : decode cL_law 156 = .ok (.iconst 2, 1) := by decide +kernel
theorem dL_law_157 : decode cL_law 157 = .ok (.iadd, 1) := by decide +kernel
theorem dL_law_158 : decode cL_law 158 = .ok (.iaload, 1) := by decide +kernel
theorem dL_law_159 : decode cL_law 159 = .ok (.i2l, 1) := by decide +kernel
theorem dL_law_160 : decode cL_law 160 = .ok (.ldc2_w 13, 3) := by decide +kernel
theorem dL_law_163 : decode cL_law 163 = .ok (.land, 1) := by decide +kernel
theorem dL_law_164 : decode cL_law 164 = .ok (.lor, 1) := by decide +kernel
theorem dL_law_165 : decode cL_law 165 = .ok (.aload_n 0, 1) := by decide +kernel
theorem dL_law_166 : decode cL_law 166 = .ok (.iload_n 3, 1) := by decide +kernel
theorem dL_law_167 : decode cL_law 167 = .ok (.iconst 3, 1) := by decide +kernel
theorem dL_law_168 : decode cL_law 168 = .ok (.iadd, 1) := by decide +kernel
theorem dL_law_169 : decode cL_law 169 = .ok (.iaload, 1) := by decide +kernel
theorem dL_law_170 : decode cL_law 170 = .ok (.i2l, 1) := by decide +kernel
theorem dL_law_171 : decode cL_law 171 = .ok (.bipush 32, 2) := by decide +kernel
theorem dL_law_173 : decode cL_law 173 = .ok (.lshl, 1) := by decide +kernel
theorem dL_law_174 : decode cL_law 174 = .ok (.aload_n 0, 1) := by decide +kernel
theorem dL_law_175 : decode cL_law 175 = .ok (.iload_n 3, 1) := by decide +kernel
theorem dL_law_176 : decode cL_law 176 = .ok (.iconst 4, 1) := by decide +kernel
theorem dL_law_177 : decode cL_law 177 = .ok (.iadd, 1) := by decide +kernel
theorem dL_law_178 : decode cL_law 178 = .ok (.iaload, 1) := by decide +kernel
theorem dL_law_179 : decode cL_law 179 = .ok (.i2l, 1) := by decide +kernel
theorem dL_law_180 : decode cL_law 180 = .ok (.ldc2_w 13, 3) := by decide +kernel
theorem dL_law_183 : decode cL_law 183 = .ok (.land, 1) := by decide +kernel
theorem dL_law_184 : decode cL_law 184 = .ok (.lor, 1) := by decide +kernel
theorem dL_law_185 : decode cL_law 185 = .ok (.invokevirtual 15, 3) := by decide +kernel
theorem dL_law_188 : decode cL_law 188 = .ok (.aload_n 2, 1) := by decide +kernel
theorem dL_law_189 : decode cL_law 189 = .ok (.aload_n 0, 1) := by decide +kernel
theorem dL_law_190 : decode cL_law 190 = .ok (.iload_n 3, 1) := by decide +kernel
theorem dL_law_191 : decode cL_law 191 = .ok (.iconst 1, 1) := by decide +kernel
theorem dL_law_192 : decode cL_law 192 = .ok (.iadd, 1) := by decide +kernel
theorem dL_law_193 : decode cL_law 193 = .ok (.iaload, 1) := by decide +kernel
theorem dL_law_194 : decode cL_law 194 = .ok (.i2l, 1) := by decide +kernel
theorem dL_law_195 : decode cL_law 195 = .ok (.bipush 32, 2) := by decide +kernel
theorem dL_law_197 : decode cL_law 197 = .ok (.lshl, 1) := by decide +kernel
theorem dL_law_198 : decode cL_law 198 = .ok (.aload_n 0, 1) := by decide +kernel
theorem dL_law_199 : decode cL_law 199 = .ok (.iload_n 3, 1) := by decide +kernel
theorem dL_law_200 : decode cL_law 200 = .ok (.iconst 2, 1) := by decide +kernel
theorem dL_law_201 : decode cL_law 201 = .ok (.iadd, 1) := by decide +kernel
theorem dL_law_202 : decode cL_law 202 = .ok (.iaload, 1) := by decide +kernel
theorem dL_law_203 : decode cL_law 203 = .ok (.i2l, 1) := by decide +kernel
theorem dL_law_204 : decode cL_law 204 = .ok (.ldc2_w 13, 3) := by decide +kernel
theorem dL_law_207 : decode cL_law 207 = .ok (.land, 1) := by decide +kernel
theorem dL_law_208 : decode cL_law 208 = .ok (.lor, 1) := by decide +kernel
theorem dL_law_209 : decode cL_law 209 = .ok (.aload_n 0, 1) := by decide +kernel
theorem dL_law_210 : decode cL_law 210 = .ok (.iload_n 3, 1) := by decide +kernel
theorem dL_law_211 : decode cL_law 211 = .ok (.iconst 3, 1) := by decide +kernel
theorem dL_law_212 : decode cL_law 212 = .ok (.iadd, 1) := by decide +kernel
theorem dL_law_213 : decode cL_law 213 = .ok (.iaload, 1) := by decide +kernel
theorem dL_law_214 : decode cL_law 214 = .ok (.i2l, 1) := by decide +kernel
theorem dL_law_215 : decode cL_law 215 = .ok (.bipush 32, 2) := by decide +kernel
theorem dL_law_217 : decode cL_law 217 = .ok (.lshl, 1) := by decide +kernel
theorem dL_law_218 : decode cL_law 218 = .ok (.aload_n 0, 1) := by decide +kernel
theorem dL_law_219 : decode cL_law 219 = .ok (.iload_n 3, 1) := by decide +kernel
theorem dL_law_220 : decode cL_law 220 = .ok (.iconst 4, 1) := by decide +kernel
theorem dL_law_221 : decode cL_law 221 = .ok (.iadd, 1) := by decide +kernel
theorem dL_law_222 : decode cL_law 222 = .ok (.iaload, 1) := by decide +kernel
theorem dL_law_223 : decode cL_law 223 = .ok (.i2l, 1) := by decide +kernel
theorem dL_law_224 : decode cL_law 224 = .ok (.ldc2_w 13, 3) := by decide +kernel
theorem dL_law_227 : decode cL_law 227 = .ok (.land, 1) := by decide +kernel
theorem dL_law_228 : decode cL_law 228 = .ok (.lor, 1) := by decide +kernel
theorem dL_law_229 : decode cL_law 229 = .ok (.invokevirtual 19, 3) := by decide +kernel
theorem dL_law_232 : decode cL_law 232 = .ok (.if_icmp .eq 963, 3) := by decide +kernel
theorem dL_law_235 : decode cL_law 235 = .ok (.iconst 0, 1) := by decide +kernel
theorem dL_law_236 : decode cL_law 236 = .ok (.ireturn, 1) := by decide +kernel
theorem dL_law_237 : decode cL_law 237 = .ok (.aload_n 1, 1) := by decide +kernel
theorem dL_law_238 : decode cL_law 238 = .ok (.aload_n 0, 1) := by decide +kernel
theorem dL_law_239 : decode cL_law 239 = .ok (.iload_n 3, 1) := by decide +kernel
theorem dL_law_240 : decode cL_law 240 = .ok (.iconst 1, 1) := by decide +kernel
theorem dL_law_241 : decode cL_law 241 = .ok (.iadd, 1) := by decide +kernel
theorem dL_law_242 : decode cL_law 242 = .ok (.iaload, 1) := by decide +kernel
theorem dL_law_243 : decode cL_law 243 = .ok (.aload_n 0, 1) := by decide +kernel
theorem dL_law_244 : decode cL_law 244 = .ok (.iload_n 3, 1) := by decide +kernel
theorem dL_law_245 : decode cL_law 245 = .ok (.iconst 2, 1) := by decide +kernel
theorem dL_law_246 : decode cL_law 246 = .ok (.iadd, 1) := by decide +kernel
theorem dL_law_247 : decode cL_law 247 = .ok (.iaload, 1) := by decide +kernel
theorem dL_law_248 : decode cL_law 248 = .ok (.i2l, 1) := by decide +kernel
theorem dL_law_249 : decode cL_law 249 = .ok (.bipush 32, 2) := by decide +kernel
theorem dL_law_251 : decode cL_law 251 = .ok (.lshl, 1) := by decide +kernel
theorem dL_law_252 : decode cL_law 252 = .ok (.aload_n 0, 1) := by decide +kernel
theorem dL_law_253 : decode cL_law 253 = .ok (.iload_n 3, 1) := by decide +kernel
theorem dL_law_254 : decode cL_law 254 = .ok (.iconst 3, 1) := by decide +kernel
theorem dL_law_255 : decode cL_law 255 = .ok (.iadd, 1) := by decide +kernel
theorem dL_law_256 : decode cL_law 256 = .ok (.iaload, 1) := by decide +kernel
theorem dL_law_257 : decode cL_law 257 = .ok (.i2l, 1) := by decide +kernel
theorem dL_law_258 : decode cL_law 258 = .ok (.ldc2_w 13, 3) := by decide +kernel
theorem dL_law_261 : decode cL_law 261 = .ok (.land, 1) := by decide +kernel
theorem dL_law_262 : decode cL_law 262 = .ok (.lor, 1) := by decide +kernel
theorem dL_law_263 : decode cL_law 263 = .ok (.aload_n 0, 1) := by decide +kernel
theorem dL_law_264 : decode cL_law 264 = .ok (.iload_n 3, 1) := by decide +kernel
theorem dL_law_265 : decode cL_law 265 = .ok (.iconst 4, 1) := by decide +kernel
theorem dL_law_266 : decode cL_law 266 = .ok (.iadd, 1) := by decide +kernel
theorem dL_law_267 : decode cL_law 267 = .ok (.iaload, 1) := by decide +kernel
theorem dL_law_268 : decode cL_law 268 = .ok (.aload_n 0, 1) := by decide +kernel
theorem dL_law_269 : decode cL_law 269 = .ok (.iload_n 3, 1) := by decide +kernel
theorem dL_law_270 : decode cL_law 270 = .ok (.iconst 5, 1) := by decide +kernel
theorem dL_law_271 : decode cL_law 271 = .ok (.iadd, 1) := by decide +kernel
theorem dL_law_272 : decode cL_law 272 = .ok (.iaload, 1) := by decide +kernel
theorem dL_law_273 : decode cL_law 273 = .ok (.aload_n 0, 1) := by decide +kernel
theorem dL_law_274 : decode cL_law 274 = .ok (.iload_n 3, 1) := by decide +kernel
theorem dL_law_275 : decode cL_law 275 = .ok (.bipush 6, 2) := by decide +kernel
theorem dL_law_277 : decode cL_law 277 = .ok (.iadd, 1) := by decide +kernel
theorem dL_law_278 : decode cL_law 278 = .ok (.iaload, 1) := by decide +kernel
theorem dL_law_279 : decode cL_law 279 = .ok (.i2l, 1) := by decide +kernel
theorem dL_law_280 : decode cL_law 280 = .ok (.bipush 32, 2) := by decide +kernel
theorem dL_law_282 : decode cL_law 282 = .ok (.lshl, 1) := by decide +kernel
theorem dL_law_283 : decode cL_law 283 = .ok (.aload_n 0, 1) := by decide +kernel
theorem dL_law_284 : decode cL_law 284 = .ok (.iload_n 3, 1) := by decide +kernel
theorem dL_law_285 : decode cL_law 285 = .ok (.bipush 7, 2) := by decide +kernel
theorem dL_law_287 : decode cL_law 287 = .ok (.iadd, 1) := by decide +kernel
theorem dL_law_288 : decode cL_law 288 = .ok (.iaload, 1) := by decide +kernel
theorem dL_law_289 : decode cL_law 289 = .ok (.i2l, 1) := by decide +kernel
theorem dL_law_290 : decode cL_law 290 = .ok (.ldc2_w 13, 3) := by decide +kernel
theorem dL_law_293 : decode cL_law 293 = .ok (.land, 1) := by decide +kernel
theorem dL_law_294 : decode cL_law 294 = .ok (.lor, 1) := by decide +kernel
theorem dL_law_295 : decode cL_law 295 = .ok (.invokevirtual 20, 3) := by decide +kernel
theorem dL_law_298 : decode cL_law 298 = .ok (.aload_n 2, 1) := by decide +kernel
theorem dL_law_299 : decode cL_law 299 = .ok (.aload_n 0, 1) := by decide +kernel
theorem dL_law_300 : decode cL_law 300 = .ok (.iload_n 3, 1) := by decide +kernel
theorem dL_law_301 : decode cL_law 301 = .ok (.iconst 1, 1) := by decide +kernel
theorem dL_law_302 : decode cL_law 302 = .ok (.iadd, 1) := by decide +kernel
theorem dL_law_303 : decode cL_law 303 = .ok (.iaload, 1) := by decide +kernel
theorem dL_law_304 : decode cL_law 304 = .ok (.aload_n 0, 1) := by decide +kernel
theorem dL_law_305 : decode cL_law 305 = .ok (.iload_n 3, 1) := by decide +kernel
theorem dL_law_306 : decode cL_law 306 = .ok (.iconst 2, 1) := by decide +kernel
theorem dL_law_307 : decode cL_law 307 = .ok (.iadd, 1) := by decide +kernel
theorem dL_law_308 : decode cL_law 308 = .ok (.iaload, 1) := by decide +kernel
theorem dL_law_309 : decode cL_law 309 = .ok (.i2l, 1) := by decide +kernel
theorem dL_law_310 : decode cL_law 310 = .ok (.bipush 32, 2) := by decide +kernel
theorem dL_law_312 : decode cL_law 312 = .ok (.lshl, 1) := by decide +kernel
theorem dL_law_313 : decode cL_law 313 = .ok (.aload_n 0, 1) := by decide +kernel
theorem dL_law_314 : decode cL_law 314 = .ok (.iload_n 3, 1) := by decide +kernel
theorem dL_law_315 : decode cL_law 315 = .ok (.iconst 3, 1) := by decide +kernel
theorem dL_law_316 : decode cL_law 316 = .ok (.iadd, 1) := by decide +kernel
theorem dL_law_317 : decode cL_law 317 = .ok (.iaload, 1) := by decide +kernel
theorem dL_law_318 : decode cL_law 318 = .ok (.i2l, 1) := by decide +kernel
theorem dL_law_319 : decode cL_law 319 = .ok (.ldc2_w 13, 3) := by decide +kernel
theorem dL_law_322 : decode cL_law 322 = .ok (.land, 1) := by decide +kernel
theorem dL_law_323 : decode cL_law 323 = .ok (.lor, 1) := by decide +kernel
theorem dL_law_324 : decode cL_law 324 = .ok (.aload_n 0, 1) := by decide +kernel
theorem dL_law_325 : decode cL_law 325 = .ok (.iload_n 3, 1) := by decide +kernel
theorem dL_law_326 : decode cL_law 326 = .ok (.iconst 4, 1) := by decide +kernel
theorem dL_law_327 : decode cL_law 327 = .ok (.iadd, 1) := by decide +kernel
theorem dL_law_328 : decode cL_law 328 = .ok (.iaload, 1) := by decide +kernel
theorem dL_law_329 : decode cL_law 329 = .ok (.aload_n 0, 1) := by decide +kernel
theorem dL_law_330 : decode cL_law 330 = .ok (.iload_n 3, 1) := by decide +kernel
theorem dL_law_331 : decode cL_law 331 = .ok (.iconst 5, 1) := by decide +kernel
theorem dL_law_332 : decode cL_law 332 = .ok (.iadd, 1) := by decide +kernel
theorem dL_law_333 : decode cL_law 333 = .ok (.iaload, 1) := by decide +kernel
theorem dL_law_334 : decode cL_law 334 = .ok (.aload_n 0, 1) := by decide +kernel
theorem dL_law_335 : decode cL_law 335 = .ok (.iload_n 3, 1) := by decide +kernel
theorem dL_law_336 : decode cL_law 336 = .ok (.bipush 6, 2) := by decide +kernel
theorem dL_law_338 : decode cL_law 338 = .ok (.iadd, 1) := by decide +kernel
theorem dL_law_339 : decode cL_law 339 = .ok (.iaload, 1) := by decide +kernel
theorem dL_law_340 : decode cL_law 340 = .ok (.i2l, 1) := by decide +kernel
theorem dL_law_341 : decode cL_law 341 = .ok (.bipush 32, 2) := by decide +kernel
theorem dL_law_343 : decode cL_law 343 = .ok (.lshl, 1) := by decide +kernel
theorem dL_law_344 : decode cL_law 344 = .ok (.aload_n 0, 1) := by decide +kernel
theorem dL_law_345 : decode cL_law 345 = .ok (.iload_n 3, 1) := by decide +kernel
theorem dL_law_346 : decode cL_law 346 = .ok (.bipush 7, 2) := by decide +kernel
theorem dL_law_348 : decode cL_law 348 = .ok (.iadd, 1) := by decide +kernel
theorem dL_law_349 : decode cL_law 349 = .ok (.iaload, 1) := by decide +kernel
theorem dL_law_350 : decode cL_law 350 = .ok (.i2l, 1) := by decide +kernel
theorem dL_law_351 : decode cL_law 351 = .ok (.ldc2_w 13, 3) := by decide +kernel
theorem dL_law_354 : decode cL_law 354 = .ok (.land, 1) := by decide +kernel
theorem dL_law_355 : decode cL_law 355 = .ok (.lor, 1) := by decide +kernel
theorem dL_law_356 : decode cL_law 356 = .ok (.invokevirtual 24, 3) := by decide +kernel
theorem dL_law_359 : decode cL_law 359 = .ok (.if_icmp .eq 836, 3) := by decide +kernel
theorem dL_law_362 : decode cL_law 362 = .ok (.iconst 0, 1) := by decide +kernel
theorem dL_law_363 : decode cL_law 363 = .ok (.ireturn, 1) := by decide +kernel
theorem dL_law_364 : decode cL_law 364 = .ok (.aload_n 1, 1) := by decide +kernel
theorem dL_law_365 : decode cL_law 365 = .ok (.aload_n 0, 1) := by decide +kernel
theorem dL_law_366 : decode cL_law 366 = .ok (.iload_n 3, 1) := by decide +kernel
theorem dL_law_367 : decode cL_law 367 = .ok (.iconst 1, 1) := by decide +kernel
theorem dL_law_368 : decode cL_law 368 = .ok (.iadd, 1) := by decide +kernel
theorem dL_law_369 : decode cL_law 369 = .ok (.iaload, 1) := by decide +kernel
theorem dL_law_370 : decode cL_law 370 = .ok (.aload_n 0, 1) := by decide +kernel
theorem dL_law_371 : decode cL_law 371 = .ok (.iload_n 3, 1) := by decide +kernel
theorem dL_law_372 : decode cL_law 372 = .ok (.iconst 2, 1) := by decide +kernel
theorem dL_law_373 : decode cL_law 373 = .ok (.iadd, 1) := by decide +kernel
theorem dL_law_374 : decode cL_law 374 = .ok (.iaload, 1) := by decide +kernel
theorem dL_law_375 : decode cL_law 375 = .ok (.invokevirtual 25, 3) := by decide +kernel
theorem dL_law_378 : decode cL_law 378 = .ok (.aload_n 2, 1) := by decide +kernel
theorem dL_law_379 : decode cL_law 379 = .ok (.aload_n 0, 1) := by decide +kernel
theorem dL_law_380 : decode cL_law 380 = .ok (.iload_n 3, 1) := by decide +kernel
theorem dL_law_381 : decode cL_law 381 = .ok (.iconst 1, 1) := by decide +kernel
theorem dL_law_382 : decode cL_law 382 = .ok (.iadd, 1) := by decide +kernel
theorem dL_law_383 : decode cL_law 383 = .ok (.iaload, 1) := by decide +kernel
theorem dL_law_384 : decode cL_law 384 = .ok (.aload_n 0, 1) := by decide +kernel
theorem dL_law_385 : decode cL_law 385 = .ok (.iload_n 3, 1) := by decide +kernel
theorem dL_law_386 : decode cL_law 386 = .ok (.iconst 2, 1) := by decide +kernel
theorem dL_law_387 : decode cL_law 387 = .ok (.iadd, 1) := by decide +kernel
theorem dL_law_388 : decode cL_law 388 = .ok (.iaload, 1) := by decide +kernel
theorem dL_law_389 : decode cL_law 389 = .ok (.invokevirtual 29, 3) := by decide +kernel
theorem dL_law_392 : decode cL_law 392 = .ok (.if_icmp .eq 803, 3) := by decide +kernel
theorem dL_law_395 : decode cL_law 395 = .ok (.iconst 0, 1) := by decide +kernel
theorem dL_law_396 : decode cL_law 396 = .ok (.ireturn, 1) := by decide +kernel
theorem dL_law_397 : decode cL_law 397 = .ok (.aload_n 1, 1) := by decide +kernel
theorem dL_law_398 : decode cL_law 398 = .ok (.aload_n 0, 1) := by decide +kernel
theorem dL_law_399 : decode cL_law 399 = .ok (.iload_n 3, 1) := by decide +kernel
theorem dL_law_400 : decode cL_law 400 = .ok (.iconst 1, 1) := by decide +kernel
theorem dL_law_401 : decode cL_law 401 = .ok (.iadd, 1) := by decide +kernel
theorem dL_law_402 : decode cL_law 402 = .ok (.iaload, 1) := by decide +kernel
theorem dL_law_403 : decode cL_law 403 = .ok (.aload_n 0, 1) := by decide +kernel
theorem dL_law_404 : decode cL_law 404 = .ok (.iload_n 3, 1) := by decide +kernel
theorem dL_law_405 : decode cL_law 405 = .ok (.iconst 2, 1) := by decide +kernel
theorem dL_law_406 : decode cL_law 406 = .ok (.iadd, 1) := by decide +kernel
theorem dL_law_407 : decode cL_law 407 = .ok (.iaload, 1) := by decide +kernel
theorem dL_law_408 : decode cL_law 408 = .ok (.invokevirtual 30, 3) := by decide +kernel
theorem dL_law_411 : decode cL_law 411 = .ok (.aload_n 2, 1) := by decide +kernel
theorem dL_law_412 : decode cL_law 412 = .ok (.aload_n 0, 1) := by decide +kernel
theorem dL_law_413 : decode cL_law 413 = .ok (.iload_n 3, 1) := by decide +kernel
theorem dL_law_414 : decode cL_law 414 = .ok (.iconst 1, 1) := by decide +kernel
theorem dL_law_415 : decode cL_law 415 = .ok (.iadd, 1) := by decide +kernel
theorem dL_law_416 : decode cL_law 416 = .ok (.iaload, 1) := by decide +kernel
theorem dL_law_417 : decode cL_law 417 = .ok (.aload_n 0, 1) := by decide +kernel
theorem dL_law_418 : decode cL_law 418 = .ok (.iload_n 3, 1) := by decide +kernel
theorem dL_law_419 : decode cL_law 419 = .ok (.iconst 2, 1) := by decide +kernel
theorem dL_law_420 : decode cL_law 420 = .ok (.iadd, 1) := by decide +kernel
theorem dL_law_421 : decode cL_law 421 = .ok (.iaload, 1) := by decide +kernel
theorem dL_law_422 : decode cL_law 422 = .ok (.invokevirtual 33, 3) := by decide +kernel
theorem dL_law_425 : decode cL_law 425 = .ok (.if_icmp .eq 770, 3) := by decide +kernel
theorem dL_law_428 : decode cL_law 428 = .ok (.iconst 0, 1) := by decide +kernel
theorem dL_law_429 : decode cL_law 429 = .ok (.ireturn, 1) := by decide +kernel
theorem dL_law_430 : decode cL_law 430 = .ok (.aload_n 1, 1) := by decide +kernel
theorem dL_law_431 : decode cL_law 431 = .ok (.aload_n 0, 1) := by decide +kernel
theorem dL_law_432 : decode cL_law 432 = .ok (.iload_n 3, 1) := by decide +kernel
theorem dL_law_433 : decode cL_law 433 = .ok (.iconst 1, 1) := by decide +kernel
theorem dL_law_434 : decode cL_law 434 = .ok (.iadd, 1) := by decide +kernel
theorem dL_law_435 : decode cL_law 435 = .ok (.iaload, 1) := by decide +kernel
theorem dL_law_436 : decode cL_law 436 = .ok (.invokevirtual 34, 3) := by decide +kernel
theorem dL_law_439 : decode cL_law 439 = .ok (.aload_n 2, 1) := by decide +kernel
theorem dL_law_440 : decode cL_law 440 = .ok (.aload_n 0, 1) := by decide +kernel
theorem dL_law_441 : decode cL_law 441 = .ok (.iload_n 3, 1) := by decide +kernel
theorem dL_law_442 : decode cL_law 442 = .ok (.iconst 1, 1) := by decide +kernel
theorem dL_law_443 : decode cL_law 443 = .ok (.iadd, 1) := by decide +kernel
theorem dL_law_444 : decode cL_law 444 = .ok (.iaload, 1) := by decide +kernel
theorem dL_law_445 : decode cL_law 445 = .ok (.invokevirtual 38, 3) := by decide +kernel
theorem dL_law_448 : decode cL_law 448 = .ok (.lcmp, 1) := by decide +kernel
theorem dL_law_449 : decode cL_law 449 = .ok (.ifCond .eq 746, 3) := by decide +kernel
theorem dL_law_452 : decode cL_law 452 = .ok (.iconst 0, 1) := by decide +kernel
theorem dL_law_453 : decode cL_law 453 = .ok (.ireturn, 1) := by decide +kernel
theorem dL_law_454 : decode cL_law 454 = .ok (.aload_n 1, 1) := by decide +kernel
theorem dL_law_455 : decode cL_law 455 = .ok (.aload_n 0, 1) := by decide +kernel
theorem dL_law_456 : decode cL_law 456 = .ok (.iload_n 3, 1) := by decide +kernel
theorem dL_law_457 : decode cL_law 457 = .ok (.iconst 1, 1) := by decide +kernel
theorem dL_law_458 : decode cL_law 458 = .ok (.iadd, 1) := by decide +kernel
theorem dL_law_459 : decode cL_law 459 = .ok (.iaload, 1) := by decide +kernel
theorem dL_law_460 : decode cL_law 460 = .ok (.invokevirtual 39, 3) := by decide +kernel
theorem dL_law_463 : decode cL_law 463 = .ok (.aload_n 2, 1) := by decide +kernel
theorem dL_law_464 : decode cL_law 464 = .ok (.aload_n 0, 1) := by decide +kernel
theorem dL_law_465 : decode cL_law 465 = .ok (.iload_n 3, 1) := by decide +kernel
theorem dL_law_466 : decode cL_law 466 = .ok (.iconst 1, 1) := by decide +kernel
theorem dL_law_467 : decode cL_law 467 = .ok (.iadd, 1) := by decide +kernel
theorem dL_law_468 : decode cL_law 468 = .ok (.iaload, 1) := by decide +kernel
theorem dL_law_469 : decode cL_law 469 = .ok (.invokevirtual 43, 3) := by decide +kernel
theorem dL_law_472 : decode cL_law 472 = .ok (.if_icmp .eq 723, 3) := by decide +kernel
theorem dL_law_475 : decode cL_law 475 = .ok (.iconst 0, 1) := by decide +kernel
theorem dL_law_476 : decode cL_law 476 = .ok (.ireturn, 1) := by decide +kernel
theorem dL_law_477 : decode cL_law 477 = .ok (.aload_n 1, 1) := by decide +kernel
theorem dL_law_478 : decode cL_law 478 = .ok (.aload_n 0, 1) := by decide +kernel
theorem dL_law_479 : decode cL_law 479 = .ok (.iload_n 3, 1) := by decide +kernel
theorem dL_law_480 : decode cL_law 480 = .ok (.iconst 1, 1) := by decide +kernel
theorem dL_law_481 : decode cL_law 481 = .ok (.iadd, 1) := by decide +kernel
theorem dL_law_482 : decode cL_law 482 = .ok (.iaload, 1) := by decide +kernel
theorem dL_law_483 : decode cL_law 483 = .ok (.aload_n 0, 1) := by decide +kernel
theorem dL_law_484 : decode cL_law 484 = .ok (.iload_n 3, 1) := by decide +kernel
theorem dL_law_485 : decode cL_law 485 = .ok (.iconst 2, 1) := by decide +kernel
theorem dL_law_486 : decode cL_law 486 = .ok (.iadd, 1) := by decide +kernel
theorem dL_law_487 : decode cL_law 487 = .ok (.iaload, 1) := by decide +kernel
theorem dL_law_488 : decode cL_law 488 = .ok (.invokevirtual 44, 3) := by decide +kernel
theorem dL_law_491 : decode cL_law 491 = .ok (.aload_n 2, 1) := by decide +kernel
theorem dL_law_492 : decode cL_law 492 = .ok (.aload_n 0, 1) := by decide +kernel
theorem dL_law_493 : decode cL_law 493 = .ok (.iload_n 3, 1) := by decide +kernel
theorem dL_law_494 : decode cL_law 494 = .ok (.iconst 1, 1) := by decide +kernel
theorem dL_law_495 : decode cL_law 495 = .ok (.iadd, 1) := by decide +kernel
theorem dL_law_496 : decode cL_law 496 = .ok (.iaload, 1) := by decide +kernel
theorem dL_law_497 : decode cL_law 497 = .ok (.aload_n 0, 1) := by decide +kernel
theorem dL_law_498 : decode cL_law 498 = .ok (.iload_n 3, 1) := by decide +kernel
theorem dL_law_499 : decode cL_law 499 = .ok (.iconst 2, 1) := by decide +kernel
theorem dL_law_500 : decode cL_law 500 = .ok (.iadd, 1) := by decide +kernel
theorem dL_law_501 : decode cL_law 501 = .ok (.iaload, 1) := by decide +kernel
theorem dL_law_502 : decode cL_law 502 = .ok (.invokevirtual 47, 3) := by decide +kernel
theorem dL_law_505 : decode cL_law 505 = .ok (.if_icmp .eq 690, 3) := by decide +kernel
theorem dL_law_508 : decode cL_law 508 = .ok (.iconst 0, 1) := by decide +kernel
theorem dL_law_509 : decode cL_law 509 = .ok (.ireturn, 1) := by decide +kernel
theorem dL_law_510 : decode cL_law 510 = .ok (.aload_n 1, 1) := by decide +kernel
theorem dL_law_511 : decode cL_law 511 = .ok (.aload_n 0, 1) := by decide +kernel
theorem dL_law_512 : decode cL_law 512 = .ok (.iload_n 3, 1) := by decide +kernel
theorem dL_law_513 : decode cL_law 513 = .ok (.iconst 1, 1) := by decide +kernel
theorem dL_law_514 : decode cL_law 514 = .ok (.iadd, 1) := by decide +kernel
theorem dL_law_515 : decode cL_law 515 = .ok (.iaload, 1) := by decide +kernel
theorem dL_law_516 : decode cL_law 516 = .ok (.aload_n 0, 1) := by decide +kernel
theorem dL_law_517 : decode cL_law 517 = .ok (.iload_n 3, 1) := by decide +kernel
theorem dL_law_518 : decode cL_law 518 = .ok (.iconst 2, 1) := by decide +kernel
theorem dL_law_519 : decode cL_law 519 = .ok (.iadd, 1) := by decide +kernel
theorem dL_law_520 : decode cL_law 520 = .ok (.iaload, 1) := by decide +kernel
theorem dL_law_521 : decode cL_law 521 = .ok (.invokevirtual 48, 3) := by decide +kernel
theorem dL_law_524 : decode cL_law 524 = .ok (.aload_n 2, 1) := by decide +kernel
theorem dL_law_525 : decode cL_law 525 = .ok (.aload_n 0, 1) := by decide +kernel
theorem dL_law_526 : decode cL_law 526 = .ok (.iload_n 3, 1) := by decide +kernel
theorem dL_law_527 : decode cL_law 527 = .ok (.iconst 1, 1) := by decide +kernel
theorem dL_law_528 : decode cL_law 528 = .ok (.iadd, 1) := by decide +kernel
theorem dL_law_529 : decode cL_law 529 = .ok (.iaload, 1) := by decide +kernel
theorem dL_law_530 : decode cL_law 530 = .ok (.aload_n 0, 1) := by decide +kernel
theorem dL_law_531 : decode cL_law 531 = .ok (.iload_n 3, 1) := by decide +kernel
theorem dL_law_532 : decode cL_law 532 = .ok (.iconst 2, 1) := by decide +kernel
theorem dL_law_533 : decode cL_law 533 = .ok (.iadd, 1) := by decide +kernel
theorem dL_law_534 : decode cL_law 534 = .ok (.iaload, 1) := by decide +kernel
theorem dL_law_535 : decode cL_law 535 = .ok (.invokevirtual 51, 3) := by decide +kernel
theorem dL_law_538 : decode cL_law 538 = .ok (.if_icmp .eq 657, 3) := by decide +kernel
theorem dL_law_541 : decode cL_law 541 = .ok (.iconst 0, 1) := by decide +kernel
theorem dL_law_542 : decode cL_law 542 = .ok (.ireturn, 1) := by decide +kernel
theorem dL_law_543 : decode cL_law 543 = .ok (.aload_n 1, 1) := by decide +kernel
theorem dL_law_544 : decode cL_law 544 = .ok (.aload_n 0, 1) := by decide +kernel
theorem dL_law_545 : decode cL_law 545 = .ok (.iload_n 3, 1) := by decide +kernel
theorem dL_law_546 : decode cL_law 546 = .ok (.iconst 1, 1) := by decide +kernel
theorem dL_law_547 : decode cL_law 547 = .ok (.iadd, 1) := by decide +kernel
theorem dL_law_548 : decode cL_law 548 = .ok (.iaload, 1) := by decide +kernel
theorem dL_law_549 : decode cL_law 549 = .ok (.aload_n 0, 1) := by decide +kernel
theorem dL_law_550 : decode cL_law 550 = .ok (.iload_n 3, 1) := by decide +kernel
theorem dL_law_551 : decode cL_law 551 = .ok (.iconst 2, 1) := by decide +kernel
theorem dL_law_552 : decode cL_law 552 = .ok (.iadd, 1) := by decide +kernel
theorem dL_law_553 : decode cL_law 553 = .ok (.iaload, 1) := by decide +kernel
theorem dL_law_554 : decode cL_law 554 = .ok (.invokevirtual 52, 3) := by decide +kernel
theorem dL_law_557 : decode cL_law 557 = .ok (.aload_n 2, 1) := by decide +kernel
theorem dL_law_558 : decode cL_law 558 = .ok (.aload_n 0, 1) := by decide +kernel
theorem dL_law_559 : decode cL_law 559 = .ok (.iload_n 3, 1) := by decide +kernel
theorem dL_law_560 : decode cL_law 560 = .ok (.iconst 1, 1) := by decide +kernel
theorem dL_law_561 : decode cL_law 561 = .ok (.iadd, 1) := by decide +kernel
theorem dL_law_562 : decode cL_law 562 = .ok (.iaload, 1) := by decide +kernel
theorem dL_law_563 : decode cL_law 563 = .ok (.aload_n 0, 1) := by decide +kernel
theorem dL_law_564 : decode cL_law 564 = .ok (.iload_n 3, 1) := by decide +kernel
theorem dL_law_565 : decode cL_law 565 = .ok (.iconst 2, 1) := by decide +kernel
theorem dL_law_566 : decode cL_law 566 = .ok (.iadd, 1) := by decide +kernel
theorem dL_law_567 : decode cL_law 567 = .ok (.iaload, 1) := by decide +kernel
theorem dL_law_568 : decode cL_law 568 = .ok (.invokevirtual 55, 3) := by decide +kernel
theorem dL_law_571 : decode cL_law 571 = .ok (.if_icmp .eq 624, 3) := by decide +kernel
theorem dL_law_574 : decode cL_law 574 = .ok (.iconst 0, 1) := by decide +kernel
theorem dL_law_575 : decode cL_law 575 = .ok (.ireturn, 1) := by decide +kernel
theorem dL_law_576 : decode cL_law 576 = .ok (.aload_n 1, 1) := by decide +kernel
theorem dL_law_577 : decode cL_law 577 = .ok (.aload_n 0, 1) := by decide +kernel
theorem dL_law_578 : decode cL_law 578 = .ok (.iload_n 3, 1) := by decide +kernel
theorem dL_law_579 : decode cL_law 579 = .ok (.iconst 1, 1) := by decide +kernel
theorem dL_law_580 : decode cL_law 580 = .ok (.iadd, 1) := by decide +kernel
theorem dL_law_581 : decode cL_law 581 = .ok (.iaload, 1) := by decide +kernel
theorem dL_law_582 : decode cL_law 582 = .ok (.aload_n 0, 1) := by decide +kernel
theorem dL_law_583 : decode cL_law 583 = .ok (.iload_n 3, 1) := by decide +kernel
theorem dL_law_584 : decode cL_law 584 = .ok (.iconst 2, 1) := by decide +kernel
theorem dL_law_585 : decode cL_law 585 = .ok (.iadd, 1) := by decide +kernel
theorem dL_law_586 : decode cL_law 586 = .ok (.iaload, 1) := by decide +kernel
theorem dL_law_587 : decode cL_law 587 = .ok (.invokevirtual 56, 3) := by decide +kernel
theorem dL_law_590 : decode cL_law 590 = .ok (.aload_n 2, 1) := by decide +kernel
theorem dL_law_591 : decode cL_law 591 = .ok (.aload_n 0, 1) := by decide +kernel
theorem dL_law_592 : decode cL_law 592 = .ok (.iload_n 3, 1) := by decide +kernel
theorem dL_law_593 : decode cL_law 593 = .ok (.iconst 1, 1) := by decide +kernel
theorem dL_law_594 : decode cL_law 594 = .ok (.iadd, 1) := by decide +kernel
theorem dL_law_595 : decode cL_law 595 = .ok (.iaload, 1) := by decide +kernel
theorem dL_law_596 : decode cL_law 596 = .ok (.aload_n 0, 1) := by decide +kernel
theorem dL_law_597 : decode cL_law 597 = .ok (.iload_n 3, 1) := by decide +kernel
theorem dL_law_598 : decode cL_law 598 = .ok (.iconst 2, 1) := by decide +kernel
theorem dL_law_599 : decode cL_law 599 = .ok (.iadd, 1) := by decide +kernel
theorem dL_law_600 : decode cL_law 600 = .ok (.iaload, 1) := by decide +kernel
theorem dL_law_601 : decode cL_law 601 = .ok (.invokevirtual 59, 3) := by decide +kernel
theorem dL_law_604 : decode cL_law 604 = .ok (.if_icmp .eq 591, 3) := by decide +kernel
theorem dL_law_607 : decode cL_law 607 = .ok (.iconst 0, 1) := by decide +kernel
theorem dL_law_608 : decode cL_law 608 = .ok (.ireturn, 1) := by decide +kernel
theorem dL_law_609 : decode cL_law 609 = .ok (.aload_n 1, 1) := by decide +kernel
theorem dL_law_610 : decode cL_law 610 = .ok (.aload_n 0, 1) := by decide +kernel
theorem dL_law_611 : decode cL_law 611 = .ok (.iload_n 3, 1) := by decide +kernel
theorem dL_law_612 : decode cL_law 612 = .ok (.iconst 1, 1) := by decide +kernel
theorem dL_law_613 : decode cL_law 613 = .ok (.iadd, 1) := by decide +kernel
theorem dL_law_614 : decode cL_law 614 = .ok (.iaload, 1) := by decide +kernel
theorem dL_law_615 : decode cL_law 615 = .ok (.aload_n 0, 1) := by decide +kernel
theorem dL_law_616 : decode cL_law 616 = .ok (.iload_n 3, 1) := by decide +kernel
theorem dL_law_617 : decode cL_law 617 = .ok (.iconst 2, 1) := by decide +kernel
theorem dL_law_618 : decode cL_law 618 = .ok (.iadd, 1) := by decide +kernel
theorem dL_law_619 : decode cL_law 619 = .ok (.iaload, 1) := by decide +kernel
theorem dL_law_620 : decode cL_law 620 = .ok (.aload_n 0, 1) := by decide +kernel
theorem dL_law_621 : decode cL_law 621 = .ok (.iload_n 3, 1) := by decide +kernel
theorem dL_law_622 : decode cL_law 622 = .ok (.iconst 3, 1) := by decide +kernel
theorem dL_law_623 : decode cL_law 623 = .ok (.iadd, 1) := by decide +kernel
theorem dL_law_624 : decode cL_law 624 = .ok (.iaload, 1) := by decide +kernel
theorem dL_law_625 : decode cL_law 625 = .ok (.invokevirtual 60, 3) := by decide +kernel
theorem dL_law_628 : decode cL_law 628 = .ok (.aload_n 2, 1) := by decide +kernel
theorem dL_law_629 : decode cL_law 629 = .ok (.aload_n 0, 1) := by decide +kernel
theorem dL_law_630 : decode cL_law 630 = .ok (.iload_n 3, 1) := by decide +kernel
theorem dL_law_631 : decode cL_law 631 = .ok (.iconst 1, 1) := by decide +kernel
theorem dL_law_632 : decode cL_law 632 = .ok (.iadd, 1) := by decide +kernel
theorem dL_law_633 : decode cL_law 633 = .ok (.iaload, 1) := by decide +kernel
theorem dL_law_634 : decode cL_law 634 = .ok (.aload_n 0, 1) := by decide +kernel
theorem dL_law_635 : decode cL_law 635 = .ok (.iload_n 3, 1) := by decide +kernel
theorem dL_law_636 : decode cL_law 636 = .ok (.iconst 2, 1) := by decide +kernel
theorem dL_law_637 : decode cL_law 637 = .ok (.iadd, 1) := by decide +kernel
theorem dL_law_638 : decode cL_law 638 = .ok (.iaload, 1) := by decide +kernel
theorem dL_law_639 : decode cL_law 639 = .ok (.aload_n 0, 1) := by decide +kernel
theorem dL_law_640 : decode cL_law 640 = .ok (.iload_n 3, 1) := by decide +kernel
theorem dL_law_641 : decode cL_law 641 = .ok (.iconst 3, 1) := by decide +kernel
theorem dL_law_642 : decode cL_law 642 = .ok (.iadd, 1) := by decide +kernel
theorem dL_law_643 : decode cL_law 643 = .ok (.iaload, 1) := by decide +kernel
theorem dL_law_644 : decode cL_law 644 = .ok (.invokevirtual 64, 3) := by decide +kernel
theorem dL_law_647 : decode cL_law 647 = .ok (.if_icmp .eq 548, 3) := by decide +kernel
theorem dL_law_650 : decode cL_law 650 = .ok (.iconst 0, 1) := by decide +kernel
theorem dL_law_651 : decode cL_law 651 = .ok (.ireturn, 1) := by decide +kernel
theorem dL_law_652 : decode cL_law 652 = .ok (.aload_n 1, 1) := by decide +kernel
theorem dL_law_653 : decode cL_law 653 = .ok (.aload_n 0, 1) := by decide +kernel
theorem dL_law_654 : decode cL_law 654 = .ok (.iload_n 3, 1) := by decide +kernel
theorem dL_law_655 : decode cL_law 655 = .ok (.iconst 1, 1) := by decide +kernel
theorem dL_law_656 : decode cL_law 656 = .ok (.iadd, 1) := by decide +kernel
theorem dL_law_657 : decode cL_law 657 = .ok (.iaload, 1) := by decide +kernel
theorem dL_law_658 : decode cL_law 658 = .ok (.aload_n 0, 1) := by decide +kernel
theorem dL_law_659 : decode cL_law 659 = .ok (.iload_n 3, 1) := by decide +kernel
theorem dL_law_660 : decode cL_law 660 = .ok (.iconst 2, 1) := by decide +kernel
theorem dL_law_661 : decode cL_law 661 = .ok (.iadd, 1) := by decide +kernel
theorem dL_law_662 : decode cL_law 662 = .ok (.iaload, 1) := by decide +kernel
theorem dL_law_663 : decode cL_law 663 = .ok (.invokevirtual 65, 3) := by decide +kernel
theorem dL_law_666 : decode cL_law 666 = .ok (.aload_n 2, 1) := by decide +kernel
theorem dL_law_667 : decode cL_law 667 = .ok (.aload_n 0, 1) := by decide +kernel
theorem dL_law_668 : decode cL_law 668 = .ok (.iload_n 3, 1) := by decide +kernel
theorem dL_law_669 : decode cL_law 669 = .ok (.iconst 1, 1) := by decide +kernel
theorem dL_law_670 : decode cL_law 670 = .ok (.iadd, 1) := by decide +kernel
theorem dL_law_671 : decode cL_law 671 = .ok (.iaload, 1) := by decide +kernel
theorem dL_law_672 : decode cL_law 672 = .ok (.aload_n 0, 1) := by decide +kernel
theorem dL_law_673 : decode cL_law 673 = .ok (.iload_n 3, 1) := by decide +kernel
theorem dL_law_674 : decode cL_law 674 = .ok (.iconst 2, 1) := by decide +kernel
theorem dL_law_675 : decode cL_law 675 = .ok (.iadd, 1) := by decide +kernel
theorem dL_law_676 : decode cL_law 676 = .ok (.iaload, 1) := by decide +kernel
theorem dL_law_677 : decode cL_law 677 = .ok (.invokevirtual 68, 3) := by decide +kernel
theorem dL_law_680 : decode cL_law 680 = .ok (.if_icmp .eq 515, 3) := by decide +kernel
theorem dL_law_683 : decode cL_law 683 = .ok (.iconst 0, 1) := by decide +kernel
theorem dL_law_684 : decode cL_law 684 = .ok (.ireturn, 1) := by decide +kernel
theorem dL_law_685 : decode cL_law 685 = .ok (.aload_n 1, 1) := by decide +kernel
theorem dL_law_686 : decode cL_law 686 = .ok (.aload_n 0, 1) := by decide +kernel
theorem dL_law_687 : decode cL_law 687 = .ok (.iload_n 3, 1) := by decide +kernel
theorem dL_law_688 : decode cL_law 688 = .ok (.iconst 1, 1) := by decide +kernel
theorem dL_law_689 : decode cL_law 689 = .ok (.iadd, 1) := by decide +kernel
theorem dL_law_690 : decode cL_law 690 = .ok (.iaload, 1) := by decide +kernel
theorem dL_law_691 : decode cL_law 691 = .ok (.aload_n 0, 1) := by decide +kernel
theorem dL_law_692 : decode cL_law 692 = .ok (.iload_n 3, 1) := by decide +kernel
theorem dL_law_693 : decode cL_law 693 = .ok (.iconst 2, 1) := by decide +kernel
theorem dL_law_694 : decode cL_law 694 = .ok (.iadd, 1) := by decide +kernel
theorem dL_law_695 : decode cL_law 695 = .ok (.iaload, 1) := by decide +kernel
theorem dL_law_696 : decode cL_law 696 = .ok (.invokevirtual 69, 3) := by decide +kernel
theorem dL_law_699 : decode cL_law 699 = .ok (.aload_n 2, 1) := by decide +kernel
theorem dL_law_700 : decode cL_law 700 = .ok (.aload_n 0, 1) := by decide +kernel
theorem dL_law_701 : decode cL_law 701 = .ok (.iload_n 3, 1) := by decide +kernel
theorem dL_law_702 : decode cL_law 702 = .ok (.iconst 1, 1) := by decide +kernel
theorem dL_law_703 : decode cL_law 703 = .ok (.iadd, 1) := by decide +kernel
theorem dL_law_704 : decode cL_law 704 = .ok (.iaload, 1) := by decide +kernel
theorem dL_law_705 : decode cL_law 705 = .ok (.aload_n 0, 1) := by decide +kernel
theorem dL_law_706 : decode cL_law 706 = .ok (.iload_n 3, 1) := by decide +kernel
theorem dL_law_707 : decode cL_law 707 = .ok (.iconst 2, 1) := by decide +kernel
theorem dL_law_708 : decode cL_law 708 = .ok (.iadd, 1) := by decide +kernel
theorem dL_law_709 : decode cL_law 709 = .ok (.iaload, 1) := by decide +kernel
theorem dL_law_710 : decode cL_law 710 = .ok (.invokevirtual 72, 3) := by decide +kernel
theorem dL_law_713 : decode cL_law 713 = .ok (.if_icmp .eq 482, 3) := by decide +kernel
theorem dL_law_716 : decode cL_law 716 = .ok (.iconst 0, 1) := by decide +kernel
theorem dL_law_717 : decode cL_law 717 = .ok (.ireturn, 1) := by decide +kernel
theorem dL_law_718 : decode cL_law 718 = .ok (.aload_n 1, 1) := by decide +kernel
theorem dL_law_719 : decode cL_law 719 = .ok (.aload_n 0, 1) := by decide +kernel
theorem dL_law_720 : decode cL_law 720 = .ok (.iload_n 3, 1) := by decide +kernel
theorem dL_law_721 : decode cL_law 721 = .ok (.iconst 1, 1) := by decide +kernel
theorem dL_law_722 : decode cL_law 722 = .ok (.iadd, 1) := by decide +kernel
theorem dL_law_723 : decode cL_law 723 = .ok (.iaload, 1) := by decide +kernel
theorem dL_law_724 : decode cL_law 724 = .ok (.aload_n 0, 1) := by decide +kernel
theorem dL_law_725 : decode cL_law 725 = .ok (.iload_n 3, 1) := by decide +kernel
theorem dL_law_726 : decode cL_law 726 = .ok (.iconst 2, 1) := by decide +kernel
theorem dL_law_727 : decode cL_law 727 = .ok (.iadd, 1) := by decide +kernel
theorem dL_law_728 : decode cL_law 728 = .ok (.iaload, 1) := by decide +kernel
theorem dL_law_729 : decode cL_law 729 = .ok (.invokevirtual 73, 3) := by decide +kernel
theorem dL_law_732 : decode cL_law 732 = .ok (.aload_n 2, 1) := by decide +kernel
theorem dL_law_733 : decode cL_law 733 = .ok (.aload_n 0, 1) := by decide +kernel
theorem dL_law_734 : decode cL_law 734 = .ok (.iload_n 3, 1) := by decide +kernel
theorem dL_law_735 : decode cL_law 735 = .ok (.iconst 1, 1) := by decide +kernel
theorem dL_law_736 : decode cL_law 736 = .ok (.iadd, 1) := by decide +kernel
theorem dL_law_737 : decode cL_law 737 = .ok (.iaload, 1) := by decide +kernel
theorem dL_law_738 : decode cL_law 738 = .ok (.aload_n 0, 1) := by decide +kernel
theorem dL_law_739 : decode cL_law 739 = .ok (.iload_n 3, 1) := by decide +kernel
theorem dL_law_740 : decode cL_law 740 = .ok (.iconst 2, 1) := by decide +kernel
theorem dL_law_741 : decode cL_law 741 = .ok (.iadd, 1) := by decide +kernel
theorem dL_law_742 : decode cL_law 742 = .ok (.iaload, 1) := by decide +kernel
theorem dL_law_743 : decode cL_law 743 = .ok (.invokevirtual 76, 3) := by decide +kernel
theorem dL_law_746 : decode cL_law 746 = .ok (.if_icmp .eq 449, 3) := by decide +kernel
theorem dL_law_749 : decode cL_law 749 = .ok (.iconst 0, 1) := by decide +kernel
theorem dL_law_750 : decode cL_law 750 = .ok (.ireturn, 1) := by decide +kernel
theorem dL_law_751 : decode cL_law 751 = .ok (.aload_n 1, 1) := by decide +kernel
theorem dL_law_752 : decode cL_law 752 = .ok (.aload_n 0, 1) := by decide +kernel
theorem dL_law_753 : decode cL_law 753 = .ok (.iload_n 3, 1) := by decide +kernel
theorem dL_law_754 : decode cL_law 754 = .ok (.iconst 1, 1) := by decide +kernel
theorem dL_law_755 : decode cL_law 755 = .ok (.iadd, 1) := by decide +kernel
theorem dL_law_756 : decode cL_law 756 = .ok (.iaload, 1) := by decide +kernel
theorem dL_law_757 : decode cL_law 757 = .ok (.aload_n 0, 1) := by decide +kernel
theorem dL_law_758 : decode cL_law 758 = .ok (.iload_n 3, 1) := by decide +kernel
theorem dL_law_759 : decode cL_law 759 = .ok (.iconst 2, 1) := by decide +kernel
theorem dL_law_760 : decode cL_law 760 = .ok (.iadd, 1) := by decide +kernel
theorem dL_law_761 : decode cL_law 761 = .ok (.iaload, 1) := by decide +kernel
theorem dL_law_762 : decode cL_law 762 = .ok (.aload_n 0, 1) := by decide +kernel
theorem dL_law_763 : decode cL_law 763 = .ok (.iload_n 3, 1) := by decide +kernel
theorem dL_law_764 : decode cL_law 764 = .ok (.iconst 3, 1) := by decide +kernel
theorem dL_law_765 : decode cL_law 765 = .ok (.iadd, 1) := by decide +kernel
theorem dL_law_766 : decode cL_law 766 = .ok (.iaload, 1) := by decide +kernel
theorem dL_law_767 : decode cL_law 767 = .ok (.invokevirtual 77, 3) := by decide +kernel
theorem dL_law_770 : decode cL_law 770 = .ok (.aload_n 2, 1) := by decide +kernel
theorem dL_law_771 : decode cL_law 771 = .ok (.aload_n 0, 1) := by decide +kernel
theorem dL_law_772 : decode cL_law 772 = .ok (.iload_n 3, 1) := by decide +kernel
theorem dL_law_773 : decode cL_law 773 = .ok (.iconst 1, 1) := by decide +kernel
theorem dL_law_774 : decode cL_law 774 = .ok (.iadd, 1) := by decide +kernel
theorem dL_law_775 : decode cL_law 775 = .ok (.iaload, 1) := by decide +kernel
theorem dL_law_776 : decode cL_law 776 = .ok (.aload_n 0, 1) := by decide +kernel
theorem dL_law_777 : decode cL_law 777 = .ok (.iload_n 3, 1) := by decide +kernel
theorem dL_law_778 : decode cL_law 778 = .ok (.iconst 2, 1) := by decide +kernel
theorem dL_law_779 : decode cL_law 779 = .ok (.iadd, 1) := by decide +kernel
theorem dL_law_780 : decode cL_law 780 = .ok (.iaload, 1) := by decide +kernel
theorem dL_law_781 : decode cL_law 781 = .ok (.aload_n 0, 1) := by decide +kernel
theorem dL_law_782 : decode cL_law 782 = .ok (.iload_n 3, 1) := by decide +kernel
theorem dL_law_783 : decode cL_law 783 = .ok (.iconst 3, 1) := by decide +kernel
theorem dL_law_784 : decode cL_law 784 = .ok (.iadd, 1) := by decide +kernel
theorem dL_law_785 : decode cL_law 785 = .ok (.iaload, 1) := by decide +kernel
theorem dL_law_786 : decode cL_law 786 = .ok (.invokevirtual 80, 3) := by decide +kernel
theorem dL_law_789 : decode cL_law 789 = .ok (.if_icmp .eq 406, 3) := by decide +kernel
theorem dL_law_792 : decode cL_law 792 = .ok (.iconst 0, 1) := by decide +kernel
theorem dL_law_793 : decode cL_law 793 = .ok (.ireturn, 1) := by decide +kernel
theorem dL_law_794 : decode cL_law 794 = .ok (.aload_n 1, 1) := by decide +kernel
theorem dL_law_795 : decode cL_law 795 = .ok (.aload_n 0, 1) := by decide +kernel
theorem dL_law_796 : decode cL_law 796 = .ok (.iload_n 3, 1) := by decide +kernel
theorem dL_law_797 : decode cL_law 797 = .ok (.iconst 1, 1) := by decide +kernel
theorem dL_law_798 : decode cL_law 798 = .ok (.iadd, 1) := by decide +kernel
theorem dL_law_799 : decode cL_law 799 = .ok (.iaload, 1) := by decide +kernel
theorem dL_law_800 : decode cL_law 800 = .ok (.aload_n 0, 1) := by decide +kernel
theorem dL_law_801 : decode cL_law 801 = .ok (.iload_n 3, 1) := by decide +kernel
theorem dL_law_802 : decode cL_law 802 = .ok (.iconst 2, 1) := by decide +kernel
theorem dL_law_803 : decode cL_law 803 = .ok (.iadd, 1) := by decide +kernel
theorem dL_law_804 : decode cL_law 804 = .ok (.iaload, 1) := by decide +kernel
theorem dL_law_805 : decode cL_law 805 = .ok (.i2l, 1) := by decide +kernel
theorem dL_law_806 : decode cL_law 806 = .ok (.bipush 32, 2) := by decide +kernel
theorem dL_law_808 : decode cL_law 808 = .ok (.lshl, 1) := by decide +kernel
theorem dL_law_809 : decode cL_law 809 = .ok (.aload_n 0, 1) := by decide +kernel
theorem dL_law_810 : decode cL_law 810 = .ok (.iload_n 3, 1) := by decide +kernel
theorem dL_law_811 : decode cL_law 811 = .ok (.iconst 3, 1) := by decide +kernel
theorem dL_law_812 : decode cL_law 812 = .ok (.iadd, 1) := by decide +kernel
theorem dL_law_813 : decode cL_law 813 = .ok (.iaload, 1) := by decide +kernel
theorem dL_law_814 : decode cL_law 814 = .ok (.i2l, 1) := by decide +kernel
theorem dL_law_815 : decode cL_law 815 = .ok (.ldc2_w 13, 3) := by decide +kernel
theorem dL_law_818 : decode cL_law 818 = .ok (.land, 1) := by decide +kernel
theorem dL_law_819 : decode cL_law 819 = .ok (.lor, 1) := by decide +kernel
theorem dL_law_820 : decode cL_law 820 = .ok (.invokevirtual 81, 3) := by decide +kernel
theorem dL_law_823 : decode cL_law 823 = .ok (.aload_n 2, 1) := by decide +kernel
theorem dL_law_824 : decode cL_law 824 = .ok (.aload_n 0, 1) := by decide +kernel
theorem dL_law_825 : decode cL_law 825 = .ok (.iload_n 3, 1) := by decide +kernel
theorem dL_law_826 : decode cL_law 826 = .ok (.iconst 1, 1) := by decide +kernel
theorem dL_law_827 : decode cL_law 827 = .ok (.iadd, 1) := by decide +kernel
theorem dL_law_828 : decode cL_law 828 = .ok (.iaload, 1) := by decide +kernel
theorem dL_law_829 : decode cL_law 829 = .ok (.aload_n 0, 1) := by decide +kernel
theorem dL_law_830 : decode cL_law 830 = .ok (.iload_n 3, 1) := by decide +kernel
theorem dL_law_831 : decode cL_law 831 = .ok (.iconst 2, 1) := by decide +kernel
theorem dL_law_832 : decode cL_law 832 = .ok (.iadd, 1) := by decide +kernel
theorem dL_law_833 : decode cL_law 833 = .ok (.iaload, 1) := by decide +kernel
theorem dL_law_834 : decode cL_law 834 = .ok (.i2l, 1) := by decide +kernel
theorem dL_law_835 : decode cL_law 835 = .ok (.bipush 32, 2) := by decide +kernel
theorem dL_law_837 : decode cL_law 837 = .ok (.lshl, 1) := by decide +kernel
theorem dL_law_838 : decode cL_law 838 = .ok (.aload_n 0, 1) := by decide +kernel
theorem dL_law_839 : decode cL_law 839 = .ok (.iload_n 3, 1) := by decide +kernel
theorem dL_law_840 : decode cL_law 840 = .ok (.iconst 3, 1) := by decide +kernel
theorem dL_law_841 : decode cL_law 841 = .ok (.iadd, 1) := by decide +kernel
theorem dL_law_842 : decode cL_law 842 = .ok (.iaload, 1) := by decide +kernel
theorem dL_law_843 : decode cL_law 843 = .ok (.i2l, 1) := by decide +kernel
theorem dL_law_844 : decode cL_law 844 = .ok (.ldc2_w 13, 3) := by decide +kernel
theorem dL_law_847 : decode cL_law 847 = .ok (.land, 1) := by decide +kernel
theorem dL_law_848 : decode cL_law 848 = .ok (.lor, 1) := by decide +kernel
theorem dL_law_849 : decode cL_law 849 = .ok (.invokevirtual 85, 3) := by decide +kernel
theorem dL_law_852 : decode cL_law 852 = .ok (.lcmp, 1) := by decide +kernel
theorem dL_law_853 : decode cL_law 853 = .ok (.ifCond .eq 342, 3) := by decide +kernel
theorem dL_law_856 : decode cL_law 856 = .ok (.iconst 0, 1) := by decide +kernel
theorem dL_law_857 : decode cL_law 857 = .ok (.ireturn, 1) := by decide +kernel
theorem dL_law_858 : decode cL_law 858 = .ok (.aload_n 1, 1) := by decide +kernel
theorem dL_law_859 : decode cL_law 859 = .ok (.aload_n 0, 1) := by decide +kernel
theorem dL_law_860 : decode cL_law 860 = .ok (.iload_n 3, 1) := by decide +kernel
theorem dL_law_861 : decode cL_law 861 = .ok (.iconst 1, 1) := by decide +kernel
theorem dL_law_862 : decode cL_law 862 = .ok (.iadd, 1) := by decide +kernel
theorem dL_law_863 : decode cL_law 863 = .ok (.iaload, 1) := by decide +kernel
theorem dL_law_864 : decode cL_law 864 = .ok (.invokevirtual 86, 3) := by decide +kernel
theorem dL_law_867 : decode cL_law 867 = .ok (.aload_n 2, 1) := by decide +kernel
theorem dL_law_868 : decode cL_law 868 = .ok (.aload_n 0, 1) := by decide +kernel
theorem dL_law_869 : decode cL_law 869 = .ok (.iload_n 3, 1) := by decide +kernel
theorem dL_law_870 : decode cL_law 870 = .ok (.iconst 1, 1) := by decide +kernel
theorem dL_law_871 : decode cL_law 871 = .ok (.iadd, 1) := by decide +kernel
theorem dL_law_872 : decode cL_law 872 = .ok (.iaload, 1) := by decide +kernel
theorem dL_law_873 : decode cL_law 873 = .ok (.invokevirtual 89, 3) := by decide +kernel
theorem dL_law_876 : decode cL_law 876 = .ok (.lcmp, 1) := by decide +kernel
theorem dL_law_877 : decode cL_law 877 = .ok (.ifCond .eq 318, 3) := by decide +kernel
theorem dL_law_880 : decode cL_law 880 = .ok (.iconst 0, 1) := by decide +kernel
theorem dL_law_881 : decode cL_law 881 = .ok (.ireturn, 1) := by decide +kernel
theorem dL_law_882 : decode cL_law 882 = .ok (.aload_n 1, 1) := by decide +kernel
theorem dL_law_883 : decode cL_law 883 = .ok (.aload_n 0, 1) := by decide +kernel
theorem dL_law_884 : decode cL_law 884 = .ok (.iload_n 3, 1) := by decide +kernel
theorem dL_law_885 : decode cL_law 885 = .ok (.iconst 1, 1) := by decide +kernel
theorem dL_law_886 : decode cL_law 886 = .ok (.iadd, 1) := by decide +kernel
theorem dL_law_887 : decode cL_law 887 = .ok (.iaload, 1) := by decide +kernel
theorem dL_law_888 : decode cL_law 888 = .ok (.aload_n 0, 1) := by decide +kernel
theorem dL_law_889 : decode cL_law 889 = .ok (.iload_n 3, 1) := by decide +kernel
theorem dL_law_890 : decode cL_law 890 = .ok (.iconst 2, 1) := by decide +kernel
theorem dL_law_891 : decode cL_law 891 = .ok (.iadd, 1) := by decide +kernel
theorem dL_law_892 : decode cL_law 892 = .ok (.iaload, 1) := by decide +kernel
theorem dL_law_893 : decode cL_law 893 = .ok (.invokevirtual 90, 3) := by decide +kernel
theorem dL_law_896 : decode cL_law 896 = .ok (.aload_n 2, 1) := by decide +kernel
theorem dL_law_897 : decode cL_law 897 = .ok (.aload_n 0, 1) := by decide +kernel
theorem dL_law_898 : decode cL_law 898 = .ok (.iload_n 3, 1) := by decide +kernel
theorem dL_law_899 : decode cL_law 899 = .ok (.iconst 1, 1) := by decide +kernel
theorem dL_law_900 : decode cL_law 900 = .ok (.iadd, 1) := by decide +kernel
theorem dL_law_901 : decode cL_law 901 = .ok (.iaload, 1) := by decide +kernel
theorem dL_law_902 : decode cL_law 902 = .ok (.aload_n 0, 1) := by decide +kernel
theorem dL_law_903 : decode cL_law 903 = .ok (.iload_n 3, 1) := by decide +kernel
theorem dL_law_904 : decode cL_law 904 = .ok (.iconst 2, 1) := by decide +kernel
theorem dL_law_905 : decode cL_law 905 = .ok (.iadd, 1) := by decide +kernel
theorem dL_law_906 : decode cL_law 906 = .ok (.iaload, 1) := by decide +kernel
theorem dL_law_907 : decode cL_law 907 = .ok (.invokevirtual 93, 3) := by decide +kernel
theorem dL_law_910 : decode cL_law 910 = .ok (.if_icmp .eq 285, 3) := by decide +kernel
theorem dL_law_913 : decode cL_law 913 = .ok (.iconst 0, 1) := by decide +kernel
theorem dL_law_914 : decode cL_law 914 = .ok (.ireturn, 1) := by decide +kernel
theorem dL_law_915 : decode cL_law 915 = .ok (.aload_n 1, 1) := by decide +kernel
theorem dL_law_916 : decode cL_law 916 = .ok (.aload_n 0, 1) := by decide +kernel
theorem dL_law_917 : decode cL_law 917 = .ok (.iload_n 3, 1) := by decide +kernel
theorem dL_law_918 : decode cL_law 918 = .ok (.iconst 1, 1) := by decide +kernel
theorem dL_law_919 : decode cL_law 919 = .ok (.iadd, 1) := by decide +kernel
theorem dL_law_920 : decode cL_law 920 = .ok (.iaload, 1) := by decide +kernel
theorem dL_law_921 : decode cL_law 921 = .ok (.invokevirtual 94, 3) := by decide +kernel
theorem dL_law_924 : decode cL_law 924 = .ok (.aload_n 2, 1) := by decide +kernel
theorem dL_law_925 : decode cL_law 925 = .ok (.aload_n 0, 1) := by decide +kernel
theorem dL_law_926 : decode cL_law 926 = .ok (.iload_n 3, 1) := by decide +kernel
theorem dL_law_927 : decode cL_law 927 = .ok (.iconst 1, 1) := by decide +kernel
theorem dL_law_928 : decode cL_law 928 = .ok (.iadd, 1) := by decide +kernel
theorem dL_law_929 : decode cL_law 929 = .ok (.iaload, 1) := by decide +kernel
theorem dL_law_930 : decode cL_law 930 = .ok (.invokevirtual 97, 3) := by decide +kernel
theorem dL_law_933 : decode cL_law 933 = .ok (.lcmp, 1) := by decide +kernel
theorem dL_law_934 : decode cL_law 934 = .ok (.ifCond .eq 261, 3) := by decide +kernel
theorem dL_law_937 : decode cL_law 937 = .ok (.iconst 0, 1) := by decide +kernel
theorem dL_law_938 : decode cL_law 938 = .ok (.ireturn, 1) := by decide +kernel
theorem dL_law_939 : decode cL_law 939 = .ok (.aload_n 1, 1) := by decide +kernel
theorem dL_law_940 : decode cL_law 940 = .ok (.aload_n 0, 1) := by decide +kernel
theorem dL_law_941 : decode cL_law 941 = .ok (.iload_n 3, 1) := by decide +kernel
theorem dL_law_942 : decode cL_law 942 = .ok (.iconst 1, 1) := by decide +kernel
theorem dL_law_943 : decode cL_law 943 = .ok (.iadd, 1) := by decide +kernel
theorem dL_law_944 : decode cL_law 944 = .ok (.iaload, 1) := by decide +kernel
theorem dL_law_945 : decode cL_law 945 = .ok (.aload_n 0, 1) := by decide +kernel
theorem dL_law_946 : decode cL_law 946 = .ok (.iload_n 3, 1) := by decide +kernel
theorem dL_law_947 : decode cL_law 947 = .ok (.iconst 2, 1) := by decide +kernel
theorem dL_law_948 : decode cL_law 948 = .ok (.iadd, 1) := by decide +kernel
theorem dL_law_949 : decode cL_law 949 = .ok (.iaload, 1) := by decide +kernel
theorem dL_law_950 : decode cL_law 950 = .ok (.i2l, 1) := by decide +kernel
theorem dL_law_951 : decode cL_law 951 = .ok (.bipush 32, 2) := by decide +kernel
theorem dL_law_953 : decode cL_law 953 = .ok (.lshl, 1) := by decide +kernel
theorem dL_law_954 : decode cL_law 954 = .ok (.aload_n 0, 1) := by decide +kernel
theorem dL_law_955 : decode cL_law 955 = .ok (.iload_n 3, 1) := by decide +kernel
theorem dL_law_956 : decode cL_law 956 = .ok (.iconst 3, 1) := by decide +kernel
theorem dL_law_957 : decode cL_law 957 = .ok (.iadd, 1) := by decide +kernel
theorem dL_law_958 : decode cL_law 958 = .ok (.iaload, 1) := by decide +kernel
theorem dL_law_959 : decode cL_law 959 = .ok (.i2l, 1) := by decide +kernel
theorem dL_law_960 : decode cL_law 960 = .ok (.ldc2_w 13, 3) := by decide +kernel
theorem dL_law_963 : decode cL_law 963 = .ok (.land, 1) := by decide +kernel
theorem dL_law_964 : decode cL_law 964 = .ok (.lor, 1) := by decide +kernel
theorem dL_law_965 : decode cL_law 965 = .ok (.invokevirtual 98, 3) := by decide +kernel
theorem dL_law_968 : decode cL_law 968 = .ok (.aload_n 2, 1) := by decide +kernel
theorem dL_law_969 : decode cL_law 969 = .ok (.aload_n 0, 1) := by decide +kernel
theorem dL_law_970 : decode cL_law 970 = .ok (.iload_n 3, 1) := by decide +kernel
theorem dL_law_971 : decode cL_law 971 = .ok (.iconst 1, 1) := by decide +kernel
theorem dL_law_972 : decode cL_law 972 = .ok (.iadd, 1) := by decide +kernel
theorem dL_law_973 : decode cL_law 973 = .ok (.iaload, 1) := by decide +kernel
theorem dL_law_974 : decode cL_law 974 = .ok (.aload_n 0, 1) := by decide +kernel
end
section
theorem dL_law_975 : decode cL_law 975 = .ok (.iload_n 3, 1) := by decide +kernel
theorem dL_law_976 : decode cL_law 976 = .ok (.iconst 2, 1) := by decide +kernel
theorem dL_law_977 : decode cL_law 977 = .ok (.iadd, 1) := by decide +kernel
theorem dL_law_978 : decode cL_law 978 = .ok (.iaload, 1) := by decide +kernel
theorem dL_law_979 : decode cL_law 979 = .ok (.i2l, 1) := by decide +kernel
theorem dL_law_980 : decode cL_law 980 = .ok (.bipush 32, 2) := by decide +kernel
theorem dL_law_982 : decode cL_law 982 = .ok (.lshl, 1) := by decide +kernel
theorem dL_law_983 : decode cL_law 983 = .ok (.aload_n 0, 1) := by decide +kernel
theorem dL_law_984 : decode cL_law 984 = .ok (.iload_n 3, 1) := by decide +kernel
theorem dL_law_985 : decode cL_law 985 = .ok (.iconst 3, 1) := by decide +kernel
theorem dL_law_986 : decode cL_law 986 = .ok (.iadd, 1) := by decide +kernel
theorem dL_law_987 : decode cL_law 987 = .ok (.iaload, 1) := by decide +kernel
theorem dL_law_988 : decode cL_law 988 = .ok (.i2l, 1) := by decide +kernel
theorem dL_law_989 : decode cL_law 989 = .ok (.ldc2_w 13, 3) := by decide +kernel
theorem dL_law_992 : decode cL_law 992 = .ok (.land, 1) := by decide +kernel
theorem dL_law_993 : decode cL_law 993 = .ok (.lor, 1) := by decide +kernel
theorem dL_law_994 : decode cL_law 994 = .ok (.invokevirtual 102, 3) := by decide +kernel
theorem dL_law_997 : decode cL_law 997 = .ok (.if_icmp .eq 198, 3) := by decide +kernel
theorem dL_law_1000 : decode cL_law 1000 = .ok (.iconst 0, 1) := by decide +kernel
theorem dL_law_1001 : decode cL_law 1001 = .ok (.ireturn, 1) := by decide +kernel
theorem dL_law_1002 : decode cL_law 1002 = .ok (.aload_n 1, 1) := by decide +kernel
theorem dL_law_1003 : decode cL_law 1003 = .ok (.aload_n 0, 1) := by decide +kernel
theorem dL_law_1004 : decode cL_law 1004 = .ok (.iload_n 3, 1) := by decide +kernel
theorem dL_law_1005 : decode cL_law 1005 = .ok (.iconst 1, 1) := by decide +kernel
theorem dL_law_1006 : decode cL_law 1006 = .ok (.iadd, 1) := by decide +kernel
theorem dL_law_1007 : decode cL_law 1007 = .ok (.iaload, 1) := by decide +kernel
theorem dL_law_1008 : decode cL_law 1008 = .ok (.aload_n 0, 1) := by decide +kernel
theorem dL_law_1009 : decode cL_law 1009 = .ok (.iload_n 3, 1) := by decide +kernel
theorem dL_law_1010 : decode cL_law 1010 = .ok (.iconst 2, 1) := by decide +kernel
theorem dL_law_1011 : decode cL_law 1011 = .ok (.iadd, 1) := by decide +kernel
theorem dL_law_1012 : decode cL_law 1012 = .ok (.iaload, 1) := by decide +kernel
theorem dL_law_1013 : decode cL_law 1013 = .ok (.aload_n 0, 1) := by decide +kernel
theorem dL_law_1014 : decode cL_law 1014 = .ok (.iload_n 3, 1) := by decide +kernel
theorem dL_law_1015 : decode cL_law 1015 = .ok (.iconst 3, 1) := by decide +kernel
theorem dL_law_1016 : decode cL_law 1016 = .ok (.iadd, 1) := by decide +kernel
theorem dL_law_1017 : decode cL_law 1017 = .ok (.iaload, 1) := by decide +kernel
theorem dL_law_1018 : decode cL_law 1018 = .ok (.i2l, 1) := by decide +kernel
theorem dL_law_1019 : decode cL_law 1019 = .ok (.bipush 32, 2) := by decide +kernel
theorem dL_law_1021 : decode cL_law 1021 = .ok (.lshl, 1) := by decide +kernel
theorem dL_law_1022 : decode cL_law 1022 = .ok (.aload_n 0, 1) := by decide +kernel
theorem dL_law_1023 : decode cL_law 1023 = .ok (.iload_n 3, 1) := by decide +kernel
theorem dL_law_1024 : decode cL_law 1024 = .ok (.iconst 4, 1) := by decide +kernel
theorem dL_law_1025 : decode cL_law 1025 = .ok (.iadd, 1) := by decide +kernel
theorem dL_law_1026 : decode cL_law 1026 = .ok (.iaload, 1) := by decide +kernel
theorem dL_law_1027 : decode cL_law 1027 = .ok (.i2l, 1) := by decide +kernel
theorem dL_law_1028 : decode cL_law 1028 = .ok (.ldc2_w 13, 3) := by decide +kernel
theorem dL_law_1031 : decode cL_law 1031 = .ok (.land, 1) := by decide +kernel
theorem dL_law_1032 : decode cL_law 1032 = .ok (.lor, 1) := by decide +kernel
theorem dL_law_1033 : decode cL_law 1033 = .ok (.invokevirtual 103, 3) := by decide +kernel
theorem dL_law_1036 : decode cL_law 1036 = .ok (.aload_n 2, 1) := by decide +kernel
theorem dL_law_1037 : decode cL_law 1037 = .ok (.aload_n 0, 1) := by decide +kernel
theorem dL_law_1038 : decode cL_law 1038 = .ok (.iload_n 3, 1) := by decide +kernel
theorem dL_law_1039 : decode cL_law 1039 = .ok (.iconst 1, 1) := by decide +kernel
theorem dL_law_1040 : decode cL_law 1040 = .ok (.iadd, 1) := by decide +kernel
theorem dL_law_1041 : decode cL_law 1041 = .ok (.iaload, 1) := by decide +kernel
theorem dL_law_1042 : decode cL_law 1042 = .ok (.aload_n 0, 1) := by decide +kernel
theorem dL_law_1043 : decode cL_law 1043 = .ok (.iload_n 3, 1) := by decide +kernel
theorem dL_law_1044 : decode cL_law 1044 = .ok (.iconst 2, 1) := by decide +kernel
theorem dL_law_1045 : decode cL_law 1045 = .ok (.iadd, 1) := by decide +kernel
theorem dL_law_1046 : decode cL_law 1046 = .ok (.iaload, 1) := by decide +kernel
theorem dL_law_1047 : decode cL_law 1047 = .ok (.aload_n 0, 1) := by decide +kernel
theorem dL_law_1048 : decode cL_law 1048 = .ok (.iload_n 3, 1) := by decide +kernel
theorem dL_law_1049 : decode cL_law 1049 = .ok (.iconst 3, 1) := by decide +kernel
theorem dL_law_1050 : decode cL_law 1050 = .ok (.iadd, 1) := by decide +kernel
theorem dL_law_1051 : decode cL_law 1051 = .ok (.iaload, 1) := by decide +kernel
theorem dL_law_1052 : decode cL_law 1052 = .ok (.i2l, 1) := by decide +kernel
theorem dL_law_1053 : decode cL_law 1053 = .ok (.bipush 32, 2) := by decide +kernel
theorem dL_law_1055 : decode cL_law 1055 = .ok (.lshl, 1) := by decide +kernel
theorem dL_law_1056 : decode cL_law 1056 = .ok (.aload_n 0, 1) := by decide +kernel
theorem dL_law_1057 : decode cL_law 1057 = .ok (.iload_n 3, 1) := by decide +kernel
theorem dL_law_1058 : decode cL_law 1058 = .ok (.iconst 4, 1) := by decide +kernel
theorem dL_law_1059 : decode cL_law 1059 = .ok (.iadd, 1) := by decide +kernel
theorem dL_law_1060 : decode cL_law 1060 = .ok (.iaload, 1) := by decide +kernel
theorem dL_law_1061 : decode cL_law 1061 = .ok (.i2l, 1) := by decide +kernel
theorem dL_law_1062 : decode cL_law 1062 = .ok (.ldc2_w 13, 3) := by decide +kernel
theorem dL_law_1065 : decode cL_law 1065 = .ok (.land, 1) := by decide +kernel
theorem dL_law_1066 : decode cL_law 1066 = .ok (.lor, 1) := by decide +kernel
theorem dL_law_1067 : decode cL_law 1067 = .ok (.invokevirtual 107, 3) := by decide +kernel
theorem dL_law_1070 : decode cL_law 1070 = .ok (.if_icmp .eq 125, 3) := by decide +kernel
theorem dL_law_1073 : decode cL_law 1073 = .ok (.iconst 0, 1) := by decide +kernel
theorem dL_law_1074 : decode cL_law 1074 = .ok (.ireturn, 1) := by decide +kernel
theorem dL_law_1075 : decode cL_law 1075 = .ok (.aload_n 1, 1) := by decide +kernel
theorem dL_law_1076 : decode cL_law 1076 = .ok (.aload_n 0, 1) := by decide +kernel
theorem dL_law_1077 : decode cL_law 1077 = .ok (.iload_n 3, 1) := by decide +kernel
theorem dL_law_1078 : decode cL_law 1078 = .ok (.iconst 1, 1) := by decide +kernel
theorem dL_law_1079 : decode cL_law 1079 = .ok (.iadd, 1) := by decide +kernel
theorem dL_law_1080 : decode cL_law 1080 = .ok (.iaload, 1) := by decide +kernel
theorem dL_law_1081 : decode cL_law 1081 = .ok (.aload_n 0, 1) := by decide +kernel
theorem dL_law_1082 : decode cL_law 1082 = .ok (.iload_n 3, 1) := by decide +kernel
theorem dL_law_1083 : decode cL_law 1083 = .ok (.iconst 2, 1) := by decide +kernel
theorem dL_law_1084 : decode cL_law 1084 = .ok (.iadd, 1) := by decide +kernel
theorem dL_law_1085 : decode cL_law 1085 = .ok (.iaload, 1) := by decide +kernel
theorem dL_law_1086 : decode cL_law 1086 = .ok (.aload_n 0, 1) := by decide +kernel
theorem dL_law_1087 : decode cL_law 1087 = .ok (.iload_n 3, 1) := by decide +kernel
theorem dL_law_1088 : decode cL_law 1088 = .ok (.iconst 3, 1) := by decide +kernel
theorem dL_law_1089 : decode cL_law 1089 = .ok (.iadd, 1) := by decide +kernel
theorem dL_law_1090 : decode cL_law 1090 = .ok (.iaload, 1) := by decide +kernel
theorem dL_law_1091 : decode cL_law 1091 = .ok (.aload_n 0, 1) := by decide +kernel
theorem dL_law_1092 : decode cL_law 1092 = .ok (.iload_n 3, 1) := by decide +kernel
theorem dL_law_1093 : decode cL_law 1093 = .ok (.iconst 4, 1) := by decide +kernel
theorem dL_law_1094 : decode cL_law 1094 = .ok (.iadd, 1) := by decide +kernel
theorem dL_law_1095 : decode cL_law 1095 = .ok (.iaload, 1) := by decide +kernel
theorem dL_law_1096 : decode cL_law 1096 = .ok (.invokevirtual 108, 3) := by decide +kernel
theorem dL_law_1099 : decode cL_law 1099 = .ok (.aload_n 2, 1) := by decide +kernel
theorem dL_law_1100 : decode cL_law 1100 = .ok (.aload_n 0, 1) := by decide +kernel
theorem dL_law_1101 : decode cL_law 1101 = .ok (.iload_n 3, 1) := by decide +kernel
theorem dL_law_1102 : decode cL_law 1102 = .ok (.iconst 1, 1) := by decide +kernel
theorem dL_law_1103 : decode cL_law 1103 = .ok (.iadd, 1) := by decide +kernel
theorem dL_law_1104 : decode cL_law 1104 = .ok (.iaload, 1) := by decide +kernel
theorem dL_law_1105 : decode cL_law 1105 = .ok (.aload_n 0, 1) := by decide +kernel
theorem dL_law_1106 : decode cL_law 1106 = .ok (.iload_n 3, 1) := by decide +kernel
theorem dL_law_1107 : decode cL_law 1107 = .ok (.iconst 2, 1) := by decide +kernel
theorem dL_law_1108 : decode cL_law 1108 = .ok (.iadd, 1) := by decide +kernel
theorem dL_law_1109 : decode cL_law 1109 = .ok (.iaload, 1) := by decide +kernel
theorem dL_law_1110 : decode cL_law 1110 = .ok (.aload_n 0, 1) := by decide +kernel
theorem dL_law_1111 : decode cL_law 1111 = .ok (.iload_n 3, 1) := by decide +kernel
theorem dL_law_1112 : decode cL_law 1112 = .ok (.iconst 3, 1) := by decide +kernel
theorem dL_law_1113 : decode cL_law 1113 = .ok (.iadd, 1) := by decide +kernel
theorem dL_law_1114 : decode cL_law 1114 = .ok (.iaload, 1) := by decide +kernel
theorem dL_law_1115 : decode cL_law 1115 = .ok (.aload_n 0, 1) := by decide +kernel
theorem dL_law_1116 : decode cL_law 1116 = .ok (.iload_n 3, 1) := by decide +kernel
theorem dL_law_1117 : decode cL_law 1117 = .ok (.iconst 4, 1) := by decide +kernel
theorem dL_law_1118 : decode cL_law 1118 = .ok (.iadd, 1) := by decide +kernel
theorem dL_law_1119 : decode cL_law 1119 = .ok (.iaload, 1) := by decide +kernel
theorem dL_law_1120 : decode cL_law 1120 = .ok (.invokevirtual 112, 3) := by decide +kernel
theorem dL_law_1123 : decode cL_law 1123 = .ok (.lcmp, 1) := by decide +kernel
theorem dL_law_1124 : decode cL_law 1124 = .ok (.ifCond .eq 71, 3) := by decide +kernel
theorem dL_law_1127 : decode cL_law 1127 = .ok (.iconst 0, 1) := by decide +kernel
theorem dL_law_1128 : decode cL_law 1128 = .ok (.ireturn, 1) := by decide +kernel
theorem dL_law_1129 : decode cL_law 1129 = .ok (.aload_n 1, 1) := by decide +kernel
theorem dL_law_1130 : decode cL_law 1130 = .ok (.aload_n 0, 1) := by decide +kernel
theorem dL_law_1131 : decode cL_law 1131 = .ok (.iload_n 3, 1) := by decide +kernel
theorem dL_law_1132 : decode cL_law 1132 = .ok (.iconst 1, 1) := by decide +kernel
theorem dL_law_1133 : decode cL_law 1133 = .ok (.iadd, 1) := by decide +kernel
theorem dL_law_1134 : decode cL_law 1134 = .ok (.iaload, 1) := by decide +kernel
theorem dL_law_1135 : decode cL_law 1135 = .ok (.aload_n 0, 1) := by decide +kernel
theorem dL_law_1136 : decode cL_law 1136 = .ok (.iload_n 3, 1) := by decide +kernel
theorem dL_law_1137 : decode cL_law 1137 = .ok (.iconst 2, 1) := by decide +kernel
theorem dL_law_1138 : decode cL_law 1138 = .ok (.iadd, 1) := by decide +kernel
theorem dL_law_1139 : decode cL_law 1139 = .ok (.iaload, 1) := by decide +kernel
theorem dL_law_1140 : decode cL_law 1140 = .ok (.aload_n 0, 1) := by decide +kernel
theorem dL_law_1141 : decode cL_law 1141 = .ok (.iload_n 3, 1) := by decide +kernel
theorem dL_law_1142 : decode cL_law 1142 = .ok (.iconst 3, 1) := by decide +kernel
theorem dL_law_1143 : decode cL_law 1143 = .ok (.iadd, 1) := by decide +kernel
theorem dL_law_1144 : decode cL_law 1144 = .ok (.iaload, 1) := by decide +kernel
theorem dL_law_1145 : decode cL_law 1145 = .ok (.invokevirtual 113, 3) := by decide +kernel
theorem dL_law_1148 : decode cL_law 1148 = .ok (.aload_n 2, 1) := by decide +kernel
theorem dL_law_1149 : decode cL_law 1149 = .ok (.aload_n 0, 1) := by decide +kernel
theorem dL_law_1150 : decode cL_law 1150 = .ok (.iload_n 3, 1) := by decide +kernel
theorem dL_law_1151 : decode cL_law 1151 = .ok (.iconst 1, 1) := by decide +kernel
theorem dL_law_1152 : decode cL_law 1152 = .ok (.iadd, 1) := by decide +kernel
theorem dL_law_1153 : decode cL_law 1153 = .ok (.iaload, 1) := by decide +kernel
theorem dL_law_1154 : decode cL_law 1154 = .ok (.aload_n 0, 1) := by decide +kernel
theorem dL_law_1155 : decode cL_law 1155 = .ok (.iload_n 3, 1) := by decide +kernel
theorem dL_law_1156 : decode cL_law 1156 = .ok (.iconst 2, 1) := by decide +kernel
theorem dL_law_1157 : decode cL_law 1157 = .ok (.iadd, 1) := by decide +kernel
theorem dL_law_1158 : decode cL_law 1158 = .ok (.iaload, 1) := by decide +kernel
theorem dL_law_1159 : decode cL_law 1159 = .ok (.aload_n 0, 1) := by decide +kernel
theorem dL_law_1160 : decode cL_law 1160 = .ok (.iload_n 3, 1) := by decide +kernel
theorem dL_law_1161 : decode cL_law 1161 = .ok (.iconst 3, 1) := by decide +kernel
theorem dL_law_1162 : decode cL_law 1162 = .ok (.iadd, 1) := by decide +kernel
theorem dL_law_1163 : decode cL_law 1163 = .ok (.iaload, 1) := by decide +kernel
theorem dL_law_1164 : decode cL_law 1164 = .ok (.invokevirtual 116, 3) := by decide +kernel
theorem dL_law_1167 : decode cL_law 1167 = .ok (.if_icmp .eq 28, 3) := by decide +kernel
theorem dL_law_1170 : decode cL_law 1170 = .ok (.iconst 0, 1) := by decide +kernel
theorem dL_law_1171 : decode cL_law 1171 = .ok (.ireturn, 1) := by decide +kernel
theorem dL_law_1172 : decode cL_law 1172 = .ok (.aload_n 1, 1) := by decide +kernel
theorem dL_law_1173 : decode cL_law 1173 = .ok (.aload_n 0, 1) := by decide +kernel
theorem dL_law_1174 : decode cL_law 1174 = .ok (.iload_n 3, 1) := by decide +kernel
theorem dL_law_1175 : decode cL_law 1175 = .ok (.iconst 1, 1) := by decide +kernel
theorem dL_law_1176 : decode cL_law 1176 = .ok (.iadd, 1) := by decide +kernel
theorem dL_law_1177 : decode cL_law 1177 = .ok (.iaload, 1) := by decide +kernel
theorem dL_law_1178 : decode cL_law 1178 = .ok (.invokevirtual 117, 3) := by decide +kernel
theorem dL_law_1181 : decode cL_law 1181 = .ok (.aload_n 2, 1) := by decide +kernel
theorem dL_law_1182 : decode cL_law 1182 = .ok (.aload_n 0, 1) := by decide +kernel
theorem dL_law_1183 : decode cL_law 1183 = .ok (.iload_n 3, 1) := by decide +kernel
theorem dL_law_1184 : decode cL_law 1184 = .ok (.iconst 1, 1) := by decide +kernel
theorem dL_law_1185 : decode cL_law 1185 = .ok (.iadd, 1) := by decide +kernel
theorem dL_law_1186 : decode cL_law 1186 = .ok (.iaload, 1) := by decide +kernel
theorem dL_law_1187 : decode cL_law 1187 = .ok (.invokevirtual 120, 3) := by decide +kernel
theorem dL_law_1190 : decode cL_law 1190 = .ok (.if_icmp .eq 5, 3) := by decide +kernel
theorem dL_law_1193 : decode cL_law 1193 = .ok (.iconst 0, 1) := by decide +kernel
theorem dL_law_1194 : decode cL_law 1194 = .ok (.ireturn, 1) := by decide +kernel
theorem dL_law_1195 : decode cL_law 1195 = .ok (.iinc 3 8, 3) := by decide +kernel
theorem dL_law_1198 : decode cL_law 1198 = .ok (.goto (-1180), 3) := by decide +kernel
theorem dL_law_1201 : decode cL_law 1201 = .ok (.iconst 1, 1) := by decide +kernel
theorem dL_law_1202 : decode cL_law 1202 = .ok (.ireturn, 1) := by decide +kernel
end
section
/-! the tables' words, one by one: which of them hold at every later state, and those of nest mates and arrays of references, which are carried -/
def wg_T : List Cond := lw_tbl.filter goodWord
def wg_isN : Cond → Bool
  | .fieldLinkNest .. => true
  | .methodLinkNest .. => true
  | .arrayOver (.object _) => true
  | _ => false
def wg_N : List Cond := tables_1.filter wg_isN
theorem wg_inT {w : Cond} (h : w ∈ tables_1) (hg : goodWord w = true) : w ∈ wg_T := List.mem_filter.mpr ⟨List.mem_append_right _ h, hg⟩
theorem wg_inS {w : Cond} (h : w ∈ k2_sels lw_privs) (hg : goodWord w = true) : w ∈ wg_T := List.mem_filter.mpr ⟨List.mem_append_left _ h, hg⟩
theorem wg_inN {w : Cond} (h : w ∈ tables_1) (hg : wg_isN w = true) : w ∈ wg_N := List.mem_filter.mpr ⟨h, hg⟩
theorem tb_0 : (Jvm.Cond.initialized "LightChecksLaw") ∈ wg_T := wg_inT (List.mem_append_left _ (List.mem_of_getElem? (i := 0) rfl)) rfl
theorem tb_1 : (Jvm.Cond.initialized "LightChecks") ∈ wg_T := wg_inT (List.mem_append_left _ (List.mem_of_getElem? (i := 1) rfl)) rfl
theorem tb_2 : (Jvm.Cond.initialized "LightChecks$HeadRow") ∈ wg_T := wg_inT (List.mem_append_left _ (List.mem_of_getElem? (i := 2) rfl)) rfl
theorem tb_3 : (Jvm.Cond.initialized "java/lang/Math") ∈ wg_T := wg_inT (List.mem_append_left _ (List.mem_of_getElem? (i := 3) rfl)) rfl
theorem tb_4 : (Jvm.Cond.initialized "LightChecks$Tree") ∈ wg_T := wg_inT (List.mem_append_left _ (List.mem_of_getElem? (i := 4) rfl)) rfl
theorem tb_5 : (Jvm.Cond.initialized "LightChecks$Proof") ∈ wg_T := wg_inT (List.mem_append_left _ (List.mem_of_getElem? (i := 5) rfl)) rfl
theorem tb_6 : (Jvm.Cond.initialized "LightChecks$Client") ∈ wg_T := wg_inT (List.mem_append_left _ (List.mem_of_getElem? (i := 6) rfl)) rfl
theorem tb_7 : (Jvm.Cond.initialized "LightChecks$Giver") ∈ wg_T := wg_inT (List.mem_append_left _ (List.mem_of_getElem? (i := 7) rfl)) rfl
theorem tb_8 : (Jvm.Cond.initialized "LightChecksModel") ∈ wg_T := wg_inT (List.mem_append_left _ (List.mem_of_getElem? (i := 8) rfl)) rfl
theorem tb_9 : (Jvm.Cond.initialized "LightChecks$WeightSet") ∈ wg_T := wg_inT (List.mem_append_left _ (List.mem_of_getElem? (i := 9) rfl)) rfl
theorem tb_10 : (Jvm.Cond.initialized "LightChecks$Head") ∈ wg_T := wg_inT (List.mem_append_left _ (List.mem_of_getElem? (i := 10) rfl)) rfl
theorem tb_11 : (Jvm.Cond.classLink "LightChecksLaw" (7 : Nat) "LightChecks") ∈ wg_T := wg_inT (List.mem_append_left _ (List.mem_of_getElem? (i := 11) rfl)) rfl
theorem tb_12 : (Jvm.Cond.instantiable "LightChecks" (9 : Nat)) ∈ wg_T := wg_inT (List.mem_append_left _ (List.mem_of_getElem? (i := 12) rfl)) rfl
theorem tb_13 : (Jvm.Cond.methodLink "LightChecksLaw" (9 : Nat) ({ cls := "LightChecks", name := "<init>", desc := "()V" } : Jvm.MethodName)) ∈ wg_T := wg_inT (List.mem_append_left _ (List.mem_of_getElem? (i := 13) rfl)) rfl
theorem tb_14 : (Jvm.Cond.instanceMethod ({ cls := "LightChecks", name := "<init>", desc := "()V" } : Jvm.MethodName)) ∈ wg_T := wg_inT (List.mem_append_left _ (List.mem_of_getElem? (i := 14) rfl)) rfl
theorem tb_15 : (Jvm.Cond.code ({ cls := "LightChecks", name := "<init>", desc := "()V" } : Jvm.MethodName) prog_1_method_1_code (2 : Nat) (Option.none : Option Jvm.ClassFile.FieldType)) ∈ wg_T := wg_inT (List.mem_append_left _ (List.mem_of_getElem? (i := 15) rfl)) rfl
theorem tb_16 : (Jvm.Cond.methodLink "LightChecks" (3 : Nat) ({ cls := "java/lang/Object", name := "<init>", desc := "()V" } : Jvm.MethodName)) ∈ wg_T := wg_inT (List.mem_append_left _ (List.mem_of_getElem? (i := 16) rfl)) rfl
theorem tb_17 : (Jvm.Cond.instanceMethod ({ cls := "java/lang/Object", name := "<init>", desc := "()V" } : Jvm.MethodName)) ∈ wg_T := wg_inT (List.mem_append_left _ (List.mem_of_getElem? (i := 17) rfl)) rfl
theorem tb_18 : (Jvm.Cond.code ({ cls := "java/lang/Object", name := "<init>", desc := "()V" } : Jvm.MethodName) object_method_1_code (1 : Nat) (Option.none : Option Jvm.ClassFile.FieldType)) ∈ wg_T := wg_inT (List.mem_append_left _ (List.mem_of_getElem? (i := 18) rfl)) rfl
theorem tb_19 : (Jvm.Cond.classLink "LightChecks" (9 : Nat) "LightChecks$WeightSet") ∈ wg_T := wg_inT (List.mem_append_left _ (List.mem_of_getElem? (i := 19) rfl)) rfl
theorem tb_21 : (Jvm.Cond.classLink "LightChecks" (19 : Nat) "LightChecks$HeadRow") ∈ wg_T := wg_inT (List.mem_append_left _ (List.mem_of_getElem? (i := 21) rfl)) rfl
theorem tb_22 : (Jvm.Cond.instantiable "LightChecks$HeadRow" (2 : Nat)) ∈ wg_T := wg_inT (List.mem_append_left _ (List.mem_of_getElem? (i := 22) rfl)) rfl
theorem tb_24 : (Jvm.Cond.instanceMethod ({ cls := "LightChecks$HeadRow", name := "<init>", desc := "(I)V" } : Jvm.MethodName)) ∈ wg_T := wg_inT (List.mem_append_left _ (List.mem_of_getElem? (i := 24) rfl)) rfl
theorem tb_25 : (Jvm.Cond.code ({ cls := "LightChecks$HeadRow", name := "<init>", desc := "(I)V" } : Jvm.MethodName) prog_5_method_1_code (2 : Nat) (Option.none : Option Jvm.ClassFile.FieldType)) ∈ wg_T := wg_inT (List.mem_append_left _ (List.mem_of_getElem? (i := 25) rfl)) rfl
theorem tb_26 : (Jvm.Cond.methodLink "LightChecks$HeadRow" (1 : Nat) ({ cls := "java/lang/Object", name := "<init>", desc := "()V" } : Jvm.MethodName)) ∈ wg_T := wg_inT (List.mem_append_left _ (List.mem_of_getElem? (i := 26) rfl)) rfl
theorem tb_27 : (Jvm.Cond.methodLink "LightChecks$HeadRow" (13 : Nat) ({ cls := "java/lang/Math", name := "max", desc := "(II)I" } : Jvm.MethodName)) ∈ wg_T := wg_inT (List.mem_append_left _ (List.mem_of_getElem? (i := 27) rfl)) rfl
theorem tb_28 : (Jvm.Cond.static ({ cls := "java/lang/Math", name := "max", desc := "(II)I" } : Jvm.MethodName)) ∈ wg_T := wg_inT (List.mem_append_left _ (List.mem_of_getElem? (i := 28) rfl)) rfl
theorem tb_29 : (Jvm.Cond.code ({ cls := "java/lang/Math", name := "max", desc := "(II)I" } : Jvm.MethodName) prog_11_method_65_code (2 : Nat) (Option.some Jvm.ClassFile.FieldType.int)) ∈ wg_T := wg_inT (List.mem_append_left _ (List.mem_of_getElem? (i := 29) rfl)) rfl
theorem tb_30 : (Jvm.Cond.classLink "LightChecks$HeadRow" (19 : Nat) "LightChecks$Head") ∈ wg_T := wg_inT (List.mem_append_left _ (List.mem_of_getElem? (i := 30) rfl)) rfl
theorem tb_32 : (Jvm.Cond.fieldLink "LightChecks$HeadRow" (21 : Nat) "LightChecks$HeadRow" "places" "[LLightChecks$Head;") ∈ wg_T := wg_inT (List.mem_append_left _ (List.mem_of_getElem? (i := 32) rfl)) rfl
theorem tb_33 : (Jvm.Cond.fieldLink "LightChecks$HeadRow" (7 : Nat) "LightChecks$HeadRow" "size" "I") ∈ wg_T := wg_inT (List.mem_append_left _ (List.mem_of_getElem? (i := 33) rfl)) rfl
theorem tb_37 : (Jvm.Cond.laysFinal "LightChecks$HeadRow" "LightChecks$HeadRow" "places" "[LLightChecks$Head;") ∈ wg_T := wg_inT (List.mem_append_left _ (List.mem_of_getElem? (i := 37) rfl)) rfl
theorem tb_39 : (Jvm.Cond.lays "LightChecks$HeadRow" "LightChecks$HeadRow" "size" "I") ∈ wg_T := wg_inT (List.mem_append_left _ (List.mem_of_getElem? (i := 39) rfl)) rfl
theorem tb_42 : (Jvm.Cond.classLink "LightChecks" (32 : Nat) "LightChecks$Client") ∈ wg_T := wg_inT (List.mem_append_left _ (List.mem_of_getElem? (i := 42) rfl)) rfl
theorem tb_44 : (Jvm.Cond.classLink "LightChecks" (38 : Nat) "LightChecks$Giver") ∈ wg_T := wg_inT (List.mem_append_left _ (List.mem_of_getElem? (i := 44) rfl)) rfl
theorem tb_46 : (Jvm.Cond.classLink "LightChecks" (47 : Nat) "LightChecks$Tree") ∈ wg_T := wg_inT (List.mem_append_left _ (List.mem_of_getElem? (i := 46) rfl)) rfl
theorem tb_47 : (Jvm.Cond.instantiable "LightChecks$Tree" (2 : Nat)) ∈ wg_T := wg_inT (List.mem_append_left _ (List.mem_of_getElem? (i := 47) rfl)) rfl
theorem tb_49 : (Jvm.Cond.instanceMethod ({ cls := "LightChecks$Tree", name := "<init>", desc := "()V" } : Jvm.MethodName)) ∈ wg_T := wg_inT (List.mem_append_left _ (List.mem_of_getElem? (i := 49) rfl)) rfl
theorem tb_50 : (Jvm.Cond.code ({ cls := "LightChecks$Tree", name := "<init>", desc := "()V" } : Jvm.MethodName) prog_7_method_1_code (1 : Nat) (Option.none : Option Jvm.ClassFile.FieldType)) ∈ wg_T := wg_inT (List.mem_append_left _ (List.mem_of_getElem? (i := 50) rfl)) rfl
theorem tb_51 : (Jvm.Cond.methodLink "LightChecks$Tree" (3 : Nat) ({ cls := "java/lang/Object", name := "<init>", desc := "()V" } : Jvm.MethodName)) ∈ wg_T := wg_inT (List.mem_append_left _ (List.mem_of_getElem? (i := 51) rfl)) rfl
theorem tb_52 : (Jvm.Cond.methodLink "LightChecks$Tree" (18 : Nat) ({ cls := "LightChecks$Tree", name := "reckon", desc := "()V" } : Jvm.MethodName)) ∈ wg_T := wg_inT (List.mem_append_left _ (List.mem_of_getElem? (i := 52) rfl)) rfl
theorem tb_54 : (Jvm.Cond.instanceMethod ({ cls := "LightChecks$Tree", name := "reckon", desc := "()V" } : Jvm.MethodName)) ∈ wg_T := wg_inT (List.mem_append_left _ (List.mem_of_getElem? (i := 54) rfl)) rfl
theorem tb_55 : (Jvm.Cond.code ({ cls := "LightChecks$Tree", name := "reckon", desc := "()V" } : Jvm.MethodName) prog_7_method_2_code (2 : Nat) (Option.none : Option Jvm.ClassFile.FieldType)) ∈ wg_T := wg_inT (List.mem_append_left _ (List.mem_of_getElem? (i := 55) rfl)) rfl
theorem tb_57 : (Jvm.Cond.static ({ cls := "LightChecks", name := "mix", desc := "(J)J" } : Jvm.MethodName)) ∈ wg_T := wg_inT (List.mem_append_left _ (List.mem_of_getElem? (i := 57) rfl)) rfl
theorem tb_58 : (Jvm.Cond.code ({ cls := "LightChecks", name := "mix", desc := "(J)J" } : Jvm.MethodName) prog_1_method_40_code (2 : Nat) (Option.some Jvm.ClassFile.FieldType.long)) ∈ wg_T := wg_inT (List.mem_append_left _ (List.mem_of_getElem? (i := 58) rfl)) rfl
theorem tb_59 : (Jvm.Cond.constantLong "LightChecks" (261 : Nat) (-4658895280553007687 : Int64)) ∈ wg_T := wg_inT (List.mem_append_left _ (List.mem_of_getElem? (i := 59) rfl)) rfl
theorem tb_60 : (Jvm.Cond.constantLong "LightChecks" (263 : Nat) (-7723592293110705685 : Int64)) ∈ wg_T := wg_inT (List.mem_append_left _ (List.mem_of_getElem? (i := 60) rfl)) rfl
theorem tb_62 : (Jvm.Cond.static ({ cls := "LightChecks", name := "pair", desc := "(JJ)J" } : Jvm.MethodName)) ∈ wg_T := wg_inT (List.mem_append_left _ (List.mem_of_getElem? (i := 62) rfl)) rfl
theorem tb_63 : (Jvm.Cond.code ({ cls := "LightChecks", name := "pair", desc := "(JJ)J" } : Jvm.MethodName) prog_1_method_41_code (4 : Nat) (Option.some Jvm.ClassFile.FieldType.long)) ∈ wg_T := wg_inT (List.mem_append_left _ (List.mem_of_getElem? (i := 63) rfl)) rfl
theorem tb_64 : (Jvm.Cond.methodLink "LightChecks" (265 : Nat) ({ cls := "LightChecks", name := "mix", desc := "(J)J" } : Jvm.MethodName)) ∈ wg_T := wg_inT (List.mem_append_left _ (List.mem_of_getElem? (i := 64) rfl)) rfl
theorem tb_65 : (Jvm.Cond.constantLong "LightChecks" (268 : Nat) (3 : Int64)) ∈ wg_T := wg_inT (List.mem_append_left _ (List.mem_of_getElem? (i := 65) rfl)) rfl
theorem tb_66 : (Jvm.Cond.constantLong "LightChecks" (270 : Nat) (-7046029254386353131 : Int64)) ∈ wg_T := wg_inT (List.mem_append_left _ (List.mem_of_getElem? (i := 66) rfl)) rfl
theorem tb_67 : (Jvm.Cond.fieldLink "LightChecks$Tree" (9 : Nat) "LightChecks$Tree" "leaves" "[J") ∈ wg_T := wg_inT (List.mem_append_left _ (List.mem_of_getElem? (i := 67) rfl)) rfl
theorem tb_68 : (Jvm.Cond.fieldLink "LightChecks$Tree" (15 : Nat) "LightChecks$Tree" "nodes" "[J") ∈ wg_T := wg_inT (List.mem_append_left _ (List.mem_of_getElem? (i := 68) rfl)) rfl
theorem tb_69 : (Jvm.Cond.laysFinal "LightChecks$Tree" "LightChecks$Tree" "leaves" "[J") ∈ wg_T := wg_inT (List.mem_append_left _ (List.mem_of_getElem? (i := 69) rfl)) rfl
theorem tb_71 : (Jvm.Cond.laysFinal "LightChecks$Tree" "LightChecks$Tree" "nodes" "[J") ∈ wg_T := wg_inT (List.mem_append_left _ (List.mem_of_getElem? (i := 71) rfl)) rfl
theorem tb_74 : (Jvm.Cond.arrayClass Jvm.ClassFile.FieldType.int) ∈ wg_T := wg_inT (List.mem_append_left _ (List.mem_of_getElem? (i := 74) rfl)) rfl
theorem tb_75 : (Jvm.Cond.arrayClass Jvm.ClassFile.FieldType.long) ∈ wg_T := wg_inT (List.mem_append_left _ (List.mem_of_getElem? (i := 75) rfl)) rfl
theorem tb_76 : (Jvm.Cond.classLink "LightChecks" (54 : Nat) "LightChecks$Proof") ∈ wg_T := wg_inT (List.mem_append_left _ (List.mem_of_getElem? (i := 76) rfl)) rfl
theorem tb_77 : (Jvm.Cond.instantiable "LightChecks$Proof" (7 : Nat)) ∈ wg_T := wg_inT (List.mem_append_left _ (List.mem_of_getElem? (i := 77) rfl)) rfl
theorem tb_79 : (Jvm.Cond.instanceMethod ({ cls := "LightChecks$Proof", name := "<init>", desc := "()V" } : Jvm.MethodName)) ∈ wg_T := wg_inT (List.mem_append_left _ (List.mem_of_getElem? (i := 79) rfl)) rfl
theorem tb_80 : (Jvm.Cond.code ({ cls := "LightChecks$Proof", name := "<init>", desc := "()V" } : Jvm.MethodName) prog_6_method_1_code (1 : Nat) (Option.none : Option Jvm.ClassFile.FieldType)) ∈ wg_T := wg_inT (List.mem_append_left _ (List.mem_of_getElem? (i := 80) rfl)) rfl
theorem tb_81 : (Jvm.Cond.methodLink "LightChecks$Proof" (3 : Nat) ({ cls := "java/lang/Object", name := "<init>", desc := "()V" } : Jvm.MethodName)) ∈ wg_T := wg_inT (List.mem_append_left _ (List.mem_of_getElem? (i := 81) rfl)) rfl
theorem tb_82 : (Jvm.Cond.fieldLink "LightChecks$Proof" (9 : Nat) "LightChecks$Proof" "a" "I") ∈ wg_T := wg_inT (List.mem_append_left _ (List.mem_of_getElem? (i := 82) rfl)) rfl
theorem tb_83 : (Jvm.Cond.fieldLink "LightChecks$Proof" (15 : Nat) "LightChecks$Proof" "b" "I") ∈ wg_T := wg_inT (List.mem_append_left _ (List.mem_of_getElem? (i := 83) rfl)) rfl
theorem tb_84 : (Jvm.Cond.fieldLink "LightChecks$Proof" (18 : Nat) "LightChecks$Proof" "valueA" "J") ∈ wg_T := wg_inT (List.mem_append_left _ (List.mem_of_getElem? (i := 84) rfl)) rfl
theorem tb_85 : (Jvm.Cond.fieldLink "LightChecks$Proof" (22 : Nat) "LightChecks$Proof" "valueB" "J") ∈ wg_T := wg_inT (List.mem_append_left _ (List.mem_of_getElem? (i := 85) rfl)) rfl
theorem tb_86 : (Jvm.Cond.fieldLink "LightChecks$Proof" (25 : Nat) "LightChecks$Proof" "nodes" "[J") ∈ wg_T := wg_inT (List.mem_append_left _ (List.mem_of_getElem? (i := 86) rfl)) rfl
theorem tb_87 : (Jvm.Cond.fieldLink "LightChecks$Proof" (29 : Nat) "LightChecks$Proof" "count" "I") ∈ wg_T := wg_inT (List.mem_append_left _ (List.mem_of_getElem? (i := 87) rfl)) rfl
theorem tb_89 : (Jvm.Cond.fieldLink "LightChecks$Proof" (32 : Nat) "LightChecks$Proof" "reckoned" "[J") ∈ wg_T := wg_inT (List.mem_append_left _ (List.mem_of_getElem? (i := 89) rfl)) rfl
theorem tb_90 : (Jvm.Cond.lays "LightChecks$Proof" "LightChecks$Proof" "a" "I") ∈ wg_T := wg_inT (List.mem_append_left _ (List.mem_of_getElem? (i := 90) rfl)) rfl
theorem tb_92 : (Jvm.Cond.lays "LightChecks$Proof" "LightChecks$Proof" "b" "I") ∈ wg_T := wg_inT (List.mem_append_left _ (List.mem_of_getElem? (i := 92) rfl)) rfl
theorem tb_94 : (Jvm.Cond.lays "LightChecks$Proof" "LightChecks$Proof" "valueA" "J") ∈ wg_T := wg_inT (List.mem_append_left _ (List.mem_of_getElem? (i := 94) rfl)) rfl
theorem tb_96 : (Jvm.Cond.lays "LightChecks$Proof" "LightChecks$Proof" "valueB" "J") ∈ wg_T := wg_inT (List.mem_append_left _ (List.mem_of_getElem? (i := 96) rfl)) rfl
theorem tb_98 : (Jvm.Cond.laysFinal "LightChecks$Proof" "LightChecks$Proof" "nodes" "[J") ∈ wg_T := wg_inT (List.mem_append_left _ (List.mem_of_getElem? (i := 98) rfl)) rfl
theorem tb_100 : (Jvm.Cond.lays "LightChecks$Proof" "LightChecks$Proof" "count" "I") ∈ wg_T := wg_inT (List.mem_append_left _ (List.mem_of_getElem? (i := 100) rfl)) rfl
theorem tb_102 : (Jvm.Cond.laysFinal "LightChecks$Proof" "LightChecks$Proof" "reckoned" "[J") ∈ wg_T := wg_inT (List.mem_append_left _ (List.mem_of_getElem? (i := 102) rfl)) rfl
theorem tb_105 : (Jvm.Cond.instantiable "LightChecks$Client" (4 : Nat)) ∈ wg_T := wg_inT (List.mem_append_left _ (List.mem_of_getElem? (i := 105) rfl)) rfl
theorem tb_107 : (Jvm.Cond.instanceMethod ({ cls := "LightChecks$Client", name := "<init>", desc := "()V" } : Jvm.MethodName)) ∈ wg_T := wg_inT (List.mem_append_left _ (List.mem_of_getElem? (i := 107) rfl)) rfl
theorem tb_108 : (Jvm.Cond.code ({ cls := "LightChecks$Client", name := "<init>", desc := "()V" } : Jvm.MethodName) prog_2_method_1_code (1 : Nat) (Option.none : Option Jvm.ClassFile.FieldType)) ∈ wg_T := wg_inT (List.mem_append_left _ (List.mem_of_getElem? (i := 108) rfl)) rfl
theorem tb_109 : (Jvm.Cond.methodLink "LightChecks$Client" (3 : Nat) ({ cls := "java/lang/Object", name := "<init>", desc := "()V" } : Jvm.MethodName)) ∈ wg_T := wg_inT (List.mem_append_left _ (List.mem_of_getElem? (i := 109) rfl)) rfl
theorem tb_110 : (Jvm.Cond.classLink "LightChecks$Client" (9 : Nat) "LightChecks$HeadRow") ∈ wg_T := wg_inT (List.mem_append_left _ (List.mem_of_getElem? (i := 110) rfl)) rfl
theorem tb_112 : (Jvm.Cond.fieldLink "LightChecks$Client" (14 : Nat) "LightChecks$Client" "rows" "LLightChecks$HeadRow;") ∈ wg_T := wg_inT (List.mem_append_left _ (List.mem_of_getElem? (i := 112) rfl)) rfl
theorem tb_114 : (Jvm.Cond.fieldLink "LightChecks$Client" (20 : Nat) "LightChecks$Client" "cost" "I") ∈ wg_T := wg_inT (List.mem_append_left _ (List.mem_of_getElem? (i := 114) rfl)) rfl
theorem tb_116 : (Jvm.Cond.fieldLink "LightChecks$Client" (24 : Nat) "LightChecks$Client" "refusedBy" "I") ∈ wg_T := wg_inT (List.mem_append_left _ (List.mem_of_getElem? (i := 116) rfl)) rfl
theorem tb_118 : (Jvm.Cond.fieldLink "LightChecks$Client" (27 : Nat) "LightChecks$Client" "refusedAt" "I") ∈ wg_T := wg_inT (List.mem_append_left _ (List.mem_of_getElem? (i := 118) rfl)) rfl
theorem tb_120 : (Jvm.Cond.laysFinal "LightChecks$Client" "LightChecks$Client" "rows" "LLightChecks$HeadRow;") ∈ wg_T := wg_inT (List.mem_append_left _ (List.mem_of_getElem? (i := 120) rfl)) rfl
theorem tb_122 : (Jvm.Cond.lays "LightChecks$Client" "LightChecks$Client" "cost" "I") ∈ wg_T := wg_inT (List.mem_append_left _ (List.mem_of_getElem? (i := 122) rfl)) rfl
theorem tb_124 : (Jvm.Cond.lays "LightChecks$Client" "LightChecks$Client" "refusedBy" "I") ∈ wg_T := wg_inT (List.mem_append_left _ (List.mem_of_getElem? (i := 124) rfl)) rfl
theorem tb_126 : (Jvm.Cond.lays "LightChecks$Client" "LightChecks$Client" "refusedAt" "I") ∈ wg_T := wg_inT (List.mem_append_left _ (List.mem_of_getElem? (i := 126) rfl)) rfl
theorem tb_129 : (Jvm.Cond.instantiable "LightChecks$Giver" (1 : Nat)) ∈ wg_T := wg_inT (List.mem_append_left _ (List.mem_of_getElem? (i := 129) rfl)) rfl
theorem tb_131 : (Jvm.Cond.instanceMethod ({ cls := "LightChecks$Giver", name := "<init>", desc := "()V" } : Jvm.MethodName)) ∈ wg_T := wg_inT (List.mem_append_left _ (List.mem_of_getElem? (i := 131) rfl)) rfl
theorem tb_132 : (Jvm.Cond.code ({ cls := "LightChecks$Giver", name := "<init>", desc := "()V" } : Jvm.MethodName) prog_3_method_1_code (1 : Nat) (Option.none : Option Jvm.ClassFile.FieldType)) ∈ wg_T := wg_inT (List.mem_append_left _ (List.mem_of_getElem? (i := 132) rfl)) rfl
theorem tb_133 : (Jvm.Cond.methodLink "LightChecks$Giver" (3 : Nat) ({ cls := "java/lang/Object", name := "<init>", desc := "()V" } : Jvm.MethodName)) ∈ wg_T := wg_inT (List.mem_append_left _ (List.mem_of_getElem? (i := 133) rfl)) rfl
theorem tb_134 : (Jvm.Cond.classLink "LightChecks$Giver" (9 : Nat) "LightChecks$HeadRow") ∈ wg_T := wg_inT (List.mem_append_left _ (List.mem_of_getElem? (i := 134) rfl)) rfl
theorem tb_136 : (Jvm.Cond.fieldLink "LightChecks$Giver" (14 : Nat) "LightChecks$Giver" "rows" "LLightChecks$HeadRow;") ∈ wg_T := wg_inT (List.mem_append_left _ (List.mem_of_getElem? (i := 136) rfl)) rfl
theorem tb_137 : (Jvm.Cond.laysFinal "LightChecks$Giver" "LightChecks$Giver" "rows" "LLightChecks$HeadRow;") ∈ wg_T := wg_inT (List.mem_append_left _ (List.mem_of_getElem? (i := 137) rfl)) rfl
theorem tb_142 : (Jvm.Cond.instanceMethod ({ cls := "LightChecks$Proof", name := "take", desc := "(LLightChecks$Tree;II)V" } : Jvm.MethodName)) ∈ wg_T := wg_inT (List.mem_append_left _ (List.mem_of_getElem? (i := 142) rfl)) rfl
theorem tb_143 : (Jvm.Cond.code ({ cls := "LightChecks$Proof", name := "take", desc := "(LLightChecks$Tree;II)V" } : Jvm.MethodName) prog_6_method_2_code (5 : Nat) (Option.none : Option Jvm.ClassFile.FieldType)) ∈ wg_T := wg_inT (List.mem_append_left _ (List.mem_of_getElem? (i := 143) rfl)) rfl
theorem tb_146 : (Jvm.Cond.instanceMethod ({ cls := "LightChecks$Tree", name := "leafAt", desc := "(I)J" } : Jvm.MethodName)) ∈ wg_T := wg_inT (List.mem_append_left _ (List.mem_of_getElem? (i := 146) rfl)) rfl
theorem tb_147 : (Jvm.Cond.code ({ cls := "LightChecks$Tree", name := "leafAt", desc := "(I)J" } : Jvm.MethodName) prog_7_method_3_code (2 : Nat) (Option.some Jvm.ClassFile.FieldType.long)) ∈ wg_T := wg_inT (List.mem_append_left _ (List.mem_of_getElem? (i := 147) rfl)) rfl
theorem tb_149 : (Jvm.Cond.static ({ cls := "LightChecks", name := "isLeaf", desc := "(I)Z" } : Jvm.MethodName)) ∈ wg_T := wg_inT (List.mem_append_left _ (List.mem_of_getElem? (i := 149) rfl)) rfl
theorem tb_150 : (Jvm.Cond.code ({ cls := "LightChecks", name := "isLeaf", desc := "(I)Z" } : Jvm.MethodName) prog_1_method_35_code (1 : Nat) (Option.some Jvm.ClassFile.FieldType.boolean)) ∈ wg_T := wg_inT (List.mem_append_left _ (List.mem_of_getElem? (i := 150) rfl)) rfl
theorem tb_151 : (Jvm.Cond.methodLink "LightChecks$Proof" (41 : Nat) ({ cls := "LightChecks$Proof", name := "isBeside", desc := "(I)Z" } : Jvm.MethodName)) ∈ wg_T := wg_inT (List.mem_append_left _ (List.mem_of_getElem? (i := 151) rfl)) rfl
theorem tb_153 : (Jvm.Cond.instanceMethod ({ cls := "LightChecks$Proof", name := "isBeside", desc := "(I)Z" } : Jvm.MethodName)) ∈ wg_T := wg_inT (List.mem_append_left _ (List.mem_of_getElem? (i := 153) rfl)) rfl
theorem tb_154 : (Jvm.Cond.code ({ cls := "LightChecks$Proof", name := "isBeside", desc := "(I)Z" } : Jvm.MethodName) prog_6_method_4_code (2 : Nat) (Option.some Jvm.ClassFile.FieldType.boolean)) ∈ wg_T := wg_inT (List.mem_append_left _ (List.mem_of_getElem? (i := 154) rfl)) rfl
theorem tb_155 : (Jvm.Cond.methodLink "LightChecks$Proof" (48 : Nat) ({ cls := "LightChecks$Proof", name := "isOnWay", desc := "(I)Z" } : Jvm.MethodName)) ∈ wg_T := wg_inT (List.mem_append_left _ (List.mem_of_getElem? (i := 155) rfl)) rfl
theorem tb_157 : (Jvm.Cond.instanceMethod ({ cls := "LightChecks$Proof", name := "isOnWay", desc := "(I)Z" } : Jvm.MethodName)) ∈ wg_T := wg_inT (List.mem_append_left _ (List.mem_of_getElem? (i := 157) rfl)) rfl
theorem tb_158 : (Jvm.Cond.code ({ cls := "LightChecks$Proof", name := "isOnWay", desc := "(I)Z" } : Jvm.MethodName) prog_6_method_3_code (3 : Nat) (Option.some Jvm.ClassFile.FieldType.boolean)) ∈ wg_T := wg_inT (List.mem_append_left _ (List.mem_of_getElem? (i := 158) rfl)) rfl
theorem tb_161 : (Jvm.Cond.instanceMethod ({ cls := "LightChecks$Tree", name := "nodeAt", desc := "(I)J" } : Jvm.MethodName)) ∈ wg_T := wg_inT (List.mem_append_left _ (List.mem_of_getElem? (i := 161) rfl)) rfl
theorem tb_162 : (Jvm.Cond.code ({ cls := "LightChecks$Tree", name := "nodeAt", desc := "(I)J" } : Jvm.MethodName) prog_7_method_4_code (2 : Nat) (Option.some Jvm.ClassFile.FieldType.long)) ∈ wg_T := wg_inT (List.mem_append_left _ (List.mem_of_getElem? (i := 162) rfl)) rfl
theorem tb_163 : (Jvm.Cond.fieldLink "LightChecks" (11 : Nat) "LightChecks" "sets" "[LLightChecks$WeightSet;") ∈ wg_T := wg_inT (List.mem_append_left _ (List.mem_of_getElem? (i := 163) rfl)) rfl
theorem tb_164 : (Jvm.Cond.fieldLink "LightChecks" (15 : Nat) "LightChecks" "setCount" "I") ∈ wg_T := wg_inT (List.mem_append_left _ (List.mem_of_getElem? (i := 164) rfl)) rfl
theorem tb_165 : (Jvm.Cond.fieldLink "LightChecks" (24 : Nat) "LightChecks" "heads" "LLightChecks$HeadRow;") ∈ wg_T := wg_inT (List.mem_append_left _ (List.mem_of_getElem? (i := 165) rfl)) rfl
theorem tb_166 : (Jvm.Cond.fieldLink "LightChecks" (28 : Nat) "LightChecks" "terms" "[I") ∈ wg_T := wg_inT (List.mem_append_left _ (List.mem_of_getElem? (i := 166) rfl)) rfl
theorem tb_167 : (Jvm.Cond.fieldLink "LightChecks" (34 : Nat) "LightChecks" "clients" "[LLightChecks$Client;") ∈ wg_T := wg_inT (List.mem_append_left _ (List.mem_of_getElem? (i := 167) rfl)) rfl
theorem tb_168 : (Jvm.Cond.fieldLink "LightChecks" (40 : Nat) "LightChecks" "givers" "[LLightChecks$Giver;") ∈ wg_T := wg_inT (List.mem_append_left _ (List.mem_of_getElem? (i := 168) rfl)) rfl
theorem tb_169 : (Jvm.Cond.fieldLink "LightChecks" (44 : Nat) "LightChecks" "pile" "[I") ∈ wg_T := wg_inT (List.mem_append_left _ (List.mem_of_getElem? (i := 169) rfl)) rfl
theorem tb_170 : (Jvm.Cond.fieldLink "LightChecks" (50 : Nat) "LightChecks" "theTree" "LLightChecks$Tree;") ∈ wg_T := wg_inT (List.mem_append_left _ (List.mem_of_getElem? (i := 170) rfl)) rfl
theorem tb_171 : (Jvm.Cond.fieldLink "LightChecks" (57 : Nat) "LightChecks" "theProof" "LLightChecks$Proof;") ∈ wg_T := wg_inT (List.mem_append_left _ (List.mem_of_getElem? (i := 171) rfl)) rfl
theorem tb_172 : (Jvm.Cond.laysFinal "LightChecks" "LightChecks" "sets" "[LLightChecks$WeightSet;") ∈ wg_T := wg_inT (List.mem_append_left _ (List.mem_of_getElem? (i := 172) rfl)) rfl
theorem tb_174 : (Jvm.Cond.lays "LightChecks" "LightChecks" "setCount" "I") ∈ wg_T := wg_inT (List.mem_append_left _ (List.mem_of_getElem? (i := 174) rfl)) rfl
theorem tb_176 : (Jvm.Cond.laysFinal "LightChecks" "LightChecks" "heads" "LLightChecks$HeadRow;") ∈ wg_T := wg_inT (List.mem_append_left _ (List.mem_of_getElem? (i := 176) rfl)) rfl
theorem tb_178 : (Jvm.Cond.laysFinal "LightChecks" "LightChecks" "terms" "[I") ∈ wg_T := wg_inT (List.mem_append_left _ (List.mem_of_getElem? (i := 178) rfl)) rfl
theorem tb_180 : (Jvm.Cond.laysFinal "LightChecks" "LightChecks" "clients" "[LLightChecks$Client;") ∈ wg_T := wg_inT (List.mem_append_left _ (List.mem_of_getElem? (i := 180) rfl)) rfl
theorem tb_182 : (Jvm.Cond.laysFinal "LightChecks" "LightChecks" "givers" "[LLightChecks$Giver;") ∈ wg_T := wg_inT (List.mem_append_left _ (List.mem_of_getElem? (i := 182) rfl)) rfl
theorem tb_184 : (Jvm.Cond.laysFinal "LightChecks" "LightChecks" "pile" "[I") ∈ wg_T := wg_inT (List.mem_append_left _ (List.mem_of_getElem? (i := 184) rfl)) rfl
theorem tb_186 : (Jvm.Cond.laysFinal "LightChecks" "LightChecks" "theTree" "LLightChecks$Tree;") ∈ wg_T := wg_inT (List.mem_append_left _ (List.mem_of_getElem? (i := 186) rfl)) rfl
theorem tb_188 : (Jvm.Cond.laysFinal "LightChecks" "LightChecks" "theProof" "LLightChecks$Proof;") ∈ wg_T := wg_inT (List.mem_append_left _ (List.mem_of_getElem? (i := 188) rfl)) rfl
theorem tb_191 : (Jvm.Cond.methodLink "LightChecksLaw" (15 : Nat) ({ cls := "LightChecks", name := "set", desc := "(JJ)I" } : Jvm.MethodName)) ∈ wg_T := wg_inT (List.mem_append_left _ (List.mem_of_getElem? (i := 191) rfl)) rfl
theorem tb_192 : (Jvm.Cond.instanceMethod ({ cls := "LightChecks", name := "set", desc := "(JJ)I" } : Jvm.MethodName)) ∈ wg_T := wg_inT (List.mem_append_left _ (List.mem_of_getElem? (i := 192) rfl)) rfl
theorem tb_193 : (Jvm.Cond.selects "LightChecks" ({ cls := "LightChecks", name := "set", desc := "(JJ)I" } : Jvm.MethodName) ({ cls := "LightChecks", name := "set", desc := "(JJ)I" } : Jvm.MethodName)) ∈ wg_T := wg_inT (List.mem_append_left _ (List.mem_of_getElem? (i := 193) rfl)) rfl
theorem tb_194 : (Jvm.Cond.code ({ cls := "LightChecks", name := "set", desc := "(JJ)I" } : Jvm.MethodName) prog_1_method_2_code (5 : Nat) (Option.some Jvm.ClassFile.FieldType.int)) ∈ wg_T := wg_inT (List.mem_append_left _ (List.mem_of_getElem? (i := 194) rfl)) rfl
theorem tb_195 : (Jvm.Cond.methodLink "LightChecks" (67 : Nat) ({ cls := "LightChecks", name := "holdsWeights", desc := "(J)Z" } : Jvm.MethodName)) ∈ wg_T := wg_inT (List.mem_append_left _ (List.mem_of_getElem? (i := 195) rfl)) rfl
theorem tb_196 : (Jvm.Cond.static ({ cls := "LightChecks", name := "holdsWeights", desc := "(J)Z" } : Jvm.MethodName)) ∈ wg_T := wg_inT (List.mem_append_left _ (List.mem_of_getElem? (i := 196) rfl)) rfl
theorem tb_197 : (Jvm.Cond.code ({ cls := "LightChecks", name := "holdsWeights", desc := "(J)Z" } : Jvm.MethodName) prog_1_method_39_code (3 : Nat) (Option.some Jvm.ClassFile.FieldType.boolean)) ∈ wg_T := wg_inT (List.mem_append_left _ (List.mem_of_getElem? (i := 197) rfl)) rfl
theorem tb_198 : (Jvm.Cond.methodLink "LightChecks" (257 : Nat) ({ cls := "LightChecks", name := "weightIn", desc := "(JI)I" } : Jvm.MethodName)) ∈ wg_T := wg_inT (List.mem_append_left _ (List.mem_of_getElem? (i := 198) rfl)) rfl
theorem tb_199 : (Jvm.Cond.static ({ cls := "LightChecks", name := "weightIn", desc := "(JI)I" } : Jvm.MethodName)) ∈ wg_T := wg_inT (List.mem_append_left _ (List.mem_of_getElem? (i := 199) rfl)) rfl
theorem tb_200 : (Jvm.Cond.code ({ cls := "LightChecks", name := "weightIn", desc := "(JI)I" } : Jvm.MethodName) prog_1_method_38_code (3 : Nat) (Option.some Jvm.ClassFile.FieldType.int)) ∈ wg_T := wg_inT (List.mem_append_left _ (List.mem_of_getElem? (i := 200) rfl)) rfl
theorem tb_201 : (Jvm.Cond.instantiable "LightChecks$WeightSet" (4 : Nat)) ∈ wg_T := wg_inT (List.mem_append_left _ (List.mem_of_getElem? (i := 201) rfl)) rfl
theorem tb_203 : (Jvm.Cond.instanceMethod ({ cls := "LightChecks$WeightSet", name := "<init>", desc := "(IJJ)V" } : Jvm.MethodName)) ∈ wg_T := wg_inT (List.mem_append_left _ (List.mem_of_getElem? (i := 203) rfl)) rfl
theorem tb_204 : (Jvm.Cond.code ({ cls := "LightChecks$WeightSet", name := "<init>", desc := "(IJJ)V" } : Jvm.MethodName) prog_8_method_1_code (8 : Nat) (Option.none : Option Jvm.ClassFile.FieldType)) ∈ wg_T := wg_inT (List.mem_append_left _ (List.mem_of_getElem? (i := 204) rfl)) rfl
theorem tb_205 : (Jvm.Cond.methodLink "LightChecks$WeightSet" (3 : Nat) ({ cls := "java/lang/Object", name := "<init>", desc := "()V" } : Jvm.MethodName)) ∈ wg_T := wg_inT (List.mem_append_left _ (List.mem_of_getElem? (i := 205) rfl)) rfl
theorem tb_207 : (Jvm.Cond.fieldLink "LightChecks$WeightSet" (9 : Nat) "LightChecks$WeightSet" "number" "I") ∈ wg_T := wg_inT (List.mem_append_left _ (List.mem_of_getElem? (i := 207) rfl)) rfl
theorem tb_210 : (Jvm.Cond.fieldLink "LightChecks$WeightSet" (15 : Nat) "LightChecks$WeightSet" "low" "J") ∈ wg_T := wg_inT (List.mem_append_left _ (List.mem_of_getElem? (i := 210) rfl)) rfl
theorem tb_211 : (Jvm.Cond.fieldLink "LightChecks$WeightSet" (19 : Nat) "LightChecks$WeightSet" "high" "J") ∈ wg_T := wg_inT (List.mem_append_left _ (List.mem_of_getElem? (i := 211) rfl)) rfl
theorem tb_212 : (Jvm.Cond.fieldLink "LightChecks$WeightSet" (26 : Nat) "LightChecks$WeightSet" "total" "I") ∈ wg_T := wg_inT (List.mem_append_left _ (List.mem_of_getElem? (i := 212) rfl)) rfl
theorem tb_214 : (Jvm.Cond.laysFinal "LightChecks$WeightSet" "LightChecks$WeightSet" "number" "I") ∈ wg_T := wg_inT (List.mem_append_left _ (List.mem_of_getElem? (i := 214) rfl)) rfl
theorem tb_216 : (Jvm.Cond.laysFinal "LightChecks$WeightSet" "LightChecks$WeightSet" "low" "J") ∈ wg_T := wg_inT (List.mem_append_left _ (List.mem_of_getElem? (i := 216) rfl)) rfl
theorem tb_218 : (Jvm.Cond.laysFinal "LightChecks$WeightSet" "LightChecks$WeightSet" "high" "J") ∈ wg_T := wg_inT (List.mem_append_left _ (List.mem_of_getElem? (i := 218) rfl)) rfl
theorem tb_220 : (Jvm.Cond.laysFinal "LightChecks$WeightSet" "LightChecks$WeightSet" "total" "I") ∈ wg_T := wg_inT (List.mem_append_left _ (List.mem_of_getElem? (i := 220) rfl)) rfl
theorem tb_223 : (Jvm.Cond.methodLink "LightChecksLaw" (20 : Nat) ({ cls := "LightChecks", name := "head", desc := "(IJIIJ)I" } : Jvm.MethodName)) ∈ wg_T := wg_inT (List.mem_append_left _ (List.mem_of_getElem? (i := 223) rfl)) rfl
theorem tb_224 : (Jvm.Cond.instanceMethod ({ cls := "LightChecks", name := "head", desc := "(IJIIJ)I" } : Jvm.MethodName)) ∈ wg_T := wg_inT (List.mem_append_left _ (List.mem_of_getElem? (i := 224) rfl)) rfl
theorem tb_225 : (Jvm.Cond.selects "LightChecks" ({ cls := "LightChecks", name := "head", desc := "(IJIIJ)I" } : Jvm.MethodName) ({ cls := "LightChecks", name := "head", desc := "(IJIIJ)I" } : Jvm.MethodName)) ∈ wg_T := wg_inT (List.mem_append_left _ (List.mem_of_getElem? (i := 225) rfl)) rfl
theorem tb_226 : (Jvm.Cond.code ({ cls := "LightChecks", name := "head", desc := "(IJIIJ)I" } : Jvm.MethodName) prog_1_method_3_code (11 : Nat) (Option.some Jvm.ClassFile.FieldType.int)) ∈ wg_T := wg_inT (List.mem_append_left _ (List.mem_of_getElem? (i := 226) rfl)) rfl
theorem tb_227 : (Jvm.Cond.methodLink "LightChecks" (74 : Nat) ({ cls := "LightChecks", name := "setAt", desc := "(I)LLightChecks$WeightSet;" } : Jvm.MethodName)) ∈ wg_T := wg_inT (List.mem_append_left _ (List.mem_of_getElem? (i := 227) rfl)) rfl
theorem tb_229 : (Jvm.Cond.instanceMethod ({ cls := "LightChecks", name := "setAt", desc := "(I)LLightChecks$WeightSet;" } : Jvm.MethodName)) ∈ wg_T := wg_inT (List.mem_append_left _ (List.mem_of_getElem? (i := 229) rfl)) rfl
theorem tb_230 : (Jvm.Cond.code ({ cls := "LightChecks", name := "setAt", desc := "(I)LLightChecks$WeightSet;" } : Jvm.MethodName) prog_1_method_26_code (2 : Nat) (Option.some (Jvm.ClassFile.FieldType.object "LightChecks$WeightSet"))) ∈ wg_T := wg_inT (List.mem_append_left _ (List.mem_of_getElem? (i := 230) rfl)) rfl
theorem tb_231 : (Jvm.Cond.methodLink "LightChecks" (78 : Nat) ({ cls := "LightChecks", name := "isHeight", desc := "(I)Z" } : Jvm.MethodName)) ∈ wg_T := wg_inT (List.mem_append_left _ (List.mem_of_getElem? (i := 231) rfl)) rfl
theorem tb_232 : (Jvm.Cond.static ({ cls := "LightChecks", name := "isHeight", desc := "(I)Z" } : Jvm.MethodName)) ∈ wg_T := wg_inT (List.mem_append_left _ (List.mem_of_getElem? (i := 232) rfl)) rfl
theorem tb_233 : (Jvm.Cond.code ({ cls := "LightChecks", name := "isHeight", desc := "(I)Z" } : Jvm.MethodName) prog_1_method_34_code (1 : Nat) (Option.some Jvm.ClassFile.FieldType.boolean)) ∈ wg_T := wg_inT (List.mem_append_left _ (List.mem_of_getElem? (i := 233) rfl)) rfl
theorem tb_234 : (Jvm.Cond.constant "LightChecks" (256 : Nat) (100000 : Int32)) ∈ wg_T := wg_inT (List.mem_append_left _ (List.mem_of_getElem? (i := 234) rfl)) rfl
theorem tb_237 : (Jvm.Cond.instanceMethod ({ cls := "LightChecks$HeadRow", name := "isFull", desc := "()Z" } : Jvm.MethodName)) ∈ wg_T := wg_inT (List.mem_append_left _ (List.mem_of_getElem? (i := 237) rfl)) rfl
theorem tb_238 : (Jvm.Cond.code ({ cls := "LightChecks$HeadRow", name := "isFull", desc := "()Z" } : Jvm.MethodName) prog_5_method_3_code (1 : Nat) (Option.some Jvm.ClassFile.FieldType.boolean)) ∈ wg_T := wg_inT (List.mem_append_left _ (List.mem_of_getElem? (i := 238) rfl)) rfl
theorem tb_239 : (Jvm.Cond.classLink "LightChecks" (89 : Nat) "LightChecks$Head") ∈ wg_T := wg_inT (List.mem_append_left _ (List.mem_of_getElem? (i := 239) rfl)) rfl
theorem tb_240 : (Jvm.Cond.instantiable "LightChecks$Head" (8 : Nat)) ∈ wg_T := wg_inT (List.mem_append_right _ (List.mem_append_left _ (List.mem_of_getElem? (i := 0) rfl))) rfl
theorem tb_242 : (Jvm.Cond.instanceMethod ({ cls := "LightChecks$Head", name := "<init>", desc := "(IIJLLightChecks$WeightSet;LLightChecks$WeightSet;J)V" } : Jvm.MethodName)) ∈ wg_T := wg_inT (List.mem_append_right _ (List.mem_append_left _ (List.mem_of_getElem? (i := 2) rfl))) rfl
theorem tb_243 : (Jvm.Cond.code ({ cls := "LightChecks$Head", name := "<init>", desc := "(IIJLLightChecks$WeightSet;LLightChecks$WeightSet;J)V" } : Jvm.MethodName) prog_4_method_1_code (9 : Nat) (Option.none : Option Jvm.ClassFile.FieldType)) ∈ wg_T := wg_inT (List.mem_append_right _ (List.mem_append_left _ (List.mem_of_getElem? (i := 3) rfl))) rfl
theorem tb_244 : (Jvm.Cond.methodLink "LightChecks$Head" (1 : Nat) ({ cls := "java/lang/Object", name := "<init>", desc := "()V" } : Jvm.MethodName)) ∈ wg_T := wg_inT (List.mem_append_right _ (List.mem_append_left _ (List.mem_of_getElem? (i := 4) rfl))) rfl
theorem tb_246 : (Jvm.Cond.fieldLink "LightChecks$Head" (13 : Nat) "LightChecks$Head" "number" "I") ∈ wg_T := wg_inT (List.mem_append_right _ (List.mem_append_left _ (List.mem_of_getElem? (i := 6) rfl))) rfl
theorem tb_248 : (Jvm.Cond.fieldLink "LightChecks$Head" (16 : Nat) "LightChecks$Head" "height" "I") ∈ wg_T := wg_inT (List.mem_append_right _ (List.mem_append_left _ (List.mem_of_getElem? (i := 8) rfl))) rfl
theorem tb_252 : (Jvm.Cond.fieldLink "LightChecks$Head" (19 : Nat) "LightChecks$Head" "parent" "J") ∈ wg_T := wg_inT (List.mem_append_right _ (List.mem_append_left _ (List.mem_of_getElem? (i := 12) rfl))) rfl
theorem tb_254 : (Jvm.Cond.fieldLink "LightChecks$Head" (23 : Nat) "LightChecks$Head" "own" "LLightChecks$WeightSet;") ∈ wg_T := wg_inT (List.mem_append_right _ (List.mem_append_left _ (List.mem_of_getElem? (i := 14) rfl))) rfl
theorem tb_256 : (Jvm.Cond.fieldLink "LightChecks$Head" (27 : Nat) "LightChecks$Head" "following" "LLightChecks$WeightSet;") ∈ wg_T := wg_inT (List.mem_append_right _ (List.mem_append_left _ (List.mem_of_getElem? (i := 16) rfl))) rfl
theorem tb_258 : (Jvm.Cond.fieldLink "LightChecks$Head" (30 : Nat) "LightChecks$Head" "root" "J") ∈ wg_T := wg_inT (List.mem_append_right _ (List.mem_append_left _ (List.mem_of_getElem? (i := 18) rfl))) rfl
theorem tb_260 : (Jvm.Cond.fieldLink "LightChecks$Head" (42 : Nat) "LightChecks$Head" "fingerprint" "J") ∈ wg_T := wg_inT (List.mem_append_right _ (List.mem_append_left _ (List.mem_of_getElem? (i := 20) rfl))) rfl
theorem tb_263 : (Jvm.Cond.fieldLink "LightChecks$Head" (7 : Nat) "LightChecks$Head" "signers" "I") ∈ wg_T := wg_inT (List.mem_append_right _ (List.mem_append_left _ (List.mem_of_getElem? (i := 23) rfl))) rfl
theorem tb_265 : (Jvm.Cond.laysFinal "LightChecks$Head" "LightChecks$Head" "number" "I") ∈ wg_T := wg_inT (List.mem_append_right _ (List.mem_append_left _ (List.mem_of_getElem? (i := 25) rfl))) rfl
theorem tb_267 : (Jvm.Cond.laysFinal "LightChecks$Head" "LightChecks$Head" "height" "I") ∈ wg_T := wg_inT (List.mem_append_right _ (List.mem_append_left _ (List.mem_of_getElem? (i := 27) rfl))) rfl
theorem tb_269 : (Jvm.Cond.laysFinal "LightChecks$Head" "LightChecks$Head" "parent" "J") ∈ wg_T := wg_inT (List.mem_append_right _ (List.mem_append_left _ (List.mem_of_getElem? (i := 29) rfl))) rfl
theorem tb_271 : (Jvm.Cond.laysFinal "LightChecks$Head" "LightChecks$Head" "own" "LLightChecks$WeightSet;") ∈ wg_T := wg_inT (List.mem_append_right _ (List.mem_append_left _ (List.mem_of_getElem? (i := 31) rfl))) rfl
theorem tb_273 : (Jvm.Cond.laysFinal "LightChecks$Head" "LightChecks$Head" "following" "LLightChecks$WeightSet;") ∈ wg_T := wg_inT (List.mem_append_right _ (List.mem_append_left _ (List.mem_of_getElem? (i := 33) rfl))) rfl
theorem tb_275 : (Jvm.Cond.laysFinal "LightChecks$Head" "LightChecks$Head" "root" "J") ∈ wg_T := wg_inT (List.mem_append_right _ (List.mem_append_left _ (List.mem_of_getElem? (i := 35) rfl))) rfl
theorem tb_277 : (Jvm.Cond.laysFinal "LightChecks$Head" "LightChecks$Head" "fingerprint" "J") ∈ wg_T := wg_inT (List.mem_append_right _ (List.mem_append_left _ (List.mem_of_getElem? (i := 37) rfl))) rfl
theorem tb_279 : (Jvm.Cond.lays "LightChecks$Head" "LightChecks$Head" "signers" "I") ∈ wg_T := wg_inT (List.mem_append_right _ (List.mem_append_left _ (List.mem_of_getElem? (i := 39) rfl))) rfl
theorem tb_284 : (Jvm.Cond.instanceMethod ({ cls := "LightChecks$HeadRow", name := "add", desc := "(LLightChecks$Head;)V" } : Jvm.MethodName)) ∈ wg_T := wg_inT (List.mem_append_right _ (List.mem_append_left _ (List.mem_of_getElem? (i := 44) rfl))) rfl
theorem tb_285 : (Jvm.Cond.code ({ cls := "LightChecks$HeadRow", name := "add", desc := "(LLightChecks$Head;)V" } : Jvm.MethodName) prog_5_method_4_code (2 : Nat) (Option.none : Option Jvm.ClassFile.FieldType)) ∈ wg_T := wg_inT (List.mem_append_right _ (List.mem_append_left _ (List.mem_of_getElem? (i := 45) rfl))) rfl
theorem tb_286 : (Jvm.Cond.methodLink "LightChecks$HeadRow" (25 : Nat) ({ cls := "LightChecks$HeadRow", name := "isFull", desc := "()Z" } : Jvm.MethodName)) ∈ wg_T := wg_inT (List.mem_append_right _ (List.mem_append_left _ (List.mem_of_getElem? (i := 46) rfl))) rfl
theorem tb_287 : (Jvm.Cond.methodLink "LightChecksLaw" (25 : Nat) ({ cls := "LightChecks", name := "sign", desc := "(II)I" } : Jvm.MethodName)) ∈ wg_T := wg_inT (List.mem_append_right _ (List.mem_append_left _ (List.mem_of_getElem? (i := 47) rfl))) rfl
theorem tb_288 : (Jvm.Cond.instanceMethod ({ cls := "LightChecks", name := "sign", desc := "(II)I" } : Jvm.MethodName)) ∈ wg_T := wg_inT (List.mem_append_right _ (List.mem_append_left _ (List.mem_of_getElem? (i := 48) rfl))) rfl
theorem tb_289 : (Jvm.Cond.selects "LightChecks" ({ cls := "LightChecks", name := "sign", desc := "(II)I" } : Jvm.MethodName) ({ cls := "LightChecks", name := "sign", desc := "(II)I" } : Jvm.MethodName)) ∈ wg_T := wg_inT (List.mem_append_right _ (List.mem_append_left _ (List.mem_of_getElem? (i := 49) rfl))) rfl
theorem tb_290 : (Jvm.Cond.code ({ cls := "LightChecks", name := "sign", desc := "(II)I" } : Jvm.MethodName) prog_1_method_4_code (5 : Nat) (Option.some Jvm.ClassFile.FieldType.int)) ∈ wg_T := wg_inT (List.mem_append_right _ (List.mem_append_left _ (List.mem_of_getElem? (i := 50) rfl))) rfl
theorem tb_293 : (Jvm.Cond.instanceMethod ({ cls := "LightChecks$HeadRow", name := "at", desc := "(I)LLightChecks$Head;" } : Jvm.MethodName)) ∈ wg_T := wg_inT (List.mem_append_right _ (List.mem_append_left _ (List.mem_of_getElem? (i := 53) rfl))) rfl
theorem tb_294 : (Jvm.Cond.code ({ cls := "LightChecks$HeadRow", name := "at", desc := "(I)LLightChecks$Head;" } : Jvm.MethodName) prog_5_method_2_code (2 : Nat) (Option.some (Jvm.ClassFile.FieldType.object "LightChecks$Head"))) ∈ wg_T := wg_inT (List.mem_append_right _ (List.mem_append_left _ (List.mem_of_getElem? (i := 54) rfl))) rfl
theorem tb_295 : (Jvm.Cond.methodLink "LightChecksLaw" (30 : Nat) ({ cls := "LightChecks", name := "term", desc := "(II)I" } : Jvm.MethodName)) ∈ wg_T := wg_inT (List.mem_append_right _ (List.mem_append_left _ (List.mem_of_getElem? (i := 55) rfl))) rfl
theorem tb_296 : (Jvm.Cond.instanceMethod ({ cls := "LightChecks", name := "term", desc := "(II)I" } : Jvm.MethodName)) ∈ wg_T := wg_inT (List.mem_append_right _ (List.mem_append_left _ (List.mem_of_getElem? (i := 56) rfl))) rfl
theorem tb_297 : (Jvm.Cond.selects "LightChecks" ({ cls := "LightChecks", name := "term", desc := "(II)I" } : Jvm.MethodName) ({ cls := "LightChecks", name := "term", desc := "(II)I" } : Jvm.MethodName)) ∈ wg_T := wg_inT (List.mem_append_right _ (List.mem_append_left _ (List.mem_of_getElem? (i := 57) rfl))) rfl
theorem tb_298 : (Jvm.Cond.code ({ cls := "LightChecks", name := "term", desc := "(II)I" } : Jvm.MethodName) prog_1_method_5_code (4 : Nat) (Option.some Jvm.ClassFile.FieldType.int)) ∈ wg_T := wg_inT (List.mem_append_right _ (List.mem_append_left _ (List.mem_of_getElem? (i := 58) rfl))) rfl
theorem tb_299 : (Jvm.Cond.fieldLink "LightChecks" (105 : Nat) "LightChecks" "LEAST_TERM" "[I") ∈ wg_T := wg_inT (List.mem_append_right _ (List.mem_append_left _ (List.mem_of_getElem? (i := 59) rfl))) rfl
theorem tb_301 : (Jvm.Cond.fieldLink "LightChecks" (108 : Nat) "LightChecks" "GREATEST_TERM" "[I") ∈ wg_T := wg_inT (List.mem_append_right _ (List.mem_append_left _ (List.mem_of_getElem? (i := 61) rfl))) rfl
theorem tb_303 : (Jvm.Cond.methodLink "LightChecksLaw" (34 : Nat) ({ cls := "LightChecks", name := "digest", desc := "(I)J" } : Jvm.MethodName)) ∈ wg_T := wg_inT (List.mem_append_right _ (List.mem_append_left _ (List.mem_of_getElem? (i := 63) rfl))) rfl
theorem tb_304 : (Jvm.Cond.instanceMethod ({ cls := "LightChecks", name := "digest", desc := "(I)J" } : Jvm.MethodName)) ∈ wg_T := wg_inT (List.mem_append_right _ (List.mem_append_left _ (List.mem_of_getElem? (i := 64) rfl))) rfl
theorem tb_305 : (Jvm.Cond.selects "LightChecks" ({ cls := "LightChecks", name := "digest", desc := "(I)J" } : Jvm.MethodName) ({ cls := "LightChecks", name := "digest", desc := "(I)J" } : Jvm.MethodName)) ∈ wg_T := wg_inT (List.mem_append_right _ (List.mem_append_left _ (List.mem_of_getElem? (i := 65) rfl))) rfl
theorem tb_306 : (Jvm.Cond.code ({ cls := "LightChecks", name := "digest", desc := "(I)J" } : Jvm.MethodName) prog_1_method_6_code (3 : Nat) (Option.some Jvm.ClassFile.FieldType.long)) ∈ wg_T := wg_inT (List.mem_append_right _ (List.mem_append_left _ (List.mem_of_getElem? (i := 66) rfl))) rfl
theorem tb_307 : (Jvm.Cond.methodLink "LightChecksLaw" (39 : Nat) ({ cls := "LightChecks", name := "certified", desc := "(I)I" } : Jvm.MethodName)) ∈ wg_T := wg_inT (List.mem_append_right _ (List.mem_append_left _ (List.mem_of_getElem? (i := 67) rfl))) rfl
theorem tb_308 : (Jvm.Cond.instanceMethod ({ cls := "LightChecks", name := "certified", desc := "(I)I" } : Jvm.MethodName)) ∈ wg_T := wg_inT (List.mem_append_right _ (List.mem_append_left _ (List.mem_of_getElem? (i := 68) rfl))) rfl
theorem tb_309 : (Jvm.Cond.selects "LightChecks" ({ cls := "LightChecks", name := "certified", desc := "(I)I" } : Jvm.MethodName) ({ cls := "LightChecks", name := "certified", desc := "(I)I" } : Jvm.MethodName)) ∈ wg_T := wg_inT (List.mem_append_right _ (List.mem_append_left _ (List.mem_of_getElem? (i := 69) rfl))) rfl
theorem tb_310 : (Jvm.Cond.code ({ cls := "LightChecks", name := "certified", desc := "(I)I" } : Jvm.MethodName) prog_1_method_7_code (3 : Nat) (Option.some Jvm.ClassFile.FieldType.int)) ∈ wg_T := wg_inT (List.mem_append_right _ (List.mem_append_left _ (List.mem_of_getElem? (i := 70) rfl))) rfl
theorem tb_311 : (Jvm.Cond.methodLink "LightChecks" (115 : Nat) ({ cls := "LightChecks", name := "isCertified", desc := "(LLightChecks$Head;)Z" } : Jvm.MethodName)) ∈ wg_T := wg_inT (List.mem_append_right _ (List.mem_append_left _ (List.mem_of_getElem? (i := 71) rfl))) rfl
theorem tb_312 : (Jvm.Cond.static ({ cls := "LightChecks", name := "isCertified", desc := "(LLightChecks$Head;)Z" } : Jvm.MethodName)) ∈ wg_T := wg_inT (List.mem_append_right _ (List.mem_append_left _ (List.mem_of_getElem? (i := 72) rfl))) rfl
theorem tb_313 : (Jvm.Cond.code ({ cls := "LightChecks", name := "isCertified", desc := "(LLightChecks$Head;)Z" } : Jvm.MethodName) prog_1_method_37_code (1 : Nat) (Option.some Jvm.ClassFile.FieldType.boolean)) ∈ wg_T := wg_inT (List.mem_append_right _ (List.mem_append_left _ (List.mem_of_getElem? (i := 73) rfl))) rfl
theorem tb_316 : (Jvm.Cond.instanceMethod ({ cls := "LightChecks$WeightSet", name := "weightOf", desc := "(I)I" } : Jvm.MethodName)) ∈ wg_T := wg_inT (List.mem_append_right _ (List.mem_append_left _ (List.mem_of_getElem? (i := 76) rfl))) rfl
theorem tb_317 : (Jvm.Cond.code ({ cls := "LightChecks$WeightSet", name := "weightOf", desc := "(I)I" } : Jvm.MethodName) prog_8_method_2_code (4 : Nat) (Option.some Jvm.ClassFile.FieldType.int)) ∈ wg_T := wg_inT (List.mem_append_right _ (List.mem_append_left _ (List.mem_of_getElem? (i := 77) rfl))) rfl
theorem tb_318 : (Jvm.Cond.methodLink "LightChecksLaw" (44 : Nat) ({ cls := "LightChecks", name := "overlaps", desc := "(II)I" } : Jvm.MethodName)) ∈ wg_T := wg_inT (List.mem_append_right _ (List.mem_append_left _ (List.mem_of_getElem? (i := 78) rfl))) rfl
theorem tb_319 : (Jvm.Cond.instanceMethod ({ cls := "LightChecks", name := "overlaps", desc := "(II)I" } : Jvm.MethodName)) ∈ wg_T := wg_inT (List.mem_append_right _ (List.mem_append_left _ (List.mem_of_getElem? (i := 79) rfl))) rfl
theorem tb_320 : (Jvm.Cond.selects "LightChecks" ({ cls := "LightChecks", name := "overlaps", desc := "(II)I" } : Jvm.MethodName) ({ cls := "LightChecks", name := "overlaps", desc := "(II)I" } : Jvm.MethodName)) ∈ wg_T := wg_inT (List.mem_append_right _ (List.mem_append_left _ (List.mem_of_getElem? (i := 80) rfl))) rfl
theorem tb_321 : (Jvm.Cond.code ({ cls := "LightChecks", name := "overlaps", desc := "(II)I" } : Jvm.MethodName) prog_1_method_8_code (5 : Nat) (Option.some Jvm.ClassFile.FieldType.int)) ∈ wg_T := wg_inT (List.mem_append_right _ (List.mem_append_left _ (List.mem_of_getElem? (i := 81) rfl))) rfl
theorem tb_322 : (Jvm.Cond.methodLink "LightChecks" (119 : Nat) ({ cls := "LightChecks", name := "doesOverlap", desc := "(LLightChecks$Head;LLightChecks$WeightSet;)Z" } : Jvm.MethodName)) ∈ wg_T := wg_inT (List.mem_append_right _ (List.mem_append_left _ (List.mem_of_getElem? (i := 82) rfl))) rfl
theorem tb_324 : (Jvm.Cond.instanceMethod ({ cls := "LightChecks", name := "doesOverlap", desc := "(LLightChecks$Head;LLightChecks$WeightSet;)Z" } : Jvm.MethodName)) ∈ wg_T := wg_inT (List.mem_append_right _ (List.mem_append_left _ (List.mem_of_getElem? (i := 84) rfl))) rfl
theorem tb_325 : (Jvm.Cond.code ({ cls := "LightChecks", name := "doesOverlap", desc := "(LLightChecks$Head;LLightChecks$WeightSet;)Z" } : Jvm.MethodName) prog_1_method_29_code (3 : Nat) (Option.some Jvm.ClassFile.FieldType.boolean)) ∈ wg_T := wg_inT (List.mem_append_right _ (List.mem_append_left _ (List.mem_of_getElem? (i := 85) rfl))) rfl
theorem tb_326 : (Jvm.Cond.methodLink "LightChecksLaw" (48 : Nat) ({ cls := "LightChecks", name := "start", desc := "(II)I" } : Jvm.MethodName)) ∈ wg_T := wg_inT (List.mem_append_right _ (List.mem_append_left _ (List.mem_of_getElem? (i := 86) rfl))) rfl
theorem tb_327 : (Jvm.Cond.instanceMethod ({ cls := "LightChecks", name := "start", desc := "(II)I" } : Jvm.MethodName)) ∈ wg_T := wg_inT (List.mem_append_right _ (List.mem_append_left _ (List.mem_of_getElem? (i := 87) rfl))) rfl
theorem tb_328 : (Jvm.Cond.selects "LightChecks" ({ cls := "LightChecks", name := "start", desc := "(II)I" } : Jvm.MethodName) ({ cls := "LightChecks", name := "start", desc := "(II)I" } : Jvm.MethodName)) ∈ wg_T := wg_inT (List.mem_append_right _ (List.mem_append_left _ (List.mem_of_getElem? (i := 88) rfl))) rfl
theorem tb_329 : (Jvm.Cond.code ({ cls := "LightChecks", name := "start", desc := "(II)I" } : Jvm.MethodName) prog_1_method_9_code (5 : Nat) (Option.some Jvm.ClassFile.FieldType.int)) ∈ wg_T := wg_inT (List.mem_append_right _ (List.mem_append_left _ (List.mem_of_getElem? (i := 89) rfl))) rfl
theorem tb_330 : (Jvm.Cond.methodLink "LightChecks" (123 : Nat) ({ cls := "LightChecks", name := "clientAt", desc := "(I)LLightChecks$Client;" } : Jvm.MethodName)) ∈ wg_T := wg_inT (List.mem_append_right _ (List.mem_append_left _ (List.mem_of_getElem? (i := 90) rfl))) rfl
theorem tb_332 : (Jvm.Cond.instanceMethod ({ cls := "LightChecks", name := "clientAt", desc := "(I)LLightChecks$Client;" } : Jvm.MethodName)) ∈ wg_T := wg_inT (List.mem_append_right _ (List.mem_append_left _ (List.mem_of_getElem? (i := 92) rfl))) rfl
theorem tb_333 : (Jvm.Cond.code ({ cls := "LightChecks", name := "clientAt", desc := "(I)LLightChecks$Client;" } : Jvm.MethodName) prog_1_method_27_code (2 : Nat) (Option.some (Jvm.ClassFile.FieldType.object "LightChecks$Client"))) ∈ wg_T := wg_inT (List.mem_append_right _ (List.mem_append_left _ (List.mem_of_getElem? (i := 93) rfl))) rfl
theorem tb_336 : (Jvm.Cond.instanceMethod ({ cls := "LightChecks$Client", name := "begin", desc := "(LLightChecks$Head;)V" } : Jvm.MethodName)) ∈ wg_T := wg_inT (List.mem_append_right _ (List.mem_append_left _ (List.mem_of_getElem? (i := 96) rfl))) rfl
theorem tb_337 : (Jvm.Cond.code ({ cls := "LightChecks$Client", name := "begin", desc := "(LLightChecks$Head;)V" } : Jvm.MethodName) prog_2_method_2_code (2 : Nat) (Option.none : Option Jvm.ClassFile.FieldType)) ∈ wg_T := wg_inT (List.mem_append_right _ (List.mem_append_left _ (List.mem_of_getElem? (i := 97) rfl))) rfl
theorem tb_340 : (Jvm.Cond.instanceMethod ({ cls := "LightChecks$HeadRow", name := "cutTo", desc := "(I)V" } : Jvm.MethodName)) ∈ wg_T := wg_inT (List.mem_append_right _ (List.mem_append_left _ (List.mem_of_getElem? (i := 100) rfl))) rfl
theorem tb_341 : (Jvm.Cond.code ({ cls := "LightChecks$HeadRow", name := "cutTo", desc := "(I)V" } : Jvm.MethodName) prog_5_method_6_code (2 : Nat) (Option.none : Option Jvm.ClassFile.FieldType)) ∈ wg_T := wg_inT (List.mem_append_right _ (List.mem_append_left _ (List.mem_of_getElem? (i := 101) rfl))) rfl
theorem tb_342 : (Jvm.Cond.methodLink "LightChecks$HeadRow" (29 : Nat) ({ cls := "java/lang/Math", name := "min", desc := "(II)I" } : Jvm.MethodName)) ∈ wg_T := wg_inT (List.mem_append_right _ (List.mem_append_left _ (List.mem_of_getElem? (i := 102) rfl))) rfl
theorem tb_343 : (Jvm.Cond.static ({ cls := "java/lang/Math", name := "min", desc := "(II)I" } : Jvm.MethodName)) ∈ wg_T := wg_inT (List.mem_append_right _ (List.mem_append_left _ (List.mem_of_getElem? (i := 103) rfl))) rfl
theorem tb_344 : (Jvm.Cond.code ({ cls := "java/lang/Math", name := "min", desc := "(II)I" } : Jvm.MethodName) prog_11_method_69_code (2 : Nat) (Option.some Jvm.ClassFile.FieldType.int)) ∈ wg_T := wg_inT (List.mem_append_right _ (List.mem_append_left _ (List.mem_of_getElem? (i := 104) rfl))) rfl
theorem tb_346 : (Jvm.Cond.methodLink "LightChecksLaw" (52 : Nat) ({ cls := "LightChecks", name := "follow", desc := "(II)I" } : Jvm.MethodName)) ∈ wg_T := wg_inT (List.mem_append_right _ (List.mem_append_left _ (List.mem_of_getElem? (i := 106) rfl))) rfl
theorem tb_347 : (Jvm.Cond.instanceMethod ({ cls := "LightChecks", name := "follow", desc := "(II)I" } : Jvm.MethodName)) ∈ wg_T := wg_inT (List.mem_append_right _ (List.mem_append_left _ (List.mem_of_getElem? (i := 107) rfl))) rfl
theorem tb_348 : (Jvm.Cond.selects "LightChecks" ({ cls := "LightChecks", name := "follow", desc := "(II)I" } : Jvm.MethodName) ({ cls := "LightChecks", name := "follow", desc := "(II)I" } : Jvm.MethodName)) ∈ wg_T := wg_inT (List.mem_append_right _ (List.mem_append_left _ (List.mem_of_getElem? (i := 108) rfl))) rfl
theorem tb_349 : (Jvm.Cond.code ({ cls := "LightChecks", name := "follow", desc := "(II)I" } : Jvm.MethodName) prog_1_method_10_code (7 : Nat) (Option.some Jvm.ClassFile.FieldType.int)) ∈ wg_T := wg_inT (List.mem_append_right _ (List.mem_append_left _ (List.mem_of_getElem? (i := 109) rfl))) rfl
theorem tb_352 : (Jvm.Cond.instanceMethod ({ cls := "LightChecks$Client", name := "trusted", desc := "()LLightChecks$Head;" } : Jvm.MethodName)) ∈ wg_T := wg_inT (List.mem_append_right _ (List.mem_append_left _ (List.mem_of_getElem? (i := 112) rfl))) rfl
theorem tb_353 : (Jvm.Cond.code ({ cls := "LightChecks$Client", name := "trusted", desc := "()LLightChecks$Head;" } : Jvm.MethodName) prog_2_method_3_code (1 : Nat) (Option.some (Jvm.ClassFile.FieldType.object "LightChecks$Head"))) ∈ wg_T := wg_inT (List.mem_append_right _ (List.mem_append_left _ (List.mem_of_getElem? (i := 113) rfl))) rfl
theorem tb_355 : (Jvm.Cond.methodLink "LightChecks" (134 : Nat) ({ cls := "LightChecks", name := "refusal", desc := "(LLightChecks$Head;LLightChecks$Head;)I" } : Jvm.MethodName)) ∈ wg_T := wg_inT (List.mem_append_right _ (List.mem_append_left _ (List.mem_of_getElem? (i := 115) rfl))) rfl
theorem tb_357 : (Jvm.Cond.instanceMethod ({ cls := "LightChecks", name := "refusal", desc := "(LLightChecks$Head;LLightChecks$Head;)I" } : Jvm.MethodName)) ∈ wg_T := wg_inT (List.mem_append_right _ (List.mem_append_left _ (List.mem_of_getElem? (i := 117) rfl))) rfl
theorem tb_358 : (Jvm.Cond.code ({ cls := "LightChecks", name := "refusal", desc := "(LLightChecks$Head;LLightChecks$Head;)I" } : Jvm.MethodName) prog_1_method_30_code (4 : Nat) (Option.some Jvm.ClassFile.FieldType.int)) ∈ wg_T := wg_inT (List.mem_append_right _ (List.mem_append_left _ (List.mem_of_getElem? (i := 118) rfl))) rfl
theorem tb_359 : (Jvm.Cond.methodLink "LightChecks" (239 : Nat) ({ cls := "LightChecks", name := "stepRefusal", desc := "(LLightChecks$Head;LLightChecks$Head;)I" } : Jvm.MethodName)) ∈ wg_T := wg_inT (List.mem_append_right _ (List.mem_append_left _ (List.mem_of_getElem? (i := 119) rfl))) rfl
theorem tb_361 : (Jvm.Cond.instanceMethod ({ cls := "LightChecks", name := "stepRefusal", desc := "(LLightChecks$Head;LLightChecks$Head;)I" } : Jvm.MethodName)) ∈ wg_T := wg_inT (List.mem_append_right _ (List.mem_append_left _ (List.mem_of_getElem? (i := 121) rfl))) rfl
theorem tb_362 : (Jvm.Cond.code ({ cls := "LightChecks", name := "stepRefusal", desc := "(LLightChecks$Head;LLightChecks$Head;)I" } : Jvm.MethodName) prog_1_method_31_code (3 : Nat) (Option.some Jvm.ClassFile.FieldType.int)) ∈ wg_T := wg_inT (List.mem_append_right _ (List.mem_append_left _ (List.mem_of_getElem? (i := 122) rfl))) rfl
theorem tb_363 : (Jvm.Cond.methodLink "LightChecks" (242 : Nat) ({ cls := "LightChecks", name := "skipRefusal", desc := "(LLightChecks$Head;LLightChecks$Head;)I" } : Jvm.MethodName)) ∈ wg_T := wg_inT (List.mem_append_right _ (List.mem_append_left _ (List.mem_of_getElem? (i := 123) rfl))) rfl
theorem tb_365 : (Jvm.Cond.instanceMethod ({ cls := "LightChecks", name := "skipRefusal", desc := "(LLightChecks$Head;LLightChecks$Head;)I" } : Jvm.MethodName)) ∈ wg_T := wg_inT (List.mem_append_right _ (List.mem_append_left _ (List.mem_of_getElem? (i := 125) rfl))) rfl
theorem tb_366 : (Jvm.Cond.code ({ cls := "LightChecks", name := "skipRefusal", desc := "(LLightChecks$Head;LLightChecks$Head;)I" } : Jvm.MethodName) prog_1_method_32_code (3 : Nat) (Option.some Jvm.ClassFile.FieldType.int)) ∈ wg_T := wg_inT (List.mem_append_right _ (List.mem_append_left _ (List.mem_of_getElem? (i := 126) rfl))) rfl
theorem tb_369 : (Jvm.Cond.instanceMethod ({ cls := "LightChecks$Client", name := "refuse", desc := "(II)I" } : Jvm.MethodName)) ∈ wg_T := wg_inT (List.mem_append_right _ (List.mem_append_left _ (List.mem_of_getElem? (i := 129) rfl))) rfl
theorem tb_370 : (Jvm.Cond.code ({ cls := "LightChecks$Client", name := "refuse", desc := "(II)I" } : Jvm.MethodName) prog_2_method_5_code (3 : Nat) (Option.some Jvm.ClassFile.FieldType.int)) ∈ wg_T := wg_inT (List.mem_append_right _ (List.mem_append_left _ (List.mem_of_getElem? (i := 130) rfl))) rfl
theorem tb_373 : (Jvm.Cond.instanceMethod ({ cls := "LightChecks$Client", name := "keep", desc := "(LLightChecks$Head;I)V" } : Jvm.MethodName)) ∈ wg_T := wg_inT (List.mem_append_right _ (List.mem_append_left _ (List.mem_of_getElem? (i := 133) rfl))) rfl
theorem tb_374 : (Jvm.Cond.code ({ cls := "LightChecks$Client", name := "keep", desc := "(LLightChecks$Head;I)V" } : Jvm.MethodName) prog_2_method_4_code (5 : Nat) (Option.none : Option Jvm.ClassFile.FieldType)) ∈ wg_T := wg_inT (List.mem_append_right _ (List.mem_append_left _ (List.mem_of_getElem? (i := 134) rfl))) rfl
theorem tb_377 : (Jvm.Cond.instanceMethod ({ cls := "LightChecks$HeadRow", name := "put", desc := "(ILLightChecks$Head;)V" } : Jvm.MethodName)) ∈ wg_T := wg_inT (List.mem_append_right _ (List.mem_append_left _ (List.mem_of_getElem? (i := 137) rfl))) rfl
theorem tb_378 : (Jvm.Cond.code ({ cls := "LightChecks$HeadRow", name := "put", desc := "(ILLightChecks$Head;)V" } : Jvm.MethodName) prog_5_method_5_code (3 : Nat) (Option.none : Option Jvm.ClassFile.FieldType)) ∈ wg_T := wg_inT (List.mem_append_right _ (List.mem_append_left _ (List.mem_of_getElem? (i := 138) rfl))) rfl
theorem tb_379 : (Jvm.Cond.methodLink "LightChecksLaw" (56 : Nat) ({ cls := "LightChecks", name := "give", desc := "(II)I" } : Jvm.MethodName)) ∈ wg_T := wg_inT (List.mem_append_right _ (List.mem_append_left _ (List.mem_of_getElem? (i := 139) rfl))) rfl
theorem tb_380 : (Jvm.Cond.instanceMethod ({ cls := "LightChecks", name := "give", desc := "(II)I" } : Jvm.MethodName)) ∈ wg_T := wg_inT (List.mem_append_right _ (List.mem_append_left _ (List.mem_of_getElem? (i := 140) rfl))) rfl
theorem tb_381 : (Jvm.Cond.selects "LightChecks" ({ cls := "LightChecks", name := "give", desc := "(II)I" } : Jvm.MethodName) ({ cls := "LightChecks", name := "give", desc := "(II)I" } : Jvm.MethodName)) ∈ wg_T := wg_inT (List.mem_append_right _ (List.mem_append_left _ (List.mem_of_getElem? (i := 141) rfl))) rfl
theorem tb_382 : (Jvm.Cond.code ({ cls := "LightChecks", name := "give", desc := "(II)I" } : Jvm.MethodName) prog_1_method_11_code (6 : Nat) (Option.some Jvm.ClassFile.FieldType.int)) ∈ wg_T := wg_inT (List.mem_append_right _ (List.mem_append_left _ (List.mem_of_getElem? (i := 142) rfl))) rfl
theorem tb_383 : (Jvm.Cond.methodLink "LightChecks" (149 : Nat) ({ cls := "LightChecks", name := "giverAt", desc := "(I)LLightChecks$Giver;" } : Jvm.MethodName)) ∈ wg_T := wg_inT (List.mem_append_right _ (List.mem_append_left _ (List.mem_of_getElem? (i := 143) rfl))) rfl
theorem tb_385 : (Jvm.Cond.instanceMethod ({ cls := "LightChecks", name := "giverAt", desc := "(I)LLightChecks$Giver;" } : Jvm.MethodName)) ∈ wg_T := wg_inT (List.mem_append_right _ (List.mem_append_left _ (List.mem_of_getElem? (i := 145) rfl))) rfl
theorem tb_386 : (Jvm.Cond.code ({ cls := "LightChecks", name := "giverAt", desc := "(I)LLightChecks$Giver;" } : Jvm.MethodName) prog_1_method_28_code (2 : Nat) (Option.some (Jvm.ClassFile.FieldType.object "LightChecks$Giver"))) ∈ wg_T := wg_inT (List.mem_append_right _ (List.mem_append_left _ (List.mem_of_getElem? (i := 146) rfl))) rfl
theorem tb_389 : (Jvm.Cond.instanceMethod ({ cls := "LightChecks$Giver", name := "replace", desc := "(LLightChecks$Head;)LLightChecks$Head;" } : Jvm.MethodName)) ∈ wg_T := wg_inT (List.mem_append_right _ (List.mem_append_left _ (List.mem_of_getElem? (i := 149) rfl))) rfl
theorem tb_390 : (Jvm.Cond.code ({ cls := "LightChecks$Giver", name := "replace", desc := "(LLightChecks$Head;)LLightChecks$Head;" } : Jvm.MethodName) prog_3_method_4_code (4 : Nat) (Option.some (Jvm.ClassFile.FieldType.object "LightChecks$Head"))) ∈ wg_T := wg_inT (List.mem_append_right _ (List.mem_append_left _ (List.mem_of_getElem? (i := 150) rfl))) rfl
theorem tb_391 : (Jvm.Cond.methodLink "LightChecks$Giver" (33 : Nat) ({ cls := "LightChecks$Giver", name := "placeOf", desc := "(I)I" } : Jvm.MethodName)) ∈ wg_T := wg_inT (List.mem_append_right _ (List.mem_append_left _ (List.mem_of_getElem? (i := 151) rfl))) rfl
theorem tb_393 : (Jvm.Cond.instanceMethod ({ cls := "LightChecks$Giver", name := "placeOf", desc := "(I)I" } : Jvm.MethodName)) ∈ wg_T := wg_inT (List.mem_append_right _ (List.mem_append_left _ (List.mem_of_getElem? (i := 153) rfl))) rfl
theorem tb_394 : (Jvm.Cond.code ({ cls := "LightChecks$Giver", name := "placeOf", desc := "(I)I" } : Jvm.MethodName) prog_3_method_2_code (4 : Nat) (Option.some Jvm.ClassFile.FieldType.int)) ∈ wg_T := wg_inT (List.mem_append_right _ (List.mem_append_left _ (List.mem_of_getElem? (i := 154) rfl))) rfl
theorem tb_398 : (Jvm.Cond.methodLink "LightChecksLaw" (60 : Nat) ({ cls := "LightChecks", name := "seek", desc := "(III)I" } : Jvm.MethodName)) ∈ wg_T := wg_inT (List.mem_append_right _ (List.mem_append_left _ (List.mem_of_getElem? (i := 158) rfl))) rfl
theorem tb_399 : (Jvm.Cond.instanceMethod ({ cls := "LightChecks", name := "seek", desc := "(III)I" } : Jvm.MethodName)) ∈ wg_T := wg_inT (List.mem_append_right _ (List.mem_append_left _ (List.mem_of_getElem? (i := 159) rfl))) rfl
theorem tb_400 : (Jvm.Cond.selects "LightChecks" ({ cls := "LightChecks", name := "seek", desc := "(III)I" } : Jvm.MethodName) ({ cls := "LightChecks", name := "seek", desc := "(III)I" } : Jvm.MethodName)) ∈ wg_T := wg_inT (List.mem_append_right _ (List.mem_append_left _ (List.mem_of_getElem? (i := 160) rfl))) rfl
theorem tb_401 : (Jvm.Cond.code ({ cls := "LightChecks", name := "seek", desc := "(III)I" } : Jvm.MethodName) prog_1_method_12_code (6 : Nat) (Option.some Jvm.ClassFile.FieldType.int)) ∈ wg_T := wg_inT (List.mem_append_right _ (List.mem_append_left _ (List.mem_of_getElem? (i := 161) rfl))) rfl
theorem tb_402 : (Jvm.Cond.methodLink "LightChecks" (160 : Nat) ({ cls := "LightChecks", name := "climb", desc := "(LLightChecks$Client;LLightChecks$Giver;I)I" } : Jvm.MethodName)) ∈ wg_T := wg_inT (List.mem_append_right _ (List.mem_append_left _ (List.mem_of_getElem? (i := 162) rfl))) rfl
theorem tb_404 : (Jvm.Cond.instanceMethod ({ cls := "LightChecks", name := "climb", desc := "(LLightChecks$Client;LLightChecks$Giver;I)I" } : Jvm.MethodName)) ∈ wg_T := wg_inT (List.mem_append_right _ (List.mem_append_left _ (List.mem_of_getElem? (i := 164) rfl))) rfl
theorem tb_405 : (Jvm.Cond.code ({ cls := "LightChecks", name := "climb", desc := "(LLightChecks$Client;LLightChecks$Giver;I)I" } : Jvm.MethodName) prog_1_method_33_code (10 : Nat) (Option.some Jvm.ClassFile.FieldType.int)) ∈ wg_T := wg_inT (List.mem_append_right _ (List.mem_append_left _ (List.mem_of_getElem? (i := 165) rfl))) rfl
theorem tb_406 : (Jvm.Cond.constant "LightChecks" (231 : Nat) (1000000 : Int32)) ∈ wg_T := wg_inT (List.mem_append_right _ (List.mem_append_left _ (List.mem_of_getElem? (i := 166) rfl))) rfl
theorem tb_409 : (Jvm.Cond.instanceMethod ({ cls := "LightChecks$Giver", name := "headAt", desc := "(I)LLightChecks$Head;" } : Jvm.MethodName)) ∈ wg_T := wg_inT (List.mem_append_right _ (List.mem_append_left _ (List.mem_of_getElem? (i := 169) rfl))) rfl
theorem tb_410 : (Jvm.Cond.code ({ cls := "LightChecks$Giver", name := "headAt", desc := "(I)LLightChecks$Head;" } : Jvm.MethodName) prog_3_method_3_code (2 : Nat) (Option.some (Jvm.ClassFile.FieldType.object "LightChecks$Head"))) ∈ wg_T := wg_inT (List.mem_append_right _ (List.mem_append_left _ (List.mem_of_getElem? (i := 170) rfl))) rfl
theorem tb_411 : (Jvm.Cond.methodLink "LightChecksLaw" (65 : Nat) ({ cls := "LightChecks", name := "stored", desc := "(II)I" } : Jvm.MethodName)) ∈ wg_T := wg_inT (List.mem_append_right _ (List.mem_append_left _ (List.mem_of_getElem? (i := 171) rfl))) rfl
theorem tb_412 : (Jvm.Cond.instanceMethod ({ cls := "LightChecks", name := "stored", desc := "(II)I" } : Jvm.MethodName)) ∈ wg_T := wg_inT (List.mem_append_right _ (List.mem_append_left _ (List.mem_of_getElem? (i := 172) rfl))) rfl
theorem tb_413 : (Jvm.Cond.selects "LightChecks" ({ cls := "LightChecks", name := "stored", desc := "(II)I" } : Jvm.MethodName) ({ cls := "LightChecks", name := "stored", desc := "(II)I" } : Jvm.MethodName)) ∈ wg_T := wg_inT (List.mem_append_right _ (List.mem_append_left _ (List.mem_of_getElem? (i := 173) rfl))) rfl
theorem tb_414 : (Jvm.Cond.code ({ cls := "LightChecks", name := "stored", desc := "(II)I" } : Jvm.MethodName) prog_1_method_13_code (5 : Nat) (Option.some Jvm.ClassFile.FieldType.int)) ∈ wg_T := wg_inT (List.mem_append_right _ (List.mem_append_left _ (List.mem_of_getElem? (i := 174) rfl))) rfl
theorem tb_415 : (Jvm.Cond.methodLink "LightChecksLaw" (69 : Nat) ({ cls := "LightChecks", name := "client", desc := "(II)I" } : Jvm.MethodName)) ∈ wg_T := wg_inT (List.mem_append_right _ (List.mem_append_left _ (List.mem_of_getElem? (i := 175) rfl))) rfl
theorem tb_416 : (Jvm.Cond.instanceMethod ({ cls := "LightChecks", name := "client", desc := "(II)I" } : Jvm.MethodName)) ∈ wg_T := wg_inT (List.mem_append_right _ (List.mem_append_left _ (List.mem_of_getElem? (i := 176) rfl))) rfl
theorem tb_417 : (Jvm.Cond.selects "LightChecks" ({ cls := "LightChecks", name := "client", desc := "(II)I" } : Jvm.MethodName) ({ cls := "LightChecks", name := "client", desc := "(II)I" } : Jvm.MethodName)) ∈ wg_T := wg_inT (List.mem_append_right _ (List.mem_append_left _ (List.mem_of_getElem? (i := 177) rfl))) rfl
theorem tb_418 : (Jvm.Cond.code ({ cls := "LightChecks", name := "client", desc := "(II)I" } : Jvm.MethodName) prog_1_method_14_code (4 : Nat) (Option.some Jvm.ClassFile.FieldType.int)) ∈ wg_T := wg_inT (List.mem_append_right _ (List.mem_append_left _ (List.mem_of_getElem? (i := 178) rfl))) rfl
theorem tb_419 : (Jvm.Cond.methodLink "LightChecksLaw" (73 : Nat) ({ cls := "LightChecks", name := "compare", desc := "(II)I" } : Jvm.MethodName)) ∈ wg_T := wg_inT (List.mem_append_right _ (List.mem_append_left _ (List.mem_of_getElem? (i := 179) rfl))) rfl
theorem tb_420 : (Jvm.Cond.instanceMethod ({ cls := "LightChecks", name := "compare", desc := "(II)I" } : Jvm.MethodName)) ∈ wg_T := wg_inT (List.mem_append_right _ (List.mem_append_left _ (List.mem_of_getElem? (i := 180) rfl))) rfl
theorem tb_421 : (Jvm.Cond.selects "LightChecks" ({ cls := "LightChecks", name := "compare", desc := "(II)I" } : Jvm.MethodName) ({ cls := "LightChecks", name := "compare", desc := "(II)I" } : Jvm.MethodName)) ∈ wg_T := wg_inT (List.mem_append_right _ (List.mem_append_left _ (List.mem_of_getElem? (i := 181) rfl))) rfl
theorem tb_422 : (Jvm.Cond.code ({ cls := "LightChecks", name := "compare", desc := "(II)I" } : Jvm.MethodName) prog_1_method_15_code (5 : Nat) (Option.some Jvm.ClassFile.FieldType.int)) ∈ wg_T := wg_inT (List.mem_append_right _ (List.mem_append_left _ (List.mem_of_getElem? (i := 182) rfl))) rfl
theorem tb_425 : (Jvm.Cond.instanceMethod ({ cls := "LightChecks$Giver", name := "leastUnlike", desc := "(LLightChecks$Giver;)I" } : Jvm.MethodName)) ∈ wg_T := wg_inT (List.mem_append_right _ (List.mem_append_left _ (List.mem_of_getElem? (i := 185) rfl))) rfl
theorem tb_426 : (Jvm.Cond.code ({ cls := "LightChecks$Giver", name := "leastUnlike", desc := "(LLightChecks$Giver;)I" } : Jvm.MethodName) prog_3_method_5_code (5 : Nat) (Option.some Jvm.ClassFile.FieldType.int)) ∈ wg_T := wg_inT (List.mem_append_right _ (List.mem_append_left _ (List.mem_of_getElem? (i := 186) rfl))) rfl
theorem tb_427 : (Jvm.Cond.methodLink "LightChecks$Giver" (45 : Nat) ({ cls := "LightChecks$Giver", name := "isUnlike", desc := "(LLightChecks$Head;LLightChecks$Giver;)Z" } : Jvm.MethodName)) ∈ wg_T := wg_inT (List.mem_append_right _ (List.mem_append_left _ (List.mem_of_getElem? (i := 187) rfl))) rfl
theorem tb_428 : (Jvm.Cond.static ({ cls := "LightChecks$Giver", name := "isUnlike", desc := "(LLightChecks$Head;LLightChecks$Giver;)Z" } : Jvm.MethodName)) ∈ wg_T := wg_inT (List.mem_append_right _ (List.mem_append_left _ (List.mem_of_getElem? (i := 188) rfl))) rfl
theorem tb_429 : (Jvm.Cond.code ({ cls := "LightChecks$Giver", name := "isUnlike", desc := "(LLightChecks$Head;LLightChecks$Giver;)Z" } : Jvm.MethodName) prog_3_method_6_code (3 : Nat) (Option.some Jvm.ClassFile.FieldType.boolean)) ∈ wg_T := wg_inT (List.mem_append_right _ (List.mem_append_left _ (List.mem_of_getElem? (i := 189) rfl))) rfl
theorem tb_430 : (Jvm.Cond.methodLink "LightChecks$Giver" (49 : Nat) ({ cls := "LightChecks$Giver", name := "headAt", desc := "(I)LLightChecks$Head;" } : Jvm.MethodName)) ∈ wg_T := wg_inT (List.mem_append_right _ (List.mem_append_left _ (List.mem_of_getElem? (i := 190) rfl))) rfl
theorem tb_431 : (Jvm.Cond.methodLink "LightChecksLaw" (77 : Nat) ({ cls := "LightChecks", name := "blame", desc := "(III)I" } : Jvm.MethodName)) ∈ wg_T := wg_inT (List.mem_append_right _ (List.mem_append_left _ (List.mem_of_getElem? (i := 191) rfl))) rfl
theorem tb_432 : (Jvm.Cond.instanceMethod ({ cls := "LightChecks", name := "blame", desc := "(III)I" } : Jvm.MethodName)) ∈ wg_T := wg_inT (List.mem_append_right _ (List.mem_append_left _ (List.mem_of_getElem? (i := 192) rfl))) rfl
theorem tb_433 : (Jvm.Cond.selects "LightChecks" ({ cls := "LightChecks", name := "blame", desc := "(III)I" } : Jvm.MethodName) ({ cls := "LightChecks", name := "blame", desc := "(III)I" } : Jvm.MethodName)) ∈ wg_T := wg_inT (List.mem_append_right _ (List.mem_append_left _ (List.mem_of_getElem? (i := 193) rfl))) rfl
theorem tb_434 : (Jvm.Cond.code ({ cls := "LightChecks", name := "blame", desc := "(III)I" } : Jvm.MethodName) prog_1_method_16_code (10 : Nat) (Option.some Jvm.ClassFile.FieldType.int)) ∈ wg_T := wg_inT (List.mem_append_right _ (List.mem_append_left _ (List.mem_of_getElem? (i := 194) rfl))) rfl
theorem tb_437 : (Jvm.Cond.instanceMethod ({ cls := "LightChecks$Client", name := "lastBelow", desc := "(I)LLightChecks$Head;" } : Jvm.MethodName)) ∈ wg_T := wg_inT (List.mem_append_right _ (List.mem_append_left _ (List.mem_of_getElem? (i := 197) rfl))) rfl
theorem tb_438 : (Jvm.Cond.code ({ cls := "LightChecks$Client", name := "lastBelow", desc := "(I)LLightChecks$Head;" } : Jvm.MethodName) prog_2_method_6_code (4 : Nat) (Option.some (Jvm.ClassFile.FieldType.object "LightChecks$Head"))) ∈ wg_T := wg_inT (List.mem_append_right _ (List.mem_append_left _ (List.mem_of_getElem? (i := 198) rfl))) rfl
theorem tb_439 : (Jvm.Cond.methodLink "LightChecksLaw" (81 : Nat) ({ cls := "LightChecks", name := "leaf", desc := "(IJ)J" } : Jvm.MethodName)) ∈ wg_T := wg_inT (List.mem_append_right _ (List.mem_append_left _ (List.mem_of_getElem? (i := 199) rfl))) rfl
theorem tb_440 : (Jvm.Cond.instanceMethod ({ cls := "LightChecks", name := "leaf", desc := "(IJ)J" } : Jvm.MethodName)) ∈ wg_T := wg_inT (List.mem_append_right _ (List.mem_append_left _ (List.mem_of_getElem? (i := 200) rfl))) rfl
theorem tb_441 : (Jvm.Cond.selects "LightChecks" ({ cls := "LightChecks", name := "leaf", desc := "(IJ)J" } : Jvm.MethodName) ({ cls := "LightChecks", name := "leaf", desc := "(IJ)J" } : Jvm.MethodName)) ∈ wg_T := wg_inT (List.mem_append_right _ (List.mem_append_left _ (List.mem_of_getElem? (i := 201) rfl))) rfl
theorem tb_442 : (Jvm.Cond.code ({ cls := "LightChecks", name := "leaf", desc := "(IJ)J" } : Jvm.MethodName) prog_1_method_17_code (4 : Nat) (Option.some Jvm.ClassFile.FieldType.long)) ∈ wg_T := wg_inT (List.mem_append_right _ (List.mem_append_left _ (List.mem_of_getElem? (i := 202) rfl))) rfl
theorem tb_445 : (Jvm.Cond.instanceMethod ({ cls := "LightChecks$Tree", name := "change", desc := "(IJ)J" } : Jvm.MethodName)) ∈ wg_T := wg_inT (List.mem_append_right _ (List.mem_append_left _ (List.mem_of_getElem? (i := 205) rfl))) rfl
theorem tb_446 : (Jvm.Cond.code ({ cls := "LightChecks$Tree", name := "change", desc := "(IJ)J" } : Jvm.MethodName) prog_7_method_5_code (6 : Nat) (Option.some Jvm.ClassFile.FieldType.long)) ∈ wg_T := wg_inT (List.mem_append_right _ (List.mem_append_left _ (List.mem_of_getElem? (i := 206) rfl))) rfl
theorem tb_447 : (Jvm.Cond.methodLink "LightChecksLaw" (86 : Nat) ({ cls := "LightChecks", name := "tree", desc := "(I)J" } : Jvm.MethodName)) ∈ wg_T := wg_inT (List.mem_append_right _ (List.mem_append_left _ (List.mem_of_getElem? (i := 207) rfl))) rfl
theorem tb_448 : (Jvm.Cond.instanceMethod ({ cls := "LightChecks", name := "tree", desc := "(I)J" } : Jvm.MethodName)) ∈ wg_T := wg_inT (List.mem_append_right _ (List.mem_append_left _ (List.mem_of_getElem? (i := 208) rfl))) rfl
theorem tb_449 : (Jvm.Cond.selects "LightChecks" ({ cls := "LightChecks", name := "tree", desc := "(I)J" } : Jvm.MethodName) ({ cls := "LightChecks", name := "tree", desc := "(I)J" } : Jvm.MethodName)) ∈ wg_T := wg_inT (List.mem_append_right _ (List.mem_append_left _ (List.mem_of_getElem? (i := 209) rfl))) rfl
theorem tb_450 : (Jvm.Cond.code ({ cls := "LightChecks", name := "tree", desc := "(I)J" } : Jvm.MethodName) prog_1_method_18_code (2 : Nat) (Option.some Jvm.ClassFile.FieldType.long)) ∈ wg_T := wg_inT (List.mem_append_right _ (List.mem_append_left _ (List.mem_of_getElem? (i := 210) rfl))) rfl
theorem tb_452 : (Jvm.Cond.methodLink "LightChecksLaw" (90 : Nat) ({ cls := "LightChecks", name := "prove", desc := "(II)I" } : Jvm.MethodName)) ∈ wg_T := wg_inT (List.mem_append_right _ (List.mem_append_left _ (List.mem_of_getElem? (i := 212) rfl))) rfl
theorem tb_453 : (Jvm.Cond.instanceMethod ({ cls := "LightChecks", name := "prove", desc := "(II)I" } : Jvm.MethodName)) ∈ wg_T := wg_inT (List.mem_append_right _ (List.mem_append_left _ (List.mem_of_getElem? (i := 213) rfl))) rfl
theorem tb_454 : (Jvm.Cond.selects "LightChecks" ({ cls := "LightChecks", name := "prove", desc := "(II)I" } : Jvm.MethodName) ({ cls := "LightChecks", name := "prove", desc := "(II)I" } : Jvm.MethodName)) ∈ wg_T := wg_inT (List.mem_append_right _ (List.mem_append_left _ (List.mem_of_getElem? (i := 214) rfl))) rfl
theorem tb_455 : (Jvm.Cond.code ({ cls := "LightChecks", name := "prove", desc := "(II)I" } : Jvm.MethodName) prog_1_method_19_code (3 : Nat) (Option.some Jvm.ClassFile.FieldType.int)) ∈ wg_T := wg_inT (List.mem_append_right _ (List.mem_append_left _ (List.mem_of_getElem? (i := 215) rfl))) rfl
theorem tb_456 : (Jvm.Cond.methodLink "LightChecks" (194 : Nat) ({ cls := "LightChecks", name := "isLeaf", desc := "(I)Z" } : Jvm.MethodName)) ∈ wg_T := wg_inT (List.mem_append_right _ (List.mem_append_left _ (List.mem_of_getElem? (i := 216) rfl))) rfl
theorem tb_457 : (Jvm.Cond.methodLink "LightChecksLaw" (94 : Nat) ({ cls := "LightChecks", name := "proof", desc := "(I)J" } : Jvm.MethodName)) ∈ wg_T := wg_inT (List.mem_append_right _ (List.mem_append_left _ (List.mem_of_getElem? (i := 217) rfl))) rfl
theorem tb_458 : (Jvm.Cond.instanceMethod ({ cls := "LightChecks", name := "proof", desc := "(I)J" } : Jvm.MethodName)) ∈ wg_T := wg_inT (List.mem_append_right _ (List.mem_append_left _ (List.mem_of_getElem? (i := 218) rfl))) rfl
theorem tb_459 : (Jvm.Cond.selects "LightChecks" ({ cls := "LightChecks", name := "proof", desc := "(I)J" } : Jvm.MethodName) ({ cls := "LightChecks", name := "proof", desc := "(I)J" } : Jvm.MethodName)) ∈ wg_T := wg_inT (List.mem_append_right _ (List.mem_append_left _ (List.mem_of_getElem? (i := 219) rfl))) rfl
theorem tb_460 : (Jvm.Cond.code ({ cls := "LightChecks", name := "proof", desc := "(I)J" } : Jvm.MethodName) prog_1_method_20_code (2 : Nat) (Option.some Jvm.ClassFile.FieldType.long)) ∈ wg_T := wg_inT (List.mem_append_right _ (List.mem_append_left _ (List.mem_of_getElem? (i := 220) rfl))) rfl
theorem tb_463 : (Jvm.Cond.instanceMethod ({ cls := "LightChecks$Proof", name := "numberAt", desc := "(I)J" } : Jvm.MethodName)) ∈ wg_T := wg_inT (List.mem_append_right _ (List.mem_append_left _ (List.mem_of_getElem? (i := 223) rfl))) rfl
theorem tb_464 : (Jvm.Cond.code ({ cls := "LightChecks$Proof", name := "numberAt", desc := "(I)J" } : Jvm.MethodName) prog_6_method_6_code (2 : Nat) (Option.some Jvm.ClassFile.FieldType.long)) ∈ wg_T := wg_inT (List.mem_append_right _ (List.mem_append_left _ (List.mem_of_getElem? (i := 224) rfl))) rfl
theorem tb_465 : (Jvm.Cond.methodLink "LightChecks$Proof" (51 : Nat) ({ cls := "LightChecks$Proof", name := "hasNode", desc := "(I)Z" } : Jvm.MethodName)) ∈ wg_T := wg_inT (List.mem_append_right _ (List.mem_append_left _ (List.mem_of_getElem? (i := 225) rfl))) rfl
theorem tb_467 : (Jvm.Cond.instanceMethod ({ cls := "LightChecks$Proof", name := "hasNode", desc := "(I)Z" } : Jvm.MethodName)) ∈ wg_T := wg_inT (List.mem_append_right _ (List.mem_append_left _ (List.mem_of_getElem? (i := 227) rfl))) rfl
theorem tb_468 : (Jvm.Cond.code ({ cls := "LightChecks$Proof", name := "hasNode", desc := "(I)Z" } : Jvm.MethodName) prog_6_method_5_code (2 : Nat) (Option.some Jvm.ClassFile.FieldType.boolean)) ∈ wg_T := wg_inT (List.mem_append_right _ (List.mem_append_left _ (List.mem_of_getElem? (i := 228) rfl))) rfl
theorem tb_469 : (Jvm.Cond.methodLink "LightChecksLaw" (98 : Nat) ({ cls := "LightChecks", name := "alter", desc := "(IJ)I" } : Jvm.MethodName)) ∈ wg_T := wg_inT (List.mem_append_right _ (List.mem_append_left _ (List.mem_of_getElem? (i := 229) rfl))) rfl
theorem tb_470 : (Jvm.Cond.instanceMethod ({ cls := "LightChecks", name := "alter", desc := "(IJ)I" } : Jvm.MethodName)) ∈ wg_T := wg_inT (List.mem_append_right _ (List.mem_append_left _ (List.mem_of_getElem? (i := 230) rfl))) rfl
theorem tb_471 : (Jvm.Cond.selects "LightChecks" ({ cls := "LightChecks", name := "alter", desc := "(IJ)I" } : Jvm.MethodName) ({ cls := "LightChecks", name := "alter", desc := "(IJ)I" } : Jvm.MethodName)) ∈ wg_T := wg_inT (List.mem_append_right _ (List.mem_append_left _ (List.mem_of_getElem? (i := 231) rfl))) rfl
theorem tb_472 : (Jvm.Cond.code ({ cls := "LightChecks", name := "alter", desc := "(IJ)I" } : Jvm.MethodName) prog_1_method_21_code (4 : Nat) (Option.some Jvm.ClassFile.FieldType.int)) ∈ wg_T := wg_inT (List.mem_append_right _ (List.mem_append_left _ (List.mem_of_getElem? (i := 232) rfl))) rfl
theorem tb_475 : (Jvm.Cond.instanceMethod ({ cls := "LightChecks$Proof", name := "replace", desc := "(IJ)Z" } : Jvm.MethodName)) ∈ wg_T := wg_inT (List.mem_append_right _ (List.mem_append_left _ (List.mem_of_getElem? (i := 235) rfl))) rfl
theorem tb_476 : (Jvm.Cond.code ({ cls := "LightChecks$Proof", name := "replace", desc := "(IJ)Z" } : Jvm.MethodName) prog_6_method_7_code (4 : Nat) (Option.some Jvm.ClassFile.FieldType.boolean)) ∈ wg_T := wg_inT (List.mem_append_right _ (List.mem_append_left _ (List.mem_of_getElem? (i := 236) rfl))) rfl
theorem tb_477 : (Jvm.Cond.methodLink "LightChecksLaw" (103 : Nat) ({ cls := "LightChecks", name := "fraud", desc := "(IIJ)I" } : Jvm.MethodName)) ∈ wg_T := wg_inT (List.mem_append_right _ (List.mem_append_left _ (List.mem_of_getElem? (i := 237) rfl))) rfl
theorem tb_478 : (Jvm.Cond.instanceMethod ({ cls := "LightChecks", name := "fraud", desc := "(IIJ)I" } : Jvm.MethodName)) ∈ wg_T := wg_inT (List.mem_append_right _ (List.mem_append_left _ (List.mem_of_getElem? (i := 238) rfl))) rfl
theorem tb_479 : (Jvm.Cond.selects "LightChecks" ({ cls := "LightChecks", name := "fraud", desc := "(IIJ)I" } : Jvm.MethodName) ({ cls := "LightChecks", name := "fraud", desc := "(IIJ)I" } : Jvm.MethodName)) ∈ wg_T := wg_inT (List.mem_append_right _ (List.mem_append_left _ (List.mem_of_getElem? (i := 239) rfl))) rfl
theorem tb_480 : (Jvm.Cond.code ({ cls := "LightChecks", name := "fraud", desc := "(IIJ)I" } : Jvm.MethodName) prog_1_method_22_code (7 : Nat) (Option.some Jvm.ClassFile.FieldType.int)) ∈ wg_T := wg_inT (List.mem_append_right _ (List.mem_append_right _ (List.mem_append_left _ (List.mem_of_getElem? (i := 0) rfl)))) rfl
theorem tb_483 : (Jvm.Cond.instanceMethod ({ cls := "LightChecks$Proof", name := "topBefore", desc := "()J" } : Jvm.MethodName)) ∈ wg_T := wg_inT (List.mem_append_right _ (List.mem_append_right _ (List.mem_append_left _ (List.mem_of_getElem? (i := 3) rfl)))) rfl
theorem tb_484 : (Jvm.Cond.code ({ cls := "LightChecks$Proof", name := "topBefore", desc := "()J" } : Jvm.MethodName) prog_6_method_8_code (1 : Nat) (Option.some Jvm.ClassFile.FieldType.long)) ∈ wg_T := wg_inT (List.mem_append_right _ (List.mem_append_right _ (List.mem_append_left _ (List.mem_of_getElem? (i := 4) rfl)))) rfl
theorem tb_485 : (Jvm.Cond.methodLink "LightChecks$Proof" (54 : Nat) ({ cls := "LightChecks$Proof", name := "topWith", desc := "(JJ)J" } : Jvm.MethodName)) ∈ wg_T := wg_inT (List.mem_append_right _ (List.mem_append_right _ (List.mem_append_left _ (List.mem_of_getElem? (i := 5) rfl)))) rfl
theorem tb_487 : (Jvm.Cond.instanceMethod ({ cls := "LightChecks$Proof", name := "topWith", desc := "(JJ)J" } : Jvm.MethodName)) ∈ wg_T := wg_inT (List.mem_append_right _ (List.mem_append_right _ (List.mem_append_left _ (List.mem_of_getElem? (i := 7) rfl)))) rfl
theorem tb_488 : (Jvm.Cond.code ({ cls := "LightChecks$Proof", name := "topWith", desc := "(JJ)J" } : Jvm.MethodName) prog_6_method_10_code (7 : Nat) (Option.some Jvm.ClassFile.FieldType.long)) ∈ wg_T := wg_inT (List.mem_append_right _ (List.mem_append_right _ (List.mem_append_left _ (List.mem_of_getElem? (i := 8) rfl)))) rfl
theorem tb_493 : (Jvm.Cond.instanceMethod ({ cls := "LightChecks$Proof", name := "topBehind", desc := "(J)J" } : Jvm.MethodName)) ∈ wg_T := wg_inT (List.mem_append_right _ (List.mem_append_right _ (List.mem_append_left _ (List.mem_of_getElem? (i := 13) rfl)))) rfl
theorem tb_494 : (Jvm.Cond.code ({ cls := "LightChecks$Proof", name := "topBehind", desc := "(J)J" } : Jvm.MethodName) prog_6_method_9_code (3 : Nat) (Option.some Jvm.ClassFile.FieldType.long)) ∈ wg_T := wg_inT (List.mem_append_right _ (List.mem_append_right _ (List.mem_append_left _ (List.mem_of_getElem? (i := 14) rfl)))) rfl
theorem tb_495 : (Jvm.Cond.methodLink "LightChecks$Proof" (58 : Nat) ({ cls := "LightChecks$Proof", name := "topBefore", desc := "()J" } : Jvm.MethodName)) ∈ wg_T := wg_inT (List.mem_append_right _ (List.mem_append_right _ (List.mem_append_left _ (List.mem_of_getElem? (i := 15) rfl)))) rfl
theorem tb_496 : (Jvm.Cond.methodLink "LightChecksLaw" (108 : Nat) ({ cls := "LightChecks", name := "chance", desc := "(IIII)J" } : Jvm.MethodName)) ∈ wg_T := wg_inT (List.mem_append_right _ (List.mem_append_right _ (List.mem_append_left _ (List.mem_of_getElem? (i := 16) rfl)))) rfl
theorem tb_497 : (Jvm.Cond.instanceMethod ({ cls := "LightChecks", name := "chance", desc := "(IIII)J" } : Jvm.MethodName)) ∈ wg_T := wg_inT (List.mem_append_right _ (List.mem_append_right _ (List.mem_append_left _ (List.mem_of_getElem? (i := 17) rfl)))) rfl
theorem tb_498 : (Jvm.Cond.selects "LightChecks" ({ cls := "LightChecks", name := "chance", desc := "(IIII)J" } : Jvm.MethodName) ({ cls := "LightChecks", name := "chance", desc := "(IIII)J" } : Jvm.MethodName)) ∈ wg_T := wg_inT (List.mem_append_right _ (List.mem_append_right _ (List.mem_append_left _ (List.mem_of_getElem? (i := 18) rfl)))) rfl
theorem tb_499 : (Jvm.Cond.code ({ cls := "LightChecks", name := "chance", desc := "(IIII)J" } : Jvm.MethodName) prog_1_method_23_code (9 : Nat) (Option.some Jvm.ClassFile.FieldType.long)) ∈ wg_T := wg_inT (List.mem_append_right _ (List.mem_append_right _ (List.mem_append_left _ (List.mem_of_getElem? (i := 19) rfl)))) rfl
theorem tb_500 : (Jvm.Cond.methodLink "LightChecks" (217 : Nat) ({ cls := "LightChecks", name := "arePieces", desc := "(II)Z" } : Jvm.MethodName)) ∈ wg_T := wg_inT (List.mem_append_right _ (List.mem_append_right _ (List.mem_append_left _ (List.mem_of_getElem? (i := 20) rfl)))) rfl
theorem tb_501 : (Jvm.Cond.static ({ cls := "LightChecks", name := "arePieces", desc := "(II)Z" } : Jvm.MethodName)) ∈ wg_T := wg_inT (List.mem_append_right _ (List.mem_append_right _ (List.mem_append_left _ (List.mem_of_getElem? (i := 21) rfl)))) rfl
theorem tb_502 : (Jvm.Cond.code ({ cls := "LightChecks", name := "arePieces", desc := "(II)Z" } : Jvm.MethodName) prog_1_method_36_code (2 : Nat) (Option.some Jvm.ClassFile.FieldType.boolean)) ∈ wg_T := wg_inT (List.mem_append_right _ (List.mem_append_right _ (List.mem_append_left _ (List.mem_of_getElem? (i := 22) rfl)))) rfl
theorem tb_503 : (Jvm.Cond.constantLong "LightChecks" (221 : Nat) (-1 : Int64)) ∈ wg_T := wg_inT (List.mem_append_right _ (List.mem_append_right _ (List.mem_append_left _ (List.mem_of_getElem? (i := 23) rfl)))) rfl
theorem tb_504 : (Jvm.Cond.methodLink "LightChecks" (223 : Nat) ({ cls := "LightChecks", name := "choose", desc := "(II)J" } : Jvm.MethodName)) ∈ wg_T := wg_inT (List.mem_append_right _ (List.mem_append_right _ (List.mem_append_left _ (List.mem_of_getElem? (i := 24) rfl)))) rfl
theorem tb_505 : (Jvm.Cond.static ({ cls := "LightChecks", name := "choose", desc := "(II)J" } : Jvm.MethodName)) ∈ wg_T := wg_inT (List.mem_append_right _ (List.mem_append_right _ (List.mem_append_left _ (List.mem_of_getElem? (i := 25) rfl)))) rfl
theorem tb_506 : (Jvm.Cond.code ({ cls := "LightChecks", name := "choose", desc := "(II)J" } : Jvm.MethodName) prog_1_method_42_code (5 : Nat) (Option.some Jvm.ClassFile.FieldType.long)) ∈ wg_T := wg_inT (List.mem_append_right _ (List.mem_append_right _ (List.mem_append_left _ (List.mem_of_getElem? (i := 26) rfl)))) rfl
theorem tb_507 : (Jvm.Cond.methodLink "LightChecks" (227 : Nat) ({ cls := "LightChecks", name := "commonDivisor", desc := "(JJ)J" } : Jvm.MethodName)) ∈ wg_T := wg_inT (List.mem_append_right _ (List.mem_append_right _ (List.mem_append_left _ (List.mem_of_getElem? (i := 27) rfl)))) rfl
theorem tb_508 : (Jvm.Cond.static ({ cls := "LightChecks", name := "commonDivisor", desc := "(JJ)J" } : Jvm.MethodName)) ∈ wg_T := wg_inT (List.mem_append_right _ (List.mem_append_right _ (List.mem_append_left _ (List.mem_of_getElem? (i := 28) rfl)))) rfl
theorem tb_509 : (Jvm.Cond.code ({ cls := "LightChecks", name := "commonDivisor", desc := "(JJ)J" } : Jvm.MethodName) prog_1_method_43_code (7 : Nat) (Option.some Jvm.ClassFile.FieldType.long)) ∈ wg_T := wg_inT (List.mem_append_right _ (List.mem_append_right _ (List.mem_append_left _ (List.mem_of_getElem? (i := 29) rfl)))) rfl
theorem tb_510 : (Jvm.Cond.methodLink "LightChecks" (272 : Nat) ({ cls := "java/lang/Math", name := "max", desc := "(JJ)J" } : Jvm.MethodName)) ∈ wg_T := wg_inT (List.mem_append_right _ (List.mem_append_right _ (List.mem_append_left _ (List.mem_of_getElem? (i := 30) rfl)))) rfl
theorem tb_511 : (Jvm.Cond.static ({ cls := "java/lang/Math", name := "max", desc := "(JJ)J" } : Jvm.MethodName)) ∈ wg_T := wg_inT (List.mem_append_right _ (List.mem_append_right _ (List.mem_append_left _ (List.mem_of_getElem? (i := 31) rfl)))) rfl
theorem tb_512 : (Jvm.Cond.code ({ cls := "java/lang/Math", name := "max", desc := "(JJ)J" } : Jvm.MethodName) prog_11_method_66_code (4 : Nat) (Option.some Jvm.ClassFile.FieldType.long)) ∈ wg_T := wg_inT (List.mem_append_right _ (List.mem_append_right _ (List.mem_append_left _ (List.mem_of_getElem? (i := 32) rfl)))) rfl
theorem tb_513 : (Jvm.Cond.methodLink "LightChecksLaw" (113 : Nat) ({ cls := "LightChecks", name := "samples", desc := "(III)I" } : Jvm.MethodName)) ∈ wg_T := wg_inT (List.mem_append_right _ (List.mem_append_right _ (List.mem_append_left _ (List.mem_of_getElem? (i := 33) rfl)))) rfl
theorem tb_514 : (Jvm.Cond.instanceMethod ({ cls := "LightChecks", name := "samples", desc := "(III)I" } : Jvm.MethodName)) ∈ wg_T := wg_inT (List.mem_append_right _ (List.mem_append_right _ (List.mem_append_left _ (List.mem_of_getElem? (i := 34) rfl)))) rfl
theorem tb_515 : (Jvm.Cond.selects "LightChecks" ({ cls := "LightChecks", name := "samples", desc := "(III)I" } : Jvm.MethodName) ({ cls := "LightChecks", name := "samples", desc := "(III)I" } : Jvm.MethodName)) ∈ wg_T := wg_inT (List.mem_append_right _ (List.mem_append_right _ (List.mem_append_left _ (List.mem_of_getElem? (i := 35) rfl)))) rfl
theorem tb_516 : (Jvm.Cond.code ({ cls := "LightChecks", name := "samples", desc := "(III)I" } : Jvm.MethodName) prog_1_method_24_code (5 : Nat) (Option.some Jvm.ClassFile.FieldType.int)) ∈ wg_T := wg_inT (List.mem_append_right _ (List.mem_append_right _ (List.mem_append_left _ (List.mem_of_getElem? (i := 36) rfl)))) rfl
theorem tb_517 : (Jvm.Cond.methodLink "LightChecksLaw" (117 : Nat) ({ cls := "LightChecks", name := "told", desc := "(I)I" } : Jvm.MethodName)) ∈ wg_T := wg_inT (List.mem_append_right _ (List.mem_append_right _ (List.mem_append_left _ (List.mem_of_getElem? (i := 37) rfl)))) rfl
theorem tb_518 : (Jvm.Cond.instanceMethod ({ cls := "LightChecks", name := "told", desc := "(I)I" } : Jvm.MethodName)) ∈ wg_T := wg_inT (List.mem_append_right _ (List.mem_append_right _ (List.mem_append_left _ (List.mem_of_getElem? (i := 38) rfl)))) rfl
theorem tb_519 : (Jvm.Cond.selects "LightChecks" ({ cls := "LightChecks", name := "told", desc := "(I)I" } : Jvm.MethodName) ({ cls := "LightChecks", name := "told", desc := "(I)I" } : Jvm.MethodName)) ∈ wg_T := wg_inT (List.mem_append_right _ (List.mem_append_right _ (List.mem_append_left _ (List.mem_of_getElem? (i := 39) rfl)))) rfl
theorem tb_520 : (Jvm.Cond.code ({ cls := "LightChecks", name := "told", desc := "(I)I" } : Jvm.MethodName) prog_1_method_25_code (2 : Nat) (Option.some Jvm.ClassFile.FieldType.int)) ∈ wg_T := wg_inT (List.mem_append_right _ (List.mem_append_right _ (List.mem_append_left _ (List.mem_of_getElem? (i := 40) rfl)))) rfl
theorem tb_521 : (Jvm.Cond.classLink "LightChecksLaw" (10 : Nat) "LightChecksModel") ∈ wg_T := wg_inT (List.mem_append_right _ (List.mem_append_right _ (List.mem_append_left _ (List.mem_of_getElem? (i := 41) rfl)))) rfl
theorem tb_522 : (Jvm.Cond.instantiable "LightChecksModel" (29 : Nat)) ∈ wg_T := wg_inT (List.mem_append_right _ (List.mem_append_right _ (List.mem_append_left _ (List.mem_of_getElem? (i := 42) rfl)))) rfl
theorem tb_523 : (Jvm.Cond.methodLink "LightChecksLaw" (12 : Nat) ({ cls := "LightChecksModel", name := "<init>", desc := "()V" } : Jvm.MethodName)) ∈ wg_T := wg_inT (List.mem_append_right _ (List.mem_append_right _ (List.mem_append_left _ (List.mem_of_getElem? (i := 43) rfl)))) rfl
theorem tb_524 : (Jvm.Cond.instanceMethod ({ cls := "LightChecksModel", name := "<init>", desc := "()V" } : Jvm.MethodName)) ∈ wg_T := wg_inT (List.mem_append_right _ (List.mem_append_right _ (List.mem_append_left _ (List.mem_of_getElem? (i := 44) rfl)))) rfl
theorem tb_525 : (Jvm.Cond.code ({ cls := "LightChecksModel", name := "<init>", desc := "()V" } : Jvm.MethodName) prog_10_method_1_code (2 : Nat) (Option.none : Option Jvm.ClassFile.FieldType)) ∈ wg_T := wg_inT (List.mem_append_right _ (List.mem_append_right _ (List.mem_append_left _ (List.mem_of_getElem? (i := 45) rfl)))) rfl
theorem tb_526 : (Jvm.Cond.methodLink "LightChecksModel" (1 : Nat) ({ cls := "java/lang/Object", name := "<init>", desc := "()V" } : Jvm.MethodName)) ∈ wg_T := wg_inT (List.mem_append_right _ (List.mem_append_right _ (List.mem_append_left _ (List.mem_of_getElem? (i := 46) rfl)))) rfl
theorem tb_527 : (Jvm.Cond.methodLink "LightChecksModel" (78 : Nat) ({ cls := "LightChecksModel", name := "prove", desc := "(II)I" } : Jvm.MethodName)) ∈ wg_T := wg_inT (List.mem_append_right _ (List.mem_append_right _ (List.mem_append_left _ (List.mem_of_getElem? (i := 47) rfl)))) rfl
theorem tb_528 : (Jvm.Cond.instanceMethod ({ cls := "LightChecksModel", name := "prove", desc := "(II)I" } : Jvm.MethodName)) ∈ wg_T := wg_inT (List.mem_append_right _ (List.mem_append_right _ (List.mem_append_left _ (List.mem_of_getElem? (i := 48) rfl)))) rfl
theorem tb_529 : (Jvm.Cond.selects "LightChecksModel" ({ cls := "LightChecksModel", name := "prove", desc := "(II)I" } : Jvm.MethodName) ({ cls := "LightChecksModel", name := "prove", desc := "(II)I" } : Jvm.MethodName)) ∈ wg_T := wg_inT (List.mem_append_right _ (List.mem_append_right _ (List.mem_append_left _ (List.mem_of_getElem? (i := 49) rfl)))) rfl
theorem tb_530 : (Jvm.Cond.code ({ cls := "LightChecksModel", name := "prove", desc := "(II)I" } : Jvm.MethodName) prog_10_method_37_code (5 : Nat) (Option.some Jvm.ClassFile.FieldType.int)) ∈ wg_T := wg_inT (List.mem_append_right _ (List.mem_append_right _ (List.mem_append_left _ (List.mem_of_getElem? (i := 50) rfl)))) rfl
theorem tb_531 : (Jvm.Cond.constantLong "LightChecksModel" (172 : Nat) (7 : Int64)) ∈ wg_T := wg_inT (List.mem_append_right _ (List.mem_append_right _ (List.mem_append_left _ (List.mem_of_getElem? (i := 51) rfl)))) rfl
theorem tb_532 : (Jvm.Cond.methodLink "LightChecksModel" (96 : Nat) ({ cls := "LightChecksModel", name := "in", desc := "(JJJ)Z" } : Jvm.MethodName)) ∈ wg_T := wg_inT (List.mem_append_right _ (List.mem_append_right _ (List.mem_append_left _ (List.mem_of_getElem? (i := 52) rfl)))) rfl
theorem tb_533 : (Jvm.Cond.static ({ cls := "LightChecksModel", name := "in", desc := "(JJJ)Z" } : Jvm.MethodName)) ∈ wg_T := wg_inT (List.mem_append_right _ (List.mem_append_right _ (List.mem_append_left _ (List.mem_of_getElem? (i := 53) rfl)))) rfl
theorem tb_534 : (Jvm.Cond.code ({ cls := "LightChecksModel", name := "in", desc := "(JJJ)Z" } : Jvm.MethodName) prog_10_method_3_code (6 : Nat) (Option.some Jvm.ClassFile.FieldType.boolean)) ∈ wg_T := wg_inT (List.mem_append_right _ (List.mem_append_right _ (List.mem_append_left _ (List.mem_of_getElem? (i := 54) rfl)))) rfl
theorem tb_535 : (Jvm.Cond.methodLink "LightChecksModel" (174 : Nat) ({ cls := "LightChecksModel", name := "grow", desc := "()V" } : Jvm.MethodName)) ∈ wg_T := wg_inT (List.mem_append_right _ (List.mem_append_right _ (List.mem_append_left _ (List.mem_of_getElem? (i := 55) rfl)))) rfl
theorem tb_537 : (Jvm.Cond.instanceMethod ({ cls := "LightChecksModel", name := "grow", desc := "()V" } : Jvm.MethodName)) ∈ wg_T := wg_inT (List.mem_append_right _ (List.mem_append_right _ (List.mem_append_left _ (List.mem_of_getElem? (i := 57) rfl)))) rfl
theorem tb_538 : (Jvm.Cond.code ({ cls := "LightChecksModel", name := "grow", desc := "()V" } : Jvm.MethodName) prog_10_method_35_code (2 : Nat) (Option.none : Option Jvm.ClassFile.FieldType)) ∈ wg_T := wg_inT (List.mem_append_right _ (List.mem_append_right _ (List.mem_append_left _ (List.mem_of_getElem? (i := 58) rfl)))) rfl
theorem tb_539 : (Jvm.Cond.methodLink "LightChecksModel" (86 : Nat) ({ cls := "LightChecksModel", name := "mix", desc := "(J)J" } : Jvm.MethodName)) ∈ wg_T := wg_inT (List.mem_append_right _ (List.mem_append_right _ (List.mem_append_left _ (List.mem_of_getElem? (i := 59) rfl)))) rfl
theorem tb_540 : (Jvm.Cond.static ({ cls := "LightChecksModel", name := "mix", desc := "(J)J" } : Jvm.MethodName)) ∈ wg_T := wg_inT (List.mem_append_right _ (List.mem_append_right _ (List.mem_append_left _ (List.mem_of_getElem? (i := 60) rfl)))) rfl
theorem tb_541 : (Jvm.Cond.code ({ cls := "LightChecksModel", name := "mix", desc := "(J)J" } : Jvm.MethodName) prog_10_method_4_code (4 : Nat) (Option.some Jvm.ClassFile.FieldType.long)) ∈ wg_T := wg_inT (List.mem_append_right _ (List.mem_append_right _ (List.mem_append_left _ (List.mem_of_getElem? (i := 61) rfl)))) rfl
theorem tb_542 : (Jvm.Cond.constantLong "LightChecksModel" (82 : Nat) (-4658895280553007687 : Int64)) ∈ wg_T := wg_inT (List.mem_append_right _ (List.mem_append_right _ (List.mem_append_left _ (List.mem_of_getElem? (i := 62) rfl)))) rfl
theorem tb_543 : (Jvm.Cond.constantLong "LightChecksModel" (84 : Nat) (-7723592293110705685 : Int64)) ∈ wg_T := wg_inT (List.mem_append_right _ (List.mem_append_right _ (List.mem_append_left _ (List.mem_of_getElem? (i := 63) rfl)))) rfl
theorem tb_544 : (Jvm.Cond.methodLink "LightChecksModel" (128 : Nat) ({ cls := "LightChecksModel", name := "pair", desc := "(JJ)J" } : Jvm.MethodName)) ∈ wg_T := wg_inT (List.mem_append_right _ (List.mem_append_right _ (List.mem_append_left _ (List.mem_of_getElem? (i := 64) rfl)))) rfl
theorem tb_545 : (Jvm.Cond.static ({ cls := "LightChecksModel", name := "pair", desc := "(JJ)J" } : Jvm.MethodName)) ∈ wg_T := wg_inT (List.mem_append_right _ (List.mem_append_right _ (List.mem_append_left _ (List.mem_of_getElem? (i := 65) rfl)))) rfl
theorem tb_546 : (Jvm.Cond.code ({ cls := "LightChecksModel", name := "pair", desc := "(JJ)J" } : Jvm.MethodName) prog_10_method_5_code (4 : Nat) (Option.some Jvm.ClassFile.FieldType.long)) ∈ wg_T := wg_inT (List.mem_append_right _ (List.mem_append_right _ (List.mem_append_left _ (List.mem_of_getElem? (i := 66) rfl)))) rfl
theorem tb_547 : (Jvm.Cond.constantLong "LightChecksModel" (90 : Nat) (3 : Int64)) ∈ wg_T := wg_inT (List.mem_append_right _ (List.mem_append_right _ (List.mem_append_left _ (List.mem_of_getElem? (i := 67) rfl)))) rfl
theorem tb_548 : (Jvm.Cond.constantLong "LightChecksModel" (92 : Nat) (-7046029254386353131 : Int64)) ∈ wg_T := wg_inT (List.mem_append_right _ (List.mem_append_right _ (List.mem_append_left _ (List.mem_of_getElem? (i := 68) rfl)))) rfl
theorem tb_549 : (Jvm.Cond.fieldLink "LightChecksModel" (104 : Nat) "LightChecksModel" "sets" "I") ∈ wg_T := wg_inT (List.mem_append_right _ (List.mem_append_right _ (List.mem_append_left _ (List.mem_of_getElem? (i := 69) rfl)))) rfl
theorem tb_550 : (Jvm.Cond.fieldLink "LightChecksModel" (7 : Nat) "LightChecksModel" "weight" "[I") ∈ wg_T := wg_inT (List.mem_append_right _ (List.mem_append_right _ (List.mem_append_left _ (List.mem_of_getElem? (i := 70) rfl)))) rfl
theorem tb_551 : (Jvm.Cond.fieldLink "LightChecksModel" (108 : Nat) "LightChecksModel" "heads" "I") ∈ wg_T := wg_inT (List.mem_append_right _ (List.mem_append_right _ (List.mem_append_left _ (List.mem_of_getElem? (i := 71) rfl)))) rfl
theorem tb_552 : (Jvm.Cond.fieldLink "LightChecksModel" (13 : Nat) "LightChecksModel" "height" "[I") ∈ wg_T := wg_inT (List.mem_append_right _ (List.mem_append_right _ (List.mem_append_left _ (List.mem_of_getElem? (i := 72) rfl)))) rfl
theorem tb_553 : (Jvm.Cond.fieldLink "LightChecksModel" (16 : Nat) "LightChecksModel" "parent" "[J") ∈ wg_T := wg_inT (List.mem_append_right _ (List.mem_append_right _ (List.mem_append_left _ (List.mem_of_getElem? (i := 73) rfl)))) rfl
theorem tb_554 : (Jvm.Cond.fieldLink "LightChecksModel" (20 : Nat) "LightChecksModel" "setOf" "[I") ∈ wg_T := wg_inT (List.mem_append_right _ (List.mem_append_right _ (List.mem_append_left _ (List.mem_of_getElem? (i := 74) rfl)))) rfl
theorem tb_555 : (Jvm.Cond.fieldLink "LightChecksModel" (23 : Nat) "LightChecksModel" "nextOf" "[I") ∈ wg_T := wg_inT (List.mem_append_right _ (List.mem_append_right _ (List.mem_append_left _ (List.mem_of_getElem? (i := 75) rfl)))) rfl
theorem tb_556 : (Jvm.Cond.fieldLink "LightChecksModel" (26 : Nat) "LightChecksModel" "root" "[J") ∈ wg_T := wg_inT (List.mem_append_right _ (List.mem_append_right _ (List.mem_append_left _ (List.mem_of_getElem? (i := 76) rfl)))) rfl
theorem tb_557 : (Jvm.Cond.fieldLink "LightChecksModel" (29 : Nat) "LightChecksModel" "signed" "[I") ∈ wg_T := wg_inT (List.mem_append_right _ (List.mem_append_right _ (List.mem_append_left _ (List.mem_of_getElem? (i := 77) rfl)))) rfl
theorem tb_558 : (Jvm.Cond.fieldLink "LightChecksModel" (32 : Nat) "LightChecksModel" "terms" "[I") ∈ wg_T := wg_inT (List.mem_append_right _ (List.mem_append_right _ (List.mem_append_left _ (List.mem_of_getElem? (i := 78) rfl)))) rfl
theorem tb_559 : (Jvm.Cond.fieldLink "LightChecksModel" (35 : Nat) "LightChecksModel" "storedMany" "[I") ∈ wg_T := wg_inT (List.mem_append_right _ (List.mem_append_right _ (List.mem_append_left _ (List.mem_of_getElem? (i := 79) rfl)))) rfl
theorem tb_560 : (Jvm.Cond.fieldLink "LightChecksModel" (38 : Nat) "LightChecksModel" "stored" "[I") ∈ wg_T := wg_inT (List.mem_append_right _ (List.mem_append_right _ (List.mem_append_left _ (List.mem_of_getElem? (i := 80) rfl)))) rfl
theorem tb_561 : (Jvm.Cond.fieldLink "LightChecksModel" (41 : Nat) "LightChecksModel" "cost" "[I") ∈ wg_T := wg_inT (List.mem_append_right _ (List.mem_append_right _ (List.mem_append_left _ (List.mem_of_getElem? (i := 81) rfl)))) rfl
theorem tb_562 : (Jvm.Cond.fieldLink "LightChecksModel" (44 : Nat) "LightChecksModel" "refused" "[I") ∈ wg_T := wg_inT (List.mem_append_right _ (List.mem_append_right _ (List.mem_append_left _ (List.mem_of_getElem? (i := 82) rfl)))) rfl
theorem tb_563 : (Jvm.Cond.fieldLink "LightChecksModel" (47 : Nat) "LightChecksModel" "refusedAt" "[I") ∈ wg_T := wg_inT (List.mem_append_right _ (List.mem_append_right _ (List.mem_append_left _ (List.mem_of_getElem? (i := 83) rfl)))) rfl
theorem tb_564 : (Jvm.Cond.fieldLink "LightChecksModel" (50 : Nat) "LightChecksModel" "givenMany" "[I") ∈ wg_T := wg_inT (List.mem_append_right _ (List.mem_append_right _ (List.mem_append_left _ (List.mem_of_getElem? (i := 84) rfl)))) rfl
theorem tb_565 : (Jvm.Cond.fieldLink "LightChecksModel" (53 : Nat) "LightChecksModel" "given" "[I") ∈ wg_T := wg_inT (List.mem_append_right _ (List.mem_append_right _ (List.mem_append_left _ (List.mem_of_getElem? (i := 85) rfl)))) rfl
theorem tb_566 : (Jvm.Cond.fieldLink "LightChecksModel" (56 : Nat) "LightChecksModel" "leaves" "[J") ∈ wg_T := wg_inT (List.mem_append_right _ (List.mem_append_right _ (List.mem_append_left _ (List.mem_of_getElem? (i := 86) rfl)))) rfl
theorem tb_567 : (Jvm.Cond.fieldLink "LightChecksModel" (59 : Nat) "LightChecksModel" "nodes" "[J") ∈ wg_T := wg_inT (List.mem_append_right _ (List.mem_append_right _ (List.mem_append_left _ (List.mem_of_getElem? (i := 87) rfl)))) rfl
theorem tb_568 : (Jvm.Cond.fieldLink "LightChecksModel" (179 : Nat) "LightChecksModel" "proofA" "I") ∈ wg_T := wg_inT (List.mem_append_right _ (List.mem_append_right _ (List.mem_append_left _ (List.mem_of_getElem? (i := 88) rfl)))) rfl
theorem tb_569 : (Jvm.Cond.fieldLink "LightChecksModel" (182 : Nat) "LightChecksModel" "proofB" "I") ∈ wg_T := wg_inT (List.mem_append_right _ (List.mem_append_right _ (List.mem_append_left _ (List.mem_of_getElem? (i := 89) rfl)))) rfl
theorem tb_570 : (Jvm.Cond.fieldLink "LightChecksModel" (185 : Nat) "LightChecksModel" "proofFirst" "J") ∈ wg_T := wg_inT (List.mem_append_right _ (List.mem_append_right _ (List.mem_append_left _ (List.mem_of_getElem? (i := 90) rfl)))) rfl
theorem tb_571 : (Jvm.Cond.fieldLink "LightChecksModel" (189 : Nat) "LightChecksModel" "proofSecond" "J") ∈ wg_T := wg_inT (List.mem_append_right _ (List.mem_append_right _ (List.mem_append_left _ (List.mem_of_getElem? (i := 91) rfl)))) rfl
theorem tb_572 : (Jvm.Cond.fieldLink "LightChecksModel" (192 : Nat) "LightChecksModel" "proofMany" "I") ∈ wg_T := wg_inT (List.mem_append_right _ (List.mem_append_right _ (List.mem_append_left _ (List.mem_of_getElem? (i := 92) rfl)))) rfl
theorem tb_573 : (Jvm.Cond.fieldLink "LightChecksModel" (62 : Nat) "LightChecksModel" "proofNode" "[I") ∈ wg_T := wg_inT (List.mem_append_right _ (List.mem_append_right _ (List.mem_append_left _ (List.mem_of_getElem? (i := 93) rfl)))) rfl
theorem tb_574 : (Jvm.Cond.fieldLink "LightChecksModel" (65 : Nat) "LightChecksModel" "proofValue" "[J") ∈ wg_T := wg_inT (List.mem_append_right _ (List.mem_append_right _ (List.mem_append_left _ (List.mem_of_getElem? (i := 94) rfl)))) rfl
theorem tb_575 : (Jvm.Cond.fieldLink "LightChecksModel" (68 : Nat) "LightChecksModel" "pile" "[I") ∈ wg_T := wg_inT (List.mem_append_right _ (List.mem_append_right _ (List.mem_append_left _ (List.mem_of_getElem? (i := 95) rfl)))) rfl
theorem tb_576 : (Jvm.Cond.fieldLink "LightChecksModel" (71 : Nat) "LightChecksModel" "isKnown" "[Z") ∈ wg_T := wg_inT (List.mem_append_right _ (List.mem_append_right _ (List.mem_append_left _ (List.mem_of_getElem? (i := 96) rfl)))) rfl
theorem tb_577 : (Jvm.Cond.fieldLink "LightChecksModel" (75 : Nat) "LightChecksModel" "reckoned" "[J") ∈ wg_T := wg_inT (List.mem_append_right _ (List.mem_append_right _ (List.mem_append_left _ (List.mem_of_getElem? (i := 97) rfl)))) rfl
theorem tb_578 : (Jvm.Cond.lays "LightChecksModel" "LightChecksModel" "sets" "I") ∈ wg_T := wg_inT (List.mem_append_right _ (List.mem_append_right _ (List.mem_append_left _ (List.mem_of_getElem? (i := 98) rfl)))) rfl
theorem tb_580 : (Jvm.Cond.laysFinal "LightChecksModel" "LightChecksModel" "weight" "[I") ∈ wg_T := wg_inT (List.mem_append_right _ (List.mem_append_right _ (List.mem_append_left _ (List.mem_of_getElem? (i := 100) rfl)))) rfl
theorem tb_582 : (Jvm.Cond.lays "LightChecksModel" "LightChecksModel" "heads" "I") ∈ wg_T := wg_inT (List.mem_append_right _ (List.mem_append_right _ (List.mem_append_left _ (List.mem_of_getElem? (i := 102) rfl)))) rfl
theorem tb_584 : (Jvm.Cond.laysFinal "LightChecksModel" "LightChecksModel" "height" "[I") ∈ wg_T := wg_inT (List.mem_append_right _ (List.mem_append_right _ (List.mem_append_left _ (List.mem_of_getElem? (i := 104) rfl)))) rfl
theorem tb_586 : (Jvm.Cond.laysFinal "LightChecksModel" "LightChecksModel" "parent" "[J") ∈ wg_T := wg_inT (List.mem_append_right _ (List.mem_append_right _ (List.mem_append_left _ (List.mem_of_getElem? (i := 106) rfl)))) rfl
theorem tb_588 : (Jvm.Cond.laysFinal "LightChecksModel" "LightChecksModel" "setOf" "[I") ∈ wg_T := wg_inT (List.mem_append_right _ (List.mem_append_right _ (List.mem_append_left _ (List.mem_of_getElem? (i := 108) rfl)))) rfl
theorem tb_590 : (Jvm.Cond.laysFinal "LightChecksModel" "LightChecksModel" "nextOf" "[I") ∈ wg_T := wg_inT (List.mem_append_right _ (List.mem_append_right _ (List.mem_append_left _ (List.mem_of_getElem? (i := 110) rfl)))) rfl
theorem tb_592 : (Jvm.Cond.laysFinal "LightChecksModel" "LightChecksModel" "root" "[J") ∈ wg_T := wg_inT (List.mem_append_right _ (List.mem_append_right _ (List.mem_append_left _ (List.mem_of_getElem? (i := 112) rfl)))) rfl
theorem tb_594 : (Jvm.Cond.laysFinal "LightChecksModel" "LightChecksModel" "signed" "[I") ∈ wg_T := wg_inT (List.mem_append_right _ (List.mem_append_right _ (List.mem_append_left _ (List.mem_of_getElem? (i := 114) rfl)))) rfl
theorem tb_596 : (Jvm.Cond.laysFinal "LightChecksModel" "LightChecksModel" "terms" "[I") ∈ wg_T := wg_inT (List.mem_append_right _ (List.mem_append_right _ (List.mem_append_left _ (List.mem_of_getElem? (i := 116) rfl)))) rfl
theorem tb_598 : (Jvm.Cond.laysFinal "LightChecksModel" "LightChecksModel" "storedMany" "[I") ∈ wg_T := wg_inT (List.mem_append_right _ (List.mem_append_right _ (List.mem_append_left _ (List.mem_of_getElem? (i := 118) rfl)))) rfl
theorem tb_600 : (Jvm.Cond.laysFinal "LightChecksModel" "LightChecksModel" "stored" "[I") ∈ wg_T := wg_inT (List.mem_append_right _ (List.mem_append_right _ (List.mem_append_left _ (List.mem_of_getElem? (i := 120) rfl)))) rfl
theorem tb_602 : (Jvm.Cond.laysFinal "LightChecksModel" "LightChecksModel" "cost" "[I") ∈ wg_T := wg_inT (List.mem_append_right _ (List.mem_append_right _ (List.mem_append_left _ (List.mem_of_getElem? (i := 122) rfl)))) rfl
theorem tb_604 : (Jvm.Cond.laysFinal "LightChecksModel" "LightChecksModel" "refused" "[I") ∈ wg_T := wg_inT (List.mem_append_right _ (List.mem_append_right _ (List.mem_append_left _ (List.mem_of_getElem? (i := 124) rfl)))) rfl
theorem tb_606 : (Jvm.Cond.laysFinal "LightChecksModel" "LightChecksModel" "refusedAt" "[I") ∈ wg_T := wg_inT (List.mem_append_right _ (List.mem_append_right _ (List.mem_append_left _ (List.mem_of_getElem? (i := 126) rfl)))) rfl
theorem tb_608 : (Jvm.Cond.laysFinal "LightChecksModel" "LightChecksModel" "givenMany" "[I") ∈ wg_T := wg_inT (List.mem_append_right _ (List.mem_append_right _ (List.mem_append_left _ (List.mem_of_getElem? (i := 128) rfl)))) rfl
theorem tb_610 : (Jvm.Cond.laysFinal "LightChecksModel" "LightChecksModel" "given" "[I") ∈ wg_T := wg_inT (List.mem_append_right _ (List.mem_append_right _ (List.mem_append_left _ (List.mem_of_getElem? (i := 130) rfl)))) rfl
theorem tb_612 : (Jvm.Cond.laysFinal "LightChecksModel" "LightChecksModel" "leaves" "[J") ∈ wg_T := wg_inT (List.mem_append_right _ (List.mem_append_right _ (List.mem_append_left _ (List.mem_of_getElem? (i := 132) rfl)))) rfl
theorem tb_614 : (Jvm.Cond.laysFinal "LightChecksModel" "LightChecksModel" "nodes" "[J") ∈ wg_T := wg_inT (List.mem_append_right _ (List.mem_append_right _ (List.mem_append_left _ (List.mem_of_getElem? (i := 134) rfl)))) rfl
theorem tb_616 : (Jvm.Cond.lays "LightChecksModel" "LightChecksModel" "proofA" "I") ∈ wg_T := wg_inT (List.mem_append_right _ (List.mem_append_right _ (List.mem_append_left _ (List.mem_of_getElem? (i := 136) rfl)))) rfl
theorem tb_618 : (Jvm.Cond.lays "LightChecksModel" "LightChecksModel" "proofB" "I") ∈ wg_T := wg_inT (List.mem_append_right _ (List.mem_append_right _ (List.mem_append_left _ (List.mem_of_getElem? (i := 138) rfl)))) rfl
theorem tb_620 : (Jvm.Cond.lays "LightChecksModel" "LightChecksModel" "proofFirst" "J") ∈ wg_T := wg_inT (List.mem_append_right _ (List.mem_append_right _ (List.mem_append_left _ (List.mem_of_getElem? (i := 140) rfl)))) rfl
theorem tb_622 : (Jvm.Cond.lays "LightChecksModel" "LightChecksModel" "proofSecond" "J") ∈ wg_T := wg_inT (List.mem_append_right _ (List.mem_append_right _ (List.mem_append_left _ (List.mem_of_getElem? (i := 142) rfl)))) rfl
theorem tb_624 : (Jvm.Cond.lays "LightChecksModel" "LightChecksModel" "proofMany" "I") ∈ wg_T := wg_inT (List.mem_append_right _ (List.mem_append_right _ (List.mem_append_left _ (List.mem_of_getElem? (i := 144) rfl)))) rfl
theorem tb_626 : (Jvm.Cond.laysFinal "LightChecksModel" "LightChecksModel" "proofNode" "[I") ∈ wg_T := wg_inT (List.mem_append_right _ (List.mem_append_right _ (List.mem_append_left _ (List.mem_of_getElem? (i := 146) rfl)))) rfl
theorem tb_628 : (Jvm.Cond.laysFinal "LightChecksModel" "LightChecksModel" "proofValue" "[J") ∈ wg_T := wg_inT (List.mem_append_right _ (List.mem_append_right _ (List.mem_append_left _ (List.mem_of_getElem? (i := 148) rfl)))) rfl
theorem tb_630 : (Jvm.Cond.laysFinal "LightChecksModel" "LightChecksModel" "pile" "[I") ∈ wg_T := wg_inT (List.mem_append_right _ (List.mem_append_right _ (List.mem_append_left _ (List.mem_of_getElem? (i := 150) rfl)))) rfl
theorem tb_632 : (Jvm.Cond.laysFinal "LightChecksModel" "LightChecksModel" "isKnown" "[Z") ∈ wg_T := wg_inT (List.mem_append_right _ (List.mem_append_right _ (List.mem_append_left _ (List.mem_of_getElem? (i := 152) rfl)))) rfl
theorem tb_634 : (Jvm.Cond.laysFinal "LightChecksModel" "LightChecksModel" "reckoned" "[J") ∈ wg_T := wg_inT (List.mem_append_right _ (List.mem_append_right _ (List.mem_append_left _ (List.mem_of_getElem? (i := 154) rfl)))) rfl
theorem tb_637 : (Jvm.Cond.arrayClass Jvm.ClassFile.FieldType.boolean) ∈ wg_T := wg_inT (List.mem_append_right _ (List.mem_append_right _ (List.mem_append_left _ (List.mem_of_getElem? (i := 157) rfl)))) rfl
theorem tb_638 : (Jvm.Cond.methodLink "LightChecksLaw" (19 : Nat) ({ cls := "LightChecksModel", name := "set", desc := "(JJ)I" } : Jvm.MethodName)) ∈ wg_T := wg_inT (List.mem_append_right _ (List.mem_append_right _ (List.mem_append_left _ (List.mem_of_getElem? (i := 158) rfl)))) rfl
theorem tb_639 : (Jvm.Cond.instanceMethod ({ cls := "LightChecksModel", name := "set", desc := "(JJ)I" } : Jvm.MethodName)) ∈ wg_T := wg_inT (List.mem_append_right _ (List.mem_append_right _ (List.mem_append_left _ (List.mem_of_getElem? (i := 159) rfl)))) rfl
theorem tb_640 : (Jvm.Cond.selects "LightChecksModel" ({ cls := "LightChecksModel", name := "set", desc := "(JJ)I" } : Jvm.MethodName) ({ cls := "LightChecksModel", name := "set", desc := "(JJ)I" } : Jvm.MethodName)) ∈ wg_T := wg_inT (List.mem_append_right _ (List.mem_append_right _ (List.mem_append_left _ (List.mem_of_getElem? (i := 160) rfl)))) rfl
theorem tb_641 : (Jvm.Cond.code ({ cls := "LightChecksModel", name := "set", desc := "(JJ)I" } : Jvm.MethodName) prog_10_method_6_code (7 : Nat) (Option.some Jvm.ClassFile.FieldType.int)) ∈ wg_T := wg_inT (List.mem_append_right _ (List.mem_append_right _ (List.mem_append_left _ (List.mem_of_getElem? (i := 161) rfl)))) rfl
theorem tb_642 : (Jvm.Cond.constantLong "LightChecksModel" (94 : Nat) (34359738367 : Int64)) ∈ wg_T := wg_inT (List.mem_append_right _ (List.mem_append_right _ (List.mem_append_left _ (List.mem_of_getElem? (i := 162) rfl)))) rfl
theorem tb_643 : (Jvm.Cond.constantLong "LightChecksModel" (100 : Nat) (127 : Int64)) ∈ wg_T := wg_inT (List.mem_append_right _ (List.mem_append_right _ (List.mem_append_left _ (List.mem_of_getElem? (i := 163) rfl)))) rfl
theorem tb_644 : (Jvm.Cond.constantLong "LightChecksModel" (102 : Nat) (100 : Int64)) ∈ wg_T := wg_inT (List.mem_append_right _ (List.mem_append_right _ (List.mem_append_left _ (List.mem_of_getElem? (i := 164) rfl)))) rfl
theorem tb_645 : (Jvm.Cond.methodLink "LightChecksLaw" (24 : Nat) ({ cls := "LightChecksModel", name := "head", desc := "(IJIIJ)I" } : Jvm.MethodName)) ∈ wg_T := wg_inT (List.mem_append_right _ (List.mem_append_right _ (List.mem_append_left _ (List.mem_of_getElem? (i := 165) rfl)))) rfl
theorem tb_646 : (Jvm.Cond.instanceMethod ({ cls := "LightChecksModel", name := "head", desc := "(IJIIJ)I" } : Jvm.MethodName)) ∈ wg_T := wg_inT (List.mem_append_right _ (List.mem_append_right _ (List.mem_append_left _ (List.mem_of_getElem? (i := 166) rfl)))) rfl
theorem tb_647 : (Jvm.Cond.selects "LightChecksModel" ({ cls := "LightChecksModel", name := "head", desc := "(IJIIJ)I" } : Jvm.MethodName) ({ cls := "LightChecksModel", name := "head", desc := "(IJIIJ)I" } : Jvm.MethodName)) ∈ wg_T := wg_inT (List.mem_append_right _ (List.mem_append_right _ (List.mem_append_left _ (List.mem_of_getElem? (i := 167) rfl)))) rfl
theorem tb_648 : (Jvm.Cond.code ({ cls := "LightChecksModel", name := "head", desc := "(IJIIJ)I" } : Jvm.MethodName) prog_10_method_9_code (8 : Nat) (Option.some Jvm.ClassFile.FieldType.int)) ∈ wg_T := wg_inT (List.mem_append_right _ (List.mem_append_right _ (List.mem_append_left _ (List.mem_of_getElem? (i := 168) rfl)))) rfl
theorem tb_649 : (Jvm.Cond.constantLong "LightChecksModel" (111 : Nat) (100000 : Int64)) ∈ wg_T := wg_inT (List.mem_append_right _ (List.mem_append_right _ (List.mem_append_left _ (List.mem_of_getElem? (i := 169) rfl)))) rfl
theorem tb_650 : (Jvm.Cond.methodLink "LightChecksModel" (113 : Nat) ({ cls := "LightChecksModel", name := "isSet", desc := "(I)Z" } : Jvm.MethodName)) ∈ wg_T := wg_inT (List.mem_append_right _ (List.mem_append_right _ (List.mem_append_left _ (List.mem_of_getElem? (i := 170) rfl)))) rfl
theorem tb_652 : (Jvm.Cond.instanceMethod ({ cls := "LightChecksModel", name := "isSet", desc := "(I)Z" } : Jvm.MethodName)) ∈ wg_T := wg_inT (List.mem_append_right _ (List.mem_append_right _ (List.mem_append_left _ (List.mem_of_getElem? (i := 172) rfl)))) rfl
theorem tb_653 : (Jvm.Cond.code ({ cls := "LightChecksModel", name := "isSet", desc := "(I)Z" } : Jvm.MethodName) prog_10_method_7_code (2 : Nat) (Option.some Jvm.ClassFile.FieldType.boolean)) ∈ wg_T := wg_inT (List.mem_append_right _ (List.mem_append_right _ (List.mem_append_left _ (List.mem_of_getElem? (i := 173) rfl)))) rfl
theorem tb_654 : (Jvm.Cond.methodLink "LightChecksLaw" (29 : Nat) ({ cls := "LightChecksModel", name := "sign", desc := "(II)I" } : Jvm.MethodName)) ∈ wg_T := wg_inT (List.mem_append_right _ (List.mem_append_right _ (List.mem_append_left _ (List.mem_of_getElem? (i := 174) rfl)))) rfl
theorem tb_655 : (Jvm.Cond.instanceMethod ({ cls := "LightChecksModel", name := "sign", desc := "(II)I" } : Jvm.MethodName)) ∈ wg_T := wg_inT (List.mem_append_right _ (List.mem_append_right _ (List.mem_append_left _ (List.mem_of_getElem? (i := 175) rfl)))) rfl
theorem tb_656 : (Jvm.Cond.selects "LightChecksModel" ({ cls := "LightChecksModel", name := "sign", desc := "(II)I" } : Jvm.MethodName) ({ cls := "LightChecksModel", name := "sign", desc := "(II)I" } : Jvm.MethodName)) ∈ wg_T := wg_inT (List.mem_append_right _ (List.mem_append_right _ (List.mem_append_left _ (List.mem_of_getElem? (i := 176) rfl)))) rfl
theorem tb_657 : (Jvm.Cond.code ({ cls := "LightChecksModel", name := "sign", desc := "(II)I" } : Jvm.MethodName) prog_10_method_10_code (4 : Nat) (Option.some Jvm.ClassFile.FieldType.int)) ∈ wg_T := wg_inT (List.mem_append_right _ (List.mem_append_right _ (List.mem_append_left _ (List.mem_of_getElem? (i := 177) rfl)))) rfl
theorem tb_658 : (Jvm.Cond.methodLink "LightChecksModel" (117 : Nat) ({ cls := "LightChecksModel", name := "isHead", desc := "(I)Z" } : Jvm.MethodName)) ∈ wg_T := wg_inT (List.mem_append_right _ (List.mem_append_right _ (List.mem_append_left _ (List.mem_of_getElem? (i := 178) rfl)))) rfl
theorem tb_660 : (Jvm.Cond.instanceMethod ({ cls := "LightChecksModel", name := "isHead", desc := "(I)Z" } : Jvm.MethodName)) ∈ wg_T := wg_inT (List.mem_append_right _ (List.mem_append_right _ (List.mem_append_left _ (List.mem_of_getElem? (i := 180) rfl)))) rfl
theorem tb_661 : (Jvm.Cond.code ({ cls := "LightChecksModel", name := "isHead", desc := "(I)Z" } : Jvm.MethodName) prog_10_method_8_code (2 : Nat) (Option.some Jvm.ClassFile.FieldType.boolean)) ∈ wg_T := wg_inT (List.mem_append_right _ (List.mem_append_right _ (List.mem_append_left _ (List.mem_of_getElem? (i := 181) rfl)))) rfl
theorem tb_662 : (Jvm.Cond.constantLong "LightChecksModel" (120 : Nat) (9 : Int64)) ∈ wg_T := wg_inT (List.mem_append_right _ (List.mem_append_right _ (List.mem_append_left _ (List.mem_of_getElem? (i := 182) rfl)))) rfl
theorem tb_663 : (Jvm.Cond.methodLink "LightChecksLaw" (33 : Nat) ({ cls := "LightChecksModel", name := "term", desc := "(II)I" } : Jvm.MethodName)) ∈ wg_T := wg_inT (List.mem_append_right _ (List.mem_append_right _ (List.mem_append_left _ (List.mem_of_getElem? (i := 183) rfl)))) rfl
theorem tb_664 : (Jvm.Cond.instanceMethod ({ cls := "LightChecksModel", name := "term", desc := "(II)I" } : Jvm.MethodName)) ∈ wg_T := wg_inT (List.mem_append_right _ (List.mem_append_right _ (List.mem_append_left _ (List.mem_of_getElem? (i := 184) rfl)))) rfl
theorem tb_665 : (Jvm.Cond.selects "LightChecksModel" ({ cls := "LightChecksModel", name := "term", desc := "(II)I" } : Jvm.MethodName) ({ cls := "LightChecksModel", name := "term", desc := "(II)I" } : Jvm.MethodName)) ∈ wg_T := wg_inT (List.mem_append_right _ (List.mem_append_right _ (List.mem_append_left _ (List.mem_of_getElem? (i := 185) rfl)))) rfl
theorem tb_666 : (Jvm.Cond.code ({ cls := "LightChecksModel", name := "term", desc := "(II)I" } : Jvm.MethodName) prog_10_method_11_code (4 : Nat) (Option.some Jvm.ClassFile.FieldType.int)) ∈ wg_T := wg_inT (List.mem_append_right _ (List.mem_append_right _ (List.mem_append_left _ (List.mem_of_getElem? (i := 186) rfl)))) rfl
theorem tb_667 : (Jvm.Cond.constantLong "LightChecksModel" (122 : Nat) (2 : Int64)) ∈ wg_T := wg_inT (List.mem_append_right _ (List.mem_append_right _ (List.mem_append_left _ (List.mem_of_getElem? (i := 187) rfl)))) rfl
theorem tb_668 : (Jvm.Cond.constantLong "LightChecksModel" (124 : Nat) (1000 : Int64)) ∈ wg_T := wg_inT (List.mem_append_right _ (List.mem_append_right _ (List.mem_append_left _ (List.mem_of_getElem? (i := 188) rfl)))) rfl
theorem tb_669 : (Jvm.Cond.constantLong "LightChecksModel" (126 : Nat) (10 : Int64)) ∈ wg_T := wg_inT (List.mem_append_right _ (List.mem_append_right _ (List.mem_append_left _ (List.mem_of_getElem? (i := 189) rfl)))) rfl
theorem tb_670 : (Jvm.Cond.methodLink "LightChecksLaw" (38 : Nat) ({ cls := "LightChecksModel", name := "digest", desc := "(I)J" } : Jvm.MethodName)) ∈ wg_T := wg_inT (List.mem_append_right _ (List.mem_append_right _ (List.mem_append_left _ (List.mem_of_getElem? (i := 190) rfl)))) rfl
theorem tb_671 : (Jvm.Cond.instanceMethod ({ cls := "LightChecksModel", name := "digest", desc := "(I)J" } : Jvm.MethodName)) ∈ wg_T := wg_inT (List.mem_append_right _ (List.mem_append_right _ (List.mem_append_left _ (List.mem_of_getElem? (i := 191) rfl)))) rfl
theorem tb_672 : (Jvm.Cond.selects "LightChecksModel" ({ cls := "LightChecksModel", name := "digest", desc := "(I)J" } : Jvm.MethodName) ({ cls := "LightChecksModel", name := "digest", desc := "(I)J" } : Jvm.MethodName)) ∈ wg_T := wg_inT (List.mem_append_right _ (List.mem_append_right _ (List.mem_append_left _ (List.mem_of_getElem? (i := 192) rfl)))) rfl
theorem tb_673 : (Jvm.Cond.code ({ cls := "LightChecksModel", name := "digest", desc := "(I)J" } : Jvm.MethodName) prog_10_method_13_code (2 : Nat) (Option.some Jvm.ClassFile.FieldType.long)) ∈ wg_T := wg_inT (List.mem_append_right _ (List.mem_append_right _ (List.mem_append_left _ (List.mem_of_getElem? (i := 193) rfl)))) rfl
theorem tb_674 : (Jvm.Cond.methodLink "LightChecksModel" (132 : Nat) ({ cls := "LightChecksModel", name := "digestOf", desc := "(I)J" } : Jvm.MethodName)) ∈ wg_T := wg_inT (List.mem_append_right _ (List.mem_append_right _ (List.mem_append_left _ (List.mem_of_getElem? (i := 194) rfl)))) rfl
theorem tb_676 : (Jvm.Cond.instanceMethod ({ cls := "LightChecksModel", name := "digestOf", desc := "(I)J" } : Jvm.MethodName)) ∈ wg_T := wg_inT (List.mem_append_right _ (List.mem_append_right _ (List.mem_append_left _ (List.mem_of_getElem? (i := 196) rfl)))) rfl
theorem tb_677 : (Jvm.Cond.code ({ cls := "LightChecksModel", name := "digestOf", desc := "(I)J" } : Jvm.MethodName) prog_10_method_12_code (2 : Nat) (Option.some Jvm.ClassFile.FieldType.long)) ∈ wg_T := wg_inT (List.mem_append_right _ (List.mem_append_right _ (List.mem_append_left _ (List.mem_of_getElem? (i := 197) rfl)))) rfl
theorem tb_678 : (Jvm.Cond.methodLink "LightChecksLaw" (43 : Nat) ({ cls := "LightChecksModel", name := "certified", desc := "(I)I" } : Jvm.MethodName)) ∈ wg_T := wg_inT (List.mem_append_right _ (List.mem_append_right _ (List.mem_append_left _ (List.mem_of_getElem? (i := 198) rfl)))) rfl
theorem tb_679 : (Jvm.Cond.instanceMethod ({ cls := "LightChecksModel", name := "certified", desc := "(I)I" } : Jvm.MethodName)) ∈ wg_T := wg_inT (List.mem_append_right _ (List.mem_append_right _ (List.mem_append_left _ (List.mem_of_getElem? (i := 199) rfl)))) rfl
theorem tb_680 : (Jvm.Cond.selects "LightChecksModel" ({ cls := "LightChecksModel", name := "certified", desc := "(I)I" } : Jvm.MethodName) ({ cls := "LightChecksModel", name := "certified", desc := "(I)I" } : Jvm.MethodName)) ∈ wg_T := wg_inT (List.mem_append_right _ (List.mem_append_right _ (List.mem_append_left _ (List.mem_of_getElem? (i := 200) rfl)))) rfl
theorem tb_681 : (Jvm.Cond.code ({ cls := "LightChecksModel", name := "certified", desc := "(I)I" } : Jvm.MethodName) prog_10_method_17_code (2 : Nat) (Option.some Jvm.ClassFile.FieldType.int)) ∈ wg_T := wg_inT (List.mem_append_right _ (List.mem_append_right _ (List.mem_append_left _ (List.mem_of_getElem? (i := 201) rfl)))) rfl
theorem tb_682 : (Jvm.Cond.methodLink "LightChecksModel" (139 : Nat) ({ cls := "LightChecksModel", name := "isCertified", desc := "(I)Z" } : Jvm.MethodName)) ∈ wg_T := wg_inT (List.mem_append_right _ (List.mem_append_right _ (List.mem_append_left _ (List.mem_of_getElem? (i := 202) rfl)))) rfl
theorem tb_684 : (Jvm.Cond.instanceMethod ({ cls := "LightChecksModel", name := "isCertified", desc := "(I)Z" } : Jvm.MethodName)) ∈ wg_T := wg_inT (List.mem_append_right _ (List.mem_append_right _ (List.mem_append_left _ (List.mem_of_getElem? (i := 204) rfl)))) rfl
theorem tb_685 : (Jvm.Cond.code ({ cls := "LightChecksModel", name := "isCertified", desc := "(I)Z" } : Jvm.MethodName) prog_10_method_15_code (2 : Nat) (Option.some Jvm.ClassFile.FieldType.boolean)) ∈ wg_T := wg_inT (List.mem_append_right _ (List.mem_append_right _ (List.mem_append_left _ (List.mem_of_getElem? (i := 205) rfl)))) rfl
theorem tb_686 : (Jvm.Cond.methodLink "LightChecksModel" (136 : Nat) ({ cls := "LightChecksModel", name := "weightOf", desc := "(II)I" } : Jvm.MethodName)) ∈ wg_T := wg_inT (List.mem_append_right _ (List.mem_append_right _ (List.mem_append_left _ (List.mem_of_getElem? (i := 206) rfl)))) rfl
theorem tb_688 : (Jvm.Cond.instanceMethod ({ cls := "LightChecksModel", name := "weightOf", desc := "(II)I" } : Jvm.MethodName)) ∈ wg_T := wg_inT (List.mem_append_right _ (List.mem_append_right _ (List.mem_append_left _ (List.mem_of_getElem? (i := 208) rfl)))) rfl
theorem tb_689 : (Jvm.Cond.code ({ cls := "LightChecksModel", name := "weightOf", desc := "(II)I" } : Jvm.MethodName) prog_10_method_14_code (5 : Nat) (Option.some Jvm.ClassFile.FieldType.int)) ∈ wg_T := wg_inT (List.mem_append_right _ (List.mem_append_right _ (List.mem_append_left _ (List.mem_of_getElem? (i := 209) rfl)))) rfl
theorem tb_690 : (Jvm.Cond.methodLink "LightChecksLaw" (47 : Nat) ({ cls := "LightChecksModel", name := "overlaps", desc := "(II)I" } : Jvm.MethodName)) ∈ wg_T := wg_inT (List.mem_append_right _ (List.mem_append_right _ (List.mem_append_left _ (List.mem_of_getElem? (i := 210) rfl)))) rfl
theorem tb_691 : (Jvm.Cond.instanceMethod ({ cls := "LightChecksModel", name := "overlaps", desc := "(II)I" } : Jvm.MethodName)) ∈ wg_T := wg_inT (List.mem_append_right _ (List.mem_append_right _ (List.mem_append_left _ (List.mem_of_getElem? (i := 211) rfl)))) rfl
theorem tb_692 : (Jvm.Cond.selects "LightChecksModel" ({ cls := "LightChecksModel", name := "overlaps", desc := "(II)I" } : Jvm.MethodName) ({ cls := "LightChecksModel", name := "overlaps", desc := "(II)I" } : Jvm.MethodName)) ∈ wg_T := wg_inT (List.mem_append_right _ (List.mem_append_right _ (List.mem_append_left _ (List.mem_of_getElem? (i := 212) rfl)))) rfl
theorem tb_693 : (Jvm.Cond.code ({ cls := "LightChecksModel", name := "overlaps", desc := "(II)I" } : Jvm.MethodName) prog_10_method_18_code (3 : Nat) (Option.some Jvm.ClassFile.FieldType.int)) ∈ wg_T := wg_inT (List.mem_append_right _ (List.mem_append_right _ (List.mem_append_left _ (List.mem_of_getElem? (i := 213) rfl)))) rfl
theorem tb_694 : (Jvm.Cond.methodLink "LightChecksModel" (142 : Nat) ({ cls := "LightChecksModel", name := "doesOverlap", desc := "(II)Z" } : Jvm.MethodName)) ∈ wg_T := wg_inT (List.mem_append_right _ (List.mem_append_right _ (List.mem_append_left _ (List.mem_of_getElem? (i := 214) rfl)))) rfl
theorem tb_696 : (Jvm.Cond.instanceMethod ({ cls := "LightChecksModel", name := "doesOverlap", desc := "(II)Z" } : Jvm.MethodName)) ∈ wg_T := wg_inT (List.mem_append_right _ (List.mem_append_right _ (List.mem_append_left _ (List.mem_of_getElem? (i := 216) rfl)))) rfl
theorem tb_697 : (Jvm.Cond.code ({ cls := "LightChecksModel", name := "doesOverlap", desc := "(II)Z" } : Jvm.MethodName) prog_10_method_16_code (3 : Nat) (Option.some Jvm.ClassFile.FieldType.boolean)) ∈ wg_T := wg_inT (List.mem_append_right _ (List.mem_append_right _ (List.mem_append_left _ (List.mem_of_getElem? (i := 217) rfl)))) rfl
theorem tb_698 : (Jvm.Cond.methodLink "LightChecksLaw" (51 : Nat) ({ cls := "LightChecksModel", name := "start", desc := "(II)I" } : Jvm.MethodName)) ∈ wg_T := wg_inT (List.mem_append_right _ (List.mem_append_right _ (List.mem_append_left _ (List.mem_of_getElem? (i := 218) rfl)))) rfl
theorem tb_699 : (Jvm.Cond.instanceMethod ({ cls := "LightChecksModel", name := "start", desc := "(II)I" } : Jvm.MethodName)) ∈ wg_T := wg_inT (List.mem_append_right _ (List.mem_append_right _ (List.mem_append_left _ (List.mem_of_getElem? (i := 219) rfl)))) rfl
theorem tb_700 : (Jvm.Cond.selects "LightChecksModel" ({ cls := "LightChecksModel", name := "start", desc := "(II)I" } : Jvm.MethodName) ({ cls := "LightChecksModel", name := "start", desc := "(II)I" } : Jvm.MethodName)) ∈ wg_T := wg_inT (List.mem_append_right _ (List.mem_append_right _ (List.mem_append_left _ (List.mem_of_getElem? (i := 220) rfl)))) rfl
theorem tb_701 : (Jvm.Cond.code ({ cls := "LightChecksModel", name := "start", desc := "(II)I" } : Jvm.MethodName) prog_10_method_20_code (3 : Nat) (Option.some Jvm.ClassFile.FieldType.int)) ∈ wg_T := wg_inT (List.mem_append_right _ (List.mem_append_right _ (List.mem_append_left _ (List.mem_of_getElem? (i := 221) rfl)))) rfl
theorem tb_702 : (Jvm.Cond.methodLink "LightChecksModel" (146 : Nat) ({ cls := "LightChecksModel", name := "isFour", desc := "(I)Z" } : Jvm.MethodName)) ∈ wg_T := wg_inT (List.mem_append_right _ (List.mem_append_right _ (List.mem_append_left _ (List.mem_of_getElem? (i := 222) rfl)))) rfl
theorem tb_703 : (Jvm.Cond.static ({ cls := "LightChecksModel", name := "isFour", desc := "(I)Z" } : Jvm.MethodName)) ∈ wg_T := wg_inT (List.mem_append_right _ (List.mem_append_right _ (List.mem_append_left _ (List.mem_of_getElem? (i := 223) rfl)))) rfl
theorem tb_704 : (Jvm.Cond.code ({ cls := "LightChecksModel", name := "isFour", desc := "(I)Z" } : Jvm.MethodName) prog_10_method_19_code (1 : Nat) (Option.some Jvm.ClassFile.FieldType.boolean)) ∈ wg_T := wg_inT (List.mem_append_right _ (List.mem_append_right _ (List.mem_append_left _ (List.mem_of_getElem? (i := 224) rfl)))) rfl
theorem tb_705 : (Jvm.Cond.methodLink "LightChecksLaw" (55 : Nat) ({ cls := "LightChecksModel", name := "follow", desc := "(II)I" } : Jvm.MethodName)) ∈ wg_T := wg_inT (List.mem_append_right _ (List.mem_append_right _ (List.mem_append_left _ (List.mem_of_getElem? (i := 225) rfl)))) rfl
theorem tb_706 : (Jvm.Cond.instanceMethod ({ cls := "LightChecksModel", name := "follow", desc := "(II)I" } : Jvm.MethodName)) ∈ wg_T := wg_inT (List.mem_append_right _ (List.mem_append_right _ (List.mem_append_left _ (List.mem_of_getElem? (i := 226) rfl)))) rfl
theorem tb_707 : (Jvm.Cond.selects "LightChecksModel" ({ cls := "LightChecksModel", name := "follow", desc := "(II)I" } : Jvm.MethodName) ({ cls := "LightChecksModel", name := "follow", desc := "(II)I" } : Jvm.MethodName)) ∈ wg_T := wg_inT (List.mem_append_right _ (List.mem_append_right _ (List.mem_append_left _ (List.mem_of_getElem? (i := 227) rfl)))) rfl
theorem tb_708 : (Jvm.Cond.code ({ cls := "LightChecksModel", name := "follow", desc := "(II)I" } : Jvm.MethodName) prog_10_method_25_code (4 : Nat) (Option.some Jvm.ClassFile.FieldType.int)) ∈ wg_T := wg_inT (List.mem_append_right _ (List.mem_append_right _ (List.mem_append_left _ (List.mem_of_getElem? (i := 228) rfl)))) rfl
theorem tb_709 : (Jvm.Cond.methodLink "LightChecksModel" (156 : Nat) ({ cls := "LightChecksModel", name := "attempt", desc := "(II)I" } : Jvm.MethodName)) ∈ wg_T := wg_inT (List.mem_append_right _ (List.mem_append_right _ (List.mem_append_left _ (List.mem_of_getElem? (i := 229) rfl)))) rfl
theorem tb_711 : (Jvm.Cond.instanceMethod ({ cls := "LightChecksModel", name := "attempt", desc := "(II)I" } : Jvm.MethodName)) ∈ wg_T := wg_inT (List.mem_append_right _ (List.mem_append_right _ (List.mem_append_left _ (List.mem_of_getElem? (i := 231) rfl)))) rfl
theorem tb_712 : (Jvm.Cond.code ({ cls := "LightChecksModel", name := "attempt", desc := "(II)I" } : Jvm.MethodName) prog_10_method_23_code (6 : Nat) (Option.some Jvm.ClassFile.FieldType.int)) ∈ wg_T := wg_inT (List.mem_append_right _ (List.mem_append_right _ (List.mem_append_left _ (List.mem_of_getElem? (i := 232) rfl)))) rfl
theorem tb_713 : (Jvm.Cond.methodLink "LightChecksModel" (149 : Nat) ({ cls := "LightChecksModel", name := "trustedOf", desc := "(I)I" } : Jvm.MethodName)) ∈ wg_T := wg_inT (List.mem_append_right _ (List.mem_append_right _ (List.mem_append_left _ (List.mem_of_getElem? (i := 233) rfl)))) rfl
theorem tb_715 : (Jvm.Cond.instanceMethod ({ cls := "LightChecksModel", name := "trustedOf", desc := "(I)I" } : Jvm.MethodName)) ∈ wg_T := wg_inT (List.mem_append_right _ (List.mem_append_right _ (List.mem_append_left _ (List.mem_of_getElem? (i := 235) rfl)))) rfl
theorem tb_716 : (Jvm.Cond.code ({ cls := "LightChecksModel", name := "trustedOf", desc := "(I)I" } : Jvm.MethodName) prog_10_method_22_code (2 : Nat) (Option.some Jvm.ClassFile.FieldType.int)) ∈ wg_T := wg_inT (List.mem_append_right _ (List.mem_append_right _ (List.mem_append_left _ (List.mem_of_getElem? (i := 236) rfl)))) rfl
theorem tb_717 : (Jvm.Cond.methodLink "LightChecksModel" (153 : Nat) ({ cls := "LightChecksModel", name := "against", desc := "(II)I" } : Jvm.MethodName)) ∈ wg_T := wg_inT (List.mem_append_right _ (List.mem_append_right _ (List.mem_append_left _ (List.mem_of_getElem? (i := 237) rfl)))) rfl
theorem tb_719 : (Jvm.Cond.instanceMethod ({ cls := "LightChecksModel", name := "against", desc := "(II)I" } : Jvm.MethodName)) ∈ wg_T := wg_inT (List.mem_append_right _ (List.mem_append_right _ (List.mem_append_left _ (List.mem_of_getElem? (i := 239) rfl)))) rfl
theorem tb_720 : (Jvm.Cond.code ({ cls := "LightChecksModel", name := "against", desc := "(II)I" } : Jvm.MethodName) prog_10_method_21_code (4 : Nat) (Option.some Jvm.ClassFile.FieldType.int)) ∈ wg_T := wg_inT (List.mem_append_right _ (List.mem_append_right _ (List.mem_append_right _ (List.mem_of_getElem? (i := 0) rfl)))) rfl
theorem tb_721 : (Jvm.Cond.methodLink "LightChecksModel" (159 : Nat) ({ cls := "LightChecksModel", name := "refuse", desc := "(III)I" } : Jvm.MethodName)) ∈ wg_T := wg_inT (List.mem_append_right _ (List.mem_append_right _ (List.mem_append_right _ (List.mem_of_getElem? (i := 1) rfl)))) rfl
theorem tb_723 : (Jvm.Cond.instanceMethod ({ cls := "LightChecksModel", name := "refuse", desc := "(III)I" } : Jvm.MethodName)) ∈ wg_T := wg_inT (List.mem_append_right _ (List.mem_append_right _ (List.mem_append_right _ (List.mem_of_getElem? (i := 3) rfl)))) rfl
theorem tb_724 : (Jvm.Cond.code ({ cls := "LightChecksModel", name := "refuse", desc := "(III)I" } : Jvm.MethodName) prog_10_method_24_code (4 : Nat) (Option.some Jvm.ClassFile.FieldType.int)) ∈ wg_T := wg_inT (List.mem_append_right _ (List.mem_append_right _ (List.mem_append_right _ (List.mem_of_getElem? (i := 4) rfl)))) rfl
theorem tb_725 : (Jvm.Cond.methodLink "LightChecksLaw" (59 : Nat) ({ cls := "LightChecksModel", name := "give", desc := "(II)I" } : Jvm.MethodName)) ∈ wg_T := wg_inT (List.mem_append_right _ (List.mem_append_right _ (List.mem_append_right _ (List.mem_of_getElem? (i := 5) rfl)))) rfl
theorem tb_726 : (Jvm.Cond.instanceMethod ({ cls := "LightChecksModel", name := "give", desc := "(II)I" } : Jvm.MethodName)) ∈ wg_T := wg_inT (List.mem_append_right _ (List.mem_append_right _ (List.mem_append_right _ (List.mem_of_getElem? (i := 6) rfl)))) rfl
theorem tb_727 : (Jvm.Cond.selects "LightChecksModel" ({ cls := "LightChecksModel", name := "give", desc := "(II)I" } : Jvm.MethodName) ({ cls := "LightChecksModel", name := "give", desc := "(II)I" } : Jvm.MethodName)) ∈ wg_T := wg_inT (List.mem_append_right _ (List.mem_append_right _ (List.mem_append_right _ (List.mem_of_getElem? (i := 7) rfl)))) rfl
theorem tb_728 : (Jvm.Cond.code ({ cls := "LightChecksModel", name := "give", desc := "(II)I" } : Jvm.MethodName) prog_10_method_28_code (5 : Nat) (Option.some Jvm.ClassFile.FieldType.int)) ∈ wg_T := wg_inT (List.mem_append_right _ (List.mem_append_right _ (List.mem_append_right _ (List.mem_of_getElem? (i := 8) rfl)))) rfl
theorem tb_729 : (Jvm.Cond.methodLink "LightChecksModel" (163 : Nat) ({ cls := "LightChecksModel", name := "placeOf", desc := "(II)I" } : Jvm.MethodName)) ∈ wg_T := wg_inT (List.mem_append_right _ (List.mem_append_right _ (List.mem_append_right _ (List.mem_of_getElem? (i := 9) rfl)))) rfl
theorem tb_731 : (Jvm.Cond.instanceMethod ({ cls := "LightChecksModel", name := "placeOf", desc := "(II)I" } : Jvm.MethodName)) ∈ wg_T := wg_inT (List.mem_append_right _ (List.mem_append_right _ (List.mem_append_right _ (List.mem_of_getElem? (i := 11) rfl)))) rfl
theorem tb_732 : (Jvm.Cond.code ({ cls := "LightChecksModel", name := "placeOf", desc := "(II)I" } : Jvm.MethodName) prog_10_method_26_code (4 : Nat) (Option.some Jvm.ClassFile.FieldType.int)) ∈ wg_T := wg_inT (List.mem_append_right _ (List.mem_append_right _ (List.mem_append_right _ (List.mem_of_getElem? (i := 12) rfl)))) rfl
theorem tb_733 : (Jvm.Cond.methodLink "LightChecksLaw" (64 : Nat) ({ cls := "LightChecksModel", name := "seek", desc := "(III)I" } : Jvm.MethodName)) ∈ wg_T := wg_inT (List.mem_append_right _ (List.mem_append_right _ (List.mem_append_right _ (List.mem_of_getElem? (i := 13) rfl)))) rfl
theorem tb_734 : (Jvm.Cond.instanceMethod ({ cls := "LightChecksModel", name := "seek", desc := "(III)I" } : Jvm.MethodName)) ∈ wg_T := wg_inT (List.mem_append_right _ (List.mem_append_right _ (List.mem_append_right _ (List.mem_of_getElem? (i := 14) rfl)))) rfl
theorem tb_735 : (Jvm.Cond.selects "LightChecksModel" ({ cls := "LightChecksModel", name := "seek", desc := "(III)I" } : Jvm.MethodName) ({ cls := "LightChecksModel", name := "seek", desc := "(III)I" } : Jvm.MethodName)) ∈ wg_T := wg_inT (List.mem_append_right _ (List.mem_append_right _ (List.mem_append_right _ (List.mem_of_getElem? (i := 15) rfl)))) rfl
theorem tb_736 : (Jvm.Cond.code ({ cls := "LightChecksModel", name := "seek", desc := "(III)I" } : Jvm.MethodName) prog_10_method_29_code (8 : Nat) (Option.some Jvm.ClassFile.FieldType.int)) ∈ wg_T := wg_inT (List.mem_append_right _ (List.mem_append_right _ (List.mem_append_right _ (List.mem_of_getElem? (i := 16) rfl)))) rfl
theorem tb_737 : (Jvm.Cond.methodLink "LightChecksModel" (166 : Nat) ({ cls := "LightChecksModel", name := "headAt", desc := "(II)I" } : Jvm.MethodName)) ∈ wg_T := wg_inT (List.mem_append_right _ (List.mem_append_right _ (List.mem_append_right _ (List.mem_of_getElem? (i := 17) rfl)))) rfl
theorem tb_739 : (Jvm.Cond.instanceMethod ({ cls := "LightChecksModel", name := "headAt", desc := "(II)I" } : Jvm.MethodName)) ∈ wg_T := wg_inT (List.mem_append_right _ (List.mem_append_right _ (List.mem_append_right _ (List.mem_of_getElem? (i := 19) rfl)))) rfl
theorem tb_740 : (Jvm.Cond.code ({ cls := "LightChecksModel", name := "headAt", desc := "(II)I" } : Jvm.MethodName) prog_10_method_27_code (4 : Nat) (Option.some Jvm.ClassFile.FieldType.int)) ∈ wg_T := wg_inT (List.mem_append_right _ (List.mem_append_right _ (List.mem_append_right _ (List.mem_of_getElem? (i := 20) rfl)))) rfl
theorem tb_741 : (Jvm.Cond.methodLink "LightChecksLaw" (68 : Nat) ({ cls := "LightChecksModel", name := "stored", desc := "(II)I" } : Jvm.MethodName)) ∈ wg_T := wg_inT (List.mem_append_right _ (List.mem_append_right _ (List.mem_append_right _ (List.mem_of_getElem? (i := 21) rfl)))) rfl
theorem tb_742 : (Jvm.Cond.instanceMethod ({ cls := "LightChecksModel", name := "stored", desc := "(II)I" } : Jvm.MethodName)) ∈ wg_T := wg_inT (List.mem_append_right _ (List.mem_append_right _ (List.mem_append_right _ (List.mem_of_getElem? (i := 22) rfl)))) rfl
theorem tb_743 : (Jvm.Cond.selects "LightChecksModel" ({ cls := "LightChecksModel", name := "stored", desc := "(II)I" } : Jvm.MethodName) ({ cls := "LightChecksModel", name := "stored", desc := "(II)I" } : Jvm.MethodName)) ∈ wg_T := wg_inT (List.mem_append_right _ (List.mem_append_right _ (List.mem_append_right _ (List.mem_of_getElem? (i := 23) rfl)))) rfl
theorem tb_744 : (Jvm.Cond.code ({ cls := "LightChecksModel", name := "stored", desc := "(II)I" } : Jvm.MethodName) prog_10_method_30_code (3 : Nat) (Option.some Jvm.ClassFile.FieldType.int)) ∈ wg_T := wg_inT (List.mem_append_right _ (List.mem_append_right _ (List.mem_append_right _ (List.mem_of_getElem? (i := 24) rfl)))) rfl
theorem tb_745 : (Jvm.Cond.methodLink "LightChecksLaw" (72 : Nat) ({ cls := "LightChecksModel", name := "client", desc := "(II)I" } : Jvm.MethodName)) ∈ wg_T := wg_inT (List.mem_append_right _ (List.mem_append_right _ (List.mem_append_right _ (List.mem_of_getElem? (i := 25) rfl)))) rfl
theorem tb_746 : (Jvm.Cond.instanceMethod ({ cls := "LightChecksModel", name := "client", desc := "(II)I" } : Jvm.MethodName)) ∈ wg_T := wg_inT (List.mem_append_right _ (List.mem_append_right _ (List.mem_append_right _ (List.mem_of_getElem? (i := 26) rfl)))) rfl
theorem tb_747 : (Jvm.Cond.selects "LightChecksModel" ({ cls := "LightChecksModel", name := "client", desc := "(II)I" } : Jvm.MethodName) ({ cls := "LightChecksModel", name := "client", desc := "(II)I" } : Jvm.MethodName)) ∈ wg_T := wg_inT (List.mem_append_right _ (List.mem_append_right _ (List.mem_append_right _ (List.mem_of_getElem? (i := 27) rfl)))) rfl
theorem tb_748 : (Jvm.Cond.code ({ cls := "LightChecksModel", name := "client", desc := "(II)I" } : Jvm.MethodName) prog_10_method_31_code (3 : Nat) (Option.some Jvm.ClassFile.FieldType.int)) ∈ wg_T := wg_inT (List.mem_append_right _ (List.mem_append_right _ (List.mem_append_right _ (List.mem_of_getElem? (i := 28) rfl)))) rfl
theorem tb_749 : (Jvm.Cond.methodLink "LightChecksLaw" (76 : Nat) ({ cls := "LightChecksModel", name := "compare", desc := "(II)I" } : Jvm.MethodName)) ∈ wg_T := wg_inT (List.mem_append_right _ (List.mem_append_right _ (List.mem_append_right _ (List.mem_of_getElem? (i := 29) rfl)))) rfl
theorem tb_750 : (Jvm.Cond.instanceMethod ({ cls := "LightChecksModel", name := "compare", desc := "(II)I" } : Jvm.MethodName)) ∈ wg_T := wg_inT (List.mem_append_right _ (List.mem_append_right _ (List.mem_append_right _ (List.mem_of_getElem? (i := 30) rfl)))) rfl
theorem tb_751 : (Jvm.Cond.selects "LightChecksModel" ({ cls := "LightChecksModel", name := "compare", desc := "(II)I" } : Jvm.MethodName) ({ cls := "LightChecksModel", name := "compare", desc := "(II)I" } : Jvm.MethodName)) ∈ wg_T := wg_inT (List.mem_append_right _ (List.mem_append_right _ (List.mem_append_right _ (List.mem_of_getElem? (i := 31) rfl)))) rfl
theorem tb_752 : (Jvm.Cond.code ({ cls := "LightChecksModel", name := "compare", desc := "(II)I" } : Jvm.MethodName) prog_10_method_32_code (7 : Nat) (Option.some Jvm.ClassFile.FieldType.int)) ∈ wg_T := wg_inT (List.mem_append_right _ (List.mem_append_right _ (List.mem_append_right _ (List.mem_of_getElem? (i := 32) rfl)))) rfl
theorem tb_753 : (Jvm.Cond.methodLink "LightChecksLaw" (80 : Nat) ({ cls := "LightChecksModel", name := "blame", desc := "(III)I" } : Jvm.MethodName)) ∈ wg_T := wg_inT (List.mem_append_right _ (List.mem_append_right _ (List.mem_append_right _ (List.mem_of_getElem? (i := 33) rfl)))) rfl
theorem tb_754 : (Jvm.Cond.instanceMethod ({ cls := "LightChecksModel", name := "blame", desc := "(III)I" } : Jvm.MethodName)) ∈ wg_T := wg_inT (List.mem_append_right _ (List.mem_append_right _ (List.mem_append_right _ (List.mem_of_getElem? (i := 34) rfl)))) rfl
theorem tb_755 : (Jvm.Cond.selects "LightChecksModel" ({ cls := "LightChecksModel", name := "blame", desc := "(III)I" } : Jvm.MethodName) ({ cls := "LightChecksModel", name := "blame", desc := "(III)I" } : Jvm.MethodName)) ∈ wg_T := wg_inT (List.mem_append_right _ (List.mem_append_right _ (List.mem_append_right _ (List.mem_of_getElem? (i := 35) rfl)))) rfl
theorem tb_756 : (Jvm.Cond.code ({ cls := "LightChecksModel", name := "blame", desc := "(III)I" } : Jvm.MethodName) prog_10_method_33_code (8 : Nat) (Option.some Jvm.ClassFile.FieldType.int)) ∈ wg_T := wg_inT (List.mem_append_right _ (List.mem_append_right _ (List.mem_append_right _ (List.mem_of_getElem? (i := 36) rfl)))) rfl
theorem tb_757 : (Jvm.Cond.methodLink "LightChecksModel" (169 : Nat) ({ cls := "LightChecksModel", name := "compare", desc := "(II)I" } : Jvm.MethodName)) ∈ wg_T := wg_inT (List.mem_append_right _ (List.mem_append_right _ (List.mem_append_right _ (List.mem_of_getElem? (i := 37) rfl)))) rfl
theorem tb_758 : (Jvm.Cond.methodLink "LightChecksLaw" (85 : Nat) ({ cls := "LightChecksModel", name := "leaf", desc := "(IJ)J" } : Jvm.MethodName)) ∈ wg_T := wg_inT (List.mem_append_right _ (List.mem_append_right _ (List.mem_append_right _ (List.mem_of_getElem? (i := 38) rfl)))) rfl
theorem tb_759 : (Jvm.Cond.instanceMethod ({ cls := "LightChecksModel", name := "leaf", desc := "(IJ)J" } : Jvm.MethodName)) ∈ wg_T := wg_inT (List.mem_append_right _ (List.mem_append_right _ (List.mem_append_right _ (List.mem_of_getElem? (i := 39) rfl)))) rfl
theorem tb_760 : (Jvm.Cond.selects "LightChecksModel" ({ cls := "LightChecksModel", name := "leaf", desc := "(IJ)J" } : Jvm.MethodName) ({ cls := "LightChecksModel", name := "leaf", desc := "(IJ)J" } : Jvm.MethodName)) ∈ wg_T := wg_inT (List.mem_append_right _ (List.mem_append_right _ (List.mem_append_right _ (List.mem_of_getElem? (i := 40) rfl)))) rfl
theorem tb_761 : (Jvm.Cond.code ({ cls := "LightChecksModel", name := "leaf", desc := "(IJ)J" } : Jvm.MethodName) prog_10_method_34_code (6 : Nat) (Option.some Jvm.ClassFile.FieldType.long)) ∈ wg_T := wg_inT (List.mem_append_right _ (List.mem_append_right _ (List.mem_append_right _ (List.mem_of_getElem? (i := 41) rfl)))) rfl
theorem tb_762 : (Jvm.Cond.methodLink "LightChecksLaw" (89 : Nat) ({ cls := "LightChecksModel", name := "tree", desc := "(I)J" } : Jvm.MethodName)) ∈ wg_T := wg_inT (List.mem_append_right _ (List.mem_append_right _ (List.mem_append_right _ (List.mem_of_getElem? (i := 42) rfl)))) rfl
theorem tb_763 : (Jvm.Cond.instanceMethod ({ cls := "LightChecksModel", name := "tree", desc := "(I)J" } : Jvm.MethodName)) ∈ wg_T := wg_inT (List.mem_append_right _ (List.mem_append_right _ (List.mem_append_right _ (List.mem_of_getElem? (i := 43) rfl)))) rfl
theorem tb_764 : (Jvm.Cond.selects "LightChecksModel" ({ cls := "LightChecksModel", name := "tree", desc := "(I)J" } : Jvm.MethodName) ({ cls := "LightChecksModel", name := "tree", desc := "(I)J" } : Jvm.MethodName)) ∈ wg_T := wg_inT (List.mem_append_right _ (List.mem_append_right _ (List.mem_append_right _ (List.mem_of_getElem? (i := 44) rfl)))) rfl
theorem tb_765 : (Jvm.Cond.code ({ cls := "LightChecksModel", name := "tree", desc := "(I)J" } : Jvm.MethodName) prog_10_method_36_code (2 : Nat) (Option.some Jvm.ClassFile.FieldType.long)) ∈ wg_T := wg_inT (List.mem_append_right _ (List.mem_append_right _ (List.mem_append_right _ (List.mem_of_getElem? (i := 45) rfl)))) rfl
theorem tb_766 : (Jvm.Cond.constantLong "LightChecksModel" (177 : Nat) (15 : Int64)) ∈ wg_T := wg_inT (List.mem_append_right _ (List.mem_append_right _ (List.mem_append_right _ (List.mem_of_getElem? (i := 46) rfl)))) rfl
theorem tb_767 : (Jvm.Cond.methodLink "LightChecksLaw" (93 : Nat) ({ cls := "LightChecksModel", name := "prove", desc := "(II)I" } : Jvm.MethodName)) ∈ wg_T := wg_inT (List.mem_append_right _ (List.mem_append_right _ (List.mem_append_right _ (List.mem_of_getElem? (i := 47) rfl)))) rfl
theorem tb_768 : (Jvm.Cond.methodLink "LightChecksLaw" (97 : Nat) ({ cls := "LightChecksModel", name := "proof", desc := "(I)J" } : Jvm.MethodName)) ∈ wg_T := wg_inT (List.mem_append_right _ (List.mem_append_right _ (List.mem_append_right _ (List.mem_of_getElem? (i := 48) rfl)))) rfl
theorem tb_769 : (Jvm.Cond.instanceMethod ({ cls := "LightChecksModel", name := "proof", desc := "(I)J" } : Jvm.MethodName)) ∈ wg_T := wg_inT (List.mem_append_right _ (List.mem_append_right _ (List.mem_append_right _ (List.mem_of_getElem? (i := 49) rfl)))) rfl
theorem tb_770 : (Jvm.Cond.selects "LightChecksModel" ({ cls := "LightChecksModel", name := "proof", desc := "(I)J" } : Jvm.MethodName) ({ cls := "LightChecksModel", name := "proof", desc := "(I)J" } : Jvm.MethodName)) ∈ wg_T := wg_inT (List.mem_append_right _ (List.mem_append_right _ (List.mem_append_right _ (List.mem_of_getElem? (i := 50) rfl)))) rfl
theorem tb_771 : (Jvm.Cond.code ({ cls := "LightChecksModel", name := "proof", desc := "(I)J" } : Jvm.MethodName) prog_10_method_38_code (2 : Nat) (Option.some Jvm.ClassFile.FieldType.long)) ∈ wg_T := wg_inT (List.mem_append_right _ (List.mem_append_right _ (List.mem_append_right _ (List.mem_of_getElem? (i := 51) rfl)))) rfl
theorem tb_772 : (Jvm.Cond.constantLong "LightChecksModel" (195 : Nat) (4 : Int64)) ∈ wg_T := wg_inT (List.mem_append_right _ (List.mem_append_right _ (List.mem_append_right _ (List.mem_of_getElem? (i := 52) rfl)))) rfl
theorem tb_773 : (Jvm.Cond.methodLink "LightChecksLaw" (102 : Nat) ({ cls := "LightChecksModel", name := "alter", desc := "(IJ)I" } : Jvm.MethodName)) ∈ wg_T := wg_inT (List.mem_append_right _ (List.mem_append_right _ (List.mem_append_right _ (List.mem_of_getElem? (i := 53) rfl)))) rfl
theorem tb_774 : (Jvm.Cond.instanceMethod ({ cls := "LightChecksModel", name := "alter", desc := "(IJ)I" } : Jvm.MethodName)) ∈ wg_T := wg_inT (List.mem_append_right _ (List.mem_append_right _ (List.mem_append_right _ (List.mem_of_getElem? (i := 54) rfl)))) rfl
theorem tb_775 : (Jvm.Cond.selects "LightChecksModel" ({ cls := "LightChecksModel", name := "alter", desc := "(IJ)I" } : Jvm.MethodName) ({ cls := "LightChecksModel", name := "alter", desc := "(IJ)I" } : Jvm.MethodName)) ∈ wg_T := wg_inT (List.mem_append_right _ (List.mem_append_right _ (List.mem_append_right _ (List.mem_of_getElem? (i := 55) rfl)))) rfl
theorem tb_776 : (Jvm.Cond.code ({ cls := "LightChecksModel", name := "alter", desc := "(IJ)I" } : Jvm.MethodName) prog_10_method_39_code (4 : Nat) (Option.some Jvm.ClassFile.FieldType.int)) ∈ wg_T := wg_inT (List.mem_append_right _ (List.mem_append_right _ (List.mem_append_right _ (List.mem_of_getElem? (i := 56) rfl)))) rfl
theorem tb_777 : (Jvm.Cond.methodLink "LightChecksLaw" (107 : Nat) ({ cls := "LightChecksModel", name := "fraud", desc := "(IIJ)I" } : Jvm.MethodName)) ∈ wg_T := wg_inT (List.mem_append_right _ (List.mem_append_right _ (List.mem_append_right _ (List.mem_of_getElem? (i := 57) rfl)))) rfl
theorem tb_778 : (Jvm.Cond.instanceMethod ({ cls := "LightChecksModel", name := "fraud", desc := "(IIJ)I" } : Jvm.MethodName)) ∈ wg_T := wg_inT (List.mem_append_right _ (List.mem_append_right _ (List.mem_append_right _ (List.mem_of_getElem? (i := 58) rfl)))) rfl
theorem tb_779 : (Jvm.Cond.selects "LightChecksModel" ({ cls := "LightChecksModel", name := "fraud", desc := "(IIJ)I" } : Jvm.MethodName) ({ cls := "LightChecksModel", name := "fraud", desc := "(IIJ)I" } : Jvm.MethodName)) ∈ wg_T := wg_inT (List.mem_append_right _ (List.mem_append_right _ (List.mem_append_right _ (List.mem_of_getElem? (i := 59) rfl)))) rfl
theorem tb_780 : (Jvm.Cond.code ({ cls := "LightChecksModel", name := "fraud", desc := "(IIJ)I" } : Jvm.MethodName) prog_10_method_41_code (8 : Nat) (Option.some Jvm.ClassFile.FieldType.int)) ∈ wg_T := wg_inT (List.mem_append_right _ (List.mem_append_right _ (List.mem_append_right _ (List.mem_of_getElem? (i := 60) rfl)))) rfl
theorem tb_781 : (Jvm.Cond.methodLink "LightChecksModel" (197 : Nat) ({ cls := "LightChecksModel", name := "top", desc := "(JJ)J" } : Jvm.MethodName)) ∈ wg_T := wg_inT (List.mem_append_right _ (List.mem_append_right _ (List.mem_append_right _ (List.mem_of_getElem? (i := 61) rfl)))) rfl
theorem tb_783 : (Jvm.Cond.instanceMethod ({ cls := "LightChecksModel", name := "top", desc := "(JJ)J" } : Jvm.MethodName)) ∈ wg_T := wg_inT (List.mem_append_right _ (List.mem_append_right _ (List.mem_append_right _ (List.mem_of_getElem? (i := 63) rfl)))) rfl
theorem tb_784 : (Jvm.Cond.code ({ cls := "LightChecksModel", name := "top", desc := "(JJ)J" } : Jvm.MethodName) prog_10_method_40_code (6 : Nat) (Option.some Jvm.ClassFile.FieldType.long)) ∈ wg_T := wg_inT (List.mem_append_right _ (List.mem_append_right _ (List.mem_append_right _ (List.mem_of_getElem? (i := 64) rfl)))) rfl
theorem tb_785 : (Jvm.Cond.methodLink "LightChecksLaw" (112 : Nat) ({ cls := "LightChecksModel", name := "chance", desc := "(IIII)J" } : Jvm.MethodName)) ∈ wg_T := wg_inT (List.mem_append_right _ (List.mem_append_right _ (List.mem_append_right _ (List.mem_of_getElem? (i := 65) rfl)))) rfl
theorem tb_786 : (Jvm.Cond.instanceMethod ({ cls := "LightChecksModel", name := "chance", desc := "(IIII)J" } : Jvm.MethodName)) ∈ wg_T := wg_inT (List.mem_append_right _ (List.mem_append_right _ (List.mem_append_right _ (List.mem_of_getElem? (i := 66) rfl)))) rfl
theorem tb_787 : (Jvm.Cond.selects "LightChecksModel" ({ cls := "LightChecksModel", name := "chance", desc := "(IIII)J" } : Jvm.MethodName) ({ cls := "LightChecksModel", name := "chance", desc := "(IIII)J" } : Jvm.MethodName)) ∈ wg_T := wg_inT (List.mem_append_right _ (List.mem_append_right _ (List.mem_append_right _ (List.mem_of_getElem? (i := 67) rfl)))) rfl
theorem tb_788 : (Jvm.Cond.code ({ cls := "LightChecksModel", name := "chance", desc := "(IIII)J" } : Jvm.MethodName) prog_10_method_44_code (11 : Nat) (Option.some Jvm.ClassFile.FieldType.long)) ∈ wg_T := wg_inT (List.mem_append_right _ (List.mem_append_right _ (List.mem_append_right _ (List.mem_of_getElem? (i := 68) rfl)))) rfl
theorem tb_789 : (Jvm.Cond.constantLong "LightChecksModel" (203 : Nat) (60 : Int64)) ∈ wg_T := wg_inT (List.mem_append_right _ (List.mem_append_right _ (List.mem_append_right _ (List.mem_of_getElem? (i := 69) rfl)))) rfl
theorem tb_790 : (Jvm.Cond.constantLong "LightChecksModel" (205 : Nat) (-1 : Int64)) ∈ wg_T := wg_inT (List.mem_append_right _ (List.mem_append_right _ (List.mem_append_right _ (List.mem_of_getElem? (i := 70) rfl)))) rfl
theorem tb_791 : (Jvm.Cond.methodLink "LightChecksModel" (207 : Nat) ({ cls := "LightChecksModel", name := "choose", desc := "(II)J" } : Jvm.MethodName)) ∈ wg_T := wg_inT (List.mem_append_right _ (List.mem_append_right _ (List.mem_append_right _ (List.mem_of_getElem? (i := 71) rfl)))) rfl
theorem tb_792 : (Jvm.Cond.static ({ cls := "LightChecksModel", name := "choose", desc := "(II)J" } : Jvm.MethodName)) ∈ wg_T := wg_inT (List.mem_append_right _ (List.mem_append_right _ (List.mem_append_right _ (List.mem_of_getElem? (i := 72) rfl)))) rfl
theorem tb_793 : (Jvm.Cond.code ({ cls := "LightChecksModel", name := "choose", desc := "(II)J" } : Jvm.MethodName) prog_10_method_43_code (9 : Nat) (Option.some Jvm.ClassFile.FieldType.long)) ∈ wg_T := wg_inT (List.mem_append_right _ (List.mem_append_right _ (List.mem_append_right _ (List.mem_of_getElem? (i := 73) rfl)))) rfl
theorem tb_794 : (Jvm.Cond.methodLink "LightChecksModel" (200 : Nat) ({ cls := "LightChecksModel", name := "gcd", desc := "(JJ)J" } : Jvm.MethodName)) ∈ wg_T := wg_inT (List.mem_append_right _ (List.mem_append_right _ (List.mem_append_right _ (List.mem_of_getElem? (i := 74) rfl)))) rfl
theorem tb_795 : (Jvm.Cond.static ({ cls := "LightChecksModel", name := "gcd", desc := "(JJ)J" } : Jvm.MethodName)) ∈ wg_T := wg_inT (List.mem_append_right _ (List.mem_append_right _ (List.mem_append_right _ (List.mem_of_getElem? (i := 75) rfl)))) rfl
theorem tb_796 : (Jvm.Cond.code ({ cls := "LightChecksModel", name := "gcd", desc := "(JJ)J" } : Jvm.MethodName) prog_10_method_42_code (10 : Nat) (Option.some Jvm.ClassFile.FieldType.long)) ∈ wg_T := wg_inT (List.mem_append_right _ (List.mem_append_right _ (List.mem_append_right _ (List.mem_of_getElem? (i := 76) rfl)))) rfl
theorem tb_797 : (Jvm.Cond.methodLink "LightChecksLaw" (116 : Nat) ({ cls := "LightChecksModel", name := "samples", desc := "(III)I" } : Jvm.MethodName)) ∈ wg_T := wg_inT (List.mem_append_right _ (List.mem_append_right _ (List.mem_append_right _ (List.mem_of_getElem? (i := 77) rfl)))) rfl
theorem tb_798 : (Jvm.Cond.instanceMethod ({ cls := "LightChecksModel", name := "samples", desc := "(III)I" } : Jvm.MethodName)) ∈ wg_T := wg_inT (List.mem_append_right _ (List.mem_append_right _ (List.mem_append_right _ (List.mem_of_getElem? (i := 78) rfl)))) rfl
theorem tb_799 : (Jvm.Cond.selects "LightChecksModel" ({ cls := "LightChecksModel", name := "samples", desc := "(III)I" } : Jvm.MethodName) ({ cls := "LightChecksModel", name := "samples", desc := "(III)I" } : Jvm.MethodName)) ∈ wg_T := wg_inT (List.mem_append_right _ (List.mem_append_right _ (List.mem_append_right _ (List.mem_of_getElem? (i := 79) rfl)))) rfl
theorem tb_800 : (Jvm.Cond.code ({ cls := "LightChecksModel", name := "samples", desc := "(III)I" } : Jvm.MethodName) prog_10_method_45_code (5 : Nat) (Option.some Jvm.ClassFile.FieldType.int)) ∈ wg_T := wg_inT (List.mem_append_right _ (List.mem_append_right _ (List.mem_append_right _ (List.mem_of_getElem? (i := 80) rfl)))) rfl
theorem tb_801 : (Jvm.Cond.constantLong "LightChecksModel" (211 : Nat) (1000000 : Int64)) ∈ wg_T := wg_inT (List.mem_append_right _ (List.mem_append_right _ (List.mem_append_right _ (List.mem_of_getElem? (i := 81) rfl)))) rfl
theorem tb_802 : (Jvm.Cond.methodLink "LightChecksLaw" (120 : Nat) ({ cls := "LightChecksModel", name := "told", desc := "(I)I" } : Jvm.MethodName)) ∈ wg_T := wg_inT (List.mem_append_right _ (List.mem_append_right _ (List.mem_append_right _ (List.mem_of_getElem? (i := 82) rfl)))) rfl
theorem tb_803 : (Jvm.Cond.instanceMethod ({ cls := "LightChecksModel", name := "told", desc := "(I)I" } : Jvm.MethodName)) ∈ wg_T := wg_inT (List.mem_append_right _ (List.mem_append_right _ (List.mem_append_right _ (List.mem_of_getElem? (i := 83) rfl)))) rfl
theorem tb_804 : (Jvm.Cond.selects "LightChecksModel" ({ cls := "LightChecksModel", name := "told", desc := "(I)I" } : Jvm.MethodName) ({ cls := "LightChecksModel", name := "told", desc := "(I)I" } : Jvm.MethodName)) ∈ wg_T := wg_inT (List.mem_append_right _ (List.mem_append_right _ (List.mem_append_right _ (List.mem_of_getElem? (i := 84) rfl)))) rfl
theorem tb_805 : (Jvm.Cond.code ({ cls := "LightChecksModel", name := "told", desc := "(I)I" } : Jvm.MethodName) prog_10_method_46_code (2 : Nat) (Option.some Jvm.ClassFile.FieldType.int)) ∈ wg_T := wg_inT (List.mem_append_right _ (List.mem_append_right _ (List.mem_append_right _ (List.mem_of_getElem? (i := 85) rfl)))) rfl
theorem tb_806 : (Jvm.Cond.constantLong "LightChecksModel" (213 : Nat) (5 : Int64)) ∈ wg_T := wg_inT (List.mem_append_right _ (List.mem_append_right _ (List.mem_append_right _ (List.mem_of_getElem? (i := 86) rfl)))) rfl
theorem tb_807 : (Jvm.Cond.constantLong "LightChecksLaw" (13 : Nat) (4294967295 : Int64)) ∈ wg_T := wg_inT (List.mem_append_right _ (List.mem_append_right _ (List.mem_append_right _ (List.mem_of_getElem? (i := 87) rfl)))) rfl
theorem nb_20 : (Jvm.Cond.arrayOver (Jvm.ClassFile.FieldType.object "LightChecks$WeightSet")) ∈ wg_N := wg_inN (List.mem_append_left _ (List.mem_of_getElem? (i := 20) rfl)) rfl
theorem nb_23 : (Jvm.Cond.methodLinkNest "LightChecks" (21 : Nat) ({ cls := "LightChecks$HeadRow", name := "<init>", desc := "(I)V" } : Jvm.MethodName) "LightChecks") ∈ wg_N := wg_inN (List.mem_append_left _ (List.mem_of_getElem? (i := 23) rfl)) rfl
theorem nb_31 : (Jvm.Cond.arrayOver (Jvm.ClassFile.FieldType.object "LightChecks$Head")) ∈ wg_N := wg_inN (List.mem_append_left _ (List.mem_of_getElem? (i := 31) rfl)) rfl
theorem nb_34 : (Jvm.Cond.fieldLinkNest "LightChecks$Giver" (20 : Nat) "LightChecks$HeadRow" "size" "I" "LightChecks") ∈ wg_N := wg_inN (List.mem_append_left _ (List.mem_of_getElem? (i := 34) rfl)) rfl
theorem nb_35 : (Jvm.Cond.fieldLinkNest "LightChecks$Client" (37 : Nat) "LightChecks$HeadRow" "size" "I" "LightChecks") ∈ wg_N := wg_inN (List.mem_append_left _ (List.mem_of_getElem? (i := 35) rfl)) rfl
theorem nb_36 : (Jvm.Cond.fieldLinkNest "LightChecks" (86 : Nat) "LightChecks$HeadRow" "size" "I" "LightChecks") ∈ wg_N := wg_inN (List.mem_append_left _ (List.mem_of_getElem? (i := 36) rfl)) rfl
theorem nb_43 : (Jvm.Cond.arrayOver (Jvm.ClassFile.FieldType.object "LightChecks$Client")) ∈ wg_N := wg_inN (List.mem_append_left _ (List.mem_of_getElem? (i := 43) rfl)) rfl
theorem nb_45 : (Jvm.Cond.arrayOver (Jvm.ClassFile.FieldType.object "LightChecks$Giver")) ∈ wg_N := wg_inN (List.mem_append_left _ (List.mem_of_getElem? (i := 45) rfl)) rfl
theorem nb_48 : (Jvm.Cond.methodLinkNest "LightChecks" (49 : Nat) ({ cls := "LightChecks$Tree", name := "<init>", desc := "()V" } : Jvm.MethodName) "LightChecks") ∈ wg_N := wg_inN (List.mem_append_left _ (List.mem_of_getElem? (i := 48) rfl)) rfl
theorem nb_56 : (Jvm.Cond.methodLinkNest "LightChecks$Tree" (21 : Nat) ({ cls := "LightChecks", name := "mix", desc := "(J)J" } : Jvm.MethodName) "LightChecks") ∈ wg_N := wg_inN (List.mem_append_left _ (List.mem_of_getElem? (i := 56) rfl)) rfl
theorem nb_61 : (Jvm.Cond.methodLinkNest "LightChecks$Tree" (25 : Nat) ({ cls := "LightChecks", name := "pair", desc := "(JJ)J" } : Jvm.MethodName) "LightChecks") ∈ wg_N := wg_inN (List.mem_append_left _ (List.mem_of_getElem? (i := 61) rfl)) rfl
theorem nb_78 : (Jvm.Cond.methodLinkNest "LightChecks" (56 : Nat) ({ cls := "LightChecks$Proof", name := "<init>", desc := "()V" } : Jvm.MethodName) "LightChecks") ∈ wg_N := wg_inN (List.mem_append_left _ (List.mem_of_getElem? (i := 78) rfl)) rfl
theorem nb_88 : (Jvm.Cond.fieldLinkNest "LightChecks" (197 : Nat) "LightChecks$Proof" "count" "I" "LightChecks") ∈ wg_N := wg_inN (List.mem_append_left _ (List.mem_of_getElem? (i := 88) rfl)) rfl
theorem nb_106 : (Jvm.Cond.methodLinkNest "LightChecks" (61 : Nat) ({ cls := "LightChecks$Client", name := "<init>", desc := "()V" } : Jvm.MethodName) "LightChecks") ∈ wg_N := wg_inN (List.mem_append_left _ (List.mem_of_getElem? (i := 106) rfl)) rfl
theorem nb_111 : (Jvm.Cond.methodLinkNest "LightChecks$Client" (11 : Nat) ({ cls := "LightChecks$HeadRow", name := "<init>", desc := "(I)V" } : Jvm.MethodName) "LightChecks") ∈ wg_N := wg_inN (List.mem_append_left _ (List.mem_of_getElem? (i := 111) rfl)) rfl
theorem nb_113 : (Jvm.Cond.fieldLinkNest "LightChecks" (164 : Nat) "LightChecks$Client" "rows" "LLightChecks$HeadRow;" "LightChecks") ∈ wg_N := wg_inN (List.mem_append_left _ (List.mem_of_getElem? (i := 113) rfl)) rfl
theorem nb_115 : (Jvm.Cond.fieldLinkNest "LightChecks" (167 : Nat) "LightChecks$Client" "cost" "I" "LightChecks") ∈ wg_N := wg_inN (List.mem_append_left _ (List.mem_of_getElem? (i := 115) rfl)) rfl
theorem nb_117 : (Jvm.Cond.fieldLinkNest "LightChecks" (170 : Nat) "LightChecks$Client" "refusedBy" "I" "LightChecks") ∈ wg_N := wg_inN (List.mem_append_left _ (List.mem_of_getElem? (i := 117) rfl)) rfl
theorem nb_119 : (Jvm.Cond.fieldLinkNest "LightChecks" (173 : Nat) "LightChecks$Client" "refusedAt" "I" "LightChecks") ∈ wg_N := wg_inN (List.mem_append_left _ (List.mem_of_getElem? (i := 119) rfl)) rfl
theorem nb_130 : (Jvm.Cond.methodLinkNest "LightChecks" (62 : Nat) ({ cls := "LightChecks$Giver", name := "<init>", desc := "()V" } : Jvm.MethodName) "LightChecks") ∈ wg_N := wg_inN (List.mem_append_left _ (List.mem_of_getElem? (i := 130) rfl)) rfl
theorem nb_135 : (Jvm.Cond.methodLinkNest "LightChecks$Giver" (11 : Nat) ({ cls := "LightChecks$HeadRow", name := "<init>", desc := "(I)V" } : Jvm.MethodName) "LightChecks") ∈ wg_N := wg_inN (List.mem_append_left _ (List.mem_of_getElem? (i := 135) rfl)) rfl
theorem nb_140 : (Jvm.Cond.methodLinkNest "LightChecks" (63 : Nat) ({ cls := "LightChecks$Proof", name := "take", desc := "(LLightChecks$Tree;II)V" } : Jvm.MethodName) "LightChecks") ∈ wg_N := wg_inN (List.mem_append_left _ (List.mem_of_getElem? (i := 140) rfl)) rfl
theorem nb_144 : (Jvm.Cond.methodLinkNest "LightChecks$Proof" (35 : Nat) ({ cls := "LightChecks$Tree", name := "leafAt", desc := "(I)J" } : Jvm.MethodName) "LightChecks") ∈ wg_N := wg_inN (List.mem_append_left _ (List.mem_of_getElem? (i := 144) rfl)) rfl
theorem nb_148 : (Jvm.Cond.methodLinkNest "LightChecks$Tree" (29 : Nat) ({ cls := "LightChecks", name := "isLeaf", desc := "(I)Z" } : Jvm.MethodName) "LightChecks") ∈ wg_N := wg_inN (List.mem_append_left _ (List.mem_of_getElem? (i := 148) rfl)) rfl
theorem nb_159 : (Jvm.Cond.methodLinkNest "LightChecks$Proof" (45 : Nat) ({ cls := "LightChecks$Tree", name := "nodeAt", desc := "(I)J" } : Jvm.MethodName) "LightChecks") ∈ wg_N := wg_inN (List.mem_append_left _ (List.mem_of_getElem? (i := 159) rfl)) rfl
theorem nb_202 : (Jvm.Cond.methodLinkNest "LightChecks" (71 : Nat) ({ cls := "LightChecks$WeightSet", name := "<init>", desc := "(IJJ)V" } : Jvm.MethodName) "LightChecks") ∈ wg_N := wg_inN (List.mem_append_left _ (List.mem_of_getElem? (i := 202) rfl)) rfl
theorem nb_206 : (Jvm.Cond.methodLinkNest "LightChecks$WeightSet" (22 : Nat) ({ cls := "LightChecks", name := "weightIn", desc := "(JI)I" } : Jvm.MethodName) "LightChecks") ∈ wg_N := wg_inN (List.mem_append_left _ (List.mem_of_getElem? (i := 206) rfl)) rfl
theorem nb_208 : (Jvm.Cond.fieldLinkNest "LightChecks$Head" (39 : Nat) "LightChecks$WeightSet" "number" "I" "LightChecks") ∈ wg_N := wg_inN (List.mem_append_left _ (List.mem_of_getElem? (i := 208) rfl)) rfl
theorem nb_209 : (Jvm.Cond.fieldLinkNest "LightChecks" (252 : Nat) "LightChecks$WeightSet" "number" "I" "LightChecks") ∈ wg_N := wg_inN (List.mem_append_left _ (List.mem_of_getElem? (i := 209) rfl)) rfl
theorem nb_213 : (Jvm.Cond.fieldLinkNest "LightChecks" (236 : Nat) "LightChecks$WeightSet" "total" "I" "LightChecks") ∈ wg_N := wg_inN (List.mem_append_left _ (List.mem_of_getElem? (i := 213) rfl)) rfl
theorem nb_235 : (Jvm.Cond.methodLinkNest "LightChecks" (82 : Nat) ({ cls := "LightChecks$HeadRow", name := "isFull", desc := "()Z" } : Jvm.MethodName) "LightChecks") ∈ wg_N := wg_inN (List.mem_append_left _ (List.mem_of_getElem? (i := 235) rfl)) rfl
theorem nb_241 : (Jvm.Cond.methodLinkNest "LightChecks" (91 : Nat) ({ cls := "LightChecks$Head", name := "<init>", desc := "(IIJLLightChecks$WeightSet;LLightChecks$WeightSet;J)V" } : Jvm.MethodName) "LightChecks") ∈ wg_N := wg_inN (List.mem_append_right _ (List.mem_append_left _ (List.mem_of_getElem? (i := 1) rfl))) rfl
theorem nb_245 : (Jvm.Cond.methodLinkNest "LightChecks$Head" (33 : Nat) ({ cls := "LightChecks", name := "pair", desc := "(JJ)J" } : Jvm.MethodName) "LightChecks") ∈ wg_N := wg_inN (List.mem_append_right _ (List.mem_append_left _ (List.mem_of_getElem? (i := 5) rfl))) rfl
theorem nb_247 : (Jvm.Cond.fieldLinkNest "LightChecks" (157 : Nat) "LightChecks$Head" "number" "I" "LightChecks") ∈ wg_N := wg_inN (List.mem_append_right _ (List.mem_append_left _ (List.mem_of_getElem? (i := 7) rfl))) rfl
theorem nb_249 : (Jvm.Cond.fieldLinkNest "LightChecks$Giver" (28 : Nat) "LightChecks$Head" "height" "I" "LightChecks") ∈ wg_N := wg_inN (List.mem_append_right _ (List.mem_append_left _ (List.mem_of_getElem? (i := 9) rfl))) rfl
theorem nb_250 : (Jvm.Cond.fieldLinkNest "LightChecks$Client" (48 : Nat) "LightChecks$Head" "height" "I" "LightChecks") ∈ wg_N := wg_inN (List.mem_append_right _ (List.mem_append_left _ (List.mem_of_getElem? (i := 10) rfl))) rfl
theorem nb_251 : (Jvm.Cond.fieldLinkNest "LightChecks" (138 : Nat) "LightChecks$Head" "height" "I" "LightChecks") ∈ wg_N := wg_inN (List.mem_append_right _ (List.mem_append_left _ (List.mem_of_getElem? (i := 11) rfl))) rfl
theorem nb_253 : (Jvm.Cond.fieldLinkNest "LightChecks" (245 : Nat) "LightChecks$Head" "parent" "J" "LightChecks") ∈ wg_N := wg_inN (List.mem_append_right _ (List.mem_append_left _ (List.mem_of_getElem? (i := 13) rfl))) rfl
theorem nb_255 : (Jvm.Cond.fieldLinkNest "LightChecks" (248 : Nat) "LightChecks$Head" "own" "LLightChecks$WeightSet;" "LightChecks") ∈ wg_N := wg_inN (List.mem_append_right _ (List.mem_append_left _ (List.mem_of_getElem? (i := 15) rfl))) rfl
theorem nb_257 : (Jvm.Cond.fieldLinkNest "LightChecks" (253 : Nat) "LightChecks$Head" "following" "LLightChecks$WeightSet;" "LightChecks") ∈ wg_N := wg_inN (List.mem_append_right _ (List.mem_append_left _ (List.mem_of_getElem? (i := 17) rfl))) rfl
theorem nb_259 : (Jvm.Cond.fieldLinkNest "LightChecks" (210 : Nat) "LightChecks$Head" "root" "J" "LightChecks") ∈ wg_N := wg_inN (List.mem_append_right _ (List.mem_append_left _ (List.mem_of_getElem? (i := 19) rfl))) rfl
theorem nb_261 : (Jvm.Cond.fieldLinkNest "LightChecks$Giver" (52 : Nat) "LightChecks$Head" "fingerprint" "J" "LightChecks") ∈ wg_N := wg_inN (List.mem_append_right _ (List.mem_append_left _ (List.mem_of_getElem? (i := 21) rfl))) rfl
theorem nb_262 : (Jvm.Cond.fieldLinkNest "LightChecks" (111 : Nat) "LightChecks$Head" "fingerprint" "J" "LightChecks") ∈ wg_N := wg_inN (List.mem_append_right _ (List.mem_append_left _ (List.mem_of_getElem? (i := 22) rfl))) rfl
theorem nb_264 : (Jvm.Cond.fieldLinkNest "LightChecks" (102 : Nat) "LightChecks$Head" "signers" "I" "LightChecks") ∈ wg_N := wg_inN (List.mem_append_right _ (List.mem_append_left _ (List.mem_of_getElem? (i := 24) rfl))) rfl
theorem nb_282 : (Jvm.Cond.methodLinkNest "LightChecks" (94 : Nat) ({ cls := "LightChecks$HeadRow", name := "add", desc := "(LLightChecks$Head;)V" } : Jvm.MethodName) "LightChecks") ∈ wg_N := wg_inN (List.mem_append_right _ (List.mem_append_left _ (List.mem_of_getElem? (i := 42) rfl))) rfl
theorem nb_291 : (Jvm.Cond.methodLinkNest "LightChecks" (98 : Nat) ({ cls := "LightChecks$HeadRow", name := "at", desc := "(I)LLightChecks$Head;" } : Jvm.MethodName) "LightChecks") ∈ wg_N := wg_inN (List.mem_append_right _ (List.mem_append_left _ (List.mem_of_getElem? (i := 51) rfl))) rfl
theorem nb_314 : (Jvm.Cond.methodLinkNest "LightChecks" (232 : Nat) ({ cls := "LightChecks$WeightSet", name := "weightOf", desc := "(I)I" } : Jvm.MethodName) "LightChecks") ∈ wg_N := wg_inN (List.mem_append_right _ (List.mem_append_left _ (List.mem_of_getElem? (i := 74) rfl))) rfl
theorem nb_334 : (Jvm.Cond.methodLinkNest "LightChecks" (127 : Nat) ({ cls := "LightChecks$Client", name := "begin", desc := "(LLightChecks$Head;)V" } : Jvm.MethodName) "LightChecks") ∈ wg_N := wg_inN (List.mem_append_right _ (List.mem_append_left _ (List.mem_of_getElem? (i := 94) rfl))) rfl
theorem nb_338 : (Jvm.Cond.methodLinkNest "LightChecks$Client" (30 : Nat) ({ cls := "LightChecks$HeadRow", name := "cutTo", desc := "(I)V" } : Jvm.MethodName) "LightChecks") ∈ wg_N := wg_inN (List.mem_append_right _ (List.mem_append_left _ (List.mem_of_getElem? (i := 98) rfl))) rfl
theorem nb_345 : (Jvm.Cond.methodLinkNest "LightChecks$Client" (33 : Nat) ({ cls := "LightChecks$HeadRow", name := "add", desc := "(LLightChecks$Head;)V" } : Jvm.MethodName) "LightChecks") ∈ wg_N := wg_inN (List.mem_append_right _ (List.mem_append_left _ (List.mem_of_getElem? (i := 105) rfl))) rfl
theorem nb_350 : (Jvm.Cond.methodLinkNest "LightChecks" (130 : Nat) ({ cls := "LightChecks$Client", name := "trusted", desc := "()LLightChecks$Head;" } : Jvm.MethodName) "LightChecks") ∈ wg_N := wg_inN (List.mem_append_right _ (List.mem_append_left _ (List.mem_of_getElem? (i := 110) rfl))) rfl
theorem nb_354 : (Jvm.Cond.methodLinkNest "LightChecks$Client" (40 : Nat) ({ cls := "LightChecks$HeadRow", name := "at", desc := "(I)LLightChecks$Head;" } : Jvm.MethodName) "LightChecks") ∈ wg_N := wg_inN (List.mem_append_right _ (List.mem_append_left _ (List.mem_of_getElem? (i := 114) rfl))) rfl
theorem nb_367 : (Jvm.Cond.methodLinkNest "LightChecks" (141 : Nat) ({ cls := "LightChecks$Client", name := "refuse", desc := "(II)I" } : Jvm.MethodName) "LightChecks") ∈ wg_N := wg_inN (List.mem_append_right _ (List.mem_append_left _ (List.mem_of_getElem? (i := 127) rfl))) rfl
theorem nb_371 : (Jvm.Cond.methodLinkNest "LightChecks" (145 : Nat) ({ cls := "LightChecks$Client", name := "keep", desc := "(LLightChecks$Head;I)V" } : Jvm.MethodName) "LightChecks") ∈ wg_N := wg_inN (List.mem_append_right _ (List.mem_append_left _ (List.mem_of_getElem? (i := 131) rfl))) rfl
theorem nb_375 : (Jvm.Cond.methodLinkNest "LightChecks$Client" (44 : Nat) ({ cls := "LightChecks$HeadRow", name := "put", desc := "(ILLightChecks$Head;)V" } : Jvm.MethodName) "LightChecks") ∈ wg_N := wg_inN (List.mem_append_right _ (List.mem_append_left _ (List.mem_of_getElem? (i := 135) rfl))) rfl
theorem nb_387 : (Jvm.Cond.methodLinkNest "LightChecks" (153 : Nat) ({ cls := "LightChecks$Giver", name := "replace", desc := "(LLightChecks$Head;)LLightChecks$Head;" } : Jvm.MethodName) "LightChecks") ∈ wg_N := wg_inN (List.mem_append_right _ (List.mem_append_left _ (List.mem_of_getElem? (i := 147) rfl))) rfl
theorem nb_395 : (Jvm.Cond.methodLinkNest "LightChecks$Giver" (24 : Nat) ({ cls := "LightChecks$HeadRow", name := "at", desc := "(I)LLightChecks$Head;" } : Jvm.MethodName) "LightChecks") ∈ wg_N := wg_inN (List.mem_append_right _ (List.mem_append_left _ (List.mem_of_getElem? (i := 155) rfl))) rfl
theorem nb_396 : (Jvm.Cond.methodLinkNest "LightChecks$Giver" (37 : Nat) ({ cls := "LightChecks$HeadRow", name := "add", desc := "(LLightChecks$Head;)V" } : Jvm.MethodName) "LightChecks") ∈ wg_N := wg_inN (List.mem_append_right _ (List.mem_append_left _ (List.mem_of_getElem? (i := 156) rfl))) rfl
theorem nb_397 : (Jvm.Cond.methodLinkNest "LightChecks$Giver" (41 : Nat) ({ cls := "LightChecks$HeadRow", name := "put", desc := "(ILLightChecks$Head;)V" } : Jvm.MethodName) "LightChecks") ∈ wg_N := wg_inN (List.mem_append_right _ (List.mem_append_left _ (List.mem_of_getElem? (i := 157) rfl))) rfl
theorem nb_407 : (Jvm.Cond.methodLinkNest "LightChecks" (183 : Nat) ({ cls := "LightChecks$Giver", name := "headAt", desc := "(I)LLightChecks$Head;" } : Jvm.MethodName) "LightChecks") ∈ wg_N := wg_inN (List.mem_append_right _ (List.mem_append_left _ (List.mem_of_getElem? (i := 167) rfl))) rfl
theorem nb_423 : (Jvm.Cond.methodLinkNest "LightChecks" (176 : Nat) ({ cls := "LightChecks$Giver", name := "leastUnlike", desc := "(LLightChecks$Giver;)I" } : Jvm.MethodName) "LightChecks") ∈ wg_N := wg_inN (List.mem_append_right _ (List.mem_append_left _ (List.mem_of_getElem? (i := 183) rfl))) rfl
theorem nb_435 : (Jvm.Cond.methodLinkNest "LightChecks" (180 : Nat) ({ cls := "LightChecks$Client", name := "lastBelow", desc := "(I)LLightChecks$Head;" } : Jvm.MethodName) "LightChecks") ∈ wg_N := wg_inN (List.mem_append_right _ (List.mem_append_left _ (List.mem_of_getElem? (i := 195) rfl))) rfl
theorem nb_443 : (Jvm.Cond.methodLinkNest "LightChecks" (186 : Nat) ({ cls := "LightChecks$Tree", name := "change", desc := "(IJ)J" } : Jvm.MethodName) "LightChecks") ∈ wg_N := wg_inN (List.mem_append_right _ (List.mem_append_left _ (List.mem_of_getElem? (i := 203) rfl))) rfl
theorem nb_451 : (Jvm.Cond.methodLinkNest "LightChecks" (190 : Nat) ({ cls := "LightChecks$Tree", name := "nodeAt", desc := "(I)J" } : Jvm.MethodName) "LightChecks") ∈ wg_N := wg_inN (List.mem_append_right _ (List.mem_append_left _ (List.mem_of_getElem? (i := 211) rfl))) rfl
theorem nb_461 : (Jvm.Cond.methodLinkNest "LightChecks" (200 : Nat) ({ cls := "LightChecks$Proof", name := "numberAt", desc := "(I)J" } : Jvm.MethodName) "LightChecks") ∈ wg_N := wg_inN (List.mem_append_right _ (List.mem_append_left _ (List.mem_of_getElem? (i := 221) rfl))) rfl
theorem nb_473 : (Jvm.Cond.methodLinkNest "LightChecks" (203 : Nat) ({ cls := "LightChecks$Proof", name := "replace", desc := "(IJ)Z" } : Jvm.MethodName) "LightChecks") ∈ wg_N := wg_inN (List.mem_append_right _ (List.mem_append_left _ (List.mem_of_getElem? (i := 233) rfl))) rfl
theorem nb_481 : (Jvm.Cond.methodLinkNest "LightChecks" (206 : Nat) ({ cls := "LightChecks$Proof", name := "topBefore", desc := "()J" } : Jvm.MethodName) "LightChecks") ∈ wg_N := wg_inN (List.mem_append_right _ (List.mem_append_right _ (List.mem_append_left _ (List.mem_of_getElem? (i := 1) rfl)))) rfl
theorem nb_489 : (Jvm.Cond.methodLinkNest "LightChecks$Proof" (62 : Nat) ({ cls := "LightChecks", name := "mix", desc := "(J)J" } : Jvm.MethodName) "LightChecks") ∈ wg_N := wg_inN (List.mem_append_right _ (List.mem_append_right _ (List.mem_append_left _ (List.mem_of_getElem? (i := 9) rfl)))) rfl
theorem nb_490 : (Jvm.Cond.methodLinkNest "LightChecks$Proof" (66 : Nat) ({ cls := "LightChecks", name := "pair", desc := "(JJ)J" } : Jvm.MethodName) "LightChecks") ∈ wg_N := wg_inN (List.mem_append_right _ (List.mem_append_right _ (List.mem_append_left _ (List.mem_of_getElem? (i := 10) rfl)))) rfl
theorem nb_491 : (Jvm.Cond.methodLinkNest "LightChecks" (213 : Nat) ({ cls := "LightChecks$Proof", name := "topBehind", desc := "(J)J" } : Jvm.MethodName) "LightChecks") ∈ wg_N := wg_inN (List.mem_append_right _ (List.mem_append_right _ (List.mem_append_left _ (List.mem_of_getElem? (i := 11) rfl)))) rfl
theorem ts_0 : Cond.selects "LightChecks$Tree" (⟨"LightChecks$Tree", "reckon", "()V"⟩ : MethodName) ⟨"LightChecks$Tree", "reckon", "()V"⟩ ∈ wg_T := wg_inS (List.mem_of_getElem? (i := 0) rfl) rfl
theorem ts_1 : Cond.selects "LightChecks$Proof" (⟨"LightChecks$Proof", "take", "(LLightChecks$Tree;II)V"⟩ : MethodName) ⟨"LightChecks$Proof", "take", "(LLightChecks$Tree;II)V"⟩ ∈ wg_T := wg_inS (List.mem_of_getElem? (i := 1) rfl) rfl
theorem ts_2 : Cond.selects "LightChecks$Tree" (⟨"LightChecks$Tree", "leafAt", "(I)J"⟩ : MethodName) ⟨"LightChecks$Tree", "leafAt", "(I)J"⟩ ∈ wg_T := wg_inS (List.mem_of_getElem? (i := 2) rfl) rfl
theorem ts_3 : Cond.selects "LightChecks$Proof" (⟨"LightChecks$Proof", "isBeside", "(I)Z"⟩ : MethodName) ⟨"LightChecks$Proof", "isBeside", "(I)Z"⟩ ∈ wg_T := wg_inS (List.mem_of_getElem? (i := 3) rfl) rfl
theorem ts_4 : Cond.selects "LightChecks$Proof" (⟨"LightChecks$Proof", "isOnWay", "(I)Z"⟩ : MethodName) ⟨"LightChecks$Proof", "isOnWay", "(I)Z"⟩ ∈ wg_T := wg_inS (List.mem_of_getElem? (i := 4) rfl) rfl
theorem ts_5 : Cond.selects "LightChecks$Tree" (⟨"LightChecks$Tree", "nodeAt", "(I)J"⟩ : MethodName) ⟨"LightChecks$Tree", "nodeAt", "(I)J"⟩ ∈ wg_T := wg_inS (List.mem_of_getElem? (i := 5) rfl) rfl
theorem ts_6 : Cond.selects "LightChecks" (⟨"LightChecks", "setAt", "(I)LLightChecks$WeightSet;"⟩ : MethodName) ⟨"LightChecks", "setAt", "(I)LLightChecks$WeightSet;"⟩ ∈ wg_T := wg_inS (List.mem_of_getElem? (i := 6) rfl) rfl
theorem ts_7 : Cond.selects "LightChecks$HeadRow" (⟨"LightChecks$HeadRow", "isFull", "()Z"⟩ : MethodName) ⟨"LightChecks$HeadRow", "isFull", "()Z"⟩ ∈ wg_T := wg_inS (List.mem_of_getElem? (i := 7) rfl) rfl
theorem ts_8 : Cond.selects "LightChecks$HeadRow" (⟨"LightChecks$HeadRow", "add", "(LLightChecks$Head;)V"⟩ : MethodName) ⟨"LightChecks$HeadRow", "add", "(LLightChecks$Head;)V"⟩ ∈ wg_T := wg_inS (List.mem_of_getElem? (i := 8) rfl) rfl
theorem ts_9 : Cond.selects "LightChecks$HeadRow" (⟨"LightChecks$HeadRow", "at", "(I)LLightChecks$Head;"⟩ : MethodName) ⟨"LightChecks$HeadRow", "at", "(I)LLightChecks$Head;"⟩ ∈ wg_T := wg_inS (List.mem_of_getElem? (i := 9) rfl) rfl
theorem ts_10 : Cond.selects "LightChecks$WeightSet" (⟨"LightChecks$WeightSet", "weightOf", "(I)I"⟩ : MethodName) ⟨"LightChecks$WeightSet", "weightOf", "(I)I"⟩ ∈ wg_T := wg_inS (List.mem_of_getElem? (i := 10) rfl) rfl
theorem ts_11 : Cond.selects "LightChecks" (⟨"LightChecks", "doesOverlap", "(LLightChecks$Head;LLightChecks$WeightSet;)Z"⟩ : MethodName) ⟨"LightChecks", "doesOverlap", "(LLightChecks$Head;LLightChecks$WeightSet;)Z"⟩ ∈ wg_T := wg_inS (List.mem_of_getElem? (i := 11) rfl) rfl
theorem ts_12 : Cond.selects "LightChecks" (⟨"LightChecks", "clientAt", "(I)LLightChecks$Client;"⟩ : MethodName) ⟨"LightChecks", "clientAt", "(I)LLightChecks$Client;"⟩ ∈ wg_T := wg_inS (List.mem_of_getElem? (i := 12) rfl) rfl
theorem ts_13 : Cond.selects "LightChecks$Client" (⟨"LightChecks$Client", "begin", "(LLightChecks$Head;)V"⟩ : MethodName) ⟨"LightChecks$Client", "begin", "(LLightChecks$Head;)V"⟩ ∈ wg_T := wg_inS (List.mem_of_getElem? (i := 13) rfl) rfl
theorem ts_14 : Cond.selects "LightChecks$HeadRow" (⟨"LightChecks$HeadRow", "cutTo", "(I)V"⟩ : MethodName) ⟨"LightChecks$HeadRow", "cutTo", "(I)V"⟩ ∈ wg_T := wg_inS (List.mem_of_getElem? (i := 14) rfl) rfl
theorem ts_15 : Cond.selects "LightChecks$Client" (⟨"LightChecks$Client", "trusted", "()LLightChecks$Head;"⟩ : MethodName) ⟨"LightChecks$Client", "trusted", "()LLightChecks$Head;"⟩ ∈ wg_T := wg_inS (List.mem_of_getElem? (i := 15) rfl) rfl
theorem ts_16 : Cond.selects "LightChecks" (⟨"LightChecks", "refusal", "(LLightChecks$Head;LLightChecks$Head;)I"⟩ : MethodName) ⟨"LightChecks", "refusal", "(LLightChecks$Head;LLightChecks$Head;)I"⟩ ∈ wg_T := wg_inS (List.mem_of_getElem? (i := 16) rfl) rfl
theorem ts_17 : Cond.selects "LightChecks" (⟨"LightChecks", "stepRefusal", "(LLightChecks$Head;LLightChecks$Head;)I"⟩ : MethodName) ⟨"LightChecks", "stepRefusal", "(LLightChecks$Head;LLightChecks$Head;)I"⟩ ∈ wg_T := wg_inS (List.mem_of_getElem? (i := 17) rfl) rfl
theorem ts_18 : Cond.selects "LightChecks" (⟨"LightChecks", "skipRefusal", "(LLightChecks$Head;LLightChecks$Head;)I"⟩ : MethodName) ⟨"LightChecks", "skipRefusal", "(LLightChecks$Head;LLightChecks$Head;)I"⟩ ∈ wg_T := wg_inS (List.mem_of_getElem? (i := 18) rfl) rfl
theorem ts_19 : Cond.selects "LightChecks$Client" (⟨"LightChecks$Client", "refuse", "(II)I"⟩ : MethodName) ⟨"LightChecks$Client", "refuse", "(II)I"⟩ ∈ wg_T := wg_inS (List.mem_of_getElem? (i := 19) rfl) rfl
theorem ts_20 : Cond.selects "LightChecks$Client" (⟨"LightChecks$Client", "keep", "(LLightChecks$Head;I)V"⟩ : MethodName) ⟨"LightChecks$Client", "keep", "(LLightChecks$Head;I)V"⟩ ∈ wg_T := wg_inS (List.mem_of_getElem? (i := 20) rfl) rfl
theorem ts_21 : Cond.selects "LightChecks$HeadRow" (⟨"LightChecks$HeadRow", "put", "(ILLightChecks$Head;)V"⟩ : MethodName) ⟨"LightChecks$HeadRow", "put", "(ILLightChecks$Head;)V"⟩ ∈ wg_T := wg_inS (List.mem_of_getElem? (i := 21) rfl) rfl
theorem ts_22 : Cond.selects "LightChecks" (⟨"LightChecks", "giverAt", "(I)LLightChecks$Giver;"⟩ : MethodName) ⟨"LightChecks", "giverAt", "(I)LLightChecks$Giver;"⟩ ∈ wg_T := wg_inS (List.mem_of_getElem? (i := 22) rfl) rfl
theorem ts_23 : Cond.selects "LightChecks$Giver" (⟨"LightChecks$Giver", "replace", "(LLightChecks$Head;)LLightChecks$Head;"⟩ : MethodName) ⟨"LightChecks$Giver", "replace", "(LLightChecks$Head;)LLightChecks$Head;"⟩ ∈ wg_T := wg_inS (List.mem_of_getElem? (i := 23) rfl) rfl
theorem ts_24 : Cond.selects "LightChecks$Giver" (⟨"LightChecks$Giver", "placeOf", "(I)I"⟩ : MethodName) ⟨"LightChecks$Giver", "placeOf", "(I)I"⟩ ∈ wg_T := wg_inS (List.mem_of_getElem? (i := 24) rfl) rfl
theorem ts_25 : Cond.selects "LightChecks" (⟨"LightChecks", "climb", "(LLightChecks$Client;LLightChecks$Giver;I)I"⟩ : MethodName) ⟨"LightChecks", "climb", "(LLightChecks$Client;LLightChecks$Giver;I)I"⟩ ∈ wg_T := wg_inS (List.mem_of_getElem? (i := 25) rfl) rfl
theorem ts_26 : Cond.selects "LightChecks$Giver" (⟨"LightChecks$Giver", "headAt", "(I)LLightChecks$Head;"⟩ : MethodName) ⟨"LightChecks$Giver", "headAt", "(I)LLightChecks$Head;"⟩ ∈ wg_T := wg_inS (List.mem_of_getElem? (i := 26) rfl) rfl
theorem ts_27 : Cond.selects "LightChecks$Giver" (⟨"LightChecks$Giver", "leastUnlike", "(LLightChecks$Giver;)I"⟩ : MethodName) ⟨"LightChecks$Giver", "leastUnlike", "(LLightChecks$Giver;)I"⟩ ∈ wg_T := wg_inS (List.mem_of_getElem? (i := 27) rfl) rfl
theorem ts_28 : Cond.selects "LightChecks$Client" (⟨"LightChecks$Client", "lastBelow", "(I)LLightChecks$Head;"⟩ : MethodName) ⟨"LightChecks$Client", "lastBelow", "(I)LLightChecks$Head;"⟩ ∈ wg_T := wg_inS (List.mem_of_getElem? (i := 28) rfl) rfl
theorem ts_29 : Cond.selects "LightChecks$Tree" (⟨"LightChecks$Tree", "change", "(IJ)J"⟩ : MethodName) ⟨"LightChecks$Tree", "change", "(IJ)J"⟩ ∈ wg_T := wg_inS (List.mem_of_getElem? (i := 29) rfl) rfl
theorem ts_30 : Cond.selects "LightChecks$Proof" (⟨"LightChecks$Proof", "numberAt", "(I)J"⟩ : MethodName) ⟨"LightChecks$Proof", "numberAt", "(I)J"⟩ ∈ wg_T := wg_inS (List.mem_of_getElem? (i := 30) rfl) rfl
theorem ts_31 : Cond.selects "LightChecks$Proof" (⟨"LightChecks$Proof", "hasNode", "(I)Z"⟩ : MethodName) ⟨"LightChecks$Proof", "hasNode", "(I)Z"⟩ ∈ wg_T := wg_inS (List.mem_of_getElem? (i := 31) rfl) rfl
theorem ts_32 : Cond.selects "LightChecks$Proof" (⟨"LightChecks$Proof", "replace", "(IJ)Z"⟩ : MethodName) ⟨"LightChecks$Proof", "replace", "(IJ)Z"⟩ ∈ wg_T := wg_inS (List.mem_of_getElem? (i := 32) rfl) rfl
theorem ts_33 : Cond.selects "LightChecks$Proof" (⟨"LightChecks$Proof", "topBefore", "()J"⟩ : MethodName) ⟨"LightChecks$Proof", "topBefore", "()J"⟩ ∈ wg_T := wg_inS (List.mem_of_getElem? (i := 33) rfl) rfl
theorem ts_34 : Cond.selects "LightChecks$Proof" (⟨"LightChecks$Proof", "topWith", "(JJ)J"⟩ : MethodName) ⟨"LightChecks$Proof", "topWith", "(JJ)J"⟩ ∈ wg_T := wg_inS (List.mem_of_getElem? (i := 34) rfl) rfl
theorem ts_35 : Cond.selects "LightChecks$Proof" (⟨"LightChecks$Proof", "topBehind", "(J)J"⟩ : MethodName) ⟨"LightChecks$Proof", "topBehind", "(J)J"⟩ ∈ wg_T := wg_inS (List.mem_of_getElem? (i := 35) rfl) rfl
theorem ts_36 : Cond.selects "LightChecksModel" (⟨"LightChecksModel", "grow", "()V"⟩ : MethodName) ⟨"LightChecksModel", "grow", "()V"⟩ ∈ wg_T := wg_inS (List.mem_of_getElem? (i := 36) rfl) rfl
theorem ts_37 : Cond.selects "LightChecksModel" (⟨"LightChecksModel", "isSet", "(I)Z"⟩ : MethodName) ⟨"LightChecksModel", "isSet", "(I)Z"⟩ ∈ wg_T := wg_inS (List.mem_of_getElem? (i := 37) rfl) rfl
theorem ts_38 : Cond.selects "LightChecksModel" (⟨"LightChecksModel", "isHead", "(I)Z"⟩ : MethodName) ⟨"LightChecksModel", "isHead", "(I)Z"⟩ ∈ wg_T := wg_inS (List.mem_of_getElem? (i := 38) rfl) rfl
theorem ts_39 : Cond.selects "LightChecksModel" (⟨"LightChecksModel", "digestOf", "(I)J"⟩ : MethodName) ⟨"LightChecksModel", "digestOf", "(I)J"⟩ ∈ wg_T := wg_inS (List.mem_of_getElem? (i := 39) rfl) rfl
theorem ts_40 : Cond.selects "LightChecksModel" (⟨"LightChecksModel", "isCertified", "(I)Z"⟩ : MethodName) ⟨"LightChecksModel", "isCertified", "(I)Z"⟩ ∈ wg_T := wg_inS (List.mem_of_getElem? (i := 40) rfl) rfl
theorem ts_41 : Cond.selects "LightChecksModel" (⟨"LightChecksModel", "weightOf", "(II)I"⟩ : MethodName) ⟨"LightChecksModel", "weightOf", "(II)I"⟩ ∈ wg_T := wg_inS (List.mem_of_getElem? (i := 41) rfl) rfl
theorem ts_42 : Cond.selects "LightChecksModel" (⟨"LightChecksModel", "doesOverlap", "(II)Z"⟩ : MethodName) ⟨"LightChecksModel", "doesOverlap", "(II)Z"⟩ ∈ wg_T := wg_inS (List.mem_of_getElem? (i := 42) rfl) rfl
theorem ts_43 : Cond.selects "LightChecksModel" (⟨"LightChecksModel", "attempt", "(II)I"⟩ : MethodName) ⟨"LightChecksModel", "attempt", "(II)I"⟩ ∈ wg_T := wg_inS (List.mem_of_getElem? (i := 43) rfl) rfl
theorem ts_44 : Cond.selects "LightChecksModel" (⟨"LightChecksModel", "trustedOf", "(I)I"⟩ : MethodName) ⟨"LightChecksModel", "trustedOf", "(I)I"⟩ ∈ wg_T := wg_inS (List.mem_of_getElem? (i := 44) rfl) rfl
theorem ts_45 : Cond.selects "LightChecksModel" (⟨"LightChecksModel", "against", "(II)I"⟩ : MethodName) ⟨"LightChecksModel", "against", "(II)I"⟩ ∈ wg_T := wg_inS (List.mem_of_getElem? (i := 45) rfl) rfl
theorem ts_46 : Cond.selects "LightChecksModel" (⟨"LightChecksModel", "refuse", "(III)I"⟩ : MethodName) ⟨"LightChecksModel", "refuse", "(III)I"⟩ ∈ wg_T := wg_inS (List.mem_of_getElem? (i := 46) rfl) rfl
theorem ts_47 : Cond.selects "LightChecksModel" (⟨"LightChecksModel", "placeOf", "(II)I"⟩ : MethodName) ⟨"LightChecksModel", "placeOf", "(II)I"⟩ ∈ wg_T := wg_inS (List.mem_of_getElem? (i := 47) rfl) rfl
theorem ts_48 : Cond.selects "LightChecksModel" (⟨"LightChecksModel", "headAt", "(II)I"⟩ : MethodName) ⟨"LightChecksModel", "headAt", "(II)I"⟩ ∈ wg_T := wg_inS (List.mem_of_getElem? (i := 48) rfl) rfl
theorem ts_49 : Cond.selects "LightChecksModel" (⟨"LightChecksModel", "top", "(JJ)J"⟩ : MethodName) ⟨"LightChecksModel", "top", "(JJ)J"⟩ ∈ wg_T := wg_inS (List.mem_of_getElem? (i := 49) rfl) rfl
end
section
/-! THE WORLD BY ROLES: every cell of the two systems has a role (a number); A gives its address, C what it holds. -/
abbrev wg_C : Type := Nat → Option va_E
/-- class ids and slots; the array classes; the first address of the law's own cells; the addresses of the two tables -/
abbrev wg_E : Type := va_G × (Nat → ClassId) × Nat × Nat × Nat
def wg_A (E : wg_E) : Nat → Prop := fun q => E.2.2.1 ≤ q
def wg_P (E : wg_E) (A : Nat → Nat) (C : wg_C) (H : Heap) : Prop :=
  ∃ ws : va_W, va_P E.1 wg_cl ws H ∧ va_D (wg_A E) ws ∧ (∀ (r : Nat) (e : va_E), C r = some e → ∃ k : Nat, ws[k]? = some (A r, e)) ∧ ∀ r r' : Nat, C r ≠ none → C r' ≠ none → A r = A r' → r = r'
theorem wg_P.at {E : wg_E} {A : Nat → Nat} {C : wg_C} {H : Heap} (h : wg_P E A C H) {r : Nat} {e : va_E} (hr : C r = some e) : va_P E.1 wg_cl [(A r, e)] H := by
  obtain ⟨ws, hP, -, hC, -⟩ := h
  obtain ⟨k, hk⟩ := hC r e hr
  intro j q hj
  have hz : j < 1 := (List.getElem?_eq_some_iff.mp hj).1
  rw [show j = 0 by omega] at hj
  cases hj
  exact hP k _ hk
/-- a cell of the world is written -/
theorem wg_P.set {E : wg_E} {A : Nat → Nat} {C : wg_C} {ws : va_W} {r k : Nat} {e0 e : va_E} {H1 : Heap} (hC : ∀ (r : Nat) (e : va_E), C r = some e → ∃ k : Nat, ws[k]? = some (A r, e)) (hI : ∀ r r' : Nat, C r ≠ none → C r' ≠ none → A r = A r' → r = r') (hD0 : va_D (wg_A E) ws) (hr : C r = some e0) (hk : ws[k]? = some (A r, e0)) (hP : va_P E.1 wg_cl (ws.set k (A r, e)) H1) (hD : va_D (wg_A E) (ws.set k (A r, e))) : wg_P E A (va_up C r (some e)) H1 := by
  have hl : k < ws.length := (List.getElem?_eq_some_iff.mp hk).1
  have hn : ∀ r', va_up C r (some e) r' ≠ none → C r' ≠ none := by
    intro r' h
    by_cases q : r' = r
    · rw [q, hr]; exact fun h => by cases h
    · rwa [va_up_ne _ _ q] at h
  refine ⟨_, hP, hD, fun r' e' h => ?_, fun r1 r2 h1 h2 h3 => hI r1 r2 (hn r1 h1) (hn r2 h2) h3⟩
  by_cases q : r' = r
  · subst q
    rw [va_up_self] at h
    cases h
    exact ⟨k, by rw [List.getElem?_set_self hl]⟩
  · rw [va_up_ne _ _ q] at h
    obtain ⟨k', hk'⟩ := hC r' e' h
    refine ⟨k', ?_⟩
    rw [List.getElem?_set_ne (fun z => ?_)]
    · exact hk'
    · subst z
      rw [hk] at hk'
      have h2 := Option.some.inj hk'
      exact q (hI r' r (by rw [h]; exact fun h => by cases h) (by rw [hr]; exact fun h => by cases h) (congrArg Prod.fst h2).symm)
/-- a new cell, with a role that nothing had -/
theorem wg_P.push {E : wg_E} {A : Nat → Nat} {C : wg_C} {ws : va_W} {r q : Nat} {e : va_E} {H1 : Heap} (hC : ∀ (r : Nat) (e : va_E), C r = some e → ∃ k : Nat, ws[k]? = some (A r, e)) (hI : ∀ r r' : Nat, C r ≠ none → C r' ≠ none → A r = A r' → r = r') (hP : va_P E.1 wg_cl (ws ++ [(q, e)]) H1) (hD : va_D (wg_A E) (ws ++ [(q, e)])) (hr : C r = none) : wg_P E (va_up A r q) (va_up C r (some e)) H1 := by
  have hlast : (ws ++ [(q, e)])[ws.length]? = some (q, e) := by rw [List.getElem?_append_right (Nat.le_refl _), Nat.sub_self]; rfl
  have old : ∀ (r' : Nat) (e' : va_E), r' ≠ r → C r' = some e' → ∃ k : Nat, k < ws.length ∧ (ws ++ [(q, e)])[k]? = some (A r', e') := by
    intro r' e' _ h
    obtain ⟨k, hk⟩ := hC r' e' h
    have hl := (List.getElem?_eq_some_iff.mp hk).1
    exact ⟨k, hl, by rw [List.getElem?_append_left hl]; exact hk⟩
  have apart : ∀ r', r' ≠ r → C r' ≠ none → A r' ≠ q := by
    intro r' h1 h2 h3
    obtain ⟨e', he'⟩ := Option.ne_none_iff_exists'.mp h2
    obtain ⟨k, hl, hk⟩ := old r' e' h1 he'
    have := hD.1 k ws.length _ _ hk hlast h3
    omega
  refine ⟨_, hP, hD, fun r' e' h => ?_, fun r1 r2 h1 h2 h3 => ?_⟩
  · by_cases z : r' = r
    · subst z
      rw [va_up_self] at h ⊢
      cases h
      exact ⟨_, hlast⟩
    · rw [va_up_ne _ _ z] at h ⊢
      obtain ⟨k, -, hk⟩ := old r' e' z h
      exact ⟨k, hk⟩
  · by_cases z1 : r1 = r
    · by_cases z2 : r2 = r
      · rw [z1, z2]
      · rw [va_up_ne _ _ z2] at h2 h3
        rw [z1, va_up_self] at h3
        exact absurd h3.symm (apart r2 z2 h2)
    · rw [va_up_ne _ _ z1] at h1 h3
      by_cases z2 : r2 = r
      · rw [z2, va_up_self] at h3
        exact absurd h3 (apart r1 z1 h1)
      · rw [va_up_ne _ _ z2] at h2 h3
        exact hI r1 r2 h1 h2 h3
/-- array classes that the two systems use, by their places -/
def wg_tys (kA : Nat → ClassId) : List (ClassId × FieldType) := [(kA 0, .int), (kA 1, .long), (kA 2, .boolean), (kA 3, .object "LightChecks$WeightSet"), (kA 4, .object "LightChecks$Head"), (kA 5, .object "LightChecks$Client"), (kA 6, .object "LightChecks$Giver")]
theorem wg_N_warm {w : Cond} (hw : w ∈ wg_N) {s U : State} (hW : s.WarmedH U.vm) (h : va_Nw w s) : va_Nw w U := by
  have hk := (List.mem_filter.mp hw).2
  match w, hk, h with
  | .fieldLinkNest .., _, h => exact va_Nw.warmF hW h
  | .methodLinkNest .., _, h => exact va_Nw.warmM hW h
  | .arrayOver (.object _), _, h => exact va_AO.moved hW.alike h
theorem wg_N_same {w : Cond} (hw : w ∈ wg_N) {u U : State} (he : u.vm = U.vm) (h : va_Nw w u) : va_Nw w U := by
  have hk := (List.mem_filter.mp hw).2
  match w, hk, h with
  | .fieldLinkNest .., _, h => exact va_Nw.same rfl he h
  | .methodLinkNest .., _, h => exact va_Nw.same rfl he h
  | .arrayOver (.object _), _, h => exact va_AO.moved (by rw [he]; exact Vm.Alike.refl _) h
/-- the two tables of the class: the least and the greatest of each TERM -/
def wg_lo : Nat → Value := fun k => .int (if k = 3 then 2 else 1)
def wg_hi : Nat → Value := fun k => .int (if k = 2 then 1000 else 10)
def wg_Z (E : wg_E) (U : State) (H : Heap) : Prop := va_Z "LightChecks" "LEAST_TERM" "[I" (.ref E.2.2.2.1) (wg_A E) U H ∧ va_T .int E.2.2.2.1 4 wg_lo (wg_A E) U H ∧ va_Z "LightChecks" "GREATEST_TERM" "[I" (.ref E.2.2.2.2) (wg_A E) U H ∧ va_T .int E.2.2.2.2 4 wg_hi (wg_A E) U H
theorem wg_Z.moved {E : wg_E} {u U : State} {H : Heap} (hvm : u.vm.Alike U.vm) (h : wg_Z E u H) : wg_Z E U H := ⟨va_Z.moved hvm h.1, va_T.moved hvm h.2.1, va_Z.moved hvm h.2.2.1, va_T.moved hvm h.2.2.2⟩
theorem wg_Z.kept {E : wg_E} {U : State} {H H1 : Heap} (h : wg_Z E U H) (hq : ∀ a : Nat, a < H.size → ¬ wg_A E a → H1[a]? = H[a]?) : wg_Z E U H1 := ⟨h.1.kept hq, h.2.1.kept hq, h.2.2.1.kept hq, h.2.2.2.kept hq⟩
/-- the words that every method of ours is met under: its own code, and the tables -/
def wg_ws (y : MethodName) (cc : ByteArray) (n : Nat) (ret : Option FieldType) : List Cond := Cond.code y cc n ret :: wg_T
def wg_rm (d mc ms : Nat) : Room := { frames := d, cells := mc, slots := ms, locals := 40 * d }
/-- what the tables and the statics say at a state -/
def wg_K (E : wg_E) (U : State) (H : Heap) : Prop :=
  va_K E.1 wg_cl (wg_tys E.2.1) U ∧ (∀ w ∈ wg_N, va_Nw w U) ∧ wg_Z E U H
def wg_U (E : wg_E) (A : Nat → Nat) (C : wg_C) (U : State) : Prop := E.2.2.1 ≤ U.heap.size ∧ wg_P E A C U.heap ∧ wg_K E U U.heap
theorem wg_K.next {E : wg_E} {s U : State} {H : Heap} {locs : List Loc} (h : wg_K E s s.heap) (hS : va_S (wg_A E) s.heap H locs) (hU : U.heap = H) (hW : s.WarmedH U.vm) : wg_K E U U.heap := by
  obtain ⟨h1, h2, h3⟩ := h
  refine ⟨va_K.moved hW.alike h1, fun w hw => wg_N_warm hw hW (h2 w hw), ?_⟩
  rw [hU]
  exact (wg_Z.moved hW.alike h3).kept hS.2.1
theorem wg_K.blind {E : wg_E} {U : State} {g : JFrame} {mk : MethodId} {a : Array Value} (h : wg_K E U U.heap) : wg_K E (U.calling g mk a) (U.calling g mk a).heap := by
  obtain ⟨h1, h2, h3⟩ := h
  exact ⟨va_K.moved (u := U) (U := U.calling g mk a) (Vm.Alike.refl U.vm) h1, fun w hw => wg_N_same hw (u := U) (U := U.calling g mk a) rfl (h2 w hw), wg_Z.moved (u := U) (U := U.calling g mk a) (Vm.Alike.refl U.vm) h3⟩
def wg_Pc (E : wg_E) (A : Nat → Nat) (C : wg_C) (av : List Value) : Array Value → State → Prop := va_Pc av (fun U => wg_U E A C U)
theorem wg_Pc.blind {E : wg_E} {A : Nat → Nat} {C : wg_C} {av : List Value} : FrameBlind (wg_Pc E A C av) := by
  intro a U g mk h
  obtain ⟨h1, h2, h3, h4⟩ := h
  exact ⟨h1, h2, h3, wg_K.blind h4⟩
def wg_Qi (E : wg_E) (post : Int32 → (Nat → Nat) → wg_C → Prop) : Array Value → State → Outcome → State → Prop := va_Qi (S := (Nat → Nat) × wg_C) (fun r u => post r u.1 u.2) (fun u t => wg_U E u.1 u.2 t) (wg_A E)
def wg_Ql (E : wg_E) (post : Int64 → (Nat → Nat) → wg_C → Prop) : Array Value → State → Outcome → State → Prop := va_Ql (S := (Nat → Nat) × wg_C) (fun r u => post r u.1 u.2) (fun u t => wg_U E u.1 u.2 t) (wg_A E)
def wg_Qv (E : wg_E) (post : (Nat → Nat) → wg_C → Prop) : Array Value → State → Outcome → State → Prop := va_Qv (S := (Nat → Nat) × wg_C) (fun u => post u.1 u.2) (fun u t => wg_U E u.1 u.2 t) (wg_A E)
def wg_Qq (E : wg_E) (post : Option Nat → (Nat → Nat) → wg_C → Prop) : Array Value → State → Outcome → State → Prop := va_Qq (S := (Nat → Nat) × wg_C) (fun r u => post r u.1 u.2) (fun u t => wg_U E u.1 u.2 t) (wg_A E)
/-- what a walk of a method's body stands on -/
def wg_F (p : Program) (m : MethodId) (c : Code) (cc : ByteArray) (nL : Nat) (s : State) (args : Array Value) (own : String) (E : wg_E) : Prop :=
  p.tables.exec = Jvm.exec ∧ c.code = cc ∧ c.maxLocals = nL ∧ s.vm.findClass own = some m.cls ∧ (∀ w ∈ wg_T, w.before args s = true) ∧ wg_K E s s.heap ∧ E.2.2.1 ≤ s.heap.size
theorem wg_met {l : Launch} {y : MethodName} {cc : ByteArray} {nL : Nat} {ret : Option FieldType} {rm : Room} {E : wg_E} {A : Nat → Nat} {C : wg_C} {av : List Value} {Qc : Array Value → State → Outcome → State → Prop} {mc ms : Nat} (hy : plainName y.cls = true) (hlen : (lg_sl av).length ≤ nL)
    (body : ∀ (p : Program) (e : Env) (s : State) (m : MethodId) (below : List Frame) (meth : Method) (c : Code) (ls : Array Slot), wg_F p m c cc nL s av.toArray y.cls E → meth.sig.returnType = ret → meth.locks = false → meth.name = y.name → wg_P E A C s.heap → va_S (wg_A E) s.heap s.heap [] → lv_has ls nL (lv_args 0 av) →
      W p l e rm s m av.toArray below meth c s.heap [] 0 0 (MQ below Qc av.toArray s mc ms (wg_A E)) (F0 m 0 ls [])) : Met l y (wg_ws y cc nL ret) rm (wg_Pc E A C av) Qc mc ms (wg_A E) := by
  refine Met.ofW (cc := cc) (maxL := nL) (ret := ret) hy rfl ?_
  intro p e s m args below meth c s₁ B hml hv
  obtain ⟨rfl, hz, hP, hK⟩ := hv
  have hts := atoms_spec (ws := wg_ws y cc nL ret) B.pre
  have hl := lv_entry av (n := nL) hlen
  rw [lg_entry_eq]
  exact body p e s m below meth c _ ⟨B.exec, B.bytes, hml, findClass_of_methodNamed B.named, fun w h => hts w (List.mem_cons_of_mem _ h), hK, hz⟩ B.returns B.notSynchronized (name_of_methodNamed B.named B.method).1 hP va_S.rf hl
section WG
variable {p : Program} {l : Launch} {e : Env} {R : Room} {s : State} {m : MethodId} {args : Array Value} {below : List Frame} {meth : Method} {c : Code} {H : Heap} {locs : List Loc} {cells slots : Nat} {Q : State → Prop}
variable {cc : ByteArray} {pc nL : Nat} {ls : Array Slot} {rest st0 : List Value} {E : wg_E} {A : Nat → Nat} {C : wg_C} {own : String}
theorem wg_U.of (F : wg_F p m c cc nL s args own E) (hP : wg_P E A C H) (hS : va_S (wg_A E) s.heap H locs) {U : State} (hU : U.heap = H) (hW : s.WarmedH U.vm) : wg_U E A C U := by
  obtain ⟨-, -, -, -, -, hK, hz⟩ := F
  exact ⟨by rw [hU]; exact Nat.le_trans hz hS.1, by rw [hU]; exact hP, hK.next hS hU hW⟩
-- the ends
theorem wg_iret {post : Int32 → (Nat → Nat) → wg_C → Prop} {v : Int32} (F : wg_F p m c cc nL s args own E) (hP : wg_P E A C H) (hS : va_S (wg_A E) s.heap H locs) (hr : meth.sig.returnType = some .int) (hlk : meth.locks = false) (h : post v A C) (hdg : decode cc pc = .ok (.ireturn, 1)) : W p l e R s m args below meth c H locs cells slots (MQ below (wg_Qi E post) args s cells slots (wg_A E)) (F0 m pc ls [.int v]) :=
  W.iret F.1 F.2.1 hr (fun t ht hW => ⟨⟨v, (A, C), rfl, h, wg_U.of F hP hS ht hW⟩, hS.F ht⟩) hS.2.2 hdg hlk
theorem wg_zret {post : Int32 → (Nat → Nat) → wg_C → Prop} {v : Int32} (F : wg_F p m c cc nL s args own E) (hP : wg_P E A C H) (hS : va_S (wg_A E) s.heap H locs) (hr : meth.sig.returnType = some .boolean) (hlk : meth.locks = false) (hv : v = 0 ∨ v = 1) (h : post v A C) (hdg : decode cc pc = .ok (.ireturn, 1)) : W p l e R s m args below meth c H locs cells slots (MQ below (wg_Qi E post) args s cells slots (wg_A E)) (F0 m pc ls [.int v]) :=
  W.zret F.1 F.2.1 hr (by rcases hv with rfl | rfl <;> rfl) (fun t ht hW => ⟨⟨v, (A, C), rfl, h, wg_U.of F hP hS ht hW⟩, hS.F ht⟩) hS.2.2 hdg hlk
theorem wg_lret {post : Int64 → (Nat → Nat) → wg_C → Prop} {v : Int64} (F : wg_F p m c cc nL s args own E) (hP : wg_P E A C H) (hS : va_S (wg_A E) s.heap H locs) (hr : meth.sig.returnType = some .long) (hlk : meth.locks = false) (h : post v A C) (hdg : decode cc pc = .ok (.lreturn, 1)) : W p l e R s m args below meth c H locs cells slots (MQ below (wg_Ql E post) args s cells slots (wg_A E)) (F0 m pc ls [.long v]) :=
  W.lret F.1 F.2.1 hr (fun t ht hW => ⟨⟨v, (A, C), rfl, h, wg_U.of F hP hS ht hW⟩, hS.F ht⟩) hS.2.2 hdg hlk
theorem wg_vret {post : (Nat → Nat) → wg_C → Prop} (F : wg_F p m c cc nL s args own E) (hP : wg_P E A C H) (hS : va_S (wg_A E) s.heap H locs) (hr : meth.sig.returnType = none) (hlk : meth.locks = false) (h : post A C) (hdg : decode cc pc = .ok (.return_, 1)) : W p l e R s m args below meth c H locs cells slots (MQ below (wg_Qv E post) args s cells slots (wg_A E)) (F0 m pc ls []) :=
  W.vret F.1 F.2.1 hr (fun t ht hW => ⟨⟨(A, C), rfl, h, wg_U.of F hP hS ht hW⟩, hS.F ht⟩) hS.2.2 hdg hlk
theorem wg_qret {post : Option Nat → (Nat → Nat) → wg_C → Prop} {v : Option Nat} {rt : FieldType} (F : wg_F p m c cc nL s args own E) (hP : wg_P E A C H) (hS : va_S (wg_A E) s.heap H locs) (hr : meth.sig.returnType = some rt) (hrt : ∃ n, rt = .object n) (hlk : meth.locks = false) (h : post v A C) (hdg : decode cc pc = .ok (.areturn, 1)) : W p l e R s m args below meth c H locs cells slots (MQ below (wg_Qq E post) args s cells slots (wg_A E)) (F0 m pc ls [va_rf v]) :=
  W.aret F.1 F.2.1 hr (Or.inl hrt) (va_rf_or v) (fun t ht hW => ⟨⟨v, (A, C), rfl, h, wg_U.of F hP hS ht hW⟩, hS.F ht⟩) hS.2.2 hdg hlk
end WG
section WGR
variable {p : Program} {l : Launch} {e : Env} {R : Room} {s : State} {m : MethodId} {args : Array Value} {below : List Frame} {meth : Method} {c : Code} {H : Heap} {locs : List Loc} {cells slots : Nat} {Q : State → Prop}
variable {cc : ByteArray} {pc nL : Nat} {ls : Array Slot} {rest st0 : List Value} {E : wg_E} {A : Nat → Nat} {C : wg_C} {own : String}
-- fields
theorem wg_get (F : wg_F p m c cc nL s args own E) (hP : wg_P E A C H) {r ci N index : Nat} {Cn : String} {T : u_T} {fs : List Value} (he : C r = some (.inr (ci, fs))) (hc : wg_cl[ci]? = some (Cn, T, N)) (hin : ∀ w ∈ u_ws Cn T N, w ∈ wg_T) (k : Nat) (hk : k < N) {nm ds : String} (hl : Cond.fieldLink own index Cn nm ds ∈ wg_T) (hT : T k = (Cn, nm, ds, (T k).2.2.2)) {v : Value} (hv : fs[k]? = some v) (hdg : decode cc pc = .ok (.getfield index, 3))
    (kk : W p l e R s m args below meth c H locs cells slots Q (F0 m (pc + 3) ls (v :: rest))) : W p l e R s m args below meth c H locs cells slots Q (F0 m pc ls (.ref (A r) :: rest)) := by
  obtain ⟨hx, hb, hml, hown, hts, ⟨hK, hN, hZ⟩, hz⟩ := F
  have h1 : (T k).1 = Cn := by rw [hT]
  have h2 : (T k).2.1 = nm := by rw [hT]
  have h3 : (T k).2.2.1 = ds := by rw [hT]
  exact va_get (D := E.1) (ci := ci) (v := v) (C := Cn) (T := T) (N := N) (ref := Cn) hx hb hts hin hown hK (hP.at he) 0 rfl hc k hk (by rw [h2, h3]; exact hts _ hl) (fun x h => by rw [h1] at h; exact h) hv hdg kk
theorem wg_getN (F : wg_F p m c cc nL s args own E) (hP : wg_P E A C H) {r ci N index : Nat} {Cn host : String} {T : u_T} {fs : List Value} (he : C r = some (.inr (ci, fs))) (hc : wg_cl[ci]? = some (Cn, T, N)) (hin : ∀ w ∈ u_ws Cn T N, w ∈ wg_T) (k : Nat) (hk : k < N) {nm ds : String} (hl : Cond.fieldLinkNest own index Cn nm ds host ∈ wg_N) (hT : T k = (Cn, nm, ds, (T k).2.2.2)) {v : Value} (hv : fs[k]? = some v) (hdg : decode cc pc = .ok (.getfield index, 3))
    (kk : W p l e R s m args below meth c H locs cells slots Q (F0 m (pc + 3) ls (v :: rest))) : W p l e R s m args below meth c H locs cells slots Q (F0 m pc ls (.ref (A r) :: rest)) := by
  obtain ⟨hx, hb, hml, hown, hts, ⟨hK, hN, hZ⟩, hz⟩ := F
  have h1 : (T k).1 = Cn := by rw [hT]
  have h2 : (T k).2.1 = nm := by rw [hT]
  have h3 : (T k).2.2.1 = ds := by rw [hT]
  exact va_getN (D := E.1) (ci := ci) (v := v) (C := Cn) (T := T) (N := N) (ref := Cn) (host := host) hx hb hts hin hown hK (hP.at he) 0 rfl hc k hk (by rw [h2, h3]; exact va_Nw.use rfl (hN _ hl)) (fun x h => by rw [h1] at h; exact h) hv hdg kk
theorem wg_put (F : wg_F p m c cc nL s args own E) (hP : wg_P E A C H) (hS : va_S (wg_A E) s.heap H locs) {r ci N index : Nat} {Cn : String} {T : u_T} {ty0 : Nat → FieldType} {fs : List Value} (he : C r = some (.inr (ci, fs))) (hc : wg_cl[ci]? = some (Cn, T, N)) (hin : ∀ w ∈ u_ws Cn T N, w ∈ wg_T) (hty : ∀ k, k < N → parseFieldDescriptor (T k).2.2.1 = some (ty0 k)) (hnm : ∀ a, a < N → ∀ b, b < N → a ≠ b → (T a).2.1 ≠ (T b).2.1) (k : Nat) (hk : k < N) {nm ds : String} (hl : Cond.fieldLink own index Cn nm ds ∈ wg_T) (hT : T k = (Cn, nm, ds, false)) {v : Value} (hn : narrow (ty0 k) v = v) (hfit : fits (ty0 k) v = true) (hlen : k < fs.length) (hdg : decode cc pc = .ok (.putfield index, 3))
    (kk : ∀ (H1 : Heap) (locs1 : List Loc), wg_P E A (va_up C r (some (.inr (ci, fs.set k v)))) H1 → va_S (wg_A E) s.heap H1 locs1 → W p l e R s m args below meth c H1 locs1 cells slots Q (F0 m (pc + 3) ls rest)) : W p l e R s m args below meth c H locs cells slots Q (F0 m pc ls (v :: .ref (A r) :: rest)) := by
  obtain ⟨hx, hb, hml, hown, hts, ⟨hK, hN, hZ⟩, hz⟩ := F
  have h1 : (T k).1 = Cn := by rw [hT]
  have h2 : (T k).2.1 = nm := by rw [hT]
  have h3 : (T k).2.2.1 = ds := by rw [hT]
  obtain ⟨ws, hP0, hD, hC, hI⟩ := hP
  obtain ⟨j, hj⟩ := hC r _ he
  exact va_put (D := E.1) (ci := ci) (v := v) (ty := ty0 k) (C := Cn) (T := T) (N := N) (ref := Cn) hx hb hts hin ty0 hty hnm hown hK hP0 hD hS j hj hc k hk (by rw [h2, h3]; exact hts _ hl) (fun x h => by rw [h1] at h; exact h) (by rw [hT]) (hty k hk) hn hfit hlen hdg (fun H1 locs1 q1 q2 q3 => kk H1 locs1 (wg_P.set hC hI hD he hj q1 q2) q3)
theorem wg_putN (F : wg_F p m c cc nL s args own E) (hP : wg_P E A C H) (hS : va_S (wg_A E) s.heap H locs) {r ci N index : Nat} {Cn host : String} {T : u_T} {ty0 : Nat → FieldType} {fs : List Value} (he : C r = some (.inr (ci, fs))) (hc : wg_cl[ci]? = some (Cn, T, N)) (hin : ∀ w ∈ u_ws Cn T N, w ∈ wg_T) (hty : ∀ k, k < N → parseFieldDescriptor (T k).2.2.1 = some (ty0 k)) (hnm : ∀ a, a < N → ∀ b, b < N → a ≠ b → (T a).2.1 ≠ (T b).2.1) (k : Nat) (hk : k < N) {nm ds : String} (hl : Cond.fieldLinkNest own index Cn nm ds host ∈ wg_N) (hT : T k = (Cn, nm, ds, false)) {v : Value} (hn : narrow (ty0 k) v = v) (hfit : fits (ty0 k) v = true) (hlen : k < fs.length) (hdg : decode cc pc = .ok (.putfield index, 3))
    (kk : ∀ (H1 : Heap) (locs1 : List Loc), wg_P E A (va_up C r (some (.inr (ci, fs.set k v)))) H1 → va_S (wg_A E) s.heap H1 locs1 → W p l e R s m args below meth c H1 locs1 cells slots Q (F0 m (pc + 3) ls rest)) : W p l e R s m args below meth c H locs cells slots Q (F0 m pc ls (v :: .ref (A r) :: rest)) := by
  obtain ⟨hx, hb, hml, hown, hts, ⟨hK, hN, hZ⟩, hz⟩ := F
  have h1 : (T k).1 = Cn := by rw [hT]
  have h2 : (T k).2.1 = nm := by rw [hT]
  have h3 : (T k).2.2.1 = ds := by rw [hT]
  obtain ⟨ws, hP0, hD, hC, hI⟩ := hP
  obtain ⟨j, hj⟩ := hC r _ he
  exact va_putN (D := E.1) (ci := ci) (v := v) (ty := ty0 k) (C := Cn) (T := T) (N := N) (ref := Cn) (host := host) hx hb hts hin ty0 hty hnm hown hK hP0 hD hS j hj hc k hk (by rw [h2, h3]; exact va_Nw.use rfl (hN _ hl)) (fun x h => by rw [h1] at h; exact h) (by rw [hT]) (hty k hk) hn hfit hlen hdg (fun H1 locs1 q1 q2 q3 => kk H1 locs1 (wg_P.set hC hI hD he hj q1 q2) q3)
theorem wg_putF (F : wg_F p m c cc nL s args own E) (hin2 : meth.name = "<init>") (hP : wg_P E A C H) (hS : va_S (wg_A E) s.heap H locs) {r ci N index : Nat} {T : u_T} {ty0 : Nat → FieldType} {fs : List Value} (he : C r = some (.inr (ci, fs))) (hc : wg_cl[ci]? = some (own, T, N)) (hin : ∀ w ∈ u_ws own T N, w ∈ wg_T) (hty : ∀ k, k < N → parseFieldDescriptor (T k).2.2.1 = some (ty0 k)) (hnm : ∀ a, a < N → ∀ b, b < N → a ≠ b → (T a).2.1 ≠ (T b).2.1) (k : Nat) (hk : k < N) {nm ds : String} (hl : Cond.fieldLink own index own nm ds ∈ wg_T) (hT : T k = (own, nm, ds, true)) {v : Value} (hn : narrow (ty0 k) v = v) (hfit : fits (ty0 k) v = true) (hlen : k < fs.length) (hdg : decode cc pc = .ok (.putfield index, 3))
    (kk : ∀ (H1 : Heap) (locs1 : List Loc), wg_P E A (va_up C r (some (.inr (ci, fs.set k v)))) H1 → va_S (wg_A E) s.heap H1 locs1 → W p l e R s m args below meth c H1 locs1 cells slots Q (F0 m (pc + 3) ls rest)) : W p l e R s m args below meth c H locs cells slots Q (F0 m pc ls (v :: .ref (A r) :: rest)) := by
  obtain ⟨hx, hb, hml, hown, hts, ⟨hK, hN, hZ⟩, hz⟩ := F
  have h1 : (T k).1 = own := by rw [hT]
  have h2 : (T k).2.1 = nm := by rw [hT]
  have h3 : (T k).2.2.1 = ds := by rw [hT]
  obtain ⟨ws, hP0, hD, hC, hI⟩ := hP
  obtain ⟨j, hj⟩ := hC r _ he
  exact va_putF (D := E.1) (ci := ci) (v := v) (ty := ty0 k) (C := own) (T := T) (N := N) (ref := own) hx hb hts hin ty0 hty hnm hown hK hP0 hD hS j hj hc k hk (by rw [h2, h3]; exact hts _ hl) (fun x h => by rw [h1] at h; exact h) (by rw [hT]) hin2 h1 (hty k hk) hn hfit hlen hdg (fun H1 locs1 q1 q2 q3 => kk H1 locs1 (wg_P.set hC hI hD he hj q1 q2) q3)
-- arrays
theorem wg_ild (F : wg_F p m c cc nL s args own E) (hP : wg_P E A C H) {r n : Nat} {f : Nat → Int32} (he : C r = some (.inl (E.2.1 0, n, .inl f))) {i : Int32} (hin : vp_in i n) (hdg : decode cc pc = .ok (.iaload, 1)) (kk : W p l e R s m args below meth c H locs cells slots Q (F0 m (pc + 1) ls (.int (f i.toNatClampNeg) :: rest))) : W p l e R s m args below meth c H locs cells slots Q (F0 m pc ls (.int i :: .ref (A r) :: rest)) :=
  va_iald F.1 F.2.1 F.2.2.2.2.2.1.1 (hP.at he) 0 0 rfl rfl hin hdg kk
theorem wg_lld (F : wg_F p m c cc nL s args own E) (hP : wg_P E A C H) {r n : Nat} {f : Nat → Int64} (he : C r = some (.inl (E.2.1 1, n, .inr (.inl f)))) {i : Int32} (hin : vp_in i n) (hdg : decode cc pc = .ok (.laload, 1)) (kk : W p l e R s m args below meth c H locs cells slots Q (F0 m (pc + 1) ls (.long (f i.toNatClampNeg) :: rest))) : W p l e R s m args below meth c H locs cells slots Q (F0 m pc ls (.int i :: .ref (A r) :: rest)) :=
  va_lald F.1 F.2.1 F.2.2.2.2.2.1.1 (hP.at he) 0 1 rfl rfl hin hdg kk
theorem wg_zld (F : wg_F p m c cc nL s args own E) (hP : wg_P E A C H) {r n : Nat} {f : Nat → Int32} (he : C r = some (.inl (E.2.1 2, n, .inl f))) {i : Int32} (hin : vp_in i n) (hdg : decode cc pc = .ok (.baload, 1)) (kk : W p l e R s m args below meth c H locs cells slots Q (F0 m (pc + 1) ls (.int (f i.toNatClampNeg) :: rest))) : W p l e R s m args below meth c H locs cells slots Q (F0 m pc ls (.int i :: .ref (A r) :: rest)) :=
  va_zald F.1 F.2.1 F.2.2.2.2.2.1.1 (hP.at he) 0 2 rfl rfl hin hdg kk
theorem wg_qld (F : wg_F p m c cc nL s args own E) (hP : wg_P E A C H) {r n : Nat} {f : Nat → Option Nat} (t : Nat) {Cn : String} (ht : (wg_tys E.2.1)[t]? = some (E.2.1 t, .object Cn)) (he : C r = some (.inl (E.2.1 t, n, .inr (.inr (.inr (.inr f)))))) {i : Int32} (hin : vp_in i n) (hdg : decode cc pc = .ok (.aaload, 1)) (kk : W p l e R s m args below meth c H locs cells slots Q (F0 m (pc + 1) ls (va_rf (f i.toNatClampNeg) :: rest))) : W p l e R s m args below meth c H locs cells slots Q (F0 m pc ls (.int i :: .ref (A r) :: rest)) :=
  va_aldq F.1 F.2.1 F.2.2.2.2.2.1.1 (hP.at he) 0 t rfl ht hin hdg kk
theorem wg_len (F : wg_F p m c cc nL s args own E) (hP : wg_P E A C H) {r t : Nat} {x : vp_A} {ty : FieldType} (ht : (wg_tys E.2.1)[t]? = some (E.2.1 t, ty)) (he : C r = some (.inl (E.2.1 t, x))) {v : Int32} (hv : Int32.ofNat x.1 = v) (hdg : decode cc pc = .ok (.arraylength, 1)) (kk : W p l e R s m args below meth c H locs cells slots Q (F0 m (pc + 1) ls (.int v :: rest))) : W p l e R s m args below meth c H locs cells slots Q (F0 m pc ls (.ref (A r) :: rest)) :=
  va_alen F.1 F.2.1 F.2.2.2.2.2.1.1 (hP.at he) 0 t rfl ht hv hdg kk
theorem wg_ist (F : wg_F p m c cc nL s args own E) (hP : wg_P E A C H) (hS : va_S (wg_A E) s.heap H locs) {r n : Nat} {f : Nat → Int32} (he : C r = some (.inl (E.2.1 0, n, .inl f))) {i x : Int32} (hin : vp_in i n) (hdg : decode cc pc = .ok (.iastore, 1)) (kk : ∀ (H1 : Heap) (locs1 : List Loc), wg_P E A (va_up C r (some (.inl (E.2.1 0, n, .inl (upd f i.toNatClampNeg x))))) H1 → va_S (wg_A E) s.heap H1 locs1 → W p l e R s m args below meth c H1 locs1 cells slots Q (F0 m (pc + 1) ls rest)) : W p l e R s m args below meth c H locs cells slots Q (F0 m pc ls (.int x :: .int i :: .ref (A r) :: rest)) := by
  obtain ⟨ws, hP0, hD, hC, hI⟩ := hP
  obtain ⟨j, hj⟩ := hC r _ he
  exact va_iast F.1 F.2.1 F.2.2.2.2.2.1.1 hP0 hD hS j 0 hj rfl hin hdg (fun H1 locs1 q1 q2 q3 => kk H1 locs1 (wg_P.set hC hI hD he hj q1 q2) q3)
theorem wg_lst (F : wg_F p m c cc nL s args own E) (hP : wg_P E A C H) (hS : va_S (wg_A E) s.heap H locs) {r n : Nat} {f : Nat → Int64} (he : C r = some (.inl (E.2.1 1, n, .inr (.inl f)))) {i : Int32} {x : Int64} (hin : vp_in i n) (hdg : decode cc pc = .ok (.lastore, 1)) (kk : ∀ (H1 : Heap) (locs1 : List Loc), wg_P E A (va_up C r (some (.inl (E.2.1 1, n, .inr (.inl (vp_updL f i.toNatClampNeg x)))))) H1 → va_S (wg_A E) s.heap H1 locs1 → W p l e R s m args below meth c H1 locs1 cells slots Q (F0 m (pc + 1) ls rest)) : W p l e R s m args below meth c H locs cells slots Q (F0 m pc ls (.long x :: .int i :: .ref (A r) :: rest)) := by
  obtain ⟨ws, hP0, hD, hC, hI⟩ := hP
  obtain ⟨j, hj⟩ := hC r _ he
  exact va_last F.1 F.2.1 F.2.2.2.2.2.1.1 hP0 hD hS j 1 hj rfl hin hdg (fun H1 locs1 q1 q2 q3 => kk H1 locs1 (wg_P.set hC hI hD he hj q1 q2) q3)
theorem wg_zst (F : wg_F p m c cc nL s args own E) (hP : wg_P E A C H) (hS : va_S (wg_A E) s.heap H locs) {r n : Nat} {f : Nat → Int32} (he : C r = some (.inl (E.2.1 2, n, .inl f))) {i x : Int32} (hx1 : x = 0 ∨ x = 1) (hin : vp_in i n) (hdg : decode cc pc = .ok (.bastore, 1)) (kk : ∀ (H1 : Heap) (locs1 : List Loc), wg_P E A (va_up C r (some (.inl (E.2.1 2, n, .inl (upd f i.toNatClampNeg x))))) H1 → va_S (wg_A E) s.heap H1 locs1 → W p l e R s m args below meth c H1 locs1 cells slots Q (F0 m (pc + 1) ls rest)) : W p l e R s m args below meth c H locs cells slots Q (F0 m pc ls (.int x :: .int i :: .ref (A r) :: rest)) := by
  obtain ⟨ws, hP0, hD, hC, hI⟩ := hP
  obtain ⟨j, hj⟩ := hC r _ he
  have hx2 : vp_nar .boolean x = x := by rcases hx1 with rfl | rfl <;> rfl
  refine va_zast F.1 F.2.1 F.2.2.2.2.2.1.1 hP0 hD hS j 2 hj rfl hin hdg (fun H1 locs1 q1 q2 q3 => ?_)
  rw [hx2] at q1 q2
  exact kk H1 locs1 (wg_P.set hC hI hD he hj q1 q2) q3
theorem wg_qst (F : wg_F p m c cc nL s args own E) (hP : wg_P E A C H) (hS : va_S (wg_A E) s.heap H locs) {r n : Nat} {f : Nat → Option Nat} (t : Nat) {q : vw_C} (ht : (wg_tys E.2.1)[t]? = some (E.2.1 t, .object q.1)) (he : C r = some (.inl (E.2.1 t, n, .inr (.inr (.inr (.inr f)))))) {rv ci : Nat} {vs : List Value} (hv : C rv = some (.inr (ci, vs))) (hc : wg_cl[ci]? = some q) {i : Int32} (hin : vp_in i n) (hdg : decode cc pc = .ok (.aastore, 1)) (kk : ∀ (H1 : Heap) (locs1 : List Loc), wg_P E A (va_up C r (some (.inl (E.2.1 t, n, .inr (.inr (.inr (.inr (va_up f i.toNatClampNeg (some (A rv)))))))))) H1 → va_S (wg_A E) s.heap H1 locs1 → W p l e R s m args below meth c H1 locs1 cells slots Q (F0 m (pc + 1) ls rest)) : W p l e R s m args below meth c H locs cells slots Q (F0 m pc ls (.ref (A rv) :: .int i :: .ref (A r) :: rest)) := by
  obtain ⟨ws, hP0, hD, hC, hI⟩ := hP
  obtain ⟨j, hj⟩ := hC r _ he
  obtain ⟨jv, hjv⟩ := hC rv _ hv
  exact va_astq F.1 F.2.1 F.2.2.2.2.2.1.1 hP0 hD hS j t jv ci hj ht hjv hc hin hdg (fun H1 locs1 q1 q2 q3 => kk H1 locs1 (wg_P.set hC hI hD he hj q1 q2) q3)
-- the class's own tables
theorem wg_gets (F : wg_F p m c cc nL s args own E) (hS : va_S (wg_A E) s.heap H locs) {index : Nat} {nm : String} {t : Nat} (hZ : va_Z "LightChecks" nm "[I" (.ref t) (wg_A E) s s.heap) (hl : Cond.fieldLink own index "LightChecks" nm "[I" ∈ wg_T) (hdg : decode cc pc = .ok (.getstatic index, 3)) (kk : W p l e R s m args below meth c H locs cells slots Q (F0 m (pc + 3) ls (.ref t :: rest))) : W p l e R s m args below meth c H locs cells slots Q (F0 m pc ls rest) :=
  va_gets F.1 F.2.1 hZ hS F.2.2.2.1 (F.2.2.2.2.1 _ hl) (fun _ h => h) hdg kk
-- new cells
theorem wg_new (F : wg_F p m c cc nL s args own E) (hP : wg_P E A C H) (hS : va_S (wg_A E) s.heap H locs) (r : Nat) (hr : C r = none) {ci N index : Nat} {Cn : String} {T : u_T} {ty0 : Nat → FieldType} (fs : List Value) (hc : wg_cl[ci]? = some (Cn, T, N)) (hin : ∀ w ∈ u_ws Cn T N, w ∈ wg_T) (hty : ∀ k, k < N → parseFieldDescriptor (T k).2.2.1 = some (ty0 k)) (hcl : Cond.classLink own index Cn ∈ wg_T) (hinst : Cond.instantiable Cn N ∈ wg_T) (hini : Cond.initialized Cn ∈ wg_T) (hfs : ∀ j, j < N → defaultValue (ty0 j) = vp_V fs j) (hcells : cells + 1 ≤ R.cells) (hslots : slots + N ≤ R.slots) (hdg : decode cc pc = .ok (.new index, 3))
    (kk : ∀ (q : Nat) (H1 : Heap), wg_P E (va_up A r q) (va_up C r (some (.inr (ci, fs)))) H1 → va_S (wg_A E) s.heap H1 locs → W p l e R s m args below meth c H1 locs (cells + 1) (slots + N) Q (F0 m (pc + 3) ls (.ref q :: rest))) : W p l e R s m args below meth c H locs cells slots Q (F0 m pc ls rest) := by
  obtain ⟨hx, hb, hml, hown, hts, ⟨hK, hN, hZ⟩, hz⟩ := F
  obtain ⟨ws, hP0, hD, hC, hI⟩ := hP
  exact va_new (D := E.1) (ci := ci) (fs := fs) (C := Cn) (T := T) (N := N) hx hb hts hin ty0 hty hown (hts _ hcl) (hts _ hinst) (hts _ hini) hK hP0 hD hS (fun q h => Nat.le_trans hz h) hc hfs hcells hslots hdg (fun q H1 q1 q2 q3 => kk q H1 (wg_P.push hC hI q1 q2 hr) q3)
theorem wg_newa (F : wg_F p m c cc nL s args own E) (hP : wg_P E A C H) (hS : va_S (wg_A E) s.heap H locs) (r : Nat) (hr : C r = none) (t : Nat) {atype : ArrayType} (ht : (wg_tys E.2.1)[t]? = some (E.2.1 t, newarray.typeOf atype)) (hprim : ∀ (U : State) (cA : ClassId), va_RA U cA (newarray.typeOf atype) → U.vm.findClass ("[" ++ (newarray.typeOf atype).toString) = some cA) (harr : Cond.arrayClass (newarray.typeOf atype) ∈ wg_T) {n : Int32} {N' : Nat} {a0 : vp_A} (ha : ∀ cA : ClassId, vp_cell cA a0 = arrV cA N' (fun _ => defaultValue (newarray.typeOf atype))) (hn : ¬ n < 0) (hN' : n.toNatClampNeg = N') (hbytes : N' * componentBytes (newarray.typeOf atype) ≤ 536870912) (hcells : cells + 1 ≤ R.cells) (hslots : slots + N' ≤ R.slots) (hdg : decode cc pc = .ok (.newarray atype, 2))
    (kk : ∀ (q : Nat) (H1 : Heap), wg_P E (va_up A r q) (va_up C r (some (.inl (E.2.1 t, a0)))) H1 → va_S (wg_A E) s.heap H1 locs → W p l e R s m args below meth c H1 locs (cells + 1) (slots + N') Q (F0 m (pc + 2) ls (.ref q :: rest))) : W p l e R s m args below meth c H locs cells slots Q (F0 m pc ls (.int n :: rest)) := by
  obtain ⟨hx, hb, hml, hown, hts, ⟨hK, hN, hZ⟩, hz⟩ := F
  obtain ⟨ws, hP0, hD, hC, hI⟩ := hP
  refine va_newa hx hb (hts _ harr) rfl hK hP0 hD hS (fun q h => Nat.le_trans hz h) ha hn hN' hbytes hcells hslots hdg (fun q cA H1 q0 q1 q2 q3 => ?_)
  have e1 := hprim s cA (q0.2 (wg_tys E.2.1).length (cA, newarray.typeOf atype) (by rw [List.getElem?_append_right (Nat.le_refl _), Nat.sub_self]; rfl)).2
  have e2 := hprim s (E.2.1 t) (hK.2 t _ ht).2
  have e3 : cA = E.2.1 t := Option.some.inj (e1.symm.trans e2)
  subst e3
  exact kk q H1 (wg_P.push hC hI q1 q2 hr) q3
theorem wg_newq (F : wg_F p m c cc nL s args own E) (hP : wg_P E A C H) (hS : va_S (wg_A E) s.heap H locs) (r : Nat) (hr : C r = none) (t : Nat) {Cn : String} {index : Nat} (ht : (wg_tys E.2.1)[t]? = some (E.2.1 t, .object Cn)) (hcl : Cond.classLink own index Cn ∈ wg_T) (hover : Cond.arrayOver (.object Cn) ∈ wg_N) {n : Int32} {N' : Nat} (hn : ¬ n < 0) (hN' : n.toNatClampNeg = N') (hbytes : N' * 4 ≤ 536870912) (hcells : cells + 1 ≤ R.cells) (hslots : slots + N' ≤ R.slots) (hdg : decode cc pc = .ok (.anewarray index, 3))
    (kk : ∀ (q : Nat) (H1 : Heap), wg_P E (va_up A r q) (va_up C r (some (.inl (E.2.1 t, N', .inr (.inr (.inr (.inr (fun _ => none)))))))) H1 → va_S (wg_A E) s.heap H1 locs → W p l e R s m args below meth c H1 locs (cells + 1) (slots + N') Q (F0 m (pc + 3) ls (.ref q :: rest))) : W p l e R s m args below meth c H locs cells slots Q (F0 m pc ls (.int n :: rest)) := by
  obtain ⟨hx, hb, hml, hown, hts, ⟨hK, hN, hZ⟩, hz⟩ := F
  obtain ⟨ws, hP0, hD, hC, hI⟩ := hP
  refine va_newq hx hb hown (hts _ hcl) (hN _ hover) hK hP0 hD hS (fun q h => Nat.le_trans hz h) hn hN' hbytes hcells hslots hdg (fun q cA H1 q0 q1 q2 q3 => ?_)
  obtain ⟨_, _, _, _, _, e1⟩ := (q0.2 (wg_tys E.2.1).length (cA, .object Cn) (by simp)).2
  obtain ⟨_, _, _, _, _, e2⟩ := (hK.2 t _ ht).2
  have e3 : cA = E.2.1 t := Option.some.inj (e1.symm.trans e2)
  subst e3
  exact kk q H1 (wg_P.push hC hI q1 q2 hr) q3
-- calls
theorem wg_ci {Qa : Array Value} {mc ms : Nat} {post : Int32 → (Nat → Nat) → wg_C → Prop} (hS : va_S (wg_A E) s.heap H locs) (hr : va_Run p l e R s m args below meth c H locs cells slots mc ms (F0 m pc ls st0) rest (wg_Qi E post Qa) (wg_A E))
    (kk : ∀ (r : Int32) (A1 : Nat → Nat) (C1 : wg_C) (H1 : Heap) (locs1 : List Loc), post r A1 C1 → wg_P E A1 C1 H1 → va_S (wg_A E) s.heap H1 locs1 → W p l e R s m args below meth c H1 locs1 (cells + mc) (slots + ms) Q (F0 m (pc + 3) ls (.int r :: rest))) : W p l e R s m args below meth c H locs cells slots Q (F0 m pc ls st0) :=
  va_calli hr hS (fun _ _ h => h) (fun _ h => h) (fun r u t H1 locs1 ht _ hp hB _ _ hS1 => kk r u.1 u.2 H1 locs1 hp (ht ▸ hB.2.1) hS1)
theorem wg_cl_ {Qa : Array Value} {mc ms : Nat} {post : Int64 → (Nat → Nat) → wg_C → Prop} (hS : va_S (wg_A E) s.heap H locs) (hr : va_Run p l e R s m args below meth c H locs cells slots mc ms (F0 m pc ls st0) rest (wg_Ql E post Qa) (wg_A E))
    (kk : ∀ (r : Int64) (A1 : Nat → Nat) (C1 : wg_C) (H1 : Heap) (locs1 : List Loc), post r A1 C1 → wg_P E A1 C1 H1 → va_S (wg_A E) s.heap H1 locs1 → W p l e R s m args below meth c H1 locs1 (cells + mc) (slots + ms) Q (F0 m (pc + 3) ls (.long r :: rest))) : W p l e R s m args below meth c H locs cells slots Q (F0 m pc ls st0) :=
  va_calll hr hS (fun _ _ h => h) (fun _ h => h) (fun r u t H1 locs1 ht _ hp hB _ _ hS1 => kk r u.1 u.2 H1 locs1 hp (ht ▸ hB.2.1) hS1)
theorem wg_cv {Qa : Array Value} {mc ms : Nat} {post : (Nat → Nat) → wg_C → Prop} (hS : va_S (wg_A E) s.heap H locs) (hr : va_Run p l e R s m args below meth c H locs cells slots mc ms (F0 m pc ls st0) rest (wg_Qv E post Qa) (wg_A E))
    (kk : ∀ (A1 : Nat → Nat) (C1 : wg_C) (H1 : Heap) (locs1 : List Loc), post A1 C1 → wg_P E A1 C1 H1 → va_S (wg_A E) s.heap H1 locs1 → W p l e R s m args below meth c H1 locs1 (cells + mc) (slots + ms) Q (F0 m (pc + 3) ls rest)) : W p l e R s m args below meth c H locs cells slots Q (F0 m pc ls st0) :=
  va_callv hr hS (fun _ _ h => h) (fun _ h => h) (fun u t H1 locs1 ht _ hp hB _ _ hS1 => kk u.1 u.2 H1 locs1 hp (ht ▸ hB.2.1) hS1)
theorem wg_cq {Qa : Array Value} {mc ms : Nat} {post : Option Nat → (Nat → Nat) → wg_C → Prop} (hS : va_S (wg_A E) s.heap H locs) (hr : va_Run p l e R s m args below meth c H locs cells slots mc ms (F0 m pc ls st0) rest (wg_Qq E post Qa) (wg_A E))
    (kk : ∀ (r : Option Nat) (A1 : Nat → Nat) (C1 : wg_C) (H1 : Heap) (locs1 : List Loc), post r A1 C1 → wg_P E A1 C1 H1 → va_S (wg_A E) s.heap H1 locs1 → W p l e R s m args below meth c H1 locs1 (cells + mc) (slots + ms) Q (F0 m (pc + 3) ls (va_rf r :: rest))) : W p l e R s m args below meth c H locs cells slots Q (F0 m pc ls st0) :=
  va_callq hr hS (fun _ _ h => h) (fun _ h => h) (fun r u t H1 locs1 ht _ hp hB _ _ hS1 => kk r u.1 u.2 H1 locs1 hp (ht ▸ hB.2.1) hS1)
end WGR
/-- a method's own words: its code stands in the tables, its class is initialised; an instance's, a static's, a constructor's -/
def wg_Y (y : MethodName) (bytes : ByteArray) (maxL : Nat) (ret : Option FieldType) (n : Nat) : Prop := Cond.code y bytes maxL ret ∈ wg_T ∧ Cond.initialized y.cls ∈ wg_T ∧ y.cls ≠ "java/lang/invoke/MethodHandle" ∧ y.cls ≠ "java/lang/invoke/VarHandle" ∧ (parseMethodDescriptor y.desc).map (fun d => d.parameters.length) = some n
def wg_YV (y : MethodName) (bytes : ByteArray) (maxL : Nat) (ret : Option FieldType) (n : Nat) : Prop := wg_Y y bytes maxL ret n ∧ Cond.instanceMethod y ∈ wg_T ∧ Cond.selects y.cls y y ∈ wg_T
def wg_YS (y : MethodName) (bytes : ByteArray) (maxL : Nat) (ret : Option FieldType) (n : Nat) : Prop := wg_Y y bytes maxL ret n ∧ Cond.static y ∈ wg_T
def wg_YI (y : MethodName) (bytes : ByteArray) (maxL : Nat) (n : Nat) : Prop := wg_Y y bytes maxL none n ∧ Cond.instanceMethod y ∈ wg_T ∧ y.name = "<init>"
theorem wg_good {y : MethodName} {bytes : ByteArray} {maxL : Nat} {ret : Option FieldType} (h : Cond.code y bytes maxL ret ∈ wg_T) : GoodIn wg_T (wg_ws y bytes maxL ret) := by
  intro w hw
  have hm : w ∈ wg_T := by
    rcases List.mem_cons.mp hw with rfl | h1
    · exact h
    · exact h1
  exact ⟨hm, good_of_word (List.mem_filter.mp hm).2⟩
section WGC
variable {p : Program} {l : Launch} {e : Env} {R : Room} {s : State} {m : MethodId} {args : Array Value} {below : List Frame} {meth : Method} {c : Code} {H : Heap} {locs : List Loc} {cells slots : Nat}
variable {cc bytes : ByteArray} {pc nL maxL mc ms n index : Nat} {ls : Array Slot} {rest st0 As : List Value} {E : wg_E} {A : Nat → Nat} {C : wg_C} {own host : String} {y : MethodName} {ret : Option FieldType} {rm : Room} {Qc : Array Value → State → Outcome → State → Prop}
theorem wg_rV (F : wg_F p m c cc nL s args own E) (hP : wg_P E A C H) (hS : va_S (wg_A E) s.heap H locs) {r ci : Nat} {q : vw_C} {fs : List Value} (hM : Met l y (wg_ws y bytes maxL ret) rm (wg_Pc E A C (.ref (A r) :: As)) Qc mc ms (wg_A E)) (hY : wg_YV y bytes maxL ret n) (hl : Cond.methodLink own index y ∈ wg_T) (hrc : rm.cells = mc) (hrs : rm.slots = ms) (hR : rm.frames + 1 ≤ R.frames ∧ 8 + (maxL + 11) + rm.locals ≤ R.locals) (he : C r = some (.inr (ci, fs))) (hc : wg_cl[ci]? = some q) (hq : q.1 = y.cls) (hn : As.length = n) (hsz : ls.size = nL) (hst : st0 = As.reverse ++ .ref (A r) :: rest) (hW : (rest.map fun v => v.category).sum ≤ 8) (hdg : decode cc pc = .ok (.invokevirtual index, 3)) (hf : cells + mc ≤ R.cells ∧ slots + ms ≤ R.slots) :
    va_Run p l e R s m args below meth c H locs cells slots mc ms (F0 m pc ls st0) rest (Qc (Value.ref (A r) :: As).toArray) (wg_A E) := by
  obtain ⟨⟨y1, y2, y3⟩, y4, y5⟩ := hY
  have hts := F.2.2.2.2.1
  exact va_runV (C := y.cls) ⟨F.1, F.2.1, F.2.2.1, F.2.2.2.1, hts⟩ hM ⟨callB_of n hts (wg_good y1) rfl hrc hrs (hts _ y2) (hts _ hl) y3 hR, hts _ y4, hts _ y5⟩ ⟨wg_Pc.blind, hq ▸ va_recv F.2.2.2.2.2.1.1 (hP.at he) hc (q0 := 0) rfl, fun U hU hW2 => ⟨rfl, wg_U.of F hP hS hU hW2⟩⟩ rfl hn hsz hst (lv_room hW) hdg hf
theorem wg_rVN (F : wg_F p m c cc nL s args own E) (hP : wg_P E A C H) (hS : va_S (wg_A E) s.heap H locs) {r ci : Nat} {q : vw_C} {fs : List Value} (hM : Met l y (wg_ws y bytes maxL ret) rm (wg_Pc E A C (.ref (A r) :: As)) Qc mc ms (wg_A E)) (hY : wg_YV y bytes maxL ret n) (hl : Cond.methodLinkNest own index y host ∈ wg_N) (hrc : rm.cells = mc) (hrs : rm.slots = ms) (hR : rm.frames + 1 ≤ R.frames ∧ 8 + (maxL + 11) + rm.locals ≤ R.locals) (he : C r = some (.inr (ci, fs))) (hc : wg_cl[ci]? = some q) (hq : q.1 = y.cls) (hn : As.length = n) (hsz : ls.size = nL) (hst : st0 = As.reverse ++ .ref (A r) :: rest) (hW : (rest.map fun v => v.category).sum ≤ 8) (hdg : decode cc pc = .ok (.invokevirtual index, 3)) (hf : cells + mc ≤ R.cells ∧ slots + ms ≤ R.slots) :
    va_Run p l e R s m args below meth c H locs cells slots mc ms (F0 m pc ls st0) rest (Qc (Value.ref (A r) :: As).toArray) (wg_A E) := by
  obtain ⟨⟨y1, y2, y3⟩, y4, y5⟩ := hY
  have hts := F.2.2.2.2.1
  exact va_runVN (C := y.cls) (host := host) ⟨F.1, F.2.1, F.2.2.1, F.2.2.2.1, hts⟩ hM ⟨va_cnB n hts (wg_good y1) rfl hrc hrs (F.2.2.2.2.2.1.2.1 _ hl) (hts _ y2) y3 hR, hts _ y4, hts _ y5⟩ ⟨wg_Pc.blind, hq ▸ va_recv F.2.2.2.2.2.1.1 (hP.at he) hc (q0 := 0) rfl, fun U hU hW2 => ⟨rfl, wg_U.of F hP hS hU hW2⟩⟩ rfl hn hsz hst (lv_room hW) hdg hf
theorem wg_rS (F : wg_F p m c cc nL s args own E) (hP : wg_P E A C H) (hS : va_S (wg_A E) s.heap H locs) (hM : Met l y (wg_ws y bytes maxL ret) rm (wg_Pc E A C As) Qc mc ms (wg_A E)) (hY : wg_YS y bytes maxL ret n) (hl : Cond.methodLink own index y ∈ wg_T) (hrc : rm.cells = mc) (hrs : rm.slots = ms) (hR : rm.frames + 1 ≤ R.frames ∧ 8 + (maxL + 11) + rm.locals ≤ R.locals) (hn : As.length = n) (hsz : ls.size = nL) (hst : st0 = As.reverse ++ rest) (hW : (rest.map fun v => v.category).sum ≤ 8) (hdg : decode cc pc = .ok (.invokestatic index, 3)) (hf : cells + mc ≤ R.cells ∧ slots + ms ≤ R.slots) :
    va_Run p l e R s m args below meth c H locs cells slots mc ms (F0 m pc ls st0) rest (Qc As.toArray) (wg_A E) := by
  obtain ⟨⟨y1, y2, y3⟩, y4⟩ := hY
  have hts := F.2.2.2.2.1
  exact va_runS ⟨F.1, F.2.1, F.2.2.1, F.2.2.2.1, hts⟩ hM ⟨callB_of n hts (wg_good y1) rfl hrc hrs (hts _ y2) (hts _ hl) y3 hR, hts _ y4⟩ ⟨wg_Pc.blind, fun U hU hW2 => ⟨rfl, wg_U.of F hP hS hU hW2⟩⟩ rfl hn hsz hst (lv_room hW) hdg hf
theorem wg_rSN (F : wg_F p m c cc nL s args own E) (hP : wg_P E A C H) (hS : va_S (wg_A E) s.heap H locs) (hM : Met l y (wg_ws y bytes maxL ret) rm (wg_Pc E A C As) Qc mc ms (wg_A E)) (hY : wg_YS y bytes maxL ret n) (hl : Cond.methodLinkNest own index y host ∈ wg_N) (hrc : rm.cells = mc) (hrs : rm.slots = ms) (hR : rm.frames + 1 ≤ R.frames ∧ 8 + (maxL + 11) + rm.locals ≤ R.locals) (hn : As.length = n) (hsz : ls.size = nL) (hst : st0 = As.reverse ++ rest) (hW : (rest.map fun v => v.category).sum ≤ 8) (hdg : decode cc pc = .ok (.invokestatic index, 3)) (hf : cells + mc ≤ R.cells ∧ slots + ms ≤ R.slots) :
    va_Run p l e R s m args below meth c H locs cells slots mc ms (F0 m pc ls st0) rest (Qc As.toArray) (wg_A E) := by
  obtain ⟨⟨y1, y2, y3⟩, y4⟩ := hY
  have hts := F.2.2.2.2.1
  exact va_runSN (host := host) ⟨F.1, F.2.1, F.2.2.1, F.2.2.2.1, hts⟩ hM ⟨va_cnB n hts (wg_good y1) rfl hrc hrs (F.2.2.2.2.2.1.2.1 _ hl) (hts _ y2) y3 hR, hts _ y4, trivial⟩ ⟨wg_Pc.blind, fun U hU hW2 => ⟨rfl, wg_U.of F hP hS hU hW2⟩⟩ rfl hn hsz hst (lv_room hW) hdg hf
theorem wg_rI (F : wg_F p m c cc nL s args own E) (hP : wg_P E A C H) (hS : va_S (wg_A E) s.heap H locs) {b : Nat} (hM : Met l y (wg_ws y bytes maxL none) rm (wg_Pc E A C (.ref b :: As)) Qc mc ms (wg_A E)) (hY : wg_YI y bytes maxL n) (hl : Cond.methodLink own index y ∈ wg_T) (hrc : rm.cells = mc) (hrs : rm.slots = ms) (hR : rm.frames + 1 ≤ R.frames ∧ 8 + (maxL + 11) + rm.locals ≤ R.locals) (hn : As.length = n) (hsz : ls.size = nL) (hst : st0 = As.reverse ++ .ref b :: rest) (hW : (rest.map fun v => v.category).sum ≤ 8) (hdg : decode cc pc = .ok (.invokespecial index, 3)) (hf : cells + mc ≤ R.cells ∧ slots + ms ≤ R.slots) :
    va_Run p l e R s m args below meth c H locs cells slots mc ms (F0 m pc ls st0) rest (Qc (Value.ref b :: As).toArray) (wg_A E) := by
  obtain ⟨⟨y1, y2, y3⟩, y4, y5⟩ := hY
  have hts := F.2.2.2.2.1
  exact va_runI ⟨F.1, F.2.1, F.2.2.1, F.2.2.2.1, hts⟩ hM ⟨callB_of n hts (wg_good y1) rfl hrc hrs (hts _ y2) (hts _ hl) y3 hR, y5, hts _ y4⟩ ⟨wg_Pc.blind, fun U hU hW2 => ⟨rfl, wg_U.of F hP hS hU hW2⟩⟩ rfl hn hsz hst (lv_room hW) hdg hf
theorem wg_rIN (F : wg_F p m c cc nL s args own E) (hP : wg_P E A C H) (hS : va_S (wg_A E) s.heap H locs) {b : Nat} (hM : Met l y (wg_ws y bytes maxL none) rm (wg_Pc E A C (.ref b :: As)) Qc mc ms (wg_A E)) (hY : wg_YI y bytes maxL n) (hl : Cond.methodLinkNest own index y host ∈ wg_N) (hrc : rm.cells = mc) (hrs : rm.slots = ms) (hR : rm.frames + 1 ≤ R.frames ∧ 8 + (maxL + 11) + rm.locals ≤ R.locals) (hn : As.length = n) (hsz : ls.size = nL) (hst : st0 = As.reverse ++ .ref b :: rest) (hW : (rest.map fun v => v.category).sum ≤ 8) (hdg : decode cc pc = .ok (.invokespecial index, 3)) (hf : cells + mc ≤ R.cells ∧ slots + ms ≤ R.slots) :
    va_Run p l e R s m args below meth c H locs cells slots mc ms (F0 m pc ls st0) rest (Qc (Value.ref b :: As).toArray) (wg_A E) := by
  obtain ⟨⟨y1, y2, y3⟩, y4, y5⟩ := hY
  have hts := F.2.2.2.2.1
  exact va_runIN (host := host) ⟨F.1, F.2.1, F.2.2.1, F.2.2.2.1, hts⟩ hM ⟨va_cnB n hts (wg_good y1) rfl hrc hrs (F.2.2.2.2.2.1.2.1 _ hl) (hts _ y2) y3 hR, y5, hts _ y4⟩ ⟨wg_Pc.blind, fun U hU hW2 => ⟨rfl, wg_U.of F hP hS hU hW2⟩⟩ rfl hn hsz hst (lv_room hW) hdg hf
end WGC
end
section
theorem iw_X0 : ∀ w ∈ u_ws RX0 TX0 4, w ∈ wg_T := by
  show ∀ w ∈ ([u_lay RX0 TX0 0, u_lay RX0 TX0 1, u_lay RX0 TX0 2, u_lay RX0 TX0 3] : List Cond), w ∈ wg_T
  exact List.forall_mem_cons.mpr ⟨tb_120, List.forall_mem_cons.mpr ⟨tb_122, List.forall_mem_cons.mpr ⟨tb_124, List.forall_mem_cons.mpr ⟨tb_126, fun _ h => absurd h List.not_mem_nil⟩⟩⟩⟩
theorem iw_X1 : ∀ w ∈ u_ws RX1 TX1 1, w ∈ wg_T := by
  show ∀ w ∈ ([u_lay RX1 TX1 0] : List Cond), w ∈ wg_T
  exact List.forall_mem_cons.mpr ⟨tb_137, fun _ h => absurd h List.not_mem_nil⟩
theorem iw_X2 : ∀ w ∈ u_ws RX2 TX2 8, w ∈ wg_T := by
  show ∀ w ∈ ([u_lay RX2 TX2 0, u_lay RX2 TX2 1, u_lay RX2 TX2 2, u_lay RX2 TX2 3, u_lay RX2 TX2 4, u_lay RX2 TX2 5, u_lay RX2 TX2 6, u_lay RX2 TX2 7] : List Cond), w ∈ wg_T
  exact List.forall_mem_cons.mpr ⟨tb_265, List.forall_mem_cons.mpr ⟨tb_267, List.forall_mem_cons.mpr ⟨tb_269, List.forall_mem_cons.mpr ⟨tb_271, List.forall_mem_cons.mpr ⟨tb_273, List.forall_mem_cons.mpr ⟨tb_275, List.forall_mem_cons.mpr ⟨tb_277, List.forall_mem_cons.mpr ⟨tb_279, fun _ h => absurd h List.not_mem_nil⟩⟩⟩⟩⟩⟩⟩⟩
theorem iw_X3 : ∀ w ∈ u_ws RX3 TX3 2, w ∈ wg_T := by
  show ∀ w ∈ ([u_lay RX3 TX3 0, u_lay RX3 TX3 1] : List Cond), w ∈ wg_T
  exact List.forall_mem_cons.mpr ⟨tb_37, List.forall_mem_cons.mpr ⟨tb_39, fun _ h => absurd h List.not_mem_nil⟩⟩
theorem iw_X4 : ∀ w ∈ u_ws RX4 TX4 7, w ∈ wg_T := by
  show ∀ w ∈ ([u_lay RX4 TX4 0, u_lay RX4 TX4 1, u_lay RX4 TX4 2, u_lay RX4 TX4 3, u_lay RX4 TX4 4, u_lay RX4 TX4 5, u_lay RX4 TX4 6] : List Cond), w ∈ wg_T
  exact List.forall_mem_cons.mpr ⟨tb_90, List.forall_mem_cons.mpr ⟨tb_92, List.forall_mem_cons.mpr ⟨tb_94, List.forall_mem_cons.mpr ⟨tb_96, List.forall_mem_cons.mpr ⟨tb_98, List.forall_mem_cons.mpr ⟨tb_100, List.forall_mem_cons.mpr ⟨tb_102, fun _ h => absurd h List.not_mem_nil⟩⟩⟩⟩⟩⟩⟩
theorem iw_X5 : ∀ w ∈ u_ws RX5 TX5 2, w ∈ wg_T := by
  show ∀ w ∈ ([u_lay RX5 TX5 0, u_lay RX5 TX5 1] : List Cond), w ∈ wg_T
  exact List.forall_mem_cons.mpr ⟨tb_69, List.forall_mem_cons.mpr ⟨tb_71, fun _ h => absurd h List.not_mem_nil⟩⟩
theorem iw_X6 : ∀ w ∈ u_ws RX6 TX6 4, w ∈ wg_T := by
  show ∀ w ∈ ([u_lay RX6 TX6 0, u_lay RX6 TX6 1, u_lay RX6 TX6 2, u_lay RX6 TX6 3] : List Cond), w ∈ wg_T
  exact List.forall_mem_cons.mpr ⟨tb_214, List.forall_mem_cons.mpr ⟨tb_216, List.forall_mem_cons.mpr ⟨tb_218, List.forall_mem_cons.mpr ⟨tb_220, fun _ h => absurd h List.not_mem_nil⟩⟩⟩⟩
theorem iw_X7 : ∀ w ∈ u_ws RX7 TX7 9, w ∈ wg_T := by
  show ∀ w ∈ ([u_lay RX7 TX7 0, u_lay RX7 TX7 1, u_lay RX7 TX7 2, u_lay RX7 TX7 3, u_lay RX7 TX7 4, u_lay RX7 TX7 5, u_lay RX7 TX7 6, u_lay RX7 TX7 7, u_lay RX7 TX7 8] : List Cond), w ∈ wg_T
  exact List.forall_mem_cons.mpr ⟨tb_172, List.forall_mem_cons.mpr ⟨tb_174, List.forall_mem_cons.mpr ⟨tb_176, List.forall_mem_cons.mpr ⟨tb_178, List.forall_mem_cons.mpr ⟨tb_180, List.forall_mem_cons.mpr ⟨tb_182, List.forall_mem_cons.mpr ⟨tb_184, List.forall_mem_cons.mpr ⟨tb_186, List.forall_mem_cons.mpr ⟨tb_188, fun _ h => absurd h List.not_mem_nil⟩⟩⟩⟩⟩⟩⟩⟩⟩
theorem iw_X8 : ∀ w ∈ u_ws RX8 TX8 29, w ∈ wg_T := by
  show ∀ w ∈ ([u_lay RX8 TX8 0, u_lay RX8 TX8 1, u_lay RX8 TX8 2, u_lay RX8 TX8 3, u_lay RX8 TX8 4, u_lay RX8 TX8 5, u_lay RX8 TX8 6, u_lay RX8 TX8 7, u_lay RX8 TX8 8, u_lay RX8 TX8 9, u_lay RX8 TX8 10, u_lay RX8 TX8 11, u_lay RX8 TX8 12, u_lay RX8 TX8 13, u_lay RX8 TX8 14, u_lay RX8 TX8 15, u_lay RX8 TX8 16, u_lay RX8 TX8 17, u_lay RX8 TX8 18, u_lay RX8 TX8 19, u_lay RX8 TX8 20, u_lay RX8 TX8 21, u_lay RX8 TX8 22, u_lay RX8 TX8 23, u_lay RX8 TX8 24, u_lay RX8 TX8 25, u_lay RX8 TX8 26, u_lay RX8 TX8 27, u_lay RX8 TX8 28] : List Cond), w ∈ wg_T
  exact List.forall_mem_cons.mpr ⟨tb_578, List.forall_mem_cons.mpr ⟨tb_580, List.forall_mem_cons.mpr ⟨tb_582, List.forall_mem_cons.mpr ⟨tb_584, List.forall_mem_cons.mpr ⟨tb_586, List.forall_mem_cons.mpr ⟨tb_588, List.forall_mem_cons.mpr ⟨tb_590, List.forall_mem_cons.mpr ⟨tb_592, List.forall_mem_cons.mpr ⟨tb_594, List.forall_mem_cons.mpr ⟨tb_596, List.forall_mem_cons.mpr ⟨tb_598, List.forall_mem_cons.mpr ⟨tb_600, List.forall_mem_cons.mpr ⟨tb_602, List.forall_mem_cons.mpr ⟨tb_604, List.forall_mem_cons.mpr ⟨tb_606, List.forall_mem_cons.mpr ⟨tb_608, List.forall_mem_cons.mpr ⟨tb_610, List.forall_mem_cons.mpr ⟨tb_612, List.forall_mem_cons.mpr ⟨tb_614, List.forall_mem_cons.mpr ⟨tb_616, List.forall_mem_cons.mpr ⟨tb_618, List.forall_mem_cons.mpr ⟨tb_620, List.forall_mem_cons.mpr ⟨tb_622, List.forall_mem_cons.mpr ⟨tb_624, List.forall_mem_cons.mpr ⟨tb_626, List.forall_mem_cons.mpr ⟨tb_628, List.forall_mem_cons.mpr ⟨tb_630, List.forall_mem_cons.mpr ⟨tb_632, List.forall_mem_cons.mpr ⟨tb_634, fun _ h => absurd h List.not_mem_nil⟩⟩⟩⟩⟩⟩⟩⟩⟩⟩⟩⟩⟩⟩⟩⟩⟩⟩⟩⟩⟩⟩⟩⟩⟩⟩⟩⟩⟩
theorem ok_X0_init : wg_YI yX0_init cX0_init 1 0 := ⟨⟨tb_108, tb_6, by decide, by decide, by decide +kernel⟩, tb_107, rfl⟩
theorem ok_X0_begin : wg_YV yX0_begin cX0_begin 2 none 1 := ⟨⟨tb_337, tb_6, by decide, by decide, by decide +kernel⟩, tb_336, ts_13⟩
theorem ok_X0_trusted : wg_YV yX0_trusted cX0_trusted 1 (some (.object "LightChecks$Head")) 0 := ⟨⟨tb_353, tb_6, by decide, by decide, by decide +kernel⟩, tb_352, ts_15⟩
theorem ok_X0_keep : wg_YV yX0_keep cX0_keep 5 none 2 := ⟨⟨tb_374, tb_6, by decide, by decide, by decide +kernel⟩, tb_373, ts_20⟩
theorem ok_X0_refuse : wg_YV yX0_refuse cX0_refuse 3 (some .int) 2 := ⟨⟨tb_370, tb_6, by decide, by decide, by decide +kernel⟩, tb_369, ts_19⟩
theorem ok_X0_lastBelow : wg_YV yX0_lastBelow cX0_lastBelow 4 (some (.object "LightChecks$Head")) 1 := ⟨⟨tb_438, tb_6, by decide, by decide, by decide +kernel⟩, tb_437, ts_28⟩
theorem ok_X1_init : wg_YI yX1_init cX1_init 1 0 := ⟨⟨tb_132, tb_7, by decide, by decide, by decide +kernel⟩, tb_131, rfl⟩
theorem ok_X1_placeOf : wg_YV yX1_placeOf cX1_placeOf 4 (some .int) 1 := ⟨⟨tb_394, tb_7, by decide, by decide, by decide +kernel⟩, tb_393, ts_24⟩
theorem ok_X1_headAt : wg_YV yX1_headAt cX1_headAt 2 (some (.object "LightChecks$Head")) 1 := ⟨⟨tb_410, tb_7, by decide, by decide, by decide +kernel⟩, tb_409, ts_26⟩
theorem ok_X1_replace : wg_YV yX1_replace cX1_replace 4 (some (.object "LightChecks$Head")) 1 := ⟨⟨tb_390, tb_7, by decide, by decide, by decide +kernel⟩, tb_389, ts_23⟩
theorem ok_X1_leastUnlike : wg_YV yX1_leastUnlike cX1_leastUnlike 5 (some .int) 1 := ⟨⟨tb_426, tb_7, by decide, by decide, by decide +kernel⟩, tb_425, ts_27⟩
theorem ok_X1_isUnlike : wg_YS yX1_isUnlike cX1_isUnlike 3 (some .boolean) 2 := ⟨⟨tb_429, tb_7, by decide, by decide, by decide +kernel⟩, tb_428⟩
theorem ok_X2_init : wg_YI yX2_init cX2_init 9 6 := ⟨⟨tb_243, tb_10, by decide, by decide, by decide +kernel⟩, tb_242, rfl⟩
theorem ok_X3_init : wg_YI yX3_init cX3_init 2 1 := ⟨⟨tb_25, tb_2, by decide, by decide, by decide +kernel⟩, tb_24, rfl⟩
theorem ok_X3_at : wg_YV yX3_at cX3_at 2 (some (.object "LightChecks$Head")) 1 := ⟨⟨tb_294, tb_2, by decide, by decide, by decide +kernel⟩, tb_293, ts_9⟩
theorem ok_X3_isFull : wg_YV yX3_isFull cX3_isFull 1 (some .boolean) 0 := ⟨⟨tb_238, tb_2, by decide, by decide, by decide +kernel⟩, tb_237, ts_7⟩
theorem ok_X3_add : wg_YV yX3_add cX3_add 2 none 1 := ⟨⟨tb_285, tb_2, by decide, by decide, by decide +kernel⟩, tb_284, ts_8⟩
theorem ok_X3_put : wg_YV yX3_put cX3_put 3 none 2 := ⟨⟨tb_378, tb_2, by decide, by decide, by decide +kernel⟩, tb_377, ts_21⟩
theorem ok_X3_cutTo : wg_YV yX3_cutTo cX3_cutTo 2 none 1 := ⟨⟨tb_341, tb_2, by decide, by decide, by decide +kernel⟩, tb_340, ts_14⟩
theorem ok_X4_init : wg_YI yX4_init cX4_init 1 0 := ⟨⟨tb_80, tb_5, by decide, by decide, by decide +kernel⟩, tb_79, rfl⟩
theorem ok_X4_take : wg_YV yX4_take cX4_take 5 none 3 := ⟨⟨tb_143, tb_5, by decide, by decide, by decide +kernel⟩, tb_142, ts_1⟩
theorem ok_X4_isOnWay : wg_YV yX4_isOnWay cX4_isOnWay 3 (some .boolean) 1 := ⟨⟨tb_158, tb_5, by decide, by decide, by decide +kernel⟩, tb_157, ts_4⟩
theorem ok_X4_isBeside : wg_YV yX4_isBeside cX4_isBeside 2 (some .boolean) 1 := ⟨⟨tb_154, tb_5, by decide, by decide, by decide +kernel⟩, tb_153, ts_3⟩
theorem ok_X4_hasNode : wg_YV yX4_hasNode cX4_hasNode 2 (some .boolean) 1 := ⟨⟨tb_468, tb_5, by decide, by decide, by decide +kernel⟩, tb_467, ts_31⟩
theorem ok_X4_numberAt : wg_YV yX4_numberAt cX4_numberAt 2 (some .long) 1 := ⟨⟨tb_464, tb_5, by decide, by decide, by decide +kernel⟩, tb_463, ts_30⟩
theorem ok_X4_replace : wg_YV yX4_replace cX4_replace 4 (some .boolean) 2 := ⟨⟨tb_476, tb_5, by decide, by decide, by decide +kernel⟩, tb_475, ts_32⟩
theorem ok_X4_topBefore : wg_YV yX4_topBefore cX4_topBefore 1 (some .long) 0 := ⟨⟨tb_484, tb_5, by decide, by decide, by decide +kernel⟩, tb_483, ts_33⟩
theorem ok_X4_topBehind : wg_YV yX4_topBehind cX4_topBehind 3 (some .long) 1 := ⟨⟨tb_494, tb_5, by decide, by decide, by decide +kernel⟩, tb_493, ts_35⟩
theorem ok_X4_topWith : wg_YV yX4_topWith cX4_topWith 7 (some .long) 2 := ⟨⟨tb_488, tb_5, by decide, by decide, by decide +kernel⟩, tb_487, ts_34⟩
theorem ok_X5_init : wg_YI yX5_init cX5_init 1 0 := ⟨⟨tb_50, tb_4, by decide, by decide, by decide +kernel⟩, tb_49, rfl⟩
theorem ok_X5_reckon : wg_YV yX5_reckon cX5_reckon 2 none 0 := ⟨⟨tb_55, tb_4, by decide, by decide, by decide +kernel⟩, tb_54, ts_0⟩
theorem ok_X5_leafAt : wg_YV yX5_leafAt cX5_leafAt 2 (some .long) 1 := ⟨⟨tb_147, tb_4, by decide, by decide, by decide +kernel⟩, tb_146, ts_2⟩
theorem ok_X5_nodeAt : wg_YV yX5_nodeAt cX5_nodeAt 2 (some .long) 1 := ⟨⟨tb_162, tb_4, by decide, by decide, by decide +kernel⟩, tb_161, ts_5⟩
theorem ok_X5_change : wg_YV yX5_change cX5_change 6 (some .long) 2 := ⟨⟨tb_446, tb_4, by decide, by decide, by decide +kernel⟩, tb_445, ts_29⟩
theorem ok_X6_init : wg_YI yX6_init cX6_init 8 3 := ⟨⟨tb_204, tb_9, by decide, by decide, by decide +kernel⟩, tb_203, rfl⟩
theorem ok_X6_weightOf : wg_YV yX6_weightOf cX6_weightOf 4 (some .int) 1 := ⟨⟨tb_317, tb_9, by decide, by decide, by decide +kernel⟩, tb_316, ts_10⟩
theorem ok_X7_init : wg_YI yX7_init cX7_init 2 0 := ⟨⟨tb_15, tb_1, by decide, by decide, by decide +kernel⟩, tb_14, rfl⟩
theorem ok_X7_set : wg_YV yX7_set cX7_set 5 (some .int) 2 := ⟨⟨tb_194, tb_1, by decide, by decide, by decide +kernel⟩, tb_192, tb_193⟩
theorem ok_X7_head : wg_YV yX7_head cX7_head 11 (some .int) 5 := ⟨⟨tb_226, tb_1, by decide, by decide, by decide +kernel⟩, tb_224, tb_225⟩
theorem ok_X7_sign : wg_YV yX7_sign cX7_sign 5 (some .int) 2 := ⟨⟨tb_290, tb_1, by decide, by decide, by decide +kernel⟩, tb_288, tb_289⟩
theorem ok_X7_term : wg_YV yX7_term cX7_term 4 (some .int) 2 := ⟨⟨tb_298, tb_1, by decide, by decide, by decide +kernel⟩, tb_296, tb_297⟩
theorem ok_X7_digest : wg_YV yX7_digest cX7_digest 3 (some .long) 1 := ⟨⟨tb_306, tb_1, by decide, by decide, by decide +kernel⟩, tb_304, tb_305⟩
theorem ok_X7_certified : wg_YV yX7_certified cX7_certified 3 (some .int) 1 := ⟨⟨tb_310, tb_1, by decide, by decide, by decide +kernel⟩, tb_308, tb_309⟩
theorem ok_X7_overlaps : wg_YV yX7_overlaps cX7_overlaps 5 (some .int) 2 := ⟨⟨tb_321, tb_1, by decide, by decide, by decide +kernel⟩, tb_319, tb_320⟩
theorem ok_X7_start : wg_YV yX7_start cX7_start 5 (some .int) 2 := ⟨⟨tb_329, tb_1, by decide, by decide, by decide +kernel⟩, tb_327, tb_328⟩
theorem ok_X7_follow : wg_YV yX7_follow cX7_follow 7 (some .int) 2 := ⟨⟨tb_349, tb_1, by decide, by decide, by decide +kernel⟩, tb_347, tb_348⟩
theorem ok_X7_give : wg_YV yX7_give cX7_give 6 (some .int) 2 := ⟨⟨tb_382, tb_1, by decide, by decide, by decide +kernel⟩, tb_380, tb_381⟩
theorem ok_X7_seek : wg_YV yX7_seek cX7_seek 6 (some .int) 3 := ⟨⟨tb_401, tb_1, by decide, by decide, by decide +kernel⟩, tb_399, tb_400⟩
theorem ok_X7_stored : wg_YV yX7_stored cX7_stored 5 (some .int) 2 := ⟨⟨tb_414, tb_1, by decide, by decide, by decide +kernel⟩, tb_412, tb_413⟩
theorem ok_X7_client : wg_YV yX7_client cX7_client 4 (some .int) 2 := ⟨⟨tb_418, tb_1, by decide, by decide, by decide +kernel⟩, tb_416, tb_417⟩
theorem ok_X7_compare : wg_YV yX7_compare cX7_compare 5 (some .int) 2 := ⟨⟨tb_422, tb_1, by decide, by decide, by decide +kernel⟩, tb_420, tb_421⟩
theorem ok_X7_blame : wg_YV yX7_blame cX7_blame 10 (some .int) 3 := ⟨⟨tb_434, tb_1, by decide, by decide, by decide +kernel⟩, tb_432, tb_433⟩
theorem ok_X7_leaf : wg_YV yX7_leaf cX7_leaf 4 (some .long) 2 := ⟨⟨tb_442, tb_1, by decide, by decide, by decide +kernel⟩, tb_440, tb_441⟩
theorem ok_X7_tree : wg_YV yX7_tree cX7_tree 2 (some .long) 1 := ⟨⟨tb_450, tb_1, by decide, by decide, by decide +kernel⟩, tb_448, tb_449⟩
theorem ok_X7_prove : wg_YV yX7_prove cX7_prove 3 (some .int) 2 := ⟨⟨tb_455, tb_1, by decide, by decide, by decide +kernel⟩, tb_453, tb_454⟩
theorem ok_X7_proof : wg_YV yX7_proof cX7_proof 2 (some .long) 1 := ⟨⟨tb_460, tb_1, by decide, by decide, by decide +kernel⟩, tb_458, tb_459⟩
theorem ok_X7_alter : wg_YV yX7_alter cX7_alter 4 (some .int) 2 := ⟨⟨tb_472, tb_1, by decide, by decide, by decide +kernel⟩, tb_470, tb_471⟩
theorem ok_X7_fraud : wg_YV yX7_fraud cX7_fraud 7 (some .int) 3 := ⟨⟨tb_480, tb_1, by decide, by decide, by decide +kernel⟩, tb_478, tb_479⟩
theorem ok_X7_chance : wg_YV yX7_chance cX7_chance 9 (some .long) 4 := ⟨⟨tb_499, tb_1, by decide, by decide, by decide +kernel⟩, tb_497, tb_498⟩
theorem ok_X7_samples : wg_YV yX7_samples cX7_samples 5 (some .int) 3 := ⟨⟨tb_516, tb_1, by decide, by decide, by decide +kernel⟩, tb_514, tb_515⟩
theorem ok_X7_told : wg_YV yX7_told cX7_told 2 (some .int) 1 := ⟨⟨tb_520, tb_1, by decide, by decide, by decide +kernel⟩, tb_518, tb_519⟩
theorem ok_X7_setAt : wg_YV yX7_setAt cX7_setAt 2 (some (.object "LightChecks$WeightSet")) 1 := ⟨⟨tb_230, tb_1, by decide, by decide, by decide +kernel⟩, tb_229, ts_6⟩
theorem ok_X7_clientAt : wg_YV yX7_clientAt cX7_clientAt 2 (some (.object "LightChecks$Client")) 1 := ⟨⟨tb_333, tb_1, by decide, by decide, by decide +kernel⟩, tb_332, ts_12⟩
theorem ok_X7_giverAt : wg_YV yX7_giverAt cX7_giverAt 2 (some (.object "LightChecks$Giver")) 1 := ⟨⟨tb_386, tb_1, by decide, by decide, by decide +kernel⟩, tb_385, ts_22⟩
theorem ok_X7_doesOverlap : wg_YV yX7_doesOverlap cX7_doesOverlap 3 (some .boolean) 2 := ⟨⟨tb_325, tb_1, by decide, by decide, by decide +kernel⟩, tb_324, ts_11⟩
theorem ok_X7_refusal : wg_YV yX7_refusal cX7_refusal 4 (some .int) 2 := ⟨⟨tb_358, tb_1, by decide, by decide, by decide +kernel⟩, tb_357, ts_16⟩
theorem ok_X7_stepRefusal : wg_YV yX7_stepRefusal cX7_stepRefusal 3 (some .int) 2 := ⟨⟨tb_362, tb_1, by decide, by decide, by decide +kernel⟩, tb_361, ts_17⟩
theorem ok_X7_skipRefusal : wg_YV yX7_skipRefusal cX7_skipRefusal 3 (some .int) 2 := ⟨⟨tb_366, tb_1, by decide, by decide, by decide +kernel⟩, tb_365, ts_18⟩
theorem ok_X7_climb : wg_YV yX7_climb cX7_climb 10 (some .int) 3 := ⟨⟨tb_405, tb_1, by decide, by decide, by decide +kernel⟩, tb_404, ts_25⟩
theorem ok_X7_isHeight : wg_YS yX7_isHeight cX7_isHeight 1 (some .boolean) 1 := ⟨⟨tb_233, tb_1, by decide, by decide, by decide +kernel⟩, tb_232⟩
theorem ok_X7_isLeaf : wg_YS yX7_isLeaf cX7_isLeaf 1 (some .boolean) 1 := ⟨⟨tb_150, tb_1, by decide, by decide, by decide +kernel⟩, tb_149⟩
theorem ok_X7_arePieces : wg_YS yX7_arePieces cX7_arePieces 2 (some .boolean) 2 := ⟨⟨tb_502, tb_1, by decide, by decide, by decide +kernel⟩, tb_501⟩
theorem ok_X7_isCertified : wg_YS yX7_isCertified cX7_isCertified 1 (some .boolean) 1 := ⟨⟨tb_313, tb_1, by decide, by decide, by decide +kernel⟩, tb_312⟩
theorem ok_X7_weightIn : wg_YS yX7_weightIn cX7_weightIn 3 (some .int) 2 := ⟨⟨tb_200, tb_1, by decide, by decide, by decide +kernel⟩, tb_199⟩
theorem ok_X7_holdsWeights : wg_YS yX7_holdsWeights cX7_holdsWeights 3 (some .boolean) 1 := ⟨⟨tb_197, tb_1, by decide, by decide, by decide +kernel⟩, tb_196⟩
theorem ok_X7_mix : wg_YS yX7_mix cX7_mix 2 (some .long) 1 := ⟨⟨tb_58, tb_1, by decide, by decide, by decide +kernel⟩, tb_57⟩
theorem ok_X7_pair : wg_YS yX7_pair cX7_pair 4 (some .long) 2 := ⟨⟨tb_63, tb_1, by decide, by decide, by decide +kernel⟩, tb_62⟩
theorem ok_X7_choose : wg_YS yX7_choose cX7_choose 5 (some .long) 2 := ⟨⟨tb_506, tb_1, by decide, by decide, by decide +kernel⟩, tb_505⟩
theorem ok_X7_commonDivisor : wg_YS yX7_commonDivisor cX7_commonDivisor 7 (some .long) 2 := ⟨⟨tb_509, tb_1, by decide, by decide, by decide +kernel⟩, tb_508⟩
theorem ok_X8_init : wg_YI yX8_init cX8_init 2 0 := ⟨⟨tb_525, tb_8, by decide, by decide, by decide +kernel⟩, tb_524, rfl⟩
theorem ok_X8_in : wg_YS yX8_in cX8_in 6 (some .boolean) 3 := ⟨⟨tb_534, tb_8, by decide, by decide, by decide +kernel⟩, tb_533⟩
theorem ok_X8_mix : wg_YS yX8_mix cX8_mix 4 (some .long) 1 := ⟨⟨tb_541, tb_8, by decide, by decide, by decide +kernel⟩, tb_540⟩
theorem ok_X8_pair : wg_YS yX8_pair cX8_pair 4 (some .long) 2 := ⟨⟨tb_546, tb_8, by decide, by decide, by decide +kernel⟩, tb_545⟩
theorem ok_X8_set : wg_YV yX8_set cX8_set 7 (some .int) 2 := ⟨⟨tb_641, tb_8, by decide, by decide, by decide +kernel⟩, tb_639, tb_640⟩
theorem ok_X8_isSet : wg_YV yX8_isSet cX8_isSet 2 (some .boolean) 1 := ⟨⟨tb_653, tb_8, by decide, by decide, by decide +kernel⟩, tb_652, ts_37⟩
theorem ok_X8_isHead : wg_YV yX8_isHead cX8_isHead 2 (some .boolean) 1 := ⟨⟨tb_661, tb_8, by decide, by decide, by decide +kernel⟩, tb_660, ts_38⟩
theorem ok_X8_head : wg_YV yX8_head cX8_head 8 (some .int) 5 := ⟨⟨tb_648, tb_8, by decide, by decide, by decide +kernel⟩, tb_646, tb_647⟩
theorem ok_X8_sign : wg_YV yX8_sign cX8_sign 4 (some .int) 2 := ⟨⟨tb_657, tb_8, by decide, by decide, by decide +kernel⟩, tb_655, tb_656⟩
theorem ok_X8_term : wg_YV yX8_term cX8_term 4 (some .int) 2 := ⟨⟨tb_666, tb_8, by decide, by decide, by decide +kernel⟩, tb_664, tb_665⟩
theorem ok_X8_digestOf : wg_YV yX8_digestOf cX8_digestOf 2 (some .long) 1 := ⟨⟨tb_677, tb_8, by decide, by decide, by decide +kernel⟩, tb_676, ts_39⟩
theorem ok_X8_digest : wg_YV yX8_digest cX8_digest 2 (some .long) 1 := ⟨⟨tb_673, tb_8, by decide, by decide, by decide +kernel⟩, tb_671, tb_672⟩
theorem ok_X8_weightOf : wg_YV yX8_weightOf cX8_weightOf 5 (some .int) 2 := ⟨⟨tb_689, tb_8, by decide, by decide, by decide +kernel⟩, tb_688, ts_41⟩
theorem ok_X8_isCertified : wg_YV yX8_isCertified cX8_isCertified 2 (some .boolean) 1 := ⟨⟨tb_685, tb_8, by decide, by decide, by decide +kernel⟩, tb_684, ts_40⟩
theorem ok_X8_doesOverlap : wg_YV yX8_doesOverlap cX8_doesOverlap 3 (some .boolean) 2 := ⟨⟨tb_697, tb_8, by decide, by decide, by decide +kernel⟩, tb_696, ts_42⟩
theorem ok_X8_certified : wg_YV yX8_certified cX8_certified 2 (some .int) 1 := ⟨⟨tb_681, tb_8, by decide, by decide, by decide +kernel⟩, tb_679, tb_680⟩
theorem ok_X8_overlaps : wg_YV yX8_overlaps cX8_overlaps 3 (some .int) 2 := ⟨⟨tb_693, tb_8, by decide, by decide, by decide +kernel⟩, tb_691, tb_692⟩
theorem ok_X8_isFour : wg_YS yX8_isFour cX8_isFour 1 (some .boolean) 1 := ⟨⟨tb_704, tb_8, by decide, by decide, by decide +kernel⟩, tb_703⟩
theorem ok_X8_start : wg_YV yX8_start cX8_start 3 (some .int) 2 := ⟨⟨tb_701, tb_8, by decide, by decide, by decide +kernel⟩, tb_699, tb_700⟩
theorem ok_X8_against : wg_YV yX8_against cX8_against 4 (some .int) 2 := ⟨⟨tb_720, tb_8, by decide, by decide, by decide +kernel⟩, tb_719, ts_45⟩
theorem ok_X8_trustedOf : wg_YV yX8_trustedOf cX8_trustedOf 2 (some .int) 1 := ⟨⟨tb_716, tb_8, by decide, by decide, by decide +kernel⟩, tb_715, ts_44⟩
theorem ok_X8_attempt : wg_YV yX8_attempt cX8_attempt 6 (some .int) 2 := ⟨⟨tb_712, tb_8, by decide, by decide, by decide +kernel⟩, tb_711, ts_43⟩
theorem ok_X8_refuse : wg_YV yX8_refuse cX8_refuse 4 (some .int) 3 := ⟨⟨tb_724, tb_8, by decide, by decide, by decide +kernel⟩, tb_723, ts_46⟩
theorem ok_X8_follow : wg_YV yX8_follow cX8_follow 4 (some .int) 2 := ⟨⟨tb_708, tb_8, by decide, by decide, by decide +kernel⟩, tb_706, tb_707⟩
theorem ok_X8_placeOf : wg_YV yX8_placeOf cX8_placeOf 4 (some .int) 2 := ⟨⟨tb_732, tb_8, by decide, by decide, by decide +kernel⟩, tb_731, ts_47⟩
theorem ok_X8_headAt : wg_YV yX8_headAt cX8_headAt 4 (some .int) 2 := ⟨⟨tb_740, tb_8, by decide, by decide, by decide +kernel⟩, tb_739, ts_48⟩
theorem ok_X8_give : wg_YV yX8_give cX8_give 5 (some .int) 2 := ⟨⟨tb_728, tb_8, by decide, by decide, by decide +kernel⟩, tb_726, tb_727⟩
theorem ok_X8_seek : wg_YV yX8_seek cX8_seek 8 (some .int) 3 := ⟨⟨tb_736, tb_8, by decide, by decide, by decide +kernel⟩, tb_734, tb_735⟩
theorem ok_X8_stored : wg_YV yX8_stored cX8_stored 3 (some .int) 2 := ⟨⟨tb_744, tb_8, by decide, by decide, by decide +kernel⟩, tb_742, tb_743⟩
theorem ok_X8_client : wg_YV yX8_client cX8_client 3 (some .int) 2 := ⟨⟨tb_748, tb_8, by decide, by decide, by decide +kernel⟩, tb_746, tb_747⟩
theorem ok_X8_compare : wg_YV yX8_compare cX8_compare 7 (some .int) 2 := ⟨⟨tb_752, tb_8, by decide, by decide, by decide +kernel⟩, tb_750, tb_751⟩
theorem ok_X8_blame : wg_YV yX8_blame cX8_blame 8 (some .int) 3 := ⟨⟨tb_756, tb_8, by decide, by decide, by decide +kernel⟩, tb_754, tb_755⟩
theorem ok_X8_leaf : wg_YV yX8_leaf cX8_leaf 6 (some .long) 2 := ⟨⟨tb_761, tb_8, by decide, by decide, by decide +kernel⟩, tb_759, tb_760⟩
theorem ok_X8_grow : wg_YV yX8_grow cX8_grow 2 none 0 := ⟨⟨tb_538, tb_8, by decide, by decide, by decide +kernel⟩, tb_537, ts_36⟩
theorem ok_X8_tree : wg_YV yX8_tree cX8_tree 2 (some .long) 1 := ⟨⟨tb_765, tb_8, by decide, by decide, by decide +kernel⟩, tb_763, tb_764⟩
theorem ok_X8_prove : wg_YV yX8_prove cX8_prove 5 (some .int) 2 := ⟨⟨tb_530, tb_8, by decide, by decide, by decide +kernel⟩, tb_528, tb_529⟩
theorem ok_X8_proof : wg_YV yX8_proof cX8_proof 2 (some .long) 1 := ⟨⟨tb_771, tb_8, by decide, by decide, by decide +kernel⟩, tb_769, tb_770⟩
theorem ok_X8_alter : wg_YV yX8_alter cX8_alter 4 (some .int) 2 := ⟨⟨tb_776, tb_8, by decide, by decide, by decide +kernel⟩, tb_774, tb_775⟩
theorem ok_X8_top : wg_YV yX8_top cX8_top 6 (some .long) 2 := ⟨⟨tb_784, tb_8, by decide, by decide, by decide +kernel⟩, tb_783, ts_49⟩
theorem ok_X8_fraud : wg_YV yX8_fraud cX8_fraud 8 (some .int) 3 := ⟨⟨tb_780, tb_8, by decide, by decide, by decide +kernel⟩, tb_778, tb_779⟩
theorem ok_X8_gcd : wg_YS yX8_gcd cX8_gcd 10 (some .long) 2 := ⟨⟨tb_796, tb_8, by decide, by decide, by decide +kernel⟩, tb_795⟩
theorem ok_X8_choose : wg_YS yX8_choose cX8_choose 9 (some .long) 2 := ⟨⟨tb_793, tb_8, by decide, by decide, by decide +kernel⟩, tb_792⟩
theorem ok_X8_chance : wg_YV yX8_chance cX8_chance 11 (some .long) 4 := ⟨⟨tb_788, tb_8, by decide, by decide, by decide +kernel⟩, tb_786, tb_787⟩
theorem ok_X8_samples : wg_YV yX8_samples cX8_samples 5 (some .int) 3 := ⟨⟨tb_800, tb_8, by decide, by decide, by decide +kernel⟩, tb_798, tb_799⟩
theorem ok_X8_told : wg_YV yX8_told cX8_told 2 (some .int) 1 := ⟨⟨tb_805, tb_8, by decide, by decide, by decide +kernel⟩, tb_803, tb_804⟩
end
section
section WGS
variable {p : Program} {l : Launch} {e : Env} {R : Room} {s : State} {m : MethodId} {args : Array Value} {below : List Frame} {meth : Method} {c : Code} {H : Heap} {locs : List Loc} {cells slots : Nat} {Q : State → Prop} {pc : Nat} {ls : Array Slot} {rest : List Value}
theorem wg_some {r : Option Nat} {x : Nat} (h : r = some x) (k : W p l e R s m args below meth c H locs cells slots Q (F0 m pc ls (.ref x :: rest))) : W p l e R s m args below meth c H locs cells slots Q (F0 m pc ls (va_rf r :: rest)) := by subst h; exact k
theorem wg_none {r : Option Nat} (h : r = none) (k : W p l e R s m args below meth c H locs cells slots Q (F0 m pc ls (.null :: rest))) : W p l e R s m args below meth c H locs cells slots Q (F0 m pc ls (va_rf r :: rest)) := by subst h; exact k
theorem wg_topi {x y : Int32} (h : x = y) (k : W p l e R s m args below meth c H locs cells slots Q (F0 m pc ls (.int y :: rest))) : W p l e R s m args below meth c H locs cells slots Q (F0 m pc ls (.int x :: rest)) := by subst h; exact k
theorem wg_topl {x y : Int64} (h : x = y) (k : W p l e R s m args below meth c H locs cells slots Q (F0 m pc ls (.long y :: rest))) : W p l e R s m args below meth c H locs cells slots Q (F0 m pc ls (.long x :: rest)) := by subst h; exact k
end WGS
/-! what the two systems reckon alike -/
def lc_u (x : Int64) (k : Int32) : Int64 := (x.toUInt64 >>> (k.toInt64.toUInt64 &&& Int64.toUInt64 63)).toInt64
def lc_m1 (x : Int64) : Int64 := (x ^^^ lc_u x 30) * (-4658895280553007687)
def lc_m2 (x : Int64) : Int64 := (x ^^^ lc_u x 27) * (-7723592293110705685)
def lc_mix (x : Int64) : Int64 := lc_m2 (lc_m1 x) ^^^ lc_u (lc_m2 (lc_m1 x)) 31
def lc_pair (a b : Int64) : Int64 := lc_mix (lc_mix a + 3 * lc_mix b + (-7046029254386353131))
/-- the head that a row has at a place -/
def lc_at (n : Nat) (f : Nat → Option Nat) (k : Int32) : Option Nat := if 0 ≤ k.toInt ∧ k.toInt < n then f k.toNatClampNeg else none
theorem lc_at_in {n : Nat} {f : Nat → Option Nat} {j : Nat} (h : j < n) (hn : n < 2 ^ 31) : lc_at n f (nI j) = f j := by
  unfold lc_at
  rw [nI_toInt (by omega), nI_clamp (by omega), if_pos (by omega)]
theorem lc_at_out {n : Nat} {f : Nat → Option Nat} {k : Int32} (h : k < 0 ∨ nI n ≤ k) (hn : n < 2 ^ 31) : lc_at n f k = none := by
  unfold lc_at
  rw [if_neg]
  rintro ⟨h1, h2⟩
  rcases h with h | h
  · rw [Int32.lt_iff_toInt_lt] at h
    have : (0 : Int32).toInt = 0 := by decide
    omega
  · rw [Int32.le_iff_toInt_le, nI_toInt hn] at h
    omega
theorem lc_cut {n k : Nat} (hk : k ≤ n) (hn : n < 2 ^ 31) : (if (if (0 : Int32) < nI k then nI k else 0) < nI n then (if (0 : Int32) < nI k then nI k else 0) else nI n) = nI k := by
  have h0 : (if (0 : Int32) < nI k then nI k else 0) = nI k := by
    by_cases h : (0 : Int32) < nI k
    · rw [if_pos h]
    · rw [if_neg h]
      rw [← nI_0, nI_ltI (by omega) (by omega)] at h
      rw [show k = 0 by omega, nI_0]
  rw [h0]
  by_cases h : nI k < nI n
  · rw [if_pos h]
  · rw [if_neg h]
    rw [nI_ltI (by omega) (by omega)] at h
    rw [show n = k by omega]
end
section
/-! ===== lN n to 2^64: shifts, and, or, masks, one bit ===== -/
theorem wb_tb (n : Nat) : (lN n).toBitVec = BitVec.ofNat 64 n := rfl
theorem wb_inj {a b : Int64} (h : a.toBitVec = b.toBitVec) : a = b := Int64.toBitVec_inj.mp h
theorem wb_tn {n : Nat} (h : n < 2 ^ 64) : (lN n).toBitVec.toNat = n := by rw [wb_tb, BitVec.toNat_ofNat, Nat.mod_eq_of_lt h]
theorem wb_of (x : Int64) : ∃ n, n < 2 ^ 64 ∧ x = lN n := ⟨x.toBitVec.toNat, x.toBitVec.isLt, wb_inj (by rw [wb_tb]; simp)⟩
theorem wb_of32 (x : Int32) : ∃ n, n < 2 ^ 32 ∧ x = nI n := ⟨x.toBitVec.toNat, x.toBitVec.isLt, Int32.toBitVec_inj.mp (by show _ = BitVec.ofNat 32 _; simp)⟩
theorem wb_c : ∀ k, k < 64 → ((nI k).toInt64 &&& 63) = lN k := by decide +kernel
theorem wb_cu : ∀ k, k < 64 → ((nI k).toInt64.toUInt64 &&& Int64.toUInt64 63) = UInt64.ofNat k := by decide +kernel
theorem wb_sm : ∀ k, k < 64 → (BitVec.ofNat 64 k).smod 64 = BitVec.ofNat 64 k := by decide +kernel
theorem wb_pw {a b : Nat} (h : a ≤ b) : 2 ^ b = 2 ^ a * 2 ^ (b - a) := by rw [← Nat.pow_add]; congr 1; omega
theorem wb_lt2 {a b : Nat} (h : a < b) : 2 ^ a < 2 ^ b := Nat.pow_lt_pow_right (by decide) h
theorem wb_mod (n : Nat) : lN n = lN (n % 2 ^ 64) := wb_inj (by rw [wb_tb, wb_tb]; apply BitVec.eq_of_toNat_eq; rw [BitVec.toNat_ofNat, BitVec.toNat_ofNat, Nat.mod_mod])
theorem wb_shr {n k : Nat} (hn : n < 2 ^ 64) (hk : k < 64) : ((lN n).toUInt64 >>> ((nI k).toInt64.toUInt64 &&& Int64.toUInt64 63)).toInt64 = lN (n / 2 ^ k) := by
  rw [wb_cu k hk]
  apply wb_inj
  apply BitVec.eq_of_toNat_eq
  show ((lN n).toUInt64 >>> UInt64.ofNat k).toNat = (BitVec.ofNat 64 _).toNat
  have h1 : (UInt64.ofNat k).toNat = k := by
    show (BitVec.ofNat 64 k).toNat = k
    rw [BitVec.toNat_ofNat, Nat.mod_eq_of_lt (by omega)]
  have h2 : (lN n).toUInt64.toNat = n := wb_tn hn
  rw [UInt64.toNat_shiftRight, h1, h2, Nat.mod_eq_of_lt hk, Nat.shiftRight_eq_div_pow, BitVec.toNat_ofNat, Nat.mod_eq_of_lt (Nat.lt_of_le_of_lt (Nat.div_le_self _ _) hn)]
theorem wb_shl (n : Nat) {k : Nat} (hk : k < 64) : lN n <<< ((nI k).toInt64 &&& 63) = lN (n * 2 ^ k) := by
  rw [wb_c k hk]
  apply wb_inj
  rw [Int64.toBitVec_shiftLeft, wb_tb, wb_tb, wb_tb, wb_sm k hk]
  apply BitVec.eq_of_toNat_eq
  rw [BitVec.shiftLeft_eq', BitVec.toNat_shiftLeft, BitVec.toNat_ofNat, BitVec.toNat_ofNat, BitVec.toNat_ofNat, Nat.mod_eq_of_lt (show k < 2 ^ 64 by omega), Nat.shiftLeft_eq, Nat.mul_mod, Nat.mod_mod, ← Nat.mul_mod]
theorem wb_and {a b : Nat} (ha : a < 2 ^ 64) (hb : b < 2 ^ 64) : lN a &&& lN b = lN (a &&& b) := by
  apply wb_inj
  rw [Int64.toBitVec_and, wb_tb, wb_tb, wb_tb]
  apply BitVec.eq_of_toNat_eq
  rw [BitVec.toNat_and, BitVec.toNat_ofNat, BitVec.toNat_ofNat, BitVec.toNat_ofNat, Nat.mod_eq_of_lt ha, Nat.mod_eq_of_lt hb, Nat.mod_eq_of_lt (Nat.and_lt_two_pow _ hb)]
theorem wb_or {a b : Nat} (ha : a < 2 ^ 64) (hb : b < 2 ^ 64) : lN a ||| lN b = lN (a ||| b) := by
  apply wb_inj
  rw [Int64.toBitVec_or, wb_tb, wb_tb, wb_tb]
  apply BitVec.eq_of_toNat_eq
  rw [BitVec.toNat_or, BitVec.toNat_ofNat, BitVec.toNat_ofNat, BitVec.toNat_ofNat, Nat.mod_eq_of_lt ha, Nat.mod_eq_of_lt hb, Nat.mod_eq_of_lt (Nat.or_lt_two_pow ha hb)]
theorem wb_mask {n k : Nat} (hn : n < 2 ^ 64) (hk : k < 64) : lN n &&& lN (2 ^ k - 1) = lN (n % 2 ^ k) := by
  rw [wb_and hn (by have := wb_lt2 hk; omega), Nat.and_two_pow_sub_one_eq_mod]
theorem wb_a1 {n : Nat} (hn : n < 2 ^ 64) : lN n &&& 1 = lN (n % 2) := wb_mask (k := 1) hn (by decide)
theorem wb_bit {n k : Nat} (hn : n < 2 ^ 64) (hk : k < 64) : ((lN n).toUInt64 >>> ((nI k).toInt64.toUInt64 &&& Int64.toUInt64 63)).toInt64 &&& 1 = lN (n / 2 ^ k % 2) := by
  rw [wb_shr hn hk, wb_a1 (Nat.lt_of_le_of_lt (Nat.div_le_self _ _) hn)]
theorem wb_xor {q k : Nat} (hk : k < 63) (h : 2 ^ k ≤ q) (h2 : q < 2 ^ (k + 1)) : lN q ^^^ lN (2 ^ k) = lN (q - 2 ^ k) := by
  obtain ⟨r, rfl⟩ : ∃ r, q = 2 ^ k + r := ⟨q - 2 ^ k, by omega⟩
  have hr : r < 2 ^ k := by rw [Nat.pow_succ] at h2; omega
  have hx : (2 ^ k + r) ^^^ 2 ^ k = r := by
    apply Nat.eq_of_testBit_eq
    intro i
    rw [Nat.testBit_xor, Nat.testBit_two_pow]
    rcases Nat.lt_trichotomy i k with h | h | h
    · rw [Nat.testBit_two_pow_add_gt h]
      simp [show ¬ k = i by omega]
    · subst h
      rw [Nat.testBit_two_pow_add_eq]
      simp
    · have a1 : 2 ^ (k + 1) ≤ 2 ^ i := Nat.pow_le_pow_right (by decide) h
      rw [Nat.testBit_lt_two_pow (show 2 ^ k + r < 2 ^ i by omega), Nat.testBit_lt_two_pow (show r < 2 ^ i by omega)]
      simp [show ¬ k = i by omega]
  have b1 := wb_lt2 (show k + 1 < 64 by omega)
  have b2 := wb_lt2 (show k < 64 by omega)
  apply wb_inj
  rw [Int64.toBitVec_xor, wb_tb, wb_tb, wb_tb]
  apply BitVec.eq_of_toNat_eq
  rw [BitVec.toNat_xor, BitVec.toNat_ofNat, BitVec.toNat_ofNat, BitVec.toNat_ofNat, Nat.mod_eq_of_lt (by omega : 2 ^ k + r < 2 ^ 64), Nat.mod_eq_of_lt b2, hx, Nat.add_sub_cancel_left, Nat.mod_eq_of_lt (by omega)]
theorem pf_lI {a : Nat} (h : a < 2 ^ 63) : (lN a).toInt = (a : Int) := lg_ofNat_toInt h
theorem pf_shr {a d : Nat} {D : Int64} (hD : (D.toBitVec.smod 64).toNat = d) (h : a < 2 ^ 62) : lN a >>> D = lN (a / 2 ^ d) := by
  have hd : a / 2 ^ d ≤ a := Nat.div_le_self _ _
  apply Int64.toInt_inj.mp
  have e : (lN a >>> D).toInt = (lN a).toInt >>> d := by
    rw [← hD]
    exact BitVec.toInt_sshiftRight ..
  rw [e, Int.shiftRight_eq_div_pow, pf_lI (by omega), pf_lI (by omega)]
  rfl
end
section
/-! weights, sums, bits -/
def lc_sum (f : Nat → Nat) : Nat → Nat
  | 0 => 0
  | n + 1 => lc_sum f n + f n
def lc_bit (s k : Nat) : Nat := s / 2 ^ k % 2
/-- the weight at a place of a packed long -/
def lc_wt (x i : Nat) : Nat := x / 2 ^ (7 * i) % 128
/-- the weight of a node in a set of two packed longs -/
def lc_w (a b k : Nat) : Nat := if k < 5 then lc_wt a k else lc_wt b (k - 5)
def lc_tot (a b : Nat) : Nat := lc_sum (lc_w a b) 10
def lc_wof (a b s : Nat) : Nat := lc_sum (fun k => lc_bit s k * lc_w a b k) 10
def lc_well (x : Nat) : Prop := (∀ i, i < 5 → lc_wt x i ≤ 100) ∧ x < 2 ^ 35
theorem lc_sum_le {f : Nat → Nat} {c : Nat} (h : ∀ k, f k ≤ c) : ∀ n, lc_sum f n ≤ c * n
  | 0 => Nat.zero_le _
  | n + 1 => by
    have h1 := lc_sum_le h n
    have h2 := h n
    show lc_sum f n + f n ≤ c * (n + 1)
    rw [Nat.mul_succ]
    omega
theorem lc_sum_eq {f g : Nat → Nat} : ∀ n, (∀ k, k < n → f k = g k) → lc_sum f n = lc_sum g n
  | 0, _ => rfl
  | n + 1, h => by
    show lc_sum f n + f n = lc_sum g n + g n
    rw [lc_sum_eq n (fun k hk => h k (by omega)), h n (by omega)]
theorem lc_wt_lt (x i : Nat) : lc_wt x i ≤ 127 := by
  have : x / 2 ^ (7 * i) % 128 < 128 := Nat.mod_lt _ (by decide)
  unfold lc_wt
  omega
theorem lc_w_lt (a b k : Nat) : lc_w a b k ≤ 127 := by
  unfold lc_w
  split
  · exact lc_wt_lt _ _
  · exact lc_wt_lt _ _
theorem lc_bit_lt (s k : Nat) : lc_bit s k ≤ 1 := by
  have : s / 2 ^ k % 2 < 2 := Nat.mod_lt _ (by decide)
  unfold lc_bit
  omega
theorem lc_tot_lt (a b : Nat) : lc_tot a b ≤ 1270 := by
  have := lc_sum_le (lc_w_lt a b) 10
  unfold lc_tot
  omega
theorem lc_bw_lt (a b s k : Nat) : lc_bit s k * lc_w a b k ≤ 127 := by
  have h1 := lc_bit_lt s k
  have h2 := lc_w_lt a b k
  rcases (show lc_bit s k = 0 ∨ lc_bit s k = 1 by omega) with h | h
  · rw [h, Nat.zero_mul]; omega
  · rw [h, Nat.one_mul]; exact h2
theorem lc_wof_lt (a b s : Nat) : lc_wof a b s ≤ 1270 := by
  have := lc_sum_le (lc_bw_lt a b s) 10
  unfold lc_wof
  omega
theorem lc_andbit : ∀ s, s < 1024 → ∀ k, k < 10 → (nI s &&& ((1 : Int32) <<< (nI k &&& 31)) = 0 ↔ lc_bit s k = 0) := by decide +kernel
theorem lc_shrbit : ∀ s, s < 1024 → ∀ k, k < 10 → (nI s >>> (nI k &&& 31)) &&& 1 = nI (lc_bit s k) := by decide +kernel
theorem lc_bit1023 : ∀ k, k < 10 → lc_bit 1023 k = 1 := by decide +kernel
theorem lc_wof_all (a b : Nat) : lc_wof a b 1023 = lc_tot a b := by
  unfold lc_wof lc_tot
  refine lc_sum_eq 10 (fun k hk => ?_)
  rw [lc_bit1023 k hk, Nat.one_mul]
/-- the class's way of adding: both halves side by side -/
def lc_two (f : Nat → Nat) (i : Nat) : Nat := lc_sum f i + lc_sum (fun k => f (k + 5)) i
theorem lc_two_5 (f : Nat → Nat) : lc_two f 5 = lc_sum f 10 := by
  show ((((((0 + f 0) + f 1) + f 2) + f 3) + f 4) + (((((0 + f 5) + f 6) + f 7) + f 8) + f 9)) = ((((((((((0 + f 0) + f 1) + f 2) + f 3) + f 4) + f 5) + f 6) + f 7) + f 8) + f 9)
  omega
theorem lc_two_s (f : Nat → Nat) (i : Nat) : lc_two f (i + 1) = lc_two f i + f i + f (i + 5) := by
  simp only [lc_two, lc_sum]
  omega
theorem lc_two_le {f : Nat → Nat} (h : ∀ k, f k ≤ 127) {i : Nat} (hi : i ≤ 5) : lc_two f i ≤ 1270 := by
  have h1 := lc_sum_le h i
  have h2 := lc_sum_le (f := fun k => f (k + 5)) (fun k => h (k + 5)) i
  unfold lc_two
  omega
theorem lc_l2i (y : Nat) : (lN y).toInt32 = nI y := lN_i y
theorem lc_and127 (y : Nat) : nI y &&& 127 = nI (y % 128) := by
  rw [pk_and (nI y) (m := 127) 7 (by decide)]
  congr 1
  have h : (nI y).toBitVec.toNat = y % 2 ^ 32 := BitVec.toNat_ofNat y 32
  rw [h]
  omega
theorem lc_wIn {x i : Nat} (hx : x < 2 ^ 64) (hi : i < 5) : ((lN x).toUInt64 >>> ((7 * nI i).toInt64.toUInt64 &&& Int64.toUInt64 63)).toInt64.toInt32 &&& 127 = nI (lc_wt x i) := by
  have e : (7 : Int32) * nI i = nI (7 * i) := by rw [← pk_mul]; rfl
  rw [e, wb_shr hx (by omega), lc_l2i, lc_and127]
  rfl
theorem lc_ush35 {x : Nat} (hx : x < 2 ^ 64) : ((lN x).toUInt64 >>> ((35 : Int32).toInt64.toUInt64 &&& Int64.toUInt64 63)).toInt64 = 0 ↔ x < 2 ^ 35 := by
  have e := wb_shr (k := 35) hx (by decide)
  rw [show ((35 : Int32)) = nI 35 from rfl, e, show (0 : Int64) = lN 0 from rfl, pk_lEQ (by omega) (by decide)]
  omega
theorem lc_w_lo {a b i : Nat} (h : i < 5) : lc_w a b i = lc_wt a i := if_pos h
theorem lc_w_hi {a b i : Nat} : lc_w a b (i + 5) = lc_wt b i := by
  unfold lc_w
  rw [if_neg (by omega), Nat.add_sub_cancel]
theorem lc_ones {s k : Nat} (h : ¬ lc_bit s k = 0) : lc_bit s k = 1 := by
  have := lc_bit_lt s k
  omega
theorem lc_pieces {a b : Int32} (h1 : ¬ a < 1) (h2 : ¬ 60 < a) (h3 : ¬ b < 0) (h4 : ¬ a < b) : ∃ n m : Nat, 1 ≤ n ∧ n ≤ 60 ∧ m ≤ n ∧ a = nI n ∧ b = nI m := by
  rw [Int32.lt_iff_toInt_lt] at h1 h2 h4
  have e1 : (1 : Int32).toInt = 1 := by decide
  have e2 : (60 : Int32).toInt = 60 := by decide
  have h0 : ¬ a < 0 := by
    rw [Int32.lt_iff_toInt_lt]
    have e0 : (0 : Int32).toInt = 0 := by decide
    omega
  obtain ⟨n, hn, rfl⟩ := nI_of h0
  obtain ⟨m, hm, rfl⟩ := nI_of h3
  rw [nI_toInt hn] at h1 h2 h4
  rw [nI_toInt hm] at h4
  exact ⟨n, m, by omega, by omega, by omega, rfl, rfl⟩
end
section
set_option maxHeartbeats 4000000 in
set_option maxRecDepth 100000 in
theorem c_X7_mix (l : Launch) (E : wg_E) (A : Nat → Nat) (C : wg_C) (x : Int64)   : Met l yX7_mix (wg_ws yX7_mix cX7_mix 2 (some .long)) (wg_rm 0 0 0) (wg_Pc E A C [.long x]) (wg_Ql E (fun r A1 C1 => r = lc_mix x ∧ A = A1 ∧ C = C1)) 0 0 (wg_A E) := by
  refine wg_met (by decide) (Nat.le_of_ble_eq_true rfl) ?_
  intro p e s m below meth c ls F hr hlk hnm hP hS hl
  have F : wg_F p m c cX7_mix 2 s ([.long x] : List Value).toArray "LightChecks" E := F
  have hx := F.1
  have hb := F.2.1
  have hml := F.2.2.1
  have hown := F.2.2.2.1
  have hts := F.2.2.2.2.1
  have hl : lv_has ls 2 [(0, .long x)] := hl
  refine lv_lload_n hx hb dX7_mix_0 rfl (lv_at hl 0 rfl) ?_
  refine lv_lload_n hx hb dX7_mix_1 rfl (lv_at hl 0 rfl) ?_
  refine lv_bipush (v := 30) hx hb dX7_mix_2 (by decide) ?_
  refine lv_lushr (v := (x.toUInt64 >>> ((30 : Int32).toInt64.toUInt64 &&& Int64.toUInt64 63)).toInt64) hx hb dX7_mix_4 rfl ?_
  refine lv_lxor hx hb dX7_mix_5 ?_
  refine lv_ldc2 (v := (-4658895280553007687)) hx hb hown (hts _ tb_59) dX7_mix_6 ?_
  refine lv_lmul hx hb dX7_mix_9 ?_
  refine lv_topl (fun x_10 ex_10 => ?_)
  refine lv_lstore_n (lv' := [(0, .long x_10)]) hx hb dX7_mix_10 rfl hl (by decide) rfl (fun ls hl => ?_)
  refine lv_lload_n hx hb dX7_mix_11 rfl (lv_at hl 0 rfl) ?_
  refine lv_lload_n hx hb dX7_mix_12 rfl (lv_at hl 0 rfl) ?_
  refine lv_bipush (v := 27) hx hb dX7_mix_13 (by decide) ?_
  refine lv_lushr (v := (x_10.toUInt64 >>> ((27 : Int32).toInt64.toUInt64 &&& Int64.toUInt64 63)).toInt64) hx hb dX7_mix_15 rfl ?_
  refine lv_lxor hx hb dX7_mix_16 ?_
  refine lv_ldc2 (v := (-7723592293110705685)) hx hb hown (hts _ tb_60) dX7_mix_17 ?_
  refine lv_lmul hx hb dX7_mix_20 ?_
  refine lv_topl (fun x_21 ex_21 => ?_)
  refine lv_lstore_n (lv' := [(0, .long x_21)]) hx hb dX7_mix_21 rfl hl (by decide) rfl (fun ls hl => ?_)
  refine lv_lload_n hx hb dX7_mix_22 rfl (lv_at hl 0 rfl) ?_
  refine lv_lload_n hx hb dX7_mix_23 rfl (lv_at hl 0 rfl) ?_
  refine lv_bipush (v := 31) hx hb dX7_mix_24 (by decide) ?_
  refine lv_lushr (v := (x_21.toUInt64 >>> ((31 : Int32).toInt64.toUInt64 &&& Int64.toUInt64 63)).toInt64) hx hb dX7_mix_26 rfl ?_
  refine lv_lxor hx hb dX7_mix_27 ?_
  exact wg_lret F hP hS hr hlk (⟨by rw [ex_21, ex_10]; rfl, rfl, rfl⟩) dX7_mix_28
set_option maxHeartbeats 4000000 in
set_option maxRecDepth 100000 in
theorem c_X7_pair (l : Launch) (E : wg_E) (A : Nat → Nat) (C : wg_C) (a b : Int64)   : Met l yX7_pair (wg_ws yX7_pair cX7_pair 4 (some .long)) (wg_rm 1 0 0) (wg_Pc E A C [.long a, .long b]) (wg_Ql E (fun r A1 C1 => r = lc_pair a b ∧ A = A1 ∧ C = C1)) 0 0 (wg_A E) := by
  refine wg_met (by decide) (Nat.le_of_ble_eq_true rfl) ?_
  intro p e s m below meth c ls F hr hlk hnm hP hS hl
  have F : wg_F p m c cX7_pair 4 s ([.long a, .long b] : List Value).toArray "LightChecks" E := F
  have hx := F.1
  have hb := F.2.1
  have hml := F.2.2.1
  have hown := F.2.2.2.1
  have hts := F.2.2.2.2.1
  have hl : lv_has ls 4 [(0, .long a), (2, .long b)] := hl
  refine lv_lload_n hx hb dX7_pair_0 rfl (lv_at hl 0 rfl) ?_
  refine wg_cl_ hS (wg_rS (As := [.long a]) (rest := []) F hP hS (c_X7_mix l E A C a) ok_X7_mix tb_64 rfl rfl ⟨Nat.le_of_ble_eq_true rfl, Nat.le_of_ble_eq_true rfl⟩ rfl hl.1 rfl (Nat.le_of_ble_eq_true rfl) dX7_pair_1 ⟨Nat.le_of_ble_eq_true rfl, Nat.le_of_ble_eq_true rfl⟩) (fun r_1 A1 C_1 H locs w_1 hP hS => ?_)
  obtain ⟨w_1, rfl, rfl⟩ := w_1
  refine lv_ldc2 (v := 3) hx hb hown (hts _ tb_65) dX7_pair_4 ?_
  refine lv_lload_n hx hb dX7_pair_7 rfl (lv_at hl 1 rfl) ?_
  refine wg_cl_ hS (wg_rS (As := [.long b]) (rest := [.long 3, .long r_1]) F hP hS (c_X7_mix l E A C b) ok_X7_mix tb_64 rfl rfl ⟨Nat.le_of_ble_eq_true rfl, Nat.le_of_ble_eq_true rfl⟩ rfl hl.1 rfl (Nat.le_of_ble_eq_true rfl) dX7_pair_8 ⟨Nat.le_of_ble_eq_true rfl, Nat.le_of_ble_eq_true rfl⟩) (fun r_8 A1 C_8 H locs w_8 hP hS => ?_)
  obtain ⟨w_8, rfl, rfl⟩ := w_8
  refine lv_lmul hx hb dX7_pair_11 ?_
  refine lv_ladd hx hb dX7_pair_12 ?_
  refine lv_ldc2 (v := (-7046029254386353131)) hx hb hown (hts _ tb_66) dX7_pair_13 ?_
  refine lv_ladd hx hb dX7_pair_16 ?_
  refine wg_cl_ hS (wg_rS (As := [.long ((r_1 + (3 * r_8)) + ((-7046029254386353131)))]) (rest := []) F hP hS (c_X7_mix l E A C _) ok_X7_mix tb_64 rfl rfl ⟨Nat.le_of_ble_eq_true rfl, Nat.le_of_ble_eq_true rfl⟩ rfl hl.1 rfl (Nat.le_of_ble_eq_true rfl) dX7_pair_17 ⟨Nat.le_of_ble_eq_true rfl, Nat.le_of_ble_eq_true rfl⟩) (fun r_17 A1 C_17 H locs w_17 hP hS => ?_)
  obtain ⟨w_17, rfl, rfl⟩ := w_17
  exact wg_lret F hP hS hr hlk (⟨by rw [w_17, w_1, w_8]; rfl, rfl, rfl⟩) dX7_pair_20
set_option maxHeartbeats 4000000 in
set_option maxRecDepth 100000 in
theorem c_X8_mix (l : Launch) (E : wg_E) (A : Nat → Nat) (C : wg_C) (x : Int64)   : Met l yX8_mix (wg_ws yX8_mix cX8_mix 4 (some .long)) (wg_rm 0 0 0) (wg_Pc E A C [.long x]) (wg_Ql E (fun r A1 C1 => r = lc_mix x ∧ A = A1 ∧ C = C1)) 0 0 (wg_A E) := by
  refine wg_met (by decide) (Nat.le_of_ble_eq_true rfl) ?_
  intro p e s m below meth c ls F hr hlk hnm hP hS hl
  have F : wg_F p m c cX8_mix 4 s ([.long x] : List Value).toArray "LightChecksModel" E := F
  have hx := F.1
  have hb := F.2.1
  have hml := F.2.2.1
  have hown := F.2.2.2.1
  have hts := F.2.2.2.2.1
  have hl : lv_has ls 4 [(0, .long x)] := hl
  refine lv_lload_n hx hb dX8_mix_0 rfl (lv_at hl 0 rfl) ?_
  refine lv_lload_n hx hb dX8_mix_1 rfl (lv_at hl 0 rfl) ?_
  refine lv_bipush (v := 30) hx hb dX8_mix_2 (by decide) ?_
  refine lv_lushr (v := (x.toUInt64 >>> ((30 : Int32).toInt64.toUInt64 &&& Int64.toUInt64 63)).toInt64) hx hb dX8_mix_4 rfl ?_
  refine lv_lxor hx hb dX8_mix_5 ?_
  refine lv_ldc2 (v := (-4658895280553007687)) hx hb hown (hts _ tb_542) dX8_mix_6 ?_
  refine lv_lmul hx hb dX8_mix_9 ?_
  refine lv_topl (fun x_10 ex_10 => ?_)
  refine lv_lstore_n (lv' := [(2, .long x_10), (0, .long x)]) hx hb dX8_mix_10 rfl hl (by decide) rfl (fun ls hl => ?_)
  refine lv_lload_n hx hb dX8_mix_11 rfl (lv_at hl 0 rfl) ?_
  refine lv_lload_n hx hb dX8_mix_12 rfl (lv_at hl 0 rfl) ?_
  refine lv_bipush (v := 27) hx hb dX8_mix_13 (by decide) ?_
  refine lv_lushr (v := (x_10.toUInt64 >>> ((27 : Int32).toInt64.toUInt64 &&& Int64.toUInt64 63)).toInt64) hx hb dX8_mix_15 rfl ?_
  refine lv_lxor hx hb dX8_mix_16 ?_
  refine lv_ldc2 (v := (-7723592293110705685)) hx hb hown (hts _ tb_543) dX8_mix_17 ?_
  refine lv_lmul hx hb dX8_mix_20 ?_
  refine lv_topl (fun x_21 ex_21 => ?_)
  refine lv_lstore_n (lv' := [(2, .long x_21), (0, .long x)]) hx hb dX8_mix_21 rfl hl (by decide) rfl (fun ls hl => ?_)
  refine lv_lload_n hx hb dX8_mix_22 rfl (lv_at hl 0 rfl) ?_
  refine lv_lload_n hx hb dX8_mix_23 rfl (lv_at hl 0 rfl) ?_
  refine lv_bipush (v := 31) hx hb dX8_mix_24 (by decide) ?_
  refine lv_lushr (v := (x_21.toUInt64 >>> ((31 : Int32).toInt64.toUInt64 &&& Int64.toUInt64 63)).toInt64) hx hb dX8_mix_26 rfl ?_
  refine lv_lxor hx hb dX8_mix_27 ?_
  exact wg_lret F hP hS hr hlk (⟨by rw [ex_21, ex_10]; rfl, rfl, rfl⟩) dX8_mix_28
set_option maxHeartbeats 4000000 in
set_option maxRecDepth 100000 in
theorem c_X8_pair (l : Launch) (E : wg_E) (A : Nat → Nat) (C : wg_C) (a b : Int64)   : Met l yX8_pair (wg_ws yX8_pair cX8_pair 4 (some .long)) (wg_rm 1 0 0) (wg_Pc E A C [.long a, .long b]) (wg_Ql E (fun r A1 C1 => r = lc_pair a b ∧ A = A1 ∧ C = C1)) 0 0 (wg_A E) := by
  refine wg_met (by decide) (Nat.le_of_ble_eq_true rfl) ?_
  intro p e s m below meth c ls F hr hlk hnm hP hS hl
  have F : wg_F p m c cX8_pair 4 s ([.long a, .long b] : List Value).toArray "LightChecksModel" E := F
  have hx := F.1
  have hb := F.2.1
  have hml := F.2.2.1
  have hown := F.2.2.2.1
  have hts := F.2.2.2.2.1
  have hl : lv_has ls 4 [(0, .long a), (2, .long b)] := hl
  refine lv_lload_n hx hb dX8_pair_0 rfl (lv_at hl 0 rfl) ?_
  refine wg_cl_ hS (wg_rS (As := [.long a]) (rest := []) F hP hS (c_X8_mix l E A C a) ok_X8_mix tb_539 rfl rfl ⟨Nat.le_of_ble_eq_true rfl, Nat.le_of_ble_eq_true rfl⟩ rfl hl.1 rfl (Nat.le_of_ble_eq_true rfl) dX8_pair_1 ⟨Nat.le_of_ble_eq_true rfl, Nat.le_of_ble_eq_true rfl⟩) (fun r_1 A1 C_1 H locs w_1 hP hS => ?_)
  obtain ⟨w_1, rfl, rfl⟩ := w_1
  refine lv_ldc2 (v := 3) hx hb hown (hts _ tb_547) dX8_pair_4 ?_
  refine lv_lload_n hx hb dX8_pair_7 rfl (lv_at hl 1 rfl) ?_
  refine wg_cl_ hS (wg_rS (As := [.long b]) (rest := [.long 3, .long r_1]) F hP hS (c_X8_mix l E A C b) ok_X8_mix tb_539 rfl rfl ⟨Nat.le_of_ble_eq_true rfl, Nat.le_of_ble_eq_true rfl⟩ rfl hl.1 rfl (Nat.le_of_ble_eq_true rfl) dX8_pair_8 ⟨Nat.le_of_ble_eq_true rfl, Nat.le_of_ble_eq_true rfl⟩) (fun r_8 A1 C_8 H locs w_8 hP hS => ?_)
  obtain ⟨w_8, rfl, rfl⟩ := w_8
  refine lv_lmul hx hb dX8_pair_11 ?_
  refine lv_ladd hx hb dX8_pair_12 ?_
  refine lv_ldc2 (v := (-7046029254386353131)) hx hb hown (hts _ tb_548) dX8_pair_13 ?_
  refine lv_ladd hx hb dX8_pair_16 ?_
  refine wg_cl_ hS (wg_rS (As := [.long ((r_1 + (3 * r_8)) + ((-7046029254386353131)))]) (rest := []) F hP hS (c_X8_mix l E A C _) ok_X8_mix tb_539 rfl rfl ⟨Nat.le_of_ble_eq_true rfl, Nat.le_of_ble_eq_true rfl⟩ rfl hl.1 rfl (Nat.le_of_ble_eq_true rfl) dX8_pair_17 ⟨Nat.le_of_ble_eq_true rfl, Nat.le_of_ble_eq_true rfl⟩) (fun r_17 A1 C_17 H locs w_17 hP hS => ?_)
  obtain ⟨w_17, rfl, rfl⟩ := w_17
  exact wg_lret F hP hS hr hlk (⟨by rw [w_17, w_1, w_8]; rfl, rfl, rfl⟩) dX8_pair_20
set_option maxHeartbeats 4000000 in
set_option maxRecDepth 100000 in
theorem c_X3_at (l : Launch) (E : wg_E) (A : Nat → Nat) (C : wg_C) (ρ π N n : Nat) (f : Nat → Option Nat) (k : Int32) (hn : n ≤ N) (hN : N < 2 ^ 31) (fρ : C ρ = some (.inr (3, [.ref (A π), .int (nI n)]))) (fπ : C π = some (.inl (E.2.1 4, N, .inr (.inr (.inr (.inr f)))))) : Met l yX3_at (wg_ws yX3_at cX3_at 2 (some (.object "LightChecks$Head"))) (wg_rm 0 0 0) (wg_Pc E A C [.ref (A ρ), .int k]) (wg_Qq E (fun r A1 C1 => r = lc_at n f k ∧ A = A1 ∧ C = C1)) 0 0 (wg_A E) := by
  refine wg_met (by decide) (Nat.le_of_ble_eq_true rfl) ?_
  intro p e s m below meth c ls F hr hlk hnm hP hS hl
  have F : wg_F p m c cX3_at 2 s ([.ref (A ρ), .int k] : List Value).toArray "LightChecks$HeadRow" E := F
  have hx := F.1
  have hb := F.2.1
  have hml := F.2.2.1
  have hown := F.2.2.2.1
  have hts := F.2.2.2.2.1
  have hl : lv_has ls 2 [(0, .ref (A ρ)), (1, .int k)] := hl
  refine lv_iload_n hx hb dX3_at_0 rfl (lv_at hl 1 rfl) ?_
  refine lv_if_lt (tgt := 30) hx hb dX3_at_1 (by decide) (fun c_1 => ?_) (fun c_1 => ?_)
  · refine lv_null hx hb dX3_at_30 ?_
    exact wg_qret (v := none) F hP hS hr ⟨_, rfl⟩ hlk (⟨(lc_at_out (by first | exact Or.inl c_1 | exact Or.inr c_9) (by omega)).symm, rfl, rfl⟩) dX3_at_31
  · obtain ⟨j, hj, rfl⟩ := nI_of c_1
    refine lv_iload_n hx hb dX3_at_4 rfl (lv_at hl 1 rfl) ?_
    refine lv_aload_n hx hb dX3_at_5 rfl (lv_at hl 0 rfl) ?_
    refine wg_get F hP fρ rfl iw_X3 1 (by decide) tb_33 rfl rfl dX3_at_6 ?_
    refine lv_icmp_ge (tgt := 30) hx hb dX3_at_9 (by decide) (fun c_9 => ?_) (fun c_9 => ?_)
    · refine lv_null hx hb dX3_at_30 ?_
      exact wg_qret (v := none) F hP hS hr ⟨_, rfl⟩ hlk (⟨(lc_at_out (by first | exact Or.inl c_1 | exact Or.inr c_9) (by omega)).symm, rfl, rfl⟩) dX3_at_31
    · have hjn : j < n := by rw [nI_leI (by omega) hj] at c_9; omega
      refine lv_iload_n hx hb dX3_at_12 rfl (lv_at hl 1 rfl) ?_
      refine lv_aload_n hx hb dX3_at_13 rfl (lv_at hl 0 rfl) ?_
      refine wg_get F hP fρ rfl iw_X3 0 (by decide) tb_32 rfl rfl dX3_at_14 ?_
      refine wg_len (t := 4) F hP rfl fπ (v := nI N) rfl dX3_at_17 ?_
      refine lv_icmp_ge (tgt := 30) hx hb dX3_at_18 (by decide) (fun c_18 => ?_) (fun c_18 => ?_)
      · exact absurd c_18 (by rw [nI_leI hN hj]; omega)
      · refine lv_aload_n hx hb dX3_at_21 rfl (lv_at hl 0 rfl) ?_
        refine wg_get F hP fρ rfl iw_X3 0 (by decide) tb_32 rfl rfl dX3_at_22 ?_
        refine lv_iload_n hx hb dX3_at_25 rfl (lv_at hl 1 rfl) ?_
        refine wg_qld F hP 4 rfl fπ (vp_in_nI (by omega) hN) dX3_at_26 ?_
        refine lv_goto (tgt := 31) hx hb dX3_at_27 (by decide) ?_
        exact wg_qret (v := f (nI j).toNatClampNeg) F hP hS hr ⟨_, rfl⟩ hlk (⟨by rw [lc_at_in hjn (by omega), nI_clamp hj], rfl, rfl⟩) dX3_at_31
set_option maxHeartbeats 4000000 in
set_option maxRecDepth 100000 in
theorem c_X3_isFull (l : Launch) (E : wg_E) (A : Nat → Nat) (C : wg_C) (ρ π N n : Nat) (f : Nat → Option Nat) (hn : n ≤ N) (hN : N < 2 ^ 31) (fρ : C ρ = some (.inr (3, [.ref (A π), .int (nI n)]))) (fπ : C π = some (.inl (E.2.1 4, N, .inr (.inr (.inr (.inr f)))))) : Met l yX3_isFull (wg_ws yX3_isFull cX3_isFull 1 (some .boolean)) (wg_rm 0 0 0) (wg_Pc E A C [.ref (A ρ)]) (wg_Qi E (fun r A1 C1 => r = (if n < N then 0 else 1) ∧ A = A1 ∧ C = C1)) 0 0 (wg_A E) := by
  refine wg_met (by decide) (Nat.le_of_ble_eq_true rfl) ?_
  intro p e s m below meth c ls F hr hlk hnm hP hS hl
  have F : wg_F p m c cX3_isFull 1 s ([.ref (A ρ)] : List Value).toArray "LightChecks$HeadRow" E := F
  have hx := F.1
  have hb := F.2.1
  have hml := F.2.2.1
  have hown := F.2.2.2.1
  have hts := F.2.2.2.2.1
  have hl : lv_has ls 1 [(0, .ref (A ρ))] := hl
  refine lv_aload_n hx hb dX3_isFull_0 rfl (lv_at hl 0 rfl) ?_
  refine wg_get F hP fρ rfl iw_X3 1 (by decide) tb_33 rfl rfl dX3_isFull_1 ?_
  refine lv_aload_n hx hb dX3_isFull_4 rfl (lv_at hl 0 rfl) ?_
  refine wg_get F hP fρ rfl iw_X3 0 (by decide) tb_32 rfl rfl dX3_isFull_5 ?_
  refine wg_len (t := 4) F hP rfl fπ (v := nI N) rfl dX3_isFull_8 ?_
  refine lv_icmp_lt (tgt := 16) hx hb dX3_isFull_9 (by decide) (fun c_9 => ?_) (fun c_9 => ?_)
  · refine lv_iconst (v := 0) hx hb dX3_isFull_16 (by decide) ?_
    exact wg_zret F hP hS hr hlk (by decide) ⟨by rw [if_pos (by rw [nI_ltI (by omega) hN] at c_9; omega)], rfl, rfl⟩ dX3_isFull_17
  · refine lv_iconst (v := 1) hx hb dX3_isFull_12 (by decide) ?_
    refine lv_goto (tgt := 17) hx hb dX3_isFull_13 (by decide) ?_
    exact wg_zret F hP hS hr hlk (by decide) ⟨by rw [if_neg (by rw [nI_ltI (by omega) hN] at c_9; omega)], rfl, rfl⟩ dX3_isFull_17
set_option maxHeartbeats 4000000 in
set_option maxRecDepth 100000 in
theorem c_X3_add (l : Launch) (E : wg_E) (A : Nat → Nat) (C : wg_C) (ρ π N n h : Nat) (f : Nat → Option Nat) (hv : List Value) (hn : n < N) (hN : N < 2 ^ 31) (hne : ρ ≠ π) (hhp : h ≠ π) (hhr : h ≠ ρ) (fρ : C ρ = some (.inr (3, [.ref (A π), .int (nI n)]))) (fπ : C π = some (.inl (E.2.1 4, N, .inr (.inr (.inr (.inr f)))))) (fh : C h = some (.inr (2, hv))) : Met l yX3_add (wg_ws yX3_add cX3_add 2 none) (wg_rm 1 0 0) (wg_Pc E A C [.ref (A ρ), .ref (A h)]) (wg_Qv E (fun A1 C1 => A = A1 ∧ C1 = va_up (va_up C π (some (.inl (E.2.1 4, N, .inr (.inr (.inr (.inr (va_up f n (some (A h)))))))))) ρ (some (.inr (3, [.ref (A π), .int (nI (n + 1))]))))) 0 0 (wg_A E) := by
  refine wg_met (by decide) (Nat.le_of_ble_eq_true rfl) ?_
  intro p e s m below meth c ls F hr hlk hnm hP hS hl
  have F : wg_F p m c cX3_add 2 s ([.ref (A ρ), .ref (A h)] : List Value).toArray "LightChecks$HeadRow" E := F
  have hx := F.1
  have hb := F.2.1
  have hml := F.2.2.1
  have hown := F.2.2.2.1
  have hts := F.2.2.2.2.1
  have hl : lv_has ls 2 [(0, .ref (A ρ)), (1, .ref (A h))] := hl
  refine lv_aload_n hx hb dX3_add_0 rfl (lv_at hl 0 rfl) ?_
  refine wg_ci hS (wg_rV (As := []) (rest := []) F hP hS (c_X3_isFull l E A C ρ π N n f (by omega) hN fρ fπ) ok_X3_isFull tb_286 rfl rfl ⟨Nat.le_of_ble_eq_true rfl, Nat.le_of_ble_eq_true rfl⟩ fρ rfl rfl rfl hl.1 rfl (Nat.le_of_ble_eq_true rfl) dX3_add_1 ⟨Nat.le_of_ble_eq_true rfl, Nat.le_of_ble_eq_true rfl⟩) (fun r_1 A1 C_1 H locs w_1 hP hS => ?_)
  obtain ⟨w_1, rfl, rfl⟩ := w_1
  refine lv_if_ne (tgt := 27) hx hb dX3_add_4 (by decide) (fun c_4 => ?_) (fun c_4 => ?_)
  · exact absurd w_1 (by rw [if_pos hn]; exact c_4)
  · refine lv_aload_n hx hb dX3_add_7 rfl (lv_at hl 0 rfl) ?_
    refine wg_get F hP fρ rfl iw_X3 0 (by decide) tb_32 rfl rfl dX3_add_8 ?_
    refine lv_aload_n hx hb dX3_add_11 rfl (lv_at hl 0 rfl) ?_
    refine wg_get F hP fρ rfl iw_X3 1 (by decide) tb_33 rfl rfl dX3_add_12 ?_
    refine lv_aload_n hx hb dX3_add_15 rfl (lv_at hl 1 rfl) ?_
    refine wg_qst F hP hS 4 rfl fπ fh rfl (vp_in_nI hn hN) dX3_add_16 (fun H locs hP hS => ?_)
    obtain ⟨C_16, hC_16⟩ : ∃ z : wg_C, z = va_up C π (some (.inl (E.2.1 4, N, .inr (.inr (.inr (.inr (va_up f (nI n).toNatClampNeg (some (A h))))))))) := ⟨_, rfl⟩
    have hP : wg_P E A C_16 H := by rw [hC_16]; exact hP
    have fρ_c16 : C_16 ρ = some (.inr (3, [.ref (A π), .int (nI n)])) := by rw [hC_16]; rw [va_up_ne _ _ (hne)]; exact fρ
    have fπ_c16 : C_16 π = some (.inl (E.2.1 4, N, .inr (.inr (.inr (.inr (va_up f (nI n).toNatClampNeg (some (A h)))))))) := by rw [hC_16]; exact va_up_self _ _ _
    have fh_c16 : C_16 h = some (.inr (2, hv)) := by rw [hC_16]; rw [va_up_ne _ _ (hhp)]; exact fh
    refine lv_aload_n hx hb dX3_add_17 rfl (lv_at hl 0 rfl) ?_
    refine lv_dup hx hb dX3_add_18 rfl ?_
    refine wg_get F hP fρ_c16 rfl iw_X3 1 (by decide) tb_33 rfl rfl dX3_add_19 ?_
    refine lv_iconst (v := 1) hx hb dX3_add_22 (by decide) ?_
    refine lv_iadd hx hb dX3_add_23 ?_
    refine lv_topi (fun x_24 ex_24 => ?_)
    refine wg_put F hP hS fρ_c16 rfl iw_X3 tyX3_ok nmX3 1 (by decide) tb_33 rfl rfl rfl (Nat.le_of_ble_eq_true rfl) dX3_add_24 (fun H locs hP hS => ?_)
    obtain ⟨C_24, hC_24⟩ : ∃ z : wg_C, z = va_up C_16 ρ (some (.inr (3, [.ref (A π), .int x_24]))) := ⟨_, rfl⟩
    have hP : wg_P E A C_24 H := by rw [hC_24]; exact hP
    have fρ_c24 : C_24 ρ = some (.inr (3, [.ref (A π), .int x_24])) := by rw [hC_24]; exact va_up_self _ _ _
    have fπ_c24 : C_24 π = some (.inl (E.2.1 4, N, .inr (.inr (.inr (.inr (va_up f (nI n).toNatClampNeg (some (A h)))))))) := by rw [hC_24]; rw [va_up_ne _ _ (Ne.symm hne)]; exact fπ_c16
    have fh_c24 : C_24 h = some (.inr (2, hv)) := by rw [hC_24]; rw [va_up_ne _ _ (hhr)]; exact fh_c16
    exact wg_vret F hP hS hr hlk (⟨rfl, by rw [hC_24, hC_16, ex_24, nI_clamp (by omega), nI_1]⟩) dX3_add_27
set_option maxHeartbeats 4000000 in
set_option maxRecDepth 100000 in
theorem c_X3_put (l : Launch) (E : wg_E) (A : Nat → Nat) (C : wg_C) (ρ π N n h j : Nat) (f : Nat → Option Nat) (hv : List Value) (hj : j < n) (hn : n ≤ N) (hN : N < 2 ^ 31) (hne : ρ ≠ π) (hhp : h ≠ π) (fρ : C ρ = some (.inr (3, [.ref (A π), .int (nI n)]))) (fπ : C π = some (.inl (E.2.1 4, N, .inr (.inr (.inr (.inr f)))))) (fh : C h = some (.inr (2, hv))) : Met l yX3_put (wg_ws yX3_put cX3_put 3 none) (wg_rm 0 0 0) (wg_Pc E A C [.ref (A ρ), .int (nI j), .ref (A h)]) (wg_Qv E (fun A1 C1 => A = A1 ∧ C1 = va_up C π (some (.inl (E.2.1 4, N, .inr (.inr (.inr (.inr (va_up f j (some (A h))))))))))) 0 0 (wg_A E) := by
  refine wg_met (by decide) (Nat.le_of_ble_eq_true rfl) ?_
  intro p e s m below meth c ls F hr hlk hnm hP hS hl
  have F : wg_F p m c cX3_put 3 s ([.ref (A ρ), .int (nI j), .ref (A h)] : List Value).toArray "LightChecks$HeadRow" E := F
  have hx := F.1
  have hb := F.2.1
  have hml := F.2.2.1
  have hown := F.2.2.2.1
  have hts := F.2.2.2.2.1
  have hl : lv_has ls 3 [(0, .ref (A ρ)), (1, .int (nI j)), (2, .ref (A h))] := hl
  refine lv_iload_n hx hb dX3_put_0 rfl (lv_at hl 1 rfl) ?_
  refine lv_if_lt (tgt := 28) hx hb dX3_put_1 (by decide) (fun c_1 => ?_) (fun c_1 => ?_)
  · exact absurd c_1 (nI_pos (by omega))
  · refine lv_iload_n hx hb dX3_put_4 rfl (lv_at hl 1 rfl) ?_
    refine lv_aload_n hx hb dX3_put_5 rfl (lv_at hl 0 rfl) ?_
    refine wg_get F hP fρ rfl iw_X3 1 (by decide) tb_33 rfl rfl dX3_put_6 ?_
    refine lv_icmp_ge (tgt := 28) hx hb dX3_put_9 (by decide) (fun c_9 => ?_) (fun c_9 => ?_)
    · exact absurd c_9 (by rw [nI_leI (by omega) (by omega)]; omega)
    · refine lv_iload_n hx hb dX3_put_12 rfl (lv_at hl 1 rfl) ?_
      refine lv_aload_n hx hb dX3_put_13 rfl (lv_at hl 0 rfl) ?_
      refine wg_get F hP fρ rfl iw_X3 0 (by decide) tb_32 rfl rfl dX3_put_14 ?_
      refine wg_len (t := 4) F hP rfl fπ (v := nI N) rfl dX3_put_17 ?_
      refine lv_icmp_ge (tgt := 28) hx hb dX3_put_18 (by decide) (fun c_18 => ?_) (fun c_18 => ?_)
      · exact absurd c_18 (by rw [nI_leI hN (by omega)]; omega)
      · refine lv_aload_n hx hb dX3_put_21 rfl (lv_at hl 0 rfl) ?_
        refine wg_get F hP fρ rfl iw_X3 0 (by decide) tb_32 rfl rfl dX3_put_22 ?_
        refine lv_iload_n hx hb dX3_put_25 rfl (lv_at hl 1 rfl) ?_
        refine lv_aload_n hx hb dX3_put_26 rfl (lv_at hl 2 rfl) ?_
        refine wg_qst F hP hS 4 rfl fπ fh rfl (vp_in_nI (by omega) hN) dX3_put_27 (fun H locs hP hS => ?_)
        obtain ⟨C_27, hC_27⟩ : ∃ z : wg_C, z = va_up C π (some (.inl (E.2.1 4, N, .inr (.inr (.inr (.inr (va_up f (nI j).toNatClampNeg (some (A h))))))))) := ⟨_, rfl⟩
        have hP : wg_P E A C_27 H := by rw [hC_27]; exact hP
        have fρ_c27 : C_27 ρ = some (.inr (3, [.ref (A π), .int (nI n)])) := by rw [hC_27]; rw [va_up_ne _ _ (hne)]; exact fρ
        have fπ_c27 : C_27 π = some (.inl (E.2.1 4, N, .inr (.inr (.inr (.inr (va_up f (nI j).toNatClampNeg (some (A h)))))))) := by rw [hC_27]; exact va_up_self _ _ _
        have fh_c27 : C_27 h = some (.inr (2, hv)) := by rw [hC_27]; rw [va_up_ne _ _ (hhp)]; exact fh
        exact wg_vret F hP hS hr hlk (⟨rfl, by rw [hC_27, nI_clamp (by omega)]⟩) dX3_put_28
set_option maxHeartbeats 4000000 in
set_option maxRecDepth 100000 in
theorem c_X3_cutTo (l : Launch) (E : wg_E) (A : Nat → Nat) (C : wg_C) (ρ π n k : Nat) (hn : n < 2 ^ 31) (hk : k ≤ n) (fρ : C ρ = some (.inr (3, [.ref (A π), .int (nI n)]))) : Met l yX3_cutTo (wg_ws yX3_cutTo cX3_cutTo 2 none) (wg_rm 1 0 0) (wg_Pc E A C [.ref (A ρ), .int (nI k)]) (wg_Qv E (fun A1 C1 => A = A1 ∧ C1 = va_up C ρ (some (.inr (3, [.ref (A π), .int (nI k)]))))) 0 0 (wg_A E) := by
  refine wg_met (by decide) (Nat.le_of_ble_eq_true rfl) ?_
  intro p e s m below meth c ls F hr hlk hnm hP hS hl
  have F : wg_F p m c cX3_cutTo 2 s ([.ref (A ρ), .int (nI k)] : List Value).toArray "LightChecks$HeadRow" E := F
  have hx := F.1
  have hb := F.2.1
  have hml := F.2.2.1
  have hown := F.2.2.2.1
  have hts := F.2.2.2.2.1
  have hl : lv_has ls 2 [(0, .ref (A ρ)), (1, .int (nI k))] := hl
  refine lv_aload_n hx hb dX3_cutTo_0 rfl (lv_at hl 0 rfl) ?_
  refine lv_aload_n hx hb dX3_cutTo_1 rfl (lv_at hl 0 rfl) ?_
  refine wg_get F hP fρ rfl iw_X3 1 (by decide) tb_33 rfl rfl dX3_cutTo_2 ?_
  refine lv_iconst (v := 0) hx hb dX3_cutTo_5 (by decide) ?_
  refine lv_iload_n hx hb dX3_cutTo_6 rfl (lv_at hl 1 rfl) ?_
  refine va_mmax hx hb (hml.trans hl.1.symm) hown (hts _ tb_27) (hts _ tb_28) (hts _ tb_3) (hts _ tb_29) (Nat.le_of_ble_eq_true rfl) (Nat.le_of_ble_eq_true rfl) (Nat.le_of_ble_eq_true rfl) (Nat.le_of_ble_eq_true rfl) dX3_cutTo_7 ?_
  refine va_mmin hx hb (hml.trans hl.1.symm) hown (hts _ tb_342) (hts _ tb_343) (hts _ tb_3) (hts _ tb_344) (Nat.le_of_ble_eq_true rfl) (Nat.le_of_ble_eq_true rfl) (Nat.le_of_ble_eq_true rfl) (Nat.le_of_ble_eq_true rfl) dX3_cutTo_10 ?_
  refine lv_topi (fun x_13 ex_13 => ?_)
  refine wg_put F hP hS fρ rfl iw_X3 tyX3_ok nmX3 1 (by decide) tb_33 rfl rfl rfl (Nat.le_of_ble_eq_true rfl) dX3_cutTo_13 (fun H locs hP hS => ?_)
  obtain ⟨C_13, hC_13⟩ : ∃ z : wg_C, z = va_up C ρ (some (.inr (3, [.ref (A π), .int x_13]))) := ⟨_, rfl⟩
  have hP : wg_P E A C_13 H := by rw [hC_13]; exact hP
  have fρ_c13 : C_13 ρ = some (.inr (3, [.ref (A π), .int x_13])) := by rw [hC_13]; exact va_up_self _ _ _
  exact wg_vret F hP hS hr hlk (⟨rfl, by rw [hC_13, ex_13, lc_cut hk hn]⟩) dX3_cutTo_16
end
section
set_option maxHeartbeats 4000000 in
set_option maxRecDepth 100000 in
theorem c_X7_weightIn (l : Launch) (E : wg_E) (A : Nat → Nat) (C : wg_C) (x i : Nat) (hx64 : x < 2 ^ 64) (hi : i < 5)  : Met l yX7_weightIn (wg_ws yX7_weightIn cX7_weightIn 3 (some .int)) (wg_rm 0 0 0) (wg_Pc E A C [.long (lN x), .int (nI i)]) (wg_Qi E (fun r A1 C1 => r = nI (lc_wt x i) ∧ A = A1 ∧ C = C1)) 0 0 (wg_A E) := by
  refine wg_met (by decide) (Nat.le_of_ble_eq_true rfl) ?_
  intro p e s m below meth c ls F hr hlk hnm hP hS hl
  have F : wg_F p m c cX7_weightIn 3 s ([.long (lN x), .int (nI i)] : List Value).toArray "LightChecks" E := F
  have hx := F.1
  have hb := F.2.1
  have hml := F.2.2.1
  have hown := F.2.2.2.1
  have hts := F.2.2.2.2.1
  have hl : lv_has ls 3 [(0, .long (lN x)), (2, .int (nI i))] := hl
  refine lv_lload_n hx hb dX7_weightIn_0 rfl (lv_at hl 0 rfl) ?_
  refine lv_bipush (v := 7) hx hb dX7_weightIn_1 (by decide) ?_
  refine lv_iload_n hx hb dX7_weightIn_3 rfl (lv_at hl 1 rfl) ?_
  refine lv_imul hx hb dX7_weightIn_4 ?_
  refine lv_lushr (v := ((lN x).toUInt64 >>> ((7 * (nI i)).toInt64.toUInt64 &&& Int64.toUInt64 63)).toInt64) hx hb dX7_weightIn_5 rfl ?_
  refine lv_l2i (v := (((lN x).toUInt64 >>> ((7 * (nI i)).toInt64.toUInt64 &&& Int64.toUInt64 63)).toInt64).toInt32) hx hb dX7_weightIn_6 rfl ?_
  refine lv_bipush (v := 127) hx hb dX7_weightIn_7 (by decide) ?_
  refine lv_iand hx hb dX7_weightIn_9 ?_
  exact wg_iret F hP hS hr hlk (⟨lc_wIn hx64 hi, rfl, rfl⟩) dX7_weightIn_10
set_option maxHeartbeats 4000000 in
set_option maxRecDepth 100000 in
theorem c_X7_holdsWeights (l : Launch) (E : wg_E) (A : Nat → Nat) (C : wg_C) (x : Nat) (hx64 : x < 2 ^ 64)  : Met l yX7_holdsWeights (wg_ws yX7_holdsWeights cX7_holdsWeights 3 (some .boolean)) (wg_rm 1 0 0) (wg_Pc E A C [.long (lN x)]) (wg_Qi E (fun r A1 C1 => ((lc_well x ∧ r = 1) ∨ (¬ lc_well x ∧ r = 0)) ∧ A = A1 ∧ C = C1)) 0 0 (wg_A E) := by
  refine wg_met (by decide) (Nat.le_of_ble_eq_true rfl) ?_
  intro p e s m below meth c ls F hr hlk hnm hP hS hl
  have F : wg_F p m c cX7_holdsWeights 3 s ([.long (lN x)] : List Value).toArray "LightChecks" E := F
  have hx := F.1
  have hb := F.2.1
  have hml := F.2.2.1
  have hown := F.2.2.2.1
  have hts := F.2.2.2.2.1
  have hl : lv_has ls 3 [(0, .long (lN x))] := hl
  refine lv_iconst (v := 0) hx hb dX7_holdsWeights_0 (by decide) ?_
  refine lv_istore_n (lv' := [(2, .int 0), (0, .long (lN x))]) hx hb dX7_holdsWeights_1 rfl hl (by decide) rfl (fun ls hl => ?_)
  have loop_2 : ∀ (n : Nat) (i : Nat) (x2 : Int32), 5 - i < n → (i ≤ 5) → (x2 = nI i) → (∀ k, k < i → lc_wt x k ≤ 100) → ∀ (H : Heap) (locs : List Loc) (ls : Array Slot), wg_P E A C H → va_S (wg_A E) s.heap H locs → lv_has ls 3 [(0, .long (lN x)), (2, .int x2)] → W p l e (wg_rm 1 0 0) s m ([.long (lN x)] : List Value).toArray below meth c H locs 0 0 (MQ below (wg_Qi E (fun r A1 C1 => ((lc_well x ∧ r = 1) ∨ (¬ lc_well x ∧ r = 0)) ∧ A = A1 ∧ C = C1)) ([.long (lN x)] : List Value).toArray s 0 0 (wg_A E)) (F0 m 2 ls []) := by
    intro n
    induction n with
    | zero => intro i x2 hm; exact absurd hm (Nat.not_lt_zero _)
    | succ n ih_loop_2 =>
      intro i x2 hm_loop_2 hi ex2 hw H locs ls hP hS hl
      have hi31 : i < 2 ^ 31 := by omega
      refine lv_iload_n hx hb dX7_holdsWeights_2 rfl (lv_at hl 1 rfl) ?_
      refine lv_iconst (v := 5) hx hb dX7_holdsWeights_3 (by decide) ?_
      refine lv_icmp_ge (tgt := 25) hx hb dX7_holdsWeights_4 (by decide) (fun c_4 => ?_) (fun c_4 => ?_)
      · have hi5 : i = 5 := by rw [ex2, show (5 : Int32) = nI 5 from rfl, nI_leI (by decide) hi31] at c_4; omega
        subst hi5
        refine lv_lload_n hx hb dX7_holdsWeights_25 rfl (lv_at hl 0 rfl) ?_
        refine lv_bipush (v := 35) hx hb dX7_holdsWeights_26 (by decide) ?_
        refine lv_lushr (v := ((lN x).toUInt64 >>> ((35 : Int32).toInt64.toUInt64 &&& Int64.toUInt64 63)).toInt64) hx hb dX7_holdsWeights_28 rfl ?_
        refine lv_lconst (v := 0) hx hb dX7_holdsWeights_29 (by decide) ?_
        refine W.lcmp hx hb dX7_holdsWeights_30 ?_
        refine lv_if_ne (tgt := 38) hx hb dX7_holdsWeights_31 (by decide) (fun c_31 => ?_) (fun c_31 => ?_)
        · have hno : ¬ x < 2 ^ 35 := by rw [lg_cmp_eq, lc_ush35 hx64] at c_31; exact c_31
          refine lv_iconst (v := 0) hx hb dX7_holdsWeights_38 (by decide) ?_
          exact wg_zret F hP hS hr hlk (by decide) ⟨Or.inr ⟨fun h => hno h.2, rfl⟩, rfl, rfl⟩ dX7_holdsWeights_39
        · have hyes : x < 2 ^ 35 := by rw [lg_cmp_eq, lc_ush35 hx64] at c_31; exact c_31
          refine lv_iconst (v := 1) hx hb dX7_holdsWeights_34 (by decide) ?_
          refine lv_goto (tgt := 39) hx hb dX7_holdsWeights_35 (by decide) ?_
          exact wg_zret F hP hS hr hlk (by decide) ⟨Or.inl ⟨⟨hw, hyes⟩, rfl⟩, rfl, rfl⟩ dX7_holdsWeights_39
      · have hi5 : i < 5 := by rw [ex2, show (5 : Int32) = nI 5 from rfl, nI_leI (by decide) hi31] at c_4; omega
        subst ex2
        refine lv_lload_n hx hb dX7_holdsWeights_7 rfl (lv_at hl 0 rfl) ?_
        refine lv_iload_n hx hb dX7_holdsWeights_8 rfl (lv_at hl 1 rfl) ?_
        refine wg_ci hS (wg_rS (As := [.long (lN x), .int (nI i)]) (rest := []) F hP hS (c_X7_weightIn l E A C x i hx64 hi5) ok_X7_weightIn tb_198 rfl rfl ⟨Nat.le_of_ble_eq_true rfl, Nat.le_of_ble_eq_true rfl⟩ rfl hl.1 rfl (Nat.le_of_ble_eq_true rfl) dX7_holdsWeights_9 ⟨Nat.le_of_ble_eq_true rfl, Nat.le_of_ble_eq_true rfl⟩) (fun r_9 A1 C_9 H locs w_9 hP hS => ?_)
        obtain ⟨w_9, rfl, rfl⟩ := w_9
        refine lv_bipush (v := 100) hx hb dX7_holdsWeights_12 (by decide) ?_
        refine lv_icmp_le (tgt := 19) hx hb dX7_holdsWeights_14 (by decide) (fun c_14 => ?_) (fun c_14 => ?_)
        · have hle : lc_wt x i ≤ 100 := by rw [w_9, show (100 : Int32) = nI 100 from rfl, nI_leI (by have := lc_wt_lt x i; omega) (by decide)] at c_14; exact c_14
          obtain ⟨x_19, ex_19⟩ : ∃ y : Int32, y = nI i + 1 := ⟨_, rfl⟩
          refine lv_iinc (v := x_19) (lv' := [(2, .int x_19), (0, .long (lN x))]) hx hb dX7_holdsWeights_19 hl (k := 1) rfl (by rw [ex_19]; rfl) (by decide) rfl (fun ls hl => ?_)
          refine lv_goto (tgt := 2) hx hb dX7_holdsWeights_22 (by decide) ?_
          exact ih_loop_2 (i + 1) x_19 (by omega) (by omega) (by rw [ex_19, nI_1]) (fun k hk => by rcases (show k < i ∨ k = i by omega) with h | h; exact hw k h; rw [h]; exact hle) _ _ _ hP hS (lv_sub hl [1, 0] rfl)
        · have hgt : ¬ lc_wt x i ≤ 100 := by rw [w_9, show (100 : Int32) = nI 100 from rfl, nI_leI (by have := lc_wt_lt x i; omega) (by decide)] at c_14; exact c_14
          refine lv_iconst (v := 0) hx hb dX7_holdsWeights_17 (by decide) ?_
          exact wg_zret F hP hS hr hlk (by decide) ⟨Or.inr ⟨fun h => hgt (h.1 i hi5), rfl⟩, rfl, rfl⟩ dX7_holdsWeights_18
  exact loop_2 _ 0 0 (Nat.lt_succ_self _) (by omega) rfl (fun k hk => absurd hk (Nat.not_lt_zero _)) _ _ _ hP hS (lv_sub hl [1, 0] rfl)
set_option maxHeartbeats 4000000 in
set_option maxRecDepth 100000 in
theorem c_X6_weightOf (l : Launch) (E : wg_E) (A : Nat → Nat) (C : wg_C) (σ a b sg : Nat) (num : Int32) (ha : a < 2 ^ 64) (hb64 : b < 2 ^ 64) (hs : sg < 1024) (fσ : C σ = some (.inr (6, [.int num, .long (lN a), .long (lN b), .int (nI (lc_tot a b))]))) : Met l yX6_weightOf (wg_ws yX6_weightOf cX6_weightOf 4 (some .int)) (wg_rm 1 0 0) (wg_Pc E A C [.ref (A σ), .int (nI sg)]) (wg_Qi E (fun r A1 C1 => r = nI (lc_wof a b sg) ∧ A = A1 ∧ C = C1)) 0 0 (wg_A E) := by
  refine wg_met (by decide) (Nat.le_of_ble_eq_true rfl) ?_
  intro p e s m below meth c ls F hr hlk hnm hP hS hl
  have F : wg_F p m c cX6_weightOf 4 s ([.ref (A σ), .int (nI sg)] : List Value).toArray "LightChecks$WeightSet" E := F
  have hx := F.1
  have hb := F.2.1
  have hml := F.2.2.1
  have hown := F.2.2.2.1
  have hts := F.2.2.2.2.1
  have hl : lv_has ls 4 [(0, .ref (A σ)), (1, .int (nI sg))] := hl
  refine lv_iconst (v := 0) hx hb dX6_weightOf_0 (by decide) ?_
  refine lv_istore_n (lv' := [(2, .int 0), (0, .ref (A σ)), (1, .int (nI sg))]) hx hb dX6_weightOf_1 rfl hl (by decide) rfl (fun ls hl => ?_)
  refine lv_iconst (v := 0) hx hb dX6_weightOf_2 (by decide) ?_
  refine lv_istore_n (lv' := [(3, .int 0), (2, .int 0), (0, .ref (A σ)), (1, .int (nI sg))]) hx hb dX6_weightOf_3 rfl hl (by decide) rfl (fun ls hl => ?_)
  have loop_4 : ∀ (n : Nat) (i : Nat) (x2 : Int32) (x3 : Int32), 5 - i < n → (i ≤ 5) → (x2 = nI (lc_two (fun k => lc_bit sg k * lc_w a b k) i)) → (x3 = nI i) → ∀ (H : Heap) (locs : List Loc) (ls : Array Slot), wg_P E A C H → va_S (wg_A E) s.heap H locs → lv_has ls 4 [(0, .ref (A σ)), (1, .int (nI sg)), (2, .int x2), (3, .int x3)] → W p l e (wg_rm 1 0 0) s m ([.ref (A σ), .int (nI sg)] : List Value).toArray below meth c H locs 0 0 (MQ below (wg_Qi E (fun r A1 C1 => r = nI (lc_wof a b sg) ∧ A = A1 ∧ C = C1)) ([.ref (A σ), .int (nI sg)] : List Value).toArray s 0 0 (wg_A E)) (F0 m 4 ls []) := by
    intro n
    induction n with
    | zero => intro i x2 x3 hm; exact absurd hm (Nat.not_lt_zero _)
    | succ n ih_loop_4 =>
      intro i x2 x3 hm_loop_4 hi ex2 ex3 H locs ls hP hS hl
      subst ex3
      have hi31 : i < 2 ^ 31 := by omega
      have c5 : (5 : Int32) = nI 5 := rfl
      have hle5 := lc_two_le (lc_bw_lt a b sg) hi
      refine lv_iload_n hx hb dX6_weightOf_4 rfl (lv_at hl 3 rfl) ?_
      refine lv_iconst (v := 5) hx hb dX6_weightOf_5 (by decide) ?_
      refine lv_icmp_ge (tgt := 55) hx hb dX6_weightOf_6 (by decide) (fun c_6 => ?_) (fun c_6 => ?_)
      · have hi5 : i = 5 := by rw [c5, nI_leI (by decide) hi31] at c_6; omega
        subst hi5
        refine lv_iload_n hx hb dX6_weightOf_55 rfl (lv_at hl 2 rfl) ?_
        exact wg_iret F hP hS hr hlk (⟨by rw [ex2, lc_two_5]; rfl, rfl, rfl⟩) dX6_weightOf_56
      · have hi5 : i < 5 := by rw [c5, nI_leI (by decide) hi31] at c_6; omega
        have hstep := lc_two_s (fun k => lc_bit sg k * lc_w a b k) i
        refine lv_iload_n hx hb dX6_weightOf_9 rfl (lv_at hl 1 rfl) ?_
        refine lv_iconst (v := 1) hx hb dX6_weightOf_10 (by decide) ?_
        refine lv_iload_n hx hb dX6_weightOf_11 rfl (lv_at hl 3 rfl) ?_
        refine lv_ishl hx hb dX6_weightOf_12 ?_
        refine lv_iand hx hb dX6_weightOf_13 ?_
        refine lv_if_eq (tgt := 28) hx hb dX6_weightOf_14 (by decide) (fun c_14 => ?_) (fun c_14 => ?_)
        · have hb1 : lc_bit sg i = 0 := (lc_andbit sg hs i (by omega)).mp c_14
          refine lv_iload_n hx hb dX6_weightOf_28 rfl (lv_at hl 1 rfl) ?_
          refine lv_iconst (v := 1) hx hb dX6_weightOf_29 (by decide) ?_
          refine lv_iload_n hx hb dX6_weightOf_30 rfl (lv_at hl 3 rfl) ?_
          refine lv_iconst (v := 5) hx hb dX6_weightOf_31 (by decide) ?_
          refine lv_iadd hx hb dX6_weightOf_32 ?_
          refine lv_ishl hx hb dX6_weightOf_33 ?_
          refine lv_iand hx hb dX6_weightOf_34 ?_
          refine lv_if_eq (tgt := 49) hx hb dX6_weightOf_35 (by decide) (fun c_35 => ?_) (fun c_35 => ?_)
          · have hb2 : lc_bit sg (i + 5) = 0 := (lc_andbit sg hs (i + 5) (by omega)).mp (by rw [← nI_add]; exact c_35)
            have hsum : x2 = nI (lc_two (fun k => lc_bit sg k * lc_w a b k) (i + 1)) := by
              rw [hstep, hb1, hb2, lc_w_lo hi5, lc_w_hi]
              first | (rw [ex_48, w_44, ex_27, w_23, ex2, nI_add, nI_add]; congr 1; omega) | (rw [ex_48, w_44, ex2, nI_add]; congr 1; omega) | (rw [ex_27, w_23, ex2, nI_add]; congr 1; omega) | (rw [ex2]; congr 1; omega)
            obtain ⟨x_49, ex_49⟩ : ∃ y : Int32, y = nI i + 1 := ⟨_, rfl⟩
            refine lv_iinc (v := x_49) (lv' := [(3, .int x_49), (0, .ref (A σ)), (1, .int (nI sg)), (2, .int x2)]) hx hb dX6_weightOf_49 hl (k := 3) rfl (by rw [ex_49]; rfl) (by decide) rfl (fun ls hl => ?_)
            refine lv_goto (tgt := 4) hx hb dX6_weightOf_52 (by decide) ?_
            exact ih_loop_4 (i + 1) x2 x_49 (by omega) (by omega) hsum (by rw [ex_49, nI_1]) _ _ _ hP hS (lv_sub hl [1, 2, 3, 0] rfl)
          · have hb2 : lc_bit sg (i + 5) = 1 := lc_ones (fun h => c_35 (by have := (lc_andbit sg hs (i + 5) (by omega)).mpr h; rw [← nI_add] at this; exact this))
            refine lv_iload_n hx hb dX6_weightOf_38 rfl (lv_at hl 2 rfl) ?_
            refine lv_aload_n hx hb dX6_weightOf_39 rfl (lv_at hl 0 rfl) ?_
            refine wg_get F hP fσ rfl iw_X6 2 (by decide) tb_211 rfl rfl dX6_weightOf_40 ?_
            refine lv_iload_n hx hb dX6_weightOf_43 rfl (lv_at hl 3 rfl) ?_
            refine wg_ci hS (wg_rSN (As := [.long (lN b), .int (nI i)]) (rest := [.int x2]) F hP hS (c_X7_weightIn l E A C b i hb64 hi5) ok_X7_weightIn nb_206 rfl rfl ⟨Nat.le_of_ble_eq_true rfl, Nat.le_of_ble_eq_true rfl⟩ rfl hl.1 rfl (Nat.le_of_ble_eq_true rfl) dX6_weightOf_44 ⟨Nat.le_of_ble_eq_true rfl, Nat.le_of_ble_eq_true rfl⟩) (fun r_44 A1 C_44 H locs w_44 hP hS => ?_)
            obtain ⟨w_44, rfl, rfl⟩ := w_44
            refine lv_iadd hx hb dX6_weightOf_47 ?_
            refine lv_topi (fun x_48 ex_48 => ?_)
            refine lv_istore_n (lv' := [(2, .int x_48), (0, .ref (A σ)), (1, .int (nI sg)), (3, .int (nI i))]) hx hb dX6_weightOf_48 rfl hl (by decide) rfl (fun ls hl => ?_)
            have hsum : x_48 = nI (lc_two (fun k => lc_bit sg k * lc_w a b k) (i + 1)) := by
              rw [hstep, hb1, hb2, lc_w_lo hi5, lc_w_hi]
              first | (rw [ex_48, w_44, ex_27, w_23, ex2, nI_add, nI_add]; congr 1; omega) | (rw [ex_48, w_44, ex2, nI_add]; congr 1; omega) | (rw [ex_27, w_23, ex2, nI_add]; congr 1; omega) | (rw [ex2]; congr 1; omega)
            obtain ⟨x_49, ex_49⟩ : ∃ y : Int32, y = nI i + 1 := ⟨_, rfl⟩
            refine lv_iinc (v := x_49) (lv' := [(3, .int x_49), (2, .int x_48), (0, .ref (A σ)), (1, .int (nI sg))]) hx hb dX6_weightOf_49 hl (k := 3) rfl (by rw [ex_49]; rfl) (by decide) rfl (fun ls hl => ?_)
            refine lv_goto (tgt := 4) hx hb dX6_weightOf_52 (by decide) ?_
            exact ih_loop_4 (i + 1) x_48 x_49 (by omega) (by omega) hsum (by rw [ex_49, nI_1]) _ _ _ hP hS (lv_sub hl [2, 3, 1, 0] rfl)
        · have hb1 : lc_bit sg i = 1 := lc_ones (fun h => c_14 ((lc_andbit sg hs i (by omega)).mpr h))
          refine lv_iload_n hx hb dX6_weightOf_17 rfl (lv_at hl 2 rfl) ?_
          refine lv_aload_n hx hb dX6_weightOf_18 rfl (lv_at hl 0 rfl) ?_
          refine wg_get F hP fσ rfl iw_X6 1 (by decide) tb_210 rfl rfl dX6_weightOf_19 ?_
          refine lv_iload_n hx hb dX6_weightOf_22 rfl (lv_at hl 3 rfl) ?_
          refine wg_ci hS (wg_rSN (As := [.long (lN a), .int (nI i)]) (rest := [.int x2]) F hP hS (c_X7_weightIn l E A C a i ha hi5) ok_X7_weightIn nb_206 rfl rfl ⟨Nat.le_of_ble_eq_true rfl, Nat.le_of_ble_eq_true rfl⟩ rfl hl.1 rfl (Nat.le_of_ble_eq_true rfl) dX6_weightOf_23 ⟨Nat.le_of_ble_eq_true rfl, Nat.le_of_ble_eq_true rfl⟩) (fun r_23 A1 C_23 H locs w_23 hP hS => ?_)
          obtain ⟨w_23, rfl, rfl⟩ := w_23
          refine lv_iadd hx hb dX6_weightOf_26 ?_
          refine lv_topi (fun x_27 ex_27 => ?_)
          refine lv_istore_n (lv' := [(2, .int x_27), (0, .ref (A σ)), (1, .int (nI sg)), (3, .int (nI i))]) hx hb dX6_weightOf_27 rfl hl (by decide) rfl (fun ls hl => ?_)
          refine lv_iload_n hx hb dX6_weightOf_28 rfl (lv_at hl 2 rfl) ?_
          refine lv_iconst (v := 1) hx hb dX6_weightOf_29 (by decide) ?_
          refine lv_iload_n hx hb dX6_weightOf_30 rfl (lv_at hl 3 rfl) ?_
          refine lv_iconst (v := 5) hx hb dX6_weightOf_31 (by decide) ?_
          refine lv_iadd hx hb dX6_weightOf_32 ?_
          refine lv_ishl hx hb dX6_weightOf_33 ?_
          refine lv_iand hx hb dX6_weightOf_34 ?_
          refine lv_if_eq (tgt := 49) hx hb dX6_weightOf_35 (by decide) (fun c_35 => ?_) (fun c_35 => ?_)
          · have hb2 : lc_bit sg (i + 5) = 0 := (lc_andbit sg hs (i + 5) (by omega)).mp (by rw [← nI_add]; exact c_35)
            have hsum : x_27 = nI (lc_two (fun k => lc_bit sg k * lc_w a b k) (i + 1)) := by
              rw [hstep, hb1, hb2, lc_w_lo hi5, lc_w_hi]
              first | (rw [ex_48, w_44, ex_27, w_23, ex2, nI_add, nI_add]; congr 1; omega) | (rw [ex_48, w_44, ex2, nI_add]; congr 1; omega) | (rw [ex_27, w_23, ex2, nI_add]; congr 1; omega) | (rw [ex2]; congr 1; omega)
            obtain ⟨x_49, ex_49⟩ : ∃ y : Int32, y = nI i + 1 := ⟨_, rfl⟩
            refine lv_iinc (v := x_49) (lv' := [(3, .int x_49), (2, .int x_27), (0, .ref (A σ)), (1, .int (nI sg))]) hx hb dX6_weightOf_49 hl (k := 3) rfl (by rw [ex_49]; rfl) (by decide) rfl (fun ls hl => ?_)
            refine lv_goto (tgt := 4) hx hb dX6_weightOf_52 (by decide) ?_
            exact ih_loop_4 (i + 1) x_27 x_49 (by omega) (by omega) hsum (by rw [ex_49, nI_1]) _ _ _ hP hS (lv_sub hl [2, 3, 1, 0] rfl)
          · have hb2 : lc_bit sg (i + 5) = 1 := lc_ones (fun h => c_35 (by have := (lc_andbit sg hs (i + 5) (by omega)).mpr h; rw [← nI_add] at this; exact this))
            refine lv_iload_n hx hb dX6_weightOf_38 rfl (lv_at hl 0 rfl) ?_
            refine lv_aload_n hx hb dX6_weightOf_39 rfl (lv_at hl 1 rfl) ?_
            refine wg_get F hP fσ rfl iw_X6 2 (by decide) tb_211 rfl rfl dX6_weightOf_40 ?_
            refine lv_iload_n hx hb dX6_weightOf_43 rfl (lv_at hl 3 rfl) ?_
            refine wg_ci hS (wg_rSN (As := [.long (lN b), .int (nI i)]) (rest := [.int x_27]) F hP hS (c_X7_weightIn l E A C b i hb64 hi5) ok_X7_weightIn nb_206 rfl rfl ⟨Nat.le_of_ble_eq_true rfl, Nat.le_of_ble_eq_true rfl⟩ rfl hl.1 rfl (Nat.le_of_ble_eq_true rfl) dX6_weightOf_44 ⟨Nat.le_of_ble_eq_true rfl, Nat.le_of_ble_eq_true rfl⟩) (fun r_44 A1 C_44 H locs w_44 hP hS => ?_)
            obtain ⟨w_44, rfl, rfl⟩ := w_44
            refine lv_iadd hx hb dX6_weightOf_47 ?_
            refine lv_topi (fun x_48 ex_48 => ?_)
            refine lv_istore_n (lv' := [(2, .int x_48), (0, .ref (A σ)), (1, .int (nI sg)), (3, .int (nI i))]) hx hb dX6_weightOf_48 rfl hl (by decide) rfl (fun ls hl => ?_)
            have hsum : x_48 = nI (lc_two (fun k => lc_bit sg k * lc_w a b k) (i + 1)) := by
              rw [hstep, hb1, hb2, lc_w_lo hi5, lc_w_hi]
              first | (rw [ex_48, w_44, ex_27, w_23, ex2, nI_add, nI_add]; congr 1; omega) | (rw [ex_48, w_44, ex2, nI_add]; congr 1; omega) | (rw [ex_27, w_23, ex2, nI_add]; congr 1; omega) | (rw [ex2]; congr 1; omega)
            obtain ⟨x_49, ex_49⟩ : ∃ y : Int32, y = nI i + 1 := ⟨_, rfl⟩
            refine lv_iinc (v := x_49) (lv' := [(3, .int x_49), (2, .int x_48), (0, .ref (A σ)), (1, .int (nI sg))]) hx hb dX6_weightOf_49 hl (k := 3) rfl (by rw [ex_49]; rfl) (by decide) rfl (fun ls hl => ?_)
            refine lv_goto (tgt := 4) hx hb dX6_weightOf_52 (by decide) ?_
            exact ih_loop_4 (i + 1) x_48 x_49 (by omega) (by omega) hsum (by rw [ex_49, nI_1]) _ _ _ hP hS (lv_sub hl [2, 3, 1, 0] rfl)
  exact loop_4 _ 0 0 0 (Nat.lt_succ_self _) (by omega) rfl rfl _ _ _ hP hS (lv_sub hl [2, 3, 1, 0] rfl)
set_option maxHeartbeats 4000000 in
set_option maxRecDepth 100000 in
theorem c_X7_isLeaf (l : Launch) (E : wg_E) (A : Nat → Nat) (C : wg_C) (k : Int32)   : Met l yX7_isLeaf (wg_ws yX7_isLeaf cX7_isLeaf 1 (some .boolean)) (wg_rm 0 0 0) (wg_Pc E A C [.int k]) (wg_Qi E (fun r A1 C1 => ((∃ j : Nat, j < 8 ∧ k = nI j ∧ r = 1) ∨ ((k < 0 ∨ nI 8 ≤ k) ∧ r = 0)) ∧ A = A1 ∧ C = C1)) 0 0 (wg_A E) := by
  refine wg_met (by decide) (Nat.le_of_ble_eq_true rfl) ?_
  intro p e s m below meth c ls F hr hlk hnm hP hS hl
  have F : wg_F p m c cX7_isLeaf 1 s ([.int k] : List Value).toArray "LightChecks" E := F
  have hx := F.1
  have hb := F.2.1
  have hml := F.2.2.1
  have hown := F.2.2.2.1
  have hts := F.2.2.2.2.1
  have hl : lv_has ls 1 [(0, .int k)] := hl
  refine lv_iload_n hx hb dX7_isLeaf_0 rfl (lv_at hl 0 rfl) ?_
  refine lv_if_lt (tgt := 14) hx hb dX7_isLeaf_1 (by decide) (fun c_1 => ?_) (fun c_1 => ?_)
  · refine lv_iconst (v := 0) hx hb dX7_isLeaf_14 (by decide) ?_
    exact wg_zret F hP hS hr hlk (by decide) ⟨Or.inr ⟨by first | exact Or.inl c_1 | exact Or.inr c_7, rfl⟩, rfl, rfl⟩ dX7_isLeaf_15
  · refine lv_iload_n hx hb dX7_isLeaf_4 rfl (lv_at hl 0 rfl) ?_
    refine lv_bipush (v := 8) hx hb dX7_isLeaf_5 (by decide) ?_
    refine lv_icmp_ge (tgt := 14) hx hb dX7_isLeaf_7 (by decide) (fun c_7 => ?_) (fun c_7 => ?_)
    · refine lv_iconst (v := 0) hx hb dX7_isLeaf_14 (by decide) ?_
      exact wg_zret F hP hS hr hlk (by decide) ⟨Or.inr ⟨by first | exact Or.inl c_1 | exact Or.inr c_7, rfl⟩, rfl, rfl⟩ dX7_isLeaf_15
    · obtain ⟨j, hj, ej⟩ := nI_of c_1
      have hj8 : j < 8 := by rw [ej, show (8 : Int32) = nI 8 from rfl, nI_leI (by decide) hj] at c_7; omega
      refine lv_iconst (v := 1) hx hb dX7_isLeaf_10 (by decide) ?_
      refine lv_goto (tgt := 15) hx hb dX7_isLeaf_11 (by decide) ?_
      exact wg_zret F hP hS hr hlk (by decide) ⟨Or.inl ⟨j, hj8, ej, rfl⟩, rfl, rfl⟩ dX7_isLeaf_15
set_option maxHeartbeats 4000000 in
set_option maxRecDepth 100000 in
theorem c_X7_isHeight (l : Launch) (E : wg_E) (A : Nat → Nat) (C : wg_C) (k : Int32)   : Met l yX7_isHeight (wg_ws yX7_isHeight cX7_isHeight 1 (some .boolean)) (wg_rm 0 0 0) (wg_Pc E A C [.int k]) (wg_Qi E (fun r A1 C1 => ((∃ j : Nat, j ≤ 100000 ∧ k = nI j ∧ r = 1) ∨ ((k < 0 ∨ nI 100000 < k) ∧ r = 0)) ∧ A = A1 ∧ C = C1)) 0 0 (wg_A E) := by
  refine wg_met (by decide) (Nat.le_of_ble_eq_true rfl) ?_
  intro p e s m below meth c ls F hr hlk hnm hP hS hl
  have F : wg_F p m c cX7_isHeight 1 s ([.int k] : List Value).toArray "LightChecks" E := F
  have hx := F.1
  have hb := F.2.1
  have hml := F.2.2.1
  have hown := F.2.2.2.1
  have hts := F.2.2.2.2.1
  have hl : lv_has ls 1 [(0, .int k)] := hl
  refine lv_iload_n hx hb dX7_isHeight_0 rfl (lv_at hl 0 rfl) ?_
  refine lv_if_lt (tgt := 15) hx hb dX7_isHeight_1 (by decide) (fun c_1 => ?_) (fun c_1 => ?_)
  · refine lv_iconst (v := 0) hx hb dX7_isHeight_15 (by decide) ?_
    exact wg_zret F hP hS hr hlk (by decide) ⟨Or.inr ⟨by first | exact Or.inl c_1 | exact Or.inr c_8, rfl⟩, rfl, rfl⟩ dX7_isHeight_16
  · refine lv_iload_n hx hb dX7_isHeight_4 rfl (lv_at hl 0 rfl) ?_
    refine lv_ldcw (v := 100000) hx hb hown (hts _ tb_234) dX7_isHeight_5 ?_
    refine lv_icmp_gt (tgt := 15) hx hb dX7_isHeight_8 (by decide) (fun c_8 => ?_) (fun c_8 => ?_)
    · refine lv_iconst (v := 0) hx hb dX7_isHeight_15 (by decide) ?_
      exact wg_zret F hP hS hr hlk (by decide) ⟨Or.inr ⟨by first | exact Or.inl c_1 | exact Or.inr c_8, rfl⟩, rfl, rfl⟩ dX7_isHeight_16
    · obtain ⟨j, hj, ej⟩ := nI_of c_1
      have hj8 : j ≤ 100000 := by rw [ej, show (100000 : Int32) = nI 100000 from rfl, nI_ltI (by decide) hj] at c_8; omega
      refine lv_iconst (v := 1) hx hb dX7_isHeight_11 (by decide) ?_
      refine lv_goto (tgt := 16) hx hb dX7_isHeight_12 (by decide) ?_
      exact wg_zret F hP hS hr hlk (by decide) ⟨Or.inl ⟨j, hj8, ej, rfl⟩, rfl, rfl⟩ dX7_isHeight_16
set_option maxHeartbeats 4000000 in
set_option maxRecDepth 100000 in
theorem c_X7_arePieces (l : Launch) (E : wg_E) (A : Nat → Nat) (C : wg_C) (a b : Int32)   : Met l yX7_arePieces (wg_ws yX7_arePieces cX7_arePieces 2 (some .boolean)) (wg_rm 0 0 0) (wg_Pc E A C [.int a, .int b]) (wg_Qi E (fun r A1 C1 => ((∃ n m : Nat, 1 ≤ n ∧ n ≤ 60 ∧ m ≤ n ∧ a = nI n ∧ b = nI m ∧ r = 1) ∨ ((a < 1 ∨ 60 < a ∨ b < 0 ∨ a < b) ∧ r = 0)) ∧ A = A1 ∧ C = C1)) 0 0 (wg_A E) := by
  refine wg_met (by decide) (Nat.le_of_ble_eq_true rfl) ?_
  intro p e s m below meth c ls F hr hlk hnm hP hS hl
  have F : wg_F p m c cX7_arePieces 2 s ([.int a, .int b] : List Value).toArray "LightChecks" E := F
  have hx := F.1
  have hb := F.2.1
  have hml := F.2.2.1
  have hown := F.2.2.2.1
  have hts := F.2.2.2.2.1
  have hl : lv_has ls 2 [(0, .int a), (1, .int b)] := hl
  refine lv_iload_n hx hb dX7_arePieces_0 rfl (lv_at hl 0 rfl) ?_
  refine lv_iconst (v := 1) hx hb dX7_arePieces_1 (by decide) ?_
  refine lv_icmp_lt (tgt := 24) hx hb dX7_arePieces_2 (by decide) (fun c_2 => ?_) (fun c_2 => ?_)
  · refine lv_iconst (v := 0) hx hb dX7_arePieces_24 (by decide) ?_
    exact wg_zret F hP hS hr hlk (by decide) ⟨Or.inr ⟨by first | exact Or.inl c_2 | exact Or.inr (Or.inl c_8) | exact Or.inr (Or.inr (Or.inl c_12)) | exact Or.inr (Or.inr (Or.inr c_17)), rfl⟩, rfl, rfl⟩ dX7_arePieces_25
  · refine lv_iload_n hx hb dX7_arePieces_5 rfl (lv_at hl 0 rfl) ?_
    refine lv_bipush (v := 60) hx hb dX7_arePieces_6 (by decide) ?_
    refine lv_icmp_gt (tgt := 24) hx hb dX7_arePieces_8 (by decide) (fun c_8 => ?_) (fun c_8 => ?_)
    · refine lv_iconst (v := 0) hx hb dX7_arePieces_24 (by decide) ?_
      exact wg_zret F hP hS hr hlk (by decide) ⟨Or.inr ⟨by first | exact Or.inl c_2 | exact Or.inr (Or.inl c_8) | exact Or.inr (Or.inr (Or.inl c_12)) | exact Or.inr (Or.inr (Or.inr c_17)), rfl⟩, rfl, rfl⟩ dX7_arePieces_25
    · refine lv_iload_n hx hb dX7_arePieces_11 rfl (lv_at hl 1 rfl) ?_
      refine lv_if_lt (tgt := 24) hx hb dX7_arePieces_12 (by decide) (fun c_12 => ?_) (fun c_12 => ?_)
      · refine lv_iconst (v := 0) hx hb dX7_arePieces_24 (by decide) ?_
        exact wg_zret F hP hS hr hlk (by decide) ⟨Or.inr ⟨by first | exact Or.inl c_2 | exact Or.inr (Or.inl c_8) | exact Or.inr (Or.inr (Or.inl c_12)) | exact Or.inr (Or.inr (Or.inr c_17)), rfl⟩, rfl, rfl⟩ dX7_arePieces_25
      · refine lv_iload_n hx hb dX7_arePieces_15 rfl (lv_at hl 1 rfl) ?_
        refine lv_iload_n hx hb dX7_arePieces_16 rfl (lv_at hl 0 rfl) ?_
        refine lv_icmp_gt (tgt := 24) hx hb dX7_arePieces_17 (by decide) (fun c_17 => ?_) (fun c_17 => ?_)
        · refine lv_iconst (v := 0) hx hb dX7_arePieces_24 (by decide) ?_
          exact wg_zret F hP hS hr hlk (by decide) ⟨Or.inr ⟨by first | exact Or.inl c_2 | exact Or.inr (Or.inl c_8) | exact Or.inr (Or.inr (Or.inl c_12)) | exact Or.inr (Or.inr (Or.inr c_17)), rfl⟩, rfl, rfl⟩ dX7_arePieces_25
        · obtain ⟨n, m, h1, h2, h3, ea, eb⟩ := lc_pieces c_2 c_8 c_12 c_17
          refine lv_iconst (v := 1) hx hb dX7_arePieces_20 (by decide) ?_
          refine lv_goto (tgt := 25) hx hb dX7_arePieces_21 (by decide) ?_
          exact wg_zret F hP hS hr hlk (by decide) ⟨Or.inl ⟨n, m, h1, h2, h3, ea, eb, rfl⟩, rfl, rfl⟩ dX7_arePieces_25
set_option maxHeartbeats 4000000 in
set_option maxRecDepth 100000 in
theorem c_X7_setAt (l : Launch) (E : wg_E) (A : Nat → Nat) (C : wg_C) (ns : Nat) (f : Nat → Option Nat) (k : Int32) (hns : ns ≤ 16) (f0 : C 0 = some (.inr (7, [.ref (A 1), .int (nI ns), .ref (A 2), .ref (A 4), .ref (A 5), .ref (A 6), .ref (A 7), .ref (A 8), .ref (A 11)]))) (f1 : C 1 = some (.inl (E.2.1 3, 16, .inr (.inr (.inr (.inr f)))))) : Met l yX7_setAt (wg_ws yX7_setAt cX7_setAt 2 (some (.object "LightChecks$WeightSet"))) (wg_rm 0 0 0) (wg_Pc E A C [.ref (A 0), .int k]) (wg_Qq E (fun r A1 C1 => r = lc_at ns f k ∧ A = A1 ∧ C = C1)) 0 0 (wg_A E) := by
  refine wg_met (by decide) (Nat.le_of_ble_eq_true rfl) ?_
  intro p e s m below meth c ls F hr hlk hnm hP hS hl
  have F : wg_F p m c cX7_setAt 2 s ([.ref (A 0), .int k] : List Value).toArray "LightChecks" E := F
  have hx := F.1
  have hb := F.2.1
  have hml := F.2.2.1
  have hown := F.2.2.2.1
  have hts := F.2.2.2.2.1
  have hl : lv_has ls 2 [(0, .ref (A 0)), (1, .int k)] := hl
  refine lv_iload_n hx hb dX7_setAt_0 rfl (lv_at hl 1 rfl) ?_
  refine lv_if_lt (tgt := 30) hx hb dX7_setAt_1 (by decide) (fun c_1 => ?_) (fun c_1 => ?_)
  · refine lv_null hx hb dX7_setAt_30 ?_
    exact wg_qret (v := none) F hP hS hr ⟨_, rfl⟩ hlk (⟨(lc_at_out (by first | exact Or.inl c_1 | exact Or.inr c_9) (by omega)).symm, rfl, rfl⟩) dX7_setAt_31
  · obtain ⟨j, hj, rfl⟩ := nI_of c_1
    refine lv_iload_n hx hb dX7_setAt_4 rfl (lv_at hl 1 rfl) ?_
    refine lv_aload_n hx hb dX7_setAt_5 rfl (lv_at hl 0 rfl) ?_
    refine wg_get F hP f0 rfl iw_X7 1 (by decide) tb_164 rfl rfl dX7_setAt_6 ?_
    refine lv_icmp_ge (tgt := 30) hx hb dX7_setAt_9 (by decide) (fun c_9 => ?_) (fun c_9 => ?_)
    · refine lv_null hx hb dX7_setAt_30 ?_
      exact wg_qret (v := none) F hP hS hr ⟨_, rfl⟩ hlk (⟨(lc_at_out (by first | exact Or.inl c_1 | exact Or.inr c_9) (by omega)).symm, rfl, rfl⟩) dX7_setAt_31
    · have hjn : j < ns := by rw [nI_leI (by omega) hj] at c_9; omega
      refine lv_iload_n hx hb dX7_setAt_12 rfl (lv_at hl 1 rfl) ?_
      refine lv_aload_n hx hb dX7_setAt_13 rfl (lv_at hl 0 rfl) ?_
      refine wg_get F hP f0 rfl iw_X7 0 (by decide) tb_163 rfl rfl dX7_setAt_14 ?_
      refine wg_len (t := 3) F hP rfl f1 (v := nI 16) rfl dX7_setAt_17 ?_
      refine lv_icmp_ge (tgt := 30) hx hb dX7_setAt_18 (by decide) (fun c_18 => ?_) (fun c_18 => ?_)
      · exact absurd c_18 (by rw [nI_leI (by decide) hj]; omega)
      · refine lv_aload_n hx hb dX7_setAt_21 rfl (lv_at hl 0 rfl) ?_
        refine wg_get F hP f0 rfl iw_X7 0 (by decide) tb_163 rfl rfl dX7_setAt_22 ?_
        refine lv_iload_n hx hb dX7_setAt_25 rfl (lv_at hl 1 rfl) ?_
        refine wg_qld F hP 3 rfl f1 (vp_in_nI (by omega) (by decide)) dX7_setAt_26 ?_
        refine lv_goto (tgt := 31) hx hb dX7_setAt_27 (by decide) ?_
        exact wg_qret (v := f (nI j).toNatClampNeg) F hP hS hr ⟨_, rfl⟩ hlk (⟨by rw [lc_at_in hjn (by omega), nI_clamp hj], rfl, rfl⟩) dX7_setAt_31
set_option maxHeartbeats 4000000 in
set_option maxRecDepth 100000 in
theorem c_X7_clientAt (l : Launch) (E : wg_E) (A : Nat → Nat) (C : wg_C) (ns : Nat) (f : Nat → Option Nat) (k : Int32)  (f0 : C 0 = some (.inr (7, [.ref (A 1), .int (nI ns), .ref (A 2), .ref (A 4), .ref (A 5), .ref (A 6), .ref (A 7), .ref (A 8), .ref (A 11)]))) (f5 : C 5 = some (.inl (E.2.1 5, 4, .inr (.inr (.inr (.inr f)))))) : Met l yX7_clientAt (wg_ws yX7_clientAt cX7_clientAt 2 (some (.object "LightChecks$Client"))) (wg_rm 0 0 0) (wg_Pc E A C [.ref (A 0), .int k]) (wg_Qq E (fun r A1 C1 => r = lc_at 4 f k ∧ A = A1 ∧ C = C1)) 0 0 (wg_A E) := by
  refine wg_met (by decide) (Nat.le_of_ble_eq_true rfl) ?_
  intro p e s m below meth c ls F hr hlk hnm hP hS hl
  have F : wg_F p m c cX7_clientAt 2 s ([.ref (A 0), .int k] : List Value).toArray "LightChecks" E := F
  have hx := F.1
  have hb := F.2.1
  have hml := F.2.2.1
  have hown := F.2.2.2.1
  have hts := F.2.2.2.2.1
  have hl : lv_has ls 2 [(0, .ref (A 0)), (1, .int k)] := hl
  refine lv_iload_n hx hb dX7_clientAt_0 rfl (lv_at hl 1 rfl) ?_
  refine lv_if_lt (tgt := 22) hx hb dX7_clientAt_1 (by decide) (fun c_1 => ?_) (fun c_1 => ?_)
  · refine lv_null hx hb dX7_clientAt_22 ?_
    exact wg_qret (v := none) F hP hS hr ⟨_, rfl⟩ hlk (⟨(lc_at_out (by first | exact Or.inl c_1 | exact Or.inr c_10) (by omega)).symm, rfl, rfl⟩) dX7_clientAt_23
  · obtain ⟨j, hj, rfl⟩ := nI_of c_1
    refine lv_iload_n hx hb dX7_clientAt_4 rfl (lv_at hl 1 rfl) ?_
    refine lv_aload_n hx hb dX7_clientAt_5 rfl (lv_at hl 0 rfl) ?_
    refine wg_get F hP f0 rfl iw_X7 4 (by decide) tb_167 rfl rfl dX7_clientAt_6 ?_
    refine wg_len (t := 5) F hP rfl f5 (v := nI 4) rfl dX7_clientAt_9 ?_
    refine lv_icmp_ge (tgt := 22) hx hb dX7_clientAt_10 (by decide) (fun c_10 => ?_) (fun c_10 => ?_)
    · refine lv_null hx hb dX7_clientAt_22 ?_
      exact wg_qret (v := none) F hP hS hr ⟨_, rfl⟩ hlk (⟨(lc_at_out (by first | exact Or.inl c_1 | exact Or.inr c_10) (by omega)).symm, rfl, rfl⟩) dX7_clientAt_23
    · have hjn : j < 4 := by rw [nI_leI (by decide) hj] at c_10; omega
      refine lv_aload_n hx hb dX7_clientAt_13 rfl (lv_at hl 0 rfl) ?_
      refine wg_get F hP f0 rfl iw_X7 4 (by decide) tb_167 rfl rfl dX7_clientAt_14 ?_
      refine lv_iload_n hx hb dX7_clientAt_17 rfl (lv_at hl 1 rfl) ?_
      refine wg_qld F hP 5 rfl f5 (vp_in_nI hjn (by decide)) dX7_clientAt_18 ?_
      refine lv_goto (tgt := 23) hx hb dX7_clientAt_19 (by decide) ?_
      exact wg_qret (v := f (nI j).toNatClampNeg) F hP hS hr ⟨_, rfl⟩ hlk (⟨by rw [lc_at_in hjn (by omega), nI_clamp hj], rfl, rfl⟩) dX7_clientAt_23
set_option maxHeartbeats 4000000 in
set_option maxRecDepth 100000 in
theorem c_X7_giverAt (l : Launch) (E : wg_E) (A : Nat → Nat) (C : wg_C) (ns : Nat) (f : Nat → Option Nat) (k : Int32)  (f0 : C 0 = some (.inr (7, [.ref (A 1), .int (nI ns), .ref (A 2), .ref (A 4), .ref (A 5), .ref (A 6), .ref (A 7), .ref (A 8), .ref (A 11)]))) (f6 : C 6 = some (.inl (E.2.1 6, 4, .inr (.inr (.inr (.inr f)))))) : Met l yX7_giverAt (wg_ws yX7_giverAt cX7_giverAt 2 (some (.object "LightChecks$Giver"))) (wg_rm 0 0 0) (wg_Pc E A C [.ref (A 0), .int k]) (wg_Qq E (fun r A1 C1 => r = lc_at 4 f k ∧ A = A1 ∧ C = C1)) 0 0 (wg_A E) := by
  refine wg_met (by decide) (Nat.le_of_ble_eq_true rfl) ?_
  intro p e s m below meth c ls F hr hlk hnm hP hS hl
  have F : wg_F p m c cX7_giverAt 2 s ([.ref (A 0), .int k] : List Value).toArray "LightChecks" E := F
  have hx := F.1
  have hb := F.2.1
  have hml := F.2.2.1
  have hown := F.2.2.2.1
  have hts := F.2.2.2.2.1
  have hl : lv_has ls 2 [(0, .ref (A 0)), (1, .int k)] := hl
  refine lv_iload_n hx hb dX7_giverAt_0 rfl (lv_at hl 1 rfl) ?_
  refine lv_if_lt (tgt := 22) hx hb dX7_giverAt_1 (by decide) (fun c_1 => ?_) (fun c_1 => ?_)
  · refine lv_null hx hb dX7_giverAt_22 ?_
    exact wg_qret (v := none) F hP hS hr ⟨_, rfl⟩ hlk (⟨(lc_at_out (by first | exact Or.inl c_1 | exact Or.inr c_10) (by omega)).symm, rfl, rfl⟩) dX7_giverAt_23
  · obtain ⟨j, hj, rfl⟩ := nI_of c_1
    refine lv_iload_n hx hb dX7_giverAt_4 rfl (lv_at hl 1 rfl) ?_
    refine lv_aload_n hx hb dX7_giverAt_5 rfl (lv_at hl 0 rfl) ?_
    refine wg_get F hP f0 rfl iw_X7 5 (by decide) tb_168 rfl rfl dX7_giverAt_6 ?_
    refine wg_len (t := 6) F hP rfl f6 (v := nI 4) rfl dX7_giverAt_9 ?_
    refine lv_icmp_ge (tgt := 22) hx hb dX7_giverAt_10 (by decide) (fun c_10 => ?_) (fun c_10 => ?_)
    · refine lv_null hx hb dX7_giverAt_22 ?_
      exact wg_qret (v := none) F hP hS hr ⟨_, rfl⟩ hlk (⟨(lc_at_out (by first | exact Or.inl c_1 | exact Or.inr c_10) (by omega)).symm, rfl, rfl⟩) dX7_giverAt_23
    · have hjn : j < 4 := by rw [nI_leI (by decide) hj] at c_10; omega
      refine lv_aload_n hx hb dX7_giverAt_13 rfl (lv_at hl 0 rfl) ?_
      refine wg_get F hP f0 rfl iw_X7 5 (by decide) tb_168 rfl rfl dX7_giverAt_14 ?_
      refine lv_iload_n hx hb dX7_giverAt_17 rfl (lv_at hl 1 rfl) ?_
      refine wg_qld F hP 6 rfl f6 (vp_in_nI hjn (by decide)) dX7_giverAt_18 ?_
      refine lv_goto (tgt := 23) hx hb dX7_giverAt_19 (by decide) ?_
      exact wg_qret (v := f (nI j).toNatClampNeg) F hP hS hr ⟨_, rfl⟩ hlk (⟨by rw [lc_at_in hjn (by omega), nI_clamp hj], rfl, rfl⟩) dX7_giverAt_23
set_option maxHeartbeats 4000000 in
set_option maxRecDepth 100000 in
theorem c_X7_isCertified (l : Launch) (E : wg_E) (A : Nat → Nat) (C : wg_C) (h o fo a b sg : Nat) (num ht nu2 : Int32) (pa rt fp : Int64) (ha : a < 2 ^ 64) (hb64 : b < 2 ^ 64) (hs : sg < 1024) (fh : C h = some (.inr (2, [.int num, .int ht, .long pa, .ref (A o), .ref (A fo), .long rt, .long fp, .int (nI sg)]))) (fo : C o = some (.inr (6, [.int nu2, .long (lN a), .long (lN b), .int (nI (lc_tot a b))]))) : Met l yX7_isCertified (wg_ws yX7_isCertified cX7_isCertified 1 (some .boolean)) (wg_rm 2 0 0) (wg_Pc E A C [.ref (A h)]) (wg_Qi E (fun r A1 C1 => r = (if 2 * lc_tot a b < 3 * lc_wof a b sg then 1 else 0) ∧ A = A1 ∧ C = C1)) 0 0 (wg_A E) := by
  refine wg_met (by decide) (Nat.le_of_ble_eq_true rfl) ?_
  intro p e s m below meth c ls F hr hlk hnm hP hS hl
  have F : wg_F p m c cX7_isCertified 1 s ([.ref (A h)] : List Value).toArray "LightChecks" E := F
  have hx := F.1
  have hb := F.2.1
  have hml := F.2.2.1
  have hown := F.2.2.2.1
  have hts := F.2.2.2.2.1
  have hl : lv_has ls 1 [(0, .ref (A h))] := hl
  refine lv_iconst (v := 3) hx hb dX7_isCertified_0 (by decide) ?_
  refine lv_aload_n hx hb dX7_isCertified_1 rfl (lv_at hl 0 rfl) ?_
  refine wg_getN F hP fh rfl iw_X2 3 (by decide) nb_255 rfl rfl dX7_isCertified_2 ?_
  refine lv_aload_n hx hb dX7_isCertified_5 rfl (lv_at hl 0 rfl) ?_
  refine wg_getN F hP fh rfl iw_X2 7 (by decide) nb_264 rfl rfl dX7_isCertified_6 ?_
  refine wg_ci hS (wg_rVN (As := [.int (nI sg)]) (rest := [.int 3]) F hP hS (c_X6_weightOf l E A C o a b sg nu2 ha hb64 hs fo) ok_X6_weightOf nb_314 rfl rfl ⟨Nat.le_of_ble_eq_true rfl, Nat.le_of_ble_eq_true rfl⟩ fo rfl rfl rfl hl.1 rfl (Nat.le_of_ble_eq_true rfl) dX7_isCertified_9 ⟨Nat.le_of_ble_eq_true rfl, Nat.le_of_ble_eq_true rfl⟩) (fun r_9 A1 C_9 H locs w_9 hP hS => ?_)
  obtain ⟨w_9, rfl, rfl⟩ := w_9
  refine lv_imul hx hb dX7_isCertified_12 ?_
  refine lv_iconst (v := 2) hx hb dX7_isCertified_13 (by decide) ?_
  refine lv_aload_n hx hb dX7_isCertified_14 rfl (lv_at hl 0 rfl) ?_
  refine wg_getN F hP fh rfl iw_X2 3 (by decide) nb_255 rfl rfl dX7_isCertified_15 ?_
  refine wg_getN F hP fo rfl iw_X6 3 (by decide) nb_213 rfl rfl dX7_isCertified_18 ?_
  refine lv_imul hx hb dX7_isCertified_21 ?_
  refine lv_icmp_le (tgt := 29) hx hb dX7_isCertified_22 (by decide) (fun c_22 => ?_) (fun c_22 => ?_)
  · rw [w_9, show (3 : Int32) = nI 3 from rfl, show (2 : Int32) = nI 2 from rfl, pk_mul, pk_mul, nI_leI (by have := lc_wof_lt a b sg; omega) (by have := lc_tot_lt a b; omega)] at c_22
    refine lv_iconst (v := 0) hx hb dX7_isCertified_29 (by decide) ?_
    exact wg_zret F hP hS hr hlk (by decide) ⟨by rw [if_neg (by omega)], rfl, rfl⟩ dX7_isCertified_30
  · rw [w_9, show (3 : Int32) = nI 3 from rfl, show (2 : Int32) = nI 2 from rfl, pk_mul, pk_mul, nI_leI (by have := lc_wof_lt a b sg; omega) (by have := lc_tot_lt a b; omega)] at c_22
    refine lv_iconst (v := 1) hx hb dX7_isCertified_25 (by decide) ?_
    refine lv_goto (tgt := 30) hx hb dX7_isCertified_26 (by decide) ?_
    exact wg_zret F hP hS hr hlk (by decide) ⟨by rw [if_pos (by omega)], rfl, rfl⟩ dX7_isCertified_30
set_option maxHeartbeats 4000000 in
set_option maxRecDepth 100000 in
theorem c_X7_doesOverlap (l : Launch) (E : wg_E) (A : Nat → Nat) (C : wg_C) (ns : Nat) (tm : Nat → Nat) (σ : Nat) (h o fo a b sg : Nat) (num ht nu2 : Int32) (pa rt fp : Int64) (ha : a < 2 ^ 64) (hb64 : b < 2 ^ 64) (hs : sg < 1024) (h0 : tm 0 ≤ 1000) (h1 : tm 1 ≤ 1000) (f0 : C 0 = some (.inr (7, [.ref (A 1), .int (nI ns), .ref (A 2), .ref (A 4), .ref (A 5), .ref (A 6), .ref (A 7), .ref (A 8), .ref (A 11)]))) (f4 : C 4 = some (.inl (E.2.1 0, 4, .inl (fun k => nI (tm k))))) (fh : C h = some (.inr (2, [.int num, .int ht, .long pa, .ref (A o), .ref (A fo), .long rt, .long fp, .int (nI sg)]))) (fσ : C σ = some (.inr (6, [.int nu2, .long (lN a), .long (lN b), .int (nI (lc_tot a b))]))) : Met l yX7_doesOverlap (wg_ws yX7_doesOverlap cX7_doesOverlap 3 (some .boolean)) (wg_rm 2 0 0) (wg_Pc E A C [.ref (A 0), .ref (A h), .ref (A σ)]) (wg_Qi E (fun r A1 C1 => r = (if tm 0 * lc_tot a b < tm 1 * lc_wof a b sg then 1 else 0) ∧ A = A1 ∧ C = C1)) 0 0 (wg_A E) := by
  refine wg_met (by decide) (Nat.le_of_ble_eq_true rfl) ?_
  intro p e s m below meth c ls F hr hlk hnm hP hS hl
  have F : wg_F p m c cX7_doesOverlap 3 s ([.ref (A 0), .ref (A h), .ref (A σ)] : List Value).toArray "LightChecks" E := F
  have hx := F.1
  have hb := F.2.1
  have hml := F.2.2.1
  have hown := F.2.2.2.1
  have hts := F.2.2.2.2.1
  have hl : lv_has ls 3 [(0, .ref (A 0)), (1, .ref (A h)), (2, .ref (A σ))] := hl
  refine lv_aload_n hx hb dX7_doesOverlap_0 rfl (lv_at hl 0 rfl) ?_
  refine wg_get F hP f0 rfl iw_X7 3 (by decide) tb_166 rfl rfl dX7_doesOverlap_1 ?_
  refine lv_iconst (v := 1) hx hb dX7_doesOverlap_4 (by decide) ?_
  refine wg_ild F hP f4 (vp_in_nI (n := 1) (by decide) (by decide)) dX7_doesOverlap_5 ?_
  refine wg_topi (y := nI (tm 1)) rfl ?_
  refine lv_aload_n hx hb dX7_doesOverlap_6 rfl (lv_at hl 2 rfl) ?_
  refine lv_aload_n hx hb dX7_doesOverlap_7 rfl (lv_at hl 1 rfl) ?_
  refine wg_getN F hP fh rfl iw_X2 7 (by decide) nb_264 rfl rfl dX7_doesOverlap_8 ?_
  refine wg_ci hS (wg_rVN (As := [.int (nI sg)]) (rest := [.int (nI (tm 1))]) F hP hS (c_X6_weightOf l E A C σ a b sg nu2 ha hb64 hs fσ) ok_X6_weightOf nb_314 rfl rfl ⟨Nat.le_of_ble_eq_true rfl, Nat.le_of_ble_eq_true rfl⟩ fσ rfl rfl rfl hl.1 rfl (Nat.le_of_ble_eq_true rfl) dX7_doesOverlap_11 ⟨Nat.le_of_ble_eq_true rfl, Nat.le_of_ble_eq_true rfl⟩) (fun r_11 A1 C_11 H locs w_11 hP hS => ?_)
  obtain ⟨w_11, rfl, rfl⟩ := w_11
  refine lv_imul hx hb dX7_doesOverlap_14 ?_
  refine lv_aload_n hx hb dX7_doesOverlap_15 rfl (lv_at hl 0 rfl) ?_
  refine wg_get F hP f0 rfl iw_X7 3 (by decide) tb_166 rfl rfl dX7_doesOverlap_16 ?_
  refine lv_iconst (v := 0) hx hb dX7_doesOverlap_19 (by decide) ?_
  refine wg_ild F hP f4 (vp_in_nI (n := 0) (by decide) (by decide)) dX7_doesOverlap_20 ?_
  refine wg_topi (y := nI (tm 0)) rfl ?_
  refine lv_aload_n hx hb dX7_doesOverlap_21 rfl (lv_at hl 2 rfl) ?_
  refine wg_getN F hP fσ rfl iw_X6 3 (by decide) nb_213 rfl rfl dX7_doesOverlap_22 ?_
  refine lv_imul hx hb dX7_doesOverlap_25 ?_
  have q1 : tm 1 * lc_wof a b sg ≤ 1000 * 1270 := Nat.mul_le_mul h1 (lc_wof_lt a b sg)
  have q0 : tm 0 * lc_tot a b ≤ 1000 * 1270 := Nat.mul_le_mul h0 (lc_tot_lt a b)
  refine lv_icmp_le (tgt := 33) hx hb dX7_doesOverlap_26 (by decide) (fun c_26 => ?_) (fun c_26 => ?_)
  · rw [w_11, pk_mul, pk_mul, nI_leI (by omega) (by omega)] at c_26
    refine lv_iconst (v := 0) hx hb dX7_doesOverlap_33 (by decide) ?_
    exact wg_zret F hP hS hr hlk (by decide) ⟨by rw [if_neg (by omega)], rfl, rfl⟩ dX7_doesOverlap_34
  · rw [w_11, pk_mul, pk_mul, nI_leI (by omega) (by omega)] at c_26
    refine lv_iconst (v := 1) hx hb dX7_doesOverlap_29 (by decide) ?_
    refine lv_goto (tgt := 34) hx hb dX7_doesOverlap_30 (by decide) ?_
    exact wg_zret F hP hS hr hlk (by decide) ⟨by rw [if_pos (by omega)], rfl, rfl⟩ dX7_doesOverlap_34
end
section
/-! SETS AND HEADS: what they are, apart from any cell. B: (number of sets, their two packed longs), (number of heads, height, parent, set, next, root, signers) -/
abbrev lc_B : Type := (Nat × (Nat → Nat) × (Nat → Nat)) × (Nat × (Nat → Nat) × (Nat → Int64) × (Nat → Nat) × (Nat → Nat) × (Nat → Int64) × (Nat → Nat))
abbrev lc_ns (B : lc_B) : Nat := B.1.1
abbrev lc_sa (B : lc_B) : Nat → Nat := B.1.2.1
abbrev lc_sb (B : lc_B) : Nat → Nat := B.1.2.2
abbrev lc_nh (B : lc_B) : Nat := B.2.1
abbrev lc_hh (B : lc_B) : Nat → Nat := B.2.2.1
abbrev lc_hp (B : lc_B) : Nat → Int64 := B.2.2.2.1
abbrev lc_ho (B : lc_B) : Nat → Nat := B.2.2.2.2.1
abbrev lc_hx (B : lc_B) : Nat → Nat := B.2.2.2.2.2.1
abbrev lc_hr (B : lc_B) : Nat → Int64 := B.2.2.2.2.2.2.1
abbrev lc_sg (B : lc_B) : Nat → Nat := B.2.2.2.2.2.2.2
def lc_dig (B : lc_B) (k : Nat) : Int64 := lc_pair (lc_pair (lc_pair (nI (lc_hh B k)).toInt64 (lc_hp B k)) (lc_pair (nI (lc_ho B k)).toInt64 (nI (lc_hx B k)).toInt64)) (lc_hr B k)
abbrev lc_cert (B : lc_B) (h : Nat) : Prop := 2 * lc_tot (lc_sa B (lc_ho B h)) (lc_sb B (lc_ho B h)) < 3 * lc_wof (lc_sa B (lc_ho B h)) (lc_sb B (lc_ho B h)) (lc_sg B h)
abbrev lc_over (B : lc_B) (tm : Nat → Nat) (h w : Nat) : Prop := tm 0 * lc_tot (lc_sa B w) (lc_sb B w) < tm 1 * lc_wof (lc_sa B w) (lc_sb B w) (lc_sg B h)
/-- what a head is refused by behind a trusted one; 0: nothing -/
def lc_why (B : lc_B) (tm : Nat → Nat) (t h : Nat) : Nat :=
  if lc_hh B h ≤ lc_hh B t then 1
  else if lc_hh B h = lc_hh B t + 1 then (if lc_hp B h = lc_dig B t then (if lc_ho B h = lc_hx B t then (if lc_cert B h then 0 else 4) else 3) else 2)
  else if tm 2 < lc_hh B h - lc_hh B t then 5 else if lc_cert B h then (if lc_over B tm h (lc_hx B t) then 0 else 6) else 4
def lc_ok (B : lc_B) : Prop := lc_ns B ≤ 16 ∧ lc_nh B ≤ 60 ∧ (∀ k, k < lc_ns B → lc_well (lc_sa B k) ∧ lc_well (lc_sb B k)) ∧ ∀ k, k < lc_nh B → lc_hh B k ≤ 100000 ∧ lc_ho B k < lc_ns B ∧ lc_hx B k < lc_ns B ∧ lc_sg B k < 1024
/-- the cells of the class that hold them: set k has role 100 + k, head k has role 200 + k -/
def lc_st (B : lc_B) (k : Nat) : va_E := .inr (6, [.int (nI k), .long (lN (lc_sa B k)), .long (lN (lc_sb B k)), .int (nI (lc_tot (lc_sa B k) (lc_sb B k)))])
def lc_hd (A : Nat → Nat) (B : lc_B) (k : Nat) : va_E := .inr (2, [.int (nI k), .int (nI (lc_hh B k)), .long (lc_hp B k), .ref (A (100 + lc_ho B k)), .ref (A (100 + lc_hx B k)), .long (lc_hr B k), .long (lc_dig B k), .int (nI (lc_sg B k))])
def lc_DB (A : Nat → Nat) (C : wg_C) (B : lc_B) : Prop := (∀ k, k < lc_ns B → C (100 + k) = some (lc_st B k)) ∧ (∀ k, k < lc_nh B → C (200 + k) = some (lc_hd A B k)) ∧ lc_ok B
theorem lc_DB.same {A : Nat → Nat} {C C1 : wg_C} {B : lc_B} (h : lc_DB A C B) (hC : ∀ r, 100 ≤ r → r < 300 → C1 r = C r) : lc_DB A C1 B :=
  ⟨fun k hk => by rw [hC _ (by omega) (by have := h.2.2.1; omega)]; exact h.1 k hk, fun k hk => by rw [hC _ (by omega) (by have := h.2.2.2.1; omega)]; exact h.2.1 k hk, h.2.2⟩
theorem lc_well.lt {x : Nat} (h : lc_well x) : x < 2 ^ 64 := Nat.lt_trans h.2 (by decide)
/-- the first place below n with a number -/
def lc_pl (q : Nat → Nat) (x : Nat) : Nat → Option Nat
  | 0 => none
  | n + 1 => match lc_pl q x n with
    | some i => some i
    | none => if q n = x then some n else none
theorem lc_pl_none {q : Nat → Nat} {x : Nat} : ∀ {n : Nat}, (∀ i, i < n → q i ≠ x) → lc_pl q x n = none
  | 0, _ => rfl
  | n + 1, h => by
    simp only [lc_pl]
    rw [lc_pl_none (fun i hi => h i (by omega))]
    exact if_neg (h n (by omega))
theorem lc_pl_some {q : Nat → Nat} {x i : Nat} (h1 : q i = x) (h2 : ∀ j, j < i → q j ≠ x) : ∀ {n : Nat}, i < n → lc_pl q x n = some i
  | 0, h => absurd h (Nat.not_lt_zero _)
  | n + 1, h => by
    simp only [lc_pl]
    rcases (show i < n ∨ i = n by omega) with h3 | h3
    · rw [lc_pl_some h1 h2 h3]
    · subst h3
      rw [lc_pl_none h2]
      exact if_pos h1
theorem lc_pl_of {q : Nat → Nat} {x : Nat} : ∀ {n i : Nat}, lc_pl q x n = some i → i < n ∧ q i = x
  | 0, i, h => by cases h
  | n + 1, i, h => by
    simp only [lc_pl] at h
    cases h1 : lc_pl q x n with
    | some j =>
      rw [h1] at h
      cases h
      have := lc_pl_of h1
      exact ⟨by omega, this.2⟩
    | none =>
      rw [h1] at h
      by_cases h2 : q n = x
      · simp only [h2, if_true] at h
        cases h
        exact ⟨by omega, h2⟩
      · simp only [h2, if_false] at h
        cases h
theorem lc_pl_no {q : Nat → Nat} {x : Nat} : ∀ {n : Nat}, lc_pl q x n = none → ∀ i, i < n → q i ≠ x
  | 0, _ => fun i h => absurd h (Nat.not_lt_zero _)
  | n + 1, h => by
    simp only [lc_pl] at h
    cases h1 : lc_pl q x n with
    | some j => rw [h1] at h; cases h
    | none =>
      rw [h1] at h
      intro i hi
      rcases (show i < n ∨ i = n by omega) with h3 | h3
      · exact lc_pl_no h1 i h3
      · subst h3
        intro h2
        simp only [h2, if_true] at h
        cases h
/-- a place, or NONE -/
def lc_I (o : Option Nat) : Int32 := match o with
  | some i => nI i
  | none => -2
/-- whether a head is unlike the one that a giver (n heads, g) has at its height -/
def lc_unl (B : lc_B) (n : Nat) (g : Nat → Nat) (h : Nat) : Bool := match lc_pl (fun k => lc_hh B (g k)) (lc_hh B h) n with
  | some j => !(decide (lc_dig B (g j) = lc_dig B h))
  | none => false
/-- the least height of unlike ones among the first i heads of one giver -/
def lc_lu (B : lc_B) (g : Nat → Nat) (n2 : Nat) (g2 : Nat → Nat) : Nat → Option Nat
  | 0 => none
  | i + 1 => if lc_unl B n2 g2 (g i) = true then (match lc_lu B g n2 g2 i with
      | none => some (lc_hh B (g i))
      | some b => if lc_hh B (g i) < b then some (lc_hh B (g i)) else some b) else lc_lu B g n2 g2 i
/-- the last of the first n stored heads that is below a height -/
def lc_lb (B : lc_B) (g : Nat → Nat) (x : Nat) : Nat → Option Nat
  | 0 => none
  | n + 1 => if lc_hh B (g n) < x then some n else lc_lb B g x n
theorem nI_m1 (n : Nat) : nI (n + 1) - 1 = nI n := nI_pred n
theorem lc_rise {a b : Nat} (ha : a < 2 ^ 30) (hb : b < 2 ^ 30) : (1 : Int32) ≤ nI a - nI b ↔ b < a := by
  rw [Int32.le_iff_toInt_le, pk_sub_toInt ha hb, show (1 : Int32).toInt = 1 from by decide]
  omega
theorem lc_rise1 {a b : Nat} (ha : a < 2 ^ 30) (hb : b < 2 ^ 30) : nI a - nI b = 1 ↔ a = b + 1 := by
  rw [← Int32.toInt_inj, pk_sub_toInt ha hb, show (1 : Int32).toInt = 1 from by decide]
  omega
end
section
set_option maxHeartbeats 4000000 in
set_option maxRecDepth 100000 in
theorem c_X7_stepRefusal (l : Launch) (E : wg_E) (A : Nat → Nat) (C : wg_C) (B : lc_B) (t h : Nat) (hDB : lc_DB A C B) (ht : t < lc_nh B) (hh : h < lc_nh B)  : Met l yX7_stepRefusal (wg_ws yX7_stepRefusal cX7_stepRefusal 3 (some .int)) (wg_rm 3 0 0) (wg_Pc E A C [.ref (A 0), .ref (A (200 + t)), .ref (A (200 + h))]) (wg_Qi E (fun r A1 C1 => r = nI (if lc_hp B h = lc_dig B t then (if lc_ho B h = lc_hx B t then (if lc_cert B h then 0 else 4) else 3) else 2) ∧ A = A1 ∧ C = C1)) 0 0 (wg_A E) := by
  refine wg_met (by decide) (Nat.le_of_ble_eq_true rfl) ?_
  intro p e s m below meth c ls F hr hlk hnm hP hS hl
  have F : wg_F p m c cX7_stepRefusal 3 s ([.ref (A 0), .ref (A (200 + t)), .ref (A (200 + h))] : List Value).toArray "LightChecks" E := F
  have hx := F.1
  have hb := F.2.1
  have hml := F.2.2.1
  have hown := F.2.2.2.1
  have hts := F.2.2.2.2.1
  have hl : lv_has ls 3 [(0, .ref (A 0)), (1, .ref (A (200 + t))), (2, .ref (A (200 + h)))] := hl
  have fh_t : C (200 + t) = some (.inr (2, [.int (nI t), .int (nI (lc_hh B t)), .long (lc_hp B t), .ref (A (100 + lc_ho B t)), .ref (A (100 + lc_hx B t)), .long (lc_hr B t), .long (lc_dig B t), .int (nI (lc_sg B t))])) := hDB.2.1 t ht
  obtain ⟨hq1_t, hq2_t, hq3_t, hq4_t⟩ := hDB.2.2.2.2.2 t ht
  have fo_t : C (100 + lc_ho B t) = some (.inr (6, [.int (nI (lc_ho B t)), .long (lN (lc_sa B (lc_ho B t))), .long (lN (lc_sb B (lc_ho B t))), .int (nI (lc_tot (lc_sa B (lc_ho B t)) (lc_sb B (lc_ho B t))))])) := hDB.1 _ hq2_t
  have fx_t : C (100 + lc_hx B t) = some (.inr (6, [.int (nI (lc_hx B t)), .long (lN (lc_sa B (lc_hx B t))), .long (lN (lc_sb B (lc_hx B t))), .int (nI (lc_tot (lc_sa B (lc_hx B t)) (lc_sb B (lc_hx B t))))])) := hDB.1 _ hq3_t
  have fh_h : C (200 + h) = some (.inr (2, [.int (nI h), .int (nI (lc_hh B h)), .long (lc_hp B h), .ref (A (100 + lc_ho B h)), .ref (A (100 + lc_hx B h)), .long (lc_hr B h), .long (lc_dig B h), .int (nI (lc_sg B h))])) := hDB.2.1 h hh
  obtain ⟨hq1_h, hq2_h, hq3_h, hq4_h⟩ := hDB.2.2.2.2.2 h hh
  have fo_h : C (100 + lc_ho B h) = some (.inr (6, [.int (nI (lc_ho B h)), .long (lN (lc_sa B (lc_ho B h))), .long (lN (lc_sb B (lc_ho B h))), .int (nI (lc_tot (lc_sa B (lc_ho B h)) (lc_sb B (lc_ho B h))))])) := hDB.1 _ hq2_h
  have fx_h : C (100 + lc_hx B h) = some (.inr (6, [.int (nI (lc_hx B h)), .long (lN (lc_sa B (lc_hx B h))), .long (lN (lc_sb B (lc_hx B h))), .int (nI (lc_tot (lc_sa B (lc_hx B h)) (lc_sb B (lc_hx B h))))])) := hDB.1 _ hq3_h
  refine lv_aload_n hx hb dX7_stepRefusal_0 rfl (lv_at hl 2 rfl) ?_
  refine wg_getN F hP fh_h rfl iw_X2 2 (by decide) nb_253 rfl rfl dX7_stepRefusal_1 ?_
  refine lv_aload_n hx hb dX7_stepRefusal_4 rfl (lv_at hl 1 rfl) ?_
  refine wg_getN F hP fh_t rfl iw_X2 6 (by decide) nb_262 rfl rfl dX7_stepRefusal_5 ?_
  refine W.lcmp hx hb dX7_stepRefusal_8 ?_
  refine lv_if_eq (tgt := 14) hx hb dX7_stepRefusal_9 (by decide) (fun c_9 => ?_) (fun c_9 => ?_)
  · rw [lg_cmp_eq] at c_9
    refine lv_aload_n hx hb dX7_stepRefusal_14 rfl (lv_at hl 2 rfl) ?_
    refine wg_getN F hP fh_h rfl iw_X2 3 (by decide) nb_255 rfl rfl dX7_stepRefusal_15 ?_
    refine wg_getN F hP fo_h rfl iw_X6 0 (by decide) nb_209 rfl rfl dX7_stepRefusal_18 ?_
    refine lv_aload_n hx hb dX7_stepRefusal_21 rfl (lv_at hl 1 rfl) ?_
    refine wg_getN F hP fh_t rfl iw_X2 4 (by decide) nb_257 rfl rfl dX7_stepRefusal_22 ?_
    refine wg_getN F hP fx_t rfl iw_X6 0 (by decide) nb_209 rfl rfl dX7_stepRefusal_25 ?_
    have hb1 := hDB.2.2.1
    refine lv_icmp_eq (tgt := 33) hx hb dX7_stepRefusal_28 (by decide) (fun c_28 => ?_) (fun c_28 => ?_)
    · rw [nI_eq (by omega) (by omega)] at c_28
      refine lv_aload_n hx hb dX7_stepRefusal_33 rfl (lv_at hl 2 rfl) ?_
      refine wg_ci hS (wg_rS (As := [.ref (A (200 + h))]) (rest := []) F hP hS (c_X7_isCertified l E A C (200 + h) (100 + lc_ho B h) (100 + lc_hx B h) _ _ _ _ _ _ _ _ _ (hDB.2.2.2.2.1 _ hq2_h).1.lt (hDB.2.2.2.2.1 _ hq2_h).2.lt hq4_h fh_h fo_h) ok_X7_isCertified tb_311 rfl rfl ⟨Nat.le_of_ble_eq_true rfl, Nat.le_of_ble_eq_true rfl⟩ rfl hl.1 rfl (Nat.le_of_ble_eq_true rfl) dX7_stepRefusal_34 ⟨Nat.le_of_ble_eq_true rfl, Nat.le_of_ble_eq_true rfl⟩) (fun r_34 A1 C_34 H locs w_34 hP hS => ?_)
      obtain ⟨w_34, rfl, rfl⟩ := w_34
      refine lv_if_eq (tgt := 44) hx hb dX7_stepRefusal_37 (by decide) (fun c_37 => ?_) (fun c_37 => ?_)
      · have hc : ¬ lc_cert B h := fun q => by rw [w_34, if_pos q] at c_37; exact absurd c_37 (by decide)
        refine lv_iconst (v := 4) hx hb dX7_stepRefusal_44 (by decide) ?_
        exact wg_iret F hP hS hr hlk (⟨by rw [if_pos c_9, if_pos c_28, if_neg hc]; rfl, rfl, rfl⟩) dX7_stepRefusal_45
      · have hc : lc_cert B h := Decidable.byContradiction (fun q => c_37 (by rw [w_34, if_neg q]))
        refine lv_iconst (v := 0) hx hb dX7_stepRefusal_40 (by decide) ?_
        refine lv_goto (tgt := 45) hx hb dX7_stepRefusal_41 (by decide) ?_
        exact wg_iret F hP hS hr hlk (⟨by rw [if_pos c_9, if_pos c_28, if_pos hc]; rfl, rfl, rfl⟩) dX7_stepRefusal_45
    · rw [nI_eq (by omega) (by omega)] at c_28
      refine lv_iconst (v := 3) hx hb dX7_stepRefusal_31 (by decide) ?_
      exact wg_iret F hP hS hr hlk (⟨by rw [if_pos c_9, if_neg c_28]; rfl, rfl, rfl⟩) dX7_stepRefusal_32
  · rw [lg_cmp_eq] at c_9
    refine lv_iconst (v := 2) hx hb dX7_stepRefusal_12 (by decide) ?_
    exact wg_iret F hP hS hr hlk (⟨by rw [if_neg c_9]; rfl, rfl, rfl⟩) dX7_stepRefusal_13
set_option maxHeartbeats 4000000 in
set_option maxRecDepth 100000 in
theorem c_X7_skipRefusal (l : Launch) (E : wg_E) (A : Nat → Nat) (C : wg_C) (ns : Nat) (tm : Nat → Nat) (B : lc_B) (t h : Nat) (hDB : lc_DB A C B) (ht : t < lc_nh B) (hh : h < lc_nh B) (hlt : lc_hh B t < lc_hh B h) (htm : ∀ k, k < 4 → tm k ≤ 1000) (f0 : C 0 = some (.inr (7, [.ref (A 1), .int (nI ns), .ref (A 2), .ref (A 4), .ref (A 5), .ref (A 6), .ref (A 7), .ref (A 8), .ref (A 11)]))) (f4 : C 4 = some (.inl (E.2.1 0, 4, .inl (fun k => nI (tm k))))) : Met l yX7_skipRefusal (wg_ws yX7_skipRefusal cX7_skipRefusal 3 (some .int)) (wg_rm 3 0 0) (wg_Pc E A C [.ref (A 0), .ref (A (200 + t)), .ref (A (200 + h))]) (wg_Qi E (fun r A1 C1 => r = nI (if tm 2 < lc_hh B h - lc_hh B t then 5 else if lc_cert B h then (if lc_over B tm h (lc_hx B t) then 0 else 6) else 4) ∧ A = A1 ∧ C = C1)) 0 0 (wg_A E) := by
  refine wg_met (by decide) (Nat.le_of_ble_eq_true rfl) ?_
  intro p e s m below meth c ls F hr hlk hnm hP hS hl
  have F : wg_F p m c cX7_skipRefusal 3 s ([.ref (A 0), .ref (A (200 + t)), .ref (A (200 + h))] : List Value).toArray "LightChecks" E := F
  have hx := F.1
  have hb := F.2.1
  have hml := F.2.2.1
  have hown := F.2.2.2.1
  have hts := F.2.2.2.2.1
  have hl : lv_has ls 3 [(0, .ref (A 0)), (1, .ref (A (200 + t))), (2, .ref (A (200 + h)))] := hl
  have fh_t : C (200 + t) = some (.inr (2, [.int (nI t), .int (nI (lc_hh B t)), .long (lc_hp B t), .ref (A (100 + lc_ho B t)), .ref (A (100 + lc_hx B t)), .long (lc_hr B t), .long (lc_dig B t), .int (nI (lc_sg B t))])) := hDB.2.1 t ht
  obtain ⟨hq1_t, hq2_t, hq3_t, hq4_t⟩ := hDB.2.2.2.2.2 t ht
  have fo_t : C (100 + lc_ho B t) = some (.inr (6, [.int (nI (lc_ho B t)), .long (lN (lc_sa B (lc_ho B t))), .long (lN (lc_sb B (lc_ho B t))), .int (nI (lc_tot (lc_sa B (lc_ho B t)) (lc_sb B (lc_ho B t))))])) := hDB.1 _ hq2_t
  have fx_t : C (100 + lc_hx B t) = some (.inr (6, [.int (nI (lc_hx B t)), .long (lN (lc_sa B (lc_hx B t))), .long (lN (lc_sb B (lc_hx B t))), .int (nI (lc_tot (lc_sa B (lc_hx B t)) (lc_sb B (lc_hx B t))))])) := hDB.1 _ hq3_t
  have fh_h : C (200 + h) = some (.inr (2, [.int (nI h), .int (nI (lc_hh B h)), .long (lc_hp B h), .ref (A (100 + lc_ho B h)), .ref (A (100 + lc_hx B h)), .long (lc_hr B h), .long (lc_dig B h), .int (nI (lc_sg B h))])) := hDB.2.1 h hh
  obtain ⟨hq1_h, hq2_h, hq3_h, hq4_h⟩ := hDB.2.2.2.2.2 h hh
  have fo_h : C (100 + lc_ho B h) = some (.inr (6, [.int (nI (lc_ho B h)), .long (lN (lc_sa B (lc_ho B h))), .long (lN (lc_sb B (lc_ho B h))), .int (nI (lc_tot (lc_sa B (lc_ho B h)) (lc_sb B (lc_ho B h))))])) := hDB.1 _ hq2_h
  have fx_h : C (100 + lc_hx B h) = some (.inr (6, [.int (nI (lc_hx B h)), .long (lN (lc_sa B (lc_hx B h))), .long (lN (lc_sb B (lc_hx B h))), .int (nI (lc_tot (lc_sa B (lc_hx B h)) (lc_sb B (lc_hx B h))))])) := hDB.1 _ hq3_h
  have h2 := htm 2 (by decide)
  refine lv_aload_n hx hb dX7_skipRefusal_0 rfl (lv_at hl 2 rfl) ?_
  refine wg_getN F hP fh_h rfl iw_X2 1 (by decide) nb_251 rfl rfl dX7_skipRefusal_1 ?_
  refine lv_aload_n hx hb dX7_skipRefusal_4 rfl (lv_at hl 1 rfl) ?_
  refine wg_getN F hP fh_t rfl iw_X2 1 (by decide) nb_251 rfl rfl dX7_skipRefusal_5 ?_
  refine lv_isub hx hb dX7_skipRefusal_8 ?_
  refine lv_aload_n hx hb dX7_skipRefusal_9 rfl (lv_at hl 0 rfl) ?_
  refine wg_get F hP f0 rfl iw_X7 3 (by decide) tb_166 rfl rfl dX7_skipRefusal_10 ?_
  refine lv_iconst (v := 2) hx hb dX7_skipRefusal_13 (by decide) ?_
  refine wg_ild F hP f4 (vp_in_nI (n := 2) (by decide) (by decide)) dX7_skipRefusal_14 ?_
  refine wg_topi (y := nI (tm 2)) rfl ?_
  refine lv_icmp_le (tgt := 20) hx hb dX7_skipRefusal_15 (by decide) (fun c_15 => ?_) (fun c_15 => ?_)
  · rw [pk_sub (by omega), nI_leI (by omega) (by omega)] at c_15
    refine lv_aload_n hx hb dX7_skipRefusal_20 rfl (lv_at hl 2 rfl) ?_
    refine wg_ci hS (wg_rS (As := [.ref (A (200 + h))]) (rest := []) F hP hS (c_X7_isCertified l E A C (200 + h) (100 + lc_ho B h) (100 + lc_hx B h) _ _ _ _ _ _ _ _ _ (hDB.2.2.2.2.1 _ hq2_h).1.lt (hDB.2.2.2.2.1 _ hq2_h).2.lt hq4_h fh_h fo_h) ok_X7_isCertified tb_311 rfl rfl ⟨Nat.le_of_ble_eq_true rfl, Nat.le_of_ble_eq_true rfl⟩ rfl hl.1 rfl (Nat.le_of_ble_eq_true rfl) dX7_skipRefusal_21 ⟨Nat.le_of_ble_eq_true rfl, Nat.le_of_ble_eq_true rfl⟩) (fun r_21 A1 C_21 H locs w_21 hP hS => ?_)
    obtain ⟨w_21, rfl, rfl⟩ := w_21
    refine lv_if_ne (tgt := 29) hx hb dX7_skipRefusal_24 (by decide) (fun c_24 => ?_) (fun c_24 => ?_)
    · have hc : lc_cert B h := Decidable.byContradiction (fun q => c_24 (by rw [w_21, if_neg q]))
      refine lv_aload_n hx hb dX7_skipRefusal_29 rfl (lv_at hl 0 rfl) ?_
      refine lv_aload_n hx hb dX7_skipRefusal_30 rfl (lv_at hl 2 rfl) ?_
      refine lv_aload_n hx hb dX7_skipRefusal_31 rfl (lv_at hl 1 rfl) ?_
      refine wg_getN F hP fh_t rfl iw_X2 4 (by decide) nb_257 rfl rfl dX7_skipRefusal_32 ?_
      refine wg_ci hS (wg_rV (As := [.ref (A (200 + h)), .ref (A (100 + lc_hx B t))]) (rest := []) F hP hS (c_X7_doesOverlap l E A C ns tm (100 + lc_hx B t) (200 + h) (100 + lc_ho B h) (100 + lc_hx B h) _ _ _ _ _ _ _ _ _ (hDB.2.2.2.2.1 _ hq3_t).1.lt (hDB.2.2.2.2.1 _ hq3_t).2.lt hq4_h (htm 0 (by decide)) (htm 1 (by decide)) f0 f4 fh_h fx_t) ok_X7_doesOverlap tb_322 rfl rfl ⟨Nat.le_of_ble_eq_true rfl, Nat.le_of_ble_eq_true rfl⟩ f0 rfl rfl rfl hl.1 rfl (Nat.le_of_ble_eq_true rfl) dX7_skipRefusal_35 ⟨Nat.le_of_ble_eq_true rfl, Nat.le_of_ble_eq_true rfl⟩) (fun r_35 A1 C_35 H locs w_35 hP hS => ?_)
      obtain ⟨w_35, rfl, rfl⟩ := w_35
      refine lv_if_eq (tgt := 45) hx hb dX7_skipRefusal_38 (by decide) (fun c_38 => ?_) (fun c_38 => ?_)
      · have hv : ¬ lc_over B tm h (lc_hx B t) := fun q => by rw [w_35, if_pos q] at c_38; exact absurd c_38 (by decide)
        refine lv_bipush (v := 6) hx hb dX7_skipRefusal_45 (by decide) ?_
        exact wg_iret F hP hS hr hlk (⟨by rw [if_neg (by omega), if_pos hc, if_neg hv]; rfl, rfl, rfl⟩) dX7_skipRefusal_47
      · have hv : lc_over B tm h (lc_hx B t) := Decidable.byContradiction (fun q => c_38 (by rw [w_35, if_neg q]))
        refine lv_iconst (v := 0) hx hb dX7_skipRefusal_41 (by decide) ?_
        refine lv_goto (tgt := 47) hx hb dX7_skipRefusal_42 (by decide) ?_
        exact wg_iret F hP hS hr hlk (⟨by rw [if_neg (by omega), if_pos hc, if_pos hv]; rfl, rfl, rfl⟩) dX7_skipRefusal_47
    · have hc : ¬ lc_cert B h := fun q => by rw [w_21, if_pos q] at c_24; exact absurd c_24 (by decide)
      refine lv_iconst (v := 4) hx hb dX7_skipRefusal_27 (by decide) ?_
      exact wg_iret F hP hS hr hlk (⟨by rw [if_neg (by omega), if_neg hc]; rfl, rfl, rfl⟩) dX7_skipRefusal_28
  · rw [pk_sub (by omega), nI_leI (by omega) (by omega)] at c_15
    refine lv_iconst (v := 5) hx hb dX7_skipRefusal_18 (by decide) ?_
    exact wg_iret F hP hS hr hlk (⟨by rw [if_pos (by omega)]; rfl, rfl, rfl⟩) dX7_skipRefusal_19
set_option maxHeartbeats 4000000 in
set_option maxRecDepth 100000 in
theorem c_X7_refusal (l : Launch) (E : wg_E) (A : Nat → Nat) (C : wg_C) (ns : Nat) (tm : Nat → Nat) (B : lc_B) (t h : Nat) (hDB : lc_DB A C B) (ht : t < lc_nh B) (hh : h < lc_nh B) (htm : ∀ k, k < 4 → tm k ≤ 1000) (f0 : C 0 = some (.inr (7, [.ref (A 1), .int (nI ns), .ref (A 2), .ref (A 4), .ref (A 5), .ref (A 6), .ref (A 7), .ref (A 8), .ref (A 11)]))) (f4 : C 4 = some (.inl (E.2.1 0, 4, .inl (fun k => nI (tm k))))) : Met l yX7_refusal (wg_ws yX7_refusal cX7_refusal 4 (some .int)) (wg_rm 4 0 0) (wg_Pc E A C [.ref (A 0), .ref (A (200 + t)), .ref (A (200 + h))]) (wg_Qi E (fun r A1 C1 => r = nI (lc_why B tm t h) ∧ A = A1 ∧ C = C1)) 0 0 (wg_A E) := by
  refine wg_met (by decide) (Nat.le_of_ble_eq_true rfl) ?_
  intro p e s m below meth c ls F hr hlk hnm hP hS hl
  have F : wg_F p m c cX7_refusal 4 s ([.ref (A 0), .ref (A (200 + t)), .ref (A (200 + h))] : List Value).toArray "LightChecks" E := F
  have hx := F.1
  have hb := F.2.1
  have hml := F.2.2.1
  have hown := F.2.2.2.1
  have hts := F.2.2.2.2.1
  have hl : lv_has ls 4 [(0, .ref (A 0)), (1, .ref (A (200 + t))), (2, .ref (A (200 + h)))] := hl
  have fh_t : C (200 + t) = some (.inr (2, [.int (nI t), .int (nI (lc_hh B t)), .long (lc_hp B t), .ref (A (100 + lc_ho B t)), .ref (A (100 + lc_hx B t)), .long (lc_hr B t), .long (lc_dig B t), .int (nI (lc_sg B t))])) := hDB.2.1 t ht
  obtain ⟨hq1_t, hq2_t, hq3_t, hq4_t⟩ := hDB.2.2.2.2.2 t ht
  have fo_t : C (100 + lc_ho B t) = some (.inr (6, [.int (nI (lc_ho B t)), .long (lN (lc_sa B (lc_ho B t))), .long (lN (lc_sb B (lc_ho B t))), .int (nI (lc_tot (lc_sa B (lc_ho B t)) (lc_sb B (lc_ho B t))))])) := hDB.1 _ hq2_t
  have fx_t : C (100 + lc_hx B t) = some (.inr (6, [.int (nI (lc_hx B t)), .long (lN (lc_sa B (lc_hx B t))), .long (lN (lc_sb B (lc_hx B t))), .int (nI (lc_tot (lc_sa B (lc_hx B t)) (lc_sb B (lc_hx B t))))])) := hDB.1 _ hq3_t
  have fh_h : C (200 + h) = some (.inr (2, [.int (nI h), .int (nI (lc_hh B h)), .long (lc_hp B h), .ref (A (100 + lc_ho B h)), .ref (A (100 + lc_hx B h)), .long (lc_hr B h), .long (lc_dig B h), .int (nI (lc_sg B h))])) := hDB.2.1 h hh
  obtain ⟨hq1_h, hq2_h, hq3_h, hq4_h⟩ := hDB.2.2.2.2.2 h hh
  have fo_h : C (100 + lc_ho B h) = some (.inr (6, [.int (nI (lc_ho B h)), .long (lN (lc_sa B (lc_ho B h))), .long (lN (lc_sb B (lc_ho B h))), .int (nI (lc_tot (lc_sa B (lc_ho B h)) (lc_sb B (lc_ho B h))))])) := hDB.1 _ hq2_h
  have fx_h : C (100 + lc_hx B h) = some (.inr (6, [.int (nI (lc_hx B h)), .long (lN (lc_sa B (lc_hx B h))), .long (lN (lc_sb B (lc_hx B h))), .int (nI (lc_tot (lc_sa B (lc_hx B h)) (lc_sb B (lc_hx B h))))])) := hDB.1 _ hq3_h
  refine lv_aload_n hx hb dX7_refusal_0 rfl (lv_at hl 2 rfl) ?_
  refine lv_ifnonnull (tgt := 7) hx hb dX7_refusal_1 (by decide) ?_
  refine lv_aload_n hx hb dX7_refusal_7 rfl (lv_at hl 2 rfl) ?_
  refine wg_getN F hP fh_h rfl iw_X2 1 (by decide) nb_251 rfl rfl dX7_refusal_8 ?_
  refine lv_aload_n hx hb dX7_refusal_11 rfl (lv_at hl 1 rfl) ?_
  refine wg_getN F hP fh_t rfl iw_X2 1 (by decide) nb_251 rfl rfl dX7_refusal_12 ?_
  refine lv_isub hx hb dX7_refusal_15 ?_
  refine lv_topi (fun x_16 ex_16 => ?_)
  refine lv_istore_n (lv' := [(3, .int x_16), (0, .ref (A 0)), (1, .ref (A (200 + t))), (2, .ref (A (200 + h)))]) hx hb dX7_refusal_16 rfl hl (by decide) rfl (fun ls hl => ?_)
  have up : 1 ≤ x_16 ↔ lc_hh B t < lc_hh B h := by rw [ex_16]; exact lc_rise (by omega) (by omega)
  have up1 : x_16 = 1 ↔ lc_hh B h = lc_hh B t + 1 := by rw [ex_16]; exact lc_rise1 (by omega) (by omega)
  refine lv_iload_n hx hb dX7_refusal_17 rfl (lv_at hl 0 rfl) ?_
  refine lv_iconst (v := 1) hx hb dX7_refusal_18 (by decide) ?_
  refine lv_icmp_ge (tgt := 24) hx hb dX7_refusal_19 (by decide) (fun c_19 => ?_) (fun c_19 => ?_)
  · rw [up] at c_19
    refine lv_iload_n hx hb dX7_refusal_24 rfl (lv_at hl 0 rfl) ?_
    refine lv_iconst (v := 1) hx hb dX7_refusal_25 (by decide) ?_
    refine lv_icmp_ne (tgt := 38) hx hb dX7_refusal_26 (by decide) (fun c_26 => ?_) (fun c_26 => ?_)
    · rw [up1] at c_26
      refine lv_aload_n hx hb dX7_refusal_38 rfl (lv_at hl 1 rfl) ?_
      refine lv_aload_n hx hb dX7_refusal_39 rfl (lv_at hl 2 rfl) ?_
      refine lv_aload_n hx hb dX7_refusal_40 rfl (lv_at hl 3 rfl) ?_
      refine wg_ci hS (wg_rV (As := [.ref (A (200 + t)), .ref (A (200 + h))]) (rest := []) F hP hS (c_X7_skipRefusal l E A C ns tm B t h hDB ht hh c_19 htm f0 f4) ok_X7_skipRefusal tb_363 rfl rfl ⟨Nat.le_of_ble_eq_true rfl, Nat.le_of_ble_eq_true rfl⟩ f0 rfl rfl rfl hl.1 rfl (Nat.le_of_ble_eq_true rfl) dX7_refusal_41 ⟨Nat.le_of_ble_eq_true rfl, Nat.le_of_ble_eq_true rfl⟩) (fun r_41 A1 C_41 H locs w_41 hP hS => ?_)
      obtain ⟨w_41, rfl, rfl⟩ := w_41
      exact wg_iret F hP hS hr hlk (⟨by unfold lc_why; rw [if_neg (by omega), if_neg c_26]; exact w_41, rfl, rfl⟩) dX7_refusal_44
    · rw [up1] at c_26
      refine lv_aload_n hx hb dX7_refusal_29 rfl (lv_at hl 1 rfl) ?_
      refine lv_aload_n hx hb dX7_refusal_30 rfl (lv_at hl 2 rfl) ?_
      refine lv_aload_n hx hb dX7_refusal_31 rfl (lv_at hl 3 rfl) ?_
      refine wg_ci hS (wg_rV (As := [.ref (A (200 + t)), .ref (A (200 + h))]) (rest := []) F hP hS (c_X7_stepRefusal l E A C B t h hDB ht hh) ok_X7_stepRefusal tb_359 rfl rfl ⟨Nat.le_of_ble_eq_true rfl, Nat.le_of_ble_eq_true rfl⟩ f0 rfl rfl rfl hl.1 rfl (Nat.le_of_ble_eq_true rfl) dX7_refusal_32 ⟨Nat.le_of_ble_eq_true rfl, Nat.le_of_ble_eq_true rfl⟩) (fun r_32 A1 C_32 H locs w_32 hP hS => ?_)
      obtain ⟨w_32, rfl, rfl⟩ := w_32
      refine lv_goto (tgt := 44) hx hb dX7_refusal_35 (by decide) ?_
      exact wg_iret F hP hS hr hlk (⟨by unfold lc_why; rw [if_neg (by omega), if_pos c_26]; exact w_32, rfl, rfl⟩) dX7_refusal_44
  · rw [up] at c_19
    refine lv_iconst (v := 1) hx hb dX7_refusal_22 (by decide) ?_
    exact wg_iret F hP hS hr hlk (⟨by unfold lc_why; rw [if_pos (by omega)]; rfl, rfl, rfl⟩) dX7_refusal_23
set_option maxHeartbeats 4000000 in
set_option maxRecDepth 100000 in
theorem c_X7_refusal0 (l : Launch) (E : wg_E) (A : Nat → Nat) (C : wg_C) (x : Nat)   : Met l yX7_refusal (wg_ws yX7_refusal cX7_refusal 4 (some .int)) (wg_rm 4 0 0) (wg_Pc E A C [.ref (A 0), .ref x, .null]) (wg_Qi E (fun r A1 C1 => r = 7 ∧ A = A1 ∧ C = C1)) 0 0 (wg_A E) := by
  refine wg_met (by decide) (Nat.le_of_ble_eq_true rfl) ?_
  intro p e s m below meth c ls F hr hlk hnm hP hS hl
  have F : wg_F p m c cX7_refusal 4 s ([.ref (A 0), .ref x, .null] : List Value).toArray "LightChecks" E := F
  have hx := F.1
  have hb := F.2.1
  have hml := F.2.2.1
  have hown := F.2.2.2.1
  have hts := F.2.2.2.2.1
  have hl : lv_has ls 4 [(0, .ref (A 0)), (1, .ref x), (2, .null)] := hl
  refine lv_aload_nN hx hb dX7_refusal_0 rfl (lv_at hl 2 rfl) ?_
  refine lv_ifnonnullN hx hb dX7_refusal_1 ?_
  refine lv_bipush (v := 7) hx hb dX7_refusal_4 (by decide) ?_
  exact wg_iret F hP hS hr hlk (⟨rfl, rfl, rfl⟩) dX7_refusal_6
end
section
theorem lc_headAt {q : Nat → Nat} {n x : Nat} {f : Nat → Option Nat} {adr : Nat → Nat} (hn : n ≤ 60) (hf : ∀ j, j < n → f j = some (adr j)) : lc_at n f (lc_I (lc_pl q x n)) = (lc_pl q x n).map adr := by
  cases h : lc_pl q x n with
  | none => exact lc_at_out (Or.inl (by decide)) (by omega)
  | some i =>
    have hi := (lc_pl_of h).1
    exact (lc_at_in hi (by omega)).trans (hf i hi)
theorem lc_nI_ne2 {b : Nat} (h : b < 2 ^ 31) : nI b ≠ -2 := by
  intro q
  have h1 := congrArg Int32.toInt q
  rw [nI_toInt h, show (-2 : Int32).toInt = -2 from by decide] at h1
  omega
theorem lc_lu_le {B : lc_B} {g : Nat → Nat} {n2 : Nat} {g2 : Nat → Nat} : ∀ {i : Nat}, (∀ k, k < i → lc_hh B (g k) ≤ 100000) → ∀ b, lc_lu B g n2 g2 i = some b → b ≤ 100000
  | 0, _, b, h => by cases h
  | i + 1, hb, b, h => by
    have hi := hb i (by omega)
    have ih := lc_lu_le (B := B) (g := g) (n2 := n2) (g2 := g2) (i := i) (fun k hk => hb k (by omega))
    simp only [lc_lu] at h
    split at h
    · split at h
      · cases h; exact hi
      · split at h
        · cases h; exact hi
        · cases h; exact ih _ (by assumption)
    · exact ih b h
theorem lc_unl_none {B : lc_B} {n : Nat} {g : Nat → Nat} {h : Nat} (e : lc_pl (fun k => lc_hh B (g k)) (lc_hh B h) n = none) : lc_unl B n g h = false := by
  unfold lc_unl
  rw [e]
theorem lc_unl_some {B : lc_B} {n : Nat} {g : Nat → Nat} {h j : Nat} (e : lc_pl (fun k => lc_hh B (g k)) (lc_hh B h) n = some j) : lc_unl B n g h = !(decide (lc_dig B (g j) = lc_dig B h)) := by
  unfold lc_unl
  rw [e]
end
section
set_option maxHeartbeats 4000000 in
set_option maxRecDepth 100000 in
theorem c_X1_placeOf (l : Launch) (E : wg_E) (A : Nat → Nat) (C : wg_C) (i n : Nat) (f : Nat → Option Nat) (g : Nat → Nat) (B : lc_B) (x : Nat) (hn : n ≤ 60) (hf : ∀ j, j < n → f j = some (A (200 + g j))) (hg : ∀ j, j < n → g j < lc_nh B) (hDB : lc_DB A C B) (hx31 : x < 2 ^ 31) (f32i : C (32 + i) = some (.inr (1, [.ref (A (36 + i))]))) (f36i : C (36 + i) = some (.inr (3, [.ref (A (40 + i)), .int (nI n)]))) (f40i : C (40 + i) = some (.inl (E.2.1 4, 60, .inr (.inr (.inr (.inr f)))))) : Met l yX1_placeOf (wg_ws yX1_placeOf cX1_placeOf 4 (some .int)) (wg_rm 1 0 0) (wg_Pc E A C [.ref (A (32 + i)), .int (nI x)]) (wg_Qi E (fun r A1 C1 => r = lc_I (lc_pl (fun k => lc_hh B (g k)) x n) ∧ A = A1 ∧ C = C1)) 0 0 (wg_A E) := by
  refine wg_met (by decide) (Nat.le_of_ble_eq_true rfl) ?_
  intro p e s m below meth c ls F hr hlk hnm hP hS hl
  have F : wg_F p m c cX1_placeOf 4 s ([.ref (A (32 + i)), .int (nI x)] : List Value).toArray "LightChecks$Giver" E := F
  have hx := F.1
  have hb := F.2.1
  have hml := F.2.2.1
  have hown := F.2.2.2.1
  have hts := F.2.2.2.2.1
  have hl : lv_has ls 4 [(0, .ref (A (32 + i))), (1, .int (nI x))] := hl
  refine lv_iconst (v := 0) hx hb dX1_placeOf_0 (by decide) ?_
  refine lv_istore_n (lv' := [(2, .int 0), (0, .ref (A (32 + i))), (1, .int (nI x))]) hx hb dX1_placeOf_1 rfl hl (by decide) rfl (fun ls hl => ?_)
  have loop_2 : ∀ (fuel : Nat) (j : Nat) (x2 : Int32), n - j < fuel → (j ≤ n) → (x2 = nI j) → (∀ k, k < j → lc_hh B (g k) ≠ x) → ∀ (H : Heap) (locs : List Loc) (ls : Array Slot), wg_P E A C H → va_S (wg_A E) s.heap H locs → lv_has ls 4 [(0, .ref (A (32 + i))), (1, .int (nI x)), (2, .int x2)] → W p l e (wg_rm 1 0 0) s m ([.ref (A (32 + i)), .int (nI x)] : List Value).toArray below meth c H locs 0 0 (MQ below (wg_Qi E (fun r A1 C1 => r = lc_I (lc_pl (fun k => lc_hh B (g k)) x n) ∧ A = A1 ∧ C = C1)) ([.ref (A (32 + i)), .int (nI x)] : List Value).toArray s 0 0 (wg_A E)) (F0 m 2 ls []) := by
    intro fuel
    induction fuel with
    | zero => intro j x2 hm; exact absurd hm (Nat.not_lt_zero _)
    | succ fuel ih_loop_2 =>
      intro j x2 hm_loop_2 hj ex2 hno H locs ls hP hS hl
      subst ex2
      refine lv_iload_n hx hb dX1_placeOf_2 rfl (lv_at hl 2 rfl) ?_
      refine lv_aload_n hx hb dX1_placeOf_3 rfl (lv_at hl 0 rfl) ?_
      refine wg_get F hP f32i rfl iw_X1 0 (by decide) tb_136 rfl rfl dX1_placeOf_4 ?_
      refine wg_getN F hP f36i rfl iw_X3 1 (by decide) nb_34 rfl rfl dX1_placeOf_7 ?_
      refine lv_icmp_ge (tgt := 42) hx hb dX1_placeOf_10 (by decide) (fun c_10 => ?_) (fun c_10 => ?_)
      · rw [nI_leI (by omega) (by omega)] at c_10
        have hjn : j = n := by omega
        refine lv_bipush (v := (-2)) hx hb dX1_placeOf_42 (by decide) ?_
        exact wg_iret F hP hS hr hlk (⟨by rw [← hjn, lc_pl_none hno]; rfl, rfl, rfl⟩) dX1_placeOf_44
      · rw [nI_leI (by omega) (by omega)] at c_10
        have hjn : j < n := by omega
        refine lv_aload_n hx hb dX1_placeOf_13 rfl (lv_at hl 0 rfl) ?_
        refine wg_get F hP f32i rfl iw_X1 0 (by decide) tb_136 rfl rfl dX1_placeOf_14 ?_
        refine lv_iload_n hx hb dX1_placeOf_17 rfl (lv_at hl 2 rfl) ?_
        refine wg_cq hS (wg_rVN (As := [.int (nI j)]) (rest := []) F hP hS (c_X3_at l E A C (36 + i) (40 + i) 60 n f (nI j) hn (by decide) f36i f40i) ok_X3_at nb_395 rfl rfl ⟨Nat.le_of_ble_eq_true rfl, Nat.le_of_ble_eq_true rfl⟩ f36i rfl rfl rfl hl.1 rfl (Nat.le_of_ble_eq_true rfl) dX1_placeOf_18 ⟨Nat.le_of_ble_eq_true rfl, Nat.le_of_ble_eq_true rfl⟩) (fun r_18 A1 C_18 H locs w_18 hP hS => ?_)
        obtain ⟨w_18, rfl, rfl⟩ := w_18
        refine wg_some (w_18.trans ((lc_at_in hjn (by omega)).trans (hf j hjn))) ?_
        have fh_g : C (200 + g j) = some (.inr (2, [.int (nI (g j)), .int (nI (lc_hh B (g j))), .long (lc_hp B (g j)), .ref (A (100 + lc_ho B (g j))), .ref (A (100 + lc_hx B (g j))), .long (lc_hr B (g j)), .long (lc_dig B (g j)), .int (nI (lc_sg B (g j)))])) := hDB.2.1 _ (hg j hjn)
        have hq := (hDB.2.2.2.2.2 _ (hg j hjn)).1
        refine lv_astore_n (lv' := [(3, .ref (A (200 + g j))), (0, .ref (A (32 + i))), (1, .int (nI x)), (2, .int (nI j))]) hx hb dX1_placeOf_21 rfl hl (by decide) rfl (fun ls hl => ?_)
        refine lv_aload_n hx hb dX1_placeOf_22 rfl (lv_at hl 0 rfl) ?_
        refine lv_ifnull hx hb dX1_placeOf_23 ?_
        refine lv_aload_n hx hb dX1_placeOf_26 rfl (lv_at hl 0 rfl) ?_
        refine wg_getN F hP fh_g rfl iw_X2 1 (by decide) nb_249 rfl rfl dX1_placeOf_27 ?_
        refine lv_iload_n hx hb dX1_placeOf_30 rfl (lv_at hl 2 rfl) ?_
        refine lv_icmp_ne (tgt := 36) hx hb dX1_placeOf_31 (by decide) (fun c_31 => ?_) (fun c_31 => ?_)
        · have hne : lc_hh B (g j) ≠ x := by rw [nI_eq (by omega) hx31] at c_31; exact c_31
          obtain ⟨x_36, ex_36⟩ : ∃ y : Int32, y = nI j + 1 := ⟨_, rfl⟩
          refine lv_iinc (v := x_36) (lv' := [(2, .int x_36), (3, .ref (A (200 + g j))), (0, .ref (A (32 + i))), (1, .int (nI x))]) hx hb dX1_placeOf_36 hl (k := 3) rfl (by rw [ex_36]; rfl) (by decide) rfl (fun ls hl => ?_)
          refine lv_goto (tgt := 2) hx hb dX1_placeOf_39 (by decide) ?_
          exact ih_loop_2 (j + 1) x_36 (by omega) (by omega) (by rw [ex_36, nI_1]) (fun k hk => by rcases (show k < j ∨ k = j by omega) with h | h; exact hno k h; rw [h]; exact hne) _ _ _ hP hS (lv_sub hl [2, 3, 0] rfl)
        · have hqe : lc_hh B (g j) = x := by rw [nI_eq (by omega) hx31] at c_31; exact c_31
          refine lv_iload_n hx hb dX1_placeOf_34 rfl (lv_at hl 3 rfl) ?_
          exact wg_iret F hP hS hr hlk (⟨by rw [lc_pl_some (i := j) hqe hno hjn]; rfl, rfl, rfl⟩) dX1_placeOf_35
  exact loop_2 _ 0 0 (Nat.lt_succ_self _) (by omega) rfl (fun k hk => absurd hk (Nat.not_lt_zero _)) _ _ _ hP hS (lv_sub hl [1, 2, 0] rfl)
set_option maxHeartbeats 4000000 in
set_option maxRecDepth 100000 in
theorem c_X1_headAt (l : Launch) (E : wg_E) (A : Nat → Nat) (C : wg_C) (i n : Nat) (f : Nat → Option Nat) (g : Nat → Nat) (B : lc_B) (x : Nat) (hn : n ≤ 60) (hf : ∀ j, j < n → f j = some (A (200 + g j))) (hg : ∀ j, j < n → g j < lc_nh B) (hDB : lc_DB A C B) (hx31 : x < 2 ^ 31) (f32i : C (32 + i) = some (.inr (1, [.ref (A (36 + i))]))) (f36i : C (36 + i) = some (.inr (3, [.ref (A (40 + i)), .int (nI n)]))) (f40i : C (40 + i) = some (.inl (E.2.1 4, 60, .inr (.inr (.inr (.inr f)))))) : Met l yX1_headAt (wg_ws yX1_headAt cX1_headAt 2 (some (.object "LightChecks$Head"))) (wg_rm 2 0 0) (wg_Pc E A C [.ref (A (32 + i)), .int (nI x)]) (wg_Qq E (fun r A1 C1 => r = (lc_pl (fun k => lc_hh B (g k)) x n).map (fun k => A (200 + g k)) ∧ A = A1 ∧ C = C1)) 0 0 (wg_A E) := by
  refine wg_met (by decide) (Nat.le_of_ble_eq_true rfl) ?_
  intro p e s m below meth c ls F hr hlk hnm hP hS hl
  have F : wg_F p m c cX1_headAt 2 s ([.ref (A (32 + i)), .int (nI x)] : List Value).toArray "LightChecks$Giver" E := F
  have hx := F.1
  have hb := F.2.1
  have hml := F.2.2.1
  have hown := F.2.2.2.1
  have hts := F.2.2.2.2.1
  have hl : lv_has ls 2 [(0, .ref (A (32 + i))), (1, .int (nI x))] := hl
  refine lv_aload_n hx hb dX1_headAt_0 rfl (lv_at hl 0 rfl) ?_
  refine wg_get F hP f32i rfl iw_X1 0 (by decide) tb_136 rfl rfl dX1_headAt_1 ?_
  refine lv_aload_n hx hb dX1_headAt_4 rfl (lv_at hl 0 rfl) ?_
  refine lv_iload_n hx hb dX1_headAt_5 rfl (lv_at hl 1 rfl) ?_
  refine wg_ci hS (wg_rV (As := [.int (nI x)]) (rest := [.ref (A (36 + i))]) F hP hS (c_X1_placeOf l E A C i n f g B x hn hf hg hDB hx31 f32i f36i f40i) ok_X1_placeOf tb_391 rfl rfl ⟨Nat.le_of_ble_eq_true rfl, Nat.le_of_ble_eq_true rfl⟩ f32i rfl rfl rfl hl.1 rfl (Nat.le_of_ble_eq_true rfl) dX1_headAt_6 ⟨Nat.le_of_ble_eq_true rfl, Nat.le_of_ble_eq_true rfl⟩) (fun r_6 A1 C_6 H locs w_6 hP hS => ?_)
  obtain ⟨w_6, rfl, rfl⟩ := w_6
  refine wg_cq hS (wg_rVN (As := [.int r_6]) (rest := []) F hP hS (c_X3_at l E A C (36 + i) (40 + i) 60 n f _ hn (by decide) f36i f40i) ok_X3_at nb_395 rfl rfl ⟨Nat.le_of_ble_eq_true rfl, Nat.le_of_ble_eq_true rfl⟩ f36i rfl rfl rfl hl.1 rfl (Nat.le_of_ble_eq_true rfl) dX1_headAt_9 ⟨Nat.le_of_ble_eq_true rfl, Nat.le_of_ble_eq_true rfl⟩) (fun r_9 A1 C_9 H locs w_9 hP hS => ?_)
  obtain ⟨w_9, rfl, rfl⟩ := w_9
  exact wg_qret (v := r_9) F hP hS hr ⟨_, rfl⟩ hlk (⟨by rw [w_9, w_6]; exact lc_headAt hn hf, rfl, rfl⟩) dX1_headAt_12
set_option maxHeartbeats 4000000 in
set_option maxRecDepth 100000 in
theorem c_X1_isUnlike (l : Launch) (E : wg_E) (A : Nat → Nat) (C : wg_C) (i n : Nat) (f : Nat → Option Nat) (g : Nat → Nat) (B : lc_B) (h : Nat) (hn : n ≤ 60) (hf : ∀ j, j < n → f j = some (A (200 + g j))) (hg : ∀ j, j < n → g j < lc_nh B) (hDB : lc_DB A C B) (hh : h < lc_nh B) (f32i : C (32 + i) = some (.inr (1, [.ref (A (36 + i))]))) (f36i : C (36 + i) = some (.inr (3, [.ref (A (40 + i)), .int (nI n)]))) (f40i : C (40 + i) = some (.inl (E.2.1 4, 60, .inr (.inr (.inr (.inr f)))))) : Met l yX1_isUnlike (wg_ws yX1_isUnlike cX1_isUnlike 3 (some .boolean)) (wg_rm 3 0 0) (wg_Pc E A C [.ref (A (200 + h)), .ref (A (32 + i))]) (wg_Qi E (fun r A1 C1 => r = (if lc_unl B n g h = true then 1 else 0) ∧ A = A1 ∧ C = C1)) 0 0 (wg_A E) := by
  refine wg_met (by decide) (Nat.le_of_ble_eq_true rfl) ?_
  intro p e s m below meth c ls F hr hlk hnm hP hS hl
  have F : wg_F p m c cX1_isUnlike 3 s ([.ref (A (200 + h)), .ref (A (32 + i))] : List Value).toArray "LightChecks$Giver" E := F
  have hx := F.1
  have hb := F.2.1
  have hml := F.2.2.1
  have hown := F.2.2.2.1
  have hts := F.2.2.2.2.1
  have hl : lv_has ls 3 [(0, .ref (A (200 + h))), (1, .ref (A (32 + i)))] := hl
  have fh_h : C (200 + h) = some (.inr (2, [.int (nI h), .int (nI (lc_hh B h)), .long (lc_hp B h), .ref (A (100 + lc_ho B h)), .ref (A (100 + lc_hx B h)), .long (lc_hr B h), .long (lc_dig B h), .int (nI (lc_sg B h))])) := hDB.2.1 h hh
  obtain ⟨hq1_h, hq2_h, hq3_h, hq4_h⟩ := hDB.2.2.2.2.2 h hh
  have fo_h : C (100 + lc_ho B h) = some (.inr (6, [.int (nI (lc_ho B h)), .long (lN (lc_sa B (lc_ho B h))), .long (lN (lc_sb B (lc_ho B h))), .int (nI (lc_tot (lc_sa B (lc_ho B h)) (lc_sb B (lc_ho B h))))])) := hDB.1 _ hq2_h
  have fx_h : C (100 + lc_hx B h) = some (.inr (6, [.int (nI (lc_hx B h)), .long (lN (lc_sa B (lc_hx B h))), .long (lN (lc_sb B (lc_hx B h))), .int (nI (lc_tot (lc_sa B (lc_hx B h)) (lc_sb B (lc_hx B h))))])) := hDB.1 _ hq3_h
  refine lv_aload_n hx hb dX1_isUnlike_0 rfl (lv_at hl 1 rfl) ?_
  refine lv_aload_n hx hb dX1_isUnlike_1 rfl (lv_at hl 0 rfl) ?_
  refine wg_getN F hP fh_h rfl iw_X2 1 (by decide) nb_249 rfl rfl dX1_isUnlike_2 ?_
  refine wg_cq hS (wg_rV (As := [.int (nI (lc_hh B h))]) (rest := []) F hP hS (c_X1_headAt l E A C i n f g B (lc_hh B h) hn hf hg hDB (by omega) f32i f36i f40i) ok_X1_headAt tb_430 rfl rfl ⟨Nat.le_of_ble_eq_true rfl, Nat.le_of_ble_eq_true rfl⟩ f32i rfl rfl rfl hl.1 rfl (Nat.le_of_ble_eq_true rfl) dX1_isUnlike_5 ⟨Nat.le_of_ble_eq_true rfl, Nat.le_of_ble_eq_true rfl⟩) (fun r_5 A1 C_5 H locs w_5 hP hS => ?_)
  obtain ⟨w_5, rfl, rfl⟩ := w_5
  rcases hpl : lc_pl (fun k => lc_hh B (g k)) (lc_hh B h) n with _ | j
  · refine wg_none (by rw [w_5, hpl]; rfl) ?_
    refine lv_astore_nN (lv' := [(2, .null), (0, .ref (A (200 + h))), (1, .ref (A (32 + i)))]) hx hb dX1_isUnlike_8 rfl hl (by decide) rfl (fun ls hl => ?_)
    refine lv_aload_nN hx hb dX1_isUnlike_9 rfl (lv_at hl 0 rfl) ?_
    refine lv_ifnullN (tgt := 29) hx hb dX1_isUnlike_10 (by decide) ?_
    refine lv_iconst (v := 0) hx hb dX1_isUnlike_29 (by decide) ?_
    exact wg_zret F hP hS hr hlk (by decide) ⟨by rw [lc_unl_none hpl]; rfl, rfl, rfl⟩ dX1_isUnlike_30
  · refine wg_some (x := A (200 + g j)) (by rw [w_5, hpl]; rfl) ?_
    have fh_g : C (200 + g j) = some (.inr (2, [.int (nI (g j)), .int (nI (lc_hh B (g j))), .long (lc_hp B (g j)), .ref (A (100 + lc_ho B (g j))), .ref (A (100 + lc_hx B (g j))), .long (lc_hr B (g j)), .long (lc_dig B (g j)), .int (nI (lc_sg B (g j)))])) := hDB.2.1 _ (hg j (lc_pl_of hpl).1)
    refine lv_astore_n (lv' := [(2, .ref (A (200 + g j))), (0, .ref (A (200 + h))), (1, .ref (A (32 + i)))]) hx hb dX1_isUnlike_8 rfl hl (by decide) rfl (fun ls hl => ?_)
    refine lv_aload_n hx hb dX1_isUnlike_9 rfl (lv_at hl 0 rfl) ?_
    refine lv_ifnull hx hb dX1_isUnlike_10 ?_
    refine lv_aload_n hx hb dX1_isUnlike_13 rfl (lv_at hl 0 rfl) ?_
    refine wg_getN F hP fh_g rfl iw_X2 6 (by decide) nb_261 rfl rfl dX1_isUnlike_14 ?_
    refine lv_aload_n hx hb dX1_isUnlike_17 rfl (lv_at hl 1 rfl) ?_
    refine wg_getN F hP fh_h rfl iw_X2 6 (by decide) nb_261 rfl rfl dX1_isUnlike_18 ?_
    refine W.lcmp hx hb dX1_isUnlike_21 ?_
    refine lv_if_eq (tgt := 29) hx hb dX1_isUnlike_22 (by decide) (fun c_22 => ?_) (fun c_22 => ?_)
    · rw [lg_cmp_eq] at c_22
      refine lv_iconst (v := 0) hx hb dX1_isUnlike_29 (by decide) ?_
      exact wg_zret F hP hS hr hlk (by decide) ⟨by rw [lc_unl_some hpl, if_neg (by simpa using c_22)], rfl, rfl⟩ dX1_isUnlike_30
    · rw [lg_cmp_eq] at c_22
      refine lv_iconst (v := 1) hx hb dX1_isUnlike_25 (by decide) ?_
      refine lv_goto (tgt := 30) hx hb dX1_isUnlike_26 (by decide) ?_
      exact wg_zret F hP hS hr hlk (by decide) ⟨by rw [lc_unl_some hpl, if_pos (by simpa using c_22)], rfl, rfl⟩ dX1_isUnlike_30
set_option maxHeartbeats 4000000 in
set_option maxRecDepth 100000 in
theorem c_X1_leastUnlike (l : Launch) (E : wg_E) (A : Nat → Nat) (C : wg_C) (i n : Nat) (f : Nat → Option Nat) (g : Nat → Nat) (B : lc_B) (i2 n2 : Nat) (f2 : Nat → Option Nat) (g2 : Nat → Nat) (hn : n ≤ 60) (hf : ∀ j, j < n → f j = some (A (200 + g j))) (hg : ∀ j, j < n → g j < lc_nh B) (hDB : lc_DB A C B) (hn2 : n2 ≤ 60) (hf2 : ∀ j, j < n2 → f2 j = some (A (200 + g2 j))) (hg2 : ∀ j, j < n2 → g2 j < lc_nh B) (f32i : C (32 + i) = some (.inr (1, [.ref (A (36 + i))]))) (f36i : C (36 + i) = some (.inr (3, [.ref (A (40 + i)), .int (nI n)]))) (f40i : C (40 + i) = some (.inl (E.2.1 4, 60, .inr (.inr (.inr (.inr f)))))) (f32i2 : C (32 + i2) = some (.inr (1, [.ref (A (36 + i2))]))) (f36i2 : C (36 + i2) = some (.inr (3, [.ref (A (40 + i2)), .int (nI n2)]))) (f40i2 : C (40 + i2) = some (.inl (E.2.1 4, 60, .inr (.inr (.inr (.inr f2)))))) : Met l yX1_leastUnlike (wg_ws yX1_leastUnlike cX1_leastUnlike 5 (some .int)) (wg_rm 4 0 0) (wg_Pc E A C [.ref (A (32 + i)), .ref (A (32 + i2))]) (wg_Qi E (fun r A1 C1 => r = lc_I (lc_lu B g n2 g2 n) ∧ A = A1 ∧ C = C1)) 0 0 (wg_A E) := by
  refine wg_met (by decide) (Nat.le_of_ble_eq_true rfl) ?_
  intro p e s m below meth c ls F hr hlk hnm hP hS hl
  have F : wg_F p m c cX1_leastUnlike 5 s ([.ref (A (32 + i)), .ref (A (32 + i2))] : List Value).toArray "LightChecks$Giver" E := F
  have hx := F.1
  have hb := F.2.1
  have hml := F.2.2.1
  have hown := F.2.2.2.1
  have hts := F.2.2.2.2.1
  have hl : lv_has ls 5 [(0, .ref (A (32 + i))), (1, .ref (A (32 + i2)))] := hl
  refine lv_bipush (v := (-2)) hx hb dX1_leastUnlike_0 (by decide) ?_
  refine lv_istore_n (lv' := [(2, .int ((-2))), (0, .ref (A (32 + i))), (1, .ref (A (32 + i2)))]) hx hb dX1_leastUnlike_2 rfl hl (by decide) rfl (fun ls hl => ?_)
  refine lv_iconst (v := 0) hx hb dX1_leastUnlike_3 (by decide) ?_
  refine lv_istore_n (lv' := [(3, .int 0), (2, .int ((-2))), (0, .ref (A (32 + i))), (1, .ref (A (32 + i2)))]) hx hb dX1_leastUnlike_4 rfl hl (by decide) rfl (fun ls hl => ?_)
  have loop_5 : ∀ (fuel : Nat) (j : Nat) (x2 : Int32) (x3 : Int32), n - j < fuel → (j ≤ n) → (x2 = lc_I (lc_lu B g n2 g2 j)) → (x3 = nI j) → ∀ (H : Heap) (locs : List Loc) (ls : Array Slot), wg_P E A C H → va_S (wg_A E) s.heap H locs → lv_has ls 5 [(0, .ref (A (32 + i))), (1, .ref (A (32 + i2))), (2, .int x2), (3, .int x3)] → W p l e (wg_rm 4 0 0) s m ([.ref (A (32 + i)), .ref (A (32 + i2))] : List Value).toArray below meth c H locs 0 0 (MQ below (wg_Qi E (fun r A1 C1 => r = lc_I (lc_lu B g n2 g2 n) ∧ A = A1 ∧ C = C1)) ([.ref (A (32 + i)), .ref (A (32 + i2))] : List Value).toArray s 0 0 (wg_A E)) (F0 m 5 ls []) := by
    intro fuel
    induction fuel with
    | zero => intro j x2 x3 hm; exact absurd hm (Nat.not_lt_zero _)
    | succ fuel ih_loop_5 =>
      intro j x2 x3 hm_loop_5 hj ex2 ex3 H locs ls hP hS hl
      subst ex3
      refine lv_iload_n hx hb dX1_leastUnlike_5 rfl (lv_at hl 3 rfl) ?_
      refine lv_aload_n hx hb dX1_leastUnlike_6 rfl (lv_at hl 0 rfl) ?_
      refine wg_get F hP f32i rfl iw_X1 0 (by decide) tb_136 rfl rfl dX1_leastUnlike_7 ?_
      refine wg_getN F hP f36i rfl iw_X3 1 (by decide) nb_34 rfl rfl dX1_leastUnlike_10 ?_
      refine lv_icmp_ge (tgt := 67) hx hb dX1_leastUnlike_13 (by decide) (fun c_13 => ?_) (fun c_13 => ?_)
      · rw [nI_leI (by omega) (by omega)] at c_13
        have hjn : j = n := by omega
        refine lv_iload_n hx hb dX1_leastUnlike_67 rfl (lv_at hl 2 rfl) ?_
        exact wg_iret F hP hS hr hlk (⟨by rw [← hjn]; exact ex2, rfl, rfl⟩) dX1_leastUnlike_68
      · rw [nI_leI (by omega) (by omega)] at c_13
        have hjn : j < n := by omega
        have hle := lc_lu_le (B := B) (g := g) (n2 := n2) (g2 := g2) (i := j) (fun k hk => (hDB.2.2.2.2.2 _ (hg k (by omega))).1)
        refine lv_aload_n hx hb dX1_leastUnlike_16 rfl (lv_at hl 0 rfl) ?_
        refine wg_get F hP f32i rfl iw_X1 0 (by decide) tb_136 rfl rfl dX1_leastUnlike_17 ?_
        refine lv_iload_n hx hb dX1_leastUnlike_20 rfl (lv_at hl 3 rfl) ?_
        refine wg_cq hS (wg_rVN (As := [.int (nI j)]) (rest := []) F hP hS (c_X3_at l E A C (36 + i) (40 + i) 60 n f (nI j) hn (by decide) f36i f40i) ok_X3_at nb_395 rfl rfl ⟨Nat.le_of_ble_eq_true rfl, Nat.le_of_ble_eq_true rfl⟩ f36i rfl rfl rfl hl.1 rfl (Nat.le_of_ble_eq_true rfl) dX1_leastUnlike_21 ⟨Nat.le_of_ble_eq_true rfl, Nat.le_of_ble_eq_true rfl⟩) (fun r_21 A1 C_21 H locs w_21 hP hS => ?_)
        obtain ⟨w_21, rfl, rfl⟩ := w_21
        refine wg_some (w_21.trans ((lc_at_in hjn (by omega)).trans (hf j hjn))) ?_
        have fh_g : C (200 + g j) = some (.inr (2, [.int (nI (g j)), .int (nI (lc_hh B (g j))), .long (lc_hp B (g j)), .ref (A (100 + lc_ho B (g j))), .ref (A (100 + lc_hx B (g j))), .long (lc_hr B (g j)), .long (lc_dig B (g j)), .int (nI (lc_sg B (g j)))])) := hDB.2.1 _ (hg j hjn)
        have hq := (hDB.2.2.2.2.2 _ (hg j hjn)).1
        refine lv_astore (lv' := [(4, .ref (A (200 + g j))), (0, .ref (A (32 + i))), (1, .ref (A (32 + i2))), (2, .int x2), (3, .int (nI j))]) hx hb dX1_leastUnlike_24 hl (by decide) rfl (fun ls hl => ?_)
        refine lv_aload hx hb dX1_leastUnlike_26 (lv_at hl 0 rfl) ?_
        refine lv_ifnull hx hb dX1_leastUnlike_28 ?_
        refine lv_aload hx hb dX1_leastUnlike_31 (lv_at hl 0 rfl) ?_
        refine lv_aload_n hx hb dX1_leastUnlike_33 rfl (lv_at hl 2 rfl) ?_
        refine wg_ci hS (wg_rS (As := [.ref (A (200 + g j)), .ref (A (32 + i2))]) (rest := []) F hP hS (c_X1_isUnlike l E A C i2 n2 f2 g2 B (g j) hn2 hf2 hg2 hDB (hg j hjn) f32i2 f36i2 f40i2) ok_X1_isUnlike tb_427 rfl rfl ⟨Nat.le_of_ble_eq_true rfl, Nat.le_of_ble_eq_true rfl⟩ rfl hl.1 rfl (Nat.le_of_ble_eq_true rfl) dX1_leastUnlike_34 ⟨Nat.le_of_ble_eq_true rfl, Nat.le_of_ble_eq_true rfl⟩) (fun r_34 A1 C_34 H locs w_34 hP hS => ?_)
        obtain ⟨w_34, rfl, rfl⟩ := w_34
        refine lv_if_eq (tgt := 61) hx hb dX1_leastUnlike_37 (by decide) (fun c_37 => ?_) (fun c_37 => ?_)
        · have hu : ¬ lc_unl B n2 g2 (g j) = true := fun q => by rw [w_34, if_pos q] at c_37; exact absurd c_37 (by decide)
          have hnew : x2 = lc_I (lc_lu B g n2 g2 (j + 1)) := by rw [ex2]; simp only [lc_lu]; rw [if_neg hu]
          obtain ⟨x_61, ex_61⟩ : ∃ y : Int32, y = nI j + 1 := ⟨_, rfl⟩
          refine lv_iinc (v := x_61) (lv' := [(3, .int x_61), (4, .ref (A (200 + g j))), (0, .ref (A (32 + i))), (1, .ref (A (32 + i2))), (2, .int x2)]) hx hb dX1_leastUnlike_61 hl (k := 4) rfl (by rw [ex_61]; rfl) (by decide) rfl (fun ls hl => ?_)
          refine lv_goto (tgt := 5) hx hb dX1_leastUnlike_64 (by decide) ?_
          exact ih_loop_5 (j + 1) x2 x_61 (by omega) (by omega) (by first | exact hnew | (rw [ex_60]; exact hnew)) (by rw [ex_61, nI_1]) _ _ _ hP hS (lv_sub hl [2, 3, 4, 0] rfl)
        · have hu : lc_unl B n2 g2 (g j) = true := Decidable.byContradiction (fun q => c_37 (by rw [w_34, if_neg q]))
          rcases hlu : lc_lu B g n2 g2 j with _ | b
          · have hx2 : x2 = -2 := by rw [ex2, hlu]; rfl
            have hnew : nI (lc_hh B (g j)) = lc_I (lc_lu B g n2 g2 (j + 1)) := by simp only [lc_lu]; rw [if_pos hu, hlu]; rfl
            refine lv_iload_n hx hb dX1_leastUnlike_40 rfl (lv_at hl 3 rfl) ?_
            refine lv_bipush (v := (-2)) hx hb dX1_leastUnlike_41 (by decide) ?_
            refine lv_icmp_eq (tgt := 55) hx hb dX1_leastUnlike_43 (by decide) (fun c_43 => ?_) (fun c_43 => ?_)
            · refine lv_aload hx hb dX1_leastUnlike_55 (lv_at hl 0 rfl) ?_
              refine wg_getN F hP fh_g rfl iw_X2 1 (by decide) nb_249 rfl rfl dX1_leastUnlike_57 ?_
              refine lv_topi (fun x_60 ex_60 => ?_)
              refine lv_istore_n (lv' := [(2, .int x_60), (4, .ref (A (200 + g j))), (0, .ref (A (32 + i))), (1, .ref (A (32 + i2))), (3, .int (nI j))]) hx hb dX1_leastUnlike_60 rfl hl (by decide) rfl (fun ls hl => ?_)
              obtain ⟨x_61, ex_61⟩ : ∃ y : Int32, y = nI j + 1 := ⟨_, rfl⟩
              refine lv_iinc (v := x_61) (lv' := [(3, .int x_61), (2, .int x_60), (4, .ref (A (200 + g j))), (0, .ref (A (32 + i))), (1, .ref (A (32 + i2)))]) hx hb dX1_leastUnlike_61 hl (k := 4) rfl (by rw [ex_61]; rfl) (by decide) rfl (fun ls hl => ?_)
              refine lv_goto (tgt := 5) hx hb dX1_leastUnlike_64 (by decide) ?_
              exact ih_loop_5 (j + 1) x_60 x_61 (by omega) (by omega) (by first | exact hnew | (rw [ex_60]; exact hnew)) (by rw [ex_61, nI_1]) _ _ _ hP hS (lv_sub hl [3, 4, 1, 0] rfl)
            · exact absurd hx2 c_43
          · have hb5 := hle b hlu
            have hx2 : x2 = nI b := by rw [ex2, hlu]; rfl
            refine lv_iload_n hx hb dX1_leastUnlike_40 rfl (lv_at hl 3 rfl) ?_
            refine lv_bipush (v := (-2)) hx hb dX1_leastUnlike_41 (by decide) ?_
            refine lv_icmp_eq (tgt := 55) hx hb dX1_leastUnlike_43 (by decide) (fun c_43 => ?_) (fun c_43 => ?_)
            · exact absurd c_43 (by rw [hx2]; exact lc_nI_ne2 (by omega))
            · refine lv_aload hx hb dX1_leastUnlike_46 (lv_at hl 0 rfl) ?_
              refine wg_getN F hP fh_g rfl iw_X2 1 (by decide) nb_249 rfl rfl dX1_leastUnlike_48 ?_
              refine lv_iload_n hx hb dX1_leastUnlike_51 rfl (lv_at hl 3 rfl) ?_
              refine lv_icmp_ge (tgt := 61) hx hb dX1_leastUnlike_52 (by decide) (fun c_52 => ?_) (fun c_52 => ?_)
              · have hnew : x2 = lc_I (lc_lu B g n2 g2 (j + 1)) := by rw [hx2, nI_leI (by omega) (by omega)] at c_52; rw [hx2]; simp only [lc_lu]; rw [if_pos hu, hlu]; simp only []; rw [if_neg (by omega)]; rfl
                obtain ⟨x_61, ex_61⟩ : ∃ y : Int32, y = nI j + 1 := ⟨_, rfl⟩
                refine lv_iinc (v := x_61) (lv' := [(3, .int x_61), (4, .ref (A (200 + g j))), (0, .ref (A (32 + i))), (1, .ref (A (32 + i2))), (2, .int x2)]) hx hb dX1_leastUnlike_61 hl (k := 4) rfl (by rw [ex_61]; rfl) (by decide) rfl (fun ls hl => ?_)
                refine lv_goto (tgt := 5) hx hb dX1_leastUnlike_64 (by decide) ?_
                exact ih_loop_5 (j + 1) x2 x_61 (by omega) (by omega) (by first | exact hnew | (rw [ex_60]; exact hnew)) (by rw [ex_61, nI_1]) _ _ _ hP hS (lv_sub hl [2, 3, 4, 0] rfl)
              · have hnew : nI (lc_hh B (g j)) = lc_I (lc_lu B g n2 g2 (j + 1)) := by rw [hx2, nI_leI (by omega) (by omega)] at c_52; simp only [lc_lu]; rw [if_pos hu, hlu]; simp only []; rw [if_pos (by omega)]; rfl
                refine lv_aload hx hb dX1_leastUnlike_55 (lv_at hl 0 rfl) ?_
                refine wg_getN F hP fh_g rfl iw_X2 1 (by decide) nb_249 rfl rfl dX1_leastUnlike_57 ?_
                refine lv_topi (fun x_60 ex_60 => ?_)
                refine lv_istore_n (lv' := [(2, .int x_60), (4, .ref (A (200 + g j))), (0, .ref (A (32 + i))), (1, .ref (A (32 + i2))), (3, .int (nI j))]) hx hb dX1_leastUnlike_60 rfl hl (by decide) rfl (fun ls hl => ?_)
                obtain ⟨x_61, ex_61⟩ : ∃ y : Int32, y = nI j + 1 := ⟨_, rfl⟩
                refine lv_iinc (v := x_61) (lv' := [(3, .int x_61), (2, .int x_60), (4, .ref (A (200 + g j))), (0, .ref (A (32 + i))), (1, .ref (A (32 + i2)))]) hx hb dX1_leastUnlike_61 hl (k := 4) rfl (by rw [ex_61]; rfl) (by decide) rfl (fun ls hl => ?_)
                refine lv_goto (tgt := 5) hx hb dX1_leastUnlike_64 (by decide) ?_
                exact ih_loop_5 (j + 1) x_60 x_61 (by omega) (by omega) (by first | exact hnew | (rw [ex_60]; exact hnew)) (by rw [ex_61, nI_1]) _ _ _ hP hS (lv_sub hl [3, 4, 1, 0] rfl)
  exact loop_5 _ 0 (((-2))) 0 (Nat.lt_succ_self _) (by omega) rfl rfl _ _ _ hP hS (lv_sub hl [2, 3, 1, 0] rfl)
set_option maxHeartbeats 4000000 in
set_option maxRecDepth 100000 in
theorem c_X0_trusted (l : Launch) (E : wg_E) (A : Nat → Nat) (C : wg_C) (i n : Nat) (f : Nat → Option Nat) (co rb ra : Int32) (hn : n ≤ 11) (f20i : C (20 + i) = some (.inr (0, [.ref (A (24 + i)), .int co, .int rb, .int ra]))) (f24i : C (24 + i) = some (.inr (3, [.ref (A (28 + i)), .int (nI n)]))) (f28i : C (28 + i) = some (.inl (E.2.1 4, 11, .inr (.inr (.inr (.inr f)))))) : Met l yX0_trusted (wg_ws yX0_trusted cX0_trusted 1 (some (.object "LightChecks$Head"))) (wg_rm 1 0 0) (wg_Pc E A C [.ref (A (20 + i))]) (wg_Qq E (fun r A1 C1 => r = lc_at n f (nI n - 1) ∧ A = A1 ∧ C = C1)) 0 0 (wg_A E) := by
  refine wg_met (by decide) (Nat.le_of_ble_eq_true rfl) ?_
  intro p e s m below meth c ls F hr hlk hnm hP hS hl
  have F : wg_F p m c cX0_trusted 1 s ([.ref (A (20 + i))] : List Value).toArray "LightChecks$Client" E := F
  have hx := F.1
  have hb := F.2.1
  have hml := F.2.2.1
  have hown := F.2.2.2.1
  have hts := F.2.2.2.2.1
  have hl : lv_has ls 1 [(0, .ref (A (20 + i)))] := hl
  refine lv_aload_n hx hb dX0_trusted_0 rfl (lv_at hl 0 rfl) ?_
  refine wg_get F hP f20i rfl iw_X0 0 (by decide) tb_112 rfl rfl dX0_trusted_1 ?_
  refine lv_aload_n hx hb dX0_trusted_4 rfl (lv_at hl 0 rfl) ?_
  refine wg_get F hP f20i rfl iw_X0 0 (by decide) tb_112 rfl rfl dX0_trusted_5 ?_
  refine wg_getN F hP f24i rfl iw_X3 1 (by decide) nb_35 rfl rfl dX0_trusted_8 ?_
  refine lv_iconst (v := 1) hx hb dX0_trusted_11 (by decide) ?_
  refine lv_isub hx hb dX0_trusted_12 ?_
  refine wg_cq hS (wg_rVN (As := [.int ((nI n) - 1)]) (rest := []) F hP hS (c_X3_at l E A C (24 + i) (28 + i) 11 n f _ hn (by decide) f24i f28i) ok_X3_at nb_354 rfl rfl ⟨Nat.le_of_ble_eq_true rfl, Nat.le_of_ble_eq_true rfl⟩ f24i rfl rfl rfl hl.1 rfl (Nat.le_of_ble_eq_true rfl) dX0_trusted_13 ⟨Nat.le_of_ble_eq_true rfl, Nat.le_of_ble_eq_true rfl⟩) (fun r_13 A1 C_13 H locs w_13 hP hS => ?_)
  obtain ⟨w_13, rfl, rfl⟩ := w_13
  exact wg_qret (v := r_13) F hP hS hr ⟨_, rfl⟩ hlk (⟨w_13, rfl, rfl⟩) dX0_trusted_16
set_option maxHeartbeats 4000000 in
set_option maxRecDepth 100000 in
theorem c_X0_refuse (l : Launch) (E : wg_E) (A : Nat → Nat) (C : wg_C) (i n : Nat) (f : Nat → Option Nat) (co rb ra : Int32) (y x : Int32) (hi : i < 4) (f20i : C (20 + i) = some (.inr (0, [.ref (A (24 + i)), .int co, .int rb, .int ra]))) : Met l yX0_refuse (wg_ws yX0_refuse cX0_refuse 3 (some .int)) (wg_rm 0 0 0) (wg_Pc E A C [.ref (A (20 + i)), .int y, .int x]) (wg_Qi E (fun r A1 C1 => r = -10 - y ∧ A = A1 ∧ C1 = va_up C (20 + i) (some (.inr (0, [.ref (A (24 + i)), .int co, .int y, .int x]))))) 0 0 (wg_A E) := by
  refine wg_met (by decide) (Nat.le_of_ble_eq_true rfl) ?_
  intro p e s m below meth c ls F hr hlk hnm hP hS hl
  have F : wg_F p m c cX0_refuse 3 s ([.ref (A (20 + i)), .int y, .int x] : List Value).toArray "LightChecks$Client" E := F
  have hx := F.1
  have hb := F.2.1
  have hml := F.2.2.1
  have hown := F.2.2.2.1
  have hts := F.2.2.2.2.1
  have hl : lv_has ls 3 [(0, .ref (A (20 + i))), (1, .int y), (2, .int x)] := hl
  refine lv_aload_n hx hb dX0_refuse_0 rfl (lv_at hl 0 rfl) ?_
  refine lv_iload_n hx hb dX0_refuse_1 rfl (lv_at hl 1 rfl) ?_
  refine wg_put F hP hS f20i rfl iw_X0 tyX0_ok nmX0 2 (by decide) tb_116 rfl rfl rfl (Nat.le_of_ble_eq_true rfl) dX0_refuse_2 (fun H locs hP hS => ?_)
  obtain ⟨C_2, hC_2⟩ : ∃ z : wg_C, z = va_up C (20 + i) (some (.inr (0, [.ref (A (24 + i)), .int co, .int y, .int ra]))) := ⟨_, rfl⟩
  have hP : wg_P E A C_2 H := by rw [hC_2]; exact hP
  have f20i_c2 : C_2 (20 + i) = some (.inr (0, [.ref (A (24 + i)), .int co, .int y, .int ra])) := by rw [hC_2]; exact va_up_self _ _ _
  refine lv_aload_n hx hb dX0_refuse_5 rfl (lv_at hl 0 rfl) ?_
  refine lv_iload_n hx hb dX0_refuse_6 rfl (lv_at hl 2 rfl) ?_
  refine wg_put F hP hS f20i_c2 rfl iw_X0 tyX0_ok nmX0 3 (by decide) tb_118 rfl rfl rfl (Nat.le_of_ble_eq_true rfl) dX0_refuse_7 (fun H locs hP hS => ?_)
  obtain ⟨C_7, hC_7⟩ : ∃ z : wg_C, z = va_up C_2 (20 + i) (some (.inr (0, [.ref (A (24 + i)), .int co, .int y, .int x]))) := ⟨_, rfl⟩
  have hP : wg_P E A C_7 H := by rw [hC_7]; exact hP
  have f20i_c7 : C_7 (20 + i) = some (.inr (0, [.ref (A (24 + i)), .int co, .int y, .int x])) := by rw [hC_7]; exact va_up_self _ _ _
  refine lv_bipush (v := (-10)) hx hb dX0_refuse_10 (by decide) ?_
  refine lv_iload_n hx hb dX0_refuse_12 rfl (lv_at hl 1 rfl) ?_
  refine lv_isub hx hb dX0_refuse_13 ?_
  exact wg_iret F hP hS hr hlk (⟨rfl, rfl, by rw [hC_7, hC_2, bx_uu]⟩) dX0_refuse_14
set_option maxHeartbeats 4000000 in
set_option maxRecDepth 100000 in
theorem c_X0_lastBelow (l : Launch) (E : wg_E) (A : Nat → Nat) (C : wg_C) (i n : Nat) (f : Nat → Option Nat) (co rb ra : Int32) (g : Nat → Nat) (B : lc_B) (x : Nat) (hn : n ≤ 11) (hf : ∀ j, j < n → f j = some (A (200 + g j))) (hg : ∀ j, j < n → g j < lc_nh B) (hDB : lc_DB A C B) (hx31 : x < 2 ^ 31) (f20i : C (20 + i) = some (.inr (0, [.ref (A (24 + i)), .int co, .int rb, .int ra]))) (f24i : C (24 + i) = some (.inr (3, [.ref (A (28 + i)), .int (nI n)]))) (f28i : C (28 + i) = some (.inl (E.2.1 4, 11, .inr (.inr (.inr (.inr f)))))) : Met l yX0_lastBelow (wg_ws yX0_lastBelow cX0_lastBelow 4 (some (.object "LightChecks$Head"))) (wg_rm 1 0 0) (wg_Pc E A C [.ref (A (20 + i)), .int (nI x)]) (wg_Qq E (fun r A1 C1 => r = (lc_lb B g x n).map (fun k => A (200 + g k)) ∧ A = A1 ∧ C = C1)) 0 0 (wg_A E) := by
  refine wg_met (by decide) (Nat.le_of_ble_eq_true rfl) ?_
  intro p e s m below meth c ls F hr hlk hnm hP hS hl
  have F : wg_F p m c cX0_lastBelow 4 s ([.ref (A (20 + i)), .int (nI x)] : List Value).toArray "LightChecks$Client" E := F
  have hx := F.1
  have hb := F.2.1
  have hml := F.2.2.1
  have hown := F.2.2.2.1
  have hts := F.2.2.2.2.1
  have hl : lv_has ls 4 [(0, .ref (A (20 + i))), (1, .int (nI x))] := hl
  refine lv_aload_n hx hb dX0_lastBelow_0 rfl (lv_at hl 0 rfl) ?_
  refine wg_get F hP f20i rfl iw_X0 0 (by decide) tb_112 rfl rfl dX0_lastBelow_1 ?_
  refine wg_getN F hP f24i rfl iw_X3 1 (by decide) nb_35 rfl rfl dX0_lastBelow_4 ?_
  refine lv_iconst (v := 1) hx hb dX0_lastBelow_7 (by decide) ?_
  refine lv_isub hx hb dX0_lastBelow_8 ?_
  refine lv_topi (fun x_9 ex_9 => ?_)
  refine lv_istore_n (lv' := [(2, .int x_9), (0, .ref (A (20 + i))), (1, .int (nI x))]) hx hb dX0_lastBelow_9 rfl hl (by decide) rfl (fun ls hl => ?_)
  have loop_10 : ∀ (fuel : Nat) (j : Nat) (x2 : Int32), j < fuel → (j ≤ n) → (x2 = nI j - 1) → (lc_lb B g x n = lc_lb B g x j) → ∀ (H : Heap) (locs : List Loc) (ls : Array Slot), wg_P E A C H → va_S (wg_A E) s.heap H locs → lv_has ls 4 [(0, .ref (A (20 + i))), (1, .int (nI x)), (2, .int x2)] → W p l e (wg_rm 1 0 0) s m ([.ref (A (20 + i)), .int (nI x)] : List Value).toArray below meth c H locs 0 0 (MQ below (wg_Qq E (fun r A1 C1 => r = (lc_lb B g x n).map (fun k => A (200 + g k)) ∧ A = A1 ∧ C = C1)) ([.ref (A (20 + i)), .int (nI x)] : List Value).toArray s 0 0 (wg_A E)) (F0 m 10 ls []) := by
    intro fuel
    induction fuel with
    | zero => intro j x2 hm; exact absurd hm (Nat.not_lt_zero _)
    | succ fuel ih_loop_10 =>
      intro j x2 hm_loop_10 hj ex2 hno H locs ls hP hS hl
      refine lv_iload_n hx hb dX0_lastBelow_10 rfl (lv_at hl 2 rfl) ?_
      refine lv_if_lt (tgt := 43) hx hb dX0_lastBelow_11 (by decide) (fun c_11 => ?_) (fun c_11 => ?_)
      · have hj0 : j = 0 := by
          rcases j with _ | j
          · rfl
          · exact absurd c_11 (by rw [ex2, nI_m1]; exact nI_pos (by omega))
        subst hj0
        refine lv_null hx hb dX0_lastBelow_43 ?_
        exact wg_qret (v := none) F hP hS hr ⟨_, rfl⟩ hlk (⟨by rw [hno]; rfl, rfl, rfl⟩) dX0_lastBelow_44
      · obtain ⟨j, rfl⟩ : ∃ k, j = k + 1 := by
          rcases j with _ | j
          · exact absurd (by rw [ex2]; decide) c_11
          · exact ⟨j, rfl⟩
        rw [nI_m1] at ex2
        refine lv_aload_n hx hb dX0_lastBelow_14 rfl (lv_at hl 0 rfl) ?_
        refine wg_get F hP f20i rfl iw_X0 0 (by decide) tb_112 rfl rfl dX0_lastBelow_15 ?_
        refine lv_iload_n hx hb dX0_lastBelow_18 rfl (lv_at hl 2 rfl) ?_
        refine wg_cq hS (wg_rVN (As := [.int x2]) (rest := []) F hP hS (c_X3_at l E A C (24 + i) (28 + i) 11 n f x2 hn (by decide) f24i f28i) ok_X3_at nb_354 rfl rfl ⟨Nat.le_of_ble_eq_true rfl, Nat.le_of_ble_eq_true rfl⟩ f24i rfl rfl rfl hl.1 rfl (Nat.le_of_ble_eq_true rfl) dX0_lastBelow_19 ⟨Nat.le_of_ble_eq_true rfl, Nat.le_of_ble_eq_true rfl⟩) (fun r_19 A1 C_19 H locs w_19 hP hS => ?_)
        obtain ⟨w_19, rfl, rfl⟩ := w_19
        refine wg_some (w_19.trans (by rw [ex2]; exact (lc_at_in (by omega) (by omega)).trans (hf j (by omega)))) ?_
        have fh_g : C (200 + g j) = some (.inr (2, [.int (nI (g j)), .int (nI (lc_hh B (g j))), .long (lc_hp B (g j)), .ref (A (100 + lc_ho B (g j))), .ref (A (100 + lc_hx B (g j))), .long (lc_hr B (g j)), .long (lc_dig B (g j)), .int (nI (lc_sg B (g j)))])) := hDB.2.1 _ (hg j (by omega))
        have hq := (hDB.2.2.2.2.2 _ (hg j (by omega))).1
        refine lv_astore_n (lv' := [(3, .ref (A (200 + g j))), (0, .ref (A (20 + i))), (1, .int (nI x)), (2, .int x2)]) hx hb dX0_lastBelow_22 rfl hl (by decide) rfl (fun ls hl => ?_)
        refine lv_aload_n hx hb dX0_lastBelow_23 rfl (lv_at hl 0 rfl) ?_
        refine lv_ifnull hx hb dX0_lastBelow_24 ?_
        refine lv_aload_n hx hb dX0_lastBelow_27 rfl (lv_at hl 0 rfl) ?_
        refine wg_getN F hP fh_g rfl iw_X2 1 (by decide) nb_250 rfl rfl dX0_lastBelow_28 ?_
        refine lv_iload_n hx hb dX0_lastBelow_31 rfl (lv_at hl 2 rfl) ?_
        refine lv_icmp_ge (tgt := 37) hx hb dX0_lastBelow_32 (by decide) (fun c_32 => ?_) (fun c_32 => ?_)
        · have hno2 : lc_lb B g x n = lc_lb B g x j := by rw [nI_leI hx31 (by omega)] at c_32; rw [hno]; simp only [lc_lb]; rw [if_neg (by omega)]
          obtain ⟨x_37, ex_37⟩ : ∃ y : Int32, y = x2 + (-1) := ⟨_, rfl⟩
          refine lv_iinc (v := x_37) (lv' := [(2, .int x_37), (3, .ref (A (200 + g j))), (0, .ref (A (20 + i))), (1, .int (nI x))]) hx hb dX0_lastBelow_37 hl (k := 3) rfl (by rw [ex_37]; rfl) (by decide) rfl (fun ls hl => ?_)
          refine lv_goto (tgt := 10) hx hb dX0_lastBelow_40 (by decide) ?_
          exact ih_loop_10 j x_37 (by omega) (by omega) (by rw [ex_37, ex2]; exact (Int32.sub_eq_add_neg _ _).symm) hno2 _ _ _ hP hS (lv_sub hl [2, 3, 0] rfl)
        · have hlb : lc_lb B g x n = some j := by rw [nI_leI hx31 (by omega)] at c_32; rw [hno]; simp only [lc_lb]; rw [if_pos (by omega)]
          refine lv_aload_n hx hb dX0_lastBelow_35 rfl (lv_at hl 0 rfl) ?_
          exact wg_qret (v := some (A (200 + g j))) F hP hS hr ⟨_, rfl⟩ hlk (⟨by rw [hlb]; rfl, rfl, rfl⟩) dX0_lastBelow_36
  exact loop_10 _ n x_9 (Nat.lt_succ_self _) (Nat.le_refl n) (by rw [ex_9]) rfl _ _ _ hP hS (lv_sub hl [1, 2, 0] rfl)
end
section
/-- how many heads a client stores behind one more, with at most mo rows, and which -/
def lc_kn (n mo : Nat) : Nat := if n + 1 ≤ mo then n + 1 else mo
def lc_kg (n mo : Nat) (g : Nat → Nat) (h : Nat) : Nat → Nat := fun k => if n + 1 ≤ mo then va_up g n h k else if k = 0 then va_up g n h 0 else va_up g n h (k + (n + 1 - mo))
theorem lc_upf {A : Nat → Nat} {f : Nat → Option Nat} {g : Nat → Nat} {n h : Nat} (hf : ∀ j, j < n → f j = some (A (200 + g j))) : ∀ j, j < n + 1 → va_up f n (some (A (200 + h))) j = some (A (200 + va_up g n h j)) := by
  intro j hj
  by_cases e : j = n
  · subst e; rw [va_up_self, va_up_self]
  · rw [va_up_ne _ _ e, va_up_ne _ _ e]; exact hf j (by omega)
theorem lc_upg {g : Nat → Nat} {n h N : Nat} (hg : ∀ j, j < n → g j < N) (hh : h < N) : ∀ j, j < n + 1 → va_up g n h j < N := by
  intro j hj
  by_cases e : j = n
  · subst e; rw [va_up_self]; exact hh
  · rw [va_up_ne _ _ e]; exact hg j (by omega)
/-- replacing the head at a place, or putting one more behind the last -/
def lc_gn (n : Nat) (o : Option Nat) : Nat := match o with
  | some _ => n
  | none => n + 1
def lc_gg (n : Nat) (g : Nat → Nat) (h : Nat) (o : Option Nat) : Nat → Nat := match o with
  | some j => va_up g j h
  | none => va_up g n h
theorem lc_updp {A : Nat → Nat} {f : Nat → Option Nat} {g : Nat → Nat} {n j0 h : Nat} (hf : ∀ j, j < n → f j = some (A (200 + g j))) : ∀ j, j < n → va_up f j0 (some (A (200 + h))) j = some (A (200 + va_up g j0 h j)) := by
  intro j hj
  by_cases e : j = j0
  · subst e; rw [va_up_self, va_up_self]
  · rw [va_up_ne _ _ e, va_up_ne _ _ e]; exact hf j (by omega)
theorem lc_rise0 {a b : Nat} (ha : a < 2 ^ 30) (hb : b < 2 ^ 30) : (0 : Int32) < nI a - nI b ↔ b < a := by
  rw [Int32.lt_iff_toInt_lt, pk_sub_toInt ha hb, show (0 : Int32).toInt = 0 from by decide]
  omega
theorem lc_keepstep {A : Nat → Nat} {f fi : Nat → Option Nat} {g : Nat → Nat} {n mo h j : Nat} (hj1 : 1 ≤ j) (hj : j < mo) (hmo : mo < n + 1) (hfp : ∀ j, j < n + 1 → va_up f n (some (A (200 + h))) j = some (A (200 + va_up g n h j)))
    (hfi : ∀ k, k < n + 1 → fi k = (if 1 ≤ k ∧ k < j then (va_up f n (some (A (200 + h)))) (k + (n + 1 - mo)) else (va_up f n (some (A (200 + h)))) k)) :
    ∀ k, k < n + 1 → va_up fi j (some (A (200 + va_up g n h (j + (n + 1 - mo))))) k = (if 1 ≤ k ∧ k < j + 1 then (va_up f n (some (A (200 + h)))) (k + (n + 1 - mo)) else (va_up f n (some (A (200 + h)))) k) := by
  intro k hk
  by_cases e : k = j
  · subst e
    rw [va_up_self, if_pos (by omega), hfp _ (by omega)]
  · rw [va_up_ne _ _ e, hfi k hk]
    by_cases q : 1 ≤ k ∧ k < j
    · rw [if_pos q, if_pos (by omega)]
    · rw [if_neg q, if_neg (by omega)]
theorem lc_keepend {A : Nat → Nat} {f fi : Nat → Option Nat} {g : Nat → Nat} {n mo h j k : Nat} (hmo : mo < n + 1) (hje : j = mo) (hk : k < mo) (hfp : ∀ j, j < n + 1 → va_up f n (some (A (200 + h))) j = some (A (200 + va_up g n h j)))
    (hfi : ∀ k, k < n + 1 → fi k = (if 1 ≤ k ∧ k < j then (va_up f n (some (A (200 + h)))) (k + (n + 1 - mo)) else (va_up f n (some (A (200 + h)))) k)) : fi k = some (A (200 + lc_kg n mo g h k)) := by
  subst hje
  rw [hfi k (by omega)]
  unfold lc_kg
  rw [if_neg (show ¬ n + 1 ≤ j by omega)]
  by_cases q : k = 0
  · rw [if_neg (show ¬ (1 ≤ k ∧ k < j) by omega), if_pos q, q]
    exact hfp 0 (by omega)
  · rw [if_pos (show 1 ≤ k ∧ k < j by omega), if_neg q]
    exact hfp _ (by omega)
end
section
set_option maxHeartbeats 4000000 in
set_option maxRecDepth 100000 in
theorem c_X0_begin (l : Launch) (E : wg_E) (A : Nat → Nat) (C : wg_C) (i n : Nat) (f : Nat → Option Nat) (co rb ra : Int32) (h : Nat) (hv : List Value) (hi : i < 4) (hn : n ≤ 11) (f20i : C (20 + i) = some (.inr (0, [.ref (A (24 + i)), .int co, .int rb, .int ra]))) (f24i : C (24 + i) = some (.inr (3, [.ref (A (28 + i)), .int (nI n)]))) (f28i : C (28 + i) = some (.inl (E.2.1 4, 11, .inr (.inr (.inr (.inr f)))))) (f200h : C (200 + h) = some (.inr (2, hv))) : Met l yX0_begin (wg_ws yX0_begin cX0_begin 2 none) (wg_rm 2 0 0) (wg_Pc E A C [.ref (A (20 + i)), .ref (A (200 + h))]) (wg_Qv E (fun A1 C1 => A = A1 ∧ (∀ r, r ≠ 20 + i → r ≠ 24 + i → r ≠ 28 + i → C1 r = C r) ∧ C1 (20 + i) = some (.inr (0, [.ref (A (24 + i)), .int 0, .int (-2), .int (-2)])) ∧ C1 (24 + i) = some (.inr (3, [.ref (A (28 + i)), .int (nI 1)])) ∧ C1 (28 + i) = some (.inl (E.2.1 4, 11, .inr (.inr (.inr (.inr (va_up f 0 (some (A (200 + h))))))))))) 0 0 (wg_A E) := by
  refine wg_met (by decide) (Nat.le_of_ble_eq_true rfl) ?_
  intro p e s m below meth c ls F hr hlk hnm hP hS hl
  have F : wg_F p m c cX0_begin 2 s ([.ref (A (20 + i)), .ref (A (200 + h))] : List Value).toArray "LightChecks$Client" E := F
  have hx := F.1
  have hb := F.2.1
  have hml := F.2.2.1
  have hown := F.2.2.2.1
  have hts := F.2.2.2.2.1
  have hl : lv_has ls 2 [(0, .ref (A (20 + i))), (1, .ref (A (200 + h)))] := hl
  refine lv_aload_n hx hb dX0_begin_0 rfl (lv_at hl 0 rfl) ?_
  refine wg_get F hP f20i rfl iw_X0 0 (by decide) tb_112 rfl rfl dX0_begin_1 ?_
  refine lv_iconst (v := 0) hx hb dX0_begin_4 (by decide) ?_
  refine wg_cv hS (wg_rVN (As := [.int 0]) (rest := []) F hP hS (c_X3_cutTo l E A C (24 + i) (28 + i) n 0 (by omega) (by omega) f24i) ok_X3_cutTo nb_338 rfl rfl ⟨Nat.le_of_ble_eq_true rfl, Nat.le_of_ble_eq_true rfl⟩ f24i rfl rfl rfl hl.1 rfl (Nat.le_of_ble_eq_true rfl) dX0_begin_5 ⟨Nat.le_of_ble_eq_true rfl, Nat.le_of_ble_eq_true rfl⟩) (fun A1 C_5 H locs w_5 hP hS => ?_)
  obtain ⟨rfl, hC_5⟩ := w_5
  have f20i_c5 : C_5 (20 + i) = some (.inr (0, [.ref (A (24 + i)), .int co, .int rb, .int ra])) := by rw [hC_5]; rw [va_up_ne _ _ (by omega)]; exact f20i
  have f24i_c5 : C_5 (24 + i) = some (.inr (3, [.ref (A (28 + i)), .int (nI 0)])) := by rw [hC_5]; exact va_up_self _ _ _
  have f28i_c5 : C_5 (28 + i) = some (.inl (E.2.1 4, 11, .inr (.inr (.inr (.inr f))))) := by rw [hC_5]; rw [va_up_ne _ _ (by omega)]; exact f28i
  have f200h_c5 : C_5 (200 + h) = some (.inr (2, hv)) := by rw [hC_5]; rw [va_up_ne _ _ (by omega)]; exact f200h
  refine lv_aload_n hx hb dX0_begin_8 rfl (lv_at hl 0 rfl) ?_
  refine wg_get F hP f20i_c5 rfl iw_X0 0 (by decide) tb_112 rfl rfl dX0_begin_9 ?_
  refine lv_aload_n hx hb dX0_begin_12 rfl (lv_at hl 1 rfl) ?_
  refine wg_cv hS (wg_rVN (As := [.ref (A (200 + h))]) (rest := []) F hP hS (c_X3_add l E A C_5 (24 + i) (28 + i) 11 0 (200 + h) f hv (by decide) (by decide) (by omega) (by omega) (by omega) f24i_c5 f28i_c5 f200h_c5) ok_X3_add nb_345 rfl rfl ⟨Nat.le_of_ble_eq_true rfl, Nat.le_of_ble_eq_true rfl⟩ f24i_c5 rfl rfl rfl hl.1 rfl (Nat.le_of_ble_eq_true rfl) dX0_begin_13 ⟨Nat.le_of_ble_eq_true rfl, Nat.le_of_ble_eq_true rfl⟩) (fun A1 C_13 H locs w_13 hP hS => ?_)
  obtain ⟨rfl, hC_13⟩ := w_13
  have f20i_c13 : C_13 (20 + i) = some (.inr (0, [.ref (A (24 + i)), .int co, .int rb, .int ra])) := by rw [hC_13]; rw [va_up_ne _ _ (by omega)]; rw [va_up_ne _ _ (by omega)]; exact f20i_c5
  have f24i_c13 : C_13 (24 + i) = some (.inr (3, [.ref (A (28 + i)), .int (nI 1)])) := by rw [hC_13]; exact va_up_self _ _ _
  have f28i_c13 : C_13 (28 + i) = some (.inl (E.2.1 4, 11, .inr (.inr (.inr (.inr (va_up f 0 (some (A (200 + h))))))))) := by rw [hC_13]; rw [va_up_ne _ _ (by omega)]; exact va_up_self _ _ _
  have f200h_c13 : C_13 (200 + h) = some (.inr (2, hv)) := by rw [hC_13]; rw [va_up_ne _ _ (by omega)]; rw [va_up_ne _ _ (by omega)]; exact f200h_c5
  refine lv_aload_n hx hb dX0_begin_16 rfl (lv_at hl 0 rfl) ?_
  refine lv_iconst (v := 0) hx hb dX0_begin_17 (by decide) ?_
  refine wg_put F hP hS f20i_c13 rfl iw_X0 tyX0_ok nmX0 1 (by decide) tb_114 rfl rfl rfl (Nat.le_of_ble_eq_true rfl) dX0_begin_18 (fun H locs hP hS => ?_)
  obtain ⟨C_18, hC_18⟩ : ∃ z : wg_C, z = va_up C_13 (20 + i) (some (.inr (0, [.ref (A (24 + i)), .int 0, .int rb, .int ra]))) := ⟨_, rfl⟩
  have hP : wg_P E A C_18 H := by rw [hC_18]; exact hP
  have f20i_c18 : C_18 (20 + i) = some (.inr (0, [.ref (A (24 + i)), .int 0, .int rb, .int ra])) := by rw [hC_18]; exact va_up_self _ _ _
  have f24i_c18 : C_18 (24 + i) = some (.inr (3, [.ref (A (28 + i)), .int (nI 1)])) := by rw [hC_18]; rw [va_up_ne _ _ (by omega)]; exact f24i_c13
  have f28i_c18 : C_18 (28 + i) = some (.inl (E.2.1 4, 11, .inr (.inr (.inr (.inr (va_up f 0 (some (A (200 + h))))))))) := by rw [hC_18]; rw [va_up_ne _ _ (by omega)]; exact f28i_c13
  have f200h_c18 : C_18 (200 + h) = some (.inr (2, hv)) := by rw [hC_18]; rw [va_up_ne _ _ (by omega)]; exact f200h_c13
  refine lv_aload_n hx hb dX0_begin_21 rfl (lv_at hl 0 rfl) ?_
  refine lv_bipush (v := (-2)) hx hb dX0_begin_22 (by decide) ?_
  refine wg_put F hP hS f20i_c18 rfl iw_X0 tyX0_ok nmX0 2 (by decide) tb_116 rfl rfl rfl (Nat.le_of_ble_eq_true rfl) dX0_begin_24 (fun H locs hP hS => ?_)
  obtain ⟨C_24, hC_24⟩ : ∃ z : wg_C, z = va_up C_18 (20 + i) (some (.inr (0, [.ref (A (24 + i)), .int 0, .int ((-2)), .int ra]))) := ⟨_, rfl⟩
  have hP : wg_P E A C_24 H := by rw [hC_24]; exact hP
  have f20i_c24 : C_24 (20 + i) = some (.inr (0, [.ref (A (24 + i)), .int 0, .int ((-2)), .int ra])) := by rw [hC_24]; exact va_up_self _ _ _
  have f24i_c24 : C_24 (24 + i) = some (.inr (3, [.ref (A (28 + i)), .int (nI 1)])) := by rw [hC_24]; rw [va_up_ne _ _ (by omega)]; exact f24i_c18
  have f28i_c24 : C_24 (28 + i) = some (.inl (E.2.1 4, 11, .inr (.inr (.inr (.inr (va_up f 0 (some (A (200 + h))))))))) := by rw [hC_24]; rw [va_up_ne _ _ (by omega)]; exact f28i_c18
  have f200h_c24 : C_24 (200 + h) = some (.inr (2, hv)) := by rw [hC_24]; rw [va_up_ne _ _ (by omega)]; exact f200h_c18
  refine lv_aload_n hx hb dX0_begin_27 rfl (lv_at hl 0 rfl) ?_
  refine lv_bipush (v := (-2)) hx hb dX0_begin_28 (by decide) ?_
  refine wg_put F hP hS f20i_c24 rfl iw_X0 tyX0_ok nmX0 3 (by decide) tb_118 rfl rfl rfl (Nat.le_of_ble_eq_true rfl) dX0_begin_30 (fun H locs hP hS => ?_)
  obtain ⟨C_30, hC_30⟩ : ∃ z : wg_C, z = va_up C_24 (20 + i) (some (.inr (0, [.ref (A (24 + i)), .int 0, .int ((-2)), .int ((-2))]))) := ⟨_, rfl⟩
  have hP : wg_P E A C_30 H := by rw [hC_30]; exact hP
  have f20i_c30 : C_30 (20 + i) = some (.inr (0, [.ref (A (24 + i)), .int 0, .int ((-2)), .int ((-2))])) := by rw [hC_30]; exact va_up_self _ _ _
  have f24i_c30 : C_30 (24 + i) = some (.inr (3, [.ref (A (28 + i)), .int (nI 1)])) := by rw [hC_30]; rw [va_up_ne _ _ (by omega)]; exact f24i_c24
  have f28i_c30 : C_30 (28 + i) = some (.inl (E.2.1 4, 11, .inr (.inr (.inr (.inr (va_up f 0 (some (A (200 + h))))))))) := by rw [hC_30]; rw [va_up_ne _ _ (by omega)]; exact f28i_c24
  have f200h_c30 : C_30 (200 + h) = some (.inr (2, hv)) := by rw [hC_30]; rw [va_up_ne _ _ (by omega)]; exact f200h_c24
  exact wg_vret F hP hS hr hlk (⟨rfl, fun r h1 h2 h3 => by rw [hC_30, va_up_ne _ _ h1, hC_24, va_up_ne _ _ h1, hC_18, va_up_ne _ _ h1, hC_13, va_up_ne _ _ h2, va_up_ne _ _ h3, hC_5, va_up_ne _ _ h2], f20i_c30, f24i_c30, f28i_c30⟩) dX0_begin_33
set_option maxHeartbeats 4000000 in
set_option maxRecDepth 100000 in
theorem c_X0_keep (l : Launch) (E : wg_E) (A : Nat → Nat) (C : wg_C) (i n : Nat) (f : Nat → Option Nat) (co rb ra : Int32) (g : Nat → Nat) (B : lc_B) (h mo : Nat) (hi : i < 4) (hn : n ≤ 10) (hm1 : 1 ≤ mo) (hm2 : mo ≤ 10) (hf : ∀ j, j < n → f j = some (A (200 + g j))) (hg : ∀ j, j < n → g j < lc_nh B) (hDB : lc_DB A C B) (hh : h < lc_nh B) (f20i : C (20 + i) = some (.inr (0, [.ref (A (24 + i)), .int co, .int rb, .int ra]))) (f24i : C (24 + i) = some (.inr (3, [.ref (A (28 + i)), .int (nI n)]))) (f28i : C (28 + i) = some (.inl (E.2.1 4, 11, .inr (.inr (.inr (.inr f)))))) : Met l yX0_keep (wg_ws yX0_keep cX0_keep 5 none) (wg_rm 2 0 0) (wg_Pc E A C [.ref (A (20 + i)), .ref (A (200 + h)), .int (nI mo)]) (wg_Qv E (fun A1 C1 => A = A1 ∧ (∀ r, r ≠ 24 + i → r ≠ 28 + i → C1 r = C r) ∧ C1 (24 + i) = some (.inr (3, [.ref (A (28 + i)), .int (nI (lc_kn n mo))])) ∧ ∃ f1 : Nat → Option Nat, C1 (28 + i) = some (.inl (E.2.1 4, 11, .inr (.inr (.inr (.inr f1))))) ∧ ∀ j, j < lc_kn n mo → f1 j = some (A (200 + lc_kg n mo g h j)))) 0 0 (wg_A E) := by
  refine wg_met (by decide) (Nat.le_of_ble_eq_true rfl) ?_
  intro p e s m below meth c ls F hr hlk hnm hP hS hl
  have F : wg_F p m c cX0_keep 5 s ([.ref (A (20 + i)), .ref (A (200 + h)), .int (nI mo)] : List Value).toArray "LightChecks$Client" E := F
  have hx := F.1
  have hb := F.2.1
  have hml := F.2.2.1
  have hown := F.2.2.2.1
  have hts := F.2.2.2.2.1
  have hl : lv_has ls 5 [(0, .ref (A (20 + i))), (1, .ref (A (200 + h))), (2, .int (nI mo))] := hl
  have fh_h : C (200 + h) = some (.inr (2, [.int (nI h), .int (nI (lc_hh B h)), .long (lc_hp B h), .ref (A (100 + lc_ho B h)), .ref (A (100 + lc_hx B h)), .long (lc_hr B h), .long (lc_dig B h), .int (nI (lc_sg B h))])) := hDB.2.1 h hh
  have hfp := lc_upf (h := h) hf
  have hgp := lc_upg hg hh
  refine lv_aload_n hx hb dX0_keep_0 rfl (lv_at hl 0 rfl) ?_
  refine wg_get F hP f20i rfl iw_X0 0 (by decide) tb_112 rfl rfl dX0_keep_1 ?_
  refine lv_aload_n hx hb dX0_keep_4 rfl (lv_at hl 1 rfl) ?_
  refine wg_cv hS (wg_rVN (As := [.ref (A (200 + h))]) (rest := []) F hP hS (c_X3_add l E A C (24 + i) (28 + i) 11 n (200 + h) f _ (by omega) (by decide) (by omega) (by omega) (by omega) f24i f28i fh_h) ok_X3_add nb_345 rfl rfl ⟨Nat.le_of_ble_eq_true rfl, Nat.le_of_ble_eq_true rfl⟩ f24i rfl rfl rfl hl.1 rfl (Nat.le_of_ble_eq_true rfl) dX0_keep_5 ⟨Nat.le_of_ble_eq_true rfl, Nat.le_of_ble_eq_true rfl⟩) (fun A1 C_5 H locs w_5 hP hS => ?_)
  obtain ⟨rfl, hC_5⟩ := w_5
  have f20i_c5 : C_5 (20 + i) = some (.inr (0, [.ref (A (24 + i)), .int co, .int rb, .int ra])) := by rw [hC_5]; rw [va_up_ne _ _ (by omega)]; rw [va_up_ne _ _ (by omega)]; exact f20i
  have f24i_c5 : C_5 (24 + i) = some (.inr (3, [.ref (A (28 + i)), .int (nI (n + 1))])) := by rw [hC_5]; exact va_up_self _ _ _
  have f28i_c5 : C_5 (28 + i) = some (.inl (E.2.1 4, 11, .inr (.inr (.inr (.inr (va_up f n (some (A (200 + h))))))))) := by rw [hC_5]; rw [va_up_ne _ _ (by omega)]; exact va_up_self _ _ _
  have fh_h_c5 : C_5 (200 + h) = some (.inr (2, [.int (nI h), .int (nI (lc_hh B h)), .long (lc_hp B h), .ref (A (100 + lc_ho B h)), .ref (A (100 + lc_hx B h)), .long (lc_hr B h), .long (lc_dig B h), .int (nI (lc_sg B h))])) := by rw [hC_5]; rw [va_up_ne _ _ (by omega)]; rw [va_up_ne _ _ (by omega)]; exact fh_h
  refine lv_aload_n hx hb dX0_keep_8 rfl (lv_at hl 0 rfl) ?_
  refine wg_get F hP f20i_c5 rfl iw_X0 0 (by decide) tb_112 rfl rfl dX0_keep_9 ?_
  refine wg_getN F hP f24i_c5 rfl iw_X3 1 (by decide) nb_35 rfl rfl dX0_keep_12 ?_
  refine lv_iload_n hx hb dX0_keep_15 rfl (lv_at hl 2 rfl) ?_
  refine lv_isub hx hb dX0_keep_16 ?_
  refine lv_topi (fun x_17 ex_17 => ?_)
  refine lv_istore_n (lv' := [(3, .int x_17), (0, .ref (A (20 + i))), (1, .ref (A (200 + h))), (2, .int (nI mo))]) hx hb dX0_keep_17 rfl hl (by decide) rfl (fun ls hl => ?_)
  have hgo : 0 < x_17 ↔ mo < n + 1 := by rw [ex_17]; exact lc_rise0 (by omega) (by omega)
  refine lv_iload_n hx hb dX0_keep_18 rfl (lv_at hl 0 rfl) ?_
  refine lv_if_gt (tgt := 23) hx hb dX0_keep_19 (by decide) (fun c_19 => ?_) (fun c_19 => ?_)
  · rw [hgo] at c_19
    have ex3 : x_17 = nI (n + 1 - mo) := by rw [ex_17, pk_sub (by omega)]
    have hkn : lc_kn n mo = mo := if_neg (by omega)
    refine lv_iconst (v := 1) hx hb dX0_keep_23 (by decide) ?_
    refine lv_istore (lv' := [(4, .int 1), (3, .int x_17), (0, .ref (A (20 + i))), (1, .ref (A (200 + h))), (2, .int (nI mo))]) hx hb dX0_keep_24 hl (by decide) rfl (fun ls hl => ?_)
    have loop_26 : ∀ (fuel : Nat) (j : Nat) (x4 : Int32) (fi : Nat → Option Nat), mo - j < fuel → (1 ≤ j) → (j ≤ mo) → (x4 = nI j) → (∀ k, k < n + 1 → fi k = (if 1 ≤ k ∧ k < j then (va_up f n (some (A (200 + h)))) (k + (n + 1 - mo)) else (va_up f n (some (A (200 + h)))) k)) → ∀ (Cw : wg_C) , Cw (20 + i) = some (.inr (0, [.ref (A (24 + i)), .int co, .int rb, .int ra])) → Cw (24 + i) = some (.inr (3, [.ref (A (28 + i)), .int (nI (n + 1))])) → Cw (28 + i) = some (.inl (E.2.1 4, 11, .inr (.inr (.inr (.inr fi))))) → (∀ r, r ≠ 24 + i → r ≠ 28 + i → Cw r = C r) → ∀ (H : Heap) (locs : List Loc) (ls : Array Slot), wg_P E A Cw H → va_S (wg_A E) s.heap H locs → lv_has ls 5 [(0, .ref (A (20 + i))), (2, .int (nI mo)), (3, .int x_17), (4, .int x4)] → W p l e (wg_rm 2 0 0) s m ([.ref (A (20 + i)), .ref (A (200 + h)), .int (nI mo)] : List Value).toArray below meth c H locs 0 0 (MQ below (wg_Qv E (fun A1 C1 => A = A1 ∧ (∀ r, r ≠ 24 + i → r ≠ 28 + i → C1 r = C r) ∧ C1 (24 + i) = some (.inr (3, [.ref (A (28 + i)), .int (nI (lc_kn n mo))])) ∧ ∃ f1 : Nat → Option Nat, C1 (28 + i) = some (.inl (E.2.1 4, 11, .inr (.inr (.inr (.inr f1))))) ∧ ∀ j, j < lc_kn n mo → f1 j = some (A (200 + lc_kg n mo g h j)))) ([.ref (A (20 + i)), .ref (A (200 + h)), .int (nI mo)] : List Value).toArray s 0 0 (wg_A E)) (F0 m 26 ls []) := by
      intro fuel
      induction fuel with
      | zero => intro j x4 fi hm; exact absurd hm (Nat.not_lt_zero _)
      | succ fuel ih_loop_26 =>
        intro j x4 fi hm_loop_26 hj1 hj ex4 hfi Cw f20iw f24iw f28iw hbase H locs ls hP hS hl
        subst ex4
        have hDBw : lc_DB A Cw B := hDB.same (fun r h1 h2 => hbase r (by omega) (by omega))
        refine lv_iload hx hb dX0_keep_26 (lv_at hl 3 rfl) ?_
        refine lv_iload_n hx hb dX0_keep_28 rfl (lv_at hl 1 rfl) ?_
        refine lv_icmp_ge (tgt := 58) hx hb dX0_keep_29 (by decide) (fun c_29 => ?_) (fun c_29 => ?_)
        · rw [nI_leI (by omega) (by omega)] at c_29
          have hje : j = mo := by omega
          refine lv_aload_n hx hb dX0_keep_58 rfl (lv_at hl 0 rfl) ?_
          refine wg_get F hP f20iw rfl iw_X0 0 (by decide) tb_112 rfl rfl dX0_keep_59 ?_
          refine lv_iload_n hx hb dX0_keep_62 rfl (lv_at hl 1 rfl) ?_
          refine wg_cv hS (wg_rVN (As := [.int (nI mo)]) (rest := []) F hP hS (c_X3_cutTo l E A Cw (24 + i) (28 + i) (n + 1) mo (by omega) (by omega) f24iw) ok_X3_cutTo nb_338 rfl rfl ⟨Nat.le_of_ble_eq_true rfl, Nat.le_of_ble_eq_true rfl⟩ f24iw rfl rfl rfl hl.1 rfl (Nat.le_of_ble_eq_true rfl) dX0_keep_63 ⟨Nat.le_of_ble_eq_true rfl, Nat.le_of_ble_eq_true rfl⟩) (fun A1 C_63 H locs w_63 hP hS => ?_)
          obtain ⟨rfl, hC_63⟩ := w_63
          have f20iw_c63 : C_63 (20 + i) = some (.inr (0, [.ref (A (24 + i)), .int co, .int rb, .int ra])) := by rw [hC_63]; rw [va_up_ne _ _ (by omega)]; exact f20iw
          have f24iw_c63 : C_63 (24 + i) = some (.inr (3, [.ref (A (28 + i)), .int (nI mo)])) := by rw [hC_63]; exact va_up_self _ _ _
          have f28iw_c63 : C_63 (28 + i) = some (.inl (E.2.1 4, 11, .inr (.inr (.inr (.inr fi))))) := by rw [hC_63]; rw [va_up_ne _ _ (by omega)]; exact f28iw
          exact wg_vret F hP hS hr hlk (⟨rfl, fun r h2 h3 => by rw [hC_63, va_up_ne _ _ h2, hbase r h2 h3], by rw [hkn]; exact f24iw_c63, _, f28iw_c63, fun k hk => by rw [hkn] at hk; exact lc_keepend (by omega) hje hk hfp hfi⟩) dX0_keep_66
        · rw [nI_leI (by omega) (by omega)] at c_29
          refine lv_aload_n hx hb dX0_keep_32 rfl (lv_at hl 0 rfl) ?_
          refine wg_get F hP f20iw rfl iw_X0 0 (by decide) tb_112 rfl rfl dX0_keep_33 ?_
          refine lv_iload hx hb dX0_keep_36 (lv_at hl 3 rfl) ?_
          refine lv_aload_n hx hb dX0_keep_38 rfl (lv_at hl 0 rfl) ?_
          refine wg_get F hP f20iw rfl iw_X0 0 (by decide) tb_112 rfl rfl dX0_keep_39 ?_
          refine lv_iload hx hb dX0_keep_42 (lv_at hl 3 rfl) ?_
          refine lv_iload_n hx hb dX0_keep_44 rfl (lv_at hl 2 rfl) ?_
          refine lv_iadd hx hb dX0_keep_45 ?_
          refine wg_cq hS (wg_rVN (As := [.int ((nI j) + x_17)]) (rest := [.int (nI j), .ref (A (24 + i))]) F hP hS (c_X3_at l E A Cw (24 + i) (28 + i) 11 (n + 1) fi _ (by omega) (by decide) f24iw f28iw) ok_X3_at nb_354 rfl rfl ⟨Nat.le_of_ble_eq_true rfl, Nat.le_of_ble_eq_true rfl⟩ f24iw rfl rfl rfl hl.1 rfl (Nat.le_of_ble_eq_true rfl) dX0_keep_46 ⟨Nat.le_of_ble_eq_true rfl, Nat.le_of_ble_eq_true rfl⟩) (fun r_46 A1 C_46 H locs w_46 hP hS => ?_)
          obtain ⟨w_46, rfl, rfl⟩ := w_46
          refine wg_some (w_46.trans (by rw [ex3, nI_add, lc_at_in (by omega) (by omega), hfi _ (by omega), if_neg (by omega), hfp _ (by omega)])) ?_
          have fh_g : Cw (200 + va_up g n h (j + (n + 1 - mo))) = some (.inr (2, [.int (nI (va_up g n h (j + (n + 1 - mo)))), .int (nI (lc_hh B (va_up g n h (j + (n + 1 - mo))))), .long (lc_hp B (va_up g n h (j + (n + 1 - mo)))), .ref (A (100 + lc_ho B (va_up g n h (j + (n + 1 - mo))))), .ref (A (100 + lc_hx B (va_up g n h (j + (n + 1 - mo))))), .long (lc_hr B (va_up g n h (j + (n + 1 - mo)))), .long (lc_dig B (va_up g n h (j + (n + 1 - mo)))), .int (nI (lc_sg B (va_up g n h (j + (n + 1 - mo)))))])) := hDBw.2.1 _ (hgp _ (by omega))
          refine wg_cv hS (wg_rVN (As := [.int (nI j), .ref (A (200 + va_up g n h (j + (n + 1 - mo))))]) (rest := []) F hP hS (c_X3_put l E A Cw (24 + i) (28 + i) 11 (n + 1) (200 + va_up g n h (j + (n + 1 - mo))) j fi _ (by omega) (by omega) (by decide) (by omega) (by omega) f24iw f28iw fh_g) ok_X3_put nb_375 rfl rfl ⟨Nat.le_of_ble_eq_true rfl, Nat.le_of_ble_eq_true rfl⟩ f24iw rfl rfl rfl hl.1 rfl (Nat.le_of_ble_eq_true rfl) dX0_keep_49 ⟨Nat.le_of_ble_eq_true rfl, Nat.le_of_ble_eq_true rfl⟩) (fun A1 C_49 H locs w_49 hP hS => ?_)
          obtain ⟨rfl, hC_49⟩ := w_49
          have f20iw_c49 : C_49 (20 + i) = some (.inr (0, [.ref (A (24 + i)), .int co, .int rb, .int ra])) := by rw [hC_49]; rw [va_up_ne _ _ (by omega)]; exact f20iw
          have f24iw_c49 : C_49 (24 + i) = some (.inr (3, [.ref (A (28 + i)), .int (nI (n + 1))])) := by rw [hC_49]; rw [va_up_ne _ _ (by omega)]; exact f24iw
          have f28iw_c49 : C_49 (28 + i) = some (.inl (E.2.1 4, 11, .inr (.inr (.inr (.inr (va_up fi j (some (A (200 + va_up g n h (j + (n + 1 - mo))))))))))) := by rw [hC_49]; exact va_up_self _ _ _
          have fh_g_c49 : C_49 (200 + va_up g n h (j + (n + 1 - mo))) = some (.inr (2, [.int (nI (va_up g n h (j + (n + 1 - mo)))), .int (nI (lc_hh B (va_up g n h (j + (n + 1 - mo))))), .long (lc_hp B (va_up g n h (j + (n + 1 - mo)))), .ref (A (100 + lc_ho B (va_up g n h (j + (n + 1 - mo))))), .ref (A (100 + lc_hx B (va_up g n h (j + (n + 1 - mo))))), .long (lc_hr B (va_up g n h (j + (n + 1 - mo)))), .long (lc_dig B (va_up g n h (j + (n + 1 - mo)))), .int (nI (lc_sg B (va_up g n h (j + (n + 1 - mo)))))])) := by rw [hC_49]; rw [va_up_ne _ _ (by omega)]; exact fh_g
          have hfn := lc_keepstep (A := A) (f := f) (g := g) (h := h) (by omega) (by omega) (by omega) hfp hfi
          obtain ⟨x_52, ex_52⟩ : ∃ y : Int32, y = nI j + 1 := ⟨_, rfl⟩
          refine lv_iinc (v := x_52) (lv' := [(4, .int x_52), (0, .ref (A (20 + i))), (2, .int (nI mo)), (3, .int x_17)]) hx hb dX0_keep_52 hl (k := 3) rfl (by rw [ex_52]; rfl) (by decide) rfl (fun ls hl => ?_)
          refine lv_goto (tgt := 26) hx hb dX0_keep_55 (by decide) ?_
          exact ih_loop_26 (j + 1) x_52 (va_up fi j (some (A (200 + va_up g n h (j + (n + 1 - mo)))))) (by omega) (by omega) (by omega) (by rw [ex_52, nI_1]) hfn C_49 f20iw_c49 f24iw_c49 f28iw_c49 (fun r h2 h3 => by rw [hC_49, va_up_ne _ _ h3, hbase r h2 h3]) _ _ _ hP hS (lv_sub hl [1, 2, 3, 0] rfl)
    exact loop_26 _ 1 1 (va_up f n (some (A (200 + h)))) (Nat.lt_succ_self _) (Nat.le_refl 1) hm1 rfl (fun k hk => by rw [if_neg (by omega)]) C_5 f20i_c5 f24i_c5 f28i_c5 (fun r h2 h3 => by rw [hC_5, va_up_ne _ _ h2, va_up_ne _ _ h3]) _ _ _ hP hS (lv_sub hl [2, 4, 1, 0] rfl)
  · rw [hgo] at c_19
    have hkn : lc_kn n mo = n + 1 := if_pos (by omega)
    exact wg_vret F hP hS hr hlk (⟨rfl, fun r h2 h3 => by rw [hC_5, va_up_ne _ _ h2, va_up_ne _ _ h3], by rw [hkn]; exact f24i_c5, _, f28i_c5, fun j hj => by rw [hkn] at hj; rw [hfp j hj]; unfold lc_kg; rw [if_pos (by omega)]⟩) dX0_keep_22
set_option maxHeartbeats 4000000 in
set_option maxRecDepth 100000 in
theorem c_X1_replace (l : Launch) (E : wg_E) (A : Nat → Nat) (C : wg_C) (i n : Nat) (f : Nat → Option Nat) (g : Nat → Nat) (B : lc_B) (h : Nat) (hi : i < 4) (hn : n ≤ 60) (hf : ∀ j, j < n → f j = some (A (200 + g j))) (hg : ∀ j, j < n → g j < lc_nh B) (hDB : lc_DB A C B) (hh : h < lc_nh B) (hroom : lc_pl (fun k => lc_hh B (g k)) (lc_hh B h) n = none → n < 60) (f32i : C (32 + i) = some (.inr (1, [.ref (A (36 + i))]))) (f36i : C (36 + i) = some (.inr (3, [.ref (A (40 + i)), .int (nI n)]))) (f40i : C (40 + i) = some (.inl (E.2.1 4, 60, .inr (.inr (.inr (.inr f)))))) : Met l yX1_replace (wg_ws yX1_replace cX1_replace 4 (some (.object "LightChecks$Head"))) (wg_rm 2 0 0) (wg_Pc E A C [.ref (A (32 + i)), .ref (A (200 + h))]) (wg_Qq E (fun r A1 C1 => r = (lc_pl (fun k => lc_hh B (g k)) (lc_hh B h) n).map (fun k => A (200 + g k)) ∧ A = A1 ∧ (∀ r, r ≠ 36 + i → r ≠ 40 + i → C1 r = C r) ∧ C1 (36 + i) = some (.inr (3, [.ref (A (40 + i)), .int (nI (lc_gn n (lc_pl (fun k => lc_hh B (g k)) (lc_hh B h) n)))])) ∧ ∃ f1 : Nat → Option Nat, C1 (40 + i) = some (.inl (E.2.1 4, 60, .inr (.inr (.inr (.inr f1))))) ∧ ∀ j, j < lc_gn n (lc_pl (fun k => lc_hh B (g k)) (lc_hh B h) n) → f1 j = some (A (200 + lc_gg n g h (lc_pl (fun k => lc_hh B (g k)) (lc_hh B h) n) j)))) 0 0 (wg_A E) := by
  refine wg_met (by decide) (Nat.le_of_ble_eq_true rfl) ?_
  intro p e s m below meth c ls F hr hlk hnm hP hS hl
  have F : wg_F p m c cX1_replace 4 s ([.ref (A (32 + i)), .ref (A (200 + h))] : List Value).toArray "LightChecks$Giver" E := F
  have hx := F.1
  have hb := F.2.1
  have hml := F.2.2.1
  have hown := F.2.2.2.1
  have hts := F.2.2.2.2.1
  have hl : lv_has ls 4 [(0, .ref (A (32 + i))), (1, .ref (A (200 + h)))] := hl
  have fh_h : C (200 + h) = some (.inr (2, [.int (nI h), .int (nI (lc_hh B h)), .long (lc_hp B h), .ref (A (100 + lc_ho B h)), .ref (A (100 + lc_hx B h)), .long (lc_hr B h), .long (lc_dig B h), .int (nI (lc_sg B h))])) := hDB.2.1 h hh
  obtain ⟨hq1_h, hq2_h, hq3_h, hq4_h⟩ := hDB.2.2.2.2.2 h hh
  have fo_h : C (100 + lc_ho B h) = some (.inr (6, [.int (nI (lc_ho B h)), .long (lN (lc_sa B (lc_ho B h))), .long (lN (lc_sb B (lc_ho B h))), .int (nI (lc_tot (lc_sa B (lc_ho B h)) (lc_sb B (lc_ho B h))))])) := hDB.1 _ hq2_h
  have fx_h : C (100 + lc_hx B h) = some (.inr (6, [.int (nI (lc_hx B h)), .long (lN (lc_sa B (lc_hx B h))), .long (lN (lc_sb B (lc_hx B h))), .int (nI (lc_tot (lc_sa B (lc_hx B h)) (lc_sb B (lc_hx B h))))])) := hDB.1 _ hq3_h
  refine lv_aload_n hx hb dX1_replace_0 rfl (lv_at hl 0 rfl) ?_
  refine lv_aload_n hx hb dX1_replace_1 rfl (lv_at hl 1 rfl) ?_
  refine wg_getN F hP fh_h rfl iw_X2 1 (by decide) nb_249 rfl rfl dX1_replace_2 ?_
  refine wg_ci hS (wg_rV (As := [.int (nI (lc_hh B h))]) (rest := []) F hP hS (c_X1_placeOf l E A C i n f g B (lc_hh B h) hn hf hg hDB (by omega) f32i f36i f40i) ok_X1_placeOf tb_391 rfl rfl ⟨Nat.le_of_ble_eq_true rfl, Nat.le_of_ble_eq_true rfl⟩ f32i rfl rfl rfl hl.1 rfl (Nat.le_of_ble_eq_true rfl) dX1_replace_5 ⟨Nat.le_of_ble_eq_true rfl, Nat.le_of_ble_eq_true rfl⟩) (fun r_5 A1 C_5 H locs w_5 hP hS => ?_)
  obtain ⟨w_5, rfl, rfl⟩ := w_5
  refine lv_istore_n (lv' := [(2, .int r_5), (0, .ref (A (32 + i))), (1, .ref (A (200 + h)))]) hx hb dX1_replace_8 rfl hl (by decide) rfl (fun ls hl => ?_)
  refine lv_aload_n hx hb dX1_replace_9 rfl (lv_at hl 1 rfl) ?_
  refine wg_get F hP f32i rfl iw_X1 0 (by decide) tb_136 rfl rfl dX1_replace_10 ?_
  refine lv_iload_n hx hb dX1_replace_13 rfl (lv_at hl 0 rfl) ?_
  refine wg_cq hS (wg_rVN (As := [.int r_5]) (rest := []) F hP hS (c_X3_at l E A C (36 + i) (40 + i) 60 n f _ hn (by decide) f36i f40i) ok_X3_at nb_395 rfl rfl ⟨Nat.le_of_ble_eq_true rfl, Nat.le_of_ble_eq_true rfl⟩ f36i rfl rfl rfl hl.1 rfl (Nat.le_of_ble_eq_true rfl) dX1_replace_14 ⟨Nat.le_of_ble_eq_true rfl, Nat.le_of_ble_eq_true rfl⟩) (fun r_14 A1 C_14 H locs w_14 hP hS => ?_)
  obtain ⟨w_14, rfl, rfl⟩ := w_14
  have w2 : r_14 = (lc_pl (fun k => lc_hh B (g k)) (lc_hh B h) n).map (fun k => A (200 + g k)) := by rw [w_14, w_5]; exact lc_headAt hn hf
  rcases hpl : lc_pl (fun k => lc_hh B (g k)) (lc_hh B h) n with _ | j
  · have hrm := hroom hpl
    refine wg_none (by rw [w2, hpl]; rfl) ?_
    refine lv_astore_nN (lv' := [(3, .null), (2, .int r_5), (0, .ref (A (32 + i))), (1, .ref (A (200 + h)))]) hx hb dX1_replace_17 rfl hl (by decide) rfl (fun ls hl => ?_)
    refine lv_aload_nN hx hb dX1_replace_18 rfl (lv_at hl 0 rfl) ?_
    refine lv_ifnonnullN hx hb dX1_replace_19 ?_
    refine lv_aload_n hx hb dX1_replace_22 rfl (lv_at hl 2 rfl) ?_
    refine wg_get F hP f32i rfl iw_X1 0 (by decide) tb_136 rfl rfl dX1_replace_23 ?_
    refine lv_aload_n hx hb dX1_replace_26 rfl (lv_at hl 3 rfl) ?_
    refine wg_cv hS (wg_rVN (As := [.ref (A (200 + h))]) (rest := []) F hP hS (c_X3_add l E A C (36 + i) (40 + i) 60 n (200 + h) f _ (by omega) (by decide) (by omega) (by omega) (by omega) f36i f40i fh_h) ok_X3_add nb_396 rfl rfl ⟨Nat.le_of_ble_eq_true rfl, Nat.le_of_ble_eq_true rfl⟩ f36i rfl rfl rfl hl.1 rfl (Nat.le_of_ble_eq_true rfl) dX1_replace_27 ⟨Nat.le_of_ble_eq_true rfl, Nat.le_of_ble_eq_true rfl⟩) (fun A1 C_27 H locs w_27 hP hS => ?_)
    obtain ⟨rfl, hC_27⟩ := w_27
    have f32i_c27 : C_27 (32 + i) = some (.inr (1, [.ref (A (36 + i))])) := by rw [hC_27]; rw [va_up_ne _ _ (by omega)]; rw [va_up_ne _ _ (by omega)]; exact f32i
    have f36i_c27 : C_27 (36 + i) = some (.inr (3, [.ref (A (40 + i)), .int (nI (n + 1))])) := by rw [hC_27]; exact va_up_self _ _ _
    have f40i_c27 : C_27 (40 + i) = some (.inl (E.2.1 4, 60, .inr (.inr (.inr (.inr (va_up f n (some (A (200 + h))))))))) := by rw [hC_27]; rw [va_up_ne _ _ (by omega)]; exact va_up_self _ _ _
    have fh_h_c27 : C_27 (200 + h) = some (.inr (2, [.int (nI h), .int (nI (lc_hh B h)), .long (lc_hp B h), .ref (A (100 + lc_ho B h)), .ref (A (100 + lc_hx B h)), .long (lc_hr B h), .long (lc_dig B h), .int (nI (lc_sg B h))])) := by rw [hC_27]; rw [va_up_ne _ _ (by omega)]; rw [va_up_ne _ _ (by omega)]; exact fh_h
    have fo_h_c27 : C_27 (100 + lc_ho B h) = some (.inr (6, [.int (nI (lc_ho B h)), .long (lN (lc_sa B (lc_ho B h))), .long (lN (lc_sb B (lc_ho B h))), .int (nI (lc_tot (lc_sa B (lc_ho B h)) (lc_sb B (lc_ho B h))))])) := by rw [hC_27]; rw [va_up_ne _ _ (by omega)]; rw [va_up_ne _ _ (by omega)]; exact fo_h
    have fx_h_c27 : C_27 (100 + lc_hx B h) = some (.inr (6, [.int (nI (lc_hx B h)), .long (lN (lc_sa B (lc_hx B h))), .long (lN (lc_sb B (lc_hx B h))), .int (nI (lc_tot (lc_sa B (lc_hx B h)) (lc_sb B (lc_hx B h))))])) := by rw [hC_27]; rw [va_up_ne _ _ (by omega)]; rw [va_up_ne _ _ (by omega)]; exact fx_h
    refine lv_goto (tgt := 42) hx hb dX1_replace_30 (by decide) ?_
    refine lv_aload_nN hx hb dX1_replace_42 rfl (lv_at hl 0 rfl) ?_
    exact wg_qret (v := none) F hP hS hr ⟨_, rfl⟩ hlk (⟨rfl, rfl, fun r h2 h3 => by rw [hC_27, va_up_ne _ _ h2, va_up_ne _ _ h3], f36i_c27, _, f40i_c27, fun k hk => lc_upf (h := h) hf k hk⟩) dX1_replace_43
  · have hjn := (lc_pl_of hpl).1
    have e5 : r_5 = nI j := by rw [w_5, hpl]; rfl
    refine wg_some (x := A (200 + g j)) (by rw [w2, hpl]; rfl) ?_
    refine lv_astore_n (lv' := [(3, .ref (A (200 + g j))), (2, .int r_5), (0, .ref (A (32 + i))), (1, .ref (A (200 + h)))]) hx hb dX1_replace_17 rfl hl (by decide) rfl (fun ls hl => ?_)
    refine lv_aload_n hx hb dX1_replace_18 rfl (lv_at hl 0 rfl) ?_
    refine lv_ifnonnull (tgt := 33) hx hb dX1_replace_19 (by decide) ?_
    subst e5
    refine lv_aload_n hx hb dX1_replace_33 rfl (lv_at hl 2 rfl) ?_
    refine wg_get F hP f32i rfl iw_X1 0 (by decide) tb_136 rfl rfl dX1_replace_34 ?_
    refine lv_iload_n hx hb dX1_replace_37 rfl (lv_at hl 1 rfl) ?_
    refine lv_aload_n hx hb dX1_replace_38 rfl (lv_at hl 3 rfl) ?_
    refine wg_cv hS (wg_rVN (As := [.int (nI j), .ref (A (200 + h))]) (rest := []) F hP hS (c_X3_put l E A C (36 + i) (40 + i) 60 n (200 + h) j f _ hjn hn (by decide) (by omega) (by omega) f36i f40i fh_h) ok_X3_put nb_397 rfl rfl ⟨Nat.le_of_ble_eq_true rfl, Nat.le_of_ble_eq_true rfl⟩ f36i rfl rfl rfl hl.1 rfl (Nat.le_of_ble_eq_true rfl) dX1_replace_39 ⟨Nat.le_of_ble_eq_true rfl, Nat.le_of_ble_eq_true rfl⟩) (fun A1 C_39 H locs w_39 hP hS => ?_)
    obtain ⟨rfl, hC_39⟩ := w_39
    have f32i_c39 : C_39 (32 + i) = some (.inr (1, [.ref (A (36 + i))])) := by rw [hC_39]; rw [va_up_ne _ _ (by omega)]; exact f32i
    have f36i_c39 : C_39 (36 + i) = some (.inr (3, [.ref (A (40 + i)), .int (nI n)])) := by rw [hC_39]; rw [va_up_ne _ _ (by omega)]; exact f36i
    have f40i_c39 : C_39 (40 + i) = some (.inl (E.2.1 4, 60, .inr (.inr (.inr (.inr (va_up f j (some (A (200 + h))))))))) := by rw [hC_39]; exact va_up_self _ _ _
    have fh_h_c39 : C_39 (200 + h) = some (.inr (2, [.int (nI h), .int (nI (lc_hh B h)), .long (lc_hp B h), .ref (A (100 + lc_ho B h)), .ref (A (100 + lc_hx B h)), .long (lc_hr B h), .long (lc_dig B h), .int (nI (lc_sg B h))])) := by rw [hC_39]; rw [va_up_ne _ _ (by omega)]; exact fh_h
    have fo_h_c39 : C_39 (100 + lc_ho B h) = some (.inr (6, [.int (nI (lc_ho B h)), .long (lN (lc_sa B (lc_ho B h))), .long (lN (lc_sb B (lc_ho B h))), .int (nI (lc_tot (lc_sa B (lc_ho B h)) (lc_sb B (lc_ho B h))))])) := by rw [hC_39]; rw [va_up_ne _ _ (by omega)]; exact fo_h
    have fx_h_c39 : C_39 (100 + lc_hx B h) = some (.inr (6, [.int (nI (lc_hx B h)), .long (lN (lc_sa B (lc_hx B h))), .long (lN (lc_sb B (lc_hx B h))), .int (nI (lc_tot (lc_sa B (lc_hx B h)) (lc_sb B (lc_hx B h))))])) := by rw [hC_39]; rw [va_up_ne _ _ (by omega)]; exact fx_h
    refine lv_aload_n hx hb dX1_replace_42 rfl (lv_at hl 0 rfl) ?_
    exact wg_qret (v := some (A (200 + g j))) F hP hS hr ⟨_, rfl⟩ hlk (⟨rfl, rfl, fun r h2 h3 => by rw [hC_39, va_up_ne _ _ h3], f36i_c39, _, f40i_c39, fun k hk => lc_updp (h := h) hf k hk⟩) dX1_replace_43
end
section
/-! THE TREE: its nodes out of its leaves, level by level -/
def lc_n3 (lf : Nat → Int64) (k : Nat) : Int64 := lc_mix (lf (k - 8))
def lc_n2 (lf : Nat → Int64) (k : Nat) : Int64 := lc_pair (lc_n3 lf (2 * k)) (lc_n3 lf (2 * k + 1))
def lc_n1 (lf : Nat → Int64) (k : Nat) : Int64 := lc_pair (lc_n2 lf (2 * k)) (lc_n2 lf (2 * k + 1))
def lc_n0 (lf : Nat → Int64) (k : Nat) : Int64 := lc_pair (lc_n1 lf (2 * k)) (lc_n1 lf (2 * k + 1))
def lc_node (lf : Nat → Int64) (k : Nat) : Int64 := if 8 ≤ k then lc_n3 lf k else if 4 ≤ k then lc_n2 lf k else if 2 ≤ k then lc_n1 lf k else lc_n0 lf k
theorem lc_node_hi {lf : Nat → Int64} {k : Nat} (h : 8 ≤ k) : lc_node lf k = lc_mix (lf (k - 8)) := if_pos h
theorem lc_node_lo {lf : Nat → Int64} {k : Nat} (h1 : 1 ≤ k) (h8 : k < 8) : lc_node lf k = lc_pair (lc_node lf (2 * k)) (lc_node lf (2 * k + 1)) := by
  rcases (show k = 1 ∨ k = 2 ∨ k = 3 ∨ k = 4 ∨ k = 5 ∨ k = 6 ∨ k = 7 by omega) with rfl | rfl | rfl | rfl | rfl | rfl | rfl <;> rfl
/-! THE PROOF of two leaves: which nodes are on their ways, which beside; how many beside stand above a number; the i-th of them -/
def lc_on (a b k : Nat) : Bool := (8 + a == k || (8 + a) / 2 == k || (8 + a) / 4 == k || (8 + a) / 8 == k) || (8 + b == k || (8 + b) / 2 == k || (8 + b) / 4 == k || (8 + b) / 8 == k)
def lc_sib (k : Nat) : Nat := if k % 2 = 0 then k + 1 else k - 1
def lc_bs (a b k : Nat) : Bool := !lc_on a b k && lc_on a b (lc_sib k)
def lc_ct (a b : Nat) : Nat → Nat
  | 0 => 0
  | m + 1 => lc_ct a b m + (if lc_bs a b (15 - m) = true then 1 else 0)
/-- how many nodes beside have numbers above k -/
def lc_cnt (a b k : Nat) : Nat := lc_ct a b (15 - k)
def lc_nth (a b i : Nat) : Nat := (((List.range 14).map (fun m => 15 - m)).filter (lc_bs a b)).getD i 0
theorem lc_cnt_s (a b : Nat) {k : Nat} (h : k < 15) : lc_cnt a b k = lc_cnt a b (k + 1) + (if lc_bs a b (k + 1) = true then 1 else 0) := by
  unfold lc_cnt
  rw [show 15 - k = (15 - (k + 1)) + 1 by omega]
  simp only [lc_ct]
  rw [show 15 - (15 - (k + 1)) = k + 1 by omega]
theorem lc_all3 {n m q : Nat} {p : Nat → Nat → Nat → Bool} (h : (List.range n).all (fun a => (List.range m).all (fun b => (List.range q).all (fun k => p a b k))) = true) {a b k : Nat} (ha : a < n) (hb : b < m) (hk : k < q) : p a b k = true :=
  List.all_eq_true.mp (List.all_eq_true.mp (List.all_eq_true.mp h a (List.mem_range.mpr ha)) b (List.mem_range.mpr hb)) k (List.mem_range.mpr hk)
theorem lc_cnt_le : ∀ a, a < 8 → ∀ b, b < 8 → a ≠ b → lc_cnt a b 1 ≤ 4 := by decide +kernel
theorem lc_cnt_lt0 : (List.range 8).all (fun a => (List.range 8).all (fun b => (List.range 16).all (fun k => decide (a ≠ b ∧ 2 ≤ k ∧ lc_bs a b k = true → lc_cnt a b k < lc_cnt a b 1 ∧ lc_nth a b (lc_cnt a b k) = k)))) = true := by decide +kernel
theorem lc_cnt_lt {a b k : Nat} (ha : a < 8) (hb : b < 8) (hab : a ≠ b) (hk : k < 16) (h2 : 2 ≤ k) (h : lc_bs a b k = true) : lc_cnt a b k < lc_cnt a b 1 ∧ lc_nth a b (lc_cnt a b k) = k := of_decide_eq_true (lc_all3 lc_cnt_lt0 ha hb hk) ⟨hab, h2, h⟩
theorem lc_nth_ok0 : (List.range 8).all (fun a => (List.range 8).all (fun b => (List.range 4).all (fun i => decide (a ≠ b ∧ i < lc_cnt a b 1 → lc_bs a b (lc_nth a b i) = true ∧ lc_cnt a b (lc_nth a b i) = i ∧ lc_nth a b i < 16 ∧ 2 ≤ lc_nth a b i)))) = true := by decide +kernel
theorem lc_nth_ok {a b i : Nat} (ha : a < 8) (hb : b < 8) (hab : a ≠ b) (hi : i < lc_cnt a b 1) : lc_bs a b (lc_nth a b i) = true ∧ lc_cnt a b (lc_nth a b i) = i ∧ lc_nth a b i < 16 ∧ 2 ≤ lc_nth a b i := of_decide_eq_true (lc_all3 lc_nth_ok0 ha hb (show i < 4 by have := lc_cnt_le a ha b hb hab; omega)) ⟨hab, hi⟩
theorem lc_on_kids0 : (List.range 8).all (fun a => (List.range 8).all (fun b => (List.range 8).all (fun k => decide (1 ≤ k ∧ lc_on a b k = true → (lc_on a b (2 * k) = true ∨ lc_bs a b (2 * k) = true) ∧ (lc_on a b (2 * k + 1) = true ∨ lc_bs a b (2 * k + 1) = true))))) = true := by decide +kernel
theorem lc_on_kids {a b k : Nat} (ha : a < 8) (hb : b < 8) (hk : k < 8) (h1 : 1 ≤ k) (h : lc_on a b k = true) : (lc_on a b (2 * k) = true ∨ lc_bs a b (2 * k) = true) ∧ (lc_on a b (2 * k + 1) = true ∨ lc_bs a b (2 * k + 1) = true) := of_decide_eq_true (lc_all3 lc_on_kids0 ha hb hk) ⟨h1, h⟩
theorem lc_on_1 : ∀ a, a < 8 → ∀ b, b < 8 → lc_on a b 1 = true := by decide +kernel
theorem lc_on_hi : ∀ a, a < 8 → ∀ b, b < 8 → ∀ k, k < 16 → 8 ≤ k → (lc_on a b k = true ↔ k = 8 + a ∨ k = 8 + b) := by decide +kernel
theorem lc_on_iff : ∀ a, a < 8 → ∀ b, b < 8 → ∀ k, k < 17 → (lc_on a b k = true ↔ ∃ u, u < 4 ∧ ((8 + a) / 2 ^ u = k ∨ (8 + b) / 2 ^ u = k)) := by decide +kernel
theorem lc_wayshift : ∀ a, a < 8 → ∀ u, u < 4 → ((8 + nI a).toUInt32 >>> ((nI u).toUInt32 &&& Int32.toUInt32 31)).toInt32 = nI ((8 + a) / 2 ^ u) := by decide +kernel
theorem lc_xor1 : ∀ k, k < 16 → nI k ^^^ 1 = nI (lc_sib k) ∧ lc_sib k < 16 := by decide +kernel
/-- the value of a node, reckoned out of a proof: leaves x and y, its nodes pn -/
def lc_t3 (a b : Nat) (x y : Int64) (pn : Nat → Int64) (k : Nat) : Int64 := if lc_on a b k = true then lc_mix (if k = 8 + a then x else y) else pn (lc_cnt a b k)
def lc_t2 (a b : Nat) (x y : Int64) (pn : Nat → Int64) (k : Nat) : Int64 := if lc_on a b k = true then lc_pair (lc_t3 a b x y pn (2 * k)) (lc_t3 a b x y pn (2 * k + 1)) else pn (lc_cnt a b k)
def lc_t1 (a b : Nat) (x y : Int64) (pn : Nat → Int64) (k : Nat) : Int64 := if lc_on a b k = true then lc_pair (lc_t2 a b x y pn (2 * k)) (lc_t2 a b x y pn (2 * k + 1)) else pn (lc_cnt a b k)
def lc_t0 (a b : Nat) (x y : Int64) (pn : Nat → Int64) (k : Nat) : Int64 := if lc_on a b k = true then lc_pair (lc_t1 a b x y pn (2 * k)) (lc_t1 a b x y pn (2 * k + 1)) else pn (lc_cnt a b k)
def lc_tv (a b : Nat) (x y : Int64) (pn : Nat → Int64) (k : Nat) : Int64 := if 8 ≤ k then lc_t3 a b x y pn k else if 4 ≤ k then lc_t2 a b x y pn k else if 2 ≤ k then lc_t1 a b x y pn k else lc_t0 a b x y pn k
def lc_top (a b : Nat) (x y : Int64) (pn : Nat → Int64) : Int64 := lc_tv a b x y pn 1
theorem lc_tv_bs {a b : Nat} {x y : Int64} {pn : Nat → Int64} {k : Nat} (h : lc_on a b k = false) : lc_tv a b x y pn k = pn (lc_cnt a b k) := by
  have hn : ¬ lc_on a b k = true := by rw [h]; decide
  unfold lc_tv lc_t3 lc_t2 lc_t1 lc_t0
  rw [if_neg hn, if_neg hn, if_neg hn, if_neg hn]
  split
  · rfl
  · split
    · rfl
    · split <;> rfl
theorem lc_tv_hi {a b : Nat} {x y : Int64} {pn : Nat → Int64} {k : Nat} (h : lc_on a b k = true) (h8 : 8 ≤ k) : lc_tv a b x y pn k = lc_mix (if k = 8 + a then x else y) := by
  unfold lc_tv lc_t3
  rw [if_pos h8, if_pos h]
theorem lc_tv_lo {a b : Nat} {x y : Int64} {pn : Nat → Int64} {k : Nat} (h : lc_on a b k = true) (h1 : 1 ≤ k) (h8 : k < 8) : lc_tv a b x y pn k = lc_pair (lc_tv a b x y pn (2 * k)) (lc_tv a b x y pn (2 * k + 1)) := by
  rcases (show k = 1 ∨ k = 2 ∨ k = 3 ∨ k = 4 ∨ k = 5 ∨ k = 6 ∨ k = 7 by omega) with rfl | rfl | rfl | rfl | rfl | rfl | rfl <;> exact if_pos h
theorem lc_bs_off {a b k : Nat} (h : lc_bs a b k = true) : lc_on a b k = false := by
  unfold lc_bs at h
  cases q : lc_on a b k
  · rfl
  · rw [q] at h; cases h
theorem lc_dec {x : Int32} {k : Nat} (h : x = nI (k + 1) + (-1)) : x = nI k := by rw [h]; exact pk_m1 k
theorem lc_isin {j n : Nat} (hj : j < n) (hn : n < 2 ^ 31) : ¬ (nI j < 0 ∨ nI n ≤ nI j) := by
  rintro (h | h)
  · exact nI_pos (by omega) h
  · rw [nI_leI hn (by omega)] at h; omega
theorem lc_range {k : Int32} (h1 : ¬ k < 1) (h2 : ¬ nI 16 ≤ k) : ∃ j : Nat, 1 ≤ j ∧ j < 16 ∧ k = nI j := by
  have e1 : (1 : Int32).toInt = 1 := by decide
  rw [Int32.lt_iff_toInt_lt, e1] at h1
  obtain ⟨j, hj, rfl⟩ := nI_of (x := k) (by rw [Int32.lt_iff_toInt_lt, show (0 : Int32).toInt = 0 from by decide]; omega)
  rw [nI_toInt hj] at h1
  rw [nI_leI (by decide) hj] at h2
  exact ⟨j, by omega, by omega, rfl⟩
end
section
set_option maxHeartbeats 4000000 in
set_option maxRecDepth 100000 in
theorem c_X5_reckon (l : Launch) (E : wg_E) (A : Nat → Nat) (C : wg_C) (lf nd : Nat → Int64)  (f8 : C 8 = some (.inr (5, [.ref (A 9), .ref (A 10)]))) (f9 : C 9 = some (.inl (E.2.1 1, 8, .inr (.inl lf)))) (f10 : C 10 = some (.inl (E.2.1 1, 16, .inr (.inl nd)))) : Met l yX5_reckon (wg_ws yX5_reckon cX5_reckon 2 none) (wg_rm 2 0 0) (wg_Pc E A C [.ref (A 8)]) (wg_Qv E (fun A1 C1 => A = A1 ∧ (∀ r, r ≠ 10 → C1 r = C r) ∧ ∃ nd1 : Nat → Int64, C1 10 = some (.inl (E.2.1 1, 16, .inr (.inl nd1))) ∧ ∀ j, 1 ≤ j → j < 16 → nd1 j = lc_node lf j)) 0 0 (wg_A E) := by
  refine wg_met (by decide) (Nat.le_of_ble_eq_true rfl) ?_
  intro p e s m below meth c ls F hr hlk hnm hP hS hl
  have F : wg_F p m c cX5_reckon 2 s ([.ref (A 8)] : List Value).toArray "LightChecks$Tree" E := F
  have hx := F.1
  have hb := F.2.1
  have hml := F.2.2.1
  have hown := F.2.2.2.1
  have hts := F.2.2.2.2.1
  have hl : lv_has ls 2 [(0, .ref (A 8))] := hl
  refine lv_bipush (v := 15) hx hb dX5_reckon_0 (by decide) ?_
  refine lv_istore_n (lv' := [(1, .int 15), (0, .ref (A 8))]) hx hb dX5_reckon_2 rfl hl (by decide) rfl (fun ls hl => ?_)
  have loop_3 : ∀ (fuel : Nat) (k : Nat) (x1 : Int32) (fi : Nat → Int64), k < fuel → (k < 16) → (x1 = nI k) → (∀ j, k < j → j < 16 → fi j = lc_node lf j) → ∀ (Cw : wg_C) , Cw 8 = some (.inr (5, [.ref (A 9), .ref (A 10)])) → Cw 9 = some (.inl (E.2.1 1, 8, .inr (.inl lf))) → Cw 10 = some (.inl (E.2.1 1, 16, .inr (.inl fi))) → (∀ r, r ≠ 10 → Cw r = C r) → ∀ (H : Heap) (locs : List Loc) (ls : Array Slot), wg_P E A Cw H → va_S (wg_A E) s.heap H locs → lv_has ls 2 [(0, .ref (A 8)), (1, .int x1)] → W p l e (wg_rm 2 0 0) s m ([.ref (A 8)] : List Value).toArray below meth c H locs 0 0 (MQ below (wg_Qv E (fun A1 C1 => A = A1 ∧ (∀ r, r ≠ 10 → C1 r = C r) ∧ ∃ nd1 : Nat → Int64, C1 10 = some (.inl (E.2.1 1, 16, .inr (.inl nd1))) ∧ ∀ j, 1 ≤ j → j < 16 → nd1 j = lc_node lf j)) ([.ref (A 8)] : List Value).toArray s 0 0 (wg_A E)) (F0 m 3 ls []) := by
    intro fuel
    induction fuel with
    | zero => intro k x1 fi hm; exact absurd hm (Nat.not_lt_zero _)
    | succ fuel ih_loop_3 =>
      intro k x1 fi hm_loop_3 hk ex1 hfi Cw f8w f9w f10w hbase H locs ls hP hS hl
      subst ex1
      refine lv_iload_n hx hb dX5_reckon_3 rfl (lv_at hl 1 rfl) ?_
      refine lv_iconst (v := 1) hx hb dX5_reckon_4 (by decide) ?_
      refine lv_icmp_lt (tgt := 62) hx hb dX5_reckon_5 (by decide) (fun c_5 => ?_) (fun c_5 => ?_)
      · have hk0 : k = 0 := by rw [show (1 : Int32) = nI 1 from rfl, nI_ltI (by omega) (by decide)] at c_5; omega
        subst hk0
        exact wg_vret F hP hS hr hlk (⟨rfl, fun r h2 => by rw [hbase r h2], _, f10w, fun j h1 h2 => hfi j (by omega) h2⟩) dX5_reckon_62
      · have hk1 : 1 ≤ k := by rw [show (1 : Int32) = nI 1 from rfl, nI_ltI (by omega) (by decide)] at c_5; omega
        obtain ⟨k, rfl⟩ : ∃ q, k = q + 1 := ⟨k - 1, by omega⟩
        refine lv_aload_n hx hb dX5_reckon_8 rfl (lv_at hl 0 rfl) ?_
        refine wg_get F hP f8w rfl iw_X5 1 (by decide) tb_68 rfl rfl dX5_reckon_9 ?_
        refine lv_iload_n hx hb dX5_reckon_12 rfl (lv_at hl 1 rfl) ?_
        refine lv_iload_n hx hb dX5_reckon_13 rfl (lv_at hl 1 rfl) ?_
        refine lv_bipush (v := 8) hx hb dX5_reckon_14 (by decide) ?_
        refine lv_icmp_lt (tgt := 34) hx hb dX5_reckon_16 (by decide) (fun c_16 => ?_) (fun c_16 => ?_)
        · have hk8 : k + 1 < 8 := by rw [show (8 : Int32) = nI 8 from rfl, nI_ltI (by omega) (by decide)] at c_16; exact c_16
          have e2 : (2 : Int32) * nI (k + 1) = nI (2 * (k + 1)) := by rw [show (2 : Int32) = nI 2 from rfl, pk_mul]
          have e3 : nI (2 * (k + 1)) + 1 = nI (2 * (k + 1) + 1) := nI_1 _
          refine lv_aload_n hx hb dX5_reckon_34 rfl (lv_at hl 0 rfl) ?_
          refine wg_get F hP f8w rfl iw_X5 1 (by decide) tb_68 rfl rfl dX5_reckon_35 ?_
          refine lv_iconst (v := 2) hx hb dX5_reckon_38 (by decide) ?_
          refine lv_iload_n hx hb dX5_reckon_39 rfl (lv_at hl 1 rfl) ?_
          refine lv_imul hx hb dX5_reckon_40 ?_
          refine wg_lld F hP f10w (by rw [e2]; exact vp_in_nI (by omega) (by decide)) dX5_reckon_41 ?_
          refine wg_topl (y := lc_node lf (2 * (k + 1))) (by rw [e2, nI_clamp (by omega)]; exact hfi _ (by omega) (by omega)) ?_
          refine lv_aload_n hx hb dX5_reckon_42 rfl (lv_at hl 0 rfl) ?_
          refine wg_get F hP f8w rfl iw_X5 1 (by decide) tb_68 rfl rfl dX5_reckon_43 ?_
          refine lv_iconst (v := 2) hx hb dX5_reckon_46 (by decide) ?_
          refine lv_iload_n hx hb dX5_reckon_47 rfl (lv_at hl 1 rfl) ?_
          refine lv_imul hx hb dX5_reckon_48 ?_
          refine lv_iconst (v := 1) hx hb dX5_reckon_49 (by decide) ?_
          refine lv_iadd hx hb dX5_reckon_50 ?_
          refine wg_lld F hP f10w (by rw [e2, e3]; exact vp_in_nI (by omega) (by decide)) dX5_reckon_51 ?_
          refine wg_topl (y := lc_node lf (2 * (k + 1) + 1)) (by rw [e2, e3, nI_clamp (by omega)]; exact hfi _ (by omega) (by omega)) ?_
          refine wg_cl_ hS (wg_rSN (As := [.long (lc_node lf (2 * (k + 1))), .long (lc_node lf (2 * (k + 1) + 1))]) (rest := [.int (nI (k + 1)), .ref (A 10)]) F hP hS (c_X7_pair l E A Cw _ _) ok_X7_pair nb_61 rfl rfl ⟨Nat.le_of_ble_eq_true rfl, Nat.le_of_ble_eq_true rfl⟩ rfl hl.1 rfl (Nat.le_of_ble_eq_true rfl) dX5_reckon_52 ⟨Nat.le_of_ble_eq_true rfl, Nat.le_of_ble_eq_true rfl⟩) (fun r_52 A1 C_52 H locs w_52 hP hS => ?_)
          obtain ⟨w_52, rfl, rfl⟩ := w_52
          refine wg_topl (y := lc_node lf (k + 1)) (w_52.trans (lc_node_lo (by omega) hk8).symm) ?_
          refine lv_topl (fun x_55 ex_55 => ?_)
          refine wg_lst F hP hS f10w (vp_in_nI (by omega) (by decide)) dX5_reckon_55 (fun H locs hP hS => ?_)
          obtain ⟨C_55, hC_55⟩ : ∃ z : wg_C, z = va_up Cw 10 (some (.inl (E.2.1 1, 16, .inr (.inl (vp_updL fi (nI (k + 1)).toNatClampNeg x_55))))) := ⟨_, rfl⟩
          have hP : wg_P E A C_55 H := by rw [hC_55]; exact hP
          have f8w_c55 : C_55 8 = some (.inr (5, [.ref (A 9), .ref (A 10)])) := by rw [hC_55]; rw [va_up_ne _ _ (by decide)]; exact f8w
          have f9w_c55 : C_55 9 = some (.inl (E.2.1 1, 8, .inr (.inl lf))) := by rw [hC_55]; rw [va_up_ne _ _ (by decide)]; exact f9w
          have f10w_c55 : C_55 10 = some (.inl (E.2.1 1, 16, .inr (.inl (vp_updL fi (nI (k + 1)).toNatClampNeg x_55)))) := by rw [hC_55]; exact va_up_self _ _ _
          have f10w_c55n : C_55 10 = some (.inl (E.2.1 1, 16, .inr (.inl (vp_updL fi ((k + 1)) x_55)))) := by rw [f10w_c55, nI_clamp (by omega)]
          obtain ⟨x_56, ex_56⟩ : ∃ y : Int32, y = nI (k + 1) + (-1) := ⟨_, rfl⟩
          refine lv_iinc (v := x_56) (lv' := [(1, .int x_56), (0, .ref (A 8))]) hx hb dX5_reckon_56 hl (k := 1) rfl (by rw [ex_56]; rfl) (by decide) rfl (fun ls hl => ?_)
          refine lv_goto (tgt := 3) hx hb dX5_reckon_59 (by decide) ?_
          exact ih_loop_3 k x_56 (vp_updL fi ((k + 1)) x_55) (by omega) (by omega) (lc_dec ex_56) (fun j h1 h2 => by by_cases e : j = k + 1; rw [e, pk_uLs, ex_55]; rw [pk_uLn e]; exact hfi j (by omega) h2) C_55 f8w_c55 f9w_c55 f10w_c55n (fun r h2 => by rw [hC_55, va_up_ne _ _ h2, hbase r h2]) _ _ _ hP hS (lv_sub hl [1, 0] rfl)
        · have hk8 : 8 ≤ k + 1 := by rw [show (8 : Int32) = nI 8 from rfl, nI_ltI (by omega) (by decide)] at c_16; omega
          have e8 : nI (k + 1) - 8 = nI (k + 1 - 8) := by rw [show (8 : Int32) = nI 8 from rfl, pk_sub hk8]
          refine lv_aload_n hx hb dX5_reckon_19 rfl (lv_at hl 0 rfl) ?_
          refine wg_get F hP f8w rfl iw_X5 0 (by decide) tb_67 rfl rfl dX5_reckon_20 ?_
          refine lv_iload_n hx hb dX5_reckon_23 rfl (lv_at hl 1 rfl) ?_
          refine lv_bipush (v := 8) hx hb dX5_reckon_24 (by decide) ?_
          refine lv_isub hx hb dX5_reckon_26 ?_
          refine wg_lld F hP f9w (by rw [e8]; exact vp_in_nI (by omega) (by decide)) dX5_reckon_27 ?_
          refine wg_topl (y := lf (k + 1 - 8)) (by rw [e8, nI_clamp (by omega)]) ?_
          refine wg_cl_ hS (wg_rSN (As := [.long (lf (k + 1 - 8))]) (rest := [.int (nI (k + 1)), .ref (A 10)]) F hP hS (c_X7_mix l E A Cw _) ok_X7_mix nb_56 rfl rfl ⟨Nat.le_of_ble_eq_true rfl, Nat.le_of_ble_eq_true rfl⟩ rfl hl.1 rfl (Nat.le_of_ble_eq_true rfl) dX5_reckon_28 ⟨Nat.le_of_ble_eq_true rfl, Nat.le_of_ble_eq_true rfl⟩) (fun r_28 A1 C_28 H locs w_28 hP hS => ?_)
          obtain ⟨w_28, rfl, rfl⟩ := w_28
          refine wg_topl (y := lc_node lf (k + 1)) (w_28.trans (lc_node_hi hk8).symm) ?_
          refine lv_goto (tgt := 55) hx hb dX5_reckon_31 (by decide) ?_
          refine lv_topl (fun x_55 ex_55 => ?_)
          refine wg_lst F hP hS f10w (vp_in_nI (by omega) (by decide)) dX5_reckon_55 (fun H locs hP hS => ?_)
          obtain ⟨C_55, hC_55⟩ : ∃ z : wg_C, z = va_up Cw 10 (some (.inl (E.2.1 1, 16, .inr (.inl (vp_updL fi (nI (k + 1)).toNatClampNeg x_55))))) := ⟨_, rfl⟩
          have hP : wg_P E A C_55 H := by rw [hC_55]; exact hP
          have f8w_c55 : C_55 8 = some (.inr (5, [.ref (A 9), .ref (A 10)])) := by rw [hC_55]; rw [va_up_ne _ _ (by decide)]; exact f8w
          have f9w_c55 : C_55 9 = some (.inl (E.2.1 1, 8, .inr (.inl lf))) := by rw [hC_55]; rw [va_up_ne _ _ (by decide)]; exact f9w
          have f10w_c55 : C_55 10 = some (.inl (E.2.1 1, 16, .inr (.inl (vp_updL fi (nI (k + 1)).toNatClampNeg x_55)))) := by rw [hC_55]; exact va_up_self _ _ _
          have f10w_c55n : C_55 10 = some (.inl (E.2.1 1, 16, .inr (.inl (vp_updL fi ((k + 1)) x_55)))) := by rw [f10w_c55, nI_clamp (by omega)]
          obtain ⟨x_56, ex_56⟩ : ∃ y : Int32, y = nI (k + 1) + (-1) := ⟨_, rfl⟩
          refine lv_iinc (v := x_56) (lv' := [(1, .int x_56), (0, .ref (A 8))]) hx hb dX5_reckon_56 hl (k := 1) rfl (by rw [ex_56]; rfl) (by decide) rfl (fun ls hl => ?_)
          refine lv_goto (tgt := 3) hx hb dX5_reckon_59 (by decide) ?_
          exact ih_loop_3 k x_56 (vp_updL fi ((k + 1)) x_55) (by omega) (by omega) (lc_dec ex_56) (fun j h1 h2 => by by_cases e : j = k + 1; rw [e, pk_uLs, ex_55]; rw [pk_uLn e]; exact hfi j (by omega) h2) C_55 f8w_c55 f9w_c55 f10w_c55n (fun r h2 => by rw [hC_55, va_up_ne _ _ h2, hbase r h2]) _ _ _ hP hS (lv_sub hl [1, 0] rfl)
  exact loop_3 _ 15 15 nd (Nat.lt_succ_self _) (by decide) rfl (fun j h1 h2 => absurd h1 (by omega)) C f8 f9 f10 (fun r h2 => rfl) _ _ _ hP hS (lv_sub hl [1, 0] rfl)
set_option maxHeartbeats 4000000 in
set_option maxRecDepth 100000 in
theorem c_X5_leafAt (l : Launch) (E : wg_E) (A : Nat → Nat) (C : wg_C) (lf nd : Nat → Int64) (j : Nat) (hj : j < 8) (f8 : C 8 = some (.inr (5, [.ref (A 9), .ref (A 10)]))) (f9 : C 9 = some (.inl (E.2.1 1, 8, .inr (.inl lf)))) (f10 : C 10 = some (.inl (E.2.1 1, 16, .inr (.inl nd)))) : Met l yX5_leafAt (wg_ws yX5_leafAt cX5_leafAt 2 (some .long)) (wg_rm 1 0 0) (wg_Pc E A C [.ref (A 8), .int (nI j)]) (wg_Ql E (fun r A1 C1 => r = lf j ∧ A = A1 ∧ C = C1)) 0 0 (wg_A E) := by
  refine wg_met (by decide) (Nat.le_of_ble_eq_true rfl) ?_
  intro p e s m below meth c ls F hr hlk hnm hP hS hl
  have F : wg_F p m c cX5_leafAt 2 s ([.ref (A 8), .int (nI j)] : List Value).toArray "LightChecks$Tree" E := F
  have hx := F.1
  have hb := F.2.1
  have hml := F.2.2.1
  have hown := F.2.2.2.1
  have hts := F.2.2.2.2.1
  have hl : lv_has ls 2 [(0, .ref (A 8)), (1, .int (nI j))] := hl
  refine lv_iload_n hx hb dX5_leafAt_0 rfl (lv_at hl 1 rfl) ?_
  refine wg_ci hS (wg_rSN (As := [.int (nI j)]) (rest := []) F hP hS (c_X7_isLeaf l E A C _) ok_X7_isLeaf nb_148 rfl rfl ⟨Nat.le_of_ble_eq_true rfl, Nat.le_of_ble_eq_true rfl⟩ rfl hl.1 rfl (Nat.le_of_ble_eq_true rfl) dX5_leafAt_1 ⟨Nat.le_of_ble_eq_true rfl, Nat.le_of_ble_eq_true rfl⟩) (fun r_1 A1 C_1 H locs w_1 hP hS => ?_)
  obtain ⟨w_1, rfl, rfl⟩ := w_1
  have w2 : r_1 = 1 := by
    rcases w_1 with ⟨_, _, _, h⟩ | ⟨h, _⟩
    · exact h
    · exact absurd h (lc_isin hj (by decide))
  refine lv_if_eq (tgt := 16) hx hb dX5_leafAt_4 (by decide) (fun c_4 => ?_) (fun c_4 => ?_)
  · exact absurd (w2.symm.trans c_4) (by decide)
  · refine lv_aload_n hx hb dX5_leafAt_7 rfl (lv_at hl 0 rfl) ?_
    refine wg_get F hP f8 rfl iw_X5 0 (by decide) tb_67 rfl rfl dX5_leafAt_8 ?_
    refine lv_iload_n hx hb dX5_leafAt_11 rfl (lv_at hl 1 rfl) ?_
    refine wg_lld F hP f9 (vp_in_nI hj (by decide)) dX5_leafAt_12 ?_
    refine lv_goto (tgt := 17) hx hb dX5_leafAt_13 (by decide) ?_
    exact wg_lret F hP hS hr hlk (⟨by rw [nI_clamp (by omega)], rfl, rfl⟩) dX5_leafAt_17
set_option maxHeartbeats 4000000 in
set_option maxRecDepth 100000 in
theorem c_X5_nodeAt (l : Launch) (E : wg_E) (A : Nat → Nat) (C : wg_C) (lf nd : Nat → Int64) (k : Int32) (hnd : ∀ j, 1 ≤ j → j < 16 → nd j = lc_node lf j) (f8 : C 8 = some (.inr (5, [.ref (A 9), .ref (A 10)]))) (f9 : C 9 = some (.inl (E.2.1 1, 8, .inr (.inl lf)))) (f10 : C 10 = some (.inl (E.2.1 1, 16, .inr (.inl nd)))) : Met l yX5_nodeAt (wg_ws yX5_nodeAt cX5_nodeAt 2 (some .long)) (wg_rm 0 0 0) (wg_Pc E A C [.ref (A 8), .int k]) (wg_Ql E (fun r A1 C1 => ((∃ j : Nat, 1 ≤ j ∧ j < 16 ∧ k = nI j ∧ r = lc_node lf j) ∨ ((k < 1 ∨ nI 16 ≤ k) ∧ r = 0)) ∧ A = A1 ∧ C = C1)) 0 0 (wg_A E) := by
  refine wg_met (by decide) (Nat.le_of_ble_eq_true rfl) ?_
  intro p e s m below meth c ls F hr hlk hnm hP hS hl
  have F : wg_F p m c cX5_nodeAt 2 s ([.ref (A 8), .int k] : List Value).toArray "LightChecks$Tree" E := F
  have hx := F.1
  have hb := F.2.1
  have hml := F.2.2.1
  have hown := F.2.2.2.1
  have hts := F.2.2.2.2.1
  have hl : lv_has ls 2 [(0, .ref (A 8)), (1, .int k)] := hl
  refine lv_iload_n hx hb dX5_nodeAt_0 rfl (lv_at hl 1 rfl) ?_
  refine lv_iconst (v := 1) hx hb dX5_nodeAt_1 (by decide) ?_
  refine lv_icmp_lt (tgt := 20) hx hb dX5_nodeAt_2 (by decide) (fun c_2 => ?_) (fun c_2 => ?_)
  · refine lv_lconst (v := 0) hx hb dX5_nodeAt_20 (by decide) ?_
    exact wg_lret F hP hS hr hlk (⟨Or.inr ⟨by first | exact Or.inl c_2 | exact Or.inr c_8, rfl⟩, rfl, rfl⟩) dX5_nodeAt_21
  · refine lv_iload_n hx hb dX5_nodeAt_5 rfl (lv_at hl 1 rfl) ?_
    refine lv_bipush (v := 16) hx hb dX5_nodeAt_6 (by decide) ?_
    refine lv_icmp_ge (tgt := 20) hx hb dX5_nodeAt_8 (by decide) (fun c_8 => ?_) (fun c_8 => ?_)
    · refine lv_lconst (v := 0) hx hb dX5_nodeAt_20 (by decide) ?_
      exact wg_lret F hP hS hr hlk (⟨Or.inr ⟨by first | exact Or.inl c_2 | exact Or.inr c_8, rfl⟩, rfl, rfl⟩) dX5_nodeAt_21
    · obtain ⟨j, h1, h2, rfl⟩ := lc_range c_2 c_8
      refine lv_aload_n hx hb dX5_nodeAt_11 rfl (lv_at hl 0 rfl) ?_
      refine wg_get F hP f8 rfl iw_X5 1 (by decide) tb_68 rfl rfl dX5_nodeAt_12 ?_
      refine lv_iload_n hx hb dX5_nodeAt_15 rfl (lv_at hl 1 rfl) ?_
      refine wg_lld F hP f10 (vp_in_nI h2 (by decide)) dX5_nodeAt_16 ?_
      refine lv_goto (tgt := 21) hx hb dX5_nodeAt_17 (by decide) ?_
      exact wg_lret F hP hS hr hlk (⟨Or.inl ⟨j, h1, h2, rfl, by rw [nI_clamp (by omega)]; exact hnd j h1 h2⟩, rfl, rfl⟩) dX5_nodeAt_21
set_option maxHeartbeats 4000000 in
set_option maxRecDepth 100000 in
theorem c_X5_change (l : Launch) (E : wg_E) (A : Nat → Nat) (C : wg_C) (lf nd : Nat → Int64) (k : Int32) (v : Int64)  (f8 : C 8 = some (.inr (5, [.ref (A 9), .ref (A 10)]))) (f9 : C 9 = some (.inl (E.2.1 1, 8, .inr (.inl lf)))) (f10 : C 10 = some (.inl (E.2.1 1, 16, .inr (.inl nd)))) : Met l yX5_change (wg_ws yX5_change cX5_change 6 (some .long)) (wg_rm 3 0 0) (wg_Pc E A C [.ref (A 8), .int k, .long v]) (wg_Ql E (fun r A1 C1 => A = A1 ∧ ((∃ j : Nat, j < 8 ∧ k = nI j ∧ r = lf j ∧ (∀ q, q ≠ 9 → q ≠ 10 → C1 q = C q) ∧ C1 9 = some (.inl (E.2.1 1, 8, .inr (.inl (vp_updL lf j v)))) ∧ ∃ nd1 : Nat → Int64, C1 10 = some (.inl (E.2.1 1, 16, .inr (.inl nd1))) ∧ ∀ i, 1 ≤ i → i < 16 → nd1 i = lc_node (vp_updL lf j v) i) ∨ ((k < 0 ∨ nI 8 ≤ k) ∧ r = 0 ∧ C = C1)))) 0 0 (wg_A E) := by
  refine wg_met (by decide) (Nat.le_of_ble_eq_true rfl) ?_
  intro p e s m below meth c ls F hr hlk hnm hP hS hl
  have F : wg_F p m c cX5_change 6 s ([.ref (A 8), .int k, .long v] : List Value).toArray "LightChecks$Tree" E := F
  have hx := F.1
  have hb := F.2.1
  have hml := F.2.2.1
  have hown := F.2.2.2.1
  have hts := F.2.2.2.2.1
  have hl : lv_has ls 6 [(0, .ref (A 8)), (1, .int k), (2, .long v)] := hl
  refine lv_iload_n hx hb dX5_change_0 rfl (lv_at hl 1 rfl) ?_
  refine wg_ci hS (wg_rSN (As := [.int k]) (rest := []) F hP hS (c_X7_isLeaf l E A C _) ok_X7_isLeaf nb_148 rfl rfl ⟨Nat.le_of_ble_eq_true rfl, Nat.le_of_ble_eq_true rfl⟩ rfl hl.1 rfl (Nat.le_of_ble_eq_true rfl) dX5_change_1 ⟨Nat.le_of_ble_eq_true rfl, Nat.le_of_ble_eq_true rfl⟩) (fun r_1 A1 C_1 H locs w_1 hP hS => ?_)
  obtain ⟨w_1, rfl, rfl⟩ := w_1
  rcases w_1 with ⟨j, hj, rfl, w2⟩ | ⟨ho, w2⟩
  · refine lv_if_ne (tgt := 9) hx hb dX5_change_4 (by decide) (fun c_4 => ?_) (fun c_4 => ?_)
    · refine lv_aload_n hx hb dX5_change_9 rfl (lv_at hl 0 rfl) ?_
      refine wg_get F hP f8 rfl iw_X5 0 (by decide) tb_67 rfl rfl dX5_change_10 ?_
      refine lv_iload_n hx hb dX5_change_13 rfl (lv_at hl 1 rfl) ?_
      refine wg_lld F hP f9 (vp_in_nI hj (by decide)) dX5_change_14 ?_
      refine lv_topl (fun x_15 ex_15 => ?_)
      refine lv_lstore (lv' := [(4, .long x_15), (0, .ref (A 8)), (1, .int (nI j)), (2, .long v)]) hx hb dX5_change_15 hl (by decide) rfl (fun ls hl => ?_)
      refine lv_aload_n hx hb dX5_change_17 rfl (lv_at hl 1 rfl) ?_
      refine wg_get F hP f8 rfl iw_X5 0 (by decide) tb_67 rfl rfl dX5_change_18 ?_
      refine lv_iload_n hx hb dX5_change_21 rfl (lv_at hl 2 rfl) ?_
      refine lv_lload_n hx hb dX5_change_22 rfl (lv_at hl 3 rfl) ?_
      refine wg_lst F hP hS f9 (vp_in_nI hj (by decide)) dX5_change_23 (fun H locs hP hS => ?_)
      obtain ⟨C_23, hC_23⟩ : ∃ z : wg_C, z = va_up C 9 (some (.inl (E.2.1 1, 8, .inr (.inl (vp_updL lf (nI j).toNatClampNeg v))))) := ⟨_, rfl⟩
      have hP : wg_P E A C_23 H := by rw [hC_23]; exact hP
      have f8_c23 : C_23 8 = some (.inr (5, [.ref (A 9), .ref (A 10)])) := by rw [hC_23]; rw [va_up_ne _ _ (by decide)]; exact f8
      have f9_c23 : C_23 9 = some (.inl (E.2.1 1, 8, .inr (.inl (vp_updL lf (nI j).toNatClampNeg v)))) := by rw [hC_23]; exact va_up_self _ _ _
      have f10_c23 : C_23 10 = some (.inl (E.2.1 1, 16, .inr (.inl nd))) := by rw [hC_23]; rw [va_up_ne _ _ (by decide)]; exact f10
      have f9_c23n : C_23 9 = some (.inl (E.2.1 1, 8, .inr (.inl (vp_updL lf j v)))) := by rw [f9_c23, nI_clamp (by omega)]
      refine lv_aload_n hx hb dX5_change_24 rfl (lv_at hl 1 rfl) ?_
      refine wg_cv hS (wg_rV (As := []) (rest := []) F hP hS (c_X5_reckon l E A C_23 (vp_updL lf j v) nd f8_c23 f9_c23n f10_c23) ok_X5_reckon tb_52 rfl rfl ⟨Nat.le_of_ble_eq_true rfl, Nat.le_of_ble_eq_true rfl⟩ f8_c23 rfl rfl rfl hl.1 rfl (Nat.le_of_ble_eq_true rfl) dX5_change_25 ⟨Nat.le_of_ble_eq_true rfl, Nat.le_of_ble_eq_true rfl⟩) (fun A1 C_25 H locs w_25 hP hS => ?_)
      obtain ⟨rfl, hfr_25, nd1, hn1, hn2⟩ := w_25
      have f8_c25 : C_25 8 = some (.inr (5, [.ref (A 9), .ref (A 10)])) := by rw [hfr_25 8 (by decide)]; exact f8_c23
      have f9_c25 : C_25 9 = some (.inl (E.2.1 1, 8, .inr (.inl (vp_updL lf j v)))) := by rw [hfr_25 9 (by decide)]; exact f9_c23n
      refine lv_lload hx hb dX5_change_28 (lv_at hl 0 rfl) ?_
      exact wg_lret F hP hS hr hlk (⟨rfl, Or.inl ⟨j, hj, rfl, by rw [ex_15, nI_clamp (by omega)], fun r h1 h2 => by rw [hfr_25 r h2, hC_23, va_up_ne _ _ h1], f9_c25, nd1, hn1, hn2⟩⟩) dX5_change_30
    · exact absurd (w2.symm.trans c_4) (by decide)
  · refine lv_if_ne (tgt := 9) hx hb dX5_change_4 (by decide) (fun c_4 => ?_) (fun c_4 => ?_)
    · exact absurd w2 c_4
    · refine lv_lconst (v := 0) hx hb dX5_change_7 (by decide) ?_
      exact wg_lret F hP hS hr hlk (⟨rfl, Or.inr ⟨ho, rfl, rfl⟩⟩) dX5_change_8
end
section
def lc_num (a b : Nat) (va vb : Int64) (ct : Nat) (pn : Nat → Int64) (k : Int32) : Int64 :=
  if k = 0 then (nI a).toInt64 else if k = 1 then (nI b).toInt64 else if k = 2 then va else if k = 3 then vb else if 4 ≤ k.toInt ∧ k.toInt < 4 + ct then pn (k.toNatClampNeg - 4) else 0
theorem lc_sw4 (k : Int32) : k = 0 ∨ k = 1 ∨ k = 2 ∨ k = 3 ∨ (k.toInt < 0 ∨ 3 < k.toInt) := by
  simp only [← Int32.toInt_inj]
  have e0 : (0 : Int32).toInt = 0 := by decide
  have e1 : (1 : Int32).toInt = 1 := by decide
  have e2 : (2 : Int32).toInt = 2 := by decide
  have e3 : (3 : Int32).toInt = 3 := by decide
  omega
theorem lc_num_out {a b : Nat} {va vb : Int64} {ct : Nat} {pn : Nat → Int64} {k : Int32} (h : k.toInt < 0 ∨ 3 < k.toInt) : lc_num a b va vb ct pn k = (if 4 ≤ k.toInt ∧ k.toInt < 4 + ct then pn (k.toNatClampNeg - 4) else 0) := by
  unfold lc_num
  have e0 : (0 : Int32).toInt = 0 := by decide
  have e1 : (1 : Int32).toInt = 1 := by decide
  have e2 : (2 : Int32).toInt = 2 := by decide
  have e3 : (3 : Int32).toInt = 3 := by decide
  rw [if_neg (by rw [← Int32.toInt_inj]; omega), if_neg (by rw [← Int32.toInt_inj]; omega), if_neg (by rw [← Int32.toInt_inj]; omega), if_neg (by rw [← Int32.toInt_inj]; omega)]
theorem lc_ge4 {k : Int32} (h : ¬ k < 4) : ∃ i : Nat, i + 4 < 2 ^ 31 ∧ k = nI (i + 4) ∧ k - 4 = nI i ∧ k.toInt = i + 4 ∧ k.toNatClampNeg = i + 4 := by
  rw [Int32.lt_iff_toInt_lt, show (4 : Int32).toInt = 4 from by decide] at h
  obtain ⟨j, hj, rfl⟩ := nI_of (x := k) (by rw [Int32.lt_iff_toInt_lt, show (0 : Int32).toInt = 0 from by decide]; omega)
  rw [nI_toInt hj] at h
  obtain ⟨i, rfl⟩ : ∃ i, j = i + 4 := ⟨j - 4, by omega⟩
  refine ⟨i, hj, rfl, ?_, ?_, nI_clamp hj⟩
  · rw [show (4 : Int32) = nI 4 from rfl, pk_sub (by omega), Nat.add_sub_cancel]
  · rw [nI_toInt hj]; omega
/-- the nodes of a proof when all down to k have been taken -/
def lc_tk (a b : Nat) (lf pn : Nat → Int64) (k : Nat) : Nat → Int64 := fun i => if i < lc_cnt a b k then lc_node lf (lc_nth a b i) else pn i
theorem lc_tk_15 (a b : Nat) (lf pn : Nat → Int64) : pn = lc_tk a b lf pn 15 := by
  funext i
  exact (if_neg (Nat.not_lt_zero i)).symm
theorem lc_tk_yes {a b : Nat} {lf pn : Nat → Int64} {k : Nat} (hk : k < 15) (h : lc_bs a b (k + 1) = true) (hn : lc_nth a b (lc_cnt a b (k + 1)) = k + 1) : vp_updL (lc_tk a b lf pn (k + 1)) (lc_cnt a b (k + 1)) (lc_node lf (k + 1)) = lc_tk a b lf pn k := by
  have e := lc_cnt_s a b hk
  rw [if_pos h] at e
  funext i
  unfold lc_tk vp_updL
  by_cases q : i = lc_cnt a b (k + 1)
  · rw [if_pos q, if_pos (by omega), q, hn]
  · rw [if_neg q]
    show (if i < lc_cnt a b (k + 1) then lc_node lf (lc_nth a b i) else pn i) = _
    by_cases z : i < lc_cnt a b (k + 1)
    · rw [if_pos z, if_pos (by omega)]
    · rw [if_neg z, if_neg (by omega)]
theorem lc_tk_no {a b : Nat} {lf pn : Nat → Int64} {k : Nat} (hk : k < 15) (h : ¬ lc_bs a b (k + 1) = true) : lc_tk a b lf pn (k + 1) = lc_tk a b lf pn k := by
  have e := lc_cnt_s a b hk
  rw [if_neg h] at e
  unfold lc_tk
  rw [e]
  rfl
theorem lc_cnt_yes {a b k : Nat} (hk : k < 15) (h : lc_bs a b (k + 1) = true) : lc_cnt a b k = lc_cnt a b (k + 1) + 1 := by
  rw [lc_cnt_s a b hk, if_pos h]
theorem lc_cnt_no {a b k : Nat} (hk : k < 15) (h : ¬ lc_bs a b (k + 1) = true) : lc_cnt a b k = lc_cnt a b (k + 1) := by
  rw [lc_cnt_s a b hk, if_neg h]
  rfl
theorem lc_cnt_small {a b : Nat} (ha : a < 8) (hb : b < 8) (hab : a ≠ b) {k : Nat} (hk : k < 15) : lc_cnt a b (k + 1) ≤ 4 := by
  have key : ∀ m, lc_ct a b m ≤ lc_ct a b (m + 1) := fun m => Nat.le_add_right _ _
  have mono : ∀ m n, m ≤ n → lc_ct a b m ≤ lc_ct a b n := by
    intro m n h
    induction h with
    | refl => exact Nat.le_refl _
    | step _ ih => exact Nat.le_trans ih (key _)
  have := lc_cnt_le a ha b hb hab
  have h2 := mono (15 - (k + 1)) (15 - 1) (by omega)
  unfold lc_cnt at *
  omega
theorem lc_repno {k : Int32} {i i2 ct : Nat} (hni : ¬ i < ct) (hi : i + 4 < 2 ^ 31) (ek : k = nI (i + 4)) (h1 : i2 < ct) (hct : ct ≤ 4) (h2 : k = nI (i2 + 4)) : False := by
  rw [ek, nI_eq hi (by omega)] at h2
  omega
theorem lc_bs_0 : (List.range 8).all (fun a => (List.range 8).all (fun b => (List.range 2).all (fun k => decide (lc_bs a b k = false ∨ a = b ∨ (k = 0))))) = true := by decide +kernel
theorem lc_bs_cnt {a b k : Nat} (ha : a < 8) (hb : b < 8) (hab : a ≠ b) (hk : k + 1 < 16) (h : lc_bs a b (k + 1) = true) : lc_cnt a b (k + 1) < lc_cnt a b 1 := by
  rcases (show k + 1 = 1 ∨ 2 ≤ k + 1 by omega) with e | e
  · have := of_decide_eq_true (lc_all3 lc_bs_0 ha hb (show k + 1 < 2 by omega))
    rcases this with q | q | q
    · rw [q] at h; cases h
    · exact absurd q hab
    · omega
  · exact (lc_cnt_lt ha hb hab hk e h).1
end
section
set_option maxHeartbeats 4000000 in
set_option maxRecDepth 100000 in
theorem c_X4_isOnWay (l : Launch) (E : wg_E) (A : Nat → Nat) (C : wg_C) (a b k : Nat) (va vb : Int64) (ct : Int32) (ha : a < 8) (hb8 : b < 8) (hk : k < 17) (f11 : C 11 = some (.inr (4, [.int (nI a), .int (nI b), .long va, .long vb, .ref (A 12), .int ct, .ref (A 13)]))) : Met l yX4_isOnWay (wg_ws yX4_isOnWay cX4_isOnWay 3 (some .boolean)) (wg_rm 0 0 0) (wg_Pc E A C [.ref (A 11), .int (nI k)]) (wg_Qi E (fun r A1 C1 => r = (if lc_on a b k = true then 1 else 0) ∧ A = A1 ∧ C = C1)) 0 0 (wg_A E) := by
  refine wg_met (by decide) (Nat.le_of_ble_eq_true rfl) ?_
  intro p e s m below meth c ls F hr hlk hnm hP hS hl
  have F : wg_F p m c cX4_isOnWay 3 s ([.ref (A 11), .int (nI k)] : List Value).toArray "LightChecks$Proof" E := F
  have hx := F.1
  have hb := F.2.1
  have hml := F.2.2.1
  have hown := F.2.2.2.1
  have hts := F.2.2.2.2.1
  have hl : lv_has ls 3 [(0, .ref (A 11)), (1, .int (nI k))] := hl
  refine lv_iconst (v := 0) hx hb dX4_isOnWay_0 (by decide) ?_
  refine lv_istore_n (lv' := [(2, .int 0), (0, .ref (A 11)), (1, .int (nI k))]) hx hb dX4_isOnWay_1 rfl hl (by decide) rfl (fun ls hl => ?_)
  have loop_2 : ∀ (fuel : Nat) (u : Nat) (x2 : Int32), 4 - u < fuel → (u ≤ 4) → (x2 = nI u) → (∀ v, v < u → (8 + a) / 2 ^ v ≠ k ∧ (8 + b) / 2 ^ v ≠ k) → ∀ (H : Heap) (locs : List Loc) (ls : Array Slot), wg_P E A C H → va_S (wg_A E) s.heap H locs → lv_has ls 3 [(0, .ref (A 11)), (1, .int (nI k)), (2, .int x2)] → W p l e (wg_rm 0 0 0) s m ([.ref (A 11), .int (nI k)] : List Value).toArray below meth c H locs 0 0 (MQ below (wg_Qi E (fun r A1 C1 => r = (if lc_on a b k = true then 1 else 0) ∧ A = A1 ∧ C = C1)) ([.ref (A 11), .int (nI k)] : List Value).toArray s 0 0 (wg_A E)) (F0 m 2 ls []) := by
    intro fuel
    induction fuel with
    | zero => intro u x2 hm; exact absurd hm (Nat.not_lt_zero _)
    | succ fuel ih_loop_2 =>
      intro u x2 hm_loop_2 hu ex2 hno H locs ls hP hS hl
      subst ex2
      refine lv_iload_n hx hb dX4_isOnWay_2 rfl (lv_at hl 2 rfl) ?_
      refine lv_iconst (v := 4) hx hb dX4_isOnWay_3 (by decide) ?_
      refine lv_icmp_ge (tgt := 41) hx hb dX4_isOnWay_4 (by decide) (fun c_4 => ?_) (fun c_4 => ?_)
      · have hu4 : u = 4 := by rw [show (4 : Int32) = nI 4 from rfl, nI_leI (by decide) (by omega)] at c_4; omega
        subst hu4
        refine lv_iconst (v := 0) hx hb dX4_isOnWay_41 (by decide) ?_
        exact wg_zret F hP hS hr hlk (by decide) ⟨by rw [if_neg (fun q => by obtain ⟨v, hv, h⟩ := (lc_on_iff a ha b hb8 k hk).mp q; rcases h with h | h; exact (hno v hv).1 h; exact (hno v hv).2 h)], rfl, rfl⟩ dX4_isOnWay_42
      · have hu4 : u < 4 := by rw [show (4 : Int32) = nI 4 from rfl, nI_leI (by decide) (by omega)] at c_4; omega
        have hda : (8 + a) / 2 ^ u ≤ 8 + a := Nat.div_le_self _ _
        have hdb : (8 + b) / 2 ^ u ≤ 8 + b := Nat.div_le_self _ _
        refine lv_bipush (v := 8) hx hb dX4_isOnWay_7 (by decide) ?_
        refine lv_aload_n hx hb dX4_isOnWay_9 rfl (lv_at hl 0 rfl) ?_
        refine wg_get F hP f11 rfl iw_X4 0 (by decide) tb_82 rfl rfl dX4_isOnWay_10 ?_
        refine lv_iadd hx hb dX4_isOnWay_13 ?_
        refine lv_iload_n hx hb dX4_isOnWay_14 rfl (lv_at hl 2 rfl) ?_
        refine lv_iushr (v := ((8 + (nI a)).toUInt32 >>> ((nI u).toUInt32 &&& Int32.toUInt32 31)).toInt32) hx hb dX4_isOnWay_15 rfl ?_
        refine lv_iload_n hx hb dX4_isOnWay_16 rfl (lv_at hl 1 rfl) ?_
        refine lv_icmp_eq (tgt := 33) hx hb dX4_isOnWay_17 (by decide) (fun c_17 => ?_) (fun c_17 => ?_)
        · rw [lc_wayshift a ha u hu4, nI_eq (by omega) (by omega)] at c_17
          refine lv_iconst (v := 1) hx hb dX4_isOnWay_33 (by decide) ?_
          exact wg_zret F hP hS hr hlk (by decide) ⟨by rw [if_pos ((lc_on_iff a ha b hb8 k hk).mpr ⟨u, hu4, by first | exact Or.inl c_17 | exact Or.inr c_30⟩)], rfl, rfl⟩ dX4_isOnWay_34
        · have hna : (8 + a) / 2 ^ u ≠ k := by rw [lc_wayshift a ha u hu4, nI_eq (by omega) (by omega)] at c_17; exact c_17
          refine lv_bipush (v := 8) hx hb dX4_isOnWay_20 (by decide) ?_
          refine lv_aload_n hx hb dX4_isOnWay_22 rfl (lv_at hl 0 rfl) ?_
          refine wg_get F hP f11 rfl iw_X4 1 (by decide) tb_83 rfl rfl dX4_isOnWay_23 ?_
          refine lv_iadd hx hb dX4_isOnWay_26 ?_
          refine lv_iload_n hx hb dX4_isOnWay_27 rfl (lv_at hl 2 rfl) ?_
          refine lv_iushr (v := ((8 + (nI b)).toUInt32 >>> ((nI u).toUInt32 &&& Int32.toUInt32 31)).toInt32) hx hb dX4_isOnWay_28 rfl ?_
          refine lv_iload_n hx hb dX4_isOnWay_29 rfl (lv_at hl 1 rfl) ?_
          refine lv_icmp_ne (tgt := 35) hx hb dX4_isOnWay_30 (by decide) (fun c_30 => ?_) (fun c_30 => ?_)
          · have hnb : (8 + b) / 2 ^ u ≠ k := by rw [lc_wayshift b hb8 u hu4, nI_eq (by omega) (by omega)] at c_30; exact c_30
            obtain ⟨x_35, ex_35⟩ : ∃ y : Int32, y = nI u + 1 := ⟨_, rfl⟩
            refine lv_iinc (v := x_35) (lv' := [(2, .int x_35), (0, .ref (A 11)), (1, .int (nI k))]) hx hb dX4_isOnWay_35 hl (k := 2) rfl (by rw [ex_35]; rfl) (by decide) rfl (fun ls hl => ?_)
            refine lv_goto (tgt := 2) hx hb dX4_isOnWay_38 (by decide) ?_
            exact ih_loop_2 (u + 1) x_35 (by omega) (by omega) (by rw [ex_35, nI_1]) (fun v hv => by rcases (show v < u ∨ v = u by omega) with h | h; exact hno v h; rw [h]; exact ⟨hna, hnb⟩) _ _ _ hP hS (lv_sub hl [1, 2, 0] rfl)
          · rw [lc_wayshift b hb8 u hu4, nI_eq (by omega) (by omega)] at c_30
            refine lv_iconst (v := 1) hx hb dX4_isOnWay_33 (by decide) ?_
            exact wg_zret F hP hS hr hlk (by decide) ⟨by rw [if_pos ((lc_on_iff a ha b hb8 k hk).mpr ⟨u, hu4, by first | exact Or.inl c_17 | exact Or.inr c_30⟩)], rfl, rfl⟩ dX4_isOnWay_34
  exact loop_2 _ 0 0 (Nat.lt_succ_self _) (by decide) rfl (fun v hv => absurd hv (Nat.not_lt_zero _)) _ _ _ hP hS (lv_sub hl [1, 2, 0] rfl)
set_option maxHeartbeats 4000000 in
set_option maxRecDepth 100000 in
theorem c_X4_isBeside (l : Launch) (E : wg_E) (A : Nat → Nat) (C : wg_C) (a b k : Nat) (va vb : Int64) (ct : Int32) (ha : a < 8) (hb8 : b < 8) (hk : k < 16) (f11 : C 11 = some (.inr (4, [.int (nI a), .int (nI b), .long va, .long vb, .ref (A 12), .int ct, .ref (A 13)]))) : Met l yX4_isBeside (wg_ws yX4_isBeside cX4_isBeside 2 (some .boolean)) (wg_rm 1 0 0) (wg_Pc E A C [.ref (A 11), .int (nI k)]) (wg_Qi E (fun r A1 C1 => r = (if lc_bs a b k = true then 1 else 0) ∧ A = A1 ∧ C = C1)) 0 0 (wg_A E) := by
  refine wg_met (by decide) (Nat.le_of_ble_eq_true rfl) ?_
  intro p e s m below meth c ls F hr hlk hnm hP hS hl
  have F : wg_F p m c cX4_isBeside 2 s ([.ref (A 11), .int (nI k)] : List Value).toArray "LightChecks$Proof" E := F
  have hx := F.1
  have hb := F.2.1
  have hml := F.2.2.1
  have hown := F.2.2.2.1
  have hts := F.2.2.2.2.1
  have hl : lv_has ls 2 [(0, .ref (A 11)), (1, .int (nI k))] := hl
  refine lv_aload_n hx hb dX4_isBeside_0 rfl (lv_at hl 0 rfl) ?_
  refine lv_iload_n hx hb dX4_isBeside_1 rfl (lv_at hl 1 rfl) ?_
  refine wg_ci hS (wg_rV (As := [.int (nI k)]) (rest := []) F hP hS (c_X4_isOnWay l E A C a b k va vb ct ha hb8 (by omega) f11) ok_X4_isOnWay tb_155 rfl rfl ⟨Nat.le_of_ble_eq_true rfl, Nat.le_of_ble_eq_true rfl⟩ f11 rfl rfl rfl hl.1 rfl (Nat.le_of_ble_eq_true rfl) dX4_isBeside_2 ⟨Nat.le_of_ble_eq_true rfl, Nat.le_of_ble_eq_true rfl⟩) (fun r_2 A1 C_2 H locs w_2 hP hS => ?_)
  obtain ⟨w_2, rfl, rfl⟩ := w_2
  refine lv_if_ne (tgt := 22) hx hb dX4_isBeside_5 (by decide) (fun c_5 => ?_) (fun c_5 => ?_)
  · have ho : lc_on a b k = true := Decidable.byContradiction (fun q => c_5 (by rw [w_2, if_neg q]))
    refine lv_iconst (v := 0) hx hb dX4_isBeside_22 (by decide) ?_
    exact wg_zret F hP hS hr hlk (by decide) ⟨by unfold lc_bs; first | (rw [ho, hs]; rfl) | (rw [ho]; rfl), rfl, rfl⟩ dX4_isBeside_23
  · have ho : lc_on a b k = false := by
      cases q : lc_on a b k
      · rfl
      · rw [q] at w_2; exact absurd (w_2.symm.trans c_5) (by decide)
    refine lv_aload_n hx hb dX4_isBeside_8 rfl (lv_at hl 0 rfl) ?_
    refine lv_iload_n hx hb dX4_isBeside_9 rfl (lv_at hl 1 rfl) ?_
    refine lv_iconst (v := 1) hx hb dX4_isBeside_10 (by decide) ?_
    refine lv_ixor hx hb dX4_isBeside_11 ?_
    refine wg_topi (y := nI (lc_sib k)) ((lc_xor1 k hk).1) ?_
    refine wg_ci hS (wg_rV (As := [.int (nI (lc_sib k))]) (rest := []) F hP hS (c_X4_isOnWay l E A C a b (lc_sib k) va vb ct ha hb8 (by have := (lc_xor1 k hk).2; omega) f11) ok_X4_isOnWay tb_155 rfl rfl ⟨Nat.le_of_ble_eq_true rfl, Nat.le_of_ble_eq_true rfl⟩ f11 rfl rfl rfl hl.1 rfl (Nat.le_of_ble_eq_true rfl) dX4_isBeside_12 ⟨Nat.le_of_ble_eq_true rfl, Nat.le_of_ble_eq_true rfl⟩) (fun r_12 A1 C_12 H locs w_12 hP hS => ?_)
    obtain ⟨w_12, rfl, rfl⟩ := w_12
    refine lv_if_eq (tgt := 22) hx hb dX4_isBeside_15 (by decide) (fun c_15 => ?_) (fun c_15 => ?_)
    · have hs : lc_on a b (lc_sib k) = false := by
        cases q : lc_on a b (lc_sib k)
        · rfl
        · rw [q] at w_12; exact absurd (w_12.symm.trans c_15) (by decide)
      refine lv_iconst (v := 0) hx hb dX4_isBeside_22 (by decide) ?_
      exact wg_zret F hP hS hr hlk (by decide) ⟨by unfold lc_bs; first | (rw [ho, hs]; rfl) | (rw [ho]; rfl), rfl, rfl⟩ dX4_isBeside_23
    · have hs : lc_on a b (lc_sib k) = true := Decidable.byContradiction (fun q => c_15 (by rw [w_12, if_neg q]))
      refine lv_iconst (v := 1) hx hb dX4_isBeside_18 (by decide) ?_
      refine lv_goto (tgt := 23) hx hb dX4_isBeside_19 (by decide) ?_
      exact wg_zret F hP hS hr hlk (by decide) ⟨by unfold lc_bs; rw [ho, hs]; rfl, rfl, rfl⟩ dX4_isBeside_23
set_option maxHeartbeats 4000000 in
set_option maxRecDepth 100000 in
theorem c_X4_hasNode (l : Launch) (E : wg_E) (A : Nat → Nat) (C : wg_C) (a b ct : Nat) (va vb : Int64) (k : Int32) (hct : ct ≤ 4) (f11 : C 11 = some (.inr (4, [.int (nI a), .int (nI b), .long va, .long vb, .ref (A 12), .int (nI ct), .ref (A 13)]))) : Met l yX4_hasNode (wg_ws yX4_hasNode cX4_hasNode 2 (some .boolean)) (wg_rm 0 0 0) (wg_Pc E A C [.ref (A 11), .int k]) (wg_Qi E (fun r A1 C1 => r = (if 0 ≤ k.toInt ∧ k.toInt < ct then 1 else 0) ∧ A = A1 ∧ C = C1)) 0 0 (wg_A E) := by
  refine wg_met (by decide) (Nat.le_of_ble_eq_true rfl) ?_
  intro p e s m below meth c ls F hr hlk hnm hP hS hl
  have F : wg_F p m c cX4_hasNode 2 s ([.ref (A 11), .int k] : List Value).toArray "LightChecks$Proof" E := F
  have hx := F.1
  have hb := F.2.1
  have hml := F.2.2.1
  have hown := F.2.2.2.1
  have hts := F.2.2.2.2.1
  have hl : lv_has ls 2 [(0, .ref (A 11)), (1, .int k)] := hl
  refine lv_iload_n hx hb dX4_hasNode_0 rfl (lv_at hl 1 rfl) ?_
  refine lv_if_lt (tgt := 21) hx hb dX4_hasNode_1 (by decide) (fun c_1 => ?_) (fun c_1 => ?_)
  · have hneg : k.toInt < 0 := by rw [Int32.lt_iff_toInt_lt, show (0 : Int32).toInt = 0 from by decide] at c_1; exact c_1
    refine lv_iconst (v := 0) hx hb dX4_hasNode_21 (by decide) ?_
    exact wg_zret F hP hS hr hlk (by decide) ⟨by rw [if_neg (by omega)], rfl, rfl⟩ dX4_hasNode_22
  · obtain ⟨j, hj, rfl⟩ := nI_of c_1
    refine lv_iload_n hx hb dX4_hasNode_4 rfl (lv_at hl 1 rfl) ?_
    refine lv_aload_n hx hb dX4_hasNode_5 rfl (lv_at hl 0 rfl) ?_
    refine wg_get F hP f11 rfl iw_X4 5 (by decide) tb_87 rfl rfl dX4_hasNode_6 ?_
    refine lv_icmp_ge (tgt := 21) hx hb dX4_hasNode_9 (by decide) (fun c_9 => ?_) (fun c_9 => ?_)
    · rw [nI_leI (by omega) hj] at c_9
      refine lv_iconst (v := 0) hx hb dX4_hasNode_21 (by decide) ?_
      exact wg_zret F hP hS hr hlk (by decide) ⟨by rw [nI_toInt hj, if_neg (by omega)], rfl, rfl⟩ dX4_hasNode_22
    · rw [nI_leI (by omega) hj] at c_9
      refine lv_iload_n hx hb dX4_hasNode_12 rfl (lv_at hl 1 rfl) ?_
      refine lv_iconst (v := 4) hx hb dX4_hasNode_13 (by decide) ?_
      refine lv_icmp_ge (tgt := 21) hx hb dX4_hasNode_14 (by decide) (fun c_14 => ?_) (fun c_14 => ?_)
      · exact absurd c_14 (by rw [show (4 : Int32) = nI 4 from rfl, nI_leI (by decide) hj]; omega)
      · refine lv_iconst (v := 1) hx hb dX4_hasNode_17 (by decide) ?_
        refine lv_goto (tgt := 22) hx hb dX4_hasNode_18 (by decide) ?_
        exact wg_zret F hP hS hr hlk (by decide) ⟨by rw [nI_toInt hj, if_pos (by omega)], rfl, rfl⟩ dX4_hasNode_22
set_option maxHeartbeats 4000000 in
set_option maxRecDepth 100000 in
theorem c_X4_numberAt (l : Launch) (E : wg_E) (A : Nat → Nat) (C : wg_C) (a b ct : Nat) (va vb : Int64) (pn : Nat → Int64) (k : Int32) (hct : ct ≤ 4) (f11 : C 11 = some (.inr (4, [.int (nI a), .int (nI b), .long va, .long vb, .ref (A 12), .int (nI ct), .ref (A 13)]))) (f12 : C 12 = some (.inl (E.2.1 1, 4, .inr (.inl pn)))) : Met l yX4_numberAt (wg_ws yX4_numberAt cX4_numberAt 2 (some .long)) (wg_rm 1 0 0) (wg_Pc E A C [.ref (A 11), .int k]) (wg_Ql E (fun r A1 C1 => r = lc_num a b va vb ct pn k ∧ A = A1 ∧ C = C1)) 0 0 (wg_A E) := by
  refine wg_met (by decide) (Nat.le_of_ble_eq_true rfl) ?_
  intro p e s m below meth c ls F hr hlk hnm hP hS hl
  have F : wg_F p m c cX4_numberAt 2 s ([.ref (A 11), .int k] : List Value).toArray "LightChecks$Proof" E := F
  have hx := F.1
  have hb := F.2.1
  have hml := F.2.2.1
  have hown := F.2.2.2.1
  have hts := F.2.2.2.2.1
  have hl : lv_has ls 2 [(0, .ref (A 11)), (1, .int k)] := hl
  refine lv_iload_n hx hb dX4_numberAt_0 rfl (lv_at hl 1 rfl) ?_
  rcases lc_sw4 k with rfl | rfl | rfl | rfl | ho
  · refine lv_tableIn (off := 31) (tgt := 32) hx hb dX4_numberAt_1 (by decide) (by decide) (by decide) (by decide) ?_
    refine lv_aload_n hx hb dX4_numberAt_32 rfl (lv_at hl 0 rfl) ?_
    refine wg_get F hP f11 rfl iw_X4 0 (by decide) tb_82 rfl rfl dX4_numberAt_33 ?_
    refine lv_i2l (v := (nI a).toInt64) hx hb dX4_numberAt_36 rfl ?_
    exact wg_lret F hP hS hr hlk (⟨rfl, rfl, rfl⟩) dX4_numberAt_37
  · refine lv_tableIn (off := 37) (tgt := 38) hx hb dX4_numberAt_1 (by decide) (by decide) (by decide) (by decide) ?_
    refine lv_aload_n hx hb dX4_numberAt_38 rfl (lv_at hl 0 rfl) ?_
    refine wg_get F hP f11 rfl iw_X4 1 (by decide) tb_83 rfl rfl dX4_numberAt_39 ?_
    refine lv_i2l (v := (nI b).toInt64) hx hb dX4_numberAt_42 rfl ?_
    exact wg_lret F hP hS hr hlk (⟨rfl, rfl, rfl⟩) dX4_numberAt_43
  · refine lv_tableIn (off := 43) (tgt := 44) hx hb dX4_numberAt_1 (by decide) (by decide) (by decide) (by decide) ?_
    refine lv_aload_n hx hb dX4_numberAt_44 rfl (lv_at hl 0 rfl) ?_
    refine wg_get F hP f11 rfl iw_X4 2 (by decide) tb_84 rfl rfl dX4_numberAt_45 ?_
    exact wg_lret F hP hS hr hlk (⟨rfl, rfl, rfl⟩) dX4_numberAt_48
  · refine lv_tableIn (off := 48) (tgt := 49) hx hb dX4_numberAt_1 (by decide) (by decide) (by decide) (by decide) ?_
    refine lv_aload_n hx hb dX4_numberAt_49 rfl (lv_at hl 0 rfl) ?_
    refine wg_get F hP f11 rfl iw_X4 3 (by decide) tb_85 rfl rfl dX4_numberAt_50 ?_
    exact wg_lret F hP hS hr hlk (⟨rfl, rfl, rfl⟩) dX4_numberAt_53
  · refine lv_tableOut (tgt := 54) hx hb dX4_numberAt_1 ho (by decide) ?_
    refine lv_iload_n hx hb dX4_numberAt_54 rfl (lv_at hl 1 rfl) ?_
    refine lv_iconst (v := 4) hx hb dX4_numberAt_55 (by decide) ?_
    refine lv_icmp_lt (tgt := 80) hx hb dX4_numberAt_56 (by decide) (fun c_56 => ?_) (fun c_56 => ?_)
    · have h4 : ¬ (4 ≤ k.toInt ∧ k.toInt < 4 + ct) := by rw [Int32.lt_iff_toInt_lt, show (4 : Int32).toInt = 4 from by decide] at c_56; omega
      refine lv_lconst (v := 0) hx hb dX4_numberAt_80 (by decide) ?_
      exact wg_lret F hP hS hr hlk (⟨by rw [lc_num_out ho, if_neg h4], rfl, rfl⟩) dX4_numberAt_81
    · obtain ⟨i, hi31, ek, e4, eT, eC⟩ := lc_ge4 c_56
      refine lv_aload_n hx hb dX4_numberAt_59 rfl (lv_at hl 0 rfl) ?_
      refine lv_iload_n hx hb dX4_numberAt_60 rfl (lv_at hl 1 rfl) ?_
      refine lv_iconst (v := 4) hx hb dX4_numberAt_61 (by decide) ?_
      refine lv_isub hx hb dX4_numberAt_62 ?_
      refine wg_ci hS (wg_rV (As := [.int (k - 4)]) (rest := []) F hP hS (c_X4_hasNode l E A C a b ct va vb _ hct f11) ok_X4_hasNode tb_465 rfl rfl ⟨Nat.le_of_ble_eq_true rfl, Nat.le_of_ble_eq_true rfl⟩ f11 rfl rfl rfl hl.1 rfl (Nat.le_of_ble_eq_true rfl) dX4_numberAt_63 ⟨Nat.le_of_ble_eq_true rfl, Nat.le_of_ble_eq_true rfl⟩) (fun r_63 A1 C_63 H locs w_63 hP hS => ?_)
      obtain ⟨w_63, rfl, rfl⟩ := w_63
      refine lv_if_eq (tgt := 80) hx hb dX4_numberAt_66 (by decide) (fun c_66 => ?_) (fun c_66 => ?_)
      · have hni : ¬ i < ct := fun q => by rw [w_63, e4, nI_toInt (by omega), if_pos (by omega)] at c_66; exact absurd c_66 (by decide)
        have h4 : ¬ (4 ≤ k.toInt ∧ k.toInt < 4 + ct) := by omega
        refine lv_lconst (v := 0) hx hb dX4_numberAt_80 (by decide) ?_
        exact wg_lret F hP hS hr hlk (⟨by rw [lc_num_out ho, if_neg h4], rfl, rfl⟩) dX4_numberAt_81
      · have hic : i < ct := Decidable.byContradiction (fun q => c_66 (by rw [w_63, e4, nI_toInt (by omega), if_neg (by omega)]))
        refine lv_aload_n hx hb dX4_numberAt_69 rfl (lv_at hl 0 rfl) ?_
        refine wg_get F hP f11 rfl iw_X4 4 (by decide) tb_86 rfl rfl dX4_numberAt_70 ?_
        refine lv_iload_n hx hb dX4_numberAt_73 rfl (lv_at hl 1 rfl) ?_
        refine lv_iconst (v := 4) hx hb dX4_numberAt_74 (by decide) ?_
        refine lv_isub hx hb dX4_numberAt_75 ?_
        refine wg_lld F hP f12 (by rw [e4]; exact vp_in_nI (by omega) (by decide)) dX4_numberAt_76 ?_
        refine lv_goto (tgt := 81) hx hb dX4_numberAt_77 (by decide) ?_
        exact wg_lret F hP hS hr hlk (⟨by rw [lc_num_out ho, if_pos (by omega), e4, nI_clamp (by omega), eC, Nat.add_sub_cancel], rfl, rfl⟩) dX4_numberAt_81
set_option maxHeartbeats 4000000 in
set_option maxRecDepth 100000 in
theorem c_X4_replace (l : Launch) (E : wg_E) (A : Nat → Nat) (C : wg_C) (a b ct : Nat) (va vb : Int64) (pn : Nat → Int64) (k : Int32) (v : Int64) (hct : ct ≤ 4) (f11 : C 11 = some (.inr (4, [.int (nI a), .int (nI b), .long va, .long vb, .ref (A 12), .int (nI ct), .ref (A 13)]))) (f12 : C 12 = some (.inl (E.2.1 1, 4, .inr (.inl pn)))) : Met l yX4_replace (wg_ws yX4_replace cX4_replace 4 (some .boolean)) (wg_rm 1 0 0) (wg_Pc E A C [.ref (A 11), .int k, .long v]) (wg_Qi E (fun r A1 C1 => A = A1 ∧ ((r = 1 ∧ ((k = 2 ∧ C1 = va_up C 11 (some (.inr (4, [.int (nI a), .int (nI b), .long v, .long vb, .ref (A 12), .int (nI ct), .ref (A 13)])))) ∨ (k = 3 ∧ C1 = va_up C 11 (some (.inr (4, [.int (nI a), .int (nI b), .long va, .long v, .ref (A 12), .int (nI ct), .ref (A 13)])))) ∨ (∃ i, i < ct ∧ k = nI (i + 4) ∧ C1 = va_up C 12 (some (.inl (E.2.1 1, 4, .inr (.inl (vp_updL pn i v)))))))) ∨ (r = 0 ∧ ¬ k = 2 ∧ ¬ k = 3 ∧ (¬ ∃ i, i < ct ∧ k = nI (i + 4)) ∧ C = C1)))) 0 0 (wg_A E) := by
  refine wg_met (by decide) (Nat.le_of_ble_eq_true rfl) ?_
  intro p e s m below meth c ls F hr hlk hnm hP hS hl
  have F : wg_F p m c cX4_replace 4 s ([.ref (A 11), .int k, .long v] : List Value).toArray "LightChecks$Proof" E := F
  have hx := F.1
  have hb := F.2.1
  have hml := F.2.2.1
  have hown := F.2.2.2.1
  have hts := F.2.2.2.2.1
  have hl : lv_has ls 4 [(0, .ref (A 11)), (1, .int k), (2, .long v)] := hl
  refine lv_iload_n hx hb dX4_replace_0 rfl (lv_at hl 1 rfl) ?_
  refine lv_iconst (v := 2) hx hb dX4_replace_1 (by decide) ?_
  refine lv_icmp_ne (tgt := 13) hx hb dX4_replace_2 (by decide) (fun c_2 => ?_) (fun c_2 => ?_)
  · refine lv_iload_n hx hb dX4_replace_13 rfl (lv_at hl 1 rfl) ?_
    refine lv_iconst (v := 3) hx hb dX4_replace_14 (by decide) ?_
    refine lv_icmp_ne (tgt := 26) hx hb dX4_replace_15 (by decide) (fun c_15 => ?_) (fun c_15 => ?_)
    · refine lv_iload_n hx hb dX4_replace_26 rfl (lv_at hl 1 rfl) ?_
      refine lv_iconst (v := 4) hx hb dX4_replace_27 (by decide) ?_
      refine lv_icmp_lt (tgt := 53) hx hb dX4_replace_28 (by decide) (fun c_28 => ?_) (fun c_28 => ?_)
      · have hno : ∀ i2, i2 < ct → k ≠ nI (i2 + 4) := fun i2 h1 h2 => by rw [h2, show (4 : Int32) = nI 4 from rfl, nI_ltI (by omega) (by decide)] at c_28; omega
        refine lv_iconst (v := 0) hx hb dX4_replace_53 (by decide) ?_
        exact wg_zret F hP hS hr hlk (by decide) ⟨rfl, Or.inr ⟨rfl, c_2, c_15, fun ⟨i2, h1, h2⟩ => hno i2 h1 h2, rfl⟩⟩ dX4_replace_54
      · obtain ⟨i, hi31, ek, e4, eT, eC⟩ := lc_ge4 c_28
        refine lv_aload_n hx hb dX4_replace_31 rfl (lv_at hl 0 rfl) ?_
        refine lv_iload_n hx hb dX4_replace_32 rfl (lv_at hl 1 rfl) ?_
        refine lv_iconst (v := 4) hx hb dX4_replace_33 (by decide) ?_
        refine lv_isub hx hb dX4_replace_34 ?_
        refine wg_ci hS (wg_rV (As := [.int (k - 4)]) (rest := []) F hP hS (c_X4_hasNode l E A C a b ct va vb _ hct f11) ok_X4_hasNode tb_465 rfl rfl ⟨Nat.le_of_ble_eq_true rfl, Nat.le_of_ble_eq_true rfl⟩ f11 rfl rfl rfl hl.1 rfl (Nat.le_of_ble_eq_true rfl) dX4_replace_35 ⟨Nat.le_of_ble_eq_true rfl, Nat.le_of_ble_eq_true rfl⟩) (fun r_35 A1 C_35 H locs w_35 hP hS => ?_)
        obtain ⟨w_35, rfl, rfl⟩ := w_35
        refine lv_if_eq (tgt := 53) hx hb dX4_replace_38 (by decide) (fun c_38 => ?_) (fun c_38 => ?_)
        · have hni : ¬ i < ct := fun q => by rw [w_35, e4, nI_toInt (by omega), if_pos (by omega)] at c_38; exact absurd c_38 (by decide)
          have hno : ∀ i2, i2 < ct → k ≠ nI (i2 + 4) := fun i2 h1 h2 => lc_repno hni hi31 ek h1 hct h2
          refine lv_iconst (v := 0) hx hb dX4_replace_53 (by decide) ?_
          exact wg_zret F hP hS hr hlk (by decide) ⟨rfl, Or.inr ⟨rfl, c_2, c_15, fun ⟨i2, h1, h2⟩ => hno i2 h1 h2, rfl⟩⟩ dX4_replace_54
        · have hic : i < ct := Decidable.byContradiction (fun q => c_38 (by rw [w_35, e4, nI_toInt (by omega), if_neg (by omega)]))
          refine lv_aload_n hx hb dX4_replace_41 rfl (lv_at hl 0 rfl) ?_
          refine wg_get F hP f11 rfl iw_X4 4 (by decide) tb_86 rfl rfl dX4_replace_42 ?_
          refine lv_iload_n hx hb dX4_replace_45 rfl (lv_at hl 1 rfl) ?_
          refine lv_iconst (v := 4) hx hb dX4_replace_46 (by decide) ?_
          refine lv_isub hx hb dX4_replace_47 ?_
          refine lv_lload_n hx hb dX4_replace_48 rfl (lv_at hl 2 rfl) ?_
          refine wg_lst F hP hS f12 (by rw [e4]; exact vp_in_nI (by omega) (by decide)) dX4_replace_49 (fun H locs hP hS => ?_)
          obtain ⟨C_49, hC_49⟩ : ∃ z : wg_C, z = va_up C 12 (some (.inl (E.2.1 1, 4, .inr (.inl (vp_updL pn (k - 4).toNatClampNeg v))))) := ⟨_, rfl⟩
          have hP : wg_P E A C_49 H := by rw [hC_49]; exact hP
          have f11_c49 : C_49 11 = some (.inr (4, [.int (nI a), .int (nI b), .long va, .long vb, .ref (A 12), .int (nI ct), .ref (A 13)])) := by rw [hC_49]; rw [va_up_ne _ _ (by decide)]; exact f11
          have f12_c49 : C_49 12 = some (.inl (E.2.1 1, 4, .inr (.inl (vp_updL pn (k - 4).toNatClampNeg v)))) := by rw [hC_49]; exact va_up_self _ _ _
          refine lv_goto (tgt := 55) hx hb dX4_replace_50 (by decide) ?_
          refine lv_iconst (v := 1) hx hb dX4_replace_55 (by decide) ?_
          exact wg_zret F hP hS hr hlk (by decide) ⟨rfl, Or.inl ⟨rfl, Or.inr (Or.inr ⟨i, hic, ek, by rw [hC_49, e4, nI_clamp (by omega)]⟩)⟩⟩ dX4_replace_56
    · refine lv_aload_n hx hb dX4_replace_18 rfl (lv_at hl 0 rfl) ?_
      refine lv_lload_n hx hb dX4_replace_19 rfl (lv_at hl 2 rfl) ?_
      refine wg_put F hP hS f11 rfl iw_X4 tyX4_ok nmX4 3 (by decide) tb_85 rfl rfl rfl (Nat.le_of_ble_eq_true rfl) dX4_replace_20 (fun H locs hP hS => ?_)
      obtain ⟨C_20, hC_20⟩ : ∃ z : wg_C, z = va_up C 11 (some (.inr (4, [.int (nI a), .int (nI b), .long va, .long v, .ref (A 12), .int (nI ct), .ref (A 13)]))) := ⟨_, rfl⟩
      have hP : wg_P E A C_20 H := by rw [hC_20]; exact hP
      have f11_c20 : C_20 11 = some (.inr (4, [.int (nI a), .int (nI b), .long va, .long v, .ref (A 12), .int (nI ct), .ref (A 13)])) := by rw [hC_20]; exact va_up_self _ _ _
      have f12_c20 : C_20 12 = some (.inl (E.2.1 1, 4, .inr (.inl pn))) := by rw [hC_20]; rw [va_up_ne _ _ (by decide)]; exact f12
      refine lv_goto (tgt := 55) hx hb dX4_replace_23 (by decide) ?_
      refine lv_iconst (v := 1) hx hb dX4_replace_55 (by decide) ?_
      exact wg_zret F hP hS hr hlk (by decide) ⟨rfl, Or.inl ⟨rfl, Or.inr (Or.inl ⟨c_15, hC_20⟩)⟩⟩ dX4_replace_56
  · refine lv_aload_n hx hb dX4_replace_5 rfl (lv_at hl 0 rfl) ?_
    refine lv_lload_n hx hb dX4_replace_6 rfl (lv_at hl 2 rfl) ?_
    refine wg_put F hP hS f11 rfl iw_X4 tyX4_ok nmX4 2 (by decide) tb_84 rfl rfl rfl (Nat.le_of_ble_eq_true rfl) dX4_replace_7 (fun H locs hP hS => ?_)
    obtain ⟨C_7, hC_7⟩ : ∃ z : wg_C, z = va_up C 11 (some (.inr (4, [.int (nI a), .int (nI b), .long v, .long vb, .ref (A 12), .int (nI ct), .ref (A 13)]))) := ⟨_, rfl⟩
    have hP : wg_P E A C_7 H := by rw [hC_7]; exact hP
    have f11_c7 : C_7 11 = some (.inr (4, [.int (nI a), .int (nI b), .long v, .long vb, .ref (A 12), .int (nI ct), .ref (A 13)])) := by rw [hC_7]; exact va_up_self _ _ _
    have f12_c7 : C_7 12 = some (.inl (E.2.1 1, 4, .inr (.inl pn))) := by rw [hC_7]; rw [va_up_ne _ _ (by decide)]; exact f12
    refine lv_goto (tgt := 55) hx hb dX4_replace_10 (by decide) ?_
    refine lv_iconst (v := 1) hx hb dX4_replace_55 (by decide) ?_
    exact wg_zret F hP hS hr hlk (by decide) ⟨rfl, Or.inl ⟨rfl, Or.inl ⟨c_2, hC_7⟩⟩⟩ dX4_replace_56
set_option maxHeartbeats 4000000 in
set_option maxRecDepth 100000 in
theorem c_X4_take (l : Launch) (E : wg_E) (A : Nat → Nat) (C : wg_C) (a b : Nat) (a0 b0 ct0 : Int32) (va0 vb0 : Int64) (pn lf nd : Nat → Int64) (ha : a < 8) (hb8 : b < 8) (hab : a ≠ b) (hnd : ∀ j, 1 ≤ j → j < 16 → nd j = lc_node lf j) (f11 : C 11 = some (.inr (4, [.int a0, .int b0, .long va0, .long vb0, .ref (A 12), .int ct0, .ref (A 13)]))) (f12 : C 12 = some (.inl (E.2.1 1, 4, .inr (.inl pn)))) (f8 : C 8 = some (.inr (5, [.ref (A 9), .ref (A 10)]))) (f9 : C 9 = some (.inl (E.2.1 1, 8, .inr (.inl lf)))) (f10 : C 10 = some (.inl (E.2.1 1, 16, .inr (.inl nd)))) : Met l yX4_take (wg_ws yX4_take cX4_take 5 none) (wg_rm 3 0 0) (wg_Pc E A C [.ref (A 11), .ref (A 8), .int (nI a), .int (nI b)]) (wg_Qv E (fun A1 C1 => A = A1 ∧ (∀ r, r ≠ 11 → r ≠ 12 → C1 r = C r) ∧ C1 11 = some (.inr (4, [.int (nI a), .int (nI b), .long (lf a), .long (lf b), .ref (A 12), .int (nI (lc_cnt a b 1)), .ref (A 13)])) ∧ C1 12 = some (.inl (E.2.1 1, 4, .inr (.inl (lc_tk a b lf pn 1)))))) 0 0 (wg_A E) := by
  refine wg_met (by decide) (Nat.le_of_ble_eq_true rfl) ?_
  intro p e s m below meth c ls F hr hlk hnm hP hS hl
  have F : wg_F p m c cX4_take 5 s ([.ref (A 11), .ref (A 8), .int (nI a), .int (nI b)] : List Value).toArray "LightChecks$Proof" E := F
  have hx := F.1
  have hb := F.2.1
  have hml := F.2.2.1
  have hown := F.2.2.2.1
  have hts := F.2.2.2.2.1
  have hl : lv_has ls 5 [(0, .ref (A 11)), (1, .ref (A 8)), (2, .int (nI a)), (3, .int (nI b))] := hl
  refine lv_aload_n hx hb dX4_take_0 rfl (lv_at hl 0 rfl) ?_
  refine lv_iload_n hx hb dX4_take_1 rfl (lv_at hl 2 rfl) ?_
  refine wg_put F hP hS f11 rfl iw_X4 tyX4_ok nmX4 0 (by decide) tb_82 rfl rfl rfl (Nat.le_of_ble_eq_true rfl) dX4_take_2 (fun H locs hP hS => ?_)
  obtain ⟨C_2, hC_2⟩ : ∃ z : wg_C, z = va_up C 11 (some (.inr (4, [.int (nI a), .int b0, .long va0, .long vb0, .ref (A 12), .int ct0, .ref (A 13)]))) := ⟨_, rfl⟩
  have hP : wg_P E A C_2 H := by rw [hC_2]; exact hP
  have f11_c2 : C_2 11 = some (.inr (4, [.int (nI a), .int b0, .long va0, .long vb0, .ref (A 12), .int ct0, .ref (A 13)])) := by rw [hC_2]; exact va_up_self _ _ _
  have f12_c2 : C_2 12 = some (.inl (E.2.1 1, 4, .inr (.inl pn))) := by rw [hC_2]; rw [va_up_ne _ _ (by decide)]; exact f12
  have f8_c2 : C_2 8 = some (.inr (5, [.ref (A 9), .ref (A 10)])) := by rw [hC_2]; rw [va_up_ne _ _ (by decide)]; exact f8
  have f9_c2 : C_2 9 = some (.inl (E.2.1 1, 8, .inr (.inl lf))) := by rw [hC_2]; rw [va_up_ne _ _ (by decide)]; exact f9
  have f10_c2 : C_2 10 = some (.inl (E.2.1 1, 16, .inr (.inl nd))) := by rw [hC_2]; rw [va_up_ne _ _ (by decide)]; exact f10
  refine lv_aload_n hx hb dX4_take_5 rfl (lv_at hl 0 rfl) ?_
  refine lv_iload_n hx hb dX4_take_6 rfl (lv_at hl 3 rfl) ?_
  refine wg_put F hP hS f11_c2 rfl iw_X4 tyX4_ok nmX4 1 (by decide) tb_83 rfl rfl rfl (Nat.le_of_ble_eq_true rfl) dX4_take_7 (fun H locs hP hS => ?_)
  obtain ⟨C_7, hC_7⟩ : ∃ z : wg_C, z = va_up C_2 11 (some (.inr (4, [.int (nI a), .int (nI b), .long va0, .long vb0, .ref (A 12), .int ct0, .ref (A 13)]))) := ⟨_, rfl⟩
  have hP : wg_P E A C_7 H := by rw [hC_7]; exact hP
  have f11_c7 : C_7 11 = some (.inr (4, [.int (nI a), .int (nI b), .long va0, .long vb0, .ref (A 12), .int ct0, .ref (A 13)])) := by rw [hC_7]; exact va_up_self _ _ _
  have f12_c7 : C_7 12 = some (.inl (E.2.1 1, 4, .inr (.inl pn))) := by rw [hC_7]; rw [va_up_ne _ _ (by decide)]; exact f12_c2
  have f8_c7 : C_7 8 = some (.inr (5, [.ref (A 9), .ref (A 10)])) := by rw [hC_7]; rw [va_up_ne _ _ (by decide)]; exact f8_c2
  have f9_c7 : C_7 9 = some (.inl (E.2.1 1, 8, .inr (.inl lf))) := by rw [hC_7]; rw [va_up_ne _ _ (by decide)]; exact f9_c2
  have f10_c7 : C_7 10 = some (.inl (E.2.1 1, 16, .inr (.inl nd))) := by rw [hC_7]; rw [va_up_ne _ _ (by decide)]; exact f10_c2
  refine lv_aload_n hx hb dX4_take_10 rfl (lv_at hl 0 rfl) ?_
  refine lv_aload_n hx hb dX4_take_11 rfl (lv_at hl 1 rfl) ?_
  refine lv_iload_n hx hb dX4_take_12 rfl (lv_at hl 2 rfl) ?_
  refine wg_cl_ hS (wg_rVN (As := [.int (nI a)]) (rest := [.ref (A 11)]) F hP hS (c_X5_leafAt l E A C_7 lf nd a ha f8_c7 f9_c7 f10_c7) ok_X5_leafAt nb_144 rfl rfl ⟨Nat.le_of_ble_eq_true rfl, Nat.le_of_ble_eq_true rfl⟩ f8_c7 rfl rfl rfl hl.1 rfl (Nat.le_of_ble_eq_true rfl) dX4_take_13 ⟨Nat.le_of_ble_eq_true rfl, Nat.le_of_ble_eq_true rfl⟩) (fun r_13 A1 C_13 H locs w_13 hP hS => ?_)
  obtain ⟨w_13, rfl, rfl⟩ := w_13
  refine wg_topl (y := lf a) w_13 ?_
  refine wg_put F hP hS f11_c7 rfl iw_X4 tyX4_ok nmX4 2 (by decide) tb_84 rfl rfl rfl (Nat.le_of_ble_eq_true rfl) dX4_take_16 (fun H locs hP hS => ?_)
  obtain ⟨C_16, hC_16⟩ : ∃ z : wg_C, z = va_up C_7 11 (some (.inr (4, [.int (nI a), .int (nI b), .long (lf a), .long vb0, .ref (A 12), .int ct0, .ref (A 13)]))) := ⟨_, rfl⟩
  have hP : wg_P E A C_16 H := by rw [hC_16]; exact hP
  have f11_c16 : C_16 11 = some (.inr (4, [.int (nI a), .int (nI b), .long (lf a), .long vb0, .ref (A 12), .int ct0, .ref (A 13)])) := by rw [hC_16]; exact va_up_self _ _ _
  have f12_c16 : C_16 12 = some (.inl (E.2.1 1, 4, .inr (.inl pn))) := by rw [hC_16]; rw [va_up_ne _ _ (by decide)]; exact f12_c7
  have f8_c16 : C_16 8 = some (.inr (5, [.ref (A 9), .ref (A 10)])) := by rw [hC_16]; rw [va_up_ne _ _ (by decide)]; exact f8_c7
  have f9_c16 : C_16 9 = some (.inl (E.2.1 1, 8, .inr (.inl lf))) := by rw [hC_16]; rw [va_up_ne _ _ (by decide)]; exact f9_c7
  have f10_c16 : C_16 10 = some (.inl (E.2.1 1, 16, .inr (.inl nd))) := by rw [hC_16]; rw [va_up_ne _ _ (by decide)]; exact f10_c7
  refine lv_aload_n hx hb dX4_take_19 rfl (lv_at hl 0 rfl) ?_
  refine lv_aload_n hx hb dX4_take_20 rfl (lv_at hl 1 rfl) ?_
  refine lv_iload_n hx hb dX4_take_21 rfl (lv_at hl 3 rfl) ?_
  refine wg_cl_ hS (wg_rVN (As := [.int (nI b)]) (rest := [.ref (A 11)]) F hP hS (c_X5_leafAt l E A C_16 lf nd b hb8 f8_c16 f9_c16 f10_c16) ok_X5_leafAt nb_144 rfl rfl ⟨Nat.le_of_ble_eq_true rfl, Nat.le_of_ble_eq_true rfl⟩ f8_c16 rfl rfl rfl hl.1 rfl (Nat.le_of_ble_eq_true rfl) dX4_take_22 ⟨Nat.le_of_ble_eq_true rfl, Nat.le_of_ble_eq_true rfl⟩) (fun r_22 A1 C_22 H locs w_22 hP hS => ?_)
  obtain ⟨w_22, rfl, rfl⟩ := w_22
  refine wg_topl (y := lf b) w_22 ?_
  refine wg_put F hP hS f11_c16 rfl iw_X4 tyX4_ok nmX4 3 (by decide) tb_85 rfl rfl rfl (Nat.le_of_ble_eq_true rfl) dX4_take_25 (fun H locs hP hS => ?_)
  obtain ⟨C_25, hC_25⟩ : ∃ z : wg_C, z = va_up C_16 11 (some (.inr (4, [.int (nI a), .int (nI b), .long (lf a), .long (lf b), .ref (A 12), .int ct0, .ref (A 13)]))) := ⟨_, rfl⟩
  have hP : wg_P E A C_25 H := by rw [hC_25]; exact hP
  have f11_c25 : C_25 11 = some (.inr (4, [.int (nI a), .int (nI b), .long (lf a), .long (lf b), .ref (A 12), .int ct0, .ref (A 13)])) := by rw [hC_25]; exact va_up_self _ _ _
  have f12_c25 : C_25 12 = some (.inl (E.2.1 1, 4, .inr (.inl pn))) := by rw [hC_25]; rw [va_up_ne _ _ (by decide)]; exact f12_c16
  have f8_c25 : C_25 8 = some (.inr (5, [.ref (A 9), .ref (A 10)])) := by rw [hC_25]; rw [va_up_ne _ _ (by decide)]; exact f8_c16
  have f9_c25 : C_25 9 = some (.inl (E.2.1 1, 8, .inr (.inl lf))) := by rw [hC_25]; rw [va_up_ne _ _ (by decide)]; exact f9_c16
  have f10_c25 : C_25 10 = some (.inl (E.2.1 1, 16, .inr (.inl nd))) := by rw [hC_25]; rw [va_up_ne _ _ (by decide)]; exact f10_c16
  refine lv_aload_n hx hb dX4_take_28 rfl (lv_at hl 0 rfl) ?_
  refine lv_iconst (v := 0) hx hb dX4_take_29 (by decide) ?_
  refine wg_put F hP hS f11_c25 rfl iw_X4 tyX4_ok nmX4 5 (by decide) tb_87 rfl rfl rfl (Nat.le_of_ble_eq_true rfl) dX4_take_30 (fun H locs hP hS => ?_)
  obtain ⟨C_30, hC_30⟩ : ∃ z : wg_C, z = va_up C_25 11 (some (.inr (4, [.int (nI a), .int (nI b), .long (lf a), .long (lf b), .ref (A 12), .int 0, .ref (A 13)]))) := ⟨_, rfl⟩
  have hP : wg_P E A C_30 H := by rw [hC_30]; exact hP
  have f11_c30 : C_30 11 = some (.inr (4, [.int (nI a), .int (nI b), .long (lf a), .long (lf b), .ref (A 12), .int 0, .ref (A 13)])) := by rw [hC_30]; exact va_up_self _ _ _
  have f12_c30 : C_30 12 = some (.inl (E.2.1 1, 4, .inr (.inl pn))) := by rw [hC_30]; rw [va_up_ne _ _ (by decide)]; exact f12_c25
  have f8_c30 : C_30 8 = some (.inr (5, [.ref (A 9), .ref (A 10)])) := by rw [hC_30]; rw [va_up_ne _ _ (by decide)]; exact f8_c25
  have f9_c30 : C_30 9 = some (.inl (E.2.1 1, 8, .inr (.inl lf))) := by rw [hC_30]; rw [va_up_ne _ _ (by decide)]; exact f9_c25
  have f10_c30 : C_30 10 = some (.inl (E.2.1 1, 16, .inr (.inl nd))) := by rw [hC_30]; rw [va_up_ne _ _ (by decide)]; exact f10_c25
  refine lv_bipush (v := 15) hx hb dX4_take_33 (by decide) ?_
  refine lv_istore (lv' := [(4, .int 15), (0, .ref (A 11)), (1, .ref (A 8)), (2, .int (nI a)), (3, .int (nI b))]) hx hb dX4_take_35 hl (by decide) rfl (fun ls hl => ?_)
  have loop_37 : ∀ (fuel : Nat) (k : Nat) (x4 : Int32) (fi : Nat → Int64) (ct : Int32), k < fuel → (1 ≤ k) → (k < 16) → (x4 = nI k) → (fi = lc_tk a b lf pn k) → (ct = nI (lc_cnt a b k)) → ∀ (Cw : wg_C) , Cw 11 = some (.inr (4, [.int (nI a), .int (nI b), .long (lf a), .long (lf b), .ref (A 12), .int ct, .ref (A 13)])) → Cw 12 = some (.inl (E.2.1 1, 4, .inr (.inl fi))) → Cw 8 = some (.inr (5, [.ref (A 9), .ref (A 10)])) → Cw 9 = some (.inl (E.2.1 1, 8, .inr (.inl lf))) → Cw 10 = some (.inl (E.2.1 1, 16, .inr (.inl nd))) → (∀ r, r ≠ 11 → r ≠ 12 → Cw r = C r) → ∀ (H : Heap) (locs : List Loc) (ls : Array Slot), wg_P E A Cw H → va_S (wg_A E) s.heap H locs → lv_has ls 5 [(0, .ref (A 11)), (1, .ref (A 8)), (4, .int x4)] → W p l e (wg_rm 3 0 0) s m ([.ref (A 11), .ref (A 8), .int (nI a), .int (nI b)] : List Value).toArray below meth c H locs 0 0 (MQ below (wg_Qv E (fun A1 C1 => A = A1 ∧ (∀ r, r ≠ 11 → r ≠ 12 → C1 r = C r) ∧ C1 11 = some (.inr (4, [.int (nI a), .int (nI b), .long (lf a), .long (lf b), .ref (A 12), .int (nI (lc_cnt a b 1)), .ref (A 13)])) ∧ C1 12 = some (.inl (E.2.1 1, 4, .inr (.inl (lc_tk a b lf pn 1)))))) ([.ref (A 11), .ref (A 8), .int (nI a), .int (nI b)] : List Value).toArray s 0 0 (wg_A E)) (F0 m 37 ls []) := by
    intro fuel
    induction fuel with
    | zero => intro k x4 fi ct hm; exact absurd hm (Nat.not_lt_zero _)
    | succ fuel ih_loop_37 =>
      intro k x4 fi ct hm_loop_37 hk1 hk ex4 hfi hct Cw f11w f12w f8w f9w f10w hbase H locs ls hP hS hl
      subst ex4 hfi hct
      refine lv_iload hx hb dX4_take_37 (lv_at hl 2 rfl) ?_
      refine lv_iconst (v := 1) hx hb dX4_take_39 (by decide) ?_
      refine lv_icmp_le (tgt := 91) hx hb dX4_take_40 (by decide) (fun c_40 => ?_) (fun c_40 => ?_)
      · have hk0 : k = 1 := by rw [show (1 : Int32) = nI 1 from rfl, nI_leI (by omega) (by decide)] at c_40; omega
        subst hk0
        exact wg_vret F hP hS hr hlk (⟨rfl, fun r h1 h2 => by rw [hbase r h1 h2], f11w, f12w⟩) dX4_take_91
      · have hk2 : 1 < k := by rw [show (1 : Int32) = nI 1 from rfl, nI_leI (by omega) (by decide)] at c_40; omega
        obtain ⟨k, rfl⟩ : ∃ q, k = q + 1 := ⟨k - 1, by omega⟩
        have hk2 : 1 ≤ k := by omega
        have h4 := lc_cnt_small ha hb8 hab (k := k) (by omega)
        refine lv_aload_n hx hb dX4_take_43 rfl (lv_at hl 0 rfl) ?_
        refine lv_iload hx hb dX4_take_44 (lv_at hl 2 rfl) ?_
        refine wg_ci hS (wg_rV (As := [.int (nI (k + 1))]) (rest := []) F hP hS (c_X4_isBeside l E A Cw a b (k + 1) (lf a) (lf b) _ ha hb8 hk f11w) ok_X4_isBeside tb_151 rfl rfl ⟨Nat.le_of_ble_eq_true rfl, Nat.le_of_ble_eq_true rfl⟩ f11w rfl rfl rfl hl.1 rfl (Nat.le_of_ble_eq_true rfl) dX4_take_46 ⟨Nat.le_of_ble_eq_true rfl, Nat.le_of_ble_eq_true rfl⟩) (fun r_46 A1 C_46 H locs w_46 hP hS => ?_)
        obtain ⟨w_46, rfl, rfl⟩ := w_46
        refine lv_if_eq (tgt := 85) hx hb dX4_take_49 (by decide) (fun c_49 => ?_) (fun c_49 => ?_)
        · have hbs : ¬ lc_bs a b (k + 1) = true := fun q => by rw [w_46, if_pos q] at c_49; exact absurd c_49 (by decide)
          have hfn := lc_tk_no (lf := lf) (pn := pn) (k := k) (by omega) hbs
          have hcn : nI (lc_cnt a b (k + 1)) = nI (lc_cnt a b k) := by rw [lc_cnt_no (by omega) hbs]
          obtain ⟨x_85, ex_85⟩ : ∃ y : Int32, y = nI (k + 1) + (-1) := ⟨_, rfl⟩
          refine lv_iinc (v := x_85) (lv' := [(4, .int x_85), (0, .ref (A 11)), (1, .ref (A 8))]) hx hb dX4_take_85 hl (k := 2) rfl (by rw [ex_85]; rfl) (by decide) rfl (fun ls hl => ?_)
          refine lv_goto (tgt := 37) hx hb dX4_take_88 (by decide) ?_
          exact ih_loop_37 k x_85 ((lc_tk a b lf pn (k + 1))) (nI (lc_cnt a b (k + 1))) (by omega) hk2 (by omega) (lc_dec ex_85) hfn hcn Cw f11w f12w f8w f9w f10w (fun r h1 h2 => by rw [hbase r h1 h2]) _ _ _ hP hS (lv_sub hl [1, 2, 0] rfl)
        · have hbs : lc_bs a b (k + 1) = true := Decidable.byContradiction (fun q => c_49 (by rw [w_46, if_neg q]))
          have hlt := lc_cnt_lt ha hb8 hab hk (by omega) hbs
          have hc4 := lc_cnt_le a ha b hb8 hab
          refine lv_aload_n hx hb dX4_take_52 rfl (lv_at hl 0 rfl) ?_
          refine wg_get F hP f11w rfl iw_X4 5 (by decide) tb_87 rfl rfl dX4_take_53 ?_
          refine lv_iconst (v := 4) hx hb dX4_take_56 (by decide) ?_
          refine lv_icmp_ge (tgt := 85) hx hb dX4_take_57 (by decide) (fun c_57 => ?_) (fun c_57 => ?_)
          · exact absurd c_57 (by rw [show (4 : Int32) = nI 4 from rfl, nI_leI (by decide) (by omega)]; omega)
          · refine lv_aload_n hx hb dX4_take_60 rfl (lv_at hl 0 rfl) ?_
            refine wg_get F hP f11w rfl iw_X4 4 (by decide) tb_86 rfl rfl dX4_take_61 ?_
            refine lv_aload_n hx hb dX4_take_64 rfl (lv_at hl 0 rfl) ?_
            refine wg_get F hP f11w rfl iw_X4 5 (by decide) tb_87 rfl rfl dX4_take_65 ?_
            refine lv_aload_n hx hb dX4_take_68 rfl (lv_at hl 1 rfl) ?_
            refine lv_iload hx hb dX4_take_69 (lv_at hl 2 rfl) ?_
            refine wg_cl_ hS (wg_rVN (As := [.int (nI (k + 1))]) (rest := [.int (nI (lc_cnt a b (k + 1))), .ref (A 12)]) F hP hS (c_X5_nodeAt l E A Cw lf nd (nI (k + 1)) hnd f8w f9w f10w) ok_X5_nodeAt nb_159 rfl rfl ⟨Nat.le_of_ble_eq_true rfl, Nat.le_of_ble_eq_true rfl⟩ f8w rfl rfl rfl hl.1 rfl (Nat.le_of_ble_eq_true rfl) dX4_take_71 ⟨Nat.le_of_ble_eq_true rfl, Nat.le_of_ble_eq_true rfl⟩) (fun r_71 A1 C_71 H locs w_71 hP hS => ?_)
            obtain ⟨w_71, rfl, rfl⟩ := w_71
            have w3 : r_71 = lc_node lf (k + 1) := by
              rcases w_71 with ⟨j, _, h2, h3, h5⟩ | ⟨h, _⟩
              · rw [nI_eq (by omega) (by omega)] at h3; rw [h5, h3]
              · exact absurd h (by rintro (h | h); rw [show (1 : Int32) = nI 1 from rfl, nI_ltI (by omega) (by decide)] at h; omega; rw [nI_leI (by decide) (by omega)] at h; omega)
            refine wg_topl (y := lc_node lf (k + 1)) w3 ?_
            refine lv_topl (fun x_74 ex_74 => ?_)
            refine wg_lst F hP hS f12w (vp_in_nI (by omega) (by decide)) dX4_take_74 (fun H locs hP hS => ?_)
            obtain ⟨C_74, hC_74⟩ : ∃ z : wg_C, z = va_up Cw 12 (some (.inl (E.2.1 1, 4, .inr (.inl (vp_updL ((lc_tk a b lf pn (k + 1))) (nI (lc_cnt a b (k + 1))).toNatClampNeg x_74))))) := ⟨_, rfl⟩
            have hP : wg_P E A C_74 H := by rw [hC_74]; exact hP
            have f11w_c74 : C_74 11 = some (.inr (4, [.int (nI a), .int (nI b), .long (lf a), .long (lf b), .ref (A 12), .int (nI (lc_cnt a b (k + 1))), .ref (A 13)])) := by rw [hC_74]; rw [va_up_ne _ _ (by decide)]; exact f11w
            have f12w_c74 : C_74 12 = some (.inl (E.2.1 1, 4, .inr (.inl (vp_updL ((lc_tk a b lf pn (k + 1))) (nI (lc_cnt a b (k + 1))).toNatClampNeg x_74)))) := by rw [hC_74]; exact va_up_self _ _ _
            have f8w_c74 : C_74 8 = some (.inr (5, [.ref (A 9), .ref (A 10)])) := by rw [hC_74]; rw [va_up_ne _ _ (by decide)]; exact f8w
            have f9w_c74 : C_74 9 = some (.inl (E.2.1 1, 8, .inr (.inl lf))) := by rw [hC_74]; rw [va_up_ne _ _ (by decide)]; exact f9w
            have f10w_c74 : C_74 10 = some (.inl (E.2.1 1, 16, .inr (.inl nd))) := by rw [hC_74]; rw [va_up_ne _ _ (by decide)]; exact f10w
            have f12w_c74n : C_74 12 = some (.inl (E.2.1 1, 4, .inr (.inl (vp_updL ((lc_tk a b lf pn (k + 1))) ((lc_cnt a b (k + 1))) x_74)))) := by rw [f12w_c74, nI_clamp (by omega)]
            refine lv_aload_n hx hb dX4_take_75 rfl (lv_at hl 0 rfl) ?_
            refine lv_dup hx hb dX4_take_76 rfl ?_
            refine wg_get F hP f11w_c74 rfl iw_X4 5 (by decide) tb_87 rfl rfl dX4_take_77 ?_
            refine lv_iconst (v := 1) hx hb dX4_take_80 (by decide) ?_
            refine lv_iadd hx hb dX4_take_81 ?_
            refine lv_topi (fun x_82 ex_82 => ?_)
            refine wg_put F hP hS f11w_c74 rfl iw_X4 tyX4_ok nmX4 5 (by decide) tb_87 rfl rfl rfl (Nat.le_of_ble_eq_true rfl) dX4_take_82 (fun H locs hP hS => ?_)
            obtain ⟨C_82, hC_82⟩ : ∃ z : wg_C, z = va_up C_74 11 (some (.inr (4, [.int (nI a), .int (nI b), .long (lf a), .long (lf b), .ref (A 12), .int x_82, .ref (A 13)]))) := ⟨_, rfl⟩
            have hP : wg_P E A C_82 H := by rw [hC_82]; exact hP
            have f11w_c82 : C_82 11 = some (.inr (4, [.int (nI a), .int (nI b), .long (lf a), .long (lf b), .ref (A 12), .int x_82, .ref (A 13)])) := by rw [hC_82]; exact va_up_self _ _ _
            have f12w_c82 : C_82 12 = some (.inl (E.2.1 1, 4, .inr (.inl (vp_updL ((lc_tk a b lf pn (k + 1))) ((lc_cnt a b (k + 1))) x_74)))) := by rw [hC_82]; rw [va_up_ne _ _ (by decide)]; exact f12w_c74n
            have f8w_c82 : C_82 8 = some (.inr (5, [.ref (A 9), .ref (A 10)])) := by rw [hC_82]; rw [va_up_ne _ _ (by decide)]; exact f8w_c74
            have f9w_c82 : C_82 9 = some (.inl (E.2.1 1, 8, .inr (.inl lf))) := by rw [hC_82]; rw [va_up_ne _ _ (by decide)]; exact f9w_c74
            have f10w_c82 : C_82 10 = some (.inl (E.2.1 1, 16, .inr (.inl nd))) := by rw [hC_82]; rw [va_up_ne _ _ (by decide)]; exact f10w_c74
            have hcn : x_82 = nI (lc_cnt a b k) := by rw [ex_82, nI_1, lc_cnt_yes (by omega) hbs]
            have hfn : vp_updL ((lc_tk a b lf pn (k + 1))) ((lc_cnt a b (k + 1))) x_74 = lc_tk a b lf pn k := by rw [ex_74]; exact lc_tk_yes (by omega) hbs hlt.2
            obtain ⟨x_85, ex_85⟩ : ∃ y : Int32, y = nI (k + 1) + (-1) := ⟨_, rfl⟩
            refine lv_iinc (v := x_85) (lv' := [(4, .int x_85), (0, .ref (A 11)), (1, .ref (A 8))]) hx hb dX4_take_85 hl (k := 2) rfl (by rw [ex_85]; rfl) (by decide) rfl (fun ls hl => ?_)
            refine lv_goto (tgt := 37) hx hb dX4_take_88 (by decide) ?_
            exact ih_loop_37 k x_85 (vp_updL ((lc_tk a b lf pn (k + 1))) ((lc_cnt a b (k + 1))) x_74) x_82 (by omega) hk2 (by omega) (lc_dec ex_85) hfn hcn C_82 f11w_c82 f12w_c82 f8w_c82 f9w_c82 f10w_c82 (fun r h1 h2 => by rw [hC_82, va_up_ne _ _ h1, hC_74, va_up_ne _ _ h2, hbase r h1 h2]) _ _ _ hP hS (lv_sub hl [1, 2, 0] rfl)
  exact loop_37 _ 15 15 pn 0 (Nat.lt_succ_self _) (by decide) (by decide) rfl (lc_tk_15 a b lf pn) rfl C_30 f11_c30 f12_c30 f8_c30 f9_c30 f10_c30 (fun r h1 h2 => by rw [hC_30, va_up_ne _ _ h1, hC_25, va_up_ne _ _ h1, hC_16, va_up_ne _ _ h1, hC_7, va_up_ne _ _ h1, hC_2, va_up_ne _ _ h1]) _ _ _ hP hS (lv_sub hl [1, 2, 0] rfl)
set_option maxHeartbeats 4000000 in
set_option maxRecDepth 100000 in
theorem c_X4_topWith (l : Launch) (E : wg_E) (A : Nat → Nat) (C : wg_C) (a b : Nat) (va vb x y : Int64) (pn rk : Nat → Int64) (ha : a < 8) (hb8 : b < 8) (hab : a ≠ b) (f11 : C 11 = some (.inr (4, [.int (nI a), .int (nI b), .long va, .long vb, .ref (A 12), .int (nI (lc_cnt a b 1)), .ref (A 13)]))) (f12 : C 12 = some (.inl (E.2.1 1, 4, .inr (.inl pn)))) (f13 : C 13 = some (.inl (E.2.1 1, 16, .inr (.inl rk)))) : Met l yX4_topWith (wg_ws yX4_topWith cX4_topWith 7 (some .long)) (wg_rm 2 0 0) (wg_Pc E A C [.ref (A 11), .long x, .long y]) (wg_Ql E (fun r A1 C1 => r = lc_top a b x y pn ∧ A = A1 ∧ (∀ q, q ≠ 13 → C1 q = C q) ∧ ∃ rk1 : Nat → Int64, C1 13 = some (.inl (E.2.1 1, 16, .inr (.inl rk1))))) 0 0 (wg_A E) := by
  refine wg_met (by decide) (Nat.le_of_ble_eq_true rfl) ?_
  intro p e s m below meth c ls F hr hlk hnm hP hS hl
  have F : wg_F p m c cX4_topWith 7 s ([.ref (A 11), .long x, .long y] : List Value).toArray "LightChecks$Proof" E := F
  have hx := F.1
  have hb := F.2.1
  have hml := F.2.2.1
  have hown := F.2.2.2.1
  have hts := F.2.2.2.2.1
  have hl : lv_has ls 7 [(0, .ref (A 11)), (1, .long x), (3, .long y)] := hl
  refine lv_iconst (v := 0) hx hb dX4_topWith_0 (by decide) ?_
  refine lv_istore (lv' := [(5, .int 0), (0, .ref (A 11)), (1, .long x), (3, .long y)]) hx hb dX4_topWith_1 hl (by decide) rfl (fun ls hl => ?_)
  refine lv_bipush (v := 15) hx hb dX4_topWith_3 (by decide) ?_
  refine lv_istore (lv' := [(6, .int 15), (5, .int 0), (0, .ref (A 11)), (1, .long x), (3, .long y)]) hx hb dX4_topWith_5 hl (by decide) rfl (fun ls hl => ?_)
  have loop_7 : ∀ (fuel : Nat) (k : Nat) (x5 : Int32) (x6 : Int32) (fi : Nat → Int64), k < fuel → (k < 16) → (x5 = nI (lc_cnt a b k)) → (x6 = nI k) → (∀ j, k < j → j < 16 → (lc_on a b j = true ∨ lc_bs a b j = true) → fi j = lc_tv a b x y pn j) → ∀ (Cw : wg_C) , Cw 11 = some (.inr (4, [.int (nI a), .int (nI b), .long va, .long vb, .ref (A 12), .int (nI (lc_cnt a b 1)), .ref (A 13)])) → Cw 12 = some (.inl (E.2.1 1, 4, .inr (.inl pn))) → Cw 13 = some (.inl (E.2.1 1, 16, .inr (.inl fi))) → (∀ r, r ≠ 13 → Cw r = C r) → ∀ (H : Heap) (locs : List Loc) (ls : Array Slot), wg_P E A Cw H → va_S (wg_A E) s.heap H locs → lv_has ls 7 [(0, .ref (A 11)), (1, .long x), (3, .long y), (5, .int x5), (6, .int x6)] → W p l e (wg_rm 2 0 0) s m ([.ref (A 11), .long x, .long y] : List Value).toArray below meth c H locs 0 0 (MQ below (wg_Ql E (fun r A1 C1 => r = lc_top a b x y pn ∧ A = A1 ∧ (∀ q, q ≠ 13 → C1 q = C q) ∧ ∃ rk1 : Nat → Int64, C1 13 = some (.inl (E.2.1 1, 16, .inr (.inl rk1))))) ([.ref (A 11), .long x, .long y] : List Value).toArray s 0 0 (wg_A E)) (F0 m 7 ls []) := by
    intro fuel
    induction fuel with
    | zero => intro k x5 x6 fi hm; exact absurd hm (Nat.not_lt_zero _)
    | succ fuel ih_loop_7 =>
      intro k x5 x6 fi hm_loop_7 hk ex5 ex6 hfi Cw f11w f12w f13w hbase H locs ls hP hS hl
      subst ex5 ex6
      have hc4 := lc_cnt_le a ha b hb8 hab
      refine lv_iload hx hb dX4_topWith_7 (lv_at hl 4 rfl) ?_
      refine lv_iconst (v := 1) hx hb dX4_topWith_9 (by decide) ?_
      refine lv_icmp_lt (tgt := 126) hx hb dX4_topWith_10 (by decide) (fun c_10 => ?_) (fun c_10 => ?_)
      · have hk0 : k = 0 := by rw [show (1 : Int32) = nI 1 from rfl, nI_ltI (by omega) (by decide)] at c_10; omega
        subst hk0
        refine lv_aload_n hx hb dX4_topWith_126 rfl (lv_at hl 0 rfl) ?_
        refine wg_get F hP f11w rfl iw_X4 6 (by decide) tb_89 rfl rfl dX4_topWith_127 ?_
        refine lv_iconst (v := 1) hx hb dX4_topWith_130 (by decide) ?_
        refine wg_lld F hP f13w (vp_in_nI (n := 1) (by decide) (by decide)) dX4_topWith_131 ?_
        exact wg_lret F hP hS hr hlk (⟨hfi 1 (by decide) (by decide) (Or.inl (lc_on_1 a ha b hb8)), rfl, fun r h2 => by rw [hbase r h2], _, f13w⟩) dX4_topWith_132
      · have hk1 : 1 ≤ k := by rw [show (1 : Int32) = nI 1 from rfl, nI_ltI (by omega) (by decide)] at c_10; omega
        obtain ⟨k, rfl⟩ : ∃ q, k = q + 1 := ⟨k - 1, by omega⟩
        refine lv_aload_n hx hb dX4_topWith_13 rfl (lv_at hl 0 rfl) ?_
        refine lv_iload hx hb dX4_topWith_14 (lv_at hl 4 rfl) ?_
        refine wg_ci hS (wg_rV (As := [.int (nI (k + 1))]) (rest := []) F hP hS (c_X4_isOnWay l E A Cw a b (k + 1) va vb _ ha hb8 (by omega) f11w) ok_X4_isOnWay tb_155 rfl rfl ⟨Nat.le_of_ble_eq_true rfl, Nat.le_of_ble_eq_true rfl⟩ f11w rfl rfl rfl hl.1 rfl (Nat.le_of_ble_eq_true rfl) dX4_topWith_16 ⟨Nat.le_of_ble_eq_true rfl, Nat.le_of_ble_eq_true rfl⟩) (fun r_16 A1 C_16 H locs w_16 hP hS => ?_)
        obtain ⟨w_16, rfl, rfl⟩ := w_16
        refine lv_if_eq (tgt := 85) hx hb dX4_topWith_19 (by decide) (fun c_19 => ?_) (fun c_19 => ?_)
        · have hon : lc_on a b (k + 1) = false := by
            cases q : lc_on a b (k + 1)
            · rfl
            · rw [q] at w_16; exact absurd (w_16.symm.trans c_19) (by decide)
          refine lv_aload_n hx hb dX4_topWith_85 rfl (lv_at hl 0 rfl) ?_
          refine lv_iload hx hb dX4_topWith_86 (lv_at hl 4 rfl) ?_
          refine wg_ci hS (wg_rV (As := [.int (nI (k + 1))]) (rest := []) F hP hS (c_X4_isBeside l E A Cw a b (k + 1) va vb _ ha hb8 hk f11w) ok_X4_isBeside tb_151 rfl rfl ⟨Nat.le_of_ble_eq_true rfl, Nat.le_of_ble_eq_true rfl⟩ f11w rfl rfl rfl hl.1 rfl (Nat.le_of_ble_eq_true rfl) dX4_topWith_88 ⟨Nat.le_of_ble_eq_true rfl, Nat.le_of_ble_eq_true rfl⟩) (fun r_88 A1 C_88 H locs w_88 hP hS => ?_)
          obtain ⟨w_88, rfl, rfl⟩ := w_88
          refine lv_if_eq (tgt := 120) hx hb dX4_topWith_91 (by decide) (fun c_91 => ?_) (fun c_91 => ?_)
          · have hbs : ¬ lc_bs a b (k + 1) = true := fun q => by rw [w_88, if_pos q] at c_91; exact absurd c_91 (by decide)
            have hcn : nI (lc_cnt a b (k + 1)) = nI (lc_cnt a b k) := by rw [lc_cnt_no (by omega) hbs]
            have hfn : ∀ j, k < j → j < 16 → (lc_on a b j = true ∨ lc_bs a b j = true) → fi j = lc_tv a b x y pn j := fun j h1 h2 h3 => hfi j (by rcases (show j = k + 1 ∨ k + 1 < j by omega) with e | e; rw [e] at h3; rcases h3 with h3 | h3; rw [h3] at hon; cases hon; exact absurd h3 hbs; exact e) h2 h3
            obtain ⟨x_120, ex_120⟩ : ∃ y : Int32, y = nI (k + 1) + (-1) := ⟨_, rfl⟩
            refine lv_iinc (v := x_120) (lv' := [(6, .int x_120), (0, .ref (A 11)), (1, .long x), (3, .long y), (5, .int (nI (lc_cnt a b (k + 1))))]) hx hb dX4_topWith_120 hl (k := 4) rfl (by rw [ex_120]; rfl) (by decide) rfl (fun ls hl => ?_)
            refine lv_goto (tgt := 7) hx hb dX4_topWith_123 (by decide) ?_
            exact ih_loop_7 k ((nI (lc_cnt a b (k + 1)))) x_120 fi (by omega) (by omega) hcn (lc_dec ex_120) hfn Cw f11w f12w f13w (fun r h2 => by rw [hbase r h2]) _ _ _ hP hS (lv_sub hl [1, 2, 3, 4, 0] rfl)
          · have hbs : lc_bs a b (k + 1) = true := Decidable.byContradiction (fun q => c_91 (by rw [w_88, if_neg q]))
            have hlt := lc_bs_cnt ha hb8 hab hk hbs
            refine lv_aload_n hx hb dX4_topWith_94 rfl (lv_at hl 0 rfl) ?_
            refine lv_iload hx hb dX4_topWith_95 (lv_at hl 3 rfl) ?_
            refine wg_ci hS (wg_rV (As := [.int (nI (lc_cnt a b (k + 1)))]) (rest := []) F hP hS (c_X4_hasNode l E A Cw a b (lc_cnt a b 1) va vb _ hc4 f11w) ok_X4_hasNode tb_465 rfl rfl ⟨Nat.le_of_ble_eq_true rfl, Nat.le_of_ble_eq_true rfl⟩ f11w rfl rfl rfl hl.1 rfl (Nat.le_of_ble_eq_true rfl) dX4_topWith_97 ⟨Nat.le_of_ble_eq_true rfl, Nat.le_of_ble_eq_true rfl⟩) (fun r_97 A1 C_97 H locs w_97 hP hS => ?_)
            obtain ⟨w_97, rfl, rfl⟩ := w_97
            refine lv_if_eq (tgt := 120) hx hb dX4_topWith_100 (by decide) (fun c_100 => ?_) (fun c_100 => ?_)
            · exact absurd c_100 (by rw [w_97, nI_toInt (by omega), if_pos (by omega)]; decide)
            · refine lv_aload_n hx hb dX4_topWith_103 rfl (lv_at hl 0 rfl) ?_
              refine wg_get F hP f11w rfl iw_X4 6 (by decide) tb_89 rfl rfl dX4_topWith_104 ?_
              refine lv_iload hx hb dX4_topWith_107 (lv_at hl 4 rfl) ?_
              refine lv_aload_n hx hb dX4_topWith_109 rfl (lv_at hl 0 rfl) ?_
              refine wg_get F hP f11w rfl iw_X4 4 (by decide) tb_86 rfl rfl dX4_topWith_110 ?_
              refine lv_iload hx hb dX4_topWith_113 (lv_at hl 3 rfl) ?_
              refine wg_lld F hP f12w (vp_in_nI (by omega) (by decide)) dX4_topWith_115 ?_
              refine wg_topl (y := lc_tv a b x y pn (k + 1)) (by rw [nI_clamp (by omega)]; exact (lc_tv_bs hon).symm) ?_
              refine lv_topl (fun x_116 ex_116 => ?_)
              refine wg_lst F hP hS f13w (vp_in_nI (by omega) (by decide)) dX4_topWith_116 (fun H locs hP hS => ?_)
              obtain ⟨C_116, hC_116⟩ : ∃ z : wg_C, z = va_up Cw 13 (some (.inl (E.2.1 1, 16, .inr (.inl (vp_updL fi (nI (k + 1)).toNatClampNeg x_116))))) := ⟨_, rfl⟩
              have hP : wg_P E A C_116 H := by rw [hC_116]; exact hP
              have f11w_c116 : C_116 11 = some (.inr (4, [.int (nI a), .int (nI b), .long va, .long vb, .ref (A 12), .int (nI (lc_cnt a b 1)), .ref (A 13)])) := by rw [hC_116]; rw [va_up_ne _ _ (by decide)]; exact f11w
              have f12w_c116 : C_116 12 = some (.inl (E.2.1 1, 4, .inr (.inl pn))) := by rw [hC_116]; rw [va_up_ne _ _ (by decide)]; exact f12w
              have f13w_c116 : C_116 13 = some (.inl (E.2.1 1, 16, .inr (.inl (vp_updL fi (nI (k + 1)).toNatClampNeg x_116)))) := by rw [hC_116]; exact va_up_self _ _ _
              have f13w_c116n : C_116 13 = some (.inl (E.2.1 1, 16, .inr (.inl (vp_updL fi ((k + 1)) x_116)))) := by rw [f13w_c116, nI_clamp (by omega)]
              have hfn : ∀ j, k < j → j < 16 → (lc_on a b j = true ∨ lc_bs a b j = true) → (vp_updL fi ((k + 1)) x_116) j = lc_tv a b x y pn j := fun j h1 h2 h3 => by
                by_cases e : j = k + 1
                · rw [e, pk_uLs]; exact ex_116
                · rw [pk_uLn e]; exact hfi j (by omega) h2 h3
              obtain ⟨x_117, ex_117⟩ : ∃ y : Int32, y = nI (lc_cnt a b (k + 1)) + 1 := ⟨_, rfl⟩
              refine lv_iinc (v := x_117) (lv' := [(5, .int x_117), (0, .ref (A 11)), (1, .long x), (3, .long y), (6, .int (nI (k + 1)))]) hx hb dX4_topWith_117 hl (k := 3) rfl (by rw [ex_117]; rfl) (by decide) rfl (fun ls hl => ?_)
              have hcn : x_117 = nI (lc_cnt a b k) := by rw [ex_117, nI_1, lc_cnt_yes (by omega) hbs]
              obtain ⟨x_120, ex_120⟩ : ∃ y : Int32, y = nI (k + 1) + (-1) := ⟨_, rfl⟩
              refine lv_iinc (v := x_120) (lv' := [(6, .int x_120), (5, .int x_117), (0, .ref (A 11)), (1, .long x), (3, .long y)]) hx hb dX4_topWith_120 hl (k := 4) rfl (by rw [ex_120]; rfl) (by decide) rfl (fun ls hl => ?_)
              refine lv_goto (tgt := 7) hx hb dX4_topWith_123 (by decide) ?_
              exact ih_loop_7 k x_117 x_120 (vp_updL fi ((k + 1)) x_116) (by omega) (by omega) hcn (lc_dec ex_120) hfn C_116 f11w_c116 f12w_c116 f13w_c116n (fun r h2 => by rw [hC_116, va_up_ne _ _ h2, hbase r h2]) _ _ _ hP hS (lv_sub hl [2, 3, 4, 1, 0] rfl)
        · have hon : lc_on a b (k + 1) = true := Decidable.byContradiction (fun q => c_19 (by rw [w_16, if_neg q]))
          have hbs : ¬ lc_bs a b (k + 1) = true := fun q => by rw [lc_bs_off q] at hon; cases hon
          have hcn : nI (lc_cnt a b (k + 1)) = nI (lc_cnt a b k) := by rw [lc_cnt_no (by omega) hbs]
          refine lv_aload_n hx hb dX4_topWith_22 rfl (lv_at hl 0 rfl) ?_
          refine wg_get F hP f11w rfl iw_X4 6 (by decide) tb_89 rfl rfl dX4_topWith_23 ?_
          refine lv_iload hx hb dX4_topWith_26 (lv_at hl 4 rfl) ?_
          refine lv_iload hx hb dX4_topWith_28 (lv_at hl 4 rfl) ?_
          refine lv_bipush (v := 8) hx hb dX4_topWith_30 (by decide) ?_
          refine lv_icmp_lt (tgt := 58) hx hb dX4_topWith_32 (by decide) (fun c_32 => ?_) (fun c_32 => ?_)
          · have hk8 : k + 1 < 8 := by rw [show (8 : Int32) = nI 8 from rfl, nI_ltI (by omega) (by decide)] at c_32; exact c_32
            have kids := lc_on_kids ha hb8 hk8 (by omega) hon
            have e2 : (2 : Int32) * nI (k + 1) = nI (2 * (k + 1)) := by rw [show (2 : Int32) = nI 2 from rfl, pk_mul]
            have e3 : nI (2 * (k + 1)) + 1 = nI (2 * (k + 1) + 1) := nI_1 _
            refine lv_aload_n hx hb dX4_topWith_58 rfl (lv_at hl 0 rfl) ?_
            refine wg_get F hP f11w rfl iw_X4 6 (by decide) tb_89 rfl rfl dX4_topWith_59 ?_
            refine lv_iconst (v := 2) hx hb dX4_topWith_62 (by decide) ?_
            refine lv_iload hx hb dX4_topWith_63 (lv_at hl 4 rfl) ?_
            refine lv_imul hx hb dX4_topWith_65 ?_
            refine wg_lld F hP f13w (by rw [e2]; exact vp_in_nI (by omega) (by decide)) dX4_topWith_66 ?_
            refine wg_topl (y := lc_tv a b x y pn (2 * (k + 1))) (by rw [e2, nI_clamp (by omega)]; exact hfi _ (by omega) (by omega) kids.1) ?_
            refine lv_aload_n hx hb dX4_topWith_67 rfl (lv_at hl 0 rfl) ?_
            refine wg_get F hP f11w rfl iw_X4 6 (by decide) tb_89 rfl rfl dX4_topWith_68 ?_
            refine lv_iconst (v := 2) hx hb dX4_topWith_71 (by decide) ?_
            refine lv_iload hx hb dX4_topWith_72 (lv_at hl 4 rfl) ?_
            refine lv_imul hx hb dX4_topWith_74 ?_
            refine lv_iconst (v := 1) hx hb dX4_topWith_75 (by decide) ?_
            refine lv_iadd hx hb dX4_topWith_76 ?_
            refine wg_lld F hP f13w (by rw [e2, e3]; exact vp_in_nI (by omega) (by decide)) dX4_topWith_77 ?_
            refine wg_topl (y := lc_tv a b x y pn (2 * (k + 1) + 1)) (by rw [e2, e3, nI_clamp (by omega)]; exact hfi _ (by omega) (by omega) kids.2) ?_
            refine wg_cl_ hS (wg_rSN (As := [.long (lc_tv a b x y pn (2 * (k + 1))), .long (lc_tv a b x y pn (2 * (k + 1) + 1))]) (rest := [.int (nI (k + 1)), .ref (A 13)]) F hP hS (c_X7_pair l E A Cw _ _) ok_X7_pair nb_490 rfl rfl ⟨Nat.le_of_ble_eq_true rfl, Nat.le_of_ble_eq_true rfl⟩ rfl hl.1 rfl (Nat.le_of_ble_eq_true rfl) dX4_topWith_78 ⟨Nat.le_of_ble_eq_true rfl, Nat.le_of_ble_eq_true rfl⟩) (fun r_78 A1 C_78 H locs w_78 hP hS => ?_)
            obtain ⟨w_78, rfl, rfl⟩ := w_78
            refine wg_topl (y := lc_tv a b x y pn (k + 1)) (w_78.trans (lc_tv_lo hon (by omega) hk8).symm) ?_
            refine lv_topl (fun x_81 ex_81 => ?_)
            refine wg_lst F hP hS f13w (vp_in_nI (by omega) (by decide)) dX4_topWith_81 (fun H locs hP hS => ?_)
            obtain ⟨C_81, hC_81⟩ : ∃ z : wg_C, z = va_up Cw 13 (some (.inl (E.2.1 1, 16, .inr (.inl (vp_updL fi (nI (k + 1)).toNatClampNeg x_81))))) := ⟨_, rfl⟩
            have hP : wg_P E A C_81 H := by rw [hC_81]; exact hP
            have f11w_c81 : C_81 11 = some (.inr (4, [.int (nI a), .int (nI b), .long va, .long vb, .ref (A 12), .int (nI (lc_cnt a b 1)), .ref (A 13)])) := by rw [hC_81]; rw [va_up_ne _ _ (by decide)]; exact f11w
            have f12w_c81 : C_81 12 = some (.inl (E.2.1 1, 4, .inr (.inl pn))) := by rw [hC_81]; rw [va_up_ne _ _ (by decide)]; exact f12w
            have f13w_c81 : C_81 13 = some (.inl (E.2.1 1, 16, .inr (.inl (vp_updL fi (nI (k + 1)).toNatClampNeg x_81)))) := by rw [hC_81]; exact va_up_self _ _ _
            have f13w_c81n : C_81 13 = some (.inl (E.2.1 1, 16, .inr (.inl (vp_updL fi ((k + 1)) x_81)))) := by rw [f13w_c81, nI_clamp (by omega)]
            have hfn : ∀ j, k < j → j < 16 → (lc_on a b j = true ∨ lc_bs a b j = true) → (vp_updL fi ((k + 1)) x_81) j = lc_tv a b x y pn j := fun j h1 h2 h3 => by
              by_cases e : j = k + 1
              · rw [e, pk_uLs]; exact ex_81
              · rw [pk_uLn e]; exact hfi j (by omega) h2 h3
            refine lv_goto (tgt := 120) hx hb dX4_topWith_82 (by decide) ?_
            obtain ⟨x_120, ex_120⟩ : ∃ y : Int32, y = nI (k + 1) + (-1) := ⟨_, rfl⟩
            refine lv_iinc (v := x_120) (lv' := [(6, .int x_120), (0, .ref (A 11)), (1, .long x), (3, .long y), (5, .int (nI (lc_cnt a b (k + 1))))]) hx hb dX4_topWith_120 hl (k := 4) rfl (by rw [ex_120]; rfl) (by decide) rfl (fun ls hl => ?_)
            refine lv_goto (tgt := 7) hx hb dX4_topWith_123 (by decide) ?_
            exact ih_loop_7 k ((nI (lc_cnt a b (k + 1)))) x_120 (vp_updL fi ((k + 1)) x_81) (by omega) (by omega) hcn (lc_dec ex_120) hfn C_81 f11w_c81 f12w_c81 f13w_c81n (fun r h2 => by rw [hC_81, va_up_ne _ _ h2, hbase r h2]) _ _ _ hP hS (lv_sub hl [1, 2, 3, 4, 0] rfl)
          · have hk8 : 8 ≤ k + 1 := by rw [show (8 : Int32) = nI 8 from rfl, nI_ltI (by omega) (by decide)] at c_32; omega
            refine lv_iload hx hb dX4_topWith_35 (lv_at hl 4 rfl) ?_
            refine lv_bipush (v := 8) hx hb dX4_topWith_37 (by decide) ?_
            refine lv_aload_n hx hb dX4_topWith_39 rfl (lv_at hl 0 rfl) ?_
            refine wg_get F hP f11w rfl iw_X4 0 (by decide) tb_82 rfl rfl dX4_topWith_40 ?_
            refine lv_iadd hx hb dX4_topWith_43 ?_
            refine lv_icmp_ne (tgt := 51) hx hb dX4_topWith_44 (by decide) (fun c_44 => ?_) (fun c_44 => ?_)
            · have hka : ¬ k + 1 = 8 + a := by rw [show (8 : Int32) = nI 8 from rfl, nI_add, nI_eq (by omega) (by omega)] at c_44; exact c_44
              refine lv_lload_n hx hb dX4_topWith_51 rfl (lv_at hl 2 rfl) ?_
              refine wg_cl_ hS (wg_rSN (As := [.long y]) (rest := [.int (nI (k + 1)), .ref (A 13)]) F hP hS (c_X7_mix l E A Cw _) ok_X7_mix nb_489 rfl rfl ⟨Nat.le_of_ble_eq_true rfl, Nat.le_of_ble_eq_true rfl⟩ rfl hl.1 rfl (Nat.le_of_ble_eq_true rfl) dX4_topWith_52 ⟨Nat.le_of_ble_eq_true rfl, Nat.le_of_ble_eq_true rfl⟩) (fun r_52 A1 C_52 H locs w_52 hP hS => ?_)
              obtain ⟨w_52, rfl, rfl⟩ := w_52
              refine wg_topl (y := lc_tv a b x y pn (k + 1)) (w_52.trans (by rw [lc_tv_hi hon hk8]; first | rw [if_pos hka] | rw [if_neg hka])) ?_
              refine lv_goto (tgt := 81) hx hb dX4_topWith_55 (by decide) ?_
              refine lv_topl (fun x_81 ex_81 => ?_)
              refine wg_lst F hP hS f13w (vp_in_nI (by omega) (by decide)) dX4_topWith_81 (fun H locs hP hS => ?_)
              obtain ⟨C_81, hC_81⟩ : ∃ z : wg_C, z = va_up Cw 13 (some (.inl (E.2.1 1, 16, .inr (.inl (vp_updL fi (nI (k + 1)).toNatClampNeg x_81))))) := ⟨_, rfl⟩
              have hP : wg_P E A C_81 H := by rw [hC_81]; exact hP
              have f11w_c81 : C_81 11 = some (.inr (4, [.int (nI a), .int (nI b), .long va, .long vb, .ref (A 12), .int (nI (lc_cnt a b 1)), .ref (A 13)])) := by rw [hC_81]; rw [va_up_ne _ _ (by decide)]; exact f11w
              have f12w_c81 : C_81 12 = some (.inl (E.2.1 1, 4, .inr (.inl pn))) := by rw [hC_81]; rw [va_up_ne _ _ (by decide)]; exact f12w
              have f13w_c81 : C_81 13 = some (.inl (E.2.1 1, 16, .inr (.inl (vp_updL fi (nI (k + 1)).toNatClampNeg x_81)))) := by rw [hC_81]; exact va_up_self _ _ _
              have f13w_c81n : C_81 13 = some (.inl (E.2.1 1, 16, .inr (.inl (vp_updL fi ((k + 1)) x_81)))) := by rw [f13w_c81, nI_clamp (by omega)]
              have hfn : ∀ j, k < j → j < 16 → (lc_on a b j = true ∨ lc_bs a b j = true) → (vp_updL fi ((k + 1)) x_81) j = lc_tv a b x y pn j := fun j h1 h2 h3 => by
                by_cases e : j = k + 1
                · rw [e, pk_uLs]; exact ex_81
                · rw [pk_uLn e]; exact hfi j (by omega) h2 h3
              refine lv_goto (tgt := 120) hx hb dX4_topWith_82 (by decide) ?_
              obtain ⟨x_120, ex_120⟩ : ∃ y : Int32, y = nI (k + 1) + (-1) := ⟨_, rfl⟩
              refine lv_iinc (v := x_120) (lv' := [(6, .int x_120), (0, .ref (A 11)), (1, .long x), (3, .long y), (5, .int (nI (lc_cnt a b (k + 1))))]) hx hb dX4_topWith_120 hl (k := 4) rfl (by rw [ex_120]; rfl) (by decide) rfl (fun ls hl => ?_)
              refine lv_goto (tgt := 7) hx hb dX4_topWith_123 (by decide) ?_
              exact ih_loop_7 k ((nI (lc_cnt a b (k + 1)))) x_120 (vp_updL fi ((k + 1)) x_81) (by omega) (by omega) hcn (lc_dec ex_120) hfn C_81 f11w_c81 f12w_c81 f13w_c81n (fun r h2 => by rw [hC_81, va_up_ne _ _ h2, hbase r h2]) _ _ _ hP hS (lv_sub hl [1, 2, 3, 4, 0] rfl)
            · have hka : k + 1 = 8 + a := by rw [show (8 : Int32) = nI 8 from rfl, nI_add, nI_eq (by omega) (by omega)] at c_44; exact c_44
              refine lv_lload_n hx hb dX4_topWith_47 rfl (lv_at hl 1 rfl) ?_
              refine lv_goto (tgt := 52) hx hb dX4_topWith_48 (by decide) ?_
              refine wg_cl_ hS (wg_rSN (As := [.long x]) (rest := [.int (nI (k + 1)), .ref (A 13)]) F hP hS (c_X7_mix l E A Cw _) ok_X7_mix nb_489 rfl rfl ⟨Nat.le_of_ble_eq_true rfl, Nat.le_of_ble_eq_true rfl⟩ rfl hl.1 rfl (Nat.le_of_ble_eq_true rfl) dX4_topWith_52 ⟨Nat.le_of_ble_eq_true rfl, Nat.le_of_ble_eq_true rfl⟩) (fun r_52 A1 C_52 H locs w_52 hP hS => ?_)
              obtain ⟨w_52, rfl, rfl⟩ := w_52
              refine wg_topl (y := lc_tv a b x y pn (k + 1)) (w_52.trans (by rw [lc_tv_hi hon hk8]; first | rw [if_pos hka] | rw [if_neg hka])) ?_
              refine lv_goto (tgt := 81) hx hb dX4_topWith_55 (by decide) ?_
              refine lv_topl (fun x_81 ex_81 => ?_)
              refine wg_lst F hP hS f13w (vp_in_nI (by omega) (by decide)) dX4_topWith_81 (fun H locs hP hS => ?_)
              obtain ⟨C_81, hC_81⟩ : ∃ z : wg_C, z = va_up Cw 13 (some (.inl (E.2.1 1, 16, .inr (.inl (vp_updL fi (nI (k + 1)).toNatClampNeg x_81))))) := ⟨_, rfl⟩
              have hP : wg_P E A C_81 H := by rw [hC_81]; exact hP
              have f11w_c81 : C_81 11 = some (.inr (4, [.int (nI a), .int (nI b), .long va, .long vb, .ref (A 12), .int (nI (lc_cnt a b 1)), .ref (A 13)])) := by rw [hC_81]; rw [va_up_ne _ _ (by decide)]; exact f11w
              have f12w_c81 : C_81 12 = some (.inl (E.2.1 1, 4, .inr (.inl pn))) := by rw [hC_81]; rw [va_up_ne _ _ (by decide)]; exact f12w
              have f13w_c81 : C_81 13 = some (.inl (E.2.1 1, 16, .inr (.inl (vp_updL fi (nI (k + 1)).toNatClampNeg x_81)))) := by rw [hC_81]; exact va_up_self _ _ _
              have f13w_c81n : C_81 13 = some (.inl (E.2.1 1, 16, .inr (.inl (vp_updL fi ((k + 1)) x_81)))) := by rw [f13w_c81, nI_clamp (by omega)]
              have hfn : ∀ j, k < j → j < 16 → (lc_on a b j = true ∨ lc_bs a b j = true) → (vp_updL fi ((k + 1)) x_81) j = lc_tv a b x y pn j := fun j h1 h2 h3 => by
                by_cases e : j = k + 1
                · rw [e, pk_uLs]; exact ex_81
                · rw [pk_uLn e]; exact hfi j (by omega) h2 h3
              refine lv_goto (tgt := 120) hx hb dX4_topWith_82 (by decide) ?_
              obtain ⟨x_120, ex_120⟩ : ∃ y : Int32, y = nI (k + 1) + (-1) := ⟨_, rfl⟩
              refine lv_iinc (v := x_120) (lv' := [(6, .int x_120), (0, .ref (A 11)), (1, .long x), (3, .long y), (5, .int (nI (lc_cnt a b (k + 1))))]) hx hb dX4_topWith_120 hl (k := 4) rfl (by rw [ex_120]; rfl) (by decide) rfl (fun ls hl => ?_)
              refine lv_goto (tgt := 7) hx hb dX4_topWith_123 (by decide) ?_
              exact ih_loop_7 k ((nI (lc_cnt a b (k + 1)))) x_120 (vp_updL fi ((k + 1)) x_81) (by omega) (by omega) hcn (lc_dec ex_120) hfn C_81 f11w_c81 f12w_c81 f13w_c81n (fun r h2 => by rw [hC_81, va_up_ne _ _ h2, hbase r h2]) _ _ _ hP hS (lv_sub hl [1, 2, 3, 4, 0] rfl)
  exact loop_7 _ 15 0 15 rk (Nat.lt_succ_self _) (by decide) rfl rfl (fun j h1 h2 => absurd h1 (by omega)) C f11 f12 f13 (fun r h2 => rfl) _ _ _ hP hS (lv_sub hl [2, 3, 4, 1, 0] rfl)
end
