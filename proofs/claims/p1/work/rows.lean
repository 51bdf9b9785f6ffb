section
-- ===== PART A: goes FIRST, ahead of the names: the tables' words, and 'selects' of the private methods out of them =====
/-- a private method of a class that the tables say can be made, by its rows of tables_1 -/
def lw_okq (q : MethodName × Nat) : Prop := (q.1.cls ≠ "java/lang/invoke/MethodHandle" ∧ q.1.cls ≠ "java/lang/invoke/VarHandle") ∧ Cond.instantiable q.1.cls q.2 ∈ tables_1 ∧ Cond.privateMethod q.1 ∈ tables_1 ∧ Cond.instanceMethod q.1 ∈ tables_1
theorem lw_p0 : lw_okq (⟨"ThriceCounted", "refuse", "(I)I"⟩, 12) := ⟨⟨by decide +kernel, by decide +kernel⟩, List.mem_of_getElem? (i := 21) (by decide +kernel), List.mem_of_getElem? (i := 265) (by decide +kernel), List.mem_of_getElem? (i := 266) (by decide +kernel)⟩
theorem lw_p1 : lw_okq (⟨"ThriceCounted", "refuseAs", "(II)I"⟩, 12) := ⟨⟨by decide +kernel, by decide +kernel⟩, List.mem_of_getElem? (i := 21) (by decide +kernel), List.mem_of_getElem? (i := 269) (by decide +kernel), List.mem_of_getElem? (i := 270) (by decide +kernel)⟩
theorem lw_p2 : lw_okq (⟨"ThriceCounted$Rows", "hasCell", "(II)Z"⟩, 4) := ⟨⟨by decide +kernel, by decide +kernel⟩, List.mem_of_getElem? (i := 78) (by decide +kernel), List.mem_of_getElem? (i := 290) (by decide +kernel), List.mem_of_getElem? (i := 291) (by decide +kernel)⟩
theorem lw_p3 : lw_okq (⟨"ThriceCounted", "isWay", "(I)Z"⟩, 12) := ⟨⟨by decide +kernel, by decide +kernel⟩, List.mem_of_getElem? (i := 21) (by decide +kernel), List.mem_of_getElem? (i := 322) (by decide +kernel), List.mem_of_getElem? (i := 323) (by decide +kernel)⟩
theorem lw_p4 : lw_okq (⟨"ThriceCounted$Bank", "dropOldest", "()V"⟩, 6) := ⟨⟨by decide +kernel, by decide +kernel⟩, List.mem_of_getElem? (i := 72) (by decide +kernel), List.mem_of_getElem? (i := 330) (by decide +kernel), List.mem_of_getElem? (i := 331) (by decide +kernel)⟩
theorem lw_p5 : lw_okq (⟨"ThriceCounted$Reader", "step", "()V"⟩, 9) := ⟨⟨by decide +kernel, by decide +kernel⟩, List.mem_of_getElem? (i := 147) (by decide +kernel), List.mem_of_getElem? (i := 386) (by decide +kernel), List.mem_of_getElem? (i := 387) (by decide +kernel)⟩
theorem lw_p6 : lw_okq (⟨"ThriceCounted$Reader", "at", "(I)I"⟩, 9) := ⟨⟨by decide +kernel, by decide +kernel⟩, List.mem_of_getElem? (i := 147) (by decide +kernel), List.mem_of_getElem? (i := 390) (by decide +kernel), List.mem_of_getElem? (i := 391) (by decide +kernel)⟩
theorem lw_p7 : lw_okq (⟨"ThriceCounted$Reader", "stepOverWord", "()V"⟩, 9) := ⟨⟨by decide +kernel, by decide +kernel⟩, List.mem_of_getElem? (i := 147) (by decide +kernel), List.mem_of_getElem? (i := 397) (by decide +kernel), List.mem_of_getElem? (i := 398) (by decide +kernel)⟩
theorem lw_p8 : lw_okq (⟨"ThriceCounted$Reader", "stepOverNumber", "()V"⟩, 9) := ⟨⟨by decide +kernel, by decide +kernel⟩, List.mem_of_getElem? (i := 147) (by decide +kernel), List.mem_of_getElem? (i := 404) (by decide +kernel), List.mem_of_getElem? (i := 405) (by decide +kernel)⟩
theorem lw_p9 : lw_okq (⟨"ThriceCounted$Reader", "isWord", "(Ljava/lang/String;)Z"⟩, 9) := ⟨⟨by decide +kernel, by decide +kernel⟩, List.mem_of_getElem? (i := 147) (by decide +kernel), List.mem_of_getElem? (i := 409) (by decide +kernel), List.mem_of_getElem? (i := 410) (by decide +kernel)⟩
theorem lw_p10 : lw_okq (⟨"ThriceCounted$Reader", "endItem", "()Z"⟩, 9) := ⟨⟨by decide +kernel, by decide +kernel⟩, List.mem_of_getElem? (i := 147) (by decide +kernel), List.mem_of_getElem? (i := 461) (by decide +kernel), List.mem_of_getElem? (i := 462) (by decide +kernel)⟩
theorem lw_p11 : lw_okq (⟨"ThriceCounted$Reader", "item", "()Z"⟩, 9) := ⟨⟨by decide +kernel, by decide +kernel⟩, List.mem_of_getElem? (i := 147) (by decide +kernel), List.mem_of_getElem? (i := 465) (by decide +kernel), List.mem_of_getElem? (i := 466) (by decide +kernel)⟩
theorem lw_p12 : lw_okq (⟨"ThriceCounted$Reader", "clerkItem", "()Z"⟩, 9) := ⟨⟨by decide +kernel, by decide +kernel⟩, List.mem_of_getElem? (i := 147) (by decide +kernel), List.mem_of_getElem? (i := 471) (by decide +kernel), List.mem_of_getElem? (i := 472) (by decide +kernel)⟩
theorem lw_p13 : lw_okq (⟨"ThriceCounted$Reader", "number", "(II)I"⟩, 9) := ⟨⟨by decide +kernel, by decide +kernel⟩, List.mem_of_getElem? (i := 147) (by decide +kernel), List.mem_of_getElem? (i := 475) (by decide +kernel), List.mem_of_getElem? (i := 476) (by decide +kernel)⟩
theorem lw_p14 : lw_okq (⟨"ThriceCounted$Reader", "bundleItem", "()Z"⟩, 9) := ⟨⟨by decide +kernel, by decide +kernel⟩, List.mem_of_getElem? (i := 147) (by decide +kernel), List.mem_of_getElem? (i := 481) (by decide +kernel), List.mem_of_getElem? (i := 482) (by decide +kernel)⟩
theorem lw_p15 : lw_okq (⟨"ThriceCounted$Reader", "bandItem", "()Z"⟩, 9) := ⟨⟨by decide +kernel, by decide +kernel⟩, List.mem_of_getElem? (i := 147) (by decide +kernel), List.mem_of_getElem? (i := 487) (by decide +kernel), List.mem_of_getElem? (i := 488) (by decide +kernel)⟩
def lw_privs_1 : List (MethodName × Nat) := [(⟨"ThriceCounted", "refuse", "(I)I"⟩, 12), (⟨"ThriceCounted", "refuseAs", "(II)I"⟩, 12), (⟨"ThriceCounted$Rows", "hasCell", "(II)Z"⟩, 4), (⟨"ThriceCounted", "isWay", "(I)Z"⟩, 12), (⟨"ThriceCounted$Bank", "dropOldest", "()V"⟩, 6), (⟨"ThriceCounted$Reader", "step", "()V"⟩, 9), (⟨"ThriceCounted$Reader", "at", "(I)I"⟩, 9), (⟨"ThriceCounted$Reader", "stepOverWord", "()V"⟩, 9), (⟨"ThriceCounted$Reader", "stepOverNumber", "()V"⟩, 9), (⟨"ThriceCounted$Reader", "isWord", "(Ljava/lang/String;)Z"⟩, 9), (⟨"ThriceCounted$Reader", "endItem", "()Z"⟩, 9), (⟨"ThriceCounted$Reader", "item", "()Z"⟩, 9), (⟨"ThriceCounted$Reader", "clerkItem", "()Z"⟩, 9), (⟨"ThriceCounted$Reader", "number", "(II)I"⟩, 9), (⟨"ThriceCounted$Reader", "bundleItem", "()Z"⟩, 9), (⟨"ThriceCounted$Reader", "bandItem", "()Z"⟩, 9)]
theorem lw_r1 : ∀ q ∈ lw_privs_1, lw_okq q := List.forall_mem_cons.mpr ⟨lw_p0, List.forall_mem_cons.mpr ⟨lw_p1, List.forall_mem_cons.mpr ⟨lw_p2, List.forall_mem_cons.mpr ⟨lw_p3, List.forall_mem_cons.mpr ⟨lw_p4, List.forall_mem_cons.mpr ⟨lw_p5, List.forall_mem_cons.mpr ⟨lw_p6, List.forall_mem_cons.mpr ⟨lw_p7, List.forall_mem_cons.mpr ⟨lw_p8, List.forall_mem_cons.mpr ⟨lw_p9, List.forall_mem_cons.mpr ⟨lw_p10, List.forall_mem_cons.mpr ⟨lw_p11, List.forall_mem_cons.mpr ⟨lw_p12, List.forall_mem_cons.mpr ⟨lw_p13, List.forall_mem_cons.mpr ⟨lw_p14, List.forall_mem_cons.mpr ⟨lw_p15, fun _ h => absurd h List.not_mem_nil⟩⟩⟩⟩⟩⟩⟩⟩⟩⟩⟩⟩⟩⟩⟩⟩
theorem lw_p16 : lw_okq (⟨"ThriceCounted$Reader", "countItem", "()Z"⟩, 9) := ⟨⟨by decide +kernel, by decide +kernel⟩, List.mem_of_getElem? (i := 147) (by decide +kernel), List.mem_of_getElem? (i := 494) (by decide +kernel), List.mem_of_getElem? (i := 495) (by decide +kernel)⟩
theorem lw_p17 : lw_okq (⟨"ThriceCounted", "findTruths", "()V"⟩, 12) := ⟨⟨by decide +kernel, by decide +kernel⟩, List.mem_of_getElem? (i := 21) (by decide +kernel), List.mem_of_getElem? (i := 633) (by decide +kernel), List.mem_of_getElem? (i := 634) (by decide +kernel)⟩
theorem lw_p18 : lw_okq (⟨"ThriceCounted", "rightLessWrong", "(I)I"⟩, 12) := ⟨⟨by decide +kernel, by decide +kernel⟩, List.mem_of_getElem? (i := 21) (by decide +kernel), List.mem_of_getElem? (i := 637) (by decide +kernel), List.mem_of_getElem? (i := 638) (by decide +kernel)⟩
theorem lw_p19 : lw_okq (⟨"ThriceCounted", "weighMore", "(III)V"⟩, 12) := ⟨⟨by decide +kernel, by decide +kernel⟩, List.mem_of_getElem? (i := 21) (by decide +kernel), List.mem_of_getElem? (i := 650) (by decide +kernel), List.mem_of_getElem? (i := 651) (by decide +kernel)⟩
theorem lw_p20 : lw_okq (⟨"ThriceCounted", "canDo", "(II)Z"⟩, 12) := ⟨⟨by decide +kernel, by decide +kernel⟩, List.mem_of_getElem? (i := 21) (by decide +kernel), List.mem_of_getElem? (i := 659) (by decide +kernel), List.mem_of_getElem? (i := 660) (by decide +kernel)⟩
theorem lw_p21 : lw_okq (⟨"ThriceCounted", "minutesOf", "(I)I"⟩, 12) := ⟨⟨by decide +kernel, by decide +kernel⟩, List.mem_of_getElem? (i := 21) (by decide +kernel), List.mem_of_getElem? (i := 663) (by decide +kernel), List.mem_of_getElem? (i := 664) (by decide +kernel)⟩
theorem lw_p22 : lw_okq (⟨"ThriceCounted", "weighPlan", "(III)V"⟩, 12) := ⟨⟨by decide +kernel, by decide +kernel⟩, List.mem_of_getElem? (i := 21) (by decide +kernel), List.mem_of_getElem? (i := 667) (by decide +kernel), List.mem_of_getElem? (i := 668) (by decide +kernel)⟩
theorem lw_p23 : lw_okq (⟨"ThriceCounted", "offTogether", "(II)I"⟩, 12) := ⟨⟨by decide +kernel, by decide +kernel⟩, List.mem_of_getElem? (i := 21) (by decide +kernel), List.mem_of_getElem? (i := 699) (by decide +kernel), List.mem_of_getElem? (i := 700) (by decide +kernel)⟩
theorem lw_p24 : lw_okq (⟨"ThriceCounted", "oddsTogether", "(II)I"⟩, 12) := ⟨⟨by decide +kernel, by decide +kernel⟩, List.mem_of_getElem? (i := 21) (by decide +kernel), List.mem_of_getElem? (i := 703) (by decide +kernel), List.mem_of_getElem? (i := 704) (by decide +kernel)⟩
theorem lw_p25 : lw_okq (⟨"ThriceCounted", "listCauses", "(I)I"⟩, 12) := ⟨⟨by decide +kernel, by decide +kernel⟩, List.mem_of_getElem? (i := 21) (by decide +kernel), List.mem_of_getElem? (i := 711) (by decide +kernel), List.mem_of_getElem? (i := 712) (by decide +kernel)⟩
theorem lw_p26 : lw_okq (⟨"ThriceCounted", "sortForSearch", "(I)V"⟩, 12) := ⟨⟨by decide +kernel, by decide +kernel⟩, List.mem_of_getElem? (i := 21) (by decide +kernel), List.mem_of_getElem? (i := 715) (by decide +kernel), List.mem_of_getElem? (i := 716) (by decide +kernel)⟩
theorem lw_p27 : lw_okq (⟨"ThriceCounted", "standsAhead", "(III)Z"⟩, 12) := ⟨⟨by decide +kernel, by decide +kernel⟩, List.mem_of_getElem? (i := 21) (by decide +kernel), List.mem_of_getElem? (i := 719) (by decide +kernel), List.mem_of_getElem? (i := 720) (by decide +kernel)⟩
theorem lw_p28 : lw_okq (⟨"ThriceCounted", "delay", "(II)I"⟩, 12) := ⟨⟨by decide +kernel, by decide +kernel⟩, List.mem_of_getElem? (i := 21) (by decide +kernel), List.mem_of_getElem? (i := 723) (by decide +kernel), List.mem_of_getElem? (i := 724) (by decide +kernel)⟩
theorem lw_p29 : lw_okq (⟨"ThriceCounted", "timeSearch", "(I)V"⟩, 12) := ⟨⟨by decide +kernel, by decide +kernel⟩, List.mem_of_getElem? (i := 21) (by decide +kernel), List.mem_of_getElem? (i := 727) (by decide +kernel), List.mem_of_getElem? (i := 728) (by decide +kernel)⟩
theorem lw_p30 : lw_okq (⟨"ThriceCounted", "isImage", "(I)Z"⟩, 12) := ⟨⟨by decide +kernel, by decide +kernel⟩, List.mem_of_getElem? (i := 21) (by decide +kernel), List.mem_of_getElem? (i := 766) (by decide +kernel), List.mem_of_getElem? (i := 767) (by decide +kernel)⟩
theorem lw_p31 : lw_okq (⟨"ThriceCounted", "howMany", "(I)I"⟩, 12) := ⟨⟨by decide +kernel, by decide +kernel⟩, List.mem_of_getElem? (i := 21) (by decide +kernel), List.mem_of_getElem? (i := 782) (by decide +kernel), List.mem_of_getElem? (i := 783) (by decide +kernel)⟩
def lw_privs_2 : List (MethodName × Nat) := [(⟨"ThriceCounted$Reader", "countItem", "()Z"⟩, 9), (⟨"ThriceCounted", "findTruths", "()V"⟩, 12), (⟨"ThriceCounted", "rightLessWrong", "(I)I"⟩, 12), (⟨"ThriceCounted", "weighMore", "(III)V"⟩, 12), (⟨"ThriceCounted", "canDo", "(II)Z"⟩, 12), (⟨"ThriceCounted", "minutesOf", "(I)I"⟩, 12), (⟨"ThriceCounted", "weighPlan", "(III)V"⟩, 12), (⟨"ThriceCounted", "offTogether", "(II)I"⟩, 12), (⟨"ThriceCounted", "oddsTogether", "(II)I"⟩, 12), (⟨"ThriceCounted", "listCauses", "(I)I"⟩, 12), (⟨"ThriceCounted", "sortForSearch", "(I)V"⟩, 12), (⟨"ThriceCounted", "standsAhead", "(III)Z"⟩, 12), (⟨"ThriceCounted", "delay", "(II)I"⟩, 12), (⟨"ThriceCounted", "timeSearch", "(I)V"⟩, 12), (⟨"ThriceCounted", "isImage", "(I)Z"⟩, 12), (⟨"ThriceCounted", "howMany", "(I)I"⟩, 12)]
theorem lw_r2 : ∀ q ∈ lw_privs_2, lw_okq q := List.forall_mem_cons.mpr ⟨lw_p16, List.forall_mem_cons.mpr ⟨lw_p17, List.forall_mem_cons.mpr ⟨lw_p18, List.forall_mem_cons.mpr ⟨lw_p19, List.forall_mem_cons.mpr ⟨lw_p20, List.forall_mem_cons.mpr ⟨lw_p21, List.forall_mem_cons.mpr ⟨lw_p22, List.forall_mem_cons.mpr ⟨lw_p23, List.forall_mem_cons.mpr ⟨lw_p24, List.forall_mem_cons.mpr ⟨lw_p25, List.forall_mem_cons.mpr ⟨lw_p26, List.forall_mem_cons.mpr ⟨lw_p27, List.forall_mem_cons.mpr ⟨lw_p28, List.forall_mem_cons.mpr ⟨lw_p29, List.forall_mem_cons.mpr ⟨lw_p30, List.forall_mem_cons.mpr ⟨lw_p31, fun _ h => absurd h List.not_mem_nil⟩⟩⟩⟩⟩⟩⟩⟩⟩⟩⟩⟩⟩⟩⟩⟩
theorem lw_p32 : lw_okq (⟨"ThriceCountedModel", "bad", "(I)I"⟩, 24) := ⟨⟨by decide +kernel, by decide +kernel⟩, List.mem_of_getElem? (i := 801) (by decide +kernel), List.mem_of_getElem? (i := 895) (by decide +kernel), List.mem_of_getElem? (i := 896) (by decide +kernel)⟩
theorem lw_p33 : lw_okq (⟨"ThriceCountedModel", "full", "()I"⟩, 24) := ⟨⟨by decide +kernel, by decide +kernel⟩, List.mem_of_getElem? (i := 801) (by decide +kernel), List.mem_of_getElem? (i := 899) (by decide +kernel), List.mem_of_getElem? (i := 900) (by decide +kernel)⟩
theorem lw_p34 : lw_okq (⟨"ThriceCountedModel", "isBundle", "(I)Z"⟩, 24) := ⟨⟨by decide +kernel, by decide +kernel⟩, List.mem_of_getElem? (i := 801) (by decide +kernel), List.mem_of_getElem? (i := 919) (by decide +kernel), List.mem_of_getElem? (i := 920) (by decide +kernel)⟩
theorem lw_p35 : lw_okq (⟨"ThriceCountedModel", "isClerk", "(I)Z"⟩, 24) := ⟨⟨by decide +kernel, by decide +kernel⟩, List.mem_of_getElem? (i := 801) (by decide +kernel), List.mem_of_getElem? (i := 923) (by decide +kernel), List.mem_of_getElem? (i := 924) (by decide +kernel)⟩
theorem lw_p36 : lw_okq (⟨"ThriceCountedModel", "bundleHas", "(II)I"⟩, 24) := ⟨⟨by decide +kernel, by decide +kernel⟩, List.mem_of_getElem? (i := 801) (by decide +kernel), List.mem_of_getElem? (i := 927) (by decide +kernel), List.mem_of_getElem? (i := 928) (by decide +kernel)⟩
theorem lw_p37 : lw_okq (⟨"ThriceCountedModel", "keep", "()V"⟩, 24) := ⟨⟨by decide +kernel, by decide +kernel⟩, List.mem_of_getElem? (i := 801) (by decide +kernel), List.mem_of_getElem? (i := 944) (by decide +kernel), List.mem_of_getElem? (i := 945) (by decide +kernel)⟩
theorem lw_p38 : lw_okq (⟨"ThriceCountedModel", "isCount", "(I)Z"⟩, 24) := ⟨⟨by decide +kernel, by decide +kernel⟩, List.mem_of_getElem? (i := 801) (by decide +kernel), List.mem_of_getElem? (i := 955) (by decide +kernel), List.mem_of_getElem? (i := 956) (by decide +kernel)⟩
theorem lw_p39 : lw_okq (⟨"ThriceCountedModel", "no", "()I"⟩, 24) := ⟨⟨by decide +kernel, by decide +kernel⟩, List.mem_of_getElem? (i := 801) (by decide +kernel), List.mem_of_getElem? (i := 963) (by decide +kernel), List.mem_of_getElem? (i := 964) (by decide +kernel)⟩
theorem lw_p40 : lw_okq (⟨"ThriceCountedModel", "countHas", "(II)I"⟩, 24) := ⟨⟨by decide +kernel, by decide +kernel⟩, List.mem_of_getElem? (i := 801) (by decide +kernel), List.mem_of_getElem? (i := 1000) (by decide +kernel), List.mem_of_getElem? (i := 1001) (by decide +kernel)⟩
theorem lw_p41 : lw_okq (⟨"ThriceCountedModel", "weigh", "(I)V"⟩, 24) := ⟨⟨by decide +kernel, by decide +kernel⟩, List.mem_of_getElem? (i := 801) (by decide +kernel), List.mem_of_getElem? (i := 1013) (by decide +kernel), List.mem_of_getElem? (i := 1014) (by decide +kernel)⟩
theorem lw_p42 : lw_okq (⟨"ThriceCountedModel", "weight", "(II)J"⟩, 24) := ⟨⟨by decide +kernel, by decide +kernel⟩, List.mem_of_getElem? (i := 801) (by decide +kernel), List.mem_of_getElem? (i := 1017) (by decide +kernel), List.mem_of_getElem? (i := 1018) (by decide +kernel)⟩
theorem lw_p43 : lw_okq (⟨"ThriceCountedModel", "fraction", "(JJ)V"⟩, 24) := ⟨⟨by decide +kernel, by decide +kernel⟩, List.mem_of_getElem? (i := 801) (by decide +kernel), List.mem_of_getElem? (i := 1021) (by decide +kernel), List.mem_of_getElem? (i := 1022) (by decide +kernel)⟩
theorem lw_p44 : lw_okq (⟨"ThriceCountedModel", "scoreOf", "(I)I"⟩, 24) := ⟨⟨by decide +kernel, by decide +kernel⟩, List.mem_of_getElem? (i := 801) (by decide +kernel), List.mem_of_getElem? (i := 1037) (by decide +kernel), List.mem_of_getElem? (i := 1038) (by decide +kernel)⟩
theorem lw_p45 : lw_okq (⟨"ThriceCountedModel", "isSure", "(III)Z"⟩, 24) := ⟨⟨by decide +kernel, by decide +kernel⟩, List.mem_of_getElem? (i := 801) (by decide +kernel), List.mem_of_getElem? (i := 1050) (by decide +kernel), List.mem_of_getElem? (i := 1051) (by decide +kernel)⟩
theorem lw_p46 : lw_okq (⟨"ThriceCountedModel", "weighThen", "(III)V"⟩, 24) := ⟨⟨by decide +kernel, by decide +kernel⟩, List.mem_of_getElem? (i := 801) (by decide +kernel), List.mem_of_getElem? (i := 1062) (by decide +kernel), List.mem_of_getElem? (i := 1063) (by decide +kernel)⟩
theorem lw_p47 : lw_okq (⟨"ThriceCountedModel", "causeHas", "(II)I"⟩, 24) := ⟨⟨by decide +kernel, by decide +kernel⟩, List.mem_of_getElem? (i := 801) (by decide +kernel), List.mem_of_getElem? (i := 1097) (by decide +kernel), List.mem_of_getElem? (i := 1098) (by decide +kernel)⟩
def lw_privs_3 : List (MethodName × Nat) := [(⟨"ThriceCountedModel", "bad", "(I)I"⟩, 24), (⟨"ThriceCountedModel", "full", "()I"⟩, 24), (⟨"ThriceCountedModel", "isBundle", "(I)Z"⟩, 24), (⟨"ThriceCountedModel", "isClerk", "(I)Z"⟩, 24), (⟨"ThriceCountedModel", "bundleHas", "(II)I"⟩, 24), (⟨"ThriceCountedModel", "keep", "()V"⟩, 24), (⟨"ThriceCountedModel", "isCount", "(I)Z"⟩, 24), (⟨"ThriceCountedModel", "no", "()I"⟩, 24), (⟨"ThriceCountedModel", "countHas", "(II)I"⟩, 24), (⟨"ThriceCountedModel", "weigh", "(I)V"⟩, 24), (⟨"ThriceCountedModel", "weight", "(II)J"⟩, 24), (⟨"ThriceCountedModel", "fraction", "(JJ)V"⟩, 24), (⟨"ThriceCountedModel", "scoreOf", "(I)I"⟩, 24), (⟨"ThriceCountedModel", "isSure", "(III)Z"⟩, 24), (⟨"ThriceCountedModel", "weighThen", "(III)V"⟩, 24), (⟨"ThriceCountedModel", "causeHas", "(II)I"⟩, 24)]
theorem lw_r3 : ∀ q ∈ lw_privs_3, lw_okq q := List.forall_mem_cons.mpr ⟨lw_p32, List.forall_mem_cons.mpr ⟨lw_p33, List.forall_mem_cons.mpr ⟨lw_p34, List.forall_mem_cons.mpr ⟨lw_p35, List.forall_mem_cons.mpr ⟨lw_p36, List.forall_mem_cons.mpr ⟨lw_p37, List.forall_mem_cons.mpr ⟨lw_p38, List.forall_mem_cons.mpr ⟨lw_p39, List.forall_mem_cons.mpr ⟨lw_p40, List.forall_mem_cons.mpr ⟨lw_p41, List.forall_mem_cons.mpr ⟨lw_p42, List.forall_mem_cons.mpr ⟨lw_p43, List.forall_mem_cons.mpr ⟨lw_p44, List.forall_mem_cons.mpr ⟨lw_p45, List.forall_mem_cons.mpr ⟨lw_p46, List.forall_mem_cons.mpr ⟨lw_p47, fun _ h => absurd h List.not_mem_nil⟩⟩⟩⟩⟩⟩⟩⟩⟩⟩⟩⟩⟩⟩⟩⟩
theorem lw_p48 : lw_okq (⟨"ThriceCountedModel", "laySought", "(I)V"⟩, 24) := ⟨⟨by decide +kernel, by decide +kernel⟩, List.mem_of_getElem? (i := 801) (by decide +kernel), List.mem_of_getElem? (i := 1105) (by decide +kernel), List.mem_of_getElem? (i := 1106) (by decide +kernel)⟩
theorem lw_p49 : lw_okq (⟨"ThriceCountedModel", "meanOf", "()J"⟩, 24) := ⟨⟨by decide +kernel, by decide +kernel⟩, List.mem_of_getElem? (i := 801) (by decide +kernel), List.mem_of_getElem? (i := 1110) (by decide +kernel), List.mem_of_getElem? (i := 1111) (by decide +kernel)⟩
theorem lw_p50 : lw_okq (⟨"ThriceCountedModel", "nextOrder", "()Z"⟩, 24) := ⟨⟨by decide +kernel, by decide +kernel⟩, List.mem_of_getElem? (i := 801) (by decide +kernel), List.mem_of_getElem? (i := 1114) (by decide +kernel), List.mem_of_getElem? (i := 1115) (by decide +kernel)⟩
theorem lw_p51 : lw_okq (⟨"ThriceCountedModel", "allOdds", "()I"⟩, 24) := ⟨⟨by decide +kernel, by decide +kernel⟩, List.mem_of_getElem? (i := 801) (by decide +kernel), List.mem_of_getElem? (i := 1118) (by decide +kernel), List.mem_of_getElem? (i := 1119) (by decide +kernel)⟩
theorem lw_p52 : lw_okq (⟨"ThriceCountedModel", "lookAt", "(I)V"⟩, 24) := ⟨⟨by decide +kernel, by decide +kernel⟩, List.mem_of_getElem? (i := 801) (by decide +kernel), List.mem_of_getElem? (i := 1150) (by decide +kernel), List.mem_of_getElem? (i := 1151) (by decide +kernel)⟩
theorem lw_p53 : lw_okq (⟨"ThriceCountedModel", "readsFirst", "()Z"⟩, 24) := ⟨⟨by decide +kernel, by decide +kernel⟩, List.mem_of_getElem? (i := 801) (by decide +kernel), List.mem_of_getElem? (i := 1164) (by decide +kernel), List.mem_of_getElem? (i := 1165) (by decide +kernel)⟩
theorem lw_p54 : lw_okq (⟨"ThriceCountedModel", "isCalled", "(IIIIIII)Z"⟩, 24) := ⟨⟨by decide +kernel, by decide +kernel⟩, List.mem_of_getElem? (i := 801) (by decide +kernel), List.mem_of_getElem? (i := 1168) (by decide +kernel), List.mem_of_getElem? (i := 1169) (by decide +kernel)⟩
theorem lw_p55 : lw_okq (⟨"ThriceCountedModel", "goOn", "()V"⟩, 24) := ⟨⟨by decide +kernel, by decide +kernel⟩, List.mem_of_getElem? (i := 801) (by decide +kernel), List.mem_of_getElem? (i := 1172) (by decide +kernel), List.mem_of_getElem? (i := 1173) (by decide +kernel)⟩
theorem lw_p56 : lw_okq (⟨"ThriceCountedModel", "readsItem", "()Z"⟩, 24) := ⟨⟨by decide +kernel, by decide +kernel⟩, List.mem_of_getElem? (i := 801) (by decide +kernel), List.mem_of_getElem? (i := 1176) (by decide +kernel), List.mem_of_getElem? (i := 1177) (by decide +kernel)⟩
theorem lw_p57 : lw_okq (⟨"ThriceCountedModel", "readsClerk", "()Z"⟩, 24) := ⟨⟨by decide +kernel, by decide +kernel⟩, List.mem_of_getElem? (i := 801) (by decide +kernel), List.mem_of_getElem? (i := 1180) (by decide +kernel), List.mem_of_getElem? (i := 1181) (by decide +kernel)⟩
theorem lw_p58 : lw_okq (⟨"ThriceCountedModel", "takes", "(III)Z"⟩, 24) := ⟨⟨by decide +kernel, by decide +kernel⟩, List.mem_of_getElem? (i := 801) (by decide +kernel), List.mem_of_getElem? (i := 1184) (by decide +kernel), List.mem_of_getElem? (i := 1185) (by decide +kernel)⟩
theorem lw_p59 : lw_okq (⟨"ThriceCountedModel", "readsBundle", "()Z"⟩, 24) := ⟨⟨by decide +kernel, by decide +kernel⟩, List.mem_of_getElem? (i := 801) (by decide +kernel), List.mem_of_getElem? (i := 1188) (by decide +kernel), List.mem_of_getElem? (i := 1189) (by decide +kernel)⟩
theorem lw_p60 : lw_okq (⟨"ThriceCountedModel", "readsBand", "()Z"⟩, 24) := ⟨⟨by decide +kernel, by decide +kernel⟩, List.mem_of_getElem? (i := 801) (by decide +kernel), List.mem_of_getElem? (i := 1192) (by decide +kernel), List.mem_of_getElem? (i := 1193) (by decide +kernel)⟩
theorem lw_p61 : lw_okq (⟨"ThriceCountedModel", "readsCount", "()Z"⟩, 24) := ⟨⟨by decide +kernel, by decide +kernel⟩, List.mem_of_getElem? (i := 801) (by decide +kernel), List.mem_of_getElem? (i := 1196) (by decide +kernel), List.mem_of_getElem? (i := 1197) (by decide +kernel)⟩
theorem lw_p62 : lw_okq (⟨"ThriceCountedModel", "counted", "(I)I"⟩, 24) := ⟨⟨by decide +kernel, by decide +kernel⟩, List.mem_of_getElem? (i := 801) (by decide +kernel), List.mem_of_getElem? (i := 1220) (by decide +kernel), List.mem_of_getElem? (i := 1221) (by decide +kernel)⟩
theorem lw_p63 : lw_okq (⟨"ThriceCountedModel", "sums", "(JII)J"⟩, 24) := ⟨⟨by decide +kernel, by decide +kernel⟩, List.mem_of_getElem? (i := 801) (by decide +kernel), List.mem_of_getElem? (i := 1230) (by decide +kernel), List.mem_of_getElem? (i := 1231) (by decide +kernel)⟩
def lw_privs_4 : List (MethodName × Nat) := [(⟨"ThriceCountedModel", "laySought", "(I)V"⟩, 24), (⟨"ThriceCountedModel", "meanOf", "()J"⟩, 24), (⟨"ThriceCountedModel", "nextOrder", "()Z"⟩, 24), (⟨"ThriceCountedModel", "allOdds", "()I"⟩, 24), (⟨"ThriceCountedModel", "lookAt", "(I)V"⟩, 24), (⟨"ThriceCountedModel", "readsFirst", "()Z"⟩, 24), (⟨"ThriceCountedModel", "isCalled", "(IIIIIII)Z"⟩, 24), (⟨"ThriceCountedModel", "goOn", "()V"⟩, 24), (⟨"ThriceCountedModel", "readsItem", "()Z"⟩, 24), (⟨"ThriceCountedModel", "readsClerk", "()Z"⟩, 24), (⟨"ThriceCountedModel", "takes", "(III)Z"⟩, 24), (⟨"ThriceCountedModel", "readsBundle", "()Z"⟩, 24), (⟨"ThriceCountedModel", "readsBand", "()Z"⟩, 24), (⟨"ThriceCountedModel", "readsCount", "()Z"⟩, 24), (⟨"ThriceCountedModel", "counted", "(I)I"⟩, 24), (⟨"ThriceCountedModel", "sums", "(JII)J"⟩, 24)]
theorem lw_r4 : ∀ q ∈ lw_privs_4, lw_okq q := List.forall_mem_cons.mpr ⟨lw_p48, List.forall_mem_cons.mpr ⟨lw_p49, List.forall_mem_cons.mpr ⟨lw_p50, List.forall_mem_cons.mpr ⟨lw_p51, List.forall_mem_cons.mpr ⟨lw_p52, List.forall_mem_cons.mpr ⟨lw_p53, List.forall_mem_cons.mpr ⟨lw_p54, List.forall_mem_cons.mpr ⟨lw_p55, List.forall_mem_cons.mpr ⟨lw_p56, List.forall_mem_cons.mpr ⟨lw_p57, List.forall_mem_cons.mpr ⟨lw_p58, List.forall_mem_cons.mpr ⟨lw_p59, List.forall_mem_cons.mpr ⟨lw_p60, List.forall_mem_cons.mpr ⟨lw_p61, List.forall_mem_cons.mpr ⟨lw_p62, List.forall_mem_cons.mpr ⟨lw_p63, fun _ h => absurd h List.not_mem_nil⟩⟩⟩⟩⟩⟩⟩⟩⟩⟩⟩⟩⟩⟩⟩⟩
def lw_privs : List (MethodName × Nat) := lw_privs_1 ++ (lw_privs_2 ++ (lw_privs_3 ++ (lw_privs_4)))
def lw_tbl : List Cond := k2_sels lw_privs ++ tables_1
theorem lw_privs_ok : ∀ q ∈ lw_privs, lw_okq q := by
  show ∀ q ∈ lw_privs_1 ++ (lw_privs_2 ++ (lw_privs_3 ++ (lw_privs_4))), lw_okq q
  exact List.forall_mem_append.mpr ⟨lw_r1, List.forall_mem_append.mpr ⟨lw_r2, List.forall_mem_append.mpr ⟨lw_r3, lw_r4⟩⟩⟩
end
section
/-! ===== BEGIN words of one list among another's, by their places ===== -/
theorem goodIn_r {big : List Cond} (ws : List Cond) (ps : List Nat) (hp : ws = ps.filterMap (fun i => big[i]?)) (h : ws.all goodWord = true) : GoodIn big ws := by
  intro w hw
  have h1 := List.all_eq_true.mp h w hw
  rw [hp] at hw
  obtain ⟨i, -, hi⟩ := List.mem_filterMap.mp hw
  have hm : w ∈ big := by first | exact List.mem_of_getElem? hi | exact List.getElem?_mem hi
  exact ⟨hm, good_of_word h1⟩
theorem goodIn_app {big a b : List Cond} (ha : GoodIn big a) (hb : GoodIn big b) : GoodIn big (a ++ b) := fun w h => (List.mem_append.mp h).elim (ha w) (hb w)
theorem goodIn_ca {big a b : List Cond} {c : Cond} (ha : GoodIn big (c :: a)) (hb : GoodIn big b) : GoodIn big (c :: (a ++ b)) := fun w h => (List.mem_cons.mp h).elim (fun e => ha w (List.mem_cons.mpr (Or.inl e))) (fun h => (List.mem_append.mp h).elim (fun h => ha w (List.mem_cons.mpr (Or.inr h))) (hb w))
theorem goodIn_sub {big ws : List Cond} (hm : ∀ w ∈ ws, w ∈ big) (h : ws.all goodWord = true) : GoodIn big ws := fun w hw => ⟨hm w hw, good_of_word (List.all_eq_true.mp h w hw)⟩
/-! ===== END ===== -/

/-! ===== BEGIN printed: names, fields, word lists, decode rows ===== -/
def RX0 : String := "ThriceCounted$Bank"
def TX0 : u_T := fun k => match k with
  | 0 => ("ThriceCounted$Bank", "clerks", "LThriceCounted$Rows;", true)
  | 1 => ("ThriceCounted$Bank", "bundles", "LThriceCounted$Rows;", true)
  | 2 => ("ThriceCounted$Bank", "counts", "LThriceCounted$Rows;", true)
  | 3 => ("ThriceCounted$Bank", "causes", "LThriceCounted$Rows;", true)
  | 4 => ("ThriceCounted$Bank", "earlier", "[LThriceCounted$Rows;", true)
  | _ => ("ThriceCounted$Bank", "undos", "I", false)
def tyX0 : Nat → FieldType := fun k => match k with
  | 0 => .object "ThriceCounted$Rows"
  | 1 => .object "ThriceCounted$Rows"
  | 2 => .object "ThriceCounted$Rows"
  | 3 => .object "ThriceCounted$Rows"
  | 4 => .array (.object "ThriceCounted$Rows")
  | _ => .int
abbrev wsX00 : List Cond := u_ws RX0 TX0 6
theorem nmX0 : ∀ a, a < 6 → ∀ b, b < 6 → a ≠ b → (TX0 a).2.1 ≠ (TX0 b).2.1 := by decide +kernel
theorem tyX0_ok : ∀ k, k < 6 → parseFieldDescriptor (TX0 k).2.2.1 = some (tyX0 k) := by decide +kernel
abbrev cX0_init : ByteArray := prog_2_method_1_code
def yX0_init : MethodName := ⟨RX0, "<init>", "()V"⟩
abbrev cX0_undos : ByteArray := prog_2_method_2_code
def yX0_undos : MethodName := ⟨RX0, "undos", "()I"⟩
abbrev cX0_empty : ByteArray := prog_2_method_3_code
def yX0_empty : MethodName := ⟨RX0, "empty", "()V"⟩
abbrev cX0_copyFrom : ByteArray := prog_2_method_4_code
def yX0_copyFrom : MethodName := ⟨RX0, "copyFrom", "(LThriceCounted$Bank;)V"⟩
abbrev cX0_addClerk : ByteArray := prog_2_method_5_code
def yX0_addClerk : MethodName := ⟨RX0, "addClerk", "(I)I"⟩
abbrev cX0_addBundle : ByteArray := prog_2_method_6_code
def yX0_addBundle : MethodName := ⟨RX0, "addBundle", "(II)I"⟩
abbrev cX0_putBand : ByteArray := prog_2_method_7_code
def yX0_putBand : MethodName := ⟨RX0, "putBand", "(III)V"⟩
abbrev cX0_addCount : ByteArray := prog_2_method_8_code
def yX0_addCount : MethodName := ⟨RX0, "addCount", "(IIII)I"⟩
abbrev cX0_addCause : ByteArray := prog_2_method_9_code
def yX0_addCause : MethodName := ⟨RX0, "addCause", "(IIII)I"⟩
abbrev cX0_countsOf : ByteArray := prog_2_method_10_code
def yX0_countsOf : MethodName := ⟨RX0, "countsOf", "(I)I"⟩
abbrev cX0_keepCounts : ByteArray := prog_2_method_11_code
def yX0_keepCounts : MethodName := ⟨RX0, "keepCounts", "()V"⟩
abbrev cX0_dropOldest : ByteArray := prog_2_method_12_code
def yX0_dropOldest : MethodName := ⟨RX0, "dropOldest", "()V"⟩
abbrev cX0_restoreCounts : ByteArray := prog_2_method_13_code
def yX0_restoreCounts : MethodName := ⟨RX0, "restoreCounts", "()Z"⟩
def RX1 : String := "ThriceCounted$Fives"
def TX1 : u_T := fun k => match k with
  | _ => ("", "", "", false)
def tyX1 : Nat → FieldType := fun k => match k with
  | _ => .int
abbrev wsX10 : List Cond := u_ws RX1 TX1 0
theorem nmX1 : ∀ a, a < 0 → ∀ b, b < 0 → a ≠ b → (TX1 a).2.1 ≠ (TX1 b).2.1 := by decide +kernel
theorem tyX1_ok : ∀ k, k < 0 → parseFieldDescriptor (TX1 k).2.2.1 = some (tyX1 k) := by decide +kernel
abbrev cX1_init : ByteArray := prog_3_method_1_code
def yX1_init : MethodName := ⟨RX1, "<init>", "()V"⟩
abbrev cX1_slip : ByteArray := prog_3_method_2_code
def yX1_slip : MethodName := ⟨RX1, "slip", "(I)I"⟩
abbrev cX1_minutes : ByteArray := prog_3_method_3_code
def yX1_minutes : MethodName := ⟨RX1, "minutes", "()I"⟩
def RX2 : String := "ThriceCounted$Fraction"
def TX2 : u_T := fun k => match k with
  | 0 => ("ThriceCounted$Fraction", "above", "J", false)
  | _ => ("ThriceCounted$Fraction", "below", "J", false)
def tyX2 : Nat → FieldType := fun k => match k with
  | 0 => .long
  | _ => .long
abbrev wsX20 : List Cond := u_ws RX2 TX2 2
theorem nmX2 : ∀ a, a < 2 → ∀ b, b < 2 → a ≠ b → (TX2 a).2.1 ≠ (TX2 b).2.1 := by decide +kernel
theorem tyX2_ok : ∀ k, k < 2 → parseFieldDescriptor (TX2 k).2.2.1 = some (tyX2 k) := by decide +kernel
abbrev cX2_init : ByteArray := prog_4_method_1_code
def yX2_init : MethodName := ⟨RX2, "<init>", "()V"⟩
abbrev cX2_above : ByteArray := prog_4_method_2_code
def yX2_above : MethodName := ⟨RX2, "above", "()J"⟩
abbrev cX2_below : ByteArray := prog_4_method_3_code
def yX2_below : MethodName := ⟨RX2, "below", "()J"⟩
abbrev cX2_become : ByteArray := prog_4_method_4_code
def yX2_become : MethodName := ⟨RX2, "become", "(JJ)V"⟩
abbrev cX2_commonDivisor : ByteArray := prog_4_method_5_code
def yX2_commonDivisor : MethodName := ⟨RX2, "commonDivisor", "(JJ)J"⟩
abbrev cX2_isMore : ByteArray := prog_4_method_6_code
def yX2_isMore : MethodName := ⟨RX2, "isMore", "(JJJJ)Z"⟩
def RX3 : String := "ThriceCounted$Height"
def TX3 : u_T := fun k => match k with
  | _ => ("", "", "", false)
def tyX3 : Nat → FieldType := fun k => match k with
  | _ => .int
abbrev wsX30 : List Cond := u_ws RX3 TX3 0
theorem nmX3 : ∀ a, a < 0 → ∀ b, b < 0 → a ≠ b → (TX3 a).2.1 ≠ (TX3 b).2.1 := by decide +kernel
theorem tyX3_ok : ∀ k, k < 0 → parseFieldDescriptor (TX3 k).2.2.1 = some (tyX3 k) := by decide +kernel
abbrev cX3_init : ByteArray := prog_5_method_1_code
def yX3_init : MethodName := ⟨RX3, "<init>", "()V"⟩
abbrev cX3_slip : ByteArray := prog_5_method_2_code
def yX3_slip : MethodName := ⟨RX3, "slip", "(I)I"⟩
def RX4 : String := "ThriceCounted$Ones"
def TX4 : u_T := fun k => match k with
  | _ => ("", "", "", false)
def tyX4 : Nat → FieldType := fun k => match k with
  | _ => .int
abbrev wsX40 : List Cond := u_ws RX4 TX4 0
theorem nmX4 : ∀ a, a < 0 → ∀ b, b < 0 → a ≠ b → (TX4 a).2.1 ≠ (TX4 b).2.1 := by decide +kernel
theorem tyX4_ok : ∀ k, k < 0 → parseFieldDescriptor (TX4 k).2.2.1 = some (tyX4 k) := by decide +kernel
abbrev cX4_init : ByteArray := prog_6_method_1_code
def yX4_init : MethodName := ⟨RX4, "<init>", "()V"⟩
abbrev cX4_slip : ByteArray := prog_6_method_2_code
def yX4_slip : MethodName := ⟨RX4, "slip", "(I)I"⟩
abbrev cX4_minutes : ByteArray := prog_6_method_3_code
def yX4_minutes : MethodName := ⟨RX4, "minutes", "()I"⟩
abbrev cX4_oddsOff : ByteArray := prog_6_method_4_code
def yX4_oddsOff : MethodName := ⟨RX4, "oddsOff", "(I)I"⟩
def RX5 : String := "ThriceCounted$Reader"
def TX5 : u_T := fun k => match k with
  | 0 => ("ThriceCounted$Reader", "draft", "LThriceCounted$Bank;", true)
  | 1 => ("ThriceCounted$Reader", "text", "[B", false)
  | 2 => ("ThriceCounted$Reader", "length", "I", false)
  | 3 => ("ThriceCounted$Reader", "place", "I", false)
  | 4 => ("ThriceCounted$Reader", "kind", "I", false)
  | 5 => ("ThriceCounted$Reader", "start", "I", false)
  | 6 => ("ThriceCounted$Reader", "value", "I", false)
  | 7 => ("ThriceCounted$Reader", "items", "I", false)
  | _ => ("ThriceCounted$Reader", "faulty", "Z", false)
def tyX5 : Nat → FieldType := fun k => match k with
  | 0 => .object "ThriceCounted$Bank"
  | 1 => .array .byte
  | 2 => .int
  | 3 => .int
  | 4 => .int
  | 5 => .int
  | 6 => .int
  | 7 => .int
  | _ => .boolean
abbrev wsX50 : List Cond := u_ws RX5 TX5 9
theorem nmX5 : ∀ a, a < 9 → ∀ b, b < 9 → a ≠ b → (TX5 a).2.1 ≠ (TX5 b).2.1 := by decide +kernel
theorem tyX5_ok : ∀ k, k < 9 → parseFieldDescriptor (TX5 k).2.2.1 = some (tyX5 k) := by decide +kernel
abbrev cX5_init : ByteArray := prog_7_method_1_code
def yX5_init : MethodName := ⟨RX5, "<init>", "()V"⟩
abbrev cX5_fault : ByteArray := prog_7_method_2_code
def yX5_fault : MethodName := ⟨RX5, "fault", "()I"⟩
abbrev cX5_items : ByteArray := prog_7_method_3_code
def yX5_items : MethodName := ⟨RX5, "items", "()I"⟩
abbrev cX5_parse : ByteArray := prog_7_method_4_code
def yX5_parse : MethodName := ⟨RX5, "parse", "([BI)Z"⟩
abbrev cX5_endItem : ByteArray := prog_7_method_5_code
def yX5_endItem : MethodName := ⟨RX5, "endItem", "()Z"⟩
abbrev cX5_item : ByteArray := prog_7_method_6_code
def yX5_item : MethodName := ⟨RX5, "item", "()Z"⟩
abbrev cX5_clerkItem : ByteArray := prog_7_method_7_code
def yX5_clerkItem : MethodName := ⟨RX5, "clerkItem", "()Z"⟩
abbrev cX5_bundleItem : ByteArray := prog_7_method_8_code
def yX5_bundleItem : MethodName := ⟨RX5, "bundleItem", "()Z"⟩
abbrev cX5_bandItem : ByteArray := prog_7_method_9_code
def yX5_bandItem : MethodName := ⟨RX5, "bandItem", "()Z"⟩
abbrev cX5_countItem : ByteArray := prog_7_method_10_code
def yX5_countItem : MethodName := ⟨RX5, "countItem", "()Z"⟩
abbrev cX5_number : ByteArray := prog_7_method_11_code
def yX5_number : MethodName := ⟨RX5, "number", "(II)I"⟩
abbrev cX5_isWord : ByteArray := prog_7_method_12_code
def yX5_isWord : MethodName := ⟨RX5, "isWord", "(Ljava/lang/String;)Z"⟩
abbrev cX5_at : ByteArray := prog_7_method_13_code
def yX5_at : MethodName := ⟨RX5, "at", "(I)I"⟩
abbrev cX5_isLetter : ByteArray := prog_7_method_14_code
def yX5_isLetter : MethodName := ⟨RX5, "isLetter", "(I)Z"⟩
abbrev cX5_isFigure : ByteArray := prog_7_method_15_code
def yX5_isFigure : MethodName := ⟨RX5, "isFigure", "(I)Z"⟩
abbrev cX5_step : ByteArray := prog_7_method_16_code
def yX5_step : MethodName := ⟨RX5, "step", "()V"⟩
abbrev cX5_stepOverWord : ByteArray := prog_7_method_17_code
def yX5_stepOverWord : MethodName := ⟨RX5, "stepOverWord", "()V"⟩
abbrev cX5_stepOverNumber : ByteArray := prog_7_method_18_code
def yX5_stepOverNumber : MethodName := ⟨RX5, "stepOverNumber", "()V"⟩
def RX6 : String := "ThriceCounted$Rows"
def TX6 : u_T := fun k => match k with
  | 0 => ("ThriceCounted$Rows", "width", "I", true)
  | 1 => ("ThriceCounted$Rows", "limit", "I", true)
  | 2 => ("ThriceCounted$Rows", "cells", "[I", true)
  | _ => ("ThriceCounted$Rows", "size", "I", false)
def tyX6 : Nat → FieldType := fun k => match k with
  | 0 => .int
  | 1 => .int
  | 2 => .array .int
  | _ => .int
abbrev wsX60 : List Cond := u_ws RX6 TX6 4
theorem nmX6 : ∀ a, a < 4 → ∀ b, b < 4 → a ≠ b → (TX6 a).2.1 ≠ (TX6 b).2.1 := by decide +kernel
theorem tyX6_ok : ∀ k, k < 4 → parseFieldDescriptor (TX6 k).2.2.1 = some (tyX6 k) := by decide +kernel
abbrev cX6_init : ByteArray := prog_8_method_1_code
def yX6_init : MethodName := ⟨RX6, "<init>", "(II)V"⟩
abbrev cX6_size : ByteArray := prog_8_method_2_code
def yX6_size : MethodName := ⟨RX6, "size", "()I"⟩
abbrev cX6_isFull : ByteArray := prog_8_method_3_code
def yX6_isFull : MethodName := ⟨RX6, "isFull", "()Z"⟩
abbrev cX6_has : ByteArray := prog_8_method_4_code
def yX6_has : MethodName := ⟨RX6, "has", "(I)Z"⟩
abbrev cX6_hasCell : ByteArray := prog_8_method_5_code
def yX6_hasCell : MethodName := ⟨RX6, "hasCell", "(II)Z"⟩
abbrev cX6_get : ByteArray := prog_8_method_6_code
def yX6_get : MethodName := ⟨RX6, "get", "(II)I"⟩
abbrev cX6_put : ByteArray := prog_8_method_7_code
def yX6_put : MethodName := ⟨RX6, "put", "(III)V"⟩
abbrev cX6_grow : ByteArray := prog_8_method_8_code
def yX6_grow : MethodName := ⟨RX6, "grow", "()I"⟩
abbrev cX6_remove : ByteArray := prog_8_method_9_code
def yX6_remove : MethodName := ⟨RX6, "remove", "(I)V"⟩
abbrev cX6_empty : ByteArray := prog_8_method_10_code
def yX6_empty : MethodName := ⟨RX6, "empty", "()V"⟩
abbrev cX6_copyFrom : ByteArray := prog_8_method_11_code
def yX6_copyFrom : MethodName := ⟨RX6, "copyFrom", "(LThriceCounted$Rows;)V"⟩
abbrev cX6_mixInto : ByteArray := prog_8_method_12_code
def yX6_mixInto : MethodName := ⟨RX6, "mixInto", "(J)J"⟩
def RX7 : String := "ThriceCounted$Scale"
def TX7 : u_T := fun k => match k with
  | 0 => ("ThriceCounted$Scale", "weights", "[J", true)
  | _ => ("ThriceCounted$Scale", "chances", "[I", true)
def tyX7 : Nat → FieldType := fun k => match k with
  | 0 => .array .long
  | _ => .array .int
abbrev wsX70 : List Cond := u_ws RX7 TX7 2
theorem nmX7 : ∀ a, a < 2 → ∀ b, b < 2 → a ≠ b → (TX7 a).2.1 ≠ (TX7 b).2.1 := by decide +kernel
theorem tyX7_ok : ∀ k, k < 2 → parseFieldDescriptor (TX7 k).2.2.1 = some (tyX7 k) := by decide +kernel
abbrev cX7_init : ByteArray := prog_9_method_1_code
def yX7_init : MethodName := ⟨RX7, "<init>", "()V"⟩
abbrev cX7_weigh : ByteArray := prog_9_method_2_code
def yX7_weigh : MethodName := ⟨RX7, "weigh", "(LThriceCounted$Bank;I[LThriceCounted$Ones;)V"⟩
abbrev cX7_firstWeight : ByteArray := prog_9_method_3_code
def yX7_firstWeight : MethodName := ⟨RX7, "firstWeight", "(LThriceCounted$Bank;II)J"⟩
abbrev cX7_addCounts : ByteArray := prog_9_method_4_code
def yX7_addCounts : MethodName := ⟨RX7, "addCounts", "(LThriceCounted$Ones;II)V"⟩
abbrev cX7_weightOf : ByteArray := prog_9_method_5_code
def yX7_weightOf : MethodName := ⟨RX7, "weightOf", "(I)J"⟩
abbrev cX7_total : ByteArray := prog_9_method_6_code
def yX7_total : MethodName := ⟨RX7, "total", "()J"⟩
abbrev cX7_heaviest : ByteArray := prog_9_method_7_code
def yX7_heaviest : MethodName := ⟨RX7, "heaviest", "()I"⟩
abbrev cX7_possible : ByteArray := prog_9_method_8_code
def yX7_possible : MethodName := ⟨RX7, "possible", "()I"⟩
def RX8 : String := "ThriceCounted$Skipped"
def TX8 : u_T := fun k => match k with
  | _ => ("", "", "", false)
def tyX8 : Nat → FieldType := fun k => match k with
  | _ => .int
abbrev wsX80 : List Cond := u_ws RX8 TX8 0
theorem nmX8 : ∀ a, a < 0 → ∀ b, b < 0 → a ≠ b → (TX8 a).2.1 ≠ (TX8 b).2.1 := by decide +kernel
theorem tyX8_ok : ∀ k, k < 0 → parseFieldDescriptor (TX8 k).2.2.1 = some (tyX8 k) := by decide +kernel
abbrev cX8_init : ByteArray := prog_10_method_1_code
def yX8_init : MethodName := ⟨RX8, "<init>", "()V"⟩
abbrev cX8_slip : ByteArray := prog_10_method_2_code
def yX8_slip : MethodName := ⟨RX8, "slip", "(I)I"⟩
def RX9 : String := "ThriceCounted$Talked"
def TX9 : u_T := fun k => match k with
  | _ => ("", "", "", false)
def tyX9 : Nat → FieldType := fun k => match k with
  | _ => .int
abbrev wsX90 : List Cond := u_ws RX9 TX9 0
theorem nmX9 : ∀ a, a < 0 → ∀ b, b < 0 → a ≠ b → (TX9 a).2.1 ≠ (TX9 b).2.1 := by decide +kernel
theorem tyX9_ok : ∀ k, k < 0 → parseFieldDescriptor (TX9 k).2.2.1 = some (tyX9 k) := by decide +kernel
abbrev cX9_init : ByteArray := prog_11_method_1_code
def yX9_init : MethodName := ⟨RX9, "<init>", "()V"⟩
abbrev cX9_slip : ByteArray := prog_11_method_2_code
def yX9_slip : MethodName := ⟨RX9, "slip", "(I)I"⟩
abbrev cX9_minutes : ByteArray := prog_11_method_3_code
def yX9_minutes : MethodName := ⟨RX9, "minutes", "()I"⟩
def RX10 : String := "ThriceCounted$Weighed"
def TX10 : u_T := fun k => match k with
  | _ => ("", "", "", false)
def tyX10 : Nat → FieldType := fun k => match k with
  | _ => .int
abbrev wsX100 : List Cond := u_ws RX10 TX10 0
theorem nmX10 : ∀ a, a < 0 → ∀ b, b < 0 → a ≠ b → (TX10 a).2.1 ≠ (TX10 b).2.1 := by decide +kernel
theorem tyX10_ok : ∀ k, k < 0 → parseFieldDescriptor (TX10 k).2.2.1 = some (tyX10 k) := by decide +kernel
abbrev cX10_init : ByteArray := prog_12_method_1_code
def yX10_init : MethodName := ⟨RX10, "<init>", "()V"⟩
abbrev cX10_slip : ByteArray := prog_12_method_2_code
def yX10_slip : MethodName := ⟨RX10, "slip", "(I)I"⟩
abbrev cX10_minutes : ByteArray := prog_12_method_3_code
def yX10_minutes : MethodName := ⟨RX10, "minutes", "()I"⟩
def RX11 : String := "ThriceCounted"
def TX11 : u_T := fun k => match k with
  | 0 => ("ThriceCounted", "ways", "[LThriceCounted$Ones;", true)
  | 1 => ("ThriceCounted", "bank", "LThriceCounted$Bank;", true)
  | 2 => ("ThriceCounted", "images", "[LThriceCounted$Bank;", true)
  | 3 => ("ThriceCounted", "kept", "[Z", true)
  | 4 => ("ThriceCounted", "scale", "LThriceCounted$Scale;", true)
  | 5 => ("ThriceCounted", "reader", "LThriceCounted$Reader;", true)
  | 6 => ("ThriceCounted", "fraction", "LThriceCounted$Fraction;", true)
  | 7 => ("ThriceCounted", "text", "[B", true)
  | 8 => ("ThriceCounted", "typed", "I", false)
  | 9 => ("ThriceCounted", "refused", "[I", true)
  | 10 => ("ThriceCounted", "truths", "[I", true)
  | _ => ("ThriceCounted", "order", "[I", true)
def tyX11 : Nat → FieldType := fun k => match k with
  | 0 => .array (.object "ThriceCounted$Ones")
  | 1 => .object "ThriceCounted$Bank"
  | 2 => .array (.object "ThriceCounted$Bank")
  | 3 => .array .boolean
  | 4 => .object "ThriceCounted$Scale"
  | 5 => .object "ThriceCounted$Reader"
  | 6 => .object "ThriceCounted$Fraction"
  | 7 => .array .byte
  | 8 => .int
  | 9 => .array .int
  | 10 => .array .int
  | _ => .array .int
abbrev wsX110 : List Cond := u_ws RX11 TX11 12
theorem nmX11 : ∀ a, a < 12 → ∀ b, b < 12 → a ≠ b → (TX11 a).2.1 ≠ (TX11 b).2.1 := by decide +kernel
theorem tyX11_ok : ∀ k, k < 12 → parseFieldDescriptor (TX11 k).2.2.1 = some (tyX11 k) := by decide +kernel
abbrev cX11_init : ByteArray := prog_1_method_1_code
def yX11_init : MethodName := ⟨RX11, "<init>", "()V"⟩
abbrev cX11_bank : ByteArray := prog_1_method_2_code
def yX11_bank : MethodName := ⟨RX11, "bank", "()I"⟩
abbrev cX11_clerk : ByteArray := prog_1_method_3_code
def yX11_clerk : MethodName := ⟨RX11, "clerk", "(I)I"⟩
abbrev cX11_bundle : ByteArray := prog_1_method_4_code
def yX11_bundle : MethodName := ⟨RX11, "bundle", "(II)I"⟩
abbrev cX11_band : ByteArray := prog_1_method_5_code
def yX11_band : MethodName := ⟨RX11, "band", "(III)I"⟩
abbrev cX11_tell : ByteArray := prog_1_method_6_code
def yX11_tell : MethodName := ⟨RX11, "tell", "(IIII)I"⟩
abbrev cX11_back : ByteArray := prog_1_method_7_code
def yX11_back : MethodName := ⟨RX11, "back", "(I)I"⟩
abbrev cX11_undo : ByteArray := prog_1_method_8_code
def yX11_undo : MethodName := ⟨RX11, "undo", "()I"⟩
abbrev cX11_type : ByteArray := prog_1_method_9_code
def yX11_type : MethodName := ⟨RX11, "type", "(I)I"⟩
abbrev cX11_clear : ByteArray := prog_1_method_10_code
def yX11_clear : MethodName := ⟨RX11, "clear", "()I"⟩
abbrev cX11_read : ByteArray := prog_1_method_11_code
def yX11_read : MethodName := ⟨RX11, "read", "()I"⟩
abbrev cX11_way : ByteArray := prog_1_method_12_code
def yX11_way : MethodName := ⟨RX11, "way", "(II)I"⟩
abbrev cX11_odds : ByteArray := prog_1_method_13_code
def yX11_odds : MethodName := ⟨RX11, "odds", "(II)I"⟩
abbrev cX11_of : ByteArray := prog_1_method_14_code
def yX11_of : MethodName := ⟨RX11, "of", "(II)I"⟩
abbrev cX11_about : ByteArray := prog_1_method_15_code
def yX11_about : MethodName := ⟨RX11, "about", "(II)I"⟩
abbrev cX11_likely : ByteArray := prog_1_method_16_code
def yX11_likely : MethodName := ⟨RX11, "likely", "(II)I"⟩
abbrev cX11_truly : ByteArray := prog_1_method_17_code
def yX11_truly : MethodName := ⟨RX11, "truly", "(II)I"⟩
abbrev cX11_agreed : ByteArray := prog_1_method_18_code
def yX11_agreed : MethodName := ⟨RX11, "agreed", "(I)I"⟩
abbrev cX11_believe : ByteArray := prog_1_method_19_code
def yX11_believe : MethodName := ⟨RX11, "believe", "()I"⟩
abbrev cX11_wrong : ByteArray := prog_1_method_20_code
def yX11_wrong : MethodName := ⟨RX11, "wrong", "(I)I"⟩
abbrev cX11_enough : ByteArray := prog_1_method_21_code
def yX11_enough : MethodName := ⟨RX11, "enough", "(III)I"⟩
abbrev cX11_plan : ByteArray := prog_1_method_22_code
def yX11_plan : MethodName := ⟨RX11, "plan", "(II)I"⟩
abbrev cX11_open : ByteArray := prog_1_method_23_code
def yX11_open : MethodName := ⟨RX11, "open", "()I"⟩
abbrev cX11_sum : ByteArray := prog_1_method_24_code
def yX11_sum : MethodName := ⟨RX11, "sum", "()I"⟩
abbrev cX11_cause : ByteArray := prog_1_method_25_code
def yX11_cause : MethodName := ⟨RX11, "cause", "(IIII)I"⟩
abbrev cX11_forget : ByteArray := prog_1_method_26_code
def yX11_forget : MethodName := ⟨RX11, "forget", "()I"⟩
abbrev cX11_why : ByteArray := prog_1_method_27_code
def yX11_why : MethodName := ⟨RX11, "why", "(II)I"⟩
abbrev cX11_look : ByteArray := prog_1_method_28_code
def yX11_look : MethodName := ⟨RX11, "look", "(II)I"⟩
abbrev cX11_writeOff : ByteArray := prog_1_method_29_code
def yX11_writeOff : MethodName := ⟨RX11, "writeOff", "(II)I"⟩
abbrev cX11_drawn : ByteArray := prog_1_method_30_code
def yX11_drawn : MethodName := ⟨RX11, "drawn", "(IIIII)I"⟩
abbrev cX11_part : ByteArray := prog_1_method_31_code
def yX11_part : MethodName := ⟨RX11, "part", "(I)J"⟩
abbrev cX11_image : ByteArray := prog_1_method_32_code
def yX11_image : MethodName := ⟨RX11, "image", "(I)I"⟩
abbrev cX11_from : ByteArray := prog_1_method_33_code
def yX11_from : MethodName := ⟨RX11, "from", "(I)I"⟩
abbrev cX11_status : ByteArray := prog_1_method_34_code
def yX11_status : MethodName := ⟨RX11, "status", "(I)I"⟩
abbrev cX11_count : ByteArray := prog_1_method_35_code
def yX11_count : MethodName := ⟨RX11, "count", "(I)I"⟩
abbrev cX11_digest : ByteArray := prog_1_method_36_code
def yX11_digest : MethodName := ⟨RX11, "digest", "()J"⟩
abbrev cX11_refuse : ByteArray := prog_1_method_37_code
def yX11_refuse : MethodName := ⟨RX11, "refuse", "(I)I"⟩
abbrev cX11_refuseAs : ByteArray := prog_1_method_38_code
def yX11_refuseAs : MethodName := ⟨RX11, "refuseAs", "(II)I"⟩
abbrev cX11_within : ByteArray := prog_1_method_39_code
def yX11_within : MethodName := ⟨RX11, "within", "(III)Z"⟩
abbrev cX11_isWay : ByteArray := prog_1_method_40_code
def yX11_isWay : MethodName := ⟨RX11, "isWay", "(I)Z"⟩
abbrev cX11_isImage : ByteArray := prog_1_method_41_code
def yX11_isImage : MethodName := ⟨RX11, "isImage", "(I)Z"⟩
abbrev cX11_howMany : ByteArray := prog_1_method_42_code
def yX11_howMany : MethodName := ⟨RX11, "howMany", "(I)I"⟩
abbrev cX11_findTruths : ByteArray := prog_1_method_43_code
def yX11_findTruths : MethodName := ⟨RX11, "findTruths", "()V"⟩
abbrev cX11_rightLessWrong : ByteArray := prog_1_method_44_code
def yX11_rightLessWrong : MethodName := ⟨RX11, "rightLessWrong", "(I)I"⟩
abbrev cX11_canDo : ByteArray := prog_1_method_45_code
def yX11_canDo : MethodName := ⟨RX11, "canDo", "(II)Z"⟩
abbrev cX11_minutesOf : ByteArray := prog_1_method_46_code
def yX11_minutesOf : MethodName := ⟨RX11, "minutesOf", "(I)I"⟩
abbrev cX11_weighPlan : ByteArray := prog_1_method_47_code
def yX11_weighPlan : MethodName := ⟨RX11, "weighPlan", "(III)V"⟩
abbrev cX11_weighMore : ByteArray := prog_1_method_48_code
def yX11_weighMore : MethodName := ⟨RX11, "weighMore", "(III)V"⟩
abbrev cX11_offTogether : ByteArray := prog_1_method_49_code
def yX11_offTogether : MethodName := ⟨RX11, "offTogether", "(II)I"⟩
abbrev cX11_oddsTogether : ByteArray := prog_1_method_50_code
def yX11_oddsTogether : MethodName := ⟨RX11, "oddsTogether", "(II)I"⟩
abbrev cX11_listCauses : ByteArray := prog_1_method_51_code
def yX11_listCauses : MethodName := ⟨RX11, "listCauses", "(I)I"⟩
abbrev cX11_sortForSearch : ByteArray := prog_1_method_52_code
def yX11_sortForSearch : MethodName := ⟨RX11, "sortForSearch", "(I)V"⟩
abbrev cX11_standsAhead : ByteArray := prog_1_method_53_code
def yX11_standsAhead : MethodName := ⟨RX11, "standsAhead", "(III)Z"⟩
abbrev cX11_delay : ByteArray := prog_1_method_54_code
def yX11_delay : MethodName := ⟨RX11, "delay", "(II)I"⟩
abbrev cX11_timeSearch : ByteArray := prog_1_method_55_code
def yX11_timeSearch : MethodName := ⟨RX11, "timeSearch", "(I)V"⟩
def RX12 : String := "ThriceCountedModel"
def TX12 : u_T := fun k => match k with
  | 0 => ("ThriceCountedModel", "now", "[I", true)
  | 1 => ("ThriceCountedModel", "kept", "[I", true)
  | 2 => ("ThriceCountedModel", "isKept", "[Z", true)
  | 3 => ("ThriceCountedModel", "refused", "[I", true)
  | 4 => ("ThriceCountedModel", "above", "J", false)
  | 5 => ("ThriceCountedModel", "below", "J", false)
  | 6 => ("ThriceCountedModel", "weights", "[J", true)
  | 7 => ("ThriceCountedModel", "allWeights", "J", false)
  | 8 => ("ThriceCountedModel", "trulyIs", "I", false)
  | 9 => ("ThriceCountedModel", "canBe", "I", false)
  | 10 => ("ThriceCountedModel", "trulyThen", "J", false)
  | 11 => ("ThriceCountedModel", "allThen", "J", false)
  | 12 => ("ThriceCountedModel", "sought", "[I", true)
  | 13 => ("ThriceCountedModel", "order", "[I", true)
  | 14 => ("ThriceCountedModel", "bestOrder", "[I", true)
  | 15 => ("ThriceCountedModel", "soughtMany", "I", false)
  | 16 => ("ThriceCountedModel", "bytes", "[I", true)
  | 17 => ("ThriceCountedModel", "bytesLong", "I", false)
  | 18 => ("ThriceCountedModel", "tokenAt", "I", false)
  | 19 => ("ThriceCountedModel", "tokenLong", "I", false)
  | 20 => ("ThriceCountedModel", "token", "I", false)
  | 21 => ("ThriceCountedModel", "value", "I", false)
  | 22 => ("ThriceCountedModel", "next", "[I", true)
  | _ => ("ThriceCountedModel", "values", "[I", true)
def tyX12 : Nat → FieldType := fun k => match k with
  | 0 => .array .int
  | 1 => .array .int
  | 2 => .array .boolean
  | 3 => .array .int
  | 4 => .long
  | 5 => .long
  | 6 => .array .long
  | 7 => .long
  | 8 => .int
  | 9 => .int
  | 10 => .long
  | 11 => .long
  | 12 => .array .int
  | 13 => .array .int
  | 14 => .array .int
  | 15 => .int
  | 16 => .array .int
  | 17 => .int
  | 18 => .int
  | 19 => .int
  | 20 => .int
  | 21 => .int
  | 22 => .array .int
  | _ => .array .int
abbrev wsX120 : List Cond := u_ws RX12 TX12 24
theorem nmX12 : ∀ a, a < 24 → ∀ b, b < 24 → a ≠ b → (TX12 a).2.1 ≠ (TX12 b).2.1 := by decide +kernel
theorem tyX12_ok : ∀ k, k < 24 → parseFieldDescriptor (TX12 k).2.2.1 = some (tyX12 k) := by decide +kernel
abbrev cX12_init : ByteArray := prog_14_method_1_code
def yX12_init : MethodName := ⟨RX12, "<init>", "()V"⟩
abbrev cX12_in : ByteArray := prog_14_method_3_code
def yX12_in : MethodName := ⟨RX12, "in", "(JJJ)Z"⟩
abbrev cX12_bad : ByteArray := prog_14_method_4_code
def yX12_bad : MethodName := ⟨RX12, "bad", "(I)I"⟩
abbrev cX12_no : ByteArray := prog_14_method_5_code
def yX12_no : MethodName := ⟨RX12, "no", "()I"⟩
abbrev cX12_full : ByteArray := prog_14_method_6_code
def yX12_full : MethodName := ⟨RX12, "full", "()I"⟩
abbrev cX12_begin : ByteArray := prog_14_method_7_code
def yX12_begin : MethodName := ⟨RX12, "begin", "([I)V"⟩
abbrev cX12_isClerk : ByteArray := prog_14_method_8_code
def yX12_isClerk : MethodName := ⟨RX12, "isClerk", "(I)Z"⟩
abbrev cX12_isBundle : ByteArray := prog_14_method_9_code
def yX12_isBundle : MethodName := ⟨RX12, "isBundle", "(I)Z"⟩
abbrev cX12_isCount : ByteArray := prog_14_method_10_code
def yX12_isCount : MethodName := ⟨RX12, "isCount", "(I)Z"⟩
abbrev cX12_isWay : ByteArray := prog_14_method_11_code
def yX12_isWay : MethodName := ⟨RX12, "isWay", "(I)Z"⟩
abbrev cX12_bundleHas : ByteArray := prog_14_method_12_code
def yX12_bundleHas : MethodName := ⟨RX12, "bundleHas", "(II)I"⟩
abbrev cX12_countHas : ByteArray := prog_14_method_13_code
def yX12_countHas : MethodName := ⟨RX12, "countHas", "(II)I"⟩
abbrev cX12_causeHas : ByteArray := prog_14_method_14_code
def yX12_causeHas : MethodName := ⟨RX12, "causeHas", "(II)I"⟩
abbrev cX12_bank : ByteArray := prog_14_method_15_code
def yX12_bank : MethodName := ⟨RX12, "bank", "()I"⟩
abbrev cX12_layClerk : ByteArray := prog_14_method_16_code
def yX12_layClerk : MethodName := ⟨RX12, "layClerk", "([II)V"⟩
abbrev cX12_clerk : ByteArray := prog_14_method_17_code
def yX12_clerk : MethodName := ⟨RX12, "clerk", "(I)I"⟩
abbrev cX12_layBundle : ByteArray := prog_14_method_18_code
def yX12_layBundle : MethodName := ⟨RX12, "layBundle", "([III)V"⟩
abbrev cX12_bundle : ByteArray := prog_14_method_19_code
def yX12_bundle : MethodName := ⟨RX12, "bundle", "(II)I"⟩
abbrev cX12_layBand : ByteArray := prog_14_method_20_code
def yX12_layBand : MethodName := ⟨RX12, "layBand", "([IIII)V"⟩
abbrev cX12_band : ByteArray := prog_14_method_21_code
def yX12_band : MethodName := ⟨RX12, "band", "(III)I"⟩
abbrev cX12_layCount : ByteArray := prog_14_method_22_code
def yX12_layCount : MethodName := ⟨RX12, "layCount", "([IIIII)V"⟩
abbrev cX12_keep : ByteArray := prog_14_method_23_code
def yX12_keep : MethodName := ⟨RX12, "keep", "()V"⟩
abbrev cX12_tell : ByteArray := prog_14_method_24_code
def yX12_tell : MethodName := ⟨RX12, "tell", "(IIII)I"⟩
abbrev cX12_back : ByteArray := prog_14_method_25_code
def yX12_back : MethodName := ⟨RX12, "back", "(I)I"⟩
abbrev cX12_undo : ByteArray := prog_14_method_26_code
def yX12_undo : MethodName := ⟨RX12, "undo", "()I"⟩
abbrev cX12_offByOnes : ByteArray := prog_14_method_27_code
def yX12_offByOnes : MethodName := ⟨RX12, "offByOnes", "(I)I"⟩
abbrev cX12_offByWeight : ByteArray := prog_14_method_28_code
def yX12_offByWeight : MethodName := ⟨RX12, "offByWeight", "(I)I"⟩
abbrev cX12_offBy : ByteArray := prog_14_method_29_code
def yX12_offBy : MethodName := ⟨RX12, "offBy", "(II)I"⟩
abbrev cX12_minutesOf : ByteArray := prog_14_method_30_code
def yX12_minutesOf : MethodName := ⟨RX12, "minutesOf", "(I)I"⟩
abbrev cX12_oddsOf : ByteArray := prog_14_method_31_code
def yX12_oddsOf : MethodName := ⟨RX12, "oddsOf", "(II)I"⟩
abbrev cX12_way : ByteArray := prog_14_method_32_code
def yX12_way : MethodName := ⟨RX12, "way", "(II)I"⟩
abbrev cX12_odds : ByteArray := prog_14_method_33_code
def yX12_odds : MethodName := ⟨RX12, "odds", "(II)I"⟩
abbrev cX12_of : ByteArray := prog_14_method_34_code
def yX12_of : MethodName := ⟨RX12, "of", "(II)I"⟩
abbrev cX12_about : ByteArray := prog_14_method_35_code
def yX12_about : MethodName := ⟨RX12, "about", "(II)I"⟩
abbrev cX12_fraction : ByteArray := prog_14_method_36_code
def yX12_fraction : MethodName := ⟨RX12, "fraction", "(JJ)V"⟩
abbrev cX12_weight : ByteArray := prog_14_method_37_code
def yX12_weight : MethodName := ⟨RX12, "weight", "(II)J"⟩
abbrev cX12_weigh : ByteArray := prog_14_method_38_code
def yX12_weigh : MethodName := ⟨RX12, "weigh", "(I)V"⟩
abbrev cX12_likely : ByteArray := prog_14_method_39_code
def yX12_likely : MethodName := ⟨RX12, "likely", "(II)I"⟩
abbrev cX12_truly : ByteArray := prog_14_method_40_code
def yX12_truly : MethodName := ⟨RX12, "truly", "(II)I"⟩
abbrev cX12_agreed : ByteArray := prog_14_method_41_code
def yX12_agreed : MethodName := ⟨RX12, "agreed", "(I)I"⟩
abbrev cX12_scoreOf : ByteArray := prog_14_method_42_code
def yX12_scoreOf : MethodName := ⟨RX12, "scoreOf", "(I)I"⟩
abbrev cX12_believe : ByteArray := prog_14_method_43_code
def yX12_believe : MethodName := ⟨RX12, "believe", "()I"⟩
abbrev cX12_wrong : ByteArray := prog_14_method_44_code
def yX12_wrong : MethodName := ⟨RX12, "wrong", "(I)I"⟩
abbrev cX12_weighThen : ByteArray := prog_14_method_45_code
def yX12_weighThen : MethodName := ⟨RX12, "weighThen", "(III)V"⟩
abbrev cX12_times : ByteArray := prog_14_method_46_code
def yX12_times : MethodName := ⟨RX12, "times", "(JII)J"⟩
abbrev cX12_isSure : ByteArray := prog_14_method_47_code
def yX12_isSure : MethodName := ⟨RX12, "isSure", "(III)Z"⟩
abbrev cX12_enough : ByteArray := prog_14_method_48_code
def yX12_enough : MethodName := ⟨RX12, "enough", "(III)I"⟩
abbrev cX12_isMore : ByteArray := prog_14_method_49_code
def yX12_isMore : MethodName := ⟨RX12, "isMore", "(JJJJ)Z"⟩
abbrev cX12_plan : ByteArray := prog_14_method_50_code
def yX12_plan : MethodName := ⟨RX12, "plan", "(II)I"⟩
abbrev cX12_open : ByteArray := prog_14_method_51_code
def yX12_open : MethodName := ⟨RX12, "open", "()I"⟩
abbrev cX12_sum : ByteArray := prog_14_method_52_code
def yX12_sum : MethodName := ⟨RX12, "sum", "()I"⟩
abbrev cX12_cause : ByteArray := prog_14_method_53_code
def yX12_cause : MethodName := ⟨RX12, "cause", "(IIII)I"⟩
abbrev cX12_forget : ByteArray := prog_14_method_54_code
def yX12_forget : MethodName := ⟨RX12, "forget", "()I"⟩
abbrev cX12_isOff : ByteArray := prog_14_method_55_code
def yX12_isOff : MethodName := ⟨RX12, "isOff", "(I)Z"⟩
abbrev cX12_why : ByteArray := prog_14_method_56_code
def yX12_why : MethodName := ⟨RX12, "why", "(II)I"⟩
abbrev cX12_laySought : ByteArray := prog_14_method_57_code
def yX12_laySought : MethodName := ⟨RX12, "laySought", "(I)V"⟩
abbrev cX12_allOdds : ByteArray := prog_14_method_58_code
def yX12_allOdds : MethodName := ⟨RX12, "allOdds", "()I"⟩
abbrev cX12_meanOf : ByteArray := prog_14_method_59_code
def yX12_meanOf : MethodName := ⟨RX12, "meanOf", "()J"⟩
abbrev cX12_nextOrder : ByteArray := prog_14_method_60_code
def yX12_nextOrder : MethodName := ⟨RX12, "nextOrder", "()Z"⟩
abbrev cX12_look : ByteArray := prog_14_method_61_code
def yX12_look : MethodName := ⟨RX12, "look", "(II)I"⟩
abbrev cX12_writeOff : ByteArray := prog_14_method_62_code
def yX12_writeOff : MethodName := ⟨RX12, "writeOff", "(II)I"⟩
abbrev cX12_drawn : ByteArray := prog_14_method_63_code
def yX12_drawn : MethodName := ⟨RX12, "drawn", "(IIIII)I"⟩
abbrev cX12_type : ByteArray := prog_14_method_64_code
def yX12_type : MethodName := ⟨RX12, "type", "(I)I"⟩
abbrev cX12_clear : ByteArray := prog_14_method_65_code
def yX12_clear : MethodName := ⟨RX12, "clear", "()I"⟩
abbrev cX12_isSmall : ByteArray := prog_14_method_66_code
def yX12_isSmall : MethodName := ⟨RX12, "isSmall", "(I)Z"⟩
abbrev cX12_isFigure : ByteArray := prog_14_method_67_code
def yX12_isFigure : MethodName := ⟨RX12, "isFigure", "(I)Z"⟩
abbrev cX12_lookAt : ByteArray := prog_14_method_68_code
def yX12_lookAt : MethodName := ⟨RX12, "lookAt", "(I)V"⟩
abbrev cX12_goOn : ByteArray := prog_14_method_69_code
def yX12_goOn : MethodName := ⟨RX12, "goOn", "()V"⟩
abbrev cX12_isCalled : ByteArray := prog_14_method_70_code
def yX12_isCalled : MethodName := ⟨RX12, "isCalled", "(IIIIIII)Z"⟩
abbrev cX12_takes : ByteArray := prog_14_method_71_code
def yX12_takes : MethodName := ⟨RX12, "takes", "(III)Z"⟩
abbrev cX12_readsFirst : ByteArray := prog_14_method_72_code
def yX12_readsFirst : MethodName := ⟨RX12, "readsFirst", "()Z"⟩
abbrev cX12_readsClerk : ByteArray := prog_14_method_73_code
def yX12_readsClerk : MethodName := ⟨RX12, "readsClerk", "()Z"⟩
abbrev cX12_readsBundle : ByteArray := prog_14_method_74_code
def yX12_readsBundle : MethodName := ⟨RX12, "readsBundle", "()Z"⟩
abbrev cX12_readsBand : ByteArray := prog_14_method_75_code
def yX12_readsBand : MethodName := ⟨RX12, "readsBand", "()Z"⟩
abbrev cX12_readsCount : ByteArray := prog_14_method_76_code
def yX12_readsCount : MethodName := ⟨RX12, "readsCount", "()Z"⟩
abbrev cX12_readsItem : ByteArray := prog_14_method_77_code
def yX12_readsItem : MethodName := ⟨RX12, "readsItem", "()Z"⟩
abbrev cX12_read : ByteArray := prog_14_method_78_code
def yX12_read : MethodName := ⟨RX12, "read", "()I"⟩
abbrev cX12_part : ByteArray := prog_14_method_79_code
def yX12_part : MethodName := ⟨RX12, "part", "(I)J"⟩
abbrev cX12_image : ByteArray := prog_14_method_80_code
def yX12_image : MethodName := ⟨RX12, "image", "(I)I"⟩
abbrev cX12_from : ByteArray := prog_14_method_81_code
def yX12_from : MethodName := ⟨RX12, "from", "(I)I"⟩
abbrev cX12_status : ByteArray := prog_14_method_82_code
def yX12_status : MethodName := ⟨RX12, "status", "(I)I"⟩
abbrev cX12_counted : ByteArray := prog_14_method_83_code
def yX12_counted : MethodName := ⟨RX12, "counted", "(I)I"⟩
abbrev cX12_count : ByteArray := prog_14_method_84_code
def yX12_count : MethodName := ⟨RX12, "count", "(I)I"⟩
abbrev cX12_sums : ByteArray := prog_14_method_85_code
def yX12_sums : MethodName := ⟨RX12, "sums", "(JII)J"⟩
abbrev cX12_digest : ByteArray := prog_14_method_86_code
def yX12_digest : MethodName := ⟨RX12, "digest", "()J"⟩
def RJ9 : String := "java/lang/Math"
def TJ9 : u_T := fun k => match k with
  | _ => ("", "", "", false)
def tyJ9 : Nat → FieldType := fun k => match k with
  | _ => .int
abbrev wsJ90 : List Cond := u_ws RJ9 TJ9 0
theorem nmJ9 : ∀ a, a < 0 → ∀ b, b < 0 → a ≠ b → (TJ9 a).2.1 ≠ (TJ9 b).2.1 := by decide +kernel
theorem tyJ9_ok : ∀ k, k < 0 → parseFieldDescriptor (TJ9 k).2.2.1 = some (tyJ9 k) := by decide +kernel
abbrev cJ9_abs_0f7a4 : ByteArray := prog_15_method_59_code
def yJ9_abs_0f7a4 : MethodName := ⟨RJ9, "abs", "(I)I"⟩
abbrev cJ9_max_7cf53 : ByteArray := prog_15_method_65_code
def yJ9_max_7cf53 : MethodName := ⟨RJ9, "max", "(II)I"⟩
abbrev cJ9_min_7cf53 : ByteArray := prog_15_method_69_code
def yJ9_min_7cf53 : MethodName := ⟨RJ9, "min", "(II)I"⟩
def RJ0 : String := "java/lang/String"
def TJ0 : u_T := fun k => match k with
  | _ => ("", "", "", false)
def tyJ0 : Nat → FieldType := fun k => match k with
  | _ => .int
abbrev wsJ00 : List Cond := u_ws RJ0 TJ0 0
theorem nmJ0 : ∀ a, a < 0 → ∀ b, b < 0 → a ≠ b → (TJ0 a).2.1 ≠ (TJ0 b).2.1 := by decide +kernel
theorem tyJ0_ok : ∀ k, k < 0 → parseFieldDescriptor (TJ0 k).2.2.1 = some (tyJ0 k) := by decide +kernel
abbrev cJ0_length_8abf5 : ByteArray := prog_16_method_54_code
def yJ0_length_8abf5 : MethodName := ⟨RJ0, "length", "()I"⟩
abbrev cJ0_charAt_5068e : ByteArray := prog_16_method_56_code
def yJ0_charAt_5068e : MethodName := ⟨RJ0, "charAt", "(I)C"⟩
abbrev cJ0_coder_7d493 : ByteArray := prog_16_method_152_code
def yJ0_coder_7d493 : MethodName := ⟨RJ0, "coder", "()B"⟩
abbrev cJ0_isLatin1_aae02 : ByteArray := prog_16_method_154_code
def yJ0_isLatin1_aae02 : MethodName := ⟨RJ0, "isLatin1", "()Z"⟩
abbrev cJ0_checkIndex_df160 : ByteArray := prog_16_method_155_code
def yJ0_checkIndex_df160 : MethodName := ⟨RJ0, "checkIndex", "(II)V"⟩
def RJ1 : String := "java/lang/StringLatin1"
def TJ1 : u_T := fun k => match k with
  | _ => ("", "", "", false)
def tyJ1 : Nat → FieldType := fun k => match k with
  | _ => .int
abbrev wsJ10 : List Cond := u_ws RJ1 TJ1 0
theorem nmJ1 : ∀ a, a < 0 → ∀ b, b < 0 → a ≠ b → (TJ1 a).2.1 ≠ (TJ1 b).2.1 := by decide +kernel
theorem tyJ1_ok : ∀ k, k < 0 → parseFieldDescriptor (TJ1 k).2.2.1 = some (tyJ1 k) := by decide +kernel
abbrev cJ1_charAt_3b067 : ByteArray := prog_17_method_2_code
def yJ1_charAt_3b067 : MethodName := ⟨RJ1, "charAt", "([BI)C"⟩
def RJ2 : String := "java/lang/StringUTF16"
def TJ2 : u_T := fun k => match k with
  | _ => ("", "", "", false)
def tyJ2 : Nat → FieldType := fun k => match k with
  | _ => .int
abbrev wsJ20 : List Cond := u_ws RJ2 TJ2 0
theorem nmJ2 : ∀ a, a < 0 → ∀ b, b < 0 → a ≠ b → (TJ2 a).2.1 ≠ (TJ2 b).2.1 := by decide +kernel
theorem tyJ2_ok : ∀ k, k < 0 → parseFieldDescriptor (TJ2 k).2.2.1 = some (tyJ2 k) := by decide +kernel
abbrev cJ2_getChar_3b067 : ByteArray := prog_18_method_5_code
def yJ2_getChar_3b067 : MethodName := ⟨RJ2, "getChar", "([BI)C"⟩
abbrev cJ2_length_9d52b : ByteArray := prog_18_method_6_code
def yJ2_length_9d52b : MethodName := ⟨RJ2, "length", "([B)I"⟩
abbrev cJ2_charAt_3b067 : ByteArray := prog_18_method_83_code
def yJ2_charAt_3b067 : MethodName := ⟨RJ2, "charAt", "([BI)C"⟩
abbrev cJ2_checkIndex_2214a : ByteArray := prog_18_method_91_code
def yJ2_checkIndex_2214a : MethodName := ⟨RJ2, "checkIndex", "(I[B)V"⟩
def RJ10 : String := "java/lang/System"
def TJ10 : u_T := fun k => match k with
  | _ => ("", "", "", false)
def tyJ10 : Nat → FieldType := fun k => match k with
  | _ => .int
abbrev wsJ100 : List Cond := u_ws RJ10 TJ10 0
theorem nmJ10 : ∀ a, a < 0 → ∀ b, b < 0 → a ≠ b → (TJ10 a).2.1 ≠ (TJ10 b).2.1 := by decide +kernel
theorem tyJ10_ok : ∀ k, k < 0 → parseFieldDescriptor (TJ10 k).2.2.1 = some (tyJ10 k) := by decide +kernel
def RJ3 : String := "jdk/internal/util/Preconditions"
def TJ3 : u_T := fun k => match k with
  | _ => ("", "", "", false)
def tyJ3 : Nat → FieldType := fun k => match k with
  | _ => .int
abbrev wsJ30 : List Cond := u_ws RJ3 TJ3 0
theorem nmJ3 : ∀ a, a < 0 → ∀ b, b < 0 → a ≠ b → (TJ3 a).2.1 ≠ (TJ3 b).2.1 := by decide +kernel
theorem tyJ3_ok : ∀ k, k < 0 → parseFieldDescriptor (TJ3 k).2.2.1 = some (tyJ3 k) := by decide +kernel
abbrev cJ3_checkIndex_8e157 : ByteArray := prog_20_method_11_code
def yJ3_checkIndex_8e157 : MethodName := ⟨RJ3, "checkIndex", "(IILjava/util/function/BiFunction;)I"⟩
def RL : String := "ThriceCountedLaw"
abbrev cL_law : ByteArray := code
def yL_law : MethodName := ⟨RL, "law", "([I)Z"⟩
def wsX6_init : List Cond := .code yX6_init cX6_init 3 none :: ([.methodLink RX6 3 objectInit, .instanceMethod objectInit, .code objectInit ⟨#[0xb1]⟩ 1 none, .fieldLink RX6 9 "ThriceCounted$Rows" "size" "I", .methodLink RX6 15 Lib.Math.max.name, .static Lib.Math.max.name, .initialized "java/lang/Math", .code Lib.Math.max.name Lib.Math.max.code 2 (some .int), .fieldLink RX6 21 "ThriceCounted$Rows" "limit" "I", .fieldLink RX6 24 "ThriceCounted$Rows" "width" "I", .arrayClass .int, .fieldLink RX6 27 "ThriceCounted$Rows" "cells" "[I"] ++ wsX60)
def wsX0_init_r1 : List Cond := [Cond.methodLink RX0 3 objectInit, Cond.instanceMethod objectInit, Cond.code objectInit ⟨#[0xb1]⟩ 1 none, Cond.classLink RX0 9 RX6, Cond.instantiable RX6 4, Cond.initialized RX6, Cond.fieldLink RX0 14 "ThriceCounted$Bank" "clerks" "LThriceCounted$Rows;", Cond.fieldLink RX0 20 "ThriceCounted$Bank" "bundles" "LThriceCounted$Rows;", Cond.fieldLink RX0 23 "ThriceCounted$Bank" "counts" "LThriceCounted$Rows;", Cond.fieldLink RX0 26 "ThriceCounted$Bank" "causes" "LThriceCounted$Rows;", Cond.fieldLink RX0 29 "ThriceCounted$Bank" "earlier" "[LThriceCounted$Rows;", Cond.fieldLink RX0 33 "ThriceCounted$Bank" "undos" "I", Cond.methodLink RX0 11 yX6_init, Cond.instanceMethod yX6_init, Cond.code yX6_init cX6_init 3 none, Cond.methodLink RX6 3 objectInit, Cond.fieldLink RX6 9 "ThriceCounted$Rows" "size" "I", Cond.methodLink RX6 15 Lib.Math.max.name, Cond.static Lib.Math.max.name, Cond.initialized "java/lang/Math", Cond.code Lib.Math.max.name Lib.Math.max.code 2 (some .int), Cond.fieldLink RX6 21 "ThriceCounted$Rows" "limit" "I", Cond.fieldLink RX6 24 "ThriceCounted$Rows" "width" "I", Cond.arrayClass .int]
def wsX0_init_r2 : List Cond := [Cond.fieldLink RX6 27 "ThriceCounted$Rows" "cells" "[I"]
def wsX0_init : List Cond := .code yX0_init cX0_init 2 none :: ((wsX0_init_r1 ++ wsX0_init_r2) ++ wsX60 ++ wsX00)
def wsX0_undos : List Cond := .code yX0_undos cX0_undos 1 (some .int) :: ([.fieldLink RX0 33 "ThriceCounted$Bank" "undos" "I"] ++ wsX00)
def wsX6_empty : List Cond := .code yX6_empty cX6_empty 1 none :: ([.fieldLink RX6 9 "ThriceCounted$Rows" "size" "I"] ++ wsX60)
def wsX0_empty : List Cond := .code yX0_empty cX0_empty 1 none :: ([.fieldLink RX0 14 "ThriceCounted$Bank" "clerks" "LThriceCounted$Rows;", .fieldLink RX0 20 "ThriceCounted$Bank" "bundles" "LThriceCounted$Rows;", .fieldLink RX0 23 "ThriceCounted$Bank" "counts" "LThriceCounted$Rows;", .fieldLink RX0 26 "ThriceCounted$Bank" "causes" "LThriceCounted$Rows;", .fieldLink RX0 33 "ThriceCounted$Bank" "undos" "I", .methodLink RX0 37 yX6_empty, .instanceMethod yX6_empty, .selects RX6 yX6_empty yX6_empty, .initialized RX6, .code yX6_empty cX6_empty 1 none, .fieldLink RX6 9 "ThriceCounted$Rows" "size" "I"] ++ wsX00 ++ wsX60)
def wsX6_copyFrom : List Cond := .code yX6_copyFrom cX6_copyFrom 2 none :: ([.fieldLink RX6 21 "ThriceCounted$Rows" "limit" "I", .fieldLink RX6 9 "ThriceCounted$Rows" "size" "I", .methodLink RX6 50 Lib.Math.min.name, .static Lib.Math.min.name, .initialized "java/lang/Math", .code Lib.Math.min.name Lib.Math.min.code 2 (some .int), .fieldLink RX6 27 "ThriceCounted$Rows" "cells" "[I", .methodLink RX6 53 arraycopyName, .native arraycopyName, .static arraycopyName, .initialized "java/lang/System"] ++ wsX60)
def wsX0_copyFrom : List Cond := .code yX0_copyFrom cX0_copyFrom 3 none :: ([.fieldLink RX0 14 "ThriceCounted$Bank" "clerks" "LThriceCounted$Rows;", .fieldLink RX0 20 "ThriceCounted$Bank" "bundles" "LThriceCounted$Rows;", .fieldLink RX0 23 "ThriceCounted$Bank" "counts" "LThriceCounted$Rows;", .fieldLink RX0 26 "ThriceCounted$Bank" "causes" "LThriceCounted$Rows;", .fieldLink RX0 33 "ThriceCounted$Bank" "undos" "I", .fieldLink RX0 29 "ThriceCounted$Bank" "earlier" "[LThriceCounted$Rows;", .methodLink RX0 44 Lib.Math.min.name, .static Lib.Math.min.name, .initialized "java/lang/Math", .code Lib.Math.min.name Lib.Math.min.code 2 (some .int), .methodLink RX0 40 yX6_copyFrom, .instanceMethod yX6_copyFrom, .selects RX6 yX6_copyFrom yX6_copyFrom, .initialized RX6, .code yX6_copyFrom cX6_copyFrom 2 none, .fieldLink RX6 21 "ThriceCounted$Rows" "limit" "I", .fieldLink RX6 9 "ThriceCounted$Rows" "size" "I", .methodLink RX6 50 Lib.Math.min.name, .fieldLink RX6 27 "ThriceCounted$Rows" "cells" "[I", .methodLink RX6 53 arraycopyName, .native arraycopyName, .static arraycopyName, .initialized "java/lang/System"] ++ wsX00 ++ wsX60)
def wsX6_isFull : List Cond := .code yX6_isFull cX6_isFull 1 (some .boolean) :: ([.fieldLink RX6 9 "ThriceCounted$Rows" "size" "I", .fieldLink RX6 21 "ThriceCounted$Rows" "limit" "I"] ++ wsX60)
def wsX6_grow : List Cond := .code yX6_grow cX6_grow 1 (some .int) :: ([.fieldLink RX6 9 "ThriceCounted$Rows" "size" "I", .methodLink RX6 35 yX6_isFull, .instanceMethod yX6_isFull, .selects RX6 yX6_isFull yX6_isFull, .initialized RX6, .code yX6_isFull cX6_isFull 1 (some .boolean), .fieldLink RX6 21 "ThriceCounted$Rows" "limit" "I"] ++ wsX60)
def wsX6_hasCell : List Cond := .code yX6_hasCell cX6_hasCell 3 (some .boolean) :: ([.fieldLink RX6 9 "ThriceCounted$Rows" "size" "I", .fieldLink RX6 24 "ThriceCounted$Rows" "width" "I", .fieldLink RX6 27 "ThriceCounted$Rows" "cells" "[I"] ++ wsX60)
def wsX6_put : List Cond := .code yX6_put cX6_put 4 none :: ([.fieldLink RX6 27 "ThriceCounted$Rows" "cells" "[I", .fieldLink RX6 24 "ThriceCounted$Rows" "width" "I", .methodLink RX6 31 yX6_hasCell, .instanceMethod yX6_hasCell, .selects RX6 yX6_hasCell yX6_hasCell, .initialized RX6, .code yX6_hasCell cX6_hasCell 3 (some .boolean), .fieldLink RX6 9 "ThriceCounted$Rows" "size" "I"] ++ wsX60)
def wsX0_addClerk : List Cond := .code yX0_addClerk cX0_addClerk 3 (some .int) :: ([.fieldLink RX0 14 "ThriceCounted$Bank" "clerks" "LThriceCounted$Rows;", .methodLink RX0 50 yX6_grow, .instanceMethod yX6_grow, .selects RX6 yX6_grow yX6_grow, .initialized RX6, .code yX6_grow cX6_grow 1 (some .int), .fieldLink RX6 9 "ThriceCounted$Rows" "size" "I", .methodLink RX6 35 yX6_isFull, .instanceMethod yX6_isFull, .selects RX6 yX6_isFull yX6_isFull, .code yX6_isFull cX6_isFull 1 (some .boolean), .fieldLink RX6 21 "ThriceCounted$Rows" "limit" "I", .methodLink RX0 54 yX6_put, .instanceMethod yX6_put, .selects RX6 yX6_put yX6_put, .code yX6_put cX6_put 4 none, .fieldLink RX6 27 "ThriceCounted$Rows" "cells" "[I", .fieldLink RX6 24 "ThriceCounted$Rows" "width" "I", .methodLink RX6 31 yX6_hasCell, .instanceMethod yX6_hasCell, .selects RX6 yX6_hasCell yX6_hasCell, .code yX6_hasCell cX6_hasCell 3 (some .boolean)] ++ wsX00 ++ wsX60)
def wsX0_addBundle : List Cond := .code yX0_addBundle cX0_addBundle 4 (some .int) :: ([.fieldLink RX0 20 "ThriceCounted$Bank" "bundles" "LThriceCounted$Rows;", .methodLink RX0 50 yX6_grow, .instanceMethod yX6_grow, .selects RX6 yX6_grow yX6_grow, .initialized RX6, .code yX6_grow cX6_grow 1 (some .int), .fieldLink RX6 9 "ThriceCounted$Rows" "size" "I", .methodLink RX6 35 yX6_isFull, .instanceMethod yX6_isFull, .selects RX6 yX6_isFull yX6_isFull, .code yX6_isFull cX6_isFull 1 (some .boolean), .fieldLink RX6 21 "ThriceCounted$Rows" "limit" "I", .methodLink RX0 54 yX6_put, .instanceMethod yX6_put, .selects RX6 yX6_put yX6_put, .code yX6_put cX6_put 4 none, .fieldLink RX6 27 "ThriceCounted$Rows" "cells" "[I", .fieldLink RX6 24 "ThriceCounted$Rows" "width" "I", .methodLink RX6 31 yX6_hasCell, .instanceMethod yX6_hasCell, .selects RX6 yX6_hasCell yX6_hasCell, .code yX6_hasCell cX6_hasCell 3 (some .boolean)] ++ wsX00 ++ wsX60)
def wsX0_putBand : List Cond := .code yX0_putBand cX0_putBand 4 none :: ([.fieldLink RX0 20 "ThriceCounted$Bank" "bundles" "LThriceCounted$Rows;", .methodLink RX0 54 yX6_put, .instanceMethod yX6_put, .selects RX6 yX6_put yX6_put, .initialized RX6, .code yX6_put cX6_put 4 none, .fieldLink RX6 27 "ThriceCounted$Rows" "cells" "[I", .fieldLink RX6 24 "ThriceCounted$Rows" "width" "I", .methodLink RX6 31 yX6_hasCell, .instanceMethod yX6_hasCell, .selects RX6 yX6_hasCell yX6_hasCell, .code yX6_hasCell cX6_hasCell 3 (some .boolean), .fieldLink RX6 9 "ThriceCounted$Rows" "size" "I"] ++ wsX00 ++ wsX60)
def wsX0_addCount : List Cond := .code yX0_addCount cX0_addCount 6 (some .int) :: ([.fieldLink RX0 23 "ThriceCounted$Bank" "counts" "LThriceCounted$Rows;", .methodLink RX0 50 yX6_grow, .instanceMethod yX6_grow, .selects RX6 yX6_grow yX6_grow, .initialized RX6, .code yX6_grow cX6_grow 1 (some .int), .fieldLink RX6 9 "ThriceCounted$Rows" "size" "I", .methodLink RX6 35 yX6_isFull, .instanceMethod yX6_isFull, .selects RX6 yX6_isFull yX6_isFull, .code yX6_isFull cX6_isFull 1 (some .boolean), .fieldLink RX6 21 "ThriceCounted$Rows" "limit" "I", .methodLink RX0 54 yX6_put, .instanceMethod yX6_put, .selects RX6 yX6_put yX6_put, .code yX6_put cX6_put 4 none, .fieldLink RX6 27 "ThriceCounted$Rows" "cells" "[I", .fieldLink RX6 24 "ThriceCounted$Rows" "width" "I", .methodLink RX6 31 yX6_hasCell, .instanceMethod yX6_hasCell, .selects RX6 yX6_hasCell yX6_hasCell, .code yX6_hasCell cX6_hasCell 3 (some .boolean)] ++ wsX00 ++ wsX60)
def wsX0_addCause : List Cond := .code yX0_addCause cX0_addCause 6 (some .int) :: ([.fieldLink RX0 26 "ThriceCounted$Bank" "causes" "LThriceCounted$Rows;", .methodLink RX0 50 yX6_grow, .instanceMethod yX6_grow, .selects RX6 yX6_grow yX6_grow, .initialized RX6, .code yX6_grow cX6_grow 1 (some .int), .fieldLink RX6 9 "ThriceCounted$Rows" "size" "I", .methodLink RX6 35 yX6_isFull, .instanceMethod yX6_isFull, .selects RX6 yX6_isFull yX6_isFull, .code yX6_isFull cX6_isFull 1 (some .boolean), .fieldLink RX6 21 "ThriceCounted$Rows" "limit" "I", .methodLink RX0 54 yX6_put, .instanceMethod yX6_put, .selects RX6 yX6_put yX6_put, .code yX6_put cX6_put 4 none, .fieldLink RX6 27 "ThriceCounted$Rows" "cells" "[I", .fieldLink RX6 24 "ThriceCounted$Rows" "width" "I", .methodLink RX6 31 yX6_hasCell, .instanceMethod yX6_hasCell, .selects RX6 yX6_hasCell yX6_hasCell, .code yX6_hasCell cX6_hasCell 3 (some .boolean)] ++ wsX00 ++ wsX60)
def wsX6_size : List Cond := .code yX6_size cX6_size 1 (some .int) :: ([.fieldLink RX6 9 "ThriceCounted$Rows" "size" "I"] ++ wsX60)
def wsX6_get : List Cond := .code yX6_get cX6_get 3 (some .int) :: ([.fieldLink RX6 27 "ThriceCounted$Rows" "cells" "[I", .fieldLink RX6 24 "ThriceCounted$Rows" "width" "I", .methodLink RX6 31 yX6_hasCell, .instanceMethod yX6_hasCell, .selects RX6 yX6_hasCell yX6_hasCell, .initialized RX6, .code yX6_hasCell cX6_hasCell 3 (some .boolean), .fieldLink RX6 9 "ThriceCounted$Rows" "size" "I"] ++ wsX60)
def wsX0_countsOf : List Cond := .code yX0_countsOf cX0_countsOf 4 (some .int) :: ([.fieldLink RX0 23 "ThriceCounted$Bank" "counts" "LThriceCounted$Rows;", .methodLink RX0 58 yX6_size, .instanceMethod yX6_size, .selects RX6 yX6_size yX6_size, .initialized RX6, .code yX6_size cX6_size 1 (some .int), .fieldLink RX6 9 "ThriceCounted$Rows" "size" "I", .methodLink RX0 61 yX6_get, .instanceMethod yX6_get, .selects RX6 yX6_get yX6_get, .code yX6_get cX6_get 3 (some .int), .fieldLink RX6 27 "ThriceCounted$Rows" "cells" "[I", .fieldLink RX6 24 "ThriceCounted$Rows" "width" "I", .methodLink RX6 31 yX6_hasCell, .instanceMethod yX6_hasCell, .selects RX6 yX6_hasCell yX6_hasCell, .code yX6_hasCell cX6_hasCell 3 (some .boolean)] ++ wsX00 ++ wsX60)
def wsX0_dropOldest : List Cond := .code yX0_dropOldest cX0_dropOldest 2 none :: ([.fieldLink RX0 29 "ThriceCounted$Bank" "earlier" "[LThriceCounted$Rows;", .fieldLink RX0 33 "ThriceCounted$Bank" "undos" "I", .methodLink RX0 40 yX6_copyFrom, .instanceMethod yX6_copyFrom, .selects RX6 yX6_copyFrom yX6_copyFrom, .initialized RX6, .code yX6_copyFrom cX6_copyFrom 2 none, .fieldLink RX6 21 "ThriceCounted$Rows" "limit" "I", .fieldLink RX6 9 "ThriceCounted$Rows" "size" "I", .methodLink RX6 50 Lib.Math.min.name, .static Lib.Math.min.name, .initialized "java/lang/Math", .code Lib.Math.min.name Lib.Math.min.code 2 (some .int), .fieldLink RX6 27 "ThriceCounted$Rows" "cells" "[I", .methodLink RX6 53 arraycopyName, .native arraycopyName, .static arraycopyName, .initialized "java/lang/System"] ++ wsX00 ++ wsX60)
def wsX0_keepCounts : List Cond := .code yX0_keepCounts cX0_keepCounts 1 none :: ([.fieldLink RX0 33 "ThriceCounted$Bank" "undos" "I", .fieldLink RX0 29 "ThriceCounted$Bank" "earlier" "[LThriceCounted$Rows;", .fieldLink RX0 23 "ThriceCounted$Bank" "counts" "LThriceCounted$Rows;", .methodLink RX0 64 yX0_dropOldest, .instanceMethod yX0_dropOldest, .selects RX0 yX0_dropOldest yX0_dropOldest, .initialized RX0, .code yX0_dropOldest cX0_dropOldest 2 none, .methodLink RX0 40 yX6_copyFrom, .instanceMethod yX6_copyFrom, .selects RX6 yX6_copyFrom yX6_copyFrom, .initialized RX6, .code yX6_copyFrom cX6_copyFrom 2 none, .fieldLink RX6 21 "ThriceCounted$Rows" "limit" "I", .fieldLink RX6 9 "ThriceCounted$Rows" "size" "I", .methodLink RX6 50 Lib.Math.min.name, .static Lib.Math.min.name, .initialized "java/lang/Math", .code Lib.Math.min.name Lib.Math.min.code 2 (some .int), .fieldLink RX6 27 "ThriceCounted$Rows" "cells" "[I", .methodLink RX6 53 arraycopyName, .native arraycopyName, .static arraycopyName, .initialized "java/lang/System"] ++ wsX00 ++ wsX60)
def wsX0_restoreCounts : List Cond := .code yX0_restoreCounts cX0_restoreCounts 1 (some .boolean) :: ([.fieldLink RX0 33 "ThriceCounted$Bank" "undos" "I", .fieldLink RX0 29 "ThriceCounted$Bank" "earlier" "[LThriceCounted$Rows;", .fieldLink RX0 23 "ThriceCounted$Bank" "counts" "LThriceCounted$Rows;", .methodLink RX0 40 yX6_copyFrom, .instanceMethod yX6_copyFrom, .selects RX6 yX6_copyFrom yX6_copyFrom, .initialized RX6, .code yX6_copyFrom cX6_copyFrom 2 none, .fieldLink RX6 21 "ThriceCounted$Rows" "limit" "I", .fieldLink RX6 9 "ThriceCounted$Rows" "size" "I", .methodLink RX6 50 Lib.Math.min.name, .static Lib.Math.min.name, .initialized "java/lang/Math", .code Lib.Math.min.name Lib.Math.min.code 2 (some .int), .fieldLink RX6 27 "ThriceCounted$Rows" "cells" "[I", .methodLink RX6 53 arraycopyName, .native arraycopyName, .static arraycopyName, .initialized "java/lang/System"] ++ wsX00 ++ wsX60)
def wsX4_init : List Cond := .code yX4_init cX4_init 1 none :: ([.methodLink RX4 3 objectInit, .instanceMethod objectInit, .code objectInit ⟨#[0xb1]⟩ 1 none])
def wsX1_init : List Cond := .code yX1_init cX1_init 1 none :: ([.instanceMethod yX4_init, .initialized RX4, .code yX4_init cX4_init 1 none, .methodLink RX4 3 objectInit, .instanceMethod objectInit, .code objectInit ⟨#[0xb1]⟩ 1 none])
def wsX4_slip : List Cond := .code yX4_slip cX4_slip 2 (some .int) :: ([])
def wsX1_slip : List Cond := .code yX1_slip cX1_slip 2 (some .int) :: ([.methodLink RX1 7 yX4_slip, .sameMethod "ThriceCounted$Ones" "ThriceCounted$Ones" "slip" "(I)I", .superclass RX1 RX4, .instanceMethod yX4_slip, .initialized RX4, .code yX4_slip cX4_slip 2 (some .int)])
def wsX4_minutes : List Cond := .code yX4_minutes cX4_minutes 1 (some .int) :: ([])
def wsX1_minutes : List Cond := .code yX1_minutes cX1_minutes 1 (some .int) :: ([.methodLink RX1 11 yX4_minutes, .sameMethod "ThriceCounted$Ones" "ThriceCounted$Ones" "minutes" "()I", .superclass RX1 RX4, .instanceMethod yX4_minutes, .initialized RX4, .code yX4_minutes cX4_minutes 1 (some .int)])
def wsX2_init : List Cond := .code yX2_init cX2_init 1 none :: ([.methodLink RX2 1 objectInit, .instanceMethod objectInit, .code objectInit ⟨#[0xb1]⟩ 1 none, .fieldLink RX2 7 "ThriceCounted$Fraction" "above" "J", .fieldLink RX2 13 "ThriceCounted$Fraction" "below" "J"] ++ wsX20)
def wsX2_above : List Cond := .code yX2_above cX2_above 1 (some .long) :: ([.fieldLink RX2 7 "ThriceCounted$Fraction" "above" "J"] ++ wsX20)
def wsX2_below : List Cond := .code yX2_below cX2_below 1 (some .long) :: ([.fieldLink RX2 13 "ThriceCounted$Fraction" "below" "J"] ++ wsX20)
def wsX2_commonDivisor : List Cond := .code yX2_commonDivisor cX2_commonDivisor 11 (some .long) :: ([])
def wsX2_become : List Cond := .code yX2_become cX2_become 7 none :: ([.fieldLink RX2 7 "ThriceCounted$Fraction" "above" "J", .fieldLink RX2 13 "ThriceCounted$Fraction" "below" "J", .methodLink RX2 16 yX2_commonDivisor, .static yX2_commonDivisor, .initialized RX2, .code yX2_commonDivisor cX2_commonDivisor 11 (some .long)] ++ wsX20)
def wsX2_isMore : List Cond := .code yX2_isMore cX2_isMore 25 (some .boolean) :: ([])
def wsX10_init : List Cond := .code yX10_init cX10_init 1 none :: ([.instanceMethod yX4_init, .initialized RX4, .code yX4_init cX4_init 1 none, .methodLink RX4 3 objectInit, .instanceMethod objectInit, .code objectInit ⟨#[0xb1]⟩ 1 none])
def wsX3_init : List Cond := .code yX3_init cX3_init 1 none :: ([.instanceMethod yX10_init, .initialized RX10, .code yX10_init cX10_init 1 none, .instanceMethod yX4_init, .initialized RX4, .code yX4_init cX4_init 1 none, .methodLink RX4 3 objectInit, .instanceMethod objectInit, .code objectInit ⟨#[0xb1]⟩ 1 none])
def wsX10_slip : List Cond := .code yX10_slip cX10_slip 2 (some .int) :: ([])
def wsX3_slip : List Cond := .code yX3_slip cX3_slip 2 (some .int) :: ([.methodLink RX3 7 yX10_slip, .sameMethod "ThriceCounted$Weighed" "ThriceCounted$Weighed" "slip" "(I)I", .superclass RX3 RX10, .instanceMethod yX10_slip, .initialized RX10, .code yX10_slip cX10_slip 2 (some .int)])
def wsX9_slip : List Cond := .code yX9_slip cX9_slip 2 (some .int) :: ([.methodLink RX9 7 yX4_slip, .sameMethod "ThriceCounted$Ones" "ThriceCounted$Ones" "slip" "(I)I", .superclass RX9 RX4, .instanceMethod yX4_slip, .initialized RX4, .code yX4_slip cX4_slip 2 (some .int)])
def wsX8_slip : List Cond := .code yX8_slip cX8_slip 2 (some .int) :: ([.methodLink RX8 7 yX9_slip, .sameMethod "ThriceCounted$Talked" "ThriceCounted$Talked" "slip" "(I)I", .superclass RX8 RX9, .instanceMethod yX9_slip, .initialized RX9, .code yX9_slip cX9_slip 2 (some .int), .methodLink RX9 7 yX4_slip, .sameMethod "ThriceCounted$Ones" "ThriceCounted$Ones" "slip" "(I)I", .superclass RX9 RX4, .instanceMethod yX4_slip, .initialized RX4, .code yX4_slip cX4_slip 2 (some .int)])
def wsX4_oddsOff_r1 : List Cond := [Cond.methodLink RX4 9 ⟨"ThriceCounted$Ones", "slip", "(I)I"⟩, Cond.sameMethod "ThriceCounted$Ones" "ThriceCounted$Ones" "slip" "(I)I", Cond.instanceMethod ⟨"ThriceCounted$Ones", "slip", "(I)I"⟩, Cond.selects RX1 ⟨"ThriceCounted$Ones", "slip", "(I)I"⟩ yX1_slip, Cond.instanceMethod yX1_slip, Cond.initialized RX1, Cond.code yX1_slip cX1_slip 2 (some .int), Cond.methodLink RX1 7 yX4_slip, Cond.superclass RX1 RX4, Cond.instanceMethod yX4_slip, Cond.initialized RX4, Cond.code yX4_slip cX4_slip 2 (some .int), Cond.selects RX3 ⟨"ThriceCounted$Ones", "slip", "(I)I"⟩ yX3_slip, Cond.instanceMethod yX3_slip, Cond.initialized RX3, Cond.code yX3_slip cX3_slip 2 (some .int), Cond.methodLink RX3 7 yX10_slip, Cond.sameMethod "ThriceCounted$Weighed" "ThriceCounted$Weighed" "slip" "(I)I", Cond.superclass RX3 RX10, Cond.instanceMethod yX10_slip, Cond.initialized RX10, Cond.code yX10_slip cX10_slip 2 (some .int), Cond.methodLink RX4 9 yX4_slip, Cond.selects RX4 yX4_slip yX4_slip]
def wsX4_oddsOff_r2 : List Cond := [Cond.selects RX8 ⟨"ThriceCounted$Ones", "slip", "(I)I"⟩ yX8_slip, Cond.instanceMethod yX8_slip, Cond.initialized RX8, Cond.code yX8_slip cX8_slip 2 (some .int), Cond.methodLink RX8 7 yX9_slip, Cond.sameMethod "ThriceCounted$Talked" "ThriceCounted$Talked" "slip" "(I)I", Cond.superclass RX8 RX9, Cond.instanceMethod yX9_slip, Cond.initialized RX9, Cond.code yX9_slip cX9_slip 2 (some .int), Cond.methodLink RX9 7 yX4_slip, Cond.superclass RX9 RX4, Cond.selects RX9 ⟨"ThriceCounted$Ones", "slip", "(I)I"⟩ yX9_slip, Cond.selects RX10 ⟨"ThriceCounted$Ones", "slip", "(I)I"⟩ yX10_slip]
def wsX4_oddsOff : List Cond := .code yX4_oddsOff cX4_oddsOff 4 (some .int) :: ((wsX4_oddsOff_r1 ++ wsX4_oddsOff_r2))
def wsX5_init_r1 : List Cond := [Cond.methodLink RX5 3 objectInit, Cond.instanceMethod objectInit, Cond.code objectInit ⟨#[0xb1]⟩ 1 none, Cond.classLink RX5 9 RX0, Cond.instantiable RX0 6, Cond.initialized RX0, Cond.fieldLink RX5 12 "ThriceCounted$Reader" "draft" "LThriceCounted$Bank;", Cond.arrayClass .byte, Cond.fieldLink RX5 18 "ThriceCounted$Reader" "text" "[B", Cond.fieldLink RX5 22 "ThriceCounted$Reader" "length" "I", Cond.fieldLink RX5 26 "ThriceCounted$Reader" "place" "I", Cond.fieldLink RX5 29 "ThriceCounted$Reader" "kind" "I", Cond.fieldLink RX5 32 "ThriceCounted$Reader" "start" "I", Cond.fieldLink RX5 35 "ThriceCounted$Reader" "value" "I", Cond.fieldLink RX5 38 "ThriceCounted$Reader" "items" "I", Cond.fieldLink RX5 41 "ThriceCounted$Reader" "faulty" "Z", Cond.methodLink RX5 11 yX0_init, Cond.instanceMethod yX0_init, Cond.code yX0_init cX0_init 2 none, Cond.methodLink RX0 3 objectInit, Cond.classLink RX0 9 RX6, Cond.instantiable RX6 4, Cond.initialized RX6, Cond.fieldLink RX0 14 "ThriceCounted$Bank" "clerks" "LThriceCounted$Rows;"]
def wsX5_init_r2 : List Cond := [Cond.fieldLink RX0 20 "ThriceCounted$Bank" "bundles" "LThriceCounted$Rows;", Cond.fieldLink RX0 23 "ThriceCounted$Bank" "counts" "LThriceCounted$Rows;", Cond.fieldLink RX0 26 "ThriceCounted$Bank" "causes" "LThriceCounted$Rows;", Cond.fieldLink RX0 29 "ThriceCounted$Bank" "earlier" "[LThriceCounted$Rows;", Cond.fieldLink RX0 33 "ThriceCounted$Bank" "undos" "I", Cond.methodLink RX0 11 yX6_init, Cond.instanceMethod yX6_init, Cond.code yX6_init cX6_init 3 none, Cond.methodLink RX6 3 objectInit, Cond.fieldLink RX6 9 "ThriceCounted$Rows" "size" "I", Cond.methodLink RX6 15 Lib.Math.max.name, Cond.static Lib.Math.max.name, Cond.initialized "java/lang/Math", Cond.code Lib.Math.max.name Lib.Math.max.code 2 (some .int), Cond.fieldLink RX6 21 "ThriceCounted$Rows" "limit" "I", Cond.fieldLink RX6 24 "ThriceCounted$Rows" "width" "I", Cond.arrayClass .int, Cond.fieldLink RX6 27 "ThriceCounted$Rows" "cells" "[I"]
def wsX5_init : List Cond := .code yX5_init cX5_init 1 none :: ((wsX5_init_r1 ++ wsX5_init_r2) ++ wsX00 ++ wsX50 ++ wsX60)
def wsX5_fault : List Cond := .code yX5_fault cX5_fault 1 (some .int) :: ([.fieldLink RX5 32 "ThriceCounted$Reader" "start" "I"] ++ wsX50)
def wsX5_items : List Cond := .code yX5_items cX5_items 1 (some .int) :: ([.fieldLink RX5 38 "ThriceCounted$Reader" "items" "I"] ++ wsX50)
def wsX5_at : List Cond := .code yX5_at cX5_at 2 (some .int) :: ([.fieldLink RX5 22 "ThriceCounted$Reader" "length" "I", .fieldLink RX5 18 "ThriceCounted$Reader" "text" "[B"] ++ wsX50)
def wsX5_isLetter : List Cond := .code yX5_isLetter cX5_isLetter 1 (some .boolean) :: ([])
def wsX5_stepOverWord : List Cond := .code yX5_stepOverWord cX5_stepOverWord 1 none :: ([.fieldLink RX5 29 "ThriceCounted$Reader" "kind" "I", .fieldLink RX5 26 "ThriceCounted$Reader" "place" "I", .fieldLink RX5 22 "ThriceCounted$Reader" "length" "I", .methodLink RX5 134 yX5_at, .instanceMethod yX5_at, .selects RX5 yX5_at yX5_at, .initialized RX5, .code yX5_at cX5_at 2 (some .int), .fieldLink RX5 18 "ThriceCounted$Reader" "text" "[B", .methodLink RX5 141 yX5_isLetter, .static yX5_isLetter, .code yX5_isLetter cX5_isLetter 1 (some .boolean)] ++ wsX50)
def wsX5_isFigure : List Cond := .code yX5_isFigure cX5_isFigure 1 (some .boolean) :: ([])
def wsX5_stepOverNumber : List Cond := .code yX5_stepOverNumber cX5_stepOverNumber 1 none :: ([.fieldLink RX5 35 "ThriceCounted$Reader" "value" "I", .fieldLink RX5 26 "ThriceCounted$Reader" "place" "I", .fieldLink RX5 22 "ThriceCounted$Reader" "length" "I", .methodLink RX5 45 Lib.Math.min.name, .static Lib.Math.min.name, .initialized "java/lang/Math", .code Lib.Math.min.name Lib.Math.min.code 2 (some .int), .fieldLink RX5 32 "ThriceCounted$Reader" "start" "I", .fieldLink RX5 29 "ThriceCounted$Reader" "kind" "I", .methodLink RX5 134 yX5_at, .instanceMethod yX5_at, .selects RX5 yX5_at yX5_at, .initialized RX5, .code yX5_at cX5_at 2 (some .int), .fieldLink RX5 18 "ThriceCounted$Reader" "text" "[B", .methodLink RX5 148 yX5_isFigure, .static yX5_isFigure, .code yX5_isFigure cX5_isFigure 1 (some .boolean)] ++ wsX50)
def wsX5_step_r1 : List Cond := [Cond.fieldLink RX5 26 "ThriceCounted$Reader" "place" "I", Cond.fieldLink RX5 22 "ThriceCounted$Reader" "length" "I", Cond.fieldLink RX5 32 "ThriceCounted$Reader" "start" "I", Cond.fieldLink RX5 29 "ThriceCounted$Reader" "kind" "I", Cond.methodLink RX5 134 yX5_at, Cond.instanceMethod yX5_at, Cond.selects RX5 yX5_at yX5_at, Cond.initialized RX5, Cond.code yX5_at cX5_at 2 (some .int), Cond.fieldLink RX5 18 "ThriceCounted$Reader" "text" "[B", Cond.methodLink RX5 141 yX5_isLetter, Cond.static yX5_isLetter, Cond.code yX5_isLetter cX5_isLetter 1 (some .boolean), Cond.methodLink RX5 145 yX5_stepOverWord, Cond.instanceMethod yX5_stepOverWord, Cond.selects RX5 yX5_stepOverWord yX5_stepOverWord, Cond.code yX5_stepOverWord cX5_stepOverWord 1 none, Cond.methodLink RX5 148 yX5_isFigure, Cond.static yX5_isFigure, Cond.code yX5_isFigure cX5_isFigure 1 (some .boolean), Cond.methodLink RX5 151 yX5_stepOverNumber, Cond.instanceMethod yX5_stepOverNumber, Cond.selects RX5 yX5_stepOverNumber yX5_stepOverNumber, Cond.code yX5_stepOverNumber cX5_stepOverNumber 1 none]
def wsX5_step_r2 : List Cond := [Cond.fieldLink RX5 35 "ThriceCounted$Reader" "value" "I", Cond.methodLink RX5 45 Lib.Math.min.name, Cond.static Lib.Math.min.name, Cond.initialized "java/lang/Math", Cond.code Lib.Math.min.name Lib.Math.min.code 2 (some .int)]
def wsX5_step : List Cond := .code yX5_step cX5_step 2 none :: ((wsX5_step_r1 ++ wsX5_step_r2) ++ wsX50)
def wsJ0_coder_7d493 : List Cond := .code yJ0_coder_7d493 cJ0_coder_7d493 1 (some .byte) :: ([.fieldLink RJ0 38 "java/lang/String" "COMPACT_STRINGS" "Z", .fieldLink RJ0 15 "java/lang/String" "coder" "B"])
def wsJ0_length_8abf5 : List Cond := .code yJ0_length_8abf5 cJ0_length_8abf5 1 (some .int) :: ([.fieldLink RJ0 9 "java/lang/String" "value" "[B", .methodLink RJ0 335 yJ0_coder_7d493, .instanceMethod yJ0_coder_7d493, .selects RJ0 yJ0_coder_7d493 yJ0_coder_7d493, .initialized RJ0, .code yJ0_coder_7d493 cJ0_coder_7d493 1 (some .byte), .fieldLink RJ0 38 "java/lang/String" "COMPACT_STRINGS" "Z", .fieldLink RJ0 15 "java/lang/String" "coder" "B"])
def wsJ0_isLatin1_aae02 : List Cond := .code yJ0_isLatin1_aae02 cJ0_isLatin1_aae02 1 (some .boolean) :: ([.fieldLink RJ0 38 "java/lang/String" "COMPACT_STRINGS" "Z", .fieldLink RJ0 15 "java/lang/String" "coder" "B"])
def wsJ3_checkIndex_8e157 : List Cond := .code yJ3_checkIndex_8e157 cJ3_checkIndex_8e157 3 (some .int) :: ([])
def wsJ0_checkIndex_df160 : List Cond := .code yJ0_checkIndex_df160 cJ0_checkIndex_df160 2 none :: ([.fieldLink RJ0 1053 "jdk/internal/util/Preconditions" "SIOOBE_FORMATTER" "Ljava/util/function/BiFunction;", .methodLink RJ0 1059 yJ3_checkIndex_8e157, .static yJ3_checkIndex_8e157, .initialized RJ3, .code yJ3_checkIndex_8e157 cJ3_checkIndex_8e157 3 (some .int)])
def wsJ1_charAt_3b067 : List Cond := .code yJ1_charAt_3b067 cJ1_charAt_3b067 2 (some .char) :: ([.methodLink RJ1 9 yJ0_checkIndex_df160, .static yJ0_checkIndex_df160, .initialized RJ0, .code yJ0_checkIndex_df160 cJ0_checkIndex_df160 2 none, .fieldLink RJ0 1053 "jdk/internal/util/Preconditions" "SIOOBE_FORMATTER" "Ljava/util/function/BiFunction;", .methodLink RJ0 1059 yJ3_checkIndex_8e157, .static yJ3_checkIndex_8e157, .initialized RJ3, .code yJ3_checkIndex_8e157 cJ3_checkIndex_8e157 3 (some .int)])
def wsJ2_length_9d52b : List Cond := .code yJ2_length_9d52b cJ2_length_9d52b 1 (some .int) :: ([])
def wsJ2_checkIndex_2214a : List Cond := .code yJ2_checkIndex_2214a cJ2_checkIndex_2214a 2 none :: ([.methodLink RJ2 48 yJ2_length_9d52b, .static yJ2_length_9d52b, .initialized RJ2, .code yJ2_length_9d52b cJ2_length_9d52b 1 (some .int), .methodLink RJ2 414 yJ0_checkIndex_df160, .static yJ0_checkIndex_df160, .initialized RJ0, .code yJ0_checkIndex_df160 cJ0_checkIndex_df160 2 none, .fieldLink RJ0 1053 "jdk/internal/util/Preconditions" "SIOOBE_FORMATTER" "Ljava/util/function/BiFunction;", .methodLink RJ0 1059 yJ3_checkIndex_8e157, .static yJ3_checkIndex_8e157, .initialized RJ3, .code yJ3_checkIndex_8e157 cJ3_checkIndex_8e157 3 (some .int)])
def wsJ2_getChar_3b067 : List Cond := .code yJ2_getChar_3b067 cJ2_getChar_3b067 2 (some .char) :: ([.fieldLink RJ2 44 "java/lang/StringUTF16" "$assertionsDisabled" "Z", .fieldLink RJ2 59 "java/lang/StringUTF16" "HI_BYTE_SHIFT" "I", .fieldLink RJ2 63 "java/lang/StringUTF16" "LO_BYTE_SHIFT" "I", .methodLink RJ2 48 yJ2_length_9d52b, .static yJ2_length_9d52b, .initialized RJ2, .code yJ2_length_9d52b cJ2_length_9d52b 1 (some .int)])
def wsJ2_charAt_3b067 : List Cond := .code yJ2_charAt_3b067 cJ2_charAt_3b067 2 (some .char) :: ([.methodLink RJ2 67 yJ2_checkIndex_2214a, .static yJ2_checkIndex_2214a, .initialized RJ2, .code yJ2_checkIndex_2214a cJ2_checkIndex_2214a 2 none, .methodLink RJ2 48 yJ2_length_9d52b, .static yJ2_length_9d52b, .code yJ2_length_9d52b cJ2_length_9d52b 1 (some .int), .methodLink RJ2 414 yJ0_checkIndex_df160, .static yJ0_checkIndex_df160, .initialized RJ0, .code yJ0_checkIndex_df160 cJ0_checkIndex_df160 2 none, .fieldLink RJ0 1053 "jdk/internal/util/Preconditions" "SIOOBE_FORMATTER" "Ljava/util/function/BiFunction;", .methodLink RJ0 1059 yJ3_checkIndex_8e157, .static yJ3_checkIndex_8e157, .initialized RJ3, .code yJ3_checkIndex_8e157 cJ3_checkIndex_8e157 3 (some .int), .methodLink RJ2 71 yJ2_getChar_3b067, .static yJ2_getChar_3b067, .code yJ2_getChar_3b067 cJ2_getChar_3b067 2 (some .char), .fieldLink RJ2 44 "java/lang/StringUTF16" "$assertionsDisabled" "Z", .fieldLink RJ2 59 "java/lang/StringUTF16" "HI_BYTE_SHIFT" "I", .fieldLink RJ2 63 "java/lang/StringUTF16" "LO_BYTE_SHIFT" "I"])
def wsJ0_charAt_5068e_r1 : List Cond := [Cond.fieldLink RJ0 9 "java/lang/String" "value" "[B", Cond.methodLink RJ0 492 yJ0_isLatin1_aae02, Cond.instanceMethod yJ0_isLatin1_aae02, Cond.selects RJ0 yJ0_isLatin1_aae02 yJ0_isLatin1_aae02, Cond.initialized RJ0, Cond.code yJ0_isLatin1_aae02 cJ0_isLatin1_aae02 1 (some .boolean), Cond.fieldLink RJ0 38 "java/lang/String" "COMPACT_STRINGS" "Z", Cond.fieldLink RJ0 15 "java/lang/String" "coder" "B", Cond.methodLink RJ0 495 yJ1_charAt_3b067, Cond.static yJ1_charAt_3b067, Cond.initialized RJ1, Cond.code yJ1_charAt_3b067 cJ1_charAt_3b067 2 (some .char), Cond.methodLink RJ1 9 yJ0_checkIndex_df160, Cond.static yJ0_checkIndex_df160, Cond.code yJ0_checkIndex_df160 cJ0_checkIndex_df160 2 none, Cond.fieldLink RJ0 1053 "jdk/internal/util/Preconditions" "SIOOBE_FORMATTER" "Ljava/util/function/BiFunction;", Cond.methodLink RJ0 1059 yJ3_checkIndex_8e157, Cond.static yJ3_checkIndex_8e157, Cond.initialized RJ3, Cond.code yJ3_checkIndex_8e157 cJ3_checkIndex_8e157 3 (some .int), Cond.methodLink RJ0 498 yJ2_charAt_3b067, Cond.static yJ2_charAt_3b067, Cond.initialized RJ2, Cond.code yJ2_charAt_3b067 cJ2_charAt_3b067 2 (some .char)]
def wsJ0_charAt_5068e_r2 : List Cond := [Cond.methodLink RJ2 67 yJ2_checkIndex_2214a, Cond.static yJ2_checkIndex_2214a, Cond.code yJ2_checkIndex_2214a cJ2_checkIndex_2214a 2 none, Cond.methodLink RJ2 48 yJ2_length_9d52b, Cond.static yJ2_length_9d52b, Cond.code yJ2_length_9d52b cJ2_length_9d52b 1 (some .int), Cond.methodLink RJ2 414 yJ0_checkIndex_df160, Cond.methodLink RJ2 71 yJ2_getChar_3b067, Cond.static yJ2_getChar_3b067, Cond.code yJ2_getChar_3b067 cJ2_getChar_3b067 2 (some .char), Cond.fieldLink RJ2 44 "java/lang/StringUTF16" "$assertionsDisabled" "Z", Cond.fieldLink RJ2 59 "java/lang/StringUTF16" "HI_BYTE_SHIFT" "I", Cond.fieldLink RJ2 63 "java/lang/StringUTF16" "LO_BYTE_SHIFT" "I"]
def wsJ0_charAt_5068e : List Cond := .code yJ0_charAt_5068e cJ0_charAt_5068e 2 (some .char) :: ((wsJ0_charAt_5068e_r1 ++ wsJ0_charAt_5068e_r2))
def wsX5_isWord_r1 : List Cond := [Cond.fieldLink RX5 29 "ThriceCounted$Reader" "kind" "I", Cond.fieldLink RX5 26 "ThriceCounted$Reader" "place" "I", Cond.fieldLink RX5 32 "ThriceCounted$Reader" "start" "I", Cond.methodLink RX5 130 yJ0_length_8abf5, Cond.instanceMethod yJ0_length_8abf5, Cond.selects RJ0 yJ0_length_8abf5 yJ0_length_8abf5, Cond.initialized RJ0, Cond.code yJ0_length_8abf5 cJ0_length_8abf5 1 (some .int), Cond.fieldLink RJ0 9 "java/lang/String" "value" "[B", Cond.methodLink RJ0 335 yJ0_coder_7d493, Cond.instanceMethod yJ0_coder_7d493, Cond.selects RJ0 yJ0_coder_7d493 yJ0_coder_7d493, Cond.code yJ0_coder_7d493 cJ0_coder_7d493 1 (some .byte), Cond.fieldLink RJ0 38 "java/lang/String" "COMPACT_STRINGS" "Z", Cond.fieldLink RJ0 15 "java/lang/String" "coder" "B", Cond.methodLink RX5 134 yX5_at, Cond.instanceMethod yX5_at, Cond.selects RX5 yX5_at yX5_at, Cond.initialized RX5, Cond.code yX5_at cX5_at 2 (some .int), Cond.fieldLink RX5 22 "ThriceCounted$Reader" "length" "I", Cond.fieldLink RX5 18 "ThriceCounted$Reader" "text" "[B", Cond.methodLink RX5 137 yJ0_charAt_5068e, Cond.instanceMethod yJ0_charAt_5068e]
def wsX5_isWord_r2 : List Cond := [Cond.selects RJ0 yJ0_charAt_5068e yJ0_charAt_5068e, Cond.code yJ0_charAt_5068e cJ0_charAt_5068e 2 (some .char), Cond.methodLink RJ0 492 yJ0_isLatin1_aae02, Cond.instanceMethod yJ0_isLatin1_aae02, Cond.selects RJ0 yJ0_isLatin1_aae02 yJ0_isLatin1_aae02, Cond.code yJ0_isLatin1_aae02 cJ0_isLatin1_aae02 1 (some .boolean), Cond.methodLink RJ0 495 yJ1_charAt_3b067, Cond.static yJ1_charAt_3b067, Cond.initialized RJ1, Cond.code yJ1_charAt_3b067 cJ1_charAt_3b067 2 (some .char), Cond.methodLink RJ1 9 yJ0_checkIndex_df160, Cond.static yJ0_checkIndex_df160, Cond.code yJ0_checkIndex_df160 cJ0_checkIndex_df160 2 none, Cond.fieldLink RJ0 1053 "jdk/internal/util/Preconditions" "SIOOBE_FORMATTER" "Ljava/util/function/BiFunction;", Cond.methodLink RJ0 1059 yJ3_checkIndex_8e157, Cond.static yJ3_checkIndex_8e157, Cond.initialized RJ3, Cond.code yJ3_checkIndex_8e157 cJ3_checkIndex_8e157 3 (some .int), Cond.methodLink RJ0 498 yJ2_charAt_3b067, Cond.static yJ2_charAt_3b067, Cond.initialized RJ2, Cond.code yJ2_charAt_3b067 cJ2_charAt_3b067 2 (some .char), Cond.methodLink RJ2 67 yJ2_checkIndex_2214a, Cond.static yJ2_checkIndex_2214a]
def wsX5_isWord_r3 : List Cond := [Cond.code yJ2_checkIndex_2214a cJ2_checkIndex_2214a 2 none, Cond.methodLink RJ2 48 yJ2_length_9d52b, Cond.static yJ2_length_9d52b, Cond.code yJ2_length_9d52b cJ2_length_9d52b 1 (some .int), Cond.methodLink RJ2 414 yJ0_checkIndex_df160, Cond.methodLink RJ2 71 yJ2_getChar_3b067, Cond.static yJ2_getChar_3b067, Cond.code yJ2_getChar_3b067 cJ2_getChar_3b067 2 (some .char), Cond.fieldLink RJ2 44 "java/lang/StringUTF16" "$assertionsDisabled" "Z", Cond.fieldLink RJ2 59 "java/lang/StringUTF16" "HI_BYTE_SHIFT" "I", Cond.fieldLink RJ2 63 "java/lang/StringUTF16" "LO_BYTE_SHIFT" "I"]
def wsX5_isWord : List Cond := .code yX5_isWord cX5_isWord 3 (some .boolean) :: ((wsX5_isWord_r1 ++ (wsX5_isWord_r2 ++ wsX5_isWord_r3)) ++ wsX50)
def wsX5_endItem_r1 : List Cond := [Cond.fieldLink RX5 29 "ThriceCounted$Reader" "kind" "I", Cond.fieldLink RX5 38 "ThriceCounted$Reader" "items" "I", Cond.methodLink RX5 57 yX5_step, Cond.instanceMethod yX5_step, Cond.selects RX5 yX5_step yX5_step, Cond.initialized RX5, Cond.code yX5_step cX5_step 2 none, Cond.fieldLink RX5 26 "ThriceCounted$Reader" "place" "I", Cond.fieldLink RX5 22 "ThriceCounted$Reader" "length" "I", Cond.fieldLink RX5 32 "ThriceCounted$Reader" "start" "I", Cond.methodLink RX5 134 yX5_at, Cond.instanceMethod yX5_at, Cond.selects RX5 yX5_at yX5_at, Cond.code yX5_at cX5_at 2 (some .int), Cond.fieldLink RX5 18 "ThriceCounted$Reader" "text" "[B", Cond.methodLink RX5 141 yX5_isLetter, Cond.static yX5_isLetter, Cond.code yX5_isLetter cX5_isLetter 1 (some .boolean), Cond.methodLink RX5 145 yX5_stepOverWord, Cond.instanceMethod yX5_stepOverWord, Cond.selects RX5 yX5_stepOverWord yX5_stepOverWord, Cond.code yX5_stepOverWord cX5_stepOverWord 1 none, Cond.methodLink RX5 148 yX5_isFigure, Cond.static yX5_isFigure]
def wsX5_endItem_r2 : List Cond := [Cond.code yX5_isFigure cX5_isFigure 1 (some .boolean), Cond.methodLink RX5 151 yX5_stepOverNumber, Cond.instanceMethod yX5_stepOverNumber, Cond.selects RX5 yX5_stepOverNumber yX5_stepOverNumber, Cond.code yX5_stepOverNumber cX5_stepOverNumber 1 none, Cond.fieldLink RX5 35 "ThriceCounted$Reader" "value" "I", Cond.methodLink RX5 45 Lib.Math.min.name, Cond.static Lib.Math.min.name, Cond.initialized "java/lang/Math", Cond.code Lib.Math.min.name Lib.Math.min.code 2 (some .int)]
def wsX5_endItem : List Cond := .code yX5_endItem cX5_endItem 1 (some .boolean) :: ((wsX5_endItem_r1 ++ wsX5_endItem_r2) ++ wsX50)
def wsX5_number_r1 : List Cond := [Cond.fieldLink RX5 41 "ThriceCounted$Reader" "faulty" "Z", Cond.fieldLink RX5 29 "ThriceCounted$Reader" "kind" "I", Cond.fieldLink RX5 35 "ThriceCounted$Reader" "value" "I", Cond.methodLink RX5 57 yX5_step, Cond.instanceMethod yX5_step, Cond.selects RX5 yX5_step yX5_step, Cond.initialized RX5, Cond.code yX5_step cX5_step 2 none, Cond.fieldLink RX5 26 "ThriceCounted$Reader" "place" "I", Cond.fieldLink RX5 22 "ThriceCounted$Reader" "length" "I", Cond.fieldLink RX5 32 "ThriceCounted$Reader" "start" "I", Cond.methodLink RX5 134 yX5_at, Cond.instanceMethod yX5_at, Cond.selects RX5 yX5_at yX5_at, Cond.code yX5_at cX5_at 2 (some .int), Cond.fieldLink RX5 18 "ThriceCounted$Reader" "text" "[B", Cond.methodLink RX5 141 yX5_isLetter, Cond.static yX5_isLetter, Cond.code yX5_isLetter cX5_isLetter 1 (some .boolean), Cond.methodLink RX5 145 yX5_stepOverWord, Cond.instanceMethod yX5_stepOverWord, Cond.selects RX5 yX5_stepOverWord yX5_stepOverWord, Cond.code yX5_stepOverWord cX5_stepOverWord 1 none, Cond.methodLink RX5 148 yX5_isFigure]
def wsX5_number_r2 : List Cond := [Cond.static yX5_isFigure, Cond.code yX5_isFigure cX5_isFigure 1 (some .boolean), Cond.methodLink RX5 151 yX5_stepOverNumber, Cond.instanceMethod yX5_stepOverNumber, Cond.selects RX5 yX5_stepOverNumber yX5_stepOverNumber, Cond.code yX5_stepOverNumber cX5_stepOverNumber 1 none, Cond.methodLink RX5 45 Lib.Math.min.name, Cond.static Lib.Math.min.name, Cond.initialized "java/lang/Math", Cond.code Lib.Math.min.name Lib.Math.min.code 2 (some .int)]
def wsX5_number : List Cond := .code yX5_number cX5_number 4 (some .int) :: ((wsX5_number_r1 ++ wsX5_number_r2) ++ wsX50)
def wsX5_clerkItem_r1 : List Cond := [Cond.fieldLink RX5 41 "ThriceCounted$Reader" "faulty" "Z", Cond.fieldLink RX5 12 "ThriceCounted$Reader" "draft" "LThriceCounted$Bank;", Cond.methodLink RX5 57 yX5_step, Cond.instanceMethod yX5_step, Cond.selects RX5 yX5_step yX5_step, Cond.initialized RX5, Cond.code yX5_step cX5_step 2 none, Cond.fieldLink RX5 26 "ThriceCounted$Reader" "place" "I", Cond.fieldLink RX5 22 "ThriceCounted$Reader" "length" "I", Cond.fieldLink RX5 32 "ThriceCounted$Reader" "start" "I", Cond.fieldLink RX5 29 "ThriceCounted$Reader" "kind" "I", Cond.methodLink RX5 134 yX5_at, Cond.instanceMethod yX5_at, Cond.selects RX5 yX5_at yX5_at, Cond.code yX5_at cX5_at 2 (some .int), Cond.fieldLink RX5 18 "ThriceCounted$Reader" "text" "[B", Cond.methodLink RX5 141 yX5_isLetter, Cond.static yX5_isLetter, Cond.code yX5_isLetter cX5_isLetter 1 (some .boolean), Cond.methodLink RX5 145 yX5_stepOverWord, Cond.instanceMethod yX5_stepOverWord, Cond.selects RX5 yX5_stepOverWord yX5_stepOverWord, Cond.code yX5_stepOverWord cX5_stepOverWord 1 none, Cond.methodLink RX5 148 yX5_isFigure]
def wsX5_clerkItem_r2 : List Cond := [Cond.static yX5_isFigure, Cond.code yX5_isFigure cX5_isFigure 1 (some .boolean), Cond.methodLink RX5 151 yX5_stepOverNumber, Cond.instanceMethod yX5_stepOverNumber, Cond.selects RX5 yX5_stepOverNumber yX5_stepOverNumber, Cond.code yX5_stepOverNumber cX5_stepOverNumber 1 none, Cond.fieldLink RX5 35 "ThriceCounted$Reader" "value" "I", Cond.methodLink RX5 45 Lib.Math.min.name, Cond.static Lib.Math.min.name, Cond.initialized "java/lang/Math", Cond.code Lib.Math.min.name Lib.Math.min.code 2 (some .int), Cond.methodLink RX5 108 yX5_number, Cond.instanceMethod yX5_number, Cond.selects RX5 yX5_number yX5_number, Cond.code yX5_number cX5_number 4 (some .int), Cond.methodLink RX5 111 yX0_addClerk, Cond.instanceMethod yX0_addClerk, Cond.selects RX0 yX0_addClerk yX0_addClerk, Cond.initialized RX0, Cond.code yX0_addClerk cX0_addClerk 3 (some .int), Cond.fieldLink RX0 14 "ThriceCounted$Bank" "clerks" "LThriceCounted$Rows;", Cond.methodLink RX0 50 yX6_grow, Cond.instanceMethod yX6_grow, Cond.selects RX6 yX6_grow yX6_grow]
def wsX5_clerkItem_r3 : List Cond := [Cond.initialized RX6, Cond.code yX6_grow cX6_grow 1 (some .int), Cond.fieldLink RX6 9 "ThriceCounted$Rows" "size" "I", Cond.methodLink RX6 35 yX6_isFull, Cond.instanceMethod yX6_isFull, Cond.selects RX6 yX6_isFull yX6_isFull, Cond.code yX6_isFull cX6_isFull 1 (some .boolean), Cond.fieldLink RX6 21 "ThriceCounted$Rows" "limit" "I", Cond.methodLink RX0 54 yX6_put, Cond.instanceMethod yX6_put, Cond.selects RX6 yX6_put yX6_put, Cond.code yX6_put cX6_put 4 none, Cond.fieldLink RX6 27 "ThriceCounted$Rows" "cells" "[I", Cond.fieldLink RX6 24 "ThriceCounted$Rows" "width" "I", Cond.methodLink RX6 31 yX6_hasCell, Cond.instanceMethod yX6_hasCell, Cond.selects RX6 yX6_hasCell yX6_hasCell, Cond.code yX6_hasCell cX6_hasCell 3 (some .boolean)]
def wsX5_clerkItem : List Cond := .code yX5_clerkItem cX5_clerkItem 2 (some .boolean) :: ((wsX5_clerkItem_r1 ++ (wsX5_clerkItem_r2 ++ wsX5_clerkItem_r3)) ++ wsX50 ++ wsX00 ++ wsX60)
def wsX5_bundleItem_r1 : List Cond := [Cond.fieldLink RX5 41 "ThriceCounted$Reader" "faulty" "Z", Cond.fieldLink RX5 12 "ThriceCounted$Reader" "draft" "LThriceCounted$Bank;", Cond.methodLink RX5 57 yX5_step, Cond.instanceMethod yX5_step, Cond.selects RX5 yX5_step yX5_step, Cond.initialized RX5, Cond.code yX5_step cX5_step 2 none, Cond.fieldLink RX5 26 "ThriceCounted$Reader" "place" "I", Cond.fieldLink RX5 22 "ThriceCounted$Reader" "length" "I", Cond.fieldLink RX5 32 "ThriceCounted$Reader" "start" "I", Cond.fieldLink RX5 29 "ThriceCounted$Reader" "kind" "I", Cond.methodLink RX5 134 yX5_at, Cond.instanceMethod yX5_at, Cond.selects RX5 yX5_at yX5_at, Cond.code yX5_at cX5_at 2 (some .int), Cond.fieldLink RX5 18 "ThriceCounted$Reader" "text" "[B", Cond.methodLink RX5 141 yX5_isLetter, Cond.static yX5_isLetter, Cond.code yX5_isLetter cX5_isLetter 1 (some .boolean), Cond.methodLink RX5 145 yX5_stepOverWord, Cond.instanceMethod yX5_stepOverWord, Cond.selects RX5 yX5_stepOverWord yX5_stepOverWord, Cond.code yX5_stepOverWord cX5_stepOverWord 1 none, Cond.methodLink RX5 148 yX5_isFigure]
def wsX5_bundleItem_r2 : List Cond := [Cond.static yX5_isFigure, Cond.code yX5_isFigure cX5_isFigure 1 (some .boolean), Cond.methodLink RX5 151 yX5_stepOverNumber, Cond.instanceMethod yX5_stepOverNumber, Cond.selects RX5 yX5_stepOverNumber yX5_stepOverNumber, Cond.code yX5_stepOverNumber cX5_stepOverNumber 1 none, Cond.fieldLink RX5 35 "ThriceCounted$Reader" "value" "I", Cond.methodLink RX5 45 Lib.Math.min.name, Cond.static Lib.Math.min.name, Cond.initialized "java/lang/Math", Cond.code Lib.Math.min.name Lib.Math.min.code 2 (some .int), Cond.methodLink RX5 108 yX5_number, Cond.instanceMethod yX5_number, Cond.selects RX5 yX5_number yX5_number, Cond.code yX5_number cX5_number 4 (some .int), Cond.methodLink RX5 115 yX0_addBundle, Cond.instanceMethod yX0_addBundle, Cond.selects RX0 yX0_addBundle yX0_addBundle, Cond.initialized RX0, Cond.code yX0_addBundle cX0_addBundle 4 (some .int), Cond.fieldLink RX0 20 "ThriceCounted$Bank" "bundles" "LThriceCounted$Rows;", Cond.methodLink RX0 50 yX6_grow, Cond.instanceMethod yX6_grow, Cond.selects RX6 yX6_grow yX6_grow]
def wsX5_bundleItem_r3 : List Cond := [Cond.initialized RX6, Cond.code yX6_grow cX6_grow 1 (some .int), Cond.fieldLink RX6 9 "ThriceCounted$Rows" "size" "I", Cond.methodLink RX6 35 yX6_isFull, Cond.instanceMethod yX6_isFull, Cond.selects RX6 yX6_isFull yX6_isFull, Cond.code yX6_isFull cX6_isFull 1 (some .boolean), Cond.fieldLink RX6 21 "ThriceCounted$Rows" "limit" "I", Cond.methodLink RX0 54 yX6_put, Cond.instanceMethod yX6_put, Cond.selects RX6 yX6_put yX6_put, Cond.code yX6_put cX6_put 4 none, Cond.fieldLink RX6 27 "ThriceCounted$Rows" "cells" "[I", Cond.fieldLink RX6 24 "ThriceCounted$Rows" "width" "I", Cond.methodLink RX6 31 yX6_hasCell, Cond.instanceMethod yX6_hasCell, Cond.selects RX6 yX6_hasCell yX6_hasCell, Cond.code yX6_hasCell cX6_hasCell 3 (some .boolean)]
def wsX5_bundleItem : List Cond := .code yX5_bundleItem cX5_bundleItem 3 (some .boolean) :: ((wsX5_bundleItem_r1 ++ (wsX5_bundleItem_r2 ++ wsX5_bundleItem_r3)) ++ wsX50 ++ wsX00 ++ wsX60)
def wsX5_bandItem_r1 : List Cond := [Cond.fieldLink RX5 12 "ThriceCounted$Reader" "draft" "LThriceCounted$Bank;", Cond.fieldLink RX5 89 "ThriceCounted$Bank" "bundles" "LThriceCounted$Rows;", Cond.fieldLink RX5 75 "ThriceCounted$Bank" "clerks" "LThriceCounted$Rows;", Cond.fieldLink RX5 41 "ThriceCounted$Reader" "faulty" "Z", Cond.methodLink RX5 57 yX5_step, Cond.instanceMethod yX5_step, Cond.selects RX5 yX5_step yX5_step, Cond.initialized RX5, Cond.code yX5_step cX5_step 2 none, Cond.fieldLink RX5 26 "ThriceCounted$Reader" "place" "I", Cond.fieldLink RX5 22 "ThriceCounted$Reader" "length" "I", Cond.fieldLink RX5 32 "ThriceCounted$Reader" "start" "I", Cond.fieldLink RX5 29 "ThriceCounted$Reader" "kind" "I", Cond.methodLink RX5 134 yX5_at, Cond.instanceMethod yX5_at, Cond.selects RX5 yX5_at yX5_at, Cond.code yX5_at cX5_at 2 (some .int), Cond.fieldLink RX5 18 "ThriceCounted$Reader" "text" "[B", Cond.methodLink RX5 141 yX5_isLetter, Cond.static yX5_isLetter, Cond.code yX5_isLetter cX5_isLetter 1 (some .boolean), Cond.methodLink RX5 145 yX5_stepOverWord, Cond.instanceMethod yX5_stepOverWord, Cond.selects RX5 yX5_stepOverWord yX5_stepOverWord]
def wsX5_bandItem_r2 : List Cond := [Cond.code yX5_stepOverWord cX5_stepOverWord 1 none, Cond.methodLink RX5 148 yX5_isFigure, Cond.static yX5_isFigure, Cond.code yX5_isFigure cX5_isFigure 1 (some .boolean), Cond.methodLink RX5 151 yX5_stepOverNumber, Cond.instanceMethod yX5_stepOverNumber, Cond.selects RX5 yX5_stepOverNumber yX5_stepOverNumber, Cond.code yX5_stepOverNumber cX5_stepOverNumber 1 none, Cond.fieldLink RX5 35 "ThriceCounted$Reader" "value" "I", Cond.methodLink RX5 45 Lib.Math.min.name, Cond.static Lib.Math.min.name, Cond.initialized "java/lang/Math", Cond.code Lib.Math.min.name Lib.Math.min.code 2 (some .int), Cond.methodLink RX5 118 yX6_size, Cond.instanceMethod yX6_size, Cond.selects RX6 yX6_size yX6_size, Cond.initialized RX6, Cond.code yX6_size cX6_size 1 (some .int), Cond.fieldLink RX6 9 "ThriceCounted$Rows" "size" "I", Cond.methodLink RX5 108 yX5_number, Cond.instanceMethod yX5_number, Cond.selects RX5 yX5_number yX5_number, Cond.code yX5_number cX5_number 4 (some .int), Cond.methodLink RX5 122 yX0_putBand]
def wsX5_bandItem_r3 : List Cond := [Cond.instanceMethod yX0_putBand, Cond.selects RX0 yX0_putBand yX0_putBand, Cond.initialized RX0, Cond.code yX0_putBand cX0_putBand 4 none, Cond.fieldLink RX0 20 "ThriceCounted$Bank" "bundles" "LThriceCounted$Rows;", Cond.methodLink RX0 54 yX6_put, Cond.instanceMethod yX6_put, Cond.selects RX6 yX6_put yX6_put, Cond.code yX6_put cX6_put 4 none, Cond.fieldLink RX6 27 "ThriceCounted$Rows" "cells" "[I", Cond.fieldLink RX6 24 "ThriceCounted$Rows" "width" "I", Cond.methodLink RX6 31 yX6_hasCell, Cond.instanceMethod yX6_hasCell, Cond.selects RX6 yX6_hasCell yX6_hasCell, Cond.code yX6_hasCell cX6_hasCell 3 (some .boolean)]
def wsX5_bandItem : List Cond := .code yX5_bandItem cX5_bandItem 4 (some .boolean) :: ((wsX5_bandItem_r1 ++ (wsX5_bandItem_r2 ++ wsX5_bandItem_r3)) ++ wsX50 ++ wsX00 ++ wsX60)
def wsX5_countItem_r1 : List Cond := [Cond.fieldLink RX5 12 "ThriceCounted$Reader" "draft" "LThriceCounted$Bank;", Cond.fieldLink RX5 89 "ThriceCounted$Bank" "bundles" "LThriceCounted$Rows;", Cond.fieldLink RX5 75 "ThriceCounted$Bank" "clerks" "LThriceCounted$Rows;", Cond.fieldLink RX5 41 "ThriceCounted$Reader" "faulty" "Z", Cond.methodLink RX5 57 yX5_step, Cond.instanceMethod yX5_step, Cond.selects RX5 yX5_step yX5_step, Cond.initialized RX5, Cond.code yX5_step cX5_step 2 none, Cond.fieldLink RX5 26 "ThriceCounted$Reader" "place" "I", Cond.fieldLink RX5 22 "ThriceCounted$Reader" "length" "I", Cond.fieldLink RX5 32 "ThriceCounted$Reader" "start" "I", Cond.fieldLink RX5 29 "ThriceCounted$Reader" "kind" "I", Cond.methodLink RX5 134 yX5_at, Cond.instanceMethod yX5_at, Cond.selects RX5 yX5_at yX5_at, Cond.code yX5_at cX5_at 2 (some .int), Cond.fieldLink RX5 18 "ThriceCounted$Reader" "text" "[B", Cond.methodLink RX5 141 yX5_isLetter, Cond.static yX5_isLetter, Cond.code yX5_isLetter cX5_isLetter 1 (some .boolean), Cond.methodLink RX5 145 yX5_stepOverWord, Cond.instanceMethod yX5_stepOverWord, Cond.selects RX5 yX5_stepOverWord yX5_stepOverWord]
def wsX5_countItem_r2 : List Cond := [Cond.code yX5_stepOverWord cX5_stepOverWord 1 none, Cond.methodLink RX5 148 yX5_isFigure, Cond.static yX5_isFigure, Cond.code yX5_isFigure cX5_isFigure 1 (some .boolean), Cond.methodLink RX5 151 yX5_stepOverNumber, Cond.instanceMethod yX5_stepOverNumber, Cond.selects RX5 yX5_stepOverNumber yX5_stepOverNumber, Cond.code yX5_stepOverNumber cX5_stepOverNumber 1 none, Cond.fieldLink RX5 35 "ThriceCounted$Reader" "value" "I", Cond.methodLink RX5 45 Lib.Math.min.name, Cond.static Lib.Math.min.name, Cond.initialized "java/lang/Math", Cond.code Lib.Math.min.name Lib.Math.min.code 2 (some .int), Cond.methodLink RX5 118 yX6_size, Cond.instanceMethod yX6_size, Cond.selects RX6 yX6_size yX6_size, Cond.initialized RX6, Cond.code yX6_size cX6_size 1 (some .int), Cond.fieldLink RX6 9 "ThriceCounted$Rows" "size" "I", Cond.methodLink RX5 108 yX5_number, Cond.instanceMethod yX5_number, Cond.selects RX5 yX5_number yX5_number, Cond.code yX5_number cX5_number 4 (some .int), Cond.methodLink RX5 126 yX0_addCount]
def wsX5_countItem_r3 : List Cond := [Cond.instanceMethod yX0_addCount, Cond.selects RX0 yX0_addCount yX0_addCount, Cond.initialized RX0, Cond.code yX0_addCount cX0_addCount 6 (some .int), Cond.fieldLink RX0 23 "ThriceCounted$Bank" "counts" "LThriceCounted$Rows;", Cond.methodLink RX0 50 yX6_grow, Cond.instanceMethod yX6_grow, Cond.selects RX6 yX6_grow yX6_grow, Cond.code yX6_grow cX6_grow 1 (some .int), Cond.methodLink RX6 35 yX6_isFull, Cond.instanceMethod yX6_isFull, Cond.selects RX6 yX6_isFull yX6_isFull, Cond.code yX6_isFull cX6_isFull 1 (some .boolean), Cond.fieldLink RX6 21 "ThriceCounted$Rows" "limit" "I", Cond.methodLink RX0 54 yX6_put, Cond.instanceMethod yX6_put, Cond.selects RX6 yX6_put yX6_put, Cond.code yX6_put cX6_put 4 none, Cond.fieldLink RX6 27 "ThriceCounted$Rows" "cells" "[I", Cond.fieldLink RX6 24 "ThriceCounted$Rows" "width" "I", Cond.methodLink RX6 31 yX6_hasCell, Cond.instanceMethod yX6_hasCell, Cond.selects RX6 yX6_hasCell yX6_hasCell, Cond.code yX6_hasCell cX6_hasCell 3 (some .boolean)]
def wsX5_countItem : List Cond := .code yX5_countItem cX5_countItem 5 (some .boolean) :: ((wsX5_countItem_r1 ++ (wsX5_countItem_r2 ++ wsX5_countItem_r3)) ++ wsX50 ++ wsX00 ++ wsX60)
def wsX5_item_r1 : List Cond := [Cond.fieldLink RX5 12 "ThriceCounted$Reader" "draft" "LThriceCounted$Bank;", Cond.fieldLink RX5 75 "ThriceCounted$Bank" "clerks" "LThriceCounted$Rows;", Cond.fieldLink RX5 89 "ThriceCounted$Bank" "bundles" "LThriceCounted$Rows;", Cond.fieldLink RX5 102 "ThriceCounted$Bank" "counts" "LThriceCounted$Rows;", Cond.methodLink RX5 62 yX5_isWord, Cond.instanceMethod yX5_isWord, Cond.selects RX5 yX5_isWord yX5_isWord, Cond.initialized RX5, Cond.code yX5_isWord cX5_isWord 3 (some .boolean), Cond.fieldLink RX5 29 "ThriceCounted$Reader" "kind" "I", Cond.fieldLink RX5 26 "ThriceCounted$Reader" "place" "I", Cond.fieldLink RX5 32 "ThriceCounted$Reader" "start" "I", Cond.methodLink RX5 130 yJ0_length_8abf5, Cond.instanceMethod yJ0_length_8abf5, Cond.selects RJ0 yJ0_length_8abf5 yJ0_length_8abf5, Cond.initialized RJ0, Cond.code yJ0_length_8abf5 cJ0_length_8abf5 1 (some .int), Cond.fieldLink RJ0 9 "java/lang/String" "value" "[B", Cond.methodLink RJ0 335 yJ0_coder_7d493, Cond.instanceMethod yJ0_coder_7d493, Cond.selects RJ0 yJ0_coder_7d493 yJ0_coder_7d493, Cond.code yJ0_coder_7d493 cJ0_coder_7d493 1 (some .byte), Cond.fieldLink RJ0 38 "java/lang/String" "COMPACT_STRINGS" "Z", Cond.fieldLink RJ0 15 "java/lang/String" "coder" "B"]
def wsX5_item_r2 : List Cond := [Cond.methodLink RX5 134 yX5_at, Cond.instanceMethod yX5_at, Cond.selects RX5 yX5_at yX5_at, Cond.code yX5_at cX5_at 2 (some .int), Cond.fieldLink RX5 22 "ThriceCounted$Reader" "length" "I", Cond.fieldLink RX5 18 "ThriceCounted$Reader" "text" "[B", Cond.methodLink RX5 137 yJ0_charAt_5068e, Cond.instanceMethod yJ0_charAt_5068e, Cond.selects RJ0 yJ0_charAt_5068e yJ0_charAt_5068e, Cond.code yJ0_charAt_5068e cJ0_charAt_5068e 2 (some .char), Cond.methodLink RJ0 492 yJ0_isLatin1_aae02, Cond.instanceMethod yJ0_isLatin1_aae02, Cond.selects RJ0 yJ0_isLatin1_aae02 yJ0_isLatin1_aae02, Cond.code yJ0_isLatin1_aae02 cJ0_isLatin1_aae02 1 (some .boolean), Cond.methodLink RJ0 495 yJ1_charAt_3b067, Cond.static yJ1_charAt_3b067, Cond.initialized RJ1, Cond.code yJ1_charAt_3b067 cJ1_charAt_3b067 2 (some .char), Cond.methodLink RJ1 9 yJ0_checkIndex_df160, Cond.static yJ0_checkIndex_df160, Cond.code yJ0_checkIndex_df160 cJ0_checkIndex_df160 2 none, Cond.fieldLink RJ0 1053 "jdk/internal/util/Preconditions" "SIOOBE_FORMATTER" "Ljava/util/function/BiFunction;", Cond.methodLink RJ0 1059 yJ3_checkIndex_8e157, Cond.static yJ3_checkIndex_8e157]
def wsX5_item_r3 : List Cond := [Cond.initialized RJ3, Cond.code yJ3_checkIndex_8e157 cJ3_checkIndex_8e157 3 (some .int), Cond.methodLink RJ0 498 yJ2_charAt_3b067, Cond.static yJ2_charAt_3b067, Cond.initialized RJ2, Cond.code yJ2_charAt_3b067 cJ2_charAt_3b067 2 (some .char), Cond.methodLink RJ2 67 yJ2_checkIndex_2214a, Cond.static yJ2_checkIndex_2214a, Cond.code yJ2_checkIndex_2214a cJ2_checkIndex_2214a 2 none, Cond.methodLink RJ2 48 yJ2_length_9d52b, Cond.static yJ2_length_9d52b, Cond.code yJ2_length_9d52b cJ2_length_9d52b 1 (some .int), Cond.methodLink RJ2 414 yJ0_checkIndex_df160, Cond.methodLink RJ2 71 yJ2_getChar_3b067, Cond.static yJ2_getChar_3b067, Cond.code yJ2_getChar_3b067 cJ2_getChar_3b067 2 (some .char), Cond.fieldLink RJ2 44 "java/lang/StringUTF16" "$assertionsDisabled" "Z", Cond.fieldLink RJ2 59 "java/lang/StringUTF16" "HI_BYTE_SHIFT" "I", Cond.fieldLink RJ2 63 "java/lang/StringUTF16" "LO_BYTE_SHIFT" "I", Cond.methodLink RX5 79 yX6_isFull, Cond.instanceMethod yX6_isFull, Cond.selects RX6 yX6_isFull yX6_isFull, Cond.initialized RX6, Cond.code yX6_isFull cX6_isFull 1 (some .boolean)]
def wsX5_item_r4 : List Cond := [Cond.fieldLink RX6 9 "ThriceCounted$Rows" "size" "I", Cond.fieldLink RX6 21 "ThriceCounted$Rows" "limit" "I", Cond.methodLink RX5 84 yX5_clerkItem, Cond.instanceMethod yX5_clerkItem, Cond.selects RX5 yX5_clerkItem yX5_clerkItem, Cond.code yX5_clerkItem cX5_clerkItem 2 (some .boolean), Cond.fieldLink RX5 41 "ThriceCounted$Reader" "faulty" "Z", Cond.methodLink RX5 57 yX5_step, Cond.instanceMethod yX5_step, Cond.selects RX5 yX5_step yX5_step, Cond.code yX5_step cX5_step 2 none, Cond.methodLink RX5 141 yX5_isLetter, Cond.static yX5_isLetter, Cond.code yX5_isLetter cX5_isLetter 1 (some .boolean), Cond.methodLink RX5 145 yX5_stepOverWord, Cond.instanceMethod yX5_stepOverWord, Cond.selects RX5 yX5_stepOverWord yX5_stepOverWord, Cond.code yX5_stepOverWord cX5_stepOverWord 1 none, Cond.methodLink RX5 148 yX5_isFigure, Cond.static yX5_isFigure, Cond.code yX5_isFigure cX5_isFigure 1 (some .boolean), Cond.methodLink RX5 151 yX5_stepOverNumber, Cond.instanceMethod yX5_stepOverNumber, Cond.selects RX5 yX5_stepOverNumber yX5_stepOverNumber]
def wsX5_item_r5 : List Cond := [Cond.code yX5_stepOverNumber cX5_stepOverNumber 1 none, Cond.fieldLink RX5 35 "ThriceCounted$Reader" "value" "I", Cond.methodLink RX5 45 Lib.Math.min.name, Cond.static Lib.Math.min.name, Cond.initialized "java/lang/Math", Cond.code Lib.Math.min.name Lib.Math.min.code 2 (some .int), Cond.methodLink RX5 108 yX5_number, Cond.instanceMethod yX5_number, Cond.selects RX5 yX5_number yX5_number, Cond.code yX5_number cX5_number 4 (some .int), Cond.methodLink RX5 111 yX0_addClerk, Cond.instanceMethod yX0_addClerk, Cond.selects RX0 yX0_addClerk yX0_addClerk, Cond.initialized RX0, Cond.code yX0_addClerk cX0_addClerk 3 (some .int), Cond.fieldLink RX0 14 "ThriceCounted$Bank" "clerks" "LThriceCounted$Rows;", Cond.methodLink RX0 50 yX6_grow, Cond.instanceMethod yX6_grow, Cond.selects RX6 yX6_grow yX6_grow, Cond.code yX6_grow cX6_grow 1 (some .int), Cond.methodLink RX6 35 yX6_isFull, Cond.methodLink RX0 54 yX6_put, Cond.instanceMethod yX6_put, Cond.selects RX6 yX6_put yX6_put]
def wsX5_item_r6 : List Cond := [Cond.code yX6_put cX6_put 4 none, Cond.fieldLink RX6 27 "ThriceCounted$Rows" "cells" "[I", Cond.fieldLink RX6 24 "ThriceCounted$Rows" "width" "I", Cond.methodLink RX6 31 yX6_hasCell, Cond.instanceMethod yX6_hasCell, Cond.selects RX6 yX6_hasCell yX6_hasCell, Cond.code yX6_hasCell cX6_hasCell 3 (some .boolean), Cond.methodLink RX5 92 yX5_bundleItem, Cond.instanceMethod yX5_bundleItem, Cond.selects RX5 yX5_bundleItem yX5_bundleItem, Cond.code yX5_bundleItem cX5_bundleItem 3 (some .boolean), Cond.methodLink RX5 115 yX0_addBundle, Cond.instanceMethod yX0_addBundle, Cond.selects RX0 yX0_addBundle yX0_addBundle, Cond.code yX0_addBundle cX0_addBundle 4 (some .int), Cond.fieldLink RX0 20 "ThriceCounted$Bank" "bundles" "LThriceCounted$Rows;", Cond.methodLink RX5 97 yX5_bandItem, Cond.instanceMethod yX5_bandItem, Cond.selects RX5 yX5_bandItem yX5_bandItem, Cond.code yX5_bandItem cX5_bandItem 4 (some .boolean), Cond.methodLink RX5 118 yX6_size, Cond.instanceMethod yX6_size, Cond.selects RX6 yX6_size yX6_size, Cond.code yX6_size cX6_size 1 (some .int)]
def wsX5_item_r7 : List Cond := [Cond.methodLink RX5 122 yX0_putBand, Cond.instanceMethod yX0_putBand, Cond.selects RX0 yX0_putBand yX0_putBand, Cond.code yX0_putBand cX0_putBand 4 none, Cond.methodLink RX5 105 yX5_countItem, Cond.instanceMethod yX5_countItem, Cond.selects RX5 yX5_countItem yX5_countItem, Cond.code yX5_countItem cX5_countItem 5 (some .boolean), Cond.methodLink RX5 126 yX0_addCount, Cond.instanceMethod yX0_addCount, Cond.selects RX0 yX0_addCount yX0_addCount, Cond.code yX0_addCount cX0_addCount 6 (some .int), Cond.fieldLink RX0 23 "ThriceCounted$Bank" "counts" "LThriceCounted$Rows;"]
def wsX5_item : List Cond := .code yX5_item cX5_item 1 (some .boolean) :: ((wsX5_item_r1 ++ (wsX5_item_r2 ++ (wsX5_item_r3 ++ (wsX5_item_r4 ++ (wsX5_item_r5 ++ (wsX5_item_r6 ++ wsX5_item_r7)))))) ++ wsX50 ++ wsX00 ++ wsX60)
def wsX5_parse_r1 : List Cond := [Cond.fieldLink RX5 18 "ThriceCounted$Reader" "text" "[B", Cond.methodLink RX5 45 Lib.Math.min.name, Cond.static Lib.Math.min.name, Cond.initialized "java/lang/Math", Cond.code Lib.Math.min.name Lib.Math.min.code 2 (some .int), Cond.methodLink RX5 51 Lib.Math.max.name, Cond.static Lib.Math.max.name, Cond.code Lib.Math.max.name Lib.Math.max.code 2 (some .int), Cond.fieldLink RX5 22 "ThriceCounted$Reader" "length" "I", Cond.fieldLink RX5 26 "ThriceCounted$Reader" "place" "I", Cond.fieldLink RX5 38 "ThriceCounted$Reader" "items" "I", Cond.fieldLink RX5 41 "ThriceCounted$Reader" "faulty" "Z", Cond.fieldLink RX5 12 "ThriceCounted$Reader" "draft" "LThriceCounted$Bank;", Cond.fieldLink RX5 29 "ThriceCounted$Reader" "kind" "I", Cond.methodLink RX5 54 yX0_empty, Cond.instanceMethod yX0_empty, Cond.selects RX0 yX0_empty yX0_empty, Cond.initialized RX0, Cond.code yX0_empty cX0_empty 1 none, Cond.fieldLink RX0 14 "ThriceCounted$Bank" "clerks" "LThriceCounted$Rows;", Cond.fieldLink RX0 20 "ThriceCounted$Bank" "bundles" "LThriceCounted$Rows;", Cond.fieldLink RX0 23 "ThriceCounted$Bank" "counts" "LThriceCounted$Rows;", Cond.fieldLink RX0 26 "ThriceCounted$Bank" "causes" "LThriceCounted$Rows;", Cond.fieldLink RX0 33 "ThriceCounted$Bank" "undos" "I"]
def wsX5_parse_r2 : List Cond := [Cond.methodLink RX0 37 yX6_empty, Cond.instanceMethod yX6_empty, Cond.selects RX6 yX6_empty yX6_empty, Cond.initialized RX6, Cond.code yX6_empty cX6_empty 1 none, Cond.fieldLink RX6 9 "ThriceCounted$Rows" "size" "I", Cond.methodLink RX5 57 yX5_step, Cond.instanceMethod yX5_step, Cond.selects RX5 yX5_step yX5_step, Cond.initialized RX5, Cond.code yX5_step cX5_step 2 none, Cond.fieldLink RX5 32 "ThriceCounted$Reader" "start" "I", Cond.methodLink RX5 134 yX5_at, Cond.instanceMethod yX5_at, Cond.selects RX5 yX5_at yX5_at, Cond.code yX5_at cX5_at 2 (some .int), Cond.methodLink RX5 141 yX5_isLetter, Cond.static yX5_isLetter, Cond.code yX5_isLetter cX5_isLetter 1 (some .boolean), Cond.methodLink RX5 145 yX5_stepOverWord, Cond.instanceMethod yX5_stepOverWord, Cond.selects RX5 yX5_stepOverWord yX5_stepOverWord, Cond.code yX5_stepOverWord cX5_stepOverWord 1 none, Cond.methodLink RX5 148 yX5_isFigure]
def wsX5_parse_r3 : List Cond := [Cond.static yX5_isFigure, Cond.code yX5_isFigure cX5_isFigure 1 (some .boolean), Cond.methodLink RX5 151 yX5_stepOverNumber, Cond.instanceMethod yX5_stepOverNumber, Cond.selects RX5 yX5_stepOverNumber yX5_stepOverNumber, Cond.code yX5_stepOverNumber cX5_stepOverNumber 1 none, Cond.fieldLink RX5 35 "ThriceCounted$Reader" "value" "I", Cond.methodLink RX5 62 yX5_isWord, Cond.instanceMethod yX5_isWord, Cond.selects RX5 yX5_isWord yX5_isWord, Cond.code yX5_isWord cX5_isWord 3 (some .boolean), Cond.methodLink RX5 130 yJ0_length_8abf5, Cond.instanceMethod yJ0_length_8abf5, Cond.selects RJ0 yJ0_length_8abf5 yJ0_length_8abf5, Cond.initialized RJ0, Cond.code yJ0_length_8abf5 cJ0_length_8abf5 1 (some .int), Cond.fieldLink RJ0 9 "java/lang/String" "value" "[B", Cond.methodLink RJ0 335 yJ0_coder_7d493, Cond.instanceMethod yJ0_coder_7d493, Cond.selects RJ0 yJ0_coder_7d493 yJ0_coder_7d493, Cond.code yJ0_coder_7d493 cJ0_coder_7d493 1 (some .byte), Cond.fieldLink RJ0 38 "java/lang/String" "COMPACT_STRINGS" "Z", Cond.fieldLink RJ0 15 "java/lang/String" "coder" "B", Cond.methodLink RX5 137 yJ0_charAt_5068e]
def wsX5_parse_r4 : List Cond := [Cond.instanceMethod yJ0_charAt_5068e, Cond.selects RJ0 yJ0_charAt_5068e yJ0_charAt_5068e, Cond.code yJ0_charAt_5068e cJ0_charAt_5068e 2 (some .char), Cond.methodLink RJ0 492 yJ0_isLatin1_aae02, Cond.instanceMethod yJ0_isLatin1_aae02, Cond.selects RJ0 yJ0_isLatin1_aae02 yJ0_isLatin1_aae02, Cond.code yJ0_isLatin1_aae02 cJ0_isLatin1_aae02 1 (some .boolean), Cond.methodLink RJ0 495 yJ1_charAt_3b067, Cond.static yJ1_charAt_3b067, Cond.initialized RJ1, Cond.code yJ1_charAt_3b067 cJ1_charAt_3b067 2 (some .char), Cond.methodLink RJ1 9 yJ0_checkIndex_df160, Cond.static yJ0_checkIndex_df160, Cond.code yJ0_checkIndex_df160 cJ0_checkIndex_df160 2 none, Cond.fieldLink RJ0 1053 "jdk/internal/util/Preconditions" "SIOOBE_FORMATTER" "Ljava/util/function/BiFunction;", Cond.methodLink RJ0 1059 yJ3_checkIndex_8e157, Cond.static yJ3_checkIndex_8e157, Cond.initialized RJ3, Cond.code yJ3_checkIndex_8e157 cJ3_checkIndex_8e157 3 (some .int), Cond.methodLink RJ0 498 yJ2_charAt_3b067, Cond.static yJ2_charAt_3b067, Cond.initialized RJ2, Cond.code yJ2_charAt_3b067 cJ2_charAt_3b067 2 (some .char), Cond.methodLink RJ2 67 yJ2_checkIndex_2214a]
def wsX5_parse_r5 : List Cond := [Cond.static yJ2_checkIndex_2214a, Cond.code yJ2_checkIndex_2214a cJ2_checkIndex_2214a 2 none, Cond.methodLink RJ2 48 yJ2_length_9d52b, Cond.static yJ2_length_9d52b, Cond.code yJ2_length_9d52b cJ2_length_9d52b 1 (some .int), Cond.methodLink RJ2 414 yJ0_checkIndex_df160, Cond.methodLink RJ2 71 yJ2_getChar_3b067, Cond.static yJ2_getChar_3b067, Cond.code yJ2_getChar_3b067 cJ2_getChar_3b067 2 (some .char), Cond.fieldLink RJ2 44 "java/lang/StringUTF16" "$assertionsDisabled" "Z", Cond.fieldLink RJ2 59 "java/lang/StringUTF16" "HI_BYTE_SHIFT" "I", Cond.fieldLink RJ2 63 "java/lang/StringUTF16" "LO_BYTE_SHIFT" "I", Cond.methodLink RX5 66 yX5_endItem, Cond.instanceMethod yX5_endItem, Cond.selects RX5 yX5_endItem yX5_endItem, Cond.code yX5_endItem cX5_endItem 1 (some .boolean), Cond.methodLink RX5 70 yX5_item, Cond.instanceMethod yX5_item, Cond.selects RX5 yX5_item yX5_item, Cond.code yX5_item cX5_item 1 (some .boolean), Cond.fieldLink RX5 75 "ThriceCounted$Bank" "clerks" "LThriceCounted$Rows;", Cond.fieldLink RX5 89 "ThriceCounted$Bank" "bundles" "LThriceCounted$Rows;", Cond.fieldLink RX5 102 "ThriceCounted$Bank" "counts" "LThriceCounted$Rows;", Cond.methodLink RX5 79 yX6_isFull]
def wsX5_parse_r6 : List Cond := [Cond.instanceMethod yX6_isFull, Cond.selects RX6 yX6_isFull yX6_isFull, Cond.code yX6_isFull cX6_isFull 1 (some .boolean), Cond.fieldLink RX6 21 "ThriceCounted$Rows" "limit" "I", Cond.methodLink RX5 84 yX5_clerkItem, Cond.instanceMethod yX5_clerkItem, Cond.selects RX5 yX5_clerkItem yX5_clerkItem, Cond.code yX5_clerkItem cX5_clerkItem 2 (some .boolean), Cond.methodLink RX5 108 yX5_number, Cond.instanceMethod yX5_number, Cond.selects RX5 yX5_number yX5_number, Cond.code yX5_number cX5_number 4 (some .int), Cond.methodLink RX5 111 yX0_addClerk, Cond.instanceMethod yX0_addClerk, Cond.selects RX0 yX0_addClerk yX0_addClerk, Cond.code yX0_addClerk cX0_addClerk 3 (some .int), Cond.methodLink RX0 50 yX6_grow, Cond.instanceMethod yX6_grow, Cond.selects RX6 yX6_grow yX6_grow, Cond.code yX6_grow cX6_grow 1 (some .int), Cond.methodLink RX6 35 yX6_isFull, Cond.methodLink RX0 54 yX6_put, Cond.instanceMethod yX6_put, Cond.selects RX6 yX6_put yX6_put]
def wsX5_parse_r7 : List Cond := [Cond.code yX6_put cX6_put 4 none, Cond.fieldLink RX6 27 "ThriceCounted$Rows" "cells" "[I", Cond.fieldLink RX6 24 "ThriceCounted$Rows" "width" "I", Cond.methodLink RX6 31 yX6_hasCell, Cond.instanceMethod yX6_hasCell, Cond.selects RX6 yX6_hasCell yX6_hasCell, Cond.code yX6_hasCell cX6_hasCell 3 (some .boolean), Cond.methodLink RX5 92 yX5_bundleItem, Cond.instanceMethod yX5_bundleItem, Cond.selects RX5 yX5_bundleItem yX5_bundleItem, Cond.code yX5_bundleItem cX5_bundleItem 3 (some .boolean), Cond.methodLink RX5 115 yX0_addBundle, Cond.instanceMethod yX0_addBundle, Cond.selects RX0 yX0_addBundle yX0_addBundle, Cond.code yX0_addBundle cX0_addBundle 4 (some .int), Cond.methodLink RX5 97 yX5_bandItem, Cond.instanceMethod yX5_bandItem, Cond.selects RX5 yX5_bandItem yX5_bandItem, Cond.code yX5_bandItem cX5_bandItem 4 (some .boolean), Cond.methodLink RX5 118 yX6_size, Cond.instanceMethod yX6_size, Cond.selects RX6 yX6_size yX6_size, Cond.code yX6_size cX6_size 1 (some .int), Cond.methodLink RX5 122 yX0_putBand]
def wsX5_parse_r8 : List Cond := [Cond.instanceMethod yX0_putBand, Cond.selects RX0 yX0_putBand yX0_putBand, Cond.code yX0_putBand cX0_putBand 4 none, Cond.methodLink RX5 105 yX5_countItem, Cond.instanceMethod yX5_countItem, Cond.selects RX5 yX5_countItem yX5_countItem, Cond.code yX5_countItem cX5_countItem 5 (some .boolean), Cond.methodLink RX5 126 yX0_addCount, Cond.instanceMethod yX0_addCount, Cond.selects RX0 yX0_addCount yX0_addCount, Cond.code yX0_addCount cX0_addCount 6 (some .int)]
def wsX5_parse : List Cond := .code yX5_parse cX5_parse 4 (some .boolean) :: ((wsX5_parse_r1 ++ (wsX5_parse_r2 ++ (wsX5_parse_r3 ++ (wsX5_parse_r4 ++ (wsX5_parse_r5 ++ (wsX5_parse_r6 ++ (wsX5_parse_r7 ++ wsX5_parse_r8))))))) ++ wsX50 ++ wsX00 ++ wsX60)
def wsX6_has : List Cond := .code yX6_has cX6_has 2 (some .boolean) :: ([.fieldLink RX6 9 "ThriceCounted$Rows" "size" "I"] ++ wsX60)
def wsX6_remove : List Cond := .code yX6_remove cX6_remove 4 none :: ([.fieldLink RX6 9 "ThriceCounted$Rows" "size" "I", .fieldLink RX6 24 "ThriceCounted$Rows" "width" "I", .methodLink RX6 39 yX6_has, .instanceMethod yX6_has, .selects RX6 yX6_has yX6_has, .initialized RX6, .code yX6_has cX6_has 2 (some .boolean), .methodLink RX6 43 yX6_get, .instanceMethod yX6_get, .selects RX6 yX6_get yX6_get, .code yX6_get cX6_get 3 (some .int), .fieldLink RX6 27 "ThriceCounted$Rows" "cells" "[I", .methodLink RX6 31 yX6_hasCell, .instanceMethod yX6_hasCell, .selects RX6 yX6_hasCell yX6_hasCell, .code yX6_hasCell cX6_hasCell 3 (some .boolean), .methodLink RX6 46 yX6_put, .instanceMethod yX6_put, .selects RX6 yX6_put yX6_put, .code yX6_put cX6_put 4 none] ++ wsX60)
def wsX6_mixInto : List Cond := .code yX6_mixInto cX6_mixInto 6 (some .long) :: ([.fieldLink RX6 9 "ThriceCounted$Rows" "size" "I", .fieldLink RX6 24 "ThriceCounted$Rows" "width" "I", .fieldLink RX6 27 "ThriceCounted$Rows" "cells" "[I", .constantLong RX6 59 (31)] ++ wsX60)
def wsX7_init : List Cond := .code yX7_init cX7_init 1 none :: ([.methodLink RX7 3 objectInit, .instanceMethod objectInit, .code objectInit ⟨#[0xb1]⟩ 1 none, .arrayClass .long, .fieldLink RX7 9 "ThriceCounted$Scale" "weights" "[J", .arrayClass .int, .fieldLink RX7 15 "ThriceCounted$Scale" "chances" "[I"] ++ wsX70)
def wsX7_firstWeight : List Cond := .code yX7_firstWeight cX7_firstWeight 7 (some .long) :: ([.fieldLink RX7 43 "ThriceCounted$Bank" "bundles" "LThriceCounted$Rows;", .fieldLink RX7 46 "ThriceCounted$Bank" "clerks" "LThriceCounted$Rows;", .methodLink RX7 35 yX6_get, .instanceMethod yX6_get, .selects RX6 yX6_get yX6_get, .initialized RX6, .code yX6_get cX6_get 3 (some .int), .fieldLink RX6 27 "ThriceCounted$Rows" "cells" "[I", .fieldLink RX6 24 "ThriceCounted$Rows" "width" "I", .methodLink RX6 31 yX6_hasCell, .instanceMethod yX6_hasCell, .selects RX6 yX6_hasCell yX6_hasCell, .code yX6_hasCell cX6_hasCell 3 (some .boolean), .fieldLink RX6 9 "ThriceCounted$Rows" "size" "I"] ++ wsX00 ++ wsX60)
def wsX7_addCounts_r1 : List Cond := [Cond.fieldLink RX7 15 "ThriceCounted$Scale" "chances" "[I", Cond.fieldLink RX7 9 "ThriceCounted$Scale" "weights" "[J", Cond.methodLink RX7 49 ⟨"ThriceCounted$Ones", "slip", "(I)I"⟩, Cond.sameMethod "ThriceCounted$Ones" "ThriceCounted$Ones" "slip" "(I)I", Cond.instanceMethod ⟨"ThriceCounted$Ones", "slip", "(I)I"⟩, Cond.selects RX1 ⟨"ThriceCounted$Ones", "slip", "(I)I"⟩ yX1_slip, Cond.instanceMethod yX1_slip, Cond.initialized RX1, Cond.code yX1_slip cX1_slip 2 (some .int), Cond.methodLink RX1 7 yX4_slip, Cond.superclass RX1 RX4, Cond.instanceMethod yX4_slip, Cond.initialized RX4, Cond.code yX4_slip cX4_slip 2 (some .int), Cond.selects RX3 ⟨"ThriceCounted$Ones", "slip", "(I)I"⟩ yX3_slip, Cond.instanceMethod yX3_slip, Cond.initialized RX3, Cond.code yX3_slip cX3_slip 2 (some .int), Cond.methodLink RX3 7 yX10_slip, Cond.sameMethod "ThriceCounted$Weighed" "ThriceCounted$Weighed" "slip" "(I)I", Cond.superclass RX3 RX10, Cond.instanceMethod yX10_slip, Cond.initialized RX10, Cond.code yX10_slip cX10_slip 2 (some .int)]
def wsX7_addCounts_r2 : List Cond := [Cond.methodLink RX7 49 yX4_slip, Cond.selects RX4 yX4_slip yX4_slip, Cond.selects RX8 ⟨"ThriceCounted$Ones", "slip", "(I)I"⟩ yX8_slip, Cond.instanceMethod yX8_slip, Cond.initialized RX8, Cond.code yX8_slip cX8_slip 2 (some .int), Cond.methodLink RX8 7 yX9_slip, Cond.sameMethod "ThriceCounted$Talked" "ThriceCounted$Talked" "slip" "(I)I", Cond.superclass RX8 RX9, Cond.instanceMethod yX9_slip, Cond.initialized RX9, Cond.code yX9_slip cX9_slip 2 (some .int), Cond.methodLink RX9 7 yX4_slip, Cond.superclass RX9 RX4, Cond.selects RX9 ⟨"ThriceCounted$Ones", "slip", "(I)I"⟩ yX9_slip, Cond.selects RX10 ⟨"ThriceCounted$Ones", "slip", "(I)I"⟩ yX10_slip]
def wsX7_addCounts : List Cond := .code yX7_addCounts cX7_addCounts 6 none :: ((wsX7_addCounts_r1 ++ wsX7_addCounts_r2) ++ wsX70)
def wsX7_weigh_r1 : List Cond := [Cond.fieldLink RX7 9 "ThriceCounted$Scale" "weights" "[J", Cond.fieldLink RX7 23 "ThriceCounted$Bank" "counts" "LThriceCounted$Rows;", Cond.methodLink RX7 19 yX7_firstWeight, Cond.static yX7_firstWeight, Cond.initialized RX7, Cond.code yX7_firstWeight cX7_firstWeight 7 (some .long), Cond.fieldLink RX7 43 "ThriceCounted$Bank" "bundles" "LThriceCounted$Rows;", Cond.fieldLink RX7 46 "ThriceCounted$Bank" "clerks" "LThriceCounted$Rows;", Cond.methodLink RX7 35 yX6_get, Cond.instanceMethod yX6_get, Cond.selects RX6 yX6_get yX6_get, Cond.initialized RX6, Cond.code yX6_get cX6_get 3 (some .int), Cond.fieldLink RX6 27 "ThriceCounted$Rows" "cells" "[I", Cond.fieldLink RX6 24 "ThriceCounted$Rows" "width" "I", Cond.methodLink RX6 31 yX6_hasCell, Cond.instanceMethod yX6_hasCell, Cond.selects RX6 yX6_hasCell yX6_hasCell, Cond.code yX6_hasCell cX6_hasCell 3 (some .boolean), Cond.fieldLink RX6 9 "ThriceCounted$Rows" "size" "I", Cond.methodLink RX7 29 yX6_size, Cond.instanceMethod yX6_size, Cond.selects RX6 yX6_size yX6_size, Cond.code yX6_size cX6_size 1 (some .int)]
def wsX7_weigh_r2 : List Cond := [Cond.methodLink RX7 39 yX7_addCounts, Cond.instanceMethod yX7_addCounts, Cond.selects RX7 yX7_addCounts yX7_addCounts, Cond.code yX7_addCounts cX7_addCounts 6 none, Cond.fieldLink RX7 15 "ThriceCounted$Scale" "chances" "[I", Cond.methodLink RX7 49 ⟨"ThriceCounted$Ones", "slip", "(I)I"⟩, Cond.sameMethod "ThriceCounted$Ones" "ThriceCounted$Ones" "slip" "(I)I", Cond.instanceMethod ⟨"ThriceCounted$Ones", "slip", "(I)I"⟩, Cond.selects RX1 ⟨"ThriceCounted$Ones", "slip", "(I)I"⟩ yX1_slip, Cond.instanceMethod yX1_slip, Cond.initialized RX1, Cond.code yX1_slip cX1_slip 2 (some .int), Cond.methodLink RX1 7 yX4_slip, Cond.superclass RX1 RX4, Cond.instanceMethod yX4_slip, Cond.initialized RX4, Cond.code yX4_slip cX4_slip 2 (some .int), Cond.selects RX3 ⟨"ThriceCounted$Ones", "slip", "(I)I"⟩ yX3_slip, Cond.instanceMethod yX3_slip, Cond.initialized RX3, Cond.code yX3_slip cX3_slip 2 (some .int), Cond.methodLink RX3 7 yX10_slip, Cond.sameMethod "ThriceCounted$Weighed" "ThriceCounted$Weighed" "slip" "(I)I", Cond.superclass RX3 RX10]
def wsX7_weigh_r3 : List Cond := [Cond.instanceMethod yX10_slip, Cond.initialized RX10, Cond.code yX10_slip cX10_slip 2 (some .int), Cond.methodLink RX7 49 yX4_slip, Cond.selects RX4 yX4_slip yX4_slip, Cond.selects RX8 ⟨"ThriceCounted$Ones", "slip", "(I)I"⟩ yX8_slip, Cond.instanceMethod yX8_slip, Cond.initialized RX8, Cond.code yX8_slip cX8_slip 2 (some .int), Cond.methodLink RX8 7 yX9_slip, Cond.sameMethod "ThriceCounted$Talked" "ThriceCounted$Talked" "slip" "(I)I", Cond.superclass RX8 RX9, Cond.instanceMethod yX9_slip, Cond.initialized RX9, Cond.code yX9_slip cX9_slip 2 (some .int), Cond.methodLink RX9 7 yX4_slip, Cond.superclass RX9 RX4, Cond.selects RX9 ⟨"ThriceCounted$Ones", "slip", "(I)I"⟩ yX9_slip, Cond.selects RX10 ⟨"ThriceCounted$Ones", "slip", "(I)I"⟩ yX10_slip]
def wsX7_weigh : List Cond := .code yX7_weigh cX7_weigh 6 none :: ((wsX7_weigh_r1 ++ (wsX7_weigh_r2 ++ wsX7_weigh_r3)) ++ wsX70 ++ wsX00 ++ wsX60)
def wsX7_weightOf : List Cond := .code yX7_weightOf cX7_weightOf 3 (some .long) :: ([.fieldLink RX7 9 "ThriceCounted$Scale" "weights" "[J"] ++ wsX70)
def wsX7_total : List Cond := .code yX7_total cX7_total 4 (some .long) :: ([.fieldLink RX7 9 "ThriceCounted$Scale" "weights" "[J"] ++ wsX70)
def wsX7_heaviest : List Cond := .code yX7_heaviest cX7_heaviest 5 (some .int) :: ([.fieldLink RX7 9 "ThriceCounted$Scale" "weights" "[J"] ++ wsX70)
def wsX7_possible : List Cond := .code yX7_possible cX7_possible 3 (some .int) :: ([.fieldLink RX7 9 "ThriceCounted$Scale" "weights" "[J"] ++ wsX70)
def wsX9_init : List Cond := .code yX9_init cX9_init 1 none :: ([.instanceMethod yX4_init, .initialized RX4, .code yX4_init cX4_init 1 none, .methodLink RX4 3 objectInit, .instanceMethod objectInit, .code objectInit ⟨#[0xb1]⟩ 1 none])
def wsX8_init : List Cond := .code yX8_init cX8_init 1 none :: ([.instanceMethod yX9_init, .initialized RX9, .code yX9_init cX9_init 1 none, .instanceMethod yX4_init, .initialized RX4, .code yX4_init cX4_init 1 none, .methodLink RX4 3 objectInit, .instanceMethod objectInit, .code objectInit ⟨#[0xb1]⟩ 1 none])
def wsX9_minutes : List Cond := .code yX9_minutes cX9_minutes 1 (some .int) :: ([.methodLink RX9 11 yX4_minutes, .sameMethod "ThriceCounted$Ones" "ThriceCounted$Ones" "minutes" "()I", .superclass RX9 RX4, .instanceMethod yX4_minutes, .initialized RX4, .code yX4_minutes cX4_minutes 1 (some .int)])
def wsX10_minutes : List Cond := .code yX10_minutes cX10_minutes 1 (some .int) :: ([])
def wsX11_init_r1 : List Cond := [Cond.methodLink RX11 1 objectInit, Cond.instanceMethod objectInit, Cond.code objectInit ⟨#[0xb1]⟩ 1 none, Cond.classLink RX11 7 RX4, Cond.instantiable RX4 0, Cond.initialized RX4, Cond.classLink RX11 10 RX1, Cond.instantiable RX1 0, Cond.initialized RX1, Cond.classLink RX11 13 RX10, Cond.instantiable RX10 0, Cond.initialized RX10, Cond.classLink RX11 16 RX3, Cond.instantiable RX3 0, Cond.initialized RX3, Cond.classLink RX11 19 RX9, Cond.instantiable RX9 0, Cond.initialized RX9, Cond.classLink RX11 22 RX8, Cond.instantiable RX8 0, Cond.initialized RX8, Cond.fieldLink RX11 25 "ThriceCounted" "ways" "[LThriceCounted$Ones;", Cond.classLink RX11 31 RX0, Cond.instantiable RX0 6]
def wsX11_init_r2 : List Cond := [Cond.initialized RX0, Cond.fieldLink RX11 34 "ThriceCounted" "bank" "LThriceCounted$Bank;", Cond.fieldLink RX11 38 "ThriceCounted" "images" "[LThriceCounted$Bank;", Cond.arrayClass .boolean, Cond.fieldLink RX11 42 "ThriceCounted" "kept" "[Z", Cond.classLink RX11 46 RX7, Cond.instantiable RX7 2, Cond.initialized RX7, Cond.fieldLink RX11 49 "ThriceCounted" "scale" "LThriceCounted$Scale;", Cond.classLink RX11 53 RX5, Cond.instantiable RX5 9, Cond.initialized RX5, Cond.fieldLink RX11 56 "ThriceCounted" "reader" "LThriceCounted$Reader;", Cond.classLink RX11 60 RX2, Cond.instantiable RX2 2, Cond.initialized RX2, Cond.fieldLink RX11 63 "ThriceCounted" "fraction" "LThriceCounted$Fraction;", Cond.arrayClass .byte, Cond.fieldLink RX11 67 "ThriceCounted" "text" "[B", Cond.fieldLink RX11 71 "ThriceCounted" "typed" "I", Cond.arrayClass .int, Cond.fieldLink RX11 75 "ThriceCounted" "refused" "[I", Cond.fieldLink RX11 79 "ThriceCounted" "truths" "[I", Cond.fieldLink RX11 82 "ThriceCounted" "order" "[I"]
def wsX11_init_r3 : List Cond := [Cond.instanceMethod yX4_init, Cond.code yX4_init cX4_init 1 none, Cond.methodLink RX4 3 objectInit, Cond.instanceMethod yX1_init, Cond.code yX1_init cX1_init 1 none, Cond.instanceMethod yX10_init, Cond.code yX10_init cX10_init 1 none, Cond.instanceMethod yX3_init, Cond.code yX3_init cX3_init 1 none, Cond.instanceMethod yX9_init, Cond.code yX9_init cX9_init 1 none, Cond.instanceMethod yX8_init, Cond.code yX8_init cX8_init 1 none, Cond.methodLink RX11 33 yX0_init, Cond.instanceMethod yX0_init, Cond.code yX0_init cX0_init 2 none, Cond.methodLink RX0 3 objectInit, Cond.classLink RX0 9 RX6, Cond.instantiable RX6 4, Cond.initialized RX6, Cond.fieldLink RX0 14 "ThriceCounted$Bank" "clerks" "LThriceCounted$Rows;", Cond.fieldLink RX0 20 "ThriceCounted$Bank" "bundles" "LThriceCounted$Rows;", Cond.fieldLink RX0 23 "ThriceCounted$Bank" "counts" "LThriceCounted$Rows;", Cond.fieldLink RX0 26 "ThriceCounted$Bank" "causes" "LThriceCounted$Rows;"]
def wsX11_init_r4 : List Cond := [Cond.fieldLink RX0 29 "ThriceCounted$Bank" "earlier" "[LThriceCounted$Rows;", Cond.fieldLink RX0 33 "ThriceCounted$Bank" "undos" "I", Cond.methodLink RX0 11 yX6_init, Cond.instanceMethod yX6_init, Cond.code yX6_init cX6_init 3 none, Cond.methodLink RX6 3 objectInit, Cond.fieldLink RX6 9 "ThriceCounted$Rows" "size" "I", Cond.methodLink RX6 15 Lib.Math.max.name, Cond.static Lib.Math.max.name, Cond.initialized "java/lang/Math", Cond.code Lib.Math.max.name Lib.Math.max.code 2 (some .int), Cond.fieldLink RX6 21 "ThriceCounted$Rows" "limit" "I", Cond.fieldLink RX6 24 "ThriceCounted$Rows" "width" "I", Cond.fieldLink RX6 27 "ThriceCounted$Rows" "cells" "[I", Cond.instanceMethod yX7_init, Cond.code yX7_init cX7_init 1 none, Cond.methodLink RX7 3 objectInit, Cond.arrayClass .long, Cond.fieldLink RX7 9 "ThriceCounted$Scale" "weights" "[J", Cond.fieldLink RX7 15 "ThriceCounted$Scale" "chances" "[I", Cond.instanceMethod yX5_init, Cond.code yX5_init cX5_init 1 none, Cond.methodLink RX5 3 objectInit, Cond.classLink RX5 9 RX0]
def wsX11_init_r5 : List Cond := [Cond.fieldLink RX5 12 "ThriceCounted$Reader" "draft" "LThriceCounted$Bank;", Cond.fieldLink RX5 18 "ThriceCounted$Reader" "text" "[B", Cond.fieldLink RX5 22 "ThriceCounted$Reader" "length" "I", Cond.fieldLink RX5 26 "ThriceCounted$Reader" "place" "I", Cond.fieldLink RX5 29 "ThriceCounted$Reader" "kind" "I", Cond.fieldLink RX5 32 "ThriceCounted$Reader" "start" "I", Cond.fieldLink RX5 35 "ThriceCounted$Reader" "value" "I", Cond.fieldLink RX5 38 "ThriceCounted$Reader" "items" "I", Cond.fieldLink RX5 41 "ThriceCounted$Reader" "faulty" "Z", Cond.methodLink RX5 11 yX0_init, Cond.instanceMethod yX2_init, Cond.code yX2_init cX2_init 1 none, Cond.methodLink RX2 1 objectInit, Cond.fieldLink RX2 7 "ThriceCounted$Fraction" "above" "J", Cond.fieldLink RX2 13 "ThriceCounted$Fraction" "below" "J"]
def wsX11_init : List Cond := .code yX11_init cX11_init 1 none :: ((wsX11_init_r1 ++ (wsX11_init_r2 ++ (wsX11_init_r3 ++ (wsX11_init_r4 ++ wsX11_init_r5)))) ++ wsX40 ++ wsX10 ++ wsX100 ++ wsX30 ++ wsX90 ++ wsX80 ++ wsX110 ++ wsX00 ++ wsX70 ++ wsX50 ++ wsX20 ++ wsX60)
def wsX11_bank_r1 : List Cond := [Cond.fieldLink RX11 34 "ThriceCounted" "bank" "LThriceCounted$Bank;", Cond.fieldLink RX11 85 "ThriceCounted$Bank" "bundles" "LThriceCounted$Rows;", Cond.fieldLink RX11 71 "ThriceCounted" "typed" "I", Cond.fieldLink RX11 63 "ThriceCounted" "fraction" "LThriceCounted$Fraction;", Cond.fieldLink RX11 42 "ThriceCounted" "kept" "[Z", Cond.fieldLink RX11 75 "ThriceCounted" "refused" "[I", Cond.methodLink RX11 89 yX6_size, Cond.instanceMethod yX6_size, Cond.selects RX6 yX6_size yX6_size, Cond.initialized RX6, Cond.code yX6_size cX6_size 1 (some .int), Cond.fieldLink RX6 9 "ThriceCounted$Rows" "size" "I", Cond.methodLink RX11 95 yX0_empty, Cond.instanceMethod yX0_empty, Cond.selects RX0 yX0_empty yX0_empty, Cond.initialized RX0, Cond.code yX0_empty cX0_empty 1 none, Cond.fieldLink RX0 14 "ThriceCounted$Bank" "clerks" "LThriceCounted$Rows;", Cond.fieldLink RX0 20 "ThriceCounted$Bank" "bundles" "LThriceCounted$Rows;", Cond.fieldLink RX0 23 "ThriceCounted$Bank" "counts" "LThriceCounted$Rows;", Cond.fieldLink RX0 26 "ThriceCounted$Bank" "causes" "LThriceCounted$Rows;", Cond.fieldLink RX0 33 "ThriceCounted$Bank" "undos" "I", Cond.methodLink RX0 37 yX6_empty, Cond.instanceMethod yX6_empty]
def wsX11_bank_r2 : List Cond := [Cond.selects RX6 yX6_empty yX6_empty, Cond.code yX6_empty cX6_empty 1 none, Cond.methodLink RX11 98 yX2_become, Cond.instanceMethod yX2_become, Cond.selects RX2 yX2_become yX2_become, Cond.initialized RX2, Cond.code yX2_become cX2_become 7 none, Cond.fieldLink RX2 7 "ThriceCounted$Fraction" "above" "J", Cond.fieldLink RX2 13 "ThriceCounted$Fraction" "below" "J", Cond.methodLink RX2 16 yX2_commonDivisor, Cond.static yX2_commonDivisor, Cond.code yX2_commonDivisor cX2_commonDivisor 11 (some .long)]
def wsX11_bank : List Cond := .code yX11_bank cX11_bank 3 (some .int) :: ((wsX11_bank_r1 ++ wsX11_bank_r2) ++ wsX110 ++ wsX00 ++ wsX60 ++ wsX20)
def wsX11_within : List Cond := .code yX11_within cX11_within 3 (some .boolean) :: ([])
def wsX11_refuseAs : List Cond := .code yX11_refuseAs cX11_refuseAs 4 (some .int) :: ([.fieldLink RX11 75 "ThriceCounted" "refused" "[I"] ++ wsX110)
def wsX11_refuse : List Cond := .code yX11_refuse cX11_refuse 2 (some .int) :: ([.methodLink RX11 172 yX11_refuseAs, .instanceMethod yX11_refuseAs, .selects RX11 yX11_refuseAs yX11_refuseAs, .initialized RX11, .code yX11_refuseAs cX11_refuseAs 4 (some .int), .fieldLink RX11 75 "ThriceCounted" "refused" "[I"] ++ wsX110)
def wsX11_clerk_r1 : List Cond := [Cond.fieldLink RX11 34 "ThriceCounted" "bank" "LThriceCounted$Bank;", Cond.fieldLink RX11 110 "ThriceCounted$Bank" "clerks" "LThriceCounted$Rows;", Cond.methodLink RX11 102 yX11_within, Cond.static yX11_within, Cond.initialized RX11, Cond.code yX11_within cX11_within 3 (some .boolean), Cond.methodLink RX11 106 yX11_refuse, Cond.instanceMethod yX11_refuse, Cond.selects RX11 yX11_refuse yX11_refuse, Cond.code yX11_refuse cX11_refuse 2 (some .int), Cond.methodLink RX11 172 yX11_refuseAs, Cond.instanceMethod yX11_refuseAs, Cond.selects RX11 yX11_refuseAs yX11_refuseAs, Cond.code yX11_refuseAs cX11_refuseAs 4 (some .int), Cond.fieldLink RX11 75 "ThriceCounted" "refused" "[I", Cond.methodLink RX11 113 yX6_isFull, Cond.instanceMethod yX6_isFull, Cond.selects RX6 yX6_isFull yX6_isFull, Cond.initialized RX6, Cond.code yX6_isFull cX6_isFull 1 (some .boolean), Cond.fieldLink RX6 9 "ThriceCounted$Rows" "size" "I", Cond.fieldLink RX6 21 "ThriceCounted$Rows" "limit" "I", Cond.methodLink RX11 117 yX0_addClerk, Cond.instanceMethod yX0_addClerk]
def wsX11_clerk_r2 : List Cond := [Cond.selects RX0 yX0_addClerk yX0_addClerk, Cond.initialized RX0, Cond.code yX0_addClerk cX0_addClerk 3 (some .int), Cond.fieldLink RX0 14 "ThriceCounted$Bank" "clerks" "LThriceCounted$Rows;", Cond.methodLink RX0 50 yX6_grow, Cond.instanceMethod yX6_grow, Cond.selects RX6 yX6_grow yX6_grow, Cond.code yX6_grow cX6_grow 1 (some .int), Cond.methodLink RX6 35 yX6_isFull, Cond.methodLink RX0 54 yX6_put, Cond.instanceMethod yX6_put, Cond.selects RX6 yX6_put yX6_put, Cond.code yX6_put cX6_put 4 none, Cond.fieldLink RX6 27 "ThriceCounted$Rows" "cells" "[I", Cond.fieldLink RX6 24 "ThriceCounted$Rows" "width" "I", Cond.methodLink RX6 31 yX6_hasCell, Cond.instanceMethod yX6_hasCell, Cond.selects RX6 yX6_hasCell yX6_hasCell, Cond.code yX6_hasCell cX6_hasCell 3 (some .boolean)]
def wsX11_clerk : List Cond := .code yX11_clerk cX11_clerk 2 (some .int) :: ((wsX11_clerk_r1 ++ wsX11_clerk_r2) ++ wsX110 ++ wsX00 ++ wsX60)
def wsX11_bundle_r1 : List Cond := [Cond.fieldLink RX11 34 "ThriceCounted" "bank" "LThriceCounted$Bank;", Cond.fieldLink RX11 85 "ThriceCounted$Bank" "bundles" "LThriceCounted$Rows;", Cond.methodLink RX11 102 yX11_within, Cond.static yX11_within, Cond.initialized RX11, Cond.code yX11_within cX11_within 3 (some .boolean), Cond.methodLink RX11 106 yX11_refuse, Cond.instanceMethod yX11_refuse, Cond.selects RX11 yX11_refuse yX11_refuse, Cond.code yX11_refuse cX11_refuse 2 (some .int), Cond.methodLink RX11 172 yX11_refuseAs, Cond.instanceMethod yX11_refuseAs, Cond.selects RX11 yX11_refuseAs yX11_refuseAs, Cond.code yX11_refuseAs cX11_refuseAs 4 (some .int), Cond.fieldLink RX11 75 "ThriceCounted" "refused" "[I", Cond.methodLink RX11 113 yX6_isFull, Cond.instanceMethod yX6_isFull, Cond.selects RX6 yX6_isFull yX6_isFull, Cond.initialized RX6, Cond.code yX6_isFull cX6_isFull 1 (some .boolean), Cond.fieldLink RX6 9 "ThriceCounted$Rows" "size" "I", Cond.fieldLink RX6 21 "ThriceCounted$Rows" "limit" "I", Cond.methodLink RX11 120 yX0_addBundle, Cond.instanceMethod yX0_addBundle]
def wsX11_bundle_r2 : List Cond := [Cond.selects RX0 yX0_addBundle yX0_addBundle, Cond.initialized RX0, Cond.code yX0_addBundle cX0_addBundle 4 (some .int), Cond.fieldLink RX0 20 "ThriceCounted$Bank" "bundles" "LThriceCounted$Rows;", Cond.methodLink RX0 50 yX6_grow, Cond.instanceMethod yX6_grow, Cond.selects RX6 yX6_grow yX6_grow, Cond.code yX6_grow cX6_grow 1 (some .int), Cond.methodLink RX6 35 yX6_isFull, Cond.methodLink RX0 54 yX6_put, Cond.instanceMethod yX6_put, Cond.selects RX6 yX6_put yX6_put, Cond.code yX6_put cX6_put 4 none, Cond.fieldLink RX6 27 "ThriceCounted$Rows" "cells" "[I", Cond.fieldLink RX6 24 "ThriceCounted$Rows" "width" "I", Cond.methodLink RX6 31 yX6_hasCell, Cond.instanceMethod yX6_hasCell, Cond.selects RX6 yX6_hasCell yX6_hasCell, Cond.code yX6_hasCell cX6_hasCell 3 (some .boolean)]
def wsX11_bundle : List Cond := .code yX11_bundle cX11_bundle 3 (some .int) :: ((wsX11_bundle_r1 ++ wsX11_bundle_r2) ++ wsX110 ++ wsX00 ++ wsX60)
def wsX11_band_r1 : List Cond := [Cond.fieldLink RX11 34 "ThriceCounted" "bank" "LThriceCounted$Bank;", Cond.fieldLink RX11 85 "ThriceCounted$Bank" "bundles" "LThriceCounted$Rows;", Cond.fieldLink RX11 110 "ThriceCounted$Bank" "clerks" "LThriceCounted$Rows;", Cond.methodLink RX11 124 yX6_has, Cond.instanceMethod yX6_has, Cond.selects RX6 yX6_has yX6_has, Cond.initialized RX6, Cond.code yX6_has cX6_has 2 (some .boolean), Cond.fieldLink RX6 9 "ThriceCounted$Rows" "size" "I", Cond.methodLink RX11 102 yX11_within, Cond.static yX11_within, Cond.initialized RX11, Cond.code yX11_within cX11_within 3 (some .boolean), Cond.methodLink RX11 106 yX11_refuse, Cond.instanceMethod yX11_refuse, Cond.selects RX11 yX11_refuse yX11_refuse, Cond.code yX11_refuse cX11_refuse 2 (some .int), Cond.methodLink RX11 172 yX11_refuseAs, Cond.instanceMethod yX11_refuseAs, Cond.selects RX11 yX11_refuseAs yX11_refuseAs, Cond.code yX11_refuseAs cX11_refuseAs 4 (some .int), Cond.fieldLink RX11 75 "ThriceCounted" "refused" "[I", Cond.methodLink RX11 128 yX6_get, Cond.instanceMethod yX6_get]
def wsX11_band_r2 : List Cond := [Cond.selects RX6 yX6_get yX6_get, Cond.code yX6_get cX6_get 3 (some .int), Cond.fieldLink RX6 27 "ThriceCounted$Rows" "cells" "[I", Cond.fieldLink RX6 24 "ThriceCounted$Rows" "width" "I", Cond.methodLink RX6 31 yX6_hasCell, Cond.instanceMethod yX6_hasCell, Cond.selects RX6 yX6_hasCell yX6_hasCell, Cond.code yX6_hasCell cX6_hasCell 3 (some .boolean), Cond.methodLink RX11 131 yX0_putBand, Cond.instanceMethod yX0_putBand, Cond.selects RX0 yX0_putBand yX0_putBand, Cond.initialized RX0, Cond.code yX0_putBand cX0_putBand 4 none, Cond.fieldLink RX0 20 "ThriceCounted$Bank" "bundles" "LThriceCounted$Rows;", Cond.methodLink RX0 54 yX6_put, Cond.instanceMethod yX6_put, Cond.selects RX6 yX6_put yX6_put, Cond.code yX6_put cX6_put 4 none]
def wsX11_band : List Cond := .code yX11_band cX11_band 5 (some .int) :: ((wsX11_band_r1 ++ wsX11_band_r2) ++ wsX110 ++ wsX00 ++ wsX60)
def wsX11_isWay : List Cond := .code yX11_isWay cX11_isWay 2 (some .boolean) :: ([.fieldLink RX11 25 "ThriceCounted" "ways" "[LThriceCounted$Ones;"] ++ wsX110)
def wsX11_tell_r1 : List Cond := [Cond.fieldLink RX11 34 "ThriceCounted" "bank" "LThriceCounted$Bank;", Cond.fieldLink RX11 85 "ThriceCounted$Bank" "bundles" "LThriceCounted$Rows;", Cond.fieldLink RX11 110 "ThriceCounted$Bank" "clerks" "LThriceCounted$Rows;", Cond.fieldLink RX11 138 "ThriceCounted$Bank" "counts" "LThriceCounted$Rows;", Cond.methodLink RX11 124 yX6_has, Cond.instanceMethod yX6_has, Cond.selects RX6 yX6_has yX6_has, Cond.initialized RX6, Cond.code yX6_has cX6_has 2 (some .boolean), Cond.fieldLink RX6 9 "ThriceCounted$Rows" "size" "I", Cond.methodLink RX11 135 yX11_isWay, Cond.instanceMethod yX11_isWay, Cond.selects RX11 yX11_isWay yX11_isWay, Cond.initialized RX11, Cond.code yX11_isWay cX11_isWay 2 (some .boolean), Cond.fieldLink RX11 25 "ThriceCounted" "ways" "[LThriceCounted$Ones;", Cond.methodLink RX11 102 yX11_within, Cond.static yX11_within, Cond.code yX11_within cX11_within 3 (some .boolean), Cond.methodLink RX11 106 yX11_refuse, Cond.instanceMethod yX11_refuse, Cond.selects RX11 yX11_refuse yX11_refuse, Cond.code yX11_refuse cX11_refuse 2 (some .int), Cond.methodLink RX11 172 yX11_refuseAs]
def wsX11_tell_r2 : List Cond := [Cond.instanceMethod yX11_refuseAs, Cond.selects RX11 yX11_refuseAs yX11_refuseAs, Cond.code yX11_refuseAs cX11_refuseAs 4 (some .int), Cond.fieldLink RX11 75 "ThriceCounted" "refused" "[I", Cond.methodLink RX11 113 yX6_isFull, Cond.instanceMethod yX6_isFull, Cond.selects RX6 yX6_isFull yX6_isFull, Cond.code yX6_isFull cX6_isFull 1 (some .boolean), Cond.fieldLink RX6 21 "ThriceCounted$Rows" "limit" "I", Cond.methodLink RX11 141 yX0_keepCounts, Cond.instanceMethod yX0_keepCounts, Cond.selects RX0 yX0_keepCounts yX0_keepCounts, Cond.initialized RX0, Cond.code yX0_keepCounts cX0_keepCounts 1 none, Cond.fieldLink RX0 33 "ThriceCounted$Bank" "undos" "I", Cond.fieldLink RX0 29 "ThriceCounted$Bank" "earlier" "[LThriceCounted$Rows;", Cond.fieldLink RX0 23 "ThriceCounted$Bank" "counts" "LThriceCounted$Rows;", Cond.methodLink RX0 64 yX0_dropOldest, Cond.instanceMethod yX0_dropOldest, Cond.selects RX0 yX0_dropOldest yX0_dropOldest, Cond.code yX0_dropOldest cX0_dropOldest 2 none, Cond.methodLink RX0 40 yX6_copyFrom, Cond.instanceMethod yX6_copyFrom, Cond.selects RX6 yX6_copyFrom yX6_copyFrom]
def wsX11_tell_r3 : List Cond := [Cond.code yX6_copyFrom cX6_copyFrom 2 none, Cond.methodLink RX6 50 Lib.Math.min.name, Cond.static Lib.Math.min.name, Cond.initialized "java/lang/Math", Cond.code Lib.Math.min.name Lib.Math.min.code 2 (some .int), Cond.fieldLink RX6 27 "ThriceCounted$Rows" "cells" "[I", Cond.methodLink RX6 53 arraycopyName, Cond.native arraycopyName, Cond.static arraycopyName, Cond.initialized "java/lang/System", Cond.methodLink RX11 144 yX0_addCount, Cond.instanceMethod yX0_addCount, Cond.selects RX0 yX0_addCount yX0_addCount, Cond.code yX0_addCount cX0_addCount 6 (some .int), Cond.methodLink RX0 50 yX6_grow, Cond.instanceMethod yX6_grow, Cond.selects RX6 yX6_grow yX6_grow, Cond.code yX6_grow cX6_grow 1 (some .int), Cond.methodLink RX6 35 yX6_isFull, Cond.methodLink RX0 54 yX6_put, Cond.instanceMethod yX6_put, Cond.selects RX6 yX6_put yX6_put, Cond.code yX6_put cX6_put 4 none, Cond.fieldLink RX6 24 "ThriceCounted$Rows" "width" "I"]
def wsX11_tell_r4 : List Cond := [Cond.methodLink RX6 31 yX6_hasCell, Cond.instanceMethod yX6_hasCell, Cond.selects RX6 yX6_hasCell yX6_hasCell, Cond.code yX6_hasCell cX6_hasCell 3 (some .boolean)]
def wsX11_tell : List Cond := .code yX11_tell cX11_tell 5 (some .int) :: ((wsX11_tell_r1 ++ (wsX11_tell_r2 ++ (wsX11_tell_r3 ++ wsX11_tell_r4))) ++ wsX110 ++ wsX00 ++ wsX60)
def wsX11_back_r1 : List Cond := [Cond.fieldLink RX11 34 "ThriceCounted" "bank" "LThriceCounted$Bank;", Cond.fieldLink RX11 138 "ThriceCounted$Bank" "counts" "LThriceCounted$Rows;", Cond.methodLink RX11 124 yX6_has, Cond.instanceMethod yX6_has, Cond.selects RX6 yX6_has yX6_has, Cond.initialized RX6, Cond.code yX6_has cX6_has 2 (some .boolean), Cond.fieldLink RX6 9 "ThriceCounted$Rows" "size" "I", Cond.methodLink RX11 106 yX11_refuse, Cond.instanceMethod yX11_refuse, Cond.selects RX11 yX11_refuse yX11_refuse, Cond.initialized RX11, Cond.code yX11_refuse cX11_refuse 2 (some .int), Cond.methodLink RX11 172 yX11_refuseAs, Cond.instanceMethod yX11_refuseAs, Cond.selects RX11 yX11_refuseAs yX11_refuseAs, Cond.code yX11_refuseAs cX11_refuseAs 4 (some .int), Cond.fieldLink RX11 75 "ThriceCounted" "refused" "[I", Cond.methodLink RX11 141 yX0_keepCounts, Cond.instanceMethod yX0_keepCounts, Cond.selects RX0 yX0_keepCounts yX0_keepCounts, Cond.initialized RX0, Cond.code yX0_keepCounts cX0_keepCounts 1 none, Cond.fieldLink RX0 33 "ThriceCounted$Bank" "undos" "I"]
def wsX11_back_r2 : List Cond := [Cond.fieldLink RX0 29 "ThriceCounted$Bank" "earlier" "[LThriceCounted$Rows;", Cond.fieldLink RX0 23 "ThriceCounted$Bank" "counts" "LThriceCounted$Rows;", Cond.methodLink RX0 64 yX0_dropOldest, Cond.instanceMethod yX0_dropOldest, Cond.selects RX0 yX0_dropOldest yX0_dropOldest, Cond.code yX0_dropOldest cX0_dropOldest 2 none, Cond.methodLink RX0 40 yX6_copyFrom, Cond.instanceMethod yX6_copyFrom, Cond.selects RX6 yX6_copyFrom yX6_copyFrom, Cond.code yX6_copyFrom cX6_copyFrom 2 none, Cond.fieldLink RX6 21 "ThriceCounted$Rows" "limit" "I", Cond.methodLink RX6 50 Lib.Math.min.name, Cond.static Lib.Math.min.name, Cond.initialized "java/lang/Math", Cond.code Lib.Math.min.name Lib.Math.min.code 2 (some .int), Cond.fieldLink RX6 27 "ThriceCounted$Rows" "cells" "[I", Cond.methodLink RX6 53 arraycopyName, Cond.native arraycopyName, Cond.static arraycopyName, Cond.initialized "java/lang/System", Cond.methodLink RX11 148 yX6_remove, Cond.instanceMethod yX6_remove, Cond.selects RX6 yX6_remove yX6_remove, Cond.code yX6_remove cX6_remove 4 none]
def wsX11_back_r3 : List Cond := [Cond.fieldLink RX6 24 "ThriceCounted$Rows" "width" "I", Cond.methodLink RX6 39 yX6_has, Cond.methodLink RX6 43 yX6_get, Cond.instanceMethod yX6_get, Cond.selects RX6 yX6_get yX6_get, Cond.code yX6_get cX6_get 3 (some .int), Cond.methodLink RX6 31 yX6_hasCell, Cond.instanceMethod yX6_hasCell, Cond.selects RX6 yX6_hasCell yX6_hasCell, Cond.code yX6_hasCell cX6_hasCell 3 (some .boolean), Cond.methodLink RX6 46 yX6_put, Cond.instanceMethod yX6_put, Cond.selects RX6 yX6_put yX6_put, Cond.code yX6_put cX6_put 4 none, Cond.methodLink RX11 89 yX6_size, Cond.instanceMethod yX6_size, Cond.selects RX6 yX6_size yX6_size, Cond.code yX6_size cX6_size 1 (some .int)]
def wsX11_back : List Cond := .code yX11_back cX11_back 2 (some .int) :: ((wsX11_back_r1 ++ (wsX11_back_r2 ++ wsX11_back_r3)) ++ wsX110 ++ wsX00 ++ wsX60)
def wsX11_undo_r1 : List Cond := [Cond.fieldLink RX11 34 "ThriceCounted" "bank" "LThriceCounted$Bank;", Cond.fieldLink RX11 138 "ThriceCounted$Bank" "counts" "LThriceCounted$Rows;", Cond.methodLink RX11 152 yX0_restoreCounts, Cond.instanceMethod yX0_restoreCounts, Cond.selects RX0 yX0_restoreCounts yX0_restoreCounts, Cond.initialized RX0, Cond.code yX0_restoreCounts cX0_restoreCounts 1 (some .boolean), Cond.fieldLink RX0 33 "ThriceCounted$Bank" "undos" "I", Cond.fieldLink RX0 29 "ThriceCounted$Bank" "earlier" "[LThriceCounted$Rows;", Cond.fieldLink RX0 23 "ThriceCounted$Bank" "counts" "LThriceCounted$Rows;", Cond.methodLink RX0 40 yX6_copyFrom, Cond.instanceMethod yX6_copyFrom, Cond.selects RX6 yX6_copyFrom yX6_copyFrom, Cond.initialized RX6, Cond.code yX6_copyFrom cX6_copyFrom 2 none, Cond.fieldLink RX6 21 "ThriceCounted$Rows" "limit" "I", Cond.fieldLink RX6 9 "ThriceCounted$Rows" "size" "I", Cond.methodLink RX6 50 Lib.Math.min.name, Cond.static Lib.Math.min.name, Cond.initialized "java/lang/Math", Cond.code Lib.Math.min.name Lib.Math.min.code 2 (some .int), Cond.fieldLink RX6 27 "ThriceCounted$Rows" "cells" "[I", Cond.methodLink RX6 53 arraycopyName, Cond.native arraycopyName]
def wsX11_undo_r2 : List Cond := [Cond.static arraycopyName, Cond.initialized "java/lang/System", Cond.methodLink RX11 106 yX11_refuse, Cond.instanceMethod yX11_refuse, Cond.selects RX11 yX11_refuse yX11_refuse, Cond.initialized RX11, Cond.code yX11_refuse cX11_refuse 2 (some .int), Cond.methodLink RX11 172 yX11_refuseAs, Cond.instanceMethod yX11_refuseAs, Cond.selects RX11 yX11_refuseAs yX11_refuseAs, Cond.code yX11_refuseAs cX11_refuseAs 4 (some .int), Cond.fieldLink RX11 75 "ThriceCounted" "refused" "[I", Cond.methodLink RX11 89 yX6_size, Cond.instanceMethod yX6_size, Cond.selects RX6 yX6_size yX6_size, Cond.code yX6_size cX6_size 1 (some .int)]
def wsX11_undo : List Cond := .code yX11_undo cX11_undo 1 (some .int) :: ((wsX11_undo_r1 ++ wsX11_undo_r2) ++ wsX110 ++ wsX00 ++ wsX60)
def wsX11_type : List Cond := .code yX11_type cX11_type 2 (some .int) :: ([.fieldLink RX11 71 "ThriceCounted" "typed" "I", .fieldLink RX11 67 "ThriceCounted" "text" "[B", .methodLink RX11 102 yX11_within, .static yX11_within, .initialized RX11, .code yX11_within cX11_within 3 (some .boolean), .methodLink RX11 106 yX11_refuse, .instanceMethod yX11_refuse, .selects RX11 yX11_refuse yX11_refuse, .code yX11_refuse cX11_refuse 2 (some .int), .methodLink RX11 172 yX11_refuseAs, .instanceMethod yX11_refuseAs, .selects RX11 yX11_refuseAs yX11_refuseAs, .code yX11_refuseAs cX11_refuseAs 4 (some .int), .fieldLink RX11 75 "ThriceCounted" "refused" "[I"] ++ wsX110)
def wsX11_clear : List Cond := .code yX11_clear cX11_clear 2 (some .int) :: ([.fieldLink RX11 71 "ThriceCounted" "typed" "I"] ++ wsX110)
def wsX11_read_r1 : List Cond := [Cond.fieldLink RX11 56 "ThriceCounted" "reader" "LThriceCounted$Reader;", Cond.fieldLink RX11 67 "ThriceCounted" "text" "[B", Cond.fieldLink RX11 71 "ThriceCounted" "typed" "I", Cond.fieldLink RX11 34 "ThriceCounted" "bank" "LThriceCounted$Bank;", Cond.fieldLink RX11 162 "ThriceCounted$Reader" "draft" "LThriceCounted$Bank;", Cond.methodLink RX11 155 yX5_parse, Cond.instanceMethod yX5_parse, Cond.selects RX5 yX5_parse yX5_parse, Cond.initialized RX5, Cond.code yX5_parse cX5_parse 4 (some .boolean), Cond.fieldLink RX5 18 "ThriceCounted$Reader" "text" "[B", Cond.methodLink RX5 45 Lib.Math.min.name, Cond.static Lib.Math.min.name, Cond.initialized "java/lang/Math", Cond.code Lib.Math.min.name Lib.Math.min.code 2 (some .int), Cond.methodLink RX5 51 Lib.Math.max.name, Cond.static Lib.Math.max.name, Cond.code Lib.Math.max.name Lib.Math.max.code 2 (some .int), Cond.fieldLink RX5 22 "ThriceCounted$Reader" "length" "I", Cond.fieldLink RX5 26 "ThriceCounted$Reader" "place" "I", Cond.fieldLink RX5 38 "ThriceCounted$Reader" "items" "I", Cond.fieldLink RX5 41 "ThriceCounted$Reader" "faulty" "Z", Cond.fieldLink RX5 12 "ThriceCounted$Reader" "draft" "LThriceCounted$Bank;", Cond.fieldLink RX5 29 "ThriceCounted$Reader" "kind" "I"]
def wsX11_read_r2 : List Cond := [Cond.methodLink RX5 54 yX0_empty, Cond.instanceMethod yX0_empty, Cond.selects RX0 yX0_empty yX0_empty, Cond.initialized RX0, Cond.code yX0_empty cX0_empty 1 none, Cond.fieldLink RX0 14 "ThriceCounted$Bank" "clerks" "LThriceCounted$Rows;", Cond.fieldLink RX0 20 "ThriceCounted$Bank" "bundles" "LThriceCounted$Rows;", Cond.fieldLink RX0 23 "ThriceCounted$Bank" "counts" "LThriceCounted$Rows;", Cond.fieldLink RX0 26 "ThriceCounted$Bank" "causes" "LThriceCounted$Rows;", Cond.fieldLink RX0 33 "ThriceCounted$Bank" "undos" "I", Cond.methodLink RX0 37 yX6_empty, Cond.instanceMethod yX6_empty, Cond.selects RX6 yX6_empty yX6_empty, Cond.initialized RX6, Cond.code yX6_empty cX6_empty 1 none, Cond.fieldLink RX6 9 "ThriceCounted$Rows" "size" "I", Cond.methodLink RX5 57 yX5_step, Cond.instanceMethod yX5_step, Cond.selects RX5 yX5_step yX5_step, Cond.code yX5_step cX5_step 2 none, Cond.fieldLink RX5 32 "ThriceCounted$Reader" "start" "I", Cond.methodLink RX5 134 yX5_at, Cond.instanceMethod yX5_at, Cond.selects RX5 yX5_at yX5_at]
def wsX11_read_r3 : List Cond := [Cond.code yX5_at cX5_at 2 (some .int), Cond.methodLink RX5 141 yX5_isLetter, Cond.static yX5_isLetter, Cond.code yX5_isLetter cX5_isLetter 1 (some .boolean), Cond.methodLink RX5 145 yX5_stepOverWord, Cond.instanceMethod yX5_stepOverWord, Cond.selects RX5 yX5_stepOverWord yX5_stepOverWord, Cond.code yX5_stepOverWord cX5_stepOverWord 1 none, Cond.methodLink RX5 148 yX5_isFigure, Cond.static yX5_isFigure, Cond.code yX5_isFigure cX5_isFigure 1 (some .boolean), Cond.methodLink RX5 151 yX5_stepOverNumber, Cond.instanceMethod yX5_stepOverNumber, Cond.selects RX5 yX5_stepOverNumber yX5_stepOverNumber, Cond.code yX5_stepOverNumber cX5_stepOverNumber 1 none, Cond.fieldLink RX5 35 "ThriceCounted$Reader" "value" "I", Cond.methodLink RX5 62 yX5_isWord, Cond.instanceMethod yX5_isWord, Cond.selects RX5 yX5_isWord yX5_isWord, Cond.code yX5_isWord cX5_isWord 3 (some .boolean), Cond.methodLink RX5 130 yJ0_length_8abf5, Cond.instanceMethod yJ0_length_8abf5, Cond.selects RJ0 yJ0_length_8abf5 yJ0_length_8abf5, Cond.initialized RJ0]
def wsX11_read_r4 : List Cond := [Cond.code yJ0_length_8abf5 cJ0_length_8abf5 1 (some .int), Cond.fieldLink RJ0 9 "java/lang/String" "value" "[B", Cond.methodLink RJ0 335 yJ0_coder_7d493, Cond.instanceMethod yJ0_coder_7d493, Cond.selects RJ0 yJ0_coder_7d493 yJ0_coder_7d493, Cond.code yJ0_coder_7d493 cJ0_coder_7d493 1 (some .byte), Cond.fieldLink RJ0 38 "java/lang/String" "COMPACT_STRINGS" "Z", Cond.fieldLink RJ0 15 "java/lang/String" "coder" "B", Cond.methodLink RX5 137 yJ0_charAt_5068e, Cond.instanceMethod yJ0_charAt_5068e, Cond.selects RJ0 yJ0_charAt_5068e yJ0_charAt_5068e, Cond.code yJ0_charAt_5068e cJ0_charAt_5068e 2 (some .char), Cond.methodLink RJ0 492 yJ0_isLatin1_aae02, Cond.instanceMethod yJ0_isLatin1_aae02, Cond.selects RJ0 yJ0_isLatin1_aae02 yJ0_isLatin1_aae02, Cond.code yJ0_isLatin1_aae02 cJ0_isLatin1_aae02 1 (some .boolean), Cond.methodLink RJ0 495 yJ1_charAt_3b067, Cond.static yJ1_charAt_3b067, Cond.initialized RJ1, Cond.code yJ1_charAt_3b067 cJ1_charAt_3b067 2 (some .char), Cond.methodLink RJ1 9 yJ0_checkIndex_df160, Cond.static yJ0_checkIndex_df160, Cond.code yJ0_checkIndex_df160 cJ0_checkIndex_df160 2 none, Cond.fieldLink RJ0 1053 "jdk/internal/util/Preconditions" "SIOOBE_FORMATTER" "Ljava/util/function/BiFunction;"]
def wsX11_read_r5 : List Cond := [Cond.methodLink RJ0 1059 yJ3_checkIndex_8e157, Cond.static yJ3_checkIndex_8e157, Cond.initialized RJ3, Cond.code yJ3_checkIndex_8e157 cJ3_checkIndex_8e157 3 (some .int), Cond.methodLink RJ0 498 yJ2_charAt_3b067, Cond.static yJ2_charAt_3b067, Cond.initialized RJ2, Cond.code yJ2_charAt_3b067 cJ2_charAt_3b067 2 (some .char), Cond.methodLink RJ2 67 yJ2_checkIndex_2214a, Cond.static yJ2_checkIndex_2214a, Cond.code yJ2_checkIndex_2214a cJ2_checkIndex_2214a 2 none, Cond.methodLink RJ2 48 yJ2_length_9d52b, Cond.static yJ2_length_9d52b, Cond.code yJ2_length_9d52b cJ2_length_9d52b 1 (some .int), Cond.methodLink RJ2 414 yJ0_checkIndex_df160, Cond.methodLink RJ2 71 yJ2_getChar_3b067, Cond.static yJ2_getChar_3b067, Cond.code yJ2_getChar_3b067 cJ2_getChar_3b067 2 (some .char), Cond.fieldLink RJ2 44 "java/lang/StringUTF16" "$assertionsDisabled" "Z", Cond.fieldLink RJ2 59 "java/lang/StringUTF16" "HI_BYTE_SHIFT" "I", Cond.fieldLink RJ2 63 "java/lang/StringUTF16" "LO_BYTE_SHIFT" "I", Cond.methodLink RX5 66 yX5_endItem, Cond.instanceMethod yX5_endItem, Cond.selects RX5 yX5_endItem yX5_endItem]
def wsX11_read_r6 : List Cond := [Cond.code yX5_endItem cX5_endItem 1 (some .boolean), Cond.methodLink RX5 70 yX5_item, Cond.instanceMethod yX5_item, Cond.selects RX5 yX5_item yX5_item, Cond.code yX5_item cX5_item 1 (some .boolean), Cond.fieldLink RX5 75 "ThriceCounted$Bank" "clerks" "LThriceCounted$Rows;", Cond.fieldLink RX5 89 "ThriceCounted$Bank" "bundles" "LThriceCounted$Rows;", Cond.fieldLink RX5 102 "ThriceCounted$Bank" "counts" "LThriceCounted$Rows;", Cond.methodLink RX5 79 yX6_isFull, Cond.instanceMethod yX6_isFull, Cond.selects RX6 yX6_isFull yX6_isFull, Cond.code yX6_isFull cX6_isFull 1 (some .boolean), Cond.fieldLink RX6 21 "ThriceCounted$Rows" "limit" "I", Cond.methodLink RX5 84 yX5_clerkItem, Cond.instanceMethod yX5_clerkItem, Cond.selects RX5 yX5_clerkItem yX5_clerkItem, Cond.code yX5_clerkItem cX5_clerkItem 2 (some .boolean), Cond.methodLink RX5 108 yX5_number, Cond.instanceMethod yX5_number, Cond.selects RX5 yX5_number yX5_number, Cond.code yX5_number cX5_number 4 (some .int), Cond.methodLink RX5 111 yX0_addClerk, Cond.instanceMethod yX0_addClerk, Cond.selects RX0 yX0_addClerk yX0_addClerk]
def wsX11_read_r7 : List Cond := [Cond.code yX0_addClerk cX0_addClerk 3 (some .int), Cond.methodLink RX0 50 yX6_grow, Cond.instanceMethod yX6_grow, Cond.selects RX6 yX6_grow yX6_grow, Cond.code yX6_grow cX6_grow 1 (some .int), Cond.methodLink RX6 35 yX6_isFull, Cond.methodLink RX0 54 yX6_put, Cond.instanceMethod yX6_put, Cond.selects RX6 yX6_put yX6_put, Cond.code yX6_put cX6_put 4 none, Cond.fieldLink RX6 27 "ThriceCounted$Rows" "cells" "[I", Cond.fieldLink RX6 24 "ThriceCounted$Rows" "width" "I", Cond.methodLink RX6 31 yX6_hasCell, Cond.instanceMethod yX6_hasCell, Cond.selects RX6 yX6_hasCell yX6_hasCell, Cond.code yX6_hasCell cX6_hasCell 3 (some .boolean), Cond.methodLink RX5 92 yX5_bundleItem, Cond.instanceMethod yX5_bundleItem, Cond.selects RX5 yX5_bundleItem yX5_bundleItem, Cond.code yX5_bundleItem cX5_bundleItem 3 (some .boolean), Cond.methodLink RX5 115 yX0_addBundle, Cond.instanceMethod yX0_addBundle, Cond.selects RX0 yX0_addBundle yX0_addBundle, Cond.code yX0_addBundle cX0_addBundle 4 (some .int)]
def wsX11_read_r8 : List Cond := [Cond.methodLink RX5 97 yX5_bandItem, Cond.instanceMethod yX5_bandItem, Cond.selects RX5 yX5_bandItem yX5_bandItem, Cond.code yX5_bandItem cX5_bandItem 4 (some .boolean), Cond.methodLink RX5 118 yX6_size, Cond.instanceMethod yX6_size, Cond.selects RX6 yX6_size yX6_size, Cond.code yX6_size cX6_size 1 (some .int), Cond.methodLink RX5 122 yX0_putBand, Cond.instanceMethod yX0_putBand, Cond.selects RX0 yX0_putBand yX0_putBand, Cond.code yX0_putBand cX0_putBand 4 none, Cond.methodLink RX5 105 yX5_countItem, Cond.instanceMethod yX5_countItem, Cond.selects RX5 yX5_countItem yX5_countItem, Cond.code yX5_countItem cX5_countItem 5 (some .boolean), Cond.methodLink RX5 126 yX0_addCount, Cond.instanceMethod yX0_addCount, Cond.selects RX0 yX0_addCount yX0_addCount, Cond.code yX0_addCount cX0_addCount 6 (some .int), Cond.methodLink RX11 159 yX5_fault, Cond.instanceMethod yX5_fault, Cond.selects RX5 yX5_fault yX5_fault, Cond.code yX5_fault cX5_fault 1 (some .int)]
def wsX11_read_r9 : List Cond := [Cond.methodLink RX11 165 yX0_copyFrom, Cond.instanceMethod yX0_copyFrom, Cond.selects RX0 yX0_copyFrom yX0_copyFrom, Cond.code yX0_copyFrom cX0_copyFrom 3 none, Cond.fieldLink RX0 29 "ThriceCounted$Bank" "earlier" "[LThriceCounted$Rows;", Cond.methodLink RX0 44 Lib.Math.min.name, Cond.methodLink RX0 40 yX6_copyFrom, Cond.instanceMethod yX6_copyFrom, Cond.selects RX6 yX6_copyFrom yX6_copyFrom, Cond.code yX6_copyFrom cX6_copyFrom 2 none, Cond.methodLink RX6 50 Lib.Math.min.name, Cond.methodLink RX6 53 arraycopyName, Cond.native arraycopyName, Cond.static arraycopyName, Cond.initialized "java/lang/System", Cond.methodLink RX11 169 yX5_items, Cond.instanceMethod yX5_items, Cond.selects RX5 yX5_items yX5_items, Cond.code yX5_items cX5_items 1 (some .int)]
def wsX11_read : List Cond := .code yX11_read cX11_read 1 (some .int) :: ((wsX11_read_r1 ++ (wsX11_read_r2 ++ (wsX11_read_r3 ++ (wsX11_read_r4 ++ (wsX11_read_r5 ++ (wsX11_read_r6 ++ (wsX11_read_r7 ++ (wsX11_read_r8 ++ wsX11_read_r9)))))))) ++ wsX110 ++ wsX50 ++ wsX00 ++ wsX60)
def wsX11_way_r1 : List Cond := [Cond.fieldLink RX11 25 "ThriceCounted" "ways" "[LThriceCounted$Ones;", Cond.methodLink RX11 135 yX11_isWay, Cond.instanceMethod yX11_isWay, Cond.selects RX11 yX11_isWay yX11_isWay, Cond.initialized RX11, Cond.code yX11_isWay cX11_isWay 2 (some .boolean), Cond.methodLink RX11 102 yX11_within, Cond.static yX11_within, Cond.code yX11_within cX11_within 3 (some .boolean), Cond.methodLink RX11 172 yX11_refuseAs, Cond.instanceMethod yX11_refuseAs, Cond.selects RX11 yX11_refuseAs yX11_refuseAs, Cond.code yX11_refuseAs cX11_refuseAs 4 (some .int), Cond.fieldLink RX11 75 "ThriceCounted" "refused" "[I", Cond.methodLink RX11 175 ⟨"ThriceCounted$Ones", "slip", "(I)I"⟩, Cond.sameMethod "ThriceCounted$Ones" "ThriceCounted$Ones" "slip" "(I)I", Cond.instanceMethod ⟨"ThriceCounted$Ones", "slip", "(I)I"⟩, Cond.selects RX1 ⟨"ThriceCounted$Ones", "slip", "(I)I"⟩ yX1_slip, Cond.instanceMethod yX1_slip, Cond.initialized RX1, Cond.code yX1_slip cX1_slip 2 (some .int), Cond.methodLink RX1 7 yX4_slip, Cond.superclass RX1 RX4, Cond.instanceMethod yX4_slip]
def wsX11_way_r2 : List Cond := [Cond.initialized RX4, Cond.code yX4_slip cX4_slip 2 (some .int), Cond.selects RX3 ⟨"ThriceCounted$Ones", "slip", "(I)I"⟩ yX3_slip, Cond.instanceMethod yX3_slip, Cond.initialized RX3, Cond.code yX3_slip cX3_slip 2 (some .int), Cond.methodLink RX3 7 yX10_slip, Cond.sameMethod "ThriceCounted$Weighed" "ThriceCounted$Weighed" "slip" "(I)I", Cond.superclass RX3 RX10, Cond.instanceMethod yX10_slip, Cond.initialized RX10, Cond.code yX10_slip cX10_slip 2 (some .int), Cond.methodLink RX11 175 yX4_slip, Cond.selects RX4 yX4_slip yX4_slip, Cond.selects RX8 ⟨"ThriceCounted$Ones", "slip", "(I)I"⟩ yX8_slip, Cond.instanceMethod yX8_slip, Cond.initialized RX8, Cond.code yX8_slip cX8_slip 2 (some .int), Cond.methodLink RX8 7 yX9_slip, Cond.sameMethod "ThriceCounted$Talked" "ThriceCounted$Talked" "slip" "(I)I", Cond.superclass RX8 RX9, Cond.instanceMethod yX9_slip, Cond.initialized RX9, Cond.code yX9_slip cX9_slip 2 (some .int)]
def wsX11_way_r3 : List Cond := [Cond.methodLink RX9 7 yX4_slip, Cond.superclass RX9 RX4, Cond.selects RX9 ⟨"ThriceCounted$Ones", "slip", "(I)I"⟩ yX9_slip, Cond.selects RX10 ⟨"ThriceCounted$Ones", "slip", "(I)I"⟩ yX10_slip, Cond.methodLink RX11 178 ⟨"ThriceCounted$Ones", "minutes", "()I"⟩, Cond.sameMethod "ThriceCounted$Ones" "ThriceCounted$Ones" "minutes" "()I", Cond.instanceMethod ⟨"ThriceCounted$Ones", "minutes", "()I"⟩, Cond.selects RX1 ⟨"ThriceCounted$Ones", "minutes", "()I"⟩ yX1_minutes, Cond.instanceMethod yX1_minutes, Cond.code yX1_minutes cX1_minutes 1 (some .int), Cond.methodLink RX1 11 yX4_minutes, Cond.instanceMethod yX4_minutes, Cond.code yX4_minutes cX4_minutes 1 (some .int), Cond.selects RX3 ⟨"ThriceCounted$Ones", "minutes", "()I"⟩ yX10_minutes, Cond.instanceMethod yX10_minutes, Cond.code yX10_minutes cX10_minutes 1 (some .int), Cond.methodLink RX11 178 yX4_minutes, Cond.selects RX4 yX4_minutes yX4_minutes, Cond.selects RX8 ⟨"ThriceCounted$Ones", "minutes", "()I"⟩ yX9_minutes, Cond.instanceMethod yX9_minutes, Cond.code yX9_minutes cX9_minutes 1 (some .int), Cond.methodLink RX9 11 yX4_minutes, Cond.selects RX9 ⟨"ThriceCounted$Ones", "minutes", "()I"⟩ yX9_minutes, Cond.selects RX10 ⟨"ThriceCounted$Ones", "minutes", "()I"⟩ yX10_minutes]
def wsX11_way_r4 : List Cond := [Cond.methodLink RX11 181 ⟨"ThriceCounted$Ones", "oddsOff", "(I)I"⟩, Cond.sameMethod "ThriceCounted$Ones" "ThriceCounted$Ones" "oddsOff" "(I)I", Cond.selects RX1 ⟨"ThriceCounted$Ones", "oddsOff", "(I)I"⟩ yX4_oddsOff, Cond.instanceMethod yX4_oddsOff, Cond.code yX4_oddsOff cX4_oddsOff 4 (some .int), Cond.methodLink RX4 9 ⟨"ThriceCounted$Ones", "slip", "(I)I"⟩, Cond.methodLink RX4 9 yX4_slip, Cond.selects RX3 ⟨"ThriceCounted$Ones", "oddsOff", "(I)I"⟩ yX4_oddsOff, Cond.methodLink RX11 181 yX4_oddsOff, Cond.selects RX4 yX4_oddsOff yX4_oddsOff, Cond.selects RX8 ⟨"ThriceCounted$Ones", "oddsOff", "(I)I"⟩ yX4_oddsOff, Cond.selects RX9 ⟨"ThriceCounted$Ones", "oddsOff", "(I)I"⟩ yX4_oddsOff, Cond.selects RX10 ⟨"ThriceCounted$Ones", "oddsOff", "(I)I"⟩ yX4_oddsOff]
def wsX11_way : List Cond := .code yX11_way cX11_way 3 (some .int) :: ((wsX11_way_r1 ++ (wsX11_way_r2 ++ (wsX11_way_r3 ++ wsX11_way_r4))) ++ wsX110)
def wsX11_odds_r1 : List Cond := [Cond.fieldLink RX11 25 "ThriceCounted" "ways" "[LThriceCounted$Ones;", Cond.methodLink RX11 135 yX11_isWay, Cond.instanceMethod yX11_isWay, Cond.selects RX11 yX11_isWay yX11_isWay, Cond.initialized RX11, Cond.code yX11_isWay cX11_isWay 2 (some .boolean), Cond.methodLink RX11 102 yX11_within, Cond.static yX11_within, Cond.code yX11_within cX11_within 3 (some .boolean), Cond.methodLink RX11 106 yX11_refuse, Cond.instanceMethod yX11_refuse, Cond.selects RX11 yX11_refuse yX11_refuse, Cond.code yX11_refuse cX11_refuse 2 (some .int), Cond.methodLink RX11 172 yX11_refuseAs, Cond.instanceMethod yX11_refuseAs, Cond.selects RX11 yX11_refuseAs yX11_refuseAs, Cond.code yX11_refuseAs cX11_refuseAs 4 (some .int), Cond.fieldLink RX11 75 "ThriceCounted" "refused" "[I", Cond.methodLink RX11 181 ⟨"ThriceCounted$Ones", "oddsOff", "(I)I"⟩, Cond.sameMethod "ThriceCounted$Ones" "ThriceCounted$Ones" "oddsOff" "(I)I", Cond.selects RX1 ⟨"ThriceCounted$Ones", "oddsOff", "(I)I"⟩ yX4_oddsOff, Cond.instanceMethod yX4_oddsOff, Cond.initialized RX4, Cond.code yX4_oddsOff cX4_oddsOff 4 (some .int)]
def wsX11_odds_r2 : List Cond := [Cond.methodLink RX4 9 ⟨"ThriceCounted$Ones", "slip", "(I)I"⟩, Cond.sameMethod "ThriceCounted$Ones" "ThriceCounted$Ones" "slip" "(I)I", Cond.instanceMethod ⟨"ThriceCounted$Ones", "slip", "(I)I"⟩, Cond.selects RX1 ⟨"ThriceCounted$Ones", "slip", "(I)I"⟩ yX1_slip, Cond.instanceMethod yX1_slip, Cond.initialized RX1, Cond.code yX1_slip cX1_slip 2 (some .int), Cond.methodLink RX1 7 yX4_slip, Cond.superclass RX1 RX4, Cond.instanceMethod yX4_slip, Cond.code yX4_slip cX4_slip 2 (some .int), Cond.selects RX3 ⟨"ThriceCounted$Ones", "slip", "(I)I"⟩ yX3_slip, Cond.instanceMethod yX3_slip, Cond.initialized RX3, Cond.code yX3_slip cX3_slip 2 (some .int), Cond.methodLink RX3 7 yX10_slip, Cond.sameMethod "ThriceCounted$Weighed" "ThriceCounted$Weighed" "slip" "(I)I", Cond.superclass RX3 RX10, Cond.instanceMethod yX10_slip, Cond.initialized RX10, Cond.code yX10_slip cX10_slip 2 (some .int), Cond.methodLink RX4 9 yX4_slip, Cond.selects RX4 yX4_slip yX4_slip, Cond.selects RX8 ⟨"ThriceCounted$Ones", "slip", "(I)I"⟩ yX8_slip]
def wsX11_odds_r3 : List Cond := [Cond.instanceMethod yX8_slip, Cond.initialized RX8, Cond.code yX8_slip cX8_slip 2 (some .int), Cond.methodLink RX8 7 yX9_slip, Cond.sameMethod "ThriceCounted$Talked" "ThriceCounted$Talked" "slip" "(I)I", Cond.superclass RX8 RX9, Cond.instanceMethod yX9_slip, Cond.initialized RX9, Cond.code yX9_slip cX9_slip 2 (some .int), Cond.methodLink RX9 7 yX4_slip, Cond.superclass RX9 RX4, Cond.selects RX9 ⟨"ThriceCounted$Ones", "slip", "(I)I"⟩ yX9_slip, Cond.selects RX10 ⟨"ThriceCounted$Ones", "slip", "(I)I"⟩ yX10_slip, Cond.selects RX3 ⟨"ThriceCounted$Ones", "oddsOff", "(I)I"⟩ yX4_oddsOff, Cond.methodLink RX11 181 yX4_oddsOff, Cond.selects RX4 yX4_oddsOff yX4_oddsOff, Cond.selects RX8 ⟨"ThriceCounted$Ones", "oddsOff", "(I)I"⟩ yX4_oddsOff, Cond.selects RX9 ⟨"ThriceCounted$Ones", "oddsOff", "(I)I"⟩ yX4_oddsOff, Cond.selects RX10 ⟨"ThriceCounted$Ones", "oddsOff", "(I)I"⟩ yX4_oddsOff]
def wsX11_odds : List Cond := .code yX11_odds cX11_odds 3 (some .int) :: ((wsX11_odds_r1 ++ (wsX11_odds_r2 ++ wsX11_odds_r3)) ++ wsX110)
def wsX11_of_r1 : List Cond := [Cond.fieldLink RX11 34 "ThriceCounted" "bank" "LThriceCounted$Bank;", Cond.fieldLink RX11 138 "ThriceCounted$Bank" "counts" "LThriceCounted$Rows;", Cond.methodLink RX11 124 yX6_has, Cond.instanceMethod yX6_has, Cond.selects RX6 yX6_has yX6_has, Cond.initialized RX6, Cond.code yX6_has cX6_has 2 (some .boolean), Cond.fieldLink RX6 9 "ThriceCounted$Rows" "size" "I", Cond.methodLink RX11 102 yX11_within, Cond.static yX11_within, Cond.initialized RX11, Cond.code yX11_within cX11_within 3 (some .boolean), Cond.methodLink RX11 106 yX11_refuse, Cond.instanceMethod yX11_refuse, Cond.selects RX11 yX11_refuse yX11_refuse, Cond.code yX11_refuse cX11_refuse 2 (some .int), Cond.methodLink RX11 172 yX11_refuseAs, Cond.instanceMethod yX11_refuseAs, Cond.selects RX11 yX11_refuseAs yX11_refuseAs, Cond.code yX11_refuseAs cX11_refuseAs 4 (some .int), Cond.fieldLink RX11 75 "ThriceCounted" "refused" "[I", Cond.methodLink RX11 128 yX6_get, Cond.instanceMethod yX6_get, Cond.selects RX6 yX6_get yX6_get]
def wsX11_of_r2 : List Cond := [Cond.code yX6_get cX6_get 3 (some .int), Cond.fieldLink RX6 27 "ThriceCounted$Rows" "cells" "[I", Cond.fieldLink RX6 24 "ThriceCounted$Rows" "width" "I", Cond.methodLink RX6 31 yX6_hasCell, Cond.instanceMethod yX6_hasCell, Cond.selects RX6 yX6_hasCell yX6_hasCell, Cond.code yX6_hasCell cX6_hasCell 3 (some .boolean)]
def wsX11_of : List Cond := .code yX11_of cX11_of 3 (some .int) :: ((wsX11_of_r1 ++ wsX11_of_r2) ++ wsX110 ++ wsX00 ++ wsX60)
def wsX11_about_r1 : List Cond := [Cond.fieldLink RX11 34 "ThriceCounted" "bank" "LThriceCounted$Bank;", Cond.fieldLink RX11 85 "ThriceCounted$Bank" "bundles" "LThriceCounted$Rows;", Cond.methodLink RX11 124 yX6_has, Cond.instanceMethod yX6_has, Cond.selects RX6 yX6_has yX6_has, Cond.initialized RX6, Cond.code yX6_has cX6_has 2 (some .boolean), Cond.fieldLink RX6 9 "ThriceCounted$Rows" "size" "I", Cond.methodLink RX11 102 yX11_within, Cond.static yX11_within, Cond.initialized RX11, Cond.code yX11_within cX11_within 3 (some .boolean), Cond.methodLink RX11 172 yX11_refuseAs, Cond.instanceMethod yX11_refuseAs, Cond.selects RX11 yX11_refuseAs yX11_refuseAs, Cond.code yX11_refuseAs cX11_refuseAs 4 (some .int), Cond.fieldLink RX11 75 "ThriceCounted" "refused" "[I", Cond.methodLink RX11 128 yX6_get, Cond.instanceMethod yX6_get, Cond.selects RX6 yX6_get yX6_get, Cond.code yX6_get cX6_get 3 (some .int), Cond.fieldLink RX6 27 "ThriceCounted$Rows" "cells" "[I", Cond.fieldLink RX6 24 "ThriceCounted$Rows" "width" "I", Cond.methodLink RX6 31 yX6_hasCell]
def wsX11_about_r2 : List Cond := [Cond.instanceMethod yX6_hasCell, Cond.selects RX6 yX6_hasCell yX6_hasCell, Cond.code yX6_hasCell cX6_hasCell 3 (some .boolean), Cond.methodLink RX11 184 yX0_countsOf, Cond.instanceMethod yX0_countsOf, Cond.selects RX0 yX0_countsOf yX0_countsOf, Cond.initialized RX0, Cond.code yX0_countsOf cX0_countsOf 4 (some .int), Cond.fieldLink RX0 23 "ThriceCounted$Bank" "counts" "LThriceCounted$Rows;", Cond.methodLink RX0 58 yX6_size, Cond.instanceMethod yX6_size, Cond.selects RX6 yX6_size yX6_size, Cond.code yX6_size cX6_size 1 (some .int), Cond.methodLink RX0 61 yX6_get]
def wsX11_about : List Cond := .code yX11_about cX11_about 3 (some .int) :: ((wsX11_about_r1 ++ wsX11_about_r2) ++ wsX110 ++ wsX00 ++ wsX60)
def wsX11_likely_r1 : List Cond := [Cond.fieldLink RX11 34 "ThriceCounted" "bank" "LThriceCounted$Bank;", Cond.fieldLink RX11 85 "ThriceCounted$Bank" "bundles" "LThriceCounted$Rows;", Cond.fieldLink RX11 49 "ThriceCounted" "scale" "LThriceCounted$Scale;", Cond.fieldLink RX11 25 "ThriceCounted" "ways" "[LThriceCounted$Ones;", Cond.fieldLink RX11 63 "ThriceCounted" "fraction" "LThriceCounted$Fraction;", Cond.methodLink RX11 124 yX6_has, Cond.instanceMethod yX6_has, Cond.selects RX6 yX6_has yX6_has, Cond.initialized RX6, Cond.code yX6_has cX6_has 2 (some .boolean), Cond.fieldLink RX6 9 "ThriceCounted$Rows" "size" "I", Cond.methodLink RX11 102 yX11_within, Cond.static yX11_within, Cond.initialized RX11, Cond.code yX11_within cX11_within 3 (some .boolean), Cond.methodLink RX11 106 yX11_refuse, Cond.instanceMethod yX11_refuse, Cond.selects RX11 yX11_refuse yX11_refuse, Cond.code yX11_refuse cX11_refuse 2 (some .int), Cond.methodLink RX11 172 yX11_refuseAs, Cond.instanceMethod yX11_refuseAs, Cond.selects RX11 yX11_refuseAs yX11_refuseAs, Cond.code yX11_refuseAs cX11_refuseAs 4 (some .int), Cond.fieldLink RX11 75 "ThriceCounted" "refused" "[I"]
def wsX11_likely_r2 : List Cond := [Cond.methodLink RX11 187 yX7_weigh, Cond.instanceMethod yX7_weigh, Cond.selects RX7 yX7_weigh yX7_weigh, Cond.initialized RX7, Cond.code yX7_weigh cX7_weigh 6 none, Cond.fieldLink RX7 9 "ThriceCounted$Scale" "weights" "[J", Cond.fieldLink RX7 23 "ThriceCounted$Bank" "counts" "LThriceCounted$Rows;", Cond.methodLink RX7 19 yX7_firstWeight, Cond.static yX7_firstWeight, Cond.code yX7_firstWeight cX7_firstWeight 7 (some .long), Cond.fieldLink RX7 43 "ThriceCounted$Bank" "bundles" "LThriceCounted$Rows;", Cond.fieldLink RX7 46 "ThriceCounted$Bank" "clerks" "LThriceCounted$Rows;", Cond.methodLink RX7 35 yX6_get, Cond.instanceMethod yX6_get, Cond.selects RX6 yX6_get yX6_get, Cond.code yX6_get cX6_get 3 (some .int), Cond.fieldLink RX6 27 "ThriceCounted$Rows" "cells" "[I", Cond.fieldLink RX6 24 "ThriceCounted$Rows" "width" "I", Cond.methodLink RX6 31 yX6_hasCell, Cond.instanceMethod yX6_hasCell, Cond.selects RX6 yX6_hasCell yX6_hasCell, Cond.code yX6_hasCell cX6_hasCell 3 (some .boolean), Cond.methodLink RX7 29 yX6_size, Cond.instanceMethod yX6_size]
def wsX11_likely_r3 : List Cond := [Cond.selects RX6 yX6_size yX6_size, Cond.code yX6_size cX6_size 1 (some .int), Cond.methodLink RX7 39 yX7_addCounts, Cond.instanceMethod yX7_addCounts, Cond.selects RX7 yX7_addCounts yX7_addCounts, Cond.code yX7_addCounts cX7_addCounts 6 none, Cond.fieldLink RX7 15 "ThriceCounted$Scale" "chances" "[I", Cond.methodLink RX7 49 ⟨"ThriceCounted$Ones", "slip", "(I)I"⟩, Cond.sameMethod "ThriceCounted$Ones" "ThriceCounted$Ones" "slip" "(I)I", Cond.instanceMethod ⟨"ThriceCounted$Ones", "slip", "(I)I"⟩, Cond.selects RX1 ⟨"ThriceCounted$Ones", "slip", "(I)I"⟩ yX1_slip, Cond.instanceMethod yX1_slip, Cond.initialized RX1, Cond.code yX1_slip cX1_slip 2 (some .int), Cond.methodLink RX1 7 yX4_slip, Cond.superclass RX1 RX4, Cond.instanceMethod yX4_slip, Cond.initialized RX4, Cond.code yX4_slip cX4_slip 2 (some .int), Cond.selects RX3 ⟨"ThriceCounted$Ones", "slip", "(I)I"⟩ yX3_slip, Cond.instanceMethod yX3_slip, Cond.initialized RX3, Cond.code yX3_slip cX3_slip 2 (some .int), Cond.methodLink RX3 7 yX10_slip]
def wsX11_likely_r4 : List Cond := [Cond.sameMethod "ThriceCounted$Weighed" "ThriceCounted$Weighed" "slip" "(I)I", Cond.superclass RX3 RX10, Cond.instanceMethod yX10_slip, Cond.initialized RX10, Cond.code yX10_slip cX10_slip 2 (some .int), Cond.methodLink RX7 49 yX4_slip, Cond.selects RX4 yX4_slip yX4_slip, Cond.selects RX8 ⟨"ThriceCounted$Ones", "slip", "(I)I"⟩ yX8_slip, Cond.instanceMethod yX8_slip, Cond.initialized RX8, Cond.code yX8_slip cX8_slip 2 (some .int), Cond.methodLink RX8 7 yX9_slip, Cond.sameMethod "ThriceCounted$Talked" "ThriceCounted$Talked" "slip" "(I)I", Cond.superclass RX8 RX9, Cond.instanceMethod yX9_slip, Cond.initialized RX9, Cond.code yX9_slip cX9_slip 2 (some .int), Cond.methodLink RX9 7 yX4_slip, Cond.superclass RX9 RX4, Cond.selects RX9 ⟨"ThriceCounted$Ones", "slip", "(I)I"⟩ yX9_slip, Cond.selects RX10 ⟨"ThriceCounted$Ones", "slip", "(I)I"⟩ yX10_slip, Cond.methodLink RX11 191 yX7_total, Cond.instanceMethod yX7_total, Cond.selects RX7 yX7_total yX7_total]
def wsX11_likely_r5 : List Cond := [Cond.code yX7_total cX7_total 4 (some .long), Cond.methodLink RX11 195 yX7_weightOf, Cond.instanceMethod yX7_weightOf, Cond.selects RX7 yX7_weightOf yX7_weightOf, Cond.code yX7_weightOf cX7_weightOf 3 (some .long), Cond.methodLink RX11 98 yX2_become, Cond.instanceMethod yX2_become, Cond.selects RX2 yX2_become yX2_become, Cond.initialized RX2, Cond.code yX2_become cX2_become 7 none, Cond.fieldLink RX2 7 "ThriceCounted$Fraction" "above" "J", Cond.fieldLink RX2 13 "ThriceCounted$Fraction" "below" "J", Cond.methodLink RX2 16 yX2_commonDivisor, Cond.static yX2_commonDivisor, Cond.code yX2_commonDivisor cX2_commonDivisor 11 (some .long)]
def wsX11_likely : List Cond := .code yX11_likely cX11_likely 3 (some .int) :: ((wsX11_likely_r1 ++ (wsX11_likely_r2 ++ (wsX11_likely_r3 ++ (wsX11_likely_r4 ++ wsX11_likely_r5)))) ++ wsX110 ++ wsX00 ++ wsX60 ++ wsX70 ++ wsX20)
def wsX11_truly_r1 : List Cond := [Cond.fieldLink RX11 34 "ThriceCounted" "bank" "LThriceCounted$Bank;", Cond.fieldLink RX11 85 "ThriceCounted$Bank" "bundles" "LThriceCounted$Rows;", Cond.fieldLink RX11 49 "ThriceCounted" "scale" "LThriceCounted$Scale;", Cond.fieldLink RX11 25 "ThriceCounted" "ways" "[LThriceCounted$Ones;", Cond.methodLink RX11 124 yX6_has, Cond.instanceMethod yX6_has, Cond.selects RX6 yX6_has yX6_has, Cond.initialized RX6, Cond.code yX6_has cX6_has 2 (some .boolean), Cond.fieldLink RX6 9 "ThriceCounted$Rows" "size" "I", Cond.methodLink RX11 102 yX11_within, Cond.static yX11_within, Cond.initialized RX11, Cond.code yX11_within cX11_within 3 (some .boolean), Cond.methodLink RX11 106 yX11_refuse, Cond.instanceMethod yX11_refuse, Cond.selects RX11 yX11_refuse yX11_refuse, Cond.code yX11_refuse cX11_refuse 2 (some .int), Cond.methodLink RX11 172 yX11_refuseAs, Cond.instanceMethod yX11_refuseAs, Cond.selects RX11 yX11_refuseAs yX11_refuseAs, Cond.code yX11_refuseAs cX11_refuseAs 4 (some .int), Cond.fieldLink RX11 75 "ThriceCounted" "refused" "[I", Cond.methodLink RX11 187 yX7_weigh]
def wsX11_truly_r2 : List Cond := [Cond.instanceMethod yX7_weigh, Cond.selects RX7 yX7_weigh yX7_weigh, Cond.initialized RX7, Cond.code yX7_weigh cX7_weigh 6 none, Cond.fieldLink RX7 9 "ThriceCounted$Scale" "weights" "[J", Cond.fieldLink RX7 23 "ThriceCounted$Bank" "counts" "LThriceCounted$Rows;", Cond.methodLink RX7 19 yX7_firstWeight, Cond.static yX7_firstWeight, Cond.code yX7_firstWeight cX7_firstWeight 7 (some .long), Cond.fieldLink RX7 43 "ThriceCounted$Bank" "bundles" "LThriceCounted$Rows;", Cond.fieldLink RX7 46 "ThriceCounted$Bank" "clerks" "LThriceCounted$Rows;", Cond.methodLink RX7 35 yX6_get, Cond.instanceMethod yX6_get, Cond.selects RX6 yX6_get yX6_get, Cond.code yX6_get cX6_get 3 (some .int), Cond.fieldLink RX6 27 "ThriceCounted$Rows" "cells" "[I", Cond.fieldLink RX6 24 "ThriceCounted$Rows" "width" "I", Cond.methodLink RX6 31 yX6_hasCell, Cond.instanceMethod yX6_hasCell, Cond.selects RX6 yX6_hasCell yX6_hasCell, Cond.code yX6_hasCell cX6_hasCell 3 (some .boolean), Cond.methodLink RX7 29 yX6_size, Cond.instanceMethod yX6_size, Cond.selects RX6 yX6_size yX6_size]
def wsX11_truly_r3 : List Cond := [Cond.code yX6_size cX6_size 1 (some .int), Cond.methodLink RX7 39 yX7_addCounts, Cond.instanceMethod yX7_addCounts, Cond.selects RX7 yX7_addCounts yX7_addCounts, Cond.code yX7_addCounts cX7_addCounts 6 none, Cond.fieldLink RX7 15 "ThriceCounted$Scale" "chances" "[I", Cond.methodLink RX7 49 ⟨"ThriceCounted$Ones", "slip", "(I)I"⟩, Cond.sameMethod "ThriceCounted$Ones" "ThriceCounted$Ones" "slip" "(I)I", Cond.instanceMethod ⟨"ThriceCounted$Ones", "slip", "(I)I"⟩, Cond.selects RX1 ⟨"ThriceCounted$Ones", "slip", "(I)I"⟩ yX1_slip, Cond.instanceMethod yX1_slip, Cond.initialized RX1, Cond.code yX1_slip cX1_slip 2 (some .int), Cond.methodLink RX1 7 yX4_slip, Cond.superclass RX1 RX4, Cond.instanceMethod yX4_slip, Cond.initialized RX4, Cond.code yX4_slip cX4_slip 2 (some .int), Cond.selects RX3 ⟨"ThriceCounted$Ones", "slip", "(I)I"⟩ yX3_slip, Cond.instanceMethod yX3_slip, Cond.initialized RX3, Cond.code yX3_slip cX3_slip 2 (some .int), Cond.methodLink RX3 7 yX10_slip, Cond.sameMethod "ThriceCounted$Weighed" "ThriceCounted$Weighed" "slip" "(I)I"]
def wsX11_truly_r4 : List Cond := [Cond.superclass RX3 RX10, Cond.instanceMethod yX10_slip, Cond.initialized RX10, Cond.code yX10_slip cX10_slip 2 (some .int), Cond.methodLink RX7 49 yX4_slip, Cond.selects RX4 yX4_slip yX4_slip, Cond.selects RX8 ⟨"ThriceCounted$Ones", "slip", "(I)I"⟩ yX8_slip, Cond.instanceMethod yX8_slip, Cond.initialized RX8, Cond.code yX8_slip cX8_slip 2 (some .int), Cond.methodLink RX8 7 yX9_slip, Cond.sameMethod "ThriceCounted$Talked" "ThriceCounted$Talked" "slip" "(I)I", Cond.superclass RX8 RX9, Cond.instanceMethod yX9_slip, Cond.initialized RX9, Cond.code yX9_slip cX9_slip 2 (some .int), Cond.methodLink RX9 7 yX4_slip, Cond.superclass RX9 RX4, Cond.selects RX9 ⟨"ThriceCounted$Ones", "slip", "(I)I"⟩ yX9_slip, Cond.selects RX10 ⟨"ThriceCounted$Ones", "slip", "(I)I"⟩ yX10_slip, Cond.methodLink RX11 199 yX7_heaviest, Cond.instanceMethod yX7_heaviest, Cond.selects RX7 yX7_heaviest yX7_heaviest, Cond.code yX7_heaviest cX7_heaviest 5 (some .int)]
def wsX11_truly_r5 : List Cond := [Cond.methodLink RX11 202 yX7_possible, Cond.instanceMethod yX7_possible, Cond.selects RX7 yX7_possible yX7_possible, Cond.code yX7_possible cX7_possible 3 (some .int)]
def wsX11_truly : List Cond := .code yX11_truly cX11_truly 3 (some .int) :: ((wsX11_truly_r1 ++ (wsX11_truly_r2 ++ (wsX11_truly_r3 ++ (wsX11_truly_r4 ++ wsX11_truly_r5)))) ++ wsX110 ++ wsX00 ++ wsX60 ++ wsX70)
def wsX11_agreed_r1 : List Cond := [Cond.fieldLink RX11 34 "ThriceCounted" "bank" "LThriceCounted$Bank;", Cond.fieldLink RX11 85 "ThriceCounted$Bank" "bundles" "LThriceCounted$Rows;", Cond.fieldLink RX11 138 "ThriceCounted$Bank" "counts" "LThriceCounted$Rows;", Cond.methodLink RX11 124 yX6_has, Cond.instanceMethod yX6_has, Cond.selects RX6 yX6_has yX6_has, Cond.initialized RX6, Cond.code yX6_has cX6_has 2 (some .boolean), Cond.fieldLink RX6 9 "ThriceCounted$Rows" "size" "I", Cond.methodLink RX11 106 yX11_refuse, Cond.instanceMethod yX11_refuse, Cond.selects RX11 yX11_refuse yX11_refuse, Cond.initialized RX11, Cond.code yX11_refuse cX11_refuse 2 (some .int), Cond.methodLink RX11 172 yX11_refuseAs, Cond.instanceMethod yX11_refuseAs, Cond.selects RX11 yX11_refuseAs yX11_refuseAs, Cond.code yX11_refuseAs cX11_refuseAs 4 (some .int), Cond.fieldLink RX11 75 "ThriceCounted" "refused" "[I", Cond.methodLink RX11 89 yX6_size, Cond.instanceMethod yX6_size, Cond.selects RX6 yX6_size yX6_size, Cond.code yX6_size cX6_size 1 (some .int), Cond.methodLink RX11 128 yX6_get]
def wsX11_agreed_r2 : List Cond := [Cond.instanceMethod yX6_get, Cond.selects RX6 yX6_get yX6_get, Cond.code yX6_get cX6_get 3 (some .int), Cond.fieldLink RX6 27 "ThriceCounted$Rows" "cells" "[I", Cond.fieldLink RX6 24 "ThriceCounted$Rows" "width" "I", Cond.methodLink RX6 31 yX6_hasCell, Cond.instanceMethod yX6_hasCell, Cond.selects RX6 yX6_hasCell yX6_hasCell, Cond.code yX6_hasCell cX6_hasCell 3 (some .boolean)]
def wsX11_agreed : List Cond := .code yX11_agreed cX11_agreed 5 (some .int) :: ((wsX11_agreed_r1 ++ wsX11_agreed_r2) ++ wsX110 ++ wsX00 ++ wsX60)
def wsX11_findTruths_r1 : List Cond := [Cond.fieldLink RX11 34 "ThriceCounted" "bank" "LThriceCounted$Bank;", Cond.fieldLink RX11 85 "ThriceCounted$Bank" "bundles" "LThriceCounted$Rows;", Cond.fieldLink RX11 79 "ThriceCounted" "truths" "[I", Cond.fieldLink RX11 49 "ThriceCounted" "scale" "LThriceCounted$Scale;", Cond.fieldLink RX11 25 "ThriceCounted" "ways" "[LThriceCounted$Ones;", Cond.methodLink RX11 89 yX6_size, Cond.instanceMethod yX6_size, Cond.selects RX6 yX6_size yX6_size, Cond.initialized RX6, Cond.code yX6_size cX6_size 1 (some .int), Cond.fieldLink RX6 9 "ThriceCounted$Rows" "size" "I", Cond.methodLink RX11 187 yX7_weigh, Cond.instanceMethod yX7_weigh, Cond.selects RX7 yX7_weigh yX7_weigh, Cond.initialized RX7, Cond.code yX7_weigh cX7_weigh 6 none, Cond.fieldLink RX7 9 "ThriceCounted$Scale" "weights" "[J", Cond.fieldLink RX7 23 "ThriceCounted$Bank" "counts" "LThriceCounted$Rows;", Cond.methodLink RX7 19 yX7_firstWeight, Cond.static yX7_firstWeight, Cond.code yX7_firstWeight cX7_firstWeight 7 (some .long), Cond.fieldLink RX7 43 "ThriceCounted$Bank" "bundles" "LThriceCounted$Rows;", Cond.fieldLink RX7 46 "ThriceCounted$Bank" "clerks" "LThriceCounted$Rows;", Cond.methodLink RX7 35 yX6_get]
def wsX11_findTruths_r2 : List Cond := [Cond.instanceMethod yX6_get, Cond.selects RX6 yX6_get yX6_get, Cond.code yX6_get cX6_get 3 (some .int), Cond.fieldLink RX6 27 "ThriceCounted$Rows" "cells" "[I", Cond.fieldLink RX6 24 "ThriceCounted$Rows" "width" "I", Cond.methodLink RX6 31 yX6_hasCell, Cond.instanceMethod yX6_hasCell, Cond.selects RX6 yX6_hasCell yX6_hasCell, Cond.code yX6_hasCell cX6_hasCell 3 (some .boolean), Cond.methodLink RX7 29 yX6_size, Cond.methodLink RX7 39 yX7_addCounts, Cond.instanceMethod yX7_addCounts, Cond.selects RX7 yX7_addCounts yX7_addCounts, Cond.code yX7_addCounts cX7_addCounts 6 none, Cond.fieldLink RX7 15 "ThriceCounted$Scale" "chances" "[I", Cond.methodLink RX7 49 ⟨"ThriceCounted$Ones", "slip", "(I)I"⟩, Cond.sameMethod "ThriceCounted$Ones" "ThriceCounted$Ones" "slip" "(I)I", Cond.instanceMethod ⟨"ThriceCounted$Ones", "slip", "(I)I"⟩, Cond.selects RX1 ⟨"ThriceCounted$Ones", "slip", "(I)I"⟩ yX1_slip, Cond.instanceMethod yX1_slip, Cond.initialized RX1, Cond.code yX1_slip cX1_slip 2 (some .int), Cond.methodLink RX1 7 yX4_slip, Cond.superclass RX1 RX4]
def wsX11_findTruths_r3 : List Cond := [Cond.instanceMethod yX4_slip, Cond.initialized RX4, Cond.code yX4_slip cX4_slip 2 (some .int), Cond.selects RX3 ⟨"ThriceCounted$Ones", "slip", "(I)I"⟩ yX3_slip, Cond.instanceMethod yX3_slip, Cond.initialized RX3, Cond.code yX3_slip cX3_slip 2 (some .int), Cond.methodLink RX3 7 yX10_slip, Cond.sameMethod "ThriceCounted$Weighed" "ThriceCounted$Weighed" "slip" "(I)I", Cond.superclass RX3 RX10, Cond.instanceMethod yX10_slip, Cond.initialized RX10, Cond.code yX10_slip cX10_slip 2 (some .int), Cond.methodLink RX7 49 yX4_slip, Cond.selects RX4 yX4_slip yX4_slip, Cond.selects RX8 ⟨"ThriceCounted$Ones", "slip", "(I)I"⟩ yX8_slip, Cond.instanceMethod yX8_slip, Cond.initialized RX8, Cond.code yX8_slip cX8_slip 2 (some .int), Cond.methodLink RX8 7 yX9_slip, Cond.sameMethod "ThriceCounted$Talked" "ThriceCounted$Talked" "slip" "(I)I", Cond.superclass RX8 RX9, Cond.instanceMethod yX9_slip, Cond.initialized RX9]
def wsX11_findTruths_r4 : List Cond := [Cond.code yX9_slip cX9_slip 2 (some .int), Cond.methodLink RX9 7 yX4_slip, Cond.superclass RX9 RX4, Cond.selects RX9 ⟨"ThriceCounted$Ones", "slip", "(I)I"⟩ yX9_slip, Cond.selects RX10 ⟨"ThriceCounted$Ones", "slip", "(I)I"⟩ yX10_slip, Cond.methodLink RX11 199 yX7_heaviest, Cond.instanceMethod yX7_heaviest, Cond.selects RX7 yX7_heaviest yX7_heaviest, Cond.code yX7_heaviest cX7_heaviest 5 (some .int)]
def wsX11_findTruths : List Cond := .code yX11_findTruths cX11_findTruths 2 none :: ((wsX11_findTruths_r1 ++ (wsX11_findTruths_r2 ++ (wsX11_findTruths_r3 ++ wsX11_findTruths_r4))) ++ wsX110 ++ wsX00 ++ wsX60 ++ wsX70)
def wsX11_rightLessWrong : List Cond := .code yX11_rightLessWrong cX11_rightLessWrong 5 (some .int) :: ([.fieldLink RX11 34 "ThriceCounted" "bank" "LThriceCounted$Bank;", .fieldLink RX11 138 "ThriceCounted$Bank" "counts" "LThriceCounted$Rows;", .fieldLink RX11 79 "ThriceCounted" "truths" "[I", .methodLink RX11 89 yX6_size, .instanceMethod yX6_size, .selects RX6 yX6_size yX6_size, .initialized RX6, .code yX6_size cX6_size 1 (some .int), .fieldLink RX6 9 "ThriceCounted$Rows" "size" "I", .methodLink RX11 128 yX6_get, .instanceMethod yX6_get, .selects RX6 yX6_get yX6_get, .code yX6_get cX6_get 3 (some .int), .fieldLink RX6 27 "ThriceCounted$Rows" "cells" "[I", .fieldLink RX6 24 "ThriceCounted$Rows" "width" "I", .methodLink RX6 31 yX6_hasCell, .instanceMethod yX6_hasCell, .selects RX6 yX6_hasCell yX6_hasCell, .code yX6_hasCell cX6_hasCell 3 (some .boolean)] ++ wsX110 ++ wsX00 ++ wsX60)
def wsX11_believe_r1 : List Cond := [Cond.fieldLink RX11 34 "ThriceCounted" "bank" "LThriceCounted$Bank;", Cond.fieldLink RX11 138 "ThriceCounted$Bank" "counts" "LThriceCounted$Rows;", Cond.fieldLink RX11 110 "ThriceCounted$Bank" "clerks" "LThriceCounted$Rows;", Cond.methodLink RX11 89 yX6_size, Cond.instanceMethod yX6_size, Cond.selects RX6 yX6_size yX6_size, Cond.initialized RX6, Cond.code yX6_size cX6_size 1 (some .int), Cond.fieldLink RX6 9 "ThriceCounted$Rows" "size" "I", Cond.methodLink RX11 205 yX11_findTruths, Cond.instanceMethod yX11_findTruths, Cond.selects RX11 yX11_findTruths yX11_findTruths, Cond.initialized RX11, Cond.code yX11_findTruths cX11_findTruths 2 none, Cond.fieldLink RX11 85 "ThriceCounted$Bank" "bundles" "LThriceCounted$Rows;", Cond.fieldLink RX11 79 "ThriceCounted" "truths" "[I", Cond.fieldLink RX11 49 "ThriceCounted" "scale" "LThriceCounted$Scale;", Cond.fieldLink RX11 25 "ThriceCounted" "ways" "[LThriceCounted$Ones;", Cond.methodLink RX11 187 yX7_weigh, Cond.instanceMethod yX7_weigh, Cond.selects RX7 yX7_weigh yX7_weigh, Cond.initialized RX7, Cond.code yX7_weigh cX7_weigh 6 none, Cond.fieldLink RX7 9 "ThriceCounted$Scale" "weights" "[J"]
def wsX11_believe_r2 : List Cond := [Cond.fieldLink RX7 23 "ThriceCounted$Bank" "counts" "LThriceCounted$Rows;", Cond.methodLink RX7 19 yX7_firstWeight, Cond.static yX7_firstWeight, Cond.code yX7_firstWeight cX7_firstWeight 7 (some .long), Cond.fieldLink RX7 43 "ThriceCounted$Bank" "bundles" "LThriceCounted$Rows;", Cond.fieldLink RX7 46 "ThriceCounted$Bank" "clerks" "LThriceCounted$Rows;", Cond.methodLink RX7 35 yX6_get, Cond.instanceMethod yX6_get, Cond.selects RX6 yX6_get yX6_get, Cond.code yX6_get cX6_get 3 (some .int), Cond.fieldLink RX6 27 "ThriceCounted$Rows" "cells" "[I", Cond.fieldLink RX6 24 "ThriceCounted$Rows" "width" "I", Cond.methodLink RX6 31 yX6_hasCell, Cond.instanceMethod yX6_hasCell, Cond.selects RX6 yX6_hasCell yX6_hasCell, Cond.code yX6_hasCell cX6_hasCell 3 (some .boolean), Cond.methodLink RX7 29 yX6_size, Cond.methodLink RX7 39 yX7_addCounts, Cond.instanceMethod yX7_addCounts, Cond.selects RX7 yX7_addCounts yX7_addCounts, Cond.code yX7_addCounts cX7_addCounts 6 none, Cond.fieldLink RX7 15 "ThriceCounted$Scale" "chances" "[I", Cond.methodLink RX7 49 ⟨"ThriceCounted$Ones", "slip", "(I)I"⟩, Cond.sameMethod "ThriceCounted$Ones" "ThriceCounted$Ones" "slip" "(I)I"]
def wsX11_believe_r3 : List Cond := [Cond.instanceMethod ⟨"ThriceCounted$Ones", "slip", "(I)I"⟩, Cond.selects RX1 ⟨"ThriceCounted$Ones", "slip", "(I)I"⟩ yX1_slip, Cond.instanceMethod yX1_slip, Cond.initialized RX1, Cond.code yX1_slip cX1_slip 2 (some .int), Cond.methodLink RX1 7 yX4_slip, Cond.superclass RX1 RX4, Cond.instanceMethod yX4_slip, Cond.initialized RX4, Cond.code yX4_slip cX4_slip 2 (some .int), Cond.selects RX3 ⟨"ThriceCounted$Ones", "slip", "(I)I"⟩ yX3_slip, Cond.instanceMethod yX3_slip, Cond.initialized RX3, Cond.code yX3_slip cX3_slip 2 (some .int), Cond.methodLink RX3 7 yX10_slip, Cond.sameMethod "ThriceCounted$Weighed" "ThriceCounted$Weighed" "slip" "(I)I", Cond.superclass RX3 RX10, Cond.instanceMethod yX10_slip, Cond.initialized RX10, Cond.code yX10_slip cX10_slip 2 (some .int), Cond.methodLink RX7 49 yX4_slip, Cond.selects RX4 yX4_slip yX4_slip, Cond.selects RX8 ⟨"ThriceCounted$Ones", "slip", "(I)I"⟩ yX8_slip, Cond.instanceMethod yX8_slip]
def wsX11_believe_r4 : List Cond := [Cond.initialized RX8, Cond.code yX8_slip cX8_slip 2 (some .int), Cond.methodLink RX8 7 yX9_slip, Cond.sameMethod "ThriceCounted$Talked" "ThriceCounted$Talked" "slip" "(I)I", Cond.superclass RX8 RX9, Cond.instanceMethod yX9_slip, Cond.initialized RX9, Cond.code yX9_slip cX9_slip 2 (some .int), Cond.methodLink RX9 7 yX4_slip, Cond.superclass RX9 RX4, Cond.selects RX9 ⟨"ThriceCounted$Ones", "slip", "(I)I"⟩ yX9_slip, Cond.selects RX10 ⟨"ThriceCounted$Ones", "slip", "(I)I"⟩ yX10_slip, Cond.methodLink RX11 199 yX7_heaviest, Cond.instanceMethod yX7_heaviest, Cond.selects RX7 yX7_heaviest yX7_heaviest, Cond.code yX7_heaviest cX7_heaviest 5 (some .int), Cond.methodLink RX11 208 yX11_rightLessWrong, Cond.instanceMethod yX11_rightLessWrong, Cond.selects RX11 yX11_rightLessWrong yX11_rightLessWrong, Cond.code yX11_rightLessWrong cX11_rightLessWrong 5 (some .int), Cond.methodLink RX11 128 yX6_get]
def wsX11_believe : List Cond := .code yX11_believe cX11_believe 3 (some .int) :: ((wsX11_believe_r1 ++ (wsX11_believe_r2 ++ (wsX11_believe_r3 ++ wsX11_believe_r4))) ++ wsX110 ++ wsX00 ++ wsX60 ++ wsX70)
def wsX11_wrong_r1 : List Cond := [Cond.fieldLink RX11 34 "ThriceCounted" "bank" "LThriceCounted$Bank;", Cond.fieldLink RX11 138 "ThriceCounted$Bank" "counts" "LThriceCounted$Rows;", Cond.fieldLink RX11 49 "ThriceCounted" "scale" "LThriceCounted$Scale;", Cond.fieldLink RX11 25 "ThriceCounted" "ways" "[LThriceCounted$Ones;", Cond.fieldLink RX11 63 "ThriceCounted" "fraction" "LThriceCounted$Fraction;", Cond.methodLink RX11 124 yX6_has, Cond.instanceMethod yX6_has, Cond.selects RX6 yX6_has yX6_has, Cond.initialized RX6, Cond.code yX6_has cX6_has 2 (some .boolean), Cond.fieldLink RX6 9 "ThriceCounted$Rows" "size" "I", Cond.methodLink RX11 106 yX11_refuse, Cond.instanceMethod yX11_refuse, Cond.selects RX11 yX11_refuse yX11_refuse, Cond.initialized RX11, Cond.code yX11_refuse cX11_refuse 2 (some .int), Cond.methodLink RX11 172 yX11_refuseAs, Cond.instanceMethod yX11_refuseAs, Cond.selects RX11 yX11_refuseAs yX11_refuseAs, Cond.code yX11_refuseAs cX11_refuseAs 4 (some .int), Cond.fieldLink RX11 75 "ThriceCounted" "refused" "[I", Cond.methodLink RX11 128 yX6_get, Cond.instanceMethod yX6_get, Cond.selects RX6 yX6_get yX6_get]
def wsX11_wrong_r2 : List Cond := [Cond.code yX6_get cX6_get 3 (some .int), Cond.fieldLink RX6 27 "ThriceCounted$Rows" "cells" "[I", Cond.fieldLink RX6 24 "ThriceCounted$Rows" "width" "I", Cond.methodLink RX6 31 yX6_hasCell, Cond.instanceMethod yX6_hasCell, Cond.selects RX6 yX6_hasCell yX6_hasCell, Cond.code yX6_hasCell cX6_hasCell 3 (some .boolean), Cond.methodLink RX11 187 yX7_weigh, Cond.instanceMethod yX7_weigh, Cond.selects RX7 yX7_weigh yX7_weigh, Cond.initialized RX7, Cond.code yX7_weigh cX7_weigh 6 none, Cond.fieldLink RX7 9 "ThriceCounted$Scale" "weights" "[J", Cond.fieldLink RX7 23 "ThriceCounted$Bank" "counts" "LThriceCounted$Rows;", Cond.methodLink RX7 19 yX7_firstWeight, Cond.static yX7_firstWeight, Cond.code yX7_firstWeight cX7_firstWeight 7 (some .long), Cond.fieldLink RX7 43 "ThriceCounted$Bank" "bundles" "LThriceCounted$Rows;", Cond.fieldLink RX7 46 "ThriceCounted$Bank" "clerks" "LThriceCounted$Rows;", Cond.methodLink RX7 35 yX6_get, Cond.methodLink RX7 29 yX6_size, Cond.instanceMethod yX6_size, Cond.selects RX6 yX6_size yX6_size, Cond.code yX6_size cX6_size 1 (some .int)]
def wsX11_wrong_r3 : List Cond := [Cond.methodLink RX7 39 yX7_addCounts, Cond.instanceMethod yX7_addCounts, Cond.selects RX7 yX7_addCounts yX7_addCounts, Cond.code yX7_addCounts cX7_addCounts 6 none, Cond.fieldLink RX7 15 "ThriceCounted$Scale" "chances" "[I", Cond.methodLink RX7 49 ⟨"ThriceCounted$Ones", "slip", "(I)I"⟩, Cond.sameMethod "ThriceCounted$Ones" "ThriceCounted$Ones" "slip" "(I)I", Cond.instanceMethod ⟨"ThriceCounted$Ones", "slip", "(I)I"⟩, Cond.selects RX1 ⟨"ThriceCounted$Ones", "slip", "(I)I"⟩ yX1_slip, Cond.instanceMethod yX1_slip, Cond.initialized RX1, Cond.code yX1_slip cX1_slip 2 (some .int), Cond.methodLink RX1 7 yX4_slip, Cond.superclass RX1 RX4, Cond.instanceMethod yX4_slip, Cond.initialized RX4, Cond.code yX4_slip cX4_slip 2 (some .int), Cond.selects RX3 ⟨"ThriceCounted$Ones", "slip", "(I)I"⟩ yX3_slip, Cond.instanceMethod yX3_slip, Cond.initialized RX3, Cond.code yX3_slip cX3_slip 2 (some .int), Cond.methodLink RX3 7 yX10_slip, Cond.sameMethod "ThriceCounted$Weighed" "ThriceCounted$Weighed" "slip" "(I)I", Cond.superclass RX3 RX10]
def wsX11_wrong_r4 : List Cond := [Cond.instanceMethod yX10_slip, Cond.initialized RX10, Cond.code yX10_slip cX10_slip 2 (some .int), Cond.methodLink RX7 49 yX4_slip, Cond.selects RX4 yX4_slip yX4_slip, Cond.selects RX8 ⟨"ThriceCounted$Ones", "slip", "(I)I"⟩ yX8_slip, Cond.instanceMethod yX8_slip, Cond.initialized RX8, Cond.code yX8_slip cX8_slip 2 (some .int), Cond.methodLink RX8 7 yX9_slip, Cond.sameMethod "ThriceCounted$Talked" "ThriceCounted$Talked" "slip" "(I)I", Cond.superclass RX8 RX9, Cond.instanceMethod yX9_slip, Cond.initialized RX9, Cond.code yX9_slip cX9_slip 2 (some .int), Cond.methodLink RX9 7 yX4_slip, Cond.superclass RX9 RX4, Cond.selects RX9 ⟨"ThriceCounted$Ones", "slip", "(I)I"⟩ yX9_slip, Cond.selects RX10 ⟨"ThriceCounted$Ones", "slip", "(I)I"⟩ yX10_slip, Cond.methodLink RX11 191 yX7_total, Cond.instanceMethod yX7_total, Cond.selects RX7 yX7_total yX7_total, Cond.code yX7_total cX7_total 4 (some .long), Cond.methodLink RX11 195 yX7_weightOf]
def wsX11_wrong_r5 : List Cond := [Cond.instanceMethod yX7_weightOf, Cond.selects RX7 yX7_weightOf yX7_weightOf, Cond.code yX7_weightOf cX7_weightOf 3 (some .long), Cond.methodLink RX11 98 yX2_become, Cond.instanceMethod yX2_become, Cond.selects RX2 yX2_become yX2_become, Cond.initialized RX2, Cond.code yX2_become cX2_become 7 none, Cond.fieldLink RX2 7 "ThriceCounted$Fraction" "above" "J", Cond.fieldLink RX2 13 "ThriceCounted$Fraction" "below" "J", Cond.methodLink RX2 16 yX2_commonDivisor, Cond.static yX2_commonDivisor, Cond.code yX2_commonDivisor cX2_commonDivisor 11 (some .long)]
def wsX11_wrong : List Cond := .code yX11_wrong cX11_wrong 2 (some .int) :: ((wsX11_wrong_r1 ++ (wsX11_wrong_r2 ++ (wsX11_wrong_r3 ++ (wsX11_wrong_r4 ++ wsX11_wrong_r5)))) ++ wsX110 ++ wsX00 ++ wsX60 ++ wsX70 ++ wsX20)
def wsX11_weighMore_r1 : List Cond := [Cond.fieldLink RX11 49 "ThriceCounted" "scale" "LThriceCounted$Scale;", Cond.fieldLink RX11 25 "ThriceCounted" "ways" "[LThriceCounted$Ones;", Cond.methodLink RX11 135 yX11_isWay, Cond.instanceMethod yX11_isWay, Cond.selects RX11 yX11_isWay yX11_isWay, Cond.initialized RX11, Cond.code yX11_isWay cX11_isWay 2 (some .boolean), Cond.methodLink RX11 297 yX7_addCounts, Cond.instanceMethod yX7_addCounts, Cond.selects RX7 yX7_addCounts yX7_addCounts, Cond.initialized RX7, Cond.code yX7_addCounts cX7_addCounts 6 none, Cond.fieldLink RX7 15 "ThriceCounted$Scale" "chances" "[I", Cond.fieldLink RX7 9 "ThriceCounted$Scale" "weights" "[J", Cond.methodLink RX7 49 ⟨"ThriceCounted$Ones", "slip", "(I)I"⟩, Cond.sameMethod "ThriceCounted$Ones" "ThriceCounted$Ones" "slip" "(I)I", Cond.instanceMethod ⟨"ThriceCounted$Ones", "slip", "(I)I"⟩, Cond.selects RX1 ⟨"ThriceCounted$Ones", "slip", "(I)I"⟩ yX1_slip, Cond.instanceMethod yX1_slip, Cond.initialized RX1, Cond.code yX1_slip cX1_slip 2 (some .int), Cond.methodLink RX1 7 yX4_slip, Cond.superclass RX1 RX4, Cond.instanceMethod yX4_slip]
def wsX11_weighMore_r2 : List Cond := [Cond.initialized RX4, Cond.code yX4_slip cX4_slip 2 (some .int), Cond.selects RX3 ⟨"ThriceCounted$Ones", "slip", "(I)I"⟩ yX3_slip, Cond.instanceMethod yX3_slip, Cond.initialized RX3, Cond.code yX3_slip cX3_slip 2 (some .int), Cond.methodLink RX3 7 yX10_slip, Cond.sameMethod "ThriceCounted$Weighed" "ThriceCounted$Weighed" "slip" "(I)I", Cond.superclass RX3 RX10, Cond.instanceMethod yX10_slip, Cond.initialized RX10, Cond.code yX10_slip cX10_slip 2 (some .int), Cond.methodLink RX7 49 yX4_slip, Cond.selects RX4 yX4_slip yX4_slip, Cond.selects RX8 ⟨"ThriceCounted$Ones", "slip", "(I)I"⟩ yX8_slip, Cond.instanceMethod yX8_slip, Cond.initialized RX8, Cond.code yX8_slip cX8_slip 2 (some .int), Cond.methodLink RX8 7 yX9_slip, Cond.sameMethod "ThriceCounted$Talked" "ThriceCounted$Talked" "slip" "(I)I", Cond.superclass RX8 RX9, Cond.instanceMethod yX9_slip, Cond.initialized RX9, Cond.code yX9_slip cX9_slip 2 (some .int)]
def wsX11_weighMore_r3 : List Cond := [Cond.methodLink RX9 7 yX4_slip, Cond.superclass RX9 RX4, Cond.selects RX9 ⟨"ThriceCounted$Ones", "slip", "(I)I"⟩ yX9_slip, Cond.selects RX10 ⟨"ThriceCounted$Ones", "slip", "(I)I"⟩ yX10_slip]
def wsX11_weighMore : List Cond := .code yX11_weighMore cX11_weighMore 4 none :: ((wsX11_weighMore_r1 ++ (wsX11_weighMore_r2 ++ wsX11_weighMore_r3)) ++ wsX110 ++ wsX70)
def wsX11_enough_r1 : List Cond := [Cond.fieldLink RX11 34 "ThriceCounted" "bank" "LThriceCounted$Bank;", Cond.fieldLink RX11 85 "ThriceCounted$Bank" "bundles" "LThriceCounted$Rows;", Cond.fieldLink RX11 49 "ThriceCounted" "scale" "LThriceCounted$Scale;", Cond.fieldLink RX11 25 "ThriceCounted" "ways" "[LThriceCounted$Ones;", Cond.constantLong RX11 211 (10), Cond.methodLink RX11 124 yX6_has, Cond.instanceMethod yX6_has, Cond.selects RX6 yX6_has yX6_has, Cond.initialized RX6, Cond.code yX6_has cX6_has 2 (some .boolean), Cond.fieldLink RX6 9 "ThriceCounted$Rows" "size" "I", Cond.methodLink RX11 135 yX11_isWay, Cond.instanceMethod yX11_isWay, Cond.selects RX11 yX11_isWay yX11_isWay, Cond.initialized RX11, Cond.code yX11_isWay cX11_isWay 2 (some .boolean), Cond.methodLink RX11 102 yX11_within, Cond.static yX11_within, Cond.code yX11_within cX11_within 3 (some .boolean), Cond.methodLink RX11 106 yX11_refuse, Cond.instanceMethod yX11_refuse, Cond.selects RX11 yX11_refuse yX11_refuse, Cond.code yX11_refuse cX11_refuse 2 (some .int), Cond.methodLink RX11 172 yX11_refuseAs]
def wsX11_enough_r2 : List Cond := [Cond.instanceMethod yX11_refuseAs, Cond.selects RX11 yX11_refuseAs yX11_refuseAs, Cond.code yX11_refuseAs cX11_refuseAs 4 (some .int), Cond.fieldLink RX11 75 "ThriceCounted" "refused" "[I", Cond.methodLink RX11 187 yX7_weigh, Cond.instanceMethod yX7_weigh, Cond.selects RX7 yX7_weigh yX7_weigh, Cond.initialized RX7, Cond.code yX7_weigh cX7_weigh 6 none, Cond.fieldLink RX7 9 "ThriceCounted$Scale" "weights" "[J", Cond.fieldLink RX7 23 "ThriceCounted$Bank" "counts" "LThriceCounted$Rows;", Cond.methodLink RX7 19 yX7_firstWeight, Cond.static yX7_firstWeight, Cond.code yX7_firstWeight cX7_firstWeight 7 (some .long), Cond.fieldLink RX7 43 "ThriceCounted$Bank" "bundles" "LThriceCounted$Rows;", Cond.fieldLink RX7 46 "ThriceCounted$Bank" "clerks" "LThriceCounted$Rows;", Cond.methodLink RX7 35 yX6_get, Cond.instanceMethod yX6_get, Cond.selects RX6 yX6_get yX6_get, Cond.code yX6_get cX6_get 3 (some .int), Cond.fieldLink RX6 27 "ThriceCounted$Rows" "cells" "[I", Cond.fieldLink RX6 24 "ThriceCounted$Rows" "width" "I", Cond.methodLink RX6 31 yX6_hasCell, Cond.instanceMethod yX6_hasCell]
def wsX11_enough_r3 : List Cond := [Cond.selects RX6 yX6_hasCell yX6_hasCell, Cond.code yX6_hasCell cX6_hasCell 3 (some .boolean), Cond.methodLink RX7 29 yX6_size, Cond.instanceMethod yX6_size, Cond.selects RX6 yX6_size yX6_size, Cond.code yX6_size cX6_size 1 (some .int), Cond.methodLink RX7 39 yX7_addCounts, Cond.instanceMethod yX7_addCounts, Cond.selects RX7 yX7_addCounts yX7_addCounts, Cond.code yX7_addCounts cX7_addCounts 6 none, Cond.fieldLink RX7 15 "ThriceCounted$Scale" "chances" "[I", Cond.methodLink RX7 49 ⟨"ThriceCounted$Ones", "slip", "(I)I"⟩, Cond.sameMethod "ThriceCounted$Ones" "ThriceCounted$Ones" "slip" "(I)I", Cond.instanceMethod ⟨"ThriceCounted$Ones", "slip", "(I)I"⟩, Cond.selects RX1 ⟨"ThriceCounted$Ones", "slip", "(I)I"⟩ yX1_slip, Cond.instanceMethod yX1_slip, Cond.initialized RX1, Cond.code yX1_slip cX1_slip 2 (some .int), Cond.methodLink RX1 7 yX4_slip, Cond.superclass RX1 RX4, Cond.instanceMethod yX4_slip, Cond.initialized RX4, Cond.code yX4_slip cX4_slip 2 (some .int), Cond.selects RX3 ⟨"ThriceCounted$Ones", "slip", "(I)I"⟩ yX3_slip]
def wsX11_enough_r4 : List Cond := [Cond.instanceMethod yX3_slip, Cond.initialized RX3, Cond.code yX3_slip cX3_slip 2 (some .int), Cond.methodLink RX3 7 yX10_slip, Cond.sameMethod "ThriceCounted$Weighed" "ThriceCounted$Weighed" "slip" "(I)I", Cond.superclass RX3 RX10, Cond.instanceMethod yX10_slip, Cond.initialized RX10, Cond.code yX10_slip cX10_slip 2 (some .int), Cond.methodLink RX7 49 yX4_slip, Cond.selects RX4 yX4_slip yX4_slip, Cond.selects RX8 ⟨"ThriceCounted$Ones", "slip", "(I)I"⟩ yX8_slip, Cond.instanceMethod yX8_slip, Cond.initialized RX8, Cond.code yX8_slip cX8_slip 2 (some .int), Cond.methodLink RX8 7 yX9_slip, Cond.sameMethod "ThriceCounted$Talked" "ThriceCounted$Talked" "slip" "(I)I", Cond.superclass RX8 RX9, Cond.instanceMethod yX9_slip, Cond.initialized RX9, Cond.code yX9_slip cX9_slip 2 (some .int), Cond.methodLink RX9 7 yX4_slip, Cond.superclass RX9 RX4, Cond.selects RX9 ⟨"ThriceCounted$Ones", "slip", "(I)I"⟩ yX9_slip]
def wsX11_enough_r5 : List Cond := [Cond.selects RX10 ⟨"ThriceCounted$Ones", "slip", "(I)I"⟩ yX10_slip, Cond.methodLink RX11 199 yX7_heaviest, Cond.instanceMethod yX7_heaviest, Cond.selects RX7 yX7_heaviest yX7_heaviest, Cond.code yX7_heaviest cX7_heaviest 5 (some .int), Cond.methodLink RX11 195 yX7_weightOf, Cond.instanceMethod yX7_weightOf, Cond.selects RX7 yX7_weightOf yX7_weightOf, Cond.code yX7_weightOf cX7_weightOf 3 (some .long), Cond.methodLink RX11 191 yX7_total, Cond.instanceMethod yX7_total, Cond.selects RX7 yX7_total yX7_total, Cond.code yX7_total cX7_total 4 (some .long), Cond.methodLink RX11 213 yX11_weighMore, Cond.instanceMethod yX11_weighMore, Cond.selects RX11 yX11_weighMore yX11_weighMore, Cond.code yX11_weighMore cX11_weighMore 4 none, Cond.methodLink RX11 297 yX7_addCounts]
def wsX11_enough : List Cond := .code yX11_enough cX11_enough 6 (some .int) :: ((wsX11_enough_r1 ++ (wsX11_enough_r2 ++ (wsX11_enough_r3 ++ (wsX11_enough_r4 ++ wsX11_enough_r5)))) ++ wsX110 ++ wsX00 ++ wsX60 ++ wsX70)
def wsX11_minutesOf_r1 : List Cond := [Cond.fieldLink RX11 25 "ThriceCounted" "ways" "[LThriceCounted$Ones;", Cond.methodLink RX11 135 yX11_isWay, Cond.instanceMethod yX11_isWay, Cond.selects RX11 yX11_isWay yX11_isWay, Cond.initialized RX11, Cond.code yX11_isWay cX11_isWay 2 (some .boolean), Cond.methodLink RX11 178 ⟨"ThriceCounted$Ones", "minutes", "()I"⟩, Cond.sameMethod "ThriceCounted$Ones" "ThriceCounted$Ones" "minutes" "()I", Cond.instanceMethod ⟨"ThriceCounted$Ones", "minutes", "()I"⟩, Cond.selects RX1 ⟨"ThriceCounted$Ones", "minutes", "()I"⟩ yX1_minutes, Cond.instanceMethod yX1_minutes, Cond.initialized RX1, Cond.code yX1_minutes cX1_minutes 1 (some .int), Cond.methodLink RX1 11 yX4_minutes, Cond.superclass RX1 RX4, Cond.instanceMethod yX4_minutes, Cond.initialized RX4, Cond.code yX4_minutes cX4_minutes 1 (some .int), Cond.selects RX3 ⟨"ThriceCounted$Ones", "minutes", "()I"⟩ yX10_minutes, Cond.instanceMethod yX10_minutes, Cond.initialized RX10, Cond.code yX10_minutes cX10_minutes 1 (some .int), Cond.methodLink RX11 178 yX4_minutes, Cond.selects RX4 yX4_minutes yX4_minutes]
def wsX11_minutesOf_r2 : List Cond := [Cond.selects RX8 ⟨"ThriceCounted$Ones", "minutes", "()I"⟩ yX9_minutes, Cond.instanceMethod yX9_minutes, Cond.initialized RX9, Cond.code yX9_minutes cX9_minutes 1 (some .int), Cond.methodLink RX9 11 yX4_minutes, Cond.superclass RX9 RX4, Cond.selects RX9 ⟨"ThriceCounted$Ones", "minutes", "()I"⟩ yX9_minutes, Cond.selects RX10 ⟨"ThriceCounted$Ones", "minutes", "()I"⟩ yX10_minutes]
def wsX11_minutesOf : List Cond := .code yX11_minutesOf cX11_minutesOf 2 (some .int) :: ((wsX11_minutesOf_r1 ++ wsX11_minutesOf_r2) ++ wsX110)
def wsX11_canDo_r1 : List Cond := [Cond.methodLink RX11 294 yX11_minutesOf, Cond.instanceMethod yX11_minutesOf, Cond.selects RX11 yX11_minutesOf yX11_minutesOf, Cond.initialized RX11, Cond.code yX11_minutesOf cX11_minutesOf 2 (some .int), Cond.fieldLink RX11 25 "ThriceCounted" "ways" "[LThriceCounted$Ones;", Cond.methodLink RX11 135 yX11_isWay, Cond.instanceMethod yX11_isWay, Cond.selects RX11 yX11_isWay yX11_isWay, Cond.code yX11_isWay cX11_isWay 2 (some .boolean), Cond.methodLink RX11 178 ⟨"ThriceCounted$Ones", "minutes", "()I"⟩, Cond.sameMethod "ThriceCounted$Ones" "ThriceCounted$Ones" "minutes" "()I", Cond.instanceMethod ⟨"ThriceCounted$Ones", "minutes", "()I"⟩, Cond.selects RX1 ⟨"ThriceCounted$Ones", "minutes", "()I"⟩ yX1_minutes, Cond.instanceMethod yX1_minutes, Cond.initialized RX1, Cond.code yX1_minutes cX1_minutes 1 (some .int), Cond.methodLink RX1 11 yX4_minutes, Cond.superclass RX1 RX4, Cond.instanceMethod yX4_minutes, Cond.initialized RX4, Cond.code yX4_minutes cX4_minutes 1 (some .int), Cond.selects RX3 ⟨"ThriceCounted$Ones", "minutes", "()I"⟩ yX10_minutes, Cond.instanceMethod yX10_minutes]
def wsX11_canDo_r2 : List Cond := [Cond.initialized RX10, Cond.code yX10_minutes cX10_minutes 1 (some .int), Cond.methodLink RX11 178 yX4_minutes, Cond.selects RX4 yX4_minutes yX4_minutes, Cond.selects RX8 ⟨"ThriceCounted$Ones", "minutes", "()I"⟩ yX9_minutes, Cond.instanceMethod yX9_minutes, Cond.initialized RX9, Cond.code yX9_minutes cX9_minutes 1 (some .int), Cond.methodLink RX9 11 yX4_minutes, Cond.superclass RX9 RX4, Cond.selects RX9 ⟨"ThriceCounted$Ones", "minutes", "()I"⟩ yX9_minutes, Cond.selects RX10 ⟨"ThriceCounted$Ones", "minutes", "()I"⟩ yX10_minutes]
def wsX11_canDo : List Cond := .code yX11_canDo cX11_canDo 7 (some .boolean) :: ((wsX11_canDo_r1 ++ wsX11_canDo_r2) ++ wsX110)
def wsX11_weighPlan_r1 : List Cond := [Cond.fieldLink RX11 49 "ThriceCounted" "scale" "LThriceCounted$Scale;", Cond.fieldLink RX11 34 "ThriceCounted" "bank" "LThriceCounted$Bank;", Cond.fieldLink RX11 25 "ThriceCounted" "ways" "[LThriceCounted$Ones;", Cond.methodLink RX11 187 yX7_weigh, Cond.instanceMethod yX7_weigh, Cond.selects RX7 yX7_weigh yX7_weigh, Cond.initialized RX7, Cond.code yX7_weigh cX7_weigh 6 none, Cond.fieldLink RX7 9 "ThriceCounted$Scale" "weights" "[J", Cond.fieldLink RX7 23 "ThriceCounted$Bank" "counts" "LThriceCounted$Rows;", Cond.methodLink RX7 19 yX7_firstWeight, Cond.static yX7_firstWeight, Cond.code yX7_firstWeight cX7_firstWeight 7 (some .long), Cond.fieldLink RX7 43 "ThriceCounted$Bank" "bundles" "LThriceCounted$Rows;", Cond.fieldLink RX7 46 "ThriceCounted$Bank" "clerks" "LThriceCounted$Rows;", Cond.methodLink RX7 35 yX6_get, Cond.instanceMethod yX6_get, Cond.selects RX6 yX6_get yX6_get, Cond.initialized RX6, Cond.code yX6_get cX6_get 3 (some .int), Cond.fieldLink RX6 27 "ThriceCounted$Rows" "cells" "[I", Cond.fieldLink RX6 24 "ThriceCounted$Rows" "width" "I", Cond.methodLink RX6 31 yX6_hasCell, Cond.instanceMethod yX6_hasCell]
def wsX11_weighPlan_r2 : List Cond := [Cond.selects RX6 yX6_hasCell yX6_hasCell, Cond.code yX6_hasCell cX6_hasCell 3 (some .boolean), Cond.fieldLink RX6 9 "ThriceCounted$Rows" "size" "I", Cond.methodLink RX7 29 yX6_size, Cond.instanceMethod yX6_size, Cond.selects RX6 yX6_size yX6_size, Cond.code yX6_size cX6_size 1 (some .int), Cond.methodLink RX7 39 yX7_addCounts, Cond.instanceMethod yX7_addCounts, Cond.selects RX7 yX7_addCounts yX7_addCounts, Cond.code yX7_addCounts cX7_addCounts 6 none, Cond.fieldLink RX7 15 "ThriceCounted$Scale" "chances" "[I", Cond.methodLink RX7 49 ⟨"ThriceCounted$Ones", "slip", "(I)I"⟩, Cond.sameMethod "ThriceCounted$Ones" "ThriceCounted$Ones" "slip" "(I)I", Cond.instanceMethod ⟨"ThriceCounted$Ones", "slip", "(I)I"⟩, Cond.selects RX1 ⟨"ThriceCounted$Ones", "slip", "(I)I"⟩ yX1_slip, Cond.instanceMethod yX1_slip, Cond.initialized RX1, Cond.code yX1_slip cX1_slip 2 (some .int), Cond.methodLink RX1 7 yX4_slip, Cond.superclass RX1 RX4, Cond.instanceMethod yX4_slip, Cond.initialized RX4, Cond.code yX4_slip cX4_slip 2 (some .int)]
def wsX11_weighPlan_r3 : List Cond := [Cond.selects RX3 ⟨"ThriceCounted$Ones", "slip", "(I)I"⟩ yX3_slip, Cond.instanceMethod yX3_slip, Cond.initialized RX3, Cond.code yX3_slip cX3_slip 2 (some .int), Cond.methodLink RX3 7 yX10_slip, Cond.sameMethod "ThriceCounted$Weighed" "ThriceCounted$Weighed" "slip" "(I)I", Cond.superclass RX3 RX10, Cond.instanceMethod yX10_slip, Cond.initialized RX10, Cond.code yX10_slip cX10_slip 2 (some .int), Cond.methodLink RX7 49 yX4_slip, Cond.selects RX4 yX4_slip yX4_slip, Cond.selects RX8 ⟨"ThriceCounted$Ones", "slip", "(I)I"⟩ yX8_slip, Cond.instanceMethod yX8_slip, Cond.initialized RX8, Cond.code yX8_slip cX8_slip 2 (some .int), Cond.methodLink RX8 7 yX9_slip, Cond.sameMethod "ThriceCounted$Talked" "ThriceCounted$Talked" "slip" "(I)I", Cond.superclass RX8 RX9, Cond.instanceMethod yX9_slip, Cond.initialized RX9, Cond.code yX9_slip cX9_slip 2 (some .int), Cond.methodLink RX9 7 yX4_slip, Cond.superclass RX9 RX4]
def wsX11_weighPlan_r4 : List Cond := [Cond.selects RX9 ⟨"ThriceCounted$Ones", "slip", "(I)I"⟩ yX9_slip, Cond.selects RX10 ⟨"ThriceCounted$Ones", "slip", "(I)I"⟩ yX10_slip, Cond.methodLink RX11 213 yX11_weighMore, Cond.instanceMethod yX11_weighMore, Cond.selects RX11 yX11_weighMore yX11_weighMore, Cond.initialized RX11, Cond.code yX11_weighMore cX11_weighMore 4 none, Cond.methodLink RX11 135 yX11_isWay, Cond.instanceMethod yX11_isWay, Cond.selects RX11 yX11_isWay yX11_isWay, Cond.code yX11_isWay cX11_isWay 2 (some .boolean), Cond.methodLink RX11 297 yX7_addCounts]
def wsX11_weighPlan : List Cond := .code yX11_weighPlan cX11_weighPlan 4 none :: ((wsX11_weighPlan_r1 ++ (wsX11_weighPlan_r2 ++ (wsX11_weighPlan_r3 ++ wsX11_weighPlan_r4))) ++ wsX110 ++ wsX70 ++ wsX00 ++ wsX60)
def wsX11_plan_r1 : List Cond := [Cond.fieldLink RX11 34 "ThriceCounted" "bank" "LThriceCounted$Bank;", Cond.fieldLink RX11 85 "ThriceCounted$Bank" "bundles" "LThriceCounted$Rows;", Cond.fieldLink RX11 49 "ThriceCounted" "scale" "LThriceCounted$Scale;", Cond.fieldLink RX11 25 "ThriceCounted" "ways" "[LThriceCounted$Ones;", Cond.fieldLink RX11 63 "ThriceCounted" "fraction" "LThriceCounted$Fraction;", Cond.methodLink RX11 124 yX6_has, Cond.instanceMethod yX6_has, Cond.selects RX6 yX6_has yX6_has, Cond.initialized RX6, Cond.code yX6_has cX6_has 2 (some .boolean), Cond.fieldLink RX6 9 "ThriceCounted$Rows" "size" "I", Cond.methodLink RX11 102 yX11_within, Cond.static yX11_within, Cond.initialized RX11, Cond.code yX11_within cX11_within 3 (some .boolean), Cond.methodLink RX11 106 yX11_refuse, Cond.instanceMethod yX11_refuse, Cond.selects RX11 yX11_refuse yX11_refuse, Cond.code yX11_refuse cX11_refuse 2 (some .int), Cond.methodLink RX11 172 yX11_refuseAs, Cond.instanceMethod yX11_refuseAs, Cond.selects RX11 yX11_refuseAs yX11_refuseAs, Cond.code yX11_refuseAs cX11_refuseAs 4 (some .int), Cond.fieldLink RX11 75 "ThriceCounted" "refused" "[I"]
def wsX11_plan_r2 : List Cond := [Cond.methodLink RX11 187 yX7_weigh, Cond.instanceMethod yX7_weigh, Cond.selects RX7 yX7_weigh yX7_weigh, Cond.initialized RX7, Cond.code yX7_weigh cX7_weigh 6 none, Cond.fieldLink RX7 9 "ThriceCounted$Scale" "weights" "[J", Cond.fieldLink RX7 23 "ThriceCounted$Bank" "counts" "LThriceCounted$Rows;", Cond.methodLink RX7 19 yX7_firstWeight, Cond.static yX7_firstWeight, Cond.code yX7_firstWeight cX7_firstWeight 7 (some .long), Cond.fieldLink RX7 43 "ThriceCounted$Bank" "bundles" "LThriceCounted$Rows;", Cond.fieldLink RX7 46 "ThriceCounted$Bank" "clerks" "LThriceCounted$Rows;", Cond.methodLink RX7 35 yX6_get, Cond.instanceMethod yX6_get, Cond.selects RX6 yX6_get yX6_get, Cond.code yX6_get cX6_get 3 (some .int), Cond.fieldLink RX6 27 "ThriceCounted$Rows" "cells" "[I", Cond.fieldLink RX6 24 "ThriceCounted$Rows" "width" "I", Cond.methodLink RX6 31 yX6_hasCell, Cond.instanceMethod yX6_hasCell, Cond.selects RX6 yX6_hasCell yX6_hasCell, Cond.code yX6_hasCell cX6_hasCell 3 (some .boolean), Cond.methodLink RX7 29 yX6_size, Cond.instanceMethod yX6_size]
def wsX11_plan_r3 : List Cond := [Cond.selects RX6 yX6_size yX6_size, Cond.code yX6_size cX6_size 1 (some .int), Cond.methodLink RX7 39 yX7_addCounts, Cond.instanceMethod yX7_addCounts, Cond.selects RX7 yX7_addCounts yX7_addCounts, Cond.code yX7_addCounts cX7_addCounts 6 none, Cond.fieldLink RX7 15 "ThriceCounted$Scale" "chances" "[I", Cond.methodLink RX7 49 ⟨"ThriceCounted$Ones", "slip", "(I)I"⟩, Cond.sameMethod "ThriceCounted$Ones" "ThriceCounted$Ones" "slip" "(I)I", Cond.instanceMethod ⟨"ThriceCounted$Ones", "slip", "(I)I"⟩, Cond.selects RX1 ⟨"ThriceCounted$Ones", "slip", "(I)I"⟩ yX1_slip, Cond.instanceMethod yX1_slip, Cond.initialized RX1, Cond.code yX1_slip cX1_slip 2 (some .int), Cond.methodLink RX1 7 yX4_slip, Cond.superclass RX1 RX4, Cond.instanceMethod yX4_slip, Cond.initialized RX4, Cond.code yX4_slip cX4_slip 2 (some .int), Cond.selects RX3 ⟨"ThriceCounted$Ones", "slip", "(I)I"⟩ yX3_slip, Cond.instanceMethod yX3_slip, Cond.initialized RX3, Cond.code yX3_slip cX3_slip 2 (some .int), Cond.methodLink RX3 7 yX10_slip]
def wsX11_plan_r4 : List Cond := [Cond.sameMethod "ThriceCounted$Weighed" "ThriceCounted$Weighed" "slip" "(I)I", Cond.superclass RX3 RX10, Cond.instanceMethod yX10_slip, Cond.initialized RX10, Cond.code yX10_slip cX10_slip 2 (some .int), Cond.methodLink RX7 49 yX4_slip, Cond.selects RX4 yX4_slip yX4_slip, Cond.selects RX8 ⟨"ThriceCounted$Ones", "slip", "(I)I"⟩ yX8_slip, Cond.instanceMethod yX8_slip, Cond.initialized RX8, Cond.code yX8_slip cX8_slip 2 (some .int), Cond.methodLink RX8 7 yX9_slip, Cond.sameMethod "ThriceCounted$Talked" "ThriceCounted$Talked" "slip" "(I)I", Cond.superclass RX8 RX9, Cond.instanceMethod yX9_slip, Cond.initialized RX9, Cond.code yX9_slip cX9_slip 2 (some .int), Cond.methodLink RX9 7 yX4_slip, Cond.superclass RX9 RX4, Cond.selects RX9 ⟨"ThriceCounted$Ones", "slip", "(I)I"⟩ yX9_slip, Cond.selects RX10 ⟨"ThriceCounted$Ones", "slip", "(I)I"⟩ yX10_slip, Cond.methodLink RX11 199 yX7_heaviest, Cond.instanceMethod yX7_heaviest, Cond.selects RX7 yX7_heaviest yX7_heaviest]
def wsX11_plan_r5 : List Cond := [Cond.code yX7_heaviest cX7_heaviest 5 (some .int), Cond.methodLink RX11 195 yX7_weightOf, Cond.instanceMethod yX7_weightOf, Cond.selects RX7 yX7_weightOf yX7_weightOf, Cond.code yX7_weightOf cX7_weightOf 3 (some .long), Cond.methodLink RX11 191 yX7_total, Cond.instanceMethod yX7_total, Cond.selects RX7 yX7_total yX7_total, Cond.code yX7_total cX7_total 4 (some .long), Cond.methodLink RX11 216 yX11_canDo, Cond.instanceMethod yX11_canDo, Cond.selects RX11 yX11_canDo yX11_canDo, Cond.code yX11_canDo cX11_canDo 7 (some .boolean), Cond.methodLink RX11 294 yX11_minutesOf, Cond.instanceMethod yX11_minutesOf, Cond.selects RX11 yX11_minutesOf yX11_minutesOf, Cond.code yX11_minutesOf cX11_minutesOf 2 (some .int), Cond.methodLink RX11 135 yX11_isWay, Cond.instanceMethod yX11_isWay, Cond.selects RX11 yX11_isWay yX11_isWay, Cond.code yX11_isWay cX11_isWay 2 (some .boolean), Cond.methodLink RX11 178 ⟨"ThriceCounted$Ones", "minutes", "()I"⟩, Cond.sameMethod "ThriceCounted$Ones" "ThriceCounted$Ones" "minutes" "()I", Cond.instanceMethod ⟨"ThriceCounted$Ones", "minutes", "()I"⟩]
def wsX11_plan_r6 : List Cond := [Cond.selects RX1 ⟨"ThriceCounted$Ones", "minutes", "()I"⟩ yX1_minutes, Cond.instanceMethod yX1_minutes, Cond.code yX1_minutes cX1_minutes 1 (some .int), Cond.methodLink RX1 11 yX4_minutes, Cond.instanceMethod yX4_minutes, Cond.code yX4_minutes cX4_minutes 1 (some .int), Cond.selects RX3 ⟨"ThriceCounted$Ones", "minutes", "()I"⟩ yX10_minutes, Cond.instanceMethod yX10_minutes, Cond.code yX10_minutes cX10_minutes 1 (some .int), Cond.methodLink RX11 178 yX4_minutes, Cond.selects RX4 yX4_minutes yX4_minutes, Cond.selects RX8 ⟨"ThriceCounted$Ones", "minutes", "()I"⟩ yX9_minutes, Cond.instanceMethod yX9_minutes, Cond.code yX9_minutes cX9_minutes 1 (some .int), Cond.methodLink RX9 11 yX4_minutes, Cond.selects RX9 ⟨"ThriceCounted$Ones", "minutes", "()I"⟩ yX9_minutes, Cond.selects RX10 ⟨"ThriceCounted$Ones", "minutes", "()I"⟩ yX10_minutes, Cond.methodLink RX11 220 yX11_weighPlan, Cond.instanceMethod yX11_weighPlan, Cond.selects RX11 yX11_weighPlan yX11_weighPlan, Cond.code yX11_weighPlan cX11_weighPlan 4 none, Cond.methodLink RX11 213 yX11_weighMore, Cond.instanceMethod yX11_weighMore, Cond.selects RX11 yX11_weighMore yX11_weighMore]
def wsX11_plan_r7 : List Cond := [Cond.code yX11_weighMore cX11_weighMore 4 none, Cond.methodLink RX11 297 yX7_addCounts, Cond.methodLink RX11 223 yX2_isMore, Cond.static yX2_isMore, Cond.initialized RX2, Cond.code yX2_isMore cX2_isMore 25 (some .boolean), Cond.methodLink RX11 98 yX2_become, Cond.instanceMethod yX2_become, Cond.selects RX2 yX2_become yX2_become, Cond.code yX2_become cX2_become 7 none, Cond.fieldLink RX2 7 "ThriceCounted$Fraction" "above" "J", Cond.fieldLink RX2 13 "ThriceCounted$Fraction" "below" "J", Cond.methodLink RX2 16 yX2_commonDivisor, Cond.static yX2_commonDivisor, Cond.code yX2_commonDivisor cX2_commonDivisor 11 (some .long)]
def wsX11_plan : List Cond := .code yX11_plan cX11_plan 10 (some .int) :: ((wsX11_plan_r1 ++ (wsX11_plan_r2 ++ (wsX11_plan_r3 ++ (wsX11_plan_r4 ++ (wsX11_plan_r5 ++ (wsX11_plan_r6 ++ wsX11_plan_r7)))))) ++ wsX110 ++ wsX00 ++ wsX60 ++ wsX70 ++ wsX20)
def wsX11_open_r1 : List Cond := [Cond.fieldLink RX11 34 "ThriceCounted" "bank" "LThriceCounted$Bank;", Cond.fieldLink RX11 85 "ThriceCounted$Bank" "bundles" "LThriceCounted$Rows;", Cond.fieldLink RX11 79 "ThriceCounted" "truths" "[I", Cond.methodLink RX11 205 yX11_findTruths, Cond.instanceMethod yX11_findTruths, Cond.selects RX11 yX11_findTruths yX11_findTruths, Cond.initialized RX11, Cond.code yX11_findTruths cX11_findTruths 2 none, Cond.fieldLink RX11 49 "ThriceCounted" "scale" "LThriceCounted$Scale;", Cond.fieldLink RX11 25 "ThriceCounted" "ways" "[LThriceCounted$Ones;", Cond.methodLink RX11 89 yX6_size, Cond.instanceMethod yX6_size, Cond.selects RX6 yX6_size yX6_size, Cond.initialized RX6, Cond.code yX6_size cX6_size 1 (some .int), Cond.fieldLink RX6 9 "ThriceCounted$Rows" "size" "I", Cond.methodLink RX11 187 yX7_weigh, Cond.instanceMethod yX7_weigh, Cond.selects RX7 yX7_weigh yX7_weigh, Cond.initialized RX7, Cond.code yX7_weigh cX7_weigh 6 none, Cond.fieldLink RX7 9 "ThriceCounted$Scale" "weights" "[J", Cond.fieldLink RX7 23 "ThriceCounted$Bank" "counts" "LThriceCounted$Rows;", Cond.methodLink RX7 19 yX7_firstWeight]
def wsX11_open_r2 : List Cond := [Cond.static yX7_firstWeight, Cond.code yX7_firstWeight cX7_firstWeight 7 (some .long), Cond.fieldLink RX7 43 "ThriceCounted$Bank" "bundles" "LThriceCounted$Rows;", Cond.fieldLink RX7 46 "ThriceCounted$Bank" "clerks" "LThriceCounted$Rows;", Cond.methodLink RX7 35 yX6_get, Cond.instanceMethod yX6_get, Cond.selects RX6 yX6_get yX6_get, Cond.code yX6_get cX6_get 3 (some .int), Cond.fieldLink RX6 27 "ThriceCounted$Rows" "cells" "[I", Cond.fieldLink RX6 24 "ThriceCounted$Rows" "width" "I", Cond.methodLink RX6 31 yX6_hasCell, Cond.instanceMethod yX6_hasCell, Cond.selects RX6 yX6_hasCell yX6_hasCell, Cond.code yX6_hasCell cX6_hasCell 3 (some .boolean), Cond.methodLink RX7 29 yX6_size, Cond.methodLink RX7 39 yX7_addCounts, Cond.instanceMethod yX7_addCounts, Cond.selects RX7 yX7_addCounts yX7_addCounts, Cond.code yX7_addCounts cX7_addCounts 6 none, Cond.fieldLink RX7 15 "ThriceCounted$Scale" "chances" "[I", Cond.methodLink RX7 49 ⟨"ThriceCounted$Ones", "slip", "(I)I"⟩, Cond.sameMethod "ThriceCounted$Ones" "ThriceCounted$Ones" "slip" "(I)I", Cond.instanceMethod ⟨"ThriceCounted$Ones", "slip", "(I)I"⟩, Cond.selects RX1 ⟨"ThriceCounted$Ones", "slip", "(I)I"⟩ yX1_slip]
def wsX11_open_r3 : List Cond := [Cond.instanceMethod yX1_slip, Cond.initialized RX1, Cond.code yX1_slip cX1_slip 2 (some .int), Cond.methodLink RX1 7 yX4_slip, Cond.superclass RX1 RX4, Cond.instanceMethod yX4_slip, Cond.initialized RX4, Cond.code yX4_slip cX4_slip 2 (some .int), Cond.selects RX3 ⟨"ThriceCounted$Ones", "slip", "(I)I"⟩ yX3_slip, Cond.instanceMethod yX3_slip, Cond.initialized RX3, Cond.code yX3_slip cX3_slip 2 (some .int), Cond.methodLink RX3 7 yX10_slip, Cond.sameMethod "ThriceCounted$Weighed" "ThriceCounted$Weighed" "slip" "(I)I", Cond.superclass RX3 RX10, Cond.instanceMethod yX10_slip, Cond.initialized RX10, Cond.code yX10_slip cX10_slip 2 (some .int), Cond.methodLink RX7 49 yX4_slip, Cond.selects RX4 yX4_slip yX4_slip, Cond.selects RX8 ⟨"ThriceCounted$Ones", "slip", "(I)I"⟩ yX8_slip, Cond.instanceMethod yX8_slip, Cond.initialized RX8, Cond.code yX8_slip cX8_slip 2 (some .int)]
def wsX11_open_r4 : List Cond := [Cond.methodLink RX8 7 yX9_slip, Cond.sameMethod "ThriceCounted$Talked" "ThriceCounted$Talked" "slip" "(I)I", Cond.superclass RX8 RX9, Cond.instanceMethod yX9_slip, Cond.initialized RX9, Cond.code yX9_slip cX9_slip 2 (some .int), Cond.methodLink RX9 7 yX4_slip, Cond.superclass RX9 RX4, Cond.selects RX9 ⟨"ThriceCounted$Ones", "slip", "(I)I"⟩ yX9_slip, Cond.selects RX10 ⟨"ThriceCounted$Ones", "slip", "(I)I"⟩ yX10_slip, Cond.methodLink RX11 199 yX7_heaviest, Cond.instanceMethod yX7_heaviest, Cond.selects RX7 yX7_heaviest yX7_heaviest, Cond.code yX7_heaviest cX7_heaviest 5 (some .int), Cond.methodLink RX11 128 yX6_get]
def wsX11_open : List Cond := .code yX11_open cX11_open 4 (some .int) :: ((wsX11_open_r1 ++ (wsX11_open_r2 ++ (wsX11_open_r3 ++ wsX11_open_r4))) ++ wsX110 ++ wsX00 ++ wsX60 ++ wsX70)
def wsX11_sum_r1 : List Cond := [Cond.fieldLink RX11 34 "ThriceCounted" "bank" "LThriceCounted$Bank;", Cond.fieldLink RX11 85 "ThriceCounted$Bank" "bundles" "LThriceCounted$Rows;", Cond.fieldLink RX11 79 "ThriceCounted" "truths" "[I", Cond.methodLink RX11 205 yX11_findTruths, Cond.instanceMethod yX11_findTruths, Cond.selects RX11 yX11_findTruths yX11_findTruths, Cond.initialized RX11, Cond.code yX11_findTruths cX11_findTruths 2 none, Cond.fieldLink RX11 49 "ThriceCounted" "scale" "LThriceCounted$Scale;", Cond.fieldLink RX11 25 "ThriceCounted" "ways" "[LThriceCounted$Ones;", Cond.methodLink RX11 89 yX6_size, Cond.instanceMethod yX6_size, Cond.selects RX6 yX6_size yX6_size, Cond.initialized RX6, Cond.code yX6_size cX6_size 1 (some .int), Cond.fieldLink RX6 9 "ThriceCounted$Rows" "size" "I", Cond.methodLink RX11 187 yX7_weigh, Cond.instanceMethod yX7_weigh, Cond.selects RX7 yX7_weigh yX7_weigh, Cond.initialized RX7, Cond.code yX7_weigh cX7_weigh 6 none, Cond.fieldLink RX7 9 "ThriceCounted$Scale" "weights" "[J", Cond.fieldLink RX7 23 "ThriceCounted$Bank" "counts" "LThriceCounted$Rows;", Cond.methodLink RX7 19 yX7_firstWeight]
def wsX11_sum_r2 : List Cond := [Cond.static yX7_firstWeight, Cond.code yX7_firstWeight cX7_firstWeight 7 (some .long), Cond.fieldLink RX7 43 "ThriceCounted$Bank" "bundles" "LThriceCounted$Rows;", Cond.fieldLink RX7 46 "ThriceCounted$Bank" "clerks" "LThriceCounted$Rows;", Cond.methodLink RX7 35 yX6_get, Cond.instanceMethod yX6_get, Cond.selects RX6 yX6_get yX6_get, Cond.code yX6_get cX6_get 3 (some .int), Cond.fieldLink RX6 27 "ThriceCounted$Rows" "cells" "[I", Cond.fieldLink RX6 24 "ThriceCounted$Rows" "width" "I", Cond.methodLink RX6 31 yX6_hasCell, Cond.instanceMethod yX6_hasCell, Cond.selects RX6 yX6_hasCell yX6_hasCell, Cond.code yX6_hasCell cX6_hasCell 3 (some .boolean), Cond.methodLink RX7 29 yX6_size, Cond.methodLink RX7 39 yX7_addCounts, Cond.instanceMethod yX7_addCounts, Cond.selects RX7 yX7_addCounts yX7_addCounts, Cond.code yX7_addCounts cX7_addCounts 6 none, Cond.fieldLink RX7 15 "ThriceCounted$Scale" "chances" "[I", Cond.methodLink RX7 49 ⟨"ThriceCounted$Ones", "slip", "(I)I"⟩, Cond.sameMethod "ThriceCounted$Ones" "ThriceCounted$Ones" "slip" "(I)I", Cond.instanceMethod ⟨"ThriceCounted$Ones", "slip", "(I)I"⟩, Cond.selects RX1 ⟨"ThriceCounted$Ones", "slip", "(I)I"⟩ yX1_slip]
def wsX11_sum_r3 : List Cond := [Cond.instanceMethod yX1_slip, Cond.initialized RX1, Cond.code yX1_slip cX1_slip 2 (some .int), Cond.methodLink RX1 7 yX4_slip, Cond.superclass RX1 RX4, Cond.instanceMethod yX4_slip, Cond.initialized RX4, Cond.code yX4_slip cX4_slip 2 (some .int), Cond.selects RX3 ⟨"ThriceCounted$Ones", "slip", "(I)I"⟩ yX3_slip, Cond.instanceMethod yX3_slip, Cond.initialized RX3, Cond.code yX3_slip cX3_slip 2 (some .int), Cond.methodLink RX3 7 yX10_slip, Cond.sameMethod "ThriceCounted$Weighed" "ThriceCounted$Weighed" "slip" "(I)I", Cond.superclass RX3 RX10, Cond.instanceMethod yX10_slip, Cond.initialized RX10, Cond.code yX10_slip cX10_slip 2 (some .int), Cond.methodLink RX7 49 yX4_slip, Cond.selects RX4 yX4_slip yX4_slip, Cond.selects RX8 ⟨"ThriceCounted$Ones", "slip", "(I)I"⟩ yX8_slip, Cond.instanceMethod yX8_slip, Cond.initialized RX8, Cond.code yX8_slip cX8_slip 2 (some .int)]
def wsX11_sum_r4 : List Cond := [Cond.methodLink RX8 7 yX9_slip, Cond.sameMethod "ThriceCounted$Talked" "ThriceCounted$Talked" "slip" "(I)I", Cond.superclass RX8 RX9, Cond.instanceMethod yX9_slip, Cond.initialized RX9, Cond.code yX9_slip cX9_slip 2 (some .int), Cond.methodLink RX9 7 yX4_slip, Cond.superclass RX9 RX4, Cond.selects RX9 ⟨"ThriceCounted$Ones", "slip", "(I)I"⟩ yX9_slip, Cond.selects RX10 ⟨"ThriceCounted$Ones", "slip", "(I)I"⟩ yX10_slip, Cond.methodLink RX11 199 yX7_heaviest, Cond.instanceMethod yX7_heaviest, Cond.selects RX7 yX7_heaviest yX7_heaviest, Cond.code yX7_heaviest cX7_heaviest 5 (some .int)]
def wsX11_sum : List Cond := .code yX11_sum cX11_sum 3 (some .int) :: ((wsX11_sum_r1 ++ (wsX11_sum_r2 ++ (wsX11_sum_r3 ++ wsX11_sum_r4))) ++ wsX110 ++ wsX00 ++ wsX60 ++ wsX70)
def wsX11_cause_r1 : List Cond := [Cond.fieldLink RX11 34 "ThriceCounted" "bank" "LThriceCounted$Bank;", Cond.fieldLink RX11 227 "ThriceCounted$Bank" "causes" "LThriceCounted$Rows;", Cond.methodLink RX11 102 yX11_within, Cond.static yX11_within, Cond.initialized RX11, Cond.code yX11_within cX11_within 3 (some .boolean), Cond.methodLink RX11 106 yX11_refuse, Cond.instanceMethod yX11_refuse, Cond.selects RX11 yX11_refuse yX11_refuse, Cond.code yX11_refuse cX11_refuse 2 (some .int), Cond.methodLink RX11 172 yX11_refuseAs, Cond.instanceMethod yX11_refuseAs, Cond.selects RX11 yX11_refuseAs yX11_refuseAs, Cond.code yX11_refuseAs cX11_refuseAs 4 (some .int), Cond.fieldLink RX11 75 "ThriceCounted" "refused" "[I", Cond.methodLink RX11 113 yX6_isFull, Cond.instanceMethod yX6_isFull, Cond.selects RX6 yX6_isFull yX6_isFull, Cond.initialized RX6, Cond.code yX6_isFull cX6_isFull 1 (some .boolean), Cond.fieldLink RX6 9 "ThriceCounted$Rows" "size" "I", Cond.fieldLink RX6 21 "ThriceCounted$Rows" "limit" "I", Cond.methodLink RX11 230 yX0_addCause, Cond.instanceMethod yX0_addCause]
def wsX11_cause_r2 : List Cond := [Cond.selects RX0 yX0_addCause yX0_addCause, Cond.initialized RX0, Cond.code yX0_addCause cX0_addCause 6 (some .int), Cond.fieldLink RX0 26 "ThriceCounted$Bank" "causes" "LThriceCounted$Rows;", Cond.methodLink RX0 50 yX6_grow, Cond.instanceMethod yX6_grow, Cond.selects RX6 yX6_grow yX6_grow, Cond.code yX6_grow cX6_grow 1 (some .int), Cond.methodLink RX6 35 yX6_isFull, Cond.methodLink RX0 54 yX6_put, Cond.instanceMethod yX6_put, Cond.selects RX6 yX6_put yX6_put, Cond.code yX6_put cX6_put 4 none, Cond.fieldLink RX6 27 "ThriceCounted$Rows" "cells" "[I", Cond.fieldLink RX6 24 "ThriceCounted$Rows" "width" "I", Cond.methodLink RX6 31 yX6_hasCell, Cond.instanceMethod yX6_hasCell, Cond.selects RX6 yX6_hasCell yX6_hasCell, Cond.code yX6_hasCell cX6_hasCell 3 (some .boolean)]
def wsX11_cause : List Cond := .code yX11_cause cX11_cause 5 (some .int) :: ((wsX11_cause_r1 ++ wsX11_cause_r2) ++ wsX110 ++ wsX00 ++ wsX60)
def wsX11_forget : List Cond := .code yX11_forget cX11_forget 2 (some .int) :: ([.fieldLink RX11 34 "ThriceCounted" "bank" "LThriceCounted$Bank;", .fieldLink RX11 227 "ThriceCounted$Bank" "causes" "LThriceCounted$Rows;", .methodLink RX11 89 yX6_size, .instanceMethod yX6_size, .selects RX6 yX6_size yX6_size, .initialized RX6, .code yX6_size cX6_size 1 (some .int), .fieldLink RX6 9 "ThriceCounted$Rows" "size" "I", .methodLink RX11 233 yX6_empty, .instanceMethod yX6_empty, .selects RX6 yX6_empty yX6_empty, .code yX6_empty cX6_empty 1 none] ++ wsX110 ++ wsX00 ++ wsX60)
def wsX11_offTogether : List Cond := .code yX11_offTogether cX11_offTogether 4 (some .int) :: ([.fieldLink RX11 34 "ThriceCounted" "bank" "LThriceCounted$Bank;", .fieldLink RX11 227 "ThriceCounted$Bank" "causes" "LThriceCounted$Rows;", .methodLink RX11 128 yX6_get, .instanceMethod yX6_get, .selects RX6 yX6_get yX6_get, .initialized RX6, .code yX6_get cX6_get 3 (some .int), .fieldLink RX6 27 "ThriceCounted$Rows" "cells" "[I", .fieldLink RX6 24 "ThriceCounted$Rows" "width" "I", .methodLink RX6 31 yX6_hasCell, .instanceMethod yX6_hasCell, .selects RX6 yX6_hasCell yX6_hasCell, .code yX6_hasCell cX6_hasCell 3 (some .boolean), .fieldLink RX6 9 "ThriceCounted$Rows" "size" "I"] ++ wsX110 ++ wsX00 ++ wsX60)
def wsX11_oddsTogether : List Cond := .code yX11_oddsTogether cX11_oddsTogether 4 (some .int) :: ([.fieldLink RX11 34 "ThriceCounted" "bank" "LThriceCounted$Bank;", .fieldLink RX11 227 "ThriceCounted$Bank" "causes" "LThriceCounted$Rows;", .methodLink RX11 128 yX6_get, .instanceMethod yX6_get, .selects RX6 yX6_get yX6_get, .initialized RX6, .code yX6_get cX6_get 3 (some .int), .fieldLink RX6 27 "ThriceCounted$Rows" "cells" "[I", .fieldLink RX6 24 "ThriceCounted$Rows" "width" "I", .methodLink RX6 31 yX6_hasCell, .instanceMethod yX6_hasCell, .selects RX6 yX6_hasCell yX6_hasCell, .code yX6_hasCell cX6_hasCell 3 (some .boolean), .fieldLink RX6 9 "ThriceCounted$Rows" "size" "I"] ++ wsX110 ++ wsX00 ++ wsX60)
def wsX11_why_r1 : List Cond := [Cond.fieldLink RX11 34 "ThriceCounted" "bank" "LThriceCounted$Bank;", Cond.fieldLink RX11 227 "ThriceCounted$Bank" "causes" "LThriceCounted$Rows;", Cond.methodLink RX11 102 yX11_within, Cond.static yX11_within, Cond.initialized RX11, Cond.code yX11_within cX11_within 3 (some .boolean), Cond.methodLink RX11 106 yX11_refuse, Cond.instanceMethod yX11_refuse, Cond.selects RX11 yX11_refuse yX11_refuse, Cond.code yX11_refuse cX11_refuse 2 (some .int), Cond.methodLink RX11 172 yX11_refuseAs, Cond.instanceMethod yX11_refuseAs, Cond.selects RX11 yX11_refuseAs yX11_refuseAs, Cond.code yX11_refuseAs cX11_refuseAs 4 (some .int), Cond.fieldLink RX11 75 "ThriceCounted" "refused" "[I", Cond.methodLink RX11 89 yX6_size, Cond.instanceMethod yX6_size, Cond.selects RX6 yX6_size yX6_size, Cond.initialized RX6, Cond.code yX6_size cX6_size 1 (some .int), Cond.fieldLink RX6 9 "ThriceCounted$Rows" "size" "I", Cond.methodLink RX11 234 yX11_offTogether, Cond.instanceMethod yX11_offTogether, Cond.selects RX11 yX11_offTogether yX11_offTogether]
def wsX11_why_r2 : List Cond := [Cond.code yX11_offTogether cX11_offTogether 4 (some .int), Cond.methodLink RX11 128 yX6_get, Cond.instanceMethod yX6_get, Cond.selects RX6 yX6_get yX6_get, Cond.code yX6_get cX6_get 3 (some .int), Cond.fieldLink RX6 27 "ThriceCounted$Rows" "cells" "[I", Cond.fieldLink RX6 24 "ThriceCounted$Rows" "width" "I", Cond.methodLink RX6 31 yX6_hasCell, Cond.instanceMethod yX6_hasCell, Cond.selects RX6 yX6_hasCell yX6_hasCell, Cond.code yX6_hasCell cX6_hasCell 3 (some .boolean), Cond.methodLink RX11 237 yX11_oddsTogether, Cond.instanceMethod yX11_oddsTogether, Cond.selects RX11 yX11_oddsTogether yX11_oddsTogether, Cond.code yX11_oddsTogether cX11_oddsTogether 4 (some .int)]
def wsX11_why : List Cond := .code yX11_why cX11_why 8 (some .int) :: ((wsX11_why_r1 ++ wsX11_why_r2) ++ wsX110 ++ wsX00 ++ wsX60)
def wsX11_listCauses : List Cond := .code yX11_listCauses cX11_listCauses 4 (some .int) :: ([.fieldLink RX11 34 "ThriceCounted" "bank" "LThriceCounted$Bank;", .fieldLink RX11 227 "ThriceCounted$Bank" "causes" "LThriceCounted$Rows;", .fieldLink RX11 82 "ThriceCounted" "order" "[I", .methodLink RX11 89 yX6_size, .instanceMethod yX6_size, .selects RX6 yX6_size yX6_size, .initialized RX6, .code yX6_size cX6_size 1 (some .int), .fieldLink RX6 9 "ThriceCounted$Rows" "size" "I", .methodLink RX11 128 yX6_get, .instanceMethod yX6_get, .selects RX6 yX6_get yX6_get, .code yX6_get cX6_get 3 (some .int), .fieldLink RX6 27 "ThriceCounted$Rows" "cells" "[I", .fieldLink RX6 24 "ThriceCounted$Rows" "width" "I", .methodLink RX6 31 yX6_hasCell, .instanceMethod yX6_hasCell, .selects RX6 yX6_hasCell yX6_hasCell, .code yX6_hasCell cX6_hasCell 3 (some .boolean)] ++ wsX110 ++ wsX00 ++ wsX60)
def wsX11_delay : List Cond := .code yX11_delay cX11_delay 4 (some .int) :: ([.fieldLink RX11 34 "ThriceCounted" "bank" "LThriceCounted$Bank;", .fieldLink RX11 227 "ThriceCounted$Bank" "causes" "LThriceCounted$Rows;", .methodLink RX11 128 yX6_get, .instanceMethod yX6_get, .selects RX6 yX6_get yX6_get, .initialized RX6, .code yX6_get cX6_get 3 (some .int), .fieldLink RX6 27 "ThriceCounted$Rows" "cells" "[I", .fieldLink RX6 24 "ThriceCounted$Rows" "width" "I", .methodLink RX6 31 yX6_hasCell, .instanceMethod yX6_hasCell, .selects RX6 yX6_hasCell yX6_hasCell, .code yX6_hasCell cX6_hasCell 3 (some .boolean), .fieldLink RX6 9 "ThriceCounted$Rows" "size" "I"] ++ wsX110 ++ wsX00 ++ wsX60)
def wsX11_standsAhead : List Cond := .code yX11_standsAhead cX11_standsAhead 7 (some .boolean) :: ([.fieldLink RX11 82 "ThriceCounted" "order" "[I", .methodLink RX11 304 yX11_delay, .instanceMethod yX11_delay, .selects RX11 yX11_delay yX11_delay, .initialized RX11, .code yX11_delay cX11_delay 4 (some .int), .fieldLink RX11 34 "ThriceCounted" "bank" "LThriceCounted$Bank;", .fieldLink RX11 227 "ThriceCounted$Bank" "causes" "LThriceCounted$Rows;", .methodLink RX11 128 yX6_get, .instanceMethod yX6_get, .selects RX6 yX6_get yX6_get, .initialized RX6, .code yX6_get cX6_get 3 (some .int), .fieldLink RX6 27 "ThriceCounted$Rows" "cells" "[I", .fieldLink RX6 24 "ThriceCounted$Rows" "width" "I", .methodLink RX6 31 yX6_hasCell, .instanceMethod yX6_hasCell, .selects RX6 yX6_hasCell yX6_hasCell, .code yX6_hasCell cX6_hasCell 3 (some .boolean), .fieldLink RX6 9 "ThriceCounted$Rows" "size" "I"] ++ wsX110 ++ wsX00 ++ wsX60)
def wsX11_sortForSearch : List Cond := .code yX11_sortForSearch cX11_sortForSearch 6 none :: ([.fieldLink RX11 82 "ThriceCounted" "order" "[I", .methodLink RX11 301 yX11_standsAhead, .instanceMethod yX11_standsAhead, .selects RX11 yX11_standsAhead yX11_standsAhead, .initialized RX11, .code yX11_standsAhead cX11_standsAhead 7 (some .boolean), .methodLink RX11 304 yX11_delay, .instanceMethod yX11_delay, .selects RX11 yX11_delay yX11_delay, .code yX11_delay cX11_delay 4 (some .int), .fieldLink RX11 34 "ThriceCounted" "bank" "LThriceCounted$Bank;", .fieldLink RX11 227 "ThriceCounted$Bank" "causes" "LThriceCounted$Rows;", .methodLink RX11 128 yX6_get, .instanceMethod yX6_get, .selects RX6 yX6_get yX6_get, .initialized RX6, .code yX6_get cX6_get 3 (some .int), .fieldLink RX6 27 "ThriceCounted$Rows" "cells" "[I", .fieldLink RX6 24 "ThriceCounted$Rows" "width" "I", .methodLink RX6 31 yX6_hasCell, .instanceMethod yX6_hasCell, .selects RX6 yX6_hasCell yX6_hasCell, .code yX6_hasCell cX6_hasCell 3 (some .boolean), .fieldLink RX6 9 "ThriceCounted$Rows" "size" "I"] ++ wsX110 ++ wsX00 ++ wsX60)
def wsX11_timeSearch_r1 : List Cond := [Cond.fieldLink RX11 82 "ThriceCounted" "order" "[I", Cond.fieldLink RX11 34 "ThriceCounted" "bank" "LThriceCounted$Bank;", Cond.fieldLink RX11 227 "ThriceCounted$Bank" "causes" "LThriceCounted$Rows;", Cond.fieldLink RX11 63 "ThriceCounted" "fraction" "LThriceCounted$Fraction;", Cond.constantLong RX11 211 (10), Cond.methodLink RX11 128 yX6_get, Cond.instanceMethod yX6_get, Cond.selects RX6 yX6_get yX6_get, Cond.initialized RX6, Cond.code yX6_get cX6_get 3 (some .int), Cond.fieldLink RX6 27 "ThriceCounted$Rows" "cells" "[I", Cond.fieldLink RX6 24 "ThriceCounted$Rows" "width" "I", Cond.methodLink RX6 31 yX6_hasCell, Cond.instanceMethod yX6_hasCell, Cond.selects RX6 yX6_hasCell yX6_hasCell, Cond.code yX6_hasCell cX6_hasCell 3 (some .boolean), Cond.fieldLink RX6 9 "ThriceCounted$Rows" "size" "I", Cond.methodLink RX11 98 yX2_become, Cond.instanceMethod yX2_become, Cond.selects RX2 yX2_become yX2_become, Cond.initialized RX2, Cond.code yX2_become cX2_become 7 none, Cond.fieldLink RX2 7 "ThriceCounted$Fraction" "above" "J", Cond.fieldLink RX2 13 "ThriceCounted$Fraction" "below" "J"]
def wsX11_timeSearch_r2 : List Cond := [Cond.methodLink RX2 16 yX2_commonDivisor, Cond.static yX2_commonDivisor, Cond.code yX2_commonDivisor cX2_commonDivisor 11 (some .long)]
def wsX11_timeSearch : List Cond := .code yX11_timeSearch cX11_timeSearch 9 none :: ((wsX11_timeSearch_r1 ++ wsX11_timeSearch_r2) ++ wsX110 ++ wsX00 ++ wsX60 ++ wsX20)
def wsX11_look_r1 : List Cond := [Cond.fieldLink RX11 82 "ThriceCounted" "order" "[I", Cond.methodLink RX11 102 yX11_within, Cond.static yX11_within, Cond.initialized RX11, Cond.code yX11_within cX11_within 3 (some .boolean), Cond.methodLink RX11 172 yX11_refuseAs, Cond.instanceMethod yX11_refuseAs, Cond.selects RX11 yX11_refuseAs yX11_refuseAs, Cond.code yX11_refuseAs cX11_refuseAs 4 (some .int), Cond.fieldLink RX11 75 "ThriceCounted" "refused" "[I", Cond.methodLink RX11 240 yX11_listCauses, Cond.instanceMethod yX11_listCauses, Cond.selects RX11 yX11_listCauses yX11_listCauses, Cond.code yX11_listCauses cX11_listCauses 4 (some .int), Cond.fieldLink RX11 34 "ThriceCounted" "bank" "LThriceCounted$Bank;", Cond.fieldLink RX11 227 "ThriceCounted$Bank" "causes" "LThriceCounted$Rows;", Cond.methodLink RX11 89 yX6_size, Cond.instanceMethod yX6_size, Cond.selects RX6 yX6_size yX6_size, Cond.initialized RX6, Cond.code yX6_size cX6_size 1 (some .int), Cond.fieldLink RX6 9 "ThriceCounted$Rows" "size" "I", Cond.methodLink RX11 128 yX6_get, Cond.instanceMethod yX6_get]
def wsX11_look_r2 : List Cond := [Cond.selects RX6 yX6_get yX6_get, Cond.code yX6_get cX6_get 3 (some .int), Cond.fieldLink RX6 27 "ThriceCounted$Rows" "cells" "[I", Cond.fieldLink RX6 24 "ThriceCounted$Rows" "width" "I", Cond.methodLink RX6 31 yX6_hasCell, Cond.instanceMethod yX6_hasCell, Cond.selects RX6 yX6_hasCell yX6_hasCell, Cond.code yX6_hasCell cX6_hasCell 3 (some .boolean), Cond.methodLink RX11 243 yX11_sortForSearch, Cond.instanceMethod yX11_sortForSearch, Cond.selects RX11 yX11_sortForSearch yX11_sortForSearch, Cond.code yX11_sortForSearch cX11_sortForSearch 6 none, Cond.methodLink RX11 301 yX11_standsAhead, Cond.instanceMethod yX11_standsAhead, Cond.selects RX11 yX11_standsAhead yX11_standsAhead, Cond.code yX11_standsAhead cX11_standsAhead 7 (some .boolean), Cond.methodLink RX11 304 yX11_delay, Cond.instanceMethod yX11_delay, Cond.selects RX11 yX11_delay yX11_delay, Cond.code yX11_delay cX11_delay 4 (some .int), Cond.methodLink RX11 246 yX11_timeSearch, Cond.instanceMethod yX11_timeSearch, Cond.selects RX11 yX11_timeSearch yX11_timeSearch, Cond.code yX11_timeSearch cX11_timeSearch 9 none]
def wsX11_look_r3 : List Cond := [Cond.fieldLink RX11 63 "ThriceCounted" "fraction" "LThriceCounted$Fraction;", Cond.constantLong RX11 211 (10), Cond.methodLink RX11 98 yX2_become, Cond.instanceMethod yX2_become, Cond.selects RX2 yX2_become yX2_become, Cond.initialized RX2, Cond.code yX2_become cX2_become 7 none, Cond.fieldLink RX2 7 "ThriceCounted$Fraction" "above" "J", Cond.fieldLink RX2 13 "ThriceCounted$Fraction" "below" "J", Cond.methodLink RX2 16 yX2_commonDivisor, Cond.static yX2_commonDivisor, Cond.code yX2_commonDivisor cX2_commonDivisor 11 (some .long)]
def wsX11_look : List Cond := .code yX11_look cX11_look 4 (some .int) :: ((wsX11_look_r1 ++ (wsX11_look_r2 ++ wsX11_look_r3)) ++ wsX110 ++ wsX00 ++ wsX60 ++ wsX20)
def wsX11_writeOff_r1 : List Cond := [Cond.fieldLink RX11 34 "ThriceCounted" "bank" "LThriceCounted$Bank;", Cond.fieldLink RX11 227 "ThriceCounted$Bank" "causes" "LThriceCounted$Rows;", Cond.methodLink RX11 249 Lib.Math.abs.name, Cond.static Lib.Math.abs.name, Cond.initialized "java/lang/Math", Cond.code Lib.Math.abs.name Lib.Math.abs.code 1 (some .int), Cond.methodLink RX11 102 yX11_within, Cond.static yX11_within, Cond.initialized RX11, Cond.code yX11_within cX11_within 3 (some .boolean), Cond.methodLink RX11 106 yX11_refuse, Cond.instanceMethod yX11_refuse, Cond.selects RX11 yX11_refuse yX11_refuse, Cond.code yX11_refuse cX11_refuse 2 (some .int), Cond.methodLink RX11 172 yX11_refuseAs, Cond.instanceMethod yX11_refuseAs, Cond.selects RX11 yX11_refuseAs yX11_refuseAs, Cond.code yX11_refuseAs cX11_refuseAs 4 (some .int), Cond.fieldLink RX11 75 "ThriceCounted" "refused" "[I", Cond.methodLink RX11 89 yX6_size, Cond.instanceMethod yX6_size, Cond.selects RX6 yX6_size yX6_size, Cond.initialized RX6, Cond.code yX6_size cX6_size 1 (some .int)]
def wsX11_writeOff_r2 : List Cond := [Cond.fieldLink RX6 9 "ThriceCounted$Rows" "size" "I", Cond.methodLink RX11 128 yX6_get, Cond.instanceMethod yX6_get, Cond.selects RX6 yX6_get yX6_get, Cond.code yX6_get cX6_get 3 (some .int), Cond.fieldLink RX6 27 "ThriceCounted$Rows" "cells" "[I", Cond.fieldLink RX6 24 "ThriceCounted$Rows" "width" "I", Cond.methodLink RX6 31 yX6_hasCell, Cond.instanceMethod yX6_hasCell, Cond.selects RX6 yX6_hasCell yX6_hasCell, Cond.code yX6_hasCell cX6_hasCell 3 (some .boolean)]
def wsX11_writeOff : List Cond := .code yX11_writeOff cX11_writeOff 5 (some .int) :: ((wsX11_writeOff_r1 ++ wsX11_writeOff_r2) ++ wsX110 ++ wsX00 ++ wsX60)
def wsX11_drawn_r1 : List Cond := [Cond.constant RX11 254 (999999), Cond.constantLong RX11 255 (1103515245), Cond.constantLong RX11 257 (12345), Cond.constantLong RX11 259 (2147483648), Cond.fieldLink RX11 25 "ThriceCounted" "ways" "[LThriceCounted$Ones;", Cond.constantLong RX11 261 (65536), Cond.constantLong RX11 263 (20), Cond.methodLink RX11 265 Lib.Math.min.name, Cond.static Lib.Math.min.name, Cond.initialized "java/lang/Math", Cond.code Lib.Math.min.name Lib.Math.min.code 2 (some .int), Cond.methodLink RX11 268 Lib.Math.max.name, Cond.static Lib.Math.max.name, Cond.code Lib.Math.max.name Lib.Math.max.code 2 (some .int), Cond.methodLink RX11 135 yX11_isWay, Cond.instanceMethod yX11_isWay, Cond.selects RX11 yX11_isWay yX11_isWay, Cond.initialized RX11, Cond.code yX11_isWay cX11_isWay 2 (some .boolean), Cond.methodLink RX11 102 yX11_within, Cond.static yX11_within, Cond.code yX11_within cX11_within 3 (some .boolean), Cond.methodLink RX11 106 yX11_refuse, Cond.instanceMethod yX11_refuse]
def wsX11_drawn_r2 : List Cond := [Cond.selects RX11 yX11_refuse yX11_refuse, Cond.code yX11_refuse cX11_refuse 2 (some .int), Cond.methodLink RX11 172 yX11_refuseAs, Cond.instanceMethod yX11_refuseAs, Cond.selects RX11 yX11_refuseAs yX11_refuseAs, Cond.code yX11_refuseAs cX11_refuseAs 4 (some .int), Cond.fieldLink RX11 75 "ThriceCounted" "refused" "[I", Cond.methodLink RX11 175 ⟨"ThriceCounted$Ones", "slip", "(I)I"⟩, Cond.sameMethod "ThriceCounted$Ones" "ThriceCounted$Ones" "slip" "(I)I", Cond.instanceMethod ⟨"ThriceCounted$Ones", "slip", "(I)I"⟩, Cond.selects RX1 ⟨"ThriceCounted$Ones", "slip", "(I)I"⟩ yX1_slip, Cond.instanceMethod yX1_slip, Cond.initialized RX1, Cond.code yX1_slip cX1_slip 2 (some .int), Cond.methodLink RX1 7 yX4_slip, Cond.superclass RX1 RX4, Cond.instanceMethod yX4_slip, Cond.initialized RX4, Cond.code yX4_slip cX4_slip 2 (some .int), Cond.selects RX3 ⟨"ThriceCounted$Ones", "slip", "(I)I"⟩ yX3_slip, Cond.instanceMethod yX3_slip, Cond.initialized RX3, Cond.code yX3_slip cX3_slip 2 (some .int), Cond.methodLink RX3 7 yX10_slip]
def wsX11_drawn_r3 : List Cond := [Cond.sameMethod "ThriceCounted$Weighed" "ThriceCounted$Weighed" "slip" "(I)I", Cond.superclass RX3 RX10, Cond.instanceMethod yX10_slip, Cond.initialized RX10, Cond.code yX10_slip cX10_slip 2 (some .int), Cond.methodLink RX11 175 yX4_slip, Cond.selects RX4 yX4_slip yX4_slip, Cond.selects RX8 ⟨"ThriceCounted$Ones", "slip", "(I)I"⟩ yX8_slip, Cond.instanceMethod yX8_slip, Cond.initialized RX8, Cond.code yX8_slip cX8_slip 2 (some .int), Cond.methodLink RX8 7 yX9_slip, Cond.sameMethod "ThriceCounted$Talked" "ThriceCounted$Talked" "slip" "(I)I", Cond.superclass RX8 RX9, Cond.instanceMethod yX9_slip, Cond.initialized RX9, Cond.code yX9_slip cX9_slip 2 (some .int), Cond.methodLink RX9 7 yX4_slip, Cond.superclass RX9 RX4, Cond.selects RX9 ⟨"ThriceCounted$Ones", "slip", "(I)I"⟩ yX9_slip, Cond.selects RX10 ⟨"ThriceCounted$Ones", "slip", "(I)I"⟩ yX10_slip]
def wsX11_drawn : List Cond := .code yX11_drawn cX11_drawn 13 (some .int) :: ((wsX11_drawn_r1 ++ (wsX11_drawn_r2 ++ wsX11_drawn_r3)) ++ wsX110)
def wsX11_part_r1 : List Cond := [Cond.fieldLink RX11 63 "ThriceCounted" "fraction" "LThriceCounted$Fraction;", Cond.methodLink RX11 102 yX11_within, Cond.static yX11_within, Cond.initialized RX11, Cond.code yX11_within cX11_within 3 (some .boolean), Cond.methodLink RX11 106 yX11_refuse, Cond.instanceMethod yX11_refuse, Cond.selects RX11 yX11_refuse yX11_refuse, Cond.code yX11_refuse cX11_refuse 2 (some .int), Cond.methodLink RX11 172 yX11_refuseAs, Cond.instanceMethod yX11_refuseAs, Cond.selects RX11 yX11_refuseAs yX11_refuseAs, Cond.code yX11_refuseAs cX11_refuseAs 4 (some .int), Cond.fieldLink RX11 75 "ThriceCounted" "refused" "[I", Cond.methodLink RX11 271 yX2_above, Cond.instanceMethod yX2_above, Cond.selects RX2 yX2_above yX2_above, Cond.initialized RX2, Cond.code yX2_above cX2_above 1 (some .long), Cond.fieldLink RX2 7 "ThriceCounted$Fraction" "above" "J", Cond.methodLink RX11 274 yX2_below, Cond.instanceMethod yX2_below, Cond.selects RX2 yX2_below yX2_below, Cond.code yX2_below cX2_below 1 (some .long)]
def wsX11_part_r2 : List Cond := [Cond.fieldLink RX2 13 "ThriceCounted$Fraction" "below" "J"]
def wsX11_part : List Cond := .code yX11_part cX11_part 2 (some .long) :: ((wsX11_part_r1 ++ wsX11_part_r2) ++ wsX110 ++ wsX20)
def wsX11_isImage : List Cond := .code yX11_isImage cX11_isImage 2 (some .boolean) :: ([.fieldLink RX11 38 "ThriceCounted" "images" "[LThriceCounted$Bank;", .fieldLink RX11 42 "ThriceCounted" "kept" "[Z"] ++ wsX110)
def wsX11_image_r1 : List Cond := [Cond.fieldLink RX11 38 "ThriceCounted" "images" "[LThriceCounted$Bank;", Cond.fieldLink RX11 34 "ThriceCounted" "bank" "LThriceCounted$Bank;", Cond.fieldLink RX11 42 "ThriceCounted" "kept" "[Z", Cond.methodLink RX11 277 yX11_isImage, Cond.instanceMethod yX11_isImage, Cond.selects RX11 yX11_isImage yX11_isImage, Cond.initialized RX11, Cond.code yX11_isImage cX11_isImage 2 (some .boolean), Cond.methodLink RX11 106 yX11_refuse, Cond.instanceMethod yX11_refuse, Cond.selects RX11 yX11_refuse yX11_refuse, Cond.code yX11_refuse cX11_refuse 2 (some .int), Cond.methodLink RX11 172 yX11_refuseAs, Cond.instanceMethod yX11_refuseAs, Cond.selects RX11 yX11_refuseAs yX11_refuseAs, Cond.code yX11_refuseAs cX11_refuseAs 4 (some .int), Cond.fieldLink RX11 75 "ThriceCounted" "refused" "[I", Cond.methodLink RX11 165 yX0_copyFrom, Cond.instanceMethod yX0_copyFrom, Cond.selects RX0 yX0_copyFrom yX0_copyFrom, Cond.initialized RX0, Cond.code yX0_copyFrom cX0_copyFrom 3 none, Cond.fieldLink RX0 14 "ThriceCounted$Bank" "clerks" "LThriceCounted$Rows;", Cond.fieldLink RX0 20 "ThriceCounted$Bank" "bundles" "LThriceCounted$Rows;"]
def wsX11_image_r2 : List Cond := [Cond.fieldLink RX0 23 "ThriceCounted$Bank" "counts" "LThriceCounted$Rows;", Cond.fieldLink RX0 26 "ThriceCounted$Bank" "causes" "LThriceCounted$Rows;", Cond.fieldLink RX0 33 "ThriceCounted$Bank" "undos" "I", Cond.fieldLink RX0 29 "ThriceCounted$Bank" "earlier" "[LThriceCounted$Rows;", Cond.methodLink RX0 44 Lib.Math.min.name, Cond.static Lib.Math.min.name, Cond.initialized "java/lang/Math", Cond.code Lib.Math.min.name Lib.Math.min.code 2 (some .int), Cond.methodLink RX0 40 yX6_copyFrom, Cond.instanceMethod yX6_copyFrom, Cond.selects RX6 yX6_copyFrom yX6_copyFrom, Cond.initialized RX6, Cond.code yX6_copyFrom cX6_copyFrom 2 none, Cond.fieldLink RX6 21 "ThriceCounted$Rows" "limit" "I", Cond.fieldLink RX6 9 "ThriceCounted$Rows" "size" "I", Cond.methodLink RX6 50 Lib.Math.min.name, Cond.fieldLink RX6 27 "ThriceCounted$Rows" "cells" "[I", Cond.methodLink RX6 53 arraycopyName, Cond.native arraycopyName, Cond.static arraycopyName, Cond.initialized "java/lang/System"]
def wsX11_image : List Cond := .code yX11_image cX11_image 2 (some .int) :: ((wsX11_image_r1 ++ wsX11_image_r2) ++ wsX110 ++ wsX00 ++ wsX60)
def wsX11_from_r1 : List Cond := [Cond.fieldLink RX11 42 "ThriceCounted" "kept" "[Z", Cond.fieldLink RX11 34 "ThriceCounted" "bank" "LThriceCounted$Bank;", Cond.fieldLink RX11 38 "ThriceCounted" "images" "[LThriceCounted$Bank;", Cond.methodLink RX11 277 yX11_isImage, Cond.instanceMethod yX11_isImage, Cond.selects RX11 yX11_isImage yX11_isImage, Cond.initialized RX11, Cond.code yX11_isImage cX11_isImage 2 (some .boolean), Cond.methodLink RX11 106 yX11_refuse, Cond.instanceMethod yX11_refuse, Cond.selects RX11 yX11_refuse yX11_refuse, Cond.code yX11_refuse cX11_refuse 2 (some .int), Cond.methodLink RX11 172 yX11_refuseAs, Cond.instanceMethod yX11_refuseAs, Cond.selects RX11 yX11_refuseAs yX11_refuseAs, Cond.code yX11_refuseAs cX11_refuseAs 4 (some .int), Cond.fieldLink RX11 75 "ThriceCounted" "refused" "[I", Cond.methodLink RX11 165 yX0_copyFrom, Cond.instanceMethod yX0_copyFrom, Cond.selects RX0 yX0_copyFrom yX0_copyFrom, Cond.initialized RX0, Cond.code yX0_copyFrom cX0_copyFrom 3 none, Cond.fieldLink RX0 14 "ThriceCounted$Bank" "clerks" "LThriceCounted$Rows;", Cond.fieldLink RX0 20 "ThriceCounted$Bank" "bundles" "LThriceCounted$Rows;"]
def wsX11_from_r2 : List Cond := [Cond.fieldLink RX0 23 "ThriceCounted$Bank" "counts" "LThriceCounted$Rows;", Cond.fieldLink RX0 26 "ThriceCounted$Bank" "causes" "LThriceCounted$Rows;", Cond.fieldLink RX0 33 "ThriceCounted$Bank" "undos" "I", Cond.fieldLink RX0 29 "ThriceCounted$Bank" "earlier" "[LThriceCounted$Rows;", Cond.methodLink RX0 44 Lib.Math.min.name, Cond.static Lib.Math.min.name, Cond.initialized "java/lang/Math", Cond.code Lib.Math.min.name Lib.Math.min.code 2 (some .int), Cond.methodLink RX0 40 yX6_copyFrom, Cond.instanceMethod yX6_copyFrom, Cond.selects RX6 yX6_copyFrom yX6_copyFrom, Cond.initialized RX6, Cond.code yX6_copyFrom cX6_copyFrom 2 none, Cond.fieldLink RX6 21 "ThriceCounted$Rows" "limit" "I", Cond.fieldLink RX6 9 "ThriceCounted$Rows" "size" "I", Cond.methodLink RX6 50 Lib.Math.min.name, Cond.fieldLink RX6 27 "ThriceCounted$Rows" "cells" "[I", Cond.methodLink RX6 53 arraycopyName, Cond.native arraycopyName, Cond.static arraycopyName, Cond.initialized "java/lang/System"]
def wsX11_from : List Cond := .code yX11_from cX11_from 2 (some .int) :: ((wsX11_from_r1 ++ wsX11_from_r2) ++ wsX110 ++ wsX00 ++ wsX60)
def wsX11_status : List Cond := .code yX11_status cX11_status 2 (some .int) :: ([.fieldLink RX11 75 "ThriceCounted" "refused" "[I", .methodLink RX11 172 yX11_refuseAs, .instanceMethod yX11_refuseAs, .selects RX11 yX11_refuseAs yX11_refuseAs, .initialized RX11, .code yX11_refuseAs cX11_refuseAs 4 (some .int)] ++ wsX110)
def wsX11_howMany : List Cond := .code yX11_howMany cX11_howMany 2 (some .int) :: ([.fieldLink RX11 34 "ThriceCounted" "bank" "LThriceCounted$Bank;", .fieldLink RX11 110 "ThriceCounted$Bank" "clerks" "LThriceCounted$Rows;", .fieldLink RX11 85 "ThriceCounted$Bank" "bundles" "LThriceCounted$Rows;", .fieldLink RX11 138 "ThriceCounted$Bank" "counts" "LThriceCounted$Rows;", .fieldLink RX11 227 "ThriceCounted$Bank" "causes" "LThriceCounted$Rows;", .fieldLink RX11 71 "ThriceCounted" "typed" "I", .methodLink RX11 89 yX6_size, .instanceMethod yX6_size, .selects RX6 yX6_size yX6_size, .initialized RX6, .code yX6_size cX6_size 1 (some .int), .fieldLink RX6 9 "ThriceCounted$Rows" "size" "I", .methodLink RX11 291 yX0_undos, .instanceMethod yX0_undos, .selects RX0 yX0_undos yX0_undos, .initialized RX0, .code yX0_undos cX0_undos 1 (some .int), .fieldLink RX0 33 "ThriceCounted$Bank" "undos" "I"] ++ wsX110 ++ wsX00 ++ wsX60)
def wsX11_count_r1 : List Cond := [Cond.methodLink RX11 102 yX11_within, Cond.static yX11_within, Cond.initialized RX11, Cond.code yX11_within cX11_within 3 (some .boolean), Cond.methodLink RX11 106 yX11_refuse, Cond.instanceMethod yX11_refuse, Cond.selects RX11 yX11_refuse yX11_refuse, Cond.code yX11_refuse cX11_refuse 2 (some .int), Cond.methodLink RX11 172 yX11_refuseAs, Cond.instanceMethod yX11_refuseAs, Cond.selects RX11 yX11_refuseAs yX11_refuseAs, Cond.code yX11_refuseAs cX11_refuseAs 4 (some .int), Cond.fieldLink RX11 75 "ThriceCounted" "refused" "[I", Cond.methodLink RX11 280 yX11_howMany, Cond.instanceMethod yX11_howMany, Cond.selects RX11 yX11_howMany yX11_howMany, Cond.code yX11_howMany cX11_howMany 2 (some .int), Cond.fieldLink RX11 34 "ThriceCounted" "bank" "LThriceCounted$Bank;", Cond.fieldLink RX11 110 "ThriceCounted$Bank" "clerks" "LThriceCounted$Rows;", Cond.fieldLink RX11 85 "ThriceCounted$Bank" "bundles" "LThriceCounted$Rows;", Cond.fieldLink RX11 138 "ThriceCounted$Bank" "counts" "LThriceCounted$Rows;", Cond.fieldLink RX11 227 "ThriceCounted$Bank" "causes" "LThriceCounted$Rows;", Cond.fieldLink RX11 71 "ThriceCounted" "typed" "I", Cond.methodLink RX11 89 yX6_size]
def wsX11_count_r2 : List Cond := [Cond.instanceMethod yX6_size, Cond.selects RX6 yX6_size yX6_size, Cond.initialized RX6, Cond.code yX6_size cX6_size 1 (some .int), Cond.fieldLink RX6 9 "ThriceCounted$Rows" "size" "I", Cond.methodLink RX11 291 yX0_undos, Cond.instanceMethod yX0_undos, Cond.selects RX0 yX0_undos yX0_undos, Cond.initialized RX0, Cond.code yX0_undos cX0_undos 1 (some .int), Cond.fieldLink RX0 33 "ThriceCounted$Bank" "undos" "I"]
def wsX11_count : List Cond := .code yX11_count cX11_count 2 (some .int) :: ((wsX11_count_r1 ++ wsX11_count_r2) ++ wsX110 ++ wsX00 ++ wsX60)
def wsX11_digest_r1 : List Cond := [Cond.constantLong RX11 283 (937), Cond.constantLong RX11 285 (31), Cond.fieldLink RX11 34 "ThriceCounted" "bank" "LThriceCounted$Bank;", Cond.fieldLink RX11 110 "ThriceCounted$Bank" "clerks" "LThriceCounted$Rows;", Cond.fieldLink RX11 85 "ThriceCounted$Bank" "bundles" "LThriceCounted$Rows;", Cond.fieldLink RX11 138 "ThriceCounted$Bank" "counts" "LThriceCounted$Rows;", Cond.fieldLink RX11 227 "ThriceCounted$Bank" "causes" "LThriceCounted$Rows;", Cond.fieldLink RX11 63 "ThriceCounted" "fraction" "LThriceCounted$Fraction;", Cond.methodLink RX11 280 yX11_howMany, Cond.instanceMethod yX11_howMany, Cond.selects RX11 yX11_howMany yX11_howMany, Cond.initialized RX11, Cond.code yX11_howMany cX11_howMany 2 (some .int), Cond.fieldLink RX11 71 "ThriceCounted" "typed" "I", Cond.methodLink RX11 89 yX6_size, Cond.instanceMethod yX6_size, Cond.selects RX6 yX6_size yX6_size, Cond.initialized RX6, Cond.code yX6_size cX6_size 1 (some .int), Cond.fieldLink RX6 9 "ThriceCounted$Rows" "size" "I", Cond.methodLink RX11 291 yX0_undos, Cond.instanceMethod yX0_undos, Cond.selects RX0 yX0_undos yX0_undos, Cond.initialized RX0]
def wsX11_digest_r2 : List Cond := [Cond.code yX0_undos cX0_undos 1 (some .int), Cond.fieldLink RX0 33 "ThriceCounted$Bank" "undos" "I", Cond.methodLink RX11 287 yX6_mixInto, Cond.instanceMethod yX6_mixInto, Cond.selects RX6 yX6_mixInto yX6_mixInto, Cond.code yX6_mixInto cX6_mixInto 6 (some .long), Cond.fieldLink RX6 24 "ThriceCounted$Rows" "width" "I", Cond.fieldLink RX6 27 "ThriceCounted$Rows" "cells" "[I", Cond.constantLong RX6 59 (31), Cond.methodLink RX11 271 yX2_above, Cond.instanceMethod yX2_above, Cond.selects RX2 yX2_above yX2_above, Cond.initialized RX2, Cond.code yX2_above cX2_above 1 (some .long), Cond.fieldLink RX2 7 "ThriceCounted$Fraction" "above" "J", Cond.methodLink RX11 274 yX2_below, Cond.instanceMethod yX2_below, Cond.selects RX2 yX2_below yX2_below, Cond.code yX2_below cX2_below 1 (some .long), Cond.fieldLink RX2 13 "ThriceCounted$Fraction" "below" "J"]
def wsX11_digest : List Cond := .code yX11_digest cX11_digest 4 (some .long) :: ((wsX11_digest_r1 ++ wsX11_digest_r2) ++ wsX110 ++ wsX00 ++ wsX60 ++ wsX20)
def wsX12_init : List Cond := .code yX12_init cX12_init 1 none :: ([.methodLink RX12 1 objectInit, .instanceMethod objectInit, .code objectInit ⟨#[0xb1]⟩ 1 none, .arrayClass .int, .fieldLink RX12 7 "ThriceCountedModel" "now" "[I", .fieldLink RX12 13 "ThriceCountedModel" "kept" "[I", .arrayClass .boolean, .fieldLink RX12 16 "ThriceCountedModel" "isKept" "[Z", .fieldLink RX12 20 "ThriceCountedModel" "refused" "[I", .fieldLink RX12 23 "ThriceCountedModel" "below" "J", .arrayClass .long, .fieldLink RX12 27 "ThriceCountedModel" "weights" "[J", .fieldLink RX12 31 "ThriceCountedModel" "sought" "[I", .fieldLink RX12 34 "ThriceCountedModel" "order" "[I", .fieldLink RX12 37 "ThriceCountedModel" "bestOrder" "[I", .fieldLink RX12 40 "ThriceCountedModel" "bytes" "[I", .fieldLink RX12 43 "ThriceCountedModel" "next" "[I", .fieldLink RX12 46 "ThriceCountedModel" "values" "[I"] ++ wsX120)
def wsX12_in : List Cond := .code yX12_in cX12_in 6 (some .boolean) :: ([])
def wsX12_bad : List Cond := .code yX12_bad cX12_bad 2 (some .int) :: ([.fieldLink RX12 20 "ThriceCountedModel" "refused" "[I"] ++ wsX120)
def wsX12_no : List Cond := .code yX12_no cX12_no 1 (some .int) :: ([.fieldLink RX12 20 "ThriceCountedModel" "refused" "[I"] ++ wsX120)
def wsX12_full : List Cond := .code yX12_full cX12_full 1 (some .int) :: ([.fieldLink RX12 20 "ThriceCountedModel" "refused" "[I"] ++ wsX120)
def wsX12_begin : List Cond := .code yX12_begin cX12_begin 2 none :: ([])
def wsX12_isClerk : List Cond := .code yX12_isClerk cX12_isClerk 2 (some .boolean) :: ([.fieldLink RX12 7 "ThriceCountedModel" "now" "[I", .methodLink RX12 49 yX12_in, .static yX12_in, .initialized RX12, .code yX12_in cX12_in 6 (some .boolean)] ++ wsX120)
def wsX12_isBundle : List Cond := .code yX12_isBundle cX12_isBundle 2 (some .boolean) :: ([.fieldLink RX12 7 "ThriceCountedModel" "now" "[I", .methodLink RX12 49 yX12_in, .static yX12_in, .initialized RX12, .code yX12_in cX12_in 6 (some .boolean)] ++ wsX120)
def wsX12_isCount : List Cond := .code yX12_isCount cX12_isCount 2 (some .boolean) :: ([.fieldLink RX12 7 "ThriceCountedModel" "now" "[I", .methodLink RX12 49 yX12_in, .static yX12_in, .initialized RX12, .code yX12_in cX12_in 6 (some .boolean)] ++ wsX120)
def wsX12_isWay : List Cond := .code yX12_isWay cX12_isWay 1 (some .boolean) :: ([.constantLong RX12 53 (5), .methodLink RX12 49 yX12_in, .static yX12_in, .initialized RX12, .code yX12_in cX12_in 6 (some .boolean)])
def wsX12_bundleHas : List Cond := .code yX12_bundleHas cX12_bundleHas 3 (some .int) :: ([.fieldLink RX12 7 "ThriceCountedModel" "now" "[I"] ++ wsX120)
def wsX12_countHas : List Cond := .code yX12_countHas cX12_countHas 3 (some .int) :: ([.fieldLink RX12 7 "ThriceCountedModel" "now" "[I"] ++ wsX120)
def wsX12_causeHas : List Cond := .code yX12_causeHas cX12_causeHas 3 (some .int) :: ([.fieldLink RX12 7 "ThriceCountedModel" "now" "[I"] ++ wsX120)
def wsX12_bank : List Cond := .code yX12_bank cX12_bank 2 (some .int) :: ([.fieldLink RX12 7 "ThriceCountedModel" "now" "[I", .methodLink RX12 55 yX12_begin, .static yX12_begin, .initialized RX12, .code yX12_begin cX12_begin 2 none] ++ wsX120)
def wsX12_layClerk : List Cond := .code yX12_layClerk cX12_layClerk 2 none :: ([])
def wsX12_clerk : List Cond := .code yX12_clerk cX12_clerk 2 (some .int) :: ([.constantLong RX12 59 (10), .fieldLink RX12 7 "ThriceCountedModel" "now" "[I", .methodLink RX12 49 yX12_in, .static yX12_in, .initialized RX12, .code yX12_in cX12_in 6 (some .boolean), .methodLink RX12 61 yX12_bad, .instanceMethod yX12_bad, .selects RX12 yX12_bad yX12_bad, .code yX12_bad cX12_bad 2 (some .int), .fieldLink RX12 20 "ThriceCountedModel" "refused" "[I", .methodLink RX12 65 yX12_full, .instanceMethod yX12_full, .selects RX12 yX12_full yX12_full, .code yX12_full cX12_full 1 (some .int), .methodLink RX12 69 yX12_layClerk, .static yX12_layClerk, .code yX12_layClerk cX12_layClerk 2 none] ++ wsX120)
def wsX12_layBundle : List Cond := .code yX12_layBundle cX12_layBundle 4 none :: ([])
def wsX12_bundle : List Cond := .code yX12_bundle cX12_bundle 3 (some .int) :: ([.constantLong RX12 73 (90), .constantLong RX12 75 (110), .fieldLink RX12 7 "ThriceCountedModel" "now" "[I", .methodLink RX12 49 yX12_in, .static yX12_in, .initialized RX12, .code yX12_in cX12_in 6 (some .boolean), .methodLink RX12 61 yX12_bad, .instanceMethod yX12_bad, .selects RX12 yX12_bad yX12_bad, .code yX12_bad cX12_bad 2 (some .int), .fieldLink RX12 20 "ThriceCountedModel" "refused" "[I", .methodLink RX12 65 yX12_full, .instanceMethod yX12_full, .selects RX12 yX12_full yX12_full, .code yX12_full cX12_full 1 (some .int), .methodLink RX12 77 yX12_layBundle, .static yX12_layBundle, .code yX12_layBundle cX12_layBundle 4 none] ++ wsX120)
def wsX12_layBand : List Cond := .code yX12_layBand cX12_layBand 4 none :: ([])
def wsX12_band_r1 : List Cond := [Cond.constantLong RX12 73 (90), Cond.constantLong RX12 75 (110), Cond.fieldLink RX12 7 "ThriceCountedModel" "now" "[I", Cond.methodLink RX12 81 yX12_isBundle, Cond.instanceMethod yX12_isBundle, Cond.selects RX12 yX12_isBundle yX12_isBundle, Cond.initialized RX12, Cond.code yX12_isBundle cX12_isBundle 2 (some .boolean), Cond.methodLink RX12 49 yX12_in, Cond.static yX12_in, Cond.code yX12_in cX12_in 6 (some .boolean), Cond.methodLink RX12 85 yX12_isClerk, Cond.instanceMethod yX12_isClerk, Cond.selects RX12 yX12_isClerk yX12_isClerk, Cond.code yX12_isClerk cX12_isClerk 2 (some .boolean), Cond.methodLink RX12 61 yX12_bad, Cond.instanceMethod yX12_bad, Cond.selects RX12 yX12_bad yX12_bad, Cond.code yX12_bad cX12_bad 2 (some .int), Cond.fieldLink RX12 20 "ThriceCountedModel" "refused" "[I", Cond.methodLink RX12 88 yX12_bundleHas, Cond.instanceMethod yX12_bundleHas, Cond.selects RX12 yX12_bundleHas yX12_bundleHas, Cond.code yX12_bundleHas cX12_bundleHas 3 (some .int)]
def wsX12_band_r2 : List Cond := [Cond.methodLink RX12 92 yX12_layBand, Cond.static yX12_layBand, Cond.code yX12_layBand cX12_layBand 4 none]
def wsX12_band : List Cond := .code yX12_band cX12_band 5 (some .int) :: ((wsX12_band_r1 ++ wsX12_band_r2) ++ wsX120)
def wsX12_layCount : List Cond := .code yX12_layCount cX12_layCount 6 none :: ([])
def wsX12_keep : List Cond := .code yX12_keep cX12_keep 3 none :: ([.fieldLink RX12 7 "ThriceCountedModel" "now" "[I"] ++ wsX120)
def wsX12_tell_r1 : List Cond := [Cond.constantLong RX12 99 (80), Cond.constantLong RX12 101 (120), Cond.fieldLink RX12 7 "ThriceCountedModel" "now" "[I", Cond.methodLink RX12 81 yX12_isBundle, Cond.instanceMethod yX12_isBundle, Cond.selects RX12 yX12_isBundle yX12_isBundle, Cond.initialized RX12, Cond.code yX12_isBundle cX12_isBundle 2 (some .boolean), Cond.methodLink RX12 49 yX12_in, Cond.static yX12_in, Cond.code yX12_in cX12_in 6 (some .boolean), Cond.methodLink RX12 96 yX12_isWay, Cond.static yX12_isWay, Cond.code yX12_isWay cX12_isWay 1 (some .boolean), Cond.constantLong RX12 53 (5), Cond.methodLink RX12 85 yX12_isClerk, Cond.instanceMethod yX12_isClerk, Cond.selects RX12 yX12_isClerk yX12_isClerk, Cond.code yX12_isClerk cX12_isClerk 2 (some .boolean), Cond.methodLink RX12 61 yX12_bad, Cond.instanceMethod yX12_bad, Cond.selects RX12 yX12_bad yX12_bad, Cond.code yX12_bad cX12_bad 2 (some .int), Cond.fieldLink RX12 20 "ThriceCountedModel" "refused" "[I"]
def wsX12_tell_r2 : List Cond := [Cond.methodLink RX12 65 yX12_full, Cond.instanceMethod yX12_full, Cond.selects RX12 yX12_full yX12_full, Cond.code yX12_full cX12_full 1 (some .int), Cond.methodLink RX12 103 yX12_keep, Cond.instanceMethod yX12_keep, Cond.selects RX12 yX12_keep yX12_keep, Cond.code yX12_keep cX12_keep 3 none, Cond.methodLink RX12 106 yX12_layCount, Cond.static yX12_layCount, Cond.code yX12_layCount cX12_layCount 6 none]
def wsX12_tell : List Cond := .code yX12_tell cX12_tell 5 (some .int) :: ((wsX12_tell_r1 ++ wsX12_tell_r2) ++ wsX120)
def wsX12_back : List Cond := .code yX12_back cX12_back 3 (some .int) :: ([.fieldLink RX12 7 "ThriceCountedModel" "now" "[I", .methodLink RX12 110 yX12_isCount, .instanceMethod yX12_isCount, .selects RX12 yX12_isCount yX12_isCount, .initialized RX12, .code yX12_isCount cX12_isCount 2 (some .boolean), .methodLink RX12 49 yX12_in, .static yX12_in, .code yX12_in cX12_in 6 (some .boolean), .methodLink RX12 61 yX12_bad, .instanceMethod yX12_bad, .selects RX12 yX12_bad yX12_bad, .code yX12_bad cX12_bad 2 (some .int), .fieldLink RX12 20 "ThriceCountedModel" "refused" "[I", .methodLink RX12 103 yX12_keep, .instanceMethod yX12_keep, .selects RX12 yX12_keep yX12_keep, .code yX12_keep cX12_keep 3 none] ++ wsX120)
def wsX12_undo : List Cond := .code yX12_undo cX12_undo 3 (some .int) :: ([.fieldLink RX12 7 "ThriceCountedModel" "now" "[I", .methodLink RX12 113 yX12_no, .instanceMethod yX12_no, .selects RX12 yX12_no yX12_no, .initialized RX12, .code yX12_no cX12_no 1 (some .int), .fieldLink RX12 20 "ThriceCountedModel" "refused" "[I"] ++ wsX120)
def wsX12_offByOnes : List Cond := .code yX12_offByOnes cX12_offByOnes 1 (some .int) :: ([])
def wsX12_offByWeight : List Cond := .code yX12_offByWeight cX12_offByWeight 1 (some .int) :: ([])
def wsX12_offBy : List Cond := .code yX12_offBy cX12_offBy 2 (some .int) :: ([.constantLong RX12 122 (6), .constantLong RX12 124 (8), .methodLink RX12 116 yX12_offByOnes, .static yX12_offByOnes, .initialized RX12, .code yX12_offByOnes cX12_offByOnes 1 (some .int), .methodLink RX12 119 yX12_offByWeight, .static yX12_offByWeight, .code yX12_offByWeight cX12_offByWeight 1 (some .int), .methodLink RX12 49 yX12_in, .static yX12_in, .code yX12_in cX12_in 6 (some .boolean)])
def wsX12_minutesOf : List Cond := .code yX12_minutesOf cX12_minutesOf 1 (some .int) :: ([])
def wsX12_oddsOf : List Cond := .code yX12_oddsOf cX12_oddsOf 4 (some .int) :: ([.methodLink RX12 126 yX12_offBy, .static yX12_offBy, .initialized RX12, .code yX12_offBy cX12_offBy 2 (some .int), .constantLong RX12 122 (6), .constantLong RX12 124 (8), .methodLink RX12 116 yX12_offByOnes, .static yX12_offByOnes, .code yX12_offByOnes cX12_offByOnes 1 (some .int), .methodLink RX12 119 yX12_offByWeight, .static yX12_offByWeight, .code yX12_offByWeight cX12_offByWeight 1 (some .int), .methodLink RX12 49 yX12_in, .static yX12_in, .code yX12_in cX12_in 6 (some .boolean)])
def wsX12_way_r1 : List Cond := [Cond.constantLong RX12 129 (21), Cond.methodLink RX12 96 yX12_isWay, Cond.static yX12_isWay, Cond.initialized RX12, Cond.code yX12_isWay cX12_isWay 1 (some .boolean), Cond.constantLong RX12 53 (5), Cond.methodLink RX12 49 yX12_in, Cond.static yX12_in, Cond.code yX12_in cX12_in 6 (some .boolean), Cond.methodLink RX12 61 yX12_bad, Cond.instanceMethod yX12_bad, Cond.selects RX12 yX12_bad yX12_bad, Cond.code yX12_bad cX12_bad 2 (some .int), Cond.fieldLink RX12 20 "ThriceCountedModel" "refused" "[I", Cond.methodLink RX12 131 yX12_minutesOf, Cond.static yX12_minutesOf, Cond.code yX12_minutesOf cX12_minutesOf 1 (some .int), Cond.methodLink RX12 134 yX12_oddsOf, Cond.static yX12_oddsOf, Cond.code yX12_oddsOf cX12_oddsOf 4 (some .int), Cond.methodLink RX12 126 yX12_offBy, Cond.static yX12_offBy, Cond.code yX12_offBy cX12_offBy 2 (some .int), Cond.constantLong RX12 122 (6)]
def wsX12_way_r2 : List Cond := [Cond.constantLong RX12 124 (8), Cond.methodLink RX12 116 yX12_offByOnes, Cond.static yX12_offByOnes, Cond.code yX12_offByOnes cX12_offByOnes 1 (some .int), Cond.methodLink RX12 119 yX12_offByWeight, Cond.static yX12_offByWeight, Cond.code yX12_offByWeight cX12_offByWeight 1 (some .int)]
def wsX12_way : List Cond := .code yX12_way cX12_way 3 (some .int) :: ((wsX12_way_r1 ++ wsX12_way_r2) ++ wsX120)
def wsX12_odds_r1 : List Cond := [Cond.constantLong RX12 137 (-40), Cond.constantLong RX12 139 (40), Cond.methodLink RX12 96 yX12_isWay, Cond.static yX12_isWay, Cond.initialized RX12, Cond.code yX12_isWay cX12_isWay 1 (some .boolean), Cond.constantLong RX12 53 (5), Cond.methodLink RX12 49 yX12_in, Cond.static yX12_in, Cond.code yX12_in cX12_in 6 (some .boolean), Cond.methodLink RX12 134 yX12_oddsOf, Cond.static yX12_oddsOf, Cond.code yX12_oddsOf cX12_oddsOf 4 (some .int), Cond.methodLink RX12 126 yX12_offBy, Cond.static yX12_offBy, Cond.code yX12_offBy cX12_offBy 2 (some .int), Cond.constantLong RX12 122 (6), Cond.constantLong RX12 124 (8), Cond.methodLink RX12 116 yX12_offByOnes, Cond.static yX12_offByOnes, Cond.code yX12_offByOnes cX12_offByOnes 1 (some .int), Cond.methodLink RX12 119 yX12_offByWeight, Cond.static yX12_offByWeight, Cond.code yX12_offByWeight cX12_offByWeight 1 (some .int)]
def wsX12_odds_r2 : List Cond := [Cond.methodLink RX12 61 yX12_bad, Cond.instanceMethod yX12_bad, Cond.selects RX12 yX12_bad yX12_bad, Cond.code yX12_bad cX12_bad 2 (some .int), Cond.fieldLink RX12 20 "ThriceCountedModel" "refused" "[I"]
def wsX12_odds : List Cond := .code yX12_odds cX12_odds 3 (some .int) :: ((wsX12_odds_r1 ++ wsX12_odds_r2) ++ wsX120)
def wsX12_of : List Cond := .code yX12_of cX12_of 3 (some .int) :: ([.constantLong RX12 141 (3), .methodLink RX12 110 yX12_isCount, .instanceMethod yX12_isCount, .selects RX12 yX12_isCount yX12_isCount, .initialized RX12, .code yX12_isCount cX12_isCount 2 (some .boolean), .fieldLink RX12 7 "ThriceCountedModel" "now" "[I", .methodLink RX12 49 yX12_in, .static yX12_in, .code yX12_in cX12_in 6 (some .boolean), .methodLink RX12 143 yX12_countHas, .instanceMethod yX12_countHas, .selects RX12 yX12_countHas yX12_countHas, .code yX12_countHas cX12_countHas 3 (some .int), .methodLink RX12 61 yX12_bad, .instanceMethod yX12_bad, .selects RX12 yX12_bad yX12_bad, .code yX12_bad cX12_bad 2 (some .int), .fieldLink RX12 20 "ThriceCountedModel" "refused" "[I"] ++ wsX120)
def wsX12_about : List Cond := .code yX12_about cX12_about 5 (some .int) :: ([.constantLong RX12 146 (4), .fieldLink RX12 7 "ThriceCountedModel" "now" "[I", .methodLink RX12 81 yX12_isBundle, .instanceMethod yX12_isBundle, .selects RX12 yX12_isBundle yX12_isBundle, .initialized RX12, .code yX12_isBundle cX12_isBundle 2 (some .boolean), .methodLink RX12 49 yX12_in, .static yX12_in, .code yX12_in cX12_in 6 (some .boolean), .methodLink RX12 61 yX12_bad, .instanceMethod yX12_bad, .selects RX12 yX12_bad yX12_bad, .code yX12_bad cX12_bad 2 (some .int), .fieldLink RX12 20 "ThriceCountedModel" "refused" "[I", .methodLink RX12 88 yX12_bundleHas, .instanceMethod yX12_bundleHas, .selects RX12 yX12_bundleHas yX12_bundleHas, .code yX12_bundleHas cX12_bundleHas 3 (some .int), .methodLink RX12 143 yX12_countHas, .instanceMethod yX12_countHas, .selects RX12 yX12_countHas yX12_countHas, .code yX12_countHas cX12_countHas 3 (some .int)] ++ wsX120)
def wsX12_fraction : List Cond := .code yX12_fraction cX12_fraction 11 none :: ([.fieldLink RX12 148 "ThriceCountedModel" "above" "J", .fieldLink RX12 23 "ThriceCountedModel" "below" "J"] ++ wsX120)
def wsX12_weight_r1 : List Cond := [Cond.fieldLink RX12 7 "ThriceCountedModel" "now" "[I", Cond.methodLink RX12 88 yX12_bundleHas, Cond.instanceMethod yX12_bundleHas, Cond.selects RX12 yX12_bundleHas yX12_bundleHas, Cond.initialized RX12, Cond.code yX12_bundleHas cX12_bundleHas 3 (some .int), Cond.methodLink RX12 49 yX12_in, Cond.static yX12_in, Cond.code yX12_in cX12_in 6 (some .boolean), Cond.methodLink RX12 143 yX12_countHas, Cond.instanceMethod yX12_countHas, Cond.selects RX12 yX12_countHas yX12_countHas, Cond.code yX12_countHas cX12_countHas 3 (some .int), Cond.methodLink RX12 134 yX12_oddsOf, Cond.static yX12_oddsOf, Cond.code yX12_oddsOf cX12_oddsOf 4 (some .int), Cond.methodLink RX12 126 yX12_offBy, Cond.static yX12_offBy, Cond.code yX12_offBy cX12_offBy 2 (some .int), Cond.constantLong RX12 122 (6), Cond.constantLong RX12 124 (8), Cond.methodLink RX12 116 yX12_offByOnes, Cond.static yX12_offByOnes, Cond.code yX12_offByOnes cX12_offByOnes 1 (some .int)]
def wsX12_weight_r2 : List Cond := [Cond.methodLink RX12 119 yX12_offByWeight, Cond.static yX12_offByWeight, Cond.code yX12_offByWeight cX12_offByWeight 1 (some .int)]
def wsX12_weight : List Cond := .code yX12_weight cX12_weight 9 (some .long) :: ((wsX12_weight_r1 ++ wsX12_weight_r2) ++ wsX120)
def wsX12_weigh_r1 : List Cond := [Cond.fieldLink RX12 151 "ThriceCountedModel" "allWeights" "J", Cond.fieldLink RX12 154 "ThriceCountedModel" "trulyIs" "I", Cond.fieldLink RX12 158 "ThriceCountedModel" "canBe" "I", Cond.fieldLink RX12 27 "ThriceCountedModel" "weights" "[J", Cond.methodLink RX12 161 yX12_weight, Cond.instanceMethod yX12_weight, Cond.selects RX12 yX12_weight yX12_weight, Cond.initialized RX12, Cond.code yX12_weight cX12_weight 9 (some .long), Cond.fieldLink RX12 7 "ThriceCountedModel" "now" "[I", Cond.methodLink RX12 88 yX12_bundleHas, Cond.instanceMethod yX12_bundleHas, Cond.selects RX12 yX12_bundleHas yX12_bundleHas, Cond.code yX12_bundleHas cX12_bundleHas 3 (some .int), Cond.methodLink RX12 49 yX12_in, Cond.static yX12_in, Cond.code yX12_in cX12_in 6 (some .boolean), Cond.methodLink RX12 143 yX12_countHas, Cond.instanceMethod yX12_countHas, Cond.selects RX12 yX12_countHas yX12_countHas, Cond.code yX12_countHas cX12_countHas 3 (some .int), Cond.methodLink RX12 134 yX12_oddsOf, Cond.static yX12_oddsOf, Cond.code yX12_oddsOf cX12_oddsOf 4 (some .int)]
def wsX12_weigh_r2 : List Cond := [Cond.methodLink RX12 126 yX12_offBy, Cond.static yX12_offBy, Cond.code yX12_offBy cX12_offBy 2 (some .int), Cond.constantLong RX12 122 (6), Cond.constantLong RX12 124 (8), Cond.methodLink RX12 116 yX12_offByOnes, Cond.static yX12_offByOnes, Cond.code yX12_offByOnes cX12_offByOnes 1 (some .int), Cond.methodLink RX12 119 yX12_offByWeight, Cond.static yX12_offByWeight, Cond.code yX12_offByWeight cX12_offByWeight 1 (some .int)]
def wsX12_weigh : List Cond := .code yX12_weigh cX12_weigh 5 none :: ((wsX12_weigh_r1 ++ wsX12_weigh_r2) ++ wsX120)
def wsX12_likely_r1 : List Cond := [Cond.constantLong RX12 73 (90), Cond.constantLong RX12 75 (110), Cond.fieldLink RX12 151 "ThriceCountedModel" "allWeights" "J", Cond.fieldLink RX12 27 "ThriceCountedModel" "weights" "[J", Cond.methodLink RX12 81 yX12_isBundle, Cond.instanceMethod yX12_isBundle, Cond.selects RX12 yX12_isBundle yX12_isBundle, Cond.initialized RX12, Cond.code yX12_isBundle cX12_isBundle 2 (some .boolean), Cond.fieldLink RX12 7 "ThriceCountedModel" "now" "[I", Cond.methodLink RX12 49 yX12_in, Cond.static yX12_in, Cond.code yX12_in cX12_in 6 (some .boolean), Cond.methodLink RX12 61 yX12_bad, Cond.instanceMethod yX12_bad, Cond.selects RX12 yX12_bad yX12_bad, Cond.code yX12_bad cX12_bad 2 (some .int), Cond.fieldLink RX12 20 "ThriceCountedModel" "refused" "[I", Cond.methodLink RX12 165 yX12_weigh, Cond.instanceMethod yX12_weigh, Cond.selects RX12 yX12_weigh yX12_weigh, Cond.code yX12_weigh cX12_weigh 5 none, Cond.fieldLink RX12 154 "ThriceCountedModel" "trulyIs" "I", Cond.fieldLink RX12 158 "ThriceCountedModel" "canBe" "I"]
def wsX12_likely_r2 : List Cond := [Cond.methodLink RX12 161 yX12_weight, Cond.instanceMethod yX12_weight, Cond.selects RX12 yX12_weight yX12_weight, Cond.code yX12_weight cX12_weight 9 (some .long), Cond.methodLink RX12 88 yX12_bundleHas, Cond.instanceMethod yX12_bundleHas, Cond.selects RX12 yX12_bundleHas yX12_bundleHas, Cond.code yX12_bundleHas cX12_bundleHas 3 (some .int), Cond.methodLink RX12 143 yX12_countHas, Cond.instanceMethod yX12_countHas, Cond.selects RX12 yX12_countHas yX12_countHas, Cond.code yX12_countHas cX12_countHas 3 (some .int), Cond.methodLink RX12 134 yX12_oddsOf, Cond.static yX12_oddsOf, Cond.code yX12_oddsOf cX12_oddsOf 4 (some .int), Cond.methodLink RX12 126 yX12_offBy, Cond.static yX12_offBy, Cond.code yX12_offBy cX12_offBy 2 (some .int), Cond.constantLong RX12 122 (6), Cond.constantLong RX12 124 (8), Cond.methodLink RX12 116 yX12_offByOnes, Cond.static yX12_offByOnes, Cond.code yX12_offByOnes cX12_offByOnes 1 (some .int), Cond.methodLink RX12 119 yX12_offByWeight]
def wsX12_likely_r3 : List Cond := [Cond.static yX12_offByWeight, Cond.code yX12_offByWeight cX12_offByWeight 1 (some .int), Cond.methodLink RX12 113 yX12_no, Cond.instanceMethod yX12_no, Cond.selects RX12 yX12_no yX12_no, Cond.code yX12_no cX12_no 1 (some .int), Cond.methodLink RX12 169 yX12_fraction, Cond.instanceMethod yX12_fraction, Cond.selects RX12 yX12_fraction yX12_fraction, Cond.code yX12_fraction cX12_fraction 11 none, Cond.fieldLink RX12 148 "ThriceCountedModel" "above" "J", Cond.fieldLink RX12 23 "ThriceCountedModel" "below" "J"]
def wsX12_likely : List Cond := .code yX12_likely cX12_likely 3 (some .int) :: ((wsX12_likely_r1 ++ (wsX12_likely_r2 ++ wsX12_likely_r3)) ++ wsX120)
def wsX12_truly_r1 : List Cond := [Cond.fieldLink RX12 154 "ThriceCountedModel" "trulyIs" "I", Cond.fieldLink RX12 158 "ThriceCountedModel" "canBe" "I", Cond.methodLink RX12 81 yX12_isBundle, Cond.instanceMethod yX12_isBundle, Cond.selects RX12 yX12_isBundle yX12_isBundle, Cond.initialized RX12, Cond.code yX12_isBundle cX12_isBundle 2 (some .boolean), Cond.fieldLink RX12 7 "ThriceCountedModel" "now" "[I", Cond.methodLink RX12 49 yX12_in, Cond.static yX12_in, Cond.code yX12_in cX12_in 6 (some .boolean), Cond.methodLink RX12 61 yX12_bad, Cond.instanceMethod yX12_bad, Cond.selects RX12 yX12_bad yX12_bad, Cond.code yX12_bad cX12_bad 2 (some .int), Cond.fieldLink RX12 20 "ThriceCountedModel" "refused" "[I", Cond.methodLink RX12 165 yX12_weigh, Cond.instanceMethod yX12_weigh, Cond.selects RX12 yX12_weigh yX12_weigh, Cond.code yX12_weigh cX12_weigh 5 none, Cond.fieldLink RX12 151 "ThriceCountedModel" "allWeights" "J", Cond.fieldLink RX12 27 "ThriceCountedModel" "weights" "[J", Cond.methodLink RX12 161 yX12_weight, Cond.instanceMethod yX12_weight]
def wsX12_truly_r2 : List Cond := [Cond.selects RX12 yX12_weight yX12_weight, Cond.code yX12_weight cX12_weight 9 (some .long), Cond.methodLink RX12 88 yX12_bundleHas, Cond.instanceMethod yX12_bundleHas, Cond.selects RX12 yX12_bundleHas yX12_bundleHas, Cond.code yX12_bundleHas cX12_bundleHas 3 (some .int), Cond.methodLink RX12 143 yX12_countHas, Cond.instanceMethod yX12_countHas, Cond.selects RX12 yX12_countHas yX12_countHas, Cond.code yX12_countHas cX12_countHas 3 (some .int), Cond.methodLink RX12 134 yX12_oddsOf, Cond.static yX12_oddsOf, Cond.code yX12_oddsOf cX12_oddsOf 4 (some .int), Cond.methodLink RX12 126 yX12_offBy, Cond.static yX12_offBy, Cond.code yX12_offBy cX12_offBy 2 (some .int), Cond.constantLong RX12 122 (6), Cond.constantLong RX12 124 (8), Cond.methodLink RX12 116 yX12_offByOnes, Cond.static yX12_offByOnes, Cond.code yX12_offByOnes cX12_offByOnes 1 (some .int), Cond.methodLink RX12 119 yX12_offByWeight, Cond.static yX12_offByWeight, Cond.code yX12_offByWeight cX12_offByWeight 1 (some .int)]
def wsX12_truly : List Cond := .code yX12_truly cX12_truly 3 (some .int) :: ((wsX12_truly_r1 ++ wsX12_truly_r2) ++ wsX120)
def wsX12_agreed : List Cond := .code yX12_agreed cX12_agreed 4 (some .int) :: ([.fieldLink RX12 7 "ThriceCountedModel" "now" "[I", .methodLink RX12 81 yX12_isBundle, .instanceMethod yX12_isBundle, .selects RX12 yX12_isBundle yX12_isBundle, .initialized RX12, .code yX12_isBundle cX12_isBundle 2 (some .boolean), .methodLink RX12 49 yX12_in, .static yX12_in, .code yX12_in cX12_in 6 (some .boolean), .methodLink RX12 61 yX12_bad, .instanceMethod yX12_bad, .selects RX12 yX12_bad yX12_bad, .code yX12_bad cX12_bad 2 (some .int), .fieldLink RX12 20 "ThriceCountedModel" "refused" "[I", .methodLink RX12 143 yX12_countHas, .instanceMethod yX12_countHas, .selects RX12 yX12_countHas yX12_countHas, .code yX12_countHas cX12_countHas 3 (some .int)] ++ wsX120)
def wsX12_scoreOf_r1 : List Cond := [Cond.fieldLink RX12 7 "ThriceCountedModel" "now" "[I", Cond.fieldLink RX12 154 "ThriceCountedModel" "trulyIs" "I", Cond.methodLink RX12 143 yX12_countHas, Cond.instanceMethod yX12_countHas, Cond.selects RX12 yX12_countHas yX12_countHas, Cond.initialized RX12, Cond.code yX12_countHas cX12_countHas 3 (some .int), Cond.methodLink RX12 165 yX12_weigh, Cond.instanceMethod yX12_weigh, Cond.selects RX12 yX12_weigh yX12_weigh, Cond.code yX12_weigh cX12_weigh 5 none, Cond.fieldLink RX12 151 "ThriceCountedModel" "allWeights" "J", Cond.fieldLink RX12 158 "ThriceCountedModel" "canBe" "I", Cond.fieldLink RX12 27 "ThriceCountedModel" "weights" "[J", Cond.methodLink RX12 161 yX12_weight, Cond.instanceMethod yX12_weight, Cond.selects RX12 yX12_weight yX12_weight, Cond.code yX12_weight cX12_weight 9 (some .long), Cond.methodLink RX12 88 yX12_bundleHas, Cond.instanceMethod yX12_bundleHas, Cond.selects RX12 yX12_bundleHas yX12_bundleHas, Cond.code yX12_bundleHas cX12_bundleHas 3 (some .int), Cond.methodLink RX12 49 yX12_in, Cond.static yX12_in]
def wsX12_scoreOf_r2 : List Cond := [Cond.code yX12_in cX12_in 6 (some .boolean), Cond.methodLink RX12 134 yX12_oddsOf, Cond.static yX12_oddsOf, Cond.code yX12_oddsOf cX12_oddsOf 4 (some .int), Cond.methodLink RX12 126 yX12_offBy, Cond.static yX12_offBy, Cond.code yX12_offBy cX12_offBy 2 (some .int), Cond.constantLong RX12 122 (6), Cond.constantLong RX12 124 (8), Cond.methodLink RX12 116 yX12_offByOnes, Cond.static yX12_offByOnes, Cond.code yX12_offByOnes cX12_offByOnes 1 (some .int), Cond.methodLink RX12 119 yX12_offByWeight, Cond.static yX12_offByWeight, Cond.code yX12_offByWeight cX12_offByWeight 1 (some .int)]
def wsX12_scoreOf : List Cond := .code yX12_scoreOf cX12_scoreOf 4 (some .int) :: ((wsX12_scoreOf_r1 ++ wsX12_scoreOf_r2) ++ wsX120)
def wsX12_believe_r1 : List Cond := [Cond.fieldLink RX12 7 "ThriceCountedModel" "now" "[I", Cond.methodLink RX12 173 yX12_scoreOf, Cond.instanceMethod yX12_scoreOf, Cond.selects RX12 yX12_scoreOf yX12_scoreOf, Cond.initialized RX12, Cond.code yX12_scoreOf cX12_scoreOf 4 (some .int), Cond.fieldLink RX12 154 "ThriceCountedModel" "trulyIs" "I", Cond.methodLink RX12 143 yX12_countHas, Cond.instanceMethod yX12_countHas, Cond.selects RX12 yX12_countHas yX12_countHas, Cond.code yX12_countHas cX12_countHas 3 (some .int), Cond.methodLink RX12 165 yX12_weigh, Cond.instanceMethod yX12_weigh, Cond.selects RX12 yX12_weigh yX12_weigh, Cond.code yX12_weigh cX12_weigh 5 none, Cond.fieldLink RX12 151 "ThriceCountedModel" "allWeights" "J", Cond.fieldLink RX12 158 "ThriceCountedModel" "canBe" "I", Cond.fieldLink RX12 27 "ThriceCountedModel" "weights" "[J", Cond.methodLink RX12 161 yX12_weight, Cond.instanceMethod yX12_weight, Cond.selects RX12 yX12_weight yX12_weight, Cond.code yX12_weight cX12_weight 9 (some .long), Cond.methodLink RX12 88 yX12_bundleHas, Cond.instanceMethod yX12_bundleHas]
def wsX12_believe_r2 : List Cond := [Cond.selects RX12 yX12_bundleHas yX12_bundleHas, Cond.code yX12_bundleHas cX12_bundleHas 3 (some .int), Cond.methodLink RX12 49 yX12_in, Cond.static yX12_in, Cond.code yX12_in cX12_in 6 (some .boolean), Cond.methodLink RX12 134 yX12_oddsOf, Cond.static yX12_oddsOf, Cond.code yX12_oddsOf cX12_oddsOf 4 (some .int), Cond.methodLink RX12 126 yX12_offBy, Cond.static yX12_offBy, Cond.code yX12_offBy cX12_offBy 2 (some .int), Cond.constantLong RX12 122 (6), Cond.constantLong RX12 124 (8), Cond.methodLink RX12 116 yX12_offByOnes, Cond.static yX12_offByOnes, Cond.code yX12_offByOnes cX12_offByOnes 1 (some .int), Cond.methodLink RX12 119 yX12_offByWeight, Cond.static yX12_offByWeight, Cond.code yX12_offByWeight cX12_offByWeight 1 (some .int)]
def wsX12_believe : List Cond := .code yX12_believe cX12_believe 5 (some .int) :: ((wsX12_believe_r1 ++ wsX12_believe_r2) ++ wsX120)
def wsX12_wrong_r1 : List Cond := [Cond.fieldLink RX12 151 "ThriceCountedModel" "allWeights" "J", Cond.constantLong RX12 73 (90), Cond.constantLong RX12 75 (110), Cond.fieldLink RX12 27 "ThriceCountedModel" "weights" "[J", Cond.methodLink RX12 110 yX12_isCount, Cond.instanceMethod yX12_isCount, Cond.selects RX12 yX12_isCount yX12_isCount, Cond.initialized RX12, Cond.code yX12_isCount cX12_isCount 2 (some .boolean), Cond.fieldLink RX12 7 "ThriceCountedModel" "now" "[I", Cond.methodLink RX12 49 yX12_in, Cond.static yX12_in, Cond.code yX12_in cX12_in 6 (some .boolean), Cond.methodLink RX12 61 yX12_bad, Cond.instanceMethod yX12_bad, Cond.selects RX12 yX12_bad yX12_bad, Cond.code yX12_bad cX12_bad 2 (some .int), Cond.fieldLink RX12 20 "ThriceCountedModel" "refused" "[I", Cond.methodLink RX12 143 yX12_countHas, Cond.instanceMethod yX12_countHas, Cond.selects RX12 yX12_countHas yX12_countHas, Cond.code yX12_countHas cX12_countHas 3 (some .int), Cond.methodLink RX12 165 yX12_weigh, Cond.instanceMethod yX12_weigh]
def wsX12_wrong_r2 : List Cond := [Cond.selects RX12 yX12_weigh yX12_weigh, Cond.code yX12_weigh cX12_weigh 5 none, Cond.fieldLink RX12 154 "ThriceCountedModel" "trulyIs" "I", Cond.fieldLink RX12 158 "ThriceCountedModel" "canBe" "I", Cond.methodLink RX12 161 yX12_weight, Cond.instanceMethod yX12_weight, Cond.selects RX12 yX12_weight yX12_weight, Cond.code yX12_weight cX12_weight 9 (some .long), Cond.methodLink RX12 88 yX12_bundleHas, Cond.instanceMethod yX12_bundleHas, Cond.selects RX12 yX12_bundleHas yX12_bundleHas, Cond.code yX12_bundleHas cX12_bundleHas 3 (some .int), Cond.methodLink RX12 134 yX12_oddsOf, Cond.static yX12_oddsOf, Cond.code yX12_oddsOf cX12_oddsOf 4 (some .int), Cond.methodLink RX12 126 yX12_offBy, Cond.static yX12_offBy, Cond.code yX12_offBy cX12_offBy 2 (some .int), Cond.constantLong RX12 122 (6), Cond.constantLong RX12 124 (8), Cond.methodLink RX12 116 yX12_offByOnes, Cond.static yX12_offByOnes, Cond.code yX12_offByOnes cX12_offByOnes 1 (some .int), Cond.methodLink RX12 119 yX12_offByWeight]
def wsX12_wrong_r3 : List Cond := [Cond.static yX12_offByWeight, Cond.code yX12_offByWeight cX12_offByWeight 1 (some .int), Cond.methodLink RX12 113 yX12_no, Cond.instanceMethod yX12_no, Cond.selects RX12 yX12_no yX12_no, Cond.code yX12_no cX12_no 1 (some .int), Cond.methodLink RX12 169 yX12_fraction, Cond.instanceMethod yX12_fraction, Cond.selects RX12 yX12_fraction yX12_fraction, Cond.code yX12_fraction cX12_fraction 11 none, Cond.fieldLink RX12 148 "ThriceCountedModel" "above" "J", Cond.fieldLink RX12 23 "ThriceCountedModel" "below" "J"]
def wsX12_wrong : List Cond := .code yX12_wrong cX12_wrong 5 (some .int) :: ((wsX12_wrong_r1 ++ (wsX12_wrong_r2 ++ wsX12_wrong_r3)) ++ wsX120)
def wsX12_times : List Cond := .code yX12_times cX12_times 7 (some .long) :: ([])
def wsX12_weighThen_r1 : List Cond := [Cond.fieldLink RX12 176 "ThriceCountedModel" "allThen" "J", Cond.fieldLink RX12 27 "ThriceCountedModel" "weights" "[J", Cond.fieldLink RX12 154 "ThriceCountedModel" "trulyIs" "I", Cond.fieldLink RX12 183 "ThriceCountedModel" "trulyThen" "J", Cond.methodLink RX12 134 yX12_oddsOf, Cond.static yX12_oddsOf, Cond.initialized RX12, Cond.code yX12_oddsOf cX12_oddsOf 4 (some .int), Cond.methodLink RX12 126 yX12_offBy, Cond.static yX12_offBy, Cond.code yX12_offBy cX12_offBy 2 (some .int), Cond.constantLong RX12 122 (6), Cond.constantLong RX12 124 (8), Cond.methodLink RX12 116 yX12_offByOnes, Cond.static yX12_offByOnes, Cond.code yX12_offByOnes cX12_offByOnes 1 (some .int), Cond.methodLink RX12 119 yX12_offByWeight, Cond.static yX12_offByWeight, Cond.code yX12_offByWeight cX12_offByWeight 1 (some .int), Cond.methodLink RX12 49 yX12_in, Cond.static yX12_in, Cond.code yX12_in cX12_in 6 (some .boolean), Cond.methodLink RX12 179 yX12_times, Cond.static yX12_times]
def wsX12_weighThen_r2 : List Cond := [Cond.code yX12_times cX12_times 7 (some .long)]
def wsX12_weighThen : List Cond := .code yX12_weighThen cX12_weighThen 7 none :: ((wsX12_weighThen_r1 ++ wsX12_weighThen_r2) ++ wsX120)
def wsX12_isSure : List Cond := .code yX12_isSure cX12_isSure 11 (some .boolean) :: ([.fieldLink RX12 27 "ThriceCountedModel" "weights" "[J", .fieldLink RX12 154 "ThriceCountedModel" "trulyIs" "I", .constantLong RX12 59 (10), .methodLink RX12 134 yX12_oddsOf, .static yX12_oddsOf, .initialized RX12, .code yX12_oddsOf cX12_oddsOf 4 (some .int), .methodLink RX12 126 yX12_offBy, .static yX12_offBy, .code yX12_offBy cX12_offBy 2 (some .int), .constantLong RX12 122 (6), .constantLong RX12 124 (8), .methodLink RX12 116 yX12_offByOnes, .static yX12_offByOnes, .code yX12_offByOnes cX12_offByOnes 1 (some .int), .methodLink RX12 119 yX12_offByWeight, .static yX12_offByWeight, .code yX12_offByWeight cX12_offByWeight 1 (some .int), .methodLink RX12 49 yX12_in, .static yX12_in, .code yX12_in cX12_in 6 (some .boolean), .methodLink RX12 179 yX12_times, .static yX12_times, .code yX12_times cX12_times 7 (some .long)] ++ wsX120)
def wsX12_enough_r1 : List Cond := [Cond.constantLong RX12 186 (9), Cond.fieldLink RX12 154 "ThriceCountedModel" "trulyIs" "I", Cond.methodLink RX12 81 yX12_isBundle, Cond.instanceMethod yX12_isBundle, Cond.selects RX12 yX12_isBundle yX12_isBundle, Cond.initialized RX12, Cond.code yX12_isBundle cX12_isBundle 2 (some .boolean), Cond.fieldLink RX12 7 "ThriceCountedModel" "now" "[I", Cond.methodLink RX12 49 yX12_in, Cond.static yX12_in, Cond.code yX12_in cX12_in 6 (some .boolean), Cond.methodLink RX12 96 yX12_isWay, Cond.static yX12_isWay, Cond.code yX12_isWay cX12_isWay 1 (some .boolean), Cond.constantLong RX12 53 (5), Cond.methodLink RX12 61 yX12_bad, Cond.instanceMethod yX12_bad, Cond.selects RX12 yX12_bad yX12_bad, Cond.code yX12_bad cX12_bad 2 (some .int), Cond.fieldLink RX12 20 "ThriceCountedModel" "refused" "[I", Cond.methodLink RX12 165 yX12_weigh, Cond.instanceMethod yX12_weigh, Cond.selects RX12 yX12_weigh yX12_weigh, Cond.code yX12_weigh cX12_weigh 5 none]
def wsX12_enough_r2 : List Cond := [Cond.fieldLink RX12 151 "ThriceCountedModel" "allWeights" "J", Cond.fieldLink RX12 158 "ThriceCountedModel" "canBe" "I", Cond.fieldLink RX12 27 "ThriceCountedModel" "weights" "[J", Cond.methodLink RX12 161 yX12_weight, Cond.instanceMethod yX12_weight, Cond.selects RX12 yX12_weight yX12_weight, Cond.code yX12_weight cX12_weight 9 (some .long), Cond.methodLink RX12 88 yX12_bundleHas, Cond.instanceMethod yX12_bundleHas, Cond.selects RX12 yX12_bundleHas yX12_bundleHas, Cond.code yX12_bundleHas cX12_bundleHas 3 (some .int), Cond.methodLink RX12 143 yX12_countHas, Cond.instanceMethod yX12_countHas, Cond.selects RX12 yX12_countHas yX12_countHas, Cond.code yX12_countHas cX12_countHas 3 (some .int), Cond.methodLink RX12 134 yX12_oddsOf, Cond.static yX12_oddsOf, Cond.code yX12_oddsOf cX12_oddsOf 4 (some .int), Cond.methodLink RX12 126 yX12_offBy, Cond.static yX12_offBy, Cond.code yX12_offBy cX12_offBy 2 (some .int), Cond.constantLong RX12 122 (6), Cond.constantLong RX12 124 (8), Cond.methodLink RX12 116 yX12_offByOnes]
def wsX12_enough_r3 : List Cond := [Cond.static yX12_offByOnes, Cond.code yX12_offByOnes cX12_offByOnes 1 (some .int), Cond.methodLink RX12 119 yX12_offByWeight, Cond.static yX12_offByWeight, Cond.code yX12_offByWeight cX12_offByWeight 1 (some .int), Cond.methodLink RX12 188 yX12_isSure, Cond.instanceMethod yX12_isSure, Cond.selects RX12 yX12_isSure yX12_isSure, Cond.code yX12_isSure cX12_isSure 11 (some .boolean), Cond.constantLong RX12 59 (10), Cond.methodLink RX12 179 yX12_times, Cond.static yX12_times, Cond.code yX12_times cX12_times 7 (some .long)]
def wsX12_enough : List Cond := .code yX12_enough cX12_enough 5 (some .int) :: ((wsX12_enough_r1 ++ (wsX12_enough_r2 ++ wsX12_enough_r3)) ++ wsX120)
def wsX12_isMore : List Cond := .code yX12_isMore cX12_isMore 25 (some .boolean) :: ([])
def wsX12_plan_r1 : List Cond := [Cond.constantLong RX12 192 (30), Cond.fieldLink RX12 154 "ThriceCountedModel" "trulyIs" "I", Cond.fieldLink RX12 183 "ThriceCountedModel" "trulyThen" "J", Cond.fieldLink RX12 176 "ThriceCountedModel" "allThen" "J", Cond.methodLink RX12 81 yX12_isBundle, Cond.instanceMethod yX12_isBundle, Cond.selects RX12 yX12_isBundle yX12_isBundle, Cond.initialized RX12, Cond.code yX12_isBundle cX12_isBundle 2 (some .boolean), Cond.fieldLink RX12 7 "ThriceCountedModel" "now" "[I", Cond.methodLink RX12 49 yX12_in, Cond.static yX12_in, Cond.code yX12_in cX12_in 6 (some .boolean), Cond.methodLink RX12 61 yX12_bad, Cond.instanceMethod yX12_bad, Cond.selects RX12 yX12_bad yX12_bad, Cond.code yX12_bad cX12_bad 2 (some .int), Cond.fieldLink RX12 20 "ThriceCountedModel" "refused" "[I", Cond.methodLink RX12 165 yX12_weigh, Cond.instanceMethod yX12_weigh, Cond.selects RX12 yX12_weigh yX12_weigh, Cond.code yX12_weigh cX12_weigh 5 none, Cond.fieldLink RX12 151 "ThriceCountedModel" "allWeights" "J", Cond.fieldLink RX12 158 "ThriceCountedModel" "canBe" "I"]
def wsX12_plan_r2 : List Cond := [Cond.fieldLink RX12 27 "ThriceCountedModel" "weights" "[J", Cond.methodLink RX12 161 yX12_weight, Cond.instanceMethod yX12_weight, Cond.selects RX12 yX12_weight yX12_weight, Cond.code yX12_weight cX12_weight 9 (some .long), Cond.methodLink RX12 88 yX12_bundleHas, Cond.instanceMethod yX12_bundleHas, Cond.selects RX12 yX12_bundleHas yX12_bundleHas, Cond.code yX12_bundleHas cX12_bundleHas 3 (some .int), Cond.methodLink RX12 143 yX12_countHas, Cond.instanceMethod yX12_countHas, Cond.selects RX12 yX12_countHas yX12_countHas, Cond.code yX12_countHas cX12_countHas 3 (some .int), Cond.methodLink RX12 134 yX12_oddsOf, Cond.static yX12_oddsOf, Cond.code yX12_oddsOf cX12_oddsOf 4 (some .int), Cond.methodLink RX12 126 yX12_offBy, Cond.static yX12_offBy, Cond.code yX12_offBy cX12_offBy 2 (some .int), Cond.constantLong RX12 122 (6), Cond.constantLong RX12 124 (8), Cond.methodLink RX12 116 yX12_offByOnes, Cond.static yX12_offByOnes, Cond.code yX12_offByOnes cX12_offByOnes 1 (some .int)]
def wsX12_plan_r3 : List Cond := [Cond.methodLink RX12 119 yX12_offByWeight, Cond.static yX12_offByWeight, Cond.code yX12_offByWeight cX12_offByWeight 1 (some .int), Cond.methodLink RX12 113 yX12_no, Cond.instanceMethod yX12_no, Cond.selects RX12 yX12_no yX12_no, Cond.code yX12_no cX12_no 1 (some .int), Cond.methodLink RX12 194 yX12_weighThen, Cond.instanceMethod yX12_weighThen, Cond.selects RX12 yX12_weighThen yX12_weighThen, Cond.code yX12_weighThen cX12_weighThen 7 none, Cond.methodLink RX12 179 yX12_times, Cond.static yX12_times, Cond.code yX12_times cX12_times 7 (some .long), Cond.methodLink RX12 198 yX12_isMore, Cond.static yX12_isMore, Cond.code yX12_isMore cX12_isMore 25 (some .boolean), Cond.methodLink RX12 169 yX12_fraction, Cond.instanceMethod yX12_fraction, Cond.selects RX12 yX12_fraction yX12_fraction, Cond.code yX12_fraction cX12_fraction 11 none, Cond.fieldLink RX12 148 "ThriceCountedModel" "above" "J", Cond.fieldLink RX12 23 "ThriceCountedModel" "below" "J"]
def wsX12_plan : List Cond := .code yX12_plan cX12_plan 12 (some .int) :: ((wsX12_plan_r1 ++ (wsX12_plan_r2 ++ wsX12_plan_r3)) ++ wsX120)
def wsX12_open_r1 : List Cond := [Cond.fieldLink RX12 7 "ThriceCountedModel" "now" "[I", Cond.fieldLink RX12 154 "ThriceCountedModel" "trulyIs" "I", Cond.methodLink RX12 165 yX12_weigh, Cond.instanceMethod yX12_weigh, Cond.selects RX12 yX12_weigh yX12_weigh, Cond.initialized RX12, Cond.code yX12_weigh cX12_weigh 5 none, Cond.fieldLink RX12 151 "ThriceCountedModel" "allWeights" "J", Cond.fieldLink RX12 158 "ThriceCountedModel" "canBe" "I", Cond.fieldLink RX12 27 "ThriceCountedModel" "weights" "[J", Cond.methodLink RX12 161 yX12_weight, Cond.instanceMethod yX12_weight, Cond.selects RX12 yX12_weight yX12_weight, Cond.code yX12_weight cX12_weight 9 (some .long), Cond.methodLink RX12 88 yX12_bundleHas, Cond.instanceMethod yX12_bundleHas, Cond.selects RX12 yX12_bundleHas yX12_bundleHas, Cond.code yX12_bundleHas cX12_bundleHas 3 (some .int), Cond.methodLink RX12 49 yX12_in, Cond.static yX12_in, Cond.code yX12_in cX12_in 6 (some .boolean), Cond.methodLink RX12 143 yX12_countHas, Cond.instanceMethod yX12_countHas, Cond.selects RX12 yX12_countHas yX12_countHas]
def wsX12_open_r2 : List Cond := [Cond.code yX12_countHas cX12_countHas 3 (some .int), Cond.methodLink RX12 134 yX12_oddsOf, Cond.static yX12_oddsOf, Cond.code yX12_oddsOf cX12_oddsOf 4 (some .int), Cond.methodLink RX12 126 yX12_offBy, Cond.static yX12_offBy, Cond.code yX12_offBy cX12_offBy 2 (some .int), Cond.constantLong RX12 122 (6), Cond.constantLong RX12 124 (8), Cond.methodLink RX12 116 yX12_offByOnes, Cond.static yX12_offByOnes, Cond.code yX12_offByOnes cX12_offByOnes 1 (some .int), Cond.methodLink RX12 119 yX12_offByWeight, Cond.static yX12_offByWeight, Cond.code yX12_offByWeight cX12_offByWeight 1 (some .int)]
def wsX12_open : List Cond := .code yX12_open cX12_open 4 (some .int) :: ((wsX12_open_r1 ++ wsX12_open_r2) ++ wsX120)
def wsX12_sum_r1 : List Cond := [Cond.fieldLink RX12 7 "ThriceCountedModel" "now" "[I", Cond.fieldLink RX12 154 "ThriceCountedModel" "trulyIs" "I", Cond.methodLink RX12 165 yX12_weigh, Cond.instanceMethod yX12_weigh, Cond.selects RX12 yX12_weigh yX12_weigh, Cond.initialized RX12, Cond.code yX12_weigh cX12_weigh 5 none, Cond.fieldLink RX12 151 "ThriceCountedModel" "allWeights" "J", Cond.fieldLink RX12 158 "ThriceCountedModel" "canBe" "I", Cond.fieldLink RX12 27 "ThriceCountedModel" "weights" "[J", Cond.methodLink RX12 161 yX12_weight, Cond.instanceMethod yX12_weight, Cond.selects RX12 yX12_weight yX12_weight, Cond.code yX12_weight cX12_weight 9 (some .long), Cond.methodLink RX12 88 yX12_bundleHas, Cond.instanceMethod yX12_bundleHas, Cond.selects RX12 yX12_bundleHas yX12_bundleHas, Cond.code yX12_bundleHas cX12_bundleHas 3 (some .int), Cond.methodLink RX12 49 yX12_in, Cond.static yX12_in, Cond.code yX12_in cX12_in 6 (some .boolean), Cond.methodLink RX12 143 yX12_countHas, Cond.instanceMethod yX12_countHas, Cond.selects RX12 yX12_countHas yX12_countHas]
def wsX12_sum_r2 : List Cond := [Cond.code yX12_countHas cX12_countHas 3 (some .int), Cond.methodLink RX12 134 yX12_oddsOf, Cond.static yX12_oddsOf, Cond.code yX12_oddsOf cX12_oddsOf 4 (some .int), Cond.methodLink RX12 126 yX12_offBy, Cond.static yX12_offBy, Cond.code yX12_offBy cX12_offBy 2 (some .int), Cond.constantLong RX12 122 (6), Cond.constantLong RX12 124 (8), Cond.methodLink RX12 116 yX12_offByOnes, Cond.static yX12_offByOnes, Cond.code yX12_offByOnes cX12_offByOnes 1 (some .int), Cond.methodLink RX12 119 yX12_offByWeight, Cond.static yX12_offByWeight, Cond.code yX12_offByWeight cX12_offByWeight 1 (some .int)]
def wsX12_sum : List Cond := .code yX12_sum cX12_sum 3 (some .int) :: ((wsX12_sum_r1 ++ wsX12_sum_r2) ++ wsX120)
def wsX12_cause : List Cond := .code yX12_cause cX12_cause 6 (some .int) :: ([.constantLong RX12 202 (-99), .constantLong RX12 204 (99), .constantLong RX12 206 (20), .constantLong RX12 192 (30), .constantLong RX12 59 (10), .fieldLink RX12 7 "ThriceCountedModel" "now" "[I", .methodLink RX12 49 yX12_in, .static yX12_in, .initialized RX12, .code yX12_in cX12_in 6 (some .boolean), .methodLink RX12 61 yX12_bad, .instanceMethod yX12_bad, .selects RX12 yX12_bad yX12_bad, .code yX12_bad cX12_bad 2 (some .int), .fieldLink RX12 20 "ThriceCountedModel" "refused" "[I", .methodLink RX12 65 yX12_full, .instanceMethod yX12_full, .selects RX12 yX12_full yX12_full, .code yX12_full cX12_full 1 (some .int)] ++ wsX120)
def wsX12_forget : List Cond := .code yX12_forget cX12_forget 2 (some .int) :: ([.fieldLink RX12 7 "ThriceCountedModel" "now" "[I"] ++ wsX120)
def wsX12_isOff : List Cond := .code yX12_isOff cX12_isOff 1 (some .boolean) :: ([.constantLong RX12 208 (-198), .constantLong RX12 210 (198), .methodLink RX12 49 yX12_in, .static yX12_in, .initialized RX12, .code yX12_in cX12_in 6 (some .boolean)])
def wsX12_why : List Cond := .code yX12_why cX12_why 10 (some .int) :: ([.fieldLink RX12 7 "ThriceCountedModel" "now" "[I", .methodLink RX12 212 yX12_isOff, .static yX12_isOff, .initialized RX12, .code yX12_isOff cX12_isOff 1 (some .boolean), .constantLong RX12 208 (-198), .constantLong RX12 210 (198), .methodLink RX12 49 yX12_in, .static yX12_in, .code yX12_in cX12_in 6 (some .boolean), .methodLink RX12 61 yX12_bad, .instanceMethod yX12_bad, .selects RX12 yX12_bad yX12_bad, .code yX12_bad cX12_bad 2 (some .int), .fieldLink RX12 20 "ThriceCountedModel" "refused" "[I", .methodLink RX12 215 yX12_causeHas, .instanceMethod yX12_causeHas, .selects RX12 yX12_causeHas yX12_causeHas, .code yX12_causeHas cX12_causeHas 3 (some .int)] ++ wsX120)
def wsX12_laySought : List Cond := .code yX12_laySought cX12_laySought 3 none :: ([.fieldLink RX12 218 "ThriceCountedModel" "soughtMany" "I", .fieldLink RX12 7 "ThriceCountedModel" "now" "[I", .fieldLink RX12 31 "ThriceCountedModel" "sought" "[I", .fieldLink RX12 34 "ThriceCountedModel" "order" "[I", .methodLink RX12 215 yX12_causeHas, .instanceMethod yX12_causeHas, .selects RX12 yX12_causeHas yX12_causeHas, .initialized RX12, .code yX12_causeHas cX12_causeHas 3 (some .int)] ++ wsX120)
def wsX12_allOdds : List Cond := .code yX12_allOdds cX12_allOdds 3 (some .int) :: ([.fieldLink RX12 218 "ThriceCountedModel" "soughtMany" "I", .fieldLink RX12 31 "ThriceCountedModel" "sought" "[I", .methodLink RX12 215 yX12_causeHas, .instanceMethod yX12_causeHas, .selects RX12 yX12_causeHas yX12_causeHas, .initialized RX12, .code yX12_causeHas cX12_causeHas 3 (some .int), .fieldLink RX12 7 "ThriceCountedModel" "now" "[I"] ++ wsX120)
def wsX12_meanOf : List Cond := .code yX12_meanOf cX12_meanOf 7 (some .long) :: ([.fieldLink RX12 218 "ThriceCountedModel" "soughtMany" "I", .fieldLink RX12 34 "ThriceCountedModel" "order" "[I", .methodLink RX12 215 yX12_causeHas, .instanceMethod yX12_causeHas, .selects RX12 yX12_causeHas yX12_causeHas, .initialized RX12, .code yX12_causeHas cX12_causeHas 3 (some .int), .fieldLink RX12 7 "ThriceCountedModel" "now" "[I"] ++ wsX120)
def wsX12_nextOrder : List Cond := .code yX12_nextOrder cX12_nextOrder 7 (some .boolean) :: ([.fieldLink RX12 218 "ThriceCountedModel" "soughtMany" "I", .fieldLink RX12 34 "ThriceCountedModel" "order" "[I"] ++ wsX120)
def wsX12_look_r1 : List Cond := [Cond.fieldLink RX12 218 "ThriceCountedModel" "soughtMany" "I", Cond.constantLong RX12 224 (-1), Cond.fieldLink RX12 37 "ThriceCountedModel" "bestOrder" "[I", Cond.fieldLink RX12 34 "ThriceCountedModel" "order" "[I", Cond.constantLong RX12 59 (10), Cond.methodLink RX12 212 yX12_isOff, Cond.static yX12_isOff, Cond.initialized RX12, Cond.code yX12_isOff cX12_isOff 1 (some .boolean), Cond.constantLong RX12 208 (-198), Cond.constantLong RX12 210 (198), Cond.methodLink RX12 49 yX12_in, Cond.static yX12_in, Cond.code yX12_in cX12_in 6 (some .boolean), Cond.methodLink RX12 61 yX12_bad, Cond.instanceMethod yX12_bad, Cond.selects RX12 yX12_bad yX12_bad, Cond.code yX12_bad cX12_bad 2 (some .int), Cond.fieldLink RX12 20 "ThriceCountedModel" "refused" "[I", Cond.methodLink RX12 221 yX12_laySought, Cond.instanceMethod yX12_laySought, Cond.selects RX12 yX12_laySought yX12_laySought, Cond.code yX12_laySought cX12_laySought 3 none, Cond.fieldLink RX12 7 "ThriceCountedModel" "now" "[I"]
def wsX12_look_r2 : List Cond := [Cond.fieldLink RX12 31 "ThriceCountedModel" "sought" "[I", Cond.methodLink RX12 215 yX12_causeHas, Cond.instanceMethod yX12_causeHas, Cond.selects RX12 yX12_causeHas yX12_causeHas, Cond.code yX12_causeHas cX12_causeHas 3 (some .int), Cond.methodLink RX12 226 yX12_meanOf, Cond.instanceMethod yX12_meanOf, Cond.selects RX12 yX12_meanOf yX12_meanOf, Cond.code yX12_meanOf cX12_meanOf 7 (some .long), Cond.methodLink RX12 230 yX12_nextOrder, Cond.instanceMethod yX12_nextOrder, Cond.selects RX12 yX12_nextOrder yX12_nextOrder, Cond.code yX12_nextOrder cX12_nextOrder 7 (some .boolean), Cond.methodLink RX12 234 yX12_allOdds, Cond.instanceMethod yX12_allOdds, Cond.selects RX12 yX12_allOdds yX12_allOdds, Cond.code yX12_allOdds cX12_allOdds 3 (some .int), Cond.methodLink RX12 169 yX12_fraction, Cond.instanceMethod yX12_fraction, Cond.selects RX12 yX12_fraction yX12_fraction, Cond.code yX12_fraction cX12_fraction 11 none, Cond.fieldLink RX12 148 "ThriceCountedModel" "above" "J", Cond.fieldLink RX12 23 "ThriceCountedModel" "below" "J"]
def wsX12_look : List Cond := .code yX12_look cX12_look 9 (some .int) :: ((wsX12_look_r1 ++ wsX12_look_r2) ++ wsX120)
def wsX12_writeOff : List Cond := .code yX12_writeOff cX12_writeOff 6 (some .int) :: ([.constantLong RX12 204 (99), .fieldLink RX12 7 "ThriceCountedModel" "now" "[I", .methodLink RX12 212 yX12_isOff, .static yX12_isOff, .initialized RX12, .code yX12_isOff cX12_isOff 1 (some .boolean), .constantLong RX12 208 (-198), .constantLong RX12 210 (198), .methodLink RX12 49 yX12_in, .static yX12_in, .code yX12_in cX12_in 6 (some .boolean), .methodLink RX12 61 yX12_bad, .instanceMethod yX12_bad, .selects RX12 yX12_bad yX12_bad, .code yX12_bad cX12_bad 2 (some .int), .fieldLink RX12 20 "ThriceCountedModel" "refused" "[I", .methodLink RX12 215 yX12_causeHas, .instanceMethod yX12_causeHas, .selects RX12 yX12_causeHas yX12_causeHas, .code yX12_causeHas cX12_causeHas 3 (some .int)] ++ wsX120)
def wsX12_drawn_r1 : List Cond := [Cond.constantLong RX12 99 (80), Cond.constantLong RX12 101 (120), Cond.constantLong RX12 237 (60), Cond.constantLong RX12 239 (999999), Cond.constantLong RX12 241 (2), Cond.constantLong RX12 243 (1103515245), Cond.constantLong RX12 245 (12345), Cond.constantLong RX12 247 (2147483648), Cond.constantLong RX12 249 (65536), Cond.constantLong RX12 206 (20), Cond.methodLink RX12 96 yX12_isWay, Cond.static yX12_isWay, Cond.initialized RX12, Cond.code yX12_isWay cX12_isWay 1 (some .boolean), Cond.constantLong RX12 53 (5), Cond.methodLink RX12 49 yX12_in, Cond.static yX12_in, Cond.code yX12_in cX12_in 6 (some .boolean), Cond.methodLink RX12 61 yX12_bad, Cond.instanceMethod yX12_bad, Cond.selects RX12 yX12_bad yX12_bad, Cond.code yX12_bad cX12_bad 2 (some .int), Cond.fieldLink RX12 20 "ThriceCountedModel" "refused" "[I", Cond.methodLink RX12 126 yX12_offBy]
def wsX12_drawn_r2 : List Cond := [Cond.static yX12_offBy, Cond.code yX12_offBy cX12_offBy 2 (some .int), Cond.constantLong RX12 122 (6), Cond.constantLong RX12 124 (8), Cond.methodLink RX12 116 yX12_offByOnes, Cond.static yX12_offByOnes, Cond.code yX12_offByOnes cX12_offByOnes 1 (some .int), Cond.methodLink RX12 119 yX12_offByWeight, Cond.static yX12_offByWeight, Cond.code yX12_offByWeight cX12_offByWeight 1 (some .int)]
def wsX12_drawn : List Cond := .code yX12_drawn cX12_drawn 13 (some .int) :: ((wsX12_drawn_r1 ++ wsX12_drawn_r2) ++ wsX120)
def wsX12_type : List Cond := .code yX12_type cX12_type 2 (some .int) :: ([.constantLong RX12 251 (127), .fieldLink RX12 253 "ThriceCountedModel" "bytesLong" "I", .fieldLink RX12 40 "ThriceCountedModel" "bytes" "[I", .methodLink RX12 49 yX12_in, .static yX12_in, .initialized RX12, .code yX12_in cX12_in 6 (some .boolean), .methodLink RX12 61 yX12_bad, .instanceMethod yX12_bad, .selects RX12 yX12_bad yX12_bad, .code yX12_bad cX12_bad 2 (some .int), .fieldLink RX12 20 "ThriceCountedModel" "refused" "[I", .methodLink RX12 65 yX12_full, .instanceMethod yX12_full, .selects RX12 yX12_full yX12_full, .code yX12_full cX12_full 1 (some .int)] ++ wsX120)
def wsX12_clear : List Cond := .code yX12_clear cX12_clear 2 (some .int) :: ([.fieldLink RX12 253 "ThriceCountedModel" "bytesLong" "I"] ++ wsX120)
def wsX12_isSmall : List Cond := .code yX12_isSmall cX12_isSmall 1 (some .boolean) :: ([.constantLong RX12 256 (97), .constantLong RX12 258 (122), .methodLink RX12 49 yX12_in, .static yX12_in, .initialized RX12, .code yX12_in cX12_in 6 (some .boolean)])
def wsX12_isFigure : List Cond := .code yX12_isFigure cX12_isFigure 1 (some .boolean) :: ([.constantLong RX12 260 (48), .constantLong RX12 262 (57), .methodLink RX12 49 yX12_in, .static yX12_in, .initialized RX12, .code yX12_in cX12_in 6 (some .boolean)])
def wsX12_lookAt : List Cond := .code yX12_lookAt cX12_lookAt 5 none :: ([.fieldLink RX12 264 "ThriceCountedModel" "tokenAt" "I", .fieldLink RX12 253 "ThriceCountedModel" "bytesLong" "I", .fieldLink RX12 40 "ThriceCountedModel" "bytes" "[I", .fieldLink RX12 267 "ThriceCountedModel" "tokenLong" "I", .fieldLink RX12 270 "ThriceCountedModel" "token" "I", .fieldLink RX12 273 "ThriceCountedModel" "value" "I", .methodLink RX12 276 yX12_isSmall, .static yX12_isSmall, .initialized RX12, .code yX12_isSmall cX12_isSmall 1 (some .boolean), .constantLong RX12 256 (97), .constantLong RX12 258 (122), .methodLink RX12 49 yX12_in, .static yX12_in, .code yX12_in cX12_in 6 (some .boolean), .methodLink RX12 279 yX12_isFigure, .static yX12_isFigure, .code yX12_isFigure cX12_isFigure 1 (some .boolean), .constantLong RX12 260 (48), .constantLong RX12 262 (57)] ++ wsX120)
def wsX12_goOn : List Cond := .code yX12_goOn cX12_goOn 1 none :: ([.fieldLink RX12 264 "ThriceCountedModel" "tokenAt" "I", .fieldLink RX12 267 "ThriceCountedModel" "tokenLong" "I", .methodLink RX12 282 yX12_lookAt, .instanceMethod yX12_lookAt, .selects RX12 yX12_lookAt yX12_lookAt, .initialized RX12, .code yX12_lookAt cX12_lookAt 5 none, .fieldLink RX12 253 "ThriceCountedModel" "bytesLong" "I", .fieldLink RX12 40 "ThriceCountedModel" "bytes" "[I", .fieldLink RX12 270 "ThriceCountedModel" "token" "I", .fieldLink RX12 273 "ThriceCountedModel" "value" "I", .methodLink RX12 276 yX12_isSmall, .static yX12_isSmall, .code yX12_isSmall cX12_isSmall 1 (some .boolean), .constantLong RX12 256 (97), .constantLong RX12 258 (122), .methodLink RX12 49 yX12_in, .static yX12_in, .code yX12_in cX12_in 6 (some .boolean), .methodLink RX12 279 yX12_isFigure, .static yX12_isFigure, .code yX12_isFigure cX12_isFigure 1 (some .boolean), .constantLong RX12 260 (48), .constantLong RX12 262 (57)] ++ wsX120)
def wsX12_isCalled : List Cond := .code yX12_isCalled cX12_isCalled 10 (some .boolean) :: ([.fieldLink RX12 270 "ThriceCountedModel" "token" "I", .fieldLink RX12 267 "ThriceCountedModel" "tokenLong" "I", .fieldLink RX12 40 "ThriceCountedModel" "bytes" "[I", .fieldLink RX12 264 "ThriceCountedModel" "tokenAt" "I"] ++ wsX120)
def wsX12_takes_r1 : List Cond := [Cond.fieldLink RX12 270 "ThriceCountedModel" "token" "I", Cond.fieldLink RX12 273 "ThriceCountedModel" "value" "I", Cond.fieldLink RX12 46 "ThriceCountedModel" "values" "[I", Cond.methodLink RX12 49 yX12_in, Cond.static yX12_in, Cond.initialized RX12, Cond.code yX12_in cX12_in 6 (some .boolean), Cond.methodLink RX12 285 yX12_goOn, Cond.instanceMethod yX12_goOn, Cond.selects RX12 yX12_goOn yX12_goOn, Cond.code yX12_goOn cX12_goOn 1 none, Cond.fieldLink RX12 264 "ThriceCountedModel" "tokenAt" "I", Cond.fieldLink RX12 267 "ThriceCountedModel" "tokenLong" "I", Cond.methodLink RX12 282 yX12_lookAt, Cond.instanceMethod yX12_lookAt, Cond.selects RX12 yX12_lookAt yX12_lookAt, Cond.code yX12_lookAt cX12_lookAt 5 none, Cond.fieldLink RX12 253 "ThriceCountedModel" "bytesLong" "I", Cond.fieldLink RX12 40 "ThriceCountedModel" "bytes" "[I", Cond.methodLink RX12 276 yX12_isSmall, Cond.static yX12_isSmall, Cond.code yX12_isSmall cX12_isSmall 1 (some .boolean), Cond.constantLong RX12 256 (97), Cond.constantLong RX12 258 (122)]
def wsX12_takes_r2 : List Cond := [Cond.methodLink RX12 279 yX12_isFigure, Cond.static yX12_isFigure, Cond.code yX12_isFigure cX12_isFigure 1 (some .boolean), Cond.constantLong RX12 260 (48), Cond.constantLong RX12 262 (57)]
def wsX12_takes : List Cond := .code yX12_takes cX12_takes 4 (some .boolean) :: ((wsX12_takes_r1 ++ wsX12_takes_r2) ++ wsX120)
def wsX12_readsFirst_r1 : List Cond := [Cond.fieldLink RX12 43 "ThriceCountedModel" "next" "[I", Cond.fieldLink RX12 270 "ThriceCountedModel" "token" "I", Cond.methodLink RX12 288 yX12_isCalled, Cond.instanceMethod yX12_isCalled, Cond.selects RX12 yX12_isCalled yX12_isCalled, Cond.initialized RX12, Cond.code yX12_isCalled cX12_isCalled 10 (some .boolean), Cond.fieldLink RX12 267 "ThriceCountedModel" "tokenLong" "I", Cond.fieldLink RX12 40 "ThriceCountedModel" "bytes" "[I", Cond.fieldLink RX12 264 "ThriceCountedModel" "tokenAt" "I", Cond.methodLink RX12 285 yX12_goOn, Cond.instanceMethod yX12_goOn, Cond.selects RX12 yX12_goOn yX12_goOn, Cond.code yX12_goOn cX12_goOn 1 none, Cond.methodLink RX12 282 yX12_lookAt, Cond.instanceMethod yX12_lookAt, Cond.selects RX12 yX12_lookAt yX12_lookAt, Cond.code yX12_lookAt cX12_lookAt 5 none, Cond.fieldLink RX12 253 "ThriceCountedModel" "bytesLong" "I", Cond.fieldLink RX12 273 "ThriceCountedModel" "value" "I", Cond.methodLink RX12 276 yX12_isSmall, Cond.static yX12_isSmall, Cond.code yX12_isSmall cX12_isSmall 1 (some .boolean), Cond.constantLong RX12 256 (97)]
def wsX12_readsFirst_r2 : List Cond := [Cond.constantLong RX12 258 (122), Cond.methodLink RX12 49 yX12_in, Cond.static yX12_in, Cond.code yX12_in cX12_in 6 (some .boolean), Cond.methodLink RX12 279 yX12_isFigure, Cond.static yX12_isFigure, Cond.code yX12_isFigure cX12_isFigure 1 (some .boolean), Cond.constantLong RX12 260 (48), Cond.constantLong RX12 262 (57), Cond.methodLink RX12 55 yX12_begin, Cond.static yX12_begin, Cond.code yX12_begin cX12_begin 2 none]
def wsX12_readsFirst : List Cond := .code yX12_readsFirst cX12_readsFirst 1 (some .boolean) :: ((wsX12_readsFirst_r1 ++ wsX12_readsFirst_r2) ++ wsX120)
def wsX12_readsClerk_r1 : List Cond := [Cond.fieldLink RX12 43 "ThriceCountedModel" "next" "[I", Cond.fieldLink RX12 46 "ThriceCountedModel" "values" "[I", Cond.methodLink RX12 285 yX12_goOn, Cond.instanceMethod yX12_goOn, Cond.selects RX12 yX12_goOn yX12_goOn, Cond.initialized RX12, Cond.code yX12_goOn cX12_goOn 1 none, Cond.fieldLink RX12 264 "ThriceCountedModel" "tokenAt" "I", Cond.fieldLink RX12 267 "ThriceCountedModel" "tokenLong" "I", Cond.methodLink RX12 282 yX12_lookAt, Cond.instanceMethod yX12_lookAt, Cond.selects RX12 yX12_lookAt yX12_lookAt, Cond.code yX12_lookAt cX12_lookAt 5 none, Cond.fieldLink RX12 253 "ThriceCountedModel" "bytesLong" "I", Cond.fieldLink RX12 40 "ThriceCountedModel" "bytes" "[I", Cond.fieldLink RX12 270 "ThriceCountedModel" "token" "I", Cond.fieldLink RX12 273 "ThriceCountedModel" "value" "I", Cond.methodLink RX12 276 yX12_isSmall, Cond.static yX12_isSmall, Cond.code yX12_isSmall cX12_isSmall 1 (some .boolean), Cond.constantLong RX12 256 (97), Cond.constantLong RX12 258 (122), Cond.methodLink RX12 49 yX12_in, Cond.static yX12_in]
def wsX12_readsClerk_r2 : List Cond := [Cond.code yX12_in cX12_in 6 (some .boolean), Cond.methodLink RX12 279 yX12_isFigure, Cond.static yX12_isFigure, Cond.code yX12_isFigure cX12_isFigure 1 (some .boolean), Cond.constantLong RX12 260 (48), Cond.constantLong RX12 262 (57), Cond.methodLink RX12 292 yX12_takes, Cond.instanceMethod yX12_takes, Cond.selects RX12 yX12_takes yX12_takes, Cond.code yX12_takes cX12_takes 4 (some .boolean), Cond.methodLink RX12 69 yX12_layClerk, Cond.static yX12_layClerk, Cond.code yX12_layClerk cX12_layClerk 2 none]
def wsX12_readsClerk : List Cond := .code yX12_readsClerk cX12_readsClerk 1 (some .boolean) :: ((wsX12_readsClerk_r1 ++ wsX12_readsClerk_r2) ++ wsX120)
def wsX12_readsBundle_r1 : List Cond := [Cond.fieldLink RX12 43 "ThriceCountedModel" "next" "[I", Cond.fieldLink RX12 46 "ThriceCountedModel" "values" "[I", Cond.methodLink RX12 285 yX12_goOn, Cond.instanceMethod yX12_goOn, Cond.selects RX12 yX12_goOn yX12_goOn, Cond.initialized RX12, Cond.code yX12_goOn cX12_goOn 1 none, Cond.fieldLink RX12 264 "ThriceCountedModel" "tokenAt" "I", Cond.fieldLink RX12 267 "ThriceCountedModel" "tokenLong" "I", Cond.methodLink RX12 282 yX12_lookAt, Cond.instanceMethod yX12_lookAt, Cond.selects RX12 yX12_lookAt yX12_lookAt, Cond.code yX12_lookAt cX12_lookAt 5 none, Cond.fieldLink RX12 253 "ThriceCountedModel" "bytesLong" "I", Cond.fieldLink RX12 40 "ThriceCountedModel" "bytes" "[I", Cond.fieldLink RX12 270 "ThriceCountedModel" "token" "I", Cond.fieldLink RX12 273 "ThriceCountedModel" "value" "I", Cond.methodLink RX12 276 yX12_isSmall, Cond.static yX12_isSmall, Cond.code yX12_isSmall cX12_isSmall 1 (some .boolean), Cond.constantLong RX12 256 (97), Cond.constantLong RX12 258 (122), Cond.methodLink RX12 49 yX12_in, Cond.static yX12_in]
def wsX12_readsBundle_r2 : List Cond := [Cond.code yX12_in cX12_in 6 (some .boolean), Cond.methodLink RX12 279 yX12_isFigure, Cond.static yX12_isFigure, Cond.code yX12_isFigure cX12_isFigure 1 (some .boolean), Cond.constantLong RX12 260 (48), Cond.constantLong RX12 262 (57), Cond.methodLink RX12 292 yX12_takes, Cond.instanceMethod yX12_takes, Cond.selects RX12 yX12_takes yX12_takes, Cond.code yX12_takes cX12_takes 4 (some .boolean), Cond.methodLink RX12 77 yX12_layBundle, Cond.static yX12_layBundle, Cond.code yX12_layBundle cX12_layBundle 4 none]
def wsX12_readsBundle : List Cond := .code yX12_readsBundle cX12_readsBundle 1 (some .boolean) :: ((wsX12_readsBundle_r1 ++ wsX12_readsBundle_r2) ++ wsX120)
def wsX12_readsBand_r1 : List Cond := [Cond.fieldLink RX12 43 "ThriceCountedModel" "next" "[I", Cond.fieldLink RX12 46 "ThriceCountedModel" "values" "[I", Cond.methodLink RX12 285 yX12_goOn, Cond.instanceMethod yX12_goOn, Cond.selects RX12 yX12_goOn yX12_goOn, Cond.initialized RX12, Cond.code yX12_goOn cX12_goOn 1 none, Cond.fieldLink RX12 264 "ThriceCountedModel" "tokenAt" "I", Cond.fieldLink RX12 267 "ThriceCountedModel" "tokenLong" "I", Cond.methodLink RX12 282 yX12_lookAt, Cond.instanceMethod yX12_lookAt, Cond.selects RX12 yX12_lookAt yX12_lookAt, Cond.code yX12_lookAt cX12_lookAt 5 none, Cond.fieldLink RX12 253 "ThriceCountedModel" "bytesLong" "I", Cond.fieldLink RX12 40 "ThriceCountedModel" "bytes" "[I", Cond.fieldLink RX12 270 "ThriceCountedModel" "token" "I", Cond.fieldLink RX12 273 "ThriceCountedModel" "value" "I", Cond.methodLink RX12 276 yX12_isSmall, Cond.static yX12_isSmall, Cond.code yX12_isSmall cX12_isSmall 1 (some .boolean), Cond.constantLong RX12 256 (97), Cond.constantLong RX12 258 (122), Cond.methodLink RX12 49 yX12_in, Cond.static yX12_in]
def wsX12_readsBand_r2 : List Cond := [Cond.code yX12_in cX12_in 6 (some .boolean), Cond.methodLink RX12 279 yX12_isFigure, Cond.static yX12_isFigure, Cond.code yX12_isFigure cX12_isFigure 1 (some .boolean), Cond.constantLong RX12 260 (48), Cond.constantLong RX12 262 (57), Cond.methodLink RX12 292 yX12_takes, Cond.instanceMethod yX12_takes, Cond.selects RX12 yX12_takes yX12_takes, Cond.code yX12_takes cX12_takes 4 (some .boolean), Cond.methodLink RX12 92 yX12_layBand, Cond.static yX12_layBand, Cond.code yX12_layBand cX12_layBand 4 none]
def wsX12_readsBand : List Cond := .code yX12_readsBand cX12_readsBand 1 (some .boolean) :: ((wsX12_readsBand_r1 ++ wsX12_readsBand_r2) ++ wsX120)
def wsX12_readsCount_r1 : List Cond := [Cond.fieldLink RX12 43 "ThriceCountedModel" "next" "[I", Cond.fieldLink RX12 46 "ThriceCountedModel" "values" "[I", Cond.methodLink RX12 285 yX12_goOn, Cond.instanceMethod yX12_goOn, Cond.selects RX12 yX12_goOn yX12_goOn, Cond.initialized RX12, Cond.code yX12_goOn cX12_goOn 1 none, Cond.fieldLink RX12 264 "ThriceCountedModel" "tokenAt" "I", Cond.fieldLink RX12 267 "ThriceCountedModel" "tokenLong" "I", Cond.methodLink RX12 282 yX12_lookAt, Cond.instanceMethod yX12_lookAt, Cond.selects RX12 yX12_lookAt yX12_lookAt, Cond.code yX12_lookAt cX12_lookAt 5 none, Cond.fieldLink RX12 253 "ThriceCountedModel" "bytesLong" "I", Cond.fieldLink RX12 40 "ThriceCountedModel" "bytes" "[I", Cond.fieldLink RX12 270 "ThriceCountedModel" "token" "I", Cond.fieldLink RX12 273 "ThriceCountedModel" "value" "I", Cond.methodLink RX12 276 yX12_isSmall, Cond.static yX12_isSmall, Cond.code yX12_isSmall cX12_isSmall 1 (some .boolean), Cond.constantLong RX12 256 (97), Cond.constantLong RX12 258 (122), Cond.methodLink RX12 49 yX12_in, Cond.static yX12_in]
def wsX12_readsCount_r2 : List Cond := [Cond.code yX12_in cX12_in 6 (some .boolean), Cond.methodLink RX12 279 yX12_isFigure, Cond.static yX12_isFigure, Cond.code yX12_isFigure cX12_isFigure 1 (some .boolean), Cond.constantLong RX12 260 (48), Cond.constantLong RX12 262 (57), Cond.methodLink RX12 292 yX12_takes, Cond.instanceMethod yX12_takes, Cond.selects RX12 yX12_takes yX12_takes, Cond.code yX12_takes cX12_takes 4 (some .boolean), Cond.methodLink RX12 106 yX12_layCount, Cond.static yX12_layCount, Cond.code yX12_layCount cX12_layCount 6 none]
def wsX12_readsCount : List Cond := .code yX12_readsCount cX12_readsCount 1 (some .boolean) :: ((wsX12_readsCount_r1 ++ wsX12_readsCount_r2) ++ wsX120)
def wsX12_readsItem_r1 : List Cond := [Cond.methodLink RX12 288 yX12_isCalled, Cond.instanceMethod yX12_isCalled, Cond.selects RX12 yX12_isCalled yX12_isCalled, Cond.initialized RX12, Cond.code yX12_isCalled cX12_isCalled 10 (some .boolean), Cond.fieldLink RX12 270 "ThriceCountedModel" "token" "I", Cond.fieldLink RX12 267 "ThriceCountedModel" "tokenLong" "I", Cond.fieldLink RX12 40 "ThriceCountedModel" "bytes" "[I", Cond.fieldLink RX12 264 "ThriceCountedModel" "tokenAt" "I", Cond.methodLink RX12 295 yX12_readsClerk, Cond.instanceMethod yX12_readsClerk, Cond.selects RX12 yX12_readsClerk yX12_readsClerk, Cond.code yX12_readsClerk cX12_readsClerk 1 (some .boolean), Cond.fieldLink RX12 43 "ThriceCountedModel" "next" "[I", Cond.fieldLink RX12 46 "ThriceCountedModel" "values" "[I", Cond.methodLink RX12 285 yX12_goOn, Cond.instanceMethod yX12_goOn, Cond.selects RX12 yX12_goOn yX12_goOn, Cond.code yX12_goOn cX12_goOn 1 none, Cond.methodLink RX12 282 yX12_lookAt, Cond.instanceMethod yX12_lookAt, Cond.selects RX12 yX12_lookAt yX12_lookAt, Cond.code yX12_lookAt cX12_lookAt 5 none, Cond.fieldLink RX12 253 "ThriceCountedModel" "bytesLong" "I"]
def wsX12_readsItem_r2 : List Cond := [Cond.fieldLink RX12 273 "ThriceCountedModel" "value" "I", Cond.methodLink RX12 276 yX12_isSmall, Cond.static yX12_isSmall, Cond.code yX12_isSmall cX12_isSmall 1 (some .boolean), Cond.constantLong RX12 256 (97), Cond.constantLong RX12 258 (122), Cond.methodLink RX12 49 yX12_in, Cond.static yX12_in, Cond.code yX12_in cX12_in 6 (some .boolean), Cond.methodLink RX12 279 yX12_isFigure, Cond.static yX12_isFigure, Cond.code yX12_isFigure cX12_isFigure 1 (some .boolean), Cond.constantLong RX12 260 (48), Cond.constantLong RX12 262 (57), Cond.methodLink RX12 292 yX12_takes, Cond.instanceMethod yX12_takes, Cond.selects RX12 yX12_takes yX12_takes, Cond.code yX12_takes cX12_takes 4 (some .boolean), Cond.methodLink RX12 69 yX12_layClerk, Cond.static yX12_layClerk, Cond.code yX12_layClerk cX12_layClerk 2 none, Cond.methodLink RX12 298 yX12_readsBundle, Cond.instanceMethod yX12_readsBundle, Cond.selects RX12 yX12_readsBundle yX12_readsBundle]
def wsX12_readsItem_r3 : List Cond := [Cond.code yX12_readsBundle cX12_readsBundle 1 (some .boolean), Cond.methodLink RX12 77 yX12_layBundle, Cond.static yX12_layBundle, Cond.code yX12_layBundle cX12_layBundle 4 none, Cond.methodLink RX12 301 yX12_readsBand, Cond.instanceMethod yX12_readsBand, Cond.selects RX12 yX12_readsBand yX12_readsBand, Cond.code yX12_readsBand cX12_readsBand 1 (some .boolean), Cond.methodLink RX12 92 yX12_layBand, Cond.static yX12_layBand, Cond.code yX12_layBand cX12_layBand 4 none, Cond.methodLink RX12 304 yX12_readsCount, Cond.instanceMethod yX12_readsCount, Cond.selects RX12 yX12_readsCount yX12_readsCount, Cond.code yX12_readsCount cX12_readsCount 1 (some .boolean), Cond.methodLink RX12 106 yX12_layCount, Cond.static yX12_layCount, Cond.code yX12_layCount cX12_layCount 6 none]
def wsX12_readsItem : List Cond := .code yX12_readsItem cX12_readsItem 1 (some .boolean) :: ((wsX12_readsItem_r1 ++ (wsX12_readsItem_r2 ++ wsX12_readsItem_r3)) ++ wsX120)
def wsX12_read_r1 : List Cond := [Cond.fieldLink RX12 264 "ThriceCountedModel" "tokenAt" "I", Cond.fieldLink RX12 270 "ThriceCountedModel" "token" "I", Cond.fieldLink RX12 7 "ThriceCountedModel" "now" "[I", Cond.fieldLink RX12 43 "ThriceCountedModel" "next" "[I", Cond.methodLink RX12 282 yX12_lookAt, Cond.instanceMethod yX12_lookAt, Cond.selects RX12 yX12_lookAt yX12_lookAt, Cond.initialized RX12, Cond.code yX12_lookAt cX12_lookAt 5 none, Cond.fieldLink RX12 253 "ThriceCountedModel" "bytesLong" "I", Cond.fieldLink RX12 40 "ThriceCountedModel" "bytes" "[I", Cond.fieldLink RX12 267 "ThriceCountedModel" "tokenLong" "I", Cond.fieldLink RX12 273 "ThriceCountedModel" "value" "I", Cond.methodLink RX12 276 yX12_isSmall, Cond.static yX12_isSmall, Cond.code yX12_isSmall cX12_isSmall 1 (some .boolean), Cond.constantLong RX12 256 (97), Cond.constantLong RX12 258 (122), Cond.methodLink RX12 49 yX12_in, Cond.static yX12_in, Cond.code yX12_in cX12_in 6 (some .boolean), Cond.methodLink RX12 279 yX12_isFigure, Cond.static yX12_isFigure, Cond.code yX12_isFigure cX12_isFigure 1 (some .boolean)]
def wsX12_read_r2 : List Cond := [Cond.constantLong RX12 260 (48), Cond.constantLong RX12 262 (57), Cond.methodLink RX12 307 yX12_readsFirst, Cond.instanceMethod yX12_readsFirst, Cond.selects RX12 yX12_readsFirst yX12_readsFirst, Cond.code yX12_readsFirst cX12_readsFirst 1 (some .boolean), Cond.methodLink RX12 288 yX12_isCalled, Cond.instanceMethod yX12_isCalled, Cond.selects RX12 yX12_isCalled yX12_isCalled, Cond.code yX12_isCalled cX12_isCalled 10 (some .boolean), Cond.methodLink RX12 285 yX12_goOn, Cond.instanceMethod yX12_goOn, Cond.selects RX12 yX12_goOn yX12_goOn, Cond.code yX12_goOn cX12_goOn 1 none, Cond.methodLink RX12 55 yX12_begin, Cond.static yX12_begin, Cond.code yX12_begin cX12_begin 2 none, Cond.methodLink RX12 310 yX12_readsItem, Cond.instanceMethod yX12_readsItem, Cond.selects RX12 yX12_readsItem yX12_readsItem, Cond.code yX12_readsItem cX12_readsItem 1 (some .boolean), Cond.methodLink RX12 295 yX12_readsClerk, Cond.instanceMethod yX12_readsClerk, Cond.selects RX12 yX12_readsClerk yX12_readsClerk]
def wsX12_read_r3 : List Cond := [Cond.code yX12_readsClerk cX12_readsClerk 1 (some .boolean), Cond.fieldLink RX12 46 "ThriceCountedModel" "values" "[I", Cond.methodLink RX12 292 yX12_takes, Cond.instanceMethod yX12_takes, Cond.selects RX12 yX12_takes yX12_takes, Cond.code yX12_takes cX12_takes 4 (some .boolean), Cond.methodLink RX12 69 yX12_layClerk, Cond.static yX12_layClerk, Cond.code yX12_layClerk cX12_layClerk 2 none, Cond.methodLink RX12 298 yX12_readsBundle, Cond.instanceMethod yX12_readsBundle, Cond.selects RX12 yX12_readsBundle yX12_readsBundle, Cond.code yX12_readsBundle cX12_readsBundle 1 (some .boolean), Cond.methodLink RX12 77 yX12_layBundle, Cond.static yX12_layBundle, Cond.code yX12_layBundle cX12_layBundle 4 none, Cond.methodLink RX12 301 yX12_readsBand, Cond.instanceMethod yX12_readsBand, Cond.selects RX12 yX12_readsBand yX12_readsBand, Cond.code yX12_readsBand cX12_readsBand 1 (some .boolean), Cond.methodLink RX12 92 yX12_layBand, Cond.static yX12_layBand, Cond.code yX12_layBand cX12_layBand 4 none, Cond.methodLink RX12 304 yX12_readsCount]
def wsX12_read_r4 : List Cond := [Cond.instanceMethod yX12_readsCount, Cond.selects RX12 yX12_readsCount yX12_readsCount, Cond.code yX12_readsCount cX12_readsCount 1 (some .boolean), Cond.methodLink RX12 106 yX12_layCount, Cond.static yX12_layCount, Cond.code yX12_layCount cX12_layCount 6 none]
def wsX12_read : List Cond := .code yX12_read cX12_read 3 (some .int) :: ((wsX12_read_r1 ++ (wsX12_read_r2 ++ (wsX12_read_r3 ++ wsX12_read_r4))) ++ wsX120)
def wsX12_part : List Cond := .code yX12_part cX12_part 2 (some .long) :: ([.fieldLink RX12 148 "ThriceCountedModel" "above" "J", .fieldLink RX12 23 "ThriceCountedModel" "below" "J", .methodLink RX12 61 yX12_bad, .instanceMethod yX12_bad, .selects RX12 yX12_bad yX12_bad, .initialized RX12, .code yX12_bad cX12_bad 2 (some .int), .fieldLink RX12 20 "ThriceCountedModel" "refused" "[I"] ++ wsX120)
def wsX12_image : List Cond := .code yX12_image cX12_image 3 (some .int) :: ([.fieldLink RX12 13 "ThriceCountedModel" "kept" "[I", .fieldLink RX12 7 "ThriceCountedModel" "now" "[I", .fieldLink RX12 16 "ThriceCountedModel" "isKept" "[Z", .methodLink RX12 49 yX12_in, .static yX12_in, .initialized RX12, .code yX12_in cX12_in 6 (some .boolean), .methodLink RX12 61 yX12_bad, .instanceMethod yX12_bad, .selects RX12 yX12_bad yX12_bad, .code yX12_bad cX12_bad 2 (some .int), .fieldLink RX12 20 "ThriceCountedModel" "refused" "[I"] ++ wsX120)
def wsX12_from : List Cond := .code yX12_from cX12_from 3 (some .int) :: ([.fieldLink RX12 16 "ThriceCountedModel" "isKept" "[Z", .fieldLink RX12 7 "ThriceCountedModel" "now" "[I", .fieldLink RX12 13 "ThriceCountedModel" "kept" "[I", .methodLink RX12 49 yX12_in, .static yX12_in, .initialized RX12, .code yX12_in cX12_in 6 (some .boolean), .methodLink RX12 61 yX12_bad, .instanceMethod yX12_bad, .selects RX12 yX12_bad yX12_bad, .code yX12_bad cX12_bad 2 (some .int), .fieldLink RX12 20 "ThriceCountedModel" "refused" "[I", .methodLink RX12 113 yX12_no, .instanceMethod yX12_no, .selects RX12 yX12_no yX12_no, .code yX12_no cX12_no 1 (some .int)] ++ wsX120)
def wsX12_status : List Cond := .code yX12_status cX12_status 2 (some .int) :: ([.constantLong RX12 241 (2), .fieldLink RX12 20 "ThriceCountedModel" "refused" "[I", .methodLink RX12 49 yX12_in, .static yX12_in, .initialized RX12, .code yX12_in cX12_in 6 (some .boolean), .methodLink RX12 61 yX12_bad, .instanceMethod yX12_bad, .selects RX12 yX12_bad yX12_bad, .code yX12_bad cX12_bad 2 (some .int)] ++ wsX120)
def wsX12_counted : List Cond := .code yX12_counted cX12_counted 2 (some .int) :: ([.fieldLink RX12 7 "ThriceCountedModel" "now" "[I", .fieldLink RX12 253 "ThriceCountedModel" "bytesLong" "I"] ++ wsX120)
def wsX12_count : List Cond := .code yX12_count cX12_count 2 (some .int) :: ([.constantLong RX12 53 (5), .methodLink RX12 49 yX12_in, .static yX12_in, .initialized RX12, .code yX12_in cX12_in 6 (some .boolean), .methodLink RX12 313 yX12_counted, .instanceMethod yX12_counted, .selects RX12 yX12_counted yX12_counted, .code yX12_counted cX12_counted 2 (some .int), .fieldLink RX12 7 "ThriceCountedModel" "now" "[I", .fieldLink RX12 253 "ThriceCountedModel" "bytesLong" "I", .methodLink RX12 61 yX12_bad, .instanceMethod yX12_bad, .selects RX12 yX12_bad yX12_bad, .code yX12_bad cX12_bad 2 (some .int), .fieldLink RX12 20 "ThriceCountedModel" "refused" "[I"] ++ wsX120)
def wsX12_sums : List Cond := .code yX12_sums cX12_sums 8 (some .long) :: ([.constantLong RX12 316 (31), .fieldLink RX12 7 "ThriceCountedModel" "now" "[I"] ++ wsX120)
def wsX12_digest : List Cond := .code yX12_digest cX12_digest 4 (some .long) :: ([.constantLong RX12 318 (937), .constantLong RX12 316 (31), .fieldLink RX12 7 "ThriceCountedModel" "now" "[I", .fieldLink RX12 148 "ThriceCountedModel" "above" "J", .fieldLink RX12 23 "ThriceCountedModel" "below" "J", .methodLink RX12 313 yX12_counted, .instanceMethod yX12_counted, .selects RX12 yX12_counted yX12_counted, .initialized RX12, .code yX12_counted cX12_counted 2 (some .int), .fieldLink RX12 253 "ThriceCountedModel" "bytesLong" "I", .methodLink RX12 320 yX12_sums, .instanceMethod yX12_sums, .selects RX12 yX12_sums yX12_sums, .code yX12_sums cX12_sums 8 (some .long)] ++ wsX120)
def wsJ9_abs_0f7a4 : List Cond := .code yJ9_abs_0f7a4 cJ9_abs_0f7a4 1 (some .int) :: ([])
def wsJ9_max_7cf53 : List Cond := .code yJ9_max_7cf53 cJ9_max_7cf53 2 (some .int) :: ([])
def wsJ9_min_7cf53 : List Cond := .code yJ9_min_7cf53 cJ9_min_7cf53 2 (some .int) :: ([])
abbrev vwCl : List vw_C := [(RX0, TX0, 6), (RX1, TX1, 0), (RX2, TX2, 2), (RX3, TX3, 0), (RX4, TX4, 0), (RX5, TX5, 9), (RX6, TX6, 4), (RX7, TX7, 2), (RX8, TX8, 0), (RX9, TX9, 0), (RX10, TX10, 0), (RX11, TX11, 12), (RX12, TX12, 24)]
def R_law : String := "ThriceCountedLaw"
end
section
section
variable {p : Program} {l : Launch} {e : Env} {R : Room} {s : State} {m : MethodId} {args : Array Value} {below : List Frame} {meth : Method} {c : Code} {H : Heap} {locs : List Loc} {cells slots : Nat} {Q : State → Prop} {pc : Nat} {ls : Array Slot} {rest : List Value}
theorem tz_i {x : Int32} (z : Int32) (h : x = z) (k : W p l e R s m args below meth c H locs cells slots Q (F0 m pc ls (.int z :: rest))) : W p l e R s m args below meth c H locs cells slots Q (F0 m pc ls (.int x :: rest)) := by subst h; exact k
theorem tz_l {x : Int64} (z : Int64) (h : x = z) (k : W p l e R s m args below meth c H locs cells slots Q (F0 m pc ls (.long z :: rest))) : W p l e R s m args below meth c H locs cells slots Q (F0 m pc ls (.long x :: rest)) := by subst h; exact k
theorem tz_v {x : Value} (z : Value) (h : x = z) (k : W p l e R s m args below meth c H locs cells slots Q (F0 m pc ls (z :: rest))) : W p l e R s m args below meth c H locs cells slots Q (F0 m pc ls (x :: rest)) := by subst h; exact k
end
theorem tz_P0 {D : va_G} {cl : List vw_C} {H : Heap} : va_P D cl [] H := fun k q h => by simp at h
theorem tz_D0 {A : Nat → Prop} : va_D A [] := ⟨fun i j p q h => by simp at h, fun k q h => by simp at h⟩
theorem tz_nlt {a b : Int32} (h : ¬ a < b) : b ≤ a := Int32.not_lt.mp h
theorem tz_nle {a b : Int32} (h : ¬ a ≤ b) : b < a := Int32.not_le.mp h
theorem tz_ltn {a b : Int32} (h : a < b) : ¬ b ≤ a := Int32.not_le.mpr h
theorem tz_lef {a b : Int32} (h1 : ¬ a < b) (h2 : ¬ b ≤ a) : False := h2 (tz_nlt h1)
theorem tz_in {x N : Int32} {n : Nat} (h1 : ¬ x < 0) (h2 : ¬ N ≤ x) (hN : N.toInt = n) : vp_in x n := by
  rw [vp_in_iff]
  have a := tz_nlt h1
  have b := tz_nle h2
  rw [Int32.le_iff_toInt_le] at a
  rw [Int32.lt_iff_toInt_lt] at b
  exact ⟨a, by omega⟩
theorem tz_inb {x M : Int32} {n : Nat} (h : 0 ≤ x ∧ x ≤ M) (hM : M.toInt + 1 = n) : vp_in x n := by
  rw [vp_in_iff]
  obtain ⟨a, b⟩ := h
  rw [Int32.le_iff_toInt_le] at a b
  exact ⟨a, by omega⟩
theorem tz_ltle {x N M : Int32} (h : ¬ N ≤ x) (e : N.toInt = M.toInt + 1) : x ≤ M := by
  have b := tz_nle h
  rw [Int32.lt_iff_toInt_lt] at b
  rw [Int32.le_iff_toInt_le]
  omega
theorem tz_gele {x N M : Int32} (h : N ≤ x) (e : N.toInt = M.toInt + 1) : ¬ x ≤ M := by
  rw [Int32.le_iff_toInt_le] at h ⊢
  omega
theorem tz_in64 {lo v hi : Int32} {LO V HI : Int64} (h1 : lo.toInt64 = LO) (h2 : v.toInt64 = V) (h3 : hi.toInt64 = HI) : (LO ≤ V ∧ V ≤ HI) ↔ (lo ≤ v ∧ v ≤ hi) := by
  subst h1 h2 h3
  rw [Int64.le_iff_toInt_le, Int64.le_iff_toInt_le, Int32.le_iff_toInt_le, Int32.le_iff_toInt_le, Int32.toInt_toInt64, Int32.toInt_toInt64, Int32.toInt_toInt64]
theorem tz_pick {x : Int32} {n : Nat} (h0 : 0 ≤ x) {M : Int32} (h1 : x ≤ M) (hM : M.toInt + 1 = n) : ∃ j : Nat, j < n ∧ x = nI j := by
  rw [Int32.le_iff_toInt_le] at h0 h1
  have h0' : (0 : Int) ≤ x.toInt := h0
  refine ⟨x.toInt.toNat, by omega, ?_⟩
  have hlt := x.toInt_lt
  apply Int32.toInt_inj.mp
  rw [nI_toInt (by omega)]
  omega
-- what a fresh object's ways answer
def zO (k : Int32) : Int32 := if k = 0 then -1 else if k = 1 then -1 else if k = 2 then 1 else 0
def zF (k : Int32) : Int32 := if k = 3 then -5 else zO k
def zW (k : Int32) : Int32 := if 3 ≤ k then (if 6 ≤ k then (if 9 ≤ k then (if 12 ≤ k then 0 else 2) else 1) else -2) else -1
def zH (k : Int32) : Int32 := if k = 12 then -3 else if k = 13 then -3 else if k = 14 then 3 else if k = 15 then 3 else zW k
def zT (k : Int32) : Int32 := zO (k / 2)
def zK (k : Int32) : Int32 := if k < 6 then zT k else if 8 < k then zT k else -2
def zN (f : Int32 → Int32) (v : Int32) : Nat → Int32
  | 0 => 0
  | n + 1 => if f (nI n) = v then zN f v n + 1 else zN f v n
def zS (w : Int32) : Int32 → Int32 := if w = 0 then zO else if w = 1 then zF else if w = 2 then zW else if w = 3 then zH else if w = 4 then zT else zK
def zM (w : Int32) : Int32 := if w = 0 then 5 else if w = 1 then 3 else if w = 2 then 1 else if w = 3 then 1 else 7
abbrev tz_w (q0 q1 q2 q3 q4 q5 : Nat) : Nat → Option Nat := va_up (va_up (va_up (va_up (va_up (va_up (fun _ => none) 0 (some q0)) 1 (some q1)) 2 (some q2)) 3 (some q3)) 4 (some q4)) 5 (some q5)
abbrev tz_w2 (q0 q1 : Nat) : Nat → Option Nat := va_up (va_up (fun _ => none) 0 (some q0)) 1 (some q1)
theorem tz_for {σ : Type} (G : σ → Prop) (I : Nat → σ → Prop) (N : Nat) (h_end : ∀ x, I N x → G x) (h_step : ∀ i x, i < N → I i x → (∀ y, I (i + 1) y → G y) → G x) (x : σ) (h0 : I 0 x) : G x := by
  have key : ∀ (n i : Nat) (x : σ), i + n = N → I i x → G x := by
    intro n
    induction n with
    | zero => intro i x h hi; have e : i = N := by omega
              subst e; exact h_end _ hi
    | succ n ih => intro i x h hi; exact h_step i x (by omega) hi (fun y hy => ih (i + 1) y (by omega) hy)
  exact key N 0 x (by omega) h0
/-- what is known of the machine at every moment: nest mates, arrays of objects, casts, one String -/
def tz_N (U : State) : Prop := (va_Nw (.methodLinkNest RX11 9 yX4_init "ThriceCounted") U ∧ va_Nw (.methodLinkNest RX11 12 yX1_init "ThriceCounted") U ∧ va_Nw (.methodLinkNest RX11 15 yX10_init "ThriceCounted") U ∧ va_Nw (.methodLinkNest RX11 18 yX3_init "ThriceCounted") U ∧ va_Nw (.methodLinkNest RX11 21 yX9_init "ThriceCounted") U ∧ va_Nw (.methodLinkNest RX11 24 yX8_init "ThriceCounted") U ∧ va_Nw (.methodLinkNest RX11 48 yX7_init "ThriceCounted") U ∧ va_Nw (.methodLinkNest RX11 55 yX5_init "ThriceCounted") U ∧ va_Nw (.methodLinkNest RX11 62 yX2_init "ThriceCounted") U) ∧ (va_Nw (.methodLinkNest RX1 1 yX4_init "ThriceCounted") U ∧ va_Nw (.methodLinkNest RX10 1 yX4_init "ThriceCounted") U ∧ va_Nw (.methodLinkNest RX9 1 yX4_init "ThriceCounted") U ∧ va_Nw (.methodLinkNest RX3 1 yX10_init "ThriceCounted") U ∧ va_Nw (.methodLinkNest RX8 1 yX9_init "ThriceCounted") U) ∧ (va_AO RX0 U ∧ va_AO RX4 U ∧ va_AO RX6 U) ∧ (va_Nw (.castable RX1 RX4) U ∧ va_Nw (.castable RX10 RX4) U ∧ va_Nw (.castable RX3 RX4) U ∧ va_Nw (.castable RX9 RX4) U ∧ va_Nw (.castable RX8 RX4) U) ∧ ∃ q, vk_R RX5 60 "bank" q U
theorem tz_N.warm {s U : State} (hW : s.WarmedH U.vm) (h : tz_N s) : tz_N U := by
  obtain ⟨⟨a1, a2, a3, a4, a5, a6, a7, a8, a9⟩, ⟨b1, b2, b3, b4, b5⟩, ⟨c1, c2, c3⟩, ⟨d1, d2, d3, d4, d5⟩, q, e1⟩ := h
  exact ⟨⟨va_Nw.warmM hW a1, va_Nw.warmM hW a2, va_Nw.warmM hW a3, va_Nw.warmM hW a4, va_Nw.warmM hW a5, va_Nw.warmM hW a6, va_Nw.warmM hW a7, va_Nw.warmM hW a8, va_Nw.warmM hW a9⟩, ⟨va_Nw.warmM hW b1, va_Nw.warmM hW b2, va_Nw.warmM hW b3, va_Nw.warmM hW b4, va_Nw.warmM hW b5⟩, ⟨va_AO.moved hW.alike c1, va_AO.moved hW.alike c2, va_AO.moved hW.alike c3⟩, ⟨va_Nw.warmC hW d1, va_Nw.warmC hW d2, va_Nw.warmC hW d3, va_Nw.warmC hW d4, va_Nw.warmC hW d5⟩, q, vk_R.warm hW e1⟩
theorem tz_N.same {u U : State} (hv : u.vm = U.vm) (h : tz_N u) : tz_N U := by
  obtain ⟨⟨a1, a2, a3, a4, a5, a6, a7, a8, a9⟩, ⟨b1, b2, b3, b4, b5⟩, ⟨c1, c2, c3⟩, ⟨d1, d2, d3, d4, d5⟩, q, e1⟩ := h
  exact ⟨⟨va_Nw.same rfl hv a1, va_Nw.same rfl hv a2, va_Nw.same rfl hv a3, va_Nw.same rfl hv a4, va_Nw.same rfl hv a5, va_Nw.same rfl hv a6, va_Nw.same rfl hv a7, va_Nw.same rfl hv a8, va_Nw.same rfl hv a9⟩, ⟨va_Nw.same rfl hv b1, va_Nw.same rfl hv b2, va_Nw.same rfl hv b3, va_Nw.same rfl hv b4, va_Nw.same rfl hv b5⟩, ⟨va_AO.moved (by rw [hv]; exact Vm.Alike.refl _) c1, va_AO.moved (by rw [hv]; exact Vm.Alike.refl _) c2, va_AO.moved (by rw [hv]; exact Vm.Alike.refl _) c3⟩, ⟨va_Nw.same rfl hv d1, va_Nw.same rfl hv d2, va_Nw.same rfl hv d3, va_Nw.same rfl hv d4, va_Nw.same rfl hv d5⟩, q, vk_R.same hv.symm e1⟩
theorem tz_nest_X11_9 {U : State} (h : tz_N U) : va_Nw (.methodLinkNest RX11 9 yX4_init "ThriceCounted") U := h.1.1
theorem tz_nest_X11_12 {U : State} (h : tz_N U) : va_Nw (.methodLinkNest RX11 12 yX1_init "ThriceCounted") U := h.1.2.1
theorem tz_nest_X11_15 {U : State} (h : tz_N U) : va_Nw (.methodLinkNest RX11 15 yX10_init "ThriceCounted") U := h.1.2.2.1
theorem tz_nest_X11_18 {U : State} (h : tz_N U) : va_Nw (.methodLinkNest RX11 18 yX3_init "ThriceCounted") U := h.1.2.2.2.1
theorem tz_nest_X11_21 {U : State} (h : tz_N U) : va_Nw (.methodLinkNest RX11 21 yX9_init "ThriceCounted") U := h.1.2.2.2.2.1
theorem tz_nest_X11_24 {U : State} (h : tz_N U) : va_Nw (.methodLinkNest RX11 24 yX8_init "ThriceCounted") U := h.1.2.2.2.2.2.1
theorem tz_nest_X11_48 {U : State} (h : tz_N U) : va_Nw (.methodLinkNest RX11 48 yX7_init "ThriceCounted") U := h.1.2.2.2.2.2.2.1
theorem tz_nest_X11_55 {U : State} (h : tz_N U) : va_Nw (.methodLinkNest RX11 55 yX5_init "ThriceCounted") U := h.1.2.2.2.2.2.2.2.1
theorem tz_nest_X11_62 {U : State} (h : tz_N U) : va_Nw (.methodLinkNest RX11 62 yX2_init "ThriceCounted") U := h.1.2.2.2.2.2.2.2.2
theorem tz_nest_X1_1 {U : State} (h : tz_N U) : va_Nw (.methodLinkNest RX1 1 yX4_init "ThriceCounted") U := h.2.1.1
theorem tz_nest_X10_1 {U : State} (h : tz_N U) : va_Nw (.methodLinkNest RX10 1 yX4_init "ThriceCounted") U := h.2.1.2.1
theorem tz_nest_X9_1 {U : State} (h : tz_N U) : va_Nw (.methodLinkNest RX9 1 yX4_init "ThriceCounted") U := h.2.1.2.2.1
theorem tz_nest_X3_1 {U : State} (h : tz_N U) : va_Nw (.methodLinkNest RX3 1 yX10_init "ThriceCounted") U := h.2.1.2.2.2.1
theorem tz_nest_X8_1 {U : State} (h : tz_N U) : va_Nw (.methodLinkNest RX8 1 yX9_init "ThriceCounted") U := h.2.1.2.2.2.2
theorem tz_over_X0 {U : State} (h : tz_N U) : va_AO RX0 U := h.2.2.1.1
theorem tz_over_X4 {U : State} (h : tz_N U) : va_AO RX4 U := h.2.2.1.2.1
theorem tz_over_X6 {U : State} (h : tz_N U) : va_AO RX6 U := h.2.2.1.2.2
theorem tz_cast_X1 {U : State} (h : tz_N U) : va_Nw (.castable RX1 RX4) U := h.2.2.2.1.1
theorem tz_cast_X10 {U : State} (h : tz_N U) : va_Nw (.castable RX10 RX4) U := h.2.2.2.1.2.1
theorem tz_cast_X3 {U : State} (h : tz_N U) : va_Nw (.castable RX3 RX4) U := h.2.2.2.1.2.2.1
theorem tz_cast_X9 {U : State} (h : tz_N U) : va_Nw (.castable RX9 RX4) U := h.2.2.2.1.2.2.2.1
theorem tz_cast_X8 {U : State} (h : tz_N U) : va_Nw (.castable RX8 RX4) U := h.2.2.2.1.2.2.2.2
end
section
theorem dX11_within_0 : decode cX11_within 0 = .ok (.iload_n 0, 1) := by decide +kernel
theorem dX11_within_1 : decode cX11_within 1 = .ok (.iload_n 1, 1) := by decide +kernel
theorem dX11_within_2 : decode cX11_within 2 = .ok (.if_icmp .lt 12, 3) := by decide +kernel
theorem dX11_within_14 : decode cX11_within 14 = .ok (.iconst 0, 1) := by decide +kernel
theorem dX11_within_15 : decode cX11_within 15 = .ok (.ireturn, 1) := by decide +kernel
theorem dX11_within_5 : decode cX11_within 5 = .ok (.iload_n 0, 1) := by decide +kernel
theorem dX11_within_6 : decode cX11_within 6 = .ok (.iload_n 2, 1) := by decide +kernel
theorem dX11_within_7 : decode cX11_within 7 = .ok (.if_icmp .gt 7, 3) := by decide +kernel
theorem dX11_within_10 : decode cX11_within 10 = .ok (.iconst 1, 1) := by decide +kernel
theorem dX11_within_11 : decode cX11_within 11 = .ok (.goto 4, 3) := by decide +kernel
set_option maxHeartbeats 4000000 in
set_option maxRecDepth 100000 in
theorem k_within (l : Launch) (dC : Nat → ClassId) (dI : Nat → Nat → Nat) (na : Int32) (nb : Int32) (nc : Int32) : Met l yX11_within wsX11_within ({ frames := 0, cells := 0, slots := 0, locals := 0 }) (va_Pc [.int na, .int nb, .int nc] (fun _ => True)) (vp_Si (fun r => r = if nb ≤ na ∧ na ≤ nc then 1 else 0)) 0 0 (fun _ => False) := by
  refine Met.ofW (cc := cX11_within) (maxL := 3) (ret := (some .boolean)) (by decide) rfl ?_
  intro p e s m args below meth c s₁ B hml hv
  obtain ⟨rfl, -⟩ := hv
  have hx := B.exec
  have hb := B.bytes
  have hr := B.returns
  have hts := atoms_spec (ws := wsX11_within) B.pre
  have hown : s.vm.findClass RX11 = some m.cls := findClass_of_methodNamed B.named
  have hlocks := B.notSynchronized
  have hl := lv_entry ([.int na, .int nb, .int nc]) (n := 3) (Nat.le_of_ble_eq_true rfl)
  rw [lg_entry_eq]
  generalize (lg_sl ([.int na, .int nb, .int nc]) ++ List.replicate (3 - (lg_sl ([.int na, .int nb, .int nc])).length) Slot.unset).toArray = ls at hl ⊢
  have hl : lv_has ls 3 [(0, .int na), (1, .int nb), (2, .int nc)] := hl
  refine lv_iload_n hx hb dX11_within_0 rfl (lv_at hl 0 rfl) ?_
  refine lv_iload_n hx hb dX11_within_1 rfl (lv_at hl 1 rfl) ?_
  refine lv_icmp_lt (tgt := 14) hx hb dX11_within_2 (by decide) (fun c_1 => ?_) (fun c_1 => ?_)
  · refine lv_iconst (v := 0) hx hb dX11_within_14 (by decide) ?_
    exact W.zret (v := 0) hx hb hr (by decide) (fun t ht hW => ⟨0, rfl, (if_neg (fun z => tz_ltn c_1 z.1)).symm, ht⟩) (fun _ h => absurd h List.not_mem_nil) dX11_within_15
  · refine lv_iload_n hx hb dX11_within_5 rfl (lv_at hl 0 rfl) ?_
    refine lv_iload_n hx hb dX11_within_6 rfl (lv_at hl 2 rfl) ?_
    refine lv_icmp_gt (tgt := 14) hx hb dX11_within_7 (by decide) (fun c_2 => ?_) (fun c_2 => ?_)
    · refine lv_iconst (v := 0) hx hb dX11_within_14 (by decide) ?_
      exact W.zret (v := 0) hx hb hr (by decide) (fun t ht hW => ⟨0, rfl, (if_neg (fun z => tz_ltn c_2 z.2)).symm, ht⟩) (fun _ h => absurd h List.not_mem_nil) dX11_within_15
    · refine lv_iconst (v := 1) hx hb dX11_within_10 (by decide) ?_
      refine lv_goto (tgt := 15) hx hb dX11_within_11 (by decide) ?_
      exact W.zret (v := 1) hx hb hr (by decide) (fun t ht hW => ⟨1, rfl, (if_pos ⟨tz_nlt c_1, tz_nlt c_2⟩).symm, ht⟩) (fun _ h => absurd h List.not_mem_nil) dX11_within_15
theorem dX11_refuseAs_0 : decode cX11_refuseAs 0 = .ok (.bipush (-2), 2) := by decide +kernel
theorem dX11_refuseAs_2 : decode cX11_refuseAs 2 = .ok (.iload_n 1, 1) := by decide +kernel
theorem dX11_refuseAs_3 : decode cX11_refuseAs 3 = .ok (.isub, 1) := by decide +kernel
theorem dX11_refuseAs_4 : decode cX11_refuseAs 4 = .ok (.istore_n 3, 1) := by decide +kernel
theorem dX11_refuseAs_5 : decode cX11_refuseAs 5 = .ok (.iload_n 3, 1) := by decide +kernel
theorem dX11_refuseAs_6 : decode cX11_refuseAs 6 = .ok (.ifCond .lt 22, 3) := by decide +kernel
theorem dX11_refuseAs_28 : decode cX11_refuseAs 28 = .ok (.iload_n 2, 1) := by decide +kernel
theorem dX11_refuseAs_29 : decode cX11_refuseAs 29 = .ok (.ireturn, 1) := by decide +kernel
theorem dX11_refuseAs_9 : decode cX11_refuseAs 9 = .ok (.iload_n 3, 1) := by decide +kernel
theorem dX11_refuseAs_10 : decode cX11_refuseAs 10 = .ok (.aload_n 0, 1) := by decide +kernel
theorem dX11_refuseAs_11 : decode cX11_refuseAs 11 = .ok (.getfield 75, 3) := by decide +kernel
theorem dX11_refuseAs_14 : decode cX11_refuseAs 14 = .ok (.arraylength, 1) := by decide +kernel
theorem dX11_refuseAs_15 : decode cX11_refuseAs 15 = .ok (.if_icmp .ge 13, 3) := by decide +kernel
theorem dX11_refuseAs_18 : decode cX11_refuseAs 18 = .ok (.aload_n 0, 1) := by decide +kernel
theorem dX11_refuseAs_19 : decode cX11_refuseAs 19 = .ok (.getfield 75, 3) := by decide +kernel
theorem dX11_refuseAs_22 : decode cX11_refuseAs 22 = .ok (.iload_n 3, 1) := by decide +kernel
theorem dX11_refuseAs_23 : decode cX11_refuseAs 23 = .ok (.dup2, 1) := by decide +kernel
theorem dX11_refuseAs_24 : decode cX11_refuseAs 24 = .ok (.iaload, 1) := by decide +kernel
theorem dX11_refuseAs_25 : decode cX11_refuseAs 25 = .ok (.iconst 1, 1) := by decide +kernel
theorem dX11_refuseAs_26 : decode cX11_refuseAs 26 = .ok (.iadd, 1) := by decide +kernel
theorem dX11_refuseAs_27 : decode cX11_refuseAs 27 = .ok (.iastore, 1) := by decide +kernel
set_option maxRecDepth 20000 in
theorem iw_k_refuseAs_X11 : ∀ w ∈ wsX110, w ∈ wsX11_refuseAs := by decide +kernel
set_option maxHeartbeats 4000000 in
set_option maxRecDepth 100000 in
theorem k_refuseAs (l : Launch) (dC : Nat → ClassId) (dI : Nat → Nat → Nat) (o : Nat) (v0 : Value) (v1 : Value) (v2 : Value) (v3 : Value) (v4 : Value) (v5 : Value) (v6 : Value) (v7 : Value) (v8 : Value) (ar : Nat) (v10 : Value) (v11 : Value) (cr : ClassId) (fr : Nat → Int32) (rs : Int32) (an : Int32) (sz : Nat) : Met l yX11_refuseAs wsX11_refuseAs ({ frames := 0, cells := 0, slots := 0, locals := 0 }) (va_Pc [.ref o, .int rs, .int an] (fun U => U.heap.size = sz ∧ va_P (dC, dI) vwCl [(o, .inr (11, [v0, v1, v2, v3, v4, v5, v6, v7, v8, .ref ar, v10, v11])), (ar, .inl (cr, 3, .inl fr))] U.heap ∧ va_K (dC, dI) vwCl [(cr, .int)] U ∧ va_D (fun _ => True) [(o, .inr (11, [v0, v1, v2, v3, v4, v5, v6, v7, v8, .ref ar, v10, v11])), (ar, .inl (cr, 3, .inl fr))])) (va_Qi (fun (r : Int32) (_ : Unit) => r = an) (fun _ _ => True) (va_A [(o, .inr (11, [v0, v1, v2, v3, v4, v5, v6, v7, v8, .ref ar, v10, v11])), (ar, .inl (cr, 3, .inl fr))] sz)) 0 0 (va_A [(o, .inr (11, [v0, v1, v2, v3, v4, v5, v6, v7, v8, .ref ar, v10, v11])), (ar, .inl (cr, 3, .inl fr))] sz) := by
  refine Met.ofW (cc := cX11_refuseAs) (maxL := 4) (ret := (some .int)) (by decide) rfl ?_
  intro p e s m args below meth c s₁ B hml hv
  obtain ⟨rfl, hsz, hP, hK, hD0⟩ := hv
  have hx := B.exec
  have hb := B.bytes
  have hr := B.returns
  have hts := atoms_spec (ws := wsX11_refuseAs) B.pre
  have hown : s.vm.findClass RX11 = some m.cls := findClass_of_methodNamed B.named
  have hlocks := B.notSynchronized
  subst hsz
  have hD := hD0.self (sz := s.heap.size)
  generalize hAe : va_A [(o, .inr (11, [v0, v1, v2, v3, v4, v5, v6, v7, v8, .ref ar, v10, v11])), (ar, .inl (cr, 3, .inl fr))] s.heap.size = A at hD ⊢
  have hA : ∀ q : Nat, s.heap.size ≤ q → A q := fun q h => by rw [← hAe]; exact Or.inr h
  have hS : va_S A s.heap s.heap [] := va_S.rf
  have hP : va_P (dC, dI) vwCl [(o, .inr (11, [v0, v1, v2, v3, v4, v5, v6, v7, v8, .ref ar, v10, v11])), (ar, .inl (cr, 3, .inl fr))] s.heap := hP
  have hl := lv_entry ([.ref o, .int rs, .int an]) (n := 4) (Nat.le_of_ble_eq_true rfl)
  rw [lg_entry_eq]
  generalize (lg_sl ([.ref o, .int rs, .int an]) ++ List.replicate (4 - (lg_sl ([.ref o, .int rs, .int an])).length) Slot.unset).toArray = ls at hl ⊢
  have hl : lv_has ls 4 [(0, .ref o), (1, .int rs), (2, .int an)] := hl
  refine lv_bipush (v := (-2)) hx hb dX11_refuseAs_0 (by decide) ?_
  refine lv_iload_n hx hb dX11_refuseAs_2 rfl (lv_at hl 1 rfl) ?_
  refine lv_isub hx hb dX11_refuseAs_3 ?_
  refine lv_istore_n (lv' := [(3, .int ((-2) - rs)), (0, .ref o), (1, .int rs), (2, .int an)]) hx hb dX11_refuseAs_4 rfl hl (by decide) rfl (fun ls hl => ?_)
  refine lv_iload_n hx hb dX11_refuseAs_5 rfl (lv_at hl 0 rfl) ?_
  refine lv_if_lt (tgt := 28) hx hb dX11_refuseAs_6 (by decide) (fun c_1 => ?_) (fun c_1 => ?_)
  · refine lv_iload_n hx hb dX11_refuseAs_28 rfl (lv_at hl 3 rfl) ?_
    exact W.iret (v := an) hx hb hr (fun t ht hW => ⟨⟨an, (), rfl, rfl, trivial⟩, hS.F ht⟩) hS.2.2 dX11_refuseAs_29
  · refine lv_iload_n hx hb dX11_refuseAs_9 rfl (lv_at hl 0 rfl) ?_
    refine lv_aload_n hx hb dX11_refuseAs_10 rfl (lv_at hl 1 rfl) ?_
    refine va_get (D := (dC, dI)) (ci := 11) (v := .ref ar) (C := RX11) (T := TX11) (N := 12) hx hb hts iw_k_refuseAs_X11 hown hK hP 0 rfl rfl 9 (by decide) (hts (.fieldLink RX11 75 "ThriceCounted" "refused" "[I") (by decide +kernel)) (fun _ h9 => h9) rfl dX11_refuseAs_11 ?_
    refine va_alen (v := 3) hx hb hK hP 1 0 rfl rfl rfl dX11_refuseAs_14 ?_
    refine lv_icmp_ge (tgt := 28) hx hb dX11_refuseAs_15 (by decide) (fun c_2 => ?_) (fun c_2 => ?_)
    · refine lv_iload_n hx hb dX11_refuseAs_28 rfl (lv_at hl 3 rfl) ?_
      exact W.iret (v := an) hx hb hr (fun t ht hW => ⟨⟨an, (), rfl, rfl, trivial⟩, hS.F ht⟩) hS.2.2 dX11_refuseAs_29
    · refine lv_aload_n hx hb dX11_refuseAs_18 rfl (lv_at hl 1 rfl) ?_
      refine va_get (D := (dC, dI)) (ci := 11) (v := .ref ar) (C := RX11) (T := TX11) (N := 12) hx hb hts iw_k_refuseAs_X11 hown hK hP 0 rfl rfl 9 (by decide) (hts (.fieldLink RX11 75 "ThriceCounted" "refused" "[I") (by decide +kernel)) (fun _ h9 => h9) rfl dX11_refuseAs_19 ?_
      refine lv_iload_n hx hb dX11_refuseAs_22 rfl (lv_at hl 0 rfl) ?_
      refine lv_dup2_11 hx hb dX11_refuseAs_23 rfl rfl ?_
      refine va_iald hx hb hK hP 1 0 rfl rfl (tz_in c_1 c_2 (by decide)) dX11_refuseAs_24 ?_
      refine lv_iconst (v := 1) hx hb dX11_refuseAs_25 (by decide) ?_
      refine lv_iadd hx hb dX11_refuseAs_26 ?_
      refine va_iast hx hb hK hP hD hS 1 0 rfl rfl (tz_in c_1 c_2 (by decide)) dX11_refuseAs_27 (fun H locs hP hD hS => ?_)
      generalize (upd fr (Int32.toNatClampNeg ((-2) - rs)) ((fr (Int32.toNatClampNeg ((-2) - rs))) + 1)) = f_3 at hP hD
      have hP : va_P (dC, dI) vwCl [(o, .inr (11, [v0, v1, v2, v3, v4, v5, v6, v7, v8, .ref ar, v10, v11])), (ar, .inl (cr, 3, .inl f_3))] H := hP
      have hD : va_D A [(o, .inr (11, [v0, v1, v2, v3, v4, v5, v6, v7, v8, .ref ar, v10, v11])), (ar, .inl (cr, 3, .inl f_3))] := hD
      refine lv_iload_n hx hb dX11_refuseAs_28 rfl (lv_at hl 3 rfl) ?_
      exact W.iret (v := an) hx hb hr (fun t ht hW => ⟨⟨an, (), rfl, rfl, trivial⟩, hS.F ht⟩) hS.2.2 dX11_refuseAs_29
set_option maxRecDepth 20000 in
theorem ggX11_refuse_X11_refuseAs : GoodIn wsX11_refuse wsX11_refuseAs := goodIn_r _ [5, 6, 7, 8, 9, 10, 11, 12, 13, 14, 15, 16, 17, 18] (by decide +kernel) (by decide +kernel)
set_option maxRecDepth 20000 in
theorem gX11_refuse_X11_refuseAs : GoodIn wsX11_refuse (wsV RX11 172 RX11 yX11_refuseAs wsX11_refuseAs) := goodIn_app (goodIn_of _ (by decide +kernel)) ggX11_refuse_X11_refuseAs
theorem dX11_refuse_0 : decode cX11_refuse 0 = .ok (.aload_n 0, 1) := by decide +kernel
theorem dX11_refuse_1 : decode cX11_refuse 1 = .ok (.iload_n 1, 1) := by decide +kernel
theorem dX11_refuse_2 : decode cX11_refuse 2 = .ok (.iload_n 1, 1) := by decide +kernel
theorem dX11_refuse_3 : decode cX11_refuse 3 = .ok (.invokevirtual 172, 3) := by decide +kernel
theorem dX11_refuse_6 : decode cX11_refuse 6 = .ok (.ireturn, 1) := by decide +kernel
set_option maxHeartbeats 4000000 in
set_option maxRecDepth 100000 in
theorem k_refuse (l : Launch) (dC : Nat → ClassId) (dI : Nat → Nat → Nat) (o : Nat) (v0 : Value) (v1 : Value) (v2 : Value) (v3 : Value) (v4 : Value) (v5 : Value) (v6 : Value) (v7 : Value) (v8 : Value) (ar : Nat) (v10 : Value) (v11 : Value) (cr : ClassId) (fr : Nat → Int32) (rs : Int32) (sz : Nat) : Met l yX11_refuse wsX11_refuse ({ frames := 1, cells := 0, slots := 0, locals := 23 }) (va_Pc [.ref o, .int rs] (fun U => U.heap.size = sz ∧ va_P (dC, dI) vwCl [(o, .inr (11, [v0, v1, v2, v3, v4, v5, v6, v7, v8, .ref ar, v10, v11])), (ar, .inl (cr, 3, .inl fr))] U.heap ∧ va_K (dC, dI) vwCl [(cr, .int)] U ∧ va_D (fun _ => True) [(o, .inr (11, [v0, v1, v2, v3, v4, v5, v6, v7, v8, .ref ar, v10, v11])), (ar, .inl (cr, 3, .inl fr))])) (va_Qi (fun (r : Int32) (_ : Unit) => r = rs) (fun _ _ => True) (va_A [(o, .inr (11, [v0, v1, v2, v3, v4, v5, v6, v7, v8, .ref ar, v10, v11])), (ar, .inl (cr, 3, .inl fr))] sz)) 0 0 (va_A [(o, .inr (11, [v0, v1, v2, v3, v4, v5, v6, v7, v8, .ref ar, v10, v11])), (ar, .inl (cr, 3, .inl fr))] sz) := by
  refine Met.ofW (cc := cX11_refuse) (maxL := 2) (ret := (some .int)) (by decide) rfl ?_
  intro p e s m args below meth c s₁ B hml hv
  obtain ⟨rfl, hsz, hP, hK, hD0⟩ := hv
  have hx := B.exec
  have hb := B.bytes
  have hr := B.returns
  have hts := atoms_spec (ws := wsX11_refuse) B.pre
  have hown : s.vm.findClass RX11 = some m.cls := findClass_of_methodNamed B.named
  have hlocks := B.notSynchronized
  subst hsz
  have hD := hD0.self (sz := s.heap.size)
  generalize hAe : va_A [(o, .inr (11, [v0, v1, v2, v3, v4, v5, v6, v7, v8, .ref ar, v10, v11])), (ar, .inl (cr, 3, .inl fr))] s.heap.size = A at hD ⊢
  have hA : ∀ q : Nat, s.heap.size ≤ q → A q := fun q h => by rw [← hAe]; exact Or.inr h
  have hS : va_S A s.heap s.heap [] := va_S.rf
  have hP : va_P (dC, dI) vwCl [(o, .inr (11, [v0, v1, v2, v3, v4, v5, v6, v7, v8, .ref ar, v10, v11])), (ar, .inl (cr, 3, .inl fr))] s.heap := hP
  have hl := lv_entry ([.ref o, .int rs]) (n := 2) (Nat.le_of_ble_eq_true rfl)
  rw [lg_entry_eq]
  generalize (lg_sl ([.ref o, .int rs]) ++ List.replicate (2 - (lg_sl ([.ref o, .int rs])).length) Slot.unset).toArray = ls at hl ⊢
  have hl : lv_has ls 2 [(0, .ref o), (1, .int rs)] := hl
  refine lv_aload_n hx hb dX11_refuse_0 rfl (lv_at hl 0 rfl) ?_
  refine lv_iload_n hx hb dX11_refuse_1 rfl (lv_at hl 1 rfl) ?_
  refine lv_iload_n hx hb dX11_refuse_2 rfl (lv_at hl 1 rfl) ?_
  have hPc := hP.sub (ws' := [(o, .inr (11, [v0, v1, v2, v3, v4, v5, v6, v7, v8, .ref ar, v10, v11])), (ar, .inl (cr, 3, .inl fr))]) [0, 1] rfl
  have hDc := hD.sub (ws' := [(o, .inr (11, [v0, v1, v2, v3, v4, v5, v6, v7, v8, .ref ar, v10, v11])), (ar, .inl (cr, 3, .inl fr))]) [0, 1] (by decide) rfl
  have hKc := hK.sub (tys' := [(cr, .int)]) [0] rfl
  have hFc := va_free (wc := [(o, .inr (11, [v0, v1, v2, v3, v4, v5, v6, v7, v8, .ref ar, v10, v11])), (ar, .inl (cr, 3, .inl fr))]) hD hS hA [0, 1] rfl
  refine va_calli (va_runV (As := [.int rs, .int rs]) (rest := []) ⟨hx, hb, hml, hown, hts⟩ (k_refuseAs l dC dI o v0 v1 v2 v3 v4 v5 v6 v7 v8 ar v10 v11 cr fr rs rs s.heap.size) (cwV 2 hts gX11_refuse_X11_refuseAs rfl rfl rfl (by decide +kernel) ⟨Nat.le_of_ble_eq_true rfl, Nat.le_of_ble_eq_true rfl⟩) ⟨fun a U g mk q => by obtain ⟨q0, q1, qP, qK, qD⟩ := q; exact ⟨q0, q1, qP, va_K.moved (u := U) (U := U.calling g mk a) (Vm.Alike.refl U.vm) qK, qD⟩, va_recv hK hP (ci := 11) (q0 := 0) rfl rfl, fun U hU hW => ⟨rfl, by rw [hU], by rw [hU]; exact hPc, va_K.moved hW.alike hKc, hDc.weaken (fun _ _ _ _ => trivial)⟩⟩ rfl rfl hl.1 rfl (lv_room (Nat.le_of_ble_eq_true rfl)) dX11_refuse_3 ⟨Nat.le_of_ble_eq_true rfl, Nat.le_of_ble_eq_true rfl⟩) hS (fun q _ h => hFc q h) hFc (fun r_1 u_ t H1 locs ht hvm hw_2 hB hz1 hk1 hS => ?_)
  obtain ⟨hP, hD⟩ := va_join (wr := []) (w1 := []) hP hD [0, 1] [] rfl rfl (by decide) (by decide) hk1 hFc tz_P0 tz_D0
  generalize H1 = H at hP hS ⊢
  have hP : va_P (dC, dI) vwCl [] H := hP
  have hD : va_D A [] := hD
  obtain rfl : rs = r_1 := hw_2.symm
  exact W.iret (v := rs) hx hb hr (fun t ht hW => ⟨⟨rs, (), rfl, rfl, trivial⟩, hS.F ht⟩) hS.2.2 dX11_refuse_6
theorem dX11_isWay_0 : decode cX11_isWay 0 = .ok (.iload_n 1, 1) := by decide +kernel
theorem dX11_isWay_1 : decode cX11_isWay 1 = .ok (.ifCond .lt 16, 3) := by decide +kernel
theorem dX11_isWay_17 : decode cX11_isWay 17 = .ok (.iconst 0, 1) := by decide +kernel
theorem dX11_isWay_18 : decode cX11_isWay 18 = .ok (.ireturn, 1) := by decide +kernel
theorem dX11_isWay_4 : decode cX11_isWay 4 = .ok (.iload_n 1, 1) := by decide +kernel
theorem dX11_isWay_5 : decode cX11_isWay 5 = .ok (.aload_n 0, 1) := by decide +kernel
theorem dX11_isWay_6 : decode cX11_isWay 6 = .ok (.getfield 25, 3) := by decide +kernel
theorem dX11_isWay_9 : decode cX11_isWay 9 = .ok (.arraylength, 1) := by decide +kernel
theorem dX11_isWay_10 : decode cX11_isWay 10 = .ok (.if_icmp .ge 7, 3) := by decide +kernel
theorem dX11_isWay_13 : decode cX11_isWay 13 = .ok (.iconst 1, 1) := by decide +kernel
theorem dX11_isWay_14 : decode cX11_isWay 14 = .ok (.goto 4, 3) := by decide +kernel
set_option maxRecDepth 20000 in
theorem iw_k_isWay_X11 : ∀ w ∈ wsX110, w ∈ wsX11_isWay := by decide +kernel
set_option maxHeartbeats 4000000 in
set_option maxRecDepth 100000 in
theorem k_isWay (l : Launch) (dC : Nat → ClassId) (dI : Nat → Nat → Nat) (o : Nat) (aw : Nat) (v1 : Value) (v2 : Value) (v3 : Value) (v4 : Value) (v5 : Value) (v6 : Value) (v7 : Value) (v8 : Value) (v9 : Value) (v10 : Value) (v11 : Value) (cw : ClassId) (w0 : Nat) (w1 : Nat) (w2 : Nat) (w3 : Nat) (w4 : Nat) (w5 : Nat) (na : Int32) : Met l yX11_isWay wsX11_isWay ({ frames := 0, cells := 0, slots := 0, locals := 0 }) (va_Pc [.ref o, .int na] (fun U => va_P (dC, dI) vwCl [(o, .inr (11, [.ref aw, v1, v2, v3, v4, v5, v6, v7, v8, v9, v10, v11])), (aw, .inl (cw, 6, .inr (.inr (.inr (.inr (tz_w w0 w1 w2 w3 w4 w5))))))] U.heap ∧ va_K (dC, dI) vwCl [(cw, (.object "ThriceCounted$Ones"))] U)) (vp_Si (fun r => r = if 0 ≤ na ∧ na ≤ 5 then 1 else 0)) 0 0 (fun _ => False) := by
  refine Met.ofW (cc := cX11_isWay) (maxL := 2) (ret := (some .boolean)) (by decide) rfl ?_
  intro p e s m args below meth c s₁ B hml hv
  obtain ⟨rfl, hP, hK⟩ := hv
  have hx := B.exec
  have hb := B.bytes
  have hr := B.returns
  have hts := atoms_spec (ws := wsX11_isWay) B.pre
  have hown : s.vm.findClass RX11 = some m.cls := findClass_of_methodNamed B.named
  have hlocks := B.notSynchronized
  have hl := lv_entry ([.ref o, .int na]) (n := 2) (Nat.le_of_ble_eq_true rfl)
  rw [lg_entry_eq]
  generalize (lg_sl ([.ref o, .int na]) ++ List.replicate (2 - (lg_sl ([.ref o, .int na])).length) Slot.unset).toArray = ls at hl ⊢
  have hl : lv_has ls 2 [(0, .ref o), (1, .int na)] := hl
  refine lv_iload_n hx hb dX11_isWay_0 rfl (lv_at hl 1 rfl) ?_
  refine lv_if_lt (tgt := 17) hx hb dX11_isWay_1 (by decide) (fun c_1 => ?_) (fun c_1 => ?_)
  · refine lv_iconst (v := 0) hx hb dX11_isWay_17 (by decide) ?_
    exact W.zret (v := 0) hx hb hr (by decide) (fun t ht hW => ⟨0, rfl, (if_neg (fun z => tz_ltn c_1 z.1)).symm, ht⟩) (fun _ h => absurd h List.not_mem_nil) dX11_isWay_18
  · refine lv_iload_n hx hb dX11_isWay_4 rfl (lv_at hl 1 rfl) ?_
    refine lv_aload_n hx hb dX11_isWay_5 rfl (lv_at hl 0 rfl) ?_
    refine va_get (D := (dC, dI)) (ci := 11) (v := .ref aw) (C := RX11) (T := TX11) (N := 12) hx hb hts iw_k_isWay_X11 hown hK hP 0 rfl rfl 0 (by decide) (hts (.fieldLink RX11 25 "ThriceCounted" "ways" "[LThriceCounted$Ones;") (by decide +kernel)) (fun _ h9 => h9) rfl dX11_isWay_6 ?_
    refine va_alen (v := 6) hx hb hK hP 1 0 rfl rfl rfl dX11_isWay_9 ?_
    refine lv_icmp_ge (tgt := 17) hx hb dX11_isWay_10 (by decide) (fun c_2 => ?_) (fun c_2 => ?_)
    · refine lv_iconst (v := 0) hx hb dX11_isWay_17 (by decide) ?_
      exact W.zret (v := 0) hx hb hr (by decide) (fun t ht hW => ⟨0, rfl, (if_neg (fun z => tz_gele c_2 (by decide) z.2)).symm, ht⟩) (fun _ h => absurd h List.not_mem_nil) dX11_isWay_18
    · refine lv_iconst (v := 1) hx hb dX11_isWay_13 (by decide) ?_
      refine lv_goto (tgt := 18) hx hb dX11_isWay_14 (by decide) ?_
      exact W.zret (v := 1) hx hb hr (by decide) (fun t ht hW => ⟨1, rfl, (if_pos ⟨tz_nlt c_1, tz_ltle c_2 (by decide)⟩).symm, ht⟩) (fun _ h => absurd h List.not_mem_nil) dX11_isWay_18
theorem dX11_isImage_0 : decode cX11_isImage 0 = .ok (.iload_n 1, 1) := by decide +kernel
theorem dX11_isImage_1 : decode cX11_isImage 1 = .ok (.ifCond .lt 25, 3) := by decide +kernel
theorem dX11_isImage_26 : decode cX11_isImage 26 = .ok (.iconst 0, 1) := by decide +kernel
theorem dX11_isImage_27 : decode cX11_isImage 27 = .ok (.ireturn, 1) := by decide +kernel
theorem dX11_isImage_4 : decode cX11_isImage 4 = .ok (.iload_n 1, 1) := by decide +kernel
theorem dX11_isImage_5 : decode cX11_isImage 5 = .ok (.aload_n 0, 1) := by decide +kernel
theorem dX11_isImage_6 : decode cX11_isImage 6 = .ok (.getfield 38, 3) := by decide +kernel
theorem dX11_isImage_9 : decode cX11_isImage 9 = .ok (.arraylength, 1) := by decide +kernel
theorem dX11_isImage_10 : decode cX11_isImage 10 = .ok (.if_icmp .ge 16, 3) := by decide +kernel
theorem dX11_isImage_13 : decode cX11_isImage 13 = .ok (.iload_n 1, 1) := by decide +kernel
theorem dX11_isImage_14 : decode cX11_isImage 14 = .ok (.aload_n 0, 1) := by decide +kernel
theorem dX11_isImage_15 : decode cX11_isImage 15 = .ok (.getfield 42, 3) := by decide +kernel
theorem dX11_isImage_18 : decode cX11_isImage 18 = .ok (.arraylength, 1) := by decide +kernel
theorem dX11_isImage_19 : decode cX11_isImage 19 = .ok (.if_icmp .ge 7, 3) := by decide +kernel
theorem dX11_isImage_22 : decode cX11_isImage 22 = .ok (.iconst 1, 1) := by decide +kernel
theorem dX11_isImage_23 : decode cX11_isImage 23 = .ok (.goto 4, 3) := by decide +kernel
set_option maxRecDepth 20000 in
theorem iw_k_isImage_X11 : ∀ w ∈ wsX110, w ∈ wsX11_isImage := by decide +kernel
set_option maxHeartbeats 4000000 in
set_option maxRecDepth 100000 in
theorem k_isImage (l : Launch) (dC : Nat → ClassId) (dI : Nat → Nat → Nat) (o : Nat) (v0 : Value) (v1 : Value) (ai : Nat) (ak : Nat) (v4 : Value) (v5 : Value) (v6 : Value) (v7 : Value) (v8 : Value) (v9 : Value) (v10 : Value) (v11 : Value) (ci : ClassId) (i0 : Nat) (i1 : Nat) (ck : ClassId) (na : Int32) : Met l yX11_isImage wsX11_isImage ({ frames := 0, cells := 0, slots := 0, locals := 0 }) (va_Pc [.ref o, .int na] (fun U => va_P (dC, dI) vwCl [(o, .inr (11, [v0, v1, .ref ai, .ref ak, v4, v5, v6, v7, v8, v9, v10, v11])), (ai, .inl (ci, 2, .inr (.inr (.inr (.inr (tz_w2 i0 i1)))))), (ak, .inl (ck, 2, .inl (fun _ => 0)))] U.heap ∧ va_K (dC, dI) vwCl [(ci, (.object "ThriceCounted$Bank")), (ck, .boolean)] U)) (vp_Si (fun r => r = if 0 ≤ na ∧ na ≤ 1 then 1 else 0)) 0 0 (fun _ => False) := by
  refine Met.ofW (cc := cX11_isImage) (maxL := 2) (ret := (some .boolean)) (by decide) rfl ?_
  intro p e s m args below meth c s₁ B hml hv
  obtain ⟨rfl, hP, hK⟩ := hv
  have hx := B.exec
  have hb := B.bytes
  have hr := B.returns
  have hts := atoms_spec (ws := wsX11_isImage) B.pre
  have hown : s.vm.findClass RX11 = some m.cls := findClass_of_methodNamed B.named
  have hlocks := B.notSynchronized
  have hl := lv_entry ([.ref o, .int na]) (n := 2) (Nat.le_of_ble_eq_true rfl)
  rw [lg_entry_eq]
  generalize (lg_sl ([.ref o, .int na]) ++ List.replicate (2 - (lg_sl ([.ref o, .int na])).length) Slot.unset).toArray = ls at hl ⊢
  have hl : lv_has ls 2 [(0, .ref o), (1, .int na)] := hl
  refine lv_iload_n hx hb dX11_isImage_0 rfl (lv_at hl 1 rfl) ?_
  refine lv_if_lt (tgt := 26) hx hb dX11_isImage_1 (by decide) (fun c_1 => ?_) (fun c_1 => ?_)
  · refine lv_iconst (v := 0) hx hb dX11_isImage_26 (by decide) ?_
    exact W.zret (v := 0) hx hb hr (by decide) (fun t ht hW => ⟨0, rfl, (if_neg (fun z => tz_ltn c_1 z.1)).symm, ht⟩) (fun _ h => absurd h List.not_mem_nil) dX11_isImage_27
  · refine lv_iload_n hx hb dX11_isImage_4 rfl (lv_at hl 1 rfl) ?_
    refine lv_aload_n hx hb dX11_isImage_5 rfl (lv_at hl 0 rfl) ?_
    refine va_get (D := (dC, dI)) (ci := 11) (v := .ref ai) (C := RX11) (T := TX11) (N := 12) hx hb hts iw_k_isImage_X11 hown hK hP 0 rfl rfl 2 (by decide) (hts (.fieldLink RX11 38 "ThriceCounted" "images" "[LThriceCounted$Bank;") (by decide +kernel)) (fun _ h9 => h9) rfl dX11_isImage_6 ?_
    refine va_alen (v := 2) hx hb hK hP 1 0 rfl rfl rfl dX11_isImage_9 ?_
    refine lv_icmp_ge (tgt := 26) hx hb dX11_isImage_10 (by decide) (fun c_2 => ?_) (fun c_2 => ?_)
    · refine lv_iconst (v := 0) hx hb dX11_isImage_26 (by decide) ?_
      exact W.zret (v := 0) hx hb hr (by decide) (fun t ht hW => ⟨0, rfl, (if_neg (fun z => tz_gele c_2 (by decide) z.2)).symm, ht⟩) (fun _ h => absurd h List.not_mem_nil) dX11_isImage_27
    · refine lv_iload_n hx hb dX11_isImage_13 rfl (lv_at hl 1 rfl) ?_
      refine lv_aload_n hx hb dX11_isImage_14 rfl (lv_at hl 0 rfl) ?_
      refine va_get (D := (dC, dI)) (ci := 11) (v := .ref ak) (C := RX11) (T := TX11) (N := 12) hx hb hts iw_k_isImage_X11 hown hK hP 0 rfl rfl 3 (by decide) (hts (.fieldLink RX11 42 "ThriceCounted" "kept" "[Z") (by decide +kernel)) (fun _ h9 => h9) rfl dX11_isImage_15 ?_
      refine va_alen (v := 2) hx hb hK hP 2 1 rfl rfl rfl dX11_isImage_18 ?_
      refine lv_icmp_ge (tgt := 26) hx hb dX11_isImage_19 (by decide) (fun c_3 => ?_) (fun c_3 => ?_)
      · refine lv_iconst (v := 0) hx hb dX11_isImage_26 (by decide) ?_
        exact W.zret (v := 0) hx hb hr (by decide) (fun t ht hW => ⟨0, rfl, (if_neg (fun z => tz_gele c_3 (by decide) z.2)).symm, ht⟩) (fun _ h => absurd h List.not_mem_nil) dX11_isImage_27
      · refine lv_iconst (v := 1) hx hb dX11_isImage_22 (by decide) ?_
        refine lv_goto (tgt := 27) hx hb dX11_isImage_23 (by decide) ?_
        exact W.zret (v := 1) hx hb hr (by decide) (fun t ht hW => ⟨1, rfl, (if_pos ⟨tz_nlt c_1, tz_ltle c_2 (by decide)⟩).symm, ht⟩) (fun _ h => absurd h List.not_mem_nil) dX11_isImage_27
theorem dX6_has_0 : decode cX6_has 0 = .ok (.iload_n 1, 1) := by decide +kernel
theorem dX6_has_1 : decode cX6_has 1 = .ok (.ifCond .lt 15, 3) := by decide +kernel
theorem dX6_has_16 : decode cX6_has 16 = .ok (.iconst 0, 1) := by decide +kernel
theorem dX6_has_17 : decode cX6_has 17 = .ok (.ireturn, 1) := by decide +kernel
theorem dX6_has_4 : decode cX6_has 4 = .ok (.iload_n 1, 1) := by decide +kernel
theorem dX6_has_5 : decode cX6_has 5 = .ok (.aload_n 0, 1) := by decide +kernel
theorem dX6_has_6 : decode cX6_has 6 = .ok (.getfield 9, 3) := by decide +kernel
theorem dX6_has_9 : decode cX6_has 9 = .ok (.if_icmp .ge 7, 3) := by decide +kernel
set_option maxRecDepth 20000 in
theorem iw_k_has0_X6 : ∀ w ∈ wsX60, w ∈ wsX6_has := by decide +kernel
set_option maxHeartbeats 4000000 in
set_option maxRecDepth 100000 in
theorem k_has0 (l : Launch) (dC : Nat → ClassId) (dI : Nat → Nat → Nat) (ro : Nat) (w0 : Value) (w1 : Value) (w2 : Value) (na : Int32) : Met l yX6_has wsX6_has ({ frames := 0, cells := 0, slots := 0, locals := 0 }) (va_Pc [.ref ro, .int na] (fun U => va_P (dC, dI) vwCl [(ro, .inr (6, [w0, w1, w2, .int 0]))] U.heap ∧ va_K (dC, dI) vwCl [] U)) (vp_Si (fun r => r = 0)) 0 0 (fun _ => False) := by
  refine Met.ofW (cc := cX6_has) (maxL := 2) (ret := (some .boolean)) (by decide) rfl ?_
  intro p e s m args below meth c s₁ B hml hv
  obtain ⟨rfl, hP, hK⟩ := hv
  have hx := B.exec
  have hb := B.bytes
  have hr := B.returns
  have hts := atoms_spec (ws := wsX6_has) B.pre
  have hown : s.vm.findClass RX6 = some m.cls := findClass_of_methodNamed B.named
  have hlocks := B.notSynchronized
  have hl := lv_entry ([.ref ro, .int na]) (n := 2) (Nat.le_of_ble_eq_true rfl)
  rw [lg_entry_eq]
  generalize (lg_sl ([.ref ro, .int na]) ++ List.replicate (2 - (lg_sl ([.ref ro, .int na])).length) Slot.unset).toArray = ls at hl ⊢
  have hl : lv_has ls 2 [(0, .ref ro), (1, .int na)] := hl
  refine lv_iload_n hx hb dX6_has_0 rfl (lv_at hl 1 rfl) ?_
  refine lv_if_lt (tgt := 16) hx hb dX6_has_1 (by decide) (fun c_1 => ?_) (fun c_1 => ?_)
  · refine lv_iconst (v := 0) hx hb dX6_has_16 (by decide) ?_
    exact W.zret (v := 0) hx hb hr (by decide) (fun t ht hW => ⟨0, rfl, rfl, ht⟩) (fun _ h => absurd h List.not_mem_nil) dX6_has_17
  · refine lv_iload_n hx hb dX6_has_4 rfl (lv_at hl 1 rfl) ?_
    refine lv_aload_n hx hb dX6_has_5 rfl (lv_at hl 0 rfl) ?_
    refine va_get (D := (dC, dI)) (ci := 6) (v := .int 0) (C := RX6) (T := TX6) (N := 4) hx hb hts iw_k_has0_X6 hown hK hP 0 rfl rfl 3 (by decide) (hts (.fieldLink RX6 9 "ThriceCounted$Rows" "size" "I") (by decide +kernel)) (fun _ h9 => h9) rfl dX6_has_6 ?_
    refine lv_icmp_ge (tgt := 16) hx hb dX6_has_9 (by decide) (fun c_2 => ?_) (fun c_2 => ?_)
    · refine lv_iconst (v := 0) hx hb dX6_has_16 (by decide) ?_
      exact W.zret (v := 0) hx hb hr (by decide) (fun t ht hW => ⟨0, rfl, rfl, ht⟩) (fun _ h => absurd h List.not_mem_nil) dX6_has_17
    · exact absurd (tz_nlt c_1) c_2
theorem dX6_isFull_0 : decode cX6_isFull 0 = .ok (.aload_n 0, 1) := by decide +kernel
theorem dX6_isFull_1 : decode cX6_isFull 1 = .ok (.getfield 9, 3) := by decide +kernel
theorem dX6_isFull_4 : decode cX6_isFull 4 = .ok (.aload_n 0, 1) := by decide +kernel
theorem dX6_isFull_5 : decode cX6_isFull 5 = .ok (.getfield 21, 3) := by decide +kernel
theorem dX6_isFull_8 : decode cX6_isFull 8 = .ok (.if_icmp .lt 7, 3) := by decide +kernel
theorem dX6_isFull_15 : decode cX6_isFull 15 = .ok (.iconst 0, 1) := by decide +kernel
theorem dX6_isFull_16 : decode cX6_isFull 16 = .ok (.ireturn, 1) := by decide +kernel
set_option maxRecDepth 20000 in
theorem iw_k_isFull0_X6 : ∀ w ∈ wsX60, w ∈ wsX6_isFull := by decide +kernel
set_option maxHeartbeats 4000000 in
set_option maxRecDepth 100000 in
theorem k_isFull0 (l : Launch) (dC : Nat → ClassId) (dI : Nat → Nat → Nat) (ro : Nat) (w0 : Value) (nl : Int32) (w2 : Value) (hL : ¬ nl ≤ 0) : Met l yX6_isFull wsX6_isFull ({ frames := 0, cells := 0, slots := 0, locals := 0 }) (va_Pc [.ref ro] (fun U => va_P (dC, dI) vwCl [(ro, .inr (6, [w0, .int nl, w2, .int 0]))] U.heap ∧ va_K (dC, dI) vwCl [] U)) (vp_Si (fun r => r = 0)) 0 0 (fun _ => False) := by
  refine Met.ofW (cc := cX6_isFull) (maxL := 1) (ret := (some .boolean)) (by decide) rfl ?_
  intro p e s m args below meth c s₁ B hml hv
  obtain ⟨rfl, hP, hK⟩ := hv
  have hx := B.exec
  have hb := B.bytes
  have hr := B.returns
  have hts := atoms_spec (ws := wsX6_isFull) B.pre
  have hown : s.vm.findClass RX6 = some m.cls := findClass_of_methodNamed B.named
  have hlocks := B.notSynchronized
  have hl := lv_entry ([.ref ro]) (n := 1) (Nat.le_of_ble_eq_true rfl)
  rw [lg_entry_eq]
  generalize (lg_sl ([.ref ro]) ++ List.replicate (1 - (lg_sl ([.ref ro])).length) Slot.unset).toArray = ls at hl ⊢
  have hl : lv_has ls 1 [(0, .ref ro)] := hl
  refine lv_aload_n hx hb dX6_isFull_0 rfl (lv_at hl 0 rfl) ?_
  refine va_get (D := (dC, dI)) (ci := 6) (v := .int 0) (C := RX6) (T := TX6) (N := 4) hx hb hts iw_k_isFull0_X6 hown hK hP 0 rfl rfl 3 (by decide) (hts (.fieldLink RX6 9 "ThriceCounted$Rows" "size" "I") (by decide +kernel)) (fun _ h9 => h9) rfl dX6_isFull_1 ?_
  refine lv_aload_n hx hb dX6_isFull_4 rfl (lv_at hl 0 rfl) ?_
  refine va_get (D := (dC, dI)) (ci := 6) (v := .int nl) (C := RX6) (T := TX6) (N := 4) hx hb hts iw_k_isFull0_X6 hown hK hP 0 rfl rfl 1 (by decide) (hts (.fieldLink RX6 21 "ThriceCounted$Rows" "limit" "I") (by decide +kernel)) (fun _ h9 => h9) rfl dX6_isFull_5 ?_
  refine lv_icmp_lt (tgt := 15) hx hb dX6_isFull_8 (by decide) (fun c_1 => ?_) (fun c_1 => ?_)
  · refine lv_iconst (v := 0) hx hb dX6_isFull_15 (by decide) ?_
    exact W.zret (v := 0) hx hb hr (by decide) (fun t ht hW => ⟨0, rfl, rfl, ht⟩) (fun _ h => absurd h List.not_mem_nil) dX6_isFull_16
  · exact absurd (tz_nle hL) c_1
theorem dX6_size_0 : decode cX6_size 0 = .ok (.aload_n 0, 1) := by decide +kernel
theorem dX6_size_1 : decode cX6_size 1 = .ok (.getfield 9, 3) := by decide +kernel
theorem dX6_size_4 : decode cX6_size 4 = .ok (.ireturn, 1) := by decide +kernel
set_option maxRecDepth 20000 in
theorem iw_k_size_X6 : ∀ w ∈ wsX60, w ∈ wsX6_size := by decide +kernel
set_option maxHeartbeats 4000000 in
set_option maxRecDepth 100000 in
theorem k_size (l : Launch) (dC : Nat → ClassId) (dI : Nat → Nat → Nat) (ro : Nat) (w0 : Value) (w1 : Value) (w2 : Value) (nz : Int32) : Met l yX6_size wsX6_size ({ frames := 0, cells := 0, slots := 0, locals := 0 }) (va_Pc [.ref ro] (fun U => va_P (dC, dI) vwCl [(ro, .inr (6, [w0, w1, w2, .int nz]))] U.heap ∧ va_K (dC, dI) vwCl [] U)) (vp_Si (fun r => r = nz)) 0 0 (fun _ => False) := by
  refine Met.ofW (cc := cX6_size) (maxL := 1) (ret := (some .int)) (by decide) rfl ?_
  intro p e s m args below meth c s₁ B hml hv
  obtain ⟨rfl, hP, hK⟩ := hv
  have hx := B.exec
  have hb := B.bytes
  have hr := B.returns
  have hts := atoms_spec (ws := wsX6_size) B.pre
  have hown : s.vm.findClass RX6 = some m.cls := findClass_of_methodNamed B.named
  have hlocks := B.notSynchronized
  have hl := lv_entry ([.ref ro]) (n := 1) (Nat.le_of_ble_eq_true rfl)
  rw [lg_entry_eq]
  generalize (lg_sl ([.ref ro]) ++ List.replicate (1 - (lg_sl ([.ref ro])).length) Slot.unset).toArray = ls at hl ⊢
  have hl : lv_has ls 1 [(0, .ref ro)] := hl
  refine lv_aload_n hx hb dX6_size_0 rfl (lv_at hl 0 rfl) ?_
  refine va_get (D := (dC, dI)) (ci := 6) (v := .int nz) (C := RX6) (T := TX6) (N := 4) hx hb hts iw_k_size_X6 hown hK hP 0 rfl rfl 3 (by decide) (hts (.fieldLink RX6 9 "ThriceCounted$Rows" "size" "I") (by decide +kernel)) (fun _ h9 => h9) rfl dX6_size_1 ?_
  exact W.iret (v := nz) hx hb hr (fun t ht hW => ⟨nz, rfl, rfl, ht⟩) (fun _ h => absurd h List.not_mem_nil) dX6_size_4
theorem dX6_empty_0 : decode cX6_empty 0 = .ok (.aload_n 0, 1) := by decide +kernel
theorem dX6_empty_1 : decode cX6_empty 1 = .ok (.iconst 0, 1) := by decide +kernel
theorem dX6_empty_2 : decode cX6_empty 2 = .ok (.putfield 9, 3) := by decide +kernel
theorem dX6_empty_5 : decode cX6_empty 5 = .ok (.return_, 1) := by decide +kernel
set_option maxRecDepth 20000 in
theorem iw_k_empty_X6 : ∀ w ∈ wsX60, w ∈ wsX6_empty := by decide +kernel
set_option maxHeartbeats 4000000 in
set_option maxRecDepth 100000 in
theorem k_empty (l : Launch) (dC : Nat → ClassId) (dI : Nat → Nat → Nat) (ro : Nat) (w0 : Value) (w1 : Value) (w2 : Value) (w3 : Value) (sz : Nat) : Met l yX6_empty wsX6_empty ({ frames := 0, cells := 0, slots := 0, locals := 0 }) (va_Pc [.ref ro] (fun U => U.heap.size = sz ∧ va_P (dC, dI) vwCl [(ro, .inr (6, [w0, w1, w2, w3]))] U.heap ∧ va_K (dC, dI) vwCl [] U ∧ va_D (fun _ => True) [(ro, .inr (6, [w0, w1, w2, w3]))])) (va_Qv (fun (_ : Unit) => True) (fun _ _ => True) (va_A [(ro, .inr (6, [w0, w1, w2, w3]))] sz)) 0 0 (va_A [(ro, .inr (6, [w0, w1, w2, w3]))] sz) := by
  refine Met.ofW (cc := cX6_empty) (maxL := 1) (ret := none) (by decide) rfl ?_
  intro p e s m args below meth c s₁ B hml hv
  obtain ⟨rfl, hsz, hP, hK, hD0⟩ := hv
  have hx := B.exec
  have hb := B.bytes
  have hr := B.returns
  have hts := atoms_spec (ws := wsX6_empty) B.pre
  have hown : s.vm.findClass RX6 = some m.cls := findClass_of_methodNamed B.named
  have hlocks := B.notSynchronized
  subst hsz
  have hD := hD0.self (sz := s.heap.size)
  generalize hAe : va_A [(ro, .inr (6, [w0, w1, w2, w3]))] s.heap.size = A at hD ⊢
  have hA : ∀ q : Nat, s.heap.size ≤ q → A q := fun q h => by rw [← hAe]; exact Or.inr h
  have hS : va_S A s.heap s.heap [] := va_S.rf
  have hP : va_P (dC, dI) vwCl [(ro, .inr (6, [w0, w1, w2, w3]))] s.heap := hP
  have hl := lv_entry ([.ref ro]) (n := 1) (Nat.le_of_ble_eq_true rfl)
  rw [lg_entry_eq]
  generalize (lg_sl ([.ref ro]) ++ List.replicate (1 - (lg_sl ([.ref ro])).length) Slot.unset).toArray = ls at hl ⊢
  have hl : lv_has ls 1 [(0, .ref ro)] := hl
  refine lv_aload_n hx hb dX6_empty_0 rfl (lv_at hl 0 rfl) ?_
  refine lv_iconst (v := 0) hx hb dX6_empty_1 (by decide) ?_
  refine va_put (D := (dC, dI)) (ci := 6) (v := .int 0) (ty := .int) (C := RX6) (T := TX6) (N := 4) hx hb hts iw_k_empty_X6 tyX6 tyX6_ok nmX6 hown hK hP hD hS 0 rfl rfl 3 (by decide) (hts (.fieldLink RX6 9 "ThriceCounted$Rows" "size" "I") (by decide +kernel)) (fun _ h9 => h9) rfl (by decide +kernel) rfl rfl (Nat.le_of_ble_eq_true rfl) dX6_empty_2 (fun H locs hP hD hS => ?_)
  have hP : va_P (dC, dI) vwCl [(ro, .inr (6, [w0, w1, w2, .int 0]))] H := hP
  have hD : va_D A [(ro, .inr (6, [w0, w1, w2, .int 0]))] := hD
  exact W.vret hx hb hr (fun t ht hW => ⟨⟨(), rfl, trivial, trivial⟩, hS.F ht⟩) hS.2.2 dX6_empty_5
set_option maxRecDepth 20000 in
theorem ggX6_grow_X6_isFull : GoodIn wsX6_grow wsX6_isFull := goodIn_r _ [6, 1, 7, 8, 9, 10, 11] (by decide +kernel) (by decide +kernel)
set_option maxRecDepth 20000 in
theorem gX6_grow_X6_isFull : GoodIn wsX6_grow (wsV RX6 35 RX6 yX6_isFull wsX6_isFull) := goodIn_app (goodIn_of _ (by decide +kernel)) ggX6_grow_X6_isFull
theorem dX6_grow_0 : decode cX6_grow 0 = .ok (.aload_n 0, 1) := by decide +kernel
theorem dX6_grow_1 : decode cX6_grow 1 = .ok (.invokevirtual 35, 3) := by decide +kernel
theorem dX6_grow_4 : decode cX6_grow 4 = .ok (.ifCond .eq 6, 3) := by decide +kernel
theorem dX6_grow_10 : decode cX6_grow 10 = .ok (.aload_n 0, 1) := by decide +kernel
theorem dX6_grow_11 : decode cX6_grow 11 = .ok (.dup, 1) := by decide +kernel
theorem dX6_grow_12 : decode cX6_grow 12 = .ok (.getfield 9, 3) := by decide +kernel
theorem dX6_grow_15 : decode cX6_grow 15 = .ok (.iconst 1, 1) := by decide +kernel
theorem dX6_grow_16 : decode cX6_grow 16 = .ok (.iadd, 1) := by decide +kernel
theorem dX6_grow_17 : decode cX6_grow 17 = .ok (.putfield 9, 3) := by decide +kernel
theorem dX6_grow_20 : decode cX6_grow 20 = .ok (.aload_n 0, 1) := by decide +kernel
theorem dX6_grow_21 : decode cX6_grow 21 = .ok (.getfield 9, 3) := by decide +kernel
theorem dX6_grow_24 : decode cX6_grow 24 = .ok (.iconst 1, 1) := by decide +kernel
theorem dX6_grow_25 : decode cX6_grow 25 = .ok (.isub, 1) := by decide +kernel
theorem dX6_grow_26 : decode cX6_grow 26 = .ok (.ireturn, 1) := by decide +kernel
set_option maxRecDepth 20000 in
theorem iw_k_grow_X6 : ∀ w ∈ wsX60, w ∈ wsX6_grow := by decide +kernel
set_option maxHeartbeats 4000000 in
set_option maxRecDepth 100000 in
theorem k_grow (l : Launch) (dC : Nat → ClassId) (dI : Nat → Nat → Nat) (ro : Nat) (w0 : Value) (nl : Int32) (w2 : Value) (sz : Nat) (hL : ¬ nl ≤ 0) : Met l yX6_grow wsX6_grow ({ frames := 1, cells := 0, slots := 0, locals := 20 }) (va_Pc [.ref ro] (fun U => U.heap.size = sz ∧ va_P (dC, dI) vwCl [(ro, .inr (6, [w0, .int nl, w2, .int 0]))] U.heap ∧ va_K (dC, dI) vwCl [] U ∧ va_D (fun _ => True) [(ro, .inr (6, [w0, .int nl, w2, .int 0]))])) (va_Qi (fun (r : Int32) (_ : Unit) => r = 0) (fun _ t => va_P (dC, dI) vwCl [(ro, .inr (6, [w0, .int nl, w2, .int 1]))] t.heap ∧ va_K (dC, dI) vwCl [] t ∧ va_D (va_A [(ro, .inr (6, [w0, .int nl, w2, .int 0]))] sz) [(ro, .inr (6, [w0, .int nl, w2, .int 1]))]) (va_A [(ro, .inr (6, [w0, .int nl, w2, .int 0]))] sz)) 0 0 (va_A [(ro, .inr (6, [w0, .int nl, w2, .int 0]))] sz) := by
  refine Met.ofW (cc := cX6_grow) (maxL := 1) (ret := (some .int)) (by decide) rfl ?_
  intro p e s m args below meth c s₁ B hml hv
  obtain ⟨rfl, hsz, hP, hK, hD0⟩ := hv
  have hx := B.exec
  have hb := B.bytes
  have hr := B.returns
  have hts := atoms_spec (ws := wsX6_grow) B.pre
  have hown : s.vm.findClass RX6 = some m.cls := findClass_of_methodNamed B.named
  have hlocks := B.notSynchronized
  subst hsz
  have hD := hD0.self (sz := s.heap.size)
  generalize hAe : va_A [(ro, .inr (6, [w0, .int nl, w2, .int 0]))] s.heap.size = A at hD ⊢
  have hA : ∀ q : Nat, s.heap.size ≤ q → A q := fun q h => by rw [← hAe]; exact Or.inr h
  have hS : va_S A s.heap s.heap [] := va_S.rf
  have hP : va_P (dC, dI) vwCl [(ro, .inr (6, [w0, .int nl, w2, .int 0]))] s.heap := hP
  have hl := lv_entry ([.ref ro]) (n := 1) (Nat.le_of_ble_eq_true rfl)
  rw [lg_entry_eq]
  generalize (lg_sl ([.ref ro]) ++ List.replicate (1 - (lg_sl ([.ref ro])).length) Slot.unset).toArray = ls at hl ⊢
  have hl : lv_has ls 1 [(0, .ref ro)] := hl
  refine lv_aload_n hx hb dX6_grow_0 rfl (lv_at hl 0 rfl) ?_
  have hPc_1 := hP.sub (ws' := [(ro, .inr (6, [w0, .int nl, w2, .int 0]))]) [0] rfl
  have hKc_2 := hK.sub (tys' := []) [] rfl
  refine vp_callSi (va_Run.run (va_runV (As := []) (rest := []) ⟨hx, hb, hml, hown, hts⟩ (k_isFull0 l dC dI ro w0 nl w2 hL) (cwV 0 hts gX6_grow_X6_isFull rfl rfl rfl (by decide +kernel) ⟨Nat.le_of_ble_eq_true rfl, Nat.le_of_ble_eq_true rfl⟩) ⟨fun a U g mk q => by obtain ⟨q0, qP, qK⟩ := q; exact ⟨q0, qP, va_K.moved (u := U) (U := U.calling g mk a) (Vm.Alike.refl U.vm) qK⟩, va_recv hK hP (ci := 6) (q0 := 0) rfl rfl, fun U hU hW => ⟨rfl, by rw [hU]; exact hPc_1, va_K.moved hW.alike hKc_2⟩⟩ rfl rfl hl.1 rfl (lv_room (Nat.le_of_ble_eq_true rfl)) dX6_grow_1 ⟨Nat.le_of_ble_eq_true rfl, Nat.le_of_ble_eq_true rfl⟩)) (fun r_3 hw_4 => ?_)
  obtain rfl : 0 = r_3 := hw_4.symm
  refine lv_if_eq (tgt := 10) hx hb dX6_grow_4 (by decide) (fun c_5 => ?_) (fun c_5 => ?_)
  · refine lv_aload_n hx hb dX6_grow_10 rfl (lv_at hl 0 rfl) ?_
    refine lv_dup hx hb dX6_grow_11 rfl ?_
    refine va_get (D := (dC, dI)) (ci := 6) (v := .int 0) (C := RX6) (T := TX6) (N := 4) hx hb hts iw_k_grow_X6 hown hK hP 0 rfl rfl 3 (by decide) (hts (.fieldLink RX6 9 "ThriceCounted$Rows" "size" "I") (by decide +kernel)) (fun _ h9 => h9) rfl dX6_grow_12 ?_
    refine lv_iconst (v := 1) hx hb dX6_grow_15 (by decide) ?_
    refine lv_iadd hx hb dX6_grow_16 ?_
    refine tz_i 1 (by decide) ?_
    refine va_put (D := (dC, dI)) (ci := 6) (v := .int 1) (ty := .int) (C := RX6) (T := TX6) (N := 4) hx hb hts iw_k_grow_X6 tyX6 tyX6_ok nmX6 hown hK hP hD hS 0 rfl rfl 3 (by decide) (hts (.fieldLink RX6 9 "ThriceCounted$Rows" "size" "I") (by decide +kernel)) (fun _ h9 => h9) rfl (by decide +kernel) rfl rfl (Nat.le_of_ble_eq_true rfl) dX6_grow_17 (fun H locs hP hD hS => ?_)
    have hP : va_P (dC, dI) vwCl [(ro, .inr (6, [w0, .int nl, w2, .int 1]))] H := hP
    have hD : va_D A [(ro, .inr (6, [w0, .int nl, w2, .int 1]))] := hD
    refine lv_aload_n hx hb dX6_grow_20 rfl (lv_at hl 0 rfl) ?_
    refine va_get (D := (dC, dI)) (ci := 6) (v := .int 1) (C := RX6) (T := TX6) (N := 4) hx hb hts iw_k_grow_X6 hown hK hP 0 rfl rfl 3 (by decide) (hts (.fieldLink RX6 9 "ThriceCounted$Rows" "size" "I") (by decide +kernel)) (fun _ h9 => h9) rfl dX6_grow_21 ?_
    refine lv_iconst (v := 1) hx hb dX6_grow_24 (by decide) ?_
    refine lv_isub hx hb dX6_grow_25 ?_
    refine tz_i 0 (by decide) ?_
    have hP9 := hP.sub (ws' := [(ro, .inr (6, [w0, .int nl, w2, .int 1]))]) [0] rfl
    have hD9 := hD.sub (ws' := [(ro, .inr (6, [w0, .int nl, w2, .int 1]))]) [0] (by decide) rfl
    have hK9 := hK.sub (tys' := []) [] rfl
    exact W.iret (v := 0) hx hb hr (fun t ht hW => ⟨⟨0, (), rfl, rfl, by rw [ht]; exact hP9, va_K.moved hW.alike hK9, hD9⟩, hS.F ht⟩) hS.2.2 dX6_grow_26
  · exact absurd c_5 (by decide)
theorem dX6_hasCell_0 : decode cX6_hasCell 0 = .ok (.iload_n 1, 1) := by decide +kernel
theorem dX6_hasCell_1 : decode cX6_hasCell 1 = .ok (.ifCond .lt 43, 3) := by decide +kernel
theorem dX6_hasCell_4 : decode cX6_hasCell 4 = .ok (.iload_n 1, 1) := by decide +kernel
theorem dX6_hasCell_5 : decode cX6_hasCell 5 = .ok (.aload_n 0, 1) := by decide +kernel
theorem dX6_hasCell_6 : decode cX6_hasCell 6 = .ok (.getfield 9, 3) := by decide +kernel
theorem dX6_hasCell_9 : decode cX6_hasCell 9 = .ok (.if_icmp .ge 35, 3) := by decide +kernel
theorem dX6_hasCell_12 : decode cX6_hasCell 12 = .ok (.iload_n 2, 1) := by decide +kernel
theorem dX6_hasCell_13 : decode cX6_hasCell 13 = .ok (.ifCond .lt 31, 3) := by decide +kernel
theorem dX6_hasCell_16 : decode cX6_hasCell 16 = .ok (.iload_n 2, 1) := by decide +kernel
theorem dX6_hasCell_17 : decode cX6_hasCell 17 = .ok (.aload_n 0, 1) := by decide +kernel
theorem dX6_hasCell_18 : decode cX6_hasCell 18 = .ok (.getfield 24, 3) := by decide +kernel
theorem dX6_hasCell_21 : decode cX6_hasCell 21 = .ok (.if_icmp .ge 23, 3) := by decide +kernel
theorem dX6_hasCell_24 : decode cX6_hasCell 24 = .ok (.iload_n 1, 1) := by decide +kernel
theorem dX6_hasCell_25 : decode cX6_hasCell 25 = .ok (.aload_n 0, 1) := by decide +kernel
theorem dX6_hasCell_26 : decode cX6_hasCell 26 = .ok (.getfield 24, 3) := by decide +kernel
theorem dX6_hasCell_29 : decode cX6_hasCell 29 = .ok (.imul, 1) := by decide +kernel
theorem dX6_hasCell_30 : decode cX6_hasCell 30 = .ok (.iload_n 2, 1) := by decide +kernel
theorem dX6_hasCell_31 : decode cX6_hasCell 31 = .ok (.iadd, 1) := by decide +kernel
theorem dX6_hasCell_32 : decode cX6_hasCell 32 = .ok (.aload_n 0, 1) := by decide +kernel
theorem dX6_hasCell_33 : decode cX6_hasCell 33 = .ok (.getfield 27, 3) := by decide +kernel
theorem dX6_hasCell_36 : decode cX6_hasCell 36 = .ok (.arraylength, 1) := by decide +kernel
theorem dX6_hasCell_37 : decode cX6_hasCell 37 = .ok (.if_icmp .ge 7, 3) := by decide +kernel
theorem dX6_hasCell_40 : decode cX6_hasCell 40 = .ok (.iconst 1, 1) := by decide +kernel
theorem dX6_hasCell_41 : decode cX6_hasCell 41 = .ok (.goto 4, 3) := by decide +kernel
theorem dX6_hasCell_45 : decode cX6_hasCell 45 = .ok (.ireturn, 1) := by decide +kernel
set_option maxRecDepth 20000 in
theorem iw_k_hasCell_5_0_X6 : ∀ w ∈ wsX60, w ∈ wsX6_hasCell := by decide +kernel
set_option maxHeartbeats 4000000 in
set_option maxRecDepth 100000 in
theorem k_hasCell_5_0 (l : Launch) (dC : Nat → ClassId) (dI : Nat → Nat → Nat) (ro : Nat) (ca : Nat) (cc0 : ClassId) (ff : Nat → Int32) : Met l yX6_hasCell wsX6_hasCell ({ frames := 0, cells := 0, slots := 0, locals := 0 }) (va_Pc [.ref ro, .int 0, .int 0] (fun U => va_P (dC, dI) vwCl [(ro, .inr (6, [.int 1, .int 5, .ref ca, .int 1])), (ca, .inl (cc0, 5, .inl ff))] U.heap ∧ va_K (dC, dI) vwCl [(cc0, .int)] U)) (vp_Si (fun r => r = 1)) 0 0 (fun _ => False) := by
  refine Met.ofW (cc := cX6_hasCell) (maxL := 3) (ret := (some .boolean)) (by decide) rfl ?_
  intro p e s m args below meth c s₁ B hml hv
  obtain ⟨rfl, hP, hK⟩ := hv
  have hx := B.exec
  have hb := B.bytes
  have hr := B.returns
  have hts := atoms_spec (ws := wsX6_hasCell) B.pre
  have hown : s.vm.findClass RX6 = some m.cls := findClass_of_methodNamed B.named
  have hlocks := B.notSynchronized
  have hl := lv_entry ([.ref ro, .int 0, .int 0]) (n := 3) (Nat.le_of_ble_eq_true rfl)
  rw [lg_entry_eq]
  generalize (lg_sl ([.ref ro, .int 0, .int 0]) ++ List.replicate (3 - (lg_sl ([.ref ro, .int 0, .int 0])).length) Slot.unset).toArray = ls at hl ⊢
  have hl : lv_has ls 3 [(0, .ref ro), (1, .int 0), (2, .int 0)] := hl
  refine lv_iload_n hx hb dX6_hasCell_0 rfl (lv_at hl 1 rfl) ?_
  refine lv_if_lt (tgt := 44) hx hb dX6_hasCell_1 (by decide) (fun c_1 => ?_) (fun c_1 => ?_)
  · exact absurd c_1 (by decide)
  · refine lv_iload_n hx hb dX6_hasCell_4 rfl (lv_at hl 1 rfl) ?_
    refine lv_aload_n hx hb dX6_hasCell_5 rfl (lv_at hl 0 rfl) ?_
    refine va_get (D := (dC, dI)) (ci := 6) (v := .int 1) (C := RX6) (T := TX6) (N := 4) hx hb hts iw_k_hasCell_5_0_X6 hown hK hP 0 rfl rfl 3 (by decide) (hts (.fieldLink RX6 9 "ThriceCounted$Rows" "size" "I") (by decide +kernel)) (fun _ h9 => h9) rfl dX6_hasCell_6 ?_
    refine lv_icmp_ge (tgt := 44) hx hb dX6_hasCell_9 (by decide) (fun c_2 => ?_) (fun c_2 => ?_)
    · exact absurd c_2 (by decide)
    · refine lv_iload_n hx hb dX6_hasCell_12 rfl (lv_at hl 2 rfl) ?_
      refine lv_if_lt (tgt := 44) hx hb dX6_hasCell_13 (by decide) (fun c_3 => ?_) (fun c_3 => ?_)
      · exact absurd c_3 (by decide)
      · refine lv_iload_n hx hb dX6_hasCell_16 rfl (lv_at hl 2 rfl) ?_
        refine lv_aload_n hx hb dX6_hasCell_17 rfl (lv_at hl 0 rfl) ?_
        refine va_get (D := (dC, dI)) (ci := 6) (v := .int 1) (C := RX6) (T := TX6) (N := 4) hx hb hts iw_k_hasCell_5_0_X6 hown hK hP 0 rfl rfl 0 (by decide) (hts (.fieldLink RX6 24 "ThriceCounted$Rows" "width" "I") (by decide +kernel)) (fun _ h9 => h9) rfl dX6_hasCell_18 ?_
        refine lv_icmp_ge (tgt := 44) hx hb dX6_hasCell_21 (by decide) (fun c_4 => ?_) (fun c_4 => ?_)
        · exact absurd c_4 (by decide)
        · refine lv_iload_n hx hb dX6_hasCell_24 rfl (lv_at hl 1 rfl) ?_
          refine lv_aload_n hx hb dX6_hasCell_25 rfl (lv_at hl 0 rfl) ?_
          refine va_get (D := (dC, dI)) (ci := 6) (v := .int 1) (C := RX6) (T := TX6) (N := 4) hx hb hts iw_k_hasCell_5_0_X6 hown hK hP 0 rfl rfl 0 (by decide) (hts (.fieldLink RX6 24 "ThriceCounted$Rows" "width" "I") (by decide +kernel)) (fun _ h9 => h9) rfl dX6_hasCell_26 ?_
          refine lv_imul hx hb dX6_hasCell_29 ?_
          refine tz_i 0 (by decide) ?_
          refine lv_iload_n hx hb dX6_hasCell_30 rfl (lv_at hl 2 rfl) ?_
          refine lv_iadd hx hb dX6_hasCell_31 ?_
          refine tz_i 0 (by decide) ?_
          refine lv_aload_n hx hb dX6_hasCell_32 rfl (lv_at hl 0 rfl) ?_
          refine va_get (D := (dC, dI)) (ci := 6) (v := .ref ca) (C := RX6) (T := TX6) (N := 4) hx hb hts iw_k_hasCell_5_0_X6 hown hK hP 0 rfl rfl 2 (by decide) (hts (.fieldLink RX6 27 "ThriceCounted$Rows" "cells" "[I") (by decide +kernel)) (fun _ h9 => h9) rfl dX6_hasCell_33 ?_
          refine va_alen (v := 5) hx hb hK hP 1 0 rfl rfl rfl dX6_hasCell_36 ?_
          refine lv_icmp_ge (tgt := 44) hx hb dX6_hasCell_37 (by decide) (fun c_5 => ?_) (fun c_5 => ?_)
          · exact absurd c_5 (by decide)
          · refine lv_iconst (v := 1) hx hb dX6_hasCell_40 (by decide) ?_
            refine lv_goto (tgt := 45) hx hb dX6_hasCell_41 (by decide) ?_
            exact W.zret (v := 1) hx hb hr (by decide) (fun t ht hW => ⟨1, rfl, rfl, ht⟩) (fun _ h => absurd h List.not_mem_nil) dX6_hasCell_45
set_option maxRecDepth 20000 in
theorem ggX6_put_X6_hasCell : GoodIn wsX6_put wsX6_hasCell := goodIn_r _ [7, 8, 2, 1, 9, 10, 11, 12] (by decide +kernel) (by decide +kernel)
set_option maxRecDepth 20000 in
theorem gX6_put_X6_hasCell : GoodIn wsX6_put (wsV RX6 31 RX6 yX6_hasCell wsX6_hasCell) := goodIn_app (goodIn_of _ (by decide +kernel)) ggX6_put_X6_hasCell
theorem dX6_put_0 : decode cX6_put 0 = .ok (.aload_n 0, 1) := by decide +kernel
theorem dX6_put_1 : decode cX6_put 1 = .ok (.iload_n 1, 1) := by decide +kernel
theorem dX6_put_2 : decode cX6_put 2 = .ok (.iload_n 2, 1) := by decide +kernel
theorem dX6_put_3 : decode cX6_put 3 = .ok (.invokevirtual 31, 3) := by decide +kernel
theorem dX6_put_6 : decode cX6_put 6 = .ok (.ifCond .eq 17, 3) := by decide +kernel
theorem dX6_put_9 : decode cX6_put 9 = .ok (.aload_n 0, 1) := by decide +kernel
theorem dX6_put_10 : decode cX6_put 10 = .ok (.getfield 27, 3) := by decide +kernel
theorem dX6_put_13 : decode cX6_put 13 = .ok (.iload_n 1, 1) := by decide +kernel
theorem dX6_put_14 : decode cX6_put 14 = .ok (.aload_n 0, 1) := by decide +kernel
theorem dX6_put_15 : decode cX6_put 15 = .ok (.getfield 24, 3) := by decide +kernel
theorem dX6_put_18 : decode cX6_put 18 = .ok (.imul, 1) := by decide +kernel
theorem dX6_put_19 : decode cX6_put 19 = .ok (.iload_n 2, 1) := by decide +kernel
theorem dX6_put_20 : decode cX6_put 20 = .ok (.iadd, 1) := by decide +kernel
theorem dX6_put_21 : decode cX6_put 21 = .ok (.iload_n 3, 1) := by decide +kernel
theorem dX6_put_22 : decode cX6_put 22 = .ok (.iastore, 1) := by decide +kernel
theorem dX6_put_23 : decode cX6_put 23 = .ok (.return_, 1) := by decide +kernel
set_option maxRecDepth 20000 in
theorem iw_k_put_5_0_X6 : ∀ w ∈ wsX60, w ∈ wsX6_put := by decide +kernel
set_option maxHeartbeats 4000000 in
set_option maxRecDepth 100000 in
theorem k_put_5_0 (l : Launch) (dC : Nat → ClassId) (dI : Nat → Nat → Nat) (ro : Nat) (ca : Nat) (cc0 : ClassId) (ff : Nat → Int32) (nv : Int32) (sz : Nat) : Met l yX6_put wsX6_put ({ frames := 1, cells := 0, slots := 0, locals := 22 }) (va_Pc [.ref ro, .int 0, .int 0, .int nv] (fun U => U.heap.size = sz ∧ va_P (dC, dI) vwCl [(ro, .inr (6, [.int 1, .int 5, .ref ca, .int 1])), (ca, .inl (cc0, 5, .inl ff))] U.heap ∧ va_K (dC, dI) vwCl [(cc0, .int)] U ∧ va_D (fun _ => True) [(ro, .inr (6, [.int 1, .int 5, .ref ca, .int 1])), (ca, .inl (cc0, 5, .inl ff))])) (va_Qv (fun (_ : Unit) => True) (fun _ t => ∃ (fg : Nat → Int32), va_P (dC, dI) vwCl [(ro, .inr (6, [.int 1, .int 5, .ref ca, .int 1])), (ca, .inl (cc0, 5, .inl fg))] t.heap ∧ va_K (dC, dI) vwCl [(cc0, .int)] t ∧ va_D (va_A [(ro, .inr (6, [.int 1, .int 5, .ref ca, .int 1])), (ca, .inl (cc0, 5, .inl ff))] sz) [(ro, .inr (6, [.int 1, .int 5, .ref ca, .int 1])), (ca, .inl (cc0, 5, .inl fg))]) (va_A [(ro, .inr (6, [.int 1, .int 5, .ref ca, .int 1])), (ca, .inl (cc0, 5, .inl ff))] sz)) 0 0 (va_A [(ro, .inr (6, [.int 1, .int 5, .ref ca, .int 1])), (ca, .inl (cc0, 5, .inl ff))] sz) := by
  refine Met.ofW (cc := cX6_put) (maxL := 4) (ret := none) (by decide) rfl ?_
  intro p e s m args below meth c s₁ B hml hv
  obtain ⟨rfl, hsz, hP, hK, hD0⟩ := hv
  have hx := B.exec
  have hb := B.bytes
  have hr := B.returns
  have hts := atoms_spec (ws := wsX6_put) B.pre
  have hown : s.vm.findClass RX6 = some m.cls := findClass_of_methodNamed B.named
  have hlocks := B.notSynchronized
  subst hsz
  have hD := hD0.self (sz := s.heap.size)
  generalize hAe : va_A [(ro, .inr (6, [.int 1, .int 5, .ref ca, .int 1])), (ca, .inl (cc0, 5, .inl ff))] s.heap.size = A at hD ⊢
  have hA : ∀ q : Nat, s.heap.size ≤ q → A q := fun q h => by rw [← hAe]; exact Or.inr h
  have hS : va_S A s.heap s.heap [] := va_S.rf
  have hP : va_P (dC, dI) vwCl [(ro, .inr (6, [.int 1, .int 5, .ref ca, .int 1])), (ca, .inl (cc0, 5, .inl ff))] s.heap := hP
  have hl := lv_entry ([.ref ro, .int 0, .int 0, .int nv]) (n := 4) (Nat.le_of_ble_eq_true rfl)
  rw [lg_entry_eq]
  generalize (lg_sl ([.ref ro, .int 0, .int 0, .int nv]) ++ List.replicate (4 - (lg_sl ([.ref ro, .int 0, .int 0, .int nv])).length) Slot.unset).toArray = ls at hl ⊢
  have hl : lv_has ls 4 [(0, .ref ro), (1, .int 0), (2, .int 0), (3, .int nv)] := hl
  refine lv_aload_n hx hb dX6_put_0 rfl (lv_at hl 0 rfl) ?_
  refine lv_iload_n hx hb dX6_put_1 rfl (lv_at hl 1 rfl) ?_
  refine lv_iload_n hx hb dX6_put_2 rfl (lv_at hl 2 rfl) ?_
  have hPc_1 := hP.sub (ws' := [(ro, .inr (6, [.int 1, .int 5, .ref ca, .int 1])), (ca, .inl (cc0, 5, .inl ff))]) [0, 1] rfl
  have hKc_2 := hK.sub (tys' := [(cc0, .int)]) [0] rfl
  refine vp_callSi (va_Run.run (va_runV (As := [.int 0, .int 0]) (rest := []) ⟨hx, hb, hml, hown, hts⟩ (k_hasCell_5_0 l dC dI ro ca cc0 ff) (cwV 2 hts gX6_put_X6_hasCell rfl rfl rfl (by decide +kernel) ⟨Nat.le_of_ble_eq_true rfl, Nat.le_of_ble_eq_true rfl⟩) ⟨fun a U g mk q => by obtain ⟨q0, qP, qK⟩ := q; exact ⟨q0, qP, va_K.moved (u := U) (U := U.calling g mk a) (Vm.Alike.refl U.vm) qK⟩, va_recv hK hP (ci := 6) (q0 := 0) rfl rfl, fun U hU hW => ⟨rfl, by rw [hU]; exact hPc_1, va_K.moved hW.alike hKc_2⟩⟩ rfl rfl hl.1 rfl (lv_room (Nat.le_of_ble_eq_true rfl)) dX6_put_3 ⟨Nat.le_of_ble_eq_true rfl, Nat.le_of_ble_eq_true rfl⟩)) (fun r_3 hw_4 => ?_)
  obtain rfl : 1 = r_3 := hw_4.symm
  refine lv_if_eq (tgt := 23) hx hb dX6_put_6 (by decide) (fun c_5 => ?_) (fun c_5 => ?_)
  · exact absurd c_5 (by decide)
  · refine lv_aload_n hx hb dX6_put_9 rfl (lv_at hl 0 rfl) ?_
    refine va_get (D := (dC, dI)) (ci := 6) (v := .ref ca) (C := RX6) (T := TX6) (N := 4) hx hb hts iw_k_put_5_0_X6 hown hK hP 0 rfl rfl 2 (by decide) (hts (.fieldLink RX6 27 "ThriceCounted$Rows" "cells" "[I") (by decide +kernel)) (fun _ h9 => h9) rfl dX6_put_10 ?_
    refine lv_iload_n hx hb dX6_put_13 rfl (lv_at hl 1 rfl) ?_
    refine lv_aload_n hx hb dX6_put_14 rfl (lv_at hl 0 rfl) ?_
    refine va_get (D := (dC, dI)) (ci := 6) (v := .int 1) (C := RX6) (T := TX6) (N := 4) hx hb hts iw_k_put_5_0_X6 hown hK hP 0 rfl rfl 0 (by decide) (hts (.fieldLink RX6 24 "ThriceCounted$Rows" "width" "I") (by decide +kernel)) (fun _ h9 => h9) rfl dX6_put_15 ?_
    refine lv_imul hx hb dX6_put_18 ?_
    refine tz_i 0 (by decide) ?_
    refine lv_iload_n hx hb dX6_put_19 rfl (lv_at hl 2 rfl) ?_
    refine lv_iadd hx hb dX6_put_20 ?_
    refine tz_i 0 (by decide) ?_
    refine lv_iload_n hx hb dX6_put_21 rfl (lv_at hl 3 rfl) ?_
    refine va_iast hx hb hK hP hD hS 1 0 rfl rfl (show ¬ ((0 : Int32) < 0 ∨ 5 ≤ (0 : Int32).toNatClampNeg) by decide) dX6_put_22 (fun H locs hP hD hS => ?_)
    generalize (upd ff (Int32.toNatClampNeg 0) nv) = f_6 at hP hD
    have hP : va_P (dC, dI) vwCl [(ro, .inr (6, [.int 1, .int 5, .ref ca, .int 1])), (ca, .inl (cc0, 5, .inl f_6))] H := hP
    have hD : va_D A [(ro, .inr (6, [.int 1, .int 5, .ref ca, .int 1])), (ca, .inl (cc0, 5, .inl f_6))] := hD
    have hP9 := hP.sub (ws' := [(ro, .inr (6, [.int 1, .int 5, .ref ca, .int 1])), (ca, .inl (cc0, 5, .inl f_6))]) [0, 1] rfl
    have hD9 := hD.sub (ws' := [(ro, .inr (6, [.int 1, .int 5, .ref ca, .int 1])), (ca, .inl (cc0, 5, .inl f_6))]) [0, 1] (by decide) rfl
    have hK9 := hK.sub (tys' := [(cc0, .int)]) [0] rfl
    exact W.vret hx hb hr (fun t ht hW => ⟨⟨(), rfl, trivial, f_6, by rw [ht]; exact hP9, va_K.moved hW.alike hK9, hD9⟩, hS.F ht⟩) hS.2.2 dX6_put_23
set_option maxRecDepth 20000 in
theorem iw_k_hasCell_20_0_X6 : ∀ w ∈ wsX60, w ∈ wsX6_hasCell := by decide +kernel
set_option maxHeartbeats 4000000 in
set_option maxRecDepth 100000 in
theorem k_hasCell_20_0 (l : Launch) (dC : Nat → ClassId) (dI : Nat → Nat → Nat) (ro : Nat) (ca : Nat) (cc0 : ClassId) (ff : Nat → Int32) : Met l yX6_hasCell wsX6_hasCell ({ frames := 0, cells := 0, slots := 0, locals := 0 }) (va_Pc [.ref ro, .int 0, .int 0] (fun U => va_P (dC, dI) vwCl [(ro, .inr (6, [.int 4, .int 5, .ref ca, .int 1])), (ca, .inl (cc0, 20, .inl ff))] U.heap ∧ va_K (dC, dI) vwCl [(cc0, .int)] U)) (vp_Si (fun r => r = 1)) 0 0 (fun _ => False) := by
  refine Met.ofW (cc := cX6_hasCell) (maxL := 3) (ret := (some .boolean)) (by decide) rfl ?_
  intro p e s m args below meth c s₁ B hml hv
  obtain ⟨rfl, hP, hK⟩ := hv
  have hx := B.exec
  have hb := B.bytes
  have hr := B.returns
  have hts := atoms_spec (ws := wsX6_hasCell) B.pre
  have hown : s.vm.findClass RX6 = some m.cls := findClass_of_methodNamed B.named
  have hlocks := B.notSynchronized
  have hl := lv_entry ([.ref ro, .int 0, .int 0]) (n := 3) (Nat.le_of_ble_eq_true rfl)
  rw [lg_entry_eq]
  generalize (lg_sl ([.ref ro, .int 0, .int 0]) ++ List.replicate (3 - (lg_sl ([.ref ro, .int 0, .int 0])).length) Slot.unset).toArray = ls at hl ⊢
  have hl : lv_has ls 3 [(0, .ref ro), (1, .int 0), (2, .int 0)] := hl
  refine lv_iload_n hx hb dX6_hasCell_0 rfl (lv_at hl 1 rfl) ?_
  refine lv_if_lt (tgt := 44) hx hb dX6_hasCell_1 (by decide) (fun c_1 => ?_) (fun c_1 => ?_)
  · exact absurd c_1 (by decide)
  · refine lv_iload_n hx hb dX6_hasCell_4 rfl (lv_at hl 1 rfl) ?_
    refine lv_aload_n hx hb dX6_hasCell_5 rfl (lv_at hl 0 rfl) ?_
    refine va_get (D := (dC, dI)) (ci := 6) (v := .int 1) (C := RX6) (T := TX6) (N := 4) hx hb hts iw_k_hasCell_20_0_X6 hown hK hP 0 rfl rfl 3 (by decide) (hts (.fieldLink RX6 9 "ThriceCounted$Rows" "size" "I") (by decide +kernel)) (fun _ h9 => h9) rfl dX6_hasCell_6 ?_
    refine lv_icmp_ge (tgt := 44) hx hb dX6_hasCell_9 (by decide) (fun c_2 => ?_) (fun c_2 => ?_)
    · exact absurd c_2 (by decide)
    · refine lv_iload_n hx hb dX6_hasCell_12 rfl (lv_at hl 2 rfl) ?_
      refine lv_if_lt (tgt := 44) hx hb dX6_hasCell_13 (by decide) (fun c_3 => ?_) (fun c_3 => ?_)
      · exact absurd c_3 (by decide)
      · refine lv_iload_n hx hb dX6_hasCell_16 rfl (lv_at hl 2 rfl) ?_
        refine lv_aload_n hx hb dX6_hasCell_17 rfl (lv_at hl 0 rfl) ?_
        refine va_get (D := (dC, dI)) (ci := 6) (v := .int 4) (C := RX6) (T := TX6) (N := 4) hx hb hts iw_k_hasCell_20_0_X6 hown hK hP 0 rfl rfl 0 (by decide) (hts (.fieldLink RX6 24 "ThriceCounted$Rows" "width" "I") (by decide +kernel)) (fun _ h9 => h9) rfl dX6_hasCell_18 ?_
        refine lv_icmp_ge (tgt := 44) hx hb dX6_hasCell_21 (by decide) (fun c_4 => ?_) (fun c_4 => ?_)
        · exact absurd c_4 (by decide)
        · refine lv_iload_n hx hb dX6_hasCell_24 rfl (lv_at hl 1 rfl) ?_
          refine lv_aload_n hx hb dX6_hasCell_25 rfl (lv_at hl 0 rfl) ?_
          refine va_get (D := (dC, dI)) (ci := 6) (v := .int 4) (C := RX6) (T := TX6) (N := 4) hx hb hts iw_k_hasCell_20_0_X6 hown hK hP 0 rfl rfl 0 (by decide) (hts (.fieldLink RX6 24 "ThriceCounted$Rows" "width" "I") (by decide +kernel)) (fun _ h9 => h9) rfl dX6_hasCell_26 ?_
          refine lv_imul hx hb dX6_hasCell_29 ?_
          refine tz_i 0 (by decide) ?_
          refine lv_iload_n hx hb dX6_hasCell_30 rfl (lv_at hl 2 rfl) ?_
          refine lv_iadd hx hb dX6_hasCell_31 ?_
          refine tz_i 0 (by decide) ?_
          refine lv_aload_n hx hb dX6_hasCell_32 rfl (lv_at hl 0 rfl) ?_
          refine va_get (D := (dC, dI)) (ci := 6) (v := .ref ca) (C := RX6) (T := TX6) (N := 4) hx hb hts iw_k_hasCell_20_0_X6 hown hK hP 0 rfl rfl 2 (by decide) (hts (.fieldLink RX6 27 "ThriceCounted$Rows" "cells" "[I") (by decide +kernel)) (fun _ h9 => h9) rfl dX6_hasCell_33 ?_
          refine va_alen (v := 20) hx hb hK hP 1 0 rfl rfl rfl dX6_hasCell_36 ?_
          refine lv_icmp_ge (tgt := 44) hx hb dX6_hasCell_37 (by decide) (fun c_5 => ?_) (fun c_5 => ?_)
          · exact absurd c_5 (by decide)
          · refine lv_iconst (v := 1) hx hb dX6_hasCell_40 (by decide) ?_
            refine lv_goto (tgt := 45) hx hb dX6_hasCell_41 (by decide) ?_
            exact W.zret (v := 1) hx hb hr (by decide) (fun t ht hW => ⟨1, rfl, rfl, ht⟩) (fun _ h => absurd h List.not_mem_nil) dX6_hasCell_45
set_option maxRecDepth 20000 in
theorem iw_k_put_20_0_X6 : ∀ w ∈ wsX60, w ∈ wsX6_put := by decide +kernel
set_option maxHeartbeats 4000000 in
set_option maxRecDepth 100000 in
theorem k_put_20_0 (l : Launch) (dC : Nat → ClassId) (dI : Nat → Nat → Nat) (ro : Nat) (ca : Nat) (cc0 : ClassId) (ff : Nat → Int32) (nv : Int32) (sz : Nat) : Met l yX6_put wsX6_put ({ frames := 1, cells := 0, slots := 0, locals := 22 }) (va_Pc [.ref ro, .int 0, .int 0, .int nv] (fun U => U.heap.size = sz ∧ va_P (dC, dI) vwCl [(ro, .inr (6, [.int 4, .int 5, .ref ca, .int 1])), (ca, .inl (cc0, 20, .inl ff))] U.heap ∧ va_K (dC, dI) vwCl [(cc0, .int)] U ∧ va_D (fun _ => True) [(ro, .inr (6, [.int 4, .int 5, .ref ca, .int 1])), (ca, .inl (cc0, 20, .inl ff))])) (va_Qv (fun (_ : Unit) => True) (fun _ t => ∃ (fg : Nat → Int32), va_P (dC, dI) vwCl [(ro, .inr (6, [.int 4, .int 5, .ref ca, .int 1])), (ca, .inl (cc0, 20, .inl fg))] t.heap ∧ va_K (dC, dI) vwCl [(cc0, .int)] t ∧ va_D (va_A [(ro, .inr (6, [.int 4, .int 5, .ref ca, .int 1])), (ca, .inl (cc0, 20, .inl ff))] sz) [(ro, .inr (6, [.int 4, .int 5, .ref ca, .int 1])), (ca, .inl (cc0, 20, .inl fg))]) (va_A [(ro, .inr (6, [.int 4, .int 5, .ref ca, .int 1])), (ca, .inl (cc0, 20, .inl ff))] sz)) 0 0 (va_A [(ro, .inr (6, [.int 4, .int 5, .ref ca, .int 1])), (ca, .inl (cc0, 20, .inl ff))] sz) := by
  refine Met.ofW (cc := cX6_put) (maxL := 4) (ret := none) (by decide) rfl ?_
  intro p e s m args below meth c s₁ B hml hv
  obtain ⟨rfl, hsz, hP, hK, hD0⟩ := hv
  have hx := B.exec
  have hb := B.bytes
  have hr := B.returns
  have hts := atoms_spec (ws := wsX6_put) B.pre
  have hown : s.vm.findClass RX6 = some m.cls := findClass_of_methodNamed B.named
  have hlocks := B.notSynchronized
  subst hsz
  have hD := hD0.self (sz := s.heap.size)
  generalize hAe : va_A [(ro, .inr (6, [.int 4, .int 5, .ref ca, .int 1])), (ca, .inl (cc0, 20, .inl ff))] s.heap.size = A at hD ⊢
  have hA : ∀ q : Nat, s.heap.size ≤ q → A q := fun q h => by rw [← hAe]; exact Or.inr h
  have hS : va_S A s.heap s.heap [] := va_S.rf
  have hP : va_P (dC, dI) vwCl [(ro, .inr (6, [.int 4, .int 5, .ref ca, .int 1])), (ca, .inl (cc0, 20, .inl ff))] s.heap := hP
  have hl := lv_entry ([.ref ro, .int 0, .int 0, .int nv]) (n := 4) (Nat.le_of_ble_eq_true rfl)
  rw [lg_entry_eq]
  generalize (lg_sl ([.ref ro, .int 0, .int 0, .int nv]) ++ List.replicate (4 - (lg_sl ([.ref ro, .int 0, .int 0, .int nv])).length) Slot.unset).toArray = ls at hl ⊢
  have hl : lv_has ls 4 [(0, .ref ro), (1, .int 0), (2, .int 0), (3, .int nv)] := hl
  refine lv_aload_n hx hb dX6_put_0 rfl (lv_at hl 0 rfl) ?_
  refine lv_iload_n hx hb dX6_put_1 rfl (lv_at hl 1 rfl) ?_
  refine lv_iload_n hx hb dX6_put_2 rfl (lv_at hl 2 rfl) ?_
  have hPc_1 := hP.sub (ws' := [(ro, .inr (6, [.int 4, .int 5, .ref ca, .int 1])), (ca, .inl (cc0, 20, .inl ff))]) [0, 1] rfl
  have hKc_2 := hK.sub (tys' := [(cc0, .int)]) [0] rfl
  refine vp_callSi (va_Run.run (va_runV (As := [.int 0, .int 0]) (rest := []) ⟨hx, hb, hml, hown, hts⟩ (k_hasCell_20_0 l dC dI ro ca cc0 ff) (cwV 2 hts gX6_put_X6_hasCell rfl rfl rfl (by decide +kernel) ⟨Nat.le_of_ble_eq_true rfl, Nat.le_of_ble_eq_true rfl⟩) ⟨fun a U g mk q => by obtain ⟨q0, qP, qK⟩ := q; exact ⟨q0, qP, va_K.moved (u := U) (U := U.calling g mk a) (Vm.Alike.refl U.vm) qK⟩, va_recv hK hP (ci := 6) (q0 := 0) rfl rfl, fun U hU hW => ⟨rfl, by rw [hU]; exact hPc_1, va_K.moved hW.alike hKc_2⟩⟩ rfl rfl hl.1 rfl (lv_room (Nat.le_of_ble_eq_true rfl)) dX6_put_3 ⟨Nat.le_of_ble_eq_true rfl, Nat.le_of_ble_eq_true rfl⟩)) (fun r_3 hw_4 => ?_)
  obtain rfl : 1 = r_3 := hw_4.symm
  refine lv_if_eq (tgt := 23) hx hb dX6_put_6 (by decide) (fun c_5 => ?_) (fun c_5 => ?_)
  · exact absurd c_5 (by decide)
  · refine lv_aload_n hx hb dX6_put_9 rfl (lv_at hl 0 rfl) ?_
    refine va_get (D := (dC, dI)) (ci := 6) (v := .ref ca) (C := RX6) (T := TX6) (N := 4) hx hb hts iw_k_put_20_0_X6 hown hK hP 0 rfl rfl 2 (by decide) (hts (.fieldLink RX6 27 "ThriceCounted$Rows" "cells" "[I") (by decide +kernel)) (fun _ h9 => h9) rfl dX6_put_10 ?_
    refine lv_iload_n hx hb dX6_put_13 rfl (lv_at hl 1 rfl) ?_
    refine lv_aload_n hx hb dX6_put_14 rfl (lv_at hl 0 rfl) ?_
    refine va_get (D := (dC, dI)) (ci := 6) (v := .int 4) (C := RX6) (T := TX6) (N := 4) hx hb hts iw_k_put_20_0_X6 hown hK hP 0 rfl rfl 0 (by decide) (hts (.fieldLink RX6 24 "ThriceCounted$Rows" "width" "I") (by decide +kernel)) (fun _ h9 => h9) rfl dX6_put_15 ?_
    refine lv_imul hx hb dX6_put_18 ?_
    refine tz_i 0 (by decide) ?_
    refine lv_iload_n hx hb dX6_put_19 rfl (lv_at hl 2 rfl) ?_
    refine lv_iadd hx hb dX6_put_20 ?_
    refine tz_i 0 (by decide) ?_
    refine lv_iload_n hx hb dX6_put_21 rfl (lv_at hl 3 rfl) ?_
    refine va_iast hx hb hK hP hD hS 1 0 rfl rfl (show ¬ ((0 : Int32) < 0 ∨ 20 ≤ (0 : Int32).toNatClampNeg) by decide) dX6_put_22 (fun H locs hP hD hS => ?_)
    generalize (upd ff (Int32.toNatClampNeg 0) nv) = f_6 at hP hD
    have hP : va_P (dC, dI) vwCl [(ro, .inr (6, [.int 4, .int 5, .ref ca, .int 1])), (ca, .inl (cc0, 20, .inl f_6))] H := hP
    have hD : va_D A [(ro, .inr (6, [.int 4, .int 5, .ref ca, .int 1])), (ca, .inl (cc0, 20, .inl f_6))] := hD
    have hP9 := hP.sub (ws' := [(ro, .inr (6, [.int 4, .int 5, .ref ca, .int 1])), (ca, .inl (cc0, 20, .inl f_6))]) [0, 1] rfl
    have hD9 := hD.sub (ws' := [(ro, .inr (6, [.int 4, .int 5, .ref ca, .int 1])), (ca, .inl (cc0, 20, .inl f_6))]) [0, 1] (by decide) rfl
    have hK9 := hK.sub (tys' := [(cc0, .int)]) [0] rfl
    exact W.vret hx hb hr (fun t ht hW => ⟨⟨(), rfl, trivial, f_6, by rw [ht]; exact hP9, va_K.moved hW.alike hK9, hD9⟩, hS.F ht⟩) hS.2.2 dX6_put_23
set_option maxRecDepth 20000 in
theorem iw_k_hasCell_20_1_X6 : ∀ w ∈ wsX60, w ∈ wsX6_hasCell := by decide +kernel
set_option maxHeartbeats 4000000 in
set_option maxRecDepth 100000 in
theorem k_hasCell_20_1 (l : Launch) (dC : Nat → ClassId) (dI : Nat → Nat → Nat) (ro : Nat) (ca : Nat) (cc0 : ClassId) (ff : Nat → Int32) : Met l yX6_hasCell wsX6_hasCell ({ frames := 0, cells := 0, slots := 0, locals := 0 }) (va_Pc [.ref ro, .int 0, .int 1] (fun U => va_P (dC, dI) vwCl [(ro, .inr (6, [.int 4, .int 5, .ref ca, .int 1])), (ca, .inl (cc0, 20, .inl ff))] U.heap ∧ va_K (dC, dI) vwCl [(cc0, .int)] U)) (vp_Si (fun r => r = 1)) 0 0 (fun _ => False) := by
  refine Met.ofW (cc := cX6_hasCell) (maxL := 3) (ret := (some .boolean)) (by decide) rfl ?_
  intro p e s m args below meth c s₁ B hml hv
  obtain ⟨rfl, hP, hK⟩ := hv
  have hx := B.exec
  have hb := B.bytes
  have hr := B.returns
  have hts := atoms_spec (ws := wsX6_hasCell) B.pre
  have hown : s.vm.findClass RX6 = some m.cls := findClass_of_methodNamed B.named
  have hlocks := B.notSynchronized
  have hl := lv_entry ([.ref ro, .int 0, .int 1]) (n := 3) (Nat.le_of_ble_eq_true rfl)
  rw [lg_entry_eq]
  generalize (lg_sl ([.ref ro, .int 0, .int 1]) ++ List.replicate (3 - (lg_sl ([.ref ro, .int 0, .int 1])).length) Slot.unset).toArray = ls at hl ⊢
  have hl : lv_has ls 3 [(0, .ref ro), (1, .int 0), (2, .int 1)] := hl
  refine lv_iload_n hx hb dX6_hasCell_0 rfl (lv_at hl 1 rfl) ?_
  refine lv_if_lt (tgt := 44) hx hb dX6_hasCell_1 (by decide) (fun c_1 => ?_) (fun c_1 => ?_)
  · exact absurd c_1 (by decide)
  · refine lv_iload_n hx hb dX6_hasCell_4 rfl (lv_at hl 1 rfl) ?_
    refine lv_aload_n hx hb dX6_hasCell_5 rfl (lv_at hl 0 rfl) ?_
    refine va_get (D := (dC, dI)) (ci := 6) (v := .int 1) (C := RX6) (T := TX6) (N := 4) hx hb hts iw_k_hasCell_20_1_X6 hown hK hP 0 rfl rfl 3 (by decide) (hts (.fieldLink RX6 9 "ThriceCounted$Rows" "size" "I") (by decide +kernel)) (fun _ h9 => h9) rfl dX6_hasCell_6 ?_
    refine lv_icmp_ge (tgt := 44) hx hb dX6_hasCell_9 (by decide) (fun c_2 => ?_) (fun c_2 => ?_)
    · exact absurd c_2 (by decide)
    · refine lv_iload_n hx hb dX6_hasCell_12 rfl (lv_at hl 2 rfl) ?_
      refine lv_if_lt (tgt := 44) hx hb dX6_hasCell_13 (by decide) (fun c_3 => ?_) (fun c_3 => ?_)
      · exact absurd c_3 (by decide)
      · refine lv_iload_n hx hb dX6_hasCell_16 rfl (lv_at hl 2 rfl) ?_
        refine lv_aload_n hx hb dX6_hasCell_17 rfl (lv_at hl 0 rfl) ?_
        refine va_get (D := (dC, dI)) (ci := 6) (v := .int 4) (C := RX6) (T := TX6) (N := 4) hx hb hts iw_k_hasCell_20_1_X6 hown hK hP 0 rfl rfl 0 (by decide) (hts (.fieldLink RX6 24 "ThriceCounted$Rows" "width" "I") (by decide +kernel)) (fun _ h9 => h9) rfl dX6_hasCell_18 ?_
        refine lv_icmp_ge (tgt := 44) hx hb dX6_hasCell_21 (by decide) (fun c_4 => ?_) (fun c_4 => ?_)
        · exact absurd c_4 (by decide)
        · refine lv_iload_n hx hb dX6_hasCell_24 rfl (lv_at hl 1 rfl) ?_
          refine lv_aload_n hx hb dX6_hasCell_25 rfl (lv_at hl 0 rfl) ?_
          refine va_get (D := (dC, dI)) (ci := 6) (v := .int 4) (C := RX6) (T := TX6) (N := 4) hx hb hts iw_k_hasCell_20_1_X6 hown hK hP 0 rfl rfl 0 (by decide) (hts (.fieldLink RX6 24 "ThriceCounted$Rows" "width" "I") (by decide +kernel)) (fun _ h9 => h9) rfl dX6_hasCell_26 ?_
          refine lv_imul hx hb dX6_hasCell_29 ?_
          refine tz_i 0 (by decide) ?_
          refine lv_iload_n hx hb dX6_hasCell_30 rfl (lv_at hl 2 rfl) ?_
          refine lv_iadd hx hb dX6_hasCell_31 ?_
          refine tz_i 1 (by decide) ?_
          refine lv_aload_n hx hb dX6_hasCell_32 rfl (lv_at hl 0 rfl) ?_
          refine va_get (D := (dC, dI)) (ci := 6) (v := .ref ca) (C := RX6) (T := TX6) (N := 4) hx hb hts iw_k_hasCell_20_1_X6 hown hK hP 0 rfl rfl 2 (by decide) (hts (.fieldLink RX6 27 "ThriceCounted$Rows" "cells" "[I") (by decide +kernel)) (fun _ h9 => h9) rfl dX6_hasCell_33 ?_
          refine va_alen (v := 20) hx hb hK hP 1 0 rfl rfl rfl dX6_hasCell_36 ?_
          refine lv_icmp_ge (tgt := 44) hx hb dX6_hasCell_37 (by decide) (fun c_5 => ?_) (fun c_5 => ?_)
          · exact absurd c_5 (by decide)
          · refine lv_iconst (v := 1) hx hb dX6_hasCell_40 (by decide) ?_
            refine lv_goto (tgt := 45) hx hb dX6_hasCell_41 (by decide) ?_
            exact W.zret (v := 1) hx hb hr (by decide) (fun t ht hW => ⟨1, rfl, rfl, ht⟩) (fun _ h => absurd h List.not_mem_nil) dX6_hasCell_45
set_option maxRecDepth 20000 in
theorem iw_k_put_20_1_X6 : ∀ w ∈ wsX60, w ∈ wsX6_put := by decide +kernel
set_option maxHeartbeats 4000000 in
set_option maxRecDepth 100000 in
theorem k_put_20_1 (l : Launch) (dC : Nat → ClassId) (dI : Nat → Nat → Nat) (ro : Nat) (ca : Nat) (cc0 : ClassId) (ff : Nat → Int32) (nv : Int32) (sz : Nat) : Met l yX6_put wsX6_put ({ frames := 1, cells := 0, slots := 0, locals := 22 }) (va_Pc [.ref ro, .int 0, .int 1, .int nv] (fun U => U.heap.size = sz ∧ va_P (dC, dI) vwCl [(ro, .inr (6, [.int 4, .int 5, .ref ca, .int 1])), (ca, .inl (cc0, 20, .inl ff))] U.heap ∧ va_K (dC, dI) vwCl [(cc0, .int)] U ∧ va_D (fun _ => True) [(ro, .inr (6, [.int 4, .int 5, .ref ca, .int 1])), (ca, .inl (cc0, 20, .inl ff))])) (va_Qv (fun (_ : Unit) => True) (fun _ t => ∃ (fg : Nat → Int32), va_P (dC, dI) vwCl [(ro, .inr (6, [.int 4, .int 5, .ref ca, .int 1])), (ca, .inl (cc0, 20, .inl fg))] t.heap ∧ va_K (dC, dI) vwCl [(cc0, .int)] t ∧ va_D (va_A [(ro, .inr (6, [.int 4, .int 5, .ref ca, .int 1])), (ca, .inl (cc0, 20, .inl ff))] sz) [(ro, .inr (6, [.int 4, .int 5, .ref ca, .int 1])), (ca, .inl (cc0, 20, .inl fg))]) (va_A [(ro, .inr (6, [.int 4, .int 5, .ref ca, .int 1])), (ca, .inl (cc0, 20, .inl ff))] sz)) 0 0 (va_A [(ro, .inr (6, [.int 4, .int 5, .ref ca, .int 1])), (ca, .inl (cc0, 20, .inl ff))] sz) := by
  refine Met.ofW (cc := cX6_put) (maxL := 4) (ret := none) (by decide) rfl ?_
  intro p e s m args below meth c s₁ B hml hv
  obtain ⟨rfl, hsz, hP, hK, hD0⟩ := hv
  have hx := B.exec
  have hb := B.bytes
  have hr := B.returns
  have hts := atoms_spec (ws := wsX6_put) B.pre
  have hown : s.vm.findClass RX6 = some m.cls := findClass_of_methodNamed B.named
  have hlocks := B.notSynchronized
  subst hsz
  have hD := hD0.self (sz := s.heap.size)
  generalize hAe : va_A [(ro, .inr (6, [.int 4, .int 5, .ref ca, .int 1])), (ca, .inl (cc0, 20, .inl ff))] s.heap.size = A at hD ⊢
  have hA : ∀ q : Nat, s.heap.size ≤ q → A q := fun q h => by rw [← hAe]; exact Or.inr h
  have hS : va_S A s.heap s.heap [] := va_S.rf
  have hP : va_P (dC, dI) vwCl [(ro, .inr (6, [.int 4, .int 5, .ref ca, .int 1])), (ca, .inl (cc0, 20, .inl ff))] s.heap := hP
  have hl := lv_entry ([.ref ro, .int 0, .int 1, .int nv]) (n := 4) (Nat.le_of_ble_eq_true rfl)
  rw [lg_entry_eq]
  generalize (lg_sl ([.ref ro, .int 0, .int 1, .int nv]) ++ List.replicate (4 - (lg_sl ([.ref ro, .int 0, .int 1, .int nv])).length) Slot.unset).toArray = ls at hl ⊢
  have hl : lv_has ls 4 [(0, .ref ro), (1, .int 0), (2, .int 1), (3, .int nv)] := hl
  refine lv_aload_n hx hb dX6_put_0 rfl (lv_at hl 0 rfl) ?_
  refine lv_iload_n hx hb dX6_put_1 rfl (lv_at hl 1 rfl) ?_
  refine lv_iload_n hx hb dX6_put_2 rfl (lv_at hl 2 rfl) ?_
  have hPc_1 := hP.sub (ws' := [(ro, .inr (6, [.int 4, .int 5, .ref ca, .int 1])), (ca, .inl (cc0, 20, .inl ff))]) [0, 1] rfl
  have hKc_2 := hK.sub (tys' := [(cc0, .int)]) [0] rfl
  refine vp_callSi (va_Run.run (va_runV (As := [.int 0, .int 1]) (rest := []) ⟨hx, hb, hml, hown, hts⟩ (k_hasCell_20_1 l dC dI ro ca cc0 ff) (cwV 2 hts gX6_put_X6_hasCell rfl rfl rfl (by decide +kernel) ⟨Nat.le_of_ble_eq_true rfl, Nat.le_of_ble_eq_true rfl⟩) ⟨fun a U g mk q => by obtain ⟨q0, qP, qK⟩ := q; exact ⟨q0, qP, va_K.moved (u := U) (U := U.calling g mk a) (Vm.Alike.refl U.vm) qK⟩, va_recv hK hP (ci := 6) (q0 := 0) rfl rfl, fun U hU hW => ⟨rfl, by rw [hU]; exact hPc_1, va_K.moved hW.alike hKc_2⟩⟩ rfl rfl hl.1 rfl (lv_room (Nat.le_of_ble_eq_true rfl)) dX6_put_3 ⟨Nat.le_of_ble_eq_true rfl, Nat.le_of_ble_eq_true rfl⟩)) (fun r_3 hw_4 => ?_)
  obtain rfl : 1 = r_3 := hw_4.symm
  refine lv_if_eq (tgt := 23) hx hb dX6_put_6 (by decide) (fun c_5 => ?_) (fun c_5 => ?_)
  · exact absurd c_5 (by decide)
  · refine lv_aload_n hx hb dX6_put_9 rfl (lv_at hl 0 rfl) ?_
    refine va_get (D := (dC, dI)) (ci := 6) (v := .ref ca) (C := RX6) (T := TX6) (N := 4) hx hb hts iw_k_put_20_1_X6 hown hK hP 0 rfl rfl 2 (by decide) (hts (.fieldLink RX6 27 "ThriceCounted$Rows" "cells" "[I") (by decide +kernel)) (fun _ h9 => h9) rfl dX6_put_10 ?_
    refine lv_iload_n hx hb dX6_put_13 rfl (lv_at hl 1 rfl) ?_
    refine lv_aload_n hx hb dX6_put_14 rfl (lv_at hl 0 rfl) ?_
    refine va_get (D := (dC, dI)) (ci := 6) (v := .int 4) (C := RX6) (T := TX6) (N := 4) hx hb hts iw_k_put_20_1_X6 hown hK hP 0 rfl rfl 0 (by decide) (hts (.fieldLink RX6 24 "ThriceCounted$Rows" "width" "I") (by decide +kernel)) (fun _ h9 => h9) rfl dX6_put_15 ?_
    refine lv_imul hx hb dX6_put_18 ?_
    refine tz_i 0 (by decide) ?_
    refine lv_iload_n hx hb dX6_put_19 rfl (lv_at hl 2 rfl) ?_
    refine lv_iadd hx hb dX6_put_20 ?_
    refine tz_i 1 (by decide) ?_
    refine lv_iload_n hx hb dX6_put_21 rfl (lv_at hl 3 rfl) ?_
    refine va_iast hx hb hK hP hD hS 1 0 rfl rfl (show ¬ ((1 : Int32) < 0 ∨ 20 ≤ (1 : Int32).toNatClampNeg) by decide) dX6_put_22 (fun H locs hP hD hS => ?_)
    generalize (upd ff (Int32.toNatClampNeg 1) nv) = f_6 at hP hD
    have hP : va_P (dC, dI) vwCl [(ro, .inr (6, [.int 4, .int 5, .ref ca, .int 1])), (ca, .inl (cc0, 20, .inl f_6))] H := hP
    have hD : va_D A [(ro, .inr (6, [.int 4, .int 5, .ref ca, .int 1])), (ca, .inl (cc0, 20, .inl f_6))] := hD
    have hP9 := hP.sub (ws' := [(ro, .inr (6, [.int 4, .int 5, .ref ca, .int 1])), (ca, .inl (cc0, 20, .inl f_6))]) [0, 1] rfl
    have hD9 := hD.sub (ws' := [(ro, .inr (6, [.int 4, .int 5, .ref ca, .int 1])), (ca, .inl (cc0, 20, .inl f_6))]) [0, 1] (by decide) rfl
    have hK9 := hK.sub (tys' := [(cc0, .int)]) [0] rfl
    exact W.vret hx hb hr (fun t ht hW => ⟨⟨(), rfl, trivial, f_6, by rw [ht]; exact hP9, va_K.moved hW.alike hK9, hD9⟩, hS.F ht⟩) hS.2.2 dX6_put_23
set_option maxRecDepth 20000 in
theorem iw_k_hasCell_20_2_X6 : ∀ w ∈ wsX60, w ∈ wsX6_hasCell := by decide +kernel
set_option maxHeartbeats 4000000 in
set_option maxRecDepth 100000 in
theorem k_hasCell_20_2 (l : Launch) (dC : Nat → ClassId) (dI : Nat → Nat → Nat) (ro : Nat) (ca : Nat) (cc0 : ClassId) (ff : Nat → Int32) : Met l yX6_hasCell wsX6_hasCell ({ frames := 0, cells := 0, slots := 0, locals := 0 }) (va_Pc [.ref ro, .int 0, .int 2] (fun U => va_P (dC, dI) vwCl [(ro, .inr (6, [.int 4, .int 5, .ref ca, .int 1])), (ca, .inl (cc0, 20, .inl ff))] U.heap ∧ va_K (dC, dI) vwCl [(cc0, .int)] U)) (vp_Si (fun r => r = 1)) 0 0 (fun _ => False) := by
  refine Met.ofW (cc := cX6_hasCell) (maxL := 3) (ret := (some .boolean)) (by decide) rfl ?_
  intro p e s m args below meth c s₁ B hml hv
  obtain ⟨rfl, hP, hK⟩ := hv
  have hx := B.exec
  have hb := B.bytes
  have hr := B.returns
  have hts := atoms_spec (ws := wsX6_hasCell) B.pre
  have hown : s.vm.findClass RX6 = some m.cls := findClass_of_methodNamed B.named
  have hlocks := B.notSynchronized
  have hl := lv_entry ([.ref ro, .int 0, .int 2]) (n := 3) (Nat.le_of_ble_eq_true rfl)
  rw [lg_entry_eq]
  generalize (lg_sl ([.ref ro, .int 0, .int 2]) ++ List.replicate (3 - (lg_sl ([.ref ro, .int 0, .int 2])).length) Slot.unset).toArray = ls at hl ⊢
  have hl : lv_has ls 3 [(0, .ref ro), (1, .int 0), (2, .int 2)] := hl
  refine lv_iload_n hx hb dX6_hasCell_0 rfl (lv_at hl 1 rfl) ?_
  refine lv_if_lt (tgt := 44) hx hb dX6_hasCell_1 (by decide) (fun c_1 => ?_) (fun c_1 => ?_)
  · exact absurd c_1 (by decide)
  · refine lv_iload_n hx hb dX6_hasCell_4 rfl (lv_at hl 1 rfl) ?_
    refine lv_aload_n hx hb dX6_hasCell_5 rfl (lv_at hl 0 rfl) ?_
    refine va_get (D := (dC, dI)) (ci := 6) (v := .int 1) (C := RX6) (T := TX6) (N := 4) hx hb hts iw_k_hasCell_20_2_X6 hown hK hP 0 rfl rfl 3 (by decide) (hts (.fieldLink RX6 9 "ThriceCounted$Rows" "size" "I") (by decide +kernel)) (fun _ h9 => h9) rfl dX6_hasCell_6 ?_
    refine lv_icmp_ge (tgt := 44) hx hb dX6_hasCell_9 (by decide) (fun c_2 => ?_) (fun c_2 => ?_)
    · exact absurd c_2 (by decide)
    · refine lv_iload_n hx hb dX6_hasCell_12 rfl (lv_at hl 2 rfl) ?_
      refine lv_if_lt (tgt := 44) hx hb dX6_hasCell_13 (by decide) (fun c_3 => ?_) (fun c_3 => ?_)
      · exact absurd c_3 (by decide)
      · refine lv_iload_n hx hb dX6_hasCell_16 rfl (lv_at hl 2 rfl) ?_
        refine lv_aload_n hx hb dX6_hasCell_17 rfl (lv_at hl 0 rfl) ?_
        refine va_get (D := (dC, dI)) (ci := 6) (v := .int 4) (C := RX6) (T := TX6) (N := 4) hx hb hts iw_k_hasCell_20_2_X6 hown hK hP 0 rfl rfl 0 (by decide) (hts (.fieldLink RX6 24 "ThriceCounted$Rows" "width" "I") (by decide +kernel)) (fun _ h9 => h9) rfl dX6_hasCell_18 ?_
        refine lv_icmp_ge (tgt := 44) hx hb dX6_hasCell_21 (by decide) (fun c_4 => ?_) (fun c_4 => ?_)
        · exact absurd c_4 (by decide)
        · refine lv_iload_n hx hb dX6_hasCell_24 rfl (lv_at hl 1 rfl) ?_
          refine lv_aload_n hx hb dX6_hasCell_25 rfl (lv_at hl 0 rfl) ?_
          refine va_get (D := (dC, dI)) (ci := 6) (v := .int 4) (C := RX6) (T := TX6) (N := 4) hx hb hts iw_k_hasCell_20_2_X6 hown hK hP 0 rfl rfl 0 (by decide) (hts (.fieldLink RX6 24 "ThriceCounted$Rows" "width" "I") (by decide +kernel)) (fun _ h9 => h9) rfl dX6_hasCell_26 ?_
          refine lv_imul hx hb dX6_hasCell_29 ?_
          refine tz_i 0 (by decide) ?_
          refine lv_iload_n hx hb dX6_hasCell_30 rfl (lv_at hl 2 rfl) ?_
          refine lv_iadd hx hb dX6_hasCell_31 ?_
          refine tz_i 2 (by decide) ?_
          refine lv_aload_n hx hb dX6_hasCell_32 rfl (lv_at hl 0 rfl) ?_
          refine va_get (D := (dC, dI)) (ci := 6) (v := .ref ca) (C := RX6) (T := TX6) (N := 4) hx hb hts iw_k_hasCell_20_2_X6 hown hK hP 0 rfl rfl 2 (by decide) (hts (.fieldLink RX6 27 "ThriceCounted$Rows" "cells" "[I") (by decide +kernel)) (fun _ h9 => h9) rfl dX6_hasCell_33 ?_
          refine va_alen (v := 20) hx hb hK hP 1 0 rfl rfl rfl dX6_hasCell_36 ?_
          refine lv_icmp_ge (tgt := 44) hx hb dX6_hasCell_37 (by decide) (fun c_5 => ?_) (fun c_5 => ?_)
          · exact absurd c_5 (by decide)
          · refine lv_iconst (v := 1) hx hb dX6_hasCell_40 (by decide) ?_
            refine lv_goto (tgt := 45) hx hb dX6_hasCell_41 (by decide) ?_
            exact W.zret (v := 1) hx hb hr (by decide) (fun t ht hW => ⟨1, rfl, rfl, ht⟩) (fun _ h => absurd h List.not_mem_nil) dX6_hasCell_45
set_option maxRecDepth 20000 in
theorem iw_k_put_20_2_X6 : ∀ w ∈ wsX60, w ∈ wsX6_put := by decide +kernel
set_option maxHeartbeats 4000000 in
set_option maxRecDepth 100000 in
theorem k_put_20_2 (l : Launch) (dC : Nat → ClassId) (dI : Nat → Nat → Nat) (ro : Nat) (ca : Nat) (cc0 : ClassId) (ff : Nat → Int32) (nv : Int32) (sz : Nat) : Met l yX6_put wsX6_put ({ frames := 1, cells := 0, slots := 0, locals := 22 }) (va_Pc [.ref ro, .int 0, .int 2, .int nv] (fun U => U.heap.size = sz ∧ va_P (dC, dI) vwCl [(ro, .inr (6, [.int 4, .int 5, .ref ca, .int 1])), (ca, .inl (cc0, 20, .inl ff))] U.heap ∧ va_K (dC, dI) vwCl [(cc0, .int)] U ∧ va_D (fun _ => True) [(ro, .inr (6, [.int 4, .int 5, .ref ca, .int 1])), (ca, .inl (cc0, 20, .inl ff))])) (va_Qv (fun (_ : Unit) => True) (fun _ t => ∃ (fg : Nat → Int32), va_P (dC, dI) vwCl [(ro, .inr (6, [.int 4, .int 5, .ref ca, .int 1])), (ca, .inl (cc0, 20, .inl fg))] t.heap ∧ va_K (dC, dI) vwCl [(cc0, .int)] t ∧ va_D (va_A [(ro, .inr (6, [.int 4, .int 5, .ref ca, .int 1])), (ca, .inl (cc0, 20, .inl ff))] sz) [(ro, .inr (6, [.int 4, .int 5, .ref ca, .int 1])), (ca, .inl (cc0, 20, .inl fg))]) (va_A [(ro, .inr (6, [.int 4, .int 5, .ref ca, .int 1])), (ca, .inl (cc0, 20, .inl ff))] sz)) 0 0 (va_A [(ro, .inr (6, [.int 4, .int 5, .ref ca, .int 1])), (ca, .inl (cc0, 20, .inl ff))] sz) := by
  refine Met.ofW (cc := cX6_put) (maxL := 4) (ret := none) (by decide) rfl ?_
  intro p e s m args below meth c s₁ B hml hv
  obtain ⟨rfl, hsz, hP, hK, hD0⟩ := hv
  have hx := B.exec
  have hb := B.bytes
  have hr := B.returns
  have hts := atoms_spec (ws := wsX6_put) B.pre
  have hown : s.vm.findClass RX6 = some m.cls := findClass_of_methodNamed B.named
  have hlocks := B.notSynchronized
  subst hsz
  have hD := hD0.self (sz := s.heap.size)
  generalize hAe : va_A [(ro, .inr (6, [.int 4, .int 5, .ref ca, .int 1])), (ca, .inl (cc0, 20, .inl ff))] s.heap.size = A at hD ⊢
  have hA : ∀ q : Nat, s.heap.size ≤ q → A q := fun q h => by rw [← hAe]; exact Or.inr h
  have hS : va_S A s.heap s.heap [] := va_S.rf
  have hP : va_P (dC, dI) vwCl [(ro, .inr (6, [.int 4, .int 5, .ref ca, .int 1])), (ca, .inl (cc0, 20, .inl ff))] s.heap := hP
  have hl := lv_entry ([.ref ro, .int 0, .int 2, .int nv]) (n := 4) (Nat.le_of_ble_eq_true rfl)
  rw [lg_entry_eq]
  generalize (lg_sl ([.ref ro, .int 0, .int 2, .int nv]) ++ List.replicate (4 - (lg_sl ([.ref ro, .int 0, .int 2, .int nv])).length) Slot.unset).toArray = ls at hl ⊢
  have hl : lv_has ls 4 [(0, .ref ro), (1, .int 0), (2, .int 2), (3, .int nv)] := hl
  refine lv_aload_n hx hb dX6_put_0 rfl (lv_at hl 0 rfl) ?_
  refine lv_iload_n hx hb dX6_put_1 rfl (lv_at hl 1 rfl) ?_
  refine lv_iload_n hx hb dX6_put_2 rfl (lv_at hl 2 rfl) ?_
  have hPc_1 := hP.sub (ws' := [(ro, .inr (6, [.int 4, .int 5, .ref ca, .int 1])), (ca, .inl (cc0, 20, .inl ff))]) [0, 1] rfl
  have hKc_2 := hK.sub (tys' := [(cc0, .int)]) [0] rfl
  refine vp_callSi (va_Run.run (va_runV (As := [.int 0, .int 2]) (rest := []) ⟨hx, hb, hml, hown, hts⟩ (k_hasCell_20_2 l dC dI ro ca cc0 ff) (cwV 2 hts gX6_put_X6_hasCell rfl rfl rfl (by decide +kernel) ⟨Nat.le_of_ble_eq_true rfl, Nat.le_of_ble_eq_true rfl⟩) ⟨fun a U g mk q => by obtain ⟨q0, qP, qK⟩ := q; exact ⟨q0, qP, va_K.moved (u := U) (U := U.calling g mk a) (Vm.Alike.refl U.vm) qK⟩, va_recv hK hP (ci := 6) (q0 := 0) rfl rfl, fun U hU hW => ⟨rfl, by rw [hU]; exact hPc_1, va_K.moved hW.alike hKc_2⟩⟩ rfl rfl hl.1 rfl (lv_room (Nat.le_of_ble_eq_true rfl)) dX6_put_3 ⟨Nat.le_of_ble_eq_true rfl, Nat.le_of_ble_eq_true rfl⟩)) (fun r_3 hw_4 => ?_)
  obtain rfl : 1 = r_3 := hw_4.symm
  refine lv_if_eq (tgt := 23) hx hb dX6_put_6 (by decide) (fun c_5 => ?_) (fun c_5 => ?_)
  · exact absurd c_5 (by decide)
  · refine lv_aload_n hx hb dX6_put_9 rfl (lv_at hl 0 rfl) ?_
    refine va_get (D := (dC, dI)) (ci := 6) (v := .ref ca) (C := RX6) (T := TX6) (N := 4) hx hb hts iw_k_put_20_2_X6 hown hK hP 0 rfl rfl 2 (by decide) (hts (.fieldLink RX6 27 "ThriceCounted$Rows" "cells" "[I") (by decide +kernel)) (fun _ h9 => h9) rfl dX6_put_10 ?_
    refine lv_iload_n hx hb dX6_put_13 rfl (lv_at hl 1 rfl) ?_
    refine lv_aload_n hx hb dX6_put_14 rfl (lv_at hl 0 rfl) ?_
    refine va_get (D := (dC, dI)) (ci := 6) (v := .int 4) (C := RX6) (T := TX6) (N := 4) hx hb hts iw_k_put_20_2_X6 hown hK hP 0 rfl rfl 0 (by decide) (hts (.fieldLink RX6 24 "ThriceCounted$Rows" "width" "I") (by decide +kernel)) (fun _ h9 => h9) rfl dX6_put_15 ?_
    refine lv_imul hx hb dX6_put_18 ?_
    refine tz_i 0 (by decide) ?_
    refine lv_iload_n hx hb dX6_put_19 rfl (lv_at hl 2 rfl) ?_
    refine lv_iadd hx hb dX6_put_20 ?_
    refine tz_i 2 (by decide) ?_
    refine lv_iload_n hx hb dX6_put_21 rfl (lv_at hl 3 rfl) ?_
    refine va_iast hx hb hK hP hD hS 1 0 rfl rfl (show ¬ ((2 : Int32) < 0 ∨ 20 ≤ (2 : Int32).toNatClampNeg) by decide) dX6_put_22 (fun H locs hP hD hS => ?_)
    generalize (upd ff (Int32.toNatClampNeg 2) nv) = f_6 at hP hD
    have hP : va_P (dC, dI) vwCl [(ro, .inr (6, [.int 4, .int 5, .ref ca, .int 1])), (ca, .inl (cc0, 20, .inl f_6))] H := hP
    have hD : va_D A [(ro, .inr (6, [.int 4, .int 5, .ref ca, .int 1])), (ca, .inl (cc0, 20, .inl f_6))] := hD
    have hP9 := hP.sub (ws' := [(ro, .inr (6, [.int 4, .int 5, .ref ca, .int 1])), (ca, .inl (cc0, 20, .inl f_6))]) [0, 1] rfl
    have hD9 := hD.sub (ws' := [(ro, .inr (6, [.int 4, .int 5, .ref ca, .int 1])), (ca, .inl (cc0, 20, .inl f_6))]) [0, 1] (by decide) rfl
    have hK9 := hK.sub (tys' := [(cc0, .int)]) [0] rfl
    exact W.vret hx hb hr (fun t ht hW => ⟨⟨(), rfl, trivial, f_6, by rw [ht]; exact hP9, va_K.moved hW.alike hK9, hD9⟩, hS.F ht⟩) hS.2.2 dX6_put_23
set_option maxRecDepth 20000 in
theorem iw_k_hasCell_20_3_X6 : ∀ w ∈ wsX60, w ∈ wsX6_hasCell := by decide +kernel
set_option maxHeartbeats 4000000 in
set_option maxRecDepth 100000 in
theorem k_hasCell_20_3 (l : Launch) (dC : Nat → ClassId) (dI : Nat → Nat → Nat) (ro : Nat) (ca : Nat) (cc0 : ClassId) (ff : Nat → Int32) : Met l yX6_hasCell wsX6_hasCell ({ frames := 0, cells := 0, slots := 0, locals := 0 }) (va_Pc [.ref ro, .int 0, .int 3] (fun U => va_P (dC, dI) vwCl [(ro, .inr (6, [.int 4, .int 5, .ref ca, .int 1])), (ca, .inl (cc0, 20, .inl ff))] U.heap ∧ va_K (dC, dI) vwCl [(cc0, .int)] U)) (vp_Si (fun r => r = 1)) 0 0 (fun _ => False) := by
  refine Met.ofW (cc := cX6_hasCell) (maxL := 3) (ret := (some .boolean)) (by decide) rfl ?_
  intro p e s m args below meth c s₁ B hml hv
  obtain ⟨rfl, hP, hK⟩ := hv
  have hx := B.exec
  have hb := B.bytes
  have hr := B.returns
  have hts := atoms_spec (ws := wsX6_hasCell) B.pre
  have hown : s.vm.findClass RX6 = some m.cls := findClass_of_methodNamed B.named
  have hlocks := B.notSynchronized
  have hl := lv_entry ([.ref ro, .int 0, .int 3]) (n := 3) (Nat.le_of_ble_eq_true rfl)
  rw [lg_entry_eq]
  generalize (lg_sl ([.ref ro, .int 0, .int 3]) ++ List.replicate (3 - (lg_sl ([.ref ro, .int 0, .int 3])).length) Slot.unset).toArray = ls at hl ⊢
  have hl : lv_has ls 3 [(0, .ref ro), (1, .int 0), (2, .int 3)] := hl
  refine lv_iload_n hx hb dX6_hasCell_0 rfl (lv_at hl 1 rfl) ?_
  refine lv_if_lt (tgt := 44) hx hb dX6_hasCell_1 (by decide) (fun c_1 => ?_) (fun c_1 => ?_)
  · exact absurd c_1 (by decide)
  · refine lv_iload_n hx hb dX6_hasCell_4 rfl (lv_at hl 1 rfl) ?_
    refine lv_aload_n hx hb dX6_hasCell_5 rfl (lv_at hl 0 rfl) ?_
    refine va_get (D := (dC, dI)) (ci := 6) (v := .int 1) (C := RX6) (T := TX6) (N := 4) hx hb hts iw_k_hasCell_20_3_X6 hown hK hP 0 rfl rfl 3 (by decide) (hts (.fieldLink RX6 9 "ThriceCounted$Rows" "size" "I") (by decide +kernel)) (fun _ h9 => h9) rfl dX6_hasCell_6 ?_
    refine lv_icmp_ge (tgt := 44) hx hb dX6_hasCell_9 (by decide) (fun c_2 => ?_) (fun c_2 => ?_)
    · exact absurd c_2 (by decide)
    · refine lv_iload_n hx hb dX6_hasCell_12 rfl (lv_at hl 2 rfl) ?_
      refine lv_if_lt (tgt := 44) hx hb dX6_hasCell_13 (by decide) (fun c_3 => ?_) (fun c_3 => ?_)
      · exact absurd c_3 (by decide)
      · refine lv_iload_n hx hb dX6_hasCell_16 rfl (lv_at hl 2 rfl) ?_
        refine lv_aload_n hx hb dX6_hasCell_17 rfl (lv_at hl 0 rfl) ?_
        refine va_get (D := (dC, dI)) (ci := 6) (v := .int 4) (C := RX6) (T := TX6) (N := 4) hx hb hts iw_k_hasCell_20_3_X6 hown hK hP 0 rfl rfl 0 (by decide) (hts (.fieldLink RX6 24 "ThriceCounted$Rows" "width" "I") (by decide +kernel)) (fun _ h9 => h9) rfl dX6_hasCell_18 ?_
        refine lv_icmp_ge (tgt := 44) hx hb dX6_hasCell_21 (by decide) (fun c_4 => ?_) (fun c_4 => ?_)
        · exact absurd c_4 (by decide)
        · refine lv_iload_n hx hb dX6_hasCell_24 rfl (lv_at hl 1 rfl) ?_
          refine lv_aload_n hx hb dX6_hasCell_25 rfl (lv_at hl 0 rfl) ?_
          refine va_get (D := (dC, dI)) (ci := 6) (v := .int 4) (C := RX6) (T := TX6) (N := 4) hx hb hts iw_k_hasCell_20_3_X6 hown hK hP 0 rfl rfl 0 (by decide) (hts (.fieldLink RX6 24 "ThriceCounted$Rows" "width" "I") (by decide +kernel)) (fun _ h9 => h9) rfl dX6_hasCell_26 ?_
          refine lv_imul hx hb dX6_hasCell_29 ?_
          refine tz_i 0 (by decide) ?_
          refine lv_iload_n hx hb dX6_hasCell_30 rfl (lv_at hl 2 rfl) ?_
          refine lv_iadd hx hb dX6_hasCell_31 ?_
          refine tz_i 3 (by decide) ?_
          refine lv_aload_n hx hb dX6_hasCell_32 rfl (lv_at hl 0 rfl) ?_
          refine va_get (D := (dC, dI)) (ci := 6) (v := .ref ca) (C := RX6) (T := TX6) (N := 4) hx hb hts iw_k_hasCell_20_3_X6 hown hK hP 0 rfl rfl 2 (by decide) (hts (.fieldLink RX6 27 "ThriceCounted$Rows" "cells" "[I") (by decide +kernel)) (fun _ h9 => h9) rfl dX6_hasCell_33 ?_
          refine va_alen (v := 20) hx hb hK hP 1 0 rfl rfl rfl dX6_hasCell_36 ?_
          refine lv_icmp_ge (tgt := 44) hx hb dX6_hasCell_37 (by decide) (fun c_5 => ?_) (fun c_5 => ?_)
          · exact absurd c_5 (by decide)
          · refine lv_iconst (v := 1) hx hb dX6_hasCell_40 (by decide) ?_
            refine lv_goto (tgt := 45) hx hb dX6_hasCell_41 (by decide) ?_
            exact W.zret (v := 1) hx hb hr (by decide) (fun t ht hW => ⟨1, rfl, rfl, ht⟩) (fun _ h => absurd h List.not_mem_nil) dX6_hasCell_45
set_option maxRecDepth 20000 in
theorem iw_k_put_20_3_X6 : ∀ w ∈ wsX60, w ∈ wsX6_put := by decide +kernel
set_option maxHeartbeats 4000000 in
set_option maxRecDepth 100000 in
theorem k_put_20_3 (l : Launch) (dC : Nat → ClassId) (dI : Nat → Nat → Nat) (ro : Nat) (ca : Nat) (cc0 : ClassId) (ff : Nat → Int32) (nv : Int32) (sz : Nat) : Met l yX6_put wsX6_put ({ frames := 1, cells := 0, slots := 0, locals := 22 }) (va_Pc [.ref ro, .int 0, .int 3, .int nv] (fun U => U.heap.size = sz ∧ va_P (dC, dI) vwCl [(ro, .inr (6, [.int 4, .int 5, .ref ca, .int 1])), (ca, .inl (cc0, 20, .inl ff))] U.heap ∧ va_K (dC, dI) vwCl [(cc0, .int)] U ∧ va_D (fun _ => True) [(ro, .inr (6, [.int 4, .int 5, .ref ca, .int 1])), (ca, .inl (cc0, 20, .inl ff))])) (va_Qv (fun (_ : Unit) => True) (fun _ t => ∃ (fg : Nat → Int32), va_P (dC, dI) vwCl [(ro, .inr (6, [.int 4, .int 5, .ref ca, .int 1])), (ca, .inl (cc0, 20, .inl fg))] t.heap ∧ va_K (dC, dI) vwCl [(cc0, .int)] t ∧ va_D (va_A [(ro, .inr (6, [.int 4, .int 5, .ref ca, .int 1])), (ca, .inl (cc0, 20, .inl ff))] sz) [(ro, .inr (6, [.int 4, .int 5, .ref ca, .int 1])), (ca, .inl (cc0, 20, .inl fg))]) (va_A [(ro, .inr (6, [.int 4, .int 5, .ref ca, .int 1])), (ca, .inl (cc0, 20, .inl ff))] sz)) 0 0 (va_A [(ro, .inr (6, [.int 4, .int 5, .ref ca, .int 1])), (ca, .inl (cc0, 20, .inl ff))] sz) := by
  refine Met.ofW (cc := cX6_put) (maxL := 4) (ret := none) (by decide) rfl ?_
  intro p e s m args below meth c s₁ B hml hv
  obtain ⟨rfl, hsz, hP, hK, hD0⟩ := hv
  have hx := B.exec
  have hb := B.bytes
  have hr := B.returns
  have hts := atoms_spec (ws := wsX6_put) B.pre
  have hown : s.vm.findClass RX6 = some m.cls := findClass_of_methodNamed B.named
  have hlocks := B.notSynchronized
  subst hsz
  have hD := hD0.self (sz := s.heap.size)
  generalize hAe : va_A [(ro, .inr (6, [.int 4, .int 5, .ref ca, .int 1])), (ca, .inl (cc0, 20, .inl ff))] s.heap.size = A at hD ⊢
  have hA : ∀ q : Nat, s.heap.size ≤ q → A q := fun q h => by rw [← hAe]; exact Or.inr h
  have hS : va_S A s.heap s.heap [] := va_S.rf
  have hP : va_P (dC, dI) vwCl [(ro, .inr (6, [.int 4, .int 5, .ref ca, .int 1])), (ca, .inl (cc0, 20, .inl ff))] s.heap := hP
  have hl := lv_entry ([.ref ro, .int 0, .int 3, .int nv]) (n := 4) (Nat.le_of_ble_eq_true rfl)
  rw [lg_entry_eq]
  generalize (lg_sl ([.ref ro, .int 0, .int 3, .int nv]) ++ List.replicate (4 - (lg_sl ([.ref ro, .int 0, .int 3, .int nv])).length) Slot.unset).toArray = ls at hl ⊢
  have hl : lv_has ls 4 [(0, .ref ro), (1, .int 0), (2, .int 3), (3, .int nv)] := hl
  refine lv_aload_n hx hb dX6_put_0 rfl (lv_at hl 0 rfl) ?_
  refine lv_iload_n hx hb dX6_put_1 rfl (lv_at hl 1 rfl) ?_
  refine lv_iload_n hx hb dX6_put_2 rfl (lv_at hl 2 rfl) ?_
  have hPc_1 := hP.sub (ws' := [(ro, .inr (6, [.int 4, .int 5, .ref ca, .int 1])), (ca, .inl (cc0, 20, .inl ff))]) [0, 1] rfl
  have hKc_2 := hK.sub (tys' := [(cc0, .int)]) [0] rfl
  refine vp_callSi (va_Run.run (va_runV (As := [.int 0, .int 3]) (rest := []) ⟨hx, hb, hml, hown, hts⟩ (k_hasCell_20_3 l dC dI ro ca cc0 ff) (cwV 2 hts gX6_put_X6_hasCell rfl rfl rfl (by decide +kernel) ⟨Nat.le_of_ble_eq_true rfl, Nat.le_of_ble_eq_true rfl⟩) ⟨fun a U g mk q => by obtain ⟨q0, qP, qK⟩ := q; exact ⟨q0, qP, va_K.moved (u := U) (U := U.calling g mk a) (Vm.Alike.refl U.vm) qK⟩, va_recv hK hP (ci := 6) (q0 := 0) rfl rfl, fun U hU hW => ⟨rfl, by rw [hU]; exact hPc_1, va_K.moved hW.alike hKc_2⟩⟩ rfl rfl hl.1 rfl (lv_room (Nat.le_of_ble_eq_true rfl)) dX6_put_3 ⟨Nat.le_of_ble_eq_true rfl, Nat.le_of_ble_eq_true rfl⟩)) (fun r_3 hw_4 => ?_)
  obtain rfl : 1 = r_3 := hw_4.symm
  refine lv_if_eq (tgt := 23) hx hb dX6_put_6 (by decide) (fun c_5 => ?_) (fun c_5 => ?_)
  · exact absurd c_5 (by decide)
  · refine lv_aload_n hx hb dX6_put_9 rfl (lv_at hl 0 rfl) ?_
    refine va_get (D := (dC, dI)) (ci := 6) (v := .ref ca) (C := RX6) (T := TX6) (N := 4) hx hb hts iw_k_put_20_3_X6 hown hK hP 0 rfl rfl 2 (by decide) (hts (.fieldLink RX6 27 "ThriceCounted$Rows" "cells" "[I") (by decide +kernel)) (fun _ h9 => h9) rfl dX6_put_10 ?_
    refine lv_iload_n hx hb dX6_put_13 rfl (lv_at hl 1 rfl) ?_
    refine lv_aload_n hx hb dX6_put_14 rfl (lv_at hl 0 rfl) ?_
    refine va_get (D := (dC, dI)) (ci := 6) (v := .int 4) (C := RX6) (T := TX6) (N := 4) hx hb hts iw_k_put_20_3_X6 hown hK hP 0 rfl rfl 0 (by decide) (hts (.fieldLink RX6 24 "ThriceCounted$Rows" "width" "I") (by decide +kernel)) (fun _ h9 => h9) rfl dX6_put_15 ?_
    refine lv_imul hx hb dX6_put_18 ?_
    refine tz_i 0 (by decide) ?_
    refine lv_iload_n hx hb dX6_put_19 rfl (lv_at hl 2 rfl) ?_
    refine lv_iadd hx hb dX6_put_20 ?_
    refine tz_i 3 (by decide) ?_
    refine lv_iload_n hx hb dX6_put_21 rfl (lv_at hl 3 rfl) ?_
    refine va_iast hx hb hK hP hD hS 1 0 rfl rfl (show ¬ ((3 : Int32) < 0 ∨ 20 ≤ (3 : Int32).toNatClampNeg) by decide) dX6_put_22 (fun H locs hP hD hS => ?_)
    generalize (upd ff (Int32.toNatClampNeg 3) nv) = f_6 at hP hD
    have hP : va_P (dC, dI) vwCl [(ro, .inr (6, [.int 4, .int 5, .ref ca, .int 1])), (ca, .inl (cc0, 20, .inl f_6))] H := hP
    have hD : va_D A [(ro, .inr (6, [.int 4, .int 5, .ref ca, .int 1])), (ca, .inl (cc0, 20, .inl f_6))] := hD
    have hP9 := hP.sub (ws' := [(ro, .inr (6, [.int 4, .int 5, .ref ca, .int 1])), (ca, .inl (cc0, 20, .inl f_6))]) [0, 1] rfl
    have hD9 := hD.sub (ws' := [(ro, .inr (6, [.int 4, .int 5, .ref ca, .int 1])), (ca, .inl (cc0, 20, .inl f_6))]) [0, 1] (by decide) rfl
    have hK9 := hK.sub (tys' := [(cc0, .int)]) [0] rfl
    exact W.vret hx hb hr (fun t ht hW => ⟨⟨(), rfl, trivial, f_6, by rw [ht]; exact hP9, va_K.moved hW.alike hK9, hD9⟩, hS.F ht⟩) hS.2.2 dX6_put_23
set_option maxRecDepth 20000 in
theorem iw_k_hasCell_24_0_X6 : ∀ w ∈ wsX60, w ∈ wsX6_hasCell := by decide +kernel
set_option maxHeartbeats 4000000 in
set_option maxRecDepth 100000 in
theorem k_hasCell_24_0 (l : Launch) (dC : Nat → ClassId) (dI : Nat → Nat → Nat) (ro : Nat) (ca : Nat) (cc0 : ClassId) (ff : Nat → Int32) : Met l yX6_hasCell wsX6_hasCell ({ frames := 0, cells := 0, slots := 0, locals := 0 }) (va_Pc [.ref ro, .int 0, .int 0] (fun U => va_P (dC, dI) vwCl [(ro, .inr (6, [.int 4, .int 6, .ref ca, .int 1])), (ca, .inl (cc0, 24, .inl ff))] U.heap ∧ va_K (dC, dI) vwCl [(cc0, .int)] U)) (vp_Si (fun r => r = 1)) 0 0 (fun _ => False) := by
  refine Met.ofW (cc := cX6_hasCell) (maxL := 3) (ret := (some .boolean)) (by decide) rfl ?_
  intro p e s m args below meth c s₁ B hml hv
  obtain ⟨rfl, hP, hK⟩ := hv
  have hx := B.exec
  have hb := B.bytes
  have hr := B.returns
  have hts := atoms_spec (ws := wsX6_hasCell) B.pre
  have hown : s.vm.findClass RX6 = some m.cls := findClass_of_methodNamed B.named
  have hlocks := B.notSynchronized
  have hl := lv_entry ([.ref ro, .int 0, .int 0]) (n := 3) (Nat.le_of_ble_eq_true rfl)
  rw [lg_entry_eq]
  generalize (lg_sl ([.ref ro, .int 0, .int 0]) ++ List.replicate (3 - (lg_sl ([.ref ro, .int 0, .int 0])).length) Slot.unset).toArray = ls at hl ⊢
  have hl : lv_has ls 3 [(0, .ref ro), (1, .int 0), (2, .int 0)] := hl
  refine lv_iload_n hx hb dX6_hasCell_0 rfl (lv_at hl 1 rfl) ?_
  refine lv_if_lt (tgt := 44) hx hb dX6_hasCell_1 (by decide) (fun c_1 => ?_) (fun c_1 => ?_)
  · exact absurd c_1 (by decide)
  · refine lv_iload_n hx hb dX6_hasCell_4 rfl (lv_at hl 1 rfl) ?_
    refine lv_aload_n hx hb dX6_hasCell_5 rfl (lv_at hl 0 rfl) ?_
    refine va_get (D := (dC, dI)) (ci := 6) (v := .int 1) (C := RX6) (T := TX6) (N := 4) hx hb hts iw_k_hasCell_24_0_X6 hown hK hP 0 rfl rfl 3 (by decide) (hts (.fieldLink RX6 9 "ThriceCounted$Rows" "size" "I") (by decide +kernel)) (fun _ h9 => h9) rfl dX6_hasCell_6 ?_
    refine lv_icmp_ge (tgt := 44) hx hb dX6_hasCell_9 (by decide) (fun c_2 => ?_) (fun c_2 => ?_)
    · exact absurd c_2 (by decide)
    · refine lv_iload_n hx hb dX6_hasCell_12 rfl (lv_at hl 2 rfl) ?_
      refine lv_if_lt (tgt := 44) hx hb dX6_hasCell_13 (by decide) (fun c_3 => ?_) (fun c_3 => ?_)
      · exact absurd c_3 (by decide)
      · refine lv_iload_n hx hb dX6_hasCell_16 rfl (lv_at hl 2 rfl) ?_
        refine lv_aload_n hx hb dX6_hasCell_17 rfl (lv_at hl 0 rfl) ?_
        refine va_get (D := (dC, dI)) (ci := 6) (v := .int 4) (C := RX6) (T := TX6) (N := 4) hx hb hts iw_k_hasCell_24_0_X6 hown hK hP 0 rfl rfl 0 (by decide) (hts (.fieldLink RX6 24 "ThriceCounted$Rows" "width" "I") (by decide +kernel)) (fun _ h9 => h9) rfl dX6_hasCell_18 ?_
        refine lv_icmp_ge (tgt := 44) hx hb dX6_hasCell_21 (by decide) (fun c_4 => ?_) (fun c_4 => ?_)
        · exact absurd c_4 (by decide)
        · refine lv_iload_n hx hb dX6_hasCell_24 rfl (lv_at hl 1 rfl) ?_
          refine lv_aload_n hx hb dX6_hasCell_25 rfl (lv_at hl 0 rfl) ?_
          refine va_get (D := (dC, dI)) (ci := 6) (v := .int 4) (C := RX6) (T := TX6) (N := 4) hx hb hts iw_k_hasCell_24_0_X6 hown hK hP 0 rfl rfl 0 (by decide) (hts (.fieldLink RX6 24 "ThriceCounted$Rows" "width" "I") (by decide +kernel)) (fun _ h9 => h9) rfl dX6_hasCell_26 ?_
          refine lv_imul hx hb dX6_hasCell_29 ?_
          refine tz_i 0 (by decide) ?_
          refine lv_iload_n hx hb dX6_hasCell_30 rfl (lv_at hl 2 rfl) ?_
          refine lv_iadd hx hb dX6_hasCell_31 ?_
          refine tz_i 0 (by decide) ?_
          refine lv_aload_n hx hb dX6_hasCell_32 rfl (lv_at hl 0 rfl) ?_
          refine va_get (D := (dC, dI)) (ci := 6) (v := .ref ca) (C := RX6) (T := TX6) (N := 4) hx hb hts iw_k_hasCell_24_0_X6 hown hK hP 0 rfl rfl 2 (by decide) (hts (.fieldLink RX6 27 "ThriceCounted$Rows" "cells" "[I") (by decide +kernel)) (fun _ h9 => h9) rfl dX6_hasCell_33 ?_
          refine va_alen (v := 24) hx hb hK hP 1 0 rfl rfl rfl dX6_hasCell_36 ?_
          refine lv_icmp_ge (tgt := 44) hx hb dX6_hasCell_37 (by decide) (fun c_5 => ?_) (fun c_5 => ?_)
          · exact absurd c_5 (by decide)
          · refine lv_iconst (v := 1) hx hb dX6_hasCell_40 (by decide) ?_
            refine lv_goto (tgt := 45) hx hb dX6_hasCell_41 (by decide) ?_
            exact W.zret (v := 1) hx hb hr (by decide) (fun t ht hW => ⟨1, rfl, rfl, ht⟩) (fun _ h => absurd h List.not_mem_nil) dX6_hasCell_45
set_option maxRecDepth 20000 in
theorem iw_k_put_24_0_X6 : ∀ w ∈ wsX60, w ∈ wsX6_put := by decide +kernel
set_option maxHeartbeats 4000000 in
set_option maxRecDepth 100000 in
theorem k_put_24_0 (l : Launch) (dC : Nat → ClassId) (dI : Nat → Nat → Nat) (ro : Nat) (ca : Nat) (cc0 : ClassId) (ff : Nat → Int32) (nv : Int32) (sz : Nat) : Met l yX6_put wsX6_put ({ frames := 1, cells := 0, slots := 0, locals := 22 }) (va_Pc [.ref ro, .int 0, .int 0, .int nv] (fun U => U.heap.size = sz ∧ va_P (dC, dI) vwCl [(ro, .inr (6, [.int 4, .int 6, .ref ca, .int 1])), (ca, .inl (cc0, 24, .inl ff))] U.heap ∧ va_K (dC, dI) vwCl [(cc0, .int)] U ∧ va_D (fun _ => True) [(ro, .inr (6, [.int 4, .int 6, .ref ca, .int 1])), (ca, .inl (cc0, 24, .inl ff))])) (va_Qv (fun (_ : Unit) => True) (fun _ t => ∃ (fg : Nat → Int32), va_P (dC, dI) vwCl [(ro, .inr (6, [.int 4, .int 6, .ref ca, .int 1])), (ca, .inl (cc0, 24, .inl fg))] t.heap ∧ va_K (dC, dI) vwCl [(cc0, .int)] t ∧ va_D (va_A [(ro, .inr (6, [.int 4, .int 6, .ref ca, .int 1])), (ca, .inl (cc0, 24, .inl ff))] sz) [(ro, .inr (6, [.int 4, .int 6, .ref ca, .int 1])), (ca, .inl (cc0, 24, .inl fg))]) (va_A [(ro, .inr (6, [.int 4, .int 6, .ref ca, .int 1])), (ca, .inl (cc0, 24, .inl ff))] sz)) 0 0 (va_A [(ro, .inr (6, [.int 4, .int 6, .ref ca, .int 1])), (ca, .inl (cc0, 24, .inl ff))] sz) := by
  refine Met.ofW (cc := cX6_put) (maxL := 4) (ret := none) (by decide) rfl ?_
  intro p e s m args below meth c s₁ B hml hv
  obtain ⟨rfl, hsz, hP, hK, hD0⟩ := hv
  have hx := B.exec
  have hb := B.bytes
  have hr := B.returns
  have hts := atoms_spec (ws := wsX6_put) B.pre
  have hown : s.vm.findClass RX6 = some m.cls := findClass_of_methodNamed B.named
  have hlocks := B.notSynchronized
  subst hsz
  have hD := hD0.self (sz := s.heap.size)
  generalize hAe : va_A [(ro, .inr (6, [.int 4, .int 6, .ref ca, .int 1])), (ca, .inl (cc0, 24, .inl ff))] s.heap.size = A at hD ⊢
  have hA : ∀ q : Nat, s.heap.size ≤ q → A q := fun q h => by rw [← hAe]; exact Or.inr h
  have hS : va_S A s.heap s.heap [] := va_S.rf
  have hP : va_P (dC, dI) vwCl [(ro, .inr (6, [.int 4, .int 6, .ref ca, .int 1])), (ca, .inl (cc0, 24, .inl ff))] s.heap := hP
  have hl := lv_entry ([.ref ro, .int 0, .int 0, .int nv]) (n := 4) (Nat.le_of_ble_eq_true rfl)
  rw [lg_entry_eq]
  generalize (lg_sl ([.ref ro, .int 0, .int 0, .int nv]) ++ List.replicate (4 - (lg_sl ([.ref ro, .int 0, .int 0, .int nv])).length) Slot.unset).toArray = ls at hl ⊢
  have hl : lv_has ls 4 [(0, .ref ro), (1, .int 0), (2, .int 0), (3, .int nv)] := hl
  refine lv_aload_n hx hb dX6_put_0 rfl (lv_at hl 0 rfl) ?_
  refine lv_iload_n hx hb dX6_put_1 rfl (lv_at hl 1 rfl) ?_
  refine lv_iload_n hx hb dX6_put_2 rfl (lv_at hl 2 rfl) ?_
  have hPc_1 := hP.sub (ws' := [(ro, .inr (6, [.int 4, .int 6, .ref ca, .int 1])), (ca, .inl (cc0, 24, .inl ff))]) [0, 1] rfl
  have hKc_2 := hK.sub (tys' := [(cc0, .int)]) [0] rfl
  refine vp_callSi (va_Run.run (va_runV (As := [.int 0, .int 0]) (rest := []) ⟨hx, hb, hml, hown, hts⟩ (k_hasCell_24_0 l dC dI ro ca cc0 ff) (cwV 2 hts gX6_put_X6_hasCell rfl rfl rfl (by decide +kernel) ⟨Nat.le_of_ble_eq_true rfl, Nat.le_of_ble_eq_true rfl⟩) ⟨fun a U g mk q => by obtain ⟨q0, qP, qK⟩ := q; exact ⟨q0, qP, va_K.moved (u := U) (U := U.calling g mk a) (Vm.Alike.refl U.vm) qK⟩, va_recv hK hP (ci := 6) (q0 := 0) rfl rfl, fun U hU hW => ⟨rfl, by rw [hU]; exact hPc_1, va_K.moved hW.alike hKc_2⟩⟩ rfl rfl hl.1 rfl (lv_room (Nat.le_of_ble_eq_true rfl)) dX6_put_3 ⟨Nat.le_of_ble_eq_true rfl, Nat.le_of_ble_eq_true rfl⟩)) (fun r_3 hw_4 => ?_)
  obtain rfl : 1 = r_3 := hw_4.symm
  refine lv_if_eq (tgt := 23) hx hb dX6_put_6 (by decide) (fun c_5 => ?_) (fun c_5 => ?_)
  · exact absurd c_5 (by decide)
  · refine lv_aload_n hx hb dX6_put_9 rfl (lv_at hl 0 rfl) ?_
    refine va_get (D := (dC, dI)) (ci := 6) (v := .ref ca) (C := RX6) (T := TX6) (N := 4) hx hb hts iw_k_put_24_0_X6 hown hK hP 0 rfl rfl 2 (by decide) (hts (.fieldLink RX6 27 "ThriceCounted$Rows" "cells" "[I") (by decide +kernel)) (fun _ h9 => h9) rfl dX6_put_10 ?_
    refine lv_iload_n hx hb dX6_put_13 rfl (lv_at hl 1 rfl) ?_
    refine lv_aload_n hx hb dX6_put_14 rfl (lv_at hl 0 rfl) ?_
    refine va_get (D := (dC, dI)) (ci := 6) (v := .int 4) (C := RX6) (T := TX6) (N := 4) hx hb hts iw_k_put_24_0_X6 hown hK hP 0 rfl rfl 0 (by decide) (hts (.fieldLink RX6 24 "ThriceCounted$Rows" "width" "I") (by decide +kernel)) (fun _ h9 => h9) rfl dX6_put_15 ?_
    refine lv_imul hx hb dX6_put_18 ?_
    refine tz_i 0 (by decide) ?_
    refine lv_iload_n hx hb dX6_put_19 rfl (lv_at hl 2 rfl) ?_
    refine lv_iadd hx hb dX6_put_20 ?_
    refine tz_i 0 (by decide) ?_
    refine lv_iload_n hx hb dX6_put_21 rfl (lv_at hl 3 rfl) ?_
    refine va_iast hx hb hK hP hD hS 1 0 rfl rfl (show ¬ ((0 : Int32) < 0 ∨ 24 ≤ (0 : Int32).toNatClampNeg) by decide) dX6_put_22 (fun H locs hP hD hS => ?_)
    generalize (upd ff (Int32.toNatClampNeg 0) nv) = f_6 at hP hD
    have hP : va_P (dC, dI) vwCl [(ro, .inr (6, [.int 4, .int 6, .ref ca, .int 1])), (ca, .inl (cc0, 24, .inl f_6))] H := hP
    have hD : va_D A [(ro, .inr (6, [.int 4, .int 6, .ref ca, .int 1])), (ca, .inl (cc0, 24, .inl f_6))] := hD
    have hP9 := hP.sub (ws' := [(ro, .inr (6, [.int 4, .int 6, .ref ca, .int 1])), (ca, .inl (cc0, 24, .inl f_6))]) [0, 1] rfl
    have hD9 := hD.sub (ws' := [(ro, .inr (6, [.int 4, .int 6, .ref ca, .int 1])), (ca, .inl (cc0, 24, .inl f_6))]) [0, 1] (by decide) rfl
    have hK9 := hK.sub (tys' := [(cc0, .int)]) [0] rfl
    exact W.vret hx hb hr (fun t ht hW => ⟨⟨(), rfl, trivial, f_6, by rw [ht]; exact hP9, va_K.moved hW.alike hK9, hD9⟩, hS.F ht⟩) hS.2.2 dX6_put_23
set_option maxRecDepth 20000 in
theorem iw_k_hasCell_24_1_X6 : ∀ w ∈ wsX60, w ∈ wsX6_hasCell := by decide +kernel
set_option maxHeartbeats 4000000 in
set_option maxRecDepth 100000 in
theorem k_hasCell_24_1 (l : Launch) (dC : Nat → ClassId) (dI : Nat → Nat → Nat) (ro : Nat) (ca : Nat) (cc0 : ClassId) (ff : Nat → Int32) : Met l yX6_hasCell wsX6_hasCell ({ frames := 0, cells := 0, slots := 0, locals := 0 }) (va_Pc [.ref ro, .int 0, .int 1] (fun U => va_P (dC, dI) vwCl [(ro, .inr (6, [.int 4, .int 6, .ref ca, .int 1])), (ca, .inl (cc0, 24, .inl ff))] U.heap ∧ va_K (dC, dI) vwCl [(cc0, .int)] U)) (vp_Si (fun r => r = 1)) 0 0 (fun _ => False) := by
  refine Met.ofW (cc := cX6_hasCell) (maxL := 3) (ret := (some .boolean)) (by decide) rfl ?_
  intro p e s m args below meth c s₁ B hml hv
  obtain ⟨rfl, hP, hK⟩ := hv
  have hx := B.exec
  have hb := B.bytes
  have hr := B.returns
  have hts := atoms_spec (ws := wsX6_hasCell) B.pre
  have hown : s.vm.findClass RX6 = some m.cls := findClass_of_methodNamed B.named
  have hlocks := B.notSynchronized
  have hl := lv_entry ([.ref ro, .int 0, .int 1]) (n := 3) (Nat.le_of_ble_eq_true rfl)
  rw [lg_entry_eq]
  generalize (lg_sl ([.ref ro, .int 0, .int 1]) ++ List.replicate (3 - (lg_sl ([.ref ro, .int 0, .int 1])).length) Slot.unset).toArray = ls at hl ⊢
  have hl : lv_has ls 3 [(0, .ref ro), (1, .int 0), (2, .int 1)] := hl
  refine lv_iload_n hx hb dX6_hasCell_0 rfl (lv_at hl 1 rfl) ?_
  refine lv_if_lt (tgt := 44) hx hb dX6_hasCell_1 (by decide) (fun c_1 => ?_) (fun c_1 => ?_)
  · exact absurd c_1 (by decide)
  · refine lv_iload_n hx hb dX6_hasCell_4 rfl (lv_at hl 1 rfl) ?_
    refine lv_aload_n hx hb dX6_hasCell_5 rfl (lv_at hl 0 rfl) ?_
    refine va_get (D := (dC, dI)) (ci := 6) (v := .int 1) (C := RX6) (T := TX6) (N := 4) hx hb hts iw_k_hasCell_24_1_X6 hown hK hP 0 rfl rfl 3 (by decide) (hts (.fieldLink RX6 9 "ThriceCounted$Rows" "size" "I") (by decide +kernel)) (fun _ h9 => h9) rfl dX6_hasCell_6 ?_
    refine lv_icmp_ge (tgt := 44) hx hb dX6_hasCell_9 (by decide) (fun c_2 => ?_) (fun c_2 => ?_)
    · exact absurd c_2 (by decide)
    · refine lv_iload_n hx hb dX6_hasCell_12 rfl (lv_at hl 2 rfl) ?_
      refine lv_if_lt (tgt := 44) hx hb dX6_hasCell_13 (by decide) (fun c_3 => ?_) (fun c_3 => ?_)
      · exact absurd c_3 (by decide)
      · refine lv_iload_n hx hb dX6_hasCell_16 rfl (lv_at hl 2 rfl) ?_
        refine lv_aload_n hx hb dX6_hasCell_17 rfl (lv_at hl 0 rfl) ?_
        refine va_get (D := (dC, dI)) (ci := 6) (v := .int 4) (C := RX6) (T := TX6) (N := 4) hx hb hts iw_k_hasCell_24_1_X6 hown hK hP 0 rfl rfl 0 (by decide) (hts (.fieldLink RX6 24 "ThriceCounted$Rows" "width" "I") (by decide +kernel)) (fun _ h9 => h9) rfl dX6_hasCell_18 ?_
        refine lv_icmp_ge (tgt := 44) hx hb dX6_hasCell_21 (by decide) (fun c_4 => ?_) (fun c_4 => ?_)
        · exact absurd c_4 (by decide)
        · refine lv_iload_n hx hb dX6_hasCell_24 rfl (lv_at hl 1 rfl) ?_
          refine lv_aload_n hx hb dX6_hasCell_25 rfl (lv_at hl 0 rfl) ?_
          refine va_get (D := (dC, dI)) (ci := 6) (v := .int 4) (C := RX6) (T := TX6) (N := 4) hx hb hts iw_k_hasCell_24_1_X6 hown hK hP 0 rfl rfl 0 (by decide) (hts (.fieldLink RX6 24 "ThriceCounted$Rows" "width" "I") (by decide +kernel)) (fun _ h9 => h9) rfl dX6_hasCell_26 ?_
          refine lv_imul hx hb dX6_hasCell_29 ?_
          refine tz_i 0 (by decide) ?_
          refine lv_iload_n hx hb dX6_hasCell_30 rfl (lv_at hl 2 rfl) ?_
          refine lv_iadd hx hb dX6_hasCell_31 ?_
          refine tz_i 1 (by decide) ?_
          refine lv_aload_n hx hb dX6_hasCell_32 rfl (lv_at hl 0 rfl) ?_
          refine va_get (D := (dC, dI)) (ci := 6) (v := .ref ca) (C := RX6) (T := TX6) (N := 4) hx hb hts iw_k_hasCell_24_1_X6 hown hK hP 0 rfl rfl 2 (by decide) (hts (.fieldLink RX6 27 "ThriceCounted$Rows" "cells" "[I") (by decide +kernel)) (fun _ h9 => h9) rfl dX6_hasCell_33 ?_
          refine va_alen (v := 24) hx hb hK hP 1 0 rfl rfl rfl dX6_hasCell_36 ?_
          refine lv_icmp_ge (tgt := 44) hx hb dX6_hasCell_37 (by decide) (fun c_5 => ?_) (fun c_5 => ?_)
          · exact absurd c_5 (by decide)
          · refine lv_iconst (v := 1) hx hb dX6_hasCell_40 (by decide) ?_
            refine lv_goto (tgt := 45) hx hb dX6_hasCell_41 (by decide) ?_
            exact W.zret (v := 1) hx hb hr (by decide) (fun t ht hW => ⟨1, rfl, rfl, ht⟩) (fun _ h => absurd h List.not_mem_nil) dX6_hasCell_45
set_option maxRecDepth 20000 in
theorem iw_k_put_24_1_X6 : ∀ w ∈ wsX60, w ∈ wsX6_put := by decide +kernel
set_option maxHeartbeats 4000000 in
set_option maxRecDepth 100000 in
theorem k_put_24_1 (l : Launch) (dC : Nat → ClassId) (dI : Nat → Nat → Nat) (ro : Nat) (ca : Nat) (cc0 : ClassId) (ff : Nat → Int32) (nv : Int32) (sz : Nat) : Met l yX6_put wsX6_put ({ frames := 1, cells := 0, slots := 0, locals := 22 }) (va_Pc [.ref ro, .int 0, .int 1, .int nv] (fun U => U.heap.size = sz ∧ va_P (dC, dI) vwCl [(ro, .inr (6, [.int 4, .int 6, .ref ca, .int 1])), (ca, .inl (cc0, 24, .inl ff))] U.heap ∧ va_K (dC, dI) vwCl [(cc0, .int)] U ∧ va_D (fun _ => True) [(ro, .inr (6, [.int 4, .int 6, .ref ca, .int 1])), (ca, .inl (cc0, 24, .inl ff))])) (va_Qv (fun (_ : Unit) => True) (fun _ t => ∃ (fg : Nat → Int32), va_P (dC, dI) vwCl [(ro, .inr (6, [.int 4, .int 6, .ref ca, .int 1])), (ca, .inl (cc0, 24, .inl fg))] t.heap ∧ va_K (dC, dI) vwCl [(cc0, .int)] t ∧ va_D (va_A [(ro, .inr (6, [.int 4, .int 6, .ref ca, .int 1])), (ca, .inl (cc0, 24, .inl ff))] sz) [(ro, .inr (6, [.int 4, .int 6, .ref ca, .int 1])), (ca, .inl (cc0, 24, .inl fg))]) (va_A [(ro, .inr (6, [.int 4, .int 6, .ref ca, .int 1])), (ca, .inl (cc0, 24, .inl ff))] sz)) 0 0 (va_A [(ro, .inr (6, [.int 4, .int 6, .ref ca, .int 1])), (ca, .inl (cc0, 24, .inl ff))] sz) := by
  refine Met.ofW (cc := cX6_put) (maxL := 4) (ret := none) (by decide) rfl ?_
  intro p e s m args below meth c s₁ B hml hv
  obtain ⟨rfl, hsz, hP, hK, hD0⟩ := hv
  have hx := B.exec
  have hb := B.bytes
  have hr := B.returns
  have hts := atoms_spec (ws := wsX6_put) B.pre
  have hown : s.vm.findClass RX6 = some m.cls := findClass_of_methodNamed B.named
  have hlocks := B.notSynchronized
  subst hsz
  have hD := hD0.self (sz := s.heap.size)
  generalize hAe : va_A [(ro, .inr (6, [.int 4, .int 6, .ref ca, .int 1])), (ca, .inl (cc0, 24, .inl ff))] s.heap.size = A at hD ⊢
  have hA : ∀ q : Nat, s.heap.size ≤ q → A q := fun q h => by rw [← hAe]; exact Or.inr h
  have hS : va_S A s.heap s.heap [] := va_S.rf
  have hP : va_P (dC, dI) vwCl [(ro, .inr (6, [.int 4, .int 6, .ref ca, .int 1])), (ca, .inl (cc0, 24, .inl ff))] s.heap := hP
  have hl := lv_entry ([.ref ro, .int 0, .int 1, .int nv]) (n := 4) (Nat.le_of_ble_eq_true rfl)
  rw [lg_entry_eq]
  generalize (lg_sl ([.ref ro, .int 0, .int 1, .int nv]) ++ List.replicate (4 - (lg_sl ([.ref ro, .int 0, .int 1, .int nv])).length) Slot.unset).toArray = ls at hl ⊢
  have hl : lv_has ls 4 [(0, .ref ro), (1, .int 0), (2, .int 1), (3, .int nv)] := hl
  refine lv_aload_n hx hb dX6_put_0 rfl (lv_at hl 0 rfl) ?_
  refine lv_iload_n hx hb dX6_put_1 rfl (lv_at hl 1 rfl) ?_
  refine lv_iload_n hx hb dX6_put_2 rfl (lv_at hl 2 rfl) ?_
  have hPc_1 := hP.sub (ws' := [(ro, .inr (6, [.int 4, .int 6, .ref ca, .int 1])), (ca, .inl (cc0, 24, .inl ff))]) [0, 1] rfl
  have hKc_2 := hK.sub (tys' := [(cc0, .int)]) [0] rfl
  refine vp_callSi (va_Run.run (va_runV (As := [.int 0, .int 1]) (rest := []) ⟨hx, hb, hml, hown, hts⟩ (k_hasCell_24_1 l dC dI ro ca cc0 ff) (cwV 2 hts gX6_put_X6_hasCell rfl rfl rfl (by decide +kernel) ⟨Nat.le_of_ble_eq_true rfl, Nat.le_of_ble_eq_true rfl⟩) ⟨fun a U g mk q => by obtain ⟨q0, qP, qK⟩ := q; exact ⟨q0, qP, va_K.moved (u := U) (U := U.calling g mk a) (Vm.Alike.refl U.vm) qK⟩, va_recv hK hP (ci := 6) (q0 := 0) rfl rfl, fun U hU hW => ⟨rfl, by rw [hU]; exact hPc_1, va_K.moved hW.alike hKc_2⟩⟩ rfl rfl hl.1 rfl (lv_room (Nat.le_of_ble_eq_true rfl)) dX6_put_3 ⟨Nat.le_of_ble_eq_true rfl, Nat.le_of_ble_eq_true rfl⟩)) (fun r_3 hw_4 => ?_)
  obtain rfl : 1 = r_3 := hw_4.symm
  refine lv_if_eq (tgt := 23) hx hb dX6_put_6 (by decide) (fun c_5 => ?_) (fun c_5 => ?_)
  · exact absurd c_5 (by decide)
  · refine lv_aload_n hx hb dX6_put_9 rfl (lv_at hl 0 rfl) ?_
    refine va_get (D := (dC, dI)) (ci := 6) (v := .ref ca) (C := RX6) (T := TX6) (N := 4) hx hb hts iw_k_put_24_1_X6 hown hK hP 0 rfl rfl 2 (by decide) (hts (.fieldLink RX6 27 "ThriceCounted$Rows" "cells" "[I") (by decide +kernel)) (fun _ h9 => h9) rfl dX6_put_10 ?_
    refine lv_iload_n hx hb dX6_put_13 rfl (lv_at hl 1 rfl) ?_
    refine lv_aload_n hx hb dX6_put_14 rfl (lv_at hl 0 rfl) ?_
    refine va_get (D := (dC, dI)) (ci := 6) (v := .int 4) (C := RX6) (T := TX6) (N := 4) hx hb hts iw_k_put_24_1_X6 hown hK hP 0 rfl rfl 0 (by decide) (hts (.fieldLink RX6 24 "ThriceCounted$Rows" "width" "I") (by decide +kernel)) (fun _ h9 => h9) rfl dX6_put_15 ?_
    refine lv_imul hx hb dX6_put_18 ?_
    refine tz_i 0 (by decide) ?_
    refine lv_iload_n hx hb dX6_put_19 rfl (lv_at hl 2 rfl) ?_
    refine lv_iadd hx hb dX6_put_20 ?_
    refine tz_i 1 (by decide) ?_
    refine lv_iload_n hx hb dX6_put_21 rfl (lv_at hl 3 rfl) ?_
    refine va_iast hx hb hK hP hD hS 1 0 rfl rfl (show ¬ ((1 : Int32) < 0 ∨ 24 ≤ (1 : Int32).toNatClampNeg) by decide) dX6_put_22 (fun H locs hP hD hS => ?_)
    generalize (upd ff (Int32.toNatClampNeg 1) nv) = f_6 at hP hD
    have hP : va_P (dC, dI) vwCl [(ro, .inr (6, [.int 4, .int 6, .ref ca, .int 1])), (ca, .inl (cc0, 24, .inl f_6))] H := hP
    have hD : va_D A [(ro, .inr (6, [.int 4, .int 6, .ref ca, .int 1])), (ca, .inl (cc0, 24, .inl f_6))] := hD
    have hP9 := hP.sub (ws' := [(ro, .inr (6, [.int 4, .int 6, .ref ca, .int 1])), (ca, .inl (cc0, 24, .inl f_6))]) [0, 1] rfl
    have hD9 := hD.sub (ws' := [(ro, .inr (6, [.int 4, .int 6, .ref ca, .int 1])), (ca, .inl (cc0, 24, .inl f_6))]) [0, 1] (by decide) rfl
    have hK9 := hK.sub (tys' := [(cc0, .int)]) [0] rfl
    exact W.vret hx hb hr (fun t ht hW => ⟨⟨(), rfl, trivial, f_6, by rw [ht]; exact hP9, va_K.moved hW.alike hK9, hD9⟩, hS.F ht⟩) hS.2.2 dX6_put_23
set_option maxRecDepth 20000 in
theorem iw_k_hasCell_24_2_X6 : ∀ w ∈ wsX60, w ∈ wsX6_hasCell := by decide +kernel
set_option maxHeartbeats 4000000 in
set_option maxRecDepth 100000 in
theorem k_hasCell_24_2 (l : Launch) (dC : Nat → ClassId) (dI : Nat → Nat → Nat) (ro : Nat) (ca : Nat) (cc0 : ClassId) (ff : Nat → Int32) : Met l yX6_hasCell wsX6_hasCell ({ frames := 0, cells := 0, slots := 0, locals := 0 }) (va_Pc [.ref ro, .int 0, .int 2] (fun U => va_P (dC, dI) vwCl [(ro, .inr (6, [.int 4, .int 6, .ref ca, .int 1])), (ca, .inl (cc0, 24, .inl ff))] U.heap ∧ va_K (dC, dI) vwCl [(cc0, .int)] U)) (vp_Si (fun r => r = 1)) 0 0 (fun _ => False) := by
  refine Met.ofW (cc := cX6_hasCell) (maxL := 3) (ret := (some .boolean)) (by decide) rfl ?_
  intro p e s m args below meth c s₁ B hml hv
  obtain ⟨rfl, hP, hK⟩ := hv
  have hx := B.exec
  have hb := B.bytes
  have hr := B.returns
  have hts := atoms_spec (ws := wsX6_hasCell) B.pre
  have hown : s.vm.findClass RX6 = some m.cls := findClass_of_methodNamed B.named
  have hlocks := B.notSynchronized
  have hl := lv_entry ([.ref ro, .int 0, .int 2]) (n := 3) (Nat.le_of_ble_eq_true rfl)
  rw [lg_entry_eq]
  generalize (lg_sl ([.ref ro, .int 0, .int 2]) ++ List.replicate (3 - (lg_sl ([.ref ro, .int 0, .int 2])).length) Slot.unset).toArray = ls at hl ⊢
  have hl : lv_has ls 3 [(0, .ref ro), (1, .int 0), (2, .int 2)] := hl
  refine lv_iload_n hx hb dX6_hasCell_0 rfl (lv_at hl 1 rfl) ?_
  refine lv_if_lt (tgt := 44) hx hb dX6_hasCell_1 (by decide) (fun c_1 => ?_) (fun c_1 => ?_)
  · exact absurd c_1 (by decide)
  · refine lv_iload_n hx hb dX6_hasCell_4 rfl (lv_at hl 1 rfl) ?_
    refine lv_aload_n hx hb dX6_hasCell_5 rfl (lv_at hl 0 rfl) ?_
    refine va_get (D := (dC, dI)) (ci := 6) (v := .int 1) (C := RX6) (T := TX6) (N := 4) hx hb hts iw_k_hasCell_24_2_X6 hown hK hP 0 rfl rfl 3 (by decide) (hts (.fieldLink RX6 9 "ThriceCounted$Rows" "size" "I") (by decide +kernel)) (fun _ h9 => h9) rfl dX6_hasCell_6 ?_
    refine lv_icmp_ge (tgt := 44) hx hb dX6_hasCell_9 (by decide) (fun c_2 => ?_) (fun c_2 => ?_)
    · exact absurd c_2 (by decide)
    · refine lv_iload_n hx hb dX6_hasCell_12 rfl (lv_at hl 2 rfl) ?_
      refine lv_if_lt (tgt := 44) hx hb dX6_hasCell_13 (by decide) (fun c_3 => ?_) (fun c_3 => ?_)
      · exact absurd c_3 (by decide)
      · refine lv_iload_n hx hb dX6_hasCell_16 rfl (lv_at hl 2 rfl) ?_
        refine lv_aload_n hx hb dX6_hasCell_17 rfl (lv_at hl 0 rfl) ?_
        refine va_get (D := (dC, dI)) (ci := 6) (v := .int 4) (C := RX6) (T := TX6) (N := 4) hx hb hts iw_k_hasCell_24_2_X6 hown hK hP 0 rfl rfl 0 (by decide) (hts (.fieldLink RX6 24 "ThriceCounted$Rows" "width" "I") (by decide +kernel)) (fun _ h9 => h9) rfl dX6_hasCell_18 ?_
        refine lv_icmp_ge (tgt := 44) hx hb dX6_hasCell_21 (by decide) (fun c_4 => ?_) (fun c_4 => ?_)
        · exact absurd c_4 (by decide)
        · refine lv_iload_n hx hb dX6_hasCell_24 rfl (lv_at hl 1 rfl) ?_
          refine lv_aload_n hx hb dX6_hasCell_25 rfl (lv_at hl 0 rfl) ?_
          refine va_get (D := (dC, dI)) (ci := 6) (v := .int 4) (C := RX6) (T := TX6) (N := 4) hx hb hts iw_k_hasCell_24_2_X6 hown hK hP 0 rfl rfl 0 (by decide) (hts (.fieldLink RX6 24 "ThriceCounted$Rows" "width" "I") (by decide +kernel)) (fun _ h9 => h9) rfl dX6_hasCell_26 ?_
          refine lv_imul hx hb dX6_hasCell_29 ?_
          refine tz_i 0 (by decide) ?_
          refine lv_iload_n hx hb dX6_hasCell_30 rfl (lv_at hl 2 rfl) ?_
          refine lv_iadd hx hb dX6_hasCell_31 ?_
          refine tz_i 2 (by decide) ?_
          refine lv_aload_n hx hb dX6_hasCell_32 rfl (lv_at hl 0 rfl) ?_
          refine va_get (D := (dC, dI)) (ci := 6) (v := .ref ca) (C := RX6) (T := TX6) (N := 4) hx hb hts iw_k_hasCell_24_2_X6 hown hK hP 0 rfl rfl 2 (by decide) (hts (.fieldLink RX6 27 "ThriceCounted$Rows" "cells" "[I") (by decide +kernel)) (fun _ h9 => h9) rfl dX6_hasCell_33 ?_
          refine va_alen (v := 24) hx hb hK hP 1 0 rfl rfl rfl dX6_hasCell_36 ?_
          refine lv_icmp_ge (tgt := 44) hx hb dX6_hasCell_37 (by decide) (fun c_5 => ?_) (fun c_5 => ?_)
          · exact absurd c_5 (by decide)
          · refine lv_iconst (v := 1) hx hb dX6_hasCell_40 (by decide) ?_
            refine lv_goto (tgt := 45) hx hb dX6_hasCell_41 (by decide) ?_
            exact W.zret (v := 1) hx hb hr (by decide) (fun t ht hW => ⟨1, rfl, rfl, ht⟩) (fun _ h => absurd h List.not_mem_nil) dX6_hasCell_45
set_option maxRecDepth 20000 in
theorem iw_k_put_24_2_X6 : ∀ w ∈ wsX60, w ∈ wsX6_put := by decide +kernel
set_option maxHeartbeats 4000000 in
set_option maxRecDepth 100000 in
theorem k_put_24_2 (l : Launch) (dC : Nat → ClassId) (dI : Nat → Nat → Nat) (ro : Nat) (ca : Nat) (cc0 : ClassId) (ff : Nat → Int32) (nv : Int32) (sz : Nat) : Met l yX6_put wsX6_put ({ frames := 1, cells := 0, slots := 0, locals := 22 }) (va_Pc [.ref ro, .int 0, .int 2, .int nv] (fun U => U.heap.size = sz ∧ va_P (dC, dI) vwCl [(ro, .inr (6, [.int 4, .int 6, .ref ca, .int 1])), (ca, .inl (cc0, 24, .inl ff))] U.heap ∧ va_K (dC, dI) vwCl [(cc0, .int)] U ∧ va_D (fun _ => True) [(ro, .inr (6, [.int 4, .int 6, .ref ca, .int 1])), (ca, .inl (cc0, 24, .inl ff))])) (va_Qv (fun (_ : Unit) => True) (fun _ t => ∃ (fg : Nat → Int32), va_P (dC, dI) vwCl [(ro, .inr (6, [.int 4, .int 6, .ref ca, .int 1])), (ca, .inl (cc0, 24, .inl fg))] t.heap ∧ va_K (dC, dI) vwCl [(cc0, .int)] t ∧ va_D (va_A [(ro, .inr (6, [.int 4, .int 6, .ref ca, .int 1])), (ca, .inl (cc0, 24, .inl ff))] sz) [(ro, .inr (6, [.int 4, .int 6, .ref ca, .int 1])), (ca, .inl (cc0, 24, .inl fg))]) (va_A [(ro, .inr (6, [.int 4, .int 6, .ref ca, .int 1])), (ca, .inl (cc0, 24, .inl ff))] sz)) 0 0 (va_A [(ro, .inr (6, [.int 4, .int 6, .ref ca, .int 1])), (ca, .inl (cc0, 24, .inl ff))] sz) := by
  refine Met.ofW (cc := cX6_put) (maxL := 4) (ret := none) (by decide) rfl ?_
  intro p e s m args below meth c s₁ B hml hv
  obtain ⟨rfl, hsz, hP, hK, hD0⟩ := hv
  have hx := B.exec
  have hb := B.bytes
  have hr := B.returns
  have hts := atoms_spec (ws := wsX6_put) B.pre
  have hown : s.vm.findClass RX6 = some m.cls := findClass_of_methodNamed B.named
  have hlocks := B.notSynchronized
  subst hsz
  have hD := hD0.self (sz := s.heap.size)
  generalize hAe : va_A [(ro, .inr (6, [.int 4, .int 6, .ref ca, .int 1])), (ca, .inl (cc0, 24, .inl ff))] s.heap.size = A at hD ⊢
  have hA : ∀ q : Nat, s.heap.size ≤ q → A q := fun q h => by rw [← hAe]; exact Or.inr h
  have hS : va_S A s.heap s.heap [] := va_S.rf
  have hP : va_P (dC, dI) vwCl [(ro, .inr (6, [.int 4, .int 6, .ref ca, .int 1])), (ca, .inl (cc0, 24, .inl ff))] s.heap := hP
  have hl := lv_entry ([.ref ro, .int 0, .int 2, .int nv]) (n := 4) (Nat.le_of_ble_eq_true rfl)
  rw [lg_entry_eq]
  generalize (lg_sl ([.ref ro, .int 0, .int 2, .int nv]) ++ List.replicate (4 - (lg_sl ([.ref ro, .int 0, .int 2, .int nv])).length) Slot.unset).toArray = ls at hl ⊢
  have hl : lv_has ls 4 [(0, .ref ro), (1, .int 0), (2, .int 2), (3, .int nv)] := hl
  refine lv_aload_n hx hb dX6_put_0 rfl (lv_at hl 0 rfl) ?_
  refine lv_iload_n hx hb dX6_put_1 rfl (lv_at hl 1 rfl) ?_
  refine lv_iload_n hx hb dX6_put_2 rfl (lv_at hl 2 rfl) ?_
  have hPc_1 := hP.sub (ws' := [(ro, .inr (6, [.int 4, .int 6, .ref ca, .int 1])), (ca, .inl (cc0, 24, .inl ff))]) [0, 1] rfl
  have hKc_2 := hK.sub (tys' := [(cc0, .int)]) [0] rfl
  refine vp_callSi (va_Run.run (va_runV (As := [.int 0, .int 2]) (rest := []) ⟨hx, hb, hml, hown, hts⟩ (k_hasCell_24_2 l dC dI ro ca cc0 ff) (cwV 2 hts gX6_put_X6_hasCell rfl rfl rfl (by decide +kernel) ⟨Nat.le_of_ble_eq_true rfl, Nat.le_of_ble_eq_true rfl⟩) ⟨fun a U g mk q => by obtain ⟨q0, qP, qK⟩ := q; exact ⟨q0, qP, va_K.moved (u := U) (U := U.calling g mk a) (Vm.Alike.refl U.vm) qK⟩, va_recv hK hP (ci := 6) (q0 := 0) rfl rfl, fun U hU hW => ⟨rfl, by rw [hU]; exact hPc_1, va_K.moved hW.alike hKc_2⟩⟩ rfl rfl hl.1 rfl (lv_room (Nat.le_of_ble_eq_true rfl)) dX6_put_3 ⟨Nat.le_of_ble_eq_true rfl, Nat.le_of_ble_eq_true rfl⟩)) (fun r_3 hw_4 => ?_)
  obtain rfl : 1 = r_3 := hw_4.symm
  refine lv_if_eq (tgt := 23) hx hb dX6_put_6 (by decide) (fun c_5 => ?_) (fun c_5 => ?_)
  · exact absurd c_5 (by decide)
  · refine lv_aload_n hx hb dX6_put_9 rfl (lv_at hl 0 rfl) ?_
    refine va_get (D := (dC, dI)) (ci := 6) (v := .ref ca) (C := RX6) (T := TX6) (N := 4) hx hb hts iw_k_put_24_2_X6 hown hK hP 0 rfl rfl 2 (by decide) (hts (.fieldLink RX6 27 "ThriceCounted$Rows" "cells" "[I") (by decide +kernel)) (fun _ h9 => h9) rfl dX6_put_10 ?_
    refine lv_iload_n hx hb dX6_put_13 rfl (lv_at hl 1 rfl) ?_
    refine lv_aload_n hx hb dX6_put_14 rfl (lv_at hl 0 rfl) ?_
    refine va_get (D := (dC, dI)) (ci := 6) (v := .int 4) (C := RX6) (T := TX6) (N := 4) hx hb hts iw_k_put_24_2_X6 hown hK hP 0 rfl rfl 0 (by decide) (hts (.fieldLink RX6 24 "ThriceCounted$Rows" "width" "I") (by decide +kernel)) (fun _ h9 => h9) rfl dX6_put_15 ?_
    refine lv_imul hx hb dX6_put_18 ?_
    refine tz_i 0 (by decide) ?_
    refine lv_iload_n hx hb dX6_put_19 rfl (lv_at hl 2 rfl) ?_
    refine lv_iadd hx hb dX6_put_20 ?_
    refine tz_i 2 (by decide) ?_
    refine lv_iload_n hx hb dX6_put_21 rfl (lv_at hl 3 rfl) ?_
    refine va_iast hx hb hK hP hD hS 1 0 rfl rfl (show ¬ ((2 : Int32) < 0 ∨ 24 ≤ (2 : Int32).toNatClampNeg) by decide) dX6_put_22 (fun H locs hP hD hS => ?_)
    generalize (upd ff (Int32.toNatClampNeg 2) nv) = f_6 at hP hD
    have hP : va_P (dC, dI) vwCl [(ro, .inr (6, [.int 4, .int 6, .ref ca, .int 1])), (ca, .inl (cc0, 24, .inl f_6))] H := hP
    have hD : va_D A [(ro, .inr (6, [.int 4, .int 6, .ref ca, .int 1])), (ca, .inl (cc0, 24, .inl f_6))] := hD
    have hP9 := hP.sub (ws' := [(ro, .inr (6, [.int 4, .int 6, .ref ca, .int 1])), (ca, .inl (cc0, 24, .inl f_6))]) [0, 1] rfl
    have hD9 := hD.sub (ws' := [(ro, .inr (6, [.int 4, .int 6, .ref ca, .int 1])), (ca, .inl (cc0, 24, .inl f_6))]) [0, 1] (by decide) rfl
    have hK9 := hK.sub (tys' := [(cc0, .int)]) [0] rfl
    exact W.vret hx hb hr (fun t ht hW => ⟨⟨(), rfl, trivial, f_6, by rw [ht]; exact hP9, va_K.moved hW.alike hK9, hD9⟩, hS.F ht⟩) hS.2.2 dX6_put_23
set_option maxRecDepth 20000 in
theorem iw_k_hasCell_24_3_X6 : ∀ w ∈ wsX60, w ∈ wsX6_hasCell := by decide +kernel
set_option maxHeartbeats 4000000 in
set_option maxRecDepth 100000 in
theorem k_hasCell_24_3 (l : Launch) (dC : Nat → ClassId) (dI : Nat → Nat → Nat) (ro : Nat) (ca : Nat) (cc0 : ClassId) (ff : Nat → Int32) : Met l yX6_hasCell wsX6_hasCell ({ frames := 0, cells := 0, slots := 0, locals := 0 }) (va_Pc [.ref ro, .int 0, .int 3] (fun U => va_P (dC, dI) vwCl [(ro, .inr (6, [.int 4, .int 6, .ref ca, .int 1])), (ca, .inl (cc0, 24, .inl ff))] U.heap ∧ va_K (dC, dI) vwCl [(cc0, .int)] U)) (vp_Si (fun r => r = 1)) 0 0 (fun _ => False) := by
  refine Met.ofW (cc := cX6_hasCell) (maxL := 3) (ret := (some .boolean)) (by decide) rfl ?_
  intro p e s m args below meth c s₁ B hml hv
  obtain ⟨rfl, hP, hK⟩ := hv
  have hx := B.exec
  have hb := B.bytes
  have hr := B.returns
  have hts := atoms_spec (ws := wsX6_hasCell) B.pre
  have hown : s.vm.findClass RX6 = some m.cls := findClass_of_methodNamed B.named
  have hlocks := B.notSynchronized
  have hl := lv_entry ([.ref ro, .int 0, .int 3]) (n := 3) (Nat.le_of_ble_eq_true rfl)
  rw [lg_entry_eq]
  generalize (lg_sl ([.ref ro, .int 0, .int 3]) ++ List.replicate (3 - (lg_sl ([.ref ro, .int 0, .int 3])).length) Slot.unset).toArray = ls at hl ⊢
  have hl : lv_has ls 3 [(0, .ref ro), (1, .int 0), (2, .int 3)] := hl
  refine lv_iload_n hx hb dX6_hasCell_0 rfl (lv_at hl 1 rfl) ?_
  refine lv_if_lt (tgt := 44) hx hb dX6_hasCell_1 (by decide) (fun c_1 => ?_) (fun c_1 => ?_)
  · exact absurd c_1 (by decide)
  · refine lv_iload_n hx hb dX6_hasCell_4 rfl (lv_at hl 1 rfl) ?_
    refine lv_aload_n hx hb dX6_hasCell_5 rfl (lv_at hl 0 rfl) ?_
    refine va_get (D := (dC, dI)) (ci := 6) (v := .int 1) (C := RX6) (T := TX6) (N := 4) hx hb hts iw_k_hasCell_24_3_X6 hown hK hP 0 rfl rfl 3 (by decide) (hts (.fieldLink RX6 9 "ThriceCounted$Rows" "size" "I") (by decide +kernel)) (fun _ h9 => h9) rfl dX6_hasCell_6 ?_
    refine lv_icmp_ge (tgt := 44) hx hb dX6_hasCell_9 (by decide) (fun c_2 => ?_) (fun c_2 => ?_)
    · exact absurd c_2 (by decide)
    · refine lv_iload_n hx hb dX6_hasCell_12 rfl (lv_at hl 2 rfl) ?_
      refine lv_if_lt (tgt := 44) hx hb dX6_hasCell_13 (by decide) (fun c_3 => ?_) (fun c_3 => ?_)
      · exact absurd c_3 (by decide)
      · refine lv_iload_n hx hb dX6_hasCell_16 rfl (lv_at hl 2 rfl) ?_
        refine lv_aload_n hx hb dX6_hasCell_17 rfl (lv_at hl 0 rfl) ?_
        refine va_get (D := (dC, dI)) (ci := 6) (v := .int 4) (C := RX6) (T := TX6) (N := 4) hx hb hts iw_k_hasCell_24_3_X6 hown hK hP 0 rfl rfl 0 (by decide) (hts (.fieldLink RX6 24 "ThriceCounted$Rows" "width" "I") (by decide +kernel)) (fun _ h9 => h9) rfl dX6_hasCell_18 ?_
        refine lv_icmp_ge (tgt := 44) hx hb dX6_hasCell_21 (by decide) (fun c_4 => ?_) (fun c_4 => ?_)
        · exact absurd c_4 (by decide)
        · refine lv_iload_n hx hb dX6_hasCell_24 rfl (lv_at hl 1 rfl) ?_
          refine lv_aload_n hx hb dX6_hasCell_25 rfl (lv_at hl 0 rfl) ?_
          refine va_get (D := (dC, dI)) (ci := 6) (v := .int 4) (C := RX6) (T := TX6) (N := 4) hx hb hts iw_k_hasCell_24_3_X6 hown hK hP 0 rfl rfl 0 (by decide) (hts (.fieldLink RX6 24 "ThriceCounted$Rows" "width" "I") (by decide +kernel)) (fun _ h9 => h9) rfl dX6_hasCell_26 ?_
          refine lv_imul hx hb dX6_hasCell_29 ?_
          refine tz_i 0 (by decide) ?_
          refine lv_iload_n hx hb dX6_hasCell_30 rfl (lv_at hl 2 rfl) ?_
          refine lv_iadd hx hb dX6_hasCell_31 ?_
          refine tz_i 3 (by decide) ?_
          refine lv_aload_n hx hb dX6_hasCell_32 rfl (lv_at hl 0 rfl) ?_
          refine va_get (D := (dC, dI)) (ci := 6) (v := .ref ca) (C := RX6) (T := TX6) (N := 4) hx hb hts iw_k_hasCell_24_3_X6 hown hK hP 0 rfl rfl 2 (by decide) (hts (.fieldLink RX6 27 "ThriceCounted$Rows" "cells" "[I") (by decide +kernel)) (fun _ h9 => h9) rfl dX6_hasCell_33 ?_
          refine va_alen (v := 24) hx hb hK hP 1 0 rfl rfl rfl dX6_hasCell_36 ?_
          refine lv_icmp_ge (tgt := 44) hx hb dX6_hasCell_37 (by decide) (fun c_5 => ?_) (fun c_5 => ?_)
          · exact absurd c_5 (by decide)
          · refine lv_iconst (v := 1) hx hb dX6_hasCell_40 (by decide) ?_
            refine lv_goto (tgt := 45) hx hb dX6_hasCell_41 (by decide) ?_
            exact W.zret (v := 1) hx hb hr (by decide) (fun t ht hW => ⟨1, rfl, rfl, ht⟩) (fun _ h => absurd h List.not_mem_nil) dX6_hasCell_45
set_option maxRecDepth 20000 in
theorem iw_k_put_24_3_X6 : ∀ w ∈ wsX60, w ∈ wsX6_put := by decide +kernel
set_option maxHeartbeats 4000000 in
set_option maxRecDepth 100000 in
theorem k_put_24_3 (l : Launch) (dC : Nat → ClassId) (dI : Nat → Nat → Nat) (ro : Nat) (ca : Nat) (cc0 : ClassId) (ff : Nat → Int32) (nv : Int32) (sz : Nat) : Met l yX6_put wsX6_put ({ frames := 1, cells := 0, slots := 0, locals := 22 }) (va_Pc [.ref ro, .int 0, .int 3, .int nv] (fun U => U.heap.size = sz ∧ va_P (dC, dI) vwCl [(ro, .inr (6, [.int 4, .int 6, .ref ca, .int 1])), (ca, .inl (cc0, 24, .inl ff))] U.heap ∧ va_K (dC, dI) vwCl [(cc0, .int)] U ∧ va_D (fun _ => True) [(ro, .inr (6, [.int 4, .int 6, .ref ca, .int 1])), (ca, .inl (cc0, 24, .inl ff))])) (va_Qv (fun (_ : Unit) => True) (fun _ t => ∃ (fg : Nat → Int32), va_P (dC, dI) vwCl [(ro, .inr (6, [.int 4, .int 6, .ref ca, .int 1])), (ca, .inl (cc0, 24, .inl fg))] t.heap ∧ va_K (dC, dI) vwCl [(cc0, .int)] t ∧ va_D (va_A [(ro, .inr (6, [.int 4, .int 6, .ref ca, .int 1])), (ca, .inl (cc0, 24, .inl ff))] sz) [(ro, .inr (6, [.int 4, .int 6, .ref ca, .int 1])), (ca, .inl (cc0, 24, .inl fg))]) (va_A [(ro, .inr (6, [.int 4, .int 6, .ref ca, .int 1])), (ca, .inl (cc0, 24, .inl ff))] sz)) 0 0 (va_A [(ro, .inr (6, [.int 4, .int 6, .ref ca, .int 1])), (ca, .inl (cc0, 24, .inl ff))] sz) := by
  refine Met.ofW (cc := cX6_put) (maxL := 4) (ret := none) (by decide) rfl ?_
  intro p e s m args below meth c s₁ B hml hv
  obtain ⟨rfl, hsz, hP, hK, hD0⟩ := hv
  have hx := B.exec
  have hb := B.bytes
  have hr := B.returns
  have hts := atoms_spec (ws := wsX6_put) B.pre
  have hown : s.vm.findClass RX6 = some m.cls := findClass_of_methodNamed B.named
  have hlocks := B.notSynchronized
  subst hsz
  have hD := hD0.self (sz := s.heap.size)
  generalize hAe : va_A [(ro, .inr (6, [.int 4, .int 6, .ref ca, .int 1])), (ca, .inl (cc0, 24, .inl ff))] s.heap.size = A at hD ⊢
  have hA : ∀ q : Nat, s.heap.size ≤ q → A q := fun q h => by rw [← hAe]; exact Or.inr h
  have hS : va_S A s.heap s.heap [] := va_S.rf
  have hP : va_P (dC, dI) vwCl [(ro, .inr (6, [.int 4, .int 6, .ref ca, .int 1])), (ca, .inl (cc0, 24, .inl ff))] s.heap := hP
  have hl := lv_entry ([.ref ro, .int 0, .int 3, .int nv]) (n := 4) (Nat.le_of_ble_eq_true rfl)
  rw [lg_entry_eq]
  generalize (lg_sl ([.ref ro, .int 0, .int 3, .int nv]) ++ List.replicate (4 - (lg_sl ([.ref ro, .int 0, .int 3, .int nv])).length) Slot.unset).toArray = ls at hl ⊢
  have hl : lv_has ls 4 [(0, .ref ro), (1, .int 0), (2, .int 3), (3, .int nv)] := hl
  refine lv_aload_n hx hb dX6_put_0 rfl (lv_at hl 0 rfl) ?_
  refine lv_iload_n hx hb dX6_put_1 rfl (lv_at hl 1 rfl) ?_
  refine lv_iload_n hx hb dX6_put_2 rfl (lv_at hl 2 rfl) ?_
  have hPc_1 := hP.sub (ws' := [(ro, .inr (6, [.int 4, .int 6, .ref ca, .int 1])), (ca, .inl (cc0, 24, .inl ff))]) [0, 1] rfl
  have hKc_2 := hK.sub (tys' := [(cc0, .int)]) [0] rfl
  refine vp_callSi (va_Run.run (va_runV (As := [.int 0, .int 3]) (rest := []) ⟨hx, hb, hml, hown, hts⟩ (k_hasCell_24_3 l dC dI ro ca cc0 ff) (cwV 2 hts gX6_put_X6_hasCell rfl rfl rfl (by decide +kernel) ⟨Nat.le_of_ble_eq_true rfl, Nat.le_of_ble_eq_true rfl⟩) ⟨fun a U g mk q => by obtain ⟨q0, qP, qK⟩ := q; exact ⟨q0, qP, va_K.moved (u := U) (U := U.calling g mk a) (Vm.Alike.refl U.vm) qK⟩, va_recv hK hP (ci := 6) (q0 := 0) rfl rfl, fun U hU hW => ⟨rfl, by rw [hU]; exact hPc_1, va_K.moved hW.alike hKc_2⟩⟩ rfl rfl hl.1 rfl (lv_room (Nat.le_of_ble_eq_true rfl)) dX6_put_3 ⟨Nat.le_of_ble_eq_true rfl, Nat.le_of_ble_eq_true rfl⟩)) (fun r_3 hw_4 => ?_)
  obtain rfl : 1 = r_3 := hw_4.symm
  refine lv_if_eq (tgt := 23) hx hb dX6_put_6 (by decide) (fun c_5 => ?_) (fun c_5 => ?_)
  · exact absurd c_5 (by decide)
  · refine lv_aload_n hx hb dX6_put_9 rfl (lv_at hl 0 rfl) ?_
    refine va_get (D := (dC, dI)) (ci := 6) (v := .ref ca) (C := RX6) (T := TX6) (N := 4) hx hb hts iw_k_put_24_3_X6 hown hK hP 0 rfl rfl 2 (by decide) (hts (.fieldLink RX6 27 "ThriceCounted$Rows" "cells" "[I") (by decide +kernel)) (fun _ h9 => h9) rfl dX6_put_10 ?_
    refine lv_iload_n hx hb dX6_put_13 rfl (lv_at hl 1 rfl) ?_
    refine lv_aload_n hx hb dX6_put_14 rfl (lv_at hl 0 rfl) ?_
    refine va_get (D := (dC, dI)) (ci := 6) (v := .int 4) (C := RX6) (T := TX6) (N := 4) hx hb hts iw_k_put_24_3_X6 hown hK hP 0 rfl rfl 0 (by decide) (hts (.fieldLink RX6 24 "ThriceCounted$Rows" "width" "I") (by decide +kernel)) (fun _ h9 => h9) rfl dX6_put_15 ?_
    refine lv_imul hx hb dX6_put_18 ?_
    refine tz_i 0 (by decide) ?_
    refine lv_iload_n hx hb dX6_put_19 rfl (lv_at hl 2 rfl) ?_
    refine lv_iadd hx hb dX6_put_20 ?_
    refine tz_i 3 (by decide) ?_
    refine lv_iload_n hx hb dX6_put_21 rfl (lv_at hl 3 rfl) ?_
    refine va_iast hx hb hK hP hD hS 1 0 rfl rfl (show ¬ ((3 : Int32) < 0 ∨ 24 ≤ (3 : Int32).toNatClampNeg) by decide) dX6_put_22 (fun H locs hP hD hS => ?_)
    generalize (upd ff (Int32.toNatClampNeg 3) nv) = f_6 at hP hD
    have hP : va_P (dC, dI) vwCl [(ro, .inr (6, [.int 4, .int 6, .ref ca, .int 1])), (ca, .inl (cc0, 24, .inl f_6))] H := hP
    have hD : va_D A [(ro, .inr (6, [.int 4, .int 6, .ref ca, .int 1])), (ca, .inl (cc0, 24, .inl f_6))] := hD
    have hP9 := hP.sub (ws' := [(ro, .inr (6, [.int 4, .int 6, .ref ca, .int 1])), (ca, .inl (cc0, 24, .inl f_6))]) [0, 1] rfl
    have hD9 := hD.sub (ws' := [(ro, .inr (6, [.int 4, .int 6, .ref ca, .int 1])), (ca, .inl (cc0, 24, .inl f_6))]) [0, 1] (by decide) rfl
    have hK9 := hK.sub (tys' := [(cc0, .int)]) [0] rfl
    exact W.vret hx hb hr (fun t ht hW => ⟨⟨(), rfl, trivial, f_6, by rw [ht]; exact hP9, va_K.moved hW.alike hK9, hD9⟩, hS.F ht⟩) hS.2.2 dX6_put_23
end
section
set_option maxRecDepth 20000 in
theorem ggX0_addClerk_X6_grow : GoodIn wsX0_addClerk wsX6_grow := goodIn_r _ [6, 7, 8, 9, 10, 5, 11, 12, 29, 30, 31, 32] (by decide +kernel) (by decide +kernel)
set_option maxRecDepth 20000 in
theorem gX0_addClerk_X6_grow : GoodIn wsX0_addClerk (wsV RX0 50 RX6 yX6_grow wsX6_grow) := goodIn_app (goodIn_of _ (by decide +kernel)) ggX0_addClerk_X6_grow
set_option maxRecDepth 20000 in
theorem ggX0_addClerk_X6_put : GoodIn wsX0_addClerk wsX6_put := goodIn_r _ [16, 17, 18, 19, 20, 21, 5, 22, 7, 29, 30, 31, 32] (by decide +kernel) (by decide +kernel)
set_option maxRecDepth 20000 in
theorem gX0_addClerk_X6_put : GoodIn wsX0_addClerk (wsV RX0 54 RX6 yX6_put wsX6_put) := goodIn_app (goodIn_of _ (by decide +kernel)) ggX0_addClerk_X6_put
theorem dX0_addClerk_0 : decode cX0_addClerk 0 = .ok (.aload_n 0, 1) := by decide +kernel
theorem dX0_addClerk_1 : decode cX0_addClerk 1 = .ok (.getfield 14, 3) := by decide +kernel
theorem dX0_addClerk_4 : decode cX0_addClerk 4 = .ok (.invokevirtual 50, 3) := by decide +kernel
theorem dX0_addClerk_7 : decode cX0_addClerk 7 = .ok (.istore_n 2, 1) := by decide +kernel
theorem dX0_addClerk_8 : decode cX0_addClerk 8 = .ok (.aload_n 0, 1) := by decide +kernel
theorem dX0_addClerk_9 : decode cX0_addClerk 9 = .ok (.getfield 14, 3) := by decide +kernel
theorem dX0_addClerk_12 : decode cX0_addClerk 12 = .ok (.iload_n 2, 1) := by decide +kernel
theorem dX0_addClerk_13 : decode cX0_addClerk 13 = .ok (.iconst 0, 1) := by decide +kernel
theorem dX0_addClerk_14 : decode cX0_addClerk 14 = .ok (.iload_n 1, 1) := by decide +kernel
theorem dX0_addClerk_15 : decode cX0_addClerk 15 = .ok (.invokevirtual 54, 3) := by decide +kernel
theorem dX0_addClerk_18 : decode cX0_addClerk 18 = .ok (.iload_n 2, 1) := by decide +kernel
theorem dX0_addClerk_19 : decode cX0_addClerk 19 = .ok (.ireturn, 1) := by decide +kernel
set_option maxRecDepth 20000 in
theorem iw_k_addClerk_X0 : ∀ w ∈ wsX00, w ∈ wsX0_addClerk := by decide +kernel
set_option maxHeartbeats 4000000 in
set_option maxRecDepth 100000 in
theorem k_addClerk (l : Launch) (dC : Nat → ClassId) (dI : Nat → Nat → Nat) (bo : Nat) (ro : Nat) (vb1 : Value) (vb2 : Value) (vb3 : Value) (vb4 : Value) (vb5 : Value) (ca : Nat) (cc0 : ClassId) (ff : Nat → Int32) (na : Int32) (sz : Nat) : Met l yX0_addClerk wsX0_addClerk ({ frames := 2, cells := 0, slots := 0, locals := 45 }) (va_Pc [.ref bo, .int na] (fun U => U.heap.size = sz ∧ va_P (dC, dI) vwCl [(bo, .inr (0, [.ref ro, vb1, vb2, vb3, vb4, vb5])), (ro, .inr (6, [.int 1, .int 5, .ref ca, .int 0])), (ca, .inl (cc0, 5, .inl ff))] U.heap ∧ va_K (dC, dI) vwCl [(cc0, .int)] U ∧ va_D (fun _ => True) [(bo, .inr (0, [.ref ro, vb1, vb2, vb3, vb4, vb5])), (ro, .inr (6, [.int 1, .int 5, .ref ca, .int 0])), (ca, .inl (cc0, 5, .inl ff))])) (va_Qi (fun (r : Int32) (_ : Unit) => r = 0) (fun _ _ => True) (va_A [(bo, .inr (0, [.ref ro, vb1, vb2, vb3, vb4, vb5])), (ro, .inr (6, [.int 1, .int 5, .ref ca, .int 0])), (ca, .inl (cc0, 5, .inl ff))] sz)) 0 0 (va_A [(bo, .inr (0, [.ref ro, vb1, vb2, vb3, vb4, vb5])), (ro, .inr (6, [.int 1, .int 5, .ref ca, .int 0])), (ca, .inl (cc0, 5, .inl ff))] sz) := by
  refine Met.ofW (cc := cX0_addClerk) (maxL := 3) (ret := (some .int)) (by decide) rfl ?_
  intro p e s m args below meth c s₁ B hml hv
  obtain ⟨rfl, hsz, hP, hK, hD0⟩ := hv
  have hx := B.exec
  have hb := B.bytes
  have hr := B.returns
  have hts := atoms_spec (ws := wsX0_addClerk) B.pre
  have hown : s.vm.findClass RX0 = some m.cls := findClass_of_methodNamed B.named
  have hlocks := B.notSynchronized
  subst hsz
  have hD := hD0.self (sz := s.heap.size)
  generalize hAe : va_A [(bo, .inr (0, [.ref ro, vb1, vb2, vb3, vb4, vb5])), (ro, .inr (6, [.int 1, .int 5, .ref ca, .int 0])), (ca, .inl (cc0, 5, .inl ff))] s.heap.size = A at hD ⊢
  have hA : ∀ q : Nat, s.heap.size ≤ q → A q := fun q h => by rw [← hAe]; exact Or.inr h
  have hS : va_S A s.heap s.heap [] := va_S.rf
  have hP : va_P (dC, dI) vwCl [(bo, .inr (0, [.ref ro, vb1, vb2, vb3, vb4, vb5])), (ro, .inr (6, [.int 1, .int 5, .ref ca, .int 0])), (ca, .inl (cc0, 5, .inl ff))] s.heap := hP
  have hl := lv_entry ([.ref bo, .int na]) (n := 3) (Nat.le_of_ble_eq_true rfl)
  rw [lg_entry_eq]
  generalize (lg_sl ([.ref bo, .int na]) ++ List.replicate (3 - (lg_sl ([.ref bo, .int na])).length) Slot.unset).toArray = ls at hl ⊢
  have hl : lv_has ls 3 [(0, .ref bo), (1, .int na)] := hl
  refine lv_aload_n hx hb dX0_addClerk_0 rfl (lv_at hl 0 rfl) ?_
  refine va_get (D := (dC, dI)) (ci := 0) (v := .ref ro) (C := RX0) (T := TX0) (N := 6) hx hb hts iw_k_addClerk_X0 hown hK hP 0 rfl rfl 0 (by decide) (hts (.fieldLink RX0 14 "ThriceCounted$Bank" "clerks" "LThriceCounted$Rows;") (by decide +kernel)) (fun _ h9 => h9) rfl dX0_addClerk_1 ?_
  have hPc := hP.sub (ws' := [(ro, .inr (6, [.int 1, .int 5, .ref ca, .int 0]))]) [1] rfl
  have hDc := hD.sub (ws' := [(ro, .inr (6, [.int 1, .int 5, .ref ca, .int 0]))]) [1] (by decide) rfl
  have hKc := hK.sub (tys' := []) [] rfl
  have hFc := va_free (wc := [(ro, .inr (6, [.int 1, .int 5, .ref ca, .int 0]))]) hD hS hA [1] rfl
  refine va_calli (va_runV (As := []) (rest := []) ⟨hx, hb, hml, hown, hts⟩ (k_grow l dC dI ro (.int 1) 5 (.ref ca) s.heap.size (by decide)) (cwV 0 hts gX0_addClerk_X6_grow rfl rfl rfl (by decide +kernel) ⟨Nat.le_of_ble_eq_true rfl, Nat.le_of_ble_eq_true rfl⟩) ⟨fun a U g mk q => by obtain ⟨q0, q1, qP, qK, qD⟩ := q; exact ⟨q0, q1, qP, va_K.moved (u := U) (U := U.calling g mk a) (Vm.Alike.refl U.vm) qK, qD⟩, va_recv hK hP (ci := 6) (q0 := 1) rfl rfl, fun U hU hW => ⟨rfl, by rw [hU], by rw [hU]; exact hPc, va_K.moved hW.alike hKc, hDc.weaken (fun _ _ _ _ => trivial)⟩⟩ rfl rfl hl.1 rfl (lv_room (Nat.le_of_ble_eq_true rfl)) dX0_addClerk_4 ⟨Nat.le_of_ble_eq_true rfl, Nat.le_of_ble_eq_true rfl⟩) hS (fun q _ h => hFc q h) hFc (fun r_1 u_ t H1 locs ht hvm hw_2 hB hz1 hk1 hS => ?_)
  obtain ⟨hP1, hK1, hD1⟩ := hB
  rw [ht] at hP1
  have hK1 := va_K.moved hvm.symm hK1
  obtain ⟨hP, hD⟩ := va_join (wr := [(bo, .inr (0, [.ref ro, vb1, vb2, vb3, vb4, vb5])), (ca, .inl (cc0, 5, .inl ff))]) (w1 := [(ro, .inr (6, [.int 1, .int 5, .ref ca, .int 1]))]) hP hD [1] [0, 2] rfl rfl (by decide) (by decide) hk1 hFc hP1 hD1
  generalize H1 = H at hP hS ⊢
  have hP : va_P (dC, dI) vwCl [(bo, .inr (0, [.ref ro, vb1, vb2, vb3, vb4, vb5])), (ca, .inl (cc0, 5, .inl ff)), (ro, .inr (6, [.int 1, .int 5, .ref ca, .int 1]))] H := hP
  have hD : va_D A [(bo, .inr (0, [.ref ro, vb1, vb2, vb3, vb4, vb5])), (ca, .inl (cc0, 5, .inl ff)), (ro, .inr (6, [.int 1, .int 5, .ref ca, .int 1]))] := hD
  obtain rfl : 0 = r_1 := hw_2.symm
  refine lv_istore_n (lv' := [(2, .int 0), (0, .ref bo), (1, .int na)]) hx hb dX0_addClerk_7 rfl hl (by decide) rfl (fun ls hl => ?_)
  refine lv_aload_n hx hb dX0_addClerk_8 rfl (lv_at hl 1 rfl) ?_
  refine va_get (D := (dC, dI)) (ci := 0) (v := .ref ro) (C := RX0) (T := TX0) (N := 6) hx hb hts iw_k_addClerk_X0 hown hK hP 0 rfl rfl 0 (by decide) (hts (.fieldLink RX0 14 "ThriceCounted$Bank" "clerks" "LThriceCounted$Rows;") (by decide +kernel)) (fun _ h9 => h9) rfl dX0_addClerk_9 ?_
  refine lv_iload_n hx hb dX0_addClerk_12 rfl (lv_at hl 0 rfl) ?_
  refine lv_iconst (v := 0) hx hb dX0_addClerk_13 (by decide) ?_
  refine lv_iload_n hx hb dX0_addClerk_14 rfl (lv_at hl 2 rfl) ?_
  have hPc := hP.sub (ws' := [(ro, .inr (6, [.int 1, .int 5, .ref ca, .int 1])), (ca, .inl (cc0, 5, .inl ff))]) [2, 1] rfl
  have hDc := hD.sub (ws' := [(ro, .inr (6, [.int 1, .int 5, .ref ca, .int 1])), (ca, .inl (cc0, 5, .inl ff))]) [2, 1] (by decide) rfl
  have hKc := hK.sub (tys' := [(cc0, .int)]) [0] rfl
  have hFc := va_free (wc := [(ro, .inr (6, [.int 1, .int 5, .ref ca, .int 1])), (ca, .inl (cc0, 5, .inl ff))]) hD hS hA [2, 1] rfl
  refine va_callv (va_runV (As := [.int 0, .int 0, .int na]) (rest := []) ⟨hx, hb, hml, hown, hts⟩ (k_put_5_0 l dC dI ro ca cc0 ff na H.size) (cwV 3 hts gX0_addClerk_X6_put rfl rfl rfl (by decide +kernel) ⟨Nat.le_of_ble_eq_true rfl, Nat.le_of_ble_eq_true rfl⟩) ⟨fun a U g mk q => by obtain ⟨q0, q1, qP, qK, qD⟩ := q; exact ⟨q0, q1, qP, va_K.moved (u := U) (U := U.calling g mk a) (Vm.Alike.refl U.vm) qK, qD⟩, va_recv hK hP (ci := 6) (q0 := 2) rfl rfl, fun U hU hW => ⟨rfl, by rw [hU], by rw [hU]; exact hPc, va_K.moved hW.alike hKc, hDc.weaken (fun _ _ _ _ => trivial)⟩⟩ rfl rfl hl.1 rfl (lv_room (Nat.le_of_ble_eq_true rfl)) dX0_addClerk_15 ⟨Nat.le_of_ble_eq_true rfl, Nat.le_of_ble_eq_true rfl⟩) hS (fun q _ h => hFc q h) hFc (fun u_ t H1 locs ht hvm hw_4 hB hz1 hk1 hS => ?_)
  obtain ⟨fg_5, hP1, hK1, hD1⟩ := hB
  rw [ht] at hP1
  have hK1 := va_K.moved hvm.symm hK1
  obtain ⟨hP, hD⟩ := va_join (wr := [(bo, .inr (0, [.ref ro, vb1, vb2, vb3, vb4, vb5]))]) (w1 := [(ro, .inr (6, [.int 1, .int 5, .ref ca, .int 1])), (ca, .inl (cc0, 5, .inl fg_5))]) hP hD [2, 1] [0] rfl rfl (by decide) (by decide) hk1 hFc hP1 hD1
  generalize H1 = H at hP hS ⊢
  have hP : va_P (dC, dI) vwCl [(bo, .inr (0, [.ref ro, vb1, vb2, vb3, vb4, vb5])), (ro, .inr (6, [.int 1, .int 5, .ref ca, .int 1])), (ca, .inl (cc0, 5, .inl fg_5))] H := hP
  have hD : va_D A [(bo, .inr (0, [.ref ro, vb1, vb2, vb3, vb4, vb5])), (ro, .inr (6, [.int 1, .int 5, .ref ca, .int 1])), (ca, .inl (cc0, 5, .inl fg_5))] := hD
  refine lv_iload_n hx hb dX0_addClerk_18 rfl (lv_at hl 0 rfl) ?_
  exact W.iret (v := 0) hx hb hr (fun t ht hW => ⟨⟨0, (), rfl, rfl, trivial⟩, hS.F ht⟩) hS.2.2 dX0_addClerk_19
set_option maxRecDepth 20000 in
theorem ggX0_addBundle_X6_grow : GoodIn wsX0_addBundle wsX6_grow := goodIn_r _ [6, 7, 8, 9, 10, 5, 11, 12, 29, 30, 31, 32] (by decide +kernel) (by decide +kernel)
set_option maxRecDepth 20000 in
theorem gX0_addBundle_X6_grow : GoodIn wsX0_addBundle (wsV RX0 50 RX6 yX6_grow wsX6_grow) := goodIn_app (goodIn_of _ (by decide +kernel)) ggX0_addBundle_X6_grow
set_option maxRecDepth 20000 in
theorem ggX0_addBundle_X6_put : GoodIn wsX0_addBundle wsX6_put := goodIn_r _ [16, 17, 18, 19, 20, 21, 5, 22, 7, 29, 30, 31, 32] (by decide +kernel) (by decide +kernel)
set_option maxRecDepth 20000 in
theorem gX0_addBundle_X6_put : GoodIn wsX0_addBundle (wsV RX0 54 RX6 yX6_put wsX6_put) := goodIn_app (goodIn_of _ (by decide +kernel)) ggX0_addBundle_X6_put
theorem dX0_addBundle_0 : decode cX0_addBundle 0 = .ok (.aload_n 0, 1) := by decide +kernel
theorem dX0_addBundle_1 : decode cX0_addBundle 1 = .ok (.getfield 20, 3) := by decide +kernel
theorem dX0_addBundle_4 : decode cX0_addBundle 4 = .ok (.invokevirtual 50, 3) := by decide +kernel
theorem dX0_addBundle_7 : decode cX0_addBundle 7 = .ok (.istore_n 3, 1) := by decide +kernel
theorem dX0_addBundle_8 : decode cX0_addBundle 8 = .ok (.aload_n 0, 1) := by decide +kernel
theorem dX0_addBundle_9 : decode cX0_addBundle 9 = .ok (.getfield 20, 3) := by decide +kernel
theorem dX0_addBundle_12 : decode cX0_addBundle 12 = .ok (.iload_n 3, 1) := by decide +kernel
theorem dX0_addBundle_13 : decode cX0_addBundle 13 = .ok (.iconst 0, 1) := by decide +kernel
theorem dX0_addBundle_14 : decode cX0_addBundle 14 = .ok (.iload_n 1, 1) := by decide +kernel
theorem dX0_addBundle_15 : decode cX0_addBundle 15 = .ok (.invokevirtual 54, 3) := by decide +kernel
theorem dX0_addBundle_18 : decode cX0_addBundle 18 = .ok (.aload_n 0, 1) := by decide +kernel
theorem dX0_addBundle_19 : decode cX0_addBundle 19 = .ok (.getfield 20, 3) := by decide +kernel
theorem dX0_addBundle_22 : decode cX0_addBundle 22 = .ok (.iload_n 3, 1) := by decide +kernel
theorem dX0_addBundle_23 : decode cX0_addBundle 23 = .ok (.iconst 1, 1) := by decide +kernel
theorem dX0_addBundle_24 : decode cX0_addBundle 24 = .ok (.iload_n 2, 1) := by decide +kernel
theorem dX0_addBundle_25 : decode cX0_addBundle 25 = .ok (.invokevirtual 54, 3) := by decide +kernel
theorem dX0_addBundle_28 : decode cX0_addBundle 28 = .ok (.aload_n 0, 1) := by decide +kernel
theorem dX0_addBundle_29 : decode cX0_addBundle 29 = .ok (.getfield 20, 3) := by decide +kernel
theorem dX0_addBundle_32 : decode cX0_addBundle 32 = .ok (.iload_n 3, 1) := by decide +kernel
theorem dX0_addBundle_33 : decode cX0_addBundle 33 = .ok (.iconst 2, 1) := by decide +kernel
theorem dX0_addBundle_34 : decode cX0_addBundle 34 = .ok (.iconst (-1), 1) := by decide +kernel
theorem dX0_addBundle_35 : decode cX0_addBundle 35 = .ok (.invokevirtual 54, 3) := by decide +kernel
theorem dX0_addBundle_38 : decode cX0_addBundle 38 = .ok (.aload_n 0, 1) := by decide +kernel
theorem dX0_addBundle_39 : decode cX0_addBundle 39 = .ok (.getfield 20, 3) := by decide +kernel
theorem dX0_addBundle_42 : decode cX0_addBundle 42 = .ok (.iload_n 3, 1) := by decide +kernel
theorem dX0_addBundle_43 : decode cX0_addBundle 43 = .ok (.iconst 3, 1) := by decide +kernel
theorem dX0_addBundle_44 : decode cX0_addBundle 44 = .ok (.iconst (-1), 1) := by decide +kernel
theorem dX0_addBundle_45 : decode cX0_addBundle 45 = .ok (.invokevirtual 54, 3) := by decide +kernel
theorem dX0_addBundle_48 : decode cX0_addBundle 48 = .ok (.iload_n 3, 1) := by decide +kernel
theorem dX0_addBundle_49 : decode cX0_addBundle 49 = .ok (.ireturn, 1) := by decide +kernel
set_option maxRecDepth 20000 in
theorem iw_k_addBundle_X0 : ∀ w ∈ wsX00, w ∈ wsX0_addBundle := by decide +kernel
set_option maxHeartbeats 4000000 in
set_option maxRecDepth 100000 in
theorem k_addBundle (l : Launch) (dC : Nat → ClassId) (dI : Nat → Nat → Nat) (bo : Nat) (vb0 : Value) (ro : Nat) (vb2 : Value) (vb3 : Value) (vb4 : Value) (vb5 : Value) (ca : Nat) (cc0 : ClassId) (ff : Nat → Int32) (na : Int32) (nb : Int32) (sz : Nat) : Met l yX0_addBundle wsX0_addBundle ({ frames := 2, cells := 0, slots := 0, locals := 45 }) (va_Pc [.ref bo, .int na, .int nb] (fun U => U.heap.size = sz ∧ va_P (dC, dI) vwCl [(bo, .inr (0, [vb0, .ref ro, vb2, vb3, vb4, vb5])), (ro, .inr (6, [.int 4, .int 5, .ref ca, .int 0])), (ca, .inl (cc0, 20, .inl ff))] U.heap ∧ va_K (dC, dI) vwCl [(cc0, .int)] U ∧ va_D (fun _ => True) [(bo, .inr (0, [vb0, .ref ro, vb2, vb3, vb4, vb5])), (ro, .inr (6, [.int 4, .int 5, .ref ca, .int 0])), (ca, .inl (cc0, 20, .inl ff))])) (va_Qi (fun (r : Int32) (_ : Unit) => r = 0) (fun _ _ => True) (va_A [(bo, .inr (0, [vb0, .ref ro, vb2, vb3, vb4, vb5])), (ro, .inr (6, [.int 4, .int 5, .ref ca, .int 0])), (ca, .inl (cc0, 20, .inl ff))] sz)) 0 0 (va_A [(bo, .inr (0, [vb0, .ref ro, vb2, vb3, vb4, vb5])), (ro, .inr (6, [.int 4, .int 5, .ref ca, .int 0])), (ca, .inl (cc0, 20, .inl ff))] sz) := by
  refine Met.ofW (cc := cX0_addBundle) (maxL := 4) (ret := (some .int)) (by decide) rfl ?_
  intro p e s m args below meth c s₁ B hml hv
  obtain ⟨rfl, hsz, hP, hK, hD0⟩ := hv
  have hx := B.exec
  have hb := B.bytes
  have hr := B.returns
  have hts := atoms_spec (ws := wsX0_addBundle) B.pre
  have hown : s.vm.findClass RX0 = some m.cls := findClass_of_methodNamed B.named
  have hlocks := B.notSynchronized
  subst hsz
  have hD := hD0.self (sz := s.heap.size)
  generalize hAe : va_A [(bo, .inr (0, [vb0, .ref ro, vb2, vb3, vb4, vb5])), (ro, .inr (6, [.int 4, .int 5, .ref ca, .int 0])), (ca, .inl (cc0, 20, .inl ff))] s.heap.size = A at hD ⊢
  have hA : ∀ q : Nat, s.heap.size ≤ q → A q := fun q h => by rw [← hAe]; exact Or.inr h
  have hS : va_S A s.heap s.heap [] := va_S.rf
  have hP : va_P (dC, dI) vwCl [(bo, .inr (0, [vb0, .ref ro, vb2, vb3, vb4, vb5])), (ro, .inr (6, [.int 4, .int 5, .ref ca, .int 0])), (ca, .inl (cc0, 20, .inl ff))] s.heap := hP
  have hl := lv_entry ([.ref bo, .int na, .int nb]) (n := 4) (Nat.le_of_ble_eq_true rfl)
  rw [lg_entry_eq]
  generalize (lg_sl ([.ref bo, .int na, .int nb]) ++ List.replicate (4 - (lg_sl ([.ref bo, .int na, .int nb])).length) Slot.unset).toArray = ls at hl ⊢
  have hl : lv_has ls 4 [(0, .ref bo), (1, .int na), (2, .int nb)] := hl
  refine lv_aload_n hx hb dX0_addBundle_0 rfl (lv_at hl 0 rfl) ?_
  refine va_get (D := (dC, dI)) (ci := 0) (v := .ref ro) (C := RX0) (T := TX0) (N := 6) hx hb hts iw_k_addBundle_X0 hown hK hP 0 rfl rfl 1 (by decide) (hts (.fieldLink RX0 20 "ThriceCounted$Bank" "bundles" "LThriceCounted$Rows;") (by decide +kernel)) (fun _ h9 => h9) rfl dX0_addBundle_1 ?_
  have hPc := hP.sub (ws' := [(ro, .inr (6, [.int 4, .int 5, .ref ca, .int 0]))]) [1] rfl
  have hDc := hD.sub (ws' := [(ro, .inr (6, [.int 4, .int 5, .ref ca, .int 0]))]) [1] (by decide) rfl
  have hKc := hK.sub (tys' := []) [] rfl
  have hFc := va_free (wc := [(ro, .inr (6, [.int 4, .int 5, .ref ca, .int 0]))]) hD hS hA [1] rfl
  refine va_calli (va_runV (As := []) (rest := []) ⟨hx, hb, hml, hown, hts⟩ (k_grow l dC dI ro (.int 4) 5 (.ref ca) s.heap.size (by decide)) (cwV 0 hts gX0_addBundle_X6_grow rfl rfl rfl (by decide +kernel) ⟨Nat.le_of_ble_eq_true rfl, Nat.le_of_ble_eq_true rfl⟩) ⟨fun a U g mk q => by obtain ⟨q0, q1, qP, qK, qD⟩ := q; exact ⟨q0, q1, qP, va_K.moved (u := U) (U := U.calling g mk a) (Vm.Alike.refl U.vm) qK, qD⟩, va_recv hK hP (ci := 6) (q0 := 1) rfl rfl, fun U hU hW => ⟨rfl, by rw [hU], by rw [hU]; exact hPc, va_K.moved hW.alike hKc, hDc.weaken (fun _ _ _ _ => trivial)⟩⟩ rfl rfl hl.1 rfl (lv_room (Nat.le_of_ble_eq_true rfl)) dX0_addBundle_4 ⟨Nat.le_of_ble_eq_true rfl, Nat.le_of_ble_eq_true rfl⟩) hS (fun q _ h => hFc q h) hFc (fun r_1 u_ t H1 locs ht hvm hw_2 hB hz1 hk1 hS => ?_)
  obtain ⟨hP1, hK1, hD1⟩ := hB
  rw [ht] at hP1
  have hK1 := va_K.moved hvm.symm hK1
  obtain ⟨hP, hD⟩ := va_join (wr := [(bo, .inr (0, [vb0, .ref ro, vb2, vb3, vb4, vb5])), (ca, .inl (cc0, 20, .inl ff))]) (w1 := [(ro, .inr (6, [.int 4, .int 5, .ref ca, .int 1]))]) hP hD [1] [0, 2] rfl rfl (by decide) (by decide) hk1 hFc hP1 hD1
  generalize H1 = H at hP hS ⊢
  have hP : va_P (dC, dI) vwCl [(bo, .inr (0, [vb0, .ref ro, vb2, vb3, vb4, vb5])), (ca, .inl (cc0, 20, .inl ff)), (ro, .inr (6, [.int 4, .int 5, .ref ca, .int 1]))] H := hP
  have hD : va_D A [(bo, .inr (0, [vb0, .ref ro, vb2, vb3, vb4, vb5])), (ca, .inl (cc0, 20, .inl ff)), (ro, .inr (6, [.int 4, .int 5, .ref ca, .int 1]))] := hD
  obtain rfl : 0 = r_1 := hw_2.symm
  refine lv_istore_n (lv' := [(3, .int 0), (0, .ref bo), (1, .int na), (2, .int nb)]) hx hb dX0_addBundle_7 rfl hl (by decide) rfl (fun ls hl => ?_)
  refine lv_aload_n hx hb dX0_addBundle_8 rfl (lv_at hl 1 rfl) ?_
  refine va_get (D := (dC, dI)) (ci := 0) (v := .ref ro) (C := RX0) (T := TX0) (N := 6) hx hb hts iw_k_addBundle_X0 hown hK hP 0 rfl rfl 1 (by decide) (hts (.fieldLink RX0 20 "ThriceCounted$Bank" "bundles" "LThriceCounted$Rows;") (by decide +kernel)) (fun _ h9 => h9) rfl dX0_addBundle_9 ?_
  refine lv_iload_n hx hb dX0_addBundle_12 rfl (lv_at hl 0 rfl) ?_
  refine lv_iconst (v := 0) hx hb dX0_addBundle_13 (by decide) ?_
  refine lv_iload_n hx hb dX0_addBundle_14 rfl (lv_at hl 2 rfl) ?_
  have hPc := hP.sub (ws' := [(ro, .inr (6, [.int 4, .int 5, .ref ca, .int 1])), (ca, .inl (cc0, 20, .inl ff))]) [2, 1] rfl
  have hDc := hD.sub (ws' := [(ro, .inr (6, [.int 4, .int 5, .ref ca, .int 1])), (ca, .inl (cc0, 20, .inl ff))]) [2, 1] (by decide) rfl
  have hKc := hK.sub (tys' := [(cc0, .int)]) [0] rfl
  have hFc := va_free (wc := [(ro, .inr (6, [.int 4, .int 5, .ref ca, .int 1])), (ca, .inl (cc0, 20, .inl ff))]) hD hS hA [2, 1] rfl
  refine va_callv (va_runV (As := [.int 0, .int 0, .int na]) (rest := []) ⟨hx, hb, hml, hown, hts⟩ (k_put_20_0 l dC dI ro ca cc0 ff na H.size) (cwV 3 hts gX0_addBundle_X6_put rfl rfl rfl (by decide +kernel) ⟨Nat.le_of_ble_eq_true rfl, Nat.le_of_ble_eq_true rfl⟩) ⟨fun a U g mk q => by obtain ⟨q0, q1, qP, qK, qD⟩ := q; exact ⟨q0, q1, qP, va_K.moved (u := U) (U := U.calling g mk a) (Vm.Alike.refl U.vm) qK, qD⟩, va_recv hK hP (ci := 6) (q0 := 2) rfl rfl, fun U hU hW => ⟨rfl, by rw [hU], by rw [hU]; exact hPc, va_K.moved hW.alike hKc, hDc.weaken (fun _ _ _ _ => trivial)⟩⟩ rfl rfl hl.1 rfl (lv_room (Nat.le_of_ble_eq_true rfl)) dX0_addBundle_15 ⟨Nat.le_of_ble_eq_true rfl, Nat.le_of_ble_eq_true rfl⟩) hS (fun q _ h => hFc q h) hFc (fun u_ t H1 locs ht hvm hw_4 hB hz1 hk1 hS => ?_)
  obtain ⟨fg_5, hP1, hK1, hD1⟩ := hB
  rw [ht] at hP1
  have hK1 := va_K.moved hvm.symm hK1
  obtain ⟨hP, hD⟩ := va_join (wr := [(bo, .inr (0, [vb0, .ref ro, vb2, vb3, vb4, vb5]))]) (w1 := [(ro, .inr (6, [.int 4, .int 5, .ref ca, .int 1])), (ca, .inl (cc0, 20, .inl fg_5))]) hP hD [2, 1] [0] rfl rfl (by decide) (by decide) hk1 hFc hP1 hD1
  generalize H1 = H at hP hS ⊢
  have hP : va_P (dC, dI) vwCl [(bo, .inr (0, [vb0, .ref ro, vb2, vb3, vb4, vb5])), (ro, .inr (6, [.int 4, .int 5, .ref ca, .int 1])), (ca, .inl (cc0, 20, .inl fg_5))] H := hP
  have hD : va_D A [(bo, .inr (0, [vb0, .ref ro, vb2, vb3, vb4, vb5])), (ro, .inr (6, [.int 4, .int 5, .ref ca, .int 1])), (ca, .inl (cc0, 20, .inl fg_5))] := hD
  refine lv_aload_n hx hb dX0_addBundle_18 rfl (lv_at hl 1 rfl) ?_
  refine va_get (D := (dC, dI)) (ci := 0) (v := .ref ro) (C := RX0) (T := TX0) (N := 6) hx hb hts iw_k_addBundle_X0 hown hK hP 0 rfl rfl 1 (by decide) (hts (.fieldLink RX0 20 "ThriceCounted$Bank" "bundles" "LThriceCounted$Rows;") (by decide +kernel)) (fun _ h9 => h9) rfl dX0_addBundle_19 ?_
  refine lv_iload_n hx hb dX0_addBundle_22 rfl (lv_at hl 0 rfl) ?_
  refine lv_iconst (v := 1) hx hb dX0_addBundle_23 (by decide) ?_
  refine lv_iload_n hx hb dX0_addBundle_24 rfl (lv_at hl 3 rfl) ?_
  have hPc := hP.sub (ws' := [(ro, .inr (6, [.int 4, .int 5, .ref ca, .int 1])), (ca, .inl (cc0, 20, .inl fg_5))]) [1, 2] rfl
  have hDc := hD.sub (ws' := [(ro, .inr (6, [.int 4, .int 5, .ref ca, .int 1])), (ca, .inl (cc0, 20, .inl fg_5))]) [1, 2] (by decide) rfl
  have hKc := hK.sub (tys' := [(cc0, .int)]) [0] rfl
  have hFc := va_free (wc := [(ro, .inr (6, [.int 4, .int 5, .ref ca, .int 1])), (ca, .inl (cc0, 20, .inl fg_5))]) hD hS hA [1, 2] rfl
  refine va_callv (va_runV (As := [.int 0, .int 1, .int nb]) (rest := []) ⟨hx, hb, hml, hown, hts⟩ (k_put_20_1 l dC dI ro ca cc0 fg_5 nb H.size) (cwV 3 hts gX0_addBundle_X6_put rfl rfl rfl (by decide +kernel) ⟨Nat.le_of_ble_eq_true rfl, Nat.le_of_ble_eq_true rfl⟩) ⟨fun a U g mk q => by obtain ⟨q0, q1, qP, qK, qD⟩ := q; exact ⟨q0, q1, qP, va_K.moved (u := U) (U := U.calling g mk a) (Vm.Alike.refl U.vm) qK, qD⟩, va_recv hK hP (ci := 6) (q0 := 1) rfl rfl, fun U hU hW => ⟨rfl, by rw [hU], by rw [hU]; exact hPc, va_K.moved hW.alike hKc, hDc.weaken (fun _ _ _ _ => trivial)⟩⟩ rfl rfl hl.1 rfl (lv_room (Nat.le_of_ble_eq_true rfl)) dX0_addBundle_25 ⟨Nat.le_of_ble_eq_true rfl, Nat.le_of_ble_eq_true rfl⟩) hS (fun q _ h => hFc q h) hFc (fun u_ t H1 locs ht hvm hw_7 hB hz1 hk1 hS => ?_)
  obtain ⟨fg_8, hP1, hK1, hD1⟩ := hB
  rw [ht] at hP1
  have hK1 := va_K.moved hvm.symm hK1
  obtain ⟨hP, hD⟩ := va_join (wr := [(bo, .inr (0, [vb0, .ref ro, vb2, vb3, vb4, vb5]))]) (w1 := [(ro, .inr (6, [.int 4, .int 5, .ref ca, .int 1])), (ca, .inl (cc0, 20, .inl fg_8))]) hP hD [1, 2] [0] rfl rfl (by decide) (by decide) hk1 hFc hP1 hD1
  generalize H1 = H at hP hS ⊢
  have hP : va_P (dC, dI) vwCl [(bo, .inr (0, [vb0, .ref ro, vb2, vb3, vb4, vb5])), (ro, .inr (6, [.int 4, .int 5, .ref ca, .int 1])), (ca, .inl (cc0, 20, .inl fg_8))] H := hP
  have hD : va_D A [(bo, .inr (0, [vb0, .ref ro, vb2, vb3, vb4, vb5])), (ro, .inr (6, [.int 4, .int 5, .ref ca, .int 1])), (ca, .inl (cc0, 20, .inl fg_8))] := hD
  refine lv_aload_n hx hb dX0_addBundle_28 rfl (lv_at hl 1 rfl) ?_
  refine va_get (D := (dC, dI)) (ci := 0) (v := .ref ro) (C := RX0) (T := TX0) (N := 6) hx hb hts iw_k_addBundle_X0 hown hK hP 0 rfl rfl 1 (by decide) (hts (.fieldLink RX0 20 "ThriceCounted$Bank" "bundles" "LThriceCounted$Rows;") (by decide +kernel)) (fun _ h9 => h9) rfl dX0_addBundle_29 ?_
  refine lv_iload_n hx hb dX0_addBundle_32 rfl (lv_at hl 0 rfl) ?_
  refine lv_iconst (v := 2) hx hb dX0_addBundle_33 (by decide) ?_
  refine lv_iconst (v := (-1)) hx hb dX0_addBundle_34 (by decide) ?_
  have hPc := hP.sub (ws' := [(ro, .inr (6, [.int 4, .int 5, .ref ca, .int 1])), (ca, .inl (cc0, 20, .inl fg_8))]) [1, 2] rfl
  have hDc := hD.sub (ws' := [(ro, .inr (6, [.int 4, .int 5, .ref ca, .int 1])), (ca, .inl (cc0, 20, .inl fg_8))]) [1, 2] (by decide) rfl
  have hKc := hK.sub (tys' := [(cc0, .int)]) [0] rfl
  have hFc := va_free (wc := [(ro, .inr (6, [.int 4, .int 5, .ref ca, .int 1])), (ca, .inl (cc0, 20, .inl fg_8))]) hD hS hA [1, 2] rfl
  refine va_callv (va_runV (As := [.int 0, .int 2, .int (-1)]) (rest := []) ⟨hx, hb, hml, hown, hts⟩ (k_put_20_2 l dC dI ro ca cc0 fg_8 (-1) H.size) (cwV 3 hts gX0_addBundle_X6_put rfl rfl rfl (by decide +kernel) ⟨Nat.le_of_ble_eq_true rfl, Nat.le_of_ble_eq_true rfl⟩) ⟨fun a U g mk q => by obtain ⟨q0, q1, qP, qK, qD⟩ := q; exact ⟨q0, q1, qP, va_K.moved (u := U) (U := U.calling g mk a) (Vm.Alike.refl U.vm) qK, qD⟩, va_recv hK hP (ci := 6) (q0 := 1) rfl rfl, fun U hU hW => ⟨rfl, by rw [hU], by rw [hU]; exact hPc, va_K.moved hW.alike hKc, hDc.weaken (fun _ _ _ _ => trivial)⟩⟩ rfl rfl hl.1 rfl (lv_room (Nat.le_of_ble_eq_true rfl)) dX0_addBundle_35 ⟨Nat.le_of_ble_eq_true rfl, Nat.le_of_ble_eq_true rfl⟩) hS (fun q _ h => hFc q h) hFc (fun u_ t H1 locs ht hvm hw_10 hB hz1 hk1 hS => ?_)
  obtain ⟨fg_11, hP1, hK1, hD1⟩ := hB
  rw [ht] at hP1
  have hK1 := va_K.moved hvm.symm hK1
  obtain ⟨hP, hD⟩ := va_join (wr := [(bo, .inr (0, [vb0, .ref ro, vb2, vb3, vb4, vb5]))]) (w1 := [(ro, .inr (6, [.int 4, .int 5, .ref ca, .int 1])), (ca, .inl (cc0, 20, .inl fg_11))]) hP hD [1, 2] [0] rfl rfl (by decide) (by decide) hk1 hFc hP1 hD1
  generalize H1 = H at hP hS ⊢
  have hP : va_P (dC, dI) vwCl [(bo, .inr (0, [vb0, .ref ro, vb2, vb3, vb4, vb5])), (ro, .inr (6, [.int 4, .int 5, .ref ca, .int 1])), (ca, .inl (cc0, 20, .inl fg_11))] H := hP
  have hD : va_D A [(bo, .inr (0, [vb0, .ref ro, vb2, vb3, vb4, vb5])), (ro, .inr (6, [.int 4, .int 5, .ref ca, .int 1])), (ca, .inl (cc0, 20, .inl fg_11))] := hD
  refine lv_aload_n hx hb dX0_addBundle_38 rfl (lv_at hl 1 rfl) ?_
  refine va_get (D := (dC, dI)) (ci := 0) (v := .ref ro) (C := RX0) (T := TX0) (N := 6) hx hb hts iw_k_addBundle_X0 hown hK hP 0 rfl rfl 1 (by decide) (hts (.fieldLink RX0 20 "ThriceCounted$Bank" "bundles" "LThriceCounted$Rows;") (by decide +kernel)) (fun _ h9 => h9) rfl dX0_addBundle_39 ?_
  refine lv_iload_n hx hb dX0_addBundle_42 rfl (lv_at hl 0 rfl) ?_
  refine lv_iconst (v := 3) hx hb dX0_addBundle_43 (by decide) ?_
  refine lv_iconst (v := (-1)) hx hb dX0_addBundle_44 (by decide) ?_
  have hPc := hP.sub (ws' := [(ro, .inr (6, [.int 4, .int 5, .ref ca, .int 1])), (ca, .inl (cc0, 20, .inl fg_11))]) [1, 2] rfl
  have hDc := hD.sub (ws' := [(ro, .inr (6, [.int 4, .int 5, .ref ca, .int 1])), (ca, .inl (cc0, 20, .inl fg_11))]) [1, 2] (by decide) rfl
  have hKc := hK.sub (tys' := [(cc0, .int)]) [0] rfl
  have hFc := va_free (wc := [(ro, .inr (6, [.int 4, .int 5, .ref ca, .int 1])), (ca, .inl (cc0, 20, .inl fg_11))]) hD hS hA [1, 2] rfl
  refine va_callv (va_runV (As := [.int 0, .int 3, .int (-1)]) (rest := []) ⟨hx, hb, hml, hown, hts⟩ (k_put_20_3 l dC dI ro ca cc0 fg_11 (-1) H.size) (cwV 3 hts gX0_addBundle_X6_put rfl rfl rfl (by decide +kernel) ⟨Nat.le_of_ble_eq_true rfl, Nat.le_of_ble_eq_true rfl⟩) ⟨fun a U g mk q => by obtain ⟨q0, q1, qP, qK, qD⟩ := q; exact ⟨q0, q1, qP, va_K.moved (u := U) (U := U.calling g mk a) (Vm.Alike.refl U.vm) qK, qD⟩, va_recv hK hP (ci := 6) (q0 := 1) rfl rfl, fun U hU hW => ⟨rfl, by rw [hU], by rw [hU]; exact hPc, va_K.moved hW.alike hKc, hDc.weaken (fun _ _ _ _ => trivial)⟩⟩ rfl rfl hl.1 rfl (lv_room (Nat.le_of_ble_eq_true rfl)) dX0_addBundle_45 ⟨Nat.le_of_ble_eq_true rfl, Nat.le_of_ble_eq_true rfl⟩) hS (fun q _ h => hFc q h) hFc (fun u_ t H1 locs ht hvm hw_13 hB hz1 hk1 hS => ?_)
  obtain ⟨fg_14, hP1, hK1, hD1⟩ := hB
  rw [ht] at hP1
  have hK1 := va_K.moved hvm.symm hK1
  obtain ⟨hP, hD⟩ := va_join (wr := [(bo, .inr (0, [vb0, .ref ro, vb2, vb3, vb4, vb5]))]) (w1 := [(ro, .inr (6, [.int 4, .int 5, .ref ca, .int 1])), (ca, .inl (cc0, 20, .inl fg_14))]) hP hD [1, 2] [0] rfl rfl (by decide) (by decide) hk1 hFc hP1 hD1
  generalize H1 = H at hP hS ⊢
  have hP : va_P (dC, dI) vwCl [(bo, .inr (0, [vb0, .ref ro, vb2, vb3, vb4, vb5])), (ro, .inr (6, [.int 4, .int 5, .ref ca, .int 1])), (ca, .inl (cc0, 20, .inl fg_14))] H := hP
  have hD : va_D A [(bo, .inr (0, [vb0, .ref ro, vb2, vb3, vb4, vb5])), (ro, .inr (6, [.int 4, .int 5, .ref ca, .int 1])), (ca, .inl (cc0, 20, .inl fg_14))] := hD
  refine lv_iload_n hx hb dX0_addBundle_48 rfl (lv_at hl 0 rfl) ?_
  exact W.iret (v := 0) hx hb hr (fun t ht hW => ⟨⟨0, (), rfl, rfl, trivial⟩, hS.F ht⟩) hS.2.2 dX0_addBundle_49
set_option maxRecDepth 20000 in
theorem ggX0_addCause_X6_grow : GoodIn wsX0_addCause wsX6_grow := goodIn_r _ [6, 7, 8, 9, 10, 5, 11, 12, 29, 30, 31, 32] (by decide +kernel) (by decide +kernel)
set_option maxRecDepth 20000 in
theorem gX0_addCause_X6_grow : GoodIn wsX0_addCause (wsV RX0 50 RX6 yX6_grow wsX6_grow) := goodIn_app (goodIn_of _ (by decide +kernel)) ggX0_addCause_X6_grow
set_option maxRecDepth 20000 in
theorem ggX0_addCause_X6_put : GoodIn wsX0_addCause wsX6_put := goodIn_r _ [16, 17, 18, 19, 20, 21, 5, 22, 7, 29, 30, 31, 32] (by decide +kernel) (by decide +kernel)
set_option maxRecDepth 20000 in
theorem gX0_addCause_X6_put : GoodIn wsX0_addCause (wsV RX0 54 RX6 yX6_put wsX6_put) := goodIn_app (goodIn_of _ (by decide +kernel)) ggX0_addCause_X6_put
theorem dX0_addCause_0 : decode cX0_addCause 0 = .ok (.aload_n 0, 1) := by decide +kernel
theorem dX0_addCause_1 : decode cX0_addCause 1 = .ok (.getfield 26, 3) := by decide +kernel
theorem dX0_addCause_4 : decode cX0_addCause 4 = .ok (.invokevirtual 50, 3) := by decide +kernel
theorem dX0_addCause_7 : decode cX0_addCause 7 = .ok (.istore 5, 2) := by decide +kernel
theorem dX0_addCause_9 : decode cX0_addCause 9 = .ok (.aload_n 0, 1) := by decide +kernel
theorem dX0_addCause_10 : decode cX0_addCause 10 = .ok (.getfield 26, 3) := by decide +kernel
theorem dX0_addCause_13 : decode cX0_addCause 13 = .ok (.iload 5, 2) := by decide +kernel
theorem dX0_addCause_15 : decode cX0_addCause 15 = .ok (.iconst 0, 1) := by decide +kernel
theorem dX0_addCause_16 : decode cX0_addCause 16 = .ok (.iload_n 1, 1) := by decide +kernel
theorem dX0_addCause_17 : decode cX0_addCause 17 = .ok (.invokevirtual 54, 3) := by decide +kernel
theorem dX0_addCause_20 : decode cX0_addCause 20 = .ok (.aload_n 0, 1) := by decide +kernel
theorem dX0_addCause_21 : decode cX0_addCause 21 = .ok (.getfield 26, 3) := by decide +kernel
theorem dX0_addCause_24 : decode cX0_addCause 24 = .ok (.iload 5, 2) := by decide +kernel
theorem dX0_addCause_26 : decode cX0_addCause 26 = .ok (.iconst 1, 1) := by decide +kernel
theorem dX0_addCause_27 : decode cX0_addCause 27 = .ok (.iload_n 2, 1) := by decide +kernel
theorem dX0_addCause_28 : decode cX0_addCause 28 = .ok (.invokevirtual 54, 3) := by decide +kernel
theorem dX0_addCause_31 : decode cX0_addCause 31 = .ok (.aload_n 0, 1) := by decide +kernel
theorem dX0_addCause_32 : decode cX0_addCause 32 = .ok (.getfield 26, 3) := by decide +kernel
theorem dX0_addCause_35 : decode cX0_addCause 35 = .ok (.iload 5, 2) := by decide +kernel
theorem dX0_addCause_37 : decode cX0_addCause 37 = .ok (.iconst 2, 1) := by decide +kernel
theorem dX0_addCause_38 : decode cX0_addCause 38 = .ok (.iload_n 3, 1) := by decide +kernel
theorem dX0_addCause_39 : decode cX0_addCause 39 = .ok (.invokevirtual 54, 3) := by decide +kernel
theorem dX0_addCause_42 : decode cX0_addCause 42 = .ok (.aload_n 0, 1) := by decide +kernel
theorem dX0_addCause_43 : decode cX0_addCause 43 = .ok (.getfield 26, 3) := by decide +kernel
theorem dX0_addCause_46 : decode cX0_addCause 46 = .ok (.iload 5, 2) := by decide +kernel
theorem dX0_addCause_48 : decode cX0_addCause 48 = .ok (.iconst 3, 1) := by decide +kernel
theorem dX0_addCause_49 : decode cX0_addCause 49 = .ok (.iload 4, 2) := by decide +kernel
theorem dX0_addCause_51 : decode cX0_addCause 51 = .ok (.invokevirtual 54, 3) := by decide +kernel
theorem dX0_addCause_54 : decode cX0_addCause 54 = .ok (.iload 5, 2) := by decide +kernel
theorem dX0_addCause_56 : decode cX0_addCause 56 = .ok (.ireturn, 1) := by decide +kernel
set_option maxRecDepth 20000 in
theorem iw_k_addCause_X0 : ∀ w ∈ wsX00, w ∈ wsX0_addCause := by decide +kernel
set_option maxHeartbeats 4000000 in
set_option maxRecDepth 100000 in
theorem k_addCause (l : Launch) (dC : Nat → ClassId) (dI : Nat → Nat → Nat) (bo : Nat) (vb0 : Value) (vb1 : Value) (vb2 : Value) (ro : Nat) (vb4 : Value) (vb5 : Value) (ca : Nat) (cc0 : ClassId) (ff : Nat → Int32) (na : Int32) (nb : Int32) (nc : Int32) (nd : Int32) (sz : Nat) : Met l yX0_addCause wsX0_addCause ({ frames := 2, cells := 0, slots := 0, locals := 45 }) (va_Pc [.ref bo, .int na, .int nb, .int nc, .int nd] (fun U => U.heap.size = sz ∧ va_P (dC, dI) vwCl [(bo, .inr (0, [vb0, vb1, vb2, .ref ro, vb4, vb5])), (ro, .inr (6, [.int 4, .int 6, .ref ca, .int 0])), (ca, .inl (cc0, 24, .inl ff))] U.heap ∧ va_K (dC, dI) vwCl [(cc0, .int)] U ∧ va_D (fun _ => True) [(bo, .inr (0, [vb0, vb1, vb2, .ref ro, vb4, vb5])), (ro, .inr (6, [.int 4, .int 6, .ref ca, .int 0])), (ca, .inl (cc0, 24, .inl ff))])) (va_Qi (fun (r : Int32) (_ : Unit) => r = 0) (fun _ _ => True) (va_A [(bo, .inr (0, [vb0, vb1, vb2, .ref ro, vb4, vb5])), (ro, .inr (6, [.int 4, .int 6, .ref ca, .int 0])), (ca, .inl (cc0, 24, .inl ff))] sz)) 0 0 (va_A [(bo, .inr (0, [vb0, vb1, vb2, .ref ro, vb4, vb5])), (ro, .inr (6, [.int 4, .int 6, .ref ca, .int 0])), (ca, .inl (cc0, 24, .inl ff))] sz) := by
  refine Met.ofW (cc := cX0_addCause) (maxL := 6) (ret := (some .int)) (by decide) rfl ?_
  intro p e s m args below meth c s₁ B hml hv
  obtain ⟨rfl, hsz, hP, hK, hD0⟩ := hv
  have hx := B.exec
  have hb := B.bytes
  have hr := B.returns
  have hts := atoms_spec (ws := wsX0_addCause) B.pre
  have hown : s.vm.findClass RX0 = some m.cls := findClass_of_methodNamed B.named
  have hlocks := B.notSynchronized
  subst hsz
  have hD := hD0.self (sz := s.heap.size)
  generalize hAe : va_A [(bo, .inr (0, [vb0, vb1, vb2, .ref ro, vb4, vb5])), (ro, .inr (6, [.int 4, .int 6, .ref ca, .int 0])), (ca, .inl (cc0, 24, .inl ff))] s.heap.size = A at hD ⊢
  have hA : ∀ q : Nat, s.heap.size ≤ q → A q := fun q h => by rw [← hAe]; exact Or.inr h
  have hS : va_S A s.heap s.heap [] := va_S.rf
  have hP : va_P (dC, dI) vwCl [(bo, .inr (0, [vb0, vb1, vb2, .ref ro, vb4, vb5])), (ro, .inr (6, [.int 4, .int 6, .ref ca, .int 0])), (ca, .inl (cc0, 24, .inl ff))] s.heap := hP
  have hl := lv_entry ([.ref bo, .int na, .int nb, .int nc, .int nd]) (n := 6) (Nat.le_of_ble_eq_true rfl)
  rw [lg_entry_eq]
  generalize (lg_sl ([.ref bo, .int na, .int nb, .int nc, .int nd]) ++ List.replicate (6 - (lg_sl ([.ref bo, .int na, .int nb, .int nc, .int nd])).length) Slot.unset).toArray = ls at hl ⊢
  have hl : lv_has ls 6 [(0, .ref bo), (1, .int na), (2, .int nb), (3, .int nc), (4, .int nd)] := hl
  refine lv_aload_n hx hb dX0_addCause_0 rfl (lv_at hl 0 rfl) ?_
  refine va_get (D := (dC, dI)) (ci := 0) (v := .ref ro) (C := RX0) (T := TX0) (N := 6) hx hb hts iw_k_addCause_X0 hown hK hP 0 rfl rfl 3 (by decide) (hts (.fieldLink RX0 26 "ThriceCounted$Bank" "causes" "LThriceCounted$Rows;") (by decide +kernel)) (fun _ h9 => h9) rfl dX0_addCause_1 ?_
  have hPc := hP.sub (ws' := [(ro, .inr (6, [.int 4, .int 6, .ref ca, .int 0]))]) [1] rfl
  have hDc := hD.sub (ws' := [(ro, .inr (6, [.int 4, .int 6, .ref ca, .int 0]))]) [1] (by decide) rfl
  have hKc := hK.sub (tys' := []) [] rfl
  have hFc := va_free (wc := [(ro, .inr (6, [.int 4, .int 6, .ref ca, .int 0]))]) hD hS hA [1] rfl
  refine va_calli (va_runV (As := []) (rest := []) ⟨hx, hb, hml, hown, hts⟩ (k_grow l dC dI ro (.int 4) 6 (.ref ca) s.heap.size (by decide)) (cwV 0 hts gX0_addCause_X6_grow rfl rfl rfl (by decide +kernel) ⟨Nat.le_of_ble_eq_true rfl, Nat.le_of_ble_eq_true rfl⟩) ⟨fun a U g mk q => by obtain ⟨q0, q1, qP, qK, qD⟩ := q; exact ⟨q0, q1, qP, va_K.moved (u := U) (U := U.calling g mk a) (Vm.Alike.refl U.vm) qK, qD⟩, va_recv hK hP (ci := 6) (q0 := 1) rfl rfl, fun U hU hW => ⟨rfl, by rw [hU], by rw [hU]; exact hPc, va_K.moved hW.alike hKc, hDc.weaken (fun _ _ _ _ => trivial)⟩⟩ rfl rfl hl.1 rfl (lv_room (Nat.le_of_ble_eq_true rfl)) dX0_addCause_4 ⟨Nat.le_of_ble_eq_true rfl, Nat.le_of_ble_eq_true rfl⟩) hS (fun q _ h => hFc q h) hFc (fun r_1 u_ t H1 locs ht hvm hw_2 hB hz1 hk1 hS => ?_)
  obtain ⟨hP1, hK1, hD1⟩ := hB
  rw [ht] at hP1
  have hK1 := va_K.moved hvm.symm hK1
  obtain ⟨hP, hD⟩ := va_join (wr := [(bo, .inr (0, [vb0, vb1, vb2, .ref ro, vb4, vb5])), (ca, .inl (cc0, 24, .inl ff))]) (w1 := [(ro, .inr (6, [.int 4, .int 6, .ref ca, .int 1]))]) hP hD [1] [0, 2] rfl rfl (by decide) (by decide) hk1 hFc hP1 hD1
  generalize H1 = H at hP hS ⊢
  have hP : va_P (dC, dI) vwCl [(bo, .inr (0, [vb0, vb1, vb2, .ref ro, vb4, vb5])), (ca, .inl (cc0, 24, .inl ff)), (ro, .inr (6, [.int 4, .int 6, .ref ca, .int 1]))] H := hP
  have hD : va_D A [(bo, .inr (0, [vb0, vb1, vb2, .ref ro, vb4, vb5])), (ca, .inl (cc0, 24, .inl ff)), (ro, .inr (6, [.int 4, .int 6, .ref ca, .int 1]))] := hD
  obtain rfl : 0 = r_1 := hw_2.symm
  refine lv_istore (lv' := [(5, .int 0), (0, .ref bo), (1, .int na), (2, .int nb), (3, .int nc), (4, .int nd)]) hx hb dX0_addCause_7 hl (by decide) rfl (fun ls hl => ?_)
  refine lv_aload_n hx hb dX0_addCause_9 rfl (lv_at hl 1 rfl) ?_
  refine va_get (D := (dC, dI)) (ci := 0) (v := .ref ro) (C := RX0) (T := TX0) (N := 6) hx hb hts iw_k_addCause_X0 hown hK hP 0 rfl rfl 3 (by decide) (hts (.fieldLink RX0 26 "ThriceCounted$Bank" "causes" "LThriceCounted$Rows;") (by decide +kernel)) (fun _ h9 => h9) rfl dX0_addCause_10 ?_
  refine lv_iload hx hb dX0_addCause_13 (lv_at hl 0 rfl) ?_
  refine lv_iconst (v := 0) hx hb dX0_addCause_15 (by decide) ?_
  refine lv_iload_n hx hb dX0_addCause_16 rfl (lv_at hl 2 rfl) ?_
  have hPc := hP.sub (ws' := [(ro, .inr (6, [.int 4, .int 6, .ref ca, .int 1])), (ca, .inl (cc0, 24, .inl ff))]) [2, 1] rfl
  have hDc := hD.sub (ws' := [(ro, .inr (6, [.int 4, .int 6, .ref ca, .int 1])), (ca, .inl (cc0, 24, .inl ff))]) [2, 1] (by decide) rfl
  have hKc := hK.sub (tys' := [(cc0, .int)]) [0] rfl
  have hFc := va_free (wc := [(ro, .inr (6, [.int 4, .int 6, .ref ca, .int 1])), (ca, .inl (cc0, 24, .inl ff))]) hD hS hA [2, 1] rfl
  refine va_callv (va_runV (As := [.int 0, .int 0, .int na]) (rest := []) ⟨hx, hb, hml, hown, hts⟩ (k_put_24_0 l dC dI ro ca cc0 ff na H.size) (cwV 3 hts gX0_addCause_X6_put rfl rfl rfl (by decide +kernel) ⟨Nat.le_of_ble_eq_true rfl, Nat.le_of_ble_eq_true rfl⟩) ⟨fun a U g mk q => by obtain ⟨q0, q1, qP, qK, qD⟩ := q; exact ⟨q0, q1, qP, va_K.moved (u := U) (U := U.calling g mk a) (Vm.Alike.refl U.vm) qK, qD⟩, va_recv hK hP (ci := 6) (q0 := 2) rfl rfl, fun U hU hW => ⟨rfl, by rw [hU], by rw [hU]; exact hPc, va_K.moved hW.alike hKc, hDc.weaken (fun _ _ _ _ => trivial)⟩⟩ rfl rfl hl.1 rfl (lv_room (Nat.le_of_ble_eq_true rfl)) dX0_addCause_17 ⟨Nat.le_of_ble_eq_true rfl, Nat.le_of_ble_eq_true rfl⟩) hS (fun q _ h => hFc q h) hFc (fun u_ t H1 locs ht hvm hw_4 hB hz1 hk1 hS => ?_)
  obtain ⟨fg_5, hP1, hK1, hD1⟩ := hB
  rw [ht] at hP1
  have hK1 := va_K.moved hvm.symm hK1
  obtain ⟨hP, hD⟩ := va_join (wr := [(bo, .inr (0, [vb0, vb1, vb2, .ref ro, vb4, vb5]))]) (w1 := [(ro, .inr (6, [.int 4, .int 6, .ref ca, .int 1])), (ca, .inl (cc0, 24, .inl fg_5))]) hP hD [2, 1] [0] rfl rfl (by decide) (by decide) hk1 hFc hP1 hD1
  generalize H1 = H at hP hS ⊢
  have hP : va_P (dC, dI) vwCl [(bo, .inr (0, [vb0, vb1, vb2, .ref ro, vb4, vb5])), (ro, .inr (6, [.int 4, .int 6, .ref ca, .int 1])), (ca, .inl (cc0, 24, .inl fg_5))] H := hP
  have hD : va_D A [(bo, .inr (0, [vb0, vb1, vb2, .ref ro, vb4, vb5])), (ro, .inr (6, [.int 4, .int 6, .ref ca, .int 1])), (ca, .inl (cc0, 24, .inl fg_5))] := hD
  refine lv_aload_n hx hb dX0_addCause_20 rfl (lv_at hl 1 rfl) ?_
  refine va_get (D := (dC, dI)) (ci := 0) (v := .ref ro) (C := RX0) (T := TX0) (N := 6) hx hb hts iw_k_addCause_X0 hown hK hP 0 rfl rfl 3 (by decide) (hts (.fieldLink RX0 26 "ThriceCounted$Bank" "causes" "LThriceCounted$Rows;") (by decide +kernel)) (fun _ h9 => h9) rfl dX0_addCause_21 ?_
  refine lv_iload hx hb dX0_addCause_24 (lv_at hl 0 rfl) ?_
  refine lv_iconst (v := 1) hx hb dX0_addCause_26 (by decide) ?_
  refine lv_iload_n hx hb dX0_addCause_27 rfl (lv_at hl 3 rfl) ?_
  have hPc := hP.sub (ws' := [(ro, .inr (6, [.int 4, .int 6, .ref ca, .int 1])), (ca, .inl (cc0, 24, .inl fg_5))]) [1, 2] rfl
  have hDc := hD.sub (ws' := [(ro, .inr (6, [.int 4, .int 6, .ref ca, .int 1])), (ca, .inl (cc0, 24, .inl fg_5))]) [1, 2] (by decide) rfl
  have hKc := hK.sub (tys' := [(cc0, .int)]) [0] rfl
  have hFc := va_free (wc := [(ro, .inr (6, [.int 4, .int 6, .ref ca, .int 1])), (ca, .inl (cc0, 24, .inl fg_5))]) hD hS hA [1, 2] rfl
  refine va_callv (va_runV (As := [.int 0, .int 1, .int nb]) (rest := []) ⟨hx, hb, hml, hown, hts⟩ (k_put_24_1 l dC dI ro ca cc0 fg_5 nb H.size) (cwV 3 hts gX0_addCause_X6_put rfl rfl rfl (by decide +kernel) ⟨Nat.le_of_ble_eq_true rfl, Nat.le_of_ble_eq_true rfl⟩) ⟨fun a U g mk q => by obtain ⟨q0, q1, qP, qK, qD⟩ := q; exact ⟨q0, q1, qP, va_K.moved (u := U) (U := U.calling g mk a) (Vm.Alike.refl U.vm) qK, qD⟩, va_recv hK hP (ci := 6) (q0 := 1) rfl rfl, fun U hU hW => ⟨rfl, by rw [hU], by rw [hU]; exact hPc, va_K.moved hW.alike hKc, hDc.weaken (fun _ _ _ _ => trivial)⟩⟩ rfl rfl hl.1 rfl (lv_room (Nat.le_of_ble_eq_true rfl)) dX0_addCause_28 ⟨Nat.le_of_ble_eq_true rfl, Nat.le_of_ble_eq_true rfl⟩) hS (fun q _ h => hFc q h) hFc (fun u_ t H1 locs ht hvm hw_7 hB hz1 hk1 hS => ?_)
  obtain ⟨fg_8, hP1, hK1, hD1⟩ := hB
  rw [ht] at hP1
  have hK1 := va_K.moved hvm.symm hK1
  obtain ⟨hP, hD⟩ := va_join (wr := [(bo, .inr (0, [vb0, vb1, vb2, .ref ro, vb4, vb5]))]) (w1 := [(ro, .inr (6, [.int 4, .int 6, .ref ca, .int 1])), (ca, .inl (cc0, 24, .inl fg_8))]) hP hD [1, 2] [0] rfl rfl (by decide) (by decide) hk1 hFc hP1 hD1
  generalize H1 = H at hP hS ⊢
  have hP : va_P (dC, dI) vwCl [(bo, .inr (0, [vb0, vb1, vb2, .ref ro, vb4, vb5])), (ro, .inr (6, [.int 4, .int 6, .ref ca, .int 1])), (ca, .inl (cc0, 24, .inl fg_8))] H := hP
  have hD : va_D A [(bo, .inr (0, [vb0, vb1, vb2, .ref ro, vb4, vb5])), (ro, .inr (6, [.int 4, .int 6, .ref ca, .int 1])), (ca, .inl (cc0, 24, .inl fg_8))] := hD
  refine lv_aload_n hx hb dX0_addCause_31 rfl (lv_at hl 1 rfl) ?_
  refine va_get (D := (dC, dI)) (ci := 0) (v := .ref ro) (C := RX0) (T := TX0) (N := 6) hx hb hts iw_k_addCause_X0 hown hK hP 0 rfl rfl 3 (by decide) (hts (.fieldLink RX0 26 "ThriceCounted$Bank" "causes" "LThriceCounted$Rows;") (by decide +kernel)) (fun _ h9 => h9) rfl dX0_addCause_32 ?_
  refine lv_iload hx hb dX0_addCause_35 (lv_at hl 0 rfl) ?_
  refine lv_iconst (v := 2) hx hb dX0_addCause_37 (by decide) ?_
  refine lv_iload_n hx hb dX0_addCause_38 rfl (lv_at hl 4 rfl) ?_
  have hPc := hP.sub (ws' := [(ro, .inr (6, [.int 4, .int 6, .ref ca, .int 1])), (ca, .inl (cc0, 24, .inl fg_8))]) [1, 2] rfl
  have hDc := hD.sub (ws' := [(ro, .inr (6, [.int 4, .int 6, .ref ca, .int 1])), (ca, .inl (cc0, 24, .inl fg_8))]) [1, 2] (by decide) rfl
  have hKc := hK.sub (tys' := [(cc0, .int)]) [0] rfl
  have hFc := va_free (wc := [(ro, .inr (6, [.int 4, .int 6, .ref ca, .int 1])), (ca, .inl (cc0, 24, .inl fg_8))]) hD hS hA [1, 2] rfl
  refine va_callv (va_runV (As := [.int 0, .int 2, .int nc]) (rest := []) ⟨hx, hb, hml, hown, hts⟩ (k_put_24_2 l dC dI ro ca cc0 fg_8 nc H.size) (cwV 3 hts gX0_addCause_X6_put rfl rfl rfl (by decide +kernel) ⟨Nat.le_of_ble_eq_true rfl, Nat.le_of_ble_eq_true rfl⟩) ⟨fun a U g mk q => by obtain ⟨q0, q1, qP, qK, qD⟩ := q; exact ⟨q0, q1, qP, va_K.moved (u := U) (U := U.calling g mk a) (Vm.Alike.refl U.vm) qK, qD⟩, va_recv hK hP (ci := 6) (q0 := 1) rfl rfl, fun U hU hW => ⟨rfl, by rw [hU], by rw [hU]; exact hPc, va_K.moved hW.alike hKc, hDc.weaken (fun _ _ _ _ => trivial)⟩⟩ rfl rfl hl.1 rfl (lv_room (Nat.le_of_ble_eq_true rfl)) dX0_addCause_39 ⟨Nat.le_of_ble_eq_true rfl, Nat.le_of_ble_eq_true rfl⟩) hS (fun q _ h => hFc q h) hFc (fun u_ t H1 locs ht hvm hw_10 hB hz1 hk1 hS => ?_)
  obtain ⟨fg_11, hP1, hK1, hD1⟩ := hB
  rw [ht] at hP1
  have hK1 := va_K.moved hvm.symm hK1
  obtain ⟨hP, hD⟩ := va_join (wr := [(bo, .inr (0, [vb0, vb1, vb2, .ref ro, vb4, vb5]))]) (w1 := [(ro, .inr (6, [.int 4, .int 6, .ref ca, .int 1])), (ca, .inl (cc0, 24, .inl fg_11))]) hP hD [1, 2] [0] rfl rfl (by decide) (by decide) hk1 hFc hP1 hD1
  generalize H1 = H at hP hS ⊢
  have hP : va_P (dC, dI) vwCl [(bo, .inr (0, [vb0, vb1, vb2, .ref ro, vb4, vb5])), (ro, .inr (6, [.int 4, .int 6, .ref ca, .int 1])), (ca, .inl (cc0, 24, .inl fg_11))] H := hP
  have hD : va_D A [(bo, .inr (0, [vb0, vb1, vb2, .ref ro, vb4, vb5])), (ro, .inr (6, [.int 4, .int 6, .ref ca, .int 1])), (ca, .inl (cc0, 24, .inl fg_11))] := hD
  refine lv_aload_n hx hb dX0_addCause_42 rfl (lv_at hl 1 rfl) ?_
  refine va_get (D := (dC, dI)) (ci := 0) (v := .ref ro) (C := RX0) (T := TX0) (N := 6) hx hb hts iw_k_addCause_X0 hown hK hP 0 rfl rfl 3 (by decide) (hts (.fieldLink RX0 26 "ThriceCounted$Bank" "causes" "LThriceCounted$Rows;") (by decide +kernel)) (fun _ h9 => h9) rfl dX0_addCause_43 ?_
  refine lv_iload hx hb dX0_addCause_46 (lv_at hl 0 rfl) ?_
  refine lv_iconst (v := 3) hx hb dX0_addCause_48 (by decide) ?_
  refine lv_iload hx hb dX0_addCause_49 (lv_at hl 5 rfl) ?_
  have hPc := hP.sub (ws' := [(ro, .inr (6, [.int 4, .int 6, .ref ca, .int 1])), (ca, .inl (cc0, 24, .inl fg_11))]) [1, 2] rfl
  have hDc := hD.sub (ws' := [(ro, .inr (6, [.int 4, .int 6, .ref ca, .int 1])), (ca, .inl (cc0, 24, .inl fg_11))]) [1, 2] (by decide) rfl
  have hKc := hK.sub (tys' := [(cc0, .int)]) [0] rfl
  have hFc := va_free (wc := [(ro, .inr (6, [.int 4, .int 6, .ref ca, .int 1])), (ca, .inl (cc0, 24, .inl fg_11))]) hD hS hA [1, 2] rfl
  refine va_callv (va_runV (As := [.int 0, .int 3, .int nd]) (rest := []) ⟨hx, hb, hml, hown, hts⟩ (k_put_24_3 l dC dI ro ca cc0 fg_11 nd H.size) (cwV 3 hts gX0_addCause_X6_put rfl rfl rfl (by decide +kernel) ⟨Nat.le_of_ble_eq_true rfl, Nat.le_of_ble_eq_true rfl⟩) ⟨fun a U g mk q => by obtain ⟨q0, q1, qP, qK, qD⟩ := q; exact ⟨q0, q1, qP, va_K.moved (u := U) (U := U.calling g mk a) (Vm.Alike.refl U.vm) qK, qD⟩, va_recv hK hP (ci := 6) (q0 := 1) rfl rfl, fun U hU hW => ⟨rfl, by rw [hU], by rw [hU]; exact hPc, va_K.moved hW.alike hKc, hDc.weaken (fun _ _ _ _ => trivial)⟩⟩ rfl rfl hl.1 rfl (lv_room (Nat.le_of_ble_eq_true rfl)) dX0_addCause_51 ⟨Nat.le_of_ble_eq_true rfl, Nat.le_of_ble_eq_true rfl⟩) hS (fun q _ h => hFc q h) hFc (fun u_ t H1 locs ht hvm hw_13 hB hz1 hk1 hS => ?_)
  obtain ⟨fg_14, hP1, hK1, hD1⟩ := hB
  rw [ht] at hP1
  have hK1 := va_K.moved hvm.symm hK1
  obtain ⟨hP, hD⟩ := va_join (wr := [(bo, .inr (0, [vb0, vb1, vb2, .ref ro, vb4, vb5]))]) (w1 := [(ro, .inr (6, [.int 4, .int 6, .ref ca, .int 1])), (ca, .inl (cc0, 24, .inl fg_14))]) hP hD [1, 2] [0] rfl rfl (by decide) (by decide) hk1 hFc hP1 hD1
  generalize H1 = H at hP hS ⊢
  have hP : va_P (dC, dI) vwCl [(bo, .inr (0, [vb0, vb1, vb2, .ref ro, vb4, vb5])), (ro, .inr (6, [.int 4, .int 6, .ref ca, .int 1])), (ca, .inl (cc0, 24, .inl fg_14))] H := hP
  have hD : va_D A [(bo, .inr (0, [vb0, vb1, vb2, .ref ro, vb4, vb5])), (ro, .inr (6, [.int 4, .int 6, .ref ca, .int 1])), (ca, .inl (cc0, 24, .inl fg_14))] := hD
  refine lv_iload hx hb dX0_addCause_54 (lv_at hl 0 rfl) ?_
  exact W.iret (v := 0) hx hb hr (fun t ht hW => ⟨⟨0, (), rfl, rfl, trivial⟩, hS.F ht⟩) hS.2.2 dX0_addCause_56
theorem dX0_undos_0 : decode cX0_undos 0 = .ok (.aload_n 0, 1) := by decide +kernel
theorem dX0_undos_1 : decode cX0_undos 1 = .ok (.getfield 33, 3) := by decide +kernel
theorem dX0_undos_4 : decode cX0_undos 4 = .ok (.ireturn, 1) := by decide +kernel
set_option maxRecDepth 20000 in
theorem iw_k_undos_X0 : ∀ w ∈ wsX00, w ∈ wsX0_undos := by decide +kernel
set_option maxHeartbeats 4000000 in
set_option maxRecDepth 100000 in
theorem k_undos (l : Launch) (dC : Nat → ClassId) (dI : Nat → Nat → Nat) (bo : Nat) (vb0 : Value) (vb1 : Value) (vb2 : Value) (vb3 : Value) (vb4 : Value) (nz : Int32) : Met l yX0_undos wsX0_undos ({ frames := 0, cells := 0, slots := 0, locals := 0 }) (va_Pc [.ref bo] (fun U => va_P (dC, dI) vwCl [(bo, .inr (0, [vb0, vb1, vb2, vb3, vb4, .int nz]))] U.heap ∧ va_K (dC, dI) vwCl [] U)) (vp_Si (fun r => r = nz)) 0 0 (fun _ => False) := by
  refine Met.ofW (cc := cX0_undos) (maxL := 1) (ret := (some .int)) (by decide) rfl ?_
  intro p e s m args below meth c s₁ B hml hv
  obtain ⟨rfl, hP, hK⟩ := hv
  have hx := B.exec
  have hb := B.bytes
  have hr := B.returns
  have hts := atoms_spec (ws := wsX0_undos) B.pre
  have hown : s.vm.findClass RX0 = some m.cls := findClass_of_methodNamed B.named
  have hlocks := B.notSynchronized
  have hl := lv_entry ([.ref bo]) (n := 1) (Nat.le_of_ble_eq_true rfl)
  rw [lg_entry_eq]
  generalize (lg_sl ([.ref bo]) ++ List.replicate (1 - (lg_sl ([.ref bo])).length) Slot.unset).toArray = ls at hl ⊢
  have hl : lv_has ls 1 [(0, .ref bo)] := hl
  refine lv_aload_n hx hb dX0_undos_0 rfl (lv_at hl 0 rfl) ?_
  refine va_get (D := (dC, dI)) (ci := 0) (v := .int nz) (C := RX0) (T := TX0) (N := 6) hx hb hts iw_k_undos_X0 hown hK hP 0 rfl rfl 5 (by decide) (hts (.fieldLink RX0 33 "ThriceCounted$Bank" "undos" "I") (by decide +kernel)) (fun _ h9 => h9) rfl dX0_undos_1 ?_
  exact W.iret (v := nz) hx hb hr (fun t ht hW => ⟨nz, rfl, rfl, ht⟩) (fun _ h => absurd h List.not_mem_nil) dX0_undos_4
theorem dX0_restoreCounts_0 : decode cX0_restoreCounts 0 = .ok (.aload_n 0, 1) := by decide +kernel
theorem dX0_restoreCounts_1 : decode cX0_restoreCounts 1 = .ok (.getfield 33, 3) := by decide +kernel
theorem dX0_restoreCounts_4 : decode cX0_restoreCounts 4 = .ok (.ifCond .le 15, 3) := by decide +kernel
theorem dX0_restoreCounts_19 : decode cX0_restoreCounts 19 = .ok (.iconst 0, 1) := by decide +kernel
theorem dX0_restoreCounts_20 : decode cX0_restoreCounts 20 = .ok (.ireturn, 1) := by decide +kernel
set_option maxRecDepth 20000 in
theorem iw_k_restore0_X0 : ∀ w ∈ wsX00, w ∈ wsX0_restoreCounts := by decide +kernel
set_option maxHeartbeats 4000000 in
set_option maxRecDepth 100000 in
theorem k_restore0 (l : Launch) (dC : Nat → ClassId) (dI : Nat → Nat → Nat) (bo : Nat) (vb0 : Value) (vb1 : Value) (vb2 : Value) (vb3 : Value) (vb4 : Value) : Met l yX0_restoreCounts wsX0_restoreCounts ({ frames := 0, cells := 0, slots := 0, locals := 0 }) (va_Pc [.ref bo] (fun U => va_P (dC, dI) vwCl [(bo, .inr (0, [vb0, vb1, vb2, vb3, vb4, .int 0]))] U.heap ∧ va_K (dC, dI) vwCl [] U)) (vp_Si (fun r => r = 0)) 0 0 (fun _ => False) := by
  refine Met.ofW (cc := cX0_restoreCounts) (maxL := 1) (ret := (some .boolean)) (by decide) rfl ?_
  intro p e s m args below meth c s₁ B hml hv
  obtain ⟨rfl, hP, hK⟩ := hv
  have hx := B.exec
  have hb := B.bytes
  have hr := B.returns
  have hts := atoms_spec (ws := wsX0_restoreCounts) B.pre
  have hown : s.vm.findClass RX0 = some m.cls := findClass_of_methodNamed B.named
  have hlocks := B.notSynchronized
  have hl := lv_entry ([.ref bo]) (n := 1) (Nat.le_of_ble_eq_true rfl)
  rw [lg_entry_eq]
  generalize (lg_sl ([.ref bo]) ++ List.replicate (1 - (lg_sl ([.ref bo])).length) Slot.unset).toArray = ls at hl ⊢
  have hl : lv_has ls 1 [(0, .ref bo)] := hl
  refine lv_aload_n hx hb dX0_restoreCounts_0 rfl (lv_at hl 0 rfl) ?_
  refine va_get (D := (dC, dI)) (ci := 0) (v := .int 0) (C := RX0) (T := TX0) (N := 6) hx hb hts iw_k_restore0_X0 hown hK hP 0 rfl rfl 5 (by decide) (hts (.fieldLink RX0 33 "ThriceCounted$Bank" "undos" "I") (by decide +kernel)) (fun _ h9 => h9) rfl dX0_restoreCounts_1 ?_
  refine lv_if_le (tgt := 19) hx hb dX0_restoreCounts_4 (by decide) (fun c_1 => ?_) (fun c_1 => ?_)
  · refine lv_iconst (v := 0) hx hb dX0_restoreCounts_19 (by decide) ?_
    exact W.zret (v := 0) hx hb hr (by decide) (fun t ht hW => ⟨0, rfl, rfl, ht⟩) (fun _ h => absurd h List.not_mem_nil) dX0_restoreCounts_20
  · exact absurd c_1 (by decide)
set_option maxRecDepth 20000 in
theorem ggX0_empty_X6_empty : GoodIn wsX0_empty wsX6_empty := goodIn_r _ [10, 11, 18, 19, 20, 21] (by decide +kernel) (by decide +kernel)
set_option maxRecDepth 20000 in
theorem gX0_empty_X6_empty : GoodIn wsX0_empty (wsV RX0 37 RX6 yX6_empty wsX6_empty) := goodIn_app (goodIn_of _ (by decide +kernel)) ggX0_empty_X6_empty
theorem dX0_empty_0 : decode cX0_empty 0 = .ok (.aload_n 0, 1) := by decide +kernel
theorem dX0_empty_1 : decode cX0_empty 1 = .ok (.getfield 14, 3) := by decide +kernel
theorem dX0_empty_4 : decode cX0_empty 4 = .ok (.invokevirtual 37, 3) := by decide +kernel
theorem dX0_empty_7 : decode cX0_empty 7 = .ok (.aload_n 0, 1) := by decide +kernel
theorem dX0_empty_8 : decode cX0_empty 8 = .ok (.getfield 20, 3) := by decide +kernel
theorem dX0_empty_11 : decode cX0_empty 11 = .ok (.invokevirtual 37, 3) := by decide +kernel
theorem dX0_empty_14 : decode cX0_empty 14 = .ok (.aload_n 0, 1) := by decide +kernel
theorem dX0_empty_15 : decode cX0_empty 15 = .ok (.getfield 23, 3) := by decide +kernel
theorem dX0_empty_18 : decode cX0_empty 18 = .ok (.invokevirtual 37, 3) := by decide +kernel
theorem dX0_empty_21 : decode cX0_empty 21 = .ok (.aload_n 0, 1) := by decide +kernel
theorem dX0_empty_22 : decode cX0_empty 22 = .ok (.getfield 26, 3) := by decide +kernel
theorem dX0_empty_25 : decode cX0_empty 25 = .ok (.invokevirtual 37, 3) := by decide +kernel
theorem dX0_empty_28 : decode cX0_empty 28 = .ok (.aload_n 0, 1) := by decide +kernel
theorem dX0_empty_29 : decode cX0_empty 29 = .ok (.iconst 0, 1) := by decide +kernel
theorem dX0_empty_30 : decode cX0_empty 30 = .ok (.putfield 33, 3) := by decide +kernel
theorem dX0_empty_33 : decode cX0_empty 33 = .ok (.return_, 1) := by decide +kernel
set_option maxRecDepth 20000 in
theorem iw_k_bempty_X0 : ∀ w ∈ wsX00, w ∈ wsX0_empty := by decide +kernel
set_option maxHeartbeats 4000000 in
set_option maxRecDepth 100000 in
theorem k_bempty (l : Launch) (dC : Nat → ClassId) (dI : Nat → Nat → Nat) (bo : Nat) (r0 : Nat) (r1 : Nat) (r2 : Nat) (r3 : Nat) (vb4 : Value) (vb5 : Value) (wr00 : Value) (wr01 : Value) (wr02 : Value) (wr03 : Value) (wr10 : Value) (wr11 : Value) (wr12 : Value) (wr13 : Value) (wr20 : Value) (wr21 : Value) (wr22 : Value) (wr23 : Value) (wr30 : Value) (wr31 : Value) (wr32 : Value) (wr33 : Value) (sz : Nat) : Met l yX0_empty wsX0_empty ({ frames := 1, cells := 0, slots := 0, locals := 20 }) (va_Pc [.ref bo] (fun U => U.heap.size = sz ∧ va_P (dC, dI) vwCl [(bo, .inr (0, [.ref r0, .ref r1, .ref r2, .ref r3, vb4, vb5])), (r0, .inr (6, [wr00, wr01, wr02, wr03])), (r1, .inr (6, [wr10, wr11, wr12, wr13])), (r2, .inr (6, [wr20, wr21, wr22, wr23])), (r3, .inr (6, [wr30, wr31, wr32, wr33]))] U.heap ∧ va_K (dC, dI) vwCl [] U ∧ va_D (fun _ => True) [(bo, .inr (0, [.ref r0, .ref r1, .ref r2, .ref r3, vb4, vb5])), (r0, .inr (6, [wr00, wr01, wr02, wr03])), (r1, .inr (6, [wr10, wr11, wr12, wr13])), (r2, .inr (6, [wr20, wr21, wr22, wr23])), (r3, .inr (6, [wr30, wr31, wr32, wr33]))])) (va_Qv (fun (_ : Unit) => True) (fun _ _ => True) (va_A [(bo, .inr (0, [.ref r0, .ref r1, .ref r2, .ref r3, vb4, vb5])), (r0, .inr (6, [wr00, wr01, wr02, wr03])), (r1, .inr (6, [wr10, wr11, wr12, wr13])), (r2, .inr (6, [wr20, wr21, wr22, wr23])), (r3, .inr (6, [wr30, wr31, wr32, wr33]))] sz)) 0 0 (va_A [(bo, .inr (0, [.ref r0, .ref r1, .ref r2, .ref r3, vb4, vb5])), (r0, .inr (6, [wr00, wr01, wr02, wr03])), (r1, .inr (6, [wr10, wr11, wr12, wr13])), (r2, .inr (6, [wr20, wr21, wr22, wr23])), (r3, .inr (6, [wr30, wr31, wr32, wr33]))] sz) := by
  refine Met.ofW (cc := cX0_empty) (maxL := 1) (ret := none) (by decide) rfl ?_
  intro p e s m args below meth c s₁ B hml hv
  obtain ⟨rfl, hsz, hP, hK, hD0⟩ := hv
  have hx := B.exec
  have hb := B.bytes
  have hr := B.returns
  have hts := atoms_spec (ws := wsX0_empty) B.pre
  have hown : s.vm.findClass RX0 = some m.cls := findClass_of_methodNamed B.named
  have hlocks := B.notSynchronized
  subst hsz
  have hD := hD0.self (sz := s.heap.size)
  generalize hAe : va_A [(bo, .inr (0, [.ref r0, .ref r1, .ref r2, .ref r3, vb4, vb5])), (r0, .inr (6, [wr00, wr01, wr02, wr03])), (r1, .inr (6, [wr10, wr11, wr12, wr13])), (r2, .inr (6, [wr20, wr21, wr22, wr23])), (r3, .inr (6, [wr30, wr31, wr32, wr33]))] s.heap.size = A at hD ⊢
  have hA : ∀ q : Nat, s.heap.size ≤ q → A q := fun q h => by rw [← hAe]; exact Or.inr h
  have hS : va_S A s.heap s.heap [] := va_S.rf
  have hP : va_P (dC, dI) vwCl [(bo, .inr (0, [.ref r0, .ref r1, .ref r2, .ref r3, vb4, vb5])), (r0, .inr (6, [wr00, wr01, wr02, wr03])), (r1, .inr (6, [wr10, wr11, wr12, wr13])), (r2, .inr (6, [wr20, wr21, wr22, wr23])), (r3, .inr (6, [wr30, wr31, wr32, wr33]))] s.heap := hP
  have hl := lv_entry ([.ref bo]) (n := 1) (Nat.le_of_ble_eq_true rfl)
  rw [lg_entry_eq]
  generalize (lg_sl ([.ref bo]) ++ List.replicate (1 - (lg_sl ([.ref bo])).length) Slot.unset).toArray = ls at hl ⊢
  have hl : lv_has ls 1 [(0, .ref bo)] := hl
  refine lv_aload_n hx hb dX0_empty_0 rfl (lv_at hl 0 rfl) ?_
  refine va_get (D := (dC, dI)) (ci := 0) (v := .ref r0) (C := RX0) (T := TX0) (N := 6) hx hb hts iw_k_bempty_X0 hown hK hP 0 rfl rfl 0 (by decide) (hts (.fieldLink RX0 14 "ThriceCounted$Bank" "clerks" "LThriceCounted$Rows;") (by decide +kernel)) (fun _ h9 => h9) rfl dX0_empty_1 ?_
  have hPc := hP.sub (ws' := [(r0, .inr (6, [wr00, wr01, wr02, wr03]))]) [1] rfl
  have hDc := hD.sub (ws' := [(r0, .inr (6, [wr00, wr01, wr02, wr03]))]) [1] (by decide) rfl
  have hKc := hK.sub (tys' := []) [] rfl
  have hFc := va_free (wc := [(r0, .inr (6, [wr00, wr01, wr02, wr03]))]) hD hS hA [1] rfl
  refine va_callv (va_runV (As := []) (rest := []) ⟨hx, hb, hml, hown, hts⟩ (k_empty l dC dI r0 wr00 wr01 wr02 wr03 s.heap.size) (cwV 0 hts gX0_empty_X6_empty rfl rfl rfl (by decide +kernel) ⟨Nat.le_of_ble_eq_true rfl, Nat.le_of_ble_eq_true rfl⟩) ⟨fun a U g mk q => by obtain ⟨q0, q1, qP, qK, qD⟩ := q; exact ⟨q0, q1, qP, va_K.moved (u := U) (U := U.calling g mk a) (Vm.Alike.refl U.vm) qK, qD⟩, va_recv hK hP (ci := 6) (q0 := 1) rfl rfl, fun U hU hW => ⟨rfl, by rw [hU], by rw [hU]; exact hPc, va_K.moved hW.alike hKc, hDc.weaken (fun _ _ _ _ => trivial)⟩⟩ rfl rfl hl.1 rfl (lv_room (Nat.le_of_ble_eq_true rfl)) dX0_empty_4 ⟨Nat.le_of_ble_eq_true rfl, Nat.le_of_ble_eq_true rfl⟩) hS (fun q _ h => hFc q h) hFc (fun u_ t H1 locs ht hvm hw_2 hB hz1 hk1 hS => ?_)
  obtain ⟨hP, hD⟩ := va_join (wr := [(bo, .inr (0, [.ref r0, .ref r1, .ref r2, .ref r3, vb4, vb5])), (r1, .inr (6, [wr10, wr11, wr12, wr13])), (r2, .inr (6, [wr20, wr21, wr22, wr23])), (r3, .inr (6, [wr30, wr31, wr32, wr33]))]) (w1 := []) hP hD [1] [0, 2, 3, 4] rfl rfl (by decide) (by decide) hk1 hFc tz_P0 tz_D0
  generalize H1 = H at hP hS ⊢
  have hP : va_P (dC, dI) vwCl [(bo, .inr (0, [.ref r0, .ref r1, .ref r2, .ref r3, vb4, vb5])), (r1, .inr (6, [wr10, wr11, wr12, wr13])), (r2, .inr (6, [wr20, wr21, wr22, wr23])), (r3, .inr (6, [wr30, wr31, wr32, wr33]))] H := hP
  have hD : va_D A [(bo, .inr (0, [.ref r0, .ref r1, .ref r2, .ref r3, vb4, vb5])), (r1, .inr (6, [wr10, wr11, wr12, wr13])), (r2, .inr (6, [wr20, wr21, wr22, wr23])), (r3, .inr (6, [wr30, wr31, wr32, wr33]))] := hD
  refine lv_aload_n hx hb dX0_empty_7 rfl (lv_at hl 0 rfl) ?_
  refine va_get (D := (dC, dI)) (ci := 0) (v := .ref r1) (C := RX0) (T := TX0) (N := 6) hx hb hts iw_k_bempty_X0 hown hK hP 0 rfl rfl 1 (by decide) (hts (.fieldLink RX0 20 "ThriceCounted$Bank" "bundles" "LThriceCounted$Rows;") (by decide +kernel)) (fun _ h9 => h9) rfl dX0_empty_8 ?_
  have hPc := hP.sub (ws' := [(r1, .inr (6, [wr10, wr11, wr12, wr13]))]) [1] rfl
  have hDc := hD.sub (ws' := [(r1, .inr (6, [wr10, wr11, wr12, wr13]))]) [1] (by decide) rfl
  have hKc := hK.sub (tys' := []) [] rfl
  have hFc := va_free (wc := [(r1, .inr (6, [wr10, wr11, wr12, wr13]))]) hD hS hA [1] rfl
  refine va_callv (va_runV (As := []) (rest := []) ⟨hx, hb, hml, hown, hts⟩ (k_empty l dC dI r1 wr10 wr11 wr12 wr13 H.size) (cwV 0 hts gX0_empty_X6_empty rfl rfl rfl (by decide +kernel) ⟨Nat.le_of_ble_eq_true rfl, Nat.le_of_ble_eq_true rfl⟩) ⟨fun a U g mk q => by obtain ⟨q0, q1, qP, qK, qD⟩ := q; exact ⟨q0, q1, qP, va_K.moved (u := U) (U := U.calling g mk a) (Vm.Alike.refl U.vm) qK, qD⟩, va_recv hK hP (ci := 6) (q0 := 1) rfl rfl, fun U hU hW => ⟨rfl, by rw [hU], by rw [hU]; exact hPc, va_K.moved hW.alike hKc, hDc.weaken (fun _ _ _ _ => trivial)⟩⟩ rfl rfl hl.1 rfl (lv_room (Nat.le_of_ble_eq_true rfl)) dX0_empty_11 ⟨Nat.le_of_ble_eq_true rfl, Nat.le_of_ble_eq_true rfl⟩) hS (fun q _ h => hFc q h) hFc (fun u_ t H1 locs ht hvm hw_4 hB hz1 hk1 hS => ?_)
  obtain ⟨hP, hD⟩ := va_join (wr := [(bo, .inr (0, [.ref r0, .ref r1, .ref r2, .ref r3, vb4, vb5])), (r2, .inr (6, [wr20, wr21, wr22, wr23])), (r3, .inr (6, [wr30, wr31, wr32, wr33]))]) (w1 := []) hP hD [1] [0, 2, 3] rfl rfl (by decide) (by decide) hk1 hFc tz_P0 tz_D0
  generalize H1 = H at hP hS ⊢
  have hP : va_P (dC, dI) vwCl [(bo, .inr (0, [.ref r0, .ref r1, .ref r2, .ref r3, vb4, vb5])), (r2, .inr (6, [wr20, wr21, wr22, wr23])), (r3, .inr (6, [wr30, wr31, wr32, wr33]))] H := hP
  have hD : va_D A [(bo, .inr (0, [.ref r0, .ref r1, .ref r2, .ref r3, vb4, vb5])), (r2, .inr (6, [wr20, wr21, wr22, wr23])), (r3, .inr (6, [wr30, wr31, wr32, wr33]))] := hD
  refine lv_aload_n hx hb dX0_empty_14 rfl (lv_at hl 0 rfl) ?_
  refine va_get (D := (dC, dI)) (ci := 0) (v := .ref r2) (C := RX0) (T := TX0) (N := 6) hx hb hts iw_k_bempty_X0 hown hK hP 0 rfl rfl 2 (by decide) (hts (.fieldLink RX0 23 "ThriceCounted$Bank" "counts" "LThriceCounted$Rows;") (by decide +kernel)) (fun _ h9 => h9) rfl dX0_empty_15 ?_
  have hPc := hP.sub (ws' := [(r2, .inr (6, [wr20, wr21, wr22, wr23]))]) [1] rfl
  have hDc := hD.sub (ws' := [(r2, .inr (6, [wr20, wr21, wr22, wr23]))]) [1] (by decide) rfl
  have hKc := hK.sub (tys' := []) [] rfl
  have hFc := va_free (wc := [(r2, .inr (6, [wr20, wr21, wr22, wr23]))]) hD hS hA [1] rfl
  refine va_callv (va_runV (As := []) (rest := []) ⟨hx, hb, hml, hown, hts⟩ (k_empty l dC dI r2 wr20 wr21 wr22 wr23 H.size) (cwV 0 hts gX0_empty_X6_empty rfl rfl rfl (by decide +kernel) ⟨Nat.le_of_ble_eq_true rfl, Nat.le_of_ble_eq_true rfl⟩) ⟨fun a U g mk q => by obtain ⟨q0, q1, qP, qK, qD⟩ := q; exact ⟨q0, q1, qP, va_K.moved (u := U) (U := U.calling g mk a) (Vm.Alike.refl U.vm) qK, qD⟩, va_recv hK hP (ci := 6) (q0 := 1) rfl rfl, fun U hU hW => ⟨rfl, by rw [hU], by rw [hU]; exact hPc, va_K.moved hW.alike hKc, hDc.weaken (fun _ _ _ _ => trivial)⟩⟩ rfl rfl hl.1 rfl (lv_room (Nat.le_of_ble_eq_true rfl)) dX0_empty_18 ⟨Nat.le_of_ble_eq_true rfl, Nat.le_of_ble_eq_true rfl⟩) hS (fun q _ h => hFc q h) hFc (fun u_ t H1 locs ht hvm hw_6 hB hz1 hk1 hS => ?_)
  obtain ⟨hP, hD⟩ := va_join (wr := [(bo, .inr (0, [.ref r0, .ref r1, .ref r2, .ref r3, vb4, vb5])), (r3, .inr (6, [wr30, wr31, wr32, wr33]))]) (w1 := []) hP hD [1] [0, 2] rfl rfl (by decide) (by decide) hk1 hFc tz_P0 tz_D0
  generalize H1 = H at hP hS ⊢
  have hP : va_P (dC, dI) vwCl [(bo, .inr (0, [.ref r0, .ref r1, .ref r2, .ref r3, vb4, vb5])), (r3, .inr (6, [wr30, wr31, wr32, wr33]))] H := hP
  have hD : va_D A [(bo, .inr (0, [.ref r0, .ref r1, .ref r2, .ref r3, vb4, vb5])), (r3, .inr (6, [wr30, wr31, wr32, wr33]))] := hD
  refine lv_aload_n hx hb dX0_empty_21 rfl (lv_at hl 0 rfl) ?_
  refine va_get (D := (dC, dI)) (ci := 0) (v := .ref r3) (C := RX0) (T := TX0) (N := 6) hx hb hts iw_k_bempty_X0 hown hK hP 0 rfl rfl 3 (by decide) (hts (.fieldLink RX0 26 "ThriceCounted$Bank" "causes" "LThriceCounted$Rows;") (by decide +kernel)) (fun _ h9 => h9) rfl dX0_empty_22 ?_
  have hPc := hP.sub (ws' := [(r3, .inr (6, [wr30, wr31, wr32, wr33]))]) [1] rfl
  have hDc := hD.sub (ws' := [(r3, .inr (6, [wr30, wr31, wr32, wr33]))]) [1] (by decide) rfl
  have hKc := hK.sub (tys' := []) [] rfl
  have hFc := va_free (wc := [(r3, .inr (6, [wr30, wr31, wr32, wr33]))]) hD hS hA [1] rfl
  refine va_callv (va_runV (As := []) (rest := []) ⟨hx, hb, hml, hown, hts⟩ (k_empty l dC dI r3 wr30 wr31 wr32 wr33 H.size) (cwV 0 hts gX0_empty_X6_empty rfl rfl rfl (by decide +kernel) ⟨Nat.le_of_ble_eq_true rfl, Nat.le_of_ble_eq_true rfl⟩) ⟨fun a U g mk q => by obtain ⟨q0, q1, qP, qK, qD⟩ := q; exact ⟨q0, q1, qP, va_K.moved (u := U) (U := U.calling g mk a) (Vm.Alike.refl U.vm) qK, qD⟩, va_recv hK hP (ci := 6) (q0 := 1) rfl rfl, fun U hU hW => ⟨rfl, by rw [hU], by rw [hU]; exact hPc, va_K.moved hW.alike hKc, hDc.weaken (fun _ _ _ _ => trivial)⟩⟩ rfl rfl hl.1 rfl (lv_room (Nat.le_of_ble_eq_true rfl)) dX0_empty_25 ⟨Nat.le_of_ble_eq_true rfl, Nat.le_of_ble_eq_true rfl⟩) hS (fun q _ h => hFc q h) hFc (fun u_ t H1 locs ht hvm hw_8 hB hz1 hk1 hS => ?_)
  obtain ⟨hP, hD⟩ := va_join (wr := [(bo, .inr (0, [.ref r0, .ref r1, .ref r2, .ref r3, vb4, vb5]))]) (w1 := []) hP hD [1] [0] rfl rfl (by decide) (by decide) hk1 hFc tz_P0 tz_D0
  generalize H1 = H at hP hS ⊢
  have hP : va_P (dC, dI) vwCl [(bo, .inr (0, [.ref r0, .ref r1, .ref r2, .ref r3, vb4, vb5]))] H := hP
  have hD : va_D A [(bo, .inr (0, [.ref r0, .ref r1, .ref r2, .ref r3, vb4, vb5]))] := hD
  refine lv_aload_n hx hb dX0_empty_28 rfl (lv_at hl 0 rfl) ?_
  refine lv_iconst (v := 0) hx hb dX0_empty_29 (by decide) ?_
  refine va_put (D := (dC, dI)) (ci := 0) (v := .int 0) (ty := .int) (C := RX0) (T := TX0) (N := 6) hx hb hts iw_k_bempty_X0 tyX0 tyX0_ok nmX0 hown hK hP hD hS 0 rfl rfl 5 (by decide) (hts (.fieldLink RX0 33 "ThriceCounted$Bank" "undos" "I") (by decide +kernel)) (fun _ h9 => h9) rfl (by decide +kernel) rfl rfl (Nat.le_of_ble_eq_true rfl) dX0_empty_30 (fun H locs hP hD hS => ?_)
  have hP : va_P (dC, dI) vwCl [(bo, .inr (0, [.ref r0, .ref r1, .ref r2, .ref r3, vb4, .int 0]))] H := hP
  have hD : va_D A [(bo, .inr (0, [.ref r0, .ref r1, .ref r2, .ref r3, vb4, .int 0]))] := hD
  exact W.vret hx hb hr (fun t ht hW => ⟨⟨(), rfl, trivial, trivial⟩, hS.F ht⟩) hS.2.2 dX0_empty_33
theorem dX6_copyFrom_0 : decode cX6_copyFrom 0 = .ok (.aload_n 0, 1) := by decide +kernel
theorem dX6_copyFrom_1 : decode cX6_copyFrom 1 = .ok (.aload_n 0, 1) := by decide +kernel
theorem dX6_copyFrom_2 : decode cX6_copyFrom 2 = .ok (.getfield 21, 3) := by decide +kernel
theorem dX6_copyFrom_5 : decode cX6_copyFrom 5 = .ok (.aload_n 1, 1) := by decide +kernel
theorem dX6_copyFrom_6 : decode cX6_copyFrom 6 = .ok (.getfield 9, 3) := by decide +kernel
theorem dX6_copyFrom_9 : decode cX6_copyFrom 9 = .ok (.invokestatic 50, 3) := by decide +kernel
theorem dX6_copyFrom_12 : decode cX6_copyFrom 12 = .ok (.putfield 9, 3) := by decide +kernel
theorem dX6_copyFrom_15 : decode cX6_copyFrom 15 = .ok (.aload_n 1, 1) := by decide +kernel
theorem dX6_copyFrom_16 : decode cX6_copyFrom 16 = .ok (.getfield 27, 3) := by decide +kernel
theorem dX6_copyFrom_19 : decode cX6_copyFrom 19 = .ok (.iconst 0, 1) := by decide +kernel
theorem dX6_copyFrom_20 : decode cX6_copyFrom 20 = .ok (.aload_n 0, 1) := by decide +kernel
theorem dX6_copyFrom_21 : decode cX6_copyFrom 21 = .ok (.getfield 27, 3) := by decide +kernel
theorem dX6_copyFrom_24 : decode cX6_copyFrom 24 = .ok (.iconst 0, 1) := by decide +kernel
theorem dX6_copyFrom_25 : decode cX6_copyFrom 25 = .ok (.aload_n 0, 1) := by decide +kernel
theorem dX6_copyFrom_26 : decode cX6_copyFrom 26 = .ok (.getfield 27, 3) := by decide +kernel
theorem dX6_copyFrom_29 : decode cX6_copyFrom 29 = .ok (.arraylength, 1) := by decide +kernel
theorem dX6_copyFrom_30 : decode cX6_copyFrom 30 = .ok (.aload_n 1, 1) := by decide +kernel
theorem dX6_copyFrom_31 : decode cX6_copyFrom 31 = .ok (.getfield 27, 3) := by decide +kernel
theorem dX6_copyFrom_34 : decode cX6_copyFrom 34 = .ok (.arraylength, 1) := by decide +kernel
theorem dX6_copyFrom_35 : decode cX6_copyFrom 35 = .ok (.invokestatic 50, 3) := by decide +kernel
theorem dX6_copyFrom_38 : decode cX6_copyFrom 38 = .ok (.invokestatic 53, 3) := by decide +kernel
theorem dX6_copyFrom_41 : decode cX6_copyFrom 41 = .ok (.return_, 1) := by decide +kernel
set_option maxRecDepth 20000 in
theorem iw_k_rcopy_5_X6 : ∀ w ∈ wsX60, w ∈ wsX6_copyFrom := by decide +kernel
set_option maxHeartbeats 4000000 in
set_option maxRecDepth 100000 in
theorem k_rcopy_5 (l : Launch) (dC : Nat → ClassId) (dI : Nat → Nat → Nat) (ro : Nat) (w0 : Value) (ca : Nat) (w3 : Value) (rp : Nat) (wp0 : Value) (wp1 : Value) (cb : Nat) (cc0 : ClassId) (fa : Nat → Int32) (cc1 : ClassId) (fb : Nat → Int32) (sz : Nat) : Met l yX6_copyFrom wsX6_copyFrom ({ frames := 1, cells := 0, slots := 0, locals := 40 }) (va_Pc [.ref ro, .ref rp] (fun U => U.heap.size = sz ∧ va_P (dC, dI) vwCl [(ro, .inr (6, [w0, .int 5, .ref ca, w3])), (rp, .inr (6, [wp0, wp1, .ref cb, .int 0])), (ca, .inl (cc0, 5, .inl fa)), (cb, .inl (cc1, 5, .inl fb))] U.heap ∧ va_K (dC, dI) vwCl [(cc0, .int), (cc1, .int)] U ∧ va_D (fun _ => True) [(ro, .inr (6, [w0, .int 5, .ref ca, w3])), (rp, .inr (6, [wp0, wp1, .ref cb, .int 0])), (ca, .inl (cc0, 5, .inl fa)), (cb, .inl (cc1, 5, .inl fb))])) (va_Qv (fun (_ : Unit) => True) (fun _ _ => True) (va_A [(ro, .inr (6, [w0, .int 5, .ref ca, w3])), (rp, .inr (6, [wp0, wp1, .ref cb, .int 0])), (ca, .inl (cc0, 5, .inl fa)), (cb, .inl (cc1, 5, .inl fb))] sz)) 0 0 (va_A [(ro, .inr (6, [w0, .int 5, .ref ca, w3])), (rp, .inr (6, [wp0, wp1, .ref cb, .int 0])), (ca, .inl (cc0, 5, .inl fa)), (cb, .inl (cc1, 5, .inl fb))] sz) := by
  refine Met.ofW (cc := cX6_copyFrom) (maxL := 2) (ret := none) (by decide) rfl ?_
  intro p e s m args below meth c s₁ B hml hv
  obtain ⟨rfl, hsz, hP, hK, hD0⟩ := hv
  have hx := B.exec
  have hb := B.bytes
  have hr := B.returns
  have hts := atoms_spec (ws := wsX6_copyFrom) B.pre
  have hown : s.vm.findClass RX6 = some m.cls := findClass_of_methodNamed B.named
  have hlocks := B.notSynchronized
  subst hsz
  have hD := hD0.self (sz := s.heap.size)
  generalize hAe : va_A [(ro, .inr (6, [w0, .int 5, .ref ca, w3])), (rp, .inr (6, [wp0, wp1, .ref cb, .int 0])), (ca, .inl (cc0, 5, .inl fa)), (cb, .inl (cc1, 5, .inl fb))] s.heap.size = A at hD ⊢
  have hA : ∀ q : Nat, s.heap.size ≤ q → A q := fun q h => by rw [← hAe]; exact Or.inr h
  have hS : va_S A s.heap s.heap [] := va_S.rf
  have hP : va_P (dC, dI) vwCl [(ro, .inr (6, [w0, .int 5, .ref ca, w3])), (rp, .inr (6, [wp0, wp1, .ref cb, .int 0])), (ca, .inl (cc0, 5, .inl fa)), (cb, .inl (cc1, 5, .inl fb))] s.heap := hP
  have hl := lv_entry ([.ref ro, .ref rp]) (n := 2) (Nat.le_of_ble_eq_true rfl)
  rw [lg_entry_eq]
  generalize (lg_sl ([.ref ro, .ref rp]) ++ List.replicate (2 - (lg_sl ([.ref ro, .ref rp])).length) Slot.unset).toArray = ls at hl ⊢
  have hl : lv_has ls 2 [(0, .ref ro), (1, .ref rp)] := hl
  refine lv_aload_n hx hb dX6_copyFrom_0 rfl (lv_at hl 0 rfl) ?_
  refine lv_aload_n hx hb dX6_copyFrom_1 rfl (lv_at hl 0 rfl) ?_
  refine va_get (D := (dC, dI)) (ci := 6) (v := .int 5) (C := RX6) (T := TX6) (N := 4) hx hb hts iw_k_rcopy_5_X6 hown hK hP 0 rfl rfl 1 (by decide) (hts (.fieldLink RX6 21 "ThriceCounted$Rows" "limit" "I") (by decide +kernel)) (fun _ h9 => h9) rfl dX6_copyFrom_2 ?_
  refine lv_aload_n hx hb dX6_copyFrom_5 rfl (lv_at hl 1 rfl) ?_
  refine va_get (D := (dC, dI)) (ci := 6) (v := .int 0) (C := RX6) (T := TX6) (N := 4) hx hb hts iw_k_rcopy_5_X6 hown hK hP 1 rfl rfl 3 (by decide) (hts (.fieldLink RX6 9 "ThriceCounted$Rows" "size" "I") (by decide +kernel)) (fun _ h9 => h9) rfl dX6_copyFrom_6 ?_
  refine va_mmin hx hb (hml.trans hl.1.symm) hown (hts (.methodLink RX6 50 Lib.Math.min.name) (by decide +kernel)) (hts (.static Lib.Math.min.name) (by decide +kernel)) (hts (.initialized "java/lang/Math") (by decide +kernel)) (hts (.code Lib.Math.min.name Lib.Math.min.code 2 (some .int)) (by decide +kernel)) (Nat.le_of_ble_eq_true rfl) (Nat.le_of_ble_eq_true rfl) (Nat.le_of_ble_eq_true rfl) (Nat.le_of_ble_eq_true rfl) dX6_copyFrom_9 ?_
  refine tz_i 0 (by decide) ?_
  refine va_put (D := (dC, dI)) (ci := 6) (v := .int 0) (ty := .int) (C := RX6) (T := TX6) (N := 4) hx hb hts iw_k_rcopy_5_X6 tyX6 tyX6_ok nmX6 hown hK hP hD hS 0 rfl rfl 3 (by decide) (hts (.fieldLink RX6 9 "ThriceCounted$Rows" "size" "I") (by decide +kernel)) (fun _ h9 => h9) rfl (by decide +kernel) rfl rfl (Nat.le_of_ble_eq_true rfl) dX6_copyFrom_12 (fun H locs hP hD hS => ?_)
  have hP : va_P (dC, dI) vwCl [(ro, .inr (6, [w0, .int 5, .ref ca, .int 0])), (rp, .inr (6, [wp0, wp1, .ref cb, .int 0])), (ca, .inl (cc0, 5, .inl fa)), (cb, .inl (cc1, 5, .inl fb))] H := hP
  have hD : va_D A [(ro, .inr (6, [w0, .int 5, .ref ca, .int 0])), (rp, .inr (6, [wp0, wp1, .ref cb, .int 0])), (ca, .inl (cc0, 5, .inl fa)), (cb, .inl (cc1, 5, .inl fb))] := hD
  refine lv_aload_n hx hb dX6_copyFrom_15 rfl (lv_at hl 1 rfl) ?_
  refine va_get (D := (dC, dI)) (ci := 6) (v := .ref cb) (C := RX6) (T := TX6) (N := 4) hx hb hts iw_k_rcopy_5_X6 hown hK hP 1 rfl rfl 2 (by decide) (hts (.fieldLink RX6 27 "ThriceCounted$Rows" "cells" "[I") (by decide +kernel)) (fun _ h9 => h9) rfl dX6_copyFrom_16 ?_
  refine lv_iconst (v := 0) hx hb dX6_copyFrom_19 (by decide) ?_
  refine lv_aload_n hx hb dX6_copyFrom_20 rfl (lv_at hl 0 rfl) ?_
  refine va_get (D := (dC, dI)) (ci := 6) (v := .ref ca) (C := RX6) (T := TX6) (N := 4) hx hb hts iw_k_rcopy_5_X6 hown hK hP 0 rfl rfl 2 (by decide) (hts (.fieldLink RX6 27 "ThriceCounted$Rows" "cells" "[I") (by decide +kernel)) (fun _ h9 => h9) rfl dX6_copyFrom_21 ?_
  refine lv_iconst (v := 0) hx hb dX6_copyFrom_24 (by decide) ?_
  refine lv_aload_n hx hb dX6_copyFrom_25 rfl (lv_at hl 0 rfl) ?_
  refine va_get (D := (dC, dI)) (ci := 6) (v := .ref ca) (C := RX6) (T := TX6) (N := 4) hx hb hts iw_k_rcopy_5_X6 hown hK hP 0 rfl rfl 2 (by decide) (hts (.fieldLink RX6 27 "ThriceCounted$Rows" "cells" "[I") (by decide +kernel)) (fun _ h9 => h9) rfl dX6_copyFrom_26 ?_
  refine va_alen (v := 5) hx hb hK hP 2 0 rfl rfl rfl dX6_copyFrom_29 ?_
  refine lv_aload_n hx hb dX6_copyFrom_30 rfl (lv_at hl 1 rfl) ?_
  refine va_get (D := (dC, dI)) (ci := 6) (v := .ref cb) (C := RX6) (T := TX6) (N := 4) hx hb hts iw_k_rcopy_5_X6 hown hK hP 1 rfl rfl 2 (by decide) (hts (.fieldLink RX6 27 "ThriceCounted$Rows" "cells" "[I") (by decide +kernel)) (fun _ h9 => h9) rfl dX6_copyFrom_31 ?_
  refine va_alen (v := 5) hx hb hK hP 3 1 rfl rfl rfl dX6_copyFrom_34 ?_
  refine va_mmin hx hb (hml.trans hl.1.symm) hown (hts (.methodLink RX6 50 Lib.Math.min.name) (by decide +kernel)) (hts (.static Lib.Math.min.name) (by decide +kernel)) (hts (.initialized "java/lang/Math") (by decide +kernel)) (hts (.code Lib.Math.min.name Lib.Math.min.code 2 (some .int)) (by decide +kernel)) (Nat.le_of_ble_eq_true rfl) (Nat.le_of_ble_eq_true rfl) (Nat.le_of_ble_eq_true rfl) (Nat.le_of_ble_eq_true rfl) dX6_copyFrom_35 ?_
  refine tz_i 5 (by decide) ?_
  refine va_copyi (ty := .int) hx hb (hml.trans hl.1.symm) hown (hts (.methodLink RX6 53 arraycopyName) (by decide +kernel)) (hts (.native arraycopyName) (by decide +kernel)) (hts (.static arraycopyName) (by decide +kernel)) (hts (.initialized "java/lang/System") (by decide +kernel)) hK hP hD hS 3 2 1 0 rfl rfl rfl rfl rfl (by decide) (by decide) (by decide) (by decide) (by decide) (fun _ _ => rfl) (Nat.le_of_ble_eq_true rfl) (Nat.le_of_ble_eq_true rfl) dX6_copyFrom_38 (fun H locs hP hD hS => ?_)
  generalize (va_cpy _ _ _ _ _) = f_1 at hP hD
  have hP : va_P (dC, dI) vwCl [(ro, .inr (6, [w0, .int 5, .ref ca, .int 0])), (rp, .inr (6, [wp0, wp1, .ref cb, .int 0])), (ca, .inl (cc0, 5, .inl f_1)), (cb, .inl (cc1, 5, .inl fb))] H := hP
  have hD : va_D A [(ro, .inr (6, [w0, .int 5, .ref ca, .int 0])), (rp, .inr (6, [wp0, wp1, .ref cb, .int 0])), (ca, .inl (cc0, 5, .inl f_1)), (cb, .inl (cc1, 5, .inl fb))] := hD
  exact W.vret hx hb hr (fun t ht hW => ⟨⟨(), rfl, trivial, trivial⟩, hS.F ht⟩) hS.2.2 dX6_copyFrom_41
set_option maxRecDepth 20000 in
theorem iw_k_rcopy_20_X6 : ∀ w ∈ wsX60, w ∈ wsX6_copyFrom := by decide +kernel
set_option maxHeartbeats 4000000 in
set_option maxRecDepth 100000 in
theorem k_rcopy_20 (l : Launch) (dC : Nat → ClassId) (dI : Nat → Nat → Nat) (ro : Nat) (w0 : Value) (ca : Nat) (w3 : Value) (rp : Nat) (wp0 : Value) (wp1 : Value) (cb : Nat) (cc0 : ClassId) (fa : Nat → Int32) (cc1 : ClassId) (fb : Nat → Int32) (sz : Nat) : Met l yX6_copyFrom wsX6_copyFrom ({ frames := 1, cells := 0, slots := 0, locals := 40 }) (va_Pc [.ref ro, .ref rp] (fun U => U.heap.size = sz ∧ va_P (dC, dI) vwCl [(ro, .inr (6, [w0, .int 5, .ref ca, w3])), (rp, .inr (6, [wp0, wp1, .ref cb, .int 0])), (ca, .inl (cc0, 20, .inl fa)), (cb, .inl (cc1, 20, .inl fb))] U.heap ∧ va_K (dC, dI) vwCl [(cc0, .int), (cc1, .int)] U ∧ va_D (fun _ => True) [(ro, .inr (6, [w0, .int 5, .ref ca, w3])), (rp, .inr (6, [wp0, wp1, .ref cb, .int 0])), (ca, .inl (cc0, 20, .inl fa)), (cb, .inl (cc1, 20, .inl fb))])) (va_Qv (fun (_ : Unit) => True) (fun _ _ => True) (va_A [(ro, .inr (6, [w0, .int 5, .ref ca, w3])), (rp, .inr (6, [wp0, wp1, .ref cb, .int 0])), (ca, .inl (cc0, 20, .inl fa)), (cb, .inl (cc1, 20, .inl fb))] sz)) 0 0 (va_A [(ro, .inr (6, [w0, .int 5, .ref ca, w3])), (rp, .inr (6, [wp0, wp1, .ref cb, .int 0])), (ca, .inl (cc0, 20, .inl fa)), (cb, .inl (cc1, 20, .inl fb))] sz) := by
  refine Met.ofW (cc := cX6_copyFrom) (maxL := 2) (ret := none) (by decide) rfl ?_
  intro p e s m args below meth c s₁ B hml hv
  obtain ⟨rfl, hsz, hP, hK, hD0⟩ := hv
  have hx := B.exec
  have hb := B.bytes
  have hr := B.returns
  have hts := atoms_spec (ws := wsX6_copyFrom) B.pre
  have hown : s.vm.findClass RX6 = some m.cls := findClass_of_methodNamed B.named
  have hlocks := B.notSynchronized
  subst hsz
  have hD := hD0.self (sz := s.heap.size)
  generalize hAe : va_A [(ro, .inr (6, [w0, .int 5, .ref ca, w3])), (rp, .inr (6, [wp0, wp1, .ref cb, .int 0])), (ca, .inl (cc0, 20, .inl fa)), (cb, .inl (cc1, 20, .inl fb))] s.heap.size = A at hD ⊢
  have hA : ∀ q : Nat, s.heap.size ≤ q → A q := fun q h => by rw [← hAe]; exact Or.inr h
  have hS : va_S A s.heap s.heap [] := va_S.rf
  have hP : va_P (dC, dI) vwCl [(ro, .inr (6, [w0, .int 5, .ref ca, w3])), (rp, .inr (6, [wp0, wp1, .ref cb, .int 0])), (ca, .inl (cc0, 20, .inl fa)), (cb, .inl (cc1, 20, .inl fb))] s.heap := hP
  have hl := lv_entry ([.ref ro, .ref rp]) (n := 2) (Nat.le_of_ble_eq_true rfl)
  rw [lg_entry_eq]
  generalize (lg_sl ([.ref ro, .ref rp]) ++ List.replicate (2 - (lg_sl ([.ref ro, .ref rp])).length) Slot.unset).toArray = ls at hl ⊢
  have hl : lv_has ls 2 [(0, .ref ro), (1, .ref rp)] := hl
  refine lv_aload_n hx hb dX6_copyFrom_0 rfl (lv_at hl 0 rfl) ?_
  refine lv_aload_n hx hb dX6_copyFrom_1 rfl (lv_at hl 0 rfl) ?_
  refine va_get (D := (dC, dI)) (ci := 6) (v := .int 5) (C := RX6) (T := TX6) (N := 4) hx hb hts iw_k_rcopy_20_X6 hown hK hP 0 rfl rfl 1 (by decide) (hts (.fieldLink RX6 21 "ThriceCounted$Rows" "limit" "I") (by decide +kernel)) (fun _ h9 => h9) rfl dX6_copyFrom_2 ?_
  refine lv_aload_n hx hb dX6_copyFrom_5 rfl (lv_at hl 1 rfl) ?_
  refine va_get (D := (dC, dI)) (ci := 6) (v := .int 0) (C := RX6) (T := TX6) (N := 4) hx hb hts iw_k_rcopy_20_X6 hown hK hP 1 rfl rfl 3 (by decide) (hts (.fieldLink RX6 9 "ThriceCounted$Rows" "size" "I") (by decide +kernel)) (fun _ h9 => h9) rfl dX6_copyFrom_6 ?_
  refine va_mmin hx hb (hml.trans hl.1.symm) hown (hts (.methodLink RX6 50 Lib.Math.min.name) (by decide +kernel)) (hts (.static Lib.Math.min.name) (by decide +kernel)) (hts (.initialized "java/lang/Math") (by decide +kernel)) (hts (.code Lib.Math.min.name Lib.Math.min.code 2 (some .int)) (by decide +kernel)) (Nat.le_of_ble_eq_true rfl) (Nat.le_of_ble_eq_true rfl) (Nat.le_of_ble_eq_true rfl) (Nat.le_of_ble_eq_true rfl) dX6_copyFrom_9 ?_
  refine tz_i 0 (by decide) ?_
  refine va_put (D := (dC, dI)) (ci := 6) (v := .int 0) (ty := .int) (C := RX6) (T := TX6) (N := 4) hx hb hts iw_k_rcopy_20_X6 tyX6 tyX6_ok nmX6 hown hK hP hD hS 0 rfl rfl 3 (by decide) (hts (.fieldLink RX6 9 "ThriceCounted$Rows" "size" "I") (by decide +kernel)) (fun _ h9 => h9) rfl (by decide +kernel) rfl rfl (Nat.le_of_ble_eq_true rfl) dX6_copyFrom_12 (fun H locs hP hD hS => ?_)
  have hP : va_P (dC, dI) vwCl [(ro, .inr (6, [w0, .int 5, .ref ca, .int 0])), (rp, .inr (6, [wp0, wp1, .ref cb, .int 0])), (ca, .inl (cc0, 20, .inl fa)), (cb, .inl (cc1, 20, .inl fb))] H := hP
  have hD : va_D A [(ro, .inr (6, [w0, .int 5, .ref ca, .int 0])), (rp, .inr (6, [wp0, wp1, .ref cb, .int 0])), (ca, .inl (cc0, 20, .inl fa)), (cb, .inl (cc1, 20, .inl fb))] := hD
  refine lv_aload_n hx hb dX6_copyFrom_15 rfl (lv_at hl 1 rfl) ?_
  refine va_get (D := (dC, dI)) (ci := 6) (v := .ref cb) (C := RX6) (T := TX6) (N := 4) hx hb hts iw_k_rcopy_20_X6 hown hK hP 1 rfl rfl 2 (by decide) (hts (.fieldLink RX6 27 "ThriceCounted$Rows" "cells" "[I") (by decide +kernel)) (fun _ h9 => h9) rfl dX6_copyFrom_16 ?_
  refine lv_iconst (v := 0) hx hb dX6_copyFrom_19 (by decide) ?_
  refine lv_aload_n hx hb dX6_copyFrom_20 rfl (lv_at hl 0 rfl) ?_
  refine va_get (D := (dC, dI)) (ci := 6) (v := .ref ca) (C := RX6) (T := TX6) (N := 4) hx hb hts iw_k_rcopy_20_X6 hown hK hP 0 rfl rfl 2 (by decide) (hts (.fieldLink RX6 27 "ThriceCounted$Rows" "cells" "[I") (by decide +kernel)) (fun _ h9 => h9) rfl dX6_copyFrom_21 ?_
  refine lv_iconst (v := 0) hx hb dX6_copyFrom_24 (by decide) ?_
  refine lv_aload_n hx hb dX6_copyFrom_25 rfl (lv_at hl 0 rfl) ?_
  refine va_get (D := (dC, dI)) (ci := 6) (v := .ref ca) (C := RX6) (T := TX6) (N := 4) hx hb hts iw_k_rcopy_20_X6 hown hK hP 0 rfl rfl 2 (by decide) (hts (.fieldLink RX6 27 "ThriceCounted$Rows" "cells" "[I") (by decide +kernel)) (fun _ h9 => h9) rfl dX6_copyFrom_26 ?_
  refine va_alen (v := 20) hx hb hK hP 2 0 rfl rfl rfl dX6_copyFrom_29 ?_
  refine lv_aload_n hx hb dX6_copyFrom_30 rfl (lv_at hl 1 rfl) ?_
  refine va_get (D := (dC, dI)) (ci := 6) (v := .ref cb) (C := RX6) (T := TX6) (N := 4) hx hb hts iw_k_rcopy_20_X6 hown hK hP 1 rfl rfl 2 (by decide) (hts (.fieldLink RX6 27 "ThriceCounted$Rows" "cells" "[I") (by decide +kernel)) (fun _ h9 => h9) rfl dX6_copyFrom_31 ?_
  refine va_alen (v := 20) hx hb hK hP 3 1 rfl rfl rfl dX6_copyFrom_34 ?_
  refine va_mmin hx hb (hml.trans hl.1.symm) hown (hts (.methodLink RX6 50 Lib.Math.min.name) (by decide +kernel)) (hts (.static Lib.Math.min.name) (by decide +kernel)) (hts (.initialized "java/lang/Math") (by decide +kernel)) (hts (.code Lib.Math.min.name Lib.Math.min.code 2 (some .int)) (by decide +kernel)) (Nat.le_of_ble_eq_true rfl) (Nat.le_of_ble_eq_true rfl) (Nat.le_of_ble_eq_true rfl) (Nat.le_of_ble_eq_true rfl) dX6_copyFrom_35 ?_
  refine tz_i 20 (by decide) ?_
  refine va_copyi (ty := .int) hx hb (hml.trans hl.1.symm) hown (hts (.methodLink RX6 53 arraycopyName) (by decide +kernel)) (hts (.native arraycopyName) (by decide +kernel)) (hts (.static arraycopyName) (by decide +kernel)) (hts (.initialized "java/lang/System") (by decide +kernel)) hK hP hD hS 3 2 1 0 rfl rfl rfl rfl rfl (by decide) (by decide) (by decide) (by decide) (by decide) (fun _ _ => rfl) (Nat.le_of_ble_eq_true rfl) (Nat.le_of_ble_eq_true rfl) dX6_copyFrom_38 (fun H locs hP hD hS => ?_)
  generalize (va_cpy _ _ _ _ _) = f_1 at hP hD
  have hP : va_P (dC, dI) vwCl [(ro, .inr (6, [w0, .int 5, .ref ca, .int 0])), (rp, .inr (6, [wp0, wp1, .ref cb, .int 0])), (ca, .inl (cc0, 20, .inl f_1)), (cb, .inl (cc1, 20, .inl fb))] H := hP
  have hD : va_D A [(ro, .inr (6, [w0, .int 5, .ref ca, .int 0])), (rp, .inr (6, [wp0, wp1, .ref cb, .int 0])), (ca, .inl (cc0, 20, .inl f_1)), (cb, .inl (cc1, 20, .inl fb))] := hD
  exact W.vret hx hb hr (fun t ht hW => ⟨⟨(), rfl, trivial, trivial⟩, hS.F ht⟩) hS.2.2 dX6_copyFrom_41
set_option maxRecDepth 20000 in
theorem iw_k_rcopy_32_X6 : ∀ w ∈ wsX60, w ∈ wsX6_copyFrom := by decide +kernel
set_option maxHeartbeats 4000000 in
set_option maxRecDepth 100000 in
theorem k_rcopy_32 (l : Launch) (dC : Nat → ClassId) (dI : Nat → Nat → Nat) (ro : Nat) (w0 : Value) (ca : Nat) (w3 : Value) (rp : Nat) (wp0 : Value) (wp1 : Value) (cb : Nat) (cc0 : ClassId) (fa : Nat → Int32) (cc1 : ClassId) (fb : Nat → Int32) (sz : Nat) : Met l yX6_copyFrom wsX6_copyFrom ({ frames := 1, cells := 0, slots := 0, locals := 40 }) (va_Pc [.ref ro, .ref rp] (fun U => U.heap.size = sz ∧ va_P (dC, dI) vwCl [(ro, .inr (6, [w0, .int 8, .ref ca, w3])), (rp, .inr (6, [wp0, wp1, .ref cb, .int 0])), (ca, .inl (cc0, 32, .inl fa)), (cb, .inl (cc1, 32, .inl fb))] U.heap ∧ va_K (dC, dI) vwCl [(cc0, .int), (cc1, .int)] U ∧ va_D (fun _ => True) [(ro, .inr (6, [w0, .int 8, .ref ca, w3])), (rp, .inr (6, [wp0, wp1, .ref cb, .int 0])), (ca, .inl (cc0, 32, .inl fa)), (cb, .inl (cc1, 32, .inl fb))])) (va_Qv (fun (_ : Unit) => True) (fun _ _ => True) (va_A [(ro, .inr (6, [w0, .int 8, .ref ca, w3])), (rp, .inr (6, [wp0, wp1, .ref cb, .int 0])), (ca, .inl (cc0, 32, .inl fa)), (cb, .inl (cc1, 32, .inl fb))] sz)) 0 0 (va_A [(ro, .inr (6, [w0, .int 8, .ref ca, w3])), (rp, .inr (6, [wp0, wp1, .ref cb, .int 0])), (ca, .inl (cc0, 32, .inl fa)), (cb, .inl (cc1, 32, .inl fb))] sz) := by
  refine Met.ofW (cc := cX6_copyFrom) (maxL := 2) (ret := none) (by decide) rfl ?_
  intro p e s m args below meth c s₁ B hml hv
  obtain ⟨rfl, hsz, hP, hK, hD0⟩ := hv
  have hx := B.exec
  have hb := B.bytes
  have hr := B.returns
  have hts := atoms_spec (ws := wsX6_copyFrom) B.pre
  have hown : s.vm.findClass RX6 = some m.cls := findClass_of_methodNamed B.named
  have hlocks := B.notSynchronized
  subst hsz
  have hD := hD0.self (sz := s.heap.size)
  generalize hAe : va_A [(ro, .inr (6, [w0, .int 8, .ref ca, w3])), (rp, .inr (6, [wp0, wp1, .ref cb, .int 0])), (ca, .inl (cc0, 32, .inl fa)), (cb, .inl (cc1, 32, .inl fb))] s.heap.size = A at hD ⊢
  have hA : ∀ q : Nat, s.heap.size ≤ q → A q := fun q h => by rw [← hAe]; exact Or.inr h
  have hS : va_S A s.heap s.heap [] := va_S.rf
  have hP : va_P (dC, dI) vwCl [(ro, .inr (6, [w0, .int 8, .ref ca, w3])), (rp, .inr (6, [wp0, wp1, .ref cb, .int 0])), (ca, .inl (cc0, 32, .inl fa)), (cb, .inl (cc1, 32, .inl fb))] s.heap := hP
  have hl := lv_entry ([.ref ro, .ref rp]) (n := 2) (Nat.le_of_ble_eq_true rfl)
  rw [lg_entry_eq]
  generalize (lg_sl ([.ref ro, .ref rp]) ++ List.replicate (2 - (lg_sl ([.ref ro, .ref rp])).length) Slot.unset).toArray = ls at hl ⊢
  have hl : lv_has ls 2 [(0, .ref ro), (1, .ref rp)] := hl
  refine lv_aload_n hx hb dX6_copyFrom_0 rfl (lv_at hl 0 rfl) ?_
  refine lv_aload_n hx hb dX6_copyFrom_1 rfl (lv_at hl 0 rfl) ?_
  refine va_get (D := (dC, dI)) (ci := 6) (v := .int 8) (C := RX6) (T := TX6) (N := 4) hx hb hts iw_k_rcopy_32_X6 hown hK hP 0 rfl rfl 1 (by decide) (hts (.fieldLink RX6 21 "ThriceCounted$Rows" "limit" "I") (by decide +kernel)) (fun _ h9 => h9) rfl dX6_copyFrom_2 ?_
  refine lv_aload_n hx hb dX6_copyFrom_5 rfl (lv_at hl 1 rfl) ?_
  refine va_get (D := (dC, dI)) (ci := 6) (v := .int 0) (C := RX6) (T := TX6) (N := 4) hx hb hts iw_k_rcopy_32_X6 hown hK hP 1 rfl rfl 3 (by decide) (hts (.fieldLink RX6 9 "ThriceCounted$Rows" "size" "I") (by decide +kernel)) (fun _ h9 => h9) rfl dX6_copyFrom_6 ?_
  refine va_mmin hx hb (hml.trans hl.1.symm) hown (hts (.methodLink RX6 50 Lib.Math.min.name) (by decide +kernel)) (hts (.static Lib.Math.min.name) (by decide +kernel)) (hts (.initialized "java/lang/Math") (by decide +kernel)) (hts (.code Lib.Math.min.name Lib.Math.min.code 2 (some .int)) (by decide +kernel)) (Nat.le_of_ble_eq_true rfl) (Nat.le_of_ble_eq_true rfl) (Nat.le_of_ble_eq_true rfl) (Nat.le_of_ble_eq_true rfl) dX6_copyFrom_9 ?_
  refine tz_i 0 (by decide) ?_
  refine va_put (D := (dC, dI)) (ci := 6) (v := .int 0) (ty := .int) (C := RX6) (T := TX6) (N := 4) hx hb hts iw_k_rcopy_32_X6 tyX6 tyX6_ok nmX6 hown hK hP hD hS 0 rfl rfl 3 (by decide) (hts (.fieldLink RX6 9 "ThriceCounted$Rows" "size" "I") (by decide +kernel)) (fun _ h9 => h9) rfl (by decide +kernel) rfl rfl (Nat.le_of_ble_eq_true rfl) dX6_copyFrom_12 (fun H locs hP hD hS => ?_)
  have hP : va_P (dC, dI) vwCl [(ro, .inr (6, [w0, .int 8, .ref ca, .int 0])), (rp, .inr (6, [wp0, wp1, .ref cb, .int 0])), (ca, .inl (cc0, 32, .inl fa)), (cb, .inl (cc1, 32, .inl fb))] H := hP
  have hD : va_D A [(ro, .inr (6, [w0, .int 8, .ref ca, .int 0])), (rp, .inr (6, [wp0, wp1, .ref cb, .int 0])), (ca, .inl (cc0, 32, .inl fa)), (cb, .inl (cc1, 32, .inl fb))] := hD
  refine lv_aload_n hx hb dX6_copyFrom_15 rfl (lv_at hl 1 rfl) ?_
  refine va_get (D := (dC, dI)) (ci := 6) (v := .ref cb) (C := RX6) (T := TX6) (N := 4) hx hb hts iw_k_rcopy_32_X6 hown hK hP 1 rfl rfl 2 (by decide) (hts (.fieldLink RX6 27 "ThriceCounted$Rows" "cells" "[I") (by decide +kernel)) (fun _ h9 => h9) rfl dX6_copyFrom_16 ?_
  refine lv_iconst (v := 0) hx hb dX6_copyFrom_19 (by decide) ?_
  refine lv_aload_n hx hb dX6_copyFrom_20 rfl (lv_at hl 0 rfl) ?_
  refine va_get (D := (dC, dI)) (ci := 6) (v := .ref ca) (C := RX6) (T := TX6) (N := 4) hx hb hts iw_k_rcopy_32_X6 hown hK hP 0 rfl rfl 2 (by decide) (hts (.fieldLink RX6 27 "ThriceCounted$Rows" "cells" "[I") (by decide +kernel)) (fun _ h9 => h9) rfl dX6_copyFrom_21 ?_
  refine lv_iconst (v := 0) hx hb dX6_copyFrom_24 (by decide) ?_
  refine lv_aload_n hx hb dX6_copyFrom_25 rfl (lv_at hl 0 rfl) ?_
  refine va_get (D := (dC, dI)) (ci := 6) (v := .ref ca) (C := RX6) (T := TX6) (N := 4) hx hb hts iw_k_rcopy_32_X6 hown hK hP 0 rfl rfl 2 (by decide) (hts (.fieldLink RX6 27 "ThriceCounted$Rows" "cells" "[I") (by decide +kernel)) (fun _ h9 => h9) rfl dX6_copyFrom_26 ?_
  refine va_alen (v := 32) hx hb hK hP 2 0 rfl rfl rfl dX6_copyFrom_29 ?_
  refine lv_aload_n hx hb dX6_copyFrom_30 rfl (lv_at hl 1 rfl) ?_
  refine va_get (D := (dC, dI)) (ci := 6) (v := .ref cb) (C := RX6) (T := TX6) (N := 4) hx hb hts iw_k_rcopy_32_X6 hown hK hP 1 rfl rfl 2 (by decide) (hts (.fieldLink RX6 27 "ThriceCounted$Rows" "cells" "[I") (by decide +kernel)) (fun _ h9 => h9) rfl dX6_copyFrom_31 ?_
  refine va_alen (v := 32) hx hb hK hP 3 1 rfl rfl rfl dX6_copyFrom_34 ?_
  refine va_mmin hx hb (hml.trans hl.1.symm) hown (hts (.methodLink RX6 50 Lib.Math.min.name) (by decide +kernel)) (hts (.static Lib.Math.min.name) (by decide +kernel)) (hts (.initialized "java/lang/Math") (by decide +kernel)) (hts (.code Lib.Math.min.name Lib.Math.min.code 2 (some .int)) (by decide +kernel)) (Nat.le_of_ble_eq_true rfl) (Nat.le_of_ble_eq_true rfl) (Nat.le_of_ble_eq_true rfl) (Nat.le_of_ble_eq_true rfl) dX6_copyFrom_35 ?_
  refine tz_i 32 (by decide) ?_
  refine va_copyi (ty := .int) hx hb (hml.trans hl.1.symm) hown (hts (.methodLink RX6 53 arraycopyName) (by decide +kernel)) (hts (.native arraycopyName) (by decide +kernel)) (hts (.static arraycopyName) (by decide +kernel)) (hts (.initialized "java/lang/System") (by decide +kernel)) hK hP hD hS 3 2 1 0 rfl rfl rfl rfl rfl (by decide) (by decide) (by decide) (by decide) (by decide) (fun _ _ => rfl) (Nat.le_of_ble_eq_true rfl) (Nat.le_of_ble_eq_true rfl) dX6_copyFrom_38 (fun H locs hP hD hS => ?_)
  generalize (va_cpy _ _ _ _ _) = f_1 at hP hD
  have hP : va_P (dC, dI) vwCl [(ro, .inr (6, [w0, .int 8, .ref ca, .int 0])), (rp, .inr (6, [wp0, wp1, .ref cb, .int 0])), (ca, .inl (cc0, 32, .inl f_1)), (cb, .inl (cc1, 32, .inl fb))] H := hP
  have hD : va_D A [(ro, .inr (6, [w0, .int 8, .ref ca, .int 0])), (rp, .inr (6, [wp0, wp1, .ref cb, .int 0])), (ca, .inl (cc0, 32, .inl f_1)), (cb, .inl (cc1, 32, .inl fb))] := hD
  exact W.vret hx hb hr (fun t ht hW => ⟨⟨(), rfl, trivial, trivial⟩, hS.F ht⟩) hS.2.2 dX6_copyFrom_41
set_option maxRecDepth 20000 in
theorem iw_k_rcopy_24_X6 : ∀ w ∈ wsX60, w ∈ wsX6_copyFrom := by decide +kernel
set_option maxHeartbeats 4000000 in
set_option maxRecDepth 100000 in
theorem k_rcopy_24 (l : Launch) (dC : Nat → ClassId) (dI : Nat → Nat → Nat) (ro : Nat) (w0 : Value) (ca : Nat) (w3 : Value) (rp : Nat) (wp0 : Value) (wp1 : Value) (cb : Nat) (cc0 : ClassId) (fa : Nat → Int32) (cc1 : ClassId) (fb : Nat → Int32) (sz : Nat) : Met l yX6_copyFrom wsX6_copyFrom ({ frames := 1, cells := 0, slots := 0, locals := 40 }) (va_Pc [.ref ro, .ref rp] (fun U => U.heap.size = sz ∧ va_P (dC, dI) vwCl [(ro, .inr (6, [w0, .int 6, .ref ca, w3])), (rp, .inr (6, [wp0, wp1, .ref cb, .int 0])), (ca, .inl (cc0, 24, .inl fa)), (cb, .inl (cc1, 24, .inl fb))] U.heap ∧ va_K (dC, dI) vwCl [(cc0, .int), (cc1, .int)] U ∧ va_D (fun _ => True) [(ro, .inr (6, [w0, .int 6, .ref ca, w3])), (rp, .inr (6, [wp0, wp1, .ref cb, .int 0])), (ca, .inl (cc0, 24, .inl fa)), (cb, .inl (cc1, 24, .inl fb))])) (va_Qv (fun (_ : Unit) => True) (fun _ _ => True) (va_A [(ro, .inr (6, [w0, .int 6, .ref ca, w3])), (rp, .inr (6, [wp0, wp1, .ref cb, .int 0])), (ca, .inl (cc0, 24, .inl fa)), (cb, .inl (cc1, 24, .inl fb))] sz)) 0 0 (va_A [(ro, .inr (6, [w0, .int 6, .ref ca, w3])), (rp, .inr (6, [wp0, wp1, .ref cb, .int 0])), (ca, .inl (cc0, 24, .inl fa)), (cb, .inl (cc1, 24, .inl fb))] sz) := by
  refine Met.ofW (cc := cX6_copyFrom) (maxL := 2) (ret := none) (by decide) rfl ?_
  intro p e s m args below meth c s₁ B hml hv
  obtain ⟨rfl, hsz, hP, hK, hD0⟩ := hv
  have hx := B.exec
  have hb := B.bytes
  have hr := B.returns
  have hts := atoms_spec (ws := wsX6_copyFrom) B.pre
  have hown : s.vm.findClass RX6 = some m.cls := findClass_of_methodNamed B.named
  have hlocks := B.notSynchronized
  subst hsz
  have hD := hD0.self (sz := s.heap.size)
  generalize hAe : va_A [(ro, .inr (6, [w0, .int 6, .ref ca, w3])), (rp, .inr (6, [wp0, wp1, .ref cb, .int 0])), (ca, .inl (cc0, 24, .inl fa)), (cb, .inl (cc1, 24, .inl fb))] s.heap.size = A at hD ⊢
  have hA : ∀ q : Nat, s.heap.size ≤ q → A q := fun q h => by rw [← hAe]; exact Or.inr h
  have hS : va_S A s.heap s.heap [] := va_S.rf
  have hP : va_P (dC, dI) vwCl [(ro, .inr (6, [w0, .int 6, .ref ca, w3])), (rp, .inr (6, [wp0, wp1, .ref cb, .int 0])), (ca, .inl (cc0, 24, .inl fa)), (cb, .inl (cc1, 24, .inl fb))] s.heap := hP
  have hl := lv_entry ([.ref ro, .ref rp]) (n := 2) (Nat.le_of_ble_eq_true rfl)
  rw [lg_entry_eq]
  generalize (lg_sl ([.ref ro, .ref rp]) ++ List.replicate (2 - (lg_sl ([.ref ro, .ref rp])).length) Slot.unset).toArray = ls at hl ⊢
  have hl : lv_has ls 2 [(0, .ref ro), (1, .ref rp)] := hl
  refine lv_aload_n hx hb dX6_copyFrom_0 rfl (lv_at hl 0 rfl) ?_
  refine lv_aload_n hx hb dX6_copyFrom_1 rfl (lv_at hl 0 rfl) ?_
  refine va_get (D := (dC, dI)) (ci := 6) (v := .int 6) (C := RX6) (T := TX6) (N := 4) hx hb hts iw_k_rcopy_24_X6 hown hK hP 0 rfl rfl 1 (by decide) (hts (.fieldLink RX6 21 "ThriceCounted$Rows" "limit" "I") (by decide +kernel)) (fun _ h9 => h9) rfl dX6_copyFrom_2 ?_
  refine lv_aload_n hx hb dX6_copyFrom_5 rfl (lv_at hl 1 rfl) ?_
  refine va_get (D := (dC, dI)) (ci := 6) (v := .int 0) (C := RX6) (T := TX6) (N := 4) hx hb hts iw_k_rcopy_24_X6 hown hK hP 1 rfl rfl 3 (by decide) (hts (.fieldLink RX6 9 "ThriceCounted$Rows" "size" "I") (by decide +kernel)) (fun _ h9 => h9) rfl dX6_copyFrom_6 ?_
  refine va_mmin hx hb (hml.trans hl.1.symm) hown (hts (.methodLink RX6 50 Lib.Math.min.name) (by decide +kernel)) (hts (.static Lib.Math.min.name) (by decide +kernel)) (hts (.initialized "java/lang/Math") (by decide +kernel)) (hts (.code Lib.Math.min.name Lib.Math.min.code 2 (some .int)) (by decide +kernel)) (Nat.le_of_ble_eq_true rfl) (Nat.le_of_ble_eq_true rfl) (Nat.le_of_ble_eq_true rfl) (Nat.le_of_ble_eq_true rfl) dX6_copyFrom_9 ?_
  refine tz_i 0 (by decide) ?_
  refine va_put (D := (dC, dI)) (ci := 6) (v := .int 0) (ty := .int) (C := RX6) (T := TX6) (N := 4) hx hb hts iw_k_rcopy_24_X6 tyX6 tyX6_ok nmX6 hown hK hP hD hS 0 rfl rfl 3 (by decide) (hts (.fieldLink RX6 9 "ThriceCounted$Rows" "size" "I") (by decide +kernel)) (fun _ h9 => h9) rfl (by decide +kernel) rfl rfl (Nat.le_of_ble_eq_true rfl) dX6_copyFrom_12 (fun H locs hP hD hS => ?_)
  have hP : va_P (dC, dI) vwCl [(ro, .inr (6, [w0, .int 6, .ref ca, .int 0])), (rp, .inr (6, [wp0, wp1, .ref cb, .int 0])), (ca, .inl (cc0, 24, .inl fa)), (cb, .inl (cc1, 24, .inl fb))] H := hP
  have hD : va_D A [(ro, .inr (6, [w0, .int 6, .ref ca, .int 0])), (rp, .inr (6, [wp0, wp1, .ref cb, .int 0])), (ca, .inl (cc0, 24, .inl fa)), (cb, .inl (cc1, 24, .inl fb))] := hD
  refine lv_aload_n hx hb dX6_copyFrom_15 rfl (lv_at hl 1 rfl) ?_
  refine va_get (D := (dC, dI)) (ci := 6) (v := .ref cb) (C := RX6) (T := TX6) (N := 4) hx hb hts iw_k_rcopy_24_X6 hown hK hP 1 rfl rfl 2 (by decide) (hts (.fieldLink RX6 27 "ThriceCounted$Rows" "cells" "[I") (by decide +kernel)) (fun _ h9 => h9) rfl dX6_copyFrom_16 ?_
  refine lv_iconst (v := 0) hx hb dX6_copyFrom_19 (by decide) ?_
  refine lv_aload_n hx hb dX6_copyFrom_20 rfl (lv_at hl 0 rfl) ?_
  refine va_get (D := (dC, dI)) (ci := 6) (v := .ref ca) (C := RX6) (T := TX6) (N := 4) hx hb hts iw_k_rcopy_24_X6 hown hK hP 0 rfl rfl 2 (by decide) (hts (.fieldLink RX6 27 "ThriceCounted$Rows" "cells" "[I") (by decide +kernel)) (fun _ h9 => h9) rfl dX6_copyFrom_21 ?_
  refine lv_iconst (v := 0) hx hb dX6_copyFrom_24 (by decide) ?_
  refine lv_aload_n hx hb dX6_copyFrom_25 rfl (lv_at hl 0 rfl) ?_
  refine va_get (D := (dC, dI)) (ci := 6) (v := .ref ca) (C := RX6) (T := TX6) (N := 4) hx hb hts iw_k_rcopy_24_X6 hown hK hP 0 rfl rfl 2 (by decide) (hts (.fieldLink RX6 27 "ThriceCounted$Rows" "cells" "[I") (by decide +kernel)) (fun _ h9 => h9) rfl dX6_copyFrom_26 ?_
  refine va_alen (v := 24) hx hb hK hP 2 0 rfl rfl rfl dX6_copyFrom_29 ?_
  refine lv_aload_n hx hb dX6_copyFrom_30 rfl (lv_at hl 1 rfl) ?_
  refine va_get (D := (dC, dI)) (ci := 6) (v := .ref cb) (C := RX6) (T := TX6) (N := 4) hx hb hts iw_k_rcopy_24_X6 hown hK hP 1 rfl rfl 2 (by decide) (hts (.fieldLink RX6 27 "ThriceCounted$Rows" "cells" "[I") (by decide +kernel)) (fun _ h9 => h9) rfl dX6_copyFrom_31 ?_
  refine va_alen (v := 24) hx hb hK hP 3 1 rfl rfl rfl dX6_copyFrom_34 ?_
  refine va_mmin hx hb (hml.trans hl.1.symm) hown (hts (.methodLink RX6 50 Lib.Math.min.name) (by decide +kernel)) (hts (.static Lib.Math.min.name) (by decide +kernel)) (hts (.initialized "java/lang/Math") (by decide +kernel)) (hts (.code Lib.Math.min.name Lib.Math.min.code 2 (some .int)) (by decide +kernel)) (Nat.le_of_ble_eq_true rfl) (Nat.le_of_ble_eq_true rfl) (Nat.le_of_ble_eq_true rfl) (Nat.le_of_ble_eq_true rfl) dX6_copyFrom_35 ?_
  refine tz_i 24 (by decide) ?_
  refine va_copyi (ty := .int) hx hb (hml.trans hl.1.symm) hown (hts (.methodLink RX6 53 arraycopyName) (by decide +kernel)) (hts (.native arraycopyName) (by decide +kernel)) (hts (.static arraycopyName) (by decide +kernel)) (hts (.initialized "java/lang/System") (by decide +kernel)) hK hP hD hS 3 2 1 0 rfl rfl rfl rfl rfl (by decide) (by decide) (by decide) (by decide) (by decide) (fun _ _ => rfl) (Nat.le_of_ble_eq_true rfl) (Nat.le_of_ble_eq_true rfl) dX6_copyFrom_38 (fun H locs hP hD hS => ?_)
  generalize (va_cpy _ _ _ _ _) = f_1 at hP hD
  have hP : va_P (dC, dI) vwCl [(ro, .inr (6, [w0, .int 6, .ref ca, .int 0])), (rp, .inr (6, [wp0, wp1, .ref cb, .int 0])), (ca, .inl (cc0, 24, .inl f_1)), (cb, .inl (cc1, 24, .inl fb))] H := hP
  have hD : va_D A [(ro, .inr (6, [w0, .int 6, .ref ca, .int 0])), (rp, .inr (6, [wp0, wp1, .ref cb, .int 0])), (ca, .inl (cc0, 24, .inl f_1)), (cb, .inl (cc1, 24, .inl fb))] := hD
  exact W.vret hx hb hr (fun t ht hW => ⟨⟨(), rfl, trivial, trivial⟩, hS.F ht⟩) hS.2.2 dX6_copyFrom_41
set_option maxRecDepth 20000 in
theorem ggX0_copyFrom_X6_copyFrom : GoodIn wsX0_copyFrom wsX6_copyFrom := goodIn_r _ [15, 16, 17, 18, 8, 9, 10, 19, 20, 21, 22, 23, 30, 31, 32, 33] (by decide +kernel) (by decide +kernel)
set_option maxRecDepth 20000 in
theorem gX0_copyFrom_X6_copyFrom : GoodIn wsX0_copyFrom (wsV RX0 40 RX6 yX6_copyFrom wsX6_copyFrom) := goodIn_app (goodIn_of _ (by decide +kernel)) ggX0_copyFrom_X6_copyFrom
theorem dX0_copyFrom_0 : decode cX0_copyFrom 0 = .ok (.aload_n 0, 1) := by decide +kernel
theorem dX0_copyFrom_1 : decode cX0_copyFrom 1 = .ok (.getfield 14, 3) := by decide +kernel
theorem dX0_copyFrom_4 : decode cX0_copyFrom 4 = .ok (.aload_n 1, 1) := by decide +kernel
theorem dX0_copyFrom_5 : decode cX0_copyFrom 5 = .ok (.getfield 14, 3) := by decide +kernel
theorem dX0_copyFrom_8 : decode cX0_copyFrom 8 = .ok (.invokevirtual 40, 3) := by decide +kernel
theorem dX0_copyFrom_11 : decode cX0_copyFrom 11 = .ok (.aload_n 0, 1) := by decide +kernel
theorem dX0_copyFrom_12 : decode cX0_copyFrom 12 = .ok (.getfield 20, 3) := by decide +kernel
theorem dX0_copyFrom_15 : decode cX0_copyFrom 15 = .ok (.aload_n 1, 1) := by decide +kernel
theorem dX0_copyFrom_16 : decode cX0_copyFrom 16 = .ok (.getfield 20, 3) := by decide +kernel
theorem dX0_copyFrom_19 : decode cX0_copyFrom 19 = .ok (.invokevirtual 40, 3) := by decide +kernel
theorem dX0_copyFrom_22 : decode cX0_copyFrom 22 = .ok (.aload_n 0, 1) := by decide +kernel
theorem dX0_copyFrom_23 : decode cX0_copyFrom 23 = .ok (.getfield 23, 3) := by decide +kernel
theorem dX0_copyFrom_26 : decode cX0_copyFrom 26 = .ok (.aload_n 1, 1) := by decide +kernel
theorem dX0_copyFrom_27 : decode cX0_copyFrom 27 = .ok (.getfield 23, 3) := by decide +kernel
theorem dX0_copyFrom_30 : decode cX0_copyFrom 30 = .ok (.invokevirtual 40, 3) := by decide +kernel
theorem dX0_copyFrom_33 : decode cX0_copyFrom 33 = .ok (.aload_n 0, 1) := by decide +kernel
theorem dX0_copyFrom_34 : decode cX0_copyFrom 34 = .ok (.getfield 26, 3) := by decide +kernel
theorem dX0_copyFrom_37 : decode cX0_copyFrom 37 = .ok (.aload_n 1, 1) := by decide +kernel
theorem dX0_copyFrom_38 : decode cX0_copyFrom 38 = .ok (.getfield 26, 3) := by decide +kernel
theorem dX0_copyFrom_41 : decode cX0_copyFrom 41 = .ok (.invokevirtual 40, 3) := by decide +kernel
theorem dX0_copyFrom_44 : decode cX0_copyFrom 44 = .ok (.aload_n 0, 1) := by decide +kernel
theorem dX0_copyFrom_45 : decode cX0_copyFrom 45 = .ok (.aload_n 1, 1) := by decide +kernel
theorem dX0_copyFrom_46 : decode cX0_copyFrom 46 = .ok (.getfield 33, 3) := by decide +kernel
theorem dX0_copyFrom_49 : decode cX0_copyFrom 49 = .ok (.aload_n 0, 1) := by decide +kernel
theorem dX0_copyFrom_50 : decode cX0_copyFrom 50 = .ok (.getfield 29, 3) := by decide +kernel
theorem dX0_copyFrom_53 : decode cX0_copyFrom 53 = .ok (.arraylength, 1) := by decide +kernel
theorem dX0_copyFrom_54 : decode cX0_copyFrom 54 = .ok (.invokestatic 44, 3) := by decide +kernel
theorem dX0_copyFrom_57 : decode cX0_copyFrom 57 = .ok (.putfield 33, 3) := by decide +kernel
theorem dX0_copyFrom_60 : decode cX0_copyFrom 60 = .ok (.iconst 0, 1) := by decide +kernel
theorem dX0_copyFrom_61 : decode cX0_copyFrom 61 = .ok (.istore_n 2, 1) := by decide +kernel
theorem dX0_copyFrom_62 : decode cX0_copyFrom 62 = .ok (.iload_n 2, 1) := by decide +kernel
theorem dX0_copyFrom_63 : decode cX0_copyFrom 63 = .ok (.aload_n 0, 1) := by decide +kernel
theorem dX0_copyFrom_64 : decode cX0_copyFrom 64 = .ok (.getfield 33, 3) := by decide +kernel
theorem dX0_copyFrom_67 : decode cX0_copyFrom 67 = .ok (.if_icmp .ge 33, 3) := by decide +kernel
theorem dX0_copyFrom_100 : decode cX0_copyFrom 100 = .ok (.return_, 1) := by decide +kernel
set_option maxRecDepth 20000 in
theorem iw_k_bcopy_X0 : ∀ w ∈ wsX00, w ∈ wsX0_copyFrom := by decide +kernel
set_option maxHeartbeats 4000000 in
set_option maxRecDepth 100000 in
theorem k_bcopy (l : Launch) (dC : Nat → ClassId) (dI : Nat → Nat → Nat) (bo : Nat) (r0 : Nat) (r1 : Nat) (r2 : Nat) (r3 : Nat) (ea : Nat) (vb5 : Value) (bp : Nat) (rp0 : Nat) (rp1 : Nat) (rp2 : Nat) (rp3 : Nat) (vp4 : Value) (ce : ClassId) (fe : Nat → Option Nat) (wr00 : Value) (ca0 : Nat) (wr03 : Value) (wrp00 : Value) (wrp01 : Value) (cb0 : Nat) (cx0 : ClassId) (fa0 : Nat → Int32) (cy0 : ClassId) (fb0 : Nat → Int32) (wr10 : Value) (ca1 : Nat) (wr13 : Value) (wrp10 : Value) (wrp11 : Value) (cb1 : Nat) (cx1 : ClassId) (fa1 : Nat → Int32) (cy1 : ClassId) (fb1 : Nat → Int32) (wr20 : Value) (ca2 : Nat) (wr23 : Value) (wrp20 : Value) (wrp21 : Value) (cb2 : Nat) (cx2 : ClassId) (fa2 : Nat → Int32) (cy2 : ClassId) (fb2 : Nat → Int32) (wr30 : Value) (ca3 : Nat) (wr33 : Value) (wrp30 : Value) (wrp31 : Value) (cb3 : Nat) (cx3 : ClassId) (fa3 : Nat → Int32) (cy3 : ClassId) (fb3 : Nat → Int32) (sz : Nat) : Met l yX0_copyFrom wsX0_copyFrom ({ frames := 2, cells := 0, slots := 0, locals := 61 }) (va_Pc [.ref bo, .ref bp] (fun U => U.heap.size = sz ∧ va_P (dC, dI) vwCl [(bo, .inr (0, [.ref r0, .ref r1, .ref r2, .ref r3, .ref ea, vb5])), (bp, .inr (0, [.ref rp0, .ref rp1, .ref rp2, .ref rp3, vp4, .int 0])), (ea, .inl (ce, 8, .inr (.inr (.inr (.inr fe))))), (r0, .inr (6, [wr00, .int 5, .ref ca0, wr03])), (rp0, .inr (6, [wrp00, wrp01, .ref cb0, .int 0])), (ca0, .inl (cx0, 5, .inl fa0)), (cb0, .inl (cy0, 5, .inl fb0)), (r1, .inr (6, [wr10, .int 5, .ref ca1, wr13])), (rp1, .inr (6, [wrp10, wrp11, .ref cb1, .int 0])), (ca1, .inl (cx1, 20, .inl fa1)), (cb1, .inl (cy1, 20, .inl fb1)), (r2, .inr (6, [wr20, .int 8, .ref ca2, wr23])), (rp2, .inr (6, [wrp20, wrp21, .ref cb2, .int 0])), (ca2, .inl (cx2, 32, .inl fa2)), (cb2, .inl (cy2, 32, .inl fb2)), (r3, .inr (6, [wr30, .int 6, .ref ca3, wr33])), (rp3, .inr (6, [wrp30, wrp31, .ref cb3, .int 0])), (ca3, .inl (cx3, 24, .inl fa3)), (cb3, .inl (cy3, 24, .inl fb3))] U.heap ∧ va_K (dC, dI) vwCl [(ce, (.object "ThriceCounted$Rows")), (cx0, .int), (cy0, .int), (cx1, .int), (cy1, .int), (cx2, .int), (cy2, .int), (cx3, .int), (cy3, .int)] U ∧ va_D (fun _ => True) [(bo, .inr (0, [.ref r0, .ref r1, .ref r2, .ref r3, .ref ea, vb5])), (bp, .inr (0, [.ref rp0, .ref rp1, .ref rp2, .ref rp3, vp4, .int 0])), (ea, .inl (ce, 8, .inr (.inr (.inr (.inr fe))))), (r0, .inr (6, [wr00, .int 5, .ref ca0, wr03])), (rp0, .inr (6, [wrp00, wrp01, .ref cb0, .int 0])), (ca0, .inl (cx0, 5, .inl fa0)), (cb0, .inl (cy0, 5, .inl fb0)), (r1, .inr (6, [wr10, .int 5, .ref ca1, wr13])), (rp1, .inr (6, [wrp10, wrp11, .ref cb1, .int 0])), (ca1, .inl (cx1, 20, .inl fa1)), (cb1, .inl (cy1, 20, .inl fb1)), (r2, .inr (6, [wr20, .int 8, .ref ca2, wr23])), (rp2, .inr (6, [wrp20, wrp21, .ref cb2, .int 0])), (ca2, .inl (cx2, 32, .inl fa2)), (cb2, .inl (cy2, 32, .inl fb2)), (r3, .inr (6, [wr30, .int 6, .ref ca3, wr33])), (rp3, .inr (6, [wrp30, wrp31, .ref cb3, .int 0])), (ca3, .inl (cx3, 24, .inl fa3)), (cb3, .inl (cy3, 24, .inl fb3))])) (va_Qv (fun (_ : Unit) => True) (fun _ _ => True) (va_A [(bo, .inr (0, [.ref r0, .ref r1, .ref r2, .ref r3, .ref ea, vb5])), (bp, .inr (0, [.ref rp0, .ref rp1, .ref rp2, .ref rp3, vp4, .int 0])), (ea, .inl (ce, 8, .inr (.inr (.inr (.inr fe))))), (r0, .inr (6, [wr00, .int 5, .ref ca0, wr03])), (rp0, .inr (6, [wrp00, wrp01, .ref cb0, .int 0])), (ca0, .inl (cx0, 5, .inl fa0)), (cb0, .inl (cy0, 5, .inl fb0)), (r1, .inr (6, [wr10, .int 5, .ref ca1, wr13])), (rp1, .inr (6, [wrp10, wrp11, .ref cb1, .int 0])), (ca1, .inl (cx1, 20, .inl fa1)), (cb1, .inl (cy1, 20, .inl fb1)), (r2, .inr (6, [wr20, .int 8, .ref ca2, wr23])), (rp2, .inr (6, [wrp20, wrp21, .ref cb2, .int 0])), (ca2, .inl (cx2, 32, .inl fa2)), (cb2, .inl (cy2, 32, .inl fb2)), (r3, .inr (6, [wr30, .int 6, .ref ca3, wr33])), (rp3, .inr (6, [wrp30, wrp31, .ref cb3, .int 0])), (ca3, .inl (cx3, 24, .inl fa3)), (cb3, .inl (cy3, 24, .inl fb3))] sz)) 0 0 (va_A [(bo, .inr (0, [.ref r0, .ref r1, .ref r2, .ref r3, .ref ea, vb5])), (bp, .inr (0, [.ref rp0, .ref rp1, .ref rp2, .ref rp3, vp4, .int 0])), (ea, .inl (ce, 8, .inr (.inr (.inr (.inr fe))))), (r0, .inr (6, [wr00, .int 5, .ref ca0, wr03])), (rp0, .inr (6, [wrp00, wrp01, .ref cb0, .int 0])), (ca0, .inl (cx0, 5, .inl fa0)), (cb0, .inl (cy0, 5, .inl fb0)), (r1, .inr (6, [wr10, .int 5, .ref ca1, wr13])), (rp1, .inr (6, [wrp10, wrp11, .ref cb1, .int 0])), (ca1, .inl (cx1, 20, .inl fa1)), (cb1, .inl (cy1, 20, .inl fb1)), (r2, .inr (6, [wr20, .int 8, .ref ca2, wr23])), (rp2, .inr (6, [wrp20, wrp21, .ref cb2, .int 0])), (ca2, .inl (cx2, 32, .inl fa2)), (cb2, .inl (cy2, 32, .inl fb2)), (r3, .inr (6, [wr30, .int 6, .ref ca3, wr33])), (rp3, .inr (6, [wrp30, wrp31, .ref cb3, .int 0])), (ca3, .inl (cx3, 24, .inl fa3)), (cb3, .inl (cy3, 24, .inl fb3))] sz) := by
  refine Met.ofW (cc := cX0_copyFrom) (maxL := 3) (ret := none) (by decide) rfl ?_
  intro p e s m args below meth c s₁ B hml hv
  obtain ⟨rfl, hsz, hP, hK, hD0⟩ := hv
  have hx := B.exec
  have hb := B.bytes
  have hr := B.returns
  have hts := atoms_spec (ws := wsX0_copyFrom) B.pre
  have hown : s.vm.findClass RX0 = some m.cls := findClass_of_methodNamed B.named
  have hlocks := B.notSynchronized
  subst hsz
  have hD := hD0.self (sz := s.heap.size)
  generalize hAe : va_A [(bo, .inr (0, [.ref r0, .ref r1, .ref r2, .ref r3, .ref ea, vb5])), (bp, .inr (0, [.ref rp0, .ref rp1, .ref rp2, .ref rp3, vp4, .int 0])), (ea, .inl (ce, 8, .inr (.inr (.inr (.inr fe))))), (r0, .inr (6, [wr00, .int 5, .ref ca0, wr03])), (rp0, .inr (6, [wrp00, wrp01, .ref cb0, .int 0])), (ca0, .inl (cx0, 5, .inl fa0)), (cb0, .inl (cy0, 5, .inl fb0)), (r1, .inr (6, [wr10, .int 5, .ref ca1, wr13])), (rp1, .inr (6, [wrp10, wrp11, .ref cb1, .int 0])), (ca1, .inl (cx1, 20, .inl fa1)), (cb1, .inl (cy1, 20, .inl fb1)), (r2, .inr (6, [wr20, .int 8, .ref ca2, wr23])), (rp2, .inr (6, [wrp20, wrp21, .ref cb2, .int 0])), (ca2, .inl (cx2, 32, .inl fa2)), (cb2, .inl (cy2, 32, .inl fb2)), (r3, .inr (6, [wr30, .int 6, .ref ca3, wr33])), (rp3, .inr (6, [wrp30, wrp31, .ref cb3, .int 0])), (ca3, .inl (cx3, 24, .inl fa3)), (cb3, .inl (cy3, 24, .inl fb3))] s.heap.size = A at hD ⊢
  have hA : ∀ q : Nat, s.heap.size ≤ q → A q := fun q h => by rw [← hAe]; exact Or.inr h
  have hS : va_S A s.heap s.heap [] := va_S.rf
  have hP : va_P (dC, dI) vwCl [(bo, .inr (0, [.ref r0, .ref r1, .ref r2, .ref r3, .ref ea, vb5])), (bp, .inr (0, [.ref rp0, .ref rp1, .ref rp2, .ref rp3, vp4, .int 0])), (ea, .inl (ce, 8, .inr (.inr (.inr (.inr fe))))), (r0, .inr (6, [wr00, .int 5, .ref ca0, wr03])), (rp0, .inr (6, [wrp00, wrp01, .ref cb0, .int 0])), (ca0, .inl (cx0, 5, .inl fa0)), (cb0, .inl (cy0, 5, .inl fb0)), (r1, .inr (6, [wr10, .int 5, .ref ca1, wr13])), (rp1, .inr (6, [wrp10, wrp11, .ref cb1, .int 0])), (ca1, .inl (cx1, 20, .inl fa1)), (cb1, .inl (cy1, 20, .inl fb1)), (r2, .inr (6, [wr20, .int 8, .ref ca2, wr23])), (rp2, .inr (6, [wrp20, wrp21, .ref cb2, .int 0])), (ca2, .inl (cx2, 32, .inl fa2)), (cb2, .inl (cy2, 32, .inl fb2)), (r3, .inr (6, [wr30, .int 6, .ref ca3, wr33])), (rp3, .inr (6, [wrp30, wrp31, .ref cb3, .int 0])), (ca3, .inl (cx3, 24, .inl fa3)), (cb3, .inl (cy3, 24, .inl fb3))] s.heap := hP
  have hl := lv_entry ([.ref bo, .ref bp]) (n := 3) (Nat.le_of_ble_eq_true rfl)
  rw [lg_entry_eq]
  generalize (lg_sl ([.ref bo, .ref bp]) ++ List.replicate (3 - (lg_sl ([.ref bo, .ref bp])).length) Slot.unset).toArray = ls at hl ⊢
  have hl : lv_has ls 3 [(0, .ref bo), (1, .ref bp)] := hl
  refine lv_aload_n hx hb dX0_copyFrom_0 rfl (lv_at hl 0 rfl) ?_
  refine va_get (D := (dC, dI)) (ci := 0) (v := .ref r0) (C := RX0) (T := TX0) (N := 6) hx hb hts iw_k_bcopy_X0 hown hK hP 0 rfl rfl 0 (by decide) (hts (.fieldLink RX0 14 "ThriceCounted$Bank" "clerks" "LThriceCounted$Rows;") (by decide +kernel)) (fun _ h9 => h9) rfl dX0_copyFrom_1 ?_
  refine lv_aload_n hx hb dX0_copyFrom_4 rfl (lv_at hl 1 rfl) ?_
  refine va_get (D := (dC, dI)) (ci := 0) (v := .ref rp0) (C := RX0) (T := TX0) (N := 6) hx hb hts iw_k_bcopy_X0 hown hK hP 1 rfl rfl 0 (by decide) (hts (.fieldLink RX0 14 "ThriceCounted$Bank" "clerks" "LThriceCounted$Rows;") (by decide +kernel)) (fun _ h9 => h9) rfl dX0_copyFrom_5 ?_
  have hPc := hP.sub (ws' := [(r0, .inr (6, [wr00, .int 5, .ref ca0, wr03])), (rp0, .inr (6, [wrp00, wrp01, .ref cb0, .int 0])), (ca0, .inl (cx0, 5, .inl fa0)), (cb0, .inl (cy0, 5, .inl fb0))]) [3, 4, 5, 6] rfl
  have hDc := hD.sub (ws' := [(r0, .inr (6, [wr00, .int 5, .ref ca0, wr03])), (rp0, .inr (6, [wrp00, wrp01, .ref cb0, .int 0])), (ca0, .inl (cx0, 5, .inl fa0)), (cb0, .inl (cy0, 5, .inl fb0))]) [3, 4, 5, 6] (by decide) rfl
  have hKc := hK.sub (tys' := [(cx0, .int), (cy0, .int)]) [1, 2] rfl
  have hFc := va_free (wc := [(r0, .inr (6, [wr00, .int 5, .ref ca0, wr03])), (rp0, .inr (6, [wrp00, wrp01, .ref cb0, .int 0])), (ca0, .inl (cx0, 5, .inl fa0)), (cb0, .inl (cy0, 5, .inl fb0))]) hD hS hA [3, 4, 5, 6] rfl
  refine va_callv (va_runV (As := [.ref rp0]) (rest := []) ⟨hx, hb, hml, hown, hts⟩ (k_rcopy_5 l dC dI r0 wr00 ca0 wr03 rp0 wrp00 wrp01 cb0 cx0 fa0 cy0 fb0 s.heap.size) (cwV 1 hts gX0_copyFrom_X6_copyFrom rfl rfl rfl (by decide +kernel) ⟨Nat.le_of_ble_eq_true rfl, Nat.le_of_ble_eq_true rfl⟩) ⟨fun a U g mk q => by obtain ⟨q0, q1, qP, qK, qD⟩ := q; exact ⟨q0, q1, qP, va_K.moved (u := U) (U := U.calling g mk a) (Vm.Alike.refl U.vm) qK, qD⟩, va_recv hK hP (ci := 6) (q0 := 3) rfl rfl, fun U hU hW => ⟨rfl, by rw [hU], by rw [hU]; exact hPc, va_K.moved hW.alike hKc, hDc.weaken (fun _ _ _ _ => trivial)⟩⟩ rfl rfl hl.1 rfl (lv_room (Nat.le_of_ble_eq_true rfl)) dX0_copyFrom_8 ⟨Nat.le_of_ble_eq_true rfl, Nat.le_of_ble_eq_true rfl⟩) hS (fun q _ h => hFc q h) hFc (fun u_ t H1 locs ht hvm hw_2 hB hz1 hk1 hS => ?_)
  obtain ⟨hP, hD⟩ := va_join (wr := [(bo, .inr (0, [.ref r0, .ref r1, .ref r2, .ref r3, .ref ea, vb5])), (bp, .inr (0, [.ref rp0, .ref rp1, .ref rp2, .ref rp3, vp4, .int 0])), (ea, .inl (ce, 8, .inr (.inr (.inr (.inr fe))))), (r1, .inr (6, [wr10, .int 5, .ref ca1, wr13])), (rp1, .inr (6, [wrp10, wrp11, .ref cb1, .int 0])), (ca1, .inl (cx1, 20, .inl fa1)), (cb1, .inl (cy1, 20, .inl fb1)), (r2, .inr (6, [wr20, .int 8, .ref ca2, wr23])), (rp2, .inr (6, [wrp20, wrp21, .ref cb2, .int 0])), (ca2, .inl (cx2, 32, .inl fa2)), (cb2, .inl (cy2, 32, .inl fb2)), (r3, .inr (6, [wr30, .int 6, .ref ca3, wr33])), (rp3, .inr (6, [wrp30, wrp31, .ref cb3, .int 0])), (ca3, .inl (cx3, 24, .inl fa3)), (cb3, .inl (cy3, 24, .inl fb3))]) (w1 := []) hP hD [3, 4, 5, 6] [0, 1, 2, 7, 8, 9, 10, 11, 12, 13, 14, 15, 16, 17, 18] rfl rfl (by decide) (by decide) hk1 hFc tz_P0 tz_D0
  generalize H1 = H at hP hS ⊢
  have hP : va_P (dC, dI) vwCl [(bo, .inr (0, [.ref r0, .ref r1, .ref r2, .ref r3, .ref ea, vb5])), (bp, .inr (0, [.ref rp0, .ref rp1, .ref rp2, .ref rp3, vp4, .int 0])), (ea, .inl (ce, 8, .inr (.inr (.inr (.inr fe))))), (r1, .inr (6, [wr10, .int 5, .ref ca1, wr13])), (rp1, .inr (6, [wrp10, wrp11, .ref cb1, .int 0])), (ca1, .inl (cx1, 20, .inl fa1)), (cb1, .inl (cy1, 20, .inl fb1)), (r2, .inr (6, [wr20, .int 8, .ref ca2, wr23])), (rp2, .inr (6, [wrp20, wrp21, .ref cb2, .int 0])), (ca2, .inl (cx2, 32, .inl fa2)), (cb2, .inl (cy2, 32, .inl fb2)), (r3, .inr (6, [wr30, .int 6, .ref ca3, wr33])), (rp3, .inr (6, [wrp30, wrp31, .ref cb3, .int 0])), (ca3, .inl (cx3, 24, .inl fa3)), (cb3, .inl (cy3, 24, .inl fb3))] H := hP
  have hD : va_D A [(bo, .inr (0, [.ref r0, .ref r1, .ref r2, .ref r3, .ref ea, vb5])), (bp, .inr (0, [.ref rp0, .ref rp1, .ref rp2, .ref rp3, vp4, .int 0])), (ea, .inl (ce, 8, .inr (.inr (.inr (.inr fe))))), (r1, .inr (6, [wr10, .int 5, .ref ca1, wr13])), (rp1, .inr (6, [wrp10, wrp11, .ref cb1, .int 0])), (ca1, .inl (cx1, 20, .inl fa1)), (cb1, .inl (cy1, 20, .inl fb1)), (r2, .inr (6, [wr20, .int 8, .ref ca2, wr23])), (rp2, .inr (6, [wrp20, wrp21, .ref cb2, .int 0])), (ca2, .inl (cx2, 32, .inl fa2)), (cb2, .inl (cy2, 32, .inl fb2)), (r3, .inr (6, [wr30, .int 6, .ref ca3, wr33])), (rp3, .inr (6, [wrp30, wrp31, .ref cb3, .int 0])), (ca3, .inl (cx3, 24, .inl fa3)), (cb3, .inl (cy3, 24, .inl fb3))] := hD
  refine lv_aload_n hx hb dX0_copyFrom_11 rfl (lv_at hl 0 rfl) ?_
  refine va_get (D := (dC, dI)) (ci := 0) (v := .ref r1) (C := RX0) (T := TX0) (N := 6) hx hb hts iw_k_bcopy_X0 hown hK hP 0 rfl rfl 1 (by decide) (hts (.fieldLink RX0 20 "ThriceCounted$Bank" "bundles" "LThriceCounted$Rows;") (by decide +kernel)) (fun _ h9 => h9) rfl dX0_copyFrom_12 ?_
  refine lv_aload_n hx hb dX0_copyFrom_15 rfl (lv_at hl 1 rfl) ?_
  refine va_get (D := (dC, dI)) (ci := 0) (v := .ref rp1) (C := RX0) (T := TX0) (N := 6) hx hb hts iw_k_bcopy_X0 hown hK hP 1 rfl rfl 1 (by decide) (hts (.fieldLink RX0 20 "ThriceCounted$Bank" "bundles" "LThriceCounted$Rows;") (by decide +kernel)) (fun _ h9 => h9) rfl dX0_copyFrom_16 ?_
  have hPc := hP.sub (ws' := [(r1, .inr (6, [wr10, .int 5, .ref ca1, wr13])), (rp1, .inr (6, [wrp10, wrp11, .ref cb1, .int 0])), (ca1, .inl (cx1, 20, .inl fa1)), (cb1, .inl (cy1, 20, .inl fb1))]) [3, 4, 5, 6] rfl
  have hDc := hD.sub (ws' := [(r1, .inr (6, [wr10, .int 5, .ref ca1, wr13])), (rp1, .inr (6, [wrp10, wrp11, .ref cb1, .int 0])), (ca1, .inl (cx1, 20, .inl fa1)), (cb1, .inl (cy1, 20, .inl fb1))]) [3, 4, 5, 6] (by decide) rfl
  have hKc := hK.sub (tys' := [(cx1, .int), (cy1, .int)]) [3, 4] rfl
  have hFc := va_free (wc := [(r1, .inr (6, [wr10, .int 5, .ref ca1, wr13])), (rp1, .inr (6, [wrp10, wrp11, .ref cb1, .int 0])), (ca1, .inl (cx1, 20, .inl fa1)), (cb1, .inl (cy1, 20, .inl fb1))]) hD hS hA [3, 4, 5, 6] rfl
  refine va_callv (va_runV (As := [.ref rp1]) (rest := []) ⟨hx, hb, hml, hown, hts⟩ (k_rcopy_20 l dC dI r1 wr10 ca1 wr13 rp1 wrp10 wrp11 cb1 cx1 fa1 cy1 fb1 H.size) (cwV 1 hts gX0_copyFrom_X6_copyFrom rfl rfl rfl (by decide +kernel) ⟨Nat.le_of_ble_eq_true rfl, Nat.le_of_ble_eq_true rfl⟩) ⟨fun a U g mk q => by obtain ⟨q0, q1, qP, qK, qD⟩ := q; exact ⟨q0, q1, qP, va_K.moved (u := U) (U := U.calling g mk a) (Vm.Alike.refl U.vm) qK, qD⟩, va_recv hK hP (ci := 6) (q0 := 3) rfl rfl, fun U hU hW => ⟨rfl, by rw [hU], by rw [hU]; exact hPc, va_K.moved hW.alike hKc, hDc.weaken (fun _ _ _ _ => trivial)⟩⟩ rfl rfl hl.1 rfl (lv_room (Nat.le_of_ble_eq_true rfl)) dX0_copyFrom_19 ⟨Nat.le_of_ble_eq_true rfl, Nat.le_of_ble_eq_true rfl⟩) hS (fun q _ h => hFc q h) hFc (fun u_ t H1 locs ht hvm hw_4 hB hz1 hk1 hS => ?_)
  obtain ⟨hP, hD⟩ := va_join (wr := [(bo, .inr (0, [.ref r0, .ref r1, .ref r2, .ref r3, .ref ea, vb5])), (bp, .inr (0, [.ref rp0, .ref rp1, .ref rp2, .ref rp3, vp4, .int 0])), (ea, .inl (ce, 8, .inr (.inr (.inr (.inr fe))))), (r2, .inr (6, [wr20, .int 8, .ref ca2, wr23])), (rp2, .inr (6, [wrp20, wrp21, .ref cb2, .int 0])), (ca2, .inl (cx2, 32, .inl fa2)), (cb2, .inl (cy2, 32, .inl fb2)), (r3, .inr (6, [wr30, .int 6, .ref ca3, wr33])), (rp3, .inr (6, [wrp30, wrp31, .ref cb3, .int 0])), (ca3, .inl (cx3, 24, .inl fa3)), (cb3, .inl (cy3, 24, .inl fb3))]) (w1 := []) hP hD [3, 4, 5, 6] [0, 1, 2, 7, 8, 9, 10, 11, 12, 13, 14] rfl rfl (by decide) (by decide) hk1 hFc tz_P0 tz_D0
  generalize H1 = H at hP hS ⊢
  have hP : va_P (dC, dI) vwCl [(bo, .inr (0, [.ref r0, .ref r1, .ref r2, .ref r3, .ref ea, vb5])), (bp, .inr (0, [.ref rp0, .ref rp1, .ref rp2, .ref rp3, vp4, .int 0])), (ea, .inl (ce, 8, .inr (.inr (.inr (.inr fe))))), (r2, .inr (6, [wr20, .int 8, .ref ca2, wr23])), (rp2, .inr (6, [wrp20, wrp21, .ref cb2, .int 0])), (ca2, .inl (cx2, 32, .inl fa2)), (cb2, .inl (cy2, 32, .inl fb2)), (r3, .inr (6, [wr30, .int 6, .ref ca3, wr33])), (rp3, .inr (6, [wrp30, wrp31, .ref cb3, .int 0])), (ca3, .inl (cx3, 24, .inl fa3)), (cb3, .inl (cy3, 24, .inl fb3))] H := hP
  have hD : va_D A [(bo, .inr (0, [.ref r0, .ref r1, .ref r2, .ref r3, .ref ea, vb5])), (bp, .inr (0, [.ref rp0, .ref rp1, .ref rp2, .ref rp3, vp4, .int 0])), (ea, .inl (ce, 8, .inr (.inr (.inr (.inr fe))))), (r2, .inr (6, [wr20, .int 8, .ref ca2, wr23])), (rp2, .inr (6, [wrp20, wrp21, .ref cb2, .int 0])), (ca2, .inl (cx2, 32, .inl fa2)), (cb2, .inl (cy2, 32, .inl fb2)), (r3, .inr (6, [wr30, .int 6, .ref ca3, wr33])), (rp3, .inr (6, [wrp30, wrp31, .ref cb3, .int 0])), (ca3, .inl (cx3, 24, .inl fa3)), (cb3, .inl (cy3, 24, .inl fb3))] := hD
  refine lv_aload_n hx hb dX0_copyFrom_22 rfl (lv_at hl 0 rfl) ?_
  refine va_get (D := (dC, dI)) (ci := 0) (v := .ref r2) (C := RX0) (T := TX0) (N := 6) hx hb hts iw_k_bcopy_X0 hown hK hP 0 rfl rfl 2 (by decide) (hts (.fieldLink RX0 23 "ThriceCounted$Bank" "counts" "LThriceCounted$Rows;") (by decide +kernel)) (fun _ h9 => h9) rfl dX0_copyFrom_23 ?_
  refine lv_aload_n hx hb dX0_copyFrom_26 rfl (lv_at hl 1 rfl) ?_
  refine va_get (D := (dC, dI)) (ci := 0) (v := .ref rp2) (C := RX0) (T := TX0) (N := 6) hx hb hts iw_k_bcopy_X0 hown hK hP 1 rfl rfl 2 (by decide) (hts (.fieldLink RX0 23 "ThriceCounted$Bank" "counts" "LThriceCounted$Rows;") (by decide +kernel)) (fun _ h9 => h9) rfl dX0_copyFrom_27 ?_
  have hPc := hP.sub (ws' := [(r2, .inr (6, [wr20, .int 8, .ref ca2, wr23])), (rp2, .inr (6, [wrp20, wrp21, .ref cb2, .int 0])), (ca2, .inl (cx2, 32, .inl fa2)), (cb2, .inl (cy2, 32, .inl fb2))]) [3, 4, 5, 6] rfl
  have hDc := hD.sub (ws' := [(r2, .inr (6, [wr20, .int 8, .ref ca2, wr23])), (rp2, .inr (6, [wrp20, wrp21, .ref cb2, .int 0])), (ca2, .inl (cx2, 32, .inl fa2)), (cb2, .inl (cy2, 32, .inl fb2))]) [3, 4, 5, 6] (by decide) rfl
  have hKc := hK.sub (tys' := [(cx2, .int), (cy2, .int)]) [5, 6] rfl
  have hFc := va_free (wc := [(r2, .inr (6, [wr20, .int 8, .ref ca2, wr23])), (rp2, .inr (6, [wrp20, wrp21, .ref cb2, .int 0])), (ca2, .inl (cx2, 32, .inl fa2)), (cb2, .inl (cy2, 32, .inl fb2))]) hD hS hA [3, 4, 5, 6] rfl
  refine va_callv (va_runV (As := [.ref rp2]) (rest := []) ⟨hx, hb, hml, hown, hts⟩ (k_rcopy_32 l dC dI r2 wr20 ca2 wr23 rp2 wrp20 wrp21 cb2 cx2 fa2 cy2 fb2 H.size) (cwV 1 hts gX0_copyFrom_X6_copyFrom rfl rfl rfl (by decide +kernel) ⟨Nat.le_of_ble_eq_true rfl, Nat.le_of_ble_eq_true rfl⟩) ⟨fun a U g mk q => by obtain ⟨q0, q1, qP, qK, qD⟩ := q; exact ⟨q0, q1, qP, va_K.moved (u := U) (U := U.calling g mk a) (Vm.Alike.refl U.vm) qK, qD⟩, va_recv hK hP (ci := 6) (q0 := 3) rfl rfl, fun U hU hW => ⟨rfl, by rw [hU], by rw [hU]; exact hPc, va_K.moved hW.alike hKc, hDc.weaken (fun _ _ _ _ => trivial)⟩⟩ rfl rfl hl.1 rfl (lv_room (Nat.le_of_ble_eq_true rfl)) dX0_copyFrom_30 ⟨Nat.le_of_ble_eq_true rfl, Nat.le_of_ble_eq_true rfl⟩) hS (fun q _ h => hFc q h) hFc (fun u_ t H1 locs ht hvm hw_6 hB hz1 hk1 hS => ?_)
  obtain ⟨hP, hD⟩ := va_join (wr := [(bo, .inr (0, [.ref r0, .ref r1, .ref r2, .ref r3, .ref ea, vb5])), (bp, .inr (0, [.ref rp0, .ref rp1, .ref rp2, .ref rp3, vp4, .int 0])), (ea, .inl (ce, 8, .inr (.inr (.inr (.inr fe))))), (r3, .inr (6, [wr30, .int 6, .ref ca3, wr33])), (rp3, .inr (6, [wrp30, wrp31, .ref cb3, .int 0])), (ca3, .inl (cx3, 24, .inl fa3)), (cb3, .inl (cy3, 24, .inl fb3))]) (w1 := []) hP hD [3, 4, 5, 6] [0, 1, 2, 7, 8, 9, 10] rfl rfl (by decide) (by decide) hk1 hFc tz_P0 tz_D0
  generalize H1 = H at hP hS ⊢
  have hP : va_P (dC, dI) vwCl [(bo, .inr (0, [.ref r0, .ref r1, .ref r2, .ref r3, .ref ea, vb5])), (bp, .inr (0, [.ref rp0, .ref rp1, .ref rp2, .ref rp3, vp4, .int 0])), (ea, .inl (ce, 8, .inr (.inr (.inr (.inr fe))))), (r3, .inr (6, [wr30, .int 6, .ref ca3, wr33])), (rp3, .inr (6, [wrp30, wrp31, .ref cb3, .int 0])), (ca3, .inl (cx3, 24, .inl fa3)), (cb3, .inl (cy3, 24, .inl fb3))] H := hP
  have hD : va_D A [(bo, .inr (0, [.ref r0, .ref r1, .ref r2, .ref r3, .ref ea, vb5])), (bp, .inr (0, [.ref rp0, .ref rp1, .ref rp2, .ref rp3, vp4, .int 0])), (ea, .inl (ce, 8, .inr (.inr (.inr (.inr fe))))), (r3, .inr (6, [wr30, .int 6, .ref ca3, wr33])), (rp3, .inr (6, [wrp30, wrp31, .ref cb3, .int 0])), (ca3, .inl (cx3, 24, .inl fa3)), (cb3, .inl (cy3, 24, .inl fb3))] := hD
  refine lv_aload_n hx hb dX0_copyFrom_33 rfl (lv_at hl 0 rfl) ?_
  refine va_get (D := (dC, dI)) (ci := 0) (v := .ref r3) (C := RX0) (T := TX0) (N := 6) hx hb hts iw_k_bcopy_X0 hown hK hP 0 rfl rfl 3 (by decide) (hts (.fieldLink RX0 26 "ThriceCounted$Bank" "causes" "LThriceCounted$Rows;") (by decide +kernel)) (fun _ h9 => h9) rfl dX0_copyFrom_34 ?_
  refine lv_aload_n hx hb dX0_copyFrom_37 rfl (lv_at hl 1 rfl) ?_
  refine va_get (D := (dC, dI)) (ci := 0) (v := .ref rp3) (C := RX0) (T := TX0) (N := 6) hx hb hts iw_k_bcopy_X0 hown hK hP 1 rfl rfl 3 (by decide) (hts (.fieldLink RX0 26 "ThriceCounted$Bank" "causes" "LThriceCounted$Rows;") (by decide +kernel)) (fun _ h9 => h9) rfl dX0_copyFrom_38 ?_
  have hPc := hP.sub (ws' := [(r3, .inr (6, [wr30, .int 6, .ref ca3, wr33])), (rp3, .inr (6, [wrp30, wrp31, .ref cb3, .int 0])), (ca3, .inl (cx3, 24, .inl fa3)), (cb3, .inl (cy3, 24, .inl fb3))]) [3, 4, 5, 6] rfl
  have hDc := hD.sub (ws' := [(r3, .inr (6, [wr30, .int 6, .ref ca3, wr33])), (rp3, .inr (6, [wrp30, wrp31, .ref cb3, .int 0])), (ca3, .inl (cx3, 24, .inl fa3)), (cb3, .inl (cy3, 24, .inl fb3))]) [3, 4, 5, 6] (by decide) rfl
  have hKc := hK.sub (tys' := [(cx3, .int), (cy3, .int)]) [7, 8] rfl
  have hFc := va_free (wc := [(r3, .inr (6, [wr30, .int 6, .ref ca3, wr33])), (rp3, .inr (6, [wrp30, wrp31, .ref cb3, .int 0])), (ca3, .inl (cx3, 24, .inl fa3)), (cb3, .inl (cy3, 24, .inl fb3))]) hD hS hA [3, 4, 5, 6] rfl
  refine va_callv (va_runV (As := [.ref rp3]) (rest := []) ⟨hx, hb, hml, hown, hts⟩ (k_rcopy_24 l dC dI r3 wr30 ca3 wr33 rp3 wrp30 wrp31 cb3 cx3 fa3 cy3 fb3 H.size) (cwV 1 hts gX0_copyFrom_X6_copyFrom rfl rfl rfl (by decide +kernel) ⟨Nat.le_of_ble_eq_true rfl, Nat.le_of_ble_eq_true rfl⟩) ⟨fun a U g mk q => by obtain ⟨q0, q1, qP, qK, qD⟩ := q; exact ⟨q0, q1, qP, va_K.moved (u := U) (U := U.calling g mk a) (Vm.Alike.refl U.vm) qK, qD⟩, va_recv hK hP (ci := 6) (q0 := 3) rfl rfl, fun U hU hW => ⟨rfl, by rw [hU], by rw [hU]; exact hPc, va_K.moved hW.alike hKc, hDc.weaken (fun _ _ _ _ => trivial)⟩⟩ rfl rfl hl.1 rfl (lv_room (Nat.le_of_ble_eq_true rfl)) dX0_copyFrom_41 ⟨Nat.le_of_ble_eq_true rfl, Nat.le_of_ble_eq_true rfl⟩) hS (fun q _ h => hFc q h) hFc (fun u_ t H1 locs ht hvm hw_8 hB hz1 hk1 hS => ?_)
  obtain ⟨hP, hD⟩ := va_join (wr := [(bo, .inr (0, [.ref r0, .ref r1, .ref r2, .ref r3, .ref ea, vb5])), (bp, .inr (0, [.ref rp0, .ref rp1, .ref rp2, .ref rp3, vp4, .int 0])), (ea, .inl (ce, 8, .inr (.inr (.inr (.inr fe)))))]) (w1 := []) hP hD [3, 4, 5, 6] [0, 1, 2] rfl rfl (by decide) (by decide) hk1 hFc tz_P0 tz_D0
  generalize H1 = H at hP hS ⊢
  have hP : va_P (dC, dI) vwCl [(bo, .inr (0, [.ref r0, .ref r1, .ref r2, .ref r3, .ref ea, vb5])), (bp, .inr (0, [.ref rp0, .ref rp1, .ref rp2, .ref rp3, vp4, .int 0])), (ea, .inl (ce, 8, .inr (.inr (.inr (.inr fe)))))] H := hP
  have hD : va_D A [(bo, .inr (0, [.ref r0, .ref r1, .ref r2, .ref r3, .ref ea, vb5])), (bp, .inr (0, [.ref rp0, .ref rp1, .ref rp2, .ref rp3, vp4, .int 0])), (ea, .inl (ce, 8, .inr (.inr (.inr (.inr fe)))))] := hD
  refine lv_aload_n hx hb dX0_copyFrom_44 rfl (lv_at hl 0 rfl) ?_
  refine lv_aload_n hx hb dX0_copyFrom_45 rfl (lv_at hl 1 rfl) ?_
  refine va_get (D := (dC, dI)) (ci := 0) (v := .int 0) (C := RX0) (T := TX0) (N := 6) hx hb hts iw_k_bcopy_X0 hown hK hP 1 rfl rfl 5 (by decide) (hts (.fieldLink RX0 33 "ThriceCounted$Bank" "undos" "I") (by decide +kernel)) (fun _ h9 => h9) rfl dX0_copyFrom_46 ?_
  refine lv_aload_n hx hb dX0_copyFrom_49 rfl (lv_at hl 0 rfl) ?_
  refine va_get (D := (dC, dI)) (ci := 0) (v := .ref ea) (C := RX0) (T := TX0) (N := 6) hx hb hts iw_k_bcopy_X0 hown hK hP 0 rfl rfl 4 (by decide) (hts (.fieldLink RX0 29 "ThriceCounted$Bank" "earlier" "[LThriceCounted$Rows;") (by decide +kernel)) (fun _ h9 => h9) rfl dX0_copyFrom_50 ?_
  refine va_alen (v := 8) hx hb hK hP 2 0 rfl rfl rfl dX0_copyFrom_53 ?_
  refine va_mmin hx hb (hml.trans hl.1.symm) hown (hts (.methodLink RX0 44 Lib.Math.min.name) (by decide +kernel)) (hts (.static Lib.Math.min.name) (by decide +kernel)) (hts (.initialized "java/lang/Math") (by decide +kernel)) (hts (.code Lib.Math.min.name Lib.Math.min.code 2 (some .int)) (by decide +kernel)) (Nat.le_of_ble_eq_true rfl) (Nat.le_of_ble_eq_true rfl) (Nat.le_of_ble_eq_true rfl) (Nat.le_of_ble_eq_true rfl) dX0_copyFrom_54 ?_
  refine tz_i 0 (by decide) ?_
  refine va_put (D := (dC, dI)) (ci := 0) (v := .int 0) (ty := .int) (C := RX0) (T := TX0) (N := 6) hx hb hts iw_k_bcopy_X0 tyX0 tyX0_ok nmX0 hown hK hP hD hS 0 rfl rfl 5 (by decide) (hts (.fieldLink RX0 33 "ThriceCounted$Bank" "undos" "I") (by decide +kernel)) (fun _ h9 => h9) rfl (by decide +kernel) rfl rfl (Nat.le_of_ble_eq_true rfl) dX0_copyFrom_57 (fun H locs hP hD hS => ?_)
  have hP : va_P (dC, dI) vwCl [(bo, .inr (0, [.ref r0, .ref r1, .ref r2, .ref r3, .ref ea, .int 0])), (bp, .inr (0, [.ref rp0, .ref rp1, .ref rp2, .ref rp3, vp4, .int 0])), (ea, .inl (ce, 8, .inr (.inr (.inr (.inr fe)))))] H := hP
  have hD : va_D A [(bo, .inr (0, [.ref r0, .ref r1, .ref r2, .ref r3, .ref ea, .int 0])), (bp, .inr (0, [.ref rp0, .ref rp1, .ref rp2, .ref rp3, vp4, .int 0])), (ea, .inl (ce, 8, .inr (.inr (.inr (.inr fe)))))] := hD
  refine lv_iconst (v := 0) hx hb dX0_copyFrom_60 (by decide) ?_
  refine lv_istore_n (lv' := [(2, .int 0), (0, .ref bo), (1, .ref bp)]) hx hb dX0_copyFrom_61 rfl hl (by decide) rfl (fun ls hl => ?_)
  refine lv_iload_n hx hb dX0_copyFrom_62 rfl (lv_at hl 0 rfl) ?_
  refine lv_aload_n hx hb dX0_copyFrom_63 rfl (lv_at hl 1 rfl) ?_
  refine va_get (D := (dC, dI)) (ci := 0) (v := .int 0) (C := RX0) (T := TX0) (N := 6) hx hb hts iw_k_bcopy_X0 hown hK hP 0 rfl rfl 5 (by decide) (hts (.fieldLink RX0 33 "ThriceCounted$Bank" "undos" "I") (by decide +kernel)) (fun _ h9 => h9) rfl dX0_copyFrom_64 ?_
  refine lv_icmp_ge (tgt := 100) hx hb dX0_copyFrom_67 (by decide) (fun c_9 => ?_) (fun c_9 => ?_)
  · exact W.vret hx hb hr (fun t ht hW => ⟨⟨(), rfl, trivial, trivial⟩, hS.F ht⟩) hS.2.2 dX0_copyFrom_100
  · exact absurd c_9 (by decide)
theorem dX6_mixInto_0 : decode cX6_mixInto 0 = .ok (.lload_n 1, 1) := by decide +kernel
theorem dX6_mixInto_1 : decode cX6_mixInto 1 = .ok (.lstore_n 3, 1) := by decide +kernel
theorem dX6_mixInto_2 : decode cX6_mixInto 2 = .ok (.iconst 0, 1) := by decide +kernel
theorem dX6_mixInto_3 : decode cX6_mixInto 3 = .ok (.istore 5, 2) := by decide +kernel
theorem dX6_mixInto_5 : decode cX6_mixInto 5 = .ok (.iload 5, 2) := by decide +kernel
theorem dX6_mixInto_7 : decode cX6_mixInto 7 = .ok (.aload_n 0, 1) := by decide +kernel
theorem dX6_mixInto_8 : decode cX6_mixInto 8 = .ok (.getfield 9, 3) := by decide +kernel
theorem dX6_mixInto_11 : decode cX6_mixInto 11 = .ok (.aload_n 0, 1) := by decide +kernel
theorem dX6_mixInto_12 : decode cX6_mixInto 12 = .ok (.getfield 24, 3) := by decide +kernel
theorem dX6_mixInto_15 : decode cX6_mixInto 15 = .ok (.imul, 1) := by decide +kernel
theorem dX6_mixInto_16 : decode cX6_mixInto 16 = .ok (.if_icmp .ge 34, 3) := by decide +kernel
theorem dX6_mixInto_50 : decode cX6_mixInto 50 = .ok (.lload_n 3, 1) := by decide +kernel
theorem dX6_mixInto_51 : decode cX6_mixInto 51 = .ok (.lreturn, 1) := by decide +kernel
set_option maxRecDepth 20000 in
theorem iw_k_mix_1_X6 : ∀ w ∈ wsX60, w ∈ wsX6_mixInto := by decide +kernel
set_option maxHeartbeats 4000000 in
set_option maxRecDepth 100000 in
theorem k_mix_1 (l : Launch) (dC : Nat → ClassId) (dI : Nat → Nat → Nat) (ro : Nat) (w1 : Value) (w2 : Value) (hh : Int64) : Met l yX6_mixInto wsX6_mixInto ({ frames := 0, cells := 0, slots := 0, locals := 0 }) (va_Pc [.ref ro, .long hh] (fun U => va_P (dC, dI) vwCl [(ro, .inr (6, [.int 1, w1, w2, .int 0]))] U.heap ∧ va_K (dC, dI) vwCl [] U)) (vp_Sl (fun r => r = hh)) 0 0 (fun _ => False) := by
  refine Met.ofW (cc := cX6_mixInto) (maxL := 6) (ret := (some .long)) (by decide) rfl ?_
  intro p e s m args below meth c s₁ B hml hv
  obtain ⟨rfl, hP, hK⟩ := hv
  have hx := B.exec
  have hb := B.bytes
  have hr := B.returns
  have hts := atoms_spec (ws := wsX6_mixInto) B.pre
  have hown : s.vm.findClass RX6 = some m.cls := findClass_of_methodNamed B.named
  have hlocks := B.notSynchronized
  have hl := lv_entry ([.ref ro, .long hh]) (n := 6) (Nat.le_of_ble_eq_true rfl)
  rw [lg_entry_eq]
  generalize (lg_sl ([.ref ro, .long hh]) ++ List.replicate (6 - (lg_sl ([.ref ro, .long hh])).length) Slot.unset).toArray = ls at hl ⊢
  have hl : lv_has ls 6 [(0, .ref ro), (1, .long hh)] := hl
  refine lv_lload_n hx hb dX6_mixInto_0 rfl (lv_at hl 1 rfl) ?_
  refine lv_lstore_n (lv' := [(3, .long hh), (0, .ref ro), (1, .long hh)]) hx hb dX6_mixInto_1 rfl hl (by decide) rfl (fun ls hl => ?_)
  refine lv_iconst (v := 0) hx hb dX6_mixInto_2 (by decide) ?_
  refine lv_istore (lv' := [(5, .int 0), (3, .long hh), (0, .ref ro), (1, .long hh)]) hx hb dX6_mixInto_3 hl (by decide) rfl (fun ls hl => ?_)
  refine lv_iload hx hb dX6_mixInto_5 (lv_at hl 0 rfl) ?_
  refine lv_aload_n hx hb dX6_mixInto_7 rfl (lv_at hl 2 rfl) ?_
  refine va_get (D := (dC, dI)) (ci := 6) (v := .int 0) (C := RX6) (T := TX6) (N := 4) hx hb hts iw_k_mix_1_X6 hown hK hP 0 rfl rfl 3 (by decide) (hts (.fieldLink RX6 9 "ThriceCounted$Rows" "size" "I") (by decide +kernel)) (fun _ h9 => h9) rfl dX6_mixInto_8 ?_
  refine lv_aload_n hx hb dX6_mixInto_11 rfl (lv_at hl 2 rfl) ?_
  refine va_get (D := (dC, dI)) (ci := 6) (v := .int 1) (C := RX6) (T := TX6) (N := 4) hx hb hts iw_k_mix_1_X6 hown hK hP 0 rfl rfl 0 (by decide) (hts (.fieldLink RX6 24 "ThriceCounted$Rows" "width" "I") (by decide +kernel)) (fun _ h9 => h9) rfl dX6_mixInto_12 ?_
  refine lv_imul hx hb dX6_mixInto_15 ?_
  refine tz_i 0 (by decide) ?_
  refine lv_icmp_ge (tgt := 50) hx hb dX6_mixInto_16 (by decide) (fun c_1 => ?_) (fun c_1 => ?_)
  · refine lv_lload_n hx hb dX6_mixInto_50 rfl (lv_at hl 1 rfl) ?_
    exact W.lret (v := hh) hx hb hr (fun t ht hW => ⟨hh, rfl, rfl, ht⟩) (fun _ h => absurd h List.not_mem_nil) dX6_mixInto_51
  · exact absurd c_1 (by decide)
set_option maxRecDepth 20000 in
theorem iw_k_mix_4_X6 : ∀ w ∈ wsX60, w ∈ wsX6_mixInto := by decide +kernel
set_option maxHeartbeats 4000000 in
set_option maxRecDepth 100000 in
theorem k_mix_4 (l : Launch) (dC : Nat → ClassId) (dI : Nat → Nat → Nat) (ro : Nat) (w1 : Value) (w2 : Value) (hh : Int64) : Met l yX6_mixInto wsX6_mixInto ({ frames := 0, cells := 0, slots := 0, locals := 0 }) (va_Pc [.ref ro, .long hh] (fun U => va_P (dC, dI) vwCl [(ro, .inr (6, [.int 4, w1, w2, .int 0]))] U.heap ∧ va_K (dC, dI) vwCl [] U)) (vp_Sl (fun r => r = hh)) 0 0 (fun _ => False) := by
  refine Met.ofW (cc := cX6_mixInto) (maxL := 6) (ret := (some .long)) (by decide) rfl ?_
  intro p e s m args below meth c s₁ B hml hv
  obtain ⟨rfl, hP, hK⟩ := hv
  have hx := B.exec
  have hb := B.bytes
  have hr := B.returns
  have hts := atoms_spec (ws := wsX6_mixInto) B.pre
  have hown : s.vm.findClass RX6 = some m.cls := findClass_of_methodNamed B.named
  have hlocks := B.notSynchronized
  have hl := lv_entry ([.ref ro, .long hh]) (n := 6) (Nat.le_of_ble_eq_true rfl)
  rw [lg_entry_eq]
  generalize (lg_sl ([.ref ro, .long hh]) ++ List.replicate (6 - (lg_sl ([.ref ro, .long hh])).length) Slot.unset).toArray = ls at hl ⊢
  have hl : lv_has ls 6 [(0, .ref ro), (1, .long hh)] := hl
  refine lv_lload_n hx hb dX6_mixInto_0 rfl (lv_at hl 1 rfl) ?_
  refine lv_lstore_n (lv' := [(3, .long hh), (0, .ref ro), (1, .long hh)]) hx hb dX6_mixInto_1 rfl hl (by decide) rfl (fun ls hl => ?_)
  refine lv_iconst (v := 0) hx hb dX6_mixInto_2 (by decide) ?_
  refine lv_istore (lv' := [(5, .int 0), (3, .long hh), (0, .ref ro), (1, .long hh)]) hx hb dX6_mixInto_3 hl (by decide) rfl (fun ls hl => ?_)
  refine lv_iload hx hb dX6_mixInto_5 (lv_at hl 0 rfl) ?_
  refine lv_aload_n hx hb dX6_mixInto_7 rfl (lv_at hl 2 rfl) ?_
  refine va_get (D := (dC, dI)) (ci := 6) (v := .int 0) (C := RX6) (T := TX6) (N := 4) hx hb hts iw_k_mix_4_X6 hown hK hP 0 rfl rfl 3 (by decide) (hts (.fieldLink RX6 9 "ThriceCounted$Rows" "size" "I") (by decide +kernel)) (fun _ h9 => h9) rfl dX6_mixInto_8 ?_
  refine lv_aload_n hx hb dX6_mixInto_11 rfl (lv_at hl 2 rfl) ?_
  refine va_get (D := (dC, dI)) (ci := 6) (v := .int 4) (C := RX6) (T := TX6) (N := 4) hx hb hts iw_k_mix_4_X6 hown hK hP 0 rfl rfl 0 (by decide) (hts (.fieldLink RX6 24 "ThriceCounted$Rows" "width" "I") (by decide +kernel)) (fun _ h9 => h9) rfl dX6_mixInto_12 ?_
  refine lv_imul hx hb dX6_mixInto_15 ?_
  refine tz_i 0 (by decide) ?_
  refine lv_icmp_ge (tgt := 50) hx hb dX6_mixInto_16 (by decide) (fun c_1 => ?_) (fun c_1 => ?_)
  · refine lv_lload_n hx hb dX6_mixInto_50 rfl (lv_at hl 1 rfl) ?_
    exact W.lret (v := hh) hx hb hr (fun t ht hW => ⟨hh, rfl, rfl, ht⟩) (fun _ h => absurd h List.not_mem_nil) dX6_mixInto_51
  · exact absurd c_1 (by decide)
theorem dX2_above_0 : decode cX2_above 0 = .ok (.aload_n 0, 1) := by decide +kernel
theorem dX2_above_1 : decode cX2_above 1 = .ok (.getfield 7, 3) := by decide +kernel
theorem dX2_above_4 : decode cX2_above 4 = .ok (.lreturn, 1) := by decide +kernel
set_option maxRecDepth 20000 in
theorem iw_k_above_X2 : ∀ w ∈ wsX20, w ∈ wsX2_above := by decide +kernel
set_option maxHeartbeats 4000000 in
set_option maxRecDepth 100000 in
theorem k_above (l : Launch) (dC : Nat → ClassId) (dI : Nat → Nat → Nat) (fo : Nat) (la : Int64) (vf1 : Value) : Met l yX2_above wsX2_above ({ frames := 0, cells := 0, slots := 0, locals := 0 }) (va_Pc [.ref fo] (fun U => va_P (dC, dI) vwCl [(fo, .inr (2, [.long la, vf1]))] U.heap ∧ va_K (dC, dI) vwCl [] U)) (vp_Sl (fun r => r = la)) 0 0 (fun _ => False) := by
  refine Met.ofW (cc := cX2_above) (maxL := 1) (ret := (some .long)) (by decide) rfl ?_
  intro p e s m args below meth c s₁ B hml hv
  obtain ⟨rfl, hP, hK⟩ := hv
  have hx := B.exec
  have hb := B.bytes
  have hr := B.returns
  have hts := atoms_spec (ws := wsX2_above) B.pre
  have hown : s.vm.findClass RX2 = some m.cls := findClass_of_methodNamed B.named
  have hlocks := B.notSynchronized
  have hl := lv_entry ([.ref fo]) (n := 1) (Nat.le_of_ble_eq_true rfl)
  rw [lg_entry_eq]
  generalize (lg_sl ([.ref fo]) ++ List.replicate (1 - (lg_sl ([.ref fo])).length) Slot.unset).toArray = ls at hl ⊢
  have hl : lv_has ls 1 [(0, .ref fo)] := hl
  refine lv_aload_n hx hb dX2_above_0 rfl (lv_at hl 0 rfl) ?_
  refine va_get (D := (dC, dI)) (ci := 2) (v := .long la) (C := RX2) (T := TX2) (N := 2) hx hb hts iw_k_above_X2 hown hK hP 0 rfl rfl 0 (by decide) (hts (.fieldLink RX2 7 "ThriceCounted$Fraction" "above" "J") (by decide +kernel)) (fun _ h9 => h9) rfl dX2_above_1 ?_
  exact W.lret (v := la) hx hb hr (fun t ht hW => ⟨la, rfl, rfl, ht⟩) (fun _ h => absurd h List.not_mem_nil) dX2_above_4
theorem dX2_below_0 : decode cX2_below 0 = .ok (.aload_n 0, 1) := by decide +kernel
theorem dX2_below_1 : decode cX2_below 1 = .ok (.getfield 13, 3) := by decide +kernel
theorem dX2_below_4 : decode cX2_below 4 = .ok (.lreturn, 1) := by decide +kernel
set_option maxRecDepth 20000 in
theorem iw_k_below_X2 : ∀ w ∈ wsX20, w ∈ wsX2_below := by decide +kernel
set_option maxHeartbeats 4000000 in
set_option maxRecDepth 100000 in
theorem k_below (l : Launch) (dC : Nat → ClassId) (dI : Nat → Nat → Nat) (fo : Nat) (vf0 : Value) (lb : Int64) : Met l yX2_below wsX2_below ({ frames := 0, cells := 0, slots := 0, locals := 0 }) (va_Pc [.ref fo] (fun U => va_P (dC, dI) vwCl [(fo, .inr (2, [vf0, .long lb]))] U.heap ∧ va_K (dC, dI) vwCl [] U)) (vp_Sl (fun r => r = lb)) 0 0 (fun _ => False) := by
  refine Met.ofW (cc := cX2_below) (maxL := 1) (ret := (some .long)) (by decide) rfl ?_
  intro p e s m args below meth c s₁ B hml hv
  obtain ⟨rfl, hP, hK⟩ := hv
  have hx := B.exec
  have hb := B.bytes
  have hr := B.returns
  have hts := atoms_spec (ws := wsX2_below) B.pre
  have hown : s.vm.findClass RX2 = some m.cls := findClass_of_methodNamed B.named
  have hlocks := B.notSynchronized
  have hl := lv_entry ([.ref fo]) (n := 1) (Nat.le_of_ble_eq_true rfl)
  rw [lg_entry_eq]
  generalize (lg_sl ([.ref fo]) ++ List.replicate (1 - (lg_sl ([.ref fo])).length) Slot.unset).toArray = ls at hl ⊢
  have hl : lv_has ls 1 [(0, .ref fo)] := hl
  refine lv_aload_n hx hb dX2_below_0 rfl (lv_at hl 0 rfl) ?_
  refine va_get (D := (dC, dI)) (ci := 2) (v := .long lb) (C := RX2) (T := TX2) (N := 2) hx hb hts iw_k_below_X2 hown hK hP 0 rfl rfl 1 (by decide) (hts (.fieldLink RX2 13 "ThriceCounted$Fraction" "below" "J") (by decide +kernel)) (fun _ h9 => h9) rfl dX2_below_1 ?_
  exact W.lret (v := lb) hx hb hr (fun t ht hW => ⟨lb, rfl, rfl, ht⟩) (fun _ h => absurd h List.not_mem_nil) dX2_below_4
theorem dX2_commonDivisor_0 : decode cX2_commonDivisor 0 = .ok (.lload_n 0, 1) := by decide +kernel
theorem dX2_commonDivisor_1 : decode cX2_commonDivisor 1 = .ok (.lstore 4, 2) := by decide +kernel
theorem dX2_commonDivisor_3 : decode cX2_commonDivisor 3 = .ok (.lload_n 2, 1) := by decide +kernel
theorem dX2_commonDivisor_4 : decode cX2_commonDivisor 4 = .ok (.lstore 6, 2) := by decide +kernel
theorem dX2_commonDivisor_6 : decode cX2_commonDivisor 6 = .ok (.iconst 0, 1) := by decide +kernel
theorem dX2_commonDivisor_7 : decode cX2_commonDivisor 7 = .ok (.istore 8, 2) := by decide +kernel
theorem dX2_commonDivisor_9 : decode cX2_commonDivisor 9 = .ok (.iload 8, 2) := by decide +kernel
theorem dX2_commonDivisor_11 : decode cX2_commonDivisor 11 = .ok (.bipush 100, 2) := by decide +kernel
theorem dX2_commonDivisor_13 : decode cX2_commonDivisor 13 = .ok (.if_icmp .ge 31, 3) := by decide +kernel
theorem dX2_commonDivisor_16 : decode cX2_commonDivisor 16 = .ok (.lload 6, 2) := by decide +kernel
theorem dX2_commonDivisor_18 : decode cX2_commonDivisor 18 = .ok (.lconst 0, 1) := by decide +kernel
theorem dX2_commonDivisor_19 : decode cX2_commonDivisor 19 = .ok (.lcmp, 1) := by decide +kernel
theorem dX2_commonDivisor_20 : decode cX2_commonDivisor 20 = .ok (.ifCond .eq 24, 3) := by decide +kernel
theorem dX2_commonDivisor_23 : decode cX2_commonDivisor 23 = .ok (.lload 4, 2) := by decide +kernel
theorem dX2_commonDivisor_25 : decode cX2_commonDivisor 25 = .ok (.lload 6, 2) := by decide +kernel
theorem dX2_commonDivisor_27 : decode cX2_commonDivisor 27 = .ok (.lrem, 1) := by decide +kernel
theorem dX2_commonDivisor_28 : decode cX2_commonDivisor 28 = .ok (.lstore 9, 2) := by decide +kernel
theorem dX2_commonDivisor_30 : decode cX2_commonDivisor 30 = .ok (.lload 6, 2) := by decide +kernel
theorem dX2_commonDivisor_32 : decode cX2_commonDivisor 32 = .ok (.lstore 4, 2) := by decide +kernel
theorem dX2_commonDivisor_34 : decode cX2_commonDivisor 34 = .ok (.lload 9, 2) := by decide +kernel
theorem dX2_commonDivisor_36 : decode cX2_commonDivisor 36 = .ok (.lstore 6, 2) := by decide +kernel
theorem dX2_commonDivisor_38 : decode cX2_commonDivisor 38 = .ok (.iinc 8 1, 3) := by decide +kernel
theorem dX2_commonDivisor_41 : decode cX2_commonDivisor 41 = .ok (.goto (-32), 3) := by decide +kernel
theorem dX2_commonDivisor_44 : decode cX2_commonDivisor 44 = .ok (.lload 4, 2) := by decide +kernel
theorem dX2_commonDivisor_46 : decode cX2_commonDivisor 46 = .ok (.lreturn, 1) := by decide +kernel
set_option maxHeartbeats 4000000 in
set_option maxRecDepth 100000 in
theorem k_gcd01 (l : Launch) (dC : Nat → ClassId) (dI : Nat → Nat → Nat) : Met l yX2_commonDivisor wsX2_commonDivisor ({ frames := 0, cells := 0, slots := 0, locals := 0 }) (va_Pc [.long 0, .long 1] (fun _ => True)) (vp_Sl (fun r => r = 1)) 0 0 (fun _ => False) := by
  refine Met.ofW (cc := cX2_commonDivisor) (maxL := 11) (ret := (some .long)) (by decide) rfl ?_
  intro p e s m args below meth c s₁ B hml hv
  obtain ⟨rfl, -⟩ := hv
  have hx := B.exec
  have hb := B.bytes
  have hr := B.returns
  have hts := atoms_spec (ws := wsX2_commonDivisor) B.pre
  have hown : s.vm.findClass RX2 = some m.cls := findClass_of_methodNamed B.named
  have hlocks := B.notSynchronized
  have hl := lv_entry ([.long 0, .long 1]) (n := 11) (Nat.le_of_ble_eq_true rfl)
  rw [lg_entry_eq]
  generalize (lg_sl ([.long 0, .long 1]) ++ List.replicate (11 - (lg_sl ([.long 0, .long 1])).length) Slot.unset).toArray = ls at hl ⊢
  have hl : lv_has ls 11 [(0, .long 0), (2, .long 1)] := hl
  refine lv_lload_n hx hb dX2_commonDivisor_0 rfl (lv_at hl 0 rfl) ?_
  refine lv_lstore (lv' := [(4, .long 0), (0, .long 0), (2, .long 1)]) hx hb dX2_commonDivisor_1 hl (by decide) rfl (fun ls hl => ?_)
  refine lv_lload_n hx hb dX2_commonDivisor_3 rfl (lv_at hl 2 rfl) ?_
  refine lv_lstore (lv' := [(6, .long 1), (4, .long 0), (0, .long 0), (2, .long 1)]) hx hb dX2_commonDivisor_4 hl (by decide) rfl (fun ls hl => ?_)
  refine lv_iconst (v := 0) hx hb dX2_commonDivisor_6 (by decide) ?_
  refine lv_istore (lv' := [(8, .int 0), (6, .long 1), (4, .long 0), (0, .long 0), (2, .long 1)]) hx hb dX2_commonDivisor_7 hl (by decide) rfl (fun ls hl => ?_)
  refine lv_iload hx hb dX2_commonDivisor_9 (lv_at hl 0 rfl) ?_
  refine lv_bipush (v := 100) hx hb dX2_commonDivisor_11 (by decide) ?_
  refine lv_icmp_ge (tgt := 44) hx hb dX2_commonDivisor_13 (by decide) (fun c_1 => ?_) (fun c_1 => ?_)
  · exact absurd c_1 (by decide)
  · refine lv_lload hx hb dX2_commonDivisor_16 (lv_at hl 1 rfl) ?_
    refine lv_lconst (v := 0) hx hb dX2_commonDivisor_18 (by decide) ?_
    refine W.lcmp hx hb dX2_commonDivisor_19 ?_
    refine tz_i 1 (by decide) ?_
    refine lv_if_eq (tgt := 44) hx hb dX2_commonDivisor_20 (by decide) (fun c_2 => ?_) (fun c_2 => ?_)
    · exact absurd c_2 (by decide)
    · refine lv_lload hx hb dX2_commonDivisor_23 (lv_at hl 2 rfl) ?_
      refine lv_lload hx hb dX2_commonDivisor_25 (lv_at hl 1 rfl) ?_
      refine lv_lrem hx hb dX2_commonDivisor_27 (by decide) ?_
      refine tz_l 0 (by decide) ?_
      refine lv_lstore (lv' := [(9, .long 0), (8, .int 0), (6, .long 1), (4, .long 0), (0, .long 0), (2, .long 1)]) hx hb dX2_commonDivisor_28 hl (by decide) rfl (fun ls hl => ?_)
      refine lv_lload hx hb dX2_commonDivisor_30 (lv_at hl 2 rfl) ?_
      refine lv_lstore (lv' := [(4, .long 1), (9, .long 0), (8, .int 0), (6, .long 1), (0, .long 0), (2, .long 1)]) hx hb dX2_commonDivisor_32 hl (by decide) rfl (fun ls hl => ?_)
      refine lv_lload hx hb dX2_commonDivisor_34 (lv_at hl 1 rfl) ?_
      refine lv_lstore (lv' := [(6, .long 0), (4, .long 1), (9, .long 0), (8, .int 0), (0, .long 0), (2, .long 1)]) hx hb dX2_commonDivisor_36 hl (by decide) rfl (fun ls hl => ?_)
      refine lv_iinc (v := 1) (lv' := [(8, .int 1), (6, .long 0), (4, .long 1), (9, .long 0), (0, .long 0), (2, .long 1)]) hx hb dX2_commonDivisor_38 hl (k := 3) rfl (by decide) (by decide) rfl (fun ls hl => ?_)
      refine lv_goto (tgt := 9) hx hb dX2_commonDivisor_41 (by decide) ?_
      refine lv_iload hx hb dX2_commonDivisor_9 (lv_at hl 0 rfl) ?_
      refine lv_bipush (v := 100) hx hb dX2_commonDivisor_11 (by decide) ?_
      refine lv_icmp_ge (tgt := 44) hx hb dX2_commonDivisor_13 (by decide) (fun c_3 => ?_) (fun c_3 => ?_)
      · exact absurd c_3 (by decide)
      · refine lv_lload hx hb dX2_commonDivisor_16 (lv_at hl 1 rfl) ?_
        refine lv_lconst (v := 0) hx hb dX2_commonDivisor_18 (by decide) ?_
        refine W.lcmp hx hb dX2_commonDivisor_19 ?_
        refine tz_i 0 (by decide) ?_
        refine lv_if_eq (tgt := 44) hx hb dX2_commonDivisor_20 (by decide) (fun c_4 => ?_) (fun c_4 => ?_)
        · refine lv_lload hx hb dX2_commonDivisor_44 (lv_at hl 2 rfl) ?_
          exact W.lret (v := 1) hx hb hr (fun t ht hW => ⟨1, rfl, rfl, ht⟩) (fun _ h => absurd h List.not_mem_nil) dX2_commonDivisor_46
        · exact absurd c_4 (by decide)
set_option maxRecDepth 20000 in
theorem ggX2_become_X2_commonDivisor : GoodIn wsX2_become wsX2_commonDivisor := goodIn_r _ [6] (by decide +kernel) (by decide +kernel)
set_option maxRecDepth 20000 in
theorem gX2_become_X2_commonDivisor : GoodIn wsX2_become (va_wsS RX2 16 yX2_commonDivisor wsX2_commonDivisor) := goodIn_app (goodIn_of _ (by decide +kernel)) ggX2_become_X2_commonDivisor
theorem dX2_become_0 : decode cX2_become 0 = .ok (.lload_n 1, 1) := by decide +kernel
theorem dX2_become_1 : decode cX2_become 1 = .ok (.lload_n 3, 1) := by decide +kernel
theorem dX2_become_2 : decode cX2_become 2 = .ok (.invokestatic 16, 3) := by decide +kernel
theorem dX2_become_5 : decode cX2_become 5 = .ok (.lstore 5, 2) := by decide +kernel
theorem dX2_become_7 : decode cX2_become 7 = .ok (.lload 5, 2) := by decide +kernel
theorem dX2_become_9 : decode cX2_become 9 = .ok (.lconst 0, 1) := by decide +kernel
theorem dX2_become_10 : decode cX2_become 10 = .ok (.lcmp, 1) := by decide +kernel
theorem dX2_become_11 : decode cX2_become 11 = .ok (.ifCond .le 9, 3) := by decide +kernel
theorem dX2_become_14 : decode cX2_become 14 = .ok (.lload_n 3, 1) := by decide +kernel
theorem dX2_become_15 : decode cX2_become 15 = .ok (.lconst 0, 1) := by decide +kernel
theorem dX2_become_16 : decode cX2_become 16 = .ok (.lcmp, 1) := by decide +kernel
theorem dX2_become_17 : decode cX2_become 17 = .ok (.ifCond .gt 4, 3) := by decide +kernel
theorem dX2_become_21 : decode cX2_become 21 = .ok (.aload_n 0, 1) := by decide +kernel
theorem dX2_become_22 : decode cX2_become 22 = .ok (.lload_n 1, 1) := by decide +kernel
theorem dX2_become_23 : decode cX2_become 23 = .ok (.lload 5, 2) := by decide +kernel
theorem dX2_become_25 : decode cX2_become 25 = .ok (.ldiv, 1) := by decide +kernel
theorem dX2_become_26 : decode cX2_become 26 = .ok (.putfield 7, 3) := by decide +kernel
theorem dX2_become_29 : decode cX2_become 29 = .ok (.aload_n 0, 1) := by decide +kernel
theorem dX2_become_30 : decode cX2_become 30 = .ok (.lload_n 3, 1) := by decide +kernel
theorem dX2_become_31 : decode cX2_become 31 = .ok (.lload 5, 2) := by decide +kernel
theorem dX2_become_33 : decode cX2_become 33 = .ok (.ldiv, 1) := by decide +kernel
theorem dX2_become_34 : decode cX2_become 34 = .ok (.putfield 13, 3) := by decide +kernel
theorem dX2_become_37 : decode cX2_become 37 = .ok (.return_, 1) := by decide +kernel
set_option maxRecDepth 20000 in
theorem iw_k_become01_X2 : ∀ w ∈ wsX20, w ∈ wsX2_become := by decide +kernel
set_option maxHeartbeats 4000000 in
set_option maxRecDepth 100000 in
theorem k_become01 (l : Launch) (dC : Nat → ClassId) (dI : Nat → Nat → Nat) (fo : Nat) (vf0 : Value) (vf1 : Value) (sz : Nat) : Met l yX2_become wsX2_become ({ frames := 1, cells := 0, slots := 0, locals := 30 }) (va_Pc [.ref fo, .long 0, .long 1] (fun U => U.heap.size = sz ∧ va_P (dC, dI) vwCl [(fo, .inr (2, [vf0, vf1]))] U.heap ∧ va_K (dC, dI) vwCl [] U ∧ va_D (fun _ => True) [(fo, .inr (2, [vf0, vf1]))])) (va_Qv (fun (_ : Unit) => True) (fun _ _ => True) (va_A [(fo, .inr (2, [vf0, vf1]))] sz)) 0 0 (va_A [(fo, .inr (2, [vf0, vf1]))] sz) := by
  refine Met.ofW (cc := cX2_become) (maxL := 7) (ret := none) (by decide) rfl ?_
  intro p e s m args below meth c s₁ B hml hv
  obtain ⟨rfl, hsz, hP, hK, hD0⟩ := hv
  have hx := B.exec
  have hb := B.bytes
  have hr := B.returns
  have hts := atoms_spec (ws := wsX2_become) B.pre
  have hown : s.vm.findClass RX2 = some m.cls := findClass_of_methodNamed B.named
  have hlocks := B.notSynchronized
  subst hsz
  have hD := hD0.self (sz := s.heap.size)
  generalize hAe : va_A [(fo, .inr (2, [vf0, vf1]))] s.heap.size = A at hD ⊢
  have hA : ∀ q : Nat, s.heap.size ≤ q → A q := fun q h => by rw [← hAe]; exact Or.inr h
  have hS : va_S A s.heap s.heap [] := va_S.rf
  have hP : va_P (dC, dI) vwCl [(fo, .inr (2, [vf0, vf1]))] s.heap := hP
  have hl := lv_entry ([.ref fo, .long 0, .long 1]) (n := 7) (Nat.le_of_ble_eq_true rfl)
  rw [lg_entry_eq]
  generalize (lg_sl ([.ref fo, .long 0, .long 1]) ++ List.replicate (7 - (lg_sl ([.ref fo, .long 0, .long 1])).length) Slot.unset).toArray = ls at hl ⊢
  have hl : lv_has ls 7 [(0, .ref fo), (1, .long 0), (3, .long 1)] := hl
  refine lv_lload_n hx hb dX2_become_0 rfl (lv_at hl 1 rfl) ?_
  refine lv_lload_n hx hb dX2_become_1 rfl (lv_at hl 2 rfl) ?_
  refine vp_callSl (va_Run.run (va_runS (As := [.long 0, .long 1]) (rest := []) ⟨hx, hb, hml, hown, hts⟩ (k_gcd01 l dC dI) (va_cwS 2 hts gX2_become_X2_commonDivisor rfl rfl rfl (by decide +kernel) ⟨Nat.le_of_ble_eq_true rfl, Nat.le_of_ble_eq_true rfl⟩) ⟨fun a U g mk q => ⟨q.1, trivial⟩, fun U hU hW => ⟨rfl, trivial⟩⟩ rfl rfl hl.1 rfl (lv_room (Nat.le_of_ble_eq_true rfl)) dX2_become_2 ⟨Nat.le_of_ble_eq_true rfl, Nat.le_of_ble_eq_true rfl⟩)) (fun r_1 hw_2 => ?_)
  obtain rfl : 1 = r_1 := hw_2.symm
  refine lv_lstore (lv' := [(5, .long 1), (0, .ref fo), (1, .long 0), (3, .long 1)]) hx hb dX2_become_5 hl (by decide) rfl (fun ls hl => ?_)
  refine lv_lload hx hb dX2_become_7 (lv_at hl 0 rfl) ?_
  refine lv_lconst (v := 0) hx hb dX2_become_9 (by decide) ?_
  refine W.lcmp hx hb dX2_become_10 ?_
  refine tz_i 1 (by decide) ?_
  refine lv_if_le (tgt := 20) hx hb dX2_become_11 (by decide) (fun c_3 => ?_) (fun c_3 => ?_)
  · exact absurd c_3 (by decide)
  · refine lv_lload_n hx hb dX2_become_14 rfl (lv_at hl 3 rfl) ?_
    refine lv_lconst (v := 0) hx hb dX2_become_15 (by decide) ?_
    refine W.lcmp hx hb dX2_become_16 ?_
    refine tz_i 1 (by decide) ?_
    refine lv_if_gt (tgt := 21) hx hb dX2_become_17 (by decide) (fun c_4 => ?_) (fun c_4 => ?_)
    · refine lv_aload_n hx hb dX2_become_21 rfl (lv_at hl 1 rfl) ?_
      refine lv_lload_n hx hb dX2_become_22 rfl (lv_at hl 2 rfl) ?_
      refine lv_lload hx hb dX2_become_23 (lv_at hl 0 rfl) ?_
      refine lv_ldiv hx hb dX2_become_25 (by decide) ?_
      refine tz_l 0 (by decide) ?_
      refine va_put (D := (dC, dI)) (ci := 2) (v := .long 0) (ty := .long) (C := RX2) (T := TX2) (N := 2) hx hb hts iw_k_become01_X2 tyX2 tyX2_ok nmX2 hown hK hP hD hS 0 rfl rfl 0 (by decide) (hts (.fieldLink RX2 7 "ThriceCounted$Fraction" "above" "J") (by decide +kernel)) (fun _ h9 => h9) rfl (by decide +kernel) rfl rfl (Nat.le_of_ble_eq_true rfl) dX2_become_26 (fun H locs hP hD hS => ?_)
      have hP : va_P (dC, dI) vwCl [(fo, .inr (2, [.long 0, vf1]))] H := hP
      have hD : va_D A [(fo, .inr (2, [.long 0, vf1]))] := hD
      refine lv_aload_n hx hb dX2_become_29 rfl (lv_at hl 1 rfl) ?_
      refine lv_lload_n hx hb dX2_become_30 rfl (lv_at hl 3 rfl) ?_
      refine lv_lload hx hb dX2_become_31 (lv_at hl 0 rfl) ?_
      refine lv_ldiv hx hb dX2_become_33 (by decide) ?_
      refine tz_l 1 (by decide) ?_
      refine va_put (D := (dC, dI)) (ci := 2) (v := .long 1) (ty := .long) (C := RX2) (T := TX2) (N := 2) hx hb hts iw_k_become01_X2 tyX2 tyX2_ok nmX2 hown hK hP hD hS 0 rfl rfl 1 (by decide) (hts (.fieldLink RX2 13 "ThriceCounted$Fraction" "below" "J") (by decide +kernel)) (fun _ h9 => h9) rfl (by decide +kernel) rfl rfl (Nat.le_of_ble_eq_true rfl) dX2_become_34 (fun H locs hP hD hS => ?_)
      have hP : va_P (dC, dI) vwCl [(fo, .inr (2, [.long 0, .long 1]))] H := hP
      have hD : va_D A [(fo, .inr (2, [.long 0, .long 1]))] := hD
      exact W.vret hx hb hr (fun t ht hW => ⟨⟨(), rfl, trivial, trivial⟩, hS.F ht⟩) hS.2.2 dX2_become_37
    · exact absurd c_4 (by decide)
theorem dX5_at_0 : decode cX5_at 0 = .ok (.iload_n 1, 1) := by decide +kernel
theorem dX5_at_1 : decode cX5_at 1 = .ok (.ifCond .lt 29, 3) := by decide +kernel
theorem dX5_at_4 : decode cX5_at 4 = .ok (.iload_n 1, 1) := by decide +kernel
theorem dX5_at_5 : decode cX5_at 5 = .ok (.aload_n 0, 1) := by decide +kernel
theorem dX5_at_6 : decode cX5_at 6 = .ok (.getfield 22, 3) := by decide +kernel
theorem dX5_at_9 : decode cX5_at 9 = .ok (.if_icmp .ge 21, 3) := by decide +kernel
theorem dX5_at_30 : decode cX5_at 30 = .ok (.iconst (-1), 1) := by decide +kernel
theorem dX5_at_31 : decode cX5_at 31 = .ok (.ireturn, 1) := by decide +kernel
set_option maxRecDepth 20000 in
theorem iw_k_at0_X5 : ∀ w ∈ wsX50, w ∈ wsX5_at := by decide +kernel
set_option maxHeartbeats 4000000 in
set_option maxRecDepth 100000 in
theorem k_at0 (l : Launch) (dC : Nat → ClassId) (dI : Nat → Nat → Nat) (rd : Nat) (vr0 : Value) (vr1 : Value) (vr3 : Value) (vr4 : Value) (vr5 : Value) (vr6 : Value) (vr7 : Value) (vr8 : Value) : Met l yX5_at wsX5_at ({ frames := 0, cells := 0, slots := 0, locals := 0 }) (va_Pc [.ref rd, .int 0] (fun U => va_P (dC, dI) vwCl [(rd, .inr (5, [vr0, vr1, .int 0, vr3, vr4, vr5, vr6, vr7, vr8]))] U.heap ∧ va_K (dC, dI) vwCl [] U)) (vp_Si (fun r => r = (-1))) 0 0 (fun _ => False) := by
  refine Met.ofW (cc := cX5_at) (maxL := 2) (ret := (some .int)) (by decide) rfl ?_
  intro p e s m args below meth c s₁ B hml hv
  obtain ⟨rfl, hP, hK⟩ := hv
  have hx := B.exec
  have hb := B.bytes
  have hr := B.returns
  have hts := atoms_spec (ws := wsX5_at) B.pre
  have hown : s.vm.findClass RX5 = some m.cls := findClass_of_methodNamed B.named
  have hlocks := B.notSynchronized
  have hl := lv_entry ([.ref rd, .int 0]) (n := 2) (Nat.le_of_ble_eq_true rfl)
  rw [lg_entry_eq]
  generalize (lg_sl ([.ref rd, .int 0]) ++ List.replicate (2 - (lg_sl ([.ref rd, .int 0])).length) Slot.unset).toArray = ls at hl ⊢
  have hl : lv_has ls 2 [(0, .ref rd), (1, .int 0)] := hl
  refine lv_iload_n hx hb dX5_at_0 rfl (lv_at hl 1 rfl) ?_
  refine lv_if_lt (tgt := 30) hx hb dX5_at_1 (by decide) (fun c_1 => ?_) (fun c_1 => ?_)
  · exact absurd c_1 (by decide)
  · refine lv_iload_n hx hb dX5_at_4 rfl (lv_at hl 1 rfl) ?_
    refine lv_aload_n hx hb dX5_at_5 rfl (lv_at hl 0 rfl) ?_
    refine va_get (D := (dC, dI)) (ci := 5) (v := .int 0) (C := RX5) (T := TX5) (N := 9) hx hb hts iw_k_at0_X5 hown hK hP 0 rfl rfl 2 (by decide) (hts (.fieldLink RX5 22 "ThriceCounted$Reader" "length" "I") (by decide +kernel)) (fun _ h9 => h9) rfl dX5_at_6 ?_
    refine lv_icmp_ge (tgt := 30) hx hb dX5_at_9 (by decide) (fun c_2 => ?_) (fun c_2 => ?_)
    · refine lv_iconst (v := (-1)) hx hb dX5_at_30 (by decide) ?_
      exact W.iret (v := (-1)) hx hb hr (fun t ht hW => ⟨(-1), rfl, rfl, ht⟩) (fun _ h => absurd h List.not_mem_nil) dX5_at_31
    · exact absurd c_2 (by decide)
set_option maxRecDepth 20000 in
theorem ggX5_step_X5_at : GoodIn wsX5_step wsX5_at := goodIn_r _ [9, 2, 10, 30, 31, 32, 33, 34, 35, 36, 37, 38] (by decide +kernel) (by decide +kernel)
set_option maxRecDepth 20000 in
theorem gX5_step_X5_at : GoodIn wsX5_step (wsV RX5 134 RX5 yX5_at wsX5_at) := goodIn_app (goodIn_of _ (by decide +kernel)) ggX5_step_X5_at
theorem dX5_step_0 : decode cX5_step 0 = .ok (.aload_n 0, 1) := by decide +kernel
theorem dX5_step_1 : decode cX5_step 1 = .ok (.getfield 26, 3) := by decide +kernel
theorem dX5_step_4 : decode cX5_step 4 = .ok (.aload_n 0, 1) := by decide +kernel
theorem dX5_step_5 : decode cX5_step 5 = .ok (.getfield 22, 3) := by decide +kernel
theorem dX5_step_8 : decode cX5_step 8 = .ok (.if_icmp .ge 29, 3) := by decide +kernel
theorem dX5_step_37 : decode cX5_step 37 = .ok (.aload_n 0, 1) := by decide +kernel
theorem dX5_step_38 : decode cX5_step 38 = .ok (.aload_n 0, 1) := by decide +kernel
theorem dX5_step_39 : decode cX5_step 39 = .ok (.getfield 26, 3) := by decide +kernel
theorem dX5_step_42 : decode cX5_step 42 = .ok (.putfield 32, 3) := by decide +kernel
theorem dX5_step_45 : decode cX5_step 45 = .ok (.aload_n 0, 1) := by decide +kernel
theorem dX5_step_46 : decode cX5_step 46 = .ok (.aload_n 0, 1) := by decide +kernel
theorem dX5_step_47 : decode cX5_step 47 = .ok (.getfield 26, 3) := by decide +kernel
theorem dX5_step_50 : decode cX5_step 50 = .ok (.invokevirtual 134, 3) := by decide +kernel
theorem dX5_step_53 : decode cX5_step 53 = .ok (.istore_n 1, 1) := by decide +kernel
theorem dX5_step_54 : decode cX5_step 54 = .ok (.iload_n 1, 1) := by decide +kernel
theorem dX5_step_55 : decode cX5_step 55 = .ok (.iconst (-1), 1) := by decide +kernel
theorem dX5_step_56 : decode cX5_step 56 = .ok (.if_icmp .ne 11, 3) := by decide +kernel
theorem dX5_step_59 : decode cX5_step 59 = .ok (.aload_n 0, 1) := by decide +kernel
theorem dX5_step_60 : decode cX5_step 60 = .ok (.iconst 0, 1) := by decide +kernel
theorem dX5_step_61 : decode cX5_step 61 = .ok (.putfield 29, 3) := by decide +kernel
theorem dX5_step_64 : decode cX5_step 64 = .ok (.goto 56, 3) := by decide +kernel
theorem dX5_step_120 : decode cX5_step 120 = .ok (.return_, 1) := by decide +kernel
set_option maxRecDepth 20000 in
theorem iw_k_step0_X5 : ∀ w ∈ wsX50, w ∈ wsX5_step := by decide +kernel
set_option maxHeartbeats 4000000 in
set_option maxRecDepth 100000 in
theorem k_step0 (l : Launch) (dC : Nat → ClassId) (dI : Nat → Nat → Nat) (rd : Nat) (vr0 : Value) (vr1 : Value) (vr4 : Value) (vr5 : Value) (vr6 : Value) (vr7 : Value) (vr8 : Value) (sz : Nat) : Met l yX5_step wsX5_step ({ frames := 1, cells := 0, slots := 0, locals := 21 }) (va_Pc [.ref rd] (fun U => U.heap.size = sz ∧ va_P (dC, dI) vwCl [(rd, .inr (5, [vr0, vr1, .int 0, .int 0, vr4, vr5, vr6, vr7, vr8]))] U.heap ∧ va_K (dC, dI) vwCl [] U ∧ va_D (fun _ => True) [(rd, .inr (5, [vr0, vr1, .int 0, .int 0, vr4, vr5, vr6, vr7, vr8]))])) (va_Qv (fun (_ : Unit) => True) (fun _ t => va_P (dC, dI) vwCl [(rd, .inr (5, [vr0, vr1, .int 0, .int 0, .int 0, .int 0, vr6, vr7, vr8]))] t.heap ∧ va_K (dC, dI) vwCl [] t ∧ va_D (va_A [(rd, .inr (5, [vr0, vr1, .int 0, .int 0, vr4, vr5, vr6, vr7, vr8]))] sz) [(rd, .inr (5, [vr0, vr1, .int 0, .int 0, .int 0, .int 0, vr6, vr7, vr8]))]) (va_A [(rd, .inr (5, [vr0, vr1, .int 0, .int 0, vr4, vr5, vr6, vr7, vr8]))] sz)) 0 0 (va_A [(rd, .inr (5, [vr0, vr1, .int 0, .int 0, vr4, vr5, vr6, vr7, vr8]))] sz) := by
  refine Met.ofW (cc := cX5_step) (maxL := 2) (ret := none) (by decide) rfl ?_
  intro p e s m args below meth c s₁ B hml hv
  obtain ⟨rfl, hsz, hP, hK, hD0⟩ := hv
  have hx := B.exec
  have hb := B.bytes
  have hr := B.returns
  have hts := atoms_spec (ws := wsX5_step) B.pre
  have hown : s.vm.findClass RX5 = some m.cls := findClass_of_methodNamed B.named
  have hlocks := B.notSynchronized
  subst hsz
  have hD := hD0.self (sz := s.heap.size)
  generalize hAe : va_A [(rd, .inr (5, [vr0, vr1, .int 0, .int 0, vr4, vr5, vr6, vr7, vr8]))] s.heap.size = A at hD ⊢
  have hA : ∀ q : Nat, s.heap.size ≤ q → A q := fun q h => by rw [← hAe]; exact Or.inr h
  have hS : va_S A s.heap s.heap [] := va_S.rf
  have hP : va_P (dC, dI) vwCl [(rd, .inr (5, [vr0, vr1, .int 0, .int 0, vr4, vr5, vr6, vr7, vr8]))] s.heap := hP
  have hl := lv_entry ([.ref rd]) (n := 2) (Nat.le_of_ble_eq_true rfl)
  rw [lg_entry_eq]
  generalize (lg_sl ([.ref rd]) ++ List.replicate (2 - (lg_sl ([.ref rd])).length) Slot.unset).toArray = ls at hl ⊢
  have hl : lv_has ls 2 [(0, .ref rd)] := hl
  refine lv_aload_n hx hb dX5_step_0 rfl (lv_at hl 0 rfl) ?_
  refine va_get (D := (dC, dI)) (ci := 5) (v := .int 0) (C := RX5) (T := TX5) (N := 9) hx hb hts iw_k_step0_X5 hown hK hP 0 rfl rfl 3 (by decide) (hts (.fieldLink RX5 26 "ThriceCounted$Reader" "place" "I") (by decide +kernel)) (fun _ h9 => h9) rfl dX5_step_1 ?_
  refine lv_aload_n hx hb dX5_step_4 rfl (lv_at hl 0 rfl) ?_
  refine va_get (D := (dC, dI)) (ci := 5) (v := .int 0) (C := RX5) (T := TX5) (N := 9) hx hb hts iw_k_step0_X5 hown hK hP 0 rfl rfl 2 (by decide) (hts (.fieldLink RX5 22 "ThriceCounted$Reader" "length" "I") (by decide +kernel)) (fun _ h9 => h9) rfl dX5_step_5 ?_
  refine lv_icmp_ge (tgt := 37) hx hb dX5_step_8 (by decide) (fun c_1 => ?_) (fun c_1 => ?_)
  · refine lv_aload_n hx hb dX5_step_37 rfl (lv_at hl 0 rfl) ?_
    refine lv_aload_n hx hb dX5_step_38 rfl (lv_at hl 0 rfl) ?_
    refine va_get (D := (dC, dI)) (ci := 5) (v := .int 0) (C := RX5) (T := TX5) (N := 9) hx hb hts iw_k_step0_X5 hown hK hP 0 rfl rfl 3 (by decide) (hts (.fieldLink RX5 26 "ThriceCounted$Reader" "place" "I") (by decide +kernel)) (fun _ h9 => h9) rfl dX5_step_39 ?_
    refine va_put (D := (dC, dI)) (ci := 5) (v := .int 0) (ty := .int) (C := RX5) (T := TX5) (N := 9) hx hb hts iw_k_step0_X5 tyX5 tyX5_ok nmX5 hown hK hP hD hS 0 rfl rfl 5 (by decide) (hts (.fieldLink RX5 32 "ThriceCounted$Reader" "start" "I") (by decide +kernel)) (fun _ h9 => h9) rfl (by decide +kernel) rfl rfl (Nat.le_of_ble_eq_true rfl) dX5_step_42 (fun H locs hP hD hS => ?_)
    have hP : va_P (dC, dI) vwCl [(rd, .inr (5, [vr0, vr1, .int 0, .int 0, vr4, .int 0, vr6, vr7, vr8]))] H := hP
    have hD : va_D A [(rd, .inr (5, [vr0, vr1, .int 0, .int 0, vr4, .int 0, vr6, vr7, vr8]))] := hD
    refine lv_aload_n hx hb dX5_step_45 rfl (lv_at hl 0 rfl) ?_
    refine lv_aload_n hx hb dX5_step_46 rfl (lv_at hl 0 rfl) ?_
    refine va_get (D := (dC, dI)) (ci := 5) (v := .int 0) (C := RX5) (T := TX5) (N := 9) hx hb hts iw_k_step0_X5 hown hK hP 0 rfl rfl 3 (by decide) (hts (.fieldLink RX5 26 "ThriceCounted$Reader" "place" "I") (by decide +kernel)) (fun _ h9 => h9) rfl dX5_step_47 ?_
    have hPc_2 := hP.sub (ws' := [(rd, .inr (5, [vr0, vr1, .int 0, .int 0, vr4, .int 0, vr6, vr7, vr8]))]) [0] rfl
    have hKc_3 := hK.sub (tys' := []) [] rfl
    refine vp_callSi (va_Run.run (va_runV (As := [.int 0]) (rest := []) ⟨hx, hb, hml, hown, hts⟩ (k_at0 l dC dI rd vr0 vr1 (.int 0) vr4 (.int 0) vr6 vr7 vr8) (cwV 1 hts gX5_step_X5_at rfl rfl rfl (by decide +kernel) ⟨Nat.le_of_ble_eq_true rfl, Nat.le_of_ble_eq_true rfl⟩) ⟨fun a U g mk q => by obtain ⟨q0, qP, qK⟩ := q; exact ⟨q0, qP, va_K.moved (u := U) (U := U.calling g mk a) (Vm.Alike.refl U.vm) qK⟩, va_recv hK hP (ci := 5) (q0 := 0) rfl rfl, fun U hU hW => ⟨rfl, by rw [hU]; exact hPc_2, va_K.moved hW.alike hKc_3⟩⟩ rfl rfl hl.1 rfl (lv_room (Nat.le_of_ble_eq_true rfl)) dX5_step_50 ⟨Nat.le_of_ble_eq_true rfl, Nat.le_of_ble_eq_true rfl⟩)) (fun r_4 hw_5 => ?_)
    obtain rfl : (-1) = r_4 := hw_5.symm
    refine lv_istore_n (lv' := [(1, .int (-1)), (0, .ref rd)]) hx hb dX5_step_53 rfl hl (by decide) rfl (fun ls hl => ?_)
    refine lv_iload_n hx hb dX5_step_54 rfl (lv_at hl 0 rfl) ?_
    refine lv_iconst (v := (-1)) hx hb dX5_step_55 (by decide) ?_
    refine lv_icmp_ne (tgt := 67) hx hb dX5_step_56 (by decide) (fun c_6 => ?_) (fun c_6 => ?_)
    · exact absurd c_6 (by decide)
    · refine lv_aload_n hx hb dX5_step_59 rfl (lv_at hl 1 rfl) ?_
      refine lv_iconst (v := 0) hx hb dX5_step_60 (by decide) ?_
      refine va_put (D := (dC, dI)) (ci := 5) (v := .int 0) (ty := .int) (C := RX5) (T := TX5) (N := 9) hx hb hts iw_k_step0_X5 tyX5 tyX5_ok nmX5 hown hK hP hD hS 0 rfl rfl 4 (by decide) (hts (.fieldLink RX5 29 "ThriceCounted$Reader" "kind" "I") (by decide +kernel)) (fun _ h9 => h9) rfl (by decide +kernel) rfl rfl (Nat.le_of_ble_eq_true rfl) dX5_step_61 (fun H locs hP hD hS => ?_)
      have hP : va_P (dC, dI) vwCl [(rd, .inr (5, [vr0, vr1, .int 0, .int 0, .int 0, .int 0, vr6, vr7, vr8]))] H := hP
      have hD : va_D A [(rd, .inr (5, [vr0, vr1, .int 0, .int 0, .int 0, .int 0, vr6, vr7, vr8]))] := hD
      refine lv_goto (tgt := 120) hx hb dX5_step_64 (by decide) ?_
      have hP9 := hP.sub (ws' := [(rd, .inr (5, [vr0, vr1, .int 0, .int 0, .int 0, .int 0, vr6, vr7, vr8]))]) [0] rfl
      have hD9 := hD.sub (ws' := [(rd, .inr (5, [vr0, vr1, .int 0, .int 0, .int 0, .int 0, vr6, vr7, vr8]))]) [0] (by decide) rfl
      have hK9 := hK.sub (tys' := []) [] rfl
      exact W.vret hx hb hr (fun t ht hW => ⟨⟨(), rfl, trivial, by rw [ht]; exact hP9, va_K.moved hW.alike hK9, hD9⟩, hS.F ht⟩) hS.2.2 dX5_step_120
  · exact absurd c_1 (by decide)
theorem dX5_isWord_0 : decode cX5_isWord 0 = .ok (.aload_n 0, 1) := by decide +kernel
theorem dX5_isWord_1 : decode cX5_isWord 1 = .ok (.getfield 29, 3) := by decide +kernel
theorem dX5_isWord_4 : decode cX5_isWord 4 = .ok (.iconst 1, 1) := by decide +kernel
theorem dX5_isWord_5 : decode cX5_isWord 5 = .ok (.if_icmp .ne 19, 3) := by decide +kernel
theorem dX5_isWord_24 : decode cX5_isWord 24 = .ok (.iconst 0, 1) := by decide +kernel
theorem dX5_isWord_25 : decode cX5_isWord 25 = .ok (.ireturn, 1) := by decide +kernel
set_option maxRecDepth 20000 in
theorem iw_k_isWord0_X5 : ∀ w ∈ wsX50, w ∈ wsX5_isWord := by decide +kernel
set_option maxHeartbeats 4000000 in
set_option maxRecDepth 100000 in
theorem k_isWord0 (l : Launch) (dC : Nat → ClassId) (dI : Nat → Nat → Nat) (rd : Nat) (vr0 : Value) (vr1 : Value) (vr2 : Value) (vr3 : Value) (vr5 : Value) (vr6 : Value) (vr7 : Value) (vr8 : Value) (sw : Nat) : Met l yX5_isWord wsX5_isWord ({ frames := 0, cells := 0, slots := 0, locals := 0 }) (va_Pc [.ref rd, .ref sw] (fun U => va_P (dC, dI) vwCl [(rd, .inr (5, [vr0, vr1, vr2, vr3, .int 0, vr5, vr6, vr7, vr8]))] U.heap ∧ va_K (dC, dI) vwCl [] U)) (vp_Si (fun r => r = 0)) 0 0 (fun _ => False) := by
  refine Met.ofW (cc := cX5_isWord) (maxL := 3) (ret := (some .boolean)) (by decide) rfl ?_
  intro p e s m args below meth c s₁ B hml hv
  obtain ⟨rfl, hP, hK⟩ := hv
  have hx := B.exec
  have hb := B.bytes
  have hr := B.returns
  have hts := atoms_spec (ws := wsX5_isWord) B.pre
  have hown : s.vm.findClass RX5 = some m.cls := findClass_of_methodNamed B.named
  have hlocks := B.notSynchronized
  have hl := lv_entry ([.ref rd, .ref sw]) (n := 3) (Nat.le_of_ble_eq_true rfl)
  rw [lg_entry_eq]
  generalize (lg_sl ([.ref rd, .ref sw]) ++ List.replicate (3 - (lg_sl ([.ref rd, .ref sw])).length) Slot.unset).toArray = ls at hl ⊢
  have hl : lv_has ls 3 [(0, .ref rd), (1, .ref sw)] := hl
  refine lv_aload_n hx hb dX5_isWord_0 rfl (lv_at hl 0 rfl) ?_
  refine va_get (D := (dC, dI)) (ci := 5) (v := .int 0) (C := RX5) (T := TX5) (N := 9) hx hb hts iw_k_isWord0_X5 hown hK hP 0 rfl rfl 4 (by decide) (hts (.fieldLink RX5 29 "ThriceCounted$Reader" "kind" "I") (by decide +kernel)) (fun _ h9 => h9) rfl dX5_isWord_1 ?_
  refine lv_iconst (v := 1) hx hb dX5_isWord_4 (by decide) ?_
  refine lv_icmp_ne (tgt := 24) hx hb dX5_isWord_5 (by decide) (fun c_1 => ?_) (fun c_1 => ?_)
  · refine lv_iconst (v := 0) hx hb dX5_isWord_24 (by decide) ?_
    exact W.zret (v := 0) hx hb hr (by decide) (fun t ht hW => ⟨0, rfl, rfl, ht⟩) (fun _ h => absurd h List.not_mem_nil) dX5_isWord_25
  · exact absurd c_1 (by decide)
set_option maxRecDepth 20000 in
theorem ggX5_parse_X0_empty : GoodIn wsX5_parse wsX0_empty := goodIn_r _ [19, 20, 21, 22, 23, 24, 25, 26, 27, 28, 29, 30, 189, 190, 191, 192, 193, 194, 195, 196, 197, 198] (by decide +kernel) (by decide +kernel)
set_option maxRecDepth 20000 in
theorem gX5_parse_X0_empty : GoodIn wsX5_parse (wsV RX5 54 RX0 yX0_empty wsX0_empty) := goodIn_app (goodIn_of _ (by decide +kernel)) ggX5_parse_X0_empty
set_option maxRecDepth 20000 in
theorem ggX5_parse_X5_step : GoodIn wsX5_parse wsX5_step := goodIn_r _ [35, 10, 9, 36, 14, 37, 38, 39, 34, 40, 1, 41, 42, 43, 44, 45, 46, 47, 48, 49, 50, 51, 52, 53, 54, 55, 2, 3, 4, 5, 180, 181, 182, 183, 184, 185, 186, 187, 188] (by decide +kernel) (by decide +kernel)
set_option maxRecDepth 20000 in
theorem gX5_parse_X5_step : GoodIn wsX5_parse (wsV RX5 57 RX5 yX5_step wsX5_step) := goodIn_app (goodIn_of _ (by decide +kernel)) ggX5_parse_X5_step
set_option maxRecDepth 20000 in
theorem ggX5_parse_X5_isWord : GoodIn wsX5_parse wsX5_isWord := goodIn_r _ [59, 14, 10, 36, 60, 61, 62, 63, 64, 65, 66, 67, 68, 69, 70, 71, 37, 38, 39, 34, 40, 9, 1, 72, 73, 74, 75, 76, 77, 78, 79, 80, 81, 82, 83, 84, 85, 86, 87, 88, 89, 90, 91, 92, 93, 94, 95, 96, 97, 98, 99, 100, 101, 102, 103, 104, 105, 106, 107, 108, 180, 181, 182, 183, 184, 185, 186, 187, 188] (by decide +kernel) (by decide +kernel)
set_option maxRecDepth 20000 in
theorem gX5_parse_X5_isWord : GoodIn wsX5_parse (wsV RX5 62 RX5 yX5_isWord wsX5_isWord) := goodIn_app (goodIn_of _ (by decide +kernel)) ggX5_parse_X5_isWord
theorem dX5_parse_0 : decode cX5_parse 0 = .ok (.aload_n 0, 1) := by decide +kernel
theorem dX5_parse_1 : decode cX5_parse 1 = .ok (.aload_n 1, 1) := by decide +kernel
theorem dX5_parse_2 : decode cX5_parse 2 = .ok (.putfield 18, 3) := by decide +kernel
theorem dX5_parse_5 : decode cX5_parse 5 = .ok (.aload_n 0, 1) := by decide +kernel
theorem dX5_parse_6 : decode cX5_parse 6 = .ok (.iconst 0, 1) := by decide +kernel
theorem dX5_parse_7 : decode cX5_parse 7 = .ok (.iload_n 2, 1) := by decide +kernel
theorem dX5_parse_8 : decode cX5_parse 8 = .ok (.aload_n 1, 1) := by decide +kernel
theorem dX5_parse_9 : decode cX5_parse 9 = .ok (.arraylength, 1) := by decide +kernel
theorem dX5_parse_10 : decode cX5_parse 10 = .ok (.invokestatic 45, 3) := by decide +kernel
theorem dX5_parse_13 : decode cX5_parse 13 = .ok (.invokestatic 51, 3) := by decide +kernel
theorem dX5_parse_16 : decode cX5_parse 16 = .ok (.putfield 22, 3) := by decide +kernel
theorem dX5_parse_19 : decode cX5_parse 19 = .ok (.aload_n 0, 1) := by decide +kernel
theorem dX5_parse_20 : decode cX5_parse 20 = .ok (.iconst 0, 1) := by decide +kernel
theorem dX5_parse_21 : decode cX5_parse 21 = .ok (.putfield 26, 3) := by decide +kernel
theorem dX5_parse_24 : decode cX5_parse 24 = .ok (.aload_n 0, 1) := by decide +kernel
theorem dX5_parse_25 : decode cX5_parse 25 = .ok (.iconst 0, 1) := by decide +kernel
theorem dX5_parse_26 : decode cX5_parse 26 = .ok (.putfield 38, 3) := by decide +kernel
theorem dX5_parse_29 : decode cX5_parse 29 = .ok (.aload_n 0, 1) := by decide +kernel
theorem dX5_parse_30 : decode cX5_parse 30 = .ok (.iconst 0, 1) := by decide +kernel
theorem dX5_parse_31 : decode cX5_parse 31 = .ok (.putfield 41, 3) := by decide +kernel
theorem dX5_parse_34 : decode cX5_parse 34 = .ok (.aload_n 0, 1) := by decide +kernel
theorem dX5_parse_35 : decode cX5_parse 35 = .ok (.getfield 12, 3) := by decide +kernel
theorem dX5_parse_38 : decode cX5_parse 38 = .ok (.invokevirtual 54, 3) := by decide +kernel
theorem dX5_parse_41 : decode cX5_parse 41 = .ok (.aload_n 0, 1) := by decide +kernel
theorem dX5_parse_42 : decode cX5_parse 42 = .ok (.invokevirtual 57, 3) := by decide +kernel
theorem dX5_parse_45 : decode cX5_parse 45 = .ok (.aload_n 0, 1) := by decide +kernel
theorem dX5_parse_46 : decode cX5_parse 46 = .ok (.ldc 60, 2) := by decide +kernel
theorem dX5_parse_48 : decode cX5_parse 48 = .ok (.invokevirtual 62, 3) := by decide +kernel
theorem dX5_parse_51 : decode cX5_parse 51 = .ok (.ifCond .ne 5, 3) := by decide +kernel
theorem dX5_parse_54 : decode cX5_parse 54 = .ok (.iconst 0, 1) := by decide +kernel
theorem dX5_parse_55 : decode cX5_parse 55 = .ok (.ireturn, 1) := by decide +kernel
set_option maxRecDepth 20000 in
theorem iw_k_parse0_X5 : ∀ w ∈ wsX50, w ∈ wsX5_parse := by decide +kernel
set_option maxHeartbeats 4000000 in
set_option maxRecDepth 100000 in
theorem k_parse0 (l : Launch) (dC : Nat → ClassId) (dI : Nat → Nat → Nat) (rd : Nat) (bo : Nat) (vr1 : Value) (vr2 : Value) (vr3 : Value) (vr4 : Value) (vr5 : Value) (vr6 : Value) (vr7 : Value) (vr8 : Value) (r0 : Nat) (r1 : Nat) (r2 : Nat) (r3 : Nat) (vb4 : Value) (vb5 : Value) (wr00 : Value) (wr01 : Value) (wr02 : Value) (wr03 : Value) (wr10 : Value) (wr11 : Value) (wr12 : Value) (wr13 : Value) (wr20 : Value) (wr21 : Value) (wr22 : Value) (wr23 : Value) (wr30 : Value) (wr31 : Value) (wr32 : Value) (wr33 : Value) (tx : Nat) (ct : ClassId) (ft : Nat → Int32) (sz : Nat) : Met l yX5_parse wsX5_parse ({ frames := 2, cells := 0, slots := 0, locals := 42 }) (va_Pc [.ref rd, .ref tx, .int 0] (fun U => U.heap.size = sz ∧ va_P (dC, dI) vwCl [(rd, .inr (5, [.ref bo, vr1, vr2, vr3, vr4, vr5, vr6, vr7, vr8])), (bo, .inr (0, [.ref r0, .ref r1, .ref r2, .ref r3, vb4, vb5])), (r0, .inr (6, [wr00, wr01, wr02, wr03])), (r1, .inr (6, [wr10, wr11, wr12, wr13])), (r2, .inr (6, [wr20, wr21, wr22, wr23])), (r3, .inr (6, [wr30, wr31, wr32, wr33])), (tx, .inl (ct, 150, .inl ft))] U.heap ∧ va_K (dC, dI) vwCl [(ct, .byte)] U ∧ va_D (fun _ => True) [(rd, .inr (5, [.ref bo, vr1, vr2, vr3, vr4, vr5, vr6, vr7, vr8])), (bo, .inr (0, [.ref r0, .ref r1, .ref r2, .ref r3, vb4, vb5])), (r0, .inr (6, [wr00, wr01, wr02, wr03])), (r1, .inr (6, [wr10, wr11, wr12, wr13])), (r2, .inr (6, [wr20, wr21, wr22, wr23])), (r3, .inr (6, [wr30, wr31, wr32, wr33])), (tx, .inl (ct, 150, .inl ft))] ∧ tz_N U)) (va_Qi (fun (r : Int32) (_ : Unit) => r = 0) (fun _ t => va_P (dC, dI) vwCl [(rd, .inr (5, [.ref bo, .ref tx, .int 0, .int 0, .int 0, .int 0, vr6, .int 0, .int 0]))] t.heap ∧ va_K (dC, dI) vwCl [] t ∧ va_D (va_A [(rd, .inr (5, [.ref bo, vr1, vr2, vr3, vr4, vr5, vr6, vr7, vr8])), (bo, .inr (0, [.ref r0, .ref r1, .ref r2, .ref r3, vb4, vb5])), (r0, .inr (6, [wr00, wr01, wr02, wr03])), (r1, .inr (6, [wr10, wr11, wr12, wr13])), (r2, .inr (6, [wr20, wr21, wr22, wr23])), (r3, .inr (6, [wr30, wr31, wr32, wr33])), (tx, .inl (ct, 150, .inl ft))] sz) [(rd, .inr (5, [.ref bo, .ref tx, .int 0, .int 0, .int 0, .int 0, vr6, .int 0, .int 0]))]) (va_A [(rd, .inr (5, [.ref bo, vr1, vr2, vr3, vr4, vr5, vr6, vr7, vr8])), (bo, .inr (0, [.ref r0, .ref r1, .ref r2, .ref r3, vb4, vb5])), (r0, .inr (6, [wr00, wr01, wr02, wr03])), (r1, .inr (6, [wr10, wr11, wr12, wr13])), (r2, .inr (6, [wr20, wr21, wr22, wr23])), (r3, .inr (6, [wr30, wr31, wr32, wr33])), (tx, .inl (ct, 150, .inl ft))] sz)) 0 0 (va_A [(rd, .inr (5, [.ref bo, vr1, vr2, vr3, vr4, vr5, vr6, vr7, vr8])), (bo, .inr (0, [.ref r0, .ref r1, .ref r2, .ref r3, vb4, vb5])), (r0, .inr (6, [wr00, wr01, wr02, wr03])), (r1, .inr (6, [wr10, wr11, wr12, wr13])), (r2, .inr (6, [wr20, wr21, wr22, wr23])), (r3, .inr (6, [wr30, wr31, wr32, wr33])), (tx, .inl (ct, 150, .inl ft))] sz) := by
  refine Met.ofW (cc := cX5_parse) (maxL := 4) (ret := (some .boolean)) (by decide) rfl ?_
  intro p e s m args below meth c s₁ B hml hv
  obtain ⟨rfl, hsz, hP, hK, hD0, hN⟩ := hv
  have hx := B.exec
  have hb := B.bytes
  have hr := B.returns
  have hts := atoms_spec (ws := wsX5_parse) B.pre
  have hown : s.vm.findClass RX5 = some m.cls := findClass_of_methodNamed B.named
  have hlocks := B.notSynchronized
  subst hsz
  have hD := hD0.self (sz := s.heap.size)
  generalize hAe : va_A [(rd, .inr (5, [.ref bo, vr1, vr2, vr3, vr4, vr5, vr6, vr7, vr8])), (bo, .inr (0, [.ref r0, .ref r1, .ref r2, .ref r3, vb4, vb5])), (r0, .inr (6, [wr00, wr01, wr02, wr03])), (r1, .inr (6, [wr10, wr11, wr12, wr13])), (r2, .inr (6, [wr20, wr21, wr22, wr23])), (r3, .inr (6, [wr30, wr31, wr32, wr33])), (tx, .inl (ct, 150, .inl ft))] s.heap.size = A at hD ⊢
  have hA : ∀ q : Nat, s.heap.size ≤ q → A q := fun q h => by rw [← hAe]; exact Or.inr h
  have hS : va_S A s.heap s.heap [] := va_S.rf
  have hP : va_P (dC, dI) vwCl [(rd, .inr (5, [.ref bo, vr1, vr2, vr3, vr4, vr5, vr6, vr7, vr8])), (bo, .inr (0, [.ref r0, .ref r1, .ref r2, .ref r3, vb4, vb5])), (r0, .inr (6, [wr00, wr01, wr02, wr03])), (r1, .inr (6, [wr10, wr11, wr12, wr13])), (r2, .inr (6, [wr20, wr21, wr22, wr23])), (r3, .inr (6, [wr30, wr31, wr32, wr33])), (tx, .inl (ct, 150, .inl ft))] s.heap := hP
  have hl := lv_entry ([.ref rd, .ref tx, .int 0]) (n := 4) (Nat.le_of_ble_eq_true rfl)
  rw [lg_entry_eq]
  generalize (lg_sl ([.ref rd, .ref tx, .int 0]) ++ List.replicate (4 - (lg_sl ([.ref rd, .ref tx, .int 0])).length) Slot.unset).toArray = ls at hl ⊢
  have hl : lv_has ls 4 [(0, .ref rd), (1, .ref tx), (2, .int 0)] := hl
  refine lv_aload_n hx hb dX5_parse_0 rfl (lv_at hl 0 rfl) ?_
  refine lv_aload_n hx hb dX5_parse_1 rfl (lv_at hl 1 rfl) ?_
  refine va_put (D := (dC, dI)) (ci := 5) (v := .ref tx) (ty := .array .byte) (C := RX5) (T := TX5) (N := 9) hx hb hts iw_k_parse0_X5 tyX5 tyX5_ok nmX5 hown hK hP hD hS 0 rfl rfl 1 (by decide) (hts (.fieldLink RX5 18 "ThriceCounted$Reader" "text" "[B") (by decide +kernel)) (fun _ h9 => h9) rfl (by decide +kernel) rfl rfl (Nat.le_of_ble_eq_true rfl) dX5_parse_2 (fun H locs hP hD hS => ?_)
  have hP : va_P (dC, dI) vwCl [(rd, .inr (5, [.ref bo, .ref tx, vr2, vr3, vr4, vr5, vr6, vr7, vr8])), (bo, .inr (0, [.ref r0, .ref r1, .ref r2, .ref r3, vb4, vb5])), (r0, .inr (6, [wr00, wr01, wr02, wr03])), (r1, .inr (6, [wr10, wr11, wr12, wr13])), (r2, .inr (6, [wr20, wr21, wr22, wr23])), (r3, .inr (6, [wr30, wr31, wr32, wr33])), (tx, .inl (ct, 150, .inl ft))] H := hP
  have hD : va_D A [(rd, .inr (5, [.ref bo, .ref tx, vr2, vr3, vr4, vr5, vr6, vr7, vr8])), (bo, .inr (0, [.ref r0, .ref r1, .ref r2, .ref r3, vb4, vb5])), (r0, .inr (6, [wr00, wr01, wr02, wr03])), (r1, .inr (6, [wr10, wr11, wr12, wr13])), (r2, .inr (6, [wr20, wr21, wr22, wr23])), (r3, .inr (6, [wr30, wr31, wr32, wr33])), (tx, .inl (ct, 150, .inl ft))] := hD
  refine lv_aload_n hx hb dX5_parse_5 rfl (lv_at hl 0 rfl) ?_
  refine lv_iconst (v := 0) hx hb dX5_parse_6 (by decide) ?_
  refine lv_iload_n hx hb dX5_parse_7 rfl (lv_at hl 2 rfl) ?_
  refine lv_aload_n hx hb dX5_parse_8 rfl (lv_at hl 1 rfl) ?_
  refine va_alen (v := 150) hx hb hK hP 6 0 rfl rfl rfl dX5_parse_9 ?_
  refine va_mmin hx hb (hml.trans hl.1.symm) hown (hts (.methodLink RX5 45 Lib.Math.min.name) (by decide +kernel)) (hts (.static Lib.Math.min.name) (by decide +kernel)) (hts (.initialized "java/lang/Math") (by decide +kernel)) (hts (.code Lib.Math.min.name Lib.Math.min.code 2 (some .int)) (by decide +kernel)) (Nat.le_of_ble_eq_true rfl) (Nat.le_of_ble_eq_true rfl) (Nat.le_of_ble_eq_true rfl) (Nat.le_of_ble_eq_true rfl) dX5_parse_10 ?_
  refine tz_i 0 (by decide) ?_
  refine va_mmax hx hb (hml.trans hl.1.symm) hown (hts (.methodLink RX5 51 Lib.Math.max.name) (by decide +kernel)) (hts (.static Lib.Math.max.name) (by decide +kernel)) (hts (.initialized "java/lang/Math") (by decide +kernel)) (hts (.code Lib.Math.max.name Lib.Math.max.code 2 (some .int)) (by decide +kernel)) (Nat.le_of_ble_eq_true rfl) (Nat.le_of_ble_eq_true rfl) (Nat.le_of_ble_eq_true rfl) (Nat.le_of_ble_eq_true rfl) dX5_parse_13 ?_
  refine tz_i 0 (by decide) ?_
  refine va_put (D := (dC, dI)) (ci := 5) (v := .int 0) (ty := .int) (C := RX5) (T := TX5) (N := 9) hx hb hts iw_k_parse0_X5 tyX5 tyX5_ok nmX5 hown hK hP hD hS 0 rfl rfl 2 (by decide) (hts (.fieldLink RX5 22 "ThriceCounted$Reader" "length" "I") (by decide +kernel)) (fun _ h9 => h9) rfl (by decide +kernel) rfl rfl (Nat.le_of_ble_eq_true rfl) dX5_parse_16 (fun H locs hP hD hS => ?_)
  have hP : va_P (dC, dI) vwCl [(rd, .inr (5, [.ref bo, .ref tx, .int 0, vr3, vr4, vr5, vr6, vr7, vr8])), (bo, .inr (0, [.ref r0, .ref r1, .ref r2, .ref r3, vb4, vb5])), (r0, .inr (6, [wr00, wr01, wr02, wr03])), (r1, .inr (6, [wr10, wr11, wr12, wr13])), (r2, .inr (6, [wr20, wr21, wr22, wr23])), (r3, .inr (6, [wr30, wr31, wr32, wr33])), (tx, .inl (ct, 150, .inl ft))] H := hP
  have hD : va_D A [(rd, .inr (5, [.ref bo, .ref tx, .int 0, vr3, vr4, vr5, vr6, vr7, vr8])), (bo, .inr (0, [.ref r0, .ref r1, .ref r2, .ref r3, vb4, vb5])), (r0, .inr (6, [wr00, wr01, wr02, wr03])), (r1, .inr (6, [wr10, wr11, wr12, wr13])), (r2, .inr (6, [wr20, wr21, wr22, wr23])), (r3, .inr (6, [wr30, wr31, wr32, wr33])), (tx, .inl (ct, 150, .inl ft))] := hD
  refine lv_aload_n hx hb dX5_parse_19 rfl (lv_at hl 0 rfl) ?_
  refine lv_iconst (v := 0) hx hb dX5_parse_20 (by decide) ?_
  refine va_put (D := (dC, dI)) (ci := 5) (v := .int 0) (ty := .int) (C := RX5) (T := TX5) (N := 9) hx hb hts iw_k_parse0_X5 tyX5 tyX5_ok nmX5 hown hK hP hD hS 0 rfl rfl 3 (by decide) (hts (.fieldLink RX5 26 "ThriceCounted$Reader" "place" "I") (by decide +kernel)) (fun _ h9 => h9) rfl (by decide +kernel) rfl rfl (Nat.le_of_ble_eq_true rfl) dX5_parse_21 (fun H locs hP hD hS => ?_)
  have hP : va_P (dC, dI) vwCl [(rd, .inr (5, [.ref bo, .ref tx, .int 0, .int 0, vr4, vr5, vr6, vr7, vr8])), (bo, .inr (0, [.ref r0, .ref r1, .ref r2, .ref r3, vb4, vb5])), (r0, .inr (6, [wr00, wr01, wr02, wr03])), (r1, .inr (6, [wr10, wr11, wr12, wr13])), (r2, .inr (6, [wr20, wr21, wr22, wr23])), (r3, .inr (6, [wr30, wr31, wr32, wr33])), (tx, .inl (ct, 150, .inl ft))] H := hP
  have hD : va_D A [(rd, .inr (5, [.ref bo, .ref tx, .int 0, .int 0, vr4, vr5, vr6, vr7, vr8])), (bo, .inr (0, [.ref r0, .ref r1, .ref r2, .ref r3, vb4, vb5])), (r0, .inr (6, [wr00, wr01, wr02, wr03])), (r1, .inr (6, [wr10, wr11, wr12, wr13])), (r2, .inr (6, [wr20, wr21, wr22, wr23])), (r3, .inr (6, [wr30, wr31, wr32, wr33])), (tx, .inl (ct, 150, .inl ft))] := hD
  refine lv_aload_n hx hb dX5_parse_24 rfl (lv_at hl 0 rfl) ?_
  refine lv_iconst (v := 0) hx hb dX5_parse_25 (by decide) ?_
  refine va_put (D := (dC, dI)) (ci := 5) (v := .int 0) (ty := .int) (C := RX5) (T := TX5) (N := 9) hx hb hts iw_k_parse0_X5 tyX5 tyX5_ok nmX5 hown hK hP hD hS 0 rfl rfl 7 (by decide) (hts (.fieldLink RX5 38 "ThriceCounted$Reader" "items" "I") (by decide +kernel)) (fun _ h9 => h9) rfl (by decide +kernel) rfl rfl (Nat.le_of_ble_eq_true rfl) dX5_parse_26 (fun H locs hP hD hS => ?_)
  have hP : va_P (dC, dI) vwCl [(rd, .inr (5, [.ref bo, .ref tx, .int 0, .int 0, vr4, vr5, vr6, .int 0, vr8])), (bo, .inr (0, [.ref r0, .ref r1, .ref r2, .ref r3, vb4, vb5])), (r0, .inr (6, [wr00, wr01, wr02, wr03])), (r1, .inr (6, [wr10, wr11, wr12, wr13])), (r2, .inr (6, [wr20, wr21, wr22, wr23])), (r3, .inr (6, [wr30, wr31, wr32, wr33])), (tx, .inl (ct, 150, .inl ft))] H := hP
  have hD : va_D A [(rd, .inr (5, [.ref bo, .ref tx, .int 0, .int 0, vr4, vr5, vr6, .int 0, vr8])), (bo, .inr (0, [.ref r0, .ref r1, .ref r2, .ref r3, vb4, vb5])), (r0, .inr (6, [wr00, wr01, wr02, wr03])), (r1, .inr (6, [wr10, wr11, wr12, wr13])), (r2, .inr (6, [wr20, wr21, wr22, wr23])), (r3, .inr (6, [wr30, wr31, wr32, wr33])), (tx, .inl (ct, 150, .inl ft))] := hD
  refine lv_aload_n hx hb dX5_parse_29 rfl (lv_at hl 0 rfl) ?_
  refine lv_iconst (v := 0) hx hb dX5_parse_30 (by decide) ?_
  refine va_put (D := (dC, dI)) (ci := 5) (v := .int 0) (ty := .boolean) (C := RX5) (T := TX5) (N := 9) hx hb hts iw_k_parse0_X5 tyX5 tyX5_ok nmX5 hown hK hP hD hS 0 rfl rfl 8 (by decide) (hts (.fieldLink RX5 41 "ThriceCounted$Reader" "faulty" "Z") (by decide +kernel)) (fun _ h9 => h9) rfl (by decide +kernel) rfl rfl (Nat.le_of_ble_eq_true rfl) dX5_parse_31 (fun H locs hP hD hS => ?_)
  have hP : va_P (dC, dI) vwCl [(rd, .inr (5, [.ref bo, .ref tx, .int 0, .int 0, vr4, vr5, vr6, .int 0, .int 0])), (bo, .inr (0, [.ref r0, .ref r1, .ref r2, .ref r3, vb4, vb5])), (r0, .inr (6, [wr00, wr01, wr02, wr03])), (r1, .inr (6, [wr10, wr11, wr12, wr13])), (r2, .inr (6, [wr20, wr21, wr22, wr23])), (r3, .inr (6, [wr30, wr31, wr32, wr33])), (tx, .inl (ct, 150, .inl ft))] H := hP
  have hD : va_D A [(rd, .inr (5, [.ref bo, .ref tx, .int 0, .int 0, vr4, vr5, vr6, .int 0, .int 0])), (bo, .inr (0, [.ref r0, .ref r1, .ref r2, .ref r3, vb4, vb5])), (r0, .inr (6, [wr00, wr01, wr02, wr03])), (r1, .inr (6, [wr10, wr11, wr12, wr13])), (r2, .inr (6, [wr20, wr21, wr22, wr23])), (r3, .inr (6, [wr30, wr31, wr32, wr33])), (tx, .inl (ct, 150, .inl ft))] := hD
  refine lv_aload_n hx hb dX5_parse_34 rfl (lv_at hl 0 rfl) ?_
  refine va_get (D := (dC, dI)) (ci := 5) (v := .ref bo) (C := RX5) (T := TX5) (N := 9) hx hb hts iw_k_parse0_X5 hown hK hP 0 rfl rfl 0 (by decide) (hts (.fieldLink RX5 12 "ThriceCounted$Reader" "draft" "LThriceCounted$Bank;") (by decide +kernel)) (fun _ h9 => h9) rfl dX5_parse_35 ?_
  have hPc := hP.sub (ws' := [(bo, .inr (0, [.ref r0, .ref r1, .ref r2, .ref r3, vb4, vb5])), (r0, .inr (6, [wr00, wr01, wr02, wr03])), (r1, .inr (6, [wr10, wr11, wr12, wr13])), (r2, .inr (6, [wr20, wr21, wr22, wr23])), (r3, .inr (6, [wr30, wr31, wr32, wr33]))]) [1, 2, 3, 4, 5] rfl
  have hDc := hD.sub (ws' := [(bo, .inr (0, [.ref r0, .ref r1, .ref r2, .ref r3, vb4, vb5])), (r0, .inr (6, [wr00, wr01, wr02, wr03])), (r1, .inr (6, [wr10, wr11, wr12, wr13])), (r2, .inr (6, [wr20, wr21, wr22, wr23])), (r3, .inr (6, [wr30, wr31, wr32, wr33]))]) [1, 2, 3, 4, 5] (by decide) rfl
  have hKc := hK.sub (tys' := []) [] rfl
  have hFc := va_free (wc := [(bo, .inr (0, [.ref r0, .ref r1, .ref r2, .ref r3, vb4, vb5])), (r0, .inr (6, [wr00, wr01, wr02, wr03])), (r1, .inr (6, [wr10, wr11, wr12, wr13])), (r2, .inr (6, [wr20, wr21, wr22, wr23])), (r3, .inr (6, [wr30, wr31, wr32, wr33]))]) hD hS hA [1, 2, 3, 4, 5] rfl
  refine va_callv (va_runV (As := []) (rest := []) ⟨hx, hb, hml, hown, hts⟩ (k_bempty l dC dI bo r0 r1 r2 r3 vb4 vb5 wr00 wr01 wr02 wr03 wr10 wr11 wr12 wr13 wr20 wr21 wr22 wr23 wr30 wr31 wr32 wr33 H.size) (cwV 0 hts gX5_parse_X0_empty rfl rfl rfl (by decide +kernel) ⟨Nat.le_of_ble_eq_true rfl, Nat.le_of_ble_eq_true rfl⟩) ⟨fun a U g mk q => by obtain ⟨q0, q1, qP, qK, qD⟩ := q; exact ⟨q0, q1, qP, va_K.moved (u := U) (U := U.calling g mk a) (Vm.Alike.refl U.vm) qK, qD⟩, va_recv hK hP (ci := 0) (q0 := 1) rfl rfl, fun U hU hW => ⟨rfl, by rw [hU], by rw [hU]; exact hPc, va_K.moved hW.alike hKc, hDc.weaken (fun _ _ _ _ => trivial)⟩⟩ rfl rfl hl.1 rfl (lv_room (Nat.le_of_ble_eq_true rfl)) dX5_parse_38 ⟨Nat.le_of_ble_eq_true rfl, Nat.le_of_ble_eq_true rfl⟩) hS (fun q _ h => hFc q h) hFc (fun u_ t H1 locs ht hvm hw_2 hB hz1 hk1 hS => ?_)
  obtain ⟨hP, hD⟩ := va_join (wr := [(rd, .inr (5, [.ref bo, .ref tx, .int 0, .int 0, vr4, vr5, vr6, .int 0, .int 0])), (tx, .inl (ct, 150, .inl ft))]) (w1 := []) hP hD [1, 2, 3, 4, 5] [0, 6] rfl rfl (by decide) (by decide) hk1 hFc tz_P0 tz_D0
  generalize H1 = H at hP hS ⊢
  have hP : va_P (dC, dI) vwCl [(rd, .inr (5, [.ref bo, .ref tx, .int 0, .int 0, vr4, vr5, vr6, .int 0, .int 0])), (tx, .inl (ct, 150, .inl ft))] H := hP
  have hD : va_D A [(rd, .inr (5, [.ref bo, .ref tx, .int 0, .int 0, vr4, vr5, vr6, .int 0, .int 0])), (tx, .inl (ct, 150, .inl ft))] := hD
  refine lv_aload_n hx hb dX5_parse_41 rfl (lv_at hl 0 rfl) ?_
  have hPc := hP.sub (ws' := [(rd, .inr (5, [.ref bo, .ref tx, .int 0, .int 0, vr4, vr5, vr6, .int 0, .int 0]))]) [0] rfl
  have hDc := hD.sub (ws' := [(rd, .inr (5, [.ref bo, .ref tx, .int 0, .int 0, vr4, vr5, vr6, .int 0, .int 0]))]) [0] (by decide) rfl
  have hKc := hK.sub (tys' := []) [] rfl
  have hFc := va_free (wc := [(rd, .inr (5, [.ref bo, .ref tx, .int 0, .int 0, vr4, vr5, vr6, .int 0, .int 0]))]) hD hS hA [0] rfl
  refine va_callv (va_runV (As := []) (rest := []) ⟨hx, hb, hml, hown, hts⟩ (k_step0 l dC dI rd (.ref bo) (.ref tx) vr4 vr5 vr6 (.int 0) (.int 0) H.size) (cwV 0 hts gX5_parse_X5_step rfl rfl rfl (by decide +kernel) ⟨Nat.le_of_ble_eq_true rfl, Nat.le_of_ble_eq_true rfl⟩) ⟨fun a U g mk q => by obtain ⟨q0, q1, qP, qK, qD⟩ := q; exact ⟨q0, q1, qP, va_K.moved (u := U) (U := U.calling g mk a) (Vm.Alike.refl U.vm) qK, qD⟩, va_recv hK hP (ci := 5) (q0 := 0) rfl rfl, fun U hU hW => ⟨rfl, by rw [hU], by rw [hU]; exact hPc, va_K.moved hW.alike hKc, hDc.weaken (fun _ _ _ _ => trivial)⟩⟩ rfl rfl hl.1 rfl (lv_room (Nat.le_of_ble_eq_true rfl)) dX5_parse_42 ⟨Nat.le_of_ble_eq_true rfl, Nat.le_of_ble_eq_true rfl⟩) hS (fun q _ h => hFc q h) hFc (fun u_ t H1 locs ht hvm hw_4 hB hz1 hk1 hS => ?_)
  obtain ⟨hP1, hK1, hD1⟩ := hB
  rw [ht] at hP1
  have hK1 := va_K.moved hvm.symm hK1
  obtain ⟨hP, hD⟩ := va_join (wr := [(tx, .inl (ct, 150, .inl ft))]) (w1 := [(rd, .inr (5, [.ref bo, .ref tx, .int 0, .int 0, .int 0, .int 0, vr6, .int 0, .int 0]))]) hP hD [0] [1] rfl rfl (by decide) (by decide) hk1 hFc hP1 hD1
  generalize H1 = H at hP hS ⊢
  have hP : va_P (dC, dI) vwCl [(tx, .inl (ct, 150, .inl ft)), (rd, .inr (5, [.ref bo, .ref tx, .int 0, .int 0, .int 0, .int 0, vr6, .int 0, .int 0]))] H := hP
  have hD : va_D A [(tx, .inl (ct, 150, .inl ft)), (rd, .inr (5, [.ref bo, .ref tx, .int 0, .int 0, .int 0, .int 0, vr6, .int 0, .int 0]))] := hD
  refine lv_aload_n hx hb dX5_parse_45 rfl (lv_at hl 0 rfl) ?_
  obtain ⟨qs, hqs⟩ := hN.2.2.2.2
  refine va_ldcS hx hb hown hqs dX5_parse_46 ?_
  have hPc_5 := hP.sub (ws' := [(rd, .inr (5, [.ref bo, .ref tx, .int 0, .int 0, .int 0, .int 0, vr6, .int 0, .int 0]))]) [1] rfl
  have hKc_6 := hK.sub (tys' := []) [] rfl
  refine vp_callSi (va_Run.run (va_runV (As := [.ref qs]) (rest := []) ⟨hx, hb, hml, hown, hts⟩ (k_isWord0 l dC dI rd (.ref bo) (.ref tx) (.int 0) (.int 0) (.int 0) vr6 (.int 0) (.int 0) qs) (cwV 1 hts gX5_parse_X5_isWord rfl rfl rfl (by decide +kernel) ⟨Nat.le_of_ble_eq_true rfl, Nat.le_of_ble_eq_true rfl⟩) ⟨fun a U g mk q => by obtain ⟨q0, qP, qK⟩ := q; exact ⟨q0, qP, va_K.moved (u := U) (U := U.calling g mk a) (Vm.Alike.refl U.vm) qK⟩, va_recv hK hP (ci := 5) (q0 := 1) rfl rfl, fun U hU hW => ⟨rfl, by rw [hU]; exact hPc_5, va_K.moved hW.alike hKc_6⟩⟩ rfl rfl hl.1 rfl (lv_room (Nat.le_of_ble_eq_true rfl)) dX5_parse_48 ⟨Nat.le_of_ble_eq_true rfl, Nat.le_of_ble_eq_true rfl⟩)) (fun r_7 hw_8 => ?_)
  obtain rfl : 0 = r_7 := hw_8.symm
  refine lv_if_ne (tgt := 56) hx hb dX5_parse_51 (by decide) (fun c_9 => ?_) (fun c_9 => ?_)
  · exact absurd c_9 (by decide)
  · refine lv_iconst (v := 0) hx hb dX5_parse_54 (by decide) ?_
    have hP9 := hP.sub (ws' := [(rd, .inr (5, [.ref bo, .ref tx, .int 0, .int 0, .int 0, .int 0, vr6, .int 0, .int 0]))]) [1] rfl
    have hD9 := hD.sub (ws' := [(rd, .inr (5, [.ref bo, .ref tx, .int 0, .int 0, .int 0, .int 0, vr6, .int 0, .int 0]))]) [1] (by decide) rfl
    have hK9 := hK.sub (tys' := []) [] rfl
    exact W.zret (v := 0) hx hb hr (by decide) (fun t ht hW => ⟨⟨0, (), rfl, rfl, by rw [ht]; exact hP9, va_K.moved hW.alike hK9, hD9⟩, hS.F ht⟩) hS.2.2 dX5_parse_55
theorem dX5_fault_0 : decode cX5_fault 0 = .ok (.aload_n 0, 1) := by decide +kernel
theorem dX5_fault_1 : decode cX5_fault 1 = .ok (.getfield 32, 3) := by decide +kernel
theorem dX5_fault_4 : decode cX5_fault 4 = .ok (.ireturn, 1) := by decide +kernel
set_option maxRecDepth 20000 in
theorem iw_k_fault_X5 : ∀ w ∈ wsX50, w ∈ wsX5_fault := by decide +kernel
set_option maxHeartbeats 4000000 in
set_option maxRecDepth 100000 in
theorem k_fault (l : Launch) (dC : Nat → ClassId) (dI : Nat → Nat → Nat) (rd : Nat) (vr0 : Value) (vr1 : Value) (vr2 : Value) (vr3 : Value) (vr4 : Value) (nz : Int32) (vr6 : Value) (vr7 : Value) (vr8 : Value) : Met l yX5_fault wsX5_fault ({ frames := 0, cells := 0, slots := 0, locals := 0 }) (va_Pc [.ref rd] (fun U => va_P (dC, dI) vwCl [(rd, .inr (5, [vr0, vr1, vr2, vr3, vr4, .int nz, vr6, vr7, vr8]))] U.heap ∧ va_K (dC, dI) vwCl [] U)) (vp_Si (fun r => r = nz)) 0 0 (fun _ => False) := by
  refine Met.ofW (cc := cX5_fault) (maxL := 1) (ret := (some .int)) (by decide) rfl ?_
  intro p e s m args below meth c s₁ B hml hv
  obtain ⟨rfl, hP, hK⟩ := hv
  have hx := B.exec
  have hb := B.bytes
  have hr := B.returns
  have hts := atoms_spec (ws := wsX5_fault) B.pre
  have hown : s.vm.findClass RX5 = some m.cls := findClass_of_methodNamed B.named
  have hlocks := B.notSynchronized
  have hl := lv_entry ([.ref rd]) (n := 1) (Nat.le_of_ble_eq_true rfl)
  rw [lg_entry_eq]
  generalize (lg_sl ([.ref rd]) ++ List.replicate (1 - (lg_sl ([.ref rd])).length) Slot.unset).toArray = ls at hl ⊢
  have hl : lv_has ls 1 [(0, .ref rd)] := hl
  refine lv_aload_n hx hb dX5_fault_0 rfl (lv_at hl 0 rfl) ?_
  refine va_get (D := (dC, dI)) (ci := 5) (v := .int nz) (C := RX5) (T := TX5) (N := 9) hx hb hts iw_k_fault_X5 hown hK hP 0 rfl rfl 5 (by decide) (hts (.fieldLink RX5 32 "ThriceCounted$Reader" "start" "I") (by decide +kernel)) (fun _ h9 => h9) rfl dX5_fault_1 ?_
  exact W.iret (v := nz) hx hb hr (fun t ht hW => ⟨nz, rfl, rfl, ht⟩) (fun _ h => absurd h List.not_mem_nil) dX5_fault_4
end
