section
-- ===== PART A: goes FIRST, ahead of the names: the tables' words, and 'selects' of the private methods out of them =====
/-- a private method of a class that the tables say can be made, by its rows of tables_1 -/
def lw_okq (q : MethodName × Nat) : Prop := (q.1.cls ≠ "java/lang/invoke/MethodHandle" ∧ q.1.cls ≠ "java/lang/invoke/VarHandle") ∧ Cond.instantiable q.1.cls q.2 ∈ tables_1 ∧ Cond.privateMethod q.1 ∈ tables_1 ∧ Cond.instanceMethod q.1 ∈ tables_1
theorem lw_p0 : lw_okq (⟨"PancakePort$Reading", "takes", "(I)Z"⟩, 8) := ⟨⟨by decide +kernel, by decide +kernel⟩, List.mem_of_getElem? (i := 47) (by decide +kernel), List.mem_of_getElem? (i := 250) (by decide +kernel), List.mem_of_getElem? (i := 251) (by decide +kernel)⟩
theorem lw_p1 : lw_okq (⟨"PancakePort$Reading", "takesRow", "(I)Z"⟩, 8) := ⟨⟨by decide +kernel, by decide +kernel⟩, List.mem_of_getElem? (i := 47) (by decide +kernel), List.mem_of_getElem? (i := 254) (by decide +kernel), List.mem_of_getElem? (i := 255) (by decide +kernel)⟩
theorem lw_p2 : lw_okq (⟨"PancakePort$Reading", "takesColumn", "(I)Z"⟩, 8) := ⟨⟨by decide +kernel, by decide +kernel⟩, List.mem_of_getElem? (i := 47) (by decide +kernel), List.mem_of_getElem? (i := 258) (by decide +kernel), List.mem_of_getElem? (i := 259) (by decide +kernel)⟩
theorem lw_p3 : lw_okq (⟨"PancakePort$Reading", "takesAfterSleeper", "(I)Z"⟩, 8) := ⟨⟨by decide +kernel, by decide +kernel⟩, List.mem_of_getElem? (i := 47) (by decide +kernel), List.mem_of_getElem? (i := 266) (by decide +kernel), List.mem_of_getElem? (i := 267) (by decide +kernel)⟩
theorem lw_p4 : lw_okq (⟨"PancakePort$Reading", "takesKind", "(I)Z"⟩, 8) := ⟨⟨by decide +kernel, by decide +kernel⟩, List.mem_of_getElem? (i := 47) (by decide +kernel), List.mem_of_getElem? (i := 270) (by decide +kernel), List.mem_of_getElem? (i := 271) (by decide +kernel)⟩
theorem lw_p5 : lw_okq (⟨"PancakePort$Reading", "takesSouth", "(I)Z"⟩, 8) := ⟨⟨by decide +kernel, by decide +kernel⟩, List.mem_of_getElem? (i := 47) (by decide +kernel), List.mem_of_getElem? (i := 361) (by decide +kernel), List.mem_of_getElem? (i := 362) (by decide +kernel)⟩
theorem lw_p6 : lw_okq (⟨"PancakePort$Reading", "takesEast", "(I)Z"⟩, 8) := ⟨⟨by decide +kernel, by decide +kernel⟩, List.mem_of_getElem? (i := 47) (by decide +kernel), List.mem_of_getElem? (i := 368) (by decide +kernel), List.mem_of_getElem? (i := 369) (by decide +kernel)⟩
theorem lw_p7 : lw_okq (⟨"PancakePort$Reading", "takesAfterTosser", "(I)Z"⟩, 8) := ⟨⟨by decide +kernel, by decide +kernel⟩, List.mem_of_getElem? (i := 47) (by decide +kernel), List.mem_of_getElem? (i := 372) (by decide +kernel), List.mem_of_getElem? (i := 373) (by decide +kernel)⟩
theorem lw_p8 : lw_okq (⟨"PancakePort", "settle", "()V"⟩, 11) := ⟨⟨by decide +kernel, by decide +kernel⟩, List.mem_of_getElem? (i := 21) (by decide +kernel), List.mem_of_getElem? (i := 385) (by decide +kernel), List.mem_of_getElem? (i := 386) (by decide +kernel)⟩
theorem lw_p9 : lw_okq (⟨"PancakePort", "isSleeper", "(I)Z"⟩, 11) := ⟨⟨by decide +kernel, by decide +kernel⟩, List.mem_of_getElem? (i := 21) (by decide +kernel), List.mem_of_getElem? (i := 442) (by decide +kernel), List.mem_of_getElem? (i := 443) (by decide +kernel)⟩
theorem lw_p10 : lw_okq (⟨"PancakePort", "bestPlaceFor", "(I)I"⟩, 11) := ⟨⟨by decide +kernel, by decide +kernel⟩, List.mem_of_getElem? (i := 21) (by decide +kernel), List.mem_of_getElem? (i := 446) (by decide +kernel), List.mem_of_getElem? (i := 447) (by decide +kernel)⟩
theorem lw_p11 : lw_okq (⟨"PancakePort", "countChances", "()V"⟩, 11) := ⟨⟨by decide +kernel, by decide +kernel⟩, List.mem_of_getElem? (i := 21) (by decide +kernel), List.mem_of_getElem? (i := 450) (by decide +kernel), List.mem_of_getElem? (i := 451) (by decide +kernel)⟩
theorem lw_p12 : lw_okq (⟨"PancakePort", "tosserAt", "(I)LPancakePort$Tosser;"⟩, 11) := ⟨⟨by decide +kernel, by decide +kernel⟩, List.mem_of_getElem? (i := 21) (by decide +kernel), List.mem_of_getElem? (i := 455) (by decide +kernel), List.mem_of_getElem? (i := 456) (by decide +kernel)⟩
theorem lw_p13 : lw_okq (⟨"PancakePort", "landing", "(III)I"⟩, 11) := ⟨⟨by decide +kernel, by decide +kernel⟩, List.mem_of_getElem? (i := 21) (by decide +kernel), List.mem_of_getElem? (i := 459) (by decide +kernel), List.mem_of_getElem? (i := 460) (by decide +kernel)⟩
theorem lw_p14 : lw_okq (⟨"PancakePort", "addChances", "(LPancakePort$Tosser;I)V"⟩, 11) := ⟨⟨by decide +kernel, by decide +kernel⟩, List.mem_of_getElem? (i := 21) (by decide +kernel), List.mem_of_getElem? (i := 464) (by decide +kernel), List.mem_of_getElem? (i := 465) (by decide +kernel)⟩
theorem lw_p15 : lw_okq (⟨"PancakePort", "isTakenByAnother", "(II)Z"⟩, 11) := ⟨⟨by decide +kernel, by decide +kernel⟩, List.mem_of_getElem? (i := 21) (by decide +kernel), List.mem_of_getElem? (i := 492) (by decide +kernel), List.mem_of_getElem? (i := 493) (by decide +kernel)⟩
def lw_privs_1 : List (MethodName × Nat) := [(⟨"PancakePort$Reading", "takes", "(I)Z"⟩, 8), (⟨"PancakePort$Reading", "takesRow", "(I)Z"⟩, 8), (⟨"PancakePort$Reading", "takesColumn", "(I)Z"⟩, 8), (⟨"PancakePort$Reading", "takesAfterSleeper", "(I)Z"⟩, 8), (⟨"PancakePort$Reading", "takesKind", "(I)Z"⟩, 8), (⟨"PancakePort$Reading", "takesSouth", "(I)Z"⟩, 8), (⟨"PancakePort$Reading", "takesEast", "(I)Z"⟩, 8), (⟨"PancakePort$Reading", "takesAfterTosser", "(I)Z"⟩, 8), (⟨"PancakePort", "settle", "()V"⟩, 11), (⟨"PancakePort", "isSleeper", "(I)Z"⟩, 11), (⟨"PancakePort", "bestPlaceFor", "(I)I"⟩, 11), (⟨"PancakePort", "countChances", "()V"⟩, 11), (⟨"PancakePort", "tosserAt", "(I)LPancakePort$Tosser;"⟩, 11), (⟨"PancakePort", "landing", "(III)I"⟩, 11), (⟨"PancakePort", "addChances", "(LPancakePort$Tosser;I)V"⟩, 11), (⟨"PancakePort", "isTakenByAnother", "(II)Z"⟩, 11)]
theorem lw_r1 : ∀ q ∈ lw_privs_1, lw_okq q := List.forall_mem_cons.mpr ⟨lw_p0, List.forall_mem_cons.mpr ⟨lw_p1, List.forall_mem_cons.mpr ⟨lw_p2, List.forall_mem_cons.mpr ⟨lw_p3, List.forall_mem_cons.mpr ⟨lw_p4, List.forall_mem_cons.mpr ⟨lw_p5, List.forall_mem_cons.mpr ⟨lw_p6, List.forall_mem_cons.mpr ⟨lw_p7, List.forall_mem_cons.mpr ⟨lw_p8, List.forall_mem_cons.mpr ⟨lw_p9, List.forall_mem_cons.mpr ⟨lw_p10, List.forall_mem_cons.mpr ⟨lw_p11, List.forall_mem_cons.mpr ⟨lw_p12, List.forall_mem_cons.mpr ⟨lw_p13, List.forall_mem_cons.mpr ⟨lw_p14, List.forall_mem_cons.mpr ⟨lw_p15, fun _ h => absurd h List.not_mem_nil⟩⟩⟩⟩⟩⟩⟩⟩⟩⟩⟩⟩⟩⟩⟩⟩
theorem lw_p16 : lw_okq (⟨"PancakePort", "bestAimOf", "(I)I"⟩, 11) := ⟨⟨by decide +kernel, by decide +kernel⟩, List.mem_of_getElem? (i := 21) (by decide +kernel), List.mem_of_getElem? (i := 534) (by decide +kernel), List.mem_of_getElem? (i := 535) (by decide +kernel)⟩
theorem lw_p17 : lw_okq (⟨"PancakePort", "freshOf", "(II)I"⟩, 11) := ⟨⟨by decide +kernel, by decide +kernel⟩, List.mem_of_getElem? (i := 21) (by decide +kernel), List.mem_of_getElem? (i := 538) (by decide +kernel), List.mem_of_getElem? (i := 539) (by decide +kernel)⟩
theorem lw_p18 : lw_okq (⟨"PancakePort", "crowdUnder", "(III)I"⟩, 11) := ⟨⟨by decide +kernel, by decide +kernel⟩, List.mem_of_getElem? (i := 21) (by decide +kernel), List.mem_of_getElem? (i := 542) (by decide +kernel), List.mem_of_getElem? (i := 543) (by decide +kernel)⟩
theorem lw_p19 : lw_okq (⟨"PancakePort$Seen", "allows", "(II)Z"⟩, 4) := ⟨⟨by decide +kernel, by decide +kernel⟩, List.mem_of_getElem? (i := 92) (by decide +kernel), List.mem_of_getElem? (i := 556) (by decide +kernel), List.mem_of_getElem? (i := 557) (by decide +kernel)⟩
theorem lw_p20 : lw_okq (⟨"PancakePort", "isToss", "(II)Z"⟩, 11) := ⟨⟨by decide +kernel, by decide +kernel⟩, List.mem_of_getElem? (i := 21) (by decide +kernel), List.mem_of_getElem? (i := 586) (by decide +kernel), List.mem_of_getElem? (i := 587) (by decide +kernel)⟩
theorem lw_p21 : lw_okq (⟨"PancakePort", "isCell", "(I)Z"⟩, 11) := ⟨⟨by decide +kernel, by decide +kernel⟩, List.mem_of_getElem? (i := 21) (by decide +kernel), List.mem_of_getElem? (i := 590) (by decide +kernel), List.mem_of_getElem? (i := 591) (by decide +kernel)⟩
theorem lw_p22 : lw_okq (⟨"PancakePort", "hasPort", "()Z"⟩, 11) := ⟨⟨by decide +kernel, by decide +kernel⟩, List.mem_of_getElem? (i := 21) (by decide +kernel), List.mem_of_getElem? (i := 594) (by decide +kernel), List.mem_of_getElem? (i := 595) (by decide +kernel)⟩
theorem lw_p23 : lw_okq (⟨"PancakePort", "everybody", "()I"⟩, 11) := ⟨⟨by decide +kernel, by decide +kernel⟩, List.mem_of_getElem? (i := 21) (by decide +kernel), List.mem_of_getElem? (i := 637) (by decide +kernel), List.mem_of_getElem? (i := 638) (by decide +kernel)⟩
theorem lw_p24 : lw_okq (⟨"PancakePort", "planFor", "(I)V"⟩, 11) := ⟨⟨by decide +kernel, by decide +kernel⟩, List.mem_of_getElem? (i := 21) (by decide +kernel), List.mem_of_getElem? (i := 641) (by decide +kernel), List.mem_of_getElem? (i := 642) (by decide +kernel)⟩
theorem lw_p25 : lw_okq (⟨"PancakePort$Plan", "leastPrice", "(I)I"⟩, 7) := ⟨⟨by decide +kernel, by decide +kernel⟩, List.mem_of_getElem? (i := 162) (by decide +kernel), List.mem_of_getElem? (i := 662) (by decide +kernel), List.mem_of_getElem? (i := 663) (by decide +kernel)⟩
theorem lw_p26 : lw_okq (⟨"PancakePort$Plan", "choose", "(I)V"⟩, 7) := ⟨⟨by decide +kernel, by decide +kernel⟩, List.mem_of_getElem? (i := 162) (by decide +kernel), List.mem_of_getElem? (i := 666) (by decide +kernel), List.mem_of_getElem? (i := 667) (by decide +kernel)⟩
theorem lw_p27 : lw_okq (⟨"PancakePort$Plan", "firstFor", "(I)I"⟩, 7) := ⟨⟨by decide +kernel, by decide +kernel⟩, List.mem_of_getElem? (i := 162) (by decide +kernel), List.mem_of_getElem? (i := 670) (by decide +kernel), List.mem_of_getElem? (i := 671) (by decide +kernel)⟩
theorem lw_p28 : lw_okq (⟨"PancakePort", "canLandAt", "(II)Z"⟩, 11) := ⟨⟨by decide +kernel, by decide +kernel⟩, List.mem_of_getElem? (i := 21) (by decide +kernel), List.mem_of_getElem? (i := 690) (by decide +kernel), List.mem_of_getElem? (i := 691) (by decide +kernel)⟩
theorem lw_p29 : lw_okq (⟨"PancakePort", "digestOfPlans", "(J)J"⟩, 11) := ⟨⟨by decide +kernel, by decide +kernel⟩, List.mem_of_getElem? (i := 21) (by decide +kernel), List.mem_of_getElem? (i := 755) (by decide +kernel), List.mem_of_getElem? (i := 756) (by decide +kernel)⟩
theorem lw_p30 : lw_okq (⟨"PancakePortModel", "faultOf", "()I"⟩, 40) := ⟨⟨by decide +kernel, by decide +kernel⟩, List.mem_of_getElem? (i := 762) (by decide +kernel), List.mem_of_getElem? (i := 905) (by decide +kernel), List.mem_of_getElem? (i := 906) (by decide +kernel)⟩
theorem lw_p31 : lw_okq (⟨"PancakePortModel", "isSleeperLetter", "(I)Z"⟩, 40) := ⟨⟨by decide +kernel, by decide +kernel⟩, List.mem_of_getElem? (i := 762) (by decide +kernel), List.mem_of_getElem? (i := 909) (by decide +kernel), List.mem_of_getElem? (i := 910) (by decide +kernel)⟩
def lw_privs_2 : List (MethodName × Nat) := [(⟨"PancakePort", "bestAimOf", "(I)I"⟩, 11), (⟨"PancakePort", "freshOf", "(II)I"⟩, 11), (⟨"PancakePort", "crowdUnder", "(III)I"⟩, 11), (⟨"PancakePort$Seen", "allows", "(II)Z"⟩, 4), (⟨"PancakePort", "isToss", "(II)Z"⟩, 11), (⟨"PancakePort", "isCell", "(I)Z"⟩, 11), (⟨"PancakePort", "hasPort", "()Z"⟩, 11), (⟨"PancakePort", "everybody", "()I"⟩, 11), (⟨"PancakePort", "planFor", "(I)V"⟩, 11), (⟨"PancakePort$Plan", "leastPrice", "(I)I"⟩, 7), (⟨"PancakePort$Plan", "choose", "(I)V"⟩, 7), (⟨"PancakePort$Plan", "firstFor", "(I)I"⟩, 7), (⟨"PancakePort", "canLandAt", "(II)Z"⟩, 11), (⟨"PancakePort", "digestOfPlans", "(J)J"⟩, 11), (⟨"PancakePortModel", "faultOf", "()I"⟩, 40), (⟨"PancakePortModel", "isSleeperLetter", "(I)Z"⟩, 40)]
theorem lw_r2 : ∀ q ∈ lw_privs_2, lw_okq q := List.forall_mem_cons.mpr ⟨lw_p16, List.forall_mem_cons.mpr ⟨lw_p17, List.forall_mem_cons.mpr ⟨lw_p18, List.forall_mem_cons.mpr ⟨lw_p19, List.forall_mem_cons.mpr ⟨lw_p20, List.forall_mem_cons.mpr ⟨lw_p21, List.forall_mem_cons.mpr ⟨lw_p22, List.forall_mem_cons.mpr ⟨lw_p23, List.forall_mem_cons.mpr ⟨lw_p24, List.forall_mem_cons.mpr ⟨lw_p25, List.forall_mem_cons.mpr ⟨lw_p26, List.forall_mem_cons.mpr ⟨lw_p27, List.forall_mem_cons.mpr ⟨lw_p28, List.forall_mem_cons.mpr ⟨lw_p29, List.forall_mem_cons.mpr ⟨lw_p30, List.forall_mem_cons.mpr ⟨lw_p31, fun _ h => absurd h List.not_mem_nil⟩⟩⟩⟩⟩⟩⟩⟩⟩⟩⟩⟩⟩⟩⟩⟩
theorem lw_p32 : lw_okq (⟨"PancakePortModel", "isNew", "(I)Z"⟩, 40) := ⟨⟨by decide +kernel, by decide +kernel⟩, List.mem_of_getElem? (i := 762) (by decide +kernel), List.mem_of_getElem? (i := 915) (by decide +kernel), List.mem_of_getElem? (i := 916) (by decide +kernel)⟩
theorem lw_p33 : lw_okq (⟨"PancakePortModel", "cellAt", "(I)I"⟩, 40) := ⟨⟨by decide +kernel, by decide +kernel⟩, List.mem_of_getElem? (i := 762) (by decide +kernel), List.mem_of_getElem? (i := 919) (by decide +kernel), List.mem_of_getElem? (i := 920) (by decide +kernel)⟩
theorem lw_p34 : lw_okq (⟨"PancakePortModel", "isTosserLetter", "(I)Z"⟩, 40) := ⟨⟨by decide +kernel, by decide +kernel⟩, List.mem_of_getElem? (i := 762) (by decide +kernel), List.mem_of_getElem? (i := 923) (by decide +kernel), List.mem_of_getElem? (i := 924) (by decide +kernel)⟩
theorem lw_p35 : lw_okq (⟨"PancakePortModel", "isTosser", "(I)Z"⟩, 40) := ⟨⟨by decide +kernel, by decide +kernel⟩, List.mem_of_getElem? (i := 762) (by decide +kernel), List.mem_of_getElem? (i := 939) (by decide +kernel), List.mem_of_getElem? (i := 940) (by decide +kernel)⟩
theorem lw_p36 : lw_okq (⟨"PancakePortModel", "landsBy", "(III)I"⟩, 40) := ⟨⟨by decide +kernel, by decide +kernel⟩, List.mem_of_getElem? (i := 762) (by decide +kernel), List.mem_of_getElem? (i := 947) (by decide +kernel), List.mem_of_getElem? (i := 948) (by decide +kernel)⟩
theorem lw_p37 : lw_okq (⟨"PancakePortModel", "coversOf", "(III)I"⟩, 40) := ⟨⟨by decide +kernel, by decide +kernel⟩, List.mem_of_getElem? (i := 762) (by decide +kernel), List.mem_of_getElem? (i := 959) (by decide +kernel), List.mem_of_getElem? (i := 960) (by decide +kernel)⟩
theorem lw_p38 : lw_okq (⟨"PancakePortModel", "coversCell", "(IIII)Z"⟩, 40) := ⟨⟨by decide +kernel, by decide +kernel⟩, List.mem_of_getElem? (i := 762) (by decide +kernel), List.mem_of_getElem? (i := 963) (by decide +kernel), List.mem_of_getElem? (i := 964) (by decide +kernel)⟩
theorem lw_p39 : lw_okq (⟨"PancakePortModel", "isSleeper", "(I)Z"⟩, 40) := ⟨⟨by decide +kernel, by decide +kernel⟩, List.mem_of_getElem? (i := 762) (by decide +kernel), List.mem_of_getElem? (i := 977) (by decide +kernel), List.mem_of_getElem? (i := 978) (by decide +kernel)⟩
theorem lw_p40 : lw_okq (⟨"PancakePortModel", "tellSleeper", "(II)I"⟩, 40) := ⟨⟨by decide +kernel, by decide +kernel⟩, List.mem_of_getElem? (i := 762) (by decide +kernel), List.mem_of_getElem? (i := 981) (by decide +kernel), List.mem_of_getElem? (i := 982) (by decide +kernel)⟩
theorem lw_p41 : lw_okq (⟨"PancakePortModel", "lieOf", "(I)I"⟩, 40) := ⟨⟨by decide +kernel, by decide +kernel⟩, List.mem_of_getElem? (i := 762) (by decide +kernel), List.mem_of_getElem? (i := 985) (by decide +kernel), List.mem_of_getElem? (i := 986) (by decide +kernel)⟩
theorem lw_p42 : lw_okq (⟨"PancakePortModel", "isFreeFor", "(II)Z"⟩, 40) := ⟨⟨by decide +kernel, by decide +kernel⟩, List.mem_of_getElem? (i := 762) (by decide +kernel), List.mem_of_getElem? (i := 989) (by decide +kernel), List.mem_of_getElem? (i := 990) (by decide +kernel)⟩
theorem lw_p43 : lw_okq (⟨"PancakePortModel", "tossesOver", "(I)I"⟩, 40) := ⟨⟨by decide +kernel, by decide +kernel⟩, List.mem_of_getElem? (i := 762) (by decide +kernel), List.mem_of_getElem? (i := 993) (by decide +kernel), List.mem_of_getElem? (i := 994) (by decide +kernel)⟩
theorem lw_p44 : lw_okq (⟨"PancakePortModel", "tellTosser", "(II)I"⟩, 40) := ⟨⟨by decide +kernel, by decide +kernel⟩, List.mem_of_getElem? (i := 762) (by decide +kernel), List.mem_of_getElem? (i := 1001) (by decide +kernel), List.mem_of_getElem? (i := 1002) (by decide +kernel)⟩
theorem lw_p45 : lw_okq (⟨"PancakePortModel", "mostOf", "(II)I"⟩, 40) := ⟨⟨by decide +kernel, by decide +kernel⟩, List.mem_of_getElem? (i := 762) (by decide +kernel), List.mem_of_getElem? (i := 1008) (by decide +kernel), List.mem_of_getElem? (i := 1009) (by decide +kernel)⟩
theorem lw_p46 : lw_okq (⟨"PancakePortModel", "open", "()I"⟩, 40) := ⟨⟨by decide +kernel, by decide +kernel⟩, List.mem_of_getElem? (i := 762) (by decide +kernel), List.mem_of_getElem? (i := 1012) (by decide +kernel), List.mem_of_getElem? (i := 1013) (by decide +kernel)⟩
theorem lw_p47 : lw_okq (⟨"PancakePortModel", "turnsOf", "(I)I"⟩, 40) := ⟨⟨by decide +kernel, by decide +kernel⟩, List.mem_of_getElem? (i := 762) (by decide +kernel), List.mem_of_getElem? (i := 1019) (by decide +kernel), List.mem_of_getElem? (i := 1020) (by decide +kernel)⟩
def lw_privs_3 : List (MethodName × Nat) := [(⟨"PancakePortModel", "isNew", "(I)Z"⟩, 40), (⟨"PancakePortModel", "cellAt", "(I)I"⟩, 40), (⟨"PancakePortModel", "isTosserLetter", "(I)Z"⟩, 40), (⟨"PancakePortModel", "isTosser", "(I)Z"⟩, 40), (⟨"PancakePortModel", "landsBy", "(III)I"⟩, 40), (⟨"PancakePortModel", "coversOf", "(III)I"⟩, 40), (⟨"PancakePortModel", "coversCell", "(IIII)Z"⟩, 40), (⟨"PancakePortModel", "isSleeper", "(I)Z"⟩, 40), (⟨"PancakePortModel", "tellSleeper", "(II)I"⟩, 40), (⟨"PancakePortModel", "lieOf", "(I)I"⟩, 40), (⟨"PancakePortModel", "isFreeFor", "(II)Z"⟩, 40), (⟨"PancakePortModel", "tossesOver", "(I)I"⟩, 40), (⟨"PancakePortModel", "tellTosser", "(II)I"⟩, 40), (⟨"PancakePortModel", "mostOf", "(II)I"⟩, 40), (⟨"PancakePortModel", "open", "()I"⟩, 40), (⟨"PancakePortModel", "turnsOf", "(I)I"⟩, 40)]
theorem lw_r3 : ∀ q ∈ lw_privs_3, lw_okq q := List.forall_mem_cons.mpr ⟨lw_p32, List.forall_mem_cons.mpr ⟨lw_p33, List.forall_mem_cons.mpr ⟨lw_p34, List.forall_mem_cons.mpr ⟨lw_p35, List.forall_mem_cons.mpr ⟨lw_p36, List.forall_mem_cons.mpr ⟨lw_p37, List.forall_mem_cons.mpr ⟨lw_p38, List.forall_mem_cons.mpr ⟨lw_p39, List.forall_mem_cons.mpr ⟨lw_p40, List.forall_mem_cons.mpr ⟨lw_p41, List.forall_mem_cons.mpr ⟨lw_p42, List.forall_mem_cons.mpr ⟨lw_p43, List.forall_mem_cons.mpr ⟨lw_p44, List.forall_mem_cons.mpr ⟨lw_p45, List.forall_mem_cons.mpr ⟨lw_p46, List.forall_mem_cons.mpr ⟨lw_p47, fun _ h => absurd h List.not_mem_nil⟩⟩⟩⟩⟩⟩⟩⟩⟩⟩⟩⟩⟩⟩⟩⟩
theorem lw_p48 : lw_okq (⟨"PancakePortModel", "aimOf", "(I)I"⟩, 40) := ⟨⟨by decide +kernel, by decide +kernel⟩, List.mem_of_getElem? (i := 762) (by decide +kernel), List.mem_of_getElem? (i := 1026) (by decide +kernel), List.mem_of_getElem? (i := 1027) (by decide +kernel)⟩
theorem lw_p49 : lw_okq (⟨"PancakePortModel", "lacks", "()Z"⟩, 40) := ⟨⟨by decide +kernel, by decide +kernel⟩, List.mem_of_getElem? (i := 762) (by decide +kernel), List.mem_of_getElem? (i := 1044) (by decide +kernel), List.mem_of_getElem? (i := 1045) (by decide +kernel)⟩
theorem lw_p50 : lw_okq (⟨"PancakePortModel", "allOf", "(I)I"⟩, 40) := ⟨⟨by decide +kernel, by decide +kernel⟩, List.mem_of_getElem? (i := 762) (by decide +kernel), List.mem_of_getElem? (i := 1071) (by decide +kernel), List.mem_of_getElem? (i := 1072) (by decide +kernel)⟩
theorem lw_p51 : lw_okq (⟨"PancakePortModel", "layLeast", "()V"⟩, 40) := ⟨⟨by decide +kernel, by decide +kernel⟩, List.mem_of_getElem? (i := 762) (by decide +kernel), List.mem_of_getElem? (i := 1075) (by decide +kernel), List.mem_of_getElem? (i := 1076) (by decide +kernel)⟩
theorem lw_p52 : lw_okq (⟨"PancakePortModel", "priceOf", "(I)I"⟩, 40) := ⟨⟨by decide +kernel, by decide +kernel⟩, List.mem_of_getElem? (i := 762) (by decide +kernel), List.mem_of_getElem? (i := 1080) (by decide +kernel), List.mem_of_getElem? (i := 1081) (by decide +kernel)⟩
theorem lw_p53 : lw_okq (⟨"PancakePortModel", "layRow", "(I)V"⟩, 40) := ⟨⟨by decide +kernel, by decide +kernel⟩, List.mem_of_getElem? (i := 762) (by decide +kernel), List.mem_of_getElem? (i := 1084) (by decide +kernel), List.mem_of_getElem? (i := 1085) (by decide +kernel)⟩
theorem lw_p54 : lw_okq (⟨"PancakePortModel", "nightsOf", "()I"⟩, 40) := ⟨⟨by decide +kernel, by decide +kernel⟩, List.mem_of_getElem? (i := 762) (by decide +kernel), List.mem_of_getElem? (i := 1092) (by decide +kernel), List.mem_of_getElem? (i := 1093) (by decide +kernel)⟩
theorem lw_p55 : lw_okq (⟨"PancakePortModel", "whoOf", "(I)I"⟩, 40) := ⟨⟨by decide +kernel, by decide +kernel⟩, List.mem_of_getElem? (i := 762) (by decide +kernel), List.mem_of_getElem? (i := 1104) (by decide +kernel), List.mem_of_getElem? (i := 1105) (by decide +kernel)⟩
theorem lw_p56 : lw_okq (⟨"PancakePortModel", "draw", "(I)I"⟩, 40) := ⟨⟨by decide +kernel, by decide +kernel⟩, List.mem_of_getElem? (i := 762) (by decide +kernel), List.mem_of_getElem? (i := 1121) (by decide +kernel), List.mem_of_getElem? (i := 1122) (by decide +kernel)⟩
theorem lw_p57 : lw_okq (⟨"PancakePortModel", "countOf", "(I)I"⟩, 40) := ⟨⟨by decide +kernel, by decide +kernel⟩, List.mem_of_getElem? (i := 762) (by decide +kernel), List.mem_of_getElem? (i := 1144) (by decide +kernel), List.mem_of_getElem? (i := 1145) (by decide +kernel)⟩
theorem lw_p58 : lw_okq (⟨"PancakePortModel", "sumOf", "([I)I"⟩, 40) := ⟨⟨by decide +kernel, by decide +kernel⟩, List.mem_of_getElem? (i := 762) (by decide +kernel), List.mem_of_getElem? (i := 1148) (by decide +kernel), List.mem_of_getElem? (i := 1149) (by decide +kernel)⟩
theorem lw_p59 : lw_okq (⟨"PancakePortModel", "say", "(J)V"⟩, 40) := ⟨⟨by decide +kernel, by decide +kernel⟩, List.mem_of_getElem? (i := 762) (by decide +kernel), List.mem_of_getElem? (i := 1157) (by decide +kernel), List.mem_of_getElem? (i := 1158) (by decide +kernel)⟩
theorem lw_p60 : lw_okq (⟨"PancakePortModel", "sayTosser", "(I)V"⟩, 40) := ⟨⟨by decide +kernel, by decide +kernel⟩, List.mem_of_getElem? (i := 762) (by decide +kernel), List.mem_of_getElem? (i := 1162) (by decide +kernel), List.mem_of_getElem? (i := 1163) (by decide +kernel)⟩
theorem lw_p61 : lw_okq (⟨"PancakePortModel", "sayPort", "()V"⟩, 40) := ⟨⟨by decide +kernel, by decide +kernel⟩, List.mem_of_getElem? (i := 762) (by decide +kernel), List.mem_of_getElem? (i := 1166) (by decide +kernel), List.mem_of_getElem? (i := 1167) (by decide +kernel)⟩
def lw_privs_4 : List (MethodName × Nat) := [(⟨"PancakePortModel", "aimOf", "(I)I"⟩, 40), (⟨"PancakePortModel", "lacks", "()Z"⟩, 40), (⟨"PancakePortModel", "allOf", "(I)I"⟩, 40), (⟨"PancakePortModel", "layLeast", "()V"⟩, 40), (⟨"PancakePortModel", "priceOf", "(I)I"⟩, 40), (⟨"PancakePortModel", "layRow", "(I)V"⟩, 40), (⟨"PancakePortModel", "nightsOf", "()I"⟩, 40), (⟨"PancakePortModel", "whoOf", "(I)I"⟩, 40), (⟨"PancakePortModel", "draw", "(I)I"⟩, 40), (⟨"PancakePortModel", "countOf", "(I)I"⟩, 40), (⟨"PancakePortModel", "sumOf", "([I)I"⟩, 40), (⟨"PancakePortModel", "say", "(J)V"⟩, 40), (⟨"PancakePortModel", "sayTosser", "(I)V"⟩, 40), (⟨"PancakePortModel", "sayPort", "()V"⟩, 40)]
theorem lw_r4 : ∀ q ∈ lw_privs_4, lw_okq q := List.forall_mem_cons.mpr ⟨lw_p48, List.forall_mem_cons.mpr ⟨lw_p49, List.forall_mem_cons.mpr ⟨lw_p50, List.forall_mem_cons.mpr ⟨lw_p51, List.forall_mem_cons.mpr ⟨lw_p52, List.forall_mem_cons.mpr ⟨lw_p53, List.forall_mem_cons.mpr ⟨lw_p54, List.forall_mem_cons.mpr ⟨lw_p55, List.forall_mem_cons.mpr ⟨lw_p56, List.forall_mem_cons.mpr ⟨lw_p57, List.forall_mem_cons.mpr ⟨lw_p58, List.forall_mem_cons.mpr ⟨lw_p59, List.forall_mem_cons.mpr ⟨lw_p60, List.forall_mem_cons.mpr ⟨lw_p61, fun _ h => absurd h List.not_mem_nil⟩⟩⟩⟩⟩⟩⟩⟩⟩⟩⟩⟩⟩⟩
def lw_privs : List (MethodName × Nat) := lw_privs_1 ++ (lw_privs_2 ++ (lw_privs_3 ++ (lw_privs_4)))
def lw_tbl : List Cond := k2_sels lw_privs ++ tables_1
theorem lw_privs_ok : ∀ q ∈ lw_privs, lw_okq q := by
  show ∀ q ∈ lw_privs_1 ++ (lw_privs_2 ++ (lw_privs_3 ++ (lw_privs_4))), lw_okq q
  exact List.forall_mem_append.mpr ⟨lw_r1, List.forall_mem_append.mpr ⟨lw_r2, List.forall_mem_append.mpr ⟨lw_r3, lw_r4⟩⟩⟩
end
section
def RX0 : String := "PancakePort$Lacy"
def TX0 : u_T := fun k => match k with
  | _ => ("", "", "", false)
def tyX0 : Nat → FieldType := fun k => match k with
  | _ => .int
abbrev wsX00 : List Cond := u_ws RX0 TX0 0
theorem nmX0 : ∀ a, a < 0 → ∀ b, b < 0 → a ≠ b → (TX0 a).2.1 ≠ (TX0 b).2.1 := by decide +kernel
theorem tyX0_ok : ∀ k, k < 0 → parseFieldDescriptor (TX0 k).2.2.1 = some (tyX0 k) := by decide +kernel
abbrev cX0_init : ByteArray := prog_2_method_1_code
def yX0_init : MethodName := ⟨RX0, "<init>", "()V"⟩
abbrev cX0_kind : ByteArray := prog_2_method_2_code
def yX0_kind : MethodName := ⟨RX0, "kind", "()I"⟩
abbrev cX0_batter : ByteArray := prog_2_method_3_code
def yX0_batter : MethodName := ⟨RX0, "batter", "()I"⟩
abbrev cX0_spreads : ByteArray := prog_2_method_4_code
def yX0_spreads : MethodName := ⟨RX0, "spreads", "(II)Z"⟩
def RX1 : String := "PancakePort$Mayor"
def TX1 : u_T := fun k => match k with
  | _ => ("", "", "", false)
def tyX1 : Nat → FieldType := fun k => match k with
  | _ => .int
abbrev wsX10 : List Cond := u_ws RX1 TX1 0
theorem nmX1 : ∀ a, a < 0 → ∀ b, b < 0 → a ≠ b → (TX1 a).2.1 ≠ (TX1 b).2.1 := by decide +kernel
theorem tyX1_ok : ∀ k, k < 0 → parseFieldDescriptor (TX1 k).2.2.1 = some (tyX1 k) := by decide +kernel
abbrev cX1_init : ByteArray := prog_3_method_1_code
def yX1_init : MethodName := ⟨RX1, "<init>", "()V"⟩
abbrev cX1_kind : ByteArray := prog_3_method_2_code
def yX1_kind : MethodName := ⟨RX1, "kind", "()I"⟩
abbrev cX1_batter : ByteArray := prog_3_method_3_code
def yX1_batter : MethodName := ⟨RX1, "batter", "()I"⟩
abbrev cX1_spreads : ByteArray := prog_3_method_4_code
def yX1_spreads : MethodName := ⟨RX1, "spreads", "(II)Z"⟩
def RX2 : String := "PancakePort$Night"
def TX2 : u_T := fun k => match k with
  | 0 => ("PancakePort$Night", "cells", "[I", true)
  | 1 => ("PancakePort$Night", "breakfasts", "[I", true)
  | 2 => ("PancakePort$Night", "colds", "[I", true)
  | 3 => ("PancakePort$Night", "souths", "[I", true)
  | 4 => ("PancakePort$Night", "easts", "[I", true)
  | 5 => ("PancakePort$Night", "thrown", "[I", true)
  | 6 => ("PancakePort$Night", "seen", "LPancakePort$Seen;", true)
  | 7 => ("PancakePort$Night", "covered", "I", false)
  | 8 => ("PancakePort$Night", "wind", "I", false)
  | 9 => ("PancakePort$Night", "batter", "I", false)
  | 10 => ("PancakePort$Night", "mornings", "I", false)
  | _ => ("PancakePort$Night", "tosses", "I", false)
def tyX2 : Nat → FieldType := fun k => match k with
  | 0 => .array .int
  | 1 => .array .int
  | 2 => .array .int
  | 3 => .array .int
  | 4 => .array .int
  | 5 => .array .int
  | 6 => .object "PancakePort$Seen"
  | 7 => .int
  | 8 => .int
  | 9 => .int
  | 10 => .int
  | _ => .int
abbrev wsX20 : List Cond := u_ws RX2 TX2 12
theorem nmX2 : ∀ a, a < 12 → ∀ b, b < 12 → a ≠ b → (TX2 a).2.1 ≠ (TX2 b).2.1 := by decide +kernel
theorem tyX2_ok : ∀ k, k < 12 → parseFieldDescriptor (TX2 k).2.2.1 = some (tyX2 k) := by decide +kernel
abbrev cX2_init : ByteArray := prog_4_method_1_code
def yX2_init : MethodName := ⟨RX2, "<init>", "()V"⟩
abbrev cX2_begin : ByteArray := prog_4_method_2_code
def yX2_begin : MethodName := ⟨RX2, "begin", "(LPancakePort$Reading;)V"⟩
abbrev cX2_wake : ByteArray := prog_4_method_3_code
def yX2_wake : MethodName := ⟨RX2, "wake", "(I)V"⟩
abbrev cX2_takeFrom : ByteArray := prog_4_method_4_code
def yX2_takeFrom : MethodName := ⟨RX2, "takeFrom", "(LPancakePort$Night;)V"⟩
def RX3 : String := "PancakePort$Page"
def TX3 : u_T := fun k => match k with
  | 0 => ("PancakePort$Page", "codes", "[I", true)
  | _ => ("PancakePort$Page", "length", "I", false)
def tyX3 : Nat → FieldType := fun k => match k with
  | 0 => .array .int
  | _ => .int
abbrev wsX30 : List Cond := u_ws RX3 TX3 2
theorem nmX3 : ∀ a, a < 2 → ∀ b, b < 2 → a ≠ b → (TX3 a).2.1 ≠ (TX3 b).2.1 := by decide +kernel
theorem tyX3_ok : ∀ k, k < 2 → parseFieldDescriptor (TX3 k).2.2.1 = some (tyX3 k) := by decide +kernel
abbrev cX3_init : ByteArray := prog_5_method_1_code
def yX3_init : MethodName := ⟨RX3, "<init>", "()V"⟩
abbrev cX3_append : ByteArray := prog_5_method_2_code
def yX3_append : MethodName := ⟨RX3, "append", "(I)V"⟩
def RX4 : String := "PancakePort$Plan"
def TX4 : u_T := fun k => match k with
  | 0 => ("PancakePort$Plan", "crowds", "[I", true)
  | 1 => ("PancakePort$Plan", "prices", "[I", true)
  | 2 => ("PancakePort$Plan", "cheapest", "[I", true)
  | 3 => ("PancakePort$Plan", "least", "[I", true)
  | 4 => ("PancakePort$Plan", "chosen", "[I", true)
  | 5 => ("PancakePort$Plan", "chosenCount", "I", false)
  | _ => ("PancakePort$Plan", "price", "I", false)
def tyX4 : Nat → FieldType := fun k => match k with
  | 0 => .array .int
  | 1 => .array .int
  | 2 => .array .int
  | 3 => .array .int
  | 4 => .array .int
  | 5 => .int
  | _ => .int
abbrev wsX40 : List Cond := u_ws RX4 TX4 7
theorem nmX4 : ∀ a, a < 7 → ∀ b, b < 7 → a ≠ b → (TX4 a).2.1 ≠ (TX4 b).2.1 := by decide +kernel
theorem tyX4_ok : ∀ k, k < 7 → parseFieldDescriptor (TX4 k).2.2.1 = some (tyX4 k) := by decide +kernel
abbrev cX4_init : ByteArray := prog_6_method_1_code
def yX4_init : MethodName := ⟨RX4, "<init>", "()V"⟩
abbrev cX4_begin : ByteArray := prog_6_method_2_code
def yX4_begin : MethodName := ⟨RX4, "begin", "()V"⟩
abbrev cX4_offer : ByteArray := prog_6_method_3_code
def yX4_offer : MethodName := ⟨RX4, "offer", "(III)V"⟩
abbrev cX4_solve : ByteArray := prog_6_method_4_code
def yX4_solve : MethodName := ⟨RX4, "solve", "(I)V"⟩
abbrev cX4_leastPrice : ByteArray := prog_6_method_5_code
def yX4_leastPrice : MethodName := ⟨RX4, "leastPrice", "(I)I"⟩
abbrev cX4_choose : ByteArray := prog_6_method_6_code
def yX4_choose : MethodName := ⟨RX4, "choose", "(I)V"⟩
abbrev cX4_firstFor : ByteArray := prog_6_method_7_code
def yX4_firstFor : MethodName := ⟨RX4, "firstFor", "(I)I"⟩
abbrev cX4_tell : ByteArray := prog_6_method_8_code
def yX4_tell : MethodName := ⟨RX4, "tell", "(I)I"⟩
def RX5 : String := "PancakePort$Reading"
def TX5 : u_T := fun k => match k with
  | 0 => ("PancakePort$Reading", "cells", "[I", true)
  | 1 => ("PancakePort$Reading", "kinds", "[I", true)
  | 2 => ("PancakePort$Reading", "souths", "[I", true)
  | 3 => ("PancakePort$Reading", "easts", "[I", true)
  | 4 => ("PancakePort$Reading", "sleepers", "I", false)
  | 5 => ("PancakePort$Reading", "tossers", "I", false)
  | 6 => ("PancakePort$Reading", "row", "I", false)
  | _ => ("PancakePort$Reading", "due", "I", false)
def tyX5 : Nat → FieldType := fun k => match k with
  | 0 => .array .int
  | 1 => .array .int
  | 2 => .array .int
  | 3 => .array .int
  | 4 => .int
  | 5 => .int
  | 6 => .int
  | _ => .int
abbrev wsX50 : List Cond := u_ws RX5 TX5 8
theorem nmX5 : ∀ a, a < 8 → ∀ b, b < 8 → a ≠ b → (TX5 a).2.1 ≠ (TX5 b).2.1 := by decide +kernel
theorem tyX5_ok : ∀ k, k < 8 → parseFieldDescriptor (TX5 k).2.2.1 = some (tyX5 k) := by decide +kernel
abbrev cX5_init : ByteArray := prog_7_method_1_code
def yX5_init : MethodName := ⟨RX5, "<init>", "()V"⟩
abbrev cX5_read : ByteArray := prog_7_method_2_code
def yX5_read : MethodName := ⟨RX5, "read", "(LPancakePort$Page;)I"⟩
abbrev cX5_isWhole : ByteArray := prog_7_method_3_code
def yX5_isWhole : MethodName := ⟨RX5, "isWhole", "()Z"⟩
abbrev cX5_takes : ByteArray := prog_7_method_4_code
def yX5_takes : MethodName := ⟨RX5, "takes", "(I)Z"⟩
abbrev cX5_takesRow : ByteArray := prog_7_method_5_code
def yX5_takesRow : MethodName := ⟨RX5, "takesRow", "(I)Z"⟩
abbrev cX5_takesColumn : ByteArray := prog_7_method_6_code
def yX5_takesColumn : MethodName := ⟨RX5, "takesColumn", "(I)Z"⟩
abbrev cX5_takesAfterSleeper : ByteArray := prog_7_method_7_code
def yX5_takesAfterSleeper : MethodName := ⟨RX5, "takesAfterSleeper", "(I)Z"⟩
abbrev cX5_takesKind : ByteArray := prog_7_method_8_code
def yX5_takesKind : MethodName := ⟨RX5, "takesKind", "(I)Z"⟩
abbrev cX5_takesSouth : ByteArray := prog_7_method_9_code
def yX5_takesSouth : MethodName := ⟨RX5, "takesSouth", "(I)Z"⟩
abbrev cX5_takesEast : ByteArray := prog_7_method_10_code
def yX5_takesEast : MethodName := ⟨RX5, "takesEast", "(I)Z"⟩
abbrev cX5_takesAfterTosser : ByteArray := prog_7_method_11_code
def yX5_takesAfterTosser : MethodName := ⟨RX5, "takesAfterTosser", "(I)Z"⟩
def RX6 : String := "PancakePort$Seen"
def TX6 : u_T := fun k => match k with
  | 0 => ("PancakePort$Seen", "throwers", "[I", true)
  | 1 => ("PancakePort$Seen", "aims", "[I", true)
  | 2 => ("PancakePort$Seen", "columns", "[I", true)
  | _ => ("PancakePort$Seen", "count", "I", false)
def tyX6 : Nat → FieldType := fun k => match k with
  | 0 => .array .int
  | 1 => .array .int
  | 2 => .array .int
  | _ => .int
abbrev wsX60 : List Cond := u_ws RX6 TX6 4
theorem nmX6 : ∀ a, a < 4 → ∀ b, b < 4 → a ≠ b → (TX6 a).2.1 ≠ (TX6 b).2.1 := by decide +kernel
theorem tyX6_ok : ∀ k, k < 4 → parseFieldDescriptor (TX6 k).2.2.1 = some (tyX6 k) := by decide +kernel
abbrev cX6_init : ByteArray := prog_8_method_1_code
def yX6_init : MethodName := ⟨RX6, "<init>", "()V"⟩
abbrev cX6_add : ByteArray := prog_8_method_2_code
def yX6_add : MethodName := ⟨RX6, "add", "(III)V"⟩
abbrev cX6_turnsOf : ByteArray := prog_8_method_3_code
def yX6_turnsOf : MethodName := ⟨RX6, "turnsOf", "(I)I"⟩
abbrev cX6_allows : ByteArray := prog_8_method_4_code
def yX6_allows : MethodName := ⟨RX6, "allows", "(II)Z"⟩
abbrev cX6_takeFrom : ByteArray := prog_8_method_5_code
def yX6_takeFrom : MethodName := ⟨RX6, "takeFrom", "(LPancakePort$Seen;)V"⟩
def RX7 : String := "PancakePort$Thrifty"
def TX7 : u_T := fun k => match k with
  | _ => ("", "", "", false)
def tyX7 : Nat → FieldType := fun k => match k with
  | _ => .int
abbrev wsX70 : List Cond := u_ws RX7 TX7 0
theorem nmX7 : ∀ a, a < 0 → ∀ b, b < 0 → a ≠ b → (TX7 a).2.1 ≠ (TX7 b).2.1 := by decide +kernel
theorem tyX7_ok : ∀ k, k < 0 → parseFieldDescriptor (TX7 k).2.2.1 = some (tyX7 k) := by decide +kernel
abbrev cX7_init : ByteArray := prog_9_method_1_code
def yX7_init : MethodName := ⟨RX7, "<init>", "()V"⟩
abbrev cX7_kind : ByteArray := prog_9_method_2_code
def yX7_kind : MethodName := ⟨RX7, "kind", "()I"⟩
abbrev cX7_batter : ByteArray := prog_9_method_3_code
def yX7_batter : MethodName := ⟨RX7, "batter", "()I"⟩
abbrev cX7_spreads : ByteArray := prog_9_method_4_code
def yX7_spreads : MethodName := ⟨RX7, "spreads", "(II)Z"⟩
def RX8 : String := "PancakePort$Tosser"
def TX8 : u_T := fun k => match k with
  | _ => ("", "", "", false)
def tyX8 : Nat → FieldType := fun k => match k with
  | _ => .int
abbrev wsX80 : List Cond := u_ws RX8 TX8 0
theorem nmX8 : ∀ a, a < 0 → ∀ b, b < 0 → a ≠ b → (TX8 a).2.1 ≠ (TX8 b).2.1 := by decide +kernel
theorem tyX8_ok : ∀ k, k < 0 → parseFieldDescriptor (TX8 k).2.2.1 = some (tyX8 k) := by decide +kernel
abbrev cX8_init : ByteArray := prog_10_method_1_code
def yX8_init : MethodName := ⟨RX8, "<init>", "()V"⟩
abbrev cX8_kind : ByteArray := prog_10_method_2_code
def yX8_kind : MethodName := ⟨RX8, "kind", "()I"⟩
abbrev cX8_batter : ByteArray := prog_10_method_3_code
def yX8_batter : MethodName := ⟨RX8, "batter", "()I"⟩
abbrev cX8_spreads : ByteArray := prog_10_method_4_code
def yX8_spreads : MethodName := ⟨RX8, "spreads", "(II)Z"⟩
def RX9 : String := "PancakePort$Wide"
def TX9 : u_T := fun k => match k with
  | _ => ("", "", "", false)
def tyX9 : Nat → FieldType := fun k => match k with
  | _ => .int
abbrev wsX90 : List Cond := u_ws RX9 TX9 0
theorem nmX9 : ∀ a, a < 0 → ∀ b, b < 0 → a ≠ b → (TX9 a).2.1 ≠ (TX9 b).2.1 := by decide +kernel
theorem tyX9_ok : ∀ k, k < 0 → parseFieldDescriptor (TX9 k).2.2.1 = some (tyX9 k) := by decide +kernel
abbrev cX9_init : ByteArray := prog_11_method_1_code
def yX9_init : MethodName := ⟨RX9, "<init>", "()V"⟩
abbrev cX9_kind : ByteArray := prog_11_method_2_code
def yX9_kind : MethodName := ⟨RX9, "kind", "()I"⟩
abbrev cX9_batter : ByteArray := prog_11_method_3_code
def yX9_batter : MethodName := ⟨RX9, "batter", "()I"⟩
abbrev cX9_spreads : ByteArray := prog_11_method_4_code
def yX9_spreads : MethodName := ⟨RX9, "spreads", "(II)Z"⟩
def RX10 : String := "PancakePort"
def TX10 : u_T := fun k => match k with
  | 0 => ("PancakePort", "page", "LPancakePort$Page;", true)
  | 1 => ("PancakePort", "reading", "LPancakePort$Reading;", true)
  | 2 => ("PancakePort", "tossers", "[LPancakePort$Tosser;", true)
  | 3 => ("PancakePort", "now", "LPancakePort$Night;", true)
  | 4 => ("PancakePort", "kept", "LPancakePort$Night;", true)
  | 5 => ("PancakePort", "plan", "LPancakePort$Plan;", true)
  | 6 => ("PancakePort", "chances", "[I", true)
  | 7 => ("PancakePort", "sleeperCount", "I", false)
  | 8 => ("PancakePort", "tosserCount", "I", false)
  | 9 => ("PancakePort", "portsRead", "I", false)
  | _ => ("PancakePort", "imageKept", "Z", false)
def tyX10 : Nat → FieldType := fun k => match k with
  | 0 => .object "PancakePort$Page"
  | 1 => .object "PancakePort$Reading"
  | 2 => .array (.object "PancakePort$Tosser")
  | 3 => .object "PancakePort$Night"
  | 4 => .object "PancakePort$Night"
  | 5 => .object "PancakePort$Plan"
  | 6 => .array .int
  | 7 => .int
  | 8 => .int
  | 9 => .int
  | _ => .boolean
abbrev wsX100 : List Cond := u_ws RX10 TX10 11
theorem nmX10 : ∀ a, a < 11 → ∀ b, b < 11 → a ≠ b → (TX10 a).2.1 ≠ (TX10 b).2.1 := by decide +kernel
theorem tyX10_ok : ∀ k, k < 11 → parseFieldDescriptor (TX10 k).2.2.1 = some (tyX10 k) := by decide +kernel
abbrev cX10_init : ByteArray := prog_1_method_1_code
def yX10_init : MethodName := ⟨RX10, "<init>", "()V"⟩
abbrev cX10_letter : ByteArray := prog_1_method_2_code
def yX10_letter : MethodName := ⟨RX10, "letter", "(I)I"⟩
abbrev cX10_blank : ByteArray := prog_1_method_3_code
def yX10_blank : MethodName := ⟨RX10, "blank", "()I"⟩
abbrev cX10_fault : ByteArray := prog_1_method_4_code
def yX10_fault : MethodName := ⟨RX10, "fault", "()I"⟩
abbrev cX10_port : ByteArray := prog_1_method_5_code
def yX10_port : MethodName := ⟨RX10, "port", "()I"⟩
abbrev cX10_sleeper : ByteArray := prog_1_method_6_code
def yX10_sleeper : MethodName := ⟨RX10, "sleeper", "(II)I"⟩
abbrev cX10_tosser : ByteArray := prog_1_method_7_code
def yX10_tosser : MethodName := ⟨RX10, "tosser", "(II)I"⟩
abbrev cX10_as : ByteArray := prog_1_method_8_code
def yX10_as : MethodName := ⟨RX10, "as", "(II)I"⟩
abbrev cX10_lands : ByteArray := prog_1_method_9_code
def yX10_lands : MethodName := ⟨RX10, "lands", "(II)I"⟩
abbrev cX10_covers : ByteArray := prog_1_method_10_code
def yX10_covers : MethodName := ⟨RX10, "covers", "(II)I"⟩
abbrev cX10_toss : ByteArray := prog_1_method_11_code
def yX10_toss : MethodName := ⟨RX10, "toss", "(II)I"⟩
abbrev cX10_wind : ByteArray := prog_1_method_12_code
def yX10_wind : MethodName := ⟨RX10, "wind", "(I)I"⟩
abbrev cX10_morning : ByteArray := prog_1_method_13_code
def yX10_morning : MethodName := ⟨RX10, "morning", "()I"⟩
abbrev cX10_move : ByteArray := prog_1_method_14_code
def yX10_move : MethodName := ⟨RX10, "move", "(II)I"⟩
abbrev cX10_train : ByteArray := prog_1_method_15_code
def yX10_train : MethodName := ⟨RX10, "train", "(III)I"⟩
abbrev cX10_stir : ByteArray := prog_1_method_16_code
def yX10_stir : MethodName := ⟨RX10, "stir", "(I)I"⟩
abbrev cX10_all : ByteArray := prog_1_method_17_code
def yX10_all : MethodName := ⟨RX10, "all", "(I)I"⟩
abbrev cX10_nights : ByteArray := prog_1_method_18_code
def yX10_nights : MethodName := ⟨RX10, "nights", "()I"⟩
abbrev cX10_odds : ByteArray := prog_1_method_19_code
def yX10_odds : MethodName := ⟨RX10, "odds", "(III)I"⟩
abbrev cX10_who : ByteArray := prog_1_method_20_code
def yX10_who : MethodName := ⟨RX10, "who", "(I)I"⟩
abbrev cX10_see : ByteArray := prog_1_method_21_code
def yX10_see : MethodName := ⟨RX10, "see", "(III)I"⟩
abbrev cX10_forget : ByteArray := prog_1_method_22_code
def yX10_forget : MethodName := ⟨RX10, "forget", "()I"⟩
abbrev cX10_seasons : ByteArray := prog_1_method_23_code
def yX10_seasons : MethodName := ⟨RX10, "seasons", "(III)I"⟩
abbrev cX10_image : ByteArray := prog_1_method_24_code
def yX10_image : MethodName := ⟨RX10, "image", "()I"⟩
abbrev cX10_restore : ByteArray := prog_1_method_25_code
def yX10_restore : MethodName := ⟨RX10, "restore", "()I"⟩
abbrev cX10_count : ByteArray := prog_1_method_26_code
def yX10_count : MethodName := ⟨RX10, "count", "(I)I"⟩
abbrev cX10_digest : ByteArray := prog_1_method_27_code
def yX10_digest : MethodName := ⟨RX10, "digest", "()J"⟩
abbrev cX10_digestOfPlans : ByteArray := prog_1_method_28_code
def yX10_digestOfPlans : MethodName := ⟨RX10, "digestOfPlans", "(J)J"⟩
abbrev cX10_hasPort : ByteArray := prog_1_method_29_code
def yX10_hasPort : MethodName := ⟨RX10, "hasPort", "()Z"⟩
abbrev cX10_isCell : ByteArray := prog_1_method_30_code
def yX10_isCell : MethodName := ⟨RX10, "isCell", "(I)Z"⟩
abbrev cX10_isSleeper : ByteArray := prog_1_method_31_code
def yX10_isSleeper : MethodName := ⟨RX10, "isSleeper", "(I)Z"⟩
abbrev cX10_tosserAt : ByteArray := prog_1_method_32_code
def yX10_tosserAt : MethodName := ⟨RX10, "tosserAt", "(I)LPancakePort$Tosser;"⟩
abbrev cX10_isToss : ByteArray := prog_1_method_33_code
def yX10_isToss : MethodName := ⟨RX10, "isToss", "(II)Z"⟩
abbrev cX10_everybody : ByteArray := prog_1_method_34_code
def yX10_everybody : MethodName := ⟨RX10, "everybody", "()I"⟩
abbrev cX10_isTakenByAnother : ByteArray := prog_1_method_35_code
def yX10_isTakenByAnother : MethodName := ⟨RX10, "isTakenByAnother", "(II)Z"⟩
abbrev cX10_settle : ByteArray := prog_1_method_36_code
def yX10_settle : MethodName := ⟨RX10, "settle", "()V"⟩
abbrev cX10_landing : ByteArray := prog_1_method_37_code
def yX10_landing : MethodName := ⟨RX10, "landing", "(III)I"⟩
abbrev cX10_crowdUnder : ByteArray := prog_1_method_38_code
def yX10_crowdUnder : MethodName := ⟨RX10, "crowdUnder", "(III)I"⟩
abbrev cX10_canLandAt : ByteArray := prog_1_method_39_code
def yX10_canLandAt : MethodName := ⟨RX10, "canLandAt", "(II)Z"⟩
abbrev cX10_freshOf : ByteArray := prog_1_method_40_code
def yX10_freshOf : MethodName := ⟨RX10, "freshOf", "(II)I"⟩
abbrev cX10_bestAimOf : ByteArray := prog_1_method_41_code
def yX10_bestAimOf : MethodName := ⟨RX10, "bestAimOf", "(I)I"⟩
abbrev cX10_planFor : ByteArray := prog_1_method_42_code
def yX10_planFor : MethodName := ⟨RX10, "planFor", "(I)V"⟩
abbrev cX10_bestPlaceFor : ByteArray := prog_1_method_43_code
def yX10_bestPlaceFor : MethodName := ⟨RX10, "bestPlaceFor", "(I)I"⟩
abbrev cX10_countChances : ByteArray := prog_1_method_44_code
def yX10_countChances : MethodName := ⟨RX10, "countChances", "()V"⟩
abbrev cX10_addChances : ByteArray := prog_1_method_45_code
def yX10_addChances : MethodName := ⟨RX10, "addChances", "(LPancakePort$Tosser;I)V"⟩
abbrev cX10_isColumn : ByteArray := prog_1_method_46_code
def yX10_isColumn : MethodName := ⟨RX10, "isColumn", "(I)Z"⟩
abbrev cX10_isTurn : ByteArray := prog_1_method_47_code
def yX10_isTurn : MethodName := ⟨RX10, "isTurn", "(I)Z"⟩
abbrev cX10_cellAt : ByteArray := prog_1_method_48_code
def yX10_cellAt : MethodName := ⟨RX10, "cellAt", "(II)I"⟩
abbrev cX10_columnBy : ByteArray := prog_1_method_49_code
def yX10_columnBy : MethodName := ⟨RX10, "columnBy", "(II)I"⟩
abbrev cX10_tellingAim : ByteArray := prog_1_method_50_code
def yX10_tellingAim : MethodName := ⟨RX10, "tellingAim", "(I)I"⟩
abbrev cX10_mostLeft : ByteArray := prog_1_method_51_code
def yX10_mostLeft : MethodName := ⟨RX10, "mostLeft", "(II)I"⟩
abbrev cX10_nextSeed : ByteArray := prog_1_method_52_code
def yX10_nextSeed : MethodName := ⟨RX10, "nextSeed", "(I)I"⟩
abbrev cX10_draw : ByteArray := prog_1_method_53_code
def yX10_draw : MethodName := ⟨RX10, "draw", "(II)I"⟩
abbrev cX10_at : ByteArray := prog_1_method_54_code
def yX10_at : MethodName := ⟨RX10, "at", "([II)I"⟩
abbrev cX10_put : ByteArray := prog_1_method_55_code
def yX10_put : MethodName := ⟨RX10, "put", "([III)V"⟩
abbrev cX10_clear : ByteArray := prog_1_method_56_code
def yX10_clear : MethodName := ⟨RX10, "clear", "([I)V"⟩
abbrev cX10_copy : ByteArray := prog_1_method_57_code
def yX10_copy : MethodName := ⟨RX10, "copy", "([I[I)V"⟩
abbrev cX10_sum : ByteArray := prog_1_method_58_code
def yX10_sum : MethodName := ⟨RX10, "sum", "([I)I"⟩
abbrev cX10_tosserOf : ByteArray := prog_1_method_59_code
def yX10_tosserOf : MethodName := ⟨RX10, "tosserOf", "(I)LPancakePort$Tosser;"⟩
abbrev cX10_isOfKind : ByteArray := prog_1_method_60_code
def yX10_isOfKind : MethodName := ⟨RX10, "isOfKind", "(LPancakePort$Tosser;I)Z"⟩
def RX11 : String := "PancakePortModel"
def TX11 : u_T := fun k => match k with
  | 0 => ("PancakePortModel", "page", "[I", true)
  | 1 => ("PancakePortModel", "pageMany", "I", false)
  | 2 => ("PancakePortModel", "end", "I", false)
  | 3 => ("PancakePortModel", "sleepers", "I", false)
  | 4 => ("PancakePortModel", "tossers", "I", false)
  | 5 => ("PancakePortModel", "wind", "I", false)
  | 6 => ("PancakePortModel", "batter", "I", false)
  | 7 => ("PancakePortModel", "mornings", "I", false)
  | 8 => ("PancakePortModel", "thrown", "I", false)
  | 9 => ("PancakePortModel", "portsRead", "I", false)
  | 10 => ("PancakePortModel", "cells", "[I", true)
  | 11 => ("PancakePortModel", "isCovered", "[I", true)
  | 12 => ("PancakePortModel", "breakfasts", "[I", true)
  | 13 => ("PancakePortModel", "colds", "[I", true)
  | 14 => ("PancakePortModel", "kinds", "[I", true)
  | 15 => ("PancakePortModel", "south", "[I", true)
  | 16 => ("PancakePortModel", "east", "[I", true)
  | 17 => ("PancakePortModel", "threw", "[I", true)
  | 18 => ("PancakePortModel", "covering", "[I", true)
  | 19 => ("PancakePortModel", "least", "[I", true)
  | 20 => ("PancakePortModel", "taken", "[I", true)
  | 21 => ("PancakePortModel", "takenMany", "I", false)
  | 22 => ("PancakePortModel", "seenMany", "I", false)
  | 23 => ("PancakePortModel", "sights", "[I", true)
  | 24 => ("PancakePortModel", "seedNow", "I", false)
  | 25 => ("PancakePortModel", "keptPort", "I", false)
  | 26 => ("PancakePortModel", "keptWind", "I", false)
  | 27 => ("PancakePortModel", "keptBatter", "I", false)
  | 28 => ("PancakePortModel", "keptMornings", "I", false)
  | 29 => ("PancakePortModel", "keptThrown", "I", false)
  | 30 => ("PancakePortModel", "keptSeen", "I", false)
  | 31 => ("PancakePortModel", "keptCells", "[I", true)
  | 32 => ("PancakePortModel", "keptCovered", "[I", true)
  | 33 => ("PancakePortModel", "keptBreakfasts", "[I", true)
  | 34 => ("PancakePortModel", "keptColds", "[I", true)
  | 35 => ("PancakePortModel", "keptSouth", "[I", true)
  | 36 => ("PancakePortModel", "keptEast", "[I", true)
  | 37 => ("PancakePortModel", "keptThrew", "[I", true)
  | 38 => ("PancakePortModel", "keptSights", "[I", true)
  | _ => ("PancakePortModel", "hash", "J", false)
def tyX11 : Nat → FieldType := fun k => match k with
  | 0 => .array .int
  | 1 => .int
  | 2 => .int
  | 3 => .int
  | 4 => .int
  | 5 => .int
  | 6 => .int
  | 7 => .int
  | 8 => .int
  | 9 => .int
  | 10 => .array .int
  | 11 => .array .int
  | 12 => .array .int
  | 13 => .array .int
  | 14 => .array .int
  | 15 => .array .int
  | 16 => .array .int
  | 17 => .array .int
  | 18 => .array .int
  | 19 => .array .int
  | 20 => .array .int
  | 21 => .int
  | 22 => .int
  | 23 => .array .int
  | 24 => .int
  | 25 => .int
  | 26 => .int
  | 27 => .int
  | 28 => .int
  | 29 => .int
  | 30 => .int
  | 31 => .array .int
  | 32 => .array .int
  | 33 => .array .int
  | 34 => .array .int
  | 35 => .array .int
  | 36 => .array .int
  | 37 => .array .int
  | 38 => .array .int
  | _ => .long
abbrev wsX110 : List Cond := u_ws RX11 TX11 40
theorem nmX11 : ∀ a, a < 40 → ∀ b, b < 40 → a ≠ b → (TX11 a).2.1 ≠ (TX11 b).2.1 := by decide +kernel
theorem tyX11_ok : ∀ k, k < 40 → parseFieldDescriptor (TX11 k).2.2.1 = some (tyX11 k) := by decide +kernel
abbrev cX11_init : ByteArray := prog_13_method_1_code
def yX11_init : MethodName := ⟨RX11, "<init>", "()V"⟩
abbrev cX11_in : ByteArray := prog_13_method_2_code
def yX11_in : MethodName := ⟨RX11, "in", "(JJJ)Z"⟩
abbrev cX11_copy : ByteArray := prog_13_method_3_code
def yX11_copy : MethodName := ⟨RX11, "copy", "([I[I)V"⟩
abbrev cX11_letter : ByteArray := prog_13_method_4_code
def yX11_letter : MethodName := ⟨RX11, "letter", "(I)I"⟩
abbrev cX11_blank : ByteArray := prog_13_method_5_code
def yX11_blank : MethodName := ⟨RX11, "blank", "()I"⟩
abbrev cX11_kindBy : ByteArray := prog_13_method_6_code
def yX11_kindBy : MethodName := ⟨RX11, "kindBy", "(I)I"⟩
abbrev cX11_cellAt : ByteArray := prog_13_method_7_code
def yX11_cellAt : MethodName := ⟨RX11, "cellAt", "(I)I"⟩
abbrev cX11_isNew : ByteArray := prog_13_method_8_code
def yX11_isNew : MethodName := ⟨RX11, "isNew", "(I)Z"⟩
abbrev cX11_isSleeperLetter : ByteArray := prog_13_method_9_code
def yX11_isSleeperLetter : MethodName := ⟨RX11, "isSleeperLetter", "(I)Z"⟩
abbrev cX11_isTosserLetter : ByteArray := prog_13_method_10_code
def yX11_isTosserLetter : MethodName := ⟨RX11, "isTosserLetter", "(I)Z"⟩
abbrev cX11_faultOf : ByteArray := prog_13_method_11_code
def yX11_faultOf : MethodName := ⟨RX11, "faultOf", "()I"⟩
abbrev cX11_fault : ByteArray := prog_13_method_12_code
def yX11_fault : MethodName := ⟨RX11, "fault", "()I"⟩
abbrev cX11_port : ByteArray := prog_13_method_13_code
def yX11_port : MethodName := ⟨RX11, "port", "()I"⟩
abbrev cX11_lacks : ByteArray := prog_13_method_14_code
def yX11_lacks : MethodName := ⟨RX11, "lacks", "()Z"⟩
abbrev cX11_isSleeper : ByteArray := prog_13_method_15_code
def yX11_isSleeper : MethodName := ⟨RX11, "isSleeper", "(I)Z"⟩
abbrev cX11_isTosser : ByteArray := prog_13_method_16_code
def yX11_isTosser : MethodName := ⟨RX11, "isTosser", "(I)Z"⟩
abbrev cX11_isCell : ByteArray := prog_13_method_17_code
def yX11_isCell : MethodName := ⟨RX11, "isCell", "(I)Z"⟩
abbrev cX11_cellOf : ByteArray := prog_13_method_18_code
def yX11_cellOf : MethodName := ⟨RX11, "cellOf", "(II)I"⟩
abbrev cX11_landsBy : ByteArray := prog_13_method_19_code
def yX11_landsBy : MethodName := ⟨RX11, "landsBy", "(III)I"⟩
abbrev cX11_far : ByteArray := prog_13_method_20_code
def yX11_far : MethodName := ⟨RX11, "far", "(II)I"⟩
abbrev cX11_reaches : ByteArray := prog_13_method_21_code
def yX11_reaches : MethodName := ⟨RX11, "reaches", "(III)Z"⟩
abbrev cX11_coversCell : ByteArray := prog_13_method_22_code
def yX11_coversCell : MethodName := ⟨RX11, "coversCell", "(IIII)Z"⟩
abbrev cX11_coversOf : ByteArray := prog_13_method_23_code
def yX11_coversOf : MethodName := ⟨RX11, "coversOf", "(III)I"⟩
abbrev cX11_ones : ByteArray := prog_13_method_24_code
def yX11_ones : MethodName := ⟨RX11, "ones", "(I)I"⟩
abbrev cX11_batterOf : ByteArray := prog_13_method_25_code
def yX11_batterOf : MethodName := ⟨RX11, "batterOf", "(I)I"⟩
abbrev cX11_open : ByteArray := prog_13_method_26_code
def yX11_open : MethodName := ⟨RX11, "open", "()I"⟩
abbrev cX11_lands : ByteArray := prog_13_method_27_code
def yX11_lands : MethodName := ⟨RX11, "lands", "(II)I"⟩
abbrev cX11_covers : ByteArray := prog_13_method_28_code
def yX11_covers : MethodName := ⟨RX11, "covers", "(II)I"⟩
abbrev cX11_isFreeFor : ByteArray := prog_13_method_29_code
def yX11_isFreeFor : MethodName := ⟨RX11, "isFreeFor", "(II)Z"⟩
abbrev cX11_tossesOver : ByteArray := prog_13_method_30_code
def yX11_tossesOver : MethodName := ⟨RX11, "tossesOver", "(I)I"⟩
abbrev cX11_lieOf : ByteArray := prog_13_method_31_code
def yX11_lieOf : MethodName := ⟨RX11, "lieOf", "(I)I"⟩
abbrev cX11_tellSleeper : ByteArray := prog_13_method_32_code
def yX11_tellSleeper : MethodName := ⟨RX11, "tellSleeper", "(II)I"⟩
abbrev cX11_sleeper : ByteArray := prog_13_method_33_code
def yX11_sleeper : MethodName := ⟨RX11, "sleeper", "(II)I"⟩
abbrev cX11_mostOf : ByteArray := prog_13_method_34_code
def yX11_mostOf : MethodName := ⟨RX11, "mostOf", "(II)I"⟩
abbrev cX11_tellTosser : ByteArray := prog_13_method_35_code
def yX11_tellTosser : MethodName := ⟨RX11, "tellTosser", "(II)I"⟩
abbrev cX11_tosser : ByteArray := prog_13_method_36_code
def yX11_tosser : MethodName := ⟨RX11, "tosser", "(II)I"⟩
abbrev cX11_as : ByteArray := prog_13_method_37_code
def yX11_as : MethodName := ⟨RX11, "as", "(II)I"⟩
abbrev cX11_toss : ByteArray := prog_13_method_38_code
def yX11_toss : MethodName := ⟨RX11, "toss", "(II)I"⟩
abbrev cX11_wind : ByteArray := prog_13_method_39_code
def yX11_wind : MethodName := ⟨RX11, "wind", "(I)I"⟩
abbrev cX11_morning : ByteArray := prog_13_method_40_code
def yX11_morning : MethodName := ⟨RX11, "morning", "()I"⟩
abbrev cX11_move : ByteArray := prog_13_method_41_code
def yX11_move : MethodName := ⟨RX11, "move", "(II)I"⟩
abbrev cX11_train : ByteArray := prog_13_method_42_code
def yX11_train : MethodName := ⟨RX11, "train", "(III)I"⟩
abbrev cX11_stir : ByteArray := prog_13_method_43_code
def yX11_stir : MethodName := ⟨RX11, "stir", "(I)I"⟩
abbrev cX11_priceOf : ByteArray := prog_13_method_44_code
def yX11_priceOf : MethodName := ⟨RX11, "priceOf", "(I)I"⟩
abbrev cX11_layLeast : ByteArray := prog_13_method_45_code
def yX11_layLeast : MethodName := ⟨RX11, "layLeast", "()V"⟩
abbrev cX11_layRow : ByteArray := prog_13_method_46_code
def yX11_layRow : MethodName := ⟨RX11, "layRow", "(I)V"⟩
abbrev cX11_allOf : ByteArray := prog_13_method_47_code
def yX11_allOf : MethodName := ⟨RX11, "allOf", "(I)I"⟩
abbrev cX11_all : ByteArray := prog_13_method_48_code
def yX11_all : MethodName := ⟨RX11, "all", "(I)I"⟩
abbrev cX11_nightsOf : ByteArray := prog_13_method_49_code
def yX11_nightsOf : MethodName := ⟨RX11, "nightsOf", "()I"⟩
abbrev cX11_nights : ByteArray := prog_13_method_50_code
def yX11_nights : MethodName := ⟨RX11, "nights", "()I"⟩
abbrev cX11_odds : ByteArray := prog_13_method_51_code
def yX11_odds : MethodName := ⟨RX11, "odds", "(III)I"⟩
abbrev cX11_whoOf : ByteArray := prog_13_method_52_code
def yX11_whoOf : MethodName := ⟨RX11, "whoOf", "(I)I"⟩
abbrev cX11_who : ByteArray := prog_13_method_53_code
def yX11_who : MethodName := ⟨RX11, "who", "(I)I"⟩
abbrev cX11_see : ByteArray := prog_13_method_54_code
def yX11_see : MethodName := ⟨RX11, "see", "(III)I"⟩
abbrev cX11_forget : ByteArray := prog_13_method_55_code
def yX11_forget : MethodName := ⟨RX11, "forget", "()I"⟩
abbrev cX11_columnBy : ByteArray := prog_13_method_56_code
def yX11_columnBy : MethodName := ⟨RX11, "columnBy", "(II)I"⟩
abbrev cX11_turnsOf : ByteArray := prog_13_method_57_code
def yX11_turnsOf : MethodName := ⟨RX11, "turnsOf", "(I)I"⟩
abbrev cX11_aimOf : ByteArray := prog_13_method_58_code
def yX11_aimOf : MethodName := ⟨RX11, "aimOf", "(I)I"⟩
abbrev cX11_draw : ByteArray := prog_13_method_59_code
def yX11_draw : MethodName := ⟨RX11, "draw", "(I)I"⟩
abbrev cX11_seasons : ByteArray := prog_13_method_60_code
def yX11_seasons : MethodName := ⟨RX11, "seasons", "(III)I"⟩
abbrev cX11_image : ByteArray := prog_13_method_61_code
def yX11_image : MethodName := ⟨RX11, "image", "()I"⟩
abbrev cX11_restore : ByteArray := prog_13_method_62_code
def yX11_restore : MethodName := ⟨RX11, "restore", "()I"⟩
abbrev cX11_sumOf : ByteArray := prog_13_method_63_code
def yX11_sumOf : MethodName := ⟨RX11, "sumOf", "([I)I"⟩
abbrev cX11_countOf : ByteArray := prog_13_method_64_code
def yX11_countOf : MethodName := ⟨RX11, "countOf", "(I)I"⟩
abbrev cX11_count : ByteArray := prog_13_method_65_code
def yX11_count : MethodName := ⟨RX11, "count", "(I)I"⟩
abbrev cX11_say : ByteArray := prog_13_method_66_code
def yX11_say : MethodName := ⟨RX11, "say", "(J)V"⟩
abbrev cX11_sayTosser : ByteArray := prog_13_method_67_code
def yX11_sayTosser : MethodName := ⟨RX11, "sayTosser", "(I)V"⟩
abbrev cX11_sayPort : ByteArray := prog_13_method_68_code
def yX11_sayPort : MethodName := ⟨RX11, "sayPort", "()V"⟩
abbrev cX11_digest : ByteArray := prog_13_method_69_code
def yX11_digest : MethodName := ⟨RX11, "digest", "()J"⟩
def RJ11 : String := "java/lang/Character"
def TJ11 : u_T := fun k => match k with
  | _ => ("", "", "", false)
def tyJ11 : Nat → FieldType := fun k => match k with
  | _ => .int
abbrev wsJ110 : List Cond := u_ws RJ11 TJ11 0
theorem nmJ11 : ∀ a, a < 0 → ∀ b, b < 0 → a ≠ b → (TJ11 a).2.1 ≠ (TJ11 b).2.1 := by decide +kernel
theorem tyJ11_ok : ∀ k, k < 0 → parseFieldDescriptor (TJ11 k).2.2.1 = some (tyJ11 k) := by decide +kernel
abbrev cJ11_isValidCodePoint_9a6ad : ByteArray := prog_14_method_11_code
def yJ11_isValidCodePoint_9a6ad : MethodName := ⟨RJ11, "isValidCodePoint", "(I)Z"⟩
abbrev cJ11_highSurrogate_5068e : ByteArray := prog_14_method_28_code
def yJ11_highSurrogate_5068e : MethodName := ⟨RJ11, "highSurrogate", "(I)C"⟩
abbrev cJ11_lowSurrogate_5068e : ByteArray := prog_14_method_29_code
def yJ11_lowSurrogate_5068e : MethodName := ⟨RJ11, "lowSurrogate", "(I)C"⟩
def RJ6 : String := "java/lang/Integer"
def TJ6 : u_T := fun k => match k with
  | _ => ("", "", "", false)
def tyJ6 : Nat → FieldType := fun k => match k with
  | _ => .int
abbrev wsJ60 : List Cond := u_ws RJ6 TJ6 0
theorem nmJ6 : ∀ a, a < 0 → ∀ b, b < 0 → a ≠ b → (TJ6 a).2.1 ≠ (TJ6 b).2.1 := by decide +kernel
theorem tyJ6_ok : ∀ k, k < 0 → parseFieldDescriptor (TJ6 k).2.2.1 = some (tyJ6 k) := by decide +kernel
abbrev cJ6_bitCount_0f7a4 : ByteArray := prog_15_method_49_code
def yJ6_bitCount_0f7a4 : MethodName := ⟨RJ6, "bitCount", "(I)I"⟩
def RJ9 : String := "java/lang/Math"
def TJ9 : u_T := fun k => match k with
  | _ => ("", "", "", false)
def tyJ9 : Nat → FieldType := fun k => match k with
  | _ => .int
abbrev wsJ90 : List Cond := u_ws RJ9 TJ9 0
theorem nmJ9 : ∀ a, a < 0 → ∀ b, b < 0 → a ≠ b → (TJ9 a).2.1 ≠ (TJ9 b).2.1 := by decide +kernel
theorem tyJ9_ok : ∀ k, k < 0 → parseFieldDescriptor (TJ9 k).2.2.1 = some (tyJ9 k) := by decide +kernel
abbrev cJ9_abs_0f7a4 : ByteArray := prog_16_method_59_code
def yJ9_abs_0f7a4 : MethodName := ⟨RJ9, "abs", "(I)I"⟩
abbrev cJ9_max_7cf53 : ByteArray := prog_16_method_65_code
def yJ9_max_7cf53 : MethodName := ⟨RJ9, "max", "(II)I"⟩
abbrev cJ9_min_7cf53 : ByteArray := prog_16_method_69_code
def yJ9_min_7cf53 : MethodName := ⟨RJ9, "min", "(II)I"⟩
def RJ0 : String := "java/lang/String"
def TJ0 : u_T := fun k => match k with
  | _ => ("", "", "", false)
def tyJ0 : Nat → FieldType := fun k => match k with
  | _ => .int
abbrev wsJ00 : List Cond := u_ws RJ0 TJ0 0
theorem nmJ0 : ∀ a, a < 0 → ∀ b, b < 0 → a ≠ b → (TJ0 a).2.1 ≠ (TJ0 b).2.1 := by decide +kernel
theorem tyJ0_ok : ∀ k, k < 0 → parseFieldDescriptor (TJ0 k).2.2.1 = some (tyJ0 k) := by decide +kernel
abbrev cJ0_length_8abf5 : ByteArray := prog_17_method_54_code
def yJ0_length_8abf5 : MethodName := ⟨RJ0, "length", "()I"⟩
abbrev cJ0_indexOf_0f7a4 : ByteArray := prog_17_method_79_code
def yJ0_indexOf_0f7a4 : MethodName := ⟨RJ0, "indexOf", "(I)I"⟩
abbrev cJ0_indexOf_7cf53 : ByteArray := prog_17_method_80_code
def yJ0_indexOf_7cf53 : MethodName := ⟨RJ0, "indexOf", "(II)I"⟩
abbrev cJ0_coder_7d493 : ByteArray := prog_17_method_152_code
def yJ0_coder_7d493 : MethodName := ⟨RJ0, "coder", "()B"⟩
abbrev cJ0_isLatin1_aae02 : ByteArray := prog_17_method_154_code
def yJ0_isLatin1_aae02 : MethodName := ⟨RJ0, "isLatin1", "()Z"⟩
abbrev cJ0_checkBoundsBeginEnd_23922 : ByteArray := prog_17_method_158_code
def yJ0_checkBoundsBeginEnd_23922 : MethodName := ⟨RJ0, "checkBoundsBeginEnd", "(III)V"⟩
def RJ1 : String := "java/lang/StringLatin1"
def TJ1 : u_T := fun k => match k with
  | _ => ("", "", "", false)
def tyJ1 : Nat → FieldType := fun k => match k with
  | _ => .int
abbrev wsJ10 : List Cond := u_ws RJ1 TJ1 0
theorem nmJ1 : ∀ a, a < 0 → ∀ b, b < 0 → a ≠ b → (TJ1 a).2.1 ≠ (TJ1 b).2.1 := by decide +kernel
theorem tyJ1_ok : ∀ k, k < 0 → parseFieldDescriptor (TJ1 k).2.2.1 = some (tyJ1 k) := by decide +kernel
abbrev cJ1_canEncode_9a6ad : ByteArray := prog_18_method_4_code
def yJ1_canEncode_9a6ad : MethodName := ⟨RJ1, "canEncode", "(I)Z"⟩
abbrev cJ1_indexOf_4cfef : ByteArray := prog_18_method_22_code
def yJ1_indexOf_4cfef : MethodName := ⟨RJ1, "indexOf", "([BIII)I"⟩
abbrev cJ1_indexOfChar_4cfef : ByteArray := prog_18_method_23_code
def yJ1_indexOfChar_4cfef : MethodName := ⟨RJ1, "indexOfChar", "([BIII)I"⟩
def RJ2 : String := "java/lang/StringUTF16"
def TJ2 : u_T := fun k => match k with
  | _ => ("", "", "", false)
def tyJ2 : Nat → FieldType := fun k => match k with
  | _ => .int
abbrev wsJ20 : List Cond := u_ws RJ2 TJ2 0
theorem nmJ2 : ∀ a, a < 0 → ∀ b, b < 0 → a ≠ b → (TJ2 a).2.1 ≠ (TJ2 b).2.1 := by decide +kernel
theorem tyJ2_ok : ∀ k, k < 0 → parseFieldDescriptor (TJ2 k).2.2.1 = some (tyJ2 k) := by decide +kernel
abbrev cJ2_getChar_3b067 : ByteArray := prog_19_method_5_code
def yJ2_getChar_3b067 : MethodName := ⟨RJ2, "getChar", "([BI)C"⟩
abbrev cJ2_length_9d52b : ByteArray := prog_19_method_6_code
def yJ2_length_9d52b : MethodName := ⟨RJ2, "length", "([B)I"⟩
abbrev cJ2_indexOf_4cfef : ByteArray := prog_19_method_40_code
def yJ2_indexOf_4cfef : MethodName := ⟨RJ2, "indexOf", "([BIII)I"⟩
abbrev cJ2_indexOfChar_4cfef : ByteArray := prog_19_method_47_code
def yJ2_indexOfChar_4cfef : MethodName := ⟨RJ2, "indexOfChar", "([BIII)I"⟩
abbrev cJ2_indexOfCharUnsafe_4cfef : ByteArray := prog_19_method_48_code
def yJ2_indexOfCharUnsafe_4cfef : MethodName := ⟨RJ2, "indexOfCharUnsafe", "([BIII)I"⟩
abbrev cJ2_indexOfSupplementary_4cfef : ByteArray := prog_19_method_49_code
def yJ2_indexOfSupplementary_4cfef : MethodName := ⟨RJ2, "indexOfSupplementary", "([BIII)I"⟩
abbrev cJ2_checkBoundsBeginEnd_d044e : ByteArray := prog_19_method_93_code
def yJ2_checkBoundsBeginEnd_d044e : MethodName := ⟨RJ2, "checkBoundsBeginEnd", "(II[B)V"⟩
def RJ3 : String := "jdk/internal/util/Preconditions"
def TJ3 : u_T := fun k => match k with
  | _ => ("", "", "", false)
def tyJ3 : Nat → FieldType := fun k => match k with
  | _ => .int
abbrev wsJ30 : List Cond := u_ws RJ3 TJ3 0
theorem nmJ3 : ∀ a, a < 0 → ∀ b, b < 0 → a ≠ b → (TJ3 a).2.1 ≠ (TJ3 b).2.1 := by decide +kernel
theorem tyJ3_ok : ∀ k, k < 0 → parseFieldDescriptor (TJ3 k).2.2.1 = some (tyJ3 k) := by decide +kernel
abbrev cJ3_checkFromToIndex_8c36e : ByteArray := prog_20_method_12_code
def yJ3_checkFromToIndex_8c36e : MethodName := ⟨RJ3, "checkFromToIndex", "(IIILjava/util/function/BiFunction;)I"⟩
def RL : String := "PancakePortLaw"
abbrev cL_law : ByteArray := code
def yL_law : MethodName := ⟨RL, "law", "([I)Z"⟩
abbrev vwCl : List vw_C := [(RX0, TX0, 0), (RX1, TX1, 0), (RX2, TX2, 12), (RX3, TX3, 2), (RX4, TX4, 7), (RX5, TX5, 8), (RX6, TX6, 4), (RX7, TX7, 0), (RX8, TX8, 0), (RX9, TX9, 0), (RX10, TX10, 11), (RX11, TX11, 40)]
end
section
theorem dX0_init_0 : decode cX0_init 0 = .ok (.aload_n 0, 1) := by decide +kernel
theorem dX0_init_1 : decode cX0_init 1 = .ok (.invokespecial 3, 3) := by decide +kernel
theorem dX0_init_4 : decode cX0_init 4 = .ok (.return_, 1) := by decide +kernel
theorem dX0_kind_0 : decode cX0_kind 0 = .ok (.iconst 1, 1) := by decide +kernel
theorem dX0_kind_1 : decode cX0_kind 1 = .ok (.ireturn, 1) := by decide +kernel
theorem dX0_batter_0 : decode cX0_batter 0 = .ok (.iconst 2, 1) := by decide +kernel
theorem dX0_batter_1 : decode cX0_batter 1 = .ok (.ireturn, 1) := by decide +kernel
theorem dX0_spreads_0 : decode cX0_spreads 0 = .ok (.iload_n 1, 1) := by decide +kernel
theorem dX0_spreads_1 : decode cX0_spreads 1 = .ok (.invokestatic 9, 3) := by decide +kernel
theorem dX0_spreads_4 : decode cX0_spreads 4 = .ok (.iconst 1, 1) := by decide +kernel
theorem dX0_spreads_5 : decode cX0_spreads 5 = .ok (.if_icmp .gt 18, 3) := by decide +kernel
theorem dX0_spreads_8 : decode cX0_spreads 8 = .ok (.iload_n 1, 1) := by decide +kernel
theorem dX0_spreads_9 : decode cX0_spreads 9 = .ok (.invokestatic 9, 3) := by decide +kernel
theorem dX0_spreads_12 : decode cX0_spreads 12 = .ok (.iload_n 2, 1) := by decide +kernel
theorem dX0_spreads_13 : decode cX0_spreads 13 = .ok (.invokestatic 9, 3) := by decide +kernel
theorem dX0_spreads_16 : decode cX0_spreads 16 = .ok (.if_icmp .ne 7, 3) := by decide +kernel
theorem dX0_spreads_19 : decode cX0_spreads 19 = .ok (.iconst 1, 1) := by decide +kernel
theorem dX0_spreads_20 : decode cX0_spreads 20 = .ok (.goto 4, 3) := by decide +kernel
theorem dX0_spreads_23 : decode cX0_spreads 23 = .ok (.iconst 0, 1) := by decide +kernel
theorem dX0_spreads_24 : decode cX0_spreads 24 = .ok (.ireturn, 1) := by decide +kernel
theorem dX1_init_0 : decode cX1_init 0 = .ok (.aload_n 0, 1) := by decide +kernel
theorem dX1_init_1 : decode cX1_init 1 = .ok (.invokespecial 3, 3) := by decide +kernel
theorem dX1_init_4 : decode cX1_init 4 = .ok (.return_, 1) := by decide +kernel
theorem dX1_kind_0 : decode cX1_kind 0 = .ok (.iconst 4, 1) := by decide +kernel
theorem dX1_kind_1 : decode cX1_kind 1 = .ok (.ireturn, 1) := by decide +kernel
theorem dX1_batter_0 : decode cX1_batter 0 = .ok (.iconst 4, 1) := by decide +kernel
theorem dX1_batter_1 : decode cX1_batter 1 = .ok (.ireturn, 1) := by decide +kernel
theorem dX1_spreads_0 : decode cX1_spreads 0 = .ok (.aload_n 0, 1) := by decide +kernel
theorem dX1_spreads_1 : decode cX1_spreads 1 = .ok (.iload_n 1, 1) := by decide +kernel
theorem dX1_spreads_2 : decode cX1_spreads 2 = .ok (.iload_n 2, 1) := by decide +kernel
theorem dX1_spreads_3 : decode cX1_spreads 3 = .ok (.invokespecial 9, 3) := by decide +kernel
theorem dX1_spreads_6 : decode cX1_spreads 6 = .ok (.ifCond .eq 15, 3) := by decide +kernel
theorem dX1_spreads_9 : decode cX1_spreads 9 = .ok (.iload_n 1, 1) := by decide +kernel
theorem dX1_spreads_10 : decode cX1_spreads 10 = .ok (.ifCond .ne 7, 3) := by decide +kernel
theorem dX1_spreads_13 : decode cX1_spreads 13 = .ok (.iload_n 2, 1) := by decide +kernel
theorem dX1_spreads_14 : decode cX1_spreads 14 = .ok (.ifCond .eq 7, 3) := by decide +kernel
theorem dX1_spreads_17 : decode cX1_spreads 17 = .ok (.iconst 1, 1) := by decide +kernel
theorem dX1_spreads_18 : decode cX1_spreads 18 = .ok (.goto 4, 3) := by decide +kernel
theorem dX1_spreads_21 : decode cX1_spreads 21 = .ok (.iconst 0, 1) := by decide +kernel
theorem dX1_spreads_22 : decode cX1_spreads 22 = .ok (.ireturn, 1) := by decide +kernel
theorem dX2_init_0 : decode cX2_init 0 = .ok (.aload_n 0, 1) := by decide +kernel
theorem dX2_init_1 : decode cX2_init 1 = .ok (.invokespecial 3, 3) := by decide +kernel
theorem dX2_init_4 : decode cX2_init 4 = .ok (.aload_n 0, 1) := by decide +kernel
theorem dX2_init_5 : decode cX2_init 5 = .ok (.bipush 6, 2) := by decide +kernel
theorem dX2_init_7 : decode cX2_init 7 = .ok (.newarray .int, 2) := by decide +kernel
theorem dX2_init_9 : decode cX2_init 9 = .ok (.putfield 9, 3) := by decide +kernel
theorem dX2_init_12 : decode cX2_init 12 = .ok (.aload_n 0, 1) := by decide +kernel
theorem dX2_init_13 : decode cX2_init 13 = .ok (.bipush 6, 2) := by decide +kernel
theorem dX2_init_15 : decode cX2_init 15 = .ok (.newarray .int, 2) := by decide +kernel
theorem dX2_init_17 : decode cX2_init 17 = .ok (.putfield 15, 3) := by decide +kernel
theorem dX2_init_20 : decode cX2_init 20 = .ok (.aload_n 0, 1) := by decide +kernel
theorem dX2_init_21 : decode cX2_init 21 = .ok (.bipush 6, 2) := by decide +kernel
theorem dX2_init_23 : decode cX2_init 23 = .ok (.newarray .int, 2) := by decide +kernel
theorem dX2_init_25 : decode cX2_init 25 = .ok (.putfield 18, 3) := by decide +kernel
theorem dX2_init_28 : decode cX2_init 28 = .ok (.aload_n 0, 1) := by decide +kernel
theorem dX2_init_29 : decode cX2_init 29 = .ok (.iconst 4, 1) := by decide +kernel
theorem dX2_init_30 : decode cX2_init 30 = .ok (.newarray .int, 2) := by decide +kernel
theorem dX2_init_32 : decode cX2_init 32 = .ok (.putfield 21, 3) := by decide +kernel
theorem dX2_init_35 : decode cX2_init 35 = .ok (.aload_n 0, 1) := by decide +kernel
theorem dX2_init_36 : decode cX2_init 36 = .ok (.iconst 4, 1) := by decide +kernel
theorem dX2_init_37 : decode cX2_init 37 = .ok (.newarray .int, 2) := by decide +kernel
theorem dX2_init_39 : decode cX2_init 39 = .ok (.putfield 24, 3) := by decide +kernel
theorem dX2_init_42 : decode cX2_init 42 = .ok (.aload_n 0, 1) := by decide +kernel
theorem dX2_init_43 : decode cX2_init 43 = .ok (.iconst 4, 1) := by decide +kernel
theorem dX2_init_44 : decode cX2_init 44 = .ok (.newarray .int, 2) := by decide +kernel
theorem dX2_init_46 : decode cX2_init 46 = .ok (.putfield 27, 3) := by decide +kernel
theorem dX2_init_49 : decode cX2_init 49 = .ok (.aload_n 0, 1) := by decide +kernel
theorem dX2_init_50 : decode cX2_init 50 = .ok (.new 30, 3) := by decide +kernel
theorem dX2_init_53 : decode cX2_init 53 = .ok (.dup, 1) := by decide +kernel
theorem dX2_init_54 : decode cX2_init 54 = .ok (.invokespecial 32, 3) := by decide +kernel
theorem dX2_init_57 : decode cX2_init 57 = .ok (.putfield 33, 3) := by decide +kernel
theorem dX2_init_60 : decode cX2_init 60 = .ok (.return_, 1) := by decide +kernel
theorem dX2_begin_0 : decode cX2_begin 0 = .ok (.aload_n 1, 1) := by decide +kernel
theorem dX2_begin_1 : decode cX2_begin 1 = .ok (.ifnonnull 4, 3) := by decide +kernel
theorem dX2_begin_4 : decode cX2_begin 4 = .ok (.return_, 1) := by decide +kernel
theorem dX2_begin_5 : decode cX2_begin 5 = .ok (.aload_n 1, 1) := by decide +kernel
theorem dX2_begin_6 : decode cX2_begin 6 = .ok (.getfield 37, 3) := by decide +kernel
theorem dX2_begin_9 : decode cX2_begin 9 = .ok (.aload_n 0, 1) := by decide +kernel
theorem dX2_begin_10 : decode cX2_begin 10 = .ok (.getfield 9, 3) := by decide +kernel
theorem dX2_begin_13 : decode cX2_begin 13 = .ok (.invokestatic 40, 3) := by decide +kernel
theorem dX2_begin_16 : decode cX2_begin 16 = .ok (.aload_n 1, 1) := by decide +kernel
theorem dX2_begin_17 : decode cX2_begin 17 = .ok (.getfield 44, 3) := by decide +kernel
theorem dX2_begin_20 : decode cX2_begin 20 = .ok (.aload_n 0, 1) := by decide +kernel
theorem dX2_begin_21 : decode cX2_begin 21 = .ok (.getfield 21, 3) := by decide +kernel
theorem dX2_begin_24 : decode cX2_begin 24 = .ok (.invokestatic 40, 3) := by decide +kernel
theorem dX2_begin_27 : decode cX2_begin 27 = .ok (.aload_n 1, 1) := by decide +kernel
theorem dX2_begin_28 : decode cX2_begin 28 = .ok (.getfield 45, 3) := by decide +kernel
theorem dX2_begin_31 : decode cX2_begin 31 = .ok (.aload_n 0, 1) := by decide +kernel
theorem dX2_begin_32 : decode cX2_begin 32 = .ok (.getfield 24, 3) := by decide +kernel
theorem dX2_begin_35 : decode cX2_begin 35 = .ok (.invokestatic 40, 3) := by decide +kernel
theorem dX2_begin_38 : decode cX2_begin 38 = .ok (.aload_n 0, 1) := by decide +kernel
theorem dX2_begin_39 : decode cX2_begin 39 = .ok (.getfield 15, 3) := by decide +kernel
theorem dX2_begin_42 : decode cX2_begin 42 = .ok (.invokestatic 46, 3) := by decide +kernel
theorem dX2_begin_45 : decode cX2_begin 45 = .ok (.aload_n 0, 1) := by decide +kernel
theorem dX2_begin_46 : decode cX2_begin 46 = .ok (.getfield 18, 3) := by decide +kernel
theorem dX2_begin_49 : decode cX2_begin 49 = .ok (.invokestatic 46, 3) := by decide +kernel
theorem dX2_begin_52 : decode cX2_begin 52 = .ok (.aload_n 0, 1) := by decide +kernel
theorem dX2_begin_53 : decode cX2_begin 53 = .ok (.getfield 27, 3) := by decide +kernel
theorem dX2_begin_56 : decode cX2_begin 56 = .ok (.invokestatic 46, 3) := by decide +kernel
theorem dX2_begin_59 : decode cX2_begin 59 = .ok (.aload_n 0, 1) := by decide +kernel
theorem dX2_begin_60 : decode cX2_begin 60 = .ok (.getfield 33, 3) := by decide +kernel
theorem dX2_begin_63 : decode cX2_begin 63 = .ok (.iconst 0, 1) := by decide +kernel
theorem dX2_begin_64 : decode cX2_begin 64 = .ok (.putfield 50, 3) := by decide +kernel
theorem dX2_begin_67 : decode cX2_begin 67 = .ok (.aload_n 0, 1) := by decide +kernel
theorem dX2_begin_68 : decode cX2_begin 68 = .ok (.iconst 0, 1) := by decide +kernel
theorem dX2_begin_69 : decode cX2_begin 69 = .ok (.putfield 54, 3) := by decide +kernel
theorem dX2_begin_72 : decode cX2_begin 72 = .ok (.aload_n 0, 1) := by decide +kernel
theorem dX2_begin_73 : decode cX2_begin 73 = .ok (.iconst 0, 1) := by decide +kernel
theorem dX2_begin_74 : decode cX2_begin 74 = .ok (.putfield 57, 3) := by decide +kernel
theorem dX2_begin_77 : decode cX2_begin 77 = .ok (.aload_n 0, 1) := by decide +kernel
theorem dX2_begin_78 : decode cX2_begin 78 = .ok (.bipush 60, 2) := by decide +kernel
theorem dX2_begin_80 : decode cX2_begin 80 = .ok (.putfield 60, 3) := by decide +kernel
theorem dX2_begin_83 : decode cX2_begin 83 = .ok (.aload_n 0, 1) := by decide +kernel
theorem dX2_begin_84 : decode cX2_begin 84 = .ok (.iconst 0, 1) := by decide +kernel
theorem dX2_begin_85 : decode cX2_begin 85 = .ok (.putfield 63, 3) := by decide +kernel
theorem dX2_begin_88 : decode cX2_begin 88 = .ok (.aload_n 0, 1) := by decide +kernel
theorem dX2_begin_89 : decode cX2_begin 89 = .ok (.iconst 0, 1) := by decide +kernel
theorem dX2_begin_90 : decode cX2_begin 90 = .ok (.putfield 66, 3) := by decide +kernel
theorem dX2_begin_93 : decode cX2_begin 93 = .ok (.return_, 1) := by decide +kernel
theorem dX2_wake_0 : decode cX2_wake 0 = .ok (.iconst 0, 1) := by decide +kernel
theorem dX2_wake_1 : decode cX2_wake 1 = .ok (.istore_n 2, 1) := by decide +kernel
theorem dX2_wake_2 : decode cX2_wake 2 = .ok (.iload_n 2, 1) := by decide +kernel
theorem dX2_wake_3 : decode cX2_wake 3 = .ok (.iload_n 1, 1) := by decide +kernel
theorem dX2_wake_4 : decode cX2_wake 4 = .ok (.if_icmp .ge 45, 3) := by decide +kernel
theorem dX2_wake_7 : decode cX2_wake 7 = .ok (.aload_n 0, 1) := by decide +kernel
theorem dX2_wake_8 : decode cX2_wake 8 = .ok (.getfield 54, 3) := by decide +kernel
theorem dX2_wake_11 : decode cX2_wake 11 = .ok (.iload_n 2, 1) := by decide +kernel
theorem dX2_wake_12 : decode cX2_wake 12 = .ok (.ishr, 1) := by decide +kernel
theorem dX2_wake_13 : decode cX2_wake 13 = .ok (.iconst 1, 1) := by decide +kernel
theorem dX2_wake_14 : decode cX2_wake 14 = .ok (.iand, 1) := by decide +kernel
theorem dX2_wake_15 : decode cX2_wake 15 = .ok (.iconst 1, 1) := by decide +kernel
theorem dX2_wake_16 : decode cX2_wake 16 = .ok (.if_icmp .ne 10, 3) := by decide +kernel
theorem dX2_wake_19 : decode cX2_wake 19 = .ok (.aload_n 0, 1) := by decide +kernel
theorem dX2_wake_20 : decode cX2_wake 20 = .ok (.getfield 15, 3) := by decide +kernel
theorem dX2_wake_23 : decode cX2_wake 23 = .ok (.goto 7, 3) := by decide +kernel
theorem dX2_wake_26 : decode cX2_wake 26 = .ok (.aload_n 0, 1) := by decide +kernel
theorem dX2_wake_27 : decode cX2_wake 27 = .ok (.getfield 18, 3) := by decide +kernel
theorem dX2_wake_30 : decode cX2_wake 30 = .ok (.astore_n 3, 1) := by decide +kernel
theorem dX2_wake_31 : decode cX2_wake 31 = .ok (.aload_n 3, 1) := by decide +kernel
theorem dX2_wake_32 : decode cX2_wake 32 = .ok (.iload_n 2, 1) := by decide +kernel
theorem dX2_wake_33 : decode cX2_wake 33 = .ok (.aload_n 3, 1) := by decide +kernel
theorem dX2_wake_34 : decode cX2_wake 34 = .ok (.iload_n 2, 1) := by decide +kernel
theorem dX2_wake_35 : decode cX2_wake 35 = .ok (.invokestatic 69, 3) := by decide +kernel
theorem dX2_wake_38 : decode cX2_wake 38 = .ok (.iconst 1, 1) := by decide +kernel
theorem dX2_wake_39 : decode cX2_wake 39 = .ok (.iadd, 1) := by decide +kernel
theorem dX2_wake_40 : decode cX2_wake 40 = .ok (.invokestatic 73, 3) := by decide +kernel
theorem dX2_wake_43 : decode cX2_wake 43 = .ok (.iinc 2 1, 3) := by decide +kernel
theorem dX2_wake_46 : decode cX2_wake 46 = .ok (.goto (-44), 3) := by decide +kernel
theorem dX2_wake_49 : decode cX2_wake 49 = .ok (.aload_n 0, 1) := by decide +kernel
theorem dX2_wake_50 : decode cX2_wake 50 = .ok (.iconst 0, 1) := by decide +kernel
theorem dX2_wake_51 : decode cX2_wake 51 = .ok (.putfield 54, 3) := by decide +kernel
theorem dX2_wake_54 : decode cX2_wake 54 = .ok (.aload_n 0, 1) := by decide +kernel
theorem dX2_wake_55 : decode cX2_wake 55 = .ok (.dup, 1) := by decide +kernel
theorem dX2_wake_56 : decode cX2_wake 56 = .ok (.getfield 63, 3) := by decide +kernel
theorem dX2_wake_59 : decode cX2_wake 59 = .ok (.iconst 1, 1) := by decide +kernel
theorem dX2_wake_60 : decode cX2_wake 60 = .ok (.iadd, 1) := by decide +kernel
theorem dX2_wake_61 : decode cX2_wake 61 = .ok (.putfield 63, 3) := by decide +kernel
theorem dX2_wake_64 : decode cX2_wake 64 = .ok (.return_, 1) := by decide +kernel
theorem dX2_takeFrom_0 : decode cX2_takeFrom 0 = .ok (.aload_n 1, 1) := by decide +kernel
theorem dX2_takeFrom_1 : decode cX2_takeFrom 1 = .ok (.ifnonnull 4, 3) := by decide +kernel
theorem dX2_takeFrom_4 : decode cX2_takeFrom 4 = .ok (.return_, 1) := by decide +kernel
theorem dX2_takeFrom_5 : decode cX2_takeFrom 5 = .ok (.aload_n 1, 1) := by decide +kernel
theorem dX2_takeFrom_6 : decode cX2_takeFrom 6 = .ok (.getfield 9, 3) := by decide +kernel
theorem dX2_takeFrom_9 : decode cX2_takeFrom 9 = .ok (.aload_n 0, 1) := by decide +kernel
theorem dX2_takeFrom_10 : decode cX2_takeFrom 10 = .ok (.getfield 9, 3) := by decide +kernel
theorem dX2_takeFrom_13 : decode cX2_takeFrom 13 = .ok (.invokestatic 40, 3) := by decide +kernel
theorem dX2_takeFrom_16 : decode cX2_takeFrom 16 = .ok (.aload_n 1, 1) := by decide +kernel
theorem dX2_takeFrom_17 : decode cX2_takeFrom 17 = .ok (.getfield 15, 3) := by decide +kernel
theorem dX2_takeFrom_20 : decode cX2_takeFrom 20 = .ok (.aload_n 0, 1) := by decide +kernel
theorem dX2_takeFrom_21 : decode cX2_takeFrom 21 = .ok (.getfield 15, 3) := by decide +kernel
theorem dX2_takeFrom_24 : decode cX2_takeFrom 24 = .ok (.invokestatic 40, 3) := by decide +kernel
theorem dX2_takeFrom_27 : decode cX2_takeFrom 27 = .ok (.aload_n 1, 1) := by decide +kernel
theorem dX2_takeFrom_28 : decode cX2_takeFrom 28 = .ok (.getfield 18, 3) := by decide +kernel
theorem dX2_takeFrom_31 : decode cX2_takeFrom 31 = .ok (.aload_n 0, 1) := by decide +kernel
theorem dX2_takeFrom_32 : decode cX2_takeFrom 32 = .ok (.getfield 18, 3) := by decide +kernel
theorem dX2_takeFrom_35 : decode cX2_takeFrom 35 = .ok (.invokestatic 40, 3) := by decide +kernel
theorem dX2_takeFrom_38 : decode cX2_takeFrom 38 = .ok (.aload_n 1, 1) := by decide +kernel
theorem dX2_takeFrom_39 : decode cX2_takeFrom 39 = .ok (.getfield 21, 3) := by decide +kernel
theorem dX2_takeFrom_42 : decode cX2_takeFrom 42 = .ok (.aload_n 0, 1) := by decide +kernel
theorem dX2_takeFrom_43 : decode cX2_takeFrom 43 = .ok (.getfield 21, 3) := by decide +kernel
theorem dX2_takeFrom_46 : decode cX2_takeFrom 46 = .ok (.invokestatic 40, 3) := by decide +kernel
theorem dX2_takeFrom_49 : decode cX2_takeFrom 49 = .ok (.aload_n 1, 1) := by decide +kernel
theorem dX2_takeFrom_50 : decode cX2_takeFrom 50 = .ok (.getfield 24, 3) := by decide +kernel
theorem dX2_takeFrom_53 : decode cX2_takeFrom 53 = .ok (.aload_n 0, 1) := by decide +kernel
theorem dX2_takeFrom_54 : decode cX2_takeFrom 54 = .ok (.getfield 24, 3) := by decide +kernel
theorem dX2_takeFrom_57 : decode cX2_takeFrom 57 = .ok (.invokestatic 40, 3) := by decide +kernel
theorem dX2_takeFrom_60 : decode cX2_takeFrom 60 = .ok (.aload_n 1, 1) := by decide +kernel
theorem dX2_takeFrom_61 : decode cX2_takeFrom 61 = .ok (.getfield 27, 3) := by decide +kernel
theorem dX2_takeFrom_64 : decode cX2_takeFrom 64 = .ok (.aload_n 0, 1) := by decide +kernel
theorem dX2_takeFrom_65 : decode cX2_takeFrom 65 = .ok (.getfield 27, 3) := by decide +kernel
theorem dX2_takeFrom_68 : decode cX2_takeFrom 68 = .ok (.invokestatic 40, 3) := by decide +kernel
theorem dX2_takeFrom_71 : decode cX2_takeFrom 71 = .ok (.aload_n 0, 1) := by decide +kernel
theorem dX2_takeFrom_72 : decode cX2_takeFrom 72 = .ok (.getfield 33, 3) := by decide +kernel
theorem dX2_takeFrom_75 : decode cX2_takeFrom 75 = .ok (.aload_n 1, 1) := by decide +kernel
theorem dX2_takeFrom_76 : decode cX2_takeFrom 76 = .ok (.getfield 33, 3) := by decide +kernel
theorem dX2_takeFrom_79 : decode cX2_takeFrom 79 = .ok (.invokevirtual 77, 3) := by decide +kernel
theorem dX2_takeFrom_82 : decode cX2_takeFrom 82 = .ok (.aload_n 0, 1) := by decide +kernel
theorem dX2_takeFrom_83 : decode cX2_takeFrom 83 = .ok (.aload_n 1, 1) := by decide +kernel
theorem dX2_takeFrom_84 : decode cX2_takeFrom 84 = .ok (.getfield 54, 3) := by decide +kernel
theorem dX2_takeFrom_87 : decode cX2_takeFrom 87 = .ok (.putfield 54, 3) := by decide +kernel
theorem dX2_takeFrom_90 : decode cX2_takeFrom 90 = .ok (.aload_n 0, 1) := by decide +kernel
theorem dX2_takeFrom_91 : decode cX2_takeFrom 91 = .ok (.aload_n 1, 1) := by decide +kernel
theorem dX2_takeFrom_92 : decode cX2_takeFrom 92 = .ok (.getfield 57, 3) := by decide +kernel
theorem dX2_takeFrom_95 : decode cX2_takeFrom 95 = .ok (.putfield 57, 3) := by decide +kernel
theorem dX2_takeFrom_98 : decode cX2_takeFrom 98 = .ok (.aload_n 0, 1) := by decide +kernel
theorem dX2_takeFrom_99 : decode cX2_takeFrom 99 = .ok (.aload_n 1, 1) := by decide +kernel
theorem dX2_takeFrom_100 : decode cX2_takeFrom 100 = .ok (.getfield 60, 3) := by decide +kernel
theorem dX2_takeFrom_103 : decode cX2_takeFrom 103 = .ok (.putfield 60, 3) := by decide +kernel
theorem dX2_takeFrom_106 : decode cX2_takeFrom 106 = .ok (.aload_n 0, 1) := by decide +kernel
theorem dX2_takeFrom_107 : decode cX2_takeFrom 107 = .ok (.aload_n 1, 1) := by decide +kernel
theorem dX2_takeFrom_108 : decode cX2_takeFrom 108 = .ok (.getfield 63, 3) := by decide +kernel
theorem dX2_takeFrom_111 : decode cX2_takeFrom 111 = .ok (.putfield 63, 3) := by decide +kernel
theorem dX2_takeFrom_114 : decode cX2_takeFrom 114 = .ok (.aload_n 0, 1) := by decide +kernel
theorem dX2_takeFrom_115 : decode cX2_takeFrom 115 = .ok (.aload_n 1, 1) := by decide +kernel
theorem dX2_takeFrom_116 : decode cX2_takeFrom 116 = .ok (.getfield 66, 3) := by decide +kernel
theorem dX2_takeFrom_119 : decode cX2_takeFrom 119 = .ok (.putfield 66, 3) := by decide +kernel
theorem dX2_takeFrom_122 : decode cX2_takeFrom 122 = .ok (.return_, 1) := by decide +kernel
theorem dX3_init_0 : decode cX3_init 0 = .ok (.aload_n 0, 1) := by decide +kernel
theorem dX3_init_1 : decode cX3_init 1 = .ok (.invokespecial 3, 3) := by decide +kernel
theorem dX3_init_4 : decode cX3_init 4 = .ok (.aload_n 0, 1) := by decide +kernel
theorem dX3_init_5 : decode cX3_init 5 = .ok (.bipush 36, 2) := by decide +kernel
theorem dX3_init_7 : decode cX3_init 7 = .ok (.newarray .int, 2) := by decide +kernel
theorem dX3_init_9 : decode cX3_init 9 = .ok (.putfield 9, 3) := by decide +kernel
theorem dX3_init_12 : decode cX3_init 12 = .ok (.return_, 1) := by decide +kernel
theorem dX3_append_0 : decode cX3_append 0 = .ok (.aload_n 0, 1) := by decide +kernel
theorem dX3_append_1 : decode cX3_append 1 = .ok (.getfield 9, 3) := by decide +kernel
theorem dX3_append_4 : decode cX3_append 4 = .ok (.aload_n 0, 1) := by decide +kernel
theorem dX3_append_5 : decode cX3_append 5 = .ok (.getfield 15, 3) := by decide +kernel
theorem dX3_append_8 : decode cX3_append 8 = .ok (.iload_n 1, 1) := by decide +kernel
theorem dX3_append_9 : decode cX3_append 9 = .ok (.invokestatic 19, 3) := by decide +kernel
theorem dX3_append_12 : decode cX3_append 12 = .ok (.aload_n 0, 1) := by decide +kernel
theorem dX3_append_13 : decode cX3_append 13 = .ok (.dup, 1) := by decide +kernel
theorem dX3_append_14 : decode cX3_append 14 = .ok (.getfield 15, 3) := by decide +kernel
theorem dX3_append_17 : decode cX3_append 17 = .ok (.iconst 1, 1) := by decide +kernel
theorem dX3_append_18 : decode cX3_append 18 = .ok (.iadd, 1) := by decide +kernel
theorem dX3_append_19 : decode cX3_append 19 = .ok (.putfield 15, 3) := by decide +kernel
theorem dX3_append_22 : decode cX3_append 22 = .ok (.return_, 1) := by decide +kernel
theorem dX4_init_0 : decode cX4_init 0 = .ok (.aload_n 0, 1) := by decide +kernel
theorem dX4_init_1 : decode cX4_init 1 = .ok (.invokespecial 3, 3) := by decide +kernel
theorem dX4_init_4 : decode cX4_init 4 = .ok (.aload_n 0, 1) := by decide +kernel
theorem dX4_init_5 : decode cX4_init 5 = .ok (.sipush 144, 3) := by decide +kernel
theorem dX4_init_8 : decode cX4_init 8 = .ok (.newarray .int, 2) := by decide +kernel
theorem dX4_init_10 : decode cX4_init 10 = .ok (.putfield 9, 3) := by decide +kernel
theorem dX4_init_13 : decode cX4_init 13 = .ok (.aload_n 0, 1) := by decide +kernel
theorem dX4_init_14 : decode cX4_init 14 = .ok (.sipush 144, 3) := by decide +kernel
theorem dX4_init_17 : decode cX4_init 17 = .ok (.newarray .int, 2) := by decide +kernel
theorem dX4_init_19 : decode cX4_init 19 = .ok (.putfield 15, 3) := by decide +kernel
theorem dX4_init_22 : decode cX4_init 22 = .ok (.aload_n 0, 1) := by decide +kernel
theorem dX4_init_23 : decode cX4_init 23 = .ok (.bipush 64, 2) := by decide +kernel
theorem dX4_init_25 : decode cX4_init 25 = .ok (.newarray .int, 2) := by decide +kernel
theorem dX4_init_27 : decode cX4_init 27 = .ok (.putfield 18, 3) := by decide +kernel
theorem dX4_init_30 : decode cX4_init 30 = .ok (.aload_n 0, 1) := by decide +kernel
theorem dX4_init_31 : decode cX4_init 31 = .ok (.bipush 64, 2) := by decide +kernel
theorem dX4_init_33 : decode cX4_init 33 = .ok (.newarray .int, 2) := by decide +kernel
theorem dX4_init_35 : decode cX4_init 35 = .ok (.putfield 21, 3) := by decide +kernel
theorem dX4_init_38 : decode cX4_init 38 = .ok (.aload_n 0, 1) := by decide +kernel
theorem dX4_init_39 : decode cX4_init 39 = .ok (.bipush 6, 2) := by decide +kernel
theorem dX4_init_41 : decode cX4_init 41 = .ok (.newarray .int, 2) := by decide +kernel
theorem dX4_init_43 : decode cX4_init 43 = .ok (.putfield 24, 3) := by decide +kernel
theorem dX4_init_46 : decode cX4_init 46 = .ok (.return_, 1) := by decide +kernel
theorem dX4_begin_0 : decode cX4_begin 0 = .ok (.aload_n 0, 1) := by decide +kernel
theorem dX4_begin_1 : decode cX4_begin 1 = .ok (.getfield 9, 3) := by decide +kernel
theorem dX4_begin_4 : decode cX4_begin 4 = .ok (.invokestatic 27, 3) := by decide +kernel
theorem dX4_begin_7 : decode cX4_begin 7 = .ok (.aload_n 0, 1) := by decide +kernel
theorem dX4_begin_8 : decode cX4_begin 8 = .ok (.getfield 15, 3) := by decide +kernel
theorem dX4_begin_11 : decode cX4_begin 11 = .ok (.invokestatic 27, 3) := by decide +kernel
theorem dX4_begin_14 : decode cX4_begin 14 = .ok (.iconst 0, 1) := by decide +kernel
theorem dX4_begin_15 : decode cX4_begin 15 = .ok (.istore_n 1, 1) := by decide +kernel
theorem dX4_begin_16 : decode cX4_begin 16 = .ok (.iload_n 1, 1) := by decide +kernel
theorem dX4_begin_17 : decode cX4_begin 17 = .ok (.bipush 64, 2) := by decide +kernel
theorem dX4_begin_19 : decode cX4_begin 19 = .ok (.if_icmp .ge 19, 3) := by decide +kernel
theorem dX4_begin_22 : decode cX4_begin 22 = .ok (.aload_n 0, 1) := by decide +kernel
theorem dX4_begin_23 : decode cX4_begin 23 = .ok (.getfield 18, 3) := by decide +kernel
theorem dX4_begin_26 : decode cX4_begin 26 = .ok (.iload_n 1, 1) := by decide +kernel
theorem dX4_begin_27 : decode cX4_begin 27 = .ok (.ldc 31, 2) := by decide +kernel
theorem dX4_begin_29 : decode cX4_begin 29 = .ok (.invokestatic 32, 3) := by decide +kernel
theorem dX4_begin_32 : decode cX4_begin 32 = .ok (.iinc 1 1, 3) := by decide +kernel
theorem dX4_begin_35 : decode cX4_begin 35 = .ok (.goto (-19), 3) := by decide +kernel
theorem dX4_begin_38 : decode cX4_begin 38 = .ok (.return_, 1) := by decide +kernel
theorem dX4_offer_0 : decode cX4_offer 0 = .ok (.bipush 16, 2) := by decide +kernel
theorem dX4_offer_2 : decode cX4_offer 2 = .ok (.iload_n 3, 1) := by decide +kernel
theorem dX4_offer_3 : decode cX4_offer 3 = .ok (.imul, 1) := by decide +kernel
theorem dX4_offer_4 : decode cX4_offer 4 = .ok (.iconst 1, 1) := by decide +kernel
theorem dX4_offer_5 : decode cX4_offer 5 = .ok (.iadd, 1) := by decide +kernel
theorem dX4_offer_6 : decode cX4_offer 6 = .ok (.istore 4, 2) := by decide +kernel
theorem dX4_offer_8 : decode cX4_offer 8 = .ok (.aload_n 0, 1) := by decide +kernel
theorem dX4_offer_9 : decode cX4_offer 9 = .ok (.getfield 9, 3) := by decide +kernel
theorem dX4_offer_12 : decode cX4_offer 12 = .ok (.iload_n 1, 1) := by decide +kernel
theorem dX4_offer_13 : decode cX4_offer 13 = .ok (.iload_n 2, 1) := by decide +kernel
theorem dX4_offer_14 : decode cX4_offer 14 = .ok (.invokestatic 32, 3) := by decide +kernel
theorem dX4_offer_17 : decode cX4_offer 17 = .ok (.aload_n 0, 1) := by decide +kernel
theorem dX4_offer_18 : decode cX4_offer 18 = .ok (.getfield 15, 3) := by decide +kernel
theorem dX4_offer_21 : decode cX4_offer 21 = .ok (.iload_n 1, 1) := by decide +kernel
theorem dX4_offer_22 : decode cX4_offer 22 = .ok (.iload 4, 2) := by decide +kernel
theorem dX4_offer_24 : decode cX4_offer 24 = .ok (.invokestatic 32, 3) := by decide +kernel
theorem dX4_offer_27 : decode cX4_offer 27 = .ok (.aload_n 0, 1) := by decide +kernel
theorem dX4_offer_28 : decode cX4_offer 28 = .ok (.getfield 18, 3) := by decide +kernel
theorem dX4_offer_31 : decode cX4_offer 31 = .ok (.iload_n 2, 1) := by decide +kernel
theorem dX4_offer_32 : decode cX4_offer 32 = .ok (.iload 4, 2) := by decide +kernel
theorem dX4_offer_34 : decode cX4_offer 34 = .ok (.aload_n 0, 1) := by decide +kernel
theorem dX4_offer_35 : decode cX4_offer 35 = .ok (.getfield 18, 3) := by decide +kernel
theorem dX4_offer_38 : decode cX4_offer 38 = .ok (.iload_n 2, 1) := by decide +kernel
theorem dX4_offer_39 : decode cX4_offer 39 = .ok (.invokestatic 36, 3) := by decide +kernel
theorem dX4_offer_42 : decode cX4_offer 42 = .ok (.invokestatic 40, 3) := by decide +kernel
theorem dX4_offer_45 : decode cX4_offer 45 = .ok (.invokestatic 32, 3) := by decide +kernel
theorem dX4_offer_48 : decode cX4_offer 48 = .ok (.return_, 1) := by decide +kernel
theorem dX4_solve_0 : decode cX4_solve 0 = .ok (.aload_n 0, 1) := by decide +kernel
theorem dX4_solve_1 : decode cX4_solve 1 = .ok (.getfield 21, 3) := by decide +kernel
theorem dX4_solve_4 : decode cX4_solve 4 = .ok (.iconst 0, 1) := by decide +kernel
theorem dX4_solve_5 : decode cX4_solve 5 = .ok (.iconst 0, 1) := by decide +kernel
theorem dX4_solve_6 : decode cX4_solve 6 = .ok (.invokestatic 32, 3) := by decide +kernel
theorem dX4_solve_9 : decode cX4_solve 9 = .ok (.iconst 1, 1) := by decide +kernel
theorem dX4_solve_10 : decode cX4_solve 10 = .ok (.istore_n 2, 1) := by decide +kernel
theorem dX4_solve_11 : decode cX4_solve 11 = .ok (.iload_n 2, 1) := by decide +kernel
theorem dX4_solve_12 : decode cX4_solve 12 = .ok (.bipush 64, 2) := by decide +kernel
theorem dX4_solve_14 : decode cX4_solve 14 = .ok (.if_icmp .ge 35, 3) := by decide +kernel
theorem dX4_solve_17 : decode cX4_solve 17 = .ok (.aload_n 0, 1) := by decide +kernel
theorem dX4_solve_18 : decode cX4_solve 18 = .ok (.getfield 21, 3) := by decide +kernel
theorem dX4_solve_21 : decode cX4_solve 21 = .ok (.iload_n 2, 1) := by decide +kernel
theorem dX4_solve_22 : decode cX4_solve 22 = .ok (.iload_n 2, 1) := by decide +kernel
theorem dX4_solve_23 : decode cX4_solve 23 = .ok (.iload_n 1, 1) := by decide +kernel
theorem dX4_solve_24 : decode cX4_solve 24 = .ok (.iconst (-1), 1) := by decide +kernel
theorem dX4_solve_25 : decode cX4_solve 25 = .ok (.ixor, 1) := by decide +kernel
theorem dX4_solve_26 : decode cX4_solve 26 = .ok (.iand, 1) := by decide +kernel
theorem dX4_solve_27 : decode cX4_solve 27 = .ok (.ifCond .ne 11, 3) := by decide +kernel
theorem dX4_solve_30 : decode cX4_solve 30 = .ok (.aload_n 0, 1) := by decide +kernel
theorem dX4_solve_31 : decode cX4_solve 31 = .ok (.iload_n 2, 1) := by decide +kernel
theorem dX4_solve_32 : decode cX4_solve 32 = .ok (.invokevirtual 46, 3) := by decide +kernel
theorem dX4_solve_35 : decode cX4_solve 35 = .ok (.goto 5, 3) := by decide +kernel
theorem dX4_solve_38 : decode cX4_solve 38 = .ok (.ldc 31, 2) := by decide +kernel
theorem dX4_solve_40 : decode cX4_solve 40 = .ok (.invokestatic 32, 3) := by decide +kernel
theorem dX4_solve_43 : decode cX4_solve 43 = .ok (.iinc 2 1, 3) := by decide +kernel
theorem dX4_solve_46 : decode cX4_solve 46 = .ok (.goto (-35), 3) := by decide +kernel
theorem dX4_solve_49 : decode cX4_solve 49 = .ok (.aload_n 0, 1) := by decide +kernel
theorem dX4_solve_50 : decode cX4_solve 50 = .ok (.aload_n 0, 1) := by decide +kernel
theorem dX4_solve_51 : decode cX4_solve 51 = .ok (.getfield 21, 3) := by decide +kernel
theorem dX4_solve_54 : decode cX4_solve 54 = .ok (.iload_n 1, 1) := by decide +kernel
theorem dX4_solve_55 : decode cX4_solve 55 = .ok (.invokestatic 36, 3) := by decide +kernel
theorem dX4_solve_58 : decode cX4_solve 58 = .ok (.putfield 50, 3) := by decide +kernel
theorem dX4_solve_61 : decode cX4_solve 61 = .ok (.aload_n 0, 1) := by decide +kernel
theorem dX4_solve_62 : decode cX4_solve 62 = .ok (.iload_n 1, 1) := by decide +kernel
theorem dX4_solve_63 : decode cX4_solve 63 = .ok (.invokevirtual 54, 3) := by decide +kernel
theorem dX4_solve_66 : decode cX4_solve 66 = .ok (.return_, 1) := by decide +kernel
theorem dX4_leastPrice_0 : decode cX4_leastPrice 0 = .ok (.ldc 31, 2) := by decide +kernel
theorem dX4_leastPrice_2 : decode cX4_leastPrice 2 = .ok (.istore_n 2, 1) := by decide +kernel
theorem dX4_leastPrice_3 : decode cX4_leastPrice 3 = .ok (.iconst 1, 1) := by decide +kernel
theorem dX4_leastPrice_4 : decode cX4_leastPrice 4 = .ok (.istore_n 3, 1) := by decide +kernel
theorem dX4_leastPrice_5 : decode cX4_leastPrice 5 = .ok (.iload_n 3, 1) := by decide +kernel
theorem dX4_leastPrice_6 : decode cX4_leastPrice 6 = .ok (.bipush 64, 2) := by decide +kernel
theorem dX4_leastPrice_8 : decode cX4_leastPrice 8 = .ok (.if_icmp .ge 54, 3) := by decide +kernel
theorem dX4_leastPrice_11 : decode cX4_leastPrice 11 = .ok (.iload_n 3, 1) := by decide +kernel
theorem dX4_leastPrice_12 : decode cX4_leastPrice 12 = .ok (.iload_n 1, 1) := by decide +kernel
theorem dX4_leastPrice_13 : decode cX4_leastPrice 13 = .ok (.iand, 1) := by decide +kernel
theorem dX4_leastPrice_14 : decode cX4_leastPrice 14 = .ok (.ifCond .eq 42, 3) := by decide +kernel
theorem dX4_leastPrice_17 : decode cX4_leastPrice 17 = .ok (.aload_n 0, 1) := by decide +kernel
theorem dX4_leastPrice_18 : decode cX4_leastPrice 18 = .ok (.getfield 18, 3) := by decide +kernel
theorem dX4_leastPrice_21 : decode cX4_leastPrice 21 = .ok (.iload_n 3, 1) := by decide +kernel
theorem dX4_leastPrice_22 : decode cX4_leastPrice 22 = .ok (.invokestatic 36, 3) := by decide +kernel
theorem dX4_leastPrice_25 : decode cX4_leastPrice 25 = .ok (.ldc 31, 2) := by decide +kernel
theorem dX4_leastPrice_27 : decode cX4_leastPrice 27 = .ok (.if_icmp .ge 29, 3) := by decide +kernel
theorem dX4_leastPrice_30 : decode cX4_leastPrice 30 = .ok (.iload_n 2, 1) := by decide +kernel
theorem dX4_leastPrice_31 : decode cX4_leastPrice 31 = .ok (.aload_n 0, 1) := by decide +kernel
theorem dX4_leastPrice_32 : decode cX4_leastPrice 32 = .ok (.getfield 18, 3) := by decide +kernel
theorem dX4_leastPrice_35 : decode cX4_leastPrice 35 = .ok (.iload_n 3, 1) := by decide +kernel
theorem dX4_leastPrice_36 : decode cX4_leastPrice 36 = .ok (.invokestatic 36, 3) := by decide +kernel
theorem dX4_leastPrice_39 : decode cX4_leastPrice 39 = .ok (.aload_n 0, 1) := by decide +kernel
theorem dX4_leastPrice_40 : decode cX4_leastPrice 40 = .ok (.getfield 21, 3) := by decide +kernel
theorem dX4_leastPrice_43 : decode cX4_leastPrice 43 = .ok (.iload_n 1, 1) := by decide +kernel
theorem dX4_leastPrice_44 : decode cX4_leastPrice 44 = .ok (.iload_n 3, 1) := by decide +kernel
theorem dX4_leastPrice_45 : decode cX4_leastPrice 45 = .ok (.iconst (-1), 1) := by decide +kernel
theorem dX4_leastPrice_46 : decode cX4_leastPrice 46 = .ok (.ixor, 1) := by decide +kernel
theorem dX4_leastPrice_47 : decode cX4_leastPrice 47 = .ok (.iand, 1) := by decide +kernel
theorem dX4_leastPrice_48 : decode cX4_leastPrice 48 = .ok (.invokestatic 36, 3) := by decide +kernel
theorem dX4_leastPrice_51 : decode cX4_leastPrice 51 = .ok (.iadd, 1) := by decide +kernel
theorem dX4_leastPrice_52 : decode cX4_leastPrice 52 = .ok (.invokestatic 40, 3) := by decide +kernel
theorem dX4_leastPrice_55 : decode cX4_leastPrice 55 = .ok (.istore_n 2, 1) := by decide +kernel
theorem dX4_leastPrice_56 : decode cX4_leastPrice 56 = .ok (.iinc 3 1, 3) := by decide +kernel
theorem dX4_leastPrice_59 : decode cX4_leastPrice 59 = .ok (.goto (-54), 3) := by decide +kernel
theorem dX4_leastPrice_62 : decode cX4_leastPrice 62 = .ok (.iload_n 2, 1) := by decide +kernel
theorem dX4_leastPrice_63 : decode cX4_leastPrice 63 = .ok (.ireturn, 1) := by decide +kernel
theorem dX4_choose_0 : decode cX4_choose 0 = .ok (.aload_n 0, 1) := by decide +kernel
theorem dX4_choose_1 : decode cX4_choose 1 = .ok (.iconst 0, 1) := by decide +kernel
theorem dX4_choose_2 : decode cX4_choose 2 = .ok (.putfield 58, 3) := by decide +kernel
theorem dX4_choose_5 : decode cX4_choose 5 = .ok (.iload_n 1, 1) := by decide +kernel
theorem dX4_choose_6 : decode cX4_choose 6 = .ok (.istore_n 2, 1) := by decide +kernel
theorem dX4_choose_7 : decode cX4_choose 7 = .ok (.iconst 0, 1) := by decide +kernel
theorem dX4_choose_8 : decode cX4_choose 8 = .ok (.istore_n 3, 1) := by decide +kernel
theorem dX4_choose_9 : decode cX4_choose 9 = .ok (.iload_n 3, 1) := by decide +kernel
theorem dX4_choose_10 : decode cX4_choose 10 = .ok (.bipush 6, 2) := by decide +kernel
theorem dX4_choose_12 : decode cX4_choose 12 = .ok (.if_icmp .ge 63, 3) := by decide +kernel
theorem dX4_choose_15 : decode cX4_choose 15 = .ok (.iload_n 2, 1) := by decide +kernel
theorem dX4_choose_16 : decode cX4_choose 16 = .ok (.ifCond .eq 59, 3) := by decide +kernel
theorem dX4_choose_19 : decode cX4_choose 19 = .ok (.aload_n 0, 1) := by decide +kernel
theorem dX4_choose_20 : decode cX4_choose 20 = .ok (.getfield 50, 3) := by decide +kernel
theorem dX4_choose_23 : decode cX4_choose 23 = .ok (.ldc 31, 2) := by decide +kernel
theorem dX4_choose_25 : decode cX4_choose 25 = .ok (.if_icmp .ge 50, 3) := by decide +kernel
theorem dX4_choose_28 : decode cX4_choose 28 = .ok (.aload_n 0, 1) := by decide +kernel
theorem dX4_choose_29 : decode cX4_choose 29 = .ok (.iload_n 2, 1) := by decide +kernel
theorem dX4_choose_30 : decode cX4_choose 30 = .ok (.invokevirtual 61, 3) := by decide +kernel
theorem dX4_choose_33 : decode cX4_choose 33 = .ok (.istore 4, 2) := by decide +kernel
theorem dX4_choose_35 : decode cX4_choose 35 = .ok (.aload_n 0, 1) := by decide +kernel
theorem dX4_choose_36 : decode cX4_choose 36 = .ok (.getfield 24, 3) := by decide +kernel
theorem dX4_choose_39 : decode cX4_choose 39 = .ok (.iload_n 3, 1) := by decide +kernel
theorem dX4_choose_40 : decode cX4_choose 40 = .ok (.iload 4, 2) := by decide +kernel
theorem dX4_choose_42 : decode cX4_choose 42 = .ok (.invokestatic 32, 3) := by decide +kernel
theorem dX4_choose_45 : decode cX4_choose 45 = .ok (.aload_n 0, 1) := by decide +kernel
theorem dX4_choose_46 : decode cX4_choose 46 = .ok (.dup, 1) := by decide +kernel
theorem dX4_choose_47 : decode cX4_choose 47 = .ok (.getfield 58, 3) := by decide +kernel
theorem dX4_choose_50 : decode cX4_choose 50 = .ok (.iconst 1, 1) := by decide +kernel
theorem dX4_choose_51 : decode cX4_choose 51 = .ok (.iadd, 1) := by decide +kernel
theorem dX4_choose_52 : decode cX4_choose 52 = .ok (.putfield 58, 3) := by decide +kernel
theorem dX4_choose_55 : decode cX4_choose 55 = .ok (.iload_n 2, 1) := by decide +kernel
theorem dX4_choose_56 : decode cX4_choose 56 = .ok (.aload_n 0, 1) := by decide +kernel
theorem dX4_choose_57 : decode cX4_choose 57 = .ok (.getfield 9, 3) := by decide +kernel
theorem dX4_choose_60 : decode cX4_choose 60 = .ok (.iload 4, 2) := by decide +kernel
theorem dX4_choose_62 : decode cX4_choose 62 = .ok (.invokestatic 36, 3) := by decide +kernel
theorem dX4_choose_65 : decode cX4_choose 65 = .ok (.iconst (-1), 1) := by decide +kernel
theorem dX4_choose_66 : decode cX4_choose 66 = .ok (.ixor, 1) := by decide +kernel
theorem dX4_choose_67 : decode cX4_choose 67 = .ok (.iand, 1) := by decide +kernel
theorem dX4_choose_68 : decode cX4_choose 68 = .ok (.istore_n 2, 1) := by decide +kernel
theorem dX4_choose_69 : decode cX4_choose 69 = .ok (.iinc 3 1, 3) := by decide +kernel
theorem dX4_choose_72 : decode cX4_choose 72 = .ok (.goto (-63), 3) := by decide +kernel
theorem dX4_choose_75 : decode cX4_choose 75 = .ok (.return_, 1) := by decide +kernel
theorem dX4_firstFor_0 : decode cX4_firstFor 0 = .ok (.iconst 0, 1) := by decide +kernel
theorem dX4_firstFor_1 : decode cX4_firstFor 1 = .ok (.istore_n 2, 1) := by decide +kernel
theorem dX4_firstFor_2 : decode cX4_firstFor 2 = .ok (.iload_n 2, 1) := by decide +kernel
theorem dX4_firstFor_3 : decode cX4_firstFor 3 = .ok (.sipush 144, 3) := by decide +kernel
theorem dX4_firstFor_6 : decode cX4_firstFor 6 = .ok (.if_icmp .ge 58, 3) := by decide +kernel
theorem dX4_firstFor_9 : decode cX4_firstFor 9 = .ok (.aload_n 0, 1) := by decide +kernel
theorem dX4_firstFor_10 : decode cX4_firstFor 10 = .ok (.getfield 9, 3) := by decide +kernel
theorem dX4_firstFor_13 : decode cX4_firstFor 13 = .ok (.iload_n 2, 1) := by decide +kernel
theorem dX4_firstFor_14 : decode cX4_firstFor 14 = .ok (.invokestatic 36, 3) := by decide +kernel
theorem dX4_firstFor_17 : decode cX4_firstFor 17 = .ok (.istore_n 3, 1) := by decide +kernel
theorem dX4_firstFor_18 : decode cX4_firstFor 18 = .ok (.iload_n 3, 1) := by decide +kernel
theorem dX4_firstFor_19 : decode cX4_firstFor 19 = .ok (.iload_n 1, 1) := by decide +kernel
theorem dX4_firstFor_20 : decode cX4_firstFor 20 = .ok (.iand, 1) := by decide +kernel
theorem dX4_firstFor_21 : decode cX4_firstFor 21 = .ok (.ifCond .eq 37, 3) := by decide +kernel
theorem dX4_firstFor_24 : decode cX4_firstFor 24 = .ok (.aload_n 0, 1) := by decide +kernel
theorem dX4_firstFor_25 : decode cX4_firstFor 25 = .ok (.getfield 15, 3) := by decide +kernel
theorem dX4_firstFor_28 : decode cX4_firstFor 28 = .ok (.iload_n 2, 1) := by decide +kernel
theorem dX4_firstFor_29 : decode cX4_firstFor 29 = .ok (.invokestatic 36, 3) := by decide +kernel
theorem dX4_firstFor_32 : decode cX4_firstFor 32 = .ok (.aload_n 0, 1) := by decide +kernel
theorem dX4_firstFor_33 : decode cX4_firstFor 33 = .ok (.getfield 21, 3) := by decide +kernel
theorem dX4_firstFor_36 : decode cX4_firstFor 36 = .ok (.iload_n 1, 1) := by decide +kernel
theorem dX4_firstFor_37 : decode cX4_firstFor 37 = .ok (.iload_n 3, 1) := by decide +kernel
theorem dX4_firstFor_38 : decode cX4_firstFor 38 = .ok (.iconst (-1), 1) := by decide +kernel
theorem dX4_firstFor_39 : decode cX4_firstFor 39 = .ok (.ixor, 1) := by decide +kernel
theorem dX4_firstFor_40 : decode cX4_firstFor 40 = .ok (.iand, 1) := by decide +kernel
theorem dX4_firstFor_41 : decode cX4_firstFor 41 = .ok (.invokestatic 36, 3) := by decide +kernel
theorem dX4_firstFor_44 : decode cX4_firstFor 44 = .ok (.iadd, 1) := by decide +kernel
theorem dX4_firstFor_45 : decode cX4_firstFor 45 = .ok (.aload_n 0, 1) := by decide +kernel
theorem dX4_firstFor_46 : decode cX4_firstFor 46 = .ok (.getfield 21, 3) := by decide +kernel
theorem dX4_firstFor_49 : decode cX4_firstFor 49 = .ok (.iload_n 1, 1) := by decide +kernel
theorem dX4_firstFor_50 : decode cX4_firstFor 50 = .ok (.invokestatic 36, 3) := by decide +kernel
theorem dX4_firstFor_53 : decode cX4_firstFor 53 = .ok (.if_icmp .ne 5, 3) := by decide +kernel
theorem dX4_firstFor_56 : decode cX4_firstFor 56 = .ok (.iload_n 2, 1) := by decide +kernel
theorem dX4_firstFor_57 : decode cX4_firstFor 57 = .ok (.ireturn, 1) := by decide +kernel
theorem dX4_firstFor_58 : decode cX4_firstFor 58 = .ok (.iinc 2 1, 3) := by decide +kernel
theorem dX4_firstFor_61 : decode cX4_firstFor 61 = .ok (.goto (-59), 3) := by decide +kernel
theorem dX4_firstFor_64 : decode cX4_firstFor 64 = .ok (.iconst (-1), 1) := by decide +kernel
theorem dX4_firstFor_65 : decode cX4_firstFor 65 = .ok (.ireturn, 1) := by decide +kernel
theorem dX4_tell_0 : decode cX4_tell 0 = .ok (.aload_n 0, 1) := by decide +kernel
theorem dX4_tell_1 : decode cX4_tell 1 = .ok (.getfield 50, 3) := by decide +kernel
theorem dX4_tell_4 : decode cX4_tell 4 = .ok (.ldc 31, 2) := by decide +kernel
theorem dX4_tell_6 : decode cX4_tell 6 = .ok (.if_icmp .lt 5, 3) := by decide +kernel
theorem dX4_tell_9 : decode cX4_tell 9 = .ok (.iconst (-1), 1) := by decide +kernel
theorem dX4_tell_10 : decode cX4_tell 10 = .ok (.ireturn, 1) := by decide +kernel
theorem dX4_tell_11 : decode cX4_tell 11 = .ok (.iload_n 1, 1) := by decide +kernel
theorem dX4_tell_12 : decode cX4_tell 12 = .ok (.ifCond .ne 11, 3) := by decide +kernel
theorem dX4_tell_15 : decode cX4_tell 15 = .ok (.aload_n 0, 1) := by decide +kernel
theorem dX4_tell_16 : decode cX4_tell 16 = .ok (.getfield 50, 3) := by decide +kernel
theorem dX4_tell_19 : decode cX4_tell 19 = .ok (.bipush 16, 2) := by decide +kernel
theorem dX4_tell_21 : decode cX4_tell 21 = .ok (.idiv, 1) := by decide +kernel
theorem dX4_tell_22 : decode cX4_tell 22 = .ok (.ireturn, 1) := by decide +kernel
theorem dX4_tell_23 : decode cX4_tell 23 = .ok (.iload_n 1, 1) := by decide +kernel
theorem dX4_tell_24 : decode cX4_tell 24 = .ok (.iconst 1, 1) := by decide +kernel
theorem dX4_tell_25 : decode cX4_tell 25 = .ok (.if_icmp .ne 8, 3) := by decide +kernel
theorem dX4_tell_28 : decode cX4_tell 28 = .ok (.aload_n 0, 1) := by decide +kernel
theorem dX4_tell_29 : decode cX4_tell 29 = .ok (.getfield 58, 3) := by decide +kernel
theorem dX4_tell_32 : decode cX4_tell 32 = .ok (.ireturn, 1) := by decide +kernel
theorem dX4_tell_33 : decode cX4_tell 33 = .ok (.iload_n 1, 1) := by decide +kernel
theorem dX4_tell_34 : decode cX4_tell 34 = .ok (.bipush 10, 2) := by decide +kernel
theorem dX4_tell_36 : decode cX4_tell 36 = .ok (.isub, 1) := by decide +kernel
theorem dX4_tell_37 : decode cX4_tell 37 = .ok (.istore_n 2, 1) := by decide +kernel
theorem dX4_tell_38 : decode cX4_tell 38 = .ok (.iload_n 2, 1) := by decide +kernel
theorem dX4_tell_39 : decode cX4_tell 39 = .ok (.ifCond .lt 22, 3) := by decide +kernel
theorem dX4_tell_42 : decode cX4_tell 42 = .ok (.iload_n 2, 1) := by decide +kernel
theorem dX4_tell_43 : decode cX4_tell 43 = .ok (.aload_n 0, 1) := by decide +kernel
theorem dX4_tell_44 : decode cX4_tell 44 = .ok (.getfield 58, 3) := by decide +kernel
theorem dX4_tell_47 : decode cX4_tell 47 = .ok (.if_icmp .ge 14, 3) := by decide +kernel
theorem dX4_tell_50 : decode cX4_tell 50 = .ok (.aload_n 0, 1) := by decide +kernel
theorem dX4_tell_51 : decode cX4_tell 51 = .ok (.getfield 24, 3) := by decide +kernel
theorem dX4_tell_54 : decode cX4_tell 54 = .ok (.iload_n 2, 1) := by decide +kernel
theorem dX4_tell_55 : decode cX4_tell 55 = .ok (.invokestatic 36, 3) := by decide +kernel
theorem dX4_tell_58 : decode cX4_tell 58 = .ok (.goto 4, 3) := by decide +kernel
theorem dX4_tell_61 : decode cX4_tell 61 = .ok (.iconst (-1), 1) := by decide +kernel
theorem dX4_tell_62 : decode cX4_tell 62 = .ok (.ireturn, 1) := by decide +kernel
theorem dX5_init_0 : decode cX5_init 0 = .ok (.aload_n 0, 1) := by decide +kernel
theorem dX5_init_1 : decode cX5_init 1 = .ok (.invokespecial 3, 3) := by decide +kernel
theorem dX5_init_4 : decode cX5_init 4 = .ok (.aload_n 0, 1) := by decide +kernel
theorem dX5_init_5 : decode cX5_init 5 = .ok (.bipush 6, 2) := by decide +kernel
theorem dX5_init_7 : decode cX5_init 7 = .ok (.newarray .int, 2) := by decide +kernel
theorem dX5_init_9 : decode cX5_init 9 = .ok (.putfield 9, 3) := by decide +kernel
theorem dX5_init_12 : decode cX5_init 12 = .ok (.aload_n 0, 1) := by decide +kernel
theorem dX5_init_13 : decode cX5_init 13 = .ok (.iconst 4, 1) := by decide +kernel
theorem dX5_init_14 : decode cX5_init 14 = .ok (.newarray .int, 2) := by decide +kernel
theorem dX5_init_16 : decode cX5_init 16 = .ok (.putfield 15, 3) := by decide +kernel
theorem dX5_init_19 : decode cX5_init 19 = .ok (.aload_n 0, 1) := by decide +kernel
theorem dX5_init_20 : decode cX5_init 20 = .ok (.iconst 4, 1) := by decide +kernel
theorem dX5_init_21 : decode cX5_init 21 = .ok (.newarray .int, 2) := by decide +kernel
theorem dX5_init_23 : decode cX5_init 23 = .ok (.putfield 18, 3) := by decide +kernel
theorem dX5_init_26 : decode cX5_init 26 = .ok (.aload_n 0, 1) := by decide +kernel
theorem dX5_init_27 : decode cX5_init 27 = .ok (.iconst 4, 1) := by decide +kernel
theorem dX5_init_28 : decode cX5_init 28 = .ok (.newarray .int, 2) := by decide +kernel
theorem dX5_init_30 : decode cX5_init 30 = .ok (.putfield 21, 3) := by decide +kernel
theorem dX5_init_33 : decode cX5_init 33 = .ok (.return_, 1) := by decide +kernel
theorem dX5_read_0 : decode cX5_read 0 = .ok (.aload_n 0, 1) := by decide +kernel
theorem dX5_read_1 : decode cX5_read 1 = .ok (.iconst 0, 1) := by decide +kernel
theorem dX5_read_2 : decode cX5_read 2 = .ok (.putfield 24, 3) := by decide +kernel
theorem dX5_read_5 : decode cX5_read 5 = .ok (.aload_n 0, 1) := by decide +kernel
theorem dX5_read_6 : decode cX5_read 6 = .ok (.iconst 0, 1) := by decide +kernel
theorem dX5_read_7 : decode cX5_read 7 = .ok (.putfield 28, 3) := by decide +kernel
theorem dX5_read_10 : decode cX5_read 10 = .ok (.aload_n 0, 1) := by decide +kernel
theorem dX5_read_11 : decode cX5_read 11 = .ok (.iconst 0, 1) := by decide +kernel
theorem dX5_read_12 : decode cX5_read 12 = .ok (.putfield 31, 3) := by decide +kernel
theorem dX5_read_15 : decode cX5_read 15 = .ok (.aload_n 1, 1) := by decide +kernel
theorem dX5_read_16 : decode cX5_read 16 = .ok (.ifnonnull 7, 3) := by decide +kernel
theorem dX5_read_19 : decode cX5_read 19 = .ok (.iconst 0, 1) := by decide +kernel
theorem dX5_read_20 : decode cX5_read 20 = .ok (.goto 7, 3) := by decide +kernel
theorem dX5_read_23 : decode cX5_read 23 = .ok (.aload_n 1, 1) := by decide +kernel
theorem dX5_read_24 : decode cX5_read 24 = .ok (.getfield 34, 3) := by decide +kernel
theorem dX5_read_27 : decode cX5_read 27 = .ok (.istore_n 2, 1) := by decide +kernel
theorem dX5_read_28 : decode cX5_read 28 = .ok (.iconst 0, 1) := by decide +kernel
theorem dX5_read_29 : decode cX5_read 29 = .ok (.istore_n 3, 1) := by decide +kernel
theorem dX5_read_30 : decode cX5_read 30 = .ok (.iload_n 3, 1) := by decide +kernel
theorem dX5_read_31 : decode cX5_read 31 = .ok (.iload_n 2, 1) := by decide +kernel
theorem dX5_read_32 : decode cX5_read 32 = .ok (.if_icmp .ge 26, 3) := by decide +kernel
theorem dX5_read_35 : decode cX5_read 35 = .ok (.aload_n 0, 1) := by decide +kernel
theorem dX5_read_36 : decode cX5_read 36 = .ok (.aload_n 1, 1) := by decide +kernel
theorem dX5_read_37 : decode cX5_read 37 = .ok (.getfield 39, 3) := by decide +kernel
theorem dX5_read_40 : decode cX5_read 40 = .ok (.iload_n 3, 1) := by decide +kernel
theorem dX5_read_41 : decode cX5_read 41 = .ok (.invokestatic 42, 3) := by decide +kernel
theorem dX5_read_44 : decode cX5_read 44 = .ok (.invokevirtual 46, 3) := by decide +kernel
theorem dX5_read_47 : decode cX5_read 47 = .ok (.ifCond .ne 5, 3) := by decide +kernel
theorem dX5_read_50 : decode cX5_read 50 = .ok (.iload_n 3, 1) := by decide +kernel
theorem dX5_read_51 : decode cX5_read 51 = .ok (.ireturn, 1) := by decide +kernel
theorem dX5_read_52 : decode cX5_read 52 = .ok (.iinc 3 1, 3) := by decide +kernel
theorem dX5_read_55 : decode cX5_read 55 = .ok (.goto (-25), 3) := by decide +kernel
theorem dX5_read_58 : decode cX5_read 58 = .ok (.iload_n 2, 1) := by decide +kernel
theorem dX5_read_59 : decode cX5_read 59 = .ok (.ireturn, 1) := by decide +kernel
theorem dX5_isWhole_0 : decode cX5_isWhole 0 = .ok (.aload_n 0, 1) := by decide +kernel
theorem dX5_isWhole_1 : decode cX5_isWhole 1 = .ok (.getfield 31, 3) := by decide +kernel
theorem dX5_isWhole_4 : decode cX5_isWhole 4 = .ok (.bipush 6, 2) := by decide +kernel
theorem dX5_isWhole_6 : decode cX5_isWhole 6 = .ok (.if_icmp .ne 7, 3) := by decide +kernel
theorem dX5_isWhole_9 : decode cX5_isWhole 9 = .ok (.iconst 1, 1) := by decide +kernel
theorem dX5_isWhole_10 : decode cX5_isWhole 10 = .ok (.goto 4, 3) := by decide +kernel
theorem dX5_isWhole_13 : decode cX5_isWhole 13 = .ok (.iconst 0, 1) := by decide +kernel
theorem dX5_isWhole_14 : decode cX5_isWhole 14 = .ok (.ireturn, 1) := by decide +kernel
theorem dX5_takes_0 : decode cX5_takes 0 = .ok (.aload_n 0, 1) := by decide +kernel
theorem dX5_takes_1 : decode cX5_takes 1 = .ok (.getfield 31, 3) := by decide +kernel
theorem dX5_takes_4 : decode cX5_takes 4 = .ok (.tableswitch 88 0 5 #[40, 49, 58, 64, 70, 79], 40) := by decide +kernel
theorem dX5_takes_44 : decode cX5_takes 44 = .ok (.aload_n 0, 1) := by decide +kernel
theorem dX5_takes_45 : decode cX5_takes 45 = .ok (.iload_n 1, 1) := by decide +kernel
theorem dX5_takes_46 : decode cX5_takes 46 = .ok (.bipush 48, 2) := by decide +kernel
theorem dX5_takes_48 : decode cX5_takes 48 = .ok (.isub, 1) := by decide +kernel
theorem dX5_takes_49 : decode cX5_takes 49 = .ok (.invokevirtual 50, 3) := by decide +kernel
theorem dX5_takes_52 : decode cX5_takes 52 = .ok (.ireturn, 1) := by decide +kernel
theorem dX5_takes_53 : decode cX5_takes 53 = .ok (.aload_n 0, 1) := by decide +kernel
theorem dX5_takes_54 : decode cX5_takes 54 = .ok (.iload_n 1, 1) := by decide +kernel
theorem dX5_takes_55 : decode cX5_takes 55 = .ok (.bipush 48, 2) := by decide +kernel
theorem dX5_takes_57 : decode cX5_takes 57 = .ok (.isub, 1) := by decide +kernel
theorem dX5_takes_58 : decode cX5_takes 58 = .ok (.invokevirtual 53, 3) := by decide +kernel
theorem dX5_takes_61 : decode cX5_takes 61 = .ok (.ireturn, 1) := by decide +kernel
theorem dX5_takes_62 : decode cX5_takes 62 = .ok (.aload_n 0, 1) := by decide +kernel
theorem dX5_takes_63 : decode cX5_takes 63 = .ok (.iload_n 1, 1) := by decide +kernel
theorem dX5_takes_64 : decode cX5_takes 64 = .ok (.invokevirtual 56, 3) := by decide +kernel
theorem dX5_takes_67 : decode cX5_takes 67 = .ok (.ireturn, 1) := by decide +kernel
theorem dX5_takes_68 : decode cX5_takes 68 = .ok (.aload_n 0, 1) := by decide +kernel
theorem dX5_takes_69 : decode cX5_takes 69 = .ok (.iload_n 1, 1) := by decide +kernel
theorem dX5_takes_70 : decode cX5_takes 70 = .ok (.invokevirtual 59, 3) := by decide +kernel
theorem dX5_takes_73 : decode cX5_takes 73 = .ok (.ireturn, 1) := by decide +kernel
theorem dX5_takes_74 : decode cX5_takes 74 = .ok (.aload_n 0, 1) := by decide +kernel
theorem dX5_takes_75 : decode cX5_takes 75 = .ok (.iload_n 1, 1) := by decide +kernel
theorem dX5_takes_76 : decode cX5_takes 76 = .ok (.bipush 48, 2) := by decide +kernel
theorem dX5_takes_78 : decode cX5_takes 78 = .ok (.isub, 1) := by decide +kernel
theorem dX5_takes_79 : decode cX5_takes 79 = .ok (.invokevirtual 62, 3) := by decide +kernel
theorem dX5_takes_82 : decode cX5_takes 82 = .ok (.ireturn, 1) := by decide +kernel
theorem dX5_takes_83 : decode cX5_takes 83 = .ok (.aload_n 0, 1) := by decide +kernel
theorem dX5_takes_84 : decode cX5_takes 84 = .ok (.iload_n 1, 1) := by decide +kernel
theorem dX5_takes_85 : decode cX5_takes 85 = .ok (.bipush 48, 2) := by decide +kernel
theorem dX5_takes_87 : decode cX5_takes 87 = .ok (.isub, 1) := by decide +kernel
theorem dX5_takes_88 : decode cX5_takes 88 = .ok (.invokevirtual 65, 3) := by decide +kernel
theorem dX5_takes_91 : decode cX5_takes 91 = .ok (.ireturn, 1) := by decide +kernel
theorem dX5_takes_92 : decode cX5_takes 92 = .ok (.aload_n 0, 1) := by decide +kernel
theorem dX5_takes_93 : decode cX5_takes 93 = .ok (.iload_n 1, 1) := by decide +kernel
theorem dX5_takes_94 : decode cX5_takes 94 = .ok (.invokevirtual 68, 3) := by decide +kernel
theorem dX5_takes_97 : decode cX5_takes 97 = .ok (.ireturn, 1) := by decide +kernel
theorem dX5_takesRow_0 : decode cX5_takesRow 0 = .ok (.aload_n 0, 1) := by decide +kernel
theorem dX5_takesRow_1 : decode cX5_takesRow 1 = .ok (.iload_n 1, 1) := by decide +kernel
theorem dX5_takesRow_2 : decode cX5_takesRow 2 = .ok (.putfield 71, 3) := by decide +kernel
theorem dX5_takesRow_5 : decode cX5_takesRow 5 = .ok (.aload_n 0, 1) := by decide +kernel
theorem dX5_takesRow_6 : decode cX5_takesRow 6 = .ok (.iconst 1, 1) := by decide +kernel
theorem dX5_takesRow_7 : decode cX5_takesRow 7 = .ok (.putfield 31, 3) := by decide +kernel
theorem dX5_takesRow_10 : decode cX5_takesRow 10 = .ok (.iload_n 1, 1) := by decide +kernel
theorem dX5_takesRow_11 : decode cX5_takesRow 11 = .ok (.ifCond .lt 13, 3) := by decide +kernel
theorem dX5_takesRow_14 : decode cX5_takesRow 14 = .ok (.iload_n 1, 1) := by decide +kernel
theorem dX5_takesRow_15 : decode cX5_takesRow 15 = .ok (.bipush 6, 2) := by decide +kernel
theorem dX5_takesRow_17 : decode cX5_takesRow 17 = .ok (.if_icmp .ge 7, 3) := by decide +kernel
theorem dX5_takesRow_20 : decode cX5_takesRow 20 = .ok (.iconst 1, 1) := by decide +kernel
theorem dX5_takesRow_21 : decode cX5_takesRow 21 = .ok (.goto 4, 3) := by decide +kernel
theorem dX5_takesRow_24 : decode cX5_takesRow 24 = .ok (.iconst 0, 1) := by decide +kernel
theorem dX5_takesRow_25 : decode cX5_takesRow 25 = .ok (.ireturn, 1) := by decide +kernel
theorem dX5_takesColumn_0 : decode cX5_takesColumn 0 = .ok (.aload_n 0, 1) := by decide +kernel
theorem dX5_takesColumn_1 : decode cX5_takesColumn 1 = .ok (.getfield 71, 3) := by decide +kernel
theorem dX5_takesColumn_4 : decode cX5_takesColumn 4 = .ok (.iload_n 1, 1) := by decide +kernel
theorem dX5_takesColumn_5 : decode cX5_takesColumn 5 = .ok (.invokestatic 74, 3) := by decide +kernel
theorem dX5_takesColumn_8 : decode cX5_takesColumn 8 = .ok (.istore_n 2, 1) := by decide +kernel
theorem dX5_takesColumn_9 : decode cX5_takesColumn 9 = .ok (.iconst 0, 1) := by decide +kernel
theorem dX5_takesColumn_10 : decode cX5_takesColumn 10 = .ok (.istore_n 3, 1) := by decide +kernel
theorem dX5_takesColumn_11 : decode cX5_takesColumn 11 = .ok (.iload_n 3, 1) := by decide +kernel
theorem dX5_takesColumn_12 : decode cX5_takesColumn 12 = .ok (.aload_n 0, 1) := by decide +kernel
theorem dX5_takesColumn_13 : decode cX5_takesColumn 13 = .ok (.getfield 24, 3) := by decide +kernel
theorem dX5_takesColumn_16 : decode cX5_takesColumn 16 = .ok (.if_icmp .ge 23, 3) := by decide +kernel
theorem dX5_takesColumn_19 : decode cX5_takesColumn 19 = .ok (.aload_n 0, 1) := by decide +kernel
theorem dX5_takesColumn_20 : decode cX5_takesColumn 20 = .ok (.getfield 9, 3) := by decide +kernel
theorem dX5_takesColumn_23 : decode cX5_takesColumn 23 = .ok (.iload_n 3, 1) := by decide +kernel
theorem dX5_takesColumn_24 : decode cX5_takesColumn 24 = .ok (.invokestatic 42, 3) := by decide +kernel
theorem dX5_takesColumn_27 : decode cX5_takesColumn 27 = .ok (.iload_n 2, 1) := by decide +kernel
theorem dX5_takesColumn_28 : decode cX5_takesColumn 28 = .ok (.if_icmp .ne 5, 3) := by decide +kernel
theorem dX5_takesColumn_31 : decode cX5_takesColumn 31 = .ok (.iconst 0, 1) := by decide +kernel
theorem dX5_takesColumn_32 : decode cX5_takesColumn 32 = .ok (.ireturn, 1) := by decide +kernel
theorem dX5_takesColumn_33 : decode cX5_takesColumn 33 = .ok (.iinc 3 1, 3) := by decide +kernel
theorem dX5_takesColumn_36 : decode cX5_takesColumn 36 = .ok (.goto (-25), 3) := by decide +kernel
theorem dX5_takesColumn_39 : decode cX5_takesColumn 39 = .ok (.aload_n 0, 1) := by decide +kernel
theorem dX5_takesColumn_40 : decode cX5_takesColumn 40 = .ok (.getfield 9, 3) := by decide +kernel
theorem dX5_takesColumn_43 : decode cX5_takesColumn 43 = .ok (.aload_n 0, 1) := by decide +kernel
theorem dX5_takesColumn_44 : decode cX5_takesColumn 44 = .ok (.getfield 24, 3) := by decide +kernel
theorem dX5_takesColumn_47 : decode cX5_takesColumn 47 = .ok (.iload_n 2, 1) := by decide +kernel
theorem dX5_takesColumn_48 : decode cX5_takesColumn 48 = .ok (.invokestatic 78, 3) := by decide +kernel
theorem dX5_takesColumn_51 : decode cX5_takesColumn 51 = .ok (.aload_n 0, 1) := by decide +kernel
theorem dX5_takesColumn_52 : decode cX5_takesColumn 52 = .ok (.dup, 1) := by decide +kernel
theorem dX5_takesColumn_53 : decode cX5_takesColumn 53 = .ok (.getfield 24, 3) := by decide +kernel
theorem dX5_takesColumn_56 : decode cX5_takesColumn 56 = .ok (.iconst 1, 1) := by decide +kernel
theorem dX5_takesColumn_57 : decode cX5_takesColumn 57 = .ok (.iadd, 1) := by decide +kernel
theorem dX5_takesColumn_58 : decode cX5_takesColumn 58 = .ok (.putfield 24, 3) := by decide +kernel
theorem dX5_takesColumn_61 : decode cX5_takesColumn 61 = .ok (.aload_n 0, 1) := by decide +kernel
theorem dX5_takesColumn_62 : decode cX5_takesColumn 62 = .ok (.iconst 2, 1) := by decide +kernel
theorem dX5_takesColumn_63 : decode cX5_takesColumn 63 = .ok (.putfield 31, 3) := by decide +kernel
theorem dX5_takesColumn_66 : decode cX5_takesColumn 66 = .ok (.iload_n 2, 1) := by decide +kernel
theorem dX5_takesColumn_67 : decode cX5_takesColumn 67 = .ok (.iconst (-1), 1) := by decide +kernel
theorem dX5_takesColumn_68 : decode cX5_takesColumn 68 = .ok (.if_icmp .eq 7, 3) := by decide +kernel
theorem dX5_takesColumn_71 : decode cX5_takesColumn 71 = .ok (.iconst 1, 1) := by decide +kernel
theorem dX5_takesColumn_72 : decode cX5_takesColumn 72 = .ok (.goto 4, 3) := by decide +kernel
theorem dX5_takesColumn_75 : decode cX5_takesColumn 75 = .ok (.iconst 0, 1) := by decide +kernel
theorem dX5_takesColumn_76 : decode cX5_takesColumn 76 = .ok (.ireturn, 1) := by decide +kernel
theorem dX5_takesAfterSleeper_0 : decode cX5_takesAfterSleeper 0 = .ok (.aload_n 0, 1) := by decide +kernel
theorem dX5_takesAfterSleeper_1 : decode cX5_takesAfterSleeper 1 = .ok (.iload_n 1, 1) := by decide +kernel
theorem dX5_takesAfterSleeper_2 : decode cX5_takesAfterSleeper 2 = .ok (.bipush 59, 2) := by decide +kernel
theorem dX5_takesAfterSleeper_4 : decode cX5_takesAfterSleeper 4 = .ok (.if_icmp .ne 7, 3) := by decide +kernel
theorem dX5_takesAfterSleeper_7 : decode cX5_takesAfterSleeper 7 = .ok (.iconst 3, 1) := by decide +kernel
theorem dX5_takesAfterSleeper_8 : decode cX5_takesAfterSleeper 8 = .ok (.goto 4, 3) := by decide +kernel
theorem dX5_takesAfterSleeper_11 : decode cX5_takesAfterSleeper 11 = .ok (.iconst 0, 1) := by decide +kernel
theorem dX5_takesAfterSleeper_12 : decode cX5_takesAfterSleeper 12 = .ok (.putfield 31, 3) := by decide +kernel
theorem dX5_takesAfterSleeper_15 : decode cX5_takesAfterSleeper 15 = .ok (.iload_n 1, 1) := by decide +kernel
theorem dX5_takesAfterSleeper_16 : decode cX5_takesAfterSleeper 16 = .ok (.bipush 59, 2) := by decide +kernel
theorem dX5_takesAfterSleeper_18 : decode cX5_takesAfterSleeper 18 = .ok (.if_icmp .eq 18, 3) := by decide +kernel
theorem dX5_takesAfterSleeper_21 : decode cX5_takesAfterSleeper 21 = .ok (.iload_n 1, 1) := by decide +kernel
theorem dX5_takesAfterSleeper_22 : decode cX5_takesAfterSleeper 22 = .ok (.bipush 44, 2) := by decide +kernel
theorem dX5_takesAfterSleeper_24 : decode cX5_takesAfterSleeper 24 = .ok (.if_icmp .ne 16, 3) := by decide +kernel
theorem dX5_takesAfterSleeper_27 : decode cX5_takesAfterSleeper 27 = .ok (.aload_n 0, 1) := by decide +kernel
theorem dX5_takesAfterSleeper_28 : decode cX5_takesAfterSleeper 28 = .ok (.getfield 24, 3) := by decide +kernel
theorem dX5_takesAfterSleeper_31 : decode cX5_takesAfterSleeper 31 = .ok (.bipush 6, 2) := by decide +kernel
theorem dX5_takesAfterSleeper_33 : decode cX5_takesAfterSleeper 33 = .ok (.if_icmp .ge 7, 3) := by decide +kernel
theorem dX5_takesAfterSleeper_36 : decode cX5_takesAfterSleeper 36 = .ok (.iconst 1, 1) := by decide +kernel
theorem dX5_takesAfterSleeper_37 : decode cX5_takesAfterSleeper 37 = .ok (.goto 4, 3) := by decide +kernel
theorem dX5_takesAfterSleeper_40 : decode cX5_takesAfterSleeper 40 = .ok (.iconst 0, 1) := by decide +kernel
theorem dX5_takesAfterSleeper_41 : decode cX5_takesAfterSleeper 41 = .ok (.ireturn, 1) := by decide +kernel
theorem dX5_takesKind_0 : decode cX5_takesKind 0 = .ok (.ldc 82, 2) := by decide +kernel
theorem dX5_takesKind_2 : decode cX5_takesKind 2 = .ok (.iload_n 1, 1) := by decide +kernel
theorem dX5_takesKind_3 : decode cX5_takesKind 3 = .ok (.i2c, 1) := by decide +kernel
theorem dX5_takesKind_4 : decode cX5_takesKind 4 = .ok (.invokevirtual 84, 3) := by decide +kernel
theorem dX5_takesKind_7 : decode cX5_takesKind 7 = .ok (.istore_n 2, 1) := by decide +kernel
theorem dX5_takesKind_8 : decode cX5_takesKind 8 = .ok (.aload_n 0, 1) := by decide +kernel
theorem dX5_takesKind_9 : decode cX5_takesKind 9 = .ok (.getfield 15, 3) := by decide +kernel
theorem dX5_takesKind_12 : decode cX5_takesKind 12 = .ok (.aload_n 0, 1) := by decide +kernel
theorem dX5_takesKind_13 : decode cX5_takesKind 13 = .ok (.getfield 28, 3) := by decide +kernel
theorem dX5_takesKind_16 : decode cX5_takesKind 16 = .ok (.iload_n 2, 1) := by decide +kernel
theorem dX5_takesKind_17 : decode cX5_takesKind 17 = .ok (.invokestatic 78, 3) := by decide +kernel
theorem dX5_takesKind_20 : decode cX5_takesKind 20 = .ok (.aload_n 0, 1) := by decide +kernel
theorem dX5_takesKind_21 : decode cX5_takesKind 21 = .ok (.iconst 4, 1) := by decide +kernel
theorem dX5_takesKind_22 : decode cX5_takesKind 22 = .ok (.putfield 31, 3) := by decide +kernel
theorem dX5_takesKind_25 : decode cX5_takesKind 25 = .ok (.iload_n 2, 1) := by decide +kernel
theorem dX5_takesKind_26 : decode cX5_takesKind 26 = .ok (.ifCond .lt 7, 3) := by decide +kernel
theorem dX5_takesKind_29 : decode cX5_takesKind 29 = .ok (.iconst 1, 1) := by decide +kernel
theorem dX5_takesKind_30 : decode cX5_takesKind 30 = .ok (.goto 4, 3) := by decide +kernel
theorem dX5_takesKind_33 : decode cX5_takesKind 33 = .ok (.iconst 0, 1) := by decide +kernel
theorem dX5_takesKind_34 : decode cX5_takesKind 34 = .ok (.ireturn, 1) := by decide +kernel
theorem dX5_takesSouth_0 : decode cX5_takesSouth 0 = .ok (.aload_n 0, 1) := by decide +kernel
theorem dX5_takesSouth_1 : decode cX5_takesSouth 1 = .ok (.getfield 18, 3) := by decide +kernel
theorem dX5_takesSouth_4 : decode cX5_takesSouth 4 = .ok (.aload_n 0, 1) := by decide +kernel
theorem dX5_takesSouth_5 : decode cX5_takesSouth 5 = .ok (.getfield 28, 3) := by decide +kernel
theorem dX5_takesSouth_8 : decode cX5_takesSouth 8 = .ok (.iload_n 1, 1) := by decide +kernel
theorem dX5_takesSouth_9 : decode cX5_takesSouth 9 = .ok (.invokestatic 78, 3) := by decide +kernel
theorem dX5_takesSouth_12 : decode cX5_takesSouth 12 = .ok (.aload_n 0, 1) := by decide +kernel
theorem dX5_takesSouth_13 : decode cX5_takesSouth 13 = .ok (.iconst 5, 1) := by decide +kernel
theorem dX5_takesSouth_14 : decode cX5_takesSouth 14 = .ok (.putfield 31, 3) := by decide +kernel
theorem dX5_takesSouth_17 : decode cX5_takesSouth 17 = .ok (.iload_n 1, 1) := by decide +kernel
theorem dX5_takesSouth_18 : decode cX5_takesSouth 18 = .ok (.invokestatic 90, 3) := by decide +kernel
theorem dX5_takesSouth_21 : decode cX5_takesSouth 21 = .ok (.ireturn, 1) := by decide +kernel
theorem dX5_takesEast_0 : decode cX5_takesEast 0 = .ok (.aload_n 0, 1) := by decide +kernel
theorem dX5_takesEast_1 : decode cX5_takesEast 1 = .ok (.getfield 21, 3) := by decide +kernel
theorem dX5_takesEast_4 : decode cX5_takesEast 4 = .ok (.aload_n 0, 1) := by decide +kernel
theorem dX5_takesEast_5 : decode cX5_takesEast 5 = .ok (.getfield 28, 3) := by decide +kernel
theorem dX5_takesEast_8 : decode cX5_takesEast 8 = .ok (.iload_n 1, 1) := by decide +kernel
theorem dX5_takesEast_9 : decode cX5_takesEast 9 = .ok (.invokestatic 78, 3) := by decide +kernel
theorem dX5_takesEast_12 : decode cX5_takesEast 12 = .ok (.aload_n 0, 1) := by decide +kernel
theorem dX5_takesEast_13 : decode cX5_takesEast 13 = .ok (.dup, 1) := by decide +kernel
theorem dX5_takesEast_14 : decode cX5_takesEast 14 = .ok (.getfield 28, 3) := by decide +kernel
theorem dX5_takesEast_17 : decode cX5_takesEast 17 = .ok (.iconst 1, 1) := by decide +kernel
theorem dX5_takesEast_18 : decode cX5_takesEast 18 = .ok (.iadd, 1) := by decide +kernel
theorem dX5_takesEast_19 : decode cX5_takesEast 19 = .ok (.putfield 28, 3) := by decide +kernel
theorem dX5_takesEast_22 : decode cX5_takesEast 22 = .ok (.aload_n 0, 1) := by decide +kernel
theorem dX5_takesEast_23 : decode cX5_takesEast 23 = .ok (.bipush 6, 2) := by decide +kernel
theorem dX5_takesEast_25 : decode cX5_takesEast 25 = .ok (.putfield 31, 3) := by decide +kernel
theorem dX5_takesEast_28 : decode cX5_takesEast 28 = .ok (.iload_n 1, 1) := by decide +kernel
theorem dX5_takesEast_29 : decode cX5_takesEast 29 = .ok (.invokestatic 90, 3) := by decide +kernel
theorem dX5_takesEast_32 : decode cX5_takesEast 32 = .ok (.ireturn, 1) := by decide +kernel
theorem dX5_takesAfterTosser_0 : decode cX5_takesAfterTosser 0 = .ok (.aload_n 0, 1) := by decide +kernel
theorem dX5_takesAfterTosser_1 : decode cX5_takesAfterTosser 1 = .ok (.iconst 3, 1) := by decide +kernel
theorem dX5_takesAfterTosser_2 : decode cX5_takesAfterTosser 2 = .ok (.putfield 31, 3) := by decide +kernel
theorem dX5_takesAfterTosser_5 : decode cX5_takesAfterTosser 5 = .ok (.iload_n 1, 1) := by decide +kernel
theorem dX5_takesAfterTosser_6 : decode cX5_takesAfterTosser 6 = .ok (.bipush 44, 2) := by decide +kernel
theorem dX5_takesAfterTosser_8 : decode cX5_takesAfterTosser 8 = .ok (.if_icmp .ne 15, 3) := by decide +kernel
theorem dX5_takesAfterTosser_11 : decode cX5_takesAfterTosser 11 = .ok (.aload_n 0, 1) := by decide +kernel
theorem dX5_takesAfterTosser_12 : decode cX5_takesAfterTosser 12 = .ok (.getfield 28, 3) := by decide +kernel
theorem dX5_takesAfterTosser_15 : decode cX5_takesAfterTosser 15 = .ok (.iconst 4, 1) := by decide +kernel
theorem dX5_takesAfterTosser_16 : decode cX5_takesAfterTosser 16 = .ok (.if_icmp .ge 7, 3) := by decide +kernel
theorem dX5_takesAfterTosser_19 : decode cX5_takesAfterTosser 19 = .ok (.iconst 1, 1) := by decide +kernel
theorem dX5_takesAfterTosser_20 : decode cX5_takesAfterTosser 20 = .ok (.goto 4, 3) := by decide +kernel
theorem dX5_takesAfterTosser_23 : decode cX5_takesAfterTosser 23 = .ok (.iconst 0, 1) := by decide +kernel
theorem dX5_takesAfterTosser_24 : decode cX5_takesAfterTosser 24 = .ok (.ireturn, 1) := by decide +kernel
theorem dX6_init_0 : decode cX6_init 0 = .ok (.aload_n 0, 1) := by decide +kernel
theorem dX6_init_1 : decode cX6_init 1 = .ok (.invokespecial 3, 3) := by decide +kernel
theorem dX6_init_4 : decode cX6_init 4 = .ok (.aload_n 0, 1) := by decide +kernel
theorem dX6_init_5 : decode cX6_init 5 = .ok (.bipush 6, 2) := by decide +kernel
theorem dX6_init_7 : decode cX6_init 7 = .ok (.newarray .int, 2) := by decide +kernel
theorem dX6_init_9 : decode cX6_init 9 = .ok (.putfield 9, 3) := by decide +kernel
theorem dX6_init_12 : decode cX6_init 12 = .ok (.aload_n 0, 1) := by decide +kernel
theorem dX6_init_13 : decode cX6_init 13 = .ok (.bipush 6, 2) := by decide +kernel
theorem dX6_init_15 : decode cX6_init 15 = .ok (.newarray .int, 2) := by decide +kernel
theorem dX6_init_17 : decode cX6_init 17 = .ok (.putfield 15, 3) := by decide +kernel
theorem dX6_init_20 : decode cX6_init 20 = .ok (.aload_n 0, 1) := by decide +kernel
theorem dX6_init_21 : decode cX6_init 21 = .ok (.bipush 6, 2) := by decide +kernel
theorem dX6_init_23 : decode cX6_init 23 = .ok (.newarray .int, 2) := by decide +kernel
theorem dX6_init_25 : decode cX6_init 25 = .ok (.putfield 18, 3) := by decide +kernel
theorem dX6_init_28 : decode cX6_init 28 = .ok (.return_, 1) := by decide +kernel
theorem dX6_add_0 : decode cX6_add 0 = .ok (.aload_n 0, 1) := by decide +kernel
theorem dX6_add_1 : decode cX6_add 1 = .ok (.getfield 9, 3) := by decide +kernel
theorem dX6_add_4 : decode cX6_add 4 = .ok (.aload_n 0, 1) := by decide +kernel
theorem dX6_add_5 : decode cX6_add 5 = .ok (.getfield 21, 3) := by decide +kernel
theorem dX6_add_8 : decode cX6_add 8 = .ok (.iload_n 1, 1) := by decide +kernel
theorem dX6_add_9 : decode cX6_add 9 = .ok (.invokestatic 25, 3) := by decide +kernel
theorem dX6_add_12 : decode cX6_add 12 = .ok (.aload_n 0, 1) := by decide +kernel
theorem dX6_add_13 : decode cX6_add 13 = .ok (.getfield 15, 3) := by decide +kernel
theorem dX6_add_16 : decode cX6_add 16 = .ok (.aload_n 0, 1) := by decide +kernel
theorem dX6_add_17 : decode cX6_add 17 = .ok (.getfield 21, 3) := by decide +kernel
theorem dX6_add_20 : decode cX6_add 20 = .ok (.iload_n 2, 1) := by decide +kernel
theorem dX6_add_21 : decode cX6_add 21 = .ok (.invokestatic 25, 3) := by decide +kernel
theorem dX6_add_24 : decode cX6_add 24 = .ok (.aload_n 0, 1) := by decide +kernel
theorem dX6_add_25 : decode cX6_add 25 = .ok (.getfield 18, 3) := by decide +kernel
theorem dX6_add_28 : decode cX6_add 28 = .ok (.aload_n 0, 1) := by decide +kernel
theorem dX6_add_29 : decode cX6_add 29 = .ok (.getfield 21, 3) := by decide +kernel
theorem dX6_add_32 : decode cX6_add 32 = .ok (.iload_n 3, 1) := by decide +kernel
theorem dX6_add_33 : decode cX6_add 33 = .ok (.invokestatic 25, 3) := by decide +kernel
theorem dX6_add_36 : decode cX6_add 36 = .ok (.aload_n 0, 1) := by decide +kernel
theorem dX6_add_37 : decode cX6_add 37 = .ok (.dup, 1) := by decide +kernel
theorem dX6_add_38 : decode cX6_add 38 = .ok (.getfield 21, 3) := by decide +kernel
theorem dX6_add_41 : decode cX6_add 41 = .ok (.iconst 1, 1) := by decide +kernel
theorem dX6_add_42 : decode cX6_add 42 = .ok (.iadd, 1) := by decide +kernel
theorem dX6_add_43 : decode cX6_add 43 = .ok (.putfield 21, 3) := by decide +kernel
theorem dX6_add_46 : decode cX6_add 46 = .ok (.return_, 1) := by decide +kernel
theorem dX6_turnsOf_0 : decode cX6_turnsOf 0 = .ok (.iconst 0, 1) := by decide +kernel
theorem dX6_turnsOf_1 : decode cX6_turnsOf 1 = .ok (.istore_n 2, 1) := by decide +kernel
theorem dX6_turnsOf_2 : decode cX6_turnsOf 2 = .ok (.iconst 0, 1) := by decide +kernel
theorem dX6_turnsOf_3 : decode cX6_turnsOf 3 = .ok (.istore_n 3, 1) := by decide +kernel
theorem dX6_turnsOf_4 : decode cX6_turnsOf 4 = .ok (.iload_n 3, 1) := by decide +kernel
theorem dX6_turnsOf_5 : decode cX6_turnsOf 5 = .ok (.iconst 5, 1) := by decide +kernel
theorem dX6_turnsOf_6 : decode cX6_turnsOf 6 = .ok (.if_icmp .ge 24, 3) := by decide +kernel
theorem dX6_turnsOf_9 : decode cX6_turnsOf 9 = .ok (.aload_n 0, 1) := by decide +kernel
theorem dX6_turnsOf_10 : decode cX6_turnsOf 10 = .ok (.iload_n 1, 1) := by decide +kernel
theorem dX6_turnsOf_11 : decode cX6_turnsOf 11 = .ok (.iload_n 3, 1) := by decide +kernel
theorem dX6_turnsOf_12 : decode cX6_turnsOf 12 = .ok (.invokevirtual 29, 3) := by decide +kernel
theorem dX6_turnsOf_15 : decode cX6_turnsOf 15 = .ok (.ifCond .eq 9, 3) := by decide +kernel
theorem dX6_turnsOf_18 : decode cX6_turnsOf 18 = .ok (.iload_n 2, 1) := by decide +kernel
theorem dX6_turnsOf_19 : decode cX6_turnsOf 19 = .ok (.iconst 1, 1) := by decide +kernel
theorem dX6_turnsOf_20 : decode cX6_turnsOf 20 = .ok (.iload_n 3, 1) := by decide +kernel
theorem dX6_turnsOf_21 : decode cX6_turnsOf 21 = .ok (.ishl, 1) := by decide +kernel
theorem dX6_turnsOf_22 : decode cX6_turnsOf 22 = .ok (.ior, 1) := by decide +kernel
theorem dX6_turnsOf_23 : decode cX6_turnsOf 23 = .ok (.istore_n 2, 1) := by decide +kernel
theorem dX6_turnsOf_24 : decode cX6_turnsOf 24 = .ok (.iinc 3 1, 3) := by decide +kernel
theorem dX6_turnsOf_27 : decode cX6_turnsOf 27 = .ok (.goto (-23), 3) := by decide +kernel
theorem dX6_turnsOf_30 : decode cX6_turnsOf 30 = .ok (.iload_n 2, 1) := by decide +kernel
theorem dX6_turnsOf_31 : decode cX6_turnsOf 31 = .ok (.ireturn, 1) := by decide +kernel
theorem dX6_allows_0 : decode cX6_allows 0 = .ok (.iconst 0, 1) := by decide +kernel
theorem dX6_allows_1 : decode cX6_allows 1 = .ok (.istore_n 3, 1) := by decide +kernel
theorem dX6_allows_2 : decode cX6_allows 2 = .ok (.iload_n 3, 1) := by decide +kernel
theorem dX6_allows_3 : decode cX6_allows 3 = .ok (.aload_n 0, 1) := by decide +kernel
theorem dX6_allows_4 : decode cX6_allows 4 = .ok (.getfield 21, 3) := by decide +kernel
theorem dX6_allows_7 : decode cX6_allows 7 = .ok (.if_icmp .ge 58, 3) := by decide +kernel
theorem dX6_allows_10 : decode cX6_allows 10 = .ok (.aload_n 0, 1) := by decide +kernel
theorem dX6_allows_11 : decode cX6_allows 11 = .ok (.getfield 9, 3) := by decide +kernel
theorem dX6_allows_14 : decode cX6_allows 14 = .ok (.iload_n 3, 1) := by decide +kernel
theorem dX6_allows_15 : decode cX6_allows 15 = .ok (.invokestatic 33, 3) := by decide +kernel
theorem dX6_allows_18 : decode cX6_allows 18 = .ok (.iload_n 1, 1) := by decide +kernel
theorem dX6_allows_19 : decode cX6_allows 19 = .ok (.if_icmp .ne 7, 3) := by decide +kernel
theorem dX6_allows_22 : decode cX6_allows 22 = .ok (.iconst 1, 1) := by decide +kernel
theorem dX6_allows_23 : decode cX6_allows 23 = .ok (.goto 4, 3) := by decide +kernel
theorem dX6_allows_26 : decode cX6_allows 26 = .ok (.iconst 0, 1) := by decide +kernel
theorem dX6_allows_27 : decode cX6_allows 27 = .ok (.istore 4, 2) := by decide +kernel
theorem dX6_allows_29 : decode cX6_allows 29 = .ok (.iload 4, 2) := by decide +kernel
theorem dX6_allows_31 : decode cX6_allows 31 = .ok (.ifCond .eq 28, 3) := by decide +kernel
theorem dX6_allows_34 : decode cX6_allows 34 = .ok (.aload_n 0, 1) := by decide +kernel
theorem dX6_allows_35 : decode cX6_allows 35 = .ok (.getfield 15, 3) := by decide +kernel
theorem dX6_allows_38 : decode cX6_allows 38 = .ok (.iload_n 3, 1) := by decide +kernel
theorem dX6_allows_39 : decode cX6_allows 39 = .ok (.invokestatic 33, 3) := by decide +kernel
theorem dX6_allows_42 : decode cX6_allows 42 = .ok (.iload_n 2, 1) := by decide +kernel
theorem dX6_allows_43 : decode cX6_allows 43 = .ok (.invokestatic 37, 3) := by decide +kernel
theorem dX6_allows_46 : decode cX6_allows 46 = .ok (.aload_n 0, 1) := by decide +kernel
theorem dX6_allows_47 : decode cX6_allows 47 = .ok (.getfield 18, 3) := by decide +kernel
theorem dX6_allows_50 : decode cX6_allows 50 = .ok (.iload_n 3, 1) := by decide +kernel
theorem dX6_allows_51 : decode cX6_allows 51 = .ok (.invokestatic 33, 3) := by decide +kernel
theorem dX6_allows_54 : decode cX6_allows 54 = .ok (.if_icmp .eq 5, 3) := by decide +kernel
theorem dX6_allows_57 : decode cX6_allows 57 = .ok (.iconst 0, 1) := by decide +kernel
theorem dX6_allows_58 : decode cX6_allows 58 = .ok (.ireturn, 1) := by decide +kernel
theorem dX6_allows_59 : decode cX6_allows 59 = .ok (.iinc 3 1, 3) := by decide +kernel
theorem dX6_allows_62 : decode cX6_allows 62 = .ok (.goto (-60), 3) := by decide +kernel
theorem dX6_allows_65 : decode cX6_allows 65 = .ok (.iconst 1, 1) := by decide +kernel
theorem dX6_allows_66 : decode cX6_allows 66 = .ok (.ireturn, 1) := by decide +kernel
theorem dX6_takeFrom_0 : decode cX6_takeFrom 0 = .ok (.aload_n 1, 1) := by decide +kernel
theorem dX6_takeFrom_1 : decode cX6_takeFrom 1 = .ok (.ifnonnull 4, 3) := by decide +kernel
theorem dX6_takeFrom_4 : decode cX6_takeFrom 4 = .ok (.return_, 1) := by decide +kernel
theorem dX6_takeFrom_5 : decode cX6_takeFrom 5 = .ok (.aload_n 1, 1) := by decide +kernel
theorem dX6_takeFrom_6 : decode cX6_takeFrom 6 = .ok (.getfield 9, 3) := by decide +kernel
theorem dX6_takeFrom_9 : decode cX6_takeFrom 9 = .ok (.aload_n 0, 1) := by decide +kernel
theorem dX6_takeFrom_10 : decode cX6_takeFrom 10 = .ok (.getfield 9, 3) := by decide +kernel
theorem dX6_takeFrom_13 : decode cX6_takeFrom 13 = .ok (.invokestatic 41, 3) := by decide +kernel
theorem dX6_takeFrom_16 : decode cX6_takeFrom 16 = .ok (.aload_n 1, 1) := by decide +kernel
theorem dX6_takeFrom_17 : decode cX6_takeFrom 17 = .ok (.getfield 15, 3) := by decide +kernel
theorem dX6_takeFrom_20 : decode cX6_takeFrom 20 = .ok (.aload_n 0, 1) := by decide +kernel
theorem dX6_takeFrom_21 : decode cX6_takeFrom 21 = .ok (.getfield 15, 3) := by decide +kernel
theorem dX6_takeFrom_24 : decode cX6_takeFrom 24 = .ok (.invokestatic 41, 3) := by decide +kernel
theorem dX6_takeFrom_27 : decode cX6_takeFrom 27 = .ok (.aload_n 1, 1) := by decide +kernel
theorem dX6_takeFrom_28 : decode cX6_takeFrom 28 = .ok (.getfield 18, 3) := by decide +kernel
theorem dX6_takeFrom_31 : decode cX6_takeFrom 31 = .ok (.aload_n 0, 1) := by decide +kernel
theorem dX6_takeFrom_32 : decode cX6_takeFrom 32 = .ok (.getfield 18, 3) := by decide +kernel
theorem dX6_takeFrom_35 : decode cX6_takeFrom 35 = .ok (.invokestatic 41, 3) := by decide +kernel
theorem dX6_takeFrom_38 : decode cX6_takeFrom 38 = .ok (.aload_n 0, 1) := by decide +kernel
theorem dX6_takeFrom_39 : decode cX6_takeFrom 39 = .ok (.aload_n 1, 1) := by decide +kernel
theorem dX6_takeFrom_40 : decode cX6_takeFrom 40 = .ok (.getfield 21, 3) := by decide +kernel
theorem dX6_takeFrom_43 : decode cX6_takeFrom 43 = .ok (.putfield 21, 3) := by decide +kernel
theorem dX6_takeFrom_46 : decode cX6_takeFrom 46 = .ok (.return_, 1) := by decide +kernel
theorem dX7_init_0 : decode cX7_init 0 = .ok (.aload_n 0, 1) := by decide +kernel
theorem dX7_init_1 : decode cX7_init 1 = .ok (.invokespecial 3, 3) := by decide +kernel
theorem dX7_init_4 : decode cX7_init 4 = .ok (.return_, 1) := by decide +kernel
theorem dX7_kind_0 : decode cX7_kind 0 = .ok (.iconst 3, 1) := by decide +kernel
theorem dX7_kind_1 : decode cX7_kind 1 = .ok (.ireturn, 1) := by decide +kernel
theorem dX7_batter_0 : decode cX7_batter 0 = .ok (.iconst 1, 1) := by decide +kernel
theorem dX7_batter_1 : decode cX7_batter 1 = .ok (.ireturn, 1) := by decide +kernel
theorem dX7_spreads_0 : decode cX7_spreads 0 = .ok (.iload_n 1, 1) := by decide +kernel
theorem dX7_spreads_1 : decode cX7_spreads 1 = .ok (.ifCond .ne 15, 3) := by decide +kernel
theorem dX7_spreads_4 : decode cX7_spreads 4 = .ok (.iload_n 2, 1) := by decide +kernel
theorem dX7_spreads_5 : decode cX7_spreads 5 = .ok (.invokestatic 9, 3) := by decide +kernel
theorem dX7_spreads_8 : decode cX7_spreads 8 = .ok (.iconst 1, 1) := by decide +kernel
theorem dX7_spreads_9 : decode cX7_spreads 9 = .ok (.if_icmp .gt 7, 3) := by decide +kernel
theorem dX7_spreads_12 : decode cX7_spreads 12 = .ok (.iconst 1, 1) := by decide +kernel
theorem dX7_spreads_13 : decode cX7_spreads 13 = .ok (.goto 4, 3) := by decide +kernel
theorem dX7_spreads_16 : decode cX7_spreads 16 = .ok (.iconst 0, 1) := by decide +kernel
theorem dX7_spreads_17 : decode cX7_spreads 17 = .ok (.ireturn, 1) := by decide +kernel
theorem dX8_init_0 : decode cX8_init 0 = .ok (.aload_n 0, 1) := by decide +kernel
theorem dX8_init_1 : decode cX8_init 1 = .ok (.invokespecial 3, 3) := by decide +kernel
theorem dX8_init_4 : decode cX8_init 4 = .ok (.return_, 1) := by decide +kernel
theorem dX8_kind_0 : decode cX8_kind 0 = .ok (.iconst 0, 1) := by decide +kernel
theorem dX8_kind_1 : decode cX8_kind 1 = .ok (.ireturn, 1) := by decide +kernel
theorem dX8_batter_0 : decode cX8_batter 0 = .ok (.iconst 3, 1) := by decide +kernel
theorem dX8_batter_1 : decode cX8_batter 1 = .ok (.ireturn, 1) := by decide +kernel
theorem dX8_spreads_0 : decode cX8_spreads 0 = .ok (.iload_n 1, 1) := by decide +kernel
theorem dX8_spreads_1 : decode cX8_spreads 1 = .ok (.invokestatic 9, 3) := by decide +kernel
theorem dX8_spreads_4 : decode cX8_spreads 4 = .ok (.iload_n 2, 1) := by decide +kernel
theorem dX8_spreads_5 : decode cX8_spreads 5 = .ok (.invokestatic 9, 3) := by decide +kernel
theorem dX8_spreads_8 : decode cX8_spreads 8 = .ok (.iadd, 1) := by decide +kernel
theorem dX8_spreads_9 : decode cX8_spreads 9 = .ok (.iconst 1, 1) := by decide +kernel
theorem dX8_spreads_10 : decode cX8_spreads 10 = .ok (.if_icmp .gt 7, 3) := by decide +kernel
theorem dX8_spreads_13 : decode cX8_spreads 13 = .ok (.iconst 1, 1) := by decide +kernel
theorem dX8_spreads_14 : decode cX8_spreads 14 = .ok (.goto 4, 3) := by decide +kernel
theorem dX8_spreads_17 : decode cX8_spreads 17 = .ok (.iconst 0, 1) := by decide +kernel
theorem dX8_spreads_18 : decode cX8_spreads 18 = .ok (.ireturn, 1) := by decide +kernel
theorem dX9_init_0 : decode cX9_init 0 = .ok (.aload_n 0, 1) := by decide +kernel
theorem dX9_init_1 : decode cX9_init 1 = .ok (.invokespecial 3, 3) := by decide +kernel
theorem dX9_init_4 : decode cX9_init 4 = .ok (.return_, 1) := by decide +kernel
theorem dX9_kind_0 : decode cX9_kind 0 = .ok (.iconst 2, 1) := by decide +kernel
theorem dX9_kind_1 : decode cX9_kind 1 = .ok (.ireturn, 1) := by decide +kernel
theorem dX9_batter_0 : decode cX9_batter 0 = .ok (.iconst 5, 1) := by decide +kernel
theorem dX9_batter_1 : decode cX9_batter 1 = .ok (.ireturn, 1) := by decide +kernel
theorem dX9_spreads_0 : decode cX9_spreads 0 = .ok (.iload_n 1, 1) := by decide +kernel
theorem dX9_spreads_1 : decode cX9_spreads 1 = .ok (.invokestatic 9, 3) := by decide +kernel
theorem dX9_spreads_4 : decode cX9_spreads 4 = .ok (.iconst 1, 1) := by decide +kernel
theorem dX9_spreads_5 : decode cX9_spreads 5 = .ok (.if_icmp .gt 15, 3) := by decide +kernel
theorem dX9_spreads_8 : decode cX9_spreads 8 = .ok (.iload_n 2, 1) := by decide +kernel
theorem dX9_spreads_9 : decode cX9_spreads 9 = .ok (.invokestatic 9, 3) := by decide +kernel
theorem dX9_spreads_12 : decode cX9_spreads 12 = .ok (.iconst 1, 1) := by decide +kernel
theorem dX9_spreads_13 : decode cX9_spreads 13 = .ok (.if_icmp .gt 7, 3) := by decide +kernel
theorem dX9_spreads_16 : decode cX9_spreads 16 = .ok (.iconst 1, 1) := by decide +kernel
theorem dX9_spreads_17 : decode cX9_spreads 17 = .ok (.goto 4, 3) := by decide +kernel
theorem dX9_spreads_20 : decode cX9_spreads 20 = .ok (.iconst 0, 1) := by decide +kernel
theorem dX9_spreads_21 : decode cX9_spreads 21 = .ok (.ireturn, 1) := by decide +kernel
theorem dX10_init_0 : decode cX10_init 0 = .ok (.aload_n 0, 1) := by decide +kernel
theorem dX10_init_1 : decode cX10_init 1 = .ok (.invokespecial 1, 3) := by decide +kernel
theorem dX10_init_4 : decode cX10_init 4 = .ok (.aload_n 0, 1) := by decide +kernel
theorem dX10_init_5 : decode cX10_init 5 = .ok (.new 7, 3) := by decide +kernel
theorem dX10_init_8 : decode cX10_init 8 = .ok (.dup, 1) := by decide +kernel
theorem dX10_init_9 : decode cX10_init 9 = .ok (.invokespecial 9, 3) := by decide +kernel
theorem dX10_init_12 : decode cX10_init 12 = .ok (.putfield 10, 3) := by decide +kernel
theorem dX10_init_15 : decode cX10_init 15 = .ok (.aload_n 0, 1) := by decide +kernel
theorem dX10_init_16 : decode cX10_init 16 = .ok (.new 16, 3) := by decide +kernel
theorem dX10_init_19 : decode cX10_init 19 = .ok (.dup, 1) := by decide +kernel
theorem dX10_init_20 : decode cX10_init 20 = .ok (.invokespecial 18, 3) := by decide +kernel
theorem dX10_init_23 : decode cX10_init 23 = .ok (.putfield 19, 3) := by decide +kernel
theorem dX10_init_26 : decode cX10_init 26 = .ok (.aload_n 0, 1) := by decide +kernel
theorem dX10_init_27 : decode cX10_init 27 = .ok (.iconst 4, 1) := by decide +kernel
theorem dX10_init_28 : decode cX10_init 28 = .ok (.anewarray 23, 3) := by decide +kernel
theorem dX10_init_31 : decode cX10_init 31 = .ok (.putfield 25, 3) := by decide +kernel
theorem dX10_init_34 : decode cX10_init 34 = .ok (.aload_n 0, 1) := by decide +kernel
theorem dX10_init_35 : decode cX10_init 35 = .ok (.new 29, 3) := by decide +kernel
theorem dX10_init_38 : decode cX10_init 38 = .ok (.dup, 1) := by decide +kernel
theorem dX10_init_39 : decode cX10_init 39 = .ok (.invokespecial 31, 3) := by decide +kernel
theorem dX10_init_42 : decode cX10_init 42 = .ok (.putfield 32, 3) := by decide +kernel
theorem dX10_init_45 : decode cX10_init 45 = .ok (.aload_n 0, 1) := by decide +kernel
theorem dX10_init_46 : decode cX10_init 46 = .ok (.new 29, 3) := by decide +kernel
theorem dX10_init_49 : decode cX10_init 49 = .ok (.dup, 1) := by decide +kernel
theorem dX10_init_50 : decode cX10_init 50 = .ok (.invokespecial 31, 3) := by decide +kernel
theorem dX10_init_53 : decode cX10_init 53 = .ok (.putfield 36, 3) := by decide +kernel
theorem dX10_init_56 : decode cX10_init 56 = .ok (.aload_n 0, 1) := by decide +kernel
theorem dX10_init_57 : decode cX10_init 57 = .ok (.new 39, 3) := by decide +kernel
theorem dX10_init_60 : decode cX10_init 60 = .ok (.dup, 1) := by decide +kernel
theorem dX10_init_61 : decode cX10_init 61 = .ok (.invokespecial 41, 3) := by decide +kernel
theorem dX10_init_64 : decode cX10_init 64 = .ok (.putfield 42, 3) := by decide +kernel
theorem dX10_init_67 : decode cX10_init 67 = .ok (.aload_n 0, 1) := by decide +kernel
theorem dX10_init_68 : decode cX10_init 68 = .ok (.bipush 36, 2) := by decide +kernel
theorem dX10_init_70 : decode cX10_init 70 = .ok (.newarray .int, 2) := by decide +kernel
theorem dX10_init_72 : decode cX10_init 72 = .ok (.putfield 46, 3) := by decide +kernel
theorem dX10_init_75 : decode cX10_init 75 = .ok (.return_, 1) := by decide +kernel
theorem dX10_letter_0 : decode cX10_letter 0 = .ok (.iload_n 1, 1) := by decide +kernel
theorem dX10_letter_1 : decode cX10_letter 1 = .ok (.iconst 1, 1) := by decide +kernel
theorem dX10_letter_2 : decode cX10_letter 2 = .ok (.if_icmp .lt 9, 3) := by decide +kernel
theorem dX10_letter_5 : decode cX10_letter 5 = .ok (.iload_n 1, 1) := by decide +kernel
theorem dX10_letter_6 : decode cX10_letter 6 = .ok (.bipush 126, 2) := by decide +kernel
theorem dX10_letter_8 : decode cX10_letter 8 = .ok (.if_icmp .le 6, 3) := by decide +kernel
theorem dX10_letter_11 : decode cX10_letter 11 = .ok (.bipush (-102), 2) := by decide +kernel
theorem dX10_letter_13 : decode cX10_letter 13 = .ok (.ireturn, 1) := by decide +kernel
theorem dX10_letter_14 : decode cX10_letter 14 = .ok (.aload_n 0, 1) := by decide +kernel
theorem dX10_letter_15 : decode cX10_letter 15 = .ok (.getfield 10, 3) := by decide +kernel
theorem dX10_letter_18 : decode cX10_letter 18 = .ok (.getfield 50, 3) := by decide +kernel
theorem dX10_letter_21 : decode cX10_letter 21 = .ok (.bipush 36, 2) := by decide +kernel
theorem dX10_letter_23 : decode cX10_letter 23 = .ok (.if_icmp .lt 6, 3) := by decide +kernel
theorem dX10_letter_26 : decode cX10_letter 26 = .ok (.bipush (-104), 2) := by decide +kernel
theorem dX10_letter_28 : decode cX10_letter 28 = .ok (.ireturn, 1) := by decide +kernel
theorem dX10_letter_29 : decode cX10_letter 29 = .ok (.aload_n 0, 1) := by decide +kernel
theorem dX10_letter_30 : decode cX10_letter 30 = .ok (.getfield 10, 3) := by decide +kernel
theorem dX10_letter_33 : decode cX10_letter 33 = .ok (.iload_n 1, 1) := by decide +kernel
theorem dX10_letter_34 : decode cX10_letter 34 = .ok (.invokevirtual 54, 3) := by decide +kernel
theorem dX10_letter_37 : decode cX10_letter 37 = .ok (.aload_n 0, 1) := by decide +kernel
theorem dX10_letter_38 : decode cX10_letter 38 = .ok (.getfield 10, 3) := by decide +kernel
theorem dX10_letter_41 : decode cX10_letter 41 = .ok (.getfield 50, 3) := by decide +kernel
theorem dX10_letter_44 : decode cX10_letter 44 = .ok (.ireturn, 1) := by decide +kernel
theorem dX10_blank_0 : decode cX10_blank 0 = .ok (.aload_n 0, 1) := by decide +kernel
theorem dX10_blank_1 : decode cX10_blank 1 = .ok (.getfield 10, 3) := by decide +kernel
theorem dX10_blank_4 : decode cX10_blank 4 = .ok (.getfield 50, 3) := by decide +kernel
theorem dX10_blank_7 : decode cX10_blank 7 = .ok (.istore_n 1, 1) := by decide +kernel
theorem dX10_blank_8 : decode cX10_blank 8 = .ok (.aload_n 0, 1) := by decide +kernel
theorem dX10_blank_9 : decode cX10_blank 9 = .ok (.getfield 10, 3) := by decide +kernel
theorem dX10_blank_12 : decode cX10_blank 12 = .ok (.iconst 0, 1) := by decide +kernel
theorem dX10_blank_13 : decode cX10_blank 13 = .ok (.putfield 50, 3) := by decide +kernel
theorem dX10_blank_16 : decode cX10_blank 16 = .ok (.iload_n 1, 1) := by decide +kernel
theorem dX10_blank_17 : decode cX10_blank 17 = .ok (.ireturn, 1) := by decide +kernel
theorem dX10_fault_0 : decode cX10_fault 0 = .ok (.aload_n 0, 1) := by decide +kernel
theorem dX10_fault_1 : decode cX10_fault 1 = .ok (.getfield 19, 3) := by decide +kernel
theorem dX10_fault_4 : decode cX10_fault 4 = .ok (.aload_n 0, 1) := by decide +kernel
theorem dX10_fault_5 : decode cX10_fault 5 = .ok (.getfield 10, 3) := by decide +kernel
theorem dX10_fault_8 : decode cX10_fault 8 = .ok (.invokevirtual 58, 3) := by decide +kernel
theorem dX10_fault_11 : decode cX10_fault 11 = .ok (.ireturn, 1) := by decide +kernel
theorem dX10_port_0 : decode cX10_port 0 = .ok (.aload_n 0, 1) := by decide +kernel
theorem dX10_port_1 : decode cX10_port 1 = .ok (.getfield 19, 3) := by decide +kernel
theorem dX10_port_4 : decode cX10_port 4 = .ok (.aload_n 0, 1) := by decide +kernel
theorem dX10_port_5 : decode cX10_port 5 = .ok (.getfield 10, 3) := by decide +kernel
theorem dX10_port_8 : decode cX10_port 8 = .ok (.invokevirtual 58, 3) := by decide +kernel
theorem dX10_port_11 : decode cX10_port 11 = .ok (.aload_n 0, 1) := by decide +kernel
theorem dX10_port_12 : decode cX10_port 12 = .ok (.getfield 10, 3) := by decide +kernel
theorem dX10_port_15 : decode cX10_port 15 = .ok (.getfield 50, 3) := by decide +kernel
theorem dX10_port_18 : decode cX10_port 18 = .ok (.if_icmp .lt 13, 3) := by decide +kernel
theorem dX10_port_21 : decode cX10_port 21 = .ok (.aload_n 0, 1) := by decide +kernel
theorem dX10_port_22 : decode cX10_port 22 = .ok (.getfield 19, 3) := by decide +kernel
theorem dX10_port_25 : decode cX10_port 25 = .ok (.invokevirtual 62, 3) := by decide +kernel
theorem dX10_port_28 : decode cX10_port 28 = .ok (.ifCond .ne 6, 3) := by decide +kernel
theorem dX10_port_31 : decode cX10_port 31 = .ok (.bipush (-103), 2) := by decide +kernel
theorem dX10_port_33 : decode cX10_port 33 = .ok (.ireturn, 1) := by decide +kernel
theorem dX10_port_34 : decode cX10_port 34 = .ok (.aload_n 0, 1) := by decide +kernel
theorem dX10_port_35 : decode cX10_port 35 = .ok (.invokevirtual 66, 3) := by decide +kernel
theorem dX10_port_38 : decode cX10_port 38 = .ok (.aload_n 0, 1) := by decide +kernel
theorem dX10_port_39 : decode cX10_port 39 = .ok (.getfield 10, 3) := by decide +kernel
theorem dX10_port_42 : decode cX10_port 42 = .ok (.iconst 0, 1) := by decide +kernel
theorem dX10_port_43 : decode cX10_port 43 = .ok (.putfield 50, 3) := by decide +kernel
theorem dX10_port_46 : decode cX10_port 46 = .ok (.aload_n 0, 1) := by decide +kernel
theorem dX10_port_47 : decode cX10_port 47 = .ok (.dup, 1) := by decide +kernel
theorem dX10_port_48 : decode cX10_port 48 = .ok (.getfield 69, 3) := by decide +kernel
theorem dX10_port_51 : decode cX10_port 51 = .ok (.iconst 1, 1) := by decide +kernel
theorem dX10_port_52 : decode cX10_port 52 = .ok (.iadd, 1) := by decide +kernel
theorem dX10_port_53 : decode cX10_port 53 = .ok (.putfield 69, 3) := by decide +kernel
theorem dX10_port_56 : decode cX10_port 56 = .ok (.aload_n 0, 1) := by decide +kernel
theorem dX10_port_57 : decode cX10_port 57 = .ok (.getfield 72, 3) := by decide +kernel
theorem dX10_port_60 : decode cX10_port 60 = .ok (.ireturn, 1) := by decide +kernel
theorem dX10_sleeper_0 : decode cX10_sleeper 0 = .ok (.aload_n 0, 1) := by decide +kernel
theorem dX10_sleeper_1 : decode cX10_sleeper 1 = .ok (.iload_n 1, 1) := by decide +kernel
theorem dX10_sleeper_2 : decode cX10_sleeper 2 = .ok (.invokevirtual 75, 3) := by decide +kernel
theorem dX10_sleeper_5 : decode cX10_sleeper 5 = .ok (.ifCond .ne 6, 3) := by decide +kernel
theorem dX10_sleeper_8 : decode cX10_sleeper 8 = .ok (.bipush (-101), 2) := by decide +kernel
theorem dX10_sleeper_10 : decode cX10_sleeper 10 = .ok (.ireturn, 1) := by decide +kernel
theorem dX10_sleeper_11 : decode cX10_sleeper 11 = .ok (.iload_n 2, 1) := by decide +kernel
theorem dX10_sleeper_12 : decode cX10_sleeper 12 = .ok (.tableswitch 90 0 4 #[36, 48, 60, 72, 84], 36) := by decide +kernel
theorem dX10_sleeper_48 : decode cX10_sleeper 48 = .ok (.aload_n 0, 1) := by decide +kernel
theorem dX10_sleeper_49 : decode cX10_sleeper 49 = .ok (.getfield 32, 3) := by decide +kernel
theorem dX10_sleeper_52 : decode cX10_sleeper 52 = .ok (.getfield 79, 3) := by decide +kernel
theorem dX10_sleeper_55 : decode cX10_sleeper 55 = .ok (.iload_n 1, 1) := by decide +kernel
theorem dX10_sleeper_56 : decode cX10_sleeper 56 = .ok (.invokestatic 82, 3) := by decide +kernel
theorem dX10_sleeper_59 : decode cX10_sleeper 59 = .ok (.ireturn, 1) := by decide +kernel
theorem dX10_sleeper_60 : decode cX10_sleeper 60 = .ok (.aload_n 0, 1) := by decide +kernel
theorem dX10_sleeper_61 : decode cX10_sleeper 61 = .ok (.getfield 32, 3) := by decide +kernel
theorem dX10_sleeper_64 : decode cX10_sleeper 64 = .ok (.getfield 86, 3) := by decide +kernel
theorem dX10_sleeper_67 : decode cX10_sleeper 67 = .ok (.iload_n 1, 1) := by decide +kernel
theorem dX10_sleeper_68 : decode cX10_sleeper 68 = .ok (.ishr, 1) := by decide +kernel
theorem dX10_sleeper_69 : decode cX10_sleeper 69 = .ok (.iconst 1, 1) := by decide +kernel
theorem dX10_sleeper_70 : decode cX10_sleeper 70 = .ok (.iand, 1) := by decide +kernel
theorem dX10_sleeper_71 : decode cX10_sleeper 71 = .ok (.ireturn, 1) := by decide +kernel
theorem dX10_sleeper_72 : decode cX10_sleeper 72 = .ok (.aload_n 0, 1) := by decide +kernel
theorem dX10_sleeper_73 : decode cX10_sleeper 73 = .ok (.getfield 32, 3) := by decide +kernel
theorem dX10_sleeper_76 : decode cX10_sleeper 76 = .ok (.getfield 89, 3) := by decide +kernel
theorem dX10_sleeper_79 : decode cX10_sleeper 79 = .ok (.iload_n 1, 1) := by decide +kernel
theorem dX10_sleeper_80 : decode cX10_sleeper 80 = .ok (.invokestatic 82, 3) := by decide +kernel
theorem dX10_sleeper_83 : decode cX10_sleeper 83 = .ok (.ireturn, 1) := by decide +kernel
theorem dX10_sleeper_84 : decode cX10_sleeper 84 = .ok (.aload_n 0, 1) := by decide +kernel
theorem dX10_sleeper_85 : decode cX10_sleeper 85 = .ok (.getfield 32, 3) := by decide +kernel
theorem dX10_sleeper_88 : decode cX10_sleeper 88 = .ok (.getfield 92, 3) := by decide +kernel
theorem dX10_sleeper_91 : decode cX10_sleeper 91 = .ok (.iload_n 1, 1) := by decide +kernel
theorem dX10_sleeper_92 : decode cX10_sleeper 92 = .ok (.invokestatic 82, 3) := by decide +kernel
theorem dX10_sleeper_95 : decode cX10_sleeper 95 = .ok (.ireturn, 1) := by decide +kernel
theorem dX10_sleeper_96 : decode cX10_sleeper 96 = .ok (.aload_n 0, 1) := by decide +kernel
theorem dX10_sleeper_97 : decode cX10_sleeper 97 = .ok (.iload_n 1, 1) := by decide +kernel
theorem dX10_sleeper_98 : decode cX10_sleeper 98 = .ok (.invokevirtual 95, 3) := by decide +kernel
theorem dX10_sleeper_101 : decode cX10_sleeper 101 = .ok (.ireturn, 1) := by decide +kernel
theorem dX10_sleeper_102 : decode cX10_sleeper 102 = .ok (.bipush (-102), 2) := by decide +kernel
theorem dX10_sleeper_104 : decode cX10_sleeper 104 = .ok (.ireturn, 1) := by decide +kernel
theorem dX10_tosser_0 : decode cX10_tosser 0 = .ok (.aload_n 0, 1) := by decide +kernel
theorem dX10_tosser_1 : decode cX10_tosser 1 = .ok (.iload_n 1, 1) := by decide +kernel
theorem dX10_tosser_2 : decode cX10_tosser 2 = .ok (.invokevirtual 99, 3) := by decide +kernel
theorem dX10_tosser_5 : decode cX10_tosser 5 = .ok (.astore_n 3, 1) := by decide +kernel
theorem dX10_tosser_6 : decode cX10_tosser 6 = .ok (.aload_n 3, 1) := by decide +kernel
theorem dX10_tosser_7 : decode cX10_tosser 7 = .ok (.ifnonnull 6, 3) := by decide +kernel
theorem dX10_tosser_10 : decode cX10_tosser 10 = .ok (.bipush (-101), 2) := by decide +kernel
theorem dX10_tosser_12 : decode cX10_tosser 12 = .ok (.ireturn, 1) := by decide +kernel
theorem dX10_tosser_13 : decode cX10_tosser 13 = .ok (.iload_n 2, 1) := by decide +kernel
theorem dX10_tosser_14 : decode cX10_tosser 14 = .ok (.tableswitch 140 0 8 #[50, 55, 67, 79, 84, 90, 101, 113, 128], 50) := by decide +kernel
theorem dX10_tosser_64 : decode cX10_tosser 64 = .ok (.aload_n 3, 1) := by decide +kernel
theorem dX10_tosser_65 : decode cX10_tosser 65 = .ok (.invokevirtual 103, 3) := by decide +kernel
theorem dX10_tosser_68 : decode cX10_tosser 68 = .ok (.ireturn, 1) := by decide +kernel
theorem dX10_tosser_69 : decode cX10_tosser 69 = .ok (.aload_n 0, 1) := by decide +kernel
theorem dX10_tosser_70 : decode cX10_tosser 70 = .ok (.getfield 32, 3) := by decide +kernel
theorem dX10_tosser_73 : decode cX10_tosser 73 = .ok (.getfield 107, 3) := by decide +kernel
theorem dX10_tosser_76 : decode cX10_tosser 76 = .ok (.iload_n 1, 1) := by decide +kernel
theorem dX10_tosser_77 : decode cX10_tosser 77 = .ok (.invokestatic 82, 3) := by decide +kernel
theorem dX10_tosser_80 : decode cX10_tosser 80 = .ok (.ireturn, 1) := by decide +kernel
theorem dX10_tosser_81 : decode cX10_tosser 81 = .ok (.aload_n 0, 1) := by decide +kernel
theorem dX10_tosser_82 : decode cX10_tosser 82 = .ok (.getfield 32, 3) := by decide +kernel
theorem dX10_tosser_85 : decode cX10_tosser 85 = .ok (.getfield 110, 3) := by decide +kernel
theorem dX10_tosser_88 : decode cX10_tosser 88 = .ok (.iload_n 1, 1) := by decide +kernel
theorem dX10_tosser_89 : decode cX10_tosser 89 = .ok (.invokestatic 82, 3) := by decide +kernel
theorem dX10_tosser_92 : decode cX10_tosser 92 = .ok (.ireturn, 1) := by decide +kernel
theorem dX10_tosser_93 : decode cX10_tosser 93 = .ok (.aload_n 3, 1) := by decide +kernel
theorem dX10_tosser_94 : decode cX10_tosser 94 = .ok (.invokevirtual 113, 3) := by decide +kernel
theorem dX10_tosser_97 : decode cX10_tosser 97 = .ok (.ireturn, 1) := by decide +kernel
theorem dX10_tosser_98 : decode cX10_tosser 98 = .ok (.aload_n 0, 1) := by decide +kernel
theorem dX10_tosser_99 : decode cX10_tosser 99 = .ok (.iload_n 1, 1) := by decide +kernel
theorem dX10_tosser_100 : decode cX10_tosser 100 = .ok (.invokevirtual 116, 3) := by decide +kernel
theorem dX10_tosser_103 : decode cX10_tosser 103 = .ok (.ireturn, 1) := by decide +kernel
theorem dX10_tosser_104 : decode cX10_tosser 104 = .ok (.aload_n 0, 1) := by decide +kernel
theorem dX10_tosser_105 : decode cX10_tosser 105 = .ok (.iload_n 1, 1) := by decide +kernel
theorem dX10_tosser_106 : decode cX10_tosser 106 = .ok (.aload_n 0, 1) := by decide +kernel
theorem dX10_tosser_107 : decode cX10_tosser 107 = .ok (.iload_n 1, 1) := by decide +kernel
theorem dX10_tosser_108 : decode cX10_tosser 108 = .ok (.invokevirtual 116, 3) := by decide +kernel
theorem dX10_tosser_111 : decode cX10_tosser 111 = .ok (.invokevirtual 119, 3) := by decide +kernel
theorem dX10_tosser_114 : decode cX10_tosser 114 = .ok (.ireturn, 1) := by decide +kernel
theorem dX10_tosser_115 : decode cX10_tosser 115 = .ok (.aload_n 0, 1) := by decide +kernel
theorem dX10_tosser_116 : decode cX10_tosser 116 = .ok (.getfield 32, 3) := by decide +kernel
theorem dX10_tosser_119 : decode cX10_tosser 119 = .ok (.getfield 123, 3) := by decide +kernel
theorem dX10_tosser_122 : decode cX10_tosser 122 = .ok (.iload_n 1, 1) := by decide +kernel
theorem dX10_tosser_123 : decode cX10_tosser 123 = .ok (.invokevirtual 127, 3) := by decide +kernel
theorem dX10_tosser_126 : decode cX10_tosser 126 = .ok (.ireturn, 1) := by decide +kernel
theorem dX10_tosser_127 : decode cX10_tosser 127 = .ok (.aload_n 0, 1) := by decide +kernel
theorem dX10_tosser_128 : decode cX10_tosser 128 = .ok (.getfield 32, 3) := by decide +kernel
theorem dX10_tosser_131 : decode cX10_tosser 131 = .ok (.getfield 123, 3) := by decide +kernel
theorem dX10_tosser_134 : decode cX10_tosser 134 = .ok (.iload_n 1, 1) := by decide +kernel
theorem dX10_tosser_135 : decode cX10_tosser 135 = .ok (.invokevirtual 127, 3) := by decide +kernel
theorem dX10_tosser_138 : decode cX10_tosser 138 = .ok (.invokestatic 132, 3) := by decide +kernel
theorem dX10_tosser_141 : decode cX10_tosser 141 = .ok (.ireturn, 1) := by decide +kernel
theorem dX10_tosser_142 : decode cX10_tosser 142 = .ok (.aload_n 0, 1) := by decide +kernel
theorem dX10_tosser_143 : decode cX10_tosser 143 = .ok (.getfield 32, 3) := by decide +kernel
theorem dX10_tosser_146 : decode cX10_tosser 146 = .ok (.getfield 135, 3) := by decide +kernel
theorem dX10_tosser_149 : decode cX10_tosser 149 = .ok (.iload_n 1, 1) := by decide +kernel
theorem dX10_tosser_150 : decode cX10_tosser 150 = .ok (.invokestatic 82, 3) := by decide +kernel
theorem dX10_tosser_153 : decode cX10_tosser 153 = .ok (.ireturn, 1) := by decide +kernel
theorem dX10_tosser_154 : decode cX10_tosser 154 = .ok (.bipush (-102), 2) := by decide +kernel
theorem dX10_tosser_156 : decode cX10_tosser 156 = .ok (.ireturn, 1) := by decide +kernel
theorem dX10_as_0 : decode cX10_as 0 = .ok (.aload_n 0, 1) := by decide +kernel
theorem dX10_as_1 : decode cX10_as 1 = .ok (.iload_n 1, 1) := by decide +kernel
theorem dX10_as_2 : decode cX10_as 2 = .ok (.invokevirtual 99, 3) := by decide +kernel
theorem dX10_as_5 : decode cX10_as 5 = .ok (.astore_n 3, 1) := by decide +kernel
theorem dX10_as_6 : decode cX10_as 6 = .ok (.aload_n 3, 1) := by decide +kernel
theorem dX10_as_7 : decode cX10_as 7 = .ok (.ifnonnull 6, 3) := by decide +kernel
theorem dX10_as_10 : decode cX10_as 10 = .ok (.bipush (-101), 2) := by decide +kernel
theorem dX10_as_12 : decode cX10_as 12 = .ok (.ireturn, 1) := by decide +kernel
theorem dX10_as_13 : decode cX10_as 13 = .ok (.iload_n 2, 1) := by decide +kernel
theorem dX10_as_14 : decode cX10_as 14 = .ok (.ifCond .lt 8, 3) := by decide +kernel
theorem dX10_as_17 : decode cX10_as 17 = .ok (.iload_n 2, 1) := by decide +kernel
theorem dX10_as_18 : decode cX10_as 18 = .ok (.iconst 4, 1) := by decide +kernel
theorem dX10_as_19 : decode cX10_as 19 = .ok (.if_icmp .le 6, 3) := by decide +kernel
theorem dX10_as_22 : decode cX10_as 22 = .ok (.bipush (-102), 2) := by decide +kernel
theorem dX10_as_24 : decode cX10_as 24 = .ok (.ireturn, 1) := by decide +kernel
theorem dX10_as_25 : decode cX10_as 25 = .ok (.aload_n 3, 1) := by decide +kernel
theorem dX10_as_26 : decode cX10_as 26 = .ok (.iload_n 2, 1) := by decide +kernel
theorem dX10_as_27 : decode cX10_as 27 = .ok (.invokestatic 138, 3) := by decide +kernel
theorem dX10_as_30 : decode cX10_as 30 = .ok (.ifCond .eq 7, 3) := by decide +kernel
theorem dX10_as_33 : decode cX10_as 33 = .ok (.iload_n 1, 1) := by decide +kernel
theorem dX10_as_34 : decode cX10_as 34 = .ok (.goto 4, 3) := by decide +kernel
theorem dX10_as_37 : decode cX10_as 37 = .ok (.iconst (-1), 1) := by decide +kernel
theorem dX10_as_38 : decode cX10_as 38 = .ok (.ireturn, 1) := by decide +kernel
theorem dX10_lands_0 : decode cX10_lands 0 = .ok (.aload_n 0, 1) := by decide +kernel
theorem dX10_lands_1 : decode cX10_lands 1 = .ok (.iload_n 1, 1) := by decide +kernel
theorem dX10_lands_2 : decode cX10_lands 2 = .ok (.iload_n 2, 1) := by decide +kernel
theorem dX10_lands_3 : decode cX10_lands 3 = .ok (.invokevirtual 142, 3) := by decide +kernel
theorem dX10_lands_6 : decode cX10_lands 6 = .ok (.ifCond .ne 6, 3) := by decide +kernel
theorem dX10_lands_9 : decode cX10_lands 9 = .ok (.bipush (-101), 2) := by decide +kernel
theorem dX10_lands_11 : decode cX10_lands 11 = .ok (.ireturn, 1) := by decide +kernel
theorem dX10_lands_12 : decode cX10_lands 12 = .ok (.aload_n 0, 1) := by decide +kernel
theorem dX10_lands_13 : decode cX10_lands 13 = .ok (.iload_n 1, 1) := by decide +kernel
theorem dX10_lands_14 : decode cX10_lands 14 = .ok (.iload_n 2, 1) := by decide +kernel
theorem dX10_lands_15 : decode cX10_lands 15 = .ok (.aload_n 0, 1) := by decide +kernel
theorem dX10_lands_16 : decode cX10_lands 16 = .ok (.getfield 32, 3) := by decide +kernel
theorem dX10_lands_19 : decode cX10_lands 19 = .ok (.getfield 146, 3) := by decide +kernel
theorem dX10_lands_22 : decode cX10_lands 22 = .ok (.invokevirtual 149, 3) := by decide +kernel
theorem dX10_lands_25 : decode cX10_lands 25 = .ok (.ireturn, 1) := by decide +kernel
theorem dX10_covers_0 : decode cX10_covers 0 = .ok (.aload_n 0, 1) := by decide +kernel
theorem dX10_covers_1 : decode cX10_covers 1 = .ok (.iload_n 1, 1) := by decide +kernel
theorem dX10_covers_2 : decode cX10_covers 2 = .ok (.iload_n 2, 1) := by decide +kernel
theorem dX10_covers_3 : decode cX10_covers 3 = .ok (.invokevirtual 142, 3) := by decide +kernel
theorem dX10_covers_6 : decode cX10_covers 6 = .ok (.ifCond .ne 6, 3) := by decide +kernel
theorem dX10_covers_9 : decode cX10_covers 9 = .ok (.bipush (-101), 2) := by decide +kernel
theorem dX10_covers_11 : decode cX10_covers 11 = .ok (.ireturn, 1) := by decide +kernel
theorem dX10_covers_12 : decode cX10_covers 12 = .ok (.aload_n 0, 1) := by decide +kernel
theorem dX10_covers_13 : decode cX10_covers 13 = .ok (.iload_n 1, 1) := by decide +kernel
theorem dX10_covers_14 : decode cX10_covers 14 = .ok (.iload_n 2, 1) := by decide +kernel
theorem dX10_covers_15 : decode cX10_covers 15 = .ok (.aload_n 0, 1) := by decide +kernel
theorem dX10_covers_16 : decode cX10_covers 16 = .ok (.getfield 32, 3) := by decide +kernel
theorem dX10_covers_19 : decode cX10_covers 19 = .ok (.getfield 146, 3) := by decide +kernel
theorem dX10_covers_22 : decode cX10_covers 22 = .ok (.invokevirtual 153, 3) := by decide +kernel
theorem dX10_covers_25 : decode cX10_covers 25 = .ok (.ireturn, 1) := by decide +kernel
theorem dX10_toss_0 : decode cX10_toss 0 = .ok (.aload_n 0, 1) := by decide +kernel
theorem dX10_toss_1 : decode cX10_toss 1 = .ok (.iload_n 1, 1) := by decide +kernel
theorem dX10_toss_2 : decode cX10_toss 2 = .ok (.invokevirtual 99, 3) := by decide +kernel
theorem dX10_toss_5 : decode cX10_toss 5 = .ok (.astore_n 3, 1) := by decide +kernel
theorem dX10_toss_6 : decode cX10_toss 6 = .ok (.aload_n 3, 1) := by decide +kernel
theorem dX10_toss_7 : decode cX10_toss 7 = .ok (.ifnull 11, 3) := by decide +kernel
theorem dX10_toss_10 : decode cX10_toss 10 = .ok (.aload_n 0, 1) := by decide +kernel
theorem dX10_toss_11 : decode cX10_toss 11 = .ok (.iload_n 2, 1) := by decide +kernel
theorem dX10_toss_12 : decode cX10_toss 12 = .ok (.invokevirtual 156, 3) := by decide +kernel
theorem dX10_toss_15 : decode cX10_toss 15 = .ok (.ifCond .ne 6, 3) := by decide +kernel
theorem dX10_toss_18 : decode cX10_toss 18 = .ok (.bipush (-101), 2) := by decide +kernel
theorem dX10_toss_20 : decode cX10_toss 20 = .ok (.ireturn, 1) := by decide +kernel
theorem dX10_toss_21 : decode cX10_toss 21 = .ok (.aload_n 0, 1) := by decide +kernel
theorem dX10_toss_22 : decode cX10_toss 22 = .ok (.getfield 32, 3) := by decide +kernel
theorem dX10_toss_25 : decode cX10_toss 25 = .ok (.getfield 159, 3) := by decide +kernel
theorem dX10_toss_28 : decode cX10_toss 28 = .ok (.aload_n 3, 1) := by decide +kernel
theorem dX10_toss_29 : decode cX10_toss 29 = .ok (.invokevirtual 113, 3) := by decide +kernel
theorem dX10_toss_32 : decode cX10_toss 32 = .ok (.if_icmp .ge 6, 3) := by decide +kernel
theorem dX10_toss_35 : decode cX10_toss 35 = .ok (.bipush (-103), 2) := by decide +kernel
theorem dX10_toss_37 : decode cX10_toss 37 = .ok (.ireturn, 1) := by decide +kernel
theorem dX10_toss_38 : decode cX10_toss 38 = .ok (.aload_n 0, 1) := by decide +kernel
theorem dX10_toss_39 : decode cX10_toss 39 = .ok (.getfield 32, 3) := by decide +kernel
theorem dX10_toss_42 : decode cX10_toss 42 = .ok (.getfield 161, 3) := by decide +kernel
theorem dX10_toss_45 : decode cX10_toss 45 = .ok (.sipush 999, 3) := by decide +kernel
theorem dX10_toss_48 : decode cX10_toss 48 = .ok (.if_icmp .lt 6, 3) := by decide +kernel
theorem dX10_toss_51 : decode cX10_toss 51 = .ok (.bipush (-104), 2) := by decide +kernel
theorem dX10_toss_53 : decode cX10_toss 53 = .ok (.ireturn, 1) := by decide +kernel
theorem dX10_toss_54 : decode cX10_toss 54 = .ok (.aload_n 0, 1) := by decide +kernel
theorem dX10_toss_55 : decode cX10_toss 55 = .ok (.iload_n 1, 1) := by decide +kernel
theorem dX10_toss_56 : decode cX10_toss 56 = .ok (.iload_n 2, 1) := by decide +kernel
theorem dX10_toss_57 : decode cX10_toss 57 = .ok (.aload_n 0, 1) := by decide +kernel
theorem dX10_toss_58 : decode cX10_toss 58 = .ok (.getfield 32, 3) := by decide +kernel
theorem dX10_toss_61 : decode cX10_toss 61 = .ok (.getfield 146, 3) := by decide +kernel
theorem dX10_toss_64 : decode cX10_toss 64 = .ok (.invokevirtual 153, 3) := by decide +kernel
theorem dX10_toss_67 : decode cX10_toss 67 = .ok (.aload_n 0, 1) := by decide +kernel
theorem dX10_toss_68 : decode cX10_toss 68 = .ok (.getfield 32, 3) := by decide +kernel
theorem dX10_toss_71 : decode cX10_toss 71 = .ok (.getfield 86, 3) := by decide +kernel
theorem dX10_toss_74 : decode cX10_toss 74 = .ok (.iconst (-1), 1) := by decide +kernel
theorem dX10_toss_75 : decode cX10_toss 75 = .ok (.ixor, 1) := by decide +kernel
theorem dX10_toss_76 : decode cX10_toss 76 = .ok (.iand, 1) := by decide +kernel
theorem dX10_toss_77 : decode cX10_toss 77 = .ok (.istore 4, 2) := by decide +kernel
theorem dX10_toss_79 : decode cX10_toss 79 = .ok (.aload_n 0, 1) := by decide +kernel
theorem dX10_toss_80 : decode cX10_toss 80 = .ok (.getfield 32, 3) := by decide +kernel
theorem dX10_toss_83 : decode cX10_toss 83 = .ok (.dup, 1) := by decide +kernel
theorem dX10_toss_84 : decode cX10_toss 84 = .ok (.getfield 86, 3) := by decide +kernel
theorem dX10_toss_87 : decode cX10_toss 87 = .ok (.iload 4, 2) := by decide +kernel
theorem dX10_toss_89 : decode cX10_toss 89 = .ok (.ior, 1) := by decide +kernel
theorem dX10_toss_90 : decode cX10_toss 90 = .ok (.putfield 86, 3) := by decide +kernel
theorem dX10_toss_93 : decode cX10_toss 93 = .ok (.aload_n 0, 1) := by decide +kernel
theorem dX10_toss_94 : decode cX10_toss 94 = .ok (.getfield 32, 3) := by decide +kernel
theorem dX10_toss_97 : decode cX10_toss 97 = .ok (.dup, 1) := by decide +kernel
theorem dX10_toss_98 : decode cX10_toss 98 = .ok (.getfield 159, 3) := by decide +kernel
theorem dX10_toss_101 : decode cX10_toss 101 = .ok (.aload_n 3, 1) := by decide +kernel
theorem dX10_toss_102 : decode cX10_toss 102 = .ok (.invokevirtual 113, 3) := by decide +kernel
theorem dX10_toss_105 : decode cX10_toss 105 = .ok (.isub, 1) := by decide +kernel
theorem dX10_toss_106 : decode cX10_toss 106 = .ok (.putfield 159, 3) := by decide +kernel
theorem dX10_toss_109 : decode cX10_toss 109 = .ok (.aload_n 0, 1) := by decide +kernel
theorem dX10_toss_110 : decode cX10_toss 110 = .ok (.getfield 32, 3) := by decide +kernel
theorem dX10_toss_113 : decode cX10_toss 113 = .ok (.dup, 1) := by decide +kernel
theorem dX10_toss_114 : decode cX10_toss 114 = .ok (.getfield 161, 3) := by decide +kernel
theorem dX10_toss_117 : decode cX10_toss 117 = .ok (.iconst 1, 1) := by decide +kernel
theorem dX10_toss_118 : decode cX10_toss 118 = .ok (.iadd, 1) := by decide +kernel
theorem dX10_toss_119 : decode cX10_toss 119 = .ok (.putfield 161, 3) := by decide +kernel
theorem dX10_toss_122 : decode cX10_toss 122 = .ok (.aload_n 0, 1) := by decide +kernel
theorem dX10_toss_123 : decode cX10_toss 123 = .ok (.getfield 32, 3) := by decide +kernel
theorem dX10_toss_126 : decode cX10_toss 126 = .ok (.getfield 135, 3) := by decide +kernel
theorem dX10_toss_129 : decode cX10_toss 129 = .ok (.iload_n 1, 1) := by decide +kernel
theorem dX10_toss_130 : decode cX10_toss 130 = .ok (.aload_n 0, 1) := by decide +kernel
theorem dX10_toss_131 : decode cX10_toss 131 = .ok (.getfield 32, 3) := by decide +kernel
theorem dX10_toss_134 : decode cX10_toss 134 = .ok (.getfield 135, 3) := by decide +kernel
theorem dX10_toss_137 : decode cX10_toss 137 = .ok (.iload_n 1, 1) := by decide +kernel
theorem dX10_toss_138 : decode cX10_toss 138 = .ok (.invokestatic 82, 3) := by decide +kernel
theorem dX10_toss_141 : decode cX10_toss 141 = .ok (.iconst 1, 1) := by decide +kernel
theorem dX10_toss_142 : decode cX10_toss 142 = .ok (.iadd, 1) := by decide +kernel
theorem dX10_toss_143 : decode cX10_toss 143 = .ok (.invokestatic 164, 3) := by decide +kernel
theorem dX10_toss_146 : decode cX10_toss 146 = .ok (.iload 4, 2) := by decide +kernel
theorem dX10_toss_148 : decode cX10_toss 148 = .ok (.invokestatic 168, 3) := by decide +kernel
theorem dX10_toss_151 : decode cX10_toss 151 = .ok (.ireturn, 1) := by decide +kernel
theorem dX10_wind_0 : decode cX10_wind 0 = .ok (.iload_n 1, 1) := by decide +kernel
theorem dX10_wind_1 : decode cX10_wind 1 = .ok (.iconst (-1), 1) := by decide +kernel
theorem dX10_wind_2 : decode cX10_wind 2 = .ok (.if_icmp .lt 8, 3) := by decide +kernel
theorem dX10_wind_5 : decode cX10_wind 5 = .ok (.iload_n 1, 1) := by decide +kernel
theorem dX10_wind_6 : decode cX10_wind 6 = .ok (.iconst 1, 1) := by decide +kernel
theorem dX10_wind_7 : decode cX10_wind 7 = .ok (.if_icmp .le 6, 3) := by decide +kernel
theorem dX10_wind_10 : decode cX10_wind 10 = .ok (.bipush (-102), 2) := by decide +kernel
theorem dX10_wind_12 : decode cX10_wind 12 = .ok (.ireturn, 1) := by decide +kernel
theorem dX10_wind_13 : decode cX10_wind 13 = .ok (.aload_n 0, 1) := by decide +kernel
theorem dX10_wind_14 : decode cX10_wind 14 = .ok (.invokevirtual 173, 3) := by decide +kernel
theorem dX10_wind_17 : decode cX10_wind 17 = .ok (.ifCond .ne 6, 3) := by decide +kernel
theorem dX10_wind_20 : decode cX10_wind 20 = .ok (.bipush (-103), 2) := by decide +kernel
theorem dX10_wind_22 : decode cX10_wind 22 = .ok (.ireturn, 1) := by decide +kernel
theorem dX10_wind_23 : decode cX10_wind 23 = .ok (.aload_n 0, 1) := by decide +kernel
theorem dX10_wind_24 : decode cX10_wind 24 = .ok (.getfield 32, 3) := by decide +kernel
theorem dX10_wind_27 : decode cX10_wind 27 = .ok (.getfield 146, 3) := by decide +kernel
theorem dX10_wind_30 : decode cX10_wind 30 = .ok (.iconst 1, 1) := by decide +kernel
theorem dX10_wind_31 : decode cX10_wind 31 = .ok (.iadd, 1) := by decide +kernel
theorem dX10_wind_32 : decode cX10_wind 32 = .ok (.istore_n 2, 1) := by decide +kernel
theorem dX10_wind_33 : decode cX10_wind 33 = .ok (.aload_n 0, 1) := by decide +kernel
theorem dX10_wind_34 : decode cX10_wind 34 = .ok (.getfield 32, 3) := by decide +kernel
theorem dX10_wind_37 : decode cX10_wind 37 = .ok (.iload_n 1, 1) := by decide +kernel
theorem dX10_wind_38 : decode cX10_wind 38 = .ok (.putfield 146, 3) := by decide +kernel
theorem dX10_wind_41 : decode cX10_wind 41 = .ok (.iload_n 2, 1) := by decide +kernel
theorem dX10_wind_42 : decode cX10_wind 42 = .ok (.ireturn, 1) := by decide +kernel
theorem dX10_morning_0 : decode cX10_morning 0 = .ok (.aload_n 0, 1) := by decide +kernel
theorem dX10_morning_1 : decode cX10_morning 1 = .ok (.invokevirtual 173, 3) := by decide +kernel
theorem dX10_morning_4 : decode cX10_morning 4 = .ok (.ifCond .ne 6, 3) := by decide +kernel
theorem dX10_morning_7 : decode cX10_morning 7 = .ok (.bipush (-103), 2) := by decide +kernel
theorem dX10_morning_9 : decode cX10_morning 9 = .ok (.ireturn, 1) := by decide +kernel
theorem dX10_morning_10 : decode cX10_morning 10 = .ok (.aload_n 0, 1) := by decide +kernel
theorem dX10_morning_11 : decode cX10_morning 11 = .ok (.getfield 32, 3) := by decide +kernel
theorem dX10_morning_14 : decode cX10_morning 14 = .ok (.getfield 176, 3) := by decide +kernel
theorem dX10_morning_17 : decode cX10_morning 17 = .ok (.sipush 999, 3) := by decide +kernel
theorem dX10_morning_20 : decode cX10_morning 20 = .ok (.if_icmp .lt 6, 3) := by decide +kernel
theorem dX10_morning_23 : decode cX10_morning 23 = .ok (.bipush (-104), 2) := by decide +kernel
theorem dX10_morning_25 : decode cX10_morning 25 = .ok (.ireturn, 1) := by decide +kernel
theorem dX10_morning_26 : decode cX10_morning 26 = .ok (.aload_n 0, 1) := by decide +kernel
theorem dX10_morning_27 : decode cX10_morning 27 = .ok (.getfield 32, 3) := by decide +kernel
theorem dX10_morning_30 : decode cX10_morning 30 = .ok (.getfield 86, 3) := by decide +kernel
theorem dX10_morning_33 : decode cX10_morning 33 = .ok (.invokestatic 168, 3) := by decide +kernel
theorem dX10_morning_36 : decode cX10_morning 36 = .ok (.istore_n 1, 1) := by decide +kernel
theorem dX10_morning_37 : decode cX10_morning 37 = .ok (.aload_n 0, 1) := by decide +kernel
theorem dX10_morning_38 : decode cX10_morning 38 = .ok (.getfield 32, 3) := by decide +kernel
theorem dX10_morning_41 : decode cX10_morning 41 = .ok (.aload_n 0, 1) := by decide +kernel
theorem dX10_morning_42 : decode cX10_morning 42 = .ok (.getfield 72, 3) := by decide +kernel
theorem dX10_morning_45 : decode cX10_morning 45 = .ok (.invokevirtual 179, 3) := by decide +kernel
theorem dX10_morning_48 : decode cX10_morning 48 = .ok (.iload_n 1, 1) := by decide +kernel
theorem dX10_morning_49 : decode cX10_morning 49 = .ok (.ireturn, 1) := by decide +kernel
theorem dX10_move_0 : decode cX10_move 0 = .ok (.aload_n 0, 1) := by decide +kernel
theorem dX10_move_1 : decode cX10_move 1 = .ok (.iload_n 1, 1) := by decide +kernel
theorem dX10_move_2 : decode cX10_move 2 = .ok (.invokevirtual 75, 3) := by decide +kernel
theorem dX10_move_5 : decode cX10_move 5 = .ok (.ifCond .eq 11, 3) := by decide +kernel
theorem dX10_move_8 : decode cX10_move 8 = .ok (.aload_n 0, 1) := by decide +kernel
theorem dX10_move_9 : decode cX10_move 9 = .ok (.iload_n 2, 1) := by decide +kernel
theorem dX10_move_10 : decode cX10_move 10 = .ok (.invokevirtual 156, 3) := by decide +kernel
theorem dX10_move_13 : decode cX10_move 13 = .ok (.ifCond .ne 6, 3) := by decide +kernel
theorem dX10_move_16 : decode cX10_move 16 = .ok (.bipush (-101), 2) := by decide +kernel
theorem dX10_move_18 : decode cX10_move 18 = .ok (.ireturn, 1) := by decide +kernel
theorem dX10_move_19 : decode cX10_move 19 = .ok (.aload_n 0, 1) := by decide +kernel
theorem dX10_move_20 : decode cX10_move 20 = .ok (.iload_n 2, 1) := by decide +kernel
theorem dX10_move_21 : decode cX10_move 21 = .ok (.iload_n 1, 1) := by decide +kernel
theorem dX10_move_22 : decode cX10_move 22 = .ok (.invokevirtual 182, 3) := by decide +kernel
theorem dX10_move_25 : decode cX10_move 25 = .ok (.ifCond .eq 6, 3) := by decide +kernel
theorem dX10_move_28 : decode cX10_move 28 = .ok (.bipush (-103), 2) := by decide +kernel
theorem dX10_move_30 : decode cX10_move 30 = .ok (.ireturn, 1) := by decide +kernel
theorem dX10_move_31 : decode cX10_move 31 = .ok (.aload_n 0, 1) := by decide +kernel
theorem dX10_move_32 : decode cX10_move 32 = .ok (.getfield 32, 3) := by decide +kernel
theorem dX10_move_35 : decode cX10_move 35 = .ok (.getfield 79, 3) := by decide +kernel
theorem dX10_move_38 : decode cX10_move 38 = .ok (.iload_n 1, 1) := by decide +kernel
theorem dX10_move_39 : decode cX10_move 39 = .ok (.invokestatic 82, 3) := by decide +kernel
theorem dX10_move_42 : decode cX10_move 42 = .ok (.istore_n 3, 1) := by decide +kernel
theorem dX10_move_43 : decode cX10_move 43 = .ok (.aload_n 0, 1) := by decide +kernel
theorem dX10_move_44 : decode cX10_move 44 = .ok (.getfield 32, 3) := by decide +kernel
theorem dX10_move_47 : decode cX10_move 47 = .ok (.getfield 79, 3) := by decide +kernel
theorem dX10_move_50 : decode cX10_move 50 = .ok (.iload_n 1, 1) := by decide +kernel
theorem dX10_move_51 : decode cX10_move 51 = .ok (.iload_n 2, 1) := by decide +kernel
theorem dX10_move_52 : decode cX10_move 52 = .ok (.invokestatic 164, 3) := by decide +kernel
theorem dX10_move_55 : decode cX10_move 55 = .ok (.aload_n 0, 1) := by decide +kernel
theorem dX10_move_56 : decode cX10_move 56 = .ok (.getfield 32, 3) := by decide +kernel
theorem dX10_move_59 : decode cX10_move 59 = .ok (.dup, 1) := by decide +kernel
theorem dX10_move_60 : decode cX10_move 60 = .ok (.getfield 86, 3) := by decide +kernel
theorem dX10_move_63 : decode cX10_move 63 = .ok (.iconst 1, 1) := by decide +kernel
theorem dX10_move_64 : decode cX10_move 64 = .ok (.iload_n 1, 1) := by decide +kernel
theorem dX10_move_65 : decode cX10_move 65 = .ok (.ishl, 1) := by decide +kernel
theorem dX10_move_66 : decode cX10_move 66 = .ok (.iconst (-1), 1) := by decide +kernel
theorem dX10_move_67 : decode cX10_move 67 = .ok (.ixor, 1) := by decide +kernel
theorem dX10_move_68 : decode cX10_move 68 = .ok (.iand, 1) := by decide +kernel
theorem dX10_move_69 : decode cX10_move 69 = .ok (.putfield 86, 3) := by decide +kernel
theorem dX10_move_72 : decode cX10_move 72 = .ok (.iload_n 3, 1) := by decide +kernel
theorem dX10_move_73 : decode cX10_move 73 = .ok (.ireturn, 1) := by decide +kernel
theorem dX10_train_0 : decode cX10_train 0 = .ok (.aload_n 0, 1) := by decide +kernel
theorem dX10_train_1 : decode cX10_train 1 = .ok (.iload_n 1, 1) := by decide +kernel
theorem dX10_train_2 : decode cX10_train 2 = .ok (.invokevirtual 99, 3) := by decide +kernel
theorem dX10_train_5 : decode cX10_train 5 = .ok (.ifnonnull 6, 3) := by decide +kernel
theorem dX10_train_8 : decode cX10_train 8 = .ok (.bipush (-101), 2) := by decide +kernel
theorem dX10_train_10 : decode cX10_train 10 = .ok (.ireturn, 1) := by decide +kernel
theorem dX10_train_11 : decode cX10_train 11 = .ok (.iload_n 2, 1) := by decide +kernel
theorem dX10_train_12 : decode cX10_train 12 = .ok (.invokestatic 185, 3) := by decide +kernel
theorem dX10_train_15 : decode cX10_train 15 = .ok (.ifCond .eq 10, 3) := by decide +kernel
theorem dX10_train_18 : decode cX10_train 18 = .ok (.iload_n 3, 1) := by decide +kernel
theorem dX10_train_19 : decode cX10_train 19 = .ok (.invokestatic 185, 3) := by decide +kernel
theorem dX10_train_22 : decode cX10_train 22 = .ok (.ifCond .ne 6, 3) := by decide +kernel
theorem dX10_train_25 : decode cX10_train 25 = .ok (.bipush (-102), 2) := by decide +kernel
theorem dX10_train_27 : decode cX10_train 27 = .ok (.ireturn, 1) := by decide +kernel
theorem dX10_train_28 : decode cX10_train 28 = .ok (.aload_n 0, 1) := by decide +kernel
theorem dX10_train_29 : decode cX10_train 29 = .ok (.getfield 32, 3) := by decide +kernel
theorem dX10_train_32 : decode cX10_train 32 = .ok (.getfield 110, 3) := by decide +kernel
theorem dX10_train_35 : decode cX10_train 35 = .ok (.iload_n 1, 1) := by decide +kernel
theorem dX10_train_36 : decode cX10_train 36 = .ok (.invokestatic 82, 3) := by decide +kernel
theorem dX10_train_39 : decode cX10_train 39 = .ok (.istore 4, 2) := by decide +kernel
theorem dX10_train_41 : decode cX10_train 41 = .ok (.aload_n 0, 1) := by decide +kernel
theorem dX10_train_42 : decode cX10_train 42 = .ok (.getfield 32, 3) := by decide +kernel
theorem dX10_train_45 : decode cX10_train 45 = .ok (.getfield 107, 3) := by decide +kernel
theorem dX10_train_48 : decode cX10_train 48 = .ok (.iload_n 1, 1) := by decide +kernel
theorem dX10_train_49 : decode cX10_train 49 = .ok (.iload_n 2, 1) := by decide +kernel
theorem dX10_train_50 : decode cX10_train 50 = .ok (.invokestatic 164, 3) := by decide +kernel
theorem dX10_train_53 : decode cX10_train 53 = .ok (.aload_n 0, 1) := by decide +kernel
theorem dX10_train_54 : decode cX10_train 54 = .ok (.getfield 32, 3) := by decide +kernel
theorem dX10_train_57 : decode cX10_train 57 = .ok (.getfield 110, 3) := by decide +kernel
theorem dX10_train_60 : decode cX10_train 60 = .ok (.iload_n 1, 1) := by decide +kernel
theorem dX10_train_61 : decode cX10_train 61 = .ok (.iload_n 3, 1) := by decide +kernel
theorem dX10_train_62 : decode cX10_train 62 = .ok (.invokestatic 164, 3) := by decide +kernel
theorem dX10_train_65 : decode cX10_train 65 = .ok (.iload 4, 2) := by decide +kernel
theorem dX10_train_67 : decode cX10_train 67 = .ok (.ireturn, 1) := by decide +kernel
theorem dX10_stir_0 : decode cX10_stir 0 = .ok (.iload_n 1, 1) := by decide +kernel
theorem dX10_stir_1 : decode cX10_stir 1 = .ok (.iconst 1, 1) := by decide +kernel
theorem dX10_stir_2 : decode cX10_stir 2 = .ok (.if_icmp .lt 9, 3) := by decide +kernel
theorem dX10_stir_5 : decode cX10_stir 5 = .ok (.iload_n 1, 1) := by decide +kernel
theorem dX10_stir_6 : decode cX10_stir 6 = .ok (.bipush 60, 2) := by decide +kernel
theorem dX10_stir_8 : decode cX10_stir 8 = .ok (.if_icmp .le 6, 3) := by decide +kernel
theorem dX10_stir_11 : decode cX10_stir 11 = .ok (.bipush (-102), 2) := by decide +kernel
theorem dX10_stir_13 : decode cX10_stir 13 = .ok (.ireturn, 1) := by decide +kernel
theorem dX10_stir_14 : decode cX10_stir 14 = .ok (.aload_n 0, 1) := by decide +kernel
theorem dX10_stir_15 : decode cX10_stir 15 = .ok (.invokevirtual 173, 3) := by decide +kernel
theorem dX10_stir_18 : decode cX10_stir 18 = .ok (.ifCond .ne 6, 3) := by decide +kernel
theorem dX10_stir_21 : decode cX10_stir 21 = .ok (.bipush (-103), 2) := by decide +kernel
theorem dX10_stir_23 : decode cX10_stir 23 = .ok (.ireturn, 1) := by decide +kernel
theorem dX10_stir_24 : decode cX10_stir 24 = .ok (.aload_n 0, 1) := by decide +kernel
theorem dX10_stir_25 : decode cX10_stir 25 = .ok (.getfield 32, 3) := by decide +kernel
theorem dX10_stir_28 : decode cX10_stir 28 = .ok (.getfield 159, 3) := by decide +kernel
theorem dX10_stir_31 : decode cX10_stir 31 = .ok (.iload_n 1, 1) := by decide +kernel
theorem dX10_stir_32 : decode cX10_stir 32 = .ok (.iadd, 1) := by decide +kernel
theorem dX10_stir_33 : decode cX10_stir 33 = .ok (.bipush 99, 2) := by decide +kernel
theorem dX10_stir_35 : decode cX10_stir 35 = .ok (.if_icmp .le 6, 3) := by decide +kernel
theorem dX10_stir_38 : decode cX10_stir 38 = .ok (.bipush (-104), 2) := by decide +kernel
theorem dX10_stir_40 : decode cX10_stir 40 = .ok (.ireturn, 1) := by decide +kernel
theorem dX10_stir_41 : decode cX10_stir 41 = .ok (.aload_n 0, 1) := by decide +kernel
theorem dX10_stir_42 : decode cX10_stir 42 = .ok (.getfield 32, 3) := by decide +kernel
theorem dX10_stir_45 : decode cX10_stir 45 = .ok (.dup, 1) := by decide +kernel
theorem dX10_stir_46 : decode cX10_stir 46 = .ok (.getfield 159, 3) := by decide +kernel
theorem dX10_stir_49 : decode cX10_stir 49 = .ok (.iload_n 1, 1) := by decide +kernel
theorem dX10_stir_50 : decode cX10_stir 50 = .ok (.iadd, 1) := by decide +kernel
theorem dX10_stir_51 : decode cX10_stir 51 = .ok (.putfield 159, 3) := by decide +kernel
theorem dX10_stir_54 : decode cX10_stir 54 = .ok (.aload_n 0, 1) := by decide +kernel
theorem dX10_stir_55 : decode cX10_stir 55 = .ok (.getfield 32, 3) := by decide +kernel
theorem dX10_stir_58 : decode cX10_stir 58 = .ok (.getfield 159, 3) := by decide +kernel
theorem dX10_stir_61 : decode cX10_stir 61 = .ok (.ireturn, 1) := by decide +kernel
theorem dX10_all_0 : decode cX10_all 0 = .ok (.iload_n 1, 1) := by decide +kernel
theorem dX10_all_1 : decode cX10_all 1 = .ok (.bipush 10, 2) := by decide +kernel
theorem dX10_all_3 : decode cX10_all 3 = .ok (.if_icmp .lt 13, 3) := by decide +kernel
theorem dX10_all_6 : decode cX10_all 6 = .ok (.iload_n 1, 1) := by decide +kernel
theorem dX10_all_7 : decode cX10_all 7 = .ok (.bipush 15, 2) := by decide +kernel
theorem dX10_all_9 : decode cX10_all 9 = .ok (.if_icmp .gt 7, 3) := by decide +kernel
theorem dX10_all_12 : decode cX10_all 12 = .ok (.iconst 1, 1) := by decide +kernel
theorem dX10_all_13 : decode cX10_all 13 = .ok (.goto 4, 3) := by decide +kernel
theorem dX10_all_16 : decode cX10_all 16 = .ok (.iconst 0, 1) := by decide +kernel
theorem dX10_all_17 : decode cX10_all 17 = .ok (.istore_n 2, 1) := by decide +kernel
theorem dX10_all_18 : decode cX10_all 18 = .ok (.iload_n 1, 1) := by decide +kernel
theorem dX10_all_19 : decode cX10_all 19 = .ok (.ifCond .eq 15, 3) := by decide +kernel
theorem dX10_all_22 : decode cX10_all 22 = .ok (.iload_n 1, 1) := by decide +kernel
theorem dX10_all_23 : decode cX10_all 23 = .ok (.iconst 1, 1) := by decide +kernel
theorem dX10_all_24 : decode cX10_all 24 = .ok (.if_icmp .eq 10, 3) := by decide +kernel
theorem dX10_all_27 : decode cX10_all 27 = .ok (.iload_n 2, 1) := by decide +kernel
theorem dX10_all_28 : decode cX10_all 28 = .ok (.ifCond .ne 6, 3) := by decide +kernel
theorem dX10_all_31 : decode cX10_all 31 = .ok (.bipush (-102), 2) := by decide +kernel
theorem dX10_all_33 : decode cX10_all 33 = .ok (.ireturn, 1) := by decide +kernel
theorem dX10_all_34 : decode cX10_all 34 = .ok (.aload_n 0, 1) := by decide +kernel
theorem dX10_all_35 : decode cX10_all 35 = .ok (.invokevirtual 173, 3) := by decide +kernel
theorem dX10_all_38 : decode cX10_all 38 = .ok (.ifCond .ne 6, 3) := by decide +kernel
theorem dX10_all_41 : decode cX10_all 41 = .ok (.bipush (-103), 2) := by decide +kernel
theorem dX10_all_43 : decode cX10_all 43 = .ok (.ireturn, 1) := by decide +kernel
theorem dX10_all_44 : decode cX10_all 44 = .ok (.aload_n 0, 1) := by decide +kernel
theorem dX10_all_45 : decode cX10_all 45 = .ok (.aload_n 0, 1) := by decide +kernel
theorem dX10_all_46 : decode cX10_all 46 = .ok (.invokevirtual 188, 3) := by decide +kernel
theorem dX10_all_49 : decode cX10_all 49 = .ok (.aload_n 0, 1) := by decide +kernel
theorem dX10_all_50 : decode cX10_all 50 = .ok (.getfield 32, 3) := by decide +kernel
theorem dX10_all_53 : decode cX10_all 53 = .ok (.getfield 86, 3) := by decide +kernel
theorem dX10_all_56 : decode cX10_all 56 = .ok (.iconst (-1), 1) := by decide +kernel
theorem dX10_all_57 : decode cX10_all 57 = .ok (.ixor, 1) := by decide +kernel
theorem dX10_all_58 : decode cX10_all 58 = .ok (.iand, 1) := by decide +kernel
theorem dX10_all_59 : decode cX10_all 59 = .ok (.invokevirtual 191, 3) := by decide +kernel
theorem dX10_all_62 : decode cX10_all 62 = .ok (.aload_n 0, 1) := by decide +kernel
theorem dX10_all_63 : decode cX10_all 63 = .ok (.getfield 42, 3) := by decide +kernel
theorem dX10_all_66 : decode cX10_all 66 = .ok (.iload_n 1, 1) := by decide +kernel
theorem dX10_all_67 : decode cX10_all 67 = .ok (.invokevirtual 194, 3) := by decide +kernel
theorem dX10_all_70 : decode cX10_all 70 = .ok (.ireturn, 1) := by decide +kernel
theorem dX10_nights_0 : decode cX10_nights 0 = .ok (.aload_n 0, 1) := by decide +kernel
theorem dX10_nights_1 : decode cX10_nights 1 = .ok (.invokevirtual 173, 3) := by decide +kernel
theorem dX10_nights_4 : decode cX10_nights 4 = .ok (.ifCond .ne 6, 3) := by decide +kernel
theorem dX10_nights_7 : decode cX10_nights 7 = .ok (.bipush (-103), 2) := by decide +kernel
theorem dX10_nights_9 : decode cX10_nights 9 = .ok (.ireturn, 1) := by decide +kernel
theorem dX10_nights_10 : decode cX10_nights 10 = .ok (.aload_n 0, 1) := by decide +kernel
theorem dX10_nights_11 : decode cX10_nights 11 = .ok (.aload_n 0, 1) := by decide +kernel
theorem dX10_nights_12 : decode cX10_nights 12 = .ok (.invokevirtual 188, 3) := by decide +kernel
theorem dX10_nights_15 : decode cX10_nights 15 = .ok (.invokevirtual 191, 3) := by decide +kernel
theorem dX10_nights_18 : decode cX10_nights 18 = .ok (.aload_n 0, 1) := by decide +kernel
theorem dX10_nights_19 : decode cX10_nights 19 = .ok (.getfield 42, 3) := by decide +kernel
theorem dX10_nights_22 : decode cX10_nights 22 = .ok (.iconst 0, 1) := by decide +kernel
theorem dX10_nights_23 : decode cX10_nights 23 = .ok (.invokevirtual 194, 3) := by decide +kernel
theorem dX10_nights_26 : decode cX10_nights 26 = .ok (.istore_n 1, 1) := by decide +kernel
theorem dX10_nights_27 : decode cX10_nights 27 = .ok (.iload_n 1, 1) := by decide +kernel
theorem dX10_nights_28 : decode cX10_nights 28 = .ok (.ifCond .le 15, 3) := by decide +kernel
theorem dX10_nights_31 : decode cX10_nights 31 = .ok (.aload_n 0, 1) := by decide +kernel
theorem dX10_nights_32 : decode cX10_nights 32 = .ok (.getfield 32, 3) := by decide +kernel
theorem dX10_nights_35 : decode cX10_nights 35 = .ok (.getfield 159, 3) := by decide +kernel
theorem dX10_nights_38 : decode cX10_nights 38 = .ok (.iload_n 1, 1) := by decide +kernel
theorem dX10_nights_39 : decode cX10_nights 39 = .ok (.idiv, 1) := by decide +kernel
theorem dX10_nights_40 : decode cX10_nights 40 = .ok (.goto 4, 3) := by decide +kernel
theorem dX10_nights_43 : decode cX10_nights 43 = .ok (.iconst (-1), 1) := by decide +kernel
theorem dX10_nights_44 : decode cX10_nights 44 = .ok (.ireturn, 1) := by decide +kernel
theorem dX10_odds_0 : decode cX10_odds 0 = .ok (.aload_n 0, 1) := by decide +kernel
theorem dX10_odds_1 : decode cX10_odds 1 = .ok (.iload_n 1, 1) := by decide +kernel
theorem dX10_odds_2 : decode cX10_odds 2 = .ok (.invokevirtual 75, 3) := by decide +kernel
theorem dX10_odds_5 : decode cX10_odds 5 = .ok (.ifCond .eq 12, 3) := by decide +kernel
theorem dX10_odds_8 : decode cX10_odds 8 = .ok (.aload_n 0, 1) := by decide +kernel
theorem dX10_odds_9 : decode cX10_odds 9 = .ok (.iload_n 2, 1) := by decide +kernel
theorem dX10_odds_10 : decode cX10_odds 10 = .ok (.iload_n 3, 1) := by decide +kernel
theorem dX10_odds_11 : decode cX10_odds 11 = .ok (.invokevirtual 142, 3) := by decide +kernel
theorem dX10_odds_14 : decode cX10_odds 14 = .ok (.ifCond .ne 6, 3) := by decide +kernel
theorem dX10_odds_17 : decode cX10_odds 17 = .ok (.bipush (-101), 2) := by decide +kernel
theorem dX10_odds_19 : decode cX10_odds 19 = .ok (.ireturn, 1) := by decide +kernel
theorem dX10_odds_20 : decode cX10_odds 20 = .ok (.iconst 0, 1) := by decide +kernel
theorem dX10_odds_21 : decode cX10_odds 21 = .ok (.istore 4, 2) := by decide +kernel
theorem dX10_odds_23 : decode cX10_odds 23 = .ok (.iconst (-1), 1) := by decide +kernel
theorem dX10_odds_24 : decode cX10_odds 24 = .ok (.istore 5, 2) := by decide +kernel
theorem dX10_odds_26 : decode cX10_odds 26 = .ok (.iload 5, 2) := by decide +kernel
theorem dX10_odds_28 : decode cX10_odds 28 = .ok (.iconst 1, 1) := by decide +kernel
theorem dX10_odds_29 : decode cX10_odds 29 = .ok (.if_icmp .gt 26, 3) := by decide +kernel
theorem dX10_odds_32 : decode cX10_odds 32 = .ok (.iload 4, 2) := by decide +kernel
theorem dX10_odds_34 : decode cX10_odds 34 = .ok (.aload_n 0, 1) := by decide +kernel
theorem dX10_odds_35 : decode cX10_odds 35 = .ok (.iload_n 2, 1) := by decide +kernel
theorem dX10_odds_36 : decode cX10_odds 36 = .ok (.iload_n 3, 1) := by decide +kernel
theorem dX10_odds_37 : decode cX10_odds 37 = .ok (.iload 5, 2) := by decide +kernel
theorem dX10_odds_39 : decode cX10_odds 39 = .ok (.invokevirtual 153, 3) := by decide +kernel
theorem dX10_odds_42 : decode cX10_odds 42 = .ok (.iload_n 1, 1) := by decide +kernel
theorem dX10_odds_43 : decode cX10_odds 43 = .ok (.ishr, 1) := by decide +kernel
theorem dX10_odds_44 : decode cX10_odds 44 = .ok (.iconst 1, 1) := by decide +kernel
theorem dX10_odds_45 : decode cX10_odds 45 = .ok (.iand, 1) := by decide +kernel
theorem dX10_odds_46 : decode cX10_odds 46 = .ok (.iadd, 1) := by decide +kernel
theorem dX10_odds_47 : decode cX10_odds 47 = .ok (.istore 4, 2) := by decide +kernel
theorem dX10_odds_49 : decode cX10_odds 49 = .ok (.iinc 5 1, 3) := by decide +kernel
theorem dX10_odds_52 : decode cX10_odds 52 = .ok (.goto (-26), 3) := by decide +kernel
theorem dX10_odds_55 : decode cX10_odds 55 = .ok (.iload 4, 2) := by decide +kernel
theorem dX10_odds_57 : decode cX10_odds 57 = .ok (.ireturn, 1) := by decide +kernel
theorem dX10_who_0 : decode cX10_who 0 = .ok (.aload_n 0, 1) := by decide +kernel
theorem dX10_who_1 : decode cX10_who 1 = .ok (.iload_n 1, 1) := by decide +kernel
theorem dX10_who_2 : decode cX10_who 2 = .ok (.invokevirtual 156, 3) := by decide +kernel
theorem dX10_who_5 : decode cX10_who 5 = .ok (.ifCond .ne 6, 3) := by decide +kernel
theorem dX10_who_8 : decode cX10_who 8 = .ok (.bipush (-101), 2) := by decide +kernel
theorem dX10_who_10 : decode cX10_who 10 = .ok (.ireturn, 1) := by decide +kernel
theorem dX10_who_11 : decode cX10_who 11 = .ok (.iconst 0, 1) := by decide +kernel
theorem dX10_who_12 : decode cX10_who 12 = .ok (.istore_n 2, 1) := by decide +kernel
theorem dX10_who_13 : decode cX10_who 13 = .ok (.iconst 0, 1) := by decide +kernel
theorem dX10_who_14 : decode cX10_who 14 = .ok (.istore_n 3, 1) := by decide +kernel
theorem dX10_who_15 : decode cX10_who 15 = .ok (.iload_n 3, 1) := by decide +kernel
theorem dX10_who_16 : decode cX10_who 16 = .ok (.aload_n 0, 1) := by decide +kernel
theorem dX10_who_17 : decode cX10_who 17 = .ok (.getfield 197, 3) := by decide +kernel
theorem dX10_who_20 : decode cX10_who 20 = .ok (.if_icmp .ge 24, 3) := by decide +kernel
theorem dX10_who_23 : decode cX10_who 23 = .ok (.aload_n 0, 1) := by decide +kernel
theorem dX10_who_24 : decode cX10_who 24 = .ok (.iload_n 3, 1) := by decide +kernel
theorem dX10_who_25 : decode cX10_who 25 = .ok (.iload_n 1, 1) := by decide +kernel
theorem dX10_who_26 : decode cX10_who 26 = .ok (.invokevirtual 200, 3) := by decide +kernel
theorem dX10_who_29 : decode cX10_who 29 = .ok (.ifCond .eq 9, 3) := by decide +kernel
theorem dX10_who_32 : decode cX10_who 32 = .ok (.iload_n 2, 1) := by decide +kernel
theorem dX10_who_33 : decode cX10_who 33 = .ok (.iconst 1, 1) := by decide +kernel
theorem dX10_who_34 : decode cX10_who 34 = .ok (.iload_n 3, 1) := by decide +kernel
theorem dX10_who_35 : decode cX10_who 35 = .ok (.ishl, 1) := by decide +kernel
theorem dX10_who_36 : decode cX10_who 36 = .ok (.ior, 1) := by decide +kernel
theorem dX10_who_37 : decode cX10_who 37 = .ok (.istore_n 2, 1) := by decide +kernel
theorem dX10_who_38 : decode cX10_who 38 = .ok (.iinc 3 1, 3) := by decide +kernel
theorem dX10_who_41 : decode cX10_who 41 = .ok (.goto (-26), 3) := by decide +kernel
theorem dX10_who_44 : decode cX10_who 44 = .ok (.iload_n 2, 1) := by decide +kernel
theorem dX10_who_45 : decode cX10_who 45 = .ok (.ireturn, 1) := by decide +kernel
theorem dX10_see_0 : decode cX10_see 0 = .ok (.aload_n 0, 1) := by decide +kernel
theorem dX10_see_1 : decode cX10_see 1 = .ok (.iload_n 1, 1) := by decide +kernel
theorem dX10_see_2 : decode cX10_see 2 = .ok (.invokevirtual 99, 3) := by decide +kernel
theorem dX10_see_5 : decode cX10_see 5 = .ok (.ifnonnull 6, 3) := by decide +kernel
theorem dX10_see_8 : decode cX10_see 8 = .ok (.bipush (-101), 2) := by decide +kernel
theorem dX10_see_10 : decode cX10_see 10 = .ok (.ireturn, 1) := by decide +kernel
theorem dX10_see_11 : decode cX10_see 11 = .ok (.iload_n 2, 1) := by decide +kernel
theorem dX10_see_12 : decode cX10_see 12 = .ok (.invokestatic 203, 3) := by decide +kernel
theorem dX10_see_15 : decode cX10_see 15 = .ok (.ifCond .eq 15, 3) := by decide +kernel
theorem dX10_see_18 : decode cX10_see 18 = .ok (.iload_n 3, 1) := by decide +kernel
theorem dX10_see_19 : decode cX10_see 19 = .ok (.iconst (-1), 1) := by decide +kernel
theorem dX10_see_20 : decode cX10_see 20 = .ok (.if_icmp .eq 13, 3) := by decide +kernel
theorem dX10_see_23 : decode cX10_see 23 = .ok (.iload_n 3, 1) := by decide +kernel
theorem dX10_see_24 : decode cX10_see 24 = .ok (.invokestatic 203, 3) := by decide +kernel
theorem dX10_see_27 : decode cX10_see 27 = .ok (.ifCond .ne 6, 3) := by decide +kernel
theorem dX10_see_30 : decode cX10_see 30 = .ok (.bipush (-102), 2) := by decide +kernel
theorem dX10_see_32 : decode cX10_see 32 = .ok (.ireturn, 1) := by decide +kernel
theorem dX10_see_33 : decode cX10_see 33 = .ok (.aload_n 0, 1) := by decide +kernel
theorem dX10_see_34 : decode cX10_see 34 = .ok (.getfield 32, 3) := by decide +kernel
theorem dX10_see_37 : decode cX10_see 37 = .ok (.getfield 123, 3) := by decide +kernel
theorem dX10_see_40 : decode cX10_see 40 = .ok (.getfield 206, 3) := by decide +kernel
theorem dX10_see_43 : decode cX10_see 43 = .ok (.bipush 6, 2) := by decide +kernel
theorem dX10_see_45 : decode cX10_see 45 = .ok (.if_icmp .lt 6, 3) := by decide +kernel
theorem dX10_see_48 : decode cX10_see 48 = .ok (.bipush (-104), 2) := by decide +kernel
theorem dX10_see_50 : decode cX10_see 50 = .ok (.ireturn, 1) := by decide +kernel
theorem dX10_see_51 : decode cX10_see 51 = .ok (.aload_n 0, 1) := by decide +kernel
theorem dX10_see_52 : decode cX10_see 52 = .ok (.getfield 32, 3) := by decide +kernel
theorem dX10_see_55 : decode cX10_see 55 = .ok (.getfield 123, 3) := by decide +kernel
theorem dX10_see_58 : decode cX10_see 58 = .ok (.iload_n 1, 1) := by decide +kernel
theorem dX10_see_59 : decode cX10_see 59 = .ok (.iload_n 2, 1) := by decide +kernel
theorem dX10_see_60 : decode cX10_see 60 = .ok (.iload_n 3, 1) := by decide +kernel
theorem dX10_see_61 : decode cX10_see 61 = .ok (.invokevirtual 209, 3) := by decide +kernel
theorem dX10_see_64 : decode cX10_see 64 = .ok (.aload_n 0, 1) := by decide +kernel
theorem dX10_see_65 : decode cX10_see 65 = .ok (.getfield 32, 3) := by decide +kernel
theorem dX10_see_68 : decode cX10_see 68 = .ok (.getfield 123, 3) := by decide +kernel
theorem dX10_see_71 : decode cX10_see 71 = .ok (.getfield 206, 3) := by decide +kernel
theorem dX10_see_74 : decode cX10_see 74 = .ok (.ireturn, 1) := by decide +kernel
theorem dX10_forget_0 : decode cX10_forget 0 = .ok (.aload_n 0, 1) := by decide +kernel
theorem dX10_forget_1 : decode cX10_forget 1 = .ok (.getfield 32, 3) := by decide +kernel
theorem dX10_forget_4 : decode cX10_forget 4 = .ok (.getfield 123, 3) := by decide +kernel
theorem dX10_forget_7 : decode cX10_forget 7 = .ok (.getfield 206, 3) := by decide +kernel
theorem dX10_forget_10 : decode cX10_forget 10 = .ok (.istore_n 1, 1) := by decide +kernel
theorem dX10_forget_11 : decode cX10_forget 11 = .ok (.aload_n 0, 1) := by decide +kernel
theorem dX10_forget_12 : decode cX10_forget 12 = .ok (.getfield 32, 3) := by decide +kernel
theorem dX10_forget_15 : decode cX10_forget 15 = .ok (.getfield 123, 3) := by decide +kernel
theorem dX10_forget_18 : decode cX10_forget 18 = .ok (.iconst 0, 1) := by decide +kernel
theorem dX10_forget_19 : decode cX10_forget 19 = .ok (.putfield 206, 3) := by decide +kernel
theorem dX10_forget_22 : decode cX10_forget 22 = .ok (.iload_n 1, 1) := by decide +kernel
theorem dX10_forget_23 : decode cX10_forget 23 = .ok (.ireturn, 1) := by decide +kernel
theorem dX10_seasons_0 : decode cX10_seasons 0 = .ok (.iload_n 1, 1) := by decide +kernel
theorem dX10_seasons_1 : decode cX10_seasons 1 = .ok (.iconst 1, 1) := by decide +kernel
theorem dX10_seasons_2 : decode cX10_seasons 2 = .ok (.if_icmp .lt 22, 3) := by decide +kernel
theorem dX10_seasons_5 : decode cX10_seasons 5 = .ok (.iload_n 1, 1) := by decide +kernel
theorem dX10_seasons_6 : decode cX10_seasons 6 = .ok (.bipush 60, 2) := by decide +kernel
theorem dX10_seasons_8 : decode cX10_seasons 8 = .ok (.if_icmp .gt 16, 3) := by decide +kernel
theorem dX10_seasons_11 : decode cX10_seasons 11 = .ok (.iload_n 2, 1) := by decide +kernel
theorem dX10_seasons_12 : decode cX10_seasons 12 = .ok (.ifCond .lt 12, 3) := by decide +kernel
theorem dX10_seasons_15 : decode cX10_seasons 15 = .ok (.iload_n 3, 1) := by decide +kernel
theorem dX10_seasons_16 : decode cX10_seasons 16 = .ok (.ifCond .lt 8, 3) := by decide +kernel
theorem dX10_seasons_19 : decode cX10_seasons 19 = .ok (.iload_n 3, 1) := by decide +kernel
theorem dX10_seasons_20 : decode cX10_seasons 20 = .ok (.iconst 2, 1) := by decide +kernel
theorem dX10_seasons_21 : decode cX10_seasons 21 = .ok (.if_icmp .le 6, 3) := by decide +kernel
theorem dX10_seasons_24 : decode cX10_seasons 24 = .ok (.bipush (-102), 2) := by decide +kernel
theorem dX10_seasons_26 : decode cX10_seasons 26 = .ok (.ireturn, 1) := by decide +kernel
theorem dX10_seasons_27 : decode cX10_seasons 27 = .ok (.aload_n 0, 1) := by decide +kernel
theorem dX10_seasons_28 : decode cX10_seasons 28 = .ok (.invokevirtual 173, 3) := by decide +kernel
theorem dX10_seasons_31 : decode cX10_seasons 31 = .ok (.ifCond .ne 6, 3) := by decide +kernel
theorem dX10_seasons_34 : decode cX10_seasons 34 = .ok (.bipush (-103), 2) := by decide +kernel
theorem dX10_seasons_36 : decode cX10_seasons 36 = .ok (.ireturn, 1) := by decide +kernel
theorem dX10_seasons_37 : decode cX10_seasons 37 = .ok (.iload_n 2, 1) := by decide +kernel
theorem dX10_seasons_38 : decode cX10_seasons 38 = .ok (.istore 4, 2) := by decide +kernel
theorem dX10_seasons_40 : decode cX10_seasons 40 = .ok (.iconst 0, 1) := by decide +kernel
theorem dX10_seasons_41 : decode cX10_seasons 41 = .ok (.istore 5, 2) := by decide +kernel
theorem dX10_seasons_43 : decode cX10_seasons 43 = .ok (.iconst 0, 1) := by decide +kernel
theorem dX10_seasons_44 : decode cX10_seasons 44 = .ok (.istore 6, 2) := by decide +kernel
theorem dX10_seasons_46 : decode cX10_seasons 46 = .ok (.iconst 0, 1) := by decide +kernel
theorem dX10_seasons_47 : decode cX10_seasons 47 = .ok (.istore 7, 2) := by decide +kernel
theorem dX10_seasons_49 : decode cX10_seasons 49 = .ok (.iload 7, 2) := by decide +kernel
theorem dX10_seasons_51 : decode cX10_seasons 51 = .ok (.iload_n 1, 1) := by decide +kernel
theorem dX10_seasons_52 : decode cX10_seasons 52 = .ok (.if_icmp .ge 85, 3) := by decide +kernel
theorem dX10_seasons_55 : decode cX10_seasons 55 = .ok (.iload 4, 2) := by decide +kernel
theorem dX10_seasons_57 : decode cX10_seasons 57 = .ok (.invokestatic 213, 3) := by decide +kernel
theorem dX10_seasons_60 : decode cX10_seasons 60 = .ok (.istore 4, 2) := by decide +kernel
theorem dX10_seasons_62 : decode cX10_seasons 62 = .ok (.iload 4, 2) := by decide +kernel
theorem dX10_seasons_64 : decode cX10_seasons 64 = .ok (.iconst 3, 1) := by decide +kernel
theorem dX10_seasons_65 : decode cX10_seasons 65 = .ok (.invokestatic 216, 3) := by decide +kernel
theorem dX10_seasons_68 : decode cX10_seasons 68 = .ok (.iconst 1, 1) := by decide +kernel
theorem dX10_seasons_69 : decode cX10_seasons 69 = .ok (.isub, 1) := by decide +kernel
theorem dX10_seasons_70 : decode cX10_seasons 70 = .ok (.istore 8, 2) := by decide +kernel
theorem dX10_seasons_72 : decode cX10_seasons 72 = .ok (.iload 4, 2) := by decide +kernel
theorem dX10_seasons_74 : decode cX10_seasons 74 = .ok (.invokestatic 213, 3) := by decide +kernel
theorem dX10_seasons_77 : decode cX10_seasons 77 = .ok (.istore 4, 2) := by decide +kernel
theorem dX10_seasons_79 : decode cX10_seasons 79 = .ok (.iload 4, 2) := by decide +kernel
theorem dX10_seasons_81 : decode cX10_seasons 81 = .ok (.aload_n 0, 1) := by decide +kernel
theorem dX10_seasons_82 : decode cX10_seasons 82 = .ok (.getfield 197, 3) := by decide +kernel
theorem dX10_seasons_85 : decode cX10_seasons 85 = .ok (.invokestatic 216, 3) := by decide +kernel
theorem dX10_seasons_88 : decode cX10_seasons 88 = .ok (.istore 9, 2) := by decide +kernel
theorem dX10_seasons_90 : decode cX10_seasons 90 = .ok (.iload 4, 2) := by decide +kernel
theorem dX10_seasons_92 : decode cX10_seasons 92 = .ok (.invokestatic 213, 3) := by decide +kernel
theorem dX10_seasons_95 : decode cX10_seasons 95 = .ok (.istore 4, 2) := by decide +kernel
theorem dX10_seasons_97 : decode cX10_seasons 97 = .ok (.aload_n 0, 1) := by decide +kernel
theorem dX10_seasons_98 : decode cX10_seasons 98 = .ok (.iload 9, 2) := by decide +kernel
theorem dX10_seasons_100 : decode cX10_seasons 100 = .ok (.iload 4, 2) := by decide +kernel
theorem dX10_seasons_102 : decode cX10_seasons 102 = .ok (.bipush 36, 2) := by decide +kernel
theorem dX10_seasons_104 : decode cX10_seasons 104 = .ok (.invokestatic 216, 3) := by decide +kernel
theorem dX10_seasons_107 : decode cX10_seasons 107 = .ok (.iload 8, 2) := by decide +kernel
theorem dX10_seasons_109 : decode cX10_seasons 109 = .ok (.invokevirtual 153, 3) := by decide +kernel
theorem dX10_seasons_112 : decode cX10_seasons 112 = .ok (.istore 10, 2) := by decide +kernel
theorem dX10_seasons_114 : decode cX10_seasons 114 = .ok (.iload 5, 2) := by decide +kernel
theorem dX10_seasons_116 : decode cX10_seasons 116 = .ok (.iload 10, 2) := by decide +kernel
theorem dX10_seasons_118 : decode cX10_seasons 118 = .ok (.invokestatic 168, 3) := by decide +kernel
theorem dX10_seasons_121 : decode cX10_seasons 121 = .ok (.iadd, 1) := by decide +kernel
theorem dX10_seasons_122 : decode cX10_seasons 122 = .ok (.istore 5, 2) := by decide +kernel
theorem dX10_seasons_124 : decode cX10_seasons 124 = .ok (.iload 6, 2) := by decide +kernel
theorem dX10_seasons_126 : decode cX10_seasons 126 = .ok (.iload 10, 2) := by decide +kernel
theorem dX10_seasons_128 : decode cX10_seasons 128 = .ok (.ior, 1) := by decide +kernel
theorem dX10_seasons_129 : decode cX10_seasons 129 = .ok (.istore 6, 2) := by decide +kernel
theorem dX10_seasons_131 : decode cX10_seasons 131 = .ok (.iinc 7 1, 3) := by decide +kernel
theorem dX10_seasons_134 : decode cX10_seasons 134 = .ok (.goto (-85), 3) := by decide +kernel
theorem dX10_seasons_137 : decode cX10_seasons 137 = .ok (.iload_n 3, 1) := by decide +kernel
theorem dX10_seasons_138 : decode cX10_seasons 138 = .ok (.iconst 2, 1) := by decide +kernel
theorem dX10_seasons_139 : decode cX10_seasons 139 = .ok (.if_icmp .ne 6, 3) := by decide +kernel
theorem dX10_seasons_142 : decode cX10_seasons 142 = .ok (.iload 4, 2) := by decide +kernel
theorem dX10_seasons_144 : decode cX10_seasons 144 = .ok (.ireturn, 1) := by decide +kernel
theorem dX10_seasons_145 : decode cX10_seasons 145 = .ok (.iload_n 3, 1) := by decide +kernel
theorem dX10_seasons_146 : decode cX10_seasons 146 = .ok (.ifCond .ne 8, 3) := by decide +kernel
theorem dX10_seasons_149 : decode cX10_seasons 149 = .ok (.iload 5, 2) := by decide +kernel
theorem dX10_seasons_151 : decode cX10_seasons 151 = .ok (.goto 8, 3) := by decide +kernel
theorem dX10_seasons_154 : decode cX10_seasons 154 = .ok (.iload 6, 2) := by decide +kernel
theorem dX10_seasons_156 : decode cX10_seasons 156 = .ok (.invokestatic 168, 3) := by decide +kernel
theorem dX10_seasons_159 : decode cX10_seasons 159 = .ok (.ireturn, 1) := by decide +kernel
theorem dX10_image_0 : decode cX10_image 0 = .ok (.aload_n 0, 1) := by decide +kernel
theorem dX10_image_1 : decode cX10_image 1 = .ok (.invokevirtual 173, 3) := by decide +kernel
theorem dX10_image_4 : decode cX10_image 4 = .ok (.ifCond .ne 6, 3) := by decide +kernel
theorem dX10_image_7 : decode cX10_image 7 = .ok (.bipush (-103), 2) := by decide +kernel
theorem dX10_image_9 : decode cX10_image 9 = .ok (.ireturn, 1) := by decide +kernel
theorem dX10_image_10 : decode cX10_image 10 = .ok (.aload_n 0, 1) := by decide +kernel
theorem dX10_image_11 : decode cX10_image 11 = .ok (.getfield 36, 3) := by decide +kernel
theorem dX10_image_14 : decode cX10_image 14 = .ok (.aload_n 0, 1) := by decide +kernel
theorem dX10_image_15 : decode cX10_image 15 = .ok (.getfield 32, 3) := by decide +kernel
theorem dX10_image_18 : decode cX10_image 18 = .ok (.invokevirtual 219, 3) := by decide +kernel
theorem dX10_image_21 : decode cX10_image 21 = .ok (.aload_n 0, 1) := by decide +kernel
theorem dX10_image_22 : decode cX10_image 22 = .ok (.iconst 1, 1) := by decide +kernel
theorem dX10_image_23 : decode cX10_image 23 = .ok (.putfield 223, 3) := by decide +kernel
theorem dX10_image_26 : decode cX10_image 26 = .ok (.aload_n 0, 1) := by decide +kernel
theorem dX10_image_27 : decode cX10_image 27 = .ok (.getfield 32, 3) := by decide +kernel
theorem dX10_image_30 : decode cX10_image 30 = .ok (.getfield 176, 3) := by decide +kernel
theorem dX10_image_33 : decode cX10_image 33 = .ok (.ireturn, 1) := by decide +kernel
theorem dX10_restore_0 : decode cX10_restore 0 = .ok (.aload_n 0, 1) := by decide +kernel
theorem dX10_restore_1 : decode cX10_restore 1 = .ok (.getfield 223, 3) := by decide +kernel
theorem dX10_restore_4 : decode cX10_restore 4 = .ok (.ifCond .ne 6, 3) := by decide +kernel
theorem dX10_restore_7 : decode cX10_restore 7 = .ok (.bipush (-103), 2) := by decide +kernel
theorem dX10_restore_9 : decode cX10_restore 9 = .ok (.ireturn, 1) := by decide +kernel
theorem dX10_restore_10 : decode cX10_restore 10 = .ok (.aload_n 0, 1) := by decide +kernel
theorem dX10_restore_11 : decode cX10_restore 11 = .ok (.getfield 32, 3) := by decide +kernel
theorem dX10_restore_14 : decode cX10_restore 14 = .ok (.aload_n 0, 1) := by decide +kernel
theorem dX10_restore_15 : decode cX10_restore 15 = .ok (.getfield 36, 3) := by decide +kernel
theorem dX10_restore_18 : decode cX10_restore 18 = .ok (.invokevirtual 219, 3) := by decide +kernel
theorem dX10_restore_21 : decode cX10_restore 21 = .ok (.aload_n 0, 1) := by decide +kernel
theorem dX10_restore_22 : decode cX10_restore 22 = .ok (.getfield 32, 3) := by decide +kernel
theorem dX10_restore_25 : decode cX10_restore 25 = .ok (.getfield 176, 3) := by decide +kernel
theorem dX10_restore_28 : decode cX10_restore 28 = .ok (.ireturn, 1) := by decide +kernel
theorem dX10_count_0 : decode cX10_count 0 = .ok (.iload_n 1, 1) := by decide +kernel
theorem dX10_count_1 : decode cX10_count 1 = .ok (.tableswitch 164 0 11 #[63, 68, 73, 84, 92, 102, 110, 121, 132, 140, 151, 159], 63) := by decide +kernel
theorem dX10_count_64 : decode cX10_count 64 = .ok (.aload_n 0, 1) := by decide +kernel
theorem dX10_count_65 : decode cX10_count 65 = .ok (.getfield 72, 3) := by decide +kernel
theorem dX10_count_68 : decode cX10_count 68 = .ok (.ireturn, 1) := by decide +kernel
theorem dX10_count_69 : decode cX10_count 69 = .ok (.aload_n 0, 1) := by decide +kernel
theorem dX10_count_70 : decode cX10_count 70 = .ok (.getfield 197, 3) := by decide +kernel
theorem dX10_count_73 : decode cX10_count 73 = .ok (.ireturn, 1) := by decide +kernel
theorem dX10_count_74 : decode cX10_count 74 = .ok (.aload_n 0, 1) := by decide +kernel
theorem dX10_count_75 : decode cX10_count 75 = .ok (.getfield 32, 3) := by decide +kernel
theorem dX10_count_78 : decode cX10_count 78 = .ok (.getfield 86, 3) := by decide +kernel
theorem dX10_count_81 : decode cX10_count 81 = .ok (.invokestatic 168, 3) := by decide +kernel
theorem dX10_count_84 : decode cX10_count 84 = .ok (.ireturn, 1) := by decide +kernel
theorem dX10_count_85 : decode cX10_count 85 = .ok (.aload_n 0, 1) := by decide +kernel
theorem dX10_count_86 : decode cX10_count 86 = .ok (.getfield 32, 3) := by decide +kernel
theorem dX10_count_89 : decode cX10_count 89 = .ok (.getfield 159, 3) := by decide +kernel
theorem dX10_count_92 : decode cX10_count 92 = .ok (.ireturn, 1) := by decide +kernel
theorem dX10_count_93 : decode cX10_count 93 = .ok (.aload_n 0, 1) := by decide +kernel
theorem dX10_count_94 : decode cX10_count 94 = .ok (.getfield 32, 3) := by decide +kernel
theorem dX10_count_97 : decode cX10_count 97 = .ok (.getfield 146, 3) := by decide +kernel
theorem dX10_count_100 : decode cX10_count 100 = .ok (.iconst 1, 1) := by decide +kernel
theorem dX10_count_101 : decode cX10_count 101 = .ok (.iadd, 1) := by decide +kernel
theorem dX10_count_102 : decode cX10_count 102 = .ok (.ireturn, 1) := by decide +kernel
theorem dX10_count_103 : decode cX10_count 103 = .ok (.aload_n 0, 1) := by decide +kernel
theorem dX10_count_104 : decode cX10_count 104 = .ok (.getfield 32, 3) := by decide +kernel
theorem dX10_count_107 : decode cX10_count 107 = .ok (.getfield 176, 3) := by decide +kernel
theorem dX10_count_110 : decode cX10_count 110 = .ok (.ireturn, 1) := by decide +kernel
theorem dX10_count_111 : decode cX10_count 111 = .ok (.aload_n 0, 1) := by decide +kernel
theorem dX10_count_112 : decode cX10_count 112 = .ok (.getfield 32, 3) := by decide +kernel
theorem dX10_count_115 : decode cX10_count 115 = .ok (.getfield 89, 3) := by decide +kernel
theorem dX10_count_118 : decode cX10_count 118 = .ok (.invokestatic 227, 3) := by decide +kernel
theorem dX10_count_121 : decode cX10_count 121 = .ok (.ireturn, 1) := by decide +kernel
theorem dX10_count_122 : decode cX10_count 122 = .ok (.aload_n 0, 1) := by decide +kernel
theorem dX10_count_123 : decode cX10_count 123 = .ok (.getfield 32, 3) := by decide +kernel
theorem dX10_count_126 : decode cX10_count 126 = .ok (.getfield 92, 3) := by decide +kernel
theorem dX10_count_129 : decode cX10_count 129 = .ok (.invokestatic 227, 3) := by decide +kernel
theorem dX10_count_132 : decode cX10_count 132 = .ok (.ireturn, 1) := by decide +kernel
theorem dX10_count_133 : decode cX10_count 133 = .ok (.aload_n 0, 1) := by decide +kernel
theorem dX10_count_134 : decode cX10_count 134 = .ok (.getfield 32, 3) := by decide +kernel
theorem dX10_count_137 : decode cX10_count 137 = .ok (.getfield 161, 3) := by decide +kernel
theorem dX10_count_140 : decode cX10_count 140 = .ok (.ireturn, 1) := by decide +kernel
theorem dX10_count_141 : decode cX10_count 141 = .ok (.aload_n 0, 1) := by decide +kernel
theorem dX10_count_142 : decode cX10_count 142 = .ok (.getfield 32, 3) := by decide +kernel
theorem dX10_count_145 : decode cX10_count 145 = .ok (.getfield 123, 3) := by decide +kernel
theorem dX10_count_148 : decode cX10_count 148 = .ok (.getfield 206, 3) := by decide +kernel
theorem dX10_count_151 : decode cX10_count 151 = .ok (.ireturn, 1) := by decide +kernel
theorem dX10_count_152 : decode cX10_count 152 = .ok (.aload_n 0, 1) := by decide +kernel
theorem dX10_count_153 : decode cX10_count 153 = .ok (.getfield 10, 3) := by decide +kernel
theorem dX10_count_156 : decode cX10_count 156 = .ok (.getfield 50, 3) := by decide +kernel
theorem dX10_count_159 : decode cX10_count 159 = .ok (.ireturn, 1) := by decide +kernel
theorem dX10_count_160 : decode cX10_count 160 = .ok (.aload_n 0, 1) := by decide +kernel
theorem dX10_count_161 : decode cX10_count 161 = .ok (.getfield 69, 3) := by decide +kernel
theorem dX10_count_164 : decode cX10_count 164 = .ok (.ireturn, 1) := by decide +kernel
theorem dX10_count_165 : decode cX10_count 165 = .ok (.bipush (-102), 2) := by decide +kernel
theorem dX10_count_167 : decode cX10_count 167 = .ok (.ireturn, 1) := by decide +kernel
theorem dX10_digest_0 : decode cX10_digest 0 = .ok (.ldc2_w 231, 3) := by decide +kernel
theorem dX10_digest_3 : decode cX10_digest 3 = .ok (.lstore_n 1, 1) := by decide +kernel
theorem dX10_digest_4 : decode cX10_digest 4 = .ok (.iconst 0, 1) := by decide +kernel
theorem dX10_digest_5 : decode cX10_digest 5 = .ok (.istore_n 3, 1) := by decide +kernel
theorem dX10_digest_6 : decode cX10_digest 6 = .ok (.iload_n 3, 1) := by decide +kernel
theorem dX10_digest_7 : decode cX10_digest 7 = .ok (.aload_n 0, 1) := by decide +kernel
theorem dX10_digest_8 : decode cX10_digest 8 = .ok (.getfield 72, 3) := by decide +kernel
theorem dX10_digest_11 : decode cX10_digest 11 = .ok (.if_icmp .ge 39, 3) := by decide +kernel
theorem dX10_digest_14 : decode cX10_digest 14 = .ok (.iconst 0, 1) := by decide +kernel
theorem dX10_digest_15 : decode cX10_digest 15 = .ok (.istore 4, 2) := by decide +kernel
theorem dX10_digest_17 : decode cX10_digest 17 = .ok (.iload 4, 2) := by decide +kernel
theorem dX10_digest_19 : decode cX10_digest 19 = .ok (.iconst 4, 1) := by decide +kernel
theorem dX10_digest_20 : decode cX10_digest 20 = .ok (.if_icmp .gt 24, 3) := by decide +kernel
theorem dX10_digest_23 : decode cX10_digest 23 = .ok (.ldc2_w 233, 3) := by decide +kernel
theorem dX10_digest_26 : decode cX10_digest 26 = .ok (.lload_n 1, 1) := by decide +kernel
theorem dX10_digest_27 : decode cX10_digest 27 = .ok (.lmul, 1) := by decide +kernel
theorem dX10_digest_28 : decode cX10_digest 28 = .ok (.aload_n 0, 1) := by decide +kernel
theorem dX10_digest_29 : decode cX10_digest 29 = .ok (.iload_n 3, 1) := by decide +kernel
theorem dX10_digest_30 : decode cX10_digest 30 = .ok (.iload 4, 2) := by decide +kernel
theorem dX10_digest_32 : decode cX10_digest 32 = .ok (.invokevirtual 235, 3) := by decide +kernel
theorem dX10_digest_35 : decode cX10_digest 35 = .ok (.i2l, 1) := by decide +kernel
theorem dX10_digest_36 : decode cX10_digest 36 = .ok (.ladd, 1) := by decide +kernel
theorem dX10_digest_37 : decode cX10_digest 37 = .ok (.lstore_n 1, 1) := by decide +kernel
theorem dX10_digest_38 : decode cX10_digest 38 = .ok (.iinc 4 1, 3) := by decide +kernel
theorem dX10_digest_41 : decode cX10_digest 41 = .ok (.goto (-24), 3) := by decide +kernel
theorem dX10_digest_44 : decode cX10_digest 44 = .ok (.iinc 3 1, 3) := by decide +kernel
theorem dX10_digest_47 : decode cX10_digest 47 = .ok (.goto (-41), 3) := by decide +kernel
theorem dX10_digest_50 : decode cX10_digest 50 = .ok (.iconst 0, 1) := by decide +kernel
theorem dX10_digest_51 : decode cX10_digest 51 = .ok (.istore_n 3, 1) := by decide +kernel
theorem dX10_digest_52 : decode cX10_digest 52 = .ok (.iload_n 3, 1) := by decide +kernel
theorem dX10_digest_53 : decode cX10_digest 53 = .ok (.aload_n 0, 1) := by decide +kernel
theorem dX10_digest_54 : decode cX10_digest 54 = .ok (.getfield 197, 3) := by decide +kernel
theorem dX10_digest_57 : decode cX10_digest 57 = .ok (.if_icmp .ge 70, 3) := by decide +kernel
theorem dX10_digest_60 : decode cX10_digest 60 = .ok (.iconst 0, 1) := by decide +kernel
theorem dX10_digest_61 : decode cX10_digest 61 = .ok (.istore 4, 2) := by decide +kernel
theorem dX10_digest_63 : decode cX10_digest 63 = .ok (.iload 4, 2) := by decide +kernel
theorem dX10_digest_65 : decode cX10_digest 65 = .ok (.bipush 8, 2) := by decide +kernel
theorem dX10_digest_67 : decode cX10_digest 67 = .ok (.if_icmp .gt 24, 3) := by decide +kernel
theorem dX10_digest_70 : decode cX10_digest 70 = .ok (.ldc2_w 233, 3) := by decide +kernel
theorem dX10_digest_73 : decode cX10_digest 73 = .ok (.lload_n 1, 1) := by decide +kernel
theorem dX10_digest_74 : decode cX10_digest 74 = .ok (.lmul, 1) := by decide +kernel
theorem dX10_digest_75 : decode cX10_digest 75 = .ok (.aload_n 0, 1) := by decide +kernel
theorem dX10_digest_76 : decode cX10_digest 76 = .ok (.iload_n 3, 1) := by decide +kernel
theorem dX10_digest_77 : decode cX10_digest 77 = .ok (.iload 4, 2) := by decide +kernel
theorem dX10_digest_79 : decode cX10_digest 79 = .ok (.invokevirtual 238, 3) := by decide +kernel
theorem dX10_digest_82 : decode cX10_digest 82 = .ok (.i2l, 1) := by decide +kernel
theorem dX10_digest_83 : decode cX10_digest 83 = .ok (.ladd, 1) := by decide +kernel
end
section
theorem dX10_digest_84 : decode cX10_digest 84 = .ok (.lstore_n 1, 1) := by decide +kernel
theorem dX10_digest_85 : decode cX10_digest 85 = .ok (.iinc 4 1, 3) := by decide +kernel
theorem dX10_digest_88 : decode cX10_digest 88 = .ok (.goto (-25), 3) := by decide +kernel
theorem dX10_digest_91 : decode cX10_digest 91 = .ok (.ldc2_w 233, 3) := by decide +kernel
theorem dX10_digest_94 : decode cX10_digest 94 = .ok (.lload_n 1, 1) := by decide +kernel
theorem dX10_digest_95 : decode cX10_digest 95 = .ok (.lmul, 1) := by decide +kernel
theorem dX10_digest_96 : decode cX10_digest 96 = .ok (.aload_n 0, 1) := by decide +kernel
theorem dX10_digest_97 : decode cX10_digest 97 = .ok (.iload_n 3, 1) := by decide +kernel
theorem dX10_digest_98 : decode cX10_digest 98 = .ok (.bipush 14, 2) := by decide +kernel
theorem dX10_digest_100 : decode cX10_digest 100 = .ok (.invokevirtual 241, 3) := by decide +kernel
theorem dX10_digest_103 : decode cX10_digest 103 = .ok (.i2l, 1) := by decide +kernel
theorem dX10_digest_104 : decode cX10_digest 104 = .ok (.ladd, 1) := by decide +kernel
theorem dX10_digest_105 : decode cX10_digest 105 = .ok (.lstore_n 1, 1) := by decide +kernel
theorem dX10_digest_106 : decode cX10_digest 106 = .ok (.ldc2_w 233, 3) := by decide +kernel
theorem dX10_digest_109 : decode cX10_digest 109 = .ok (.lload_n 1, 1) := by decide +kernel
theorem dX10_digest_110 : decode cX10_digest 110 = .ok (.lmul, 1) := by decide +kernel
theorem dX10_digest_111 : decode cX10_digest 111 = .ok (.aload_n 0, 1) := by decide +kernel
theorem dX10_digest_112 : decode cX10_digest 112 = .ok (.iload_n 3, 1) := by decide +kernel
theorem dX10_digest_113 : decode cX10_digest 113 = .ok (.bipush 14, 2) := by decide +kernel
theorem dX10_digest_115 : decode cX10_digest 115 = .ok (.invokevirtual 244, 3) := by decide +kernel
theorem dX10_digest_118 : decode cX10_digest 118 = .ok (.i2l, 1) := by decide +kernel
theorem dX10_digest_119 : decode cX10_digest 119 = .ok (.ladd, 1) := by decide +kernel
theorem dX10_digest_120 : decode cX10_digest 120 = .ok (.lstore_n 1, 1) := by decide +kernel
theorem dX10_digest_121 : decode cX10_digest 121 = .ok (.iinc 3 1, 3) := by decide +kernel
theorem dX10_digest_124 : decode cX10_digest 124 = .ok (.goto (-72), 3) := by decide +kernel
theorem dX10_digest_127 : decode cX10_digest 127 = .ok (.aload_n 0, 1) := by decide +kernel
theorem dX10_digest_128 : decode cX10_digest 128 = .ok (.invokevirtual 173, 3) := by decide +kernel
theorem dX10_digest_131 : decode cX10_digest 131 = .ok (.ifCond .eq 9, 3) := by decide +kernel
theorem dX10_digest_134 : decode cX10_digest 134 = .ok (.aload_n 0, 1) := by decide +kernel
theorem dX10_digest_135 : decode cX10_digest 135 = .ok (.lload_n 1, 1) := by decide +kernel
theorem dX10_digest_136 : decode cX10_digest 136 = .ok (.invokevirtual 247, 3) := by decide +kernel
theorem dX10_digest_139 : decode cX10_digest 139 = .ok (.lstore_n 1, 1) := by decide +kernel
theorem dX10_digest_140 : decode cX10_digest 140 = .ok (.iconst 0, 1) := by decide +kernel
theorem dX10_digest_141 : decode cX10_digest 141 = .ok (.istore_n 3, 1) := by decide +kernel
theorem dX10_digest_142 : decode cX10_digest 142 = .ok (.iload_n 3, 1) := by decide +kernel
theorem dX10_digest_143 : decode cX10_digest 143 = .ok (.aload_n 0, 1) := by decide +kernel
theorem dX10_digest_144 : decode cX10_digest 144 = .ok (.getfield 10, 3) := by decide +kernel
theorem dX10_digest_147 : decode cX10_digest 147 = .ok (.getfield 50, 3) := by decide +kernel
theorem dX10_digest_150 : decode cX10_digest 150 = .ok (.if_icmp .ge 28, 3) := by decide +kernel
theorem dX10_digest_153 : decode cX10_digest 153 = .ok (.ldc2_w 233, 3) := by decide +kernel
theorem dX10_digest_156 : decode cX10_digest 156 = .ok (.lload_n 1, 1) := by decide +kernel
theorem dX10_digest_157 : decode cX10_digest 157 = .ok (.lmul, 1) := by decide +kernel
theorem dX10_digest_158 : decode cX10_digest 158 = .ok (.aload_n 0, 1) := by decide +kernel
theorem dX10_digest_159 : decode cX10_digest 159 = .ok (.getfield 10, 3) := by decide +kernel
theorem dX10_digest_162 : decode cX10_digest 162 = .ok (.getfield 251, 3) := by decide +kernel
theorem dX10_digest_165 : decode cX10_digest 165 = .ok (.iload_n 3, 1) := by decide +kernel
theorem dX10_digest_166 : decode cX10_digest 166 = .ok (.invokestatic 82, 3) := by decide +kernel
theorem dX10_digest_169 : decode cX10_digest 169 = .ok (.i2l, 1) := by decide +kernel
theorem dX10_digest_170 : decode cX10_digest 170 = .ok (.ladd, 1) := by decide +kernel
theorem dX10_digest_171 : decode cX10_digest 171 = .ok (.lstore_n 1, 1) := by decide +kernel
theorem dX10_digest_172 : decode cX10_digest 172 = .ok (.iinc 3 1, 3) := by decide +kernel
theorem dX10_digest_175 : decode cX10_digest 175 = .ok (.goto (-33), 3) := by decide +kernel
theorem dX10_digest_178 : decode cX10_digest 178 = .ok (.iconst 0, 1) := by decide +kernel
theorem dX10_digest_179 : decode cX10_digest 179 = .ok (.istore_n 3, 1) := by decide +kernel
theorem dX10_digest_180 : decode cX10_digest 180 = .ok (.iload_n 3, 1) := by decide +kernel
theorem dX10_digest_181 : decode cX10_digest 181 = .ok (.bipush 11, 2) := by decide +kernel
theorem dX10_digest_183 : decode cX10_digest 183 = .ok (.if_icmp .gt 22, 3) := by decide +kernel
theorem dX10_digest_186 : decode cX10_digest 186 = .ok (.ldc2_w 233, 3) := by decide +kernel
theorem dX10_digest_189 : decode cX10_digest 189 = .ok (.lload_n 1, 1) := by decide +kernel
theorem dX10_digest_190 : decode cX10_digest 190 = .ok (.lmul, 1) := by decide +kernel
theorem dX10_digest_191 : decode cX10_digest 191 = .ok (.aload_n 0, 1) := by decide +kernel
theorem dX10_digest_192 : decode cX10_digest 192 = .ok (.iload_n 3, 1) := by decide +kernel
theorem dX10_digest_193 : decode cX10_digest 193 = .ok (.invokevirtual 254, 3) := by decide +kernel
theorem dX10_digest_196 : decode cX10_digest 196 = .ok (.i2l, 1) := by decide +kernel
theorem dX10_digest_197 : decode cX10_digest 197 = .ok (.ladd, 1) := by decide +kernel
theorem dX10_digest_198 : decode cX10_digest 198 = .ok (.lstore_n 1, 1) := by decide +kernel
theorem dX10_digest_199 : decode cX10_digest 199 = .ok (.iinc 3 1, 3) := by decide +kernel
theorem dX10_digest_202 : decode cX10_digest 202 = .ok (.goto (-22), 3) := by decide +kernel
theorem dX10_digest_205 : decode cX10_digest 205 = .ok (.lload_n 1, 1) := by decide +kernel
theorem dX10_digest_206 : decode cX10_digest 206 = .ok (.lreturn, 1) := by decide +kernel
theorem dX10_digestOfPlans_0 : decode cX10_digestOfPlans 0 = .ok (.lload_n 1, 1) := by decide +kernel
theorem dX10_digestOfPlans_1 : decode cX10_digestOfPlans 1 = .ok (.lstore_n 3, 1) := by decide +kernel
theorem dX10_digestOfPlans_2 : decode cX10_digestOfPlans 2 = .ok (.aload_n 0, 1) := by decide +kernel
theorem dX10_digestOfPlans_3 : decode cX10_digestOfPlans 3 = .ok (.aload_n 0, 1) := by decide +kernel
theorem dX10_digestOfPlans_4 : decode cX10_digestOfPlans 4 = .ok (.invokevirtual 188, 3) := by decide +kernel
theorem dX10_digestOfPlans_7 : decode cX10_digestOfPlans 7 = .ok (.aload_n 0, 1) := by decide +kernel
theorem dX10_digestOfPlans_8 : decode cX10_digestOfPlans 8 = .ok (.getfield 32, 3) := by decide +kernel
theorem dX10_digestOfPlans_11 : decode cX10_digestOfPlans 11 = .ok (.getfield 86, 3) := by decide +kernel
theorem dX10_digestOfPlans_14 : decode cX10_digestOfPlans 14 = .ok (.iconst (-1), 1) := by decide +kernel
theorem dX10_digestOfPlans_15 : decode cX10_digestOfPlans 15 = .ok (.ixor, 1) := by decide +kernel
theorem dX10_digestOfPlans_16 : decode cX10_digestOfPlans 16 = .ok (.iand, 1) := by decide +kernel
theorem dX10_digestOfPlans_17 : decode cX10_digestOfPlans 17 = .ok (.invokevirtual 191, 3) := by decide +kernel
theorem dX10_digestOfPlans_20 : decode cX10_digestOfPlans 20 = .ok (.ldc2_w 233, 3) := by decide +kernel
theorem dX10_digestOfPlans_23 : decode cX10_digestOfPlans 23 = .ok (.lload_n 3, 1) := by decide +kernel
theorem dX10_digestOfPlans_24 : decode cX10_digestOfPlans 24 = .ok (.lmul, 1) := by decide +kernel
theorem dX10_digestOfPlans_25 : decode cX10_digestOfPlans 25 = .ok (.aload_n 0, 1) := by decide +kernel
theorem dX10_digestOfPlans_26 : decode cX10_digestOfPlans 26 = .ok (.getfield 42, 3) := by decide +kernel
theorem dX10_digestOfPlans_29 : decode cX10_digestOfPlans 29 = .ok (.iconst 0, 1) := by decide +kernel
theorem dX10_digestOfPlans_30 : decode cX10_digestOfPlans 30 = .ok (.invokevirtual 194, 3) := by decide +kernel
theorem dX10_digestOfPlans_33 : decode cX10_digestOfPlans 33 = .ok (.i2l, 1) := by decide +kernel
theorem dX10_digestOfPlans_34 : decode cX10_digestOfPlans 34 = .ok (.ladd, 1) := by decide +kernel
theorem dX10_digestOfPlans_35 : decode cX10_digestOfPlans 35 = .ok (.lstore_n 3, 1) := by decide +kernel
theorem dX10_digestOfPlans_36 : decode cX10_digestOfPlans 36 = .ok (.ldc2_w 233, 3) := by decide +kernel
theorem dX10_digestOfPlans_39 : decode cX10_digestOfPlans 39 = .ok (.lload_n 3, 1) := by decide +kernel
theorem dX10_digestOfPlans_40 : decode cX10_digestOfPlans 40 = .ok (.lmul, 1) := by decide +kernel
theorem dX10_digestOfPlans_41 : decode cX10_digestOfPlans 41 = .ok (.aload_n 0, 1) := by decide +kernel
theorem dX10_digestOfPlans_42 : decode cX10_digestOfPlans 42 = .ok (.getfield 42, 3) := by decide +kernel
theorem dX10_digestOfPlans_45 : decode cX10_digestOfPlans 45 = .ok (.iconst 1, 1) := by decide +kernel
theorem dX10_digestOfPlans_46 : decode cX10_digestOfPlans 46 = .ok (.invokevirtual 194, 3) := by decide +kernel
theorem dX10_digestOfPlans_49 : decode cX10_digestOfPlans 49 = .ok (.i2l, 1) := by decide +kernel
theorem dX10_digestOfPlans_50 : decode cX10_digestOfPlans 50 = .ok (.ladd, 1) := by decide +kernel
theorem dX10_digestOfPlans_51 : decode cX10_digestOfPlans 51 = .ok (.lstore_n 3, 1) := by decide +kernel
theorem dX10_digestOfPlans_52 : decode cX10_digestOfPlans 52 = .ok (.bipush 10, 2) := by decide +kernel
theorem dX10_digestOfPlans_54 : decode cX10_digestOfPlans 54 = .ok (.istore 5, 2) := by decide +kernel
theorem dX10_digestOfPlans_56 : decode cX10_digestOfPlans 56 = .ok (.iload 5, 2) := by decide +kernel
theorem dX10_digestOfPlans_58 : decode cX10_digestOfPlans 58 = .ok (.bipush 15, 2) := by decide +kernel
theorem dX10_digestOfPlans_60 : decode cX10_digestOfPlans 60 = .ok (.if_icmp .gt 26, 3) := by decide +kernel
theorem dX10_digestOfPlans_63 : decode cX10_digestOfPlans 63 = .ok (.ldc2_w 233, 3) := by decide +kernel
theorem dX10_digestOfPlans_66 : decode cX10_digestOfPlans 66 = .ok (.lload_n 3, 1) := by decide +kernel
theorem dX10_digestOfPlans_67 : decode cX10_digestOfPlans 67 = .ok (.lmul, 1) := by decide +kernel
theorem dX10_digestOfPlans_68 : decode cX10_digestOfPlans 68 = .ok (.aload_n 0, 1) := by decide +kernel
theorem dX10_digestOfPlans_69 : decode cX10_digestOfPlans 69 = .ok (.getfield 42, 3) := by decide +kernel
theorem dX10_digestOfPlans_72 : decode cX10_digestOfPlans 72 = .ok (.iload 5, 2) := by decide +kernel
theorem dX10_digestOfPlans_74 : decode cX10_digestOfPlans 74 = .ok (.invokevirtual 194, 3) := by decide +kernel
theorem dX10_digestOfPlans_77 : decode cX10_digestOfPlans 77 = .ok (.i2l, 1) := by decide +kernel
theorem dX10_digestOfPlans_78 : decode cX10_digestOfPlans 78 = .ok (.ladd, 1) := by decide +kernel
theorem dX10_digestOfPlans_79 : decode cX10_digestOfPlans 79 = .ok (.lstore_n 3, 1) := by decide +kernel
theorem dX10_digestOfPlans_80 : decode cX10_digestOfPlans 80 = .ok (.iinc 5 1, 3) := by decide +kernel
theorem dX10_digestOfPlans_83 : decode cX10_digestOfPlans 83 = .ok (.goto (-27), 3) := by decide +kernel
theorem dX10_digestOfPlans_86 : decode cX10_digestOfPlans 86 = .ok (.ldc2_w 233, 3) := by decide +kernel
theorem dX10_digestOfPlans_89 : decode cX10_digestOfPlans 89 = .ok (.lload_n 3, 1) := by decide +kernel
theorem dX10_digestOfPlans_90 : decode cX10_digestOfPlans 90 = .ok (.lmul, 1) := by decide +kernel
theorem dX10_digestOfPlans_91 : decode cX10_digestOfPlans 91 = .ok (.aload_n 0, 1) := by decide +kernel
theorem dX10_digestOfPlans_92 : decode cX10_digestOfPlans 92 = .ok (.invokevirtual 256, 3) := by decide +kernel
theorem dX10_digestOfPlans_95 : decode cX10_digestOfPlans 95 = .ok (.i2l, 1) := by decide +kernel
theorem dX10_digestOfPlans_96 : decode cX10_digestOfPlans 96 = .ok (.ladd, 1) := by decide +kernel
theorem dX10_digestOfPlans_97 : decode cX10_digestOfPlans 97 = .ok (.lstore_n 3, 1) := by decide +kernel
theorem dX10_digestOfPlans_98 : decode cX10_digestOfPlans 98 = .ok (.ldc2_w 233, 3) := by decide +kernel
theorem dX10_digestOfPlans_101 : decode cX10_digestOfPlans 101 = .ok (.lload_n 3, 1) := by decide +kernel
theorem dX10_digestOfPlans_102 : decode cX10_digestOfPlans 102 = .ok (.lmul, 1) := by decide +kernel
theorem dX10_digestOfPlans_103 : decode cX10_digestOfPlans 103 = .ok (.aload_n 0, 1) := by decide +kernel
theorem dX10_digestOfPlans_104 : decode cX10_digestOfPlans 104 = .ok (.iconst 0, 1) := by decide +kernel
theorem dX10_digestOfPlans_105 : decode cX10_digestOfPlans 105 = .ok (.invokevirtual 259, 3) := by decide +kernel
theorem dX10_digestOfPlans_108 : decode cX10_digestOfPlans 108 = .ok (.i2l, 1) := by decide +kernel
theorem dX10_digestOfPlans_109 : decode cX10_digestOfPlans 109 = .ok (.ladd, 1) := by decide +kernel
theorem dX10_digestOfPlans_110 : decode cX10_digestOfPlans 110 = .ok (.lstore_n 3, 1) := by decide +kernel
theorem dX10_digestOfPlans_111 : decode cX10_digestOfPlans 111 = .ok (.ldc2_w 233, 3) := by decide +kernel
theorem dX10_digestOfPlans_114 : decode cX10_digestOfPlans 114 = .ok (.lload_n 3, 1) := by decide +kernel
theorem dX10_digestOfPlans_115 : decode cX10_digestOfPlans 115 = .ok (.lmul, 1) := by decide +kernel
theorem dX10_digestOfPlans_116 : decode cX10_digestOfPlans 116 = .ok (.aload_n 0, 1) := by decide +kernel
theorem dX10_digestOfPlans_117 : decode cX10_digestOfPlans 117 = .ok (.bipush 21, 2) := by decide +kernel
theorem dX10_digestOfPlans_119 : decode cX10_digestOfPlans 119 = .ok (.invokevirtual 259, 3) := by decide +kernel
theorem dX10_digestOfPlans_122 : decode cX10_digestOfPlans 122 = .ok (.i2l, 1) := by decide +kernel
theorem dX10_digestOfPlans_123 : decode cX10_digestOfPlans 123 = .ok (.ladd, 1) := by decide +kernel
theorem dX10_digestOfPlans_124 : decode cX10_digestOfPlans 124 = .ok (.lreturn, 1) := by decide +kernel
theorem dX10_hasPort_0 : decode cX10_hasPort 0 = .ok (.aload_n 0, 1) := by decide +kernel
theorem dX10_hasPort_1 : decode cX10_hasPort 1 = .ok (.getfield 72, 3) := by decide +kernel
theorem dX10_hasPort_4 : decode cX10_hasPort 4 = .ok (.ifCond .le 7, 3) := by decide +kernel
theorem dX10_hasPort_7 : decode cX10_hasPort 7 = .ok (.iconst 1, 1) := by decide +kernel
theorem dX10_hasPort_8 : decode cX10_hasPort 8 = .ok (.goto 4, 3) := by decide +kernel
theorem dX10_hasPort_11 : decode cX10_hasPort 11 = .ok (.iconst 0, 1) := by decide +kernel
theorem dX10_hasPort_12 : decode cX10_hasPort 12 = .ok (.ireturn, 1) := by decide +kernel
theorem dX10_isCell_0 : decode cX10_isCell 0 = .ok (.aload_n 0, 1) := by decide +kernel
theorem dX10_isCell_1 : decode cX10_isCell 1 = .ok (.invokevirtual 173, 3) := by decide +kernel
theorem dX10_isCell_4 : decode cX10_isCell 4 = .ok (.ifCond .eq 17, 3) := by decide +kernel
theorem dX10_isCell_7 : decode cX10_isCell 7 = .ok (.iload_n 1, 1) := by decide +kernel
theorem dX10_isCell_8 : decode cX10_isCell 8 = .ok (.ifCond .lt 13, 3) := by decide +kernel
theorem dX10_isCell_11 : decode cX10_isCell 11 = .ok (.iload_n 1, 1) := by decide +kernel
theorem dX10_isCell_12 : decode cX10_isCell 12 = .ok (.bipush 36, 2) := by decide +kernel
theorem dX10_isCell_14 : decode cX10_isCell 14 = .ok (.if_icmp .ge 7, 3) := by decide +kernel
theorem dX10_isCell_17 : decode cX10_isCell 17 = .ok (.iconst 1, 1) := by decide +kernel
theorem dX10_isCell_18 : decode cX10_isCell 18 = .ok (.goto 4, 3) := by decide +kernel
theorem dX10_isCell_21 : decode cX10_isCell 21 = .ok (.iconst 0, 1) := by decide +kernel
theorem dX10_isCell_22 : decode cX10_isCell 22 = .ok (.ireturn, 1) := by decide +kernel
theorem dX10_isSleeper_0 : decode cX10_isSleeper 0 = .ok (.iload_n 1, 1) := by decide +kernel
theorem dX10_isSleeper_1 : decode cX10_isSleeper 1 = .ok (.ifCond .lt 15, 3) := by decide +kernel
theorem dX10_isSleeper_4 : decode cX10_isSleeper 4 = .ok (.iload_n 1, 1) := by decide +kernel
theorem dX10_isSleeper_5 : decode cX10_isSleeper 5 = .ok (.aload_n 0, 1) := by decide +kernel
theorem dX10_isSleeper_6 : decode cX10_isSleeper 6 = .ok (.getfield 72, 3) := by decide +kernel
theorem dX10_isSleeper_9 : decode cX10_isSleeper 9 = .ok (.if_icmp .ge 7, 3) := by decide +kernel
theorem dX10_isSleeper_12 : decode cX10_isSleeper 12 = .ok (.iconst 1, 1) := by decide +kernel
theorem dX10_isSleeper_13 : decode cX10_isSleeper 13 = .ok (.goto 4, 3) := by decide +kernel
theorem dX10_isSleeper_16 : decode cX10_isSleeper 16 = .ok (.iconst 0, 1) := by decide +kernel
theorem dX10_isSleeper_17 : decode cX10_isSleeper 17 = .ok (.ireturn, 1) := by decide +kernel
theorem dX10_tosserAt_0 : decode cX10_tosserAt 0 = .ok (.iload_n 1, 1) := by decide +kernel
theorem dX10_tosserAt_1 : decode cX10_tosserAt 1 = .ok (.ifCond .lt 24, 3) := by decide +kernel
theorem dX10_tosserAt_4 : decode cX10_tosserAt 4 = .ok (.iload_n 1, 1) := by decide +kernel
theorem dX10_tosserAt_5 : decode cX10_tosserAt 5 = .ok (.aload_n 0, 1) := by decide +kernel
theorem dX10_tosserAt_6 : decode cX10_tosserAt 6 = .ok (.getfield 197, 3) := by decide +kernel
theorem dX10_tosserAt_9 : decode cX10_tosserAt 9 = .ok (.if_icmp .ge 16, 3) := by decide +kernel
theorem dX10_tosserAt_12 : decode cX10_tosserAt 12 = .ok (.iload_n 1, 1) := by decide +kernel
theorem dX10_tosserAt_13 : decode cX10_tosserAt 13 = .ok (.aload_n 0, 1) := by decide +kernel
theorem dX10_tosserAt_14 : decode cX10_tosserAt 14 = .ok (.getfield 25, 3) := by decide +kernel
theorem dX10_tosserAt_17 : decode cX10_tosserAt 17 = .ok (.arraylength, 1) := by decide +kernel
theorem dX10_tosserAt_18 : decode cX10_tosserAt 18 = .ok (.if_icmp .ge 7, 3) := by decide +kernel
theorem dX10_tosserAt_21 : decode cX10_tosserAt 21 = .ok (.iconst 1, 1) := by decide +kernel
theorem dX10_tosserAt_22 : decode cX10_tosserAt 22 = .ok (.goto 4, 3) := by decide +kernel
theorem dX10_tosserAt_25 : decode cX10_tosserAt 25 = .ok (.iconst 0, 1) := by decide +kernel
theorem dX10_tosserAt_26 : decode cX10_tosserAt 26 = .ok (.istore_n 2, 1) := by decide +kernel
theorem dX10_tosserAt_27 : decode cX10_tosserAt 27 = .ok (.iload_n 2, 1) := by decide +kernel
theorem dX10_tosserAt_28 : decode cX10_tosserAt 28 = .ok (.ifCond .eq 12, 3) := by decide +kernel
theorem dX10_tosserAt_31 : decode cX10_tosserAt 31 = .ok (.aload_n 0, 1) := by decide +kernel
theorem dX10_tosserAt_32 : decode cX10_tosserAt 32 = .ok (.getfield 25, 3) := by decide +kernel
theorem dX10_tosserAt_35 : decode cX10_tosserAt 35 = .ok (.iload_n 1, 1) := by decide +kernel
theorem dX10_tosserAt_36 : decode cX10_tosserAt 36 = .ok (.aaload, 1) := by decide +kernel
theorem dX10_tosserAt_37 : decode cX10_tosserAt 37 = .ok (.goto 4, 3) := by decide +kernel
theorem dX10_tosserAt_40 : decode cX10_tosserAt 40 = .ok (.aconst_null, 1) := by decide +kernel
theorem dX10_tosserAt_41 : decode cX10_tosserAt 41 = .ok (.areturn, 1) := by decide +kernel
theorem dX10_isToss_0 : decode cX10_isToss 0 = .ok (.aload_n 0, 1) := by decide +kernel
theorem dX10_isToss_1 : decode cX10_isToss 1 = .ok (.iload_n 1, 1) := by decide +kernel
theorem dX10_isToss_2 : decode cX10_isToss 2 = .ok (.invokevirtual 99, 3) := by decide +kernel
theorem dX10_isToss_5 : decode cX10_isToss 5 = .ok (.ifnull 15, 3) := by decide +kernel
theorem dX10_isToss_8 : decode cX10_isToss 8 = .ok (.aload_n 0, 1) := by decide +kernel
theorem dX10_isToss_9 : decode cX10_isToss 9 = .ok (.iload_n 2, 1) := by decide +kernel
theorem dX10_isToss_10 : decode cX10_isToss 10 = .ok (.invokevirtual 156, 3) := by decide +kernel
theorem dX10_isToss_13 : decode cX10_isToss 13 = .ok (.ifCond .eq 7, 3) := by decide +kernel
theorem dX10_isToss_16 : decode cX10_isToss 16 = .ok (.iconst 1, 1) := by decide +kernel
theorem dX10_isToss_17 : decode cX10_isToss 17 = .ok (.goto 4, 3) := by decide +kernel
theorem dX10_isToss_20 : decode cX10_isToss 20 = .ok (.iconst 0, 1) := by decide +kernel
theorem dX10_isToss_21 : decode cX10_isToss 21 = .ok (.ireturn, 1) := by decide +kernel
theorem dX10_everybody_0 : decode cX10_everybody 0 = .ok (.iconst 1, 1) := by decide +kernel
theorem dX10_everybody_1 : decode cX10_everybody 1 = .ok (.aload_n 0, 1) := by decide +kernel
theorem dX10_everybody_2 : decode cX10_everybody 2 = .ok (.getfield 72, 3) := by decide +kernel
theorem dX10_everybody_5 : decode cX10_everybody 5 = .ok (.ishl, 1) := by decide +kernel
theorem dX10_everybody_6 : decode cX10_everybody 6 = .ok (.iconst 1, 1) := by decide +kernel
theorem dX10_everybody_7 : decode cX10_everybody 7 = .ok (.isub, 1) := by decide +kernel
theorem dX10_everybody_8 : decode cX10_everybody 8 = .ok (.ireturn, 1) := by decide +kernel
theorem dX10_isTakenByAnother_0 : decode cX10_isTakenByAnother 0 = .ok (.iconst 0, 1) := by decide +kernel
theorem dX10_isTakenByAnother_1 : decode cX10_isTakenByAnother 1 = .ok (.istore_n 3, 1) := by decide +kernel
theorem dX10_isTakenByAnother_2 : decode cX10_isTakenByAnother 2 = .ok (.iload_n 3, 1) := by decide +kernel
theorem dX10_isTakenByAnother_3 : decode cX10_isTakenByAnother 3 = .ok (.aload_n 0, 1) := by decide +kernel
theorem dX10_isTakenByAnother_4 : decode cX10_isTakenByAnother 4 = .ok (.getfield 72, 3) := by decide +kernel
theorem dX10_isTakenByAnother_7 : decode cX10_isTakenByAnother 7 = .ok (.if_icmp .ge 31, 3) := by decide +kernel
theorem dX10_isTakenByAnother_10 : decode cX10_isTakenByAnother 10 = .ok (.iload_n 3, 1) := by decide +kernel
theorem dX10_isTakenByAnother_11 : decode cX10_isTakenByAnother 11 = .ok (.iload_n 2, 1) := by decide +kernel
theorem dX10_isTakenByAnother_12 : decode cX10_isTakenByAnother 12 = .ok (.if_icmp .eq 20, 3) := by decide +kernel
theorem dX10_isTakenByAnother_15 : decode cX10_isTakenByAnother 15 = .ok (.aload_n 0, 1) := by decide +kernel
theorem dX10_isTakenByAnother_16 : decode cX10_isTakenByAnother 16 = .ok (.getfield 32, 3) := by decide +kernel
theorem dX10_isTakenByAnother_19 : decode cX10_isTakenByAnother 19 = .ok (.getfield 79, 3) := by decide +kernel
theorem dX10_isTakenByAnother_22 : decode cX10_isTakenByAnother 22 = .ok (.iload_n 3, 1) := by decide +kernel
theorem dX10_isTakenByAnother_23 : decode cX10_isTakenByAnother 23 = .ok (.invokestatic 82, 3) := by decide +kernel
theorem dX10_isTakenByAnother_26 : decode cX10_isTakenByAnother 26 = .ok (.iload_n 1, 1) := by decide +kernel
theorem dX10_isTakenByAnother_27 : decode cX10_isTakenByAnother 27 = .ok (.if_icmp .ne 5, 3) := by decide +kernel
theorem dX10_isTakenByAnother_30 : decode cX10_isTakenByAnother 30 = .ok (.iconst 1, 1) := by decide +kernel
theorem dX10_isTakenByAnother_31 : decode cX10_isTakenByAnother 31 = .ok (.ireturn, 1) := by decide +kernel
theorem dX10_isTakenByAnother_32 : decode cX10_isTakenByAnother 32 = .ok (.iinc 3 1, 3) := by decide +kernel
theorem dX10_isTakenByAnother_35 : decode cX10_isTakenByAnother 35 = .ok (.goto (-33), 3) := by decide +kernel
theorem dX10_isTakenByAnother_38 : decode cX10_isTakenByAnother 38 = .ok (.iconst 0, 1) := by decide +kernel
theorem dX10_isTakenByAnother_39 : decode cX10_isTakenByAnother 39 = .ok (.ireturn, 1) := by decide +kernel
theorem dX10_settle_0 : decode cX10_settle 0 = .ok (.aload_n 0, 1) := by decide +kernel
theorem dX10_settle_1 : decode cX10_settle 1 = .ok (.aload_n 0, 1) := by decide +kernel
theorem dX10_settle_2 : decode cX10_settle 2 = .ok (.getfield 19, 3) := by decide +kernel
theorem dX10_settle_5 : decode cX10_settle 5 = .ok (.getfield 262, 3) := by decide +kernel
theorem dX10_settle_8 : decode cX10_settle 8 = .ok (.putfield 72, 3) := by decide +kernel
theorem dX10_settle_11 : decode cX10_settle 11 = .ok (.aload_n 0, 1) := by decide +kernel
theorem dX10_settle_12 : decode cX10_settle 12 = .ok (.aload_n 0, 1) := by decide +kernel
theorem dX10_settle_13 : decode cX10_settle 13 = .ok (.getfield 19, 3) := by decide +kernel
theorem dX10_settle_16 : decode cX10_settle 16 = .ok (.getfield 265, 3) := by decide +kernel
theorem dX10_settle_19 : decode cX10_settle 19 = .ok (.putfield 197, 3) := by decide +kernel
theorem dX10_settle_22 : decode cX10_settle 22 = .ok (.aload_n 0, 1) := by decide +kernel
theorem dX10_settle_23 : decode cX10_settle 23 = .ok (.iconst 0, 1) := by decide +kernel
theorem dX10_settle_24 : decode cX10_settle 24 = .ok (.putfield 223, 3) := by decide +kernel
theorem dX10_settle_27 : decode cX10_settle 27 = .ok (.aload_n 0, 1) := by decide +kernel
theorem dX10_settle_28 : decode cX10_settle 28 = .ok (.getfield 32, 3) := by decide +kernel
theorem dX10_settle_31 : decode cX10_settle 31 = .ok (.aload_n 0, 1) := by decide +kernel
theorem dX10_settle_32 : decode cX10_settle 32 = .ok (.getfield 19, 3) := by decide +kernel
theorem dX10_settle_35 : decode cX10_settle 35 = .ok (.invokevirtual 267, 3) := by decide +kernel
theorem dX10_settle_38 : decode cX10_settle 38 = .ok (.iconst 0, 1) := by decide +kernel
theorem dX10_settle_39 : decode cX10_settle 39 = .ok (.istore_n 1, 1) := by decide +kernel
theorem dX10_settle_40 : decode cX10_settle 40 = .ok (.iload_n 1, 1) := by decide +kernel
theorem dX10_settle_41 : decode cX10_settle 41 = .ok (.aload_n 0, 1) := by decide +kernel
theorem dX10_settle_42 : decode cX10_settle 42 = .ok (.getfield 197, 3) := by decide +kernel
theorem dX10_settle_45 : decode cX10_settle 45 = .ok (.if_icmp .ge 38, 3) := by decide +kernel
theorem dX10_settle_48 : decode cX10_settle 48 = .ok (.iload_n 1, 1) := by decide +kernel
theorem dX10_settle_49 : decode cX10_settle 49 = .ok (.aload_n 0, 1) := by decide +kernel
theorem dX10_settle_50 : decode cX10_settle 50 = .ok (.getfield 25, 3) := by decide +kernel
theorem dX10_settle_53 : decode cX10_settle 53 = .ok (.arraylength, 1) := by decide +kernel
theorem dX10_settle_54 : decode cX10_settle 54 = .ok (.if_icmp .ge 29, 3) := by decide +kernel
theorem dX10_settle_57 : decode cX10_settle 57 = .ok (.aload_n 0, 1) := by decide +kernel
theorem dX10_settle_58 : decode cX10_settle 58 = .ok (.getfield 25, 3) := by decide +kernel
theorem dX10_settle_61 : decode cX10_settle 61 = .ok (.iload_n 1, 1) := by decide +kernel
theorem dX10_settle_62 : decode cX10_settle 62 = .ok (.aload_n 0, 1) := by decide +kernel
theorem dX10_settle_63 : decode cX10_settle 63 = .ok (.getfield 19, 3) := by decide +kernel
theorem dX10_settle_66 : decode cX10_settle 66 = .ok (.getfield 271, 3) := by decide +kernel
theorem dX10_settle_69 : decode cX10_settle 69 = .ok (.iload_n 1, 1) := by decide +kernel
theorem dX10_settle_70 : decode cX10_settle 70 = .ok (.invokestatic 82, 3) := by decide +kernel
theorem dX10_settle_73 : decode cX10_settle 73 = .ok (.invokestatic 274, 3) := by decide +kernel
theorem dX10_settle_76 : decode cX10_settle 76 = .ok (.aastore, 1) := by decide +kernel
theorem dX10_settle_77 : decode cX10_settle 77 = .ok (.iinc 1 1, 3) := by decide +kernel
theorem dX10_settle_80 : decode cX10_settle 80 = .ok (.goto (-40), 3) := by decide +kernel
theorem dX10_settle_83 : decode cX10_settle 83 = .ok (.return_, 1) := by decide +kernel
theorem dX10_landing_0 : decode cX10_landing 0 = .ok (.iload_n 2, 1) := by decide +kernel
theorem dX10_landing_1 : decode cX10_landing 1 = .ok (.bipush 6, 2) := by decide +kernel
theorem dX10_landing_3 : decode cX10_landing 3 = .ok (.idiv, 1) := by decide +kernel
theorem dX10_landing_4 : decode cX10_landing 4 = .ok (.aload_n 0, 1) := by decide +kernel
theorem dX10_landing_5 : decode cX10_landing 5 = .ok (.getfield 32, 3) := by decide +kernel
theorem dX10_landing_8 : decode cX10_landing 8 = .ok (.getfield 107, 3) := by decide +kernel
theorem dX10_landing_11 : decode cX10_landing 11 = .ok (.iload_n 1, 1) := by decide +kernel
theorem dX10_landing_12 : decode cX10_landing 12 = .ok (.invokestatic 82, 3) := by decide +kernel
theorem dX10_landing_15 : decode cX10_landing 15 = .ok (.iadd, 1) := by decide +kernel
theorem dX10_landing_16 : decode cX10_landing 16 = .ok (.iconst 2, 1) := by decide +kernel
theorem dX10_landing_17 : decode cX10_landing 17 = .ok (.isub, 1) := by decide +kernel
theorem dX10_landing_18 : decode cX10_landing 18 = .ok (.istore 4, 2) := by decide +kernel
theorem dX10_landing_20 : decode cX10_landing 20 = .ok (.iload_n 2, 1) := by decide +kernel
theorem dX10_landing_21 : decode cX10_landing 21 = .ok (.bipush 6, 2) := by decide +kernel
theorem dX10_landing_23 : decode cX10_landing 23 = .ok (.irem, 1) := by decide +kernel
theorem dX10_landing_24 : decode cX10_landing 24 = .ok (.aload_n 0, 1) := by decide +kernel
theorem dX10_landing_25 : decode cX10_landing 25 = .ok (.getfield 32, 3) := by decide +kernel
theorem dX10_landing_28 : decode cX10_landing 28 = .ok (.getfield 110, 3) := by decide +kernel
theorem dX10_landing_31 : decode cX10_landing 31 = .ok (.iload_n 1, 1) := by decide +kernel
theorem dX10_landing_32 : decode cX10_landing 32 = .ok (.invokestatic 82, 3) := by decide +kernel
theorem dX10_landing_35 : decode cX10_landing 35 = .ok (.iadd, 1) := by decide +kernel
theorem dX10_landing_36 : decode cX10_landing 36 = .ok (.iconst 2, 1) := by decide +kernel
theorem dX10_landing_37 : decode cX10_landing 37 = .ok (.isub, 1) := by decide +kernel
theorem dX10_landing_38 : decode cX10_landing 38 = .ok (.iload_n 3, 1) := by decide +kernel
theorem dX10_landing_39 : decode cX10_landing 39 = .ok (.iadd, 1) := by decide +kernel
theorem dX10_landing_40 : decode cX10_landing 40 = .ok (.istore 5, 2) := by decide +kernel
theorem dX10_landing_42 : decode cX10_landing 42 = .ok (.iload 4, 2) := by decide +kernel
theorem dX10_landing_44 : decode cX10_landing 44 = .ok (.iload 5, 2) := by decide +kernel
theorem dX10_landing_46 : decode cX10_landing 46 = .ok (.invokestatic 277, 3) := by decide +kernel
theorem dX10_landing_49 : decode cX10_landing 49 = .ok (.ireturn, 1) := by decide +kernel
theorem dX10_crowdUnder_0 : decode cX10_crowdUnder 0 = .ok (.aload_n 0, 1) := by decide +kernel
theorem dX10_crowdUnder_1 : decode cX10_crowdUnder 1 = .ok (.iload_n 1, 1) := by decide +kernel
theorem dX10_crowdUnder_2 : decode cX10_crowdUnder 2 = .ok (.invokevirtual 99, 3) := by decide +kernel
theorem dX10_crowdUnder_5 : decode cX10_crowdUnder 5 = .ok (.astore 4, 2) := by decide +kernel
theorem dX10_crowdUnder_7 : decode cX10_crowdUnder 7 = .ok (.aload_n 0, 1) := by decide +kernel
theorem dX10_crowdUnder_8 : decode cX10_crowdUnder 8 = .ok (.iload_n 1, 1) := by decide +kernel
theorem dX10_crowdUnder_9 : decode cX10_crowdUnder 9 = .ok (.iload_n 2, 1) := by decide +kernel
theorem dX10_crowdUnder_10 : decode cX10_crowdUnder 10 = .ok (.iload_n 3, 1) := by decide +kernel
theorem dX10_crowdUnder_11 : decode cX10_crowdUnder 11 = .ok (.invokevirtual 149, 3) := by decide +kernel
theorem dX10_crowdUnder_14 : decode cX10_crowdUnder 14 = .ok (.istore 5, 2) := by decide +kernel
theorem dX10_crowdUnder_16 : decode cX10_crowdUnder 16 = .ok (.aload 4, 2) := by decide +kernel
theorem dX10_crowdUnder_18 : decode cX10_crowdUnder 18 = .ok (.ifnull 9, 3) := by decide +kernel
theorem dX10_crowdUnder_21 : decode cX10_crowdUnder 21 = .ok (.iload 5, 2) := by decide +kernel
theorem dX10_crowdUnder_23 : decode cX10_crowdUnder 23 = .ok (.iconst (-1), 1) := by decide +kernel
theorem dX10_crowdUnder_24 : decode cX10_crowdUnder 24 = .ok (.if_icmp .ne 5, 3) := by decide +kernel
theorem dX10_crowdUnder_27 : decode cX10_crowdUnder 27 = .ok (.iconst 0, 1) := by decide +kernel
theorem dX10_crowdUnder_28 : decode cX10_crowdUnder 28 = .ok (.ireturn, 1) := by decide +kernel
theorem dX10_crowdUnder_29 : decode cX10_crowdUnder 29 = .ok (.iconst 0, 1) := by decide +kernel
theorem dX10_crowdUnder_30 : decode cX10_crowdUnder 30 = .ok (.istore 6, 2) := by decide +kernel
theorem dX10_crowdUnder_32 : decode cX10_crowdUnder 32 = .ok (.iconst 0, 1) := by decide +kernel
theorem dX10_crowdUnder_33 : decode cX10_crowdUnder 33 = .ok (.istore 7, 2) := by decide +kernel
theorem dX10_crowdUnder_35 : decode cX10_crowdUnder 35 = .ok (.iload 7, 2) := by decide +kernel
theorem dX10_crowdUnder_37 : decode cX10_crowdUnder 37 = .ok (.aload_n 0, 1) := by decide +kernel
theorem dX10_crowdUnder_38 : decode cX10_crowdUnder 38 = .ok (.getfield 72, 3) := by decide +kernel
theorem dX10_crowdUnder_41 : decode cX10_crowdUnder 41 = .ok (.if_icmp .ge 62, 3) := by decide +kernel
theorem dX10_crowdUnder_44 : decode cX10_crowdUnder 44 = .ok (.aload_n 0, 1) := by decide +kernel
theorem dX10_crowdUnder_45 : decode cX10_crowdUnder 45 = .ok (.getfield 32, 3) := by decide +kernel
theorem dX10_crowdUnder_48 : decode cX10_crowdUnder 48 = .ok (.getfield 79, 3) := by decide +kernel
theorem dX10_crowdUnder_51 : decode cX10_crowdUnder 51 = .ok (.iload 7, 2) := by decide +kernel
theorem dX10_crowdUnder_53 : decode cX10_crowdUnder 53 = .ok (.invokestatic 82, 3) := by decide +kernel
theorem dX10_crowdUnder_56 : decode cX10_crowdUnder 56 = .ok (.istore 8, 2) := by decide +kernel
theorem dX10_crowdUnder_58 : decode cX10_crowdUnder 58 = .ok (.aload 4, 2) := by decide +kernel
theorem dX10_crowdUnder_60 : decode cX10_crowdUnder 60 = .ok (.iload 8, 2) := by decide +kernel
theorem dX10_crowdUnder_62 : decode cX10_crowdUnder 62 = .ok (.bipush 6, 2) := by decide +kernel
theorem dX10_crowdUnder_64 : decode cX10_crowdUnder 64 = .ok (.idiv, 1) := by decide +kernel
theorem dX10_crowdUnder_65 : decode cX10_crowdUnder 65 = .ok (.iload 5, 2) := by decide +kernel
theorem dX10_crowdUnder_67 : decode cX10_crowdUnder 67 = .ok (.bipush 6, 2) := by decide +kernel
theorem dX10_crowdUnder_69 : decode cX10_crowdUnder 69 = .ok (.idiv, 1) := by decide +kernel
theorem dX10_crowdUnder_70 : decode cX10_crowdUnder 70 = .ok (.isub, 1) := by decide +kernel
theorem dX10_crowdUnder_71 : decode cX10_crowdUnder 71 = .ok (.iload 8, 2) := by decide +kernel
theorem dX10_crowdUnder_73 : decode cX10_crowdUnder 73 = .ok (.bipush 6, 2) := by decide +kernel
theorem dX10_crowdUnder_75 : decode cX10_crowdUnder 75 = .ok (.irem, 1) := by decide +kernel
theorem dX10_crowdUnder_76 : decode cX10_crowdUnder 76 = .ok (.iload 5, 2) := by decide +kernel
theorem dX10_crowdUnder_78 : decode cX10_crowdUnder 78 = .ok (.bipush 6, 2) := by decide +kernel
theorem dX10_crowdUnder_80 : decode cX10_crowdUnder 80 = .ok (.irem, 1) := by decide +kernel
theorem dX10_crowdUnder_81 : decode cX10_crowdUnder 81 = .ok (.isub, 1) := by decide +kernel
theorem dX10_crowdUnder_82 : decode cX10_crowdUnder 82 = .ok (.invokevirtual 280, 3) := by decide +kernel
theorem dX10_crowdUnder_85 : decode cX10_crowdUnder 85 = .ok (.ifCond .eq 12, 3) := by decide +kernel
theorem dX10_crowdUnder_88 : decode cX10_crowdUnder 88 = .ok (.iload 6, 2) := by decide +kernel
theorem dX10_crowdUnder_90 : decode cX10_crowdUnder 90 = .ok (.iconst 1, 1) := by decide +kernel
theorem dX10_crowdUnder_91 : decode cX10_crowdUnder 91 = .ok (.iload 7, 2) := by decide +kernel
theorem dX10_crowdUnder_93 : decode cX10_crowdUnder 93 = .ok (.ishl, 1) := by decide +kernel
theorem dX10_crowdUnder_94 : decode cX10_crowdUnder 94 = .ok (.ior, 1) := by decide +kernel
theorem dX10_crowdUnder_95 : decode cX10_crowdUnder 95 = .ok (.istore 6, 2) := by decide +kernel
theorem dX10_crowdUnder_97 : decode cX10_crowdUnder 97 = .ok (.iinc 7 1, 3) := by decide +kernel
theorem dX10_crowdUnder_100 : decode cX10_crowdUnder 100 = .ok (.goto (-65), 3) := by decide +kernel
theorem dX10_crowdUnder_103 : decode cX10_crowdUnder 103 = .ok (.iload 6, 2) := by decide +kernel
theorem dX10_crowdUnder_105 : decode cX10_crowdUnder 105 = .ok (.ireturn, 1) := by decide +kernel
theorem dX10_canLandAt_0 : decode cX10_canLandAt 0 = .ok (.iconst 0, 1) := by decide +kernel
theorem dX10_canLandAt_1 : decode cX10_canLandAt 1 = .ok (.istore_n 3, 1) := by decide +kernel
theorem dX10_canLandAt_2 : decode cX10_canLandAt 2 = .ok (.iload_n 3, 1) := by decide +kernel
theorem dX10_canLandAt_3 : decode cX10_canLandAt 3 = .ok (.bipush 36, 2) := by decide +kernel
theorem dX10_canLandAt_5 : decode cX10_canLandAt 5 = .ok (.if_icmp .ge 28, 3) := by decide +kernel
theorem dX10_canLandAt_8 : decode cX10_canLandAt 8 = .ok (.aload_n 0, 1) := by decide +kernel
theorem dX10_canLandAt_9 : decode cX10_canLandAt 9 = .ok (.iload_n 1, 1) := by decide +kernel
theorem dX10_canLandAt_10 : decode cX10_canLandAt 10 = .ok (.iload_n 3, 1) := by decide +kernel
theorem dX10_canLandAt_11 : decode cX10_canLandAt 11 = .ok (.aload_n 0, 1) := by decide +kernel
theorem dX10_canLandAt_12 : decode cX10_canLandAt 12 = .ok (.getfield 32, 3) := by decide +kernel
theorem dX10_canLandAt_15 : decode cX10_canLandAt 15 = .ok (.getfield 146, 3) := by decide +kernel
theorem dX10_canLandAt_18 : decode cX10_canLandAt 18 = .ok (.invokevirtual 149, 3) := by decide +kernel
theorem dX10_canLandAt_21 : decode cX10_canLandAt 21 = .ok (.iload_n 2, 1) := by decide +kernel
theorem dX10_canLandAt_22 : decode cX10_canLandAt 22 = .ok (.if_icmp .ne 5, 3) := by decide +kernel
theorem dX10_canLandAt_25 : decode cX10_canLandAt 25 = .ok (.iconst 1, 1) := by decide +kernel
theorem dX10_canLandAt_26 : decode cX10_canLandAt 26 = .ok (.ireturn, 1) := by decide +kernel
theorem dX10_canLandAt_27 : decode cX10_canLandAt 27 = .ok (.iinc 3 1, 3) := by decide +kernel
theorem dX10_canLandAt_30 : decode cX10_canLandAt 30 = .ok (.goto (-28), 3) := by decide +kernel
theorem dX10_canLandAt_33 : decode cX10_canLandAt 33 = .ok (.iconst 0, 1) := by decide +kernel
theorem dX10_canLandAt_34 : decode cX10_canLandAt 34 = .ok (.ireturn, 1) := by decide +kernel
theorem dX10_freshOf_0 : decode cX10_freshOf 0 = .ok (.aload_n 0, 1) := by decide +kernel
theorem dX10_freshOf_1 : decode cX10_freshOf 1 = .ok (.iload_n 1, 1) := by decide +kernel
theorem dX10_freshOf_2 : decode cX10_freshOf 2 = .ok (.iload_n 2, 1) := by decide +kernel
theorem dX10_freshOf_3 : decode cX10_freshOf 3 = .ok (.aload_n 0, 1) := by decide +kernel
theorem dX10_freshOf_4 : decode cX10_freshOf 4 = .ok (.getfield 32, 3) := by decide +kernel
theorem dX10_freshOf_7 : decode cX10_freshOf 7 = .ok (.getfield 146, 3) := by decide +kernel
theorem dX10_freshOf_10 : decode cX10_freshOf 10 = .ok (.invokevirtual 153, 3) := by decide +kernel
theorem dX10_freshOf_13 : decode cX10_freshOf 13 = .ok (.aload_n 0, 1) := by decide +kernel
theorem dX10_freshOf_14 : decode cX10_freshOf 14 = .ok (.getfield 32, 3) := by decide +kernel
theorem dX10_freshOf_17 : decode cX10_freshOf 17 = .ok (.getfield 86, 3) := by decide +kernel
theorem dX10_freshOf_20 : decode cX10_freshOf 20 = .ok (.iconst (-1), 1) := by decide +kernel
theorem dX10_freshOf_21 : decode cX10_freshOf 21 = .ok (.ixor, 1) := by decide +kernel
theorem dX10_freshOf_22 : decode cX10_freshOf 22 = .ok (.iand, 1) := by decide +kernel
theorem dX10_freshOf_23 : decode cX10_freshOf 23 = .ok (.invokestatic 168, 3) := by decide +kernel
theorem dX10_freshOf_26 : decode cX10_freshOf 26 = .ok (.ireturn, 1) := by decide +kernel
theorem dX10_bestAimOf_0 : decode cX10_bestAimOf 0 = .ok (.iconst 0, 1) := by decide +kernel
theorem dX10_bestAimOf_1 : decode cX10_bestAimOf 1 = .ok (.istore_n 2, 1) := by decide +kernel
theorem dX10_bestAimOf_2 : decode cX10_bestAimOf 2 = .ok (.aload_n 0, 1) := by decide +kernel
theorem dX10_bestAimOf_3 : decode cX10_bestAimOf 3 = .ok (.iload_n 1, 1) := by decide +kernel
theorem dX10_bestAimOf_4 : decode cX10_bestAimOf 4 = .ok (.iconst 0, 1) := by decide +kernel
theorem dX10_bestAimOf_5 : decode cX10_bestAimOf 5 = .ok (.invokevirtual 119, 3) := by decide +kernel
theorem dX10_bestAimOf_8 : decode cX10_bestAimOf 8 = .ok (.istore_n 3, 1) := by decide +kernel
theorem dX10_bestAimOf_9 : decode cX10_bestAimOf 9 = .ok (.iconst 1, 1) := by decide +kernel
theorem dX10_bestAimOf_10 : decode cX10_bestAimOf 10 = .ok (.istore 4, 2) := by decide +kernel
theorem dX10_bestAimOf_12 : decode cX10_bestAimOf 12 = .ok (.iload 4, 2) := by decide +kernel
theorem dX10_bestAimOf_14 : decode cX10_bestAimOf 14 = .ok (.bipush 36, 2) := by decide +kernel
theorem dX10_bestAimOf_16 : decode cX10_bestAimOf 16 = .ok (.if_icmp .ge 30, 3) := by decide +kernel
theorem dX10_bestAimOf_19 : decode cX10_bestAimOf 19 = .ok (.aload_n 0, 1) := by decide +kernel
theorem dX10_bestAimOf_20 : decode cX10_bestAimOf 20 = .ok (.iload_n 1, 1) := by decide +kernel
theorem dX10_bestAimOf_21 : decode cX10_bestAimOf 21 = .ok (.iload 4, 2) := by decide +kernel
theorem dX10_bestAimOf_23 : decode cX10_bestAimOf 23 = .ok (.invokevirtual 119, 3) := by decide +kernel
theorem dX10_bestAimOf_26 : decode cX10_bestAimOf 26 = .ok (.istore 5, 2) := by decide +kernel
theorem dX10_bestAimOf_28 : decode cX10_bestAimOf 28 = .ok (.iload 5, 2) := by decide +kernel
theorem dX10_bestAimOf_30 : decode cX10_bestAimOf 30 = .ok (.iload_n 3, 1) := by decide +kernel
theorem dX10_bestAimOf_31 : decode cX10_bestAimOf 31 = .ok (.if_icmp .le 9, 3) := by decide +kernel
theorem dX10_bestAimOf_34 : decode cX10_bestAimOf 34 = .ok (.iload 5, 2) := by decide +kernel
theorem dX10_bestAimOf_36 : decode cX10_bestAimOf 36 = .ok (.istore_n 3, 1) := by decide +kernel
theorem dX10_bestAimOf_37 : decode cX10_bestAimOf 37 = .ok (.iload 4, 2) := by decide +kernel
theorem dX10_bestAimOf_39 : decode cX10_bestAimOf 39 = .ok (.istore_n 2, 1) := by decide +kernel
theorem dX10_bestAimOf_40 : decode cX10_bestAimOf 40 = .ok (.iinc 4 1, 3) := by decide +kernel
theorem dX10_bestAimOf_43 : decode cX10_bestAimOf 43 = .ok (.goto (-31), 3) := by decide +kernel
theorem dX10_bestAimOf_46 : decode cX10_bestAimOf 46 = .ok (.iload_n 2, 1) := by decide +kernel
theorem dX10_bestAimOf_47 : decode cX10_bestAimOf 47 = .ok (.ireturn, 1) := by decide +kernel
theorem dX10_planFor_0 : decode cX10_planFor 0 = .ok (.aload_n 0, 1) := by decide +kernel
theorem dX10_planFor_1 : decode cX10_planFor 1 = .ok (.getfield 42, 3) := by decide +kernel
theorem dX10_planFor_4 : decode cX10_planFor 4 = .ok (.invokevirtual 283, 3) := by decide +kernel
theorem dX10_planFor_7 : decode cX10_planFor 7 = .ok (.iconst 0, 1) := by decide +kernel
theorem dX10_planFor_8 : decode cX10_planFor 8 = .ok (.istore_n 2, 1) := by decide +kernel
theorem dX10_planFor_9 : decode cX10_planFor 9 = .ok (.iload_n 2, 1) := by decide +kernel
theorem dX10_planFor_10 : decode cX10_planFor 10 = .ok (.aload_n 0, 1) := by decide +kernel
theorem dX10_planFor_11 : decode cX10_planFor 11 = .ok (.getfield 197, 3) := by decide +kernel
theorem dX10_planFor_14 : decode cX10_planFor 14 = .ok (.if_icmp .ge 81, 3) := by decide +kernel
theorem dX10_planFor_17 : decode cX10_planFor 17 = .ok (.aload_n 0, 1) := by decide +kernel
theorem dX10_planFor_18 : decode cX10_planFor 18 = .ok (.iload_n 2, 1) := by decide +kernel
theorem dX10_planFor_19 : decode cX10_planFor 19 = .ok (.invokevirtual 99, 3) := by decide +kernel
theorem dX10_planFor_22 : decode cX10_planFor 22 = .ok (.astore_n 3, 1) := by decide +kernel
theorem dX10_planFor_23 : decode cX10_planFor 23 = .ok (.aload_n 3, 1) := by decide +kernel
theorem dX10_planFor_24 : decode cX10_planFor 24 = .ok (.ifnonnull 7, 3) := by decide +kernel
theorem dX10_planFor_27 : decode cX10_planFor 27 = .ok (.iconst 0, 1) := by decide +kernel
theorem dX10_planFor_28 : decode cX10_planFor 28 = .ok (.goto 7, 3) := by decide +kernel
theorem dX10_planFor_31 : decode cX10_planFor 31 = .ok (.aload_n 3, 1) := by decide +kernel
theorem dX10_planFor_32 : decode cX10_planFor 32 = .ok (.invokevirtual 113, 3) := by decide +kernel
theorem dX10_planFor_35 : decode cX10_planFor 35 = .ok (.istore 4, 2) := by decide +kernel
theorem dX10_planFor_37 : decode cX10_planFor 37 = .ok (.iconst 0, 1) := by decide +kernel
theorem dX10_planFor_38 : decode cX10_planFor 38 = .ok (.istore 5, 2) := by decide +kernel
theorem dX10_planFor_40 : decode cX10_planFor 40 = .ok (.iload 5, 2) := by decide +kernel
theorem dX10_planFor_42 : decode cX10_planFor 42 = .ok (.bipush 36, 2) := by decide +kernel
theorem dX10_planFor_44 : decode cX10_planFor 44 = .ok (.if_icmp .ge 45, 3) := by decide +kernel
theorem dX10_planFor_47 : decode cX10_planFor 47 = .ok (.aload_n 0, 1) := by decide +kernel
theorem dX10_planFor_48 : decode cX10_planFor 48 = .ok (.iload_n 2, 1) := by decide +kernel
theorem dX10_planFor_49 : decode cX10_planFor 49 = .ok (.iload 5, 2) := by decide +kernel
theorem dX10_planFor_51 : decode cX10_planFor 51 = .ok (.aload_n 0, 1) := by decide +kernel
theorem dX10_planFor_52 : decode cX10_planFor 52 = .ok (.getfield 32, 3) := by decide +kernel
theorem dX10_planFor_55 : decode cX10_planFor 55 = .ok (.getfield 146, 3) := by decide +kernel
theorem dX10_planFor_58 : decode cX10_planFor 58 = .ok (.invokevirtual 153, 3) := by decide +kernel
theorem dX10_planFor_61 : decode cX10_planFor 61 = .ok (.iload_n 1, 1) := by decide +kernel
theorem dX10_planFor_62 : decode cX10_planFor 62 = .ok (.iand, 1) := by decide +kernel
theorem dX10_planFor_63 : decode cX10_planFor 63 = .ok (.istore 6, 2) := by decide +kernel
theorem dX10_planFor_65 : decode cX10_planFor 65 = .ok (.aload_n 0, 1) := by decide +kernel
theorem dX10_planFor_66 : decode cX10_planFor 66 = .ok (.getfield 42, 3) := by decide +kernel
theorem dX10_planFor_69 : decode cX10_planFor 69 = .ok (.bipush 36, 2) := by decide +kernel
theorem dX10_planFor_71 : decode cX10_planFor 71 = .ok (.iload_n 2, 1) := by decide +kernel
theorem dX10_planFor_72 : decode cX10_planFor 72 = .ok (.imul, 1) := by decide +kernel
theorem dX10_planFor_73 : decode cX10_planFor 73 = .ok (.iload 5, 2) := by decide +kernel
theorem dX10_planFor_75 : decode cX10_planFor 75 = .ok (.iadd, 1) := by decide +kernel
theorem dX10_planFor_76 : decode cX10_planFor 76 = .ok (.iload 6, 2) := by decide +kernel
theorem dX10_planFor_78 : decode cX10_planFor 78 = .ok (.iload 4, 2) := by decide +kernel
theorem dX10_planFor_80 : decode cX10_planFor 80 = .ok (.invokevirtual 285, 3) := by decide +kernel
theorem dX10_planFor_83 : decode cX10_planFor 83 = .ok (.iinc 5 1, 3) := by decide +kernel
theorem dX10_planFor_86 : decode cX10_planFor 86 = .ok (.goto (-46), 3) := by decide +kernel
theorem dX10_planFor_89 : decode cX10_planFor 89 = .ok (.iinc 2 1, 3) := by decide +kernel
theorem dX10_planFor_92 : decode cX10_planFor 92 = .ok (.goto (-83), 3) := by decide +kernel
theorem dX10_planFor_95 : decode cX10_planFor 95 = .ok (.aload_n 0, 1) := by decide +kernel
theorem dX10_planFor_96 : decode cX10_planFor 96 = .ok (.getfield 42, 3) := by decide +kernel
theorem dX10_planFor_99 : decode cX10_planFor 99 = .ok (.iload_n 1, 1) := by decide +kernel
theorem dX10_planFor_100 : decode cX10_planFor 100 = .ok (.invokevirtual 288, 3) := by decide +kernel
theorem dX10_planFor_103 : decode cX10_planFor 103 = .ok (.return_, 1) := by decide +kernel
theorem dX10_bestPlaceFor_0 : decode cX10_bestPlaceFor 0 = .ok (.aload_n 0, 1) := by decide +kernel
theorem dX10_bestPlaceFor_1 : decode cX10_bestPlaceFor 1 = .ok (.invokevirtual 291, 3) := by decide +kernel
theorem dX10_bestPlaceFor_4 : decode cX10_bestPlaceFor 4 = .ok (.iconst (-1), 1) := by decide +kernel
theorem dX10_bestPlaceFor_5 : decode cX10_bestPlaceFor 5 = .ok (.istore_n 2, 1) := by decide +kernel
theorem dX10_bestPlaceFor_6 : decode cX10_bestPlaceFor 6 = .ok (.iconst (-1), 1) := by decide +kernel
theorem dX10_bestPlaceFor_7 : decode cX10_bestPlaceFor 7 = .ok (.istore_n 3, 1) := by decide +kernel
theorem dX10_bestPlaceFor_8 : decode cX10_bestPlaceFor 8 = .ok (.iconst 0, 1) := by decide +kernel
theorem dX10_bestPlaceFor_9 : decode cX10_bestPlaceFor 9 = .ok (.istore 4, 2) := by decide +kernel
theorem dX10_bestPlaceFor_11 : decode cX10_bestPlaceFor 11 = .ok (.iload 4, 2) := by decide +kernel
theorem dX10_bestPlaceFor_13 : decode cX10_bestPlaceFor 13 = .ok (.bipush 36, 2) := by decide +kernel
theorem dX10_bestPlaceFor_15 : decode cX10_bestPlaceFor 15 = .ok (.if_icmp .ge 42, 3) := by decide +kernel
theorem dX10_bestPlaceFor_18 : decode cX10_bestPlaceFor 18 = .ok (.aload_n 0, 1) := by decide +kernel
theorem dX10_bestPlaceFor_19 : decode cX10_bestPlaceFor 19 = .ok (.getfield 46, 3) := by decide +kernel
theorem dX10_bestPlaceFor_22 : decode cX10_bestPlaceFor 22 = .ok (.iload 4, 2) := by decide +kernel
theorem dX10_bestPlaceFor_24 : decode cX10_bestPlaceFor 24 = .ok (.invokestatic 82, 3) := by decide +kernel
theorem dX10_bestPlaceFor_27 : decode cX10_bestPlaceFor 27 = .ok (.istore 5, 2) := by decide +kernel
theorem dX10_bestPlaceFor_29 : decode cX10_bestPlaceFor 29 = .ok (.iload 5, 2) := by decide +kernel
theorem dX10_bestPlaceFor_31 : decode cX10_bestPlaceFor 31 = .ok (.iload_n 3, 1) := by decide +kernel
theorem dX10_bestPlaceFor_32 : decode cX10_bestPlaceFor 32 = .ok (.if_icmp .le 19, 3) := by decide +kernel
theorem dX10_bestPlaceFor_35 : decode cX10_bestPlaceFor 35 = .ok (.aload_n 0, 1) := by decide +kernel
theorem dX10_bestPlaceFor_36 : decode cX10_bestPlaceFor 36 = .ok (.iload 4, 2) := by decide +kernel
theorem dX10_bestPlaceFor_38 : decode cX10_bestPlaceFor 38 = .ok (.iload_n 1, 1) := by decide +kernel
theorem dX10_bestPlaceFor_39 : decode cX10_bestPlaceFor 39 = .ok (.invokevirtual 182, 3) := by decide +kernel
theorem dX10_bestPlaceFor_42 : decode cX10_bestPlaceFor 42 = .ok (.ifCond .ne 9, 3) := by decide +kernel
theorem dX10_bestPlaceFor_45 : decode cX10_bestPlaceFor 45 = .ok (.iload 5, 2) := by decide +kernel
theorem dX10_bestPlaceFor_47 : decode cX10_bestPlaceFor 47 = .ok (.istore_n 3, 1) := by decide +kernel
theorem dX10_bestPlaceFor_48 : decode cX10_bestPlaceFor 48 = .ok (.iload 4, 2) := by decide +kernel
theorem dX10_bestPlaceFor_50 : decode cX10_bestPlaceFor 50 = .ok (.istore_n 2, 1) := by decide +kernel
theorem dX10_bestPlaceFor_51 : decode cX10_bestPlaceFor 51 = .ok (.iinc 4 1, 3) := by decide +kernel
theorem dX10_bestPlaceFor_54 : decode cX10_bestPlaceFor 54 = .ok (.goto (-43), 3) := by decide +kernel
theorem dX10_bestPlaceFor_57 : decode cX10_bestPlaceFor 57 = .ok (.iload_n 2, 1) := by decide +kernel
theorem dX10_bestPlaceFor_58 : decode cX10_bestPlaceFor 58 = .ok (.ireturn, 1) := by decide +kernel
theorem dX10_countChances_0 : decode cX10_countChances 0 = .ok (.aload_n 0, 1) := by decide +kernel
theorem dX10_countChances_1 : decode cX10_countChances 1 = .ok (.getfield 46, 3) := by decide +kernel
theorem dX10_countChances_4 : decode cX10_countChances 4 = .ok (.invokestatic 294, 3) := by decide +kernel
theorem dX10_countChances_7 : decode cX10_countChances 7 = .ok (.iconst 0, 1) := by decide +kernel
theorem dX10_countChances_8 : decode cX10_countChances 8 = .ok (.istore_n 1, 1) := by decide +kernel
theorem dX10_countChances_9 : decode cX10_countChances 9 = .ok (.iload_n 1, 1) := by decide +kernel
theorem dX10_countChances_10 : decode cX10_countChances 10 = .ok (.aload_n 0, 1) := by decide +kernel
theorem dX10_countChances_11 : decode cX10_countChances 11 = .ok (.getfield 197, 3) := by decide +kernel
theorem dX10_countChances_14 : decode cX10_countChances 14 = .ok (.if_icmp .ge 61, 3) := by decide +kernel
theorem dX10_countChances_17 : decode cX10_countChances 17 = .ok (.aload_n 0, 1) := by decide +kernel
theorem dX10_countChances_18 : decode cX10_countChances 18 = .ok (.iload_n 1, 1) := by decide +kernel
theorem dX10_countChances_19 : decode cX10_countChances 19 = .ok (.invokevirtual 99, 3) := by decide +kernel
theorem dX10_countChances_22 : decode cX10_countChances 22 = .ok (.astore_n 2, 1) := by decide +kernel
theorem dX10_countChances_23 : decode cX10_countChances 23 = .ok (.iconst 0, 1) := by decide +kernel
theorem dX10_countChances_24 : decode cX10_countChances 24 = .ok (.istore_n 3, 1) := by decide +kernel
theorem dX10_countChances_25 : decode cX10_countChances 25 = .ok (.iload_n 3, 1) := by decide +kernel
theorem dX10_countChances_26 : decode cX10_countChances 26 = .ok (.bipush 36, 2) := by decide +kernel
theorem dX10_countChances_28 : decode cX10_countChances 28 = .ok (.if_icmp .ge 41, 3) := by decide +kernel
theorem dX10_countChances_31 : decode cX10_countChances 31 = .ok (.aload_n 0, 1) := by decide +kernel
theorem dX10_countChances_32 : decode cX10_countChances 32 = .ok (.iload_n 1, 1) := by decide +kernel
theorem dX10_countChances_33 : decode cX10_countChances 33 = .ok (.iload_n 3, 1) := by decide +kernel
theorem dX10_countChances_34 : decode cX10_countChances 34 = .ok (.aload_n 0, 1) := by decide +kernel
theorem dX10_countChances_35 : decode cX10_countChances 35 = .ok (.getfield 32, 3) := by decide +kernel
theorem dX10_countChances_38 : decode cX10_countChances 38 = .ok (.getfield 146, 3) := by decide +kernel
theorem dX10_countChances_41 : decode cX10_countChances 41 = .ok (.invokevirtual 149, 3) := by decide +kernel
theorem dX10_countChances_44 : decode cX10_countChances 44 = .ok (.istore 4, 2) := by decide +kernel
theorem dX10_countChances_46 : decode cX10_countChances 46 = .ok (.aload_n 2, 1) := by decide +kernel
theorem dX10_countChances_47 : decode cX10_countChances 47 = .ok (.ifnull 16, 3) := by decide +kernel
theorem dX10_countChances_50 : decode cX10_countChances 50 = .ok (.iload 4, 2) := by decide +kernel
theorem dX10_countChances_52 : decode cX10_countChances 52 = .ok (.iconst (-1), 1) := by decide +kernel
theorem dX10_countChances_53 : decode cX10_countChances 53 = .ok (.if_icmp .eq 10, 3) := by decide +kernel
theorem dX10_countChances_56 : decode cX10_countChances 56 = .ok (.aload_n 0, 1) := by decide +kernel
theorem dX10_countChances_57 : decode cX10_countChances 57 = .ok (.aload_n 2, 1) := by decide +kernel
theorem dX10_countChances_58 : decode cX10_countChances 58 = .ok (.iload 4, 2) := by decide +kernel
theorem dX10_countChances_60 : decode cX10_countChances 60 = .ok (.invokevirtual 298, 3) := by decide +kernel
theorem dX10_countChances_63 : decode cX10_countChances 63 = .ok (.iinc 3 1, 3) := by decide +kernel
theorem dX10_countChances_66 : decode cX10_countChances 66 = .ok (.goto (-41), 3) := by decide +kernel
theorem dX10_countChances_69 : decode cX10_countChances 69 = .ok (.iinc 1 1, 3) := by decide +kernel
theorem dX10_countChances_72 : decode cX10_countChances 72 = .ok (.goto (-63), 3) := by decide +kernel
theorem dX10_countChances_75 : decode cX10_countChances 75 = .ok (.return_, 1) := by decide +kernel
theorem dX10_addChances_0 : decode cX10_addChances 0 = .ok (.iconst (-1), 1) := by decide +kernel
theorem dX10_addChances_1 : decode cX10_addChances 1 = .ok (.istore_n 3, 1) := by decide +kernel
theorem dX10_addChances_2 : decode cX10_addChances 2 = .ok (.iload_n 3, 1) := by decide +kernel
theorem dX10_addChances_3 : decode cX10_addChances 3 = .ok (.iconst 1, 1) := by decide +kernel
theorem dX10_addChances_4 : decode cX10_addChances 4 = .ok (.if_icmp .gt 78, 3) := by decide +kernel
theorem dX10_addChances_7 : decode cX10_addChances 7 = .ok (.iconst (-1), 1) := by decide +kernel
theorem dX10_addChances_8 : decode cX10_addChances 8 = .ok (.istore 4, 2) := by decide +kernel
theorem dX10_addChances_10 : decode cX10_addChances 10 = .ok (.iload 4, 2) := by decide +kernel
theorem dX10_addChances_12 : decode cX10_addChances 12 = .ok (.iconst 1, 1) := by decide +kernel
theorem dX10_addChances_13 : decode cX10_addChances 13 = .ok (.if_icmp .gt 63, 3) := by decide +kernel
theorem dX10_addChances_16 : decode cX10_addChances 16 = .ok (.iload_n 2, 1) := by decide +kernel
theorem dX10_addChances_17 : decode cX10_addChances 17 = .ok (.bipush 6, 2) := by decide +kernel
theorem dX10_addChances_19 : decode cX10_addChances 19 = .ok (.idiv, 1) := by decide +kernel
theorem dX10_addChances_20 : decode cX10_addChances 20 = .ok (.iload_n 3, 1) := by decide +kernel
theorem dX10_addChances_21 : decode cX10_addChances 21 = .ok (.iadd, 1) := by decide +kernel
theorem dX10_addChances_22 : decode cX10_addChances 22 = .ok (.iload_n 2, 1) := by decide +kernel
theorem dX10_addChances_23 : decode cX10_addChances 23 = .ok (.bipush 6, 2) := by decide +kernel
theorem dX10_addChances_25 : decode cX10_addChances 25 = .ok (.irem, 1) := by decide +kernel
theorem dX10_addChances_26 : decode cX10_addChances 26 = .ok (.iload 4, 2) := by decide +kernel
theorem dX10_addChances_28 : decode cX10_addChances 28 = .ok (.iadd, 1) := by decide +kernel
theorem dX10_addChances_29 : decode cX10_addChances 29 = .ok (.invokestatic 277, 3) := by decide +kernel
theorem dX10_addChances_32 : decode cX10_addChances 32 = .ok (.istore 5, 2) := by decide +kernel
theorem dX10_addChances_34 : decode cX10_addChances 34 = .ok (.iload 5, 2) := by decide +kernel
theorem dX10_addChances_36 : decode cX10_addChances 36 = .ok (.iconst (-1), 1) := by decide +kernel
theorem dX10_addChances_37 : decode cX10_addChances 37 = .ok (.if_icmp .eq 33, 3) := by decide +kernel
theorem dX10_addChances_40 : decode cX10_addChances 40 = .ok (.aload_n 1, 1) := by decide +kernel
theorem dX10_addChances_41 : decode cX10_addChances 41 = .ok (.iload_n 3, 1) := by decide +kernel
theorem dX10_addChances_42 : decode cX10_addChances 42 = .ok (.iload 4, 2) := by decide +kernel
theorem dX10_addChances_44 : decode cX10_addChances 44 = .ok (.invokevirtual 280, 3) := by decide +kernel
theorem dX10_addChances_47 : decode cX10_addChances 47 = .ok (.ifCond .eq 23, 3) := by decide +kernel
theorem dX10_addChances_50 : decode cX10_addChances 50 = .ok (.aload_n 0, 1) := by decide +kernel
theorem dX10_addChances_51 : decode cX10_addChances 51 = .ok (.getfield 46, 3) := by decide +kernel
theorem dX10_addChances_54 : decode cX10_addChances 54 = .ok (.iload 5, 2) := by decide +kernel
theorem dX10_addChances_56 : decode cX10_addChances 56 = .ok (.aload_n 0, 1) := by decide +kernel
theorem dX10_addChances_57 : decode cX10_addChances 57 = .ok (.getfield 46, 3) := by decide +kernel
theorem dX10_addChances_60 : decode cX10_addChances 60 = .ok (.iload 5, 2) := by decide +kernel
theorem dX10_addChances_62 : decode cX10_addChances 62 = .ok (.invokestatic 82, 3) := by decide +kernel
theorem dX10_addChances_65 : decode cX10_addChances 65 = .ok (.iconst 1, 1) := by decide +kernel
theorem dX10_addChances_66 : decode cX10_addChances 66 = .ok (.iadd, 1) := by decide +kernel
theorem dX10_addChances_67 : decode cX10_addChances 67 = .ok (.invokestatic 164, 3) := by decide +kernel
theorem dX10_addChances_70 : decode cX10_addChances 70 = .ok (.iinc 4 1, 3) := by decide +kernel
theorem dX10_addChances_73 : decode cX10_addChances 73 = .ok (.goto (-63), 3) := by decide +kernel
theorem dX10_addChances_76 : decode cX10_addChances 76 = .ok (.iinc 3 1, 3) := by decide +kernel
theorem dX10_addChances_79 : decode cX10_addChances 79 = .ok (.goto (-77), 3) := by decide +kernel
theorem dX10_addChances_82 : decode cX10_addChances 82 = .ok (.return_, 1) := by decide +kernel
theorem dX10_isColumn_0 : decode cX10_isColumn 0 = .ok (.iload_n 0, 1) := by decide +kernel
theorem dX10_isColumn_1 : decode cX10_isColumn 1 = .ok (.ifCond .lt 13, 3) := by decide +kernel
theorem dX10_isColumn_4 : decode cX10_isColumn 4 = .ok (.iload_n 0, 1) := by decide +kernel
theorem dX10_isColumn_5 : decode cX10_isColumn 5 = .ok (.bipush 6, 2) := by decide +kernel
theorem dX10_isColumn_7 : decode cX10_isColumn 7 = .ok (.if_icmp .ge 7, 3) := by decide +kernel
theorem dX10_isColumn_10 : decode cX10_isColumn 10 = .ok (.iconst 1, 1) := by decide +kernel
theorem dX10_isColumn_11 : decode cX10_isColumn 11 = .ok (.goto 4, 3) := by decide +kernel
theorem dX10_isColumn_14 : decode cX10_isColumn 14 = .ok (.iconst 0, 1) := by decide +kernel
theorem dX10_isColumn_15 : decode cX10_isColumn 15 = .ok (.ireturn, 1) := by decide +kernel
theorem dX10_isTurn_0 : decode cX10_isTurn 0 = .ok (.iload_n 0, 1) := by decide +kernel
theorem dX10_isTurn_1 : decode cX10_isTurn 1 = .ok (.ifCond .lt 12, 3) := by decide +kernel
theorem dX10_isTurn_4 : decode cX10_isTurn 4 = .ok (.iload_n 0, 1) := by decide +kernel
theorem dX10_isTurn_5 : decode cX10_isTurn 5 = .ok (.iconst 5, 1) := by decide +kernel
theorem dX10_isTurn_6 : decode cX10_isTurn 6 = .ok (.if_icmp .ge 7, 3) := by decide +kernel
theorem dX10_isTurn_9 : decode cX10_isTurn 9 = .ok (.iconst 1, 1) := by decide +kernel
theorem dX10_isTurn_10 : decode cX10_isTurn 10 = .ok (.goto 4, 3) := by decide +kernel
theorem dX10_isTurn_13 : decode cX10_isTurn 13 = .ok (.iconst 0, 1) := by decide +kernel
theorem dX10_isTurn_14 : decode cX10_isTurn 14 = .ok (.ireturn, 1) := by decide +kernel
theorem dX10_cellAt_0 : decode cX10_cellAt 0 = .ok (.iload_n 0, 1) := by decide +kernel
theorem dX10_cellAt_1 : decode cX10_cellAt 1 = .ok (.ifCond .lt 23, 3) := by decide +kernel
theorem dX10_cellAt_4 : decode cX10_cellAt 4 = .ok (.iload_n 0, 1) := by decide +kernel
theorem dX10_cellAt_5 : decode cX10_cellAt 5 = .ok (.bipush 6, 2) := by decide +kernel
theorem dX10_cellAt_7 : decode cX10_cellAt 7 = .ok (.if_icmp .ge 17, 3) := by decide +kernel
theorem dX10_cellAt_10 : decode cX10_cellAt 10 = .ok (.iload_n 1, 1) := by decide +kernel
theorem dX10_cellAt_11 : decode cX10_cellAt 11 = .ok (.ifCond .lt 13, 3) := by decide +kernel
theorem dX10_cellAt_14 : decode cX10_cellAt 14 = .ok (.iload_n 1, 1) := by decide +kernel
theorem dX10_cellAt_15 : decode cX10_cellAt 15 = .ok (.bipush 6, 2) := by decide +kernel
theorem dX10_cellAt_17 : decode cX10_cellAt 17 = .ok (.if_icmp .ge 7, 3) := by decide +kernel
theorem dX10_cellAt_20 : decode cX10_cellAt 20 = .ok (.iconst 1, 1) := by decide +kernel
theorem dX10_cellAt_21 : decode cX10_cellAt 21 = .ok (.goto 4, 3) := by decide +kernel
theorem dX10_cellAt_24 : decode cX10_cellAt 24 = .ok (.iconst 0, 1) := by decide +kernel
theorem dX10_cellAt_25 : decode cX10_cellAt 25 = .ok (.istore_n 2, 1) := by decide +kernel
theorem dX10_cellAt_26 : decode cX10_cellAt 26 = .ok (.iload_n 2, 1) := by decide +kernel
theorem dX10_cellAt_27 : decode cX10_cellAt 27 = .ok (.ifCond .eq 12, 3) := by decide +kernel
theorem dX10_cellAt_30 : decode cX10_cellAt 30 = .ok (.bipush 6, 2) := by decide +kernel
theorem dX10_cellAt_32 : decode cX10_cellAt 32 = .ok (.iload_n 0, 1) := by decide +kernel
theorem dX10_cellAt_33 : decode cX10_cellAt 33 = .ok (.imul, 1) := by decide +kernel
theorem dX10_cellAt_34 : decode cX10_cellAt 34 = .ok (.iload_n 1, 1) := by decide +kernel
theorem dX10_cellAt_35 : decode cX10_cellAt 35 = .ok (.iadd, 1) := by decide +kernel
theorem dX10_cellAt_36 : decode cX10_cellAt 36 = .ok (.goto 4, 3) := by decide +kernel
theorem dX10_cellAt_39 : decode cX10_cellAt 39 = .ok (.iconst (-1), 1) := by decide +kernel
theorem dX10_cellAt_40 : decode cX10_cellAt 40 = .ok (.ireturn, 1) := by decide +kernel
theorem dX10_columnBy_0 : decode cX10_columnBy 0 = .ok (.iload_n 0, 1) := by decide +kernel
theorem dX10_columnBy_1 : decode cX10_columnBy 1 = .ok (.iload_n 1, 1) := by decide +kernel
theorem dX10_columnBy_2 : decode cX10_columnBy 2 = .ok (.iadd, 1) := by decide +kernel
theorem dX10_columnBy_3 : decode cX10_columnBy 3 = .ok (.iconst 2, 1) := by decide +kernel
theorem dX10_columnBy_4 : decode cX10_columnBy 4 = .ok (.isub, 1) := by decide +kernel
theorem dX10_columnBy_5 : decode cX10_columnBy 5 = .ok (.istore_n 2, 1) := by decide +kernel
theorem dX10_columnBy_6 : decode cX10_columnBy 6 = .ok (.iload_n 2, 1) := by decide +kernel
theorem dX10_columnBy_7 : decode cX10_columnBy 7 = .ok (.invokestatic 203, 3) := by decide +kernel
theorem dX10_columnBy_10 : decode cX10_columnBy 10 = .ok (.ifCond .eq 7, 3) := by decide +kernel
theorem dX10_columnBy_13 : decode cX10_columnBy 13 = .ok (.iload_n 2, 1) := by decide +kernel
theorem dX10_columnBy_14 : decode cX10_columnBy 14 = .ok (.goto 4, 3) := by decide +kernel
theorem dX10_columnBy_17 : decode cX10_columnBy 17 = .ok (.iconst (-1), 1) := by decide +kernel
theorem dX10_columnBy_18 : decode cX10_columnBy 18 = .ok (.ireturn, 1) := by decide +kernel
theorem dX10_tellingAim_0 : decode cX10_tellingAim 0 = .ok (.iload_n 0, 1) := by decide +kernel
theorem dX10_tellingAim_1 : decode cX10_tellingAim 1 = .ok (.ifCond .ne 5, 3) := by decide +kernel
theorem dX10_tellingAim_4 : decode cX10_tellingAim 4 = .ok (.iconst (-1), 1) := by decide +kernel
theorem dX10_tellingAim_5 : decode cX10_tellingAim 5 = .ok (.ireturn, 1) := by decide +kernel
theorem dX10_tellingAim_6 : decode cX10_tellingAim 6 = .ok (.iconst 0, 1) := by decide +kernel
theorem dX10_tellingAim_7 : decode cX10_tellingAim 7 = .ok (.istore_n 1, 1) := by decide +kernel
theorem dX10_tellingAim_8 : decode cX10_tellingAim 8 = .ok (.iload_n 0, 1) := by decide +kernel
theorem dX10_tellingAim_9 : decode cX10_tellingAim 9 = .ok (.iconst 0, 1) := by decide +kernel
theorem dX10_tellingAim_10 : decode cX10_tellingAim 10 = .ok (.invokestatic 302, 3) := by decide +kernel
theorem dX10_tellingAim_13 : decode cX10_tellingAim 13 = .ok (.istore_n 2, 1) := by decide +kernel
theorem dX10_tellingAim_14 : decode cX10_tellingAim 14 = .ok (.iconst 1, 1) := by decide +kernel
theorem dX10_tellingAim_15 : decode cX10_tellingAim 15 = .ok (.istore_n 3, 1) := by decide +kernel
theorem dX10_tellingAim_16 : decode cX10_tellingAim 16 = .ok (.iload_n 3, 1) := by decide +kernel
theorem dX10_tellingAim_17 : decode cX10_tellingAim 17 = .ok (.bipush 6, 2) := by decide +kernel
theorem dX10_tellingAim_19 : decode cX10_tellingAim 19 = .ok (.if_icmp .ge 27, 3) := by decide +kernel
theorem dX10_tellingAim_22 : decode cX10_tellingAim 22 = .ok (.iload_n 0, 1) := by decide +kernel
theorem dX10_tellingAim_23 : decode cX10_tellingAim 23 = .ok (.iload_n 3, 1) := by decide +kernel
theorem dX10_tellingAim_24 : decode cX10_tellingAim 24 = .ok (.invokestatic 302, 3) := by decide +kernel
theorem dX10_tellingAim_27 : decode cX10_tellingAim 27 = .ok (.istore 4, 2) := by decide +kernel
theorem dX10_tellingAim_29 : decode cX10_tellingAim 29 = .ok (.iload 4, 2) := by decide +kernel
theorem dX10_tellingAim_31 : decode cX10_tellingAim 31 = .ok (.iload_n 2, 1) := by decide +kernel
theorem dX10_tellingAim_32 : decode cX10_tellingAim 32 = .ok (.if_icmp .ge 8, 3) := by decide +kernel
theorem dX10_tellingAim_35 : decode cX10_tellingAim 35 = .ok (.iload 4, 2) := by decide +kernel
theorem dX10_tellingAim_37 : decode cX10_tellingAim 37 = .ok (.istore_n 2, 1) := by decide +kernel
theorem dX10_tellingAim_38 : decode cX10_tellingAim 38 = .ok (.iload_n 3, 1) := by decide +kernel
theorem dX10_tellingAim_39 : decode cX10_tellingAim 39 = .ok (.istore_n 1, 1) := by decide +kernel
theorem dX10_tellingAim_40 : decode cX10_tellingAim 40 = .ok (.iinc 3 1, 3) := by decide +kernel
theorem dX10_tellingAim_43 : decode cX10_tellingAim 43 = .ok (.goto (-27), 3) := by decide +kernel
theorem dX10_tellingAim_46 : decode cX10_tellingAim 46 = .ok (.iload_n 1, 1) := by decide +kernel
theorem dX10_tellingAim_47 : decode cX10_tellingAim 47 = .ok (.ireturn, 1) := by decide +kernel
theorem dX10_mostLeft_0 : decode cX10_mostLeft 0 = .ok (.iconst 0, 1) := by decide +kernel
theorem dX10_mostLeft_1 : decode cX10_mostLeft 1 = .ok (.istore_n 2, 1) := by decide +kernel
theorem dX10_mostLeft_2 : decode cX10_mostLeft 2 = .ok (.iconst (-1), 1) := by decide +kernel
theorem dX10_mostLeft_3 : decode cX10_mostLeft 3 = .ok (.istore_n 3, 1) := by decide +kernel
theorem dX10_mostLeft_4 : decode cX10_mostLeft 4 = .ok (.iload_n 3, 1) := by decide +kernel
theorem dX10_mostLeft_5 : decode cX10_mostLeft 5 = .ok (.bipush 6, 2) := by decide +kernel
theorem dX10_mostLeft_7 : decode cX10_mostLeft 7 = .ok (.if_icmp .ge 57, 3) := by decide +kernel
theorem dX10_mostLeft_10 : decode cX10_mostLeft 10 = .ok (.iconst 0, 1) := by decide +kernel
theorem dX10_mostLeft_11 : decode cX10_mostLeft 11 = .ok (.istore 4, 2) := by decide +kernel
theorem dX10_mostLeft_13 : decode cX10_mostLeft 13 = .ok (.iconst 0, 1) := by decide +kernel
theorem dX10_mostLeft_14 : decode cX10_mostLeft 14 = .ok (.istore 5, 2) := by decide +kernel
theorem dX10_mostLeft_16 : decode cX10_mostLeft 16 = .ok (.iload 5, 2) := by decide +kernel
theorem dX10_mostLeft_18 : decode cX10_mostLeft 18 = .ok (.iconst 5, 1) := by decide +kernel
theorem dX10_mostLeft_19 : decode cX10_mostLeft 19 = .ok (.if_icmp .ge 32, 3) := by decide +kernel
theorem dX10_mostLeft_22 : decode cX10_mostLeft 22 = .ok (.iload_n 0, 1) := by decide +kernel
theorem dX10_mostLeft_23 : decode cX10_mostLeft 23 = .ok (.iload 5, 2) := by decide +kernel
theorem dX10_mostLeft_25 : decode cX10_mostLeft 25 = .ok (.ishr, 1) := by decide +kernel
theorem dX10_mostLeft_26 : decode cX10_mostLeft 26 = .ok (.iconst 1, 1) := by decide +kernel
theorem dX10_mostLeft_27 : decode cX10_mostLeft 27 = .ok (.iand, 1) := by decide +kernel
theorem dX10_mostLeft_28 : decode cX10_mostLeft 28 = .ok (.iconst 1, 1) := by decide +kernel
theorem dX10_mostLeft_29 : decode cX10_mostLeft 29 = .ok (.if_icmp .ne 16, 3) := by decide +kernel
theorem dX10_mostLeft_32 : decode cX10_mostLeft 32 = .ok (.iload_n 1, 1) := by decide +kernel
theorem dX10_mostLeft_33 : decode cX10_mostLeft 33 = .ok (.iload 5, 2) := by decide +kernel
theorem dX10_mostLeft_35 : decode cX10_mostLeft 35 = .ok (.invokestatic 305, 3) := by decide +kernel
theorem dX10_mostLeft_38 : decode cX10_mostLeft 38 = .ok (.iload_n 3, 1) := by decide +kernel
theorem dX10_mostLeft_39 : decode cX10_mostLeft 39 = .ok (.if_icmp .ne 6, 3) := by decide +kernel
theorem dX10_mostLeft_42 : decode cX10_mostLeft 42 = .ok (.iinc 4 1, 3) := by decide +kernel
theorem dX10_mostLeft_45 : decode cX10_mostLeft 45 = .ok (.iinc 5 1, 3) := by decide +kernel
theorem dX10_mostLeft_48 : decode cX10_mostLeft 48 = .ok (.goto (-32), 3) := by decide +kernel
theorem dX10_mostLeft_51 : decode cX10_mostLeft 51 = .ok (.iload_n 2, 1) := by decide +kernel
theorem dX10_mostLeft_52 : decode cX10_mostLeft 52 = .ok (.iload 4, 2) := by decide +kernel
theorem dX10_mostLeft_54 : decode cX10_mostLeft 54 = .ok (.invokestatic 308, 3) := by decide +kernel
theorem dX10_mostLeft_57 : decode cX10_mostLeft 57 = .ok (.istore_n 2, 1) := by decide +kernel
theorem dX10_mostLeft_58 : decode cX10_mostLeft 58 = .ok (.iinc 3 1, 3) := by decide +kernel
theorem dX10_mostLeft_61 : decode cX10_mostLeft 61 = .ok (.goto (-57), 3) := by decide +kernel
theorem dX10_mostLeft_64 : decode cX10_mostLeft 64 = .ok (.iload_n 2, 1) := by decide +kernel
theorem dX10_mostLeft_65 : decode cX10_mostLeft 65 = .ok (.ireturn, 1) := by decide +kernel
theorem dX10_nextSeed_0 : decode cX10_nextSeed 0 = .ok (.ldc2_w 313, 3) := by decide +kernel
theorem dX10_nextSeed_3 : decode cX10_nextSeed 3 = .ok (.iload_n 0, 1) := by decide +kernel
theorem dX10_nextSeed_4 : decode cX10_nextSeed 4 = .ok (.i2l, 1) := by decide +kernel
theorem dX10_nextSeed_5 : decode cX10_nextSeed 5 = .ok (.lmul, 1) := by decide +kernel
theorem dX10_nextSeed_6 : decode cX10_nextSeed 6 = .ok (.ldc2_w 315, 3) := by decide +kernel
theorem dX10_nextSeed_9 : decode cX10_nextSeed 9 = .ok (.ladd, 1) := by decide +kernel
theorem dX10_nextSeed_10 : decode cX10_nextSeed 10 = .ok (.ldc2_w 317, 3) := by decide +kernel
theorem dX10_nextSeed_13 : decode cX10_nextSeed 13 = .ok (.lrem, 1) := by decide +kernel
theorem dX10_nextSeed_14 : decode cX10_nextSeed 14 = .ok (.l2i, 1) := by decide +kernel
theorem dX10_nextSeed_15 : decode cX10_nextSeed 15 = .ok (.ireturn, 1) := by decide +kernel
theorem dX10_draw_0 : decode cX10_draw 0 = .ok (.iload_n 1, 1) := by decide +kernel
theorem dX10_draw_1 : decode cX10_draw 1 = .ok (.ifCond .le 13, 3) := by decide +kernel
theorem dX10_draw_4 : decode cX10_draw 4 = .ok (.iload_n 0, 1) := by decide +kernel
theorem dX10_draw_5 : decode cX10_draw 5 = .ok (.ldc_w 319, 3) := by decide +kernel
theorem dX10_draw_8 : decode cX10_draw 8 = .ok (.idiv, 1) := by decide +kernel
theorem dX10_draw_9 : decode cX10_draw 9 = .ok (.iload_n 1, 1) := by decide +kernel
theorem dX10_draw_10 : decode cX10_draw 10 = .ok (.irem, 1) := by decide +kernel
theorem dX10_draw_11 : decode cX10_draw 11 = .ok (.goto 4, 3) := by decide +kernel
theorem dX10_draw_14 : decode cX10_draw 14 = .ok (.iconst 0, 1) := by decide +kernel
theorem dX10_draw_15 : decode cX10_draw 15 = .ok (.ireturn, 1) := by decide +kernel
theorem dX10_at_0 : decode cX10_at 0 = .ok (.aload_n 0, 1) := by decide +kernel
theorem dX10_at_1 : decode cX10_at 1 = .ok (.ifnull 19, 3) := by decide +kernel
theorem dX10_at_4 : decode cX10_at 4 = .ok (.iload_n 1, 1) := by decide +kernel
theorem dX10_at_5 : decode cX10_at 5 = .ok (.ifCond .lt 15, 3) := by decide +kernel
theorem dX10_at_8 : decode cX10_at 8 = .ok (.iload_n 1, 1) := by decide +kernel
theorem dX10_at_9 : decode cX10_at 9 = .ok (.aload_n 0, 1) := by decide +kernel
theorem dX10_at_10 : decode cX10_at 10 = .ok (.arraylength, 1) := by decide +kernel
theorem dX10_at_11 : decode cX10_at 11 = .ok (.if_icmp .ge 9, 3) := by decide +kernel
theorem dX10_at_14 : decode cX10_at 14 = .ok (.aload_n 0, 1) := by decide +kernel
theorem dX10_at_15 : decode cX10_at 15 = .ok (.iload_n 1, 1) := by decide +kernel
theorem dX10_at_16 : decode cX10_at 16 = .ok (.iaload, 1) := by decide +kernel
theorem dX10_at_17 : decode cX10_at 17 = .ok (.goto 4, 3) := by decide +kernel
theorem dX10_at_20 : decode cX10_at 20 = .ok (.iconst 0, 1) := by decide +kernel
theorem dX10_at_21 : decode cX10_at 21 = .ok (.ireturn, 1) := by decide +kernel
theorem dX10_put_0 : decode cX10_put 0 = .ok (.aload_n 0, 1) := by decide +kernel
theorem dX10_put_1 : decode cX10_put 1 = .ok (.ifnull 17, 3) := by decide +kernel
theorem dX10_put_4 : decode cX10_put 4 = .ok (.iload_n 1, 1) := by decide +kernel
theorem dX10_put_5 : decode cX10_put 5 = .ok (.ifCond .lt 13, 3) := by decide +kernel
theorem dX10_put_8 : decode cX10_put 8 = .ok (.iload_n 1, 1) := by decide +kernel
theorem dX10_put_9 : decode cX10_put 9 = .ok (.aload_n 0, 1) := by decide +kernel
theorem dX10_put_10 : decode cX10_put 10 = .ok (.arraylength, 1) := by decide +kernel
theorem dX10_put_11 : decode cX10_put 11 = .ok (.if_icmp .ge 7, 3) := by decide +kernel
theorem dX10_put_14 : decode cX10_put 14 = .ok (.aload_n 0, 1) := by decide +kernel
theorem dX10_put_15 : decode cX10_put 15 = .ok (.iload_n 1, 1) := by decide +kernel
theorem dX10_put_16 : decode cX10_put 16 = .ok (.iload_n 2, 1) := by decide +kernel
theorem dX10_put_17 : decode cX10_put 17 = .ok (.iastore, 1) := by decide +kernel
theorem dX10_put_18 : decode cX10_put 18 = .ok (.return_, 1) := by decide +kernel
theorem dX10_clear_0 : decode cX10_clear 0 = .ok (.iconst 0, 1) := by decide +kernel
theorem dX10_clear_1 : decode cX10_clear 1 = .ok (.istore_n 1, 1) := by decide +kernel
theorem dX10_clear_2 : decode cX10_clear 2 = .ok (.aload_n 0, 1) := by decide +kernel
theorem dX10_clear_3 : decode cX10_clear 3 = .ok (.ifnull 19, 3) := by decide +kernel
theorem dX10_clear_6 : decode cX10_clear 6 = .ok (.iload_n 1, 1) := by decide +kernel
theorem dX10_clear_7 : decode cX10_clear 7 = .ok (.aload_n 0, 1) := by decide +kernel
theorem dX10_clear_8 : decode cX10_clear 8 = .ok (.arraylength, 1) := by decide +kernel
theorem dX10_clear_9 : decode cX10_clear 9 = .ok (.if_icmp .ge 13, 3) := by decide +kernel
theorem dX10_clear_12 : decode cX10_clear 12 = .ok (.aload_n 0, 1) := by decide +kernel
theorem dX10_clear_13 : decode cX10_clear 13 = .ok (.iload_n 1, 1) := by decide +kernel
theorem dX10_clear_14 : decode cX10_clear 14 = .ok (.iconst 0, 1) := by decide +kernel
theorem dX10_clear_15 : decode cX10_clear 15 = .ok (.iastore, 1) := by decide +kernel
theorem dX10_clear_16 : decode cX10_clear 16 = .ok (.iinc 1 1, 3) := by decide +kernel
theorem dX10_clear_19 : decode cX10_clear 19 = .ok (.goto (-17), 3) := by decide +kernel
theorem dX10_clear_22 : decode cX10_clear 22 = .ok (.return_, 1) := by decide +kernel
theorem dX10_copy_0 : decode cX10_copy 0 = .ok (.iconst 0, 1) := by decide +kernel
theorem dX10_copy_1 : decode cX10_copy 1 = .ok (.istore_n 2, 1) := by decide +kernel
theorem dX10_copy_2 : decode cX10_copy 2 = .ok (.aload_n 0, 1) := by decide +kernel
theorem dX10_copy_3 : decode cX10_copy 3 = .ok (.ifnull 23, 3) := by decide +kernel
theorem dX10_copy_6 : decode cX10_copy 6 = .ok (.iload_n 2, 1) := by decide +kernel
theorem dX10_copy_7 : decode cX10_copy 7 = .ok (.aload_n 0, 1) := by decide +kernel
theorem dX10_copy_8 : decode cX10_copy 8 = .ok (.arraylength, 1) := by decide +kernel
theorem dX10_copy_9 : decode cX10_copy 9 = .ok (.if_icmp .ge 17, 3) := by decide +kernel
theorem dX10_copy_12 : decode cX10_copy 12 = .ok (.aload_n 1, 1) := by decide +kernel
theorem dX10_copy_13 : decode cX10_copy 13 = .ok (.iload_n 2, 1) := by decide +kernel
theorem dX10_copy_14 : decode cX10_copy 14 = .ok (.aload_n 0, 1) := by decide +kernel
theorem dX10_copy_15 : decode cX10_copy 15 = .ok (.iload_n 2, 1) := by decide +kernel
theorem dX10_copy_16 : decode cX10_copy 16 = .ok (.iaload, 1) := by decide +kernel
theorem dX10_copy_17 : decode cX10_copy 17 = .ok (.invokestatic 164, 3) := by decide +kernel
theorem dX10_copy_20 : decode cX10_copy 20 = .ok (.iinc 2 1, 3) := by decide +kernel
theorem dX10_copy_23 : decode cX10_copy 23 = .ok (.goto (-21), 3) := by decide +kernel
theorem dX10_copy_26 : decode cX10_copy 26 = .ok (.return_, 1) := by decide +kernel
theorem dX10_sum_0 : decode cX10_sum 0 = .ok (.iconst 0, 1) := by decide +kernel
theorem dX10_sum_1 : decode cX10_sum 1 = .ok (.istore_n 1, 1) := by decide +kernel
theorem dX10_sum_2 : decode cX10_sum 2 = .ok (.iconst 0, 1) := by decide +kernel
theorem dX10_sum_3 : decode cX10_sum 3 = .ok (.istore_n 2, 1) := by decide +kernel
theorem dX10_sum_4 : decode cX10_sum 4 = .ok (.aload_n 0, 1) := by decide +kernel
theorem dX10_sum_5 : decode cX10_sum 5 = .ok (.ifnull 21, 3) := by decide +kernel
theorem dX10_sum_8 : decode cX10_sum 8 = .ok (.iload_n 2, 1) := by decide +kernel
theorem dX10_sum_9 : decode cX10_sum 9 = .ok (.aload_n 0, 1) := by decide +kernel
theorem dX10_sum_10 : decode cX10_sum 10 = .ok (.arraylength, 1) := by decide +kernel
theorem dX10_sum_11 : decode cX10_sum 11 = .ok (.if_icmp .ge 15, 3) := by decide +kernel
theorem dX10_sum_14 : decode cX10_sum 14 = .ok (.iload_n 1, 1) := by decide +kernel
theorem dX10_sum_15 : decode cX10_sum 15 = .ok (.aload_n 0, 1) := by decide +kernel
theorem dX10_sum_16 : decode cX10_sum 16 = .ok (.iload_n 2, 1) := by decide +kernel
theorem dX10_sum_17 : decode cX10_sum 17 = .ok (.iaload, 1) := by decide +kernel
theorem dX10_sum_18 : decode cX10_sum 18 = .ok (.iadd, 1) := by decide +kernel
theorem dX10_sum_19 : decode cX10_sum 19 = .ok (.istore_n 1, 1) := by decide +kernel
theorem dX10_sum_20 : decode cX10_sum 20 = .ok (.iinc 2 1, 3) := by decide +kernel
theorem dX10_sum_23 : decode cX10_sum 23 = .ok (.goto (-19), 3) := by decide +kernel
theorem dX10_sum_26 : decode cX10_sum 26 = .ok (.iload_n 1, 1) := by decide +kernel
theorem dX10_sum_27 : decode cX10_sum 27 = .ok (.ireturn, 1) := by decide +kernel
theorem dX10_tosserOf_0 : decode cX10_tosserOf 0 = .ok (.iload_n 0, 1) := by decide +kernel
theorem dX10_tosserOf_1 : decode cX10_tosserOf 1 = .ok (.tableswitch 63 1 4 #[31, 39, 47, 55], 31) := by decide +kernel
theorem dX10_tosserOf_32 : decode cX10_tosserOf 32 = .ok (.new 320, 3) := by decide +kernel
theorem dX10_tosserOf_35 : decode cX10_tosserOf 35 = .ok (.dup, 1) := by decide +kernel
theorem dX10_tosserOf_36 : decode cX10_tosserOf 36 = .ok (.invokespecial 322, 3) := by decide +kernel
theorem dX10_tosserOf_39 : decode cX10_tosserOf 39 = .ok (.areturn, 1) := by decide +kernel
theorem dX10_tosserOf_40 : decode cX10_tosserOf 40 = .ok (.new 323, 3) := by decide +kernel
theorem dX10_tosserOf_43 : decode cX10_tosserOf 43 = .ok (.dup, 1) := by decide +kernel
theorem dX10_tosserOf_44 : decode cX10_tosserOf 44 = .ok (.invokespecial 325, 3) := by decide +kernel
theorem dX10_tosserOf_47 : decode cX10_tosserOf 47 = .ok (.areturn, 1) := by decide +kernel
theorem dX10_tosserOf_48 : decode cX10_tosserOf 48 = .ok (.new 326, 3) := by decide +kernel
theorem dX10_tosserOf_51 : decode cX10_tosserOf 51 = .ok (.dup, 1) := by decide +kernel
theorem dX10_tosserOf_52 : decode cX10_tosserOf 52 = .ok (.invokespecial 328, 3) := by decide +kernel
theorem dX10_tosserOf_55 : decode cX10_tosserOf 55 = .ok (.areturn, 1) := by decide +kernel
theorem dX10_tosserOf_56 : decode cX10_tosserOf 56 = .ok (.new 329, 3) := by decide +kernel
theorem dX10_tosserOf_59 : decode cX10_tosserOf 59 = .ok (.dup, 1) := by decide +kernel
theorem dX10_tosserOf_60 : decode cX10_tosserOf 60 = .ok (.invokespecial 331, 3) := by decide +kernel
theorem dX10_tosserOf_63 : decode cX10_tosserOf 63 = .ok (.areturn, 1) := by decide +kernel
theorem dX10_tosserOf_64 : decode cX10_tosserOf 64 = .ok (.new 23, 3) := by decide +kernel
theorem dX10_tosserOf_67 : decode cX10_tosserOf 67 = .ok (.dup, 1) := by decide +kernel
theorem dX10_tosserOf_68 : decode cX10_tosserOf 68 = .ok (.invokespecial 332, 3) := by decide +kernel
theorem dX10_tosserOf_71 : decode cX10_tosserOf 71 = .ok (.areturn, 1) := by decide +kernel
theorem dX10_isOfKind_0 : decode cX10_isOfKind 0 = .ok (.iload_n 1, 1) := by decide +kernel
theorem dX10_isOfKind_1 : decode cX10_isOfKind 1 = .ok (.tableswitch 65 0 4 #[35, 45, 50, 55, 60], 35) := by decide +kernel
theorem dX10_isOfKind_36 : decode cX10_isOfKind 36 = .ok (.aload_n 0, 1) := by decide +kernel
theorem dX10_isOfKind_37 : decode cX10_isOfKind 37 = .ok (.ifnull 7, 3) := by decide +kernel
theorem dX10_isOfKind_40 : decode cX10_isOfKind 40 = .ok (.iconst 1, 1) := by decide +kernel
theorem dX10_isOfKind_41 : decode cX10_isOfKind 41 = .ok (.goto 4, 3) := by decide +kernel
theorem dX10_isOfKind_44 : decode cX10_isOfKind 44 = .ok (.iconst 0, 1) := by decide +kernel
theorem dX10_isOfKind_45 : decode cX10_isOfKind 45 = .ok (.ireturn, 1) := by decide +kernel
theorem dX10_isOfKind_46 : decode cX10_isOfKind 46 = .ok (.aload_n 0, 1) := by decide +kernel
theorem dX10_isOfKind_47 : decode cX10_isOfKind 47 = .ok (.instanceof 320, 3) := by decide +kernel
theorem dX10_isOfKind_50 : decode cX10_isOfKind 50 = .ok (.ireturn, 1) := by decide +kernel
theorem dX10_isOfKind_51 : decode cX10_isOfKind 51 = .ok (.aload_n 0, 1) := by decide +kernel
theorem dX10_isOfKind_52 : decode cX10_isOfKind 52 = .ok (.instanceof 323, 3) := by decide +kernel
theorem dX10_isOfKind_55 : decode cX10_isOfKind 55 = .ok (.ireturn, 1) := by decide +kernel
theorem dX10_isOfKind_56 : decode cX10_isOfKind 56 = .ok (.aload_n 0, 1) := by decide +kernel
theorem dX10_isOfKind_57 : decode cX10_isOfKind 57 = .ok (.instanceof 326, 3) := by decide +kernel
theorem dX10_isOfKind_60 : decode cX10_isOfKind 60 = .ok (.ireturn, 1) := by decide +kernel
theorem dX10_isOfKind_61 : decode cX10_isOfKind 61 = .ok (.aload_n 0, 1) := by decide +kernel
theorem dX10_isOfKind_62 : decode cX10_isOfKind 62 = .ok (.instanceof 329, 3) := by decide +kernel
theorem dX10_isOfKind_65 : decode cX10_isOfKind 65 = .ok (.ireturn, 1) := by decide +kernel
theorem dX10_isOfKind_66 : decode cX10_isOfKind 66 = .ok (.iconst 0, 1) := by decide +kernel
theorem dX10_isOfKind_67 : decode cX10_isOfKind 67 = .ok (.ireturn, 1) := by decide +kernel
theorem dX11_init_0 : decode cX11_init 0 = .ok (.aload_n 0, 1) := by decide +kernel
theorem dX11_init_1 : decode cX11_init 1 = .ok (.invokespecial 1, 3) := by decide +kernel
theorem dX11_init_4 : decode cX11_init 4 = .ok (.aload_n 0, 1) := by decide +kernel
theorem dX11_init_5 : decode cX11_init 5 = .ok (.bipush 36, 2) := by decide +kernel
theorem dX11_init_7 : decode cX11_init 7 = .ok (.newarray .int, 2) := by decide +kernel
theorem dX11_init_9 : decode cX11_init 9 = .ok (.putfield 7, 3) := by decide +kernel
theorem dX11_init_12 : decode cX11_init 12 = .ok (.aload_n 0, 1) := by decide +kernel
theorem dX11_init_13 : decode cX11_init 13 = .ok (.bipush 6, 2) := by decide +kernel
theorem dX11_init_15 : decode cX11_init 15 = .ok (.newarray .int, 2) := by decide +kernel
theorem dX11_init_17 : decode cX11_init 17 = .ok (.putfield 13, 3) := by decide +kernel
theorem dX11_init_20 : decode cX11_init 20 = .ok (.aload_n 0, 1) := by decide +kernel
theorem dX11_init_21 : decode cX11_init 21 = .ok (.bipush 6, 2) := by decide +kernel
theorem dX11_init_23 : decode cX11_init 23 = .ok (.newarray .int, 2) := by decide +kernel
theorem dX11_init_25 : decode cX11_init 25 = .ok (.putfield 16, 3) := by decide +kernel
theorem dX11_init_28 : decode cX11_init 28 = .ok (.aload_n 0, 1) := by decide +kernel
theorem dX11_init_29 : decode cX11_init 29 = .ok (.bipush 6, 2) := by decide +kernel
theorem dX11_init_31 : decode cX11_init 31 = .ok (.newarray .int, 2) := by decide +kernel
theorem dX11_init_33 : decode cX11_init 33 = .ok (.putfield 19, 3) := by decide +kernel
theorem dX11_init_36 : decode cX11_init 36 = .ok (.aload_n 0, 1) := by decide +kernel
theorem dX11_init_37 : decode cX11_init 37 = .ok (.bipush 6, 2) := by decide +kernel
theorem dX11_init_39 : decode cX11_init 39 = .ok (.newarray .int, 2) := by decide +kernel
theorem dX11_init_41 : decode cX11_init 41 = .ok (.putfield 22, 3) := by decide +kernel
theorem dX11_init_44 : decode cX11_init 44 = .ok (.aload_n 0, 1) := by decide +kernel
theorem dX11_init_45 : decode cX11_init 45 = .ok (.iconst 4, 1) := by decide +kernel
theorem dX11_init_46 : decode cX11_init 46 = .ok (.newarray .int, 2) := by decide +kernel
theorem dX11_init_48 : decode cX11_init 48 = .ok (.putfield 25, 3) := by decide +kernel
theorem dX11_init_51 : decode cX11_init 51 = .ok (.aload_n 0, 1) := by decide +kernel
theorem dX11_init_52 : decode cX11_init 52 = .ok (.iconst 4, 1) := by decide +kernel
theorem dX11_init_53 : decode cX11_init 53 = .ok (.newarray .int, 2) := by decide +kernel
theorem dX11_init_55 : decode cX11_init 55 = .ok (.putfield 28, 3) := by decide +kernel
theorem dX11_init_58 : decode cX11_init 58 = .ok (.aload_n 0, 1) := by decide +kernel
theorem dX11_init_59 : decode cX11_init 59 = .ok (.iconst 4, 1) := by decide +kernel
theorem dX11_init_60 : decode cX11_init 60 = .ok (.newarray .int, 2) := by decide +kernel
theorem dX11_init_62 : decode cX11_init 62 = .ok (.putfield 31, 3) := by decide +kernel
theorem dX11_init_65 : decode cX11_init 65 = .ok (.aload_n 0, 1) := by decide +kernel
theorem dX11_init_66 : decode cX11_init 66 = .ok (.iconst 4, 1) := by decide +kernel
theorem dX11_init_67 : decode cX11_init 67 = .ok (.newarray .int, 2) := by decide +kernel
theorem dX11_init_69 : decode cX11_init 69 = .ok (.putfield 34, 3) := by decide +kernel
theorem dX11_init_72 : decode cX11_init 72 = .ok (.aload_n 0, 1) := by decide +kernel
theorem dX11_init_73 : decode cX11_init 73 = .ok (.sipush 144, 3) := by decide +kernel
theorem dX11_init_76 : decode cX11_init 76 = .ok (.newarray .int, 2) := by decide +kernel
theorem dX11_init_78 : decode cX11_init 78 = .ok (.putfield 37, 3) := by decide +kernel
theorem dX11_init_81 : decode cX11_init 81 = .ok (.aload_n 0, 1) := by decide +kernel
theorem dX11_init_82 : decode cX11_init 82 = .ok (.sipush 9280, 3) := by decide +kernel
theorem dX11_init_85 : decode cX11_init 85 = .ok (.newarray .int, 2) := by decide +kernel
theorem dX11_init_87 : decode cX11_init 87 = .ok (.putfield 40, 3) := by decide +kernel
theorem dX11_init_90 : decode cX11_init 90 = .ok (.aload_n 0, 1) := by decide +kernel
theorem dX11_init_91 : decode cX11_init 91 = .ok (.bipush 6, 2) := by decide +kernel
theorem dX11_init_93 : decode cX11_init 93 = .ok (.newarray .int, 2) := by decide +kernel
theorem dX11_init_95 : decode cX11_init 95 = .ok (.putfield 43, 3) := by decide +kernel
theorem dX11_init_98 : decode cX11_init 98 = .ok (.aload_n 0, 1) := by decide +kernel
theorem dX11_init_99 : decode cX11_init 99 = .ok (.bipush 18, 2) := by decide +kernel
theorem dX11_init_101 : decode cX11_init 101 = .ok (.newarray .int, 2) := by decide +kernel
theorem dX11_init_103 : decode cX11_init 103 = .ok (.putfield 46, 3) := by decide +kernel
theorem dX11_init_106 : decode cX11_init 106 = .ok (.aload_n 0, 1) := by decide +kernel
theorem dX11_init_107 : decode cX11_init 107 = .ok (.bipush 6, 2) := by decide +kernel
theorem dX11_init_109 : decode cX11_init 109 = .ok (.newarray .int, 2) := by decide +kernel
theorem dX11_init_111 : decode cX11_init 111 = .ok (.putfield 49, 3) := by decide +kernel
theorem dX11_init_114 : decode cX11_init 114 = .ok (.aload_n 0, 1) := by decide +kernel
theorem dX11_init_115 : decode cX11_init 115 = .ok (.bipush 6, 2) := by decide +kernel
theorem dX11_init_117 : decode cX11_init 117 = .ok (.newarray .int, 2) := by decide +kernel
theorem dX11_init_119 : decode cX11_init 119 = .ok (.putfield 52, 3) := by decide +kernel
theorem dX11_init_122 : decode cX11_init 122 = .ok (.aload_n 0, 1) := by decide +kernel
theorem dX11_init_123 : decode cX11_init 123 = .ok (.bipush 6, 2) := by decide +kernel
theorem dX11_init_125 : decode cX11_init 125 = .ok (.newarray .int, 2) := by decide +kernel
theorem dX11_init_127 : decode cX11_init 127 = .ok (.putfield 55, 3) := by decide +kernel
theorem dX11_init_130 : decode cX11_init 130 = .ok (.aload_n 0, 1) := by decide +kernel
theorem dX11_init_131 : decode cX11_init 131 = .ok (.bipush 6, 2) := by decide +kernel
theorem dX11_init_133 : decode cX11_init 133 = .ok (.newarray .int, 2) := by decide +kernel
theorem dX11_init_135 : decode cX11_init 135 = .ok (.putfield 58, 3) := by decide +kernel
theorem dX11_init_138 : decode cX11_init 138 = .ok (.aload_n 0, 1) := by decide +kernel
theorem dX11_init_139 : decode cX11_init 139 = .ok (.iconst 4, 1) := by decide +kernel
theorem dX11_init_140 : decode cX11_init 140 = .ok (.newarray .int, 2) := by decide +kernel
theorem dX11_init_142 : decode cX11_init 142 = .ok (.putfield 61, 3) := by decide +kernel
theorem dX11_init_145 : decode cX11_init 145 = .ok (.aload_n 0, 1) := by decide +kernel
theorem dX11_init_146 : decode cX11_init 146 = .ok (.iconst 4, 1) := by decide +kernel
theorem dX11_init_147 : decode cX11_init 147 = .ok (.newarray .int, 2) := by decide +kernel
theorem dX11_init_149 : decode cX11_init 149 = .ok (.putfield 64, 3) := by decide +kernel
theorem dX11_init_152 : decode cX11_init 152 = .ok (.aload_n 0, 1) := by decide +kernel
theorem dX11_init_153 : decode cX11_init 153 = .ok (.iconst 4, 1) := by decide +kernel
theorem dX11_init_154 : decode cX11_init 154 = .ok (.newarray .int, 2) := by decide +kernel
theorem dX11_init_156 : decode cX11_init 156 = .ok (.putfield 67, 3) := by decide +kernel
theorem dX11_init_159 : decode cX11_init 159 = .ok (.aload_n 0, 1) := by decide +kernel
theorem dX11_init_160 : decode cX11_init 160 = .ok (.bipush 18, 2) := by decide +kernel
theorem dX11_init_162 : decode cX11_init 162 = .ok (.newarray .int, 2) := by decide +kernel
theorem dX11_init_164 : decode cX11_init 164 = .ok (.putfield 70, 3) := by decide +kernel
theorem dX11_init_167 : decode cX11_init 167 = .ok (.aload_n 0, 1) := by decide +kernel
theorem dX11_init_168 : decode cX11_init 168 = .ok (.iconst (-1), 1) := by decide +kernel
theorem dX11_init_169 : decode cX11_init 169 = .ok (.putfield 73, 3) := by decide +kernel
theorem dX11_init_172 : decode cX11_init 172 = .ok (.return_, 1) := by decide +kernel
theorem dX11_in_0 : decode cX11_in 0 = .ok (.lload_n 0, 1) := by decide +kernel
theorem dX11_in_1 : decode cX11_in 1 = .ok (.lload_n 2, 1) := by decide +kernel
theorem dX11_in_2 : decode cX11_in 2 = .ok (.lcmp, 1) := by decide +kernel
theorem dX11_in_3 : decode cX11_in 3 = .ok (.ifCond .lt 14, 3) := by decide +kernel
theorem dX11_in_6 : decode cX11_in 6 = .ok (.lload_n 0, 1) := by decide +kernel
theorem dX11_in_7 : decode cX11_in 7 = .ok (.lload 4, 2) := by decide +kernel
theorem dX11_in_9 : decode cX11_in 9 = .ok (.lcmp, 1) := by decide +kernel
theorem dX11_in_10 : decode cX11_in 10 = .ok (.ifCond .gt 7, 3) := by decide +kernel
theorem dX11_in_13 : decode cX11_in 13 = .ok (.iconst 1, 1) := by decide +kernel
theorem dX11_in_14 : decode cX11_in 14 = .ok (.goto 4, 3) := by decide +kernel
theorem dX11_in_17 : decode cX11_in 17 = .ok (.iconst 0, 1) := by decide +kernel
theorem dX11_in_18 : decode cX11_in 18 = .ok (.ireturn, 1) := by decide +kernel
theorem dX11_copy_0 : decode cX11_copy 0 = .ok (.iconst 0, 1) := by decide +kernel
theorem dX11_copy_1 : decode cX11_copy 1 = .ok (.istore_n 2, 1) := by decide +kernel
theorem dX11_copy_2 : decode cX11_copy 2 = .ok (.iload_n 2, 1) := by decide +kernel
theorem dX11_copy_3 : decode cX11_copy 3 = .ok (.aload_n 0, 1) := by decide +kernel
theorem dX11_copy_4 : decode cX11_copy 4 = .ok (.arraylength, 1) := by decide +kernel
theorem dX11_copy_5 : decode cX11_copy 5 = .ok (.if_icmp .ge 15, 3) := by decide +kernel
theorem dX11_copy_8 : decode cX11_copy 8 = .ok (.aload_n 1, 1) := by decide +kernel
theorem dX11_copy_9 : decode cX11_copy 9 = .ok (.iload_n 2, 1) := by decide +kernel
theorem dX11_copy_10 : decode cX11_copy 10 = .ok (.aload_n 0, 1) := by decide +kernel
theorem dX11_copy_11 : decode cX11_copy 11 = .ok (.iload_n 2, 1) := by decide +kernel
theorem dX11_copy_12 : decode cX11_copy 12 = .ok (.iaload, 1) := by decide +kernel
theorem dX11_copy_13 : decode cX11_copy 13 = .ok (.iastore, 1) := by decide +kernel
theorem dX11_copy_14 : decode cX11_copy 14 = .ok (.iinc 2 1, 3) := by decide +kernel
theorem dX11_copy_17 : decode cX11_copy 17 = .ok (.goto (-15), 3) := by decide +kernel
theorem dX11_copy_20 : decode cX11_copy 20 = .ok (.return_, 1) := by decide +kernel
theorem dX11_letter_0 : decode cX11_letter 0 = .ok (.iload_n 1, 1) := by decide +kernel
theorem dX11_letter_1 : decode cX11_letter 1 = .ok (.i2l, 1) := by decide +kernel
theorem dX11_letter_2 : decode cX11_letter 2 = .ok (.lconst 1, 1) := by decide +kernel
theorem dX11_letter_3 : decode cX11_letter 3 = .ok (.ldc2_w 77, 3) := by decide +kernel
theorem dX11_letter_6 : decode cX11_letter 6 = .ok (.invokestatic 79, 3) := by decide +kernel
theorem dX11_letter_9 : decode cX11_letter 9 = .ok (.ifCond .ne 6, 3) := by decide +kernel
theorem dX11_letter_12 : decode cX11_letter 12 = .ok (.bipush (-102), 2) := by decide +kernel
theorem dX11_letter_14 : decode cX11_letter 14 = .ok (.ireturn, 1) := by decide +kernel
theorem dX11_letter_15 : decode cX11_letter 15 = .ok (.aload_n 0, 1) := by decide +kernel
theorem dX11_letter_16 : decode cX11_letter 16 = .ok (.getfield 83, 3) := by decide +kernel
theorem dX11_letter_19 : decode cX11_letter 19 = .ok (.bipush 36, 2) := by decide +kernel
theorem dX11_letter_21 : decode cX11_letter 21 = .ok (.if_icmp .ne 6, 3) := by decide +kernel
theorem dX11_letter_24 : decode cX11_letter 24 = .ok (.bipush (-104), 2) := by decide +kernel
theorem dX11_letter_26 : decode cX11_letter 26 = .ok (.ireturn, 1) := by decide +kernel
theorem dX11_letter_27 : decode cX11_letter 27 = .ok (.aload_n 0, 1) := by decide +kernel
theorem dX11_letter_28 : decode cX11_letter 28 = .ok (.getfield 7, 3) := by decide +kernel
theorem dX11_letter_31 : decode cX11_letter 31 = .ok (.aload_n 0, 1) := by decide +kernel
theorem dX11_letter_32 : decode cX11_letter 32 = .ok (.getfield 83, 3) := by decide +kernel
theorem dX11_letter_35 : decode cX11_letter 35 = .ok (.iload_n 1, 1) := by decide +kernel
theorem dX11_letter_36 : decode cX11_letter 36 = .ok (.iastore, 1) := by decide +kernel
theorem dX11_letter_37 : decode cX11_letter 37 = .ok (.aload_n 0, 1) := by decide +kernel
theorem dX11_letter_38 : decode cX11_letter 38 = .ok (.dup, 1) := by decide +kernel
theorem dX11_letter_39 : decode cX11_letter 39 = .ok (.getfield 83, 3) := by decide +kernel
theorem dX11_letter_42 : decode cX11_letter 42 = .ok (.iconst 1, 1) := by decide +kernel
theorem dX11_letter_43 : decode cX11_letter 43 = .ok (.iadd, 1) := by decide +kernel
theorem dX11_letter_44 : decode cX11_letter 44 = .ok (.putfield 83, 3) := by decide +kernel
theorem dX11_letter_47 : decode cX11_letter 47 = .ok (.aload_n 0, 1) := by decide +kernel
theorem dX11_letter_48 : decode cX11_letter 48 = .ok (.getfield 83, 3) := by decide +kernel
theorem dX11_letter_51 : decode cX11_letter 51 = .ok (.ireturn, 1) := by decide +kernel
theorem dX11_blank_0 : decode cX11_blank 0 = .ok (.aload_n 0, 1) := by decide +kernel
theorem dX11_blank_1 : decode cX11_blank 1 = .ok (.getfield 83, 3) := by decide +kernel
theorem dX11_blank_4 : decode cX11_blank 4 = .ok (.istore_n 1, 1) := by decide +kernel
theorem dX11_blank_5 : decode cX11_blank 5 = .ok (.aload_n 0, 1) := by decide +kernel
theorem dX11_blank_6 : decode cX11_blank 6 = .ok (.iconst 0, 1) := by decide +kernel
theorem dX11_blank_7 : decode cX11_blank 7 = .ok (.putfield 83, 3) := by decide +kernel
theorem dX11_blank_10 : decode cX11_blank 10 = .ok (.iload_n 1, 1) := by decide +kernel
theorem dX11_blank_11 : decode cX11_blank 11 = .ok (.ireturn, 1) := by decide +kernel
theorem dX11_kindBy_0 : decode cX11_kindBy 0 = .ok (.iload_n 0, 1) := by decide +kernel
theorem dX11_kindBy_1 : decode cX11_kindBy 1 = .ok (.lookupswitch 61 #[(104, 57), (108, 53), (109, 59), (116, 51), (119, 55)], 51) := by decide +kernel
theorem dX11_kindBy_52 : decode cX11_kindBy 52 = .ok (.iconst 0, 1) := by decide +kernel
theorem dX11_kindBy_53 : decode cX11_kindBy 53 = .ok (.ireturn, 1) := by decide +kernel
theorem dX11_kindBy_54 : decode cX11_kindBy 54 = .ok (.iconst 1, 1) := by decide +kernel
theorem dX11_kindBy_55 : decode cX11_kindBy 55 = .ok (.ireturn, 1) := by decide +kernel
theorem dX11_kindBy_56 : decode cX11_kindBy 56 = .ok (.iconst 2, 1) := by decide +kernel
theorem dX11_kindBy_57 : decode cX11_kindBy 57 = .ok (.ireturn, 1) := by decide +kernel
theorem dX11_kindBy_58 : decode cX11_kindBy 58 = .ok (.iconst 3, 1) := by decide +kernel
theorem dX11_kindBy_59 : decode cX11_kindBy 59 = .ok (.ireturn, 1) := by decide +kernel
theorem dX11_kindBy_60 : decode cX11_kindBy 60 = .ok (.iconst 4, 1) := by decide +kernel
theorem dX11_kindBy_61 : decode cX11_kindBy 61 = .ok (.ireturn, 1) := by decide +kernel
theorem dX11_kindBy_62 : decode cX11_kindBy 62 = .ok (.iconst (-1), 1) := by decide +kernel
theorem dX11_kindBy_63 : decode cX11_kindBy 63 = .ok (.ireturn, 1) := by decide +kernel
theorem dX11_cellAt_0 : decode cX11_cellAt 0 = .ok (.bipush 6, 2) := by decide +kernel
theorem dX11_cellAt_2 : decode cX11_cellAt 2 = .ok (.aload_n 0, 1) := by decide +kernel
theorem dX11_cellAt_3 : decode cX11_cellAt 3 = .ok (.getfield 7, 3) := by decide +kernel
theorem dX11_cellAt_6 : decode cX11_cellAt 6 = .ok (.iload_n 1, 1) := by decide +kernel
theorem dX11_cellAt_7 : decode cX11_cellAt 7 = .ok (.iaload, 1) := by decide +kernel
theorem dX11_cellAt_8 : decode cX11_cellAt 8 = .ok (.bipush 48, 2) := by decide +kernel
theorem dX11_cellAt_10 : decode cX11_cellAt 10 = .ok (.isub, 1) := by decide +kernel
theorem dX11_cellAt_11 : decode cX11_cellAt 11 = .ok (.imul, 1) := by decide +kernel
theorem dX11_cellAt_12 : decode cX11_cellAt 12 = .ok (.aload_n 0, 1) := by decide +kernel
theorem dX11_cellAt_13 : decode cX11_cellAt 13 = .ok (.getfield 7, 3) := by decide +kernel
theorem dX11_cellAt_16 : decode cX11_cellAt 16 = .ok (.iload_n 1, 1) := by decide +kernel
theorem dX11_cellAt_17 : decode cX11_cellAt 17 = .ok (.iconst 1, 1) := by decide +kernel
theorem dX11_cellAt_18 : decode cX11_cellAt 18 = .ok (.iadd, 1) := by decide +kernel
theorem dX11_cellAt_19 : decode cX11_cellAt 19 = .ok (.iaload, 1) := by decide +kernel
theorem dX11_cellAt_20 : decode cX11_cellAt 20 = .ok (.iadd, 1) := by decide +kernel
theorem dX11_cellAt_21 : decode cX11_cellAt 21 = .ok (.bipush 48, 2) := by decide +kernel
theorem dX11_cellAt_23 : decode cX11_cellAt 23 = .ok (.isub, 1) := by decide +kernel
theorem dX11_cellAt_24 : decode cX11_cellAt 24 = .ok (.ireturn, 1) := by decide +kernel
theorem dX11_isNew_0 : decode cX11_isNew 0 = .ok (.iconst 1, 1) := by decide +kernel
theorem dX11_isNew_1 : decode cX11_isNew 1 = .ok (.istore_n 2, 1) := by decide +kernel
theorem dX11_isNew_2 : decode cX11_isNew 2 = .ok (.iconst 0, 1) := by decide +kernel
theorem dX11_isNew_3 : decode cX11_isNew 3 = .ok (.istore_n 3, 1) := by decide +kernel
theorem dX11_isNew_4 : decode cX11_isNew 4 = .ok (.iload_n 3, 1) := by decide +kernel
theorem dX11_isNew_5 : decode cX11_isNew 5 = .ok (.iload_n 1, 1) := by decide +kernel
theorem dX11_isNew_6 : decode cX11_isNew 6 = .ok (.iconst 1, 1) := by decide +kernel
theorem dX11_isNew_7 : decode cX11_isNew 7 = .ok (.isub, 1) := by decide +kernel
theorem dX11_isNew_8 : decode cX11_isNew 8 = .ok (.if_icmp .ge 34, 3) := by decide +kernel
theorem dX11_isNew_11 : decode cX11_isNew 11 = .ok (.iload_n 2, 1) := by decide +kernel
theorem dX11_isNew_12 : decode cX11_isNew 12 = .ok (.ifCond .eq 22, 3) := by decide +kernel
theorem dX11_isNew_15 : decode cX11_isNew 15 = .ok (.aload_n 0, 1) := by decide +kernel
theorem dX11_isNew_16 : decode cX11_isNew 16 = .ok (.iload_n 3, 1) := by decide +kernel
theorem dX11_isNew_17 : decode cX11_isNew 17 = .ok (.invokevirtual 86, 3) := by decide +kernel
theorem dX11_isNew_20 : decode cX11_isNew 20 = .ok (.aload_n 0, 1) := by decide +kernel
theorem dX11_isNew_21 : decode cX11_isNew 21 = .ok (.iload_n 1, 1) := by decide +kernel
theorem dX11_isNew_22 : decode cX11_isNew 22 = .ok (.iconst 1, 1) := by decide +kernel
theorem dX11_isNew_23 : decode cX11_isNew 23 = .ok (.isub, 1) := by decide +kernel
theorem dX11_isNew_24 : decode cX11_isNew 24 = .ok (.invokevirtual 86, 3) := by decide +kernel
theorem dX11_isNew_27 : decode cX11_isNew 27 = .ok (.if_icmp .eq 7, 3) := by decide +kernel
theorem dX11_isNew_30 : decode cX11_isNew 30 = .ok (.iconst 1, 1) := by decide +kernel
theorem dX11_isNew_31 : decode cX11_isNew 31 = .ok (.goto 4, 3) := by decide +kernel
theorem dX11_isNew_34 : decode cX11_isNew 34 = .ok (.iconst 0, 1) := by decide +kernel
theorem dX11_isNew_35 : decode cX11_isNew 35 = .ok (.istore_n 2, 1) := by decide +kernel
theorem dX11_isNew_36 : decode cX11_isNew 36 = .ok (.iinc 3 3, 3) := by decide +kernel
theorem dX11_isNew_39 : decode cX11_isNew 39 = .ok (.goto (-35), 3) := by decide +kernel
theorem dX11_isNew_42 : decode cX11_isNew 42 = .ok (.iload_n 2, 1) := by decide +kernel
theorem dX11_isNew_43 : decode cX11_isNew 43 = .ok (.ireturn, 1) := by decide +kernel
theorem dX11_isSleeperLetter_0 : decode cX11_isSleeperLetter 0 = .ok (.aload_n 0, 1) := by decide +kernel
theorem dX11_isSleeperLetter_1 : decode cX11_isSleeperLetter 1 = .ok (.getfield 7, 3) := by decide +kernel
theorem dX11_isSleeperLetter_4 : decode cX11_isSleeperLetter 4 = .ok (.iload_n 1, 1) := by decide +kernel
theorem dX11_isSleeperLetter_5 : decode cX11_isSleeperLetter 5 = .ok (.iaload, 1) := by decide +kernel
theorem dX11_isSleeperLetter_6 : decode cX11_isSleeperLetter 6 = .ok (.istore_n 2, 1) := by decide +kernel
theorem dX11_isSleeperLetter_7 : decode cX11_isSleeperLetter 7 = .ok (.iload_n 1, 1) := by decide +kernel
theorem dX11_isSleeperLetter_8 : decode cX11_isSleeperLetter 8 = .ok (.iconst 3, 1) := by decide +kernel
theorem dX11_isSleeperLetter_9 : decode cX11_isSleeperLetter 9 = .ok (.irem, 1) := by decide +kernel
theorem dX11_isSleeperLetter_10 : decode cX11_isSleeperLetter 10 = .ok (.lookupswitch 66 #[(0, 26), (1, 38)], 26) := by decide +kernel
theorem dX11_isSleeperLetter_36 : decode cX11_isSleeperLetter 36 = .ok (.iload_n 2, 1) := by decide +kernel
theorem dX11_isSleeperLetter_37 : decode cX11_isSleeperLetter 37 = .ok (.i2l, 1) := by decide +kernel
theorem dX11_isSleeperLetter_38 : decode cX11_isSleeperLetter 38 = .ok (.ldc2_w 90, 3) := by decide +kernel
theorem dX11_isSleeperLetter_41 : decode cX11_isSleeperLetter 41 = .ok (.ldc2_w 92, 3) := by decide +kernel
theorem dX11_isSleeperLetter_44 : decode cX11_isSleeperLetter 44 = .ok (.invokestatic 79, 3) := by decide +kernel
theorem dX11_isSleeperLetter_47 : decode cX11_isSleeperLetter 47 = .ok (.ireturn, 1) := by decide +kernel
theorem dX11_isSleeperLetter_48 : decode cX11_isSleeperLetter 48 = .ok (.iload_n 2, 1) := by decide +kernel
theorem dX11_isSleeperLetter_49 : decode cX11_isSleeperLetter 49 = .ok (.i2l, 1) := by decide +kernel
theorem dX11_isSleeperLetter_50 : decode cX11_isSleeperLetter 50 = .ok (.ldc2_w 90, 3) := by decide +kernel
theorem dX11_isSleeperLetter_53 : decode cX11_isSleeperLetter 53 = .ok (.ldc2_w 92, 3) := by decide +kernel
theorem dX11_isSleeperLetter_56 : decode cX11_isSleeperLetter 56 = .ok (.invokestatic 79, 3) := by decide +kernel
theorem dX11_isSleeperLetter_59 : decode cX11_isSleeperLetter 59 = .ok (.ifCond .eq 15, 3) := by decide +kernel
theorem dX11_isSleeperLetter_62 : decode cX11_isSleeperLetter 62 = .ok (.aload_n 0, 1) := by decide +kernel
theorem dX11_isSleeperLetter_63 : decode cX11_isSleeperLetter 63 = .ok (.iload_n 1, 1) := by decide +kernel
theorem dX11_isSleeperLetter_64 : decode cX11_isSleeperLetter 64 = .ok (.invokevirtual 94, 3) := by decide +kernel
theorem dX11_isSleeperLetter_67 : decode cX11_isSleeperLetter 67 = .ok (.ifCond .eq 7, 3) := by decide +kernel
theorem dX11_isSleeperLetter_70 : decode cX11_isSleeperLetter 70 = .ok (.iconst 1, 1) := by decide +kernel
theorem dX11_isSleeperLetter_71 : decode cX11_isSleeperLetter 71 = .ok (.goto 4, 3) := by decide +kernel
theorem dX11_isSleeperLetter_74 : decode cX11_isSleeperLetter 74 = .ok (.iconst 0, 1) := by decide +kernel
theorem dX11_isSleeperLetter_75 : decode cX11_isSleeperLetter 75 = .ok (.ireturn, 1) := by decide +kernel
theorem dX11_isSleeperLetter_76 : decode cX11_isSleeperLetter 76 = .ok (.iload_n 2, 1) := by decide +kernel
theorem dX11_isSleeperLetter_77 : decode cX11_isSleeperLetter 77 = .ok (.bipush 59, 2) := by decide +kernel
theorem dX11_isSleeperLetter_79 : decode cX11_isSleeperLetter 79 = .ok (.if_icmp .ne 10, 3) := by decide +kernel
theorem dX11_isSleeperLetter_82 : decode cX11_isSleeperLetter 82 = .ok (.aload_n 0, 1) := by decide +kernel
theorem dX11_isSleeperLetter_83 : decode cX11_isSleeperLetter 83 = .ok (.iload_n 1, 1) := by decide +kernel
theorem dX11_isSleeperLetter_84 : decode cX11_isSleeperLetter 84 = .ok (.putfield 98, 3) := by decide +kernel
theorem dX11_isSleeperLetter_87 : decode cX11_isSleeperLetter 87 = .ok (.iconst 1, 1) := by decide +kernel
theorem dX11_isSleeperLetter_88 : decode cX11_isSleeperLetter 88 = .ok (.ireturn, 1) := by decide +kernel
theorem dX11_isSleeperLetter_89 : decode cX11_isSleeperLetter 89 = .ok (.iload_n 2, 1) := by decide +kernel
theorem dX11_isSleeperLetter_90 : decode cX11_isSleeperLetter 90 = .ok (.bipush 44, 2) := by decide +kernel
theorem dX11_isSleeperLetter_92 : decode cX11_isSleeperLetter 92 = .ok (.if_icmp .ne 13, 3) := by decide +kernel
theorem dX11_isSleeperLetter_95 : decode cX11_isSleeperLetter 95 = .ok (.iload_n 1, 1) := by decide +kernel
theorem dX11_isSleeperLetter_96 : decode cX11_isSleeperLetter 96 = .ok (.bipush 17, 2) := by decide +kernel
theorem dX11_isSleeperLetter_98 : decode cX11_isSleeperLetter 98 = .ok (.if_icmp .ge 7, 3) := by decide +kernel
theorem dX11_isSleeperLetter_101 : decode cX11_isSleeperLetter 101 = .ok (.iconst 1, 1) := by decide +kernel
theorem dX11_isSleeperLetter_102 : decode cX11_isSleeperLetter 102 = .ok (.goto 4, 3) := by decide +kernel
theorem dX11_isSleeperLetter_105 : decode cX11_isSleeperLetter 105 = .ok (.iconst 0, 1) := by decide +kernel
theorem dX11_isSleeperLetter_106 : decode cX11_isSleeperLetter 106 = .ok (.ireturn, 1) := by decide +kernel
theorem dX11_isTosserLetter_0 : decode cX11_isTosserLetter 0 = .ok (.aload_n 0, 1) := by decide +kernel
theorem dX11_isTosserLetter_1 : decode cX11_isTosserLetter 1 = .ok (.getfield 7, 3) := by decide +kernel
theorem dX11_isTosserLetter_4 : decode cX11_isTosserLetter 4 = .ok (.iload_n 1, 1) := by decide +kernel
theorem dX11_isTosserLetter_5 : decode cX11_isTosserLetter 5 = .ok (.iaload, 1) := by decide +kernel
theorem dX11_isTosserLetter_6 : decode cX11_isTosserLetter 6 = .ok (.istore_n 2, 1) := by decide +kernel
theorem dX11_isTosserLetter_7 : decode cX11_isTosserLetter 7 = .ok (.iload_n 1, 1) := by decide +kernel
theorem dX11_isTosserLetter_8 : decode cX11_isTosserLetter 8 = .ok (.aload_n 0, 1) := by decide +kernel
theorem dX11_isTosserLetter_9 : decode cX11_isTosserLetter 9 = .ok (.getfield 98, 3) := by decide +kernel
theorem dX11_isTosserLetter_12 : decode cX11_isTosserLetter 12 = .ok (.isub, 1) := by decide +kernel
theorem dX11_isTosserLetter_13 : decode cX11_isTosserLetter 13 = .ok (.iconst 1, 1) := by decide +kernel
theorem dX11_isTosserLetter_14 : decode cX11_isTosserLetter 14 = .ok (.isub, 1) := by decide +kernel
theorem dX11_isTosserLetter_15 : decode cX11_isTosserLetter 15 = .ok (.istore_n 3, 1) := by decide +kernel
theorem dX11_isTosserLetter_16 : decode cX11_isTosserLetter 16 = .ok (.iload_n 3, 1) := by decide +kernel
theorem dX11_isTosserLetter_17 : decode cX11_isTosserLetter 17 = .ok (.iconst 4, 1) := by decide +kernel
theorem dX11_isTosserLetter_18 : decode cX11_isTosserLetter 18 = .ok (.irem, 1) := by decide +kernel
theorem dX11_isTosserLetter_19 : decode cX11_isTosserLetter 19 = .ok (.lookupswitch 57 #[(0, 25), (3, 39)], 25) := by decide +kernel
theorem dX11_isTosserLetter_44 : decode cX11_isTosserLetter 44 = .ok (.iload_n 2, 1) := by decide +kernel
theorem dX11_isTosserLetter_45 : decode cX11_isTosserLetter 45 = .ok (.invokestatic 101, 3) := by decide +kernel
theorem dX11_isTosserLetter_48 : decode cX11_isTosserLetter 48 = .ok (.iconst (-1), 1) := by decide +kernel
theorem dX11_isTosserLetter_49 : decode cX11_isTosserLetter 49 = .ok (.if_icmp .eq 7, 3) := by decide +kernel
theorem dX11_isTosserLetter_52 : decode cX11_isTosserLetter 52 = .ok (.iconst 1, 1) := by decide +kernel
theorem dX11_isTosserLetter_53 : decode cX11_isTosserLetter 53 = .ok (.goto 4, 3) := by decide +kernel
theorem dX11_isTosserLetter_56 : decode cX11_isTosserLetter 56 = .ok (.iconst 0, 1) := by decide +kernel
theorem dX11_isTosserLetter_57 : decode cX11_isTosserLetter 57 = .ok (.ireturn, 1) := by decide +kernel
theorem dX11_isTosserLetter_58 : decode cX11_isTosserLetter 58 = .ok (.iload_n 2, 1) := by decide +kernel
theorem dX11_isTosserLetter_59 : decode cX11_isTosserLetter 59 = .ok (.bipush 44, 2) := by decide +kernel
theorem dX11_isTosserLetter_61 : decode cX11_isTosserLetter 61 = .ok (.if_icmp .ne 13, 3) := by decide +kernel
theorem dX11_isTosserLetter_64 : decode cX11_isTosserLetter 64 = .ok (.iload_n 3, 1) := by decide +kernel
theorem dX11_isTosserLetter_65 : decode cX11_isTosserLetter 65 = .ok (.bipush 15, 2) := by decide +kernel
theorem dX11_isTosserLetter_67 : decode cX11_isTosserLetter 67 = .ok (.if_icmp .ge 7, 3) := by decide +kernel
theorem dX11_isTosserLetter_70 : decode cX11_isTosserLetter 70 = .ok (.iconst 1, 1) := by decide +kernel
theorem dX11_isTosserLetter_71 : decode cX11_isTosserLetter 71 = .ok (.goto 4, 3) := by decide +kernel
theorem dX11_isTosserLetter_74 : decode cX11_isTosserLetter 74 = .ok (.iconst 0, 1) := by decide +kernel
theorem dX11_isTosserLetter_75 : decode cX11_isTosserLetter 75 = .ok (.ireturn, 1) := by decide +kernel
theorem dX11_isTosserLetter_76 : decode cX11_isTosserLetter 76 = .ok (.iload_n 2, 1) := by decide +kernel
theorem dX11_isTosserLetter_77 : decode cX11_isTosserLetter 77 = .ok (.i2l, 1) := by decide +kernel
theorem dX11_isTosserLetter_78 : decode cX11_isTosserLetter 78 = .ok (.ldc2_w 90, 3) := by decide +kernel
theorem dX11_isTosserLetter_81 : decode cX11_isTosserLetter 81 = .ok (.ldc2_w 104, 3) := by decide +kernel
theorem dX11_isTosserLetter_84 : decode cX11_isTosserLetter 84 = .ok (.invokestatic 79, 3) := by decide +kernel
theorem dX11_isTosserLetter_87 : decode cX11_isTosserLetter 87 = .ok (.ireturn, 1) := by decide +kernel
theorem dX11_faultOf_0 : decode cX11_faultOf 0 = .ok (.aload_n 0, 1) := by decide +kernel
theorem dX11_faultOf_1 : decode cX11_faultOf 1 = .ok (.iconst 0, 1) := by decide +kernel
theorem dX11_faultOf_2 : decode cX11_faultOf 2 = .ok (.putfield 98, 3) := by decide +kernel
theorem dX11_faultOf_5 : decode cX11_faultOf 5 = .ok (.iconst 0, 1) := by decide +kernel
theorem dX11_faultOf_6 : decode cX11_faultOf 6 = .ok (.istore_n 1, 1) := by decide +kernel
theorem dX11_faultOf_7 : decode cX11_faultOf 7 = .ok (.iload_n 1, 1) := by decide +kernel
theorem dX11_faultOf_8 : decode cX11_faultOf 8 = .ok (.aload_n 0, 1) := by decide +kernel
theorem dX11_faultOf_9 : decode cX11_faultOf 9 = .ok (.getfield 83, 3) := by decide +kernel
theorem dX11_faultOf_12 : decode cX11_faultOf 12 = .ok (.if_icmp .ge 35, 3) := by decide +kernel
theorem dX11_faultOf_15 : decode cX11_faultOf 15 = .ok (.aload_n 0, 1) := by decide +kernel
theorem dX11_faultOf_16 : decode cX11_faultOf 16 = .ok (.getfield 98, 3) := by decide +kernel
theorem dX11_faultOf_19 : decode cX11_faultOf 19 = .ok (.ifCond .ne 14, 3) := by decide +kernel
theorem dX11_faultOf_22 : decode cX11_faultOf 22 = .ok (.aload_n 0, 1) := by decide +kernel
theorem dX11_faultOf_23 : decode cX11_faultOf 23 = .ok (.iload_n 1, 1) := by decide +kernel
theorem dX11_faultOf_24 : decode cX11_faultOf 24 = .ok (.invokevirtual 106, 3) := by decide +kernel
theorem dX11_faultOf_27 : decode cX11_faultOf 27 = .ok (.ifCond .eq 20, 3) := by decide +kernel
theorem dX11_faultOf_30 : decode cX11_faultOf 30 = .ok (.goto 11, 3) := by decide +kernel
theorem dX11_faultOf_33 : decode cX11_faultOf 33 = .ok (.aload_n 0, 1) := by decide +kernel
theorem dX11_faultOf_34 : decode cX11_faultOf 34 = .ok (.iload_n 1, 1) := by decide +kernel
theorem dX11_faultOf_35 : decode cX11_faultOf 35 = .ok (.invokevirtual 109, 3) := by decide +kernel
theorem dX11_faultOf_38 : decode cX11_faultOf 38 = .ok (.ifCond .eq 9, 3) := by decide +kernel
theorem dX11_faultOf_41 : decode cX11_faultOf 41 = .ok (.iinc 1 1, 3) := by decide +kernel
theorem dX11_faultOf_44 : decode cX11_faultOf 44 = .ok (.goto (-37), 3) := by decide +kernel
theorem dX11_faultOf_47 : decode cX11_faultOf 47 = .ok (.iload_n 1, 1) := by decide +kernel
theorem dX11_faultOf_48 : decode cX11_faultOf 48 = .ok (.ireturn, 1) := by decide +kernel
theorem dX11_fault_0 : decode cX11_fault 0 = .ok (.aload_n 0, 1) := by decide +kernel
theorem dX11_fault_1 : decode cX11_fault 1 = .ok (.invokevirtual 112, 3) := by decide +kernel
theorem dX11_fault_4 : decode cX11_fault 4 = .ok (.ireturn, 1) := by decide +kernel
theorem dX11_port_0 : decode cX11_port 0 = .ok (.aload_n 0, 1) := by decide +kernel
theorem dX11_port_1 : decode cX11_port 1 = .ok (.invokevirtual 112, 3) := by decide +kernel
theorem dX11_port_4 : decode cX11_port 4 = .ok (.aload_n 0, 1) := by decide +kernel
theorem dX11_port_5 : decode cX11_port 5 = .ok (.getfield 83, 3) := by decide +kernel
theorem dX11_port_8 : decode cX11_port 8 = .ok (.if_icmp .lt 24, 3) := by decide +kernel
theorem dX11_port_11 : decode cX11_port 11 = .ok (.aload_n 0, 1) := by decide +kernel
theorem dX11_port_12 : decode cX11_port 12 = .ok (.getfield 98, 3) := by decide +kernel
theorem dX11_port_15 : decode cX11_port 15 = .ok (.ifCond .eq 17, 3) := by decide +kernel
theorem dX11_port_18 : decode cX11_port 18 = .ok (.aload_n 0, 1) := by decide +kernel
theorem dX11_port_19 : decode cX11_port 19 = .ok (.getfield 83, 3) := by decide +kernel
theorem dX11_port_22 : decode cX11_port 22 = .ok (.aload_n 0, 1) := by decide +kernel
theorem dX11_port_23 : decode cX11_port 23 = .ok (.getfield 98, 3) := by decide +kernel
theorem dX11_port_26 : decode cX11_port 26 = .ok (.isub, 1) := by decide +kernel
theorem dX11_port_27 : decode cX11_port 27 = .ok (.iconst 4, 1) := by decide +kernel
theorem dX11_port_28 : decode cX11_port 28 = .ok (.irem, 1) := by decide +kernel
theorem dX11_port_29 : decode cX11_port 29 = .ok (.ifCond .eq 6, 3) := by decide +kernel
theorem dX11_port_32 : decode cX11_port 32 = .ok (.bipush (-103), 2) := by decide +kernel
theorem dX11_port_34 : decode cX11_port 34 = .ok (.ireturn, 1) := by decide +kernel
theorem dX11_port_35 : decode cX11_port 35 = .ok (.aload_n 0, 1) := by decide +kernel
theorem dX11_port_36 : decode cX11_port 36 = .ok (.aload_n 0, 1) := by decide +kernel
theorem dX11_port_37 : decode cX11_port 37 = .ok (.getfield 98, 3) := by decide +kernel
theorem dX11_port_40 : decode cX11_port 40 = .ok (.iconst 1, 1) := by decide +kernel
theorem dX11_port_41 : decode cX11_port 41 = .ok (.iadd, 1) := by decide +kernel
theorem dX11_port_42 : decode cX11_port 42 = .ok (.iconst 3, 1) := by decide +kernel
theorem dX11_port_43 : decode cX11_port 43 = .ok (.idiv, 1) := by decide +kernel
theorem dX11_port_44 : decode cX11_port 44 = .ok (.putfield 116, 3) := by decide +kernel
theorem dX11_port_47 : decode cX11_port 47 = .ok (.aload_n 0, 1) := by decide +kernel
theorem dX11_port_48 : decode cX11_port 48 = .ok (.aload_n 0, 1) := by decide +kernel
theorem dX11_port_49 : decode cX11_port 49 = .ok (.getfield 83, 3) := by decide +kernel
theorem dX11_port_52 : decode cX11_port 52 = .ok (.aload_n 0, 1) := by decide +kernel
theorem dX11_port_53 : decode cX11_port 53 = .ok (.getfield 98, 3) := by decide +kernel
theorem dX11_port_56 : decode cX11_port 56 = .ok (.isub, 1) := by decide +kernel
theorem dX11_port_57 : decode cX11_port 57 = .ok (.iconst 4, 1) := by decide +kernel
theorem dX11_port_58 : decode cX11_port 58 = .ok (.idiv, 1) := by decide +kernel
theorem dX11_port_59 : decode cX11_port 59 = .ok (.putfield 119, 3) := by decide +kernel
theorem dX11_port_62 : decode cX11_port 62 = .ok (.iconst 0, 1) := by decide +kernel
theorem dX11_port_63 : decode cX11_port 63 = .ok (.istore_n 1, 1) := by decide +kernel
theorem dX11_port_64 : decode cX11_port 64 = .ok (.iload_n 1, 1) := by decide +kernel
theorem dX11_port_65 : decode cX11_port 65 = .ok (.aload_n 0, 1) := by decide +kernel
theorem dX11_port_66 : decode cX11_port 66 = .ok (.getfield 116, 3) := by decide +kernel
theorem dX11_port_69 : decode cX11_port 69 = .ok (.if_icmp .ge 43, 3) := by decide +kernel
theorem dX11_port_72 : decode cX11_port 72 = .ok (.aload_n 0, 1) := by decide +kernel
theorem dX11_port_73 : decode cX11_port 73 = .ok (.getfield 13, 3) := by decide +kernel
theorem dX11_port_76 : decode cX11_port 76 = .ok (.iload_n 1, 1) := by decide +kernel
theorem dX11_port_77 : decode cX11_port 77 = .ok (.aload_n 0, 1) := by decide +kernel
theorem dX11_port_78 : decode cX11_port 78 = .ok (.iconst 3, 1) := by decide +kernel
theorem dX11_port_79 : decode cX11_port 79 = .ok (.iload_n 1, 1) := by decide +kernel
theorem dX11_port_80 : decode cX11_port 80 = .ok (.imul, 1) := by decide +kernel
theorem dX11_port_81 : decode cX11_port 81 = .ok (.invokevirtual 86, 3) := by decide +kernel
theorem dX11_port_84 : decode cX11_port 84 = .ok (.iastore, 1) := by decide +kernel
theorem dX11_port_85 : decode cX11_port 85 = .ok (.aload_n 0, 1) := by decide +kernel
theorem dX11_port_86 : decode cX11_port 86 = .ok (.getfield 16, 3) := by decide +kernel
theorem dX11_port_89 : decode cX11_port 89 = .ok (.iload_n 1, 1) := by decide +kernel
theorem dX11_port_90 : decode cX11_port 90 = .ok (.iconst 0, 1) := by decide +kernel
theorem dX11_port_91 : decode cX11_port 91 = .ok (.iastore, 1) := by decide +kernel
theorem dX11_port_92 : decode cX11_port 92 = .ok (.aload_n 0, 1) := by decide +kernel
theorem dX11_port_93 : decode cX11_port 93 = .ok (.getfield 19, 3) := by decide +kernel
theorem dX11_port_96 : decode cX11_port 96 = .ok (.iload_n 1, 1) := by decide +kernel
theorem dX11_port_97 : decode cX11_port 97 = .ok (.iconst 0, 1) := by decide +kernel
theorem dX11_port_98 : decode cX11_port 98 = .ok (.iastore, 1) := by decide +kernel
theorem dX11_port_99 : decode cX11_port 99 = .ok (.aload_n 0, 1) := by decide +kernel
theorem dX11_port_100 : decode cX11_port 100 = .ok (.getfield 22, 3) := by decide +kernel
theorem dX11_port_103 : decode cX11_port 103 = .ok (.iload_n 1, 1) := by decide +kernel
theorem dX11_port_104 : decode cX11_port 104 = .ok (.iconst 0, 1) := by decide +kernel
theorem dX11_port_105 : decode cX11_port 105 = .ok (.iastore, 1) := by decide +kernel
theorem dX11_port_106 : decode cX11_port 106 = .ok (.iinc 1 1, 3) := by decide +kernel
theorem dX11_port_109 : decode cX11_port 109 = .ok (.goto (-45), 3) := by decide +kernel
theorem dX11_port_112 : decode cX11_port 112 = .ok (.iconst 0, 1) := by decide +kernel
theorem dX11_port_113 : decode cX11_port 113 = .ok (.istore_n 1, 1) := by decide +kernel
theorem dX11_port_114 : decode cX11_port 114 = .ok (.iload_n 1, 1) := by decide +kernel
theorem dX11_port_115 : decode cX11_port 115 = .ok (.aload_n 0, 1) := by decide +kernel
theorem dX11_port_116 : decode cX11_port 116 = .ok (.getfield 119, 3) := by decide +kernel
theorem dX11_port_119 : decode cX11_port 119 = .ok (.if_icmp .ge 76, 3) := by decide +kernel
theorem dX11_port_122 : decode cX11_port 122 = .ok (.aload_n 0, 1) := by decide +kernel
theorem dX11_port_123 : decode cX11_port 123 = .ok (.getfield 98, 3) := by decide +kernel
theorem dX11_port_126 : decode cX11_port 126 = .ok (.iconst 1, 1) := by decide +kernel
theorem dX11_port_127 : decode cX11_port 127 = .ok (.iadd, 1) := by decide +kernel
theorem dX11_port_128 : decode cX11_port 128 = .ok (.iconst 4, 1) := by decide +kernel
theorem dX11_port_129 : decode cX11_port 129 = .ok (.iload_n 1, 1) := by decide +kernel
theorem dX11_port_130 : decode cX11_port 130 = .ok (.imul, 1) := by decide +kernel
theorem dX11_port_131 : decode cX11_port 131 = .ok (.iadd, 1) := by decide +kernel
theorem dX11_port_132 : decode cX11_port 132 = .ok (.istore_n 2, 1) := by decide +kernel
theorem dX11_port_133 : decode cX11_port 133 = .ok (.aload_n 0, 1) := by decide +kernel
theorem dX11_port_134 : decode cX11_port 134 = .ok (.getfield 25, 3) := by decide +kernel
theorem dX11_port_137 : decode cX11_port 137 = .ok (.iload_n 1, 1) := by decide +kernel
theorem dX11_port_138 : decode cX11_port 138 = .ok (.aload_n 0, 1) := by decide +kernel
theorem dX11_port_139 : decode cX11_port 139 = .ok (.getfield 7, 3) := by decide +kernel
theorem dX11_port_142 : decode cX11_port 142 = .ok (.iload_n 2, 1) := by decide +kernel
theorem dX11_port_143 : decode cX11_port 143 = .ok (.iaload, 1) := by decide +kernel
theorem dX11_port_144 : decode cX11_port 144 = .ok (.invokestatic 101, 3) := by decide +kernel
theorem dX11_port_147 : decode cX11_port 147 = .ok (.iastore, 1) := by decide +kernel
theorem dX11_port_148 : decode cX11_port 148 = .ok (.aload_n 0, 1) := by decide +kernel
theorem dX11_port_149 : decode cX11_port 149 = .ok (.getfield 28, 3) := by decide +kernel
theorem dX11_port_152 : decode cX11_port 152 = .ok (.iload_n 1, 1) := by decide +kernel
theorem dX11_port_153 : decode cX11_port 153 = .ok (.aload_n 0, 1) := by decide +kernel
theorem dX11_port_154 : decode cX11_port 154 = .ok (.getfield 7, 3) := by decide +kernel
theorem dX11_port_157 : decode cX11_port 157 = .ok (.iload_n 2, 1) := by decide +kernel
theorem dX11_port_158 : decode cX11_port 158 = .ok (.iconst 1, 1) := by decide +kernel
theorem dX11_port_159 : decode cX11_port 159 = .ok (.iadd, 1) := by decide +kernel
theorem dX11_port_160 : decode cX11_port 160 = .ok (.iaload, 1) := by decide +kernel
theorem dX11_port_161 : decode cX11_port 161 = .ok (.bipush 48, 2) := by decide +kernel
theorem dX11_port_163 : decode cX11_port 163 = .ok (.isub, 1) := by decide +kernel
theorem dX11_port_164 : decode cX11_port 164 = .ok (.iastore, 1) := by decide +kernel
theorem dX11_port_165 : decode cX11_port 165 = .ok (.aload_n 0, 1) := by decide +kernel
theorem dX11_port_166 : decode cX11_port 166 = .ok (.getfield 31, 3) := by decide +kernel
theorem dX11_port_169 : decode cX11_port 169 = .ok (.iload_n 1, 1) := by decide +kernel
theorem dX11_port_170 : decode cX11_port 170 = .ok (.aload_n 0, 1) := by decide +kernel
theorem dX11_port_171 : decode cX11_port 171 = .ok (.getfield 7, 3) := by decide +kernel
theorem dX11_port_174 : decode cX11_port 174 = .ok (.iload_n 2, 1) := by decide +kernel
theorem dX11_port_175 : decode cX11_port 175 = .ok (.iconst 2, 1) := by decide +kernel
theorem dX11_port_176 : decode cX11_port 176 = .ok (.iadd, 1) := by decide +kernel
theorem dX11_port_177 : decode cX11_port 177 = .ok (.iaload, 1) := by decide +kernel
theorem dX11_port_178 : decode cX11_port 178 = .ok (.bipush 48, 2) := by decide +kernel
theorem dX11_port_180 : decode cX11_port 180 = .ok (.isub, 1) := by decide +kernel
theorem dX11_port_181 : decode cX11_port 181 = .ok (.iastore, 1) := by decide +kernel
theorem dX11_port_182 : decode cX11_port 182 = .ok (.aload_n 0, 1) := by decide +kernel
theorem dX11_port_183 : decode cX11_port 183 = .ok (.getfield 34, 3) := by decide +kernel
theorem dX11_port_186 : decode cX11_port 186 = .ok (.iload_n 1, 1) := by decide +kernel
theorem dX11_port_187 : decode cX11_port 187 = .ok (.iconst 0, 1) := by decide +kernel
theorem dX11_port_188 : decode cX11_port 188 = .ok (.iastore, 1) := by decide +kernel
theorem dX11_port_189 : decode cX11_port 189 = .ok (.iinc 1 1, 3) := by decide +kernel
theorem dX11_port_192 : decode cX11_port 192 = .ok (.goto (-78), 3) := by decide +kernel
theorem dX11_port_195 : decode cX11_port 195 = .ok (.aload_n 0, 1) := by decide +kernel
theorem dX11_port_196 : decode cX11_port 196 = .ok (.iconst 0, 1) := by decide +kernel
theorem dX11_port_197 : decode cX11_port 197 = .ok (.putfield 122, 3) := by decide +kernel
theorem dX11_port_200 : decode cX11_port 200 = .ok (.aload_n 0, 1) := by decide +kernel
theorem dX11_port_201 : decode cX11_port 201 = .ok (.bipush 60, 2) := by decide +kernel
theorem dX11_port_203 : decode cX11_port 203 = .ok (.putfield 125, 3) := by decide +kernel
theorem dX11_port_206 : decode cX11_port 206 = .ok (.aload_n 0, 1) := by decide +kernel
theorem dX11_port_207 : decode cX11_port 207 = .ok (.iconst 0, 1) := by decide +kernel
theorem dX11_port_208 : decode cX11_port 208 = .ok (.putfield 128, 3) := by decide +kernel
theorem dX11_port_211 : decode cX11_port 211 = .ok (.aload_n 0, 1) := by decide +kernel
theorem dX11_port_212 : decode cX11_port 212 = .ok (.iconst 0, 1) := by decide +kernel
theorem dX11_port_213 : decode cX11_port 213 = .ok (.putfield 131, 3) := by decide +kernel
theorem dX11_port_216 : decode cX11_port 216 = .ok (.aload_n 0, 1) := by decide +kernel
theorem dX11_port_217 : decode cX11_port 217 = .ok (.iconst 0, 1) := by decide +kernel
theorem dX11_port_218 : decode cX11_port 218 = .ok (.putfield 134, 3) := by decide +kernel
theorem dX11_port_221 : decode cX11_port 221 = .ok (.aload_n 0, 1) := by decide +kernel
theorem dX11_port_222 : decode cX11_port 222 = .ok (.dup, 1) := by decide +kernel
theorem dX11_port_223 : decode cX11_port 223 = .ok (.getfield 137, 3) := by decide +kernel
theorem dX11_port_226 : decode cX11_port 226 = .ok (.iconst 1, 1) := by decide +kernel
theorem dX11_port_227 : decode cX11_port 227 = .ok (.iadd, 1) := by decide +kernel
theorem dX11_port_228 : decode cX11_port 228 = .ok (.putfield 137, 3) := by decide +kernel
theorem dX11_port_231 : decode cX11_port 231 = .ok (.aload_n 0, 1) := by decide +kernel
theorem dX11_port_232 : decode cX11_port 232 = .ok (.iconst 0, 1) := by decide +kernel
theorem dX11_port_233 : decode cX11_port 233 = .ok (.putfield 83, 3) := by decide +kernel
theorem dX11_port_236 : decode cX11_port 236 = .ok (.aload_n 0, 1) := by decide +kernel
theorem dX11_port_237 : decode cX11_port 237 = .ok (.getfield 116, 3) := by decide +kernel
theorem dX11_port_240 : decode cX11_port 240 = .ok (.ireturn, 1) := by decide +kernel
theorem dX11_lacks_0 : decode cX11_lacks 0 = .ok (.aload_n 0, 1) := by decide +kernel
theorem dX11_lacks_1 : decode cX11_lacks 1 = .ok (.getfield 116, 3) := by decide +kernel
theorem dX11_lacks_4 : decode cX11_lacks 4 = .ok (.ifCond .ne 7, 3) := by decide +kernel
theorem dX11_lacks_7 : decode cX11_lacks 7 = .ok (.iconst 1, 1) := by decide +kernel
theorem dX11_lacks_8 : decode cX11_lacks 8 = .ok (.goto 4, 3) := by decide +kernel
theorem dX11_lacks_11 : decode cX11_lacks 11 = .ok (.iconst 0, 1) := by decide +kernel
theorem dX11_lacks_12 : decode cX11_lacks 12 = .ok (.ireturn, 1) := by decide +kernel
theorem dX11_isSleeper_0 : decode cX11_isSleeper 0 = .ok (.iload_n 1, 1) := by decide +kernel
theorem dX11_isSleeper_1 : decode cX11_isSleeper 1 = .ok (.i2l, 1) := by decide +kernel
theorem dX11_isSleeper_2 : decode cX11_isSleeper 2 = .ok (.lconst 0, 1) := by decide +kernel
theorem dX11_isSleeper_3 : decode cX11_isSleeper 3 = .ok (.aload_n 0, 1) := by decide +kernel
theorem dX11_isSleeper_4 : decode cX11_isSleeper 4 = .ok (.getfield 116, 3) := by decide +kernel
theorem dX11_isSleeper_7 : decode cX11_isSleeper 7 = .ok (.iconst 1, 1) := by decide +kernel
theorem dX11_isSleeper_8 : decode cX11_isSleeper 8 = .ok (.isub, 1) := by decide +kernel
theorem dX11_isSleeper_9 : decode cX11_isSleeper 9 = .ok (.i2l, 1) := by decide +kernel
theorem dX11_isSleeper_10 : decode cX11_isSleeper 10 = .ok (.invokestatic 79, 3) := by decide +kernel
theorem dX11_isSleeper_13 : decode cX11_isSleeper 13 = .ok (.ireturn, 1) := by decide +kernel
theorem dX11_isTosser_0 : decode cX11_isTosser 0 = .ok (.iload_n 1, 1) := by decide +kernel
theorem dX11_isTosser_1 : decode cX11_isTosser 1 = .ok (.i2l, 1) := by decide +kernel
theorem dX11_isTosser_2 : decode cX11_isTosser 2 = .ok (.lconst 0, 1) := by decide +kernel
theorem dX11_isTosser_3 : decode cX11_isTosser 3 = .ok (.aload_n 0, 1) := by decide +kernel
theorem dX11_isTosser_4 : decode cX11_isTosser 4 = .ok (.getfield 119, 3) := by decide +kernel
theorem dX11_isTosser_7 : decode cX11_isTosser 7 = .ok (.iconst 1, 1) := by decide +kernel
theorem dX11_isTosser_8 : decode cX11_isTosser 8 = .ok (.isub, 1) := by decide +kernel
theorem dX11_isTosser_9 : decode cX11_isTosser 9 = .ok (.i2l, 1) := by decide +kernel
theorem dX11_isTosser_10 : decode cX11_isTosser 10 = .ok (.invokestatic 79, 3) := by decide +kernel
theorem dX11_isTosser_13 : decode cX11_isTosser 13 = .ok (.ireturn, 1) := by decide +kernel
theorem dX11_isCell_0 : decode cX11_isCell 0 = .ok (.iload_n 0, 1) := by decide +kernel
theorem dX11_isCell_1 : decode cX11_isCell 1 = .ok (.i2l, 1) := by decide +kernel
theorem dX11_isCell_2 : decode cX11_isCell 2 = .ok (.lconst 0, 1) := by decide +kernel
theorem dX11_isCell_3 : decode cX11_isCell 3 = .ok (.ldc2_w 140, 3) := by decide +kernel
theorem dX11_isCell_6 : decode cX11_isCell 6 = .ok (.invokestatic 79, 3) := by decide +kernel
theorem dX11_isCell_9 : decode cX11_isCell 9 = .ok (.ireturn, 1) := by decide +kernel
theorem dX11_cellOf_0 : decode cX11_cellOf 0 = .ok (.iload_n 0, 1) := by decide +kernel
theorem dX11_cellOf_1 : decode cX11_cellOf 1 = .ok (.i2l, 1) := by decide +kernel
theorem dX11_cellOf_2 : decode cX11_cellOf 2 = .ok (.lconst 0, 1) := by decide +kernel
theorem dX11_cellOf_3 : decode cX11_cellOf 3 = .ok (.ldc2_w 142, 3) := by decide +kernel
theorem dX11_cellOf_6 : decode cX11_cellOf 6 = .ok (.invokestatic 79, 3) := by decide +kernel
theorem dX11_cellOf_9 : decode cX11_cellOf 9 = .ok (.ifCond .eq 24, 3) := by decide +kernel
theorem dX11_cellOf_12 : decode cX11_cellOf 12 = .ok (.iload_n 1, 1) := by decide +kernel
theorem dX11_cellOf_13 : decode cX11_cellOf 13 = .ok (.i2l, 1) := by decide +kernel
theorem dX11_cellOf_14 : decode cX11_cellOf 14 = .ok (.lconst 0, 1) := by decide +kernel
theorem dX11_cellOf_15 : decode cX11_cellOf 15 = .ok (.ldc2_w 142, 3) := by decide +kernel
theorem dX11_cellOf_18 : decode cX11_cellOf 18 = .ok (.invokestatic 79, 3) := by decide +kernel
theorem dX11_cellOf_21 : decode cX11_cellOf 21 = .ok (.ifCond .eq 12, 3) := by decide +kernel
theorem dX11_cellOf_24 : decode cX11_cellOf 24 = .ok (.bipush 6, 2) := by decide +kernel
theorem dX11_cellOf_26 : decode cX11_cellOf 26 = .ok (.iload_n 0, 1) := by decide +kernel
theorem dX11_cellOf_27 : decode cX11_cellOf 27 = .ok (.imul, 1) := by decide +kernel
theorem dX11_cellOf_28 : decode cX11_cellOf 28 = .ok (.iload_n 1, 1) := by decide +kernel
theorem dX11_cellOf_29 : decode cX11_cellOf 29 = .ok (.iadd, 1) := by decide +kernel
theorem dX11_cellOf_30 : decode cX11_cellOf 30 = .ok (.goto 4, 3) := by decide +kernel
theorem dX11_cellOf_33 : decode cX11_cellOf 33 = .ok (.iconst (-1), 1) := by decide +kernel
theorem dX11_cellOf_34 : decode cX11_cellOf 34 = .ok (.ireturn, 1) := by decide +kernel
theorem dX11_landsBy_0 : decode cX11_landsBy 0 = .ok (.iload_n 2, 1) := by decide +kernel
theorem dX11_landsBy_1 : decode cX11_landsBy 1 = .ok (.bipush 6, 2) := by decide +kernel
theorem dX11_landsBy_3 : decode cX11_landsBy 3 = .ok (.idiv, 1) := by decide +kernel
theorem dX11_landsBy_4 : decode cX11_landsBy 4 = .ok (.aload_n 0, 1) := by decide +kernel
theorem dX11_landsBy_5 : decode cX11_landsBy 5 = .ok (.getfield 28, 3) := by decide +kernel
theorem dX11_landsBy_8 : decode cX11_landsBy 8 = .ok (.iload_n 1, 1) := by decide +kernel
theorem dX11_landsBy_9 : decode cX11_landsBy 9 = .ok (.iaload, 1) := by decide +kernel
theorem dX11_landsBy_10 : decode cX11_landsBy 10 = .ok (.iadd, 1) := by decide +kernel
theorem dX11_landsBy_11 : decode cX11_landsBy 11 = .ok (.iconst 2, 1) := by decide +kernel
theorem dX11_landsBy_12 : decode cX11_landsBy 12 = .ok (.isub, 1) := by decide +kernel
theorem dX11_landsBy_13 : decode cX11_landsBy 13 = .ok (.iload_n 2, 1) := by decide +kernel
theorem dX11_landsBy_14 : decode cX11_landsBy 14 = .ok (.bipush 6, 2) := by decide +kernel
theorem dX11_landsBy_16 : decode cX11_landsBy 16 = .ok (.irem, 1) := by decide +kernel
theorem dX11_landsBy_17 : decode cX11_landsBy 17 = .ok (.aload_n 0, 1) := by decide +kernel
theorem dX11_landsBy_18 : decode cX11_landsBy 18 = .ok (.getfield 31, 3) := by decide +kernel
theorem dX11_landsBy_21 : decode cX11_landsBy 21 = .ok (.iload_n 1, 1) := by decide +kernel
theorem dX11_landsBy_22 : decode cX11_landsBy 22 = .ok (.iaload, 1) := by decide +kernel
theorem dX11_landsBy_23 : decode cX11_landsBy 23 = .ok (.iadd, 1) := by decide +kernel
theorem dX11_landsBy_24 : decode cX11_landsBy 24 = .ok (.iconst 2, 1) := by decide +kernel
theorem dX11_landsBy_25 : decode cX11_landsBy 25 = .ok (.isub, 1) := by decide +kernel
theorem dX11_landsBy_26 : decode cX11_landsBy 26 = .ok (.iload_n 3, 1) := by decide +kernel
theorem dX11_landsBy_27 : decode cX11_landsBy 27 = .ok (.iadd, 1) := by decide +kernel
theorem dX11_landsBy_28 : decode cX11_landsBy 28 = .ok (.invokestatic 144, 3) := by decide +kernel
theorem dX11_landsBy_31 : decode cX11_landsBy 31 = .ok (.ireturn, 1) := by decide +kernel
theorem dX11_far_0 : decode cX11_far 0 = .ok (.iload_n 0, 1) := by decide +kernel
theorem dX11_far_1 : decode cX11_far 1 = .ok (.iload_n 1, 1) := by decide +kernel
theorem dX11_far_2 : decode cX11_far 2 = .ok (.if_icmp .ge 9, 3) := by decide +kernel
theorem dX11_far_5 : decode cX11_far 5 = .ok (.iload_n 1, 1) := by decide +kernel
theorem dX11_far_6 : decode cX11_far 6 = .ok (.iload_n 0, 1) := by decide +kernel
theorem dX11_far_7 : decode cX11_far 7 = .ok (.isub, 1) := by decide +kernel
theorem dX11_far_8 : decode cX11_far 8 = .ok (.goto 6, 3) := by decide +kernel
theorem dX11_far_11 : decode cX11_far 11 = .ok (.iload_n 0, 1) := by decide +kernel
theorem dX11_far_12 : decode cX11_far 12 = .ok (.iload_n 1, 1) := by decide +kernel
theorem dX11_far_13 : decode cX11_far 13 = .ok (.isub, 1) := by decide +kernel
theorem dX11_far_14 : decode cX11_far 14 = .ok (.ireturn, 1) := by decide +kernel
theorem dX11_reaches_0 : decode cX11_reaches 0 = .ok (.iload_n 1, 1) := by decide +kernel
theorem dX11_reaches_1 : decode cX11_reaches 1 = .ok (.bipush 6, 2) := by decide +kernel
theorem dX11_reaches_3 : decode cX11_reaches 3 = .ok (.idiv, 1) := by decide +kernel
theorem dX11_reaches_4 : decode cX11_reaches 4 = .ok (.iload_n 2, 1) := by decide +kernel
theorem dX11_reaches_5 : decode cX11_reaches 5 = .ok (.bipush 6, 2) := by decide +kernel
theorem dX11_reaches_7 : decode cX11_reaches 7 = .ok (.idiv, 1) := by decide +kernel
theorem dX11_reaches_8 : decode cX11_reaches 8 = .ok (.invokestatic 148, 3) := by decide +kernel
theorem dX11_reaches_11 : decode cX11_reaches 11 = .ok (.istore_n 3, 1) := by decide +kernel
theorem dX11_reaches_12 : decode cX11_reaches 12 = .ok (.iload_n 1, 1) := by decide +kernel
theorem dX11_reaches_13 : decode cX11_reaches 13 = .ok (.bipush 6, 2) := by decide +kernel
theorem dX11_reaches_15 : decode cX11_reaches 15 = .ok (.irem, 1) := by decide +kernel
theorem dX11_reaches_16 : decode cX11_reaches 16 = .ok (.iload_n 2, 1) := by decide +kernel
theorem dX11_reaches_17 : decode cX11_reaches 17 = .ok (.bipush 6, 2) := by decide +kernel
theorem dX11_reaches_19 : decode cX11_reaches 19 = .ok (.irem, 1) := by decide +kernel
theorem dX11_reaches_20 : decode cX11_reaches 20 = .ok (.invokestatic 148, 3) := by decide +kernel
theorem dX11_reaches_23 : decode cX11_reaches 23 = .ok (.istore 4, 2) := by decide +kernel
theorem dX11_reaches_25 : decode cX11_reaches 25 = .ok (.iload_n 3, 1) := by decide +kernel
theorem dX11_reaches_26 : decode cX11_reaches 26 = .ok (.iconst 2, 1) := by decide +kernel
theorem dX11_reaches_27 : decode cX11_reaches 27 = .ok (.if_icmp .ge 13, 3) := by decide +kernel
theorem dX11_reaches_30 : decode cX11_reaches 30 = .ok (.iload 4, 2) := by decide +kernel
theorem dX11_reaches_32 : decode cX11_reaches 32 = .ok (.iconst 2, 1) := by decide +kernel
theorem dX11_reaches_33 : decode cX11_reaches 33 = .ok (.if_icmp .ge 7, 3) := by decide +kernel
theorem dX11_reaches_36 : decode cX11_reaches 36 = .ok (.iconst 1, 1) := by decide +kernel
theorem dX11_reaches_37 : decode cX11_reaches 37 = .ok (.goto 4, 3) := by decide +kernel
theorem dX11_reaches_40 : decode cX11_reaches 40 = .ok (.iconst 0, 1) := by decide +kernel
theorem dX11_reaches_41 : decode cX11_reaches 41 = .ok (.istore 5, 2) := by decide +kernel
theorem dX11_reaches_43 : decode cX11_reaches 43 = .ok (.iload_n 0, 1) := by decide +kernel
theorem dX11_reaches_44 : decode cX11_reaches 44 = .ok (.tableswitch 85 1 4 #[32, 49, 52, 67], 32) := by decide +kernel
theorem dX11_reaches_76 : decode cX11_reaches 76 = .ok (.iload 5, 2) := by decide +kernel
theorem dX11_reaches_78 : decode cX11_reaches 78 = .ok (.ifCond .eq 13, 3) := by decide +kernel
theorem dX11_reaches_81 : decode cX11_reaches 81 = .ok (.iload_n 3, 1) := by decide +kernel
theorem dX11_reaches_82 : decode cX11_reaches 82 = .ok (.iload 4, 2) := by decide +kernel
theorem dX11_reaches_84 : decode cX11_reaches 84 = .ok (.if_icmp .ne 7, 3) := by decide +kernel
theorem dX11_reaches_87 : decode cX11_reaches 87 = .ok (.iconst 1, 1) := by decide +kernel
theorem dX11_reaches_88 : decode cX11_reaches 88 = .ok (.goto 4, 3) := by decide +kernel
theorem dX11_reaches_91 : decode cX11_reaches 91 = .ok (.iconst 0, 1) := by decide +kernel
theorem dX11_reaches_92 : decode cX11_reaches 92 = .ok (.ireturn, 1) := by decide +kernel
theorem dX11_reaches_93 : decode cX11_reaches 93 = .ok (.iload 5, 2) := by decide +kernel
theorem dX11_reaches_95 : decode cX11_reaches 95 = .ok (.ireturn, 1) := by decide +kernel
theorem dX11_reaches_96 : decode cX11_reaches 96 = .ok (.iload 5, 2) := by decide +kernel
theorem dX11_reaches_98 : decode cX11_reaches 98 = .ok (.ifCond .eq 11, 3) := by decide +kernel
theorem dX11_reaches_101 : decode cX11_reaches 101 = .ok (.iload_n 3, 1) := by decide +kernel
theorem dX11_reaches_102 : decode cX11_reaches 102 = .ok (.ifCond .ne 7, 3) := by decide +kernel
theorem dX11_reaches_105 : decode cX11_reaches 105 = .ok (.iconst 1, 1) := by decide +kernel
theorem dX11_reaches_106 : decode cX11_reaches 106 = .ok (.goto 4, 3) := by decide +kernel
theorem dX11_reaches_109 : decode cX11_reaches 109 = .ok (.iconst 0, 1) := by decide +kernel
theorem dX11_reaches_110 : decode cX11_reaches 110 = .ok (.ireturn, 1) := by decide +kernel
theorem dX11_reaches_111 : decode cX11_reaches 111 = .ok (.iload 5, 2) := by decide +kernel
theorem dX11_reaches_113 : decode cX11_reaches 113 = .ok (.ifCond .eq 14, 3) := by decide +kernel
theorem dX11_reaches_116 : decode cX11_reaches 116 = .ok (.iload_n 3, 1) := by decide +kernel
theorem dX11_reaches_117 : decode cX11_reaches 117 = .ok (.iload 4, 2) := by decide +kernel
theorem dX11_reaches_119 : decode cX11_reaches 119 = .ok (.iadd, 1) := by decide +kernel
theorem dX11_reaches_120 : decode cX11_reaches 120 = .ok (.ifCond .le 7, 3) := by decide +kernel
theorem dX11_reaches_123 : decode cX11_reaches 123 = .ok (.iconst 1, 1) := by decide +kernel
theorem dX11_reaches_124 : decode cX11_reaches 124 = .ok (.goto 4, 3) := by decide +kernel
theorem dX11_reaches_127 : decode cX11_reaches 127 = .ok (.iconst 0, 1) := by decide +kernel
theorem dX11_reaches_128 : decode cX11_reaches 128 = .ok (.ireturn, 1) := by decide +kernel
theorem dX11_reaches_129 : decode cX11_reaches 129 = .ok (.iload_n 3, 1) := by decide +kernel
theorem dX11_reaches_130 : decode cX11_reaches 130 = .ok (.iload 4, 2) := by decide +kernel
theorem dX11_reaches_132 : decode cX11_reaches 132 = .ok (.iadd, 1) := by decide +kernel
theorem dX11_reaches_133 : decode cX11_reaches 133 = .ok (.iconst 2, 1) := by decide +kernel
theorem dX11_reaches_134 : decode cX11_reaches 134 = .ok (.if_icmp .ge 7, 3) := by decide +kernel
theorem dX11_reaches_137 : decode cX11_reaches 137 = .ok (.iconst 1, 1) := by decide +kernel
theorem dX11_reaches_138 : decode cX11_reaches 138 = .ok (.goto 4, 3) := by decide +kernel
theorem dX11_reaches_141 : decode cX11_reaches 141 = .ok (.iconst 0, 1) := by decide +kernel
theorem dX11_reaches_142 : decode cX11_reaches 142 = .ok (.ireturn, 1) := by decide +kernel
theorem dX11_coversCell_0 : decode cX11_coversCell 0 = .ok (.aload_n 0, 1) := by decide +kernel
theorem dX11_coversCell_1 : decode cX11_coversCell 1 = .ok (.iload_n 1, 1) := by decide +kernel
theorem dX11_coversCell_2 : decode cX11_coversCell 2 = .ok (.iload_n 2, 1) := by decide +kernel
theorem dX11_coversCell_3 : decode cX11_coversCell 3 = .ok (.iload_n 3, 1) := by decide +kernel
theorem dX11_coversCell_4 : decode cX11_coversCell 4 = .ok (.invokevirtual 151, 3) := by decide +kernel
theorem dX11_coversCell_7 : decode cX11_coversCell 7 = .ok (.istore 5, 2) := by decide +kernel
theorem dX11_coversCell_9 : decode cX11_coversCell 9 = .ok (.iload 5, 2) := by decide +kernel
theorem dX11_coversCell_11 : decode cX11_coversCell 11 = .ok (.iconst (-1), 1) := by decide +kernel
theorem dX11_coversCell_12 : decode cX11_coversCell 12 = .ok (.if_icmp .eq 23, 3) := by decide +kernel
theorem dX11_coversCell_15 : decode cX11_coversCell 15 = .ok (.aload_n 0, 1) := by decide +kernel
theorem dX11_coversCell_16 : decode cX11_coversCell 16 = .ok (.getfield 25, 3) := by decide +kernel
theorem dX11_coversCell_19 : decode cX11_coversCell 19 = .ok (.iload_n 1, 1) := by decide +kernel
theorem dX11_coversCell_20 : decode cX11_coversCell 20 = .ok (.iaload, 1) := by decide +kernel
theorem dX11_coversCell_21 : decode cX11_coversCell 21 = .ok (.iload 5, 2) := by decide +kernel
theorem dX11_coversCell_23 : decode cX11_coversCell 23 = .ok (.iload 4, 2) := by decide +kernel
theorem dX11_coversCell_25 : decode cX11_coversCell 25 = .ok (.invokestatic 155, 3) := by decide +kernel
theorem dX11_coversCell_28 : decode cX11_coversCell 28 = .ok (.ifCond .eq 7, 3) := by decide +kernel
theorem dX11_coversCell_31 : decode cX11_coversCell 31 = .ok (.iconst 1, 1) := by decide +kernel
theorem dX11_coversCell_32 : decode cX11_coversCell 32 = .ok (.goto 4, 3) := by decide +kernel
theorem dX11_coversCell_35 : decode cX11_coversCell 35 = .ok (.iconst 0, 1) := by decide +kernel
theorem dX11_coversCell_36 : decode cX11_coversCell 36 = .ok (.ireturn, 1) := by decide +kernel
theorem dX11_coversOf_0 : decode cX11_coversOf 0 = .ok (.iconst 0, 1) := by decide +kernel
theorem dX11_coversOf_1 : decode cX11_coversOf 1 = .ok (.istore 4, 2) := by decide +kernel
theorem dX11_coversOf_3 : decode cX11_coversOf 3 = .ok (.iconst 0, 1) := by decide +kernel
theorem dX11_coversOf_4 : decode cX11_coversOf 4 = .ok (.istore 5, 2) := by decide +kernel
theorem dX11_coversOf_6 : decode cX11_coversOf 6 = .ok (.iload 5, 2) := by decide +kernel
theorem dX11_coversOf_8 : decode cX11_coversOf 8 = .ok (.aload_n 0, 1) := by decide +kernel
theorem dX11_coversOf_9 : decode cX11_coversOf 9 = .ok (.getfield 116, 3) := by decide +kernel
theorem dX11_coversOf_12 : decode cX11_coversOf 12 = .ok (.if_icmp .ge 39, 3) := by decide +kernel
theorem dX11_coversOf_15 : decode cX11_coversOf 15 = .ok (.iload 4, 2) := by decide +kernel
theorem dX11_coversOf_17 : decode cX11_coversOf 17 = .ok (.aload_n 0, 1) := by decide +kernel
theorem dX11_coversOf_18 : decode cX11_coversOf 18 = .ok (.iload_n 1, 1) := by decide +kernel
theorem dX11_coversOf_19 : decode cX11_coversOf 19 = .ok (.iload_n 2, 1) := by decide +kernel
theorem dX11_coversOf_20 : decode cX11_coversOf 20 = .ok (.iload_n 3, 1) := by decide +kernel
theorem dX11_coversOf_21 : decode cX11_coversOf 21 = .ok (.aload_n 0, 1) := by decide +kernel
theorem dX11_coversOf_22 : decode cX11_coversOf 22 = .ok (.getfield 13, 3) := by decide +kernel
theorem dX11_coversOf_25 : decode cX11_coversOf 25 = .ok (.iload 5, 2) := by decide +kernel
theorem dX11_coversOf_27 : decode cX11_coversOf 27 = .ok (.iaload, 1) := by decide +kernel
theorem dX11_coversOf_28 : decode cX11_coversOf 28 = .ok (.invokevirtual 159, 3) := by decide +kernel
theorem dX11_coversOf_31 : decode cX11_coversOf 31 = .ok (.ifCond .eq 10, 3) := by decide +kernel
theorem dX11_coversOf_34 : decode cX11_coversOf 34 = .ok (.iconst 1, 1) := by decide +kernel
theorem dX11_coversOf_35 : decode cX11_coversOf 35 = .ok (.iload 5, 2) := by decide +kernel
theorem dX11_coversOf_37 : decode cX11_coversOf 37 = .ok (.ishl, 1) := by decide +kernel
theorem dX11_coversOf_38 : decode cX11_coversOf 38 = .ok (.goto 4, 3) := by decide +kernel
theorem dX11_coversOf_41 : decode cX11_coversOf 41 = .ok (.iconst 0, 1) := by decide +kernel
theorem dX11_coversOf_42 : decode cX11_coversOf 42 = .ok (.ior, 1) := by decide +kernel
theorem dX11_coversOf_43 : decode cX11_coversOf 43 = .ok (.istore 4, 2) := by decide +kernel
theorem dX11_coversOf_45 : decode cX11_coversOf 45 = .ok (.iinc 5 1, 3) := by decide +kernel
theorem dX11_coversOf_48 : decode cX11_coversOf 48 = .ok (.goto (-42), 3) := by decide +kernel
theorem dX11_coversOf_51 : decode cX11_coversOf 51 = .ok (.iload 4, 2) := by decide +kernel
theorem dX11_coversOf_53 : decode cX11_coversOf 53 = .ok (.ireturn, 1) := by decide +kernel
theorem dX11_ones_0 : decode cX11_ones 0 = .ok (.iconst 0, 1) := by decide +kernel
theorem dX11_ones_1 : decode cX11_ones 1 = .ok (.istore_n 1, 1) := by decide +kernel
theorem dX11_ones_2 : decode cX11_ones 2 = .ok (.iconst 0, 1) := by decide +kernel
theorem dX11_ones_3 : decode cX11_ones 3 = .ok (.istore_n 2, 1) := by decide +kernel
theorem dX11_ones_4 : decode cX11_ones 4 = .ok (.iload_n 2, 1) := by decide +kernel
theorem dX11_ones_5 : decode cX11_ones 5 = .ok (.bipush 6, 2) := by decide +kernel
theorem dX11_ones_7 : decode cX11_ones 7 = .ok (.if_icmp .ge 17, 3) := by decide +kernel
theorem dX11_ones_10 : decode cX11_ones 10 = .ok (.iload_n 1, 1) := by decide +kernel
theorem dX11_ones_11 : decode cX11_ones 11 = .ok (.iload_n 0, 1) := by decide +kernel
theorem dX11_ones_12 : decode cX11_ones 12 = .ok (.iload_n 2, 1) := by decide +kernel
theorem dX11_ones_13 : decode cX11_ones 13 = .ok (.ishr, 1) := by decide +kernel
theorem dX11_ones_14 : decode cX11_ones 14 = .ok (.iconst 1, 1) := by decide +kernel
theorem dX11_ones_15 : decode cX11_ones 15 = .ok (.iand, 1) := by decide +kernel
theorem dX11_ones_16 : decode cX11_ones 16 = .ok (.iadd, 1) := by decide +kernel
theorem dX11_ones_17 : decode cX11_ones 17 = .ok (.istore_n 1, 1) := by decide +kernel
theorem dX11_ones_18 : decode cX11_ones 18 = .ok (.iinc 2 1, 3) := by decide +kernel
theorem dX11_ones_21 : decode cX11_ones 21 = .ok (.goto (-17), 3) := by decide +kernel
theorem dX11_ones_24 : decode cX11_ones 24 = .ok (.iload_n 1, 1) := by decide +kernel
theorem dX11_ones_25 : decode cX11_ones 25 = .ok (.ireturn, 1) := by decide +kernel
theorem dX11_batterOf_0 : decode cX11_batterOf 0 = .ok (.iload_n 0, 1) := by decide +kernel
theorem dX11_batterOf_1 : decode cX11_batterOf 1 = .ok (.tableswitch 39 1 4 #[31, 33, 35, 37], 31) := by decide +kernel
theorem dX11_batterOf_32 : decode cX11_batterOf 32 = .ok (.iconst 2, 1) := by decide +kernel
theorem dX11_batterOf_33 : decode cX11_batterOf 33 = .ok (.ireturn, 1) := by decide +kernel
theorem dX11_batterOf_34 : decode cX11_batterOf 34 = .ok (.iconst 5, 1) := by decide +kernel
theorem dX11_batterOf_35 : decode cX11_batterOf 35 = .ok (.ireturn, 1) := by decide +kernel
theorem dX11_batterOf_36 : decode cX11_batterOf 36 = .ok (.iconst 1, 1) := by decide +kernel
theorem dX11_batterOf_37 : decode cX11_batterOf 37 = .ok (.ireturn, 1) := by decide +kernel
theorem dX11_batterOf_38 : decode cX11_batterOf 38 = .ok (.iconst 4, 1) := by decide +kernel
theorem dX11_batterOf_39 : decode cX11_batterOf 39 = .ok (.ireturn, 1) := by decide +kernel
theorem dX11_batterOf_40 : decode cX11_batterOf 40 = .ok (.iconst 3, 1) := by decide +kernel
theorem dX11_batterOf_41 : decode cX11_batterOf 41 = .ok (.ireturn, 1) := by decide +kernel
theorem dX11_open_0 : decode cX11_open 0 = .ok (.iconst 0, 1) := by decide +kernel
theorem dX11_open_1 : decode cX11_open 1 = .ok (.istore_n 1, 1) := by decide +kernel
theorem dX11_open_2 : decode cX11_open 2 = .ok (.iconst 0, 1) := by decide +kernel
theorem dX11_open_3 : decode cX11_open 3 = .ok (.istore_n 2, 1) := by decide +kernel
theorem dX11_open_4 : decode cX11_open 4 = .ok (.iload_n 2, 1) := by decide +kernel
theorem dX11_open_5 : decode cX11_open 5 = .ok (.aload_n 0, 1) := by decide +kernel
theorem dX11_open_6 : decode cX11_open 6 = .ok (.getfield 116, 3) := by decide +kernel
theorem dX11_open_9 : decode cX11_open 9 = .ok (.if_icmp .ge 28, 3) := by decide +kernel
theorem dX11_open_12 : decode cX11_open 12 = .ok (.iload_n 1, 1) := by decide +kernel
theorem dX11_open_13 : decode cX11_open 13 = .ok (.aload_n 0, 1) := by decide +kernel
theorem dX11_open_14 : decode cX11_open 14 = .ok (.getfield 16, 3) := by decide +kernel
theorem dX11_open_17 : decode cX11_open 17 = .ok (.iload_n 2, 1) := by decide +kernel
theorem dX11_open_18 : decode cX11_open 18 = .ok (.iaload, 1) := by decide +kernel
theorem dX11_open_19 : decode cX11_open 19 = .ok (.ifCond .ne 9, 3) := by decide +kernel
theorem dX11_open_22 : decode cX11_open 22 = .ok (.iconst 1, 1) := by decide +kernel
theorem dX11_open_23 : decode cX11_open 23 = .ok (.iload_n 2, 1) := by decide +kernel
theorem dX11_open_24 : decode cX11_open 24 = .ok (.ishl, 1) := by decide +kernel
theorem dX11_open_25 : decode cX11_open 25 = .ok (.goto 4, 3) := by decide +kernel
theorem dX11_open_28 : decode cX11_open 28 = .ok (.iconst 0, 1) := by decide +kernel
theorem dX11_open_29 : decode cX11_open 29 = .ok (.ior, 1) := by decide +kernel
theorem dX11_open_30 : decode cX11_open 30 = .ok (.istore_n 1, 1) := by decide +kernel
theorem dX11_open_31 : decode cX11_open 31 = .ok (.iinc 2 1, 3) := by decide +kernel
theorem dX11_open_34 : decode cX11_open 34 = .ok (.goto (-30), 3) := by decide +kernel
theorem dX11_open_37 : decode cX11_open 37 = .ok (.iload_n 1, 1) := by decide +kernel
theorem dX11_open_38 : decode cX11_open 38 = .ok (.ireturn, 1) := by decide +kernel
theorem dX11_lands_0 : decode cX11_lands 0 = .ok (.aload_n 0, 1) := by decide +kernel
theorem dX11_lands_1 : decode cX11_lands 1 = .ok (.iload_n 1, 1) := by decide +kernel
theorem dX11_lands_2 : decode cX11_lands 2 = .ok (.invokevirtual 163, 3) := by decide +kernel
theorem dX11_lands_5 : decode cX11_lands 5 = .ok (.ifCond .eq 23, 3) := by decide +kernel
theorem dX11_lands_8 : decode cX11_lands 8 = .ok (.iload_n 2, 1) := by decide +kernel
theorem dX11_lands_9 : decode cX11_lands 9 = .ok (.invokestatic 166, 3) := by decide +kernel
theorem dX11_lands_12 : decode cX11_lands 12 = .ok (.ifCond .eq 16, 3) := by decide +kernel
theorem dX11_lands_15 : decode cX11_lands 15 = .ok (.aload_n 0, 1) := by decide +kernel
theorem dX11_lands_16 : decode cX11_lands 16 = .ok (.iload_n 1, 1) := by decide +kernel
theorem dX11_lands_17 : decode cX11_lands 17 = .ok (.iload_n 2, 1) := by decide +kernel
theorem dX11_lands_18 : decode cX11_lands 18 = .ok (.aload_n 0, 1) := by decide +kernel
theorem dX11_lands_19 : decode cX11_lands 19 = .ok (.getfield 122, 3) := by decide +kernel
theorem dX11_lands_22 : decode cX11_lands 22 = .ok (.invokevirtual 151, 3) := by decide +kernel
theorem dX11_lands_25 : decode cX11_lands 25 = .ok (.goto 5, 3) := by decide +kernel
theorem dX11_lands_28 : decode cX11_lands 28 = .ok (.bipush (-101), 2) := by decide +kernel
theorem dX11_lands_30 : decode cX11_lands 30 = .ok (.ireturn, 1) := by decide +kernel
theorem dX11_covers_0 : decode cX11_covers 0 = .ok (.aload_n 0, 1) := by decide +kernel
theorem dX11_covers_1 : decode cX11_covers 1 = .ok (.iload_n 1, 1) := by decide +kernel
theorem dX11_covers_2 : decode cX11_covers 2 = .ok (.invokevirtual 163, 3) := by decide +kernel
theorem dX11_covers_5 : decode cX11_covers 5 = .ok (.ifCond .eq 23, 3) := by decide +kernel
theorem dX11_covers_8 : decode cX11_covers 8 = .ok (.iload_n 2, 1) := by decide +kernel
theorem dX11_covers_9 : decode cX11_covers 9 = .ok (.invokestatic 166, 3) := by decide +kernel
theorem dX11_covers_12 : decode cX11_covers 12 = .ok (.ifCond .eq 16, 3) := by decide +kernel
theorem dX11_covers_15 : decode cX11_covers 15 = .ok (.aload_n 0, 1) := by decide +kernel
theorem dX11_covers_16 : decode cX11_covers 16 = .ok (.iload_n 1, 1) := by decide +kernel
theorem dX11_covers_17 : decode cX11_covers 17 = .ok (.iload_n 2, 1) := by decide +kernel
theorem dX11_covers_18 : decode cX11_covers 18 = .ok (.aload_n 0, 1) := by decide +kernel
theorem dX11_covers_19 : decode cX11_covers 19 = .ok (.getfield 122, 3) := by decide +kernel
theorem dX11_covers_22 : decode cX11_covers 22 = .ok (.invokevirtual 169, 3) := by decide +kernel
theorem dX11_covers_25 : decode cX11_covers 25 = .ok (.goto 5, 3) := by decide +kernel
theorem dX11_covers_28 : decode cX11_covers 28 = .ok (.bipush (-101), 2) := by decide +kernel
theorem dX11_covers_30 : decode cX11_covers 30 = .ok (.ireturn, 1) := by decide +kernel
theorem dX11_isFreeFor_0 : decode cX11_isFreeFor 0 = .ok (.iconst 1, 1) := by decide +kernel
theorem dX11_isFreeFor_1 : decode cX11_isFreeFor 1 = .ok (.istore_n 3, 1) := by decide +kernel
theorem dX11_isFreeFor_2 : decode cX11_isFreeFor 2 = .ok (.iconst 0, 1) := by decide +kernel
theorem dX11_isFreeFor_3 : decode cX11_isFreeFor 3 = .ok (.istore 4, 2) := by decide +kernel
theorem dX11_isFreeFor_5 : decode cX11_isFreeFor 5 = .ok (.iload 4, 2) := by decide +kernel
theorem dX11_isFreeFor_7 : decode cX11_isFreeFor 7 = .ok (.aload_n 0, 1) := by decide +kernel
theorem dX11_isFreeFor_8 : decode cX11_isFreeFor 8 = .ok (.getfield 116, 3) := by decide +kernel
theorem dX11_isFreeFor_11 : decode cX11_isFreeFor 11 = .ok (.if_icmp .ge 36, 3) := by decide +kernel
theorem dX11_isFreeFor_14 : decode cX11_isFreeFor 14 = .ok (.iload_n 3, 1) := by decide +kernel
theorem dX11_isFreeFor_15 : decode cX11_isFreeFor 15 = .ok (.ifCond .eq 24, 3) := by decide +kernel
theorem dX11_isFreeFor_18 : decode cX11_isFreeFor 18 = .ok (.iload 4, 2) := by decide +kernel
theorem dX11_isFreeFor_20 : decode cX11_isFreeFor 20 = .ok (.iload_n 1, 1) := by decide +kernel
theorem dX11_isFreeFor_21 : decode cX11_isFreeFor 21 = .ok (.if_icmp .eq 14, 3) := by decide +kernel
theorem dX11_isFreeFor_24 : decode cX11_isFreeFor 24 = .ok (.aload_n 0, 1) := by decide +kernel
theorem dX11_isFreeFor_25 : decode cX11_isFreeFor 25 = .ok (.getfield 13, 3) := by decide +kernel
theorem dX11_isFreeFor_28 : decode cX11_isFreeFor 28 = .ok (.iload 4, 2) := by decide +kernel
theorem dX11_isFreeFor_30 : decode cX11_isFreeFor 30 = .ok (.iaload, 1) := by decide +kernel
theorem dX11_isFreeFor_31 : decode cX11_isFreeFor 31 = .ok (.iload_n 2, 1) := by decide +kernel
theorem dX11_isFreeFor_32 : decode cX11_isFreeFor 32 = .ok (.if_icmp .eq 7, 3) := by decide +kernel
theorem dX11_isFreeFor_35 : decode cX11_isFreeFor 35 = .ok (.iconst 1, 1) := by decide +kernel
theorem dX11_isFreeFor_36 : decode cX11_isFreeFor 36 = .ok (.goto 4, 3) := by decide +kernel
theorem dX11_isFreeFor_39 : decode cX11_isFreeFor 39 = .ok (.iconst 0, 1) := by decide +kernel
theorem dX11_isFreeFor_40 : decode cX11_isFreeFor 40 = .ok (.istore_n 3, 1) := by decide +kernel
theorem dX11_isFreeFor_41 : decode cX11_isFreeFor 41 = .ok (.iinc 4 1, 3) := by decide +kernel
theorem dX11_isFreeFor_44 : decode cX11_isFreeFor 44 = .ok (.goto (-39), 3) := by decide +kernel
theorem dX11_isFreeFor_47 : decode cX11_isFreeFor 47 = .ok (.iload_n 3, 1) := by decide +kernel
theorem dX11_isFreeFor_48 : decode cX11_isFreeFor 48 = .ok (.ireturn, 1) := by decide +kernel
theorem dX11_tossesOver_0 : decode cX11_tossesOver 0 = .ok (.iconst 0, 1) := by decide +kernel
theorem dX11_tossesOver_1 : decode cX11_tossesOver 1 = .ok (.istore_n 2, 1) := by decide +kernel
theorem dX11_tossesOver_2 : decode cX11_tossesOver 2 = .ok (.iconst 0, 1) := by decide +kernel
theorem dX11_tossesOver_3 : decode cX11_tossesOver 3 = .ok (.istore_n 3, 1) := by decide +kernel
theorem dX11_tossesOver_4 : decode cX11_tossesOver 4 = .ok (.iload_n 3, 1) := by decide +kernel
theorem dX11_tossesOver_5 : decode cX11_tossesOver 5 = .ok (.aload_n 0, 1) := by decide +kernel
theorem dX11_tossesOver_6 : decode cX11_tossesOver 6 = .ok (.getfield 119, 3) := by decide +kernel
theorem dX11_tossesOver_9 : decode cX11_tossesOver 9 = .ok (.if_icmp .ge 48, 3) := by decide +kernel
theorem dX11_tossesOver_12 : decode cX11_tossesOver 12 = .ok (.iconst 0, 1) := by decide +kernel
theorem dX11_tossesOver_13 : decode cX11_tossesOver 13 = .ok (.istore 4, 2) := by decide +kernel
theorem dX11_tossesOver_15 : decode cX11_tossesOver 15 = .ok (.iload 4, 2) := by decide +kernel
theorem dX11_tossesOver_17 : decode cX11_tossesOver 17 = .ok (.bipush 36, 2) := by decide +kernel
theorem dX11_tossesOver_19 : decode cX11_tossesOver 19 = .ok (.if_icmp .ge 32, 3) := by decide +kernel
theorem dX11_tossesOver_22 : decode cX11_tossesOver 22 = .ok (.iload_n 2, 1) := by decide +kernel
theorem dX11_tossesOver_23 : decode cX11_tossesOver 23 = .ok (.aload_n 0, 1) := by decide +kernel
theorem dX11_tossesOver_24 : decode cX11_tossesOver 24 = .ok (.iload_n 3, 1) := by decide +kernel
theorem dX11_tossesOver_25 : decode cX11_tossesOver 25 = .ok (.iload 4, 2) := by decide +kernel
theorem dX11_tossesOver_27 : decode cX11_tossesOver 27 = .ok (.aload_n 0, 1) := by decide +kernel
theorem dX11_tossesOver_28 : decode cX11_tossesOver 28 = .ok (.getfield 122, 3) := by decide +kernel
theorem dX11_tossesOver_31 : decode cX11_tossesOver 31 = .ok (.iload_n 1, 1) := by decide +kernel
theorem dX11_tossesOver_32 : decode cX11_tossesOver 32 = .ok (.invokevirtual 159, 3) := by decide +kernel
theorem dX11_tossesOver_35 : decode cX11_tossesOver 35 = .ok (.ifCond .eq 7, 3) := by decide +kernel
theorem dX11_tossesOver_38 : decode cX11_tossesOver 38 = .ok (.iconst 1, 1) := by decide +kernel
theorem dX11_tossesOver_39 : decode cX11_tossesOver 39 = .ok (.goto 4, 3) := by decide +kernel
theorem dX11_tossesOver_42 : decode cX11_tossesOver 42 = .ok (.iconst 0, 1) := by decide +kernel
theorem dX11_tossesOver_43 : decode cX11_tossesOver 43 = .ok (.iadd, 1) := by decide +kernel
theorem dX11_tossesOver_44 : decode cX11_tossesOver 44 = .ok (.istore_n 2, 1) := by decide +kernel
theorem dX11_tossesOver_45 : decode cX11_tossesOver 45 = .ok (.iinc 4 1, 3) := by decide +kernel
theorem dX11_tossesOver_48 : decode cX11_tossesOver 48 = .ok (.goto (-33), 3) := by decide +kernel
theorem dX11_tossesOver_51 : decode cX11_tossesOver 51 = .ok (.iinc 3 1, 3) := by decide +kernel
theorem dX11_tossesOver_54 : decode cX11_tossesOver 54 = .ok (.goto (-50), 3) := by decide +kernel
theorem dX11_tossesOver_57 : decode cX11_tossesOver 57 = .ok (.iload_n 2, 1) := by decide +kernel
theorem dX11_tossesOver_58 : decode cX11_tossesOver 58 = .ok (.ireturn, 1) := by decide +kernel
theorem dX11_lieOf_0 : decode cX11_lieOf 0 = .ok (.iconst (-1), 1) := by decide +kernel
theorem dX11_lieOf_1 : decode cX11_lieOf 1 = .ok (.istore_n 2, 1) := by decide +kernel
theorem dX11_lieOf_2 : decode cX11_lieOf 2 = .ok (.iconst (-1), 1) := by decide +kernel
theorem dX11_lieOf_3 : decode cX11_lieOf 3 = .ok (.istore_n 3, 1) := by decide +kernel
theorem dX11_lieOf_4 : decode cX11_lieOf 4 = .ok (.iconst 0, 1) := by decide +kernel
theorem dX11_lieOf_5 : decode cX11_lieOf 5 = .ok (.istore 4, 2) := by decide +kernel
theorem dX11_lieOf_7 : decode cX11_lieOf 7 = .ok (.iload 4, 2) := by decide +kernel
theorem dX11_lieOf_9 : decode cX11_lieOf 9 = .ok (.bipush 36, 2) := by decide +kernel
theorem dX11_lieOf_11 : decode cX11_lieOf 11 = .ok (.if_icmp .ge 57, 3) := by decide +kernel
theorem dX11_lieOf_14 : decode cX11_lieOf 14 = .ok (.aload_n 0, 1) := by decide +kernel
theorem dX11_lieOf_15 : decode cX11_lieOf 15 = .ok (.iload_n 1, 1) := by decide +kernel
theorem dX11_lieOf_16 : decode cX11_lieOf 16 = .ok (.iload 4, 2) := by decide +kernel
theorem dX11_lieOf_18 : decode cX11_lieOf 18 = .ok (.invokevirtual 172, 3) := by decide +kernel
theorem dX11_lieOf_21 : decode cX11_lieOf 21 = .ok (.ifCond .eq 12, 3) := by decide +kernel
theorem dX11_lieOf_24 : decode cX11_lieOf 24 = .ok (.aload_n 0, 1) := by decide +kernel
theorem dX11_lieOf_25 : decode cX11_lieOf 25 = .ok (.iload 4, 2) := by decide +kernel
theorem dX11_lieOf_27 : decode cX11_lieOf 27 = .ok (.invokevirtual 176, 3) := by decide +kernel
theorem dX11_lieOf_30 : decode cX11_lieOf 30 = .ok (.goto 4, 3) := by decide +kernel
theorem dX11_lieOf_33 : decode cX11_lieOf 33 = .ok (.iconst (-1), 1) := by decide +kernel
theorem dX11_lieOf_34 : decode cX11_lieOf 34 = .ok (.istore 5, 2) := by decide +kernel
theorem dX11_lieOf_36 : decode cX11_lieOf 36 = .ok (.iload 5, 2) := by decide +kernel
theorem dX11_lieOf_38 : decode cX11_lieOf 38 = .ok (.iload_n 3, 1) := by decide +kernel
theorem dX11_lieOf_39 : decode cX11_lieOf 39 = .ok (.if_icmp .le 8, 3) := by decide +kernel
theorem dX11_lieOf_42 : decode cX11_lieOf 42 = .ok (.iload 4, 2) := by decide +kernel
theorem dX11_lieOf_44 : decode cX11_lieOf 44 = .ok (.goto 4, 3) := by decide +kernel
theorem dX11_lieOf_47 : decode cX11_lieOf 47 = .ok (.iload_n 2, 1) := by decide +kernel
theorem dX11_lieOf_48 : decode cX11_lieOf 48 = .ok (.istore_n 2, 1) := by decide +kernel
theorem dX11_lieOf_49 : decode cX11_lieOf 49 = .ok (.iload 5, 2) := by decide +kernel
theorem dX11_lieOf_51 : decode cX11_lieOf 51 = .ok (.iload_n 3, 1) := by decide +kernel
theorem dX11_lieOf_52 : decode cX11_lieOf 52 = .ok (.if_icmp .le 8, 3) := by decide +kernel
theorem dX11_lieOf_55 : decode cX11_lieOf 55 = .ok (.iload 5, 2) := by decide +kernel
theorem dX11_lieOf_57 : decode cX11_lieOf 57 = .ok (.goto 4, 3) := by decide +kernel
theorem dX11_lieOf_60 : decode cX11_lieOf 60 = .ok (.iload_n 3, 1) := by decide +kernel
theorem dX11_lieOf_61 : decode cX11_lieOf 61 = .ok (.istore_n 3, 1) := by decide +kernel
theorem dX11_lieOf_62 : decode cX11_lieOf 62 = .ok (.iinc 4 1, 3) := by decide +kernel
theorem dX11_lieOf_65 : decode cX11_lieOf 65 = .ok (.goto (-58), 3) := by decide +kernel
theorem dX11_lieOf_68 : decode cX11_lieOf 68 = .ok (.iload_n 2, 1) := by decide +kernel
theorem dX11_lieOf_69 : decode cX11_lieOf 69 = .ok (.ireturn, 1) := by decide +kernel
theorem dX11_tellSleeper_0 : decode cX11_tellSleeper 0 = .ok (.iload_n 2, 1) := by decide +kernel
theorem dX11_tellSleeper_1 : decode cX11_tellSleeper 1 = .ok (.tableswitch 69 0 4 #[35, 42, 49, 56, 63], 35) := by decide +kernel
theorem dX11_tellSleeper_36 : decode cX11_tellSleeper 36 = .ok (.aload_n 0, 1) := by decide +kernel
theorem dX11_tellSleeper_37 : decode cX11_tellSleeper 37 = .ok (.getfield 13, 3) := by decide +kernel
theorem dX11_tellSleeper_40 : decode cX11_tellSleeper 40 = .ok (.iload_n 1, 1) := by decide +kernel
theorem dX11_tellSleeper_41 : decode cX11_tellSleeper 41 = .ok (.iaload, 1) := by decide +kernel
theorem dX11_tellSleeper_42 : decode cX11_tellSleeper 42 = .ok (.ireturn, 1) := by decide +kernel
theorem dX11_tellSleeper_43 : decode cX11_tellSleeper 43 = .ok (.aload_n 0, 1) := by decide +kernel
theorem dX11_tellSleeper_44 : decode cX11_tellSleeper 44 = .ok (.getfield 16, 3) := by decide +kernel
theorem dX11_tellSleeper_47 : decode cX11_tellSleeper 47 = .ok (.iload_n 1, 1) := by decide +kernel
theorem dX11_tellSleeper_48 : decode cX11_tellSleeper 48 = .ok (.iaload, 1) := by decide +kernel
theorem dX11_tellSleeper_49 : decode cX11_tellSleeper 49 = .ok (.ireturn, 1) := by decide +kernel
theorem dX11_tellSleeper_50 : decode cX11_tellSleeper 50 = .ok (.aload_n 0, 1) := by decide +kernel
theorem dX11_tellSleeper_51 : decode cX11_tellSleeper 51 = .ok (.getfield 19, 3) := by decide +kernel
theorem dX11_tellSleeper_54 : decode cX11_tellSleeper 54 = .ok (.iload_n 1, 1) := by decide +kernel
theorem dX11_tellSleeper_55 : decode cX11_tellSleeper 55 = .ok (.iaload, 1) := by decide +kernel
theorem dX11_tellSleeper_56 : decode cX11_tellSleeper 56 = .ok (.ireturn, 1) := by decide +kernel
theorem dX11_tellSleeper_57 : decode cX11_tellSleeper 57 = .ok (.aload_n 0, 1) := by decide +kernel
theorem dX11_tellSleeper_58 : decode cX11_tellSleeper 58 = .ok (.getfield 22, 3) := by decide +kernel
theorem dX11_tellSleeper_61 : decode cX11_tellSleeper 61 = .ok (.iload_n 1, 1) := by decide +kernel
theorem dX11_tellSleeper_62 : decode cX11_tellSleeper 62 = .ok (.iaload, 1) := by decide +kernel
theorem dX11_tellSleeper_63 : decode cX11_tellSleeper 63 = .ok (.ireturn, 1) := by decide +kernel
theorem dX11_tellSleeper_64 : decode cX11_tellSleeper 64 = .ok (.aload_n 0, 1) := by decide +kernel
theorem dX11_tellSleeper_65 : decode cX11_tellSleeper 65 = .ok (.iload_n 1, 1) := by decide +kernel
theorem dX11_tellSleeper_66 : decode cX11_tellSleeper 66 = .ok (.invokevirtual 179, 3) := by decide +kernel
theorem dX11_tellSleeper_69 : decode cX11_tellSleeper 69 = .ok (.ireturn, 1) := by decide +kernel
theorem dX11_tellSleeper_70 : decode cX11_tellSleeper 70 = .ok (.bipush (-102), 2) := by decide +kernel
theorem dX11_tellSleeper_72 : decode cX11_tellSleeper 72 = .ok (.ireturn, 1) := by decide +kernel
theorem dX11_sleeper_0 : decode cX11_sleeper 0 = .ok (.aload_n 0, 1) := by decide +kernel
theorem dX11_sleeper_1 : decode cX11_sleeper 1 = .ok (.iload_n 1, 1) := by decide +kernel
theorem dX11_sleeper_2 : decode cX11_sleeper 2 = .ok (.invokevirtual 182, 3) := by decide +kernel
theorem dX11_sleeper_5 : decode cX11_sleeper 5 = .ok (.ifCond .eq 12, 3) := by decide +kernel
theorem dX11_sleeper_8 : decode cX11_sleeper 8 = .ok (.aload_n 0, 1) := by decide +kernel
theorem dX11_sleeper_9 : decode cX11_sleeper 9 = .ok (.iload_n 1, 1) := by decide +kernel
theorem dX11_sleeper_10 : decode cX11_sleeper 10 = .ok (.iload_n 2, 1) := by decide +kernel
theorem dX11_sleeper_11 : decode cX11_sleeper 11 = .ok (.invokevirtual 185, 3) := by decide +kernel
theorem dX11_sleeper_14 : decode cX11_sleeper 14 = .ok (.goto 5, 3) := by decide +kernel
theorem dX11_sleeper_17 : decode cX11_sleeper 17 = .ok (.bipush (-101), 2) := by decide +kernel
theorem dX11_sleeper_19 : decode cX11_sleeper 19 = .ok (.ireturn, 1) := by decide +kernel
theorem dX11_mostOf_0 : decode cX11_mostOf 0 = .ok (.iconst 0, 1) := by decide +kernel
theorem dX11_mostOf_1 : decode cX11_mostOf 1 = .ok (.istore_n 3, 1) := by decide +kernel
theorem dX11_mostOf_2 : decode cX11_mostOf 2 = .ok (.iconst (-1), 1) := by decide +kernel
theorem dX11_mostOf_3 : decode cX11_mostOf 3 = .ok (.istore 4, 2) := by decide +kernel
theorem dX11_mostOf_5 : decode cX11_mostOf 5 = .ok (.iconst 0, 1) := by decide +kernel
theorem dX11_mostOf_6 : decode cX11_mostOf 6 = .ok (.istore 5, 2) := by decide +kernel
theorem dX11_mostOf_8 : decode cX11_mostOf 8 = .ok (.iload 5, 2) := by decide +kernel
theorem dX11_mostOf_10 : decode cX11_mostOf 10 = .ok (.bipush 36, 2) := by decide +kernel
theorem dX11_mostOf_12 : decode cX11_mostOf 12 = .ok (.if_icmp .ge 60, 3) := by decide +kernel
theorem dX11_mostOf_15 : decode cX11_mostOf 15 = .ok (.aload_n 0, 1) := by decide +kernel
theorem dX11_mostOf_16 : decode cX11_mostOf 16 = .ok (.iload_n 1, 1) := by decide +kernel
theorem dX11_mostOf_17 : decode cX11_mostOf 17 = .ok (.iload 5, 2) := by decide +kernel
theorem dX11_mostOf_19 : decode cX11_mostOf 19 = .ok (.aload_n 0, 1) := by decide +kernel
theorem dX11_mostOf_20 : decode cX11_mostOf 20 = .ok (.getfield 122, 3) := by decide +kernel
theorem dX11_mostOf_23 : decode cX11_mostOf 23 = .ok (.invokevirtual 169, 3) := by decide +kernel
theorem dX11_mostOf_26 : decode cX11_mostOf 26 = .ok (.aload_n 0, 1) := by decide +kernel
theorem dX11_mostOf_27 : decode cX11_mostOf 27 = .ok (.invokevirtual 188, 3) := by decide +kernel
theorem dX11_mostOf_30 : decode cX11_mostOf 30 = .ok (.iand, 1) := by decide +kernel
theorem dX11_mostOf_31 : decode cX11_mostOf 31 = .ok (.invokestatic 191, 3) := by decide +kernel
theorem dX11_mostOf_34 : decode cX11_mostOf 34 = .ok (.istore 6, 2) := by decide +kernel
theorem dX11_mostOf_36 : decode cX11_mostOf 36 = .ok (.iload 6, 2) := by decide +kernel
theorem dX11_mostOf_38 : decode cX11_mostOf 38 = .ok (.iload 4, 2) := by decide +kernel
theorem dX11_mostOf_40 : decode cX11_mostOf 40 = .ok (.if_icmp .le 8, 3) := by decide +kernel
theorem dX11_mostOf_43 : decode cX11_mostOf 43 = .ok (.iload 5, 2) := by decide +kernel
end
section
theorem dX11_mostOf_45 : decode cX11_mostOf 45 = .ok (.goto 4, 3) := by decide +kernel
theorem dX11_mostOf_48 : decode cX11_mostOf 48 = .ok (.iload_n 3, 1) := by decide +kernel
theorem dX11_mostOf_49 : decode cX11_mostOf 49 = .ok (.istore_n 3, 1) := by decide +kernel
theorem dX11_mostOf_50 : decode cX11_mostOf 50 = .ok (.iload 6, 2) := by decide +kernel
theorem dX11_mostOf_52 : decode cX11_mostOf 52 = .ok (.iload 4, 2) := by decide +kernel
theorem dX11_mostOf_54 : decode cX11_mostOf 54 = .ok (.if_icmp .le 8, 3) := by decide +kernel
theorem dX11_mostOf_57 : decode cX11_mostOf 57 = .ok (.iload 6, 2) := by decide +kernel
theorem dX11_mostOf_59 : decode cX11_mostOf 59 = .ok (.goto 5, 3) := by decide +kernel
theorem dX11_mostOf_62 : decode cX11_mostOf 62 = .ok (.iload 4, 2) := by decide +kernel
theorem dX11_mostOf_64 : decode cX11_mostOf 64 = .ok (.istore 4, 2) := by decide +kernel
theorem dX11_mostOf_66 : decode cX11_mostOf 66 = .ok (.iinc 5 1, 3) := by decide +kernel
theorem dX11_mostOf_69 : decode cX11_mostOf 69 = .ok (.goto (-61), 3) := by decide +kernel
theorem dX11_mostOf_72 : decode cX11_mostOf 72 = .ok (.iload_n 2, 1) := by decide +kernel
theorem dX11_mostOf_73 : decode cX11_mostOf 73 = .ok (.iconst 4, 1) := by decide +kernel
theorem dX11_mostOf_74 : decode cX11_mostOf 74 = .ok (.if_icmp .ne 7, 3) := by decide +kernel
theorem dX11_mostOf_77 : decode cX11_mostOf 77 = .ok (.iload_n 3, 1) := by decide +kernel
theorem dX11_mostOf_78 : decode cX11_mostOf 78 = .ok (.goto 5, 3) := by decide +kernel
theorem dX11_mostOf_81 : decode cX11_mostOf 81 = .ok (.iload 4, 2) := by decide +kernel
theorem dX11_mostOf_83 : decode cX11_mostOf 83 = .ok (.ireturn, 1) := by decide +kernel
theorem dX11_tellTosser_0 : decode cX11_tellTosser 0 = .ok (.iload_n 2, 1) := by decide +kernel
theorem dX11_tellTosser_1 : decode cX11_tellTosser 1 = .ok (.tableswitch 108 0 8 #[51, 58, 65, 72, 82, 82, 89, 95, 101], 51) := by decide +kernel
theorem dX11_tellTosser_52 : decode cX11_tellTosser 52 = .ok (.aload_n 0, 1) := by decide +kernel
theorem dX11_tellTosser_53 : decode cX11_tellTosser 53 = .ok (.getfield 25, 3) := by decide +kernel
theorem dX11_tellTosser_56 : decode cX11_tellTosser 56 = .ok (.iload_n 1, 1) := by decide +kernel
theorem dX11_tellTosser_57 : decode cX11_tellTosser 57 = .ok (.iaload, 1) := by decide +kernel
theorem dX11_tellTosser_58 : decode cX11_tellTosser 58 = .ok (.ireturn, 1) := by decide +kernel
theorem dX11_tellTosser_59 : decode cX11_tellTosser 59 = .ok (.aload_n 0, 1) := by decide +kernel
theorem dX11_tellTosser_60 : decode cX11_tellTosser 60 = .ok (.getfield 28, 3) := by decide +kernel
theorem dX11_tellTosser_63 : decode cX11_tellTosser 63 = .ok (.iload_n 1, 1) := by decide +kernel
theorem dX11_tellTosser_64 : decode cX11_tellTosser 64 = .ok (.iaload, 1) := by decide +kernel
theorem dX11_tellTosser_65 : decode cX11_tellTosser 65 = .ok (.ireturn, 1) := by decide +kernel
theorem dX11_tellTosser_66 : decode cX11_tellTosser 66 = .ok (.aload_n 0, 1) := by decide +kernel
theorem dX11_tellTosser_67 : decode cX11_tellTosser 67 = .ok (.getfield 31, 3) := by decide +kernel
theorem dX11_tellTosser_70 : decode cX11_tellTosser 70 = .ok (.iload_n 1, 1) := by decide +kernel
theorem dX11_tellTosser_71 : decode cX11_tellTosser 71 = .ok (.iaload, 1) := by decide +kernel
theorem dX11_tellTosser_72 : decode cX11_tellTosser 72 = .ok (.ireturn, 1) := by decide +kernel
theorem dX11_tellTosser_73 : decode cX11_tellTosser 73 = .ok (.aload_n 0, 1) := by decide +kernel
theorem dX11_tellTosser_74 : decode cX11_tellTosser 74 = .ok (.getfield 25, 3) := by decide +kernel
theorem dX11_tellTosser_77 : decode cX11_tellTosser 77 = .ok (.iload_n 1, 1) := by decide +kernel
theorem dX11_tellTosser_78 : decode cX11_tellTosser 78 = .ok (.iaload, 1) := by decide +kernel
theorem dX11_tellTosser_79 : decode cX11_tellTosser 79 = .ok (.invokestatic 194, 3) := by decide +kernel
theorem dX11_tellTosser_82 : decode cX11_tellTosser 82 = .ok (.ireturn, 1) := by decide +kernel
theorem dX11_tellTosser_83 : decode cX11_tellTosser 83 = .ok (.aload_n 0, 1) := by decide +kernel
theorem dX11_tellTosser_84 : decode cX11_tellTosser 84 = .ok (.iload_n 1, 1) := by decide +kernel
theorem dX11_tellTosser_85 : decode cX11_tellTosser 85 = .ok (.iload_n 2, 1) := by decide +kernel
theorem dX11_tellTosser_86 : decode cX11_tellTosser 86 = .ok (.invokevirtual 197, 3) := by decide +kernel
theorem dX11_tellTosser_89 : decode cX11_tellTosser 89 = .ok (.ireturn, 1) := by decide +kernel
theorem dX11_tellTosser_90 : decode cX11_tellTosser 90 = .ok (.aload_n 0, 1) := by decide +kernel
theorem dX11_tellTosser_91 : decode cX11_tellTosser 91 = .ok (.iload_n 1, 1) := by decide +kernel
theorem dX11_tellTosser_92 : decode cX11_tellTosser 92 = .ok (.invokevirtual 200, 3) := by decide +kernel
theorem dX11_tellTosser_95 : decode cX11_tellTosser 95 = .ok (.ireturn, 1) := by decide +kernel
theorem dX11_tellTosser_96 : decode cX11_tellTosser 96 = .ok (.aload_n 0, 1) := by decide +kernel
theorem dX11_tellTosser_97 : decode cX11_tellTosser 97 = .ok (.iload_n 1, 1) := by decide +kernel
theorem dX11_tellTosser_98 : decode cX11_tellTosser 98 = .ok (.invokevirtual 203, 3) := by decide +kernel
theorem dX11_tellTosser_101 : decode cX11_tellTosser 101 = .ok (.ireturn, 1) := by decide +kernel
theorem dX11_tellTosser_102 : decode cX11_tellTosser 102 = .ok (.aload_n 0, 1) := by decide +kernel
theorem dX11_tellTosser_103 : decode cX11_tellTosser 103 = .ok (.getfield 34, 3) := by decide +kernel
theorem dX11_tellTosser_106 : decode cX11_tellTosser 106 = .ok (.iload_n 1, 1) := by decide +kernel
theorem dX11_tellTosser_107 : decode cX11_tellTosser 107 = .ok (.iaload, 1) := by decide +kernel
theorem dX11_tellTosser_108 : decode cX11_tellTosser 108 = .ok (.ireturn, 1) := by decide +kernel
theorem dX11_tellTosser_109 : decode cX11_tellTosser 109 = .ok (.bipush (-102), 2) := by decide +kernel
theorem dX11_tellTosser_111 : decode cX11_tellTosser 111 = .ok (.ireturn, 1) := by decide +kernel
theorem dX11_tosser_0 : decode cX11_tosser 0 = .ok (.aload_n 0, 1) := by decide +kernel
theorem dX11_tosser_1 : decode cX11_tosser 1 = .ok (.iload_n 1, 1) := by decide +kernel
theorem dX11_tosser_2 : decode cX11_tosser 2 = .ok (.invokevirtual 163, 3) := by decide +kernel
theorem dX11_tosser_5 : decode cX11_tosser 5 = .ok (.ifCond .eq 12, 3) := by decide +kernel
theorem dX11_tosser_8 : decode cX11_tosser 8 = .ok (.aload_n 0, 1) := by decide +kernel
theorem dX11_tosser_9 : decode cX11_tosser 9 = .ok (.iload_n 1, 1) := by decide +kernel
theorem dX11_tosser_10 : decode cX11_tosser 10 = .ok (.iload_n 2, 1) := by decide +kernel
theorem dX11_tosser_11 : decode cX11_tosser 11 = .ok (.invokevirtual 206, 3) := by decide +kernel
theorem dX11_tosser_14 : decode cX11_tosser 14 = .ok (.goto 5, 3) := by decide +kernel
theorem dX11_tosser_17 : decode cX11_tosser 17 = .ok (.bipush (-101), 2) := by decide +kernel
theorem dX11_tosser_19 : decode cX11_tosser 19 = .ok (.ireturn, 1) := by decide +kernel
theorem dX11_as_0 : decode cX11_as 0 = .ok (.aload_n 0, 1) := by decide +kernel
theorem dX11_as_1 : decode cX11_as 1 = .ok (.iload_n 1, 1) := by decide +kernel
theorem dX11_as_2 : decode cX11_as 2 = .ok (.invokevirtual 163, 3) := by decide +kernel
theorem dX11_as_5 : decode cX11_as 5 = .ok (.ifCond .ne 6, 3) := by decide +kernel
theorem dX11_as_8 : decode cX11_as 8 = .ok (.bipush (-101), 2) := by decide +kernel
theorem dX11_as_10 : decode cX11_as 10 = .ok (.ireturn, 1) := by decide +kernel
theorem dX11_as_11 : decode cX11_as 11 = .ok (.iload_n 2, 1) := by decide +kernel
theorem dX11_as_12 : decode cX11_as 12 = .ok (.i2l, 1) := by decide +kernel
theorem dX11_as_13 : decode cX11_as 13 = .ok (.lconst 0, 1) := by decide +kernel
theorem dX11_as_14 : decode cX11_as 14 = .ok (.ldc2_w 209, 3) := by decide +kernel
theorem dX11_as_17 : decode cX11_as 17 = .ok (.invokestatic 79, 3) := by decide +kernel
theorem dX11_as_20 : decode cX11_as 20 = .ok (.ifCond .ne 6, 3) := by decide +kernel
theorem dX11_as_23 : decode cX11_as 23 = .ok (.bipush (-102), 2) := by decide +kernel
theorem dX11_as_25 : decode cX11_as 25 = .ok (.ireturn, 1) := by decide +kernel
theorem dX11_as_26 : decode cX11_as 26 = .ok (.iload_n 2, 1) := by decide +kernel
theorem dX11_as_27 : decode cX11_as 27 = .ok (.ifCond .eq 28, 3) := by decide +kernel
theorem dX11_as_30 : decode cX11_as 30 = .ok (.iload_n 2, 1) := by decide +kernel
theorem dX11_as_31 : decode cX11_as 31 = .ok (.aload_n 0, 1) := by decide +kernel
theorem dX11_as_32 : decode cX11_as 32 = .ok (.getfield 25, 3) := by decide +kernel
theorem dX11_as_35 : decode cX11_as 35 = .ok (.iload_n 1, 1) := by decide +kernel
theorem dX11_as_36 : decode cX11_as 36 = .ok (.iaload, 1) := by decide +kernel
theorem dX11_as_37 : decode cX11_as 37 = .ok (.if_icmp .eq 18, 3) := by decide +kernel
theorem dX11_as_40 : decode cX11_as 40 = .ok (.iload_n 2, 1) := by decide +kernel
theorem dX11_as_41 : decode cX11_as 41 = .ok (.iconst 2, 1) := by decide +kernel
theorem dX11_as_42 : decode cX11_as 42 = .ok (.if_icmp .ne 17, 3) := by decide +kernel
theorem dX11_as_45 : decode cX11_as 45 = .ok (.aload_n 0, 1) := by decide +kernel
theorem dX11_as_46 : decode cX11_as 46 = .ok (.getfield 25, 3) := by decide +kernel
theorem dX11_as_49 : decode cX11_as 49 = .ok (.iload_n 1, 1) := by decide +kernel
theorem dX11_as_50 : decode cX11_as 50 = .ok (.iaload, 1) := by decide +kernel
theorem dX11_as_51 : decode cX11_as 51 = .ok (.iconst 4, 1) := by decide +kernel
theorem dX11_as_52 : decode cX11_as 52 = .ok (.if_icmp .ne 7, 3) := by decide +kernel
theorem dX11_as_55 : decode cX11_as 55 = .ok (.iconst 1, 1) := by decide +kernel
theorem dX11_as_56 : decode cX11_as 56 = .ok (.goto 4, 3) := by decide +kernel
theorem dX11_as_59 : decode cX11_as 59 = .ok (.iconst 0, 1) := by decide +kernel
theorem dX11_as_60 : decode cX11_as 60 = .ok (.istore_n 3, 1) := by decide +kernel
theorem dX11_as_61 : decode cX11_as 61 = .ok (.iload_n 3, 1) := by decide +kernel
theorem dX11_as_62 : decode cX11_as 62 = .ok (.ifCond .eq 7, 3) := by decide +kernel
theorem dX11_as_65 : decode cX11_as 65 = .ok (.iload_n 1, 1) := by decide +kernel
theorem dX11_as_66 : decode cX11_as 66 = .ok (.goto 4, 3) := by decide +kernel
theorem dX11_as_69 : decode cX11_as 69 = .ok (.iconst (-1), 1) := by decide +kernel
theorem dX11_as_70 : decode cX11_as 70 = .ok (.ireturn, 1) := by decide +kernel
theorem dX11_toss_0 : decode cX11_toss 0 = .ok (.aload_n 0, 1) := by decide +kernel
theorem dX11_toss_1 : decode cX11_toss 1 = .ok (.iload_n 1, 1) := by decide +kernel
theorem dX11_toss_2 : decode cX11_toss 2 = .ok (.invokevirtual 163, 3) := by decide +kernel
theorem dX11_toss_5 : decode cX11_toss 5 = .ok (.ifCond .eq 10, 3) := by decide +kernel
theorem dX11_toss_8 : decode cX11_toss 8 = .ok (.iload_n 2, 1) := by decide +kernel
theorem dX11_toss_9 : decode cX11_toss 9 = .ok (.invokestatic 166, 3) := by decide +kernel
theorem dX11_toss_12 : decode cX11_toss 12 = .ok (.ifCond .ne 6, 3) := by decide +kernel
theorem dX11_toss_15 : decode cX11_toss 15 = .ok (.bipush (-101), 2) := by decide +kernel
theorem dX11_toss_17 : decode cX11_toss 17 = .ok (.ireturn, 1) := by decide +kernel
theorem dX11_toss_18 : decode cX11_toss 18 = .ok (.aload_n 0, 1) := by decide +kernel
theorem dX11_toss_19 : decode cX11_toss 19 = .ok (.getfield 125, 3) := by decide +kernel
theorem dX11_toss_22 : decode cX11_toss 22 = .ok (.aload_n 0, 1) := by decide +kernel
theorem dX11_toss_23 : decode cX11_toss 23 = .ok (.getfield 25, 3) := by decide +kernel
theorem dX11_toss_26 : decode cX11_toss 26 = .ok (.iload_n 1, 1) := by decide +kernel
theorem dX11_toss_27 : decode cX11_toss 27 = .ok (.iaload, 1) := by decide +kernel
theorem dX11_toss_28 : decode cX11_toss 28 = .ok (.invokestatic 194, 3) := by decide +kernel
theorem dX11_toss_31 : decode cX11_toss 31 = .ok (.if_icmp .ge 6, 3) := by decide +kernel
theorem dX11_toss_34 : decode cX11_toss 34 = .ok (.bipush (-103), 2) := by decide +kernel
theorem dX11_toss_36 : decode cX11_toss 36 = .ok (.ireturn, 1) := by decide +kernel
theorem dX11_toss_37 : decode cX11_toss 37 = .ok (.aload_n 0, 1) := by decide +kernel
theorem dX11_toss_38 : decode cX11_toss 38 = .ok (.getfield 131, 3) := by decide +kernel
theorem dX11_toss_41 : decode cX11_toss 41 = .ok (.sipush 999, 3) := by decide +kernel
theorem dX11_toss_44 : decode cX11_toss 44 = .ok (.if_icmp .ne 6, 3) := by decide +kernel
theorem dX11_toss_47 : decode cX11_toss 47 = .ok (.bipush (-104), 2) := by decide +kernel
theorem dX11_toss_49 : decode cX11_toss 49 = .ok (.ireturn, 1) := by decide +kernel
theorem dX11_toss_50 : decode cX11_toss 50 = .ok (.aload_n 0, 1) := by decide +kernel
theorem dX11_toss_51 : decode cX11_toss 51 = .ok (.iload_n 1, 1) := by decide +kernel
theorem dX11_toss_52 : decode cX11_toss 52 = .ok (.iload_n 2, 1) := by decide +kernel
theorem dX11_toss_53 : decode cX11_toss 53 = .ok (.aload_n 0, 1) := by decide +kernel
theorem dX11_toss_54 : decode cX11_toss 54 = .ok (.getfield 122, 3) := by decide +kernel
theorem dX11_toss_57 : decode cX11_toss 57 = .ok (.invokevirtual 169, 3) := by decide +kernel
theorem dX11_toss_60 : decode cX11_toss 60 = .ok (.aload_n 0, 1) := by decide +kernel
theorem dX11_toss_61 : decode cX11_toss 61 = .ok (.invokevirtual 188, 3) := by decide +kernel
theorem dX11_toss_64 : decode cX11_toss 64 = .ok (.iand, 1) := by decide +kernel
theorem dX11_toss_65 : decode cX11_toss 65 = .ok (.istore_n 3, 1) := by decide +kernel
theorem dX11_toss_66 : decode cX11_toss 66 = .ok (.iconst 0, 1) := by decide +kernel
theorem dX11_toss_67 : decode cX11_toss 67 = .ok (.istore 4, 2) := by decide +kernel
theorem dX11_toss_69 : decode cX11_toss 69 = .ok (.iload 4, 2) := by decide +kernel
theorem dX11_toss_71 : decode cX11_toss 71 = .ok (.aload_n 0, 1) := by decide +kernel
theorem dX11_toss_72 : decode cX11_toss 72 = .ok (.getfield 116, 3) := by decide +kernel
theorem dX11_toss_75 : decode cX11_toss 75 = .ok (.if_icmp .ge 25, 3) := by decide +kernel
theorem dX11_toss_78 : decode cX11_toss 78 = .ok (.aload_n 0, 1) := by decide +kernel
theorem dX11_toss_79 : decode cX11_toss 79 = .ok (.getfield 16, 3) := by decide +kernel
theorem dX11_toss_82 : decode cX11_toss 82 = .ok (.iload 4, 2) := by decide +kernel
theorem dX11_toss_84 : decode cX11_toss 84 = .ok (.dup2, 1) := by decide +kernel
theorem dX11_toss_85 : decode cX11_toss 85 = .ok (.iaload, 1) := by decide +kernel
theorem dX11_toss_86 : decode cX11_toss 86 = .ok (.iload_n 3, 1) := by decide +kernel
theorem dX11_toss_87 : decode cX11_toss 87 = .ok (.iload 4, 2) := by decide +kernel
theorem dX11_toss_89 : decode cX11_toss 89 = .ok (.ishr, 1) := by decide +kernel
theorem dX11_toss_90 : decode cX11_toss 90 = .ok (.iconst 1, 1) := by decide +kernel
theorem dX11_toss_91 : decode cX11_toss 91 = .ok (.iand, 1) := by decide +kernel
theorem dX11_toss_92 : decode cX11_toss 92 = .ok (.ior, 1) := by decide +kernel
theorem dX11_toss_93 : decode cX11_toss 93 = .ok (.iastore, 1) := by decide +kernel
theorem dX11_toss_94 : decode cX11_toss 94 = .ok (.iinc 4 1, 3) := by decide +kernel
theorem dX11_toss_97 : decode cX11_toss 97 = .ok (.goto (-28), 3) := by decide +kernel
theorem dX11_toss_100 : decode cX11_toss 100 = .ok (.aload_n 0, 1) := by decide +kernel
theorem dX11_toss_101 : decode cX11_toss 101 = .ok (.dup, 1) := by decide +kernel
theorem dX11_toss_102 : decode cX11_toss 102 = .ok (.getfield 125, 3) := by decide +kernel
theorem dX11_toss_105 : decode cX11_toss 105 = .ok (.aload_n 0, 1) := by decide +kernel
theorem dX11_toss_106 : decode cX11_toss 106 = .ok (.getfield 25, 3) := by decide +kernel
theorem dX11_toss_109 : decode cX11_toss 109 = .ok (.iload_n 1, 1) := by decide +kernel
theorem dX11_toss_110 : decode cX11_toss 110 = .ok (.iaload, 1) := by decide +kernel
theorem dX11_toss_111 : decode cX11_toss 111 = .ok (.invokestatic 194, 3) := by decide +kernel
theorem dX11_toss_114 : decode cX11_toss 114 = .ok (.isub, 1) := by decide +kernel
theorem dX11_toss_115 : decode cX11_toss 115 = .ok (.putfield 125, 3) := by decide +kernel
theorem dX11_toss_118 : decode cX11_toss 118 = .ok (.aload_n 0, 1) := by decide +kernel
theorem dX11_toss_119 : decode cX11_toss 119 = .ok (.dup, 1) := by decide +kernel
theorem dX11_toss_120 : decode cX11_toss 120 = .ok (.getfield 131, 3) := by decide +kernel
theorem dX11_toss_123 : decode cX11_toss 123 = .ok (.iconst 1, 1) := by decide +kernel
theorem dX11_toss_124 : decode cX11_toss 124 = .ok (.iadd, 1) := by decide +kernel
theorem dX11_toss_125 : decode cX11_toss 125 = .ok (.putfield 131, 3) := by decide +kernel
theorem dX11_toss_128 : decode cX11_toss 128 = .ok (.aload_n 0, 1) := by decide +kernel
theorem dX11_toss_129 : decode cX11_toss 129 = .ok (.getfield 34, 3) := by decide +kernel
theorem dX11_toss_132 : decode cX11_toss 132 = .ok (.iload_n 1, 1) := by decide +kernel
theorem dX11_toss_133 : decode cX11_toss 133 = .ok (.dup2, 1) := by decide +kernel
theorem dX11_toss_134 : decode cX11_toss 134 = .ok (.iaload, 1) := by decide +kernel
theorem dX11_toss_135 : decode cX11_toss 135 = .ok (.iconst 1, 1) := by decide +kernel
theorem dX11_toss_136 : decode cX11_toss 136 = .ok (.iadd, 1) := by decide +kernel
theorem dX11_toss_137 : decode cX11_toss 137 = .ok (.iastore, 1) := by decide +kernel
theorem dX11_toss_138 : decode cX11_toss 138 = .ok (.iload_n 3, 1) := by decide +kernel
theorem dX11_toss_139 : decode cX11_toss 139 = .ok (.invokestatic 191, 3) := by decide +kernel
theorem dX11_toss_142 : decode cX11_toss 142 = .ok (.ireturn, 1) := by decide +kernel
theorem dX11_wind_0 : decode cX11_wind 0 = .ok (.iload_n 1, 1) := by decide +kernel
theorem dX11_wind_1 : decode cX11_wind 1 = .ok (.i2l, 1) := by decide +kernel
theorem dX11_wind_2 : decode cX11_wind 2 = .ok (.ldc2_w 211, 3) := by decide +kernel
theorem dX11_wind_5 : decode cX11_wind 5 = .ok (.lconst 1, 1) := by decide +kernel
theorem dX11_wind_6 : decode cX11_wind 6 = .ok (.invokestatic 79, 3) := by decide +kernel
theorem dX11_wind_9 : decode cX11_wind 9 = .ok (.ifCond .ne 6, 3) := by decide +kernel
theorem dX11_wind_12 : decode cX11_wind 12 = .ok (.bipush (-102), 2) := by decide +kernel
theorem dX11_wind_14 : decode cX11_wind 14 = .ok (.ireturn, 1) := by decide +kernel
theorem dX11_wind_15 : decode cX11_wind 15 = .ok (.aload_n 0, 1) := by decide +kernel
theorem dX11_wind_16 : decode cX11_wind 16 = .ok (.invokevirtual 213, 3) := by decide +kernel
theorem dX11_wind_19 : decode cX11_wind 19 = .ok (.ifCond .eq 6, 3) := by decide +kernel
theorem dX11_wind_22 : decode cX11_wind 22 = .ok (.bipush (-103), 2) := by decide +kernel
theorem dX11_wind_24 : decode cX11_wind 24 = .ok (.ireturn, 1) := by decide +kernel
theorem dX11_wind_25 : decode cX11_wind 25 = .ok (.aload_n 0, 1) := by decide +kernel
theorem dX11_wind_26 : decode cX11_wind 26 = .ok (.getfield 122, 3) := by decide +kernel
theorem dX11_wind_29 : decode cX11_wind 29 = .ok (.istore_n 2, 1) := by decide +kernel
theorem dX11_wind_30 : decode cX11_wind 30 = .ok (.aload_n 0, 1) := by decide +kernel
theorem dX11_wind_31 : decode cX11_wind 31 = .ok (.iload_n 1, 1) := by decide +kernel
theorem dX11_wind_32 : decode cX11_wind 32 = .ok (.putfield 122, 3) := by decide +kernel
theorem dX11_wind_35 : decode cX11_wind 35 = .ok (.iload_n 2, 1) := by decide +kernel
theorem dX11_wind_36 : decode cX11_wind 36 = .ok (.iconst 1, 1) := by decide +kernel
theorem dX11_wind_37 : decode cX11_wind 37 = .ok (.iadd, 1) := by decide +kernel
theorem dX11_wind_38 : decode cX11_wind 38 = .ok (.ireturn, 1) := by decide +kernel
theorem dX11_morning_0 : decode cX11_morning 0 = .ok (.aload_n 0, 1) := by decide +kernel
theorem dX11_morning_1 : decode cX11_morning 1 = .ok (.invokevirtual 213, 3) := by decide +kernel
theorem dX11_morning_4 : decode cX11_morning 4 = .ok (.ifCond .eq 6, 3) := by decide +kernel
theorem dX11_morning_7 : decode cX11_morning 7 = .ok (.bipush (-103), 2) := by decide +kernel
theorem dX11_morning_9 : decode cX11_morning 9 = .ok (.ireturn, 1) := by decide +kernel
theorem dX11_morning_10 : decode cX11_morning 10 = .ok (.aload_n 0, 1) := by decide +kernel
theorem dX11_morning_11 : decode cX11_morning 11 = .ok (.getfield 128, 3) := by decide +kernel
theorem dX11_morning_14 : decode cX11_morning 14 = .ok (.sipush 999, 3) := by decide +kernel
theorem dX11_morning_17 : decode cX11_morning 17 = .ok (.if_icmp .ne 6, 3) := by decide +kernel
theorem dX11_morning_20 : decode cX11_morning 20 = .ok (.bipush (-104), 2) := by decide +kernel
theorem dX11_morning_22 : decode cX11_morning 22 = .ok (.ireturn, 1) := by decide +kernel
theorem dX11_morning_23 : decode cX11_morning 23 = .ok (.iconst 0, 1) := by decide +kernel
theorem dX11_morning_24 : decode cX11_morning 24 = .ok (.istore_n 1, 1) := by decide +kernel
theorem dX11_morning_25 : decode cX11_morning 25 = .ok (.iconst 0, 1) := by decide +kernel
theorem dX11_morning_26 : decode cX11_morning 26 = .ok (.istore_n 2, 1) := by decide +kernel
theorem dX11_morning_27 : decode cX11_morning 27 = .ok (.iload_n 2, 1) := by decide +kernel
theorem dX11_morning_28 : decode cX11_morning 28 = .ok (.aload_n 0, 1) := by decide +kernel
theorem dX11_morning_29 : decode cX11_morning 29 = .ok (.getfield 116, 3) := by decide +kernel
theorem dX11_morning_32 : decode cX11_morning 32 = .ok (.if_icmp .ge 57, 3) := by decide +kernel
theorem dX11_morning_35 : decode cX11_morning 35 = .ok (.aload_n 0, 1) := by decide +kernel
theorem dX11_morning_36 : decode cX11_morning 36 = .ok (.getfield 19, 3) := by decide +kernel
theorem dX11_morning_39 : decode cX11_morning 39 = .ok (.iload_n 2, 1) := by decide +kernel
theorem dX11_morning_40 : decode cX11_morning 40 = .ok (.dup2, 1) := by decide +kernel
theorem dX11_morning_41 : decode cX11_morning 41 = .ok (.iaload, 1) := by decide +kernel
theorem dX11_morning_42 : decode cX11_morning 42 = .ok (.aload_n 0, 1) := by decide +kernel
theorem dX11_morning_43 : decode cX11_morning 43 = .ok (.getfield 16, 3) := by decide +kernel
theorem dX11_morning_46 : decode cX11_morning 46 = .ok (.iload_n 2, 1) := by decide +kernel
theorem dX11_morning_47 : decode cX11_morning 47 = .ok (.iaload, 1) := by decide +kernel
theorem dX11_morning_48 : decode cX11_morning 48 = .ok (.iadd, 1) := by decide +kernel
theorem dX11_morning_49 : decode cX11_morning 49 = .ok (.iastore, 1) := by decide +kernel
theorem dX11_morning_50 : decode cX11_morning 50 = .ok (.aload_n 0, 1) := by decide +kernel
theorem dX11_morning_51 : decode cX11_morning 51 = .ok (.getfield 22, 3) := by decide +kernel
theorem dX11_morning_54 : decode cX11_morning 54 = .ok (.iload_n 2, 1) := by decide +kernel
theorem dX11_morning_55 : decode cX11_morning 55 = .ok (.dup2, 1) := by decide +kernel
theorem dX11_morning_56 : decode cX11_morning 56 = .ok (.iaload, 1) := by decide +kernel
theorem dX11_morning_57 : decode cX11_morning 57 = .ok (.iconst 1, 1) := by decide +kernel
theorem dX11_morning_58 : decode cX11_morning 58 = .ok (.aload_n 0, 1) := by decide +kernel
theorem dX11_morning_59 : decode cX11_morning 59 = .ok (.getfield 16, 3) := by decide +kernel
theorem dX11_morning_62 : decode cX11_morning 62 = .ok (.iload_n 2, 1) := by decide +kernel
theorem dX11_morning_63 : decode cX11_morning 63 = .ok (.iaload, 1) := by decide +kernel
theorem dX11_morning_64 : decode cX11_morning 64 = .ok (.isub, 1) := by decide +kernel
theorem dX11_morning_65 : decode cX11_morning 65 = .ok (.iadd, 1) := by decide +kernel
theorem dX11_morning_66 : decode cX11_morning 66 = .ok (.iastore, 1) := by decide +kernel
theorem dX11_morning_67 : decode cX11_morning 67 = .ok (.iload_n 1, 1) := by decide +kernel
theorem dX11_morning_68 : decode cX11_morning 68 = .ok (.aload_n 0, 1) := by decide +kernel
theorem dX11_morning_69 : decode cX11_morning 69 = .ok (.getfield 16, 3) := by decide +kernel
theorem dX11_morning_72 : decode cX11_morning 72 = .ok (.iload_n 2, 1) := by decide +kernel
theorem dX11_morning_73 : decode cX11_morning 73 = .ok (.iaload, 1) := by decide +kernel
theorem dX11_morning_74 : decode cX11_morning 74 = .ok (.iadd, 1) := by decide +kernel
theorem dX11_morning_75 : decode cX11_morning 75 = .ok (.istore_n 1, 1) := by decide +kernel
theorem dX11_morning_76 : decode cX11_morning 76 = .ok (.aload_n 0, 1) := by decide +kernel
theorem dX11_morning_77 : decode cX11_morning 77 = .ok (.getfield 16, 3) := by decide +kernel
theorem dX11_morning_80 : decode cX11_morning 80 = .ok (.iload_n 2, 1) := by decide +kernel
theorem dX11_morning_81 : decode cX11_morning 81 = .ok (.iconst 0, 1) := by decide +kernel
theorem dX11_morning_82 : decode cX11_morning 82 = .ok (.iastore, 1) := by decide +kernel
theorem dX11_morning_83 : decode cX11_morning 83 = .ok (.iinc 2 1, 3) := by decide +kernel
theorem dX11_morning_86 : decode cX11_morning 86 = .ok (.goto (-59), 3) := by decide +kernel
theorem dX11_morning_89 : decode cX11_morning 89 = .ok (.aload_n 0, 1) := by decide +kernel
theorem dX11_morning_90 : decode cX11_morning 90 = .ok (.dup, 1) := by decide +kernel
theorem dX11_morning_91 : decode cX11_morning 91 = .ok (.getfield 128, 3) := by decide +kernel
theorem dX11_morning_94 : decode cX11_morning 94 = .ok (.iconst 1, 1) := by decide +kernel
theorem dX11_morning_95 : decode cX11_morning 95 = .ok (.iadd, 1) := by decide +kernel
theorem dX11_morning_96 : decode cX11_morning 96 = .ok (.putfield 128, 3) := by decide +kernel
theorem dX11_morning_99 : decode cX11_morning 99 = .ok (.iload_n 1, 1) := by decide +kernel
theorem dX11_morning_100 : decode cX11_morning 100 = .ok (.ireturn, 1) := by decide +kernel
theorem dX11_move_0 : decode cX11_move 0 = .ok (.aload_n 0, 1) := by decide +kernel
theorem dX11_move_1 : decode cX11_move 1 = .ok (.iload_n 1, 1) := by decide +kernel
theorem dX11_move_2 : decode cX11_move 2 = .ok (.invokevirtual 182, 3) := by decide +kernel
theorem dX11_move_5 : decode cX11_move 5 = .ok (.ifCond .eq 10, 3) := by decide +kernel
theorem dX11_move_8 : decode cX11_move 8 = .ok (.iload_n 2, 1) := by decide +kernel
theorem dX11_move_9 : decode cX11_move 9 = .ok (.invokestatic 166, 3) := by decide +kernel
theorem dX11_move_12 : decode cX11_move 12 = .ok (.ifCond .ne 6, 3) := by decide +kernel
theorem dX11_move_15 : decode cX11_move 15 = .ok (.bipush (-101), 2) := by decide +kernel
theorem dX11_move_17 : decode cX11_move 17 = .ok (.ireturn, 1) := by decide +kernel
theorem dX11_move_18 : decode cX11_move 18 = .ok (.aload_n 0, 1) := by decide +kernel
theorem dX11_move_19 : decode cX11_move 19 = .ok (.iload_n 1, 1) := by decide +kernel
theorem dX11_move_20 : decode cX11_move 20 = .ok (.iload_n 2, 1) := by decide +kernel
theorem dX11_move_21 : decode cX11_move 21 = .ok (.invokevirtual 172, 3) := by decide +kernel
theorem dX11_move_24 : decode cX11_move 24 = .ok (.ifCond .ne 6, 3) := by decide +kernel
theorem dX11_move_27 : decode cX11_move 27 = .ok (.bipush (-103), 2) := by decide +kernel
theorem dX11_move_29 : decode cX11_move 29 = .ok (.ireturn, 1) := by decide +kernel
theorem dX11_move_30 : decode cX11_move 30 = .ok (.aload_n 0, 1) := by decide +kernel
theorem dX11_move_31 : decode cX11_move 31 = .ok (.getfield 13, 3) := by decide +kernel
theorem dX11_move_34 : decode cX11_move 34 = .ok (.iload_n 1, 1) := by decide +kernel
theorem dX11_move_35 : decode cX11_move 35 = .ok (.iaload, 1) := by decide +kernel
theorem dX11_move_36 : decode cX11_move 36 = .ok (.istore_n 3, 1) := by decide +kernel
theorem dX11_move_37 : decode cX11_move 37 = .ok (.aload_n 0, 1) := by decide +kernel
theorem dX11_move_38 : decode cX11_move 38 = .ok (.getfield 13, 3) := by decide +kernel
theorem dX11_move_41 : decode cX11_move 41 = .ok (.iload_n 1, 1) := by decide +kernel
theorem dX11_move_42 : decode cX11_move 42 = .ok (.iload_n 2, 1) := by decide +kernel
theorem dX11_move_43 : decode cX11_move 43 = .ok (.iastore, 1) := by decide +kernel
theorem dX11_move_44 : decode cX11_move 44 = .ok (.aload_n 0, 1) := by decide +kernel
theorem dX11_move_45 : decode cX11_move 45 = .ok (.getfield 16, 3) := by decide +kernel
theorem dX11_move_48 : decode cX11_move 48 = .ok (.iload_n 1, 1) := by decide +kernel
theorem dX11_move_49 : decode cX11_move 49 = .ok (.iconst 0, 1) := by decide +kernel
theorem dX11_move_50 : decode cX11_move 50 = .ok (.iastore, 1) := by decide +kernel
theorem dX11_move_51 : decode cX11_move 51 = .ok (.iload_n 3, 1) := by decide +kernel
theorem dX11_move_52 : decode cX11_move 52 = .ok (.ireturn, 1) := by decide +kernel
theorem dX11_train_0 : decode cX11_train 0 = .ok (.aload_n 0, 1) := by decide +kernel
theorem dX11_train_1 : decode cX11_train 1 = .ok (.iload_n 1, 1) := by decide +kernel
theorem dX11_train_2 : decode cX11_train 2 = .ok (.invokevirtual 163, 3) := by decide +kernel
theorem dX11_train_5 : decode cX11_train 5 = .ok (.ifCond .ne 6, 3) := by decide +kernel
theorem dX11_train_8 : decode cX11_train 8 = .ok (.bipush (-101), 2) := by decide +kernel
theorem dX11_train_10 : decode cX11_train 10 = .ok (.ireturn, 1) := by decide +kernel
theorem dX11_train_11 : decode cX11_train 11 = .ok (.iload_n 2, 1) := by decide +kernel
theorem dX11_train_12 : decode cX11_train 12 = .ok (.i2l, 1) := by decide +kernel
theorem dX11_train_13 : decode cX11_train 13 = .ok (.lconst 0, 1) := by decide +kernel
theorem dX11_train_14 : decode cX11_train 14 = .ok (.ldc2_w 209, 3) := by decide +kernel
theorem dX11_train_17 : decode cX11_train 17 = .ok (.invokestatic 79, 3) := by decide +kernel
theorem dX11_train_20 : decode cX11_train 20 = .ok (.ifCond .eq 15, 3) := by decide +kernel
theorem dX11_train_23 : decode cX11_train 23 = .ok (.iload_n 3, 1) := by decide +kernel
theorem dX11_train_24 : decode cX11_train 24 = .ok (.i2l, 1) := by decide +kernel
theorem dX11_train_25 : decode cX11_train 25 = .ok (.lconst 0, 1) := by decide +kernel
theorem dX11_train_26 : decode cX11_train 26 = .ok (.ldc2_w 209, 3) := by decide +kernel
theorem dX11_train_29 : decode cX11_train 29 = .ok (.invokestatic 79, 3) := by decide +kernel
theorem dX11_train_32 : decode cX11_train 32 = .ok (.ifCond .ne 6, 3) := by decide +kernel
theorem dX11_train_35 : decode cX11_train 35 = .ok (.bipush (-102), 2) := by decide +kernel
theorem dX11_train_37 : decode cX11_train 37 = .ok (.ireturn, 1) := by decide +kernel
theorem dX11_train_38 : decode cX11_train 38 = .ok (.aload_n 0, 1) := by decide +kernel
theorem dX11_train_39 : decode cX11_train 39 = .ok (.getfield 31, 3) := by decide +kernel
theorem dX11_train_42 : decode cX11_train 42 = .ok (.iload_n 1, 1) := by decide +kernel
theorem dX11_train_43 : decode cX11_train 43 = .ok (.iaload, 1) := by decide +kernel
theorem dX11_train_44 : decode cX11_train 44 = .ok (.istore 4, 2) := by decide +kernel
theorem dX11_train_46 : decode cX11_train 46 = .ok (.aload_n 0, 1) := by decide +kernel
theorem dX11_train_47 : decode cX11_train 47 = .ok (.getfield 28, 3) := by decide +kernel
theorem dX11_train_50 : decode cX11_train 50 = .ok (.iload_n 1, 1) := by decide +kernel
theorem dX11_train_51 : decode cX11_train 51 = .ok (.iload_n 2, 1) := by decide +kernel
theorem dX11_train_52 : decode cX11_train 52 = .ok (.iastore, 1) := by decide +kernel
theorem dX11_train_53 : decode cX11_train 53 = .ok (.aload_n 0, 1) := by decide +kernel
theorem dX11_train_54 : decode cX11_train 54 = .ok (.getfield 31, 3) := by decide +kernel
theorem dX11_train_57 : decode cX11_train 57 = .ok (.iload_n 1, 1) := by decide +kernel
theorem dX11_train_58 : decode cX11_train 58 = .ok (.iload_n 3, 1) := by decide +kernel
theorem dX11_train_59 : decode cX11_train 59 = .ok (.iastore, 1) := by decide +kernel
theorem dX11_train_60 : decode cX11_train 60 = .ok (.iload 4, 2) := by decide +kernel
theorem dX11_train_62 : decode cX11_train 62 = .ok (.ireturn, 1) := by decide +kernel
theorem dX11_stir_0 : decode cX11_stir 0 = .ok (.iload_n 1, 1) := by decide +kernel
theorem dX11_stir_1 : decode cX11_stir 1 = .ok (.i2l, 1) := by decide +kernel
theorem dX11_stir_2 : decode cX11_stir 2 = .ok (.lconst 1, 1) := by decide +kernel
theorem dX11_stir_3 : decode cX11_stir 3 = .ok (.ldc2_w 217, 3) := by decide +kernel
theorem dX11_stir_6 : decode cX11_stir 6 = .ok (.invokestatic 79, 3) := by decide +kernel
theorem dX11_stir_9 : decode cX11_stir 9 = .ok (.ifCond .ne 6, 3) := by decide +kernel
theorem dX11_stir_12 : decode cX11_stir 12 = .ok (.bipush (-102), 2) := by decide +kernel
theorem dX11_stir_14 : decode cX11_stir 14 = .ok (.ireturn, 1) := by decide +kernel
theorem dX11_stir_15 : decode cX11_stir 15 = .ok (.aload_n 0, 1) := by decide +kernel
theorem dX11_stir_16 : decode cX11_stir 16 = .ok (.invokevirtual 213, 3) := by decide +kernel
theorem dX11_stir_19 : decode cX11_stir 19 = .ok (.ifCond .eq 6, 3) := by decide +kernel
theorem dX11_stir_22 : decode cX11_stir 22 = .ok (.bipush (-103), 2) := by decide +kernel
theorem dX11_stir_24 : decode cX11_stir 24 = .ok (.ireturn, 1) := by decide +kernel
theorem dX11_stir_25 : decode cX11_stir 25 = .ok (.aload_n 0, 1) := by decide +kernel
theorem dX11_stir_26 : decode cX11_stir 26 = .ok (.getfield 125, 3) := by decide +kernel
theorem dX11_stir_29 : decode cX11_stir 29 = .ok (.iload_n 1, 1) := by decide +kernel
theorem dX11_stir_30 : decode cX11_stir 30 = .ok (.iadd, 1) := by decide +kernel
theorem dX11_stir_31 : decode cX11_stir 31 = .ok (.bipush 99, 2) := by decide +kernel
theorem dX11_stir_33 : decode cX11_stir 33 = .ok (.if_icmp .le 6, 3) := by decide +kernel
theorem dX11_stir_36 : decode cX11_stir 36 = .ok (.bipush (-104), 2) := by decide +kernel
theorem dX11_stir_38 : decode cX11_stir 38 = .ok (.ireturn, 1) := by decide +kernel
theorem dX11_stir_39 : decode cX11_stir 39 = .ok (.aload_n 0, 1) := by decide +kernel
theorem dX11_stir_40 : decode cX11_stir 40 = .ok (.dup, 1) := by decide +kernel
theorem dX11_stir_41 : decode cX11_stir 41 = .ok (.getfield 125, 3) := by decide +kernel
theorem dX11_stir_44 : decode cX11_stir 44 = .ok (.iload_n 1, 1) := by decide +kernel
theorem dX11_stir_45 : decode cX11_stir 45 = .ok (.iadd, 1) := by decide +kernel
theorem dX11_stir_46 : decode cX11_stir 46 = .ok (.putfield 125, 3) := by decide +kernel
theorem dX11_stir_49 : decode cX11_stir 49 = .ok (.aload_n 0, 1) := by decide +kernel
theorem dX11_stir_50 : decode cX11_stir 50 = .ok (.getfield 125, 3) := by decide +kernel
theorem dX11_stir_53 : decode cX11_stir 53 = .ok (.ireturn, 1) := by decide +kernel
theorem dX11_priceOf_0 : decode cX11_priceOf 0 = .ok (.bipush 100, 2) := by decide +kernel
theorem dX11_priceOf_2 : decode cX11_priceOf 2 = .ok (.aload_n 0, 1) := by decide +kernel
theorem dX11_priceOf_3 : decode cX11_priceOf 3 = .ok (.getfield 25, 3) := by decide +kernel
theorem dX11_priceOf_6 : decode cX11_priceOf 6 = .ok (.iload_n 1, 1) := by decide +kernel
theorem dX11_priceOf_7 : decode cX11_priceOf 7 = .ok (.bipush 36, 2) := by decide +kernel
theorem dX11_priceOf_9 : decode cX11_priceOf 9 = .ok (.idiv, 1) := by decide +kernel
theorem dX11_priceOf_10 : decode cX11_priceOf 10 = .ok (.iaload, 1) := by decide +kernel
theorem dX11_priceOf_11 : decode cX11_priceOf 11 = .ok (.invokestatic 194, 3) := by decide +kernel
theorem dX11_priceOf_14 : decode cX11_priceOf 14 = .ok (.imul, 1) := by decide +kernel
theorem dX11_priceOf_15 : decode cX11_priceOf 15 = .ok (.iconst 1, 1) := by decide +kernel
theorem dX11_priceOf_16 : decode cX11_priceOf 16 = .ok (.iadd, 1) := by decide +kernel
theorem dX11_priceOf_17 : decode cX11_priceOf 17 = .ok (.ireturn, 1) := by decide +kernel
theorem dX11_layLeast_0 : decode cX11_layLeast 0 = .ok (.bipush 36, 2) := by decide +kernel
theorem dX11_layLeast_2 : decode cX11_layLeast 2 = .ok (.aload_n 0, 1) := by decide +kernel
theorem dX11_layLeast_3 : decode cX11_layLeast 3 = .ok (.getfield 119, 3) := by decide +kernel
theorem dX11_layLeast_6 : decode cX11_layLeast 6 = .ok (.imul, 1) := by decide +kernel
theorem dX11_layLeast_7 : decode cX11_layLeast 7 = .ok (.istore_n 1, 1) := by decide +kernel
theorem dX11_layLeast_8 : decode cX11_layLeast 8 = .ok (.iconst 0, 1) := by decide +kernel
theorem dX11_layLeast_9 : decode cX11_layLeast 9 = .ok (.istore_n 2, 1) := by decide +kernel
theorem dX11_layLeast_10 : decode cX11_layLeast 10 = .ok (.iload_n 2, 1) := by decide +kernel
theorem dX11_layLeast_11 : decode cX11_layLeast 11 = .ok (.bipush 64, 2) := by decide +kernel
theorem dX11_layLeast_13 : decode cX11_layLeast 13 = .ok (.if_icmp .ge 30, 3) := by decide +kernel
theorem dX11_layLeast_16 : decode cX11_layLeast 16 = .ok (.aload_n 0, 1) := by decide +kernel
theorem dX11_layLeast_17 : decode cX11_layLeast 17 = .ok (.getfield 40, 3) := by decide +kernel
theorem dX11_layLeast_20 : decode cX11_layLeast 20 = .ok (.bipush 64, 2) := by decide +kernel
theorem dX11_layLeast_22 : decode cX11_layLeast 22 = .ok (.iload_n 1, 1) := by decide +kernel
theorem dX11_layLeast_23 : decode cX11_layLeast 23 = .ok (.imul, 1) := by decide +kernel
theorem dX11_layLeast_24 : decode cX11_layLeast 24 = .ok (.iload_n 2, 1) := by decide +kernel
theorem dX11_layLeast_25 : decode cX11_layLeast 25 = .ok (.iadd, 1) := by decide +kernel
theorem dX11_layLeast_26 : decode cX11_layLeast 26 = .ok (.iload_n 2, 1) := by decide +kernel
theorem dX11_layLeast_27 : decode cX11_layLeast 27 = .ok (.ifCond .ne 7, 3) := by decide +kernel
theorem dX11_layLeast_30 : decode cX11_layLeast 30 = .ok (.iconst 0, 1) := by decide +kernel
theorem dX11_layLeast_31 : decode cX11_layLeast 31 = .ok (.goto 5, 3) := by decide +kernel
theorem dX11_layLeast_34 : decode cX11_layLeast 34 = .ok (.ldc 219, 2) := by decide +kernel
theorem dX11_layLeast_36 : decode cX11_layLeast 36 = .ok (.iastore, 1) := by decide +kernel
theorem dX11_layLeast_37 : decode cX11_layLeast 37 = .ok (.iinc 2 1, 3) := by decide +kernel
theorem dX11_layLeast_40 : decode cX11_layLeast 40 = .ok (.goto (-30), 3) := by decide +kernel
theorem dX11_layLeast_43 : decode cX11_layLeast 43 = .ok (.iload_n 1, 1) := by decide +kernel
theorem dX11_layLeast_44 : decode cX11_layLeast 44 = .ok (.iconst 1, 1) := by decide +kernel
theorem dX11_layLeast_45 : decode cX11_layLeast 45 = .ok (.isub, 1) := by decide +kernel
theorem dX11_layLeast_46 : decode cX11_layLeast 46 = .ok (.istore_n 2, 1) := by decide +kernel
theorem dX11_layLeast_47 : decode cX11_layLeast 47 = .ok (.iload_n 2, 1) := by decide +kernel
theorem dX11_layLeast_48 : decode cX11_layLeast 48 = .ok (.ifCond .lt 117, 3) := by decide +kernel
theorem dX11_layLeast_51 : decode cX11_layLeast 51 = .ok (.aload_n 0, 1) := by decide +kernel
theorem dX11_layLeast_52 : decode cX11_layLeast 52 = .ok (.getfield 37, 3) := by decide +kernel
theorem dX11_layLeast_55 : decode cX11_layLeast 55 = .ok (.iload_n 2, 1) := by decide +kernel
theorem dX11_layLeast_56 : decode cX11_layLeast 56 = .ok (.aload_n 0, 1) := by decide +kernel
theorem dX11_layLeast_57 : decode cX11_layLeast 57 = .ok (.iload_n 2, 1) := by decide +kernel
theorem dX11_layLeast_58 : decode cX11_layLeast 58 = .ok (.bipush 36, 2) := by decide +kernel
theorem dX11_layLeast_60 : decode cX11_layLeast 60 = .ok (.idiv, 1) := by decide +kernel
theorem dX11_layLeast_61 : decode cX11_layLeast 61 = .ok (.iload_n 2, 1) := by decide +kernel
theorem dX11_layLeast_62 : decode cX11_layLeast 62 = .ok (.bipush 36, 2) := by decide +kernel
theorem dX11_layLeast_64 : decode cX11_layLeast 64 = .ok (.irem, 1) := by decide +kernel
theorem dX11_layLeast_65 : decode cX11_layLeast 65 = .ok (.aload_n 0, 1) := by decide +kernel
theorem dX11_layLeast_66 : decode cX11_layLeast 66 = .ok (.getfield 122, 3) := by decide +kernel
theorem dX11_layLeast_69 : decode cX11_layLeast 69 = .ok (.invokevirtual 169, 3) := by decide +kernel
theorem dX11_layLeast_72 : decode cX11_layLeast 72 = .ok (.iastore, 1) := by decide +kernel
theorem dX11_layLeast_73 : decode cX11_layLeast 73 = .ok (.iconst 0, 1) := by decide +kernel
theorem dX11_layLeast_74 : decode cX11_layLeast 74 = .ok (.istore_n 3, 1) := by decide +kernel
theorem dX11_layLeast_75 : decode cX11_layLeast 75 = .ok (.iload_n 3, 1) := by decide +kernel
theorem dX11_layLeast_76 : decode cX11_layLeast 76 = .ok (.bipush 64, 2) := by decide +kernel
theorem dX11_layLeast_78 : decode cX11_layLeast 78 = .ok (.if_icmp .ge 81, 3) := by decide +kernel
theorem dX11_layLeast_81 : decode cX11_layLeast 81 = .ok (.aload_n 0, 1) := by decide +kernel
theorem dX11_layLeast_82 : decode cX11_layLeast 82 = .ok (.getfield 40, 3) := by decide +kernel
theorem dX11_layLeast_85 : decode cX11_layLeast 85 = .ok (.bipush 64, 2) := by decide +kernel
theorem dX11_layLeast_87 : decode cX11_layLeast 87 = .ok (.iload_n 2, 1) := by decide +kernel
theorem dX11_layLeast_88 : decode cX11_layLeast 88 = .ok (.imul, 1) := by decide +kernel
theorem dX11_layLeast_89 : decode cX11_layLeast 89 = .ok (.bipush 64, 2) := by decide +kernel
theorem dX11_layLeast_91 : decode cX11_layLeast 91 = .ok (.iadd, 1) := by decide +kernel
theorem dX11_layLeast_92 : decode cX11_layLeast 92 = .ok (.iload_n 3, 1) := by decide +kernel
theorem dX11_layLeast_93 : decode cX11_layLeast 93 = .ok (.iadd, 1) := by decide +kernel
theorem dX11_layLeast_94 : decode cX11_layLeast 94 = .ok (.iaload, 1) := by decide +kernel
theorem dX11_layLeast_95 : decode cX11_layLeast 95 = .ok (.istore 4, 2) := by decide +kernel
theorem dX11_layLeast_97 : decode cX11_layLeast 97 = .ok (.aload_n 0, 1) := by decide +kernel
theorem dX11_layLeast_98 : decode cX11_layLeast 98 = .ok (.iload_n 2, 1) := by decide +kernel
theorem dX11_layLeast_99 : decode cX11_layLeast 99 = .ok (.invokevirtual 220, 3) := by decide +kernel
theorem dX11_layLeast_102 : decode cX11_layLeast 102 = .ok (.aload_n 0, 1) := by decide +kernel
theorem dX11_layLeast_103 : decode cX11_layLeast 103 = .ok (.getfield 40, 3) := by decide +kernel
theorem dX11_layLeast_106 : decode cX11_layLeast 106 = .ok (.bipush 64, 2) := by decide +kernel
theorem dX11_layLeast_108 : decode cX11_layLeast 108 = .ok (.iload_n 2, 1) := by decide +kernel
theorem dX11_layLeast_109 : decode cX11_layLeast 109 = .ok (.imul, 1) := by decide +kernel
theorem dX11_layLeast_110 : decode cX11_layLeast 110 = .ok (.bipush 64, 2) := by decide +kernel
theorem dX11_layLeast_112 : decode cX11_layLeast 112 = .ok (.iadd, 1) := by decide +kernel
theorem dX11_layLeast_113 : decode cX11_layLeast 113 = .ok (.iload_n 3, 1) := by decide +kernel
theorem dX11_layLeast_114 : decode cX11_layLeast 114 = .ok (.aload_n 0, 1) := by decide +kernel
theorem dX11_layLeast_115 : decode cX11_layLeast 115 = .ok (.getfield 37, 3) := by decide +kernel
theorem dX11_layLeast_118 : decode cX11_layLeast 118 = .ok (.iload_n 2, 1) := by decide +kernel
theorem dX11_layLeast_119 : decode cX11_layLeast 119 = .ok (.iaload, 1) := by decide +kernel
theorem dX11_layLeast_120 : decode cX11_layLeast 120 = .ok (.iconst (-1), 1) := by decide +kernel
theorem dX11_layLeast_121 : decode cX11_layLeast 121 = .ok (.ixor, 1) := by decide +kernel
theorem dX11_layLeast_122 : decode cX11_layLeast 122 = .ok (.iand, 1) := by decide +kernel
theorem dX11_layLeast_123 : decode cX11_layLeast 123 = .ok (.iadd, 1) := by decide +kernel
theorem dX11_layLeast_124 : decode cX11_layLeast 124 = .ok (.iaload, 1) := by decide +kernel
theorem dX11_layLeast_125 : decode cX11_layLeast 125 = .ok (.iadd, 1) := by decide +kernel
theorem dX11_layLeast_126 : decode cX11_layLeast 126 = .ok (.istore 5, 2) := by decide +kernel
theorem dX11_layLeast_128 : decode cX11_layLeast 128 = .ok (.aload_n 0, 1) := by decide +kernel
theorem dX11_layLeast_129 : decode cX11_layLeast 129 = .ok (.getfield 40, 3) := by decide +kernel
theorem dX11_layLeast_132 : decode cX11_layLeast 132 = .ok (.bipush 64, 2) := by decide +kernel
theorem dX11_layLeast_134 : decode cX11_layLeast 134 = .ok (.iload_n 2, 1) := by decide +kernel
theorem dX11_layLeast_135 : decode cX11_layLeast 135 = .ok (.imul, 1) := by decide +kernel
theorem dX11_layLeast_136 : decode cX11_layLeast 136 = .ok (.iload_n 3, 1) := by decide +kernel
theorem dX11_layLeast_137 : decode cX11_layLeast 137 = .ok (.iadd, 1) := by decide +kernel
theorem dX11_layLeast_138 : decode cX11_layLeast 138 = .ok (.iload 5, 2) := by decide +kernel
theorem dX11_layLeast_140 : decode cX11_layLeast 140 = .ok (.iload 4, 2) := by decide +kernel
theorem dX11_layLeast_142 : decode cX11_layLeast 142 = .ok (.if_icmp .ge 8, 3) := by decide +kernel
theorem dX11_layLeast_145 : decode cX11_layLeast 145 = .ok (.iload 5, 2) := by decide +kernel
theorem dX11_layLeast_147 : decode cX11_layLeast 147 = .ok (.goto 5, 3) := by decide +kernel
theorem dX11_layLeast_150 : decode cX11_layLeast 150 = .ok (.iload 4, 2) := by decide +kernel
theorem dX11_layLeast_152 : decode cX11_layLeast 152 = .ok (.iastore, 1) := by decide +kernel
theorem dX11_layLeast_153 : decode cX11_layLeast 153 = .ok (.iinc 3 1, 3) := by decide +kernel
theorem dX11_layLeast_156 : decode cX11_layLeast 156 = .ok (.goto (-81), 3) := by decide +kernel
theorem dX11_layLeast_159 : decode cX11_layLeast 159 = .ok (.iinc 2 (-1), 3) := by decide +kernel
theorem dX11_layLeast_162 : decode cX11_layLeast 162 = .ok (.goto (-115), 3) := by decide +kernel
theorem dX11_layLeast_165 : decode cX11_layLeast 165 = .ok (.return_, 1) := by decide +kernel
theorem dX11_layRow_0 : decode cX11_layRow 0 = .ok (.aload_n 0, 1) := by decide +kernel
theorem dX11_layRow_1 : decode cX11_layRow 1 = .ok (.iconst 0, 1) := by decide +kernel
theorem dX11_layRow_2 : decode cX11_layRow 2 = .ok (.putfield 223, 3) := by decide +kernel
theorem dX11_layRow_5 : decode cX11_layRow 5 = .ok (.iload_n 1, 1) := by decide +kernel
theorem dX11_layRow_6 : decode cX11_layRow 6 = .ok (.istore_n 2, 1) := by decide +kernel
theorem dX11_layRow_7 : decode cX11_layRow 7 = .ok (.iconst 0, 1) := by decide +kernel
theorem dX11_layRow_8 : decode cX11_layRow 8 = .ok (.istore_n 3, 1) := by decide +kernel
theorem dX11_layRow_9 : decode cX11_layRow 9 = .ok (.iload_n 2, 1) := by decide +kernel
theorem dX11_layRow_10 : decode cX11_layRow 10 = .ok (.ifCond .le 87, 3) := by decide +kernel
theorem dX11_layRow_13 : decode cX11_layRow 13 = .ok (.aload_n 0, 1) := by decide +kernel
theorem dX11_layRow_14 : decode cX11_layRow 14 = .ok (.iload_n 3, 1) := by decide +kernel
theorem dX11_layRow_15 : decode cX11_layRow 15 = .ok (.invokevirtual 220, 3) := by decide +kernel
theorem dX11_layRow_18 : decode cX11_layRow 18 = .ok (.aload_n 0, 1) := by decide +kernel
theorem dX11_layRow_19 : decode cX11_layRow 19 = .ok (.getfield 40, 3) := by decide +kernel
theorem dX11_layRow_22 : decode cX11_layRow 22 = .ok (.bipush 64, 2) := by decide +kernel
theorem dX11_layRow_24 : decode cX11_layRow 24 = .ok (.iload_n 3, 1) := by decide +kernel
theorem dX11_layRow_25 : decode cX11_layRow 25 = .ok (.imul, 1) := by decide +kernel
theorem dX11_layRow_26 : decode cX11_layRow 26 = .ok (.bipush 64, 2) := by decide +kernel
theorem dX11_layRow_28 : decode cX11_layRow 28 = .ok (.iadd, 1) := by decide +kernel
theorem dX11_layRow_29 : decode cX11_layRow 29 = .ok (.iload_n 2, 1) := by decide +kernel
theorem dX11_layRow_30 : decode cX11_layRow 30 = .ok (.aload_n 0, 1) := by decide +kernel
theorem dX11_layRow_31 : decode cX11_layRow 31 = .ok (.getfield 37, 3) := by decide +kernel
theorem dX11_layRow_34 : decode cX11_layRow 34 = .ok (.iload_n 3, 1) := by decide +kernel
theorem dX11_layRow_35 : decode cX11_layRow 35 = .ok (.iaload, 1) := by decide +kernel
theorem dX11_layRow_36 : decode cX11_layRow 36 = .ok (.iconst (-1), 1) := by decide +kernel
theorem dX11_layRow_37 : decode cX11_layRow 37 = .ok (.ixor, 1) := by decide +kernel
theorem dX11_layRow_38 : decode cX11_layRow 38 = .ok (.iand, 1) := by decide +kernel
theorem dX11_layRow_39 : decode cX11_layRow 39 = .ok (.iadd, 1) := by decide +kernel
theorem dX11_layRow_40 : decode cX11_layRow 40 = .ok (.iaload, 1) := by decide +kernel
theorem dX11_layRow_41 : decode cX11_layRow 41 = .ok (.iadd, 1) := by decide +kernel
theorem dX11_layRow_42 : decode cX11_layRow 42 = .ok (.istore 4, 2) := by decide +kernel
theorem dX11_layRow_44 : decode cX11_layRow 44 = .ok (.iload 4, 2) := by decide +kernel
theorem dX11_layRow_46 : decode cX11_layRow 46 = .ok (.aload_n 0, 1) := by decide +kernel
theorem dX11_layRow_47 : decode cX11_layRow 47 = .ok (.getfield 40, 3) := by decide +kernel
theorem dX11_layRow_50 : decode cX11_layRow 50 = .ok (.bipush 64, 2) := by decide +kernel
theorem dX11_layRow_52 : decode cX11_layRow 52 = .ok (.iload_n 3, 1) := by decide +kernel
theorem dX11_layRow_53 : decode cX11_layRow 53 = .ok (.imul, 1) := by decide +kernel
theorem dX11_layRow_54 : decode cX11_layRow 54 = .ok (.iload_n 2, 1) := by decide +kernel
theorem dX11_layRow_55 : decode cX11_layRow 55 = .ok (.iadd, 1) := by decide +kernel
theorem dX11_layRow_56 : decode cX11_layRow 56 = .ok (.iaload, 1) := by decide +kernel
theorem dX11_layRow_57 : decode cX11_layRow 57 = .ok (.if_icmp .ne 34, 3) := by decide +kernel
theorem dX11_layRow_60 : decode cX11_layRow 60 = .ok (.aload_n 0, 1) := by decide +kernel
theorem dX11_layRow_61 : decode cX11_layRow 61 = .ok (.getfield 43, 3) := by decide +kernel
theorem dX11_layRow_64 : decode cX11_layRow 64 = .ok (.aload_n 0, 1) := by decide +kernel
theorem dX11_layRow_65 : decode cX11_layRow 65 = .ok (.getfield 223, 3) := by decide +kernel
theorem dX11_layRow_68 : decode cX11_layRow 68 = .ok (.iload_n 3, 1) := by decide +kernel
theorem dX11_layRow_69 : decode cX11_layRow 69 = .ok (.iastore, 1) := by decide +kernel
theorem dX11_layRow_70 : decode cX11_layRow 70 = .ok (.aload_n 0, 1) := by decide +kernel
theorem dX11_layRow_71 : decode cX11_layRow 71 = .ok (.dup, 1) := by decide +kernel
theorem dX11_layRow_72 : decode cX11_layRow 72 = .ok (.getfield 223, 3) := by decide +kernel
theorem dX11_layRow_75 : decode cX11_layRow 75 = .ok (.iconst 1, 1) := by decide +kernel
theorem dX11_layRow_76 : decode cX11_layRow 76 = .ok (.iadd, 1) := by decide +kernel
theorem dX11_layRow_77 : decode cX11_layRow 77 = .ok (.putfield 223, 3) := by decide +kernel
theorem dX11_layRow_80 : decode cX11_layRow 80 = .ok (.iload_n 2, 1) := by decide +kernel
theorem dX11_layRow_81 : decode cX11_layRow 81 = .ok (.aload_n 0, 1) := by decide +kernel
theorem dX11_layRow_82 : decode cX11_layRow 82 = .ok (.getfield 37, 3) := by decide +kernel
theorem dX11_layRow_85 : decode cX11_layRow 85 = .ok (.iload_n 3, 1) := by decide +kernel
theorem dX11_layRow_86 : decode cX11_layRow 86 = .ok (.iaload, 1) := by decide +kernel
theorem dX11_layRow_87 : decode cX11_layRow 87 = .ok (.iconst (-1), 1) := by decide +kernel
theorem dX11_layRow_88 : decode cX11_layRow 88 = .ok (.ixor, 1) := by decide +kernel
theorem dX11_layRow_89 : decode cX11_layRow 89 = .ok (.iand, 1) := by decide +kernel
theorem dX11_layRow_90 : decode cX11_layRow 90 = .ok (.istore_n 2, 1) := by decide +kernel
theorem dX11_layRow_91 : decode cX11_layRow 91 = .ok (.iinc 3 1, 3) := by decide +kernel
theorem dX11_layRow_94 : decode cX11_layRow 94 = .ok (.goto (-85), 3) := by decide +kernel
theorem dX11_layRow_97 : decode cX11_layRow 97 = .ok (.return_, 1) := by decide +kernel
theorem dX11_allOf_0 : decode cX11_allOf 0 = .ok (.aload_n 0, 1) := by decide +kernel
theorem dX11_allOf_1 : decode cX11_allOf 1 = .ok (.invokevirtual 226, 3) := by decide +kernel
theorem dX11_allOf_4 : decode cX11_allOf 4 = .ok (.aload_n 0, 1) := by decide +kernel
theorem dX11_allOf_5 : decode cX11_allOf 5 = .ok (.invokevirtual 188, 3) := by decide +kernel
theorem dX11_allOf_8 : decode cX11_allOf 8 = .ok (.istore_n 2, 1) := by decide +kernel
theorem dX11_allOf_9 : decode cX11_allOf 9 = .ok (.aload_n 0, 1) := by decide +kernel
theorem dX11_allOf_10 : decode cX11_allOf 10 = .ok (.getfield 40, 3) := by decide +kernel
theorem dX11_allOf_13 : decode cX11_allOf 13 = .ok (.iload_n 2, 1) := by decide +kernel
theorem dX11_allOf_14 : decode cX11_allOf 14 = .ok (.iaload, 1) := by decide +kernel
theorem dX11_allOf_15 : decode cX11_allOf 15 = .ok (.ldc 219, 2) := by decide +kernel
theorem dX11_allOf_17 : decode cX11_allOf 17 = .ok (.if_icmp .lt 5, 3) := by decide +kernel
theorem dX11_allOf_20 : decode cX11_allOf 20 = .ok (.iconst (-1), 1) := by decide +kernel
theorem dX11_allOf_21 : decode cX11_allOf 21 = .ok (.ireturn, 1) := by decide +kernel
theorem dX11_allOf_22 : decode cX11_allOf 22 = .ok (.iload_n 1, 1) := by decide +kernel
theorem dX11_allOf_23 : decode cX11_allOf 23 = .ok (.iconst 2, 1) := by decide +kernel
theorem dX11_allOf_24 : decode cX11_allOf 24 = .ok (.if_icmp .ge 29, 3) := by decide +kernel
theorem dX11_allOf_27 : decode cX11_allOf 27 = .ok (.iload_n 1, 1) := by decide +kernel
theorem dX11_allOf_28 : decode cX11_allOf 28 = .ok (.ifCond .ne 15, 3) := by decide +kernel
theorem dX11_allOf_31 : decode cX11_allOf 31 = .ok (.aload_n 0, 1) := by decide +kernel
theorem dX11_allOf_32 : decode cX11_allOf 32 = .ok (.getfield 40, 3) := by decide +kernel
theorem dX11_allOf_35 : decode cX11_allOf 35 = .ok (.iload_n 2, 1) := by decide +kernel
theorem dX11_allOf_36 : decode cX11_allOf 36 = .ok (.iaload, 1) := by decide +kernel
theorem dX11_allOf_37 : decode cX11_allOf 37 = .ok (.bipush 100, 2) := by decide +kernel
theorem dX11_allOf_39 : decode cX11_allOf 39 = .ok (.idiv, 1) := by decide +kernel
theorem dX11_allOf_40 : decode cX11_allOf 40 = .ok (.goto 12, 3) := by decide +kernel
theorem dX11_allOf_43 : decode cX11_allOf 43 = .ok (.aload_n 0, 1) := by decide +kernel
theorem dX11_allOf_44 : decode cX11_allOf 44 = .ok (.getfield 40, 3) := by decide +kernel
theorem dX11_allOf_47 : decode cX11_allOf 47 = .ok (.iload_n 2, 1) := by decide +kernel
theorem dX11_allOf_48 : decode cX11_allOf 48 = .ok (.iaload, 1) := by decide +kernel
theorem dX11_allOf_49 : decode cX11_allOf 49 = .ok (.bipush 100, 2) := by decide +kernel
theorem dX11_allOf_51 : decode cX11_allOf 51 = .ok (.irem, 1) := by decide +kernel
theorem dX11_allOf_52 : decode cX11_allOf 52 = .ok (.ireturn, 1) := by decide +kernel
theorem dX11_allOf_53 : decode cX11_allOf 53 = .ok (.aload_n 0, 1) := by decide +kernel
theorem dX11_allOf_54 : decode cX11_allOf 54 = .ok (.iload_n 2, 1) := by decide +kernel
theorem dX11_allOf_55 : decode cX11_allOf 55 = .ok (.invokevirtual 229, 3) := by decide +kernel
theorem dX11_allOf_58 : decode cX11_allOf 58 = .ok (.iload_n 1, 1) := by decide +kernel
theorem dX11_allOf_59 : decode cX11_allOf 59 = .ok (.bipush 10, 2) := by decide +kernel
theorem dX11_allOf_61 : decode cX11_allOf 61 = .ok (.isub, 1) := by decide +kernel
theorem dX11_allOf_62 : decode cX11_allOf 62 = .ok (.aload_n 0, 1) := by decide +kernel
theorem dX11_allOf_63 : decode cX11_allOf 63 = .ok (.getfield 223, 3) := by decide +kernel
theorem dX11_allOf_66 : decode cX11_allOf 66 = .ok (.if_icmp .ge 15, 3) := by decide +kernel
theorem dX11_allOf_69 : decode cX11_allOf 69 = .ok (.aload_n 0, 1) := by decide +kernel
theorem dX11_allOf_70 : decode cX11_allOf 70 = .ok (.getfield 43, 3) := by decide +kernel
theorem dX11_allOf_73 : decode cX11_allOf 73 = .ok (.iload_n 1, 1) := by decide +kernel
theorem dX11_allOf_74 : decode cX11_allOf 74 = .ok (.bipush 10, 2) := by decide +kernel
theorem dX11_allOf_76 : decode cX11_allOf 76 = .ok (.isub, 1) := by decide +kernel
theorem dX11_allOf_77 : decode cX11_allOf 77 = .ok (.iaload, 1) := by decide +kernel
theorem dX11_allOf_78 : decode cX11_allOf 78 = .ok (.goto 4, 3) := by decide +kernel
theorem dX11_allOf_81 : decode cX11_allOf 81 = .ok (.iconst (-1), 1) := by decide +kernel
theorem dX11_allOf_82 : decode cX11_allOf 82 = .ok (.ireturn, 1) := by decide +kernel
theorem dX11_all_0 : decode cX11_all 0 = .ok (.iload_n 1, 1) := by decide +kernel
theorem dX11_all_1 : decode cX11_all 1 = .ok (.i2l, 1) := by decide +kernel
theorem dX11_all_2 : decode cX11_all 2 = .ok (.lconst 0, 1) := by decide +kernel
theorem dX11_all_3 : decode cX11_all 3 = .ok (.lconst 1, 1) := by decide +kernel
theorem dX11_all_4 : decode cX11_all 4 = .ok (.invokestatic 79, 3) := by decide +kernel
theorem dX11_all_7 : decode cX11_all 7 = .ok (.ifCond .ne 20, 3) := by decide +kernel
theorem dX11_all_10 : decode cX11_all 10 = .ok (.iload_n 1, 1) := by decide +kernel
theorem dX11_all_11 : decode cX11_all 11 = .ok (.i2l, 1) := by decide +kernel
theorem dX11_all_12 : decode cX11_all 12 = .ok (.ldc2_w 233, 3) := by decide +kernel
theorem dX11_all_15 : decode cX11_all 15 = .ok (.ldc2_w 235, 3) := by decide +kernel
theorem dX11_all_18 : decode cX11_all 18 = .ok (.invokestatic 79, 3) := by decide +kernel
theorem dX11_all_21 : decode cX11_all 21 = .ok (.ifCond .ne 6, 3) := by decide +kernel
theorem dX11_all_24 : decode cX11_all 24 = .ok (.bipush (-102), 2) := by decide +kernel
theorem dX11_all_26 : decode cX11_all 26 = .ok (.ireturn, 1) := by decide +kernel
theorem dX11_all_27 : decode cX11_all 27 = .ok (.aload_n 0, 1) := by decide +kernel
theorem dX11_all_28 : decode cX11_all 28 = .ok (.invokevirtual 213, 3) := by decide +kernel
theorem dX11_all_31 : decode cX11_all 31 = .ok (.ifCond .eq 8, 3) := by decide +kernel
theorem dX11_all_34 : decode cX11_all 34 = .ok (.bipush (-103), 2) := by decide +kernel
theorem dX11_all_36 : decode cX11_all 36 = .ok (.goto 8, 3) := by decide +kernel
theorem dX11_all_39 : decode cX11_all 39 = .ok (.aload_n 0, 1) := by decide +kernel
theorem dX11_all_40 : decode cX11_all 40 = .ok (.iload_n 1, 1) := by decide +kernel
theorem dX11_all_41 : decode cX11_all 41 = .ok (.invokevirtual 237, 3) := by decide +kernel
theorem dX11_all_44 : decode cX11_all 44 = .ok (.ireturn, 1) := by decide +kernel
theorem dX11_nightsOf_0 : decode cX11_nightsOf 0 = .ok (.aload_n 0, 1) := by decide +kernel
theorem dX11_nightsOf_1 : decode cX11_nightsOf 1 = .ok (.invokevirtual 226, 3) := by decide +kernel
theorem dX11_nightsOf_4 : decode cX11_nightsOf 4 = .ok (.aload_n 0, 1) := by decide +kernel
theorem dX11_nightsOf_5 : decode cX11_nightsOf 5 = .ok (.getfield 40, 3) := by decide +kernel
theorem dX11_nightsOf_8 : decode cX11_nightsOf 8 = .ok (.iconst 1, 1) := by decide +kernel
theorem dX11_nightsOf_9 : decode cX11_nightsOf 9 = .ok (.aload_n 0, 1) := by decide +kernel
theorem dX11_nightsOf_10 : decode cX11_nightsOf 10 = .ok (.getfield 116, 3) := by decide +kernel
theorem dX11_nightsOf_13 : decode cX11_nightsOf 13 = .ok (.ishl, 1) := by decide +kernel
theorem dX11_nightsOf_14 : decode cX11_nightsOf 14 = .ok (.iconst 1, 1) := by decide +kernel
theorem dX11_nightsOf_15 : decode cX11_nightsOf 15 = .ok (.isub, 1) := by decide +kernel
theorem dX11_nightsOf_16 : decode cX11_nightsOf 16 = .ok (.iaload, 1) := by decide +kernel
theorem dX11_nightsOf_17 : decode cX11_nightsOf 17 = .ok (.istore_n 1, 1) := by decide +kernel
theorem dX11_nightsOf_18 : decode cX11_nightsOf 18 = .ok (.iload_n 1, 1) := by decide +kernel
theorem dX11_nightsOf_19 : decode cX11_nightsOf 19 = .ok (.ldc 219, 2) := by decide +kernel
theorem dX11_nightsOf_21 : decode cX11_nightsOf 21 = .ok (.if_icmp .lt 7, 3) := by decide +kernel
theorem dX11_nightsOf_24 : decode cX11_nightsOf 24 = .ok (.iconst (-1), 1) := by decide +kernel
theorem dX11_nightsOf_25 : decode cX11_nightsOf 25 = .ok (.goto 12, 3) := by decide +kernel
theorem dX11_nightsOf_28 : decode cX11_nightsOf 28 = .ok (.aload_n 0, 1) := by decide +kernel
theorem dX11_nightsOf_29 : decode cX11_nightsOf 29 = .ok (.getfield 125, 3) := by decide +kernel
theorem dX11_nightsOf_32 : decode cX11_nightsOf 32 = .ok (.iload_n 1, 1) := by decide +kernel
theorem dX11_nightsOf_33 : decode cX11_nightsOf 33 = .ok (.bipush 100, 2) := by decide +kernel
theorem dX11_nightsOf_35 : decode cX11_nightsOf 35 = .ok (.idiv, 1) := by decide +kernel
theorem dX11_nightsOf_36 : decode cX11_nightsOf 36 = .ok (.idiv, 1) := by decide +kernel
theorem dX11_nightsOf_37 : decode cX11_nightsOf 37 = .ok (.ireturn, 1) := by decide +kernel
theorem dX11_nights_0 : decode cX11_nights 0 = .ok (.aload_n 0, 1) := by decide +kernel
theorem dX11_nights_1 : decode cX11_nights 1 = .ok (.invokevirtual 213, 3) := by decide +kernel
theorem dX11_nights_4 : decode cX11_nights 4 = .ok (.ifCond .eq 8, 3) := by decide +kernel
theorem dX11_nights_7 : decode cX11_nights 7 = .ok (.bipush (-103), 2) := by decide +kernel
theorem dX11_nights_9 : decode cX11_nights 9 = .ok (.goto 7, 3) := by decide +kernel
theorem dX11_nights_12 : decode cX11_nights 12 = .ok (.aload_n 0, 1) := by decide +kernel
theorem dX11_nights_13 : decode cX11_nights 13 = .ok (.invokevirtual 240, 3) := by decide +kernel
theorem dX11_nights_16 : decode cX11_nights 16 = .ok (.ireturn, 1) := by decide +kernel
theorem dX11_odds_0 : decode cX11_odds 0 = .ok (.aload_n 0, 1) := by decide +kernel
theorem dX11_odds_1 : decode cX11_odds 1 = .ok (.iload_n 1, 1) := by decide +kernel
theorem dX11_odds_2 : decode cX11_odds 2 = .ok (.invokevirtual 182, 3) := by decide +kernel
theorem dX11_odds_5 : decode cX11_odds 5 = .ok (.ifCond .eq 18, 3) := by decide +kernel
theorem dX11_odds_8 : decode cX11_odds 8 = .ok (.aload_n 0, 1) := by decide +kernel
theorem dX11_odds_9 : decode cX11_odds 9 = .ok (.iload_n 2, 1) := by decide +kernel
theorem dX11_odds_10 : decode cX11_odds 10 = .ok (.invokevirtual 163, 3) := by decide +kernel
theorem dX11_odds_13 : decode cX11_odds 13 = .ok (.ifCond .eq 10, 3) := by decide +kernel
theorem dX11_odds_16 : decode cX11_odds 16 = .ok (.iload_n 3, 1) := by decide +kernel
theorem dX11_odds_17 : decode cX11_odds 17 = .ok (.invokestatic 166, 3) := by decide +kernel
theorem dX11_odds_20 : decode cX11_odds 20 = .ok (.ifCond .ne 6, 3) := by decide +kernel
theorem dX11_odds_23 : decode cX11_odds 23 = .ok (.bipush (-101), 2) := by decide +kernel
theorem dX11_odds_25 : decode cX11_odds 25 = .ok (.ireturn, 1) := by decide +kernel
theorem dX11_odds_26 : decode cX11_odds 26 = .ok (.iconst 0, 1) := by decide +kernel
theorem dX11_odds_27 : decode cX11_odds 27 = .ok (.istore 4, 2) := by decide +kernel
theorem dX11_odds_29 : decode cX11_odds 29 = .ok (.iconst (-1), 1) := by decide +kernel
theorem dX11_odds_30 : decode cX11_odds 30 = .ok (.istore 5, 2) := by decide +kernel
theorem dX11_odds_32 : decode cX11_odds 32 = .ok (.iload 5, 2) := by decide +kernel
theorem dX11_odds_34 : decode cX11_odds 34 = .ok (.iconst 2, 1) := by decide +kernel
theorem dX11_odds_35 : decode cX11_odds 35 = .ok (.if_icmp .ge 36, 3) := by decide +kernel
theorem dX11_odds_38 : decode cX11_odds 38 = .ok (.iload 4, 2) := by decide +kernel
theorem dX11_odds_40 : decode cX11_odds 40 = .ok (.aload_n 0, 1) := by decide +kernel
theorem dX11_odds_41 : decode cX11_odds 41 = .ok (.iload_n 2, 1) := by decide +kernel
theorem dX11_odds_42 : decode cX11_odds 42 = .ok (.iload_n 3, 1) := by decide +kernel
theorem dX11_odds_43 : decode cX11_odds 43 = .ok (.iload 5, 2) := by decide +kernel
theorem dX11_odds_45 : decode cX11_odds 45 = .ok (.aload_n 0, 1) := by decide +kernel
theorem dX11_odds_46 : decode cX11_odds 46 = .ok (.getfield 13, 3) := by decide +kernel
theorem dX11_odds_49 : decode cX11_odds 49 = .ok (.iload_n 1, 1) := by decide +kernel
theorem dX11_odds_50 : decode cX11_odds 50 = .ok (.iaload, 1) := by decide +kernel
theorem dX11_odds_51 : decode cX11_odds 51 = .ok (.invokevirtual 159, 3) := by decide +kernel
theorem dX11_odds_54 : decode cX11_odds 54 = .ok (.ifCond .eq 7, 3) := by decide +kernel
theorem dX11_odds_57 : decode cX11_odds 57 = .ok (.iconst 1, 1) := by decide +kernel
theorem dX11_odds_58 : decode cX11_odds 58 = .ok (.goto 4, 3) := by decide +kernel
theorem dX11_odds_61 : decode cX11_odds 61 = .ok (.iconst 0, 1) := by decide +kernel
theorem dX11_odds_62 : decode cX11_odds 62 = .ok (.iadd, 1) := by decide +kernel
theorem dX11_odds_63 : decode cX11_odds 63 = .ok (.istore 4, 2) := by decide +kernel
theorem dX11_odds_65 : decode cX11_odds 65 = .ok (.iinc 5 1, 3) := by decide +kernel
theorem dX11_odds_68 : decode cX11_odds 68 = .ok (.goto (-36), 3) := by decide +kernel
theorem dX11_odds_71 : decode cX11_odds 71 = .ok (.iload 4, 2) := by decide +kernel
theorem dX11_odds_73 : decode cX11_odds 73 = .ok (.ireturn, 1) := by decide +kernel
theorem dX11_whoOf_0 : decode cX11_whoOf 0 = .ok (.iconst 0, 1) := by decide +kernel
theorem dX11_whoOf_1 : decode cX11_whoOf 1 = .ok (.istore_n 2, 1) := by decide +kernel
theorem dX11_whoOf_2 : decode cX11_whoOf 2 = .ok (.iconst 0, 1) := by decide +kernel
theorem dX11_whoOf_3 : decode cX11_whoOf 3 = .ok (.istore_n 3, 1) := by decide +kernel
theorem dX11_whoOf_4 : decode cX11_whoOf 4 = .ok (.iload_n 3, 1) := by decide +kernel
theorem dX11_whoOf_5 : decode cX11_whoOf 5 = .ok (.aload_n 0, 1) := by decide +kernel
theorem dX11_whoOf_6 : decode cX11_whoOf 6 = .ok (.getfield 119, 3) := by decide +kernel
theorem dX11_whoOf_9 : decode cX11_whoOf 9 = .ok (.if_icmp .ge 50, 3) := by decide +kernel
theorem dX11_whoOf_12 : decode cX11_whoOf 12 = .ok (.iconst 0, 1) := by decide +kernel
theorem dX11_whoOf_13 : decode cX11_whoOf 13 = .ok (.istore 4, 2) := by decide +kernel
theorem dX11_whoOf_15 : decode cX11_whoOf 15 = .ok (.iload 4, 2) := by decide +kernel
theorem dX11_whoOf_17 : decode cX11_whoOf 17 = .ok (.bipush 36, 2) := by decide +kernel
theorem dX11_whoOf_19 : decode cX11_whoOf 19 = .ok (.if_icmp .ge 34, 3) := by decide +kernel
theorem dX11_whoOf_22 : decode cX11_whoOf 22 = .ok (.iload_n 2, 1) := by decide +kernel
theorem dX11_whoOf_23 : decode cX11_whoOf 23 = .ok (.aload_n 0, 1) := by decide +kernel
theorem dX11_whoOf_24 : decode cX11_whoOf 24 = .ok (.iload_n 3, 1) := by decide +kernel
theorem dX11_whoOf_25 : decode cX11_whoOf 25 = .ok (.iload 4, 2) := by decide +kernel
theorem dX11_whoOf_27 : decode cX11_whoOf 27 = .ok (.aload_n 0, 1) := by decide +kernel
theorem dX11_whoOf_28 : decode cX11_whoOf 28 = .ok (.getfield 122, 3) := by decide +kernel
theorem dX11_whoOf_31 : decode cX11_whoOf 31 = .ok (.invokevirtual 151, 3) := by decide +kernel
theorem dX11_whoOf_34 : decode cX11_whoOf 34 = .ok (.iload_n 1, 1) := by decide +kernel
theorem dX11_whoOf_35 : decode cX11_whoOf 35 = .ok (.if_icmp .ne 9, 3) := by decide +kernel
theorem dX11_whoOf_38 : decode cX11_whoOf 38 = .ok (.iconst 1, 1) := by decide +kernel
theorem dX11_whoOf_39 : decode cX11_whoOf 39 = .ok (.iload_n 3, 1) := by decide +kernel
theorem dX11_whoOf_40 : decode cX11_whoOf 40 = .ok (.ishl, 1) := by decide +kernel
theorem dX11_whoOf_41 : decode cX11_whoOf 41 = .ok (.goto 4, 3) := by decide +kernel
theorem dX11_whoOf_44 : decode cX11_whoOf 44 = .ok (.iconst 0, 1) := by decide +kernel
theorem dX11_whoOf_45 : decode cX11_whoOf 45 = .ok (.ior, 1) := by decide +kernel
theorem dX11_whoOf_46 : decode cX11_whoOf 46 = .ok (.istore_n 2, 1) := by decide +kernel
theorem dX11_whoOf_47 : decode cX11_whoOf 47 = .ok (.iinc 4 1, 3) := by decide +kernel
theorem dX11_whoOf_50 : decode cX11_whoOf 50 = .ok (.goto (-35), 3) := by decide +kernel
theorem dX11_whoOf_53 : decode cX11_whoOf 53 = .ok (.iinc 3 1, 3) := by decide +kernel
theorem dX11_whoOf_56 : decode cX11_whoOf 56 = .ok (.goto (-52), 3) := by decide +kernel
theorem dX11_whoOf_59 : decode cX11_whoOf 59 = .ok (.iload_n 2, 1) := by decide +kernel
theorem dX11_whoOf_60 : decode cX11_whoOf 60 = .ok (.ireturn, 1) := by decide +kernel
theorem dX11_who_0 : decode cX11_who 0 = .ok (.aload_n 0, 1) := by decide +kernel
theorem dX11_who_1 : decode cX11_who 1 = .ok (.invokevirtual 213, 3) := by decide +kernel
theorem dX11_who_4 : decode cX11_who 4 = .ok (.ifCond .ne 18, 3) := by decide +kernel
theorem dX11_who_7 : decode cX11_who 7 = .ok (.iload_n 1, 1) := by decide +kernel
theorem dX11_who_8 : decode cX11_who 8 = .ok (.invokestatic 166, 3) := by decide +kernel
theorem dX11_who_11 : decode cX11_who 11 = .ok (.ifCond .eq 11, 3) := by decide +kernel
theorem dX11_who_14 : decode cX11_who 14 = .ok (.aload_n 0, 1) := by decide +kernel
theorem dX11_who_15 : decode cX11_who 15 = .ok (.iload_n 1, 1) := by decide +kernel
theorem dX11_who_16 : decode cX11_who 16 = .ok (.invokevirtual 243, 3) := by decide +kernel
theorem dX11_who_19 : decode cX11_who 19 = .ok (.goto 5, 3) := by decide +kernel
theorem dX11_who_22 : decode cX11_who 22 = .ok (.bipush (-101), 2) := by decide +kernel
theorem dX11_who_24 : decode cX11_who 24 = .ok (.ireturn, 1) := by decide +kernel
theorem dX11_see_0 : decode cX11_see 0 = .ok (.aload_n 0, 1) := by decide +kernel
theorem dX11_see_1 : decode cX11_see 1 = .ok (.iload_n 1, 1) := by decide +kernel
theorem dX11_see_2 : decode cX11_see 2 = .ok (.invokevirtual 163, 3) := by decide +kernel
theorem dX11_see_5 : decode cX11_see 5 = .ok (.ifCond .ne 6, 3) := by decide +kernel
theorem dX11_see_8 : decode cX11_see 8 = .ok (.bipush (-101), 2) := by decide +kernel
theorem dX11_see_10 : decode cX11_see 10 = .ok (.ireturn, 1) := by decide +kernel
theorem dX11_see_11 : decode cX11_see 11 = .ok (.iload_n 2, 1) := by decide +kernel
theorem dX11_see_12 : decode cX11_see 12 = .ok (.i2l, 1) := by decide +kernel
theorem dX11_see_13 : decode cX11_see 13 = .ok (.lconst 0, 1) := by decide +kernel
theorem dX11_see_14 : decode cX11_see 14 = .ok (.ldc2_w 142, 3) := by decide +kernel
theorem dX11_see_17 : decode cX11_see 17 = .ok (.invokestatic 79, 3) := by decide +kernel
theorem dX11_see_20 : decode cX11_see 20 = .ok (.ifCond .eq 17, 3) := by decide +kernel
theorem dX11_see_23 : decode cX11_see 23 = .ok (.iload_n 3, 1) := by decide +kernel
theorem dX11_see_24 : decode cX11_see 24 = .ok (.i2l, 1) := by decide +kernel
theorem dX11_see_25 : decode cX11_see 25 = .ok (.ldc2_w 211, 3) := by decide +kernel
theorem dX11_see_28 : decode cX11_see 28 = .ok (.ldc2_w 142, 3) := by decide +kernel
theorem dX11_see_31 : decode cX11_see 31 = .ok (.invokestatic 79, 3) := by decide +kernel
theorem dX11_see_34 : decode cX11_see 34 = .ok (.ifCond .ne 6, 3) := by decide +kernel
theorem dX11_see_37 : decode cX11_see 37 = .ok (.bipush (-102), 2) := by decide +kernel
theorem dX11_see_39 : decode cX11_see 39 = .ok (.ireturn, 1) := by decide +kernel
theorem dX11_see_40 : decode cX11_see 40 = .ok (.aload_n 0, 1) := by decide +kernel
theorem dX11_see_41 : decode cX11_see 41 = .ok (.getfield 134, 3) := by decide +kernel
theorem dX11_see_44 : decode cX11_see 44 = .ok (.bipush 6, 2) := by decide +kernel
theorem dX11_see_46 : decode cX11_see 46 = .ok (.if_icmp .ne 6, 3) := by decide +kernel
theorem dX11_see_49 : decode cX11_see 49 = .ok (.bipush (-104), 2) := by decide +kernel
theorem dX11_see_51 : decode cX11_see 51 = .ok (.ireturn, 1) := by decide +kernel
theorem dX11_see_52 : decode cX11_see 52 = .ok (.aload_n 0, 1) := by decide +kernel
theorem dX11_see_53 : decode cX11_see 53 = .ok (.getfield 46, 3) := by decide +kernel
theorem dX11_see_56 : decode cX11_see 56 = .ok (.iconst 3, 1) := by decide +kernel
theorem dX11_see_57 : decode cX11_see 57 = .ok (.aload_n 0, 1) := by decide +kernel
theorem dX11_see_58 : decode cX11_see 58 = .ok (.getfield 134, 3) := by decide +kernel
theorem dX11_see_61 : decode cX11_see 61 = .ok (.imul, 1) := by decide +kernel
theorem dX11_see_62 : decode cX11_see 62 = .ok (.iload_n 1, 1) := by decide +kernel
theorem dX11_see_63 : decode cX11_see 63 = .ok (.iastore, 1) := by decide +kernel
theorem dX11_see_64 : decode cX11_see 64 = .ok (.aload_n 0, 1) := by decide +kernel
theorem dX11_see_65 : decode cX11_see 65 = .ok (.getfield 46, 3) := by decide +kernel
theorem dX11_see_68 : decode cX11_see 68 = .ok (.iconst 3, 1) := by decide +kernel
theorem dX11_see_69 : decode cX11_see 69 = .ok (.aload_n 0, 1) := by decide +kernel
theorem dX11_see_70 : decode cX11_see 70 = .ok (.getfield 134, 3) := by decide +kernel
theorem dX11_see_73 : decode cX11_see 73 = .ok (.imul, 1) := by decide +kernel
theorem dX11_see_74 : decode cX11_see 74 = .ok (.iconst 1, 1) := by decide +kernel
theorem dX11_see_75 : decode cX11_see 75 = .ok (.iadd, 1) := by decide +kernel
theorem dX11_see_76 : decode cX11_see 76 = .ok (.iload_n 2, 1) := by decide +kernel
theorem dX11_see_77 : decode cX11_see 77 = .ok (.iastore, 1) := by decide +kernel
theorem dX11_see_78 : decode cX11_see 78 = .ok (.aload_n 0, 1) := by decide +kernel
theorem dX11_see_79 : decode cX11_see 79 = .ok (.getfield 46, 3) := by decide +kernel
theorem dX11_see_82 : decode cX11_see 82 = .ok (.iconst 3, 1) := by decide +kernel
theorem dX11_see_83 : decode cX11_see 83 = .ok (.aload_n 0, 1) := by decide +kernel
theorem dX11_see_84 : decode cX11_see 84 = .ok (.getfield 134, 3) := by decide +kernel
theorem dX11_see_87 : decode cX11_see 87 = .ok (.imul, 1) := by decide +kernel
theorem dX11_see_88 : decode cX11_see 88 = .ok (.iconst 2, 1) := by decide +kernel
theorem dX11_see_89 : decode cX11_see 89 = .ok (.iadd, 1) := by decide +kernel
theorem dX11_see_90 : decode cX11_see 90 = .ok (.iload_n 3, 1) := by decide +kernel
theorem dX11_see_91 : decode cX11_see 91 = .ok (.iastore, 1) := by decide +kernel
theorem dX11_see_92 : decode cX11_see 92 = .ok (.aload_n 0, 1) := by decide +kernel
theorem dX11_see_93 : decode cX11_see 93 = .ok (.dup, 1) := by decide +kernel
theorem dX11_see_94 : decode cX11_see 94 = .ok (.getfield 134, 3) := by decide +kernel
theorem dX11_see_97 : decode cX11_see 97 = .ok (.iconst 1, 1) := by decide +kernel
theorem dX11_see_98 : decode cX11_see 98 = .ok (.iadd, 1) := by decide +kernel
theorem dX11_see_99 : decode cX11_see 99 = .ok (.putfield 134, 3) := by decide +kernel
theorem dX11_see_102 : decode cX11_see 102 = .ok (.aload_n 0, 1) := by decide +kernel
theorem dX11_see_103 : decode cX11_see 103 = .ok (.getfield 134, 3) := by decide +kernel
theorem dX11_see_106 : decode cX11_see 106 = .ok (.ireturn, 1) := by decide +kernel
theorem dX11_forget_0 : decode cX11_forget 0 = .ok (.aload_n 0, 1) := by decide +kernel
theorem dX11_forget_1 : decode cX11_forget 1 = .ok (.getfield 134, 3) := by decide +kernel
theorem dX11_forget_4 : decode cX11_forget 4 = .ok (.istore_n 1, 1) := by decide +kernel
theorem dX11_forget_5 : decode cX11_forget 5 = .ok (.aload_n 0, 1) := by decide +kernel
theorem dX11_forget_6 : decode cX11_forget 6 = .ok (.iconst 0, 1) := by decide +kernel
theorem dX11_forget_7 : decode cX11_forget 7 = .ok (.putfield 134, 3) := by decide +kernel
theorem dX11_forget_10 : decode cX11_forget 10 = .ok (.iload_n 1, 1) := by decide +kernel
theorem dX11_forget_11 : decode cX11_forget 11 = .ok (.ireturn, 1) := by decide +kernel
theorem dX11_columnBy_0 : decode cX11_columnBy 0 = .ok (.iload_n 0, 1) := by decide +kernel
theorem dX11_columnBy_1 : decode cX11_columnBy 1 = .ok (.iload_n 1, 1) := by decide +kernel
theorem dX11_columnBy_2 : decode cX11_columnBy 2 = .ok (.iadd, 1) := by decide +kernel
theorem dX11_columnBy_3 : decode cX11_columnBy 3 = .ok (.iconst 2, 1) := by decide +kernel
theorem dX11_columnBy_4 : decode cX11_columnBy 4 = .ok (.isub, 1) := by decide +kernel
theorem dX11_columnBy_5 : decode cX11_columnBy 5 = .ok (.istore_n 2, 1) := by decide +kernel
theorem dX11_columnBy_6 : decode cX11_columnBy 6 = .ok (.iload_n 2, 1) := by decide +kernel
theorem dX11_columnBy_7 : decode cX11_columnBy 7 = .ok (.i2l, 1) := by decide +kernel
theorem dX11_columnBy_8 : decode cX11_columnBy 8 = .ok (.lconst 0, 1) := by decide +kernel
theorem dX11_columnBy_9 : decode cX11_columnBy 9 = .ok (.ldc2_w 142, 3) := by decide +kernel
theorem dX11_columnBy_12 : decode cX11_columnBy 12 = .ok (.invokestatic 79, 3) := by decide +kernel
theorem dX11_columnBy_15 : decode cX11_columnBy 15 = .ok (.ifCond .eq 7, 3) := by decide +kernel
theorem dX11_columnBy_18 : decode cX11_columnBy 18 = .ok (.iload_n 2, 1) := by decide +kernel
theorem dX11_columnBy_19 : decode cX11_columnBy 19 = .ok (.goto 4, 3) := by decide +kernel
theorem dX11_columnBy_22 : decode cX11_columnBy 22 = .ok (.iconst (-1), 1) := by decide +kernel
theorem dX11_columnBy_23 : decode cX11_columnBy 23 = .ok (.ireturn, 1) := by decide +kernel
theorem dX11_turnsOf_0 : decode cX11_turnsOf 0 = .ok (.iconst 0, 1) := by decide +kernel
theorem dX11_turnsOf_1 : decode cX11_turnsOf 1 = .ok (.istore_n 2, 1) := by decide +kernel
theorem dX11_turnsOf_2 : decode cX11_turnsOf 2 = .ok (.iconst 0, 1) := by decide +kernel
theorem dX11_turnsOf_3 : decode cX11_turnsOf 3 = .ok (.istore_n 3, 1) := by decide +kernel
theorem dX11_turnsOf_4 : decode cX11_turnsOf 4 = .ok (.iload_n 3, 1) := by decide +kernel
theorem dX11_turnsOf_5 : decode cX11_turnsOf 5 = .ok (.iconst 5, 1) := by decide +kernel
theorem dX11_turnsOf_6 : decode cX11_turnsOf 6 = .ok (.if_icmp .ge 95, 3) := by decide +kernel
theorem dX11_turnsOf_9 : decode cX11_turnsOf 9 = .ok (.iconst 1, 1) := by decide +kernel
theorem dX11_turnsOf_10 : decode cX11_turnsOf 10 = .ok (.istore 4, 2) := by decide +kernel
theorem dX11_turnsOf_12 : decode cX11_turnsOf 12 = .ok (.iconst 0, 1) := by decide +kernel
theorem dX11_turnsOf_13 : decode cX11_turnsOf 13 = .ok (.istore 5, 2) := by decide +kernel
theorem dX11_turnsOf_15 : decode cX11_turnsOf 15 = .ok (.iload 5, 2) := by decide +kernel
theorem dX11_turnsOf_17 : decode cX11_turnsOf 17 = .ok (.iconst 3, 1) := by decide +kernel
theorem dX11_turnsOf_18 : decode cX11_turnsOf 18 = .ok (.aload_n 0, 1) := by decide +kernel
theorem dX11_turnsOf_19 : decode cX11_turnsOf 19 = .ok (.getfield 134, 3) := by decide +kernel
theorem dX11_turnsOf_22 : decode cX11_turnsOf 22 = .ok (.imul, 1) := by decide +kernel
theorem dX11_turnsOf_23 : decode cX11_turnsOf 23 = .ok (.if_icmp .ge 57, 3) := by decide +kernel
theorem dX11_turnsOf_26 : decode cX11_turnsOf 26 = .ok (.iload 4, 2) := by decide +kernel
theorem dX11_turnsOf_28 : decode cX11_turnsOf 28 = .ok (.ifCond .eq 43, 3) := by decide +kernel
theorem dX11_turnsOf_31 : decode cX11_turnsOf 31 = .ok (.aload_n 0, 1) := by decide +kernel
theorem dX11_turnsOf_32 : decode cX11_turnsOf 32 = .ok (.getfield 46, 3) := by decide +kernel
theorem dX11_turnsOf_35 : decode cX11_turnsOf 35 = .ok (.iload 5, 2) := by decide +kernel
theorem dX11_turnsOf_37 : decode cX11_turnsOf 37 = .ok (.iaload, 1) := by decide +kernel
theorem dX11_turnsOf_38 : decode cX11_turnsOf 38 = .ok (.iload_n 1, 1) := by decide +kernel
theorem dX11_turnsOf_39 : decode cX11_turnsOf 39 = .ok (.if_icmp .ne 28, 3) := by decide +kernel
theorem dX11_turnsOf_42 : decode cX11_turnsOf 42 = .ok (.aload_n 0, 1) := by decide +kernel
theorem dX11_turnsOf_43 : decode cX11_turnsOf 43 = .ok (.getfield 46, 3) := by decide +kernel
theorem dX11_turnsOf_46 : decode cX11_turnsOf 46 = .ok (.iload 5, 2) := by decide +kernel
theorem dX11_turnsOf_48 : decode cX11_turnsOf 48 = .ok (.iconst 1, 1) := by decide +kernel
theorem dX11_turnsOf_49 : decode cX11_turnsOf 49 = .ok (.iadd, 1) := by decide +kernel
theorem dX11_turnsOf_50 : decode cX11_turnsOf 50 = .ok (.iaload, 1) := by decide +kernel
theorem dX11_turnsOf_51 : decode cX11_turnsOf 51 = .ok (.iload_n 3, 1) := by decide +kernel
theorem dX11_turnsOf_52 : decode cX11_turnsOf 52 = .ok (.invokestatic 246, 3) := by decide +kernel
theorem dX11_turnsOf_55 : decode cX11_turnsOf 55 = .ok (.aload_n 0, 1) := by decide +kernel
theorem dX11_turnsOf_56 : decode cX11_turnsOf 56 = .ok (.getfield 46, 3) := by decide +kernel
theorem dX11_turnsOf_59 : decode cX11_turnsOf 59 = .ok (.iload 5, 2) := by decide +kernel
theorem dX11_turnsOf_61 : decode cX11_turnsOf 61 = .ok (.iconst 2, 1) := by decide +kernel
theorem dX11_turnsOf_62 : decode cX11_turnsOf 62 = .ok (.iadd, 1) := by decide +kernel
theorem dX11_turnsOf_63 : decode cX11_turnsOf 63 = .ok (.iaload, 1) := by decide +kernel
theorem dX11_turnsOf_64 : decode cX11_turnsOf 64 = .ok (.if_icmp .ne 7, 3) := by decide +kernel
theorem dX11_turnsOf_67 : decode cX11_turnsOf 67 = .ok (.iconst 1, 1) := by decide +kernel
theorem dX11_turnsOf_68 : decode cX11_turnsOf 68 = .ok (.goto 4, 3) := by decide +kernel
theorem dX11_turnsOf_71 : decode cX11_turnsOf 71 = .ok (.iconst 0, 1) := by decide +kernel
theorem dX11_turnsOf_72 : decode cX11_turnsOf 72 = .ok (.istore 4, 2) := by decide +kernel
theorem dX11_turnsOf_74 : decode cX11_turnsOf 74 = .ok (.iinc 5 3, 3) := by decide +kernel
theorem dX11_turnsOf_77 : decode cX11_turnsOf 77 = .ok (.goto (-62), 3) := by decide +kernel
theorem dX11_turnsOf_80 : decode cX11_turnsOf 80 = .ok (.iload_n 2, 1) := by decide +kernel
theorem dX11_turnsOf_81 : decode cX11_turnsOf 81 = .ok (.iload 4, 2) := by decide +kernel
theorem dX11_turnsOf_83 : decode cX11_turnsOf 83 = .ok (.ifCond .eq 9, 3) := by decide +kernel
theorem dX11_turnsOf_86 : decode cX11_turnsOf 86 = .ok (.iconst 1, 1) := by decide +kernel
theorem dX11_turnsOf_87 : decode cX11_turnsOf 87 = .ok (.iload_n 3, 1) := by decide +kernel
theorem dX11_turnsOf_88 : decode cX11_turnsOf 88 = .ok (.ishl, 1) := by decide +kernel
theorem dX11_turnsOf_89 : decode cX11_turnsOf 89 = .ok (.goto 4, 3) := by decide +kernel
theorem dX11_turnsOf_92 : decode cX11_turnsOf 92 = .ok (.iconst 0, 1) := by decide +kernel
theorem dX11_turnsOf_93 : decode cX11_turnsOf 93 = .ok (.ior, 1) := by decide +kernel
theorem dX11_turnsOf_94 : decode cX11_turnsOf 94 = .ok (.istore_n 2, 1) := by decide +kernel
theorem dX11_turnsOf_95 : decode cX11_turnsOf 95 = .ok (.iinc 3 1, 3) := by decide +kernel
theorem dX11_turnsOf_98 : decode cX11_turnsOf 98 = .ok (.goto (-94), 3) := by decide +kernel
theorem dX11_turnsOf_101 : decode cX11_turnsOf 101 = .ok (.iload_n 2, 1) := by decide +kernel
theorem dX11_turnsOf_102 : decode cX11_turnsOf 102 = .ok (.ireturn, 1) := by decide +kernel
theorem dX11_aimOf_0 : decode cX11_aimOf 0 = .ok (.aload_n 0, 1) := by decide +kernel
theorem dX11_aimOf_1 : decode cX11_aimOf 1 = .ok (.iload_n 1, 1) := by decide +kernel
theorem dX11_aimOf_2 : decode cX11_aimOf 2 = .ok (.invokevirtual 200, 3) := by decide +kernel
theorem dX11_aimOf_5 : decode cX11_aimOf 5 = .ok (.istore_n 2, 1) := by decide +kernel
theorem dX11_aimOf_6 : decode cX11_aimOf 6 = .ok (.iconst (-1), 1) := by decide +kernel
theorem dX11_aimOf_7 : decode cX11_aimOf 7 = .ok (.istore_n 3, 1) := by decide +kernel
theorem dX11_aimOf_8 : decode cX11_aimOf 8 = .ok (.bipush 6, 2) := by decide +kernel
theorem dX11_aimOf_10 : decode cX11_aimOf 10 = .ok (.istore 4, 2) := by decide +kernel
theorem dX11_aimOf_12 : decode cX11_aimOf 12 = .ok (.iconst 0, 1) := by decide +kernel
theorem dX11_aimOf_13 : decode cX11_aimOf 13 = .ok (.istore 5, 2) := by decide +kernel
theorem dX11_aimOf_15 : decode cX11_aimOf 15 = .ok (.iload 5, 2) := by decide +kernel
theorem dX11_aimOf_17 : decode cX11_aimOf 17 = .ok (.bipush 6, 2) := by decide +kernel
theorem dX11_aimOf_19 : decode cX11_aimOf 19 = .ok (.if_icmp .ge 137, 3) := by decide +kernel
theorem dX11_aimOf_22 : decode cX11_aimOf 22 = .ok (.iload_n 2, 1) := by decide +kernel
theorem dX11_aimOf_23 : decode cX11_aimOf 23 = .ok (.ifCond .eq 133, 3) := by decide +kernel
theorem dX11_aimOf_26 : decode cX11_aimOf 26 = .ok (.iconst 0, 1) := by decide +kernel
theorem dX11_aimOf_27 : decode cX11_aimOf 27 = .ok (.istore 6, 2) := by decide +kernel
theorem dX11_aimOf_29 : decode cX11_aimOf 29 = .ok (.iconst 0, 1) := by decide +kernel
theorem dX11_aimOf_30 : decode cX11_aimOf 30 = .ok (.istore 7, 2) := by decide +kernel
theorem dX11_aimOf_32 : decode cX11_aimOf 32 = .ok (.iload 7, 2) := by decide +kernel
theorem dX11_aimOf_34 : decode cX11_aimOf 34 = .ok (.iconst 5, 1) := by decide +kernel
theorem dX11_aimOf_35 : decode cX11_aimOf 35 = .ok (.if_icmp .ge 85, 3) := by decide +kernel
theorem dX11_aimOf_38 : decode cX11_aimOf 38 = .ok (.iconst 0, 1) := by decide +kernel
theorem dX11_aimOf_39 : decode cX11_aimOf 39 = .ok (.istore 8, 2) := by decide +kernel
theorem dX11_aimOf_41 : decode cX11_aimOf 41 = .ok (.iconst 0, 1) := by decide +kernel
theorem dX11_aimOf_42 : decode cX11_aimOf 42 = .ok (.istore 9, 2) := by decide +kernel
theorem dX11_aimOf_44 : decode cX11_aimOf 44 = .ok (.iload 9, 2) := by decide +kernel
theorem dX11_aimOf_46 : decode cX11_aimOf 46 = .ok (.iconst 5, 1) := by decide +kernel
theorem dX11_aimOf_47 : decode cX11_aimOf 47 = .ok (.if_icmp .ge 41, 3) := by decide +kernel
theorem dX11_aimOf_50 : decode cX11_aimOf 50 = .ok (.iload 8, 2) := by decide +kernel
theorem dX11_aimOf_52 : decode cX11_aimOf 52 = .ok (.iload 5, 2) := by decide +kernel
theorem dX11_aimOf_54 : decode cX11_aimOf 54 = .ok (.iload 9, 2) := by decide +kernel
theorem dX11_aimOf_56 : decode cX11_aimOf 56 = .ok (.invokestatic 246, 3) := by decide +kernel
theorem dX11_aimOf_59 : decode cX11_aimOf 59 = .ok (.iload 5, 2) := by decide +kernel
theorem dX11_aimOf_61 : decode cX11_aimOf 61 = .ok (.iload 7, 2) := by decide +kernel
theorem dX11_aimOf_63 : decode cX11_aimOf 63 = .ok (.invokestatic 246, 3) := by decide +kernel
theorem dX11_aimOf_66 : decode cX11_aimOf 66 = .ok (.if_icmp .ne 12, 3) := by decide +kernel
theorem dX11_aimOf_69 : decode cX11_aimOf 69 = .ok (.iload_n 2, 1) := by decide +kernel
theorem dX11_aimOf_70 : decode cX11_aimOf 70 = .ok (.iload 9, 2) := by decide +kernel
theorem dX11_aimOf_72 : decode cX11_aimOf 72 = .ok (.ishr, 1) := by decide +kernel
theorem dX11_aimOf_73 : decode cX11_aimOf 73 = .ok (.iconst 1, 1) := by decide +kernel
theorem dX11_aimOf_74 : decode cX11_aimOf 74 = .ok (.iand, 1) := by decide +kernel
theorem dX11_aimOf_75 : decode cX11_aimOf 75 = .ok (.goto 4, 3) := by decide +kernel
theorem dX11_aimOf_78 : decode cX11_aimOf 78 = .ok (.iconst 0, 1) := by decide +kernel
theorem dX11_aimOf_79 : decode cX11_aimOf 79 = .ok (.iadd, 1) := by decide +kernel
theorem dX11_aimOf_80 : decode cX11_aimOf 80 = .ok (.istore 8, 2) := by decide +kernel
theorem dX11_aimOf_82 : decode cX11_aimOf 82 = .ok (.iinc 9 1, 3) := by decide +kernel
theorem dX11_aimOf_85 : decode cX11_aimOf 85 = .ok (.goto (-41), 3) := by decide +kernel
theorem dX11_aimOf_88 : decode cX11_aimOf 88 = .ok (.iload_n 2, 1) := by decide +kernel
theorem dX11_aimOf_89 : decode cX11_aimOf 89 = .ok (.iload 7, 2) := by decide +kernel
theorem dX11_aimOf_91 : decode cX11_aimOf 91 = .ok (.ishr, 1) := by decide +kernel
theorem dX11_aimOf_92 : decode cX11_aimOf 92 = .ok (.iconst 1, 1) := by decide +kernel
theorem dX11_aimOf_93 : decode cX11_aimOf 93 = .ok (.iand, 1) := by decide +kernel
theorem dX11_aimOf_94 : decode cX11_aimOf 94 = .ok (.iconst 1, 1) := by decide +kernel
theorem dX11_aimOf_95 : decode cX11_aimOf 95 = .ok (.if_icmp .ne 15, 3) := by decide +kernel
theorem dX11_aimOf_98 : decode cX11_aimOf 98 = .ok (.iload 8, 2) := by decide +kernel
theorem dX11_aimOf_100 : decode cX11_aimOf 100 = .ok (.iload 6, 2) := by decide +kernel
theorem dX11_aimOf_102 : decode cX11_aimOf 102 = .ok (.if_icmp .le 8, 3) := by decide +kernel
theorem dX11_aimOf_105 : decode cX11_aimOf 105 = .ok (.iload 8, 2) := by decide +kernel
theorem dX11_aimOf_107 : decode cX11_aimOf 107 = .ok (.goto 5, 3) := by decide +kernel
theorem dX11_aimOf_110 : decode cX11_aimOf 110 = .ok (.iload 6, 2) := by decide +kernel
theorem dX11_aimOf_112 : decode cX11_aimOf 112 = .ok (.istore 6, 2) := by decide +kernel
theorem dX11_aimOf_114 : decode cX11_aimOf 114 = .ok (.iinc 7 1, 3) := by decide +kernel
theorem dX11_aimOf_117 : decode cX11_aimOf 117 = .ok (.goto (-85), 3) := by decide +kernel
theorem dX11_aimOf_120 : decode cX11_aimOf 120 = .ok (.iload 6, 2) := by decide +kernel
theorem dX11_aimOf_122 : decode cX11_aimOf 122 = .ok (.iload 4, 2) := by decide +kernel
theorem dX11_aimOf_124 : decode cX11_aimOf 124 = .ok (.if_icmp .ge 8, 3) := by decide +kernel
theorem dX11_aimOf_127 : decode cX11_aimOf 127 = .ok (.iload 5, 2) := by decide +kernel
theorem dX11_aimOf_129 : decode cX11_aimOf 129 = .ok (.goto 4, 3) := by decide +kernel
theorem dX11_aimOf_132 : decode cX11_aimOf 132 = .ok (.iload_n 3, 1) := by decide +kernel
theorem dX11_aimOf_133 : decode cX11_aimOf 133 = .ok (.istore_n 3, 1) := by decide +kernel
theorem dX11_aimOf_134 : decode cX11_aimOf 134 = .ok (.iload 6, 2) := by decide +kernel
theorem dX11_aimOf_136 : decode cX11_aimOf 136 = .ok (.iload 4, 2) := by decide +kernel
theorem dX11_aimOf_138 : decode cX11_aimOf 138 = .ok (.if_icmp .ge 8, 3) := by decide +kernel
theorem dX11_aimOf_141 : decode cX11_aimOf 141 = .ok (.iload 6, 2) := by decide +kernel
theorem dX11_aimOf_143 : decode cX11_aimOf 143 = .ok (.goto 5, 3) := by decide +kernel
theorem dX11_aimOf_146 : decode cX11_aimOf 146 = .ok (.iload 4, 2) := by decide +kernel
theorem dX11_aimOf_148 : decode cX11_aimOf 148 = .ok (.istore 4, 2) := by decide +kernel
theorem dX11_aimOf_150 : decode cX11_aimOf 150 = .ok (.iinc 5 1, 3) := by decide +kernel
theorem dX11_aimOf_153 : decode cX11_aimOf 153 = .ok (.goto (-138), 3) := by decide +kernel
theorem dX11_aimOf_156 : decode cX11_aimOf 156 = .ok (.iload_n 3, 1) := by decide +kernel
theorem dX11_aimOf_157 : decode cX11_aimOf 157 = .ok (.ireturn, 1) := by decide +kernel
theorem dX11_draw_0 : decode cX11_draw 0 = .ok (.aload_n 0, 1) := by decide +kernel
theorem dX11_draw_1 : decode cX11_draw 1 = .ok (.ldc2_w 249, 3) := by decide +kernel
theorem dX11_draw_4 : decode cX11_draw 4 = .ok (.aload_n 0, 1) := by decide +kernel
theorem dX11_draw_5 : decode cX11_draw 5 = .ok (.getfield 251, 3) := by decide +kernel
theorem dX11_draw_8 : decode cX11_draw 8 = .ok (.i2l, 1) := by decide +kernel
theorem dX11_draw_9 : decode cX11_draw 9 = .ok (.lmul, 1) := by decide +kernel
theorem dX11_draw_10 : decode cX11_draw 10 = .ok (.ldc2_w 254, 3) := by decide +kernel
theorem dX11_draw_13 : decode cX11_draw 13 = .ok (.ladd, 1) := by decide +kernel
theorem dX11_draw_14 : decode cX11_draw 14 = .ok (.ldc2_w 256, 3) := by decide +kernel
theorem dX11_draw_17 : decode cX11_draw 17 = .ok (.land, 1) := by decide +kernel
theorem dX11_draw_18 : decode cX11_draw 18 = .ok (.l2i, 1) := by decide +kernel
theorem dX11_draw_19 : decode cX11_draw 19 = .ok (.putfield 251, 3) := by decide +kernel
theorem dX11_draw_22 : decode cX11_draw 22 = .ok (.aload_n 0, 1) := by decide +kernel
theorem dX11_draw_23 : decode cX11_draw 23 = .ok (.getfield 251, 3) := by decide +kernel
theorem dX11_draw_26 : decode cX11_draw 26 = .ok (.ldc_w 258, 3) := by decide +kernel
theorem dX11_draw_29 : decode cX11_draw 29 = .ok (.idiv, 1) := by decide +kernel
theorem dX11_draw_30 : decode cX11_draw 30 = .ok (.iload_n 1, 1) := by decide +kernel
theorem dX11_draw_31 : decode cX11_draw 31 = .ok (.irem, 1) := by decide +kernel
theorem dX11_draw_32 : decode cX11_draw 32 = .ok (.ireturn, 1) := by decide +kernel
theorem dX11_seasons_0 : decode cX11_seasons 0 = .ok (.iload_n 1, 1) := by decide +kernel
theorem dX11_seasons_1 : decode cX11_seasons 1 = .ok (.i2l, 1) := by decide +kernel
theorem dX11_seasons_2 : decode cX11_seasons 2 = .ok (.lconst 1, 1) := by decide +kernel
theorem dX11_seasons_3 : decode cX11_seasons 3 = .ok (.ldc2_w 217, 3) := by decide +kernel
theorem dX11_seasons_6 : decode cX11_seasons 6 = .ok (.invokestatic 79, 3) := by decide +kernel
theorem dX11_seasons_9 : decode cX11_seasons 9 = .ok (.ifCond .eq 19, 3) := by decide +kernel
theorem dX11_seasons_12 : decode cX11_seasons 12 = .ok (.iload_n 2, 1) := by decide +kernel
theorem dX11_seasons_13 : decode cX11_seasons 13 = .ok (.ifCond .lt 15, 3) := by decide +kernel
theorem dX11_seasons_16 : decode cX11_seasons 16 = .ok (.iload_n 3, 1) := by decide +kernel
theorem dX11_seasons_17 : decode cX11_seasons 17 = .ok (.i2l, 1) := by decide +kernel
theorem dX11_seasons_18 : decode cX11_seasons 18 = .ok (.lconst 0, 1) := by decide +kernel
theorem dX11_seasons_19 : decode cX11_seasons 19 = .ok (.ldc2_w 259, 3) := by decide +kernel
theorem dX11_seasons_22 : decode cX11_seasons 22 = .ok (.invokestatic 79, 3) := by decide +kernel
theorem dX11_seasons_25 : decode cX11_seasons 25 = .ok (.ifCond .ne 6, 3) := by decide +kernel
theorem dX11_seasons_28 : decode cX11_seasons 28 = .ok (.bipush (-102), 2) := by decide +kernel
theorem dX11_seasons_30 : decode cX11_seasons 30 = .ok (.ireturn, 1) := by decide +kernel
theorem dX11_seasons_31 : decode cX11_seasons 31 = .ok (.aload_n 0, 1) := by decide +kernel
theorem dX11_seasons_32 : decode cX11_seasons 32 = .ok (.invokevirtual 213, 3) := by decide +kernel
theorem dX11_seasons_35 : decode cX11_seasons 35 = .ok (.ifCond .eq 6, 3) := by decide +kernel
theorem dX11_seasons_38 : decode cX11_seasons 38 = .ok (.bipush (-103), 2) := by decide +kernel
theorem dX11_seasons_40 : decode cX11_seasons 40 = .ok (.ireturn, 1) := by decide +kernel
theorem dX11_seasons_41 : decode cX11_seasons 41 = .ok (.aload_n 0, 1) := by decide +kernel
theorem dX11_seasons_42 : decode cX11_seasons 42 = .ok (.iload_n 2, 1) := by decide +kernel
theorem dX11_seasons_43 : decode cX11_seasons 43 = .ok (.putfield 251, 3) := by decide +kernel
theorem dX11_seasons_46 : decode cX11_seasons 46 = .ok (.iconst 0, 1) := by decide +kernel
theorem dX11_seasons_47 : decode cX11_seasons 47 = .ok (.istore 4, 2) := by decide +kernel
theorem dX11_seasons_49 : decode cX11_seasons 49 = .ok (.iconst 0, 1) := by decide +kernel
theorem dX11_seasons_50 : decode cX11_seasons 50 = .ok (.istore 5, 2) := by decide +kernel
theorem dX11_seasons_52 : decode cX11_seasons 52 = .ok (.iconst 0, 1) := by decide +kernel
theorem dX11_seasons_53 : decode cX11_seasons 53 = .ok (.istore 6, 2) := by decide +kernel
theorem dX11_seasons_55 : decode cX11_seasons 55 = .ok (.iload 6, 2) := by decide +kernel
theorem dX11_seasons_57 : decode cX11_seasons 57 = .ok (.iload_n 1, 1) := by decide +kernel
theorem dX11_seasons_58 : decode cX11_seasons 58 = .ok (.if_icmp .ge 61, 3) := by decide +kernel
theorem dX11_seasons_61 : decode cX11_seasons 61 = .ok (.aload_n 0, 1) := by decide +kernel
theorem dX11_seasons_62 : decode cX11_seasons 62 = .ok (.iconst 3, 1) := by decide +kernel
theorem dX11_seasons_63 : decode cX11_seasons 63 = .ok (.invokevirtual 261, 3) := by decide +kernel
theorem dX11_seasons_66 : decode cX11_seasons 66 = .ok (.iconst 1, 1) := by decide +kernel
theorem dX11_seasons_67 : decode cX11_seasons 67 = .ok (.isub, 1) := by decide +kernel
theorem dX11_seasons_68 : decode cX11_seasons 68 = .ok (.istore 7, 2) := by decide +kernel
theorem dX11_seasons_70 : decode cX11_seasons 70 = .ok (.aload_n 0, 1) := by decide +kernel
theorem dX11_seasons_71 : decode cX11_seasons 71 = .ok (.aload_n 0, 1) := by decide +kernel
theorem dX11_seasons_72 : decode cX11_seasons 72 = .ok (.getfield 119, 3) := by decide +kernel
theorem dX11_seasons_75 : decode cX11_seasons 75 = .ok (.invokevirtual 261, 3) := by decide +kernel
theorem dX11_seasons_78 : decode cX11_seasons 78 = .ok (.istore 8, 2) := by decide +kernel
theorem dX11_seasons_80 : decode cX11_seasons 80 = .ok (.aload_n 0, 1) := by decide +kernel
theorem dX11_seasons_81 : decode cX11_seasons 81 = .ok (.iload 8, 2) := by decide +kernel
theorem dX11_seasons_83 : decode cX11_seasons 83 = .ok (.aload_n 0, 1) := by decide +kernel
theorem dX11_seasons_84 : decode cX11_seasons 84 = .ok (.bipush 36, 2) := by decide +kernel
theorem dX11_seasons_86 : decode cX11_seasons 86 = .ok (.invokevirtual 261, 3) := by decide +kernel
theorem dX11_seasons_89 : decode cX11_seasons 89 = .ok (.iload 7, 2) := by decide +kernel
theorem dX11_seasons_91 : decode cX11_seasons 91 = .ok (.invokevirtual 169, 3) := by decide +kernel
theorem dX11_seasons_94 : decode cX11_seasons 94 = .ok (.istore 9, 2) := by decide +kernel
theorem dX11_seasons_96 : decode cX11_seasons 96 = .ok (.iload 4, 2) := by decide +kernel
theorem dX11_seasons_98 : decode cX11_seasons 98 = .ok (.iload 9, 2) := by decide +kernel
theorem dX11_seasons_100 : decode cX11_seasons 100 = .ok (.invokestatic 191, 3) := by decide +kernel
theorem dX11_seasons_103 : decode cX11_seasons 103 = .ok (.iadd, 1) := by decide +kernel
theorem dX11_seasons_104 : decode cX11_seasons 104 = .ok (.istore 4, 2) := by decide +kernel
theorem dX11_seasons_106 : decode cX11_seasons 106 = .ok (.iload 5, 2) := by decide +kernel
theorem dX11_seasons_108 : decode cX11_seasons 108 = .ok (.iload 9, 2) := by decide +kernel
theorem dX11_seasons_110 : decode cX11_seasons 110 = .ok (.ior, 1) := by decide +kernel
theorem dX11_seasons_111 : decode cX11_seasons 111 = .ok (.istore 5, 2) := by decide +kernel
theorem dX11_seasons_113 : decode cX11_seasons 113 = .ok (.iinc 6 1, 3) := by decide +kernel
theorem dX11_seasons_116 : decode cX11_seasons 116 = .ok (.goto (-61), 3) := by decide +kernel
theorem dX11_seasons_119 : decode cX11_seasons 119 = .ok (.iload_n 3, 1) := by decide +kernel
theorem dX11_seasons_120 : decode cX11_seasons 120 = .ok (.ifCond .ne 8, 3) := by decide +kernel
theorem dX11_seasons_123 : decode cX11_seasons 123 = .ok (.iload 4, 2) := by decide +kernel
theorem dX11_seasons_125 : decode cX11_seasons 125 = .ok (.goto 20, 3) := by decide +kernel
theorem dX11_seasons_128 : decode cX11_seasons 128 = .ok (.iload_n 3, 1) := by decide +kernel
theorem dX11_seasons_129 : decode cX11_seasons 129 = .ok (.iconst 1, 1) := by decide +kernel
theorem dX11_seasons_130 : decode cX11_seasons 130 = .ok (.if_icmp .ne 11, 3) := by decide +kernel
theorem dX11_seasons_133 : decode cX11_seasons 133 = .ok (.iload 5, 2) := by decide +kernel
theorem dX11_seasons_135 : decode cX11_seasons 135 = .ok (.invokestatic 191, 3) := by decide +kernel
theorem dX11_seasons_138 : decode cX11_seasons 138 = .ok (.goto 7, 3) := by decide +kernel
theorem dX11_seasons_141 : decode cX11_seasons 141 = .ok (.aload_n 0, 1) := by decide +kernel
theorem dX11_seasons_142 : decode cX11_seasons 142 = .ok (.getfield 251, 3) := by decide +kernel
theorem dX11_seasons_145 : decode cX11_seasons 145 = .ok (.ireturn, 1) := by decide +kernel
theorem dX11_image_0 : decode cX11_image 0 = .ok (.aload_n 0, 1) := by decide +kernel
theorem dX11_image_1 : decode cX11_image 1 = .ok (.invokevirtual 213, 3) := by decide +kernel
theorem dX11_image_4 : decode cX11_image 4 = .ok (.ifCond .eq 6, 3) := by decide +kernel
theorem dX11_image_7 : decode cX11_image 7 = .ok (.bipush (-103), 2) := by decide +kernel
theorem dX11_image_9 : decode cX11_image 9 = .ok (.ireturn, 1) := by decide +kernel
theorem dX11_image_10 : decode cX11_image 10 = .ok (.aload_n 0, 1) := by decide +kernel
theorem dX11_image_11 : decode cX11_image 11 = .ok (.getfield 13, 3) := by decide +kernel
theorem dX11_image_14 : decode cX11_image 14 = .ok (.aload_n 0, 1) := by decide +kernel
theorem dX11_image_15 : decode cX11_image 15 = .ok (.getfield 49, 3) := by decide +kernel
theorem dX11_image_18 : decode cX11_image 18 = .ok (.invokestatic 264, 3) := by decide +kernel
theorem dX11_image_21 : decode cX11_image 21 = .ok (.aload_n 0, 1) := by decide +kernel
theorem dX11_image_22 : decode cX11_image 22 = .ok (.getfield 16, 3) := by decide +kernel
theorem dX11_image_25 : decode cX11_image 25 = .ok (.aload_n 0, 1) := by decide +kernel
theorem dX11_image_26 : decode cX11_image 26 = .ok (.getfield 52, 3) := by decide +kernel
theorem dX11_image_29 : decode cX11_image 29 = .ok (.invokestatic 264, 3) := by decide +kernel
theorem dX11_image_32 : decode cX11_image 32 = .ok (.aload_n 0, 1) := by decide +kernel
theorem dX11_image_33 : decode cX11_image 33 = .ok (.getfield 19, 3) := by decide +kernel
theorem dX11_image_36 : decode cX11_image 36 = .ok (.aload_n 0, 1) := by decide +kernel
theorem dX11_image_37 : decode cX11_image 37 = .ok (.getfield 55, 3) := by decide +kernel
theorem dX11_image_40 : decode cX11_image 40 = .ok (.invokestatic 264, 3) := by decide +kernel
theorem dX11_image_43 : decode cX11_image 43 = .ok (.aload_n 0, 1) := by decide +kernel
theorem dX11_image_44 : decode cX11_image 44 = .ok (.getfield 22, 3) := by decide +kernel
theorem dX11_image_47 : decode cX11_image 47 = .ok (.aload_n 0, 1) := by decide +kernel
theorem dX11_image_48 : decode cX11_image 48 = .ok (.getfield 58, 3) := by decide +kernel
theorem dX11_image_51 : decode cX11_image 51 = .ok (.invokestatic 264, 3) := by decide +kernel
theorem dX11_image_54 : decode cX11_image 54 = .ok (.aload_n 0, 1) := by decide +kernel
theorem dX11_image_55 : decode cX11_image 55 = .ok (.getfield 28, 3) := by decide +kernel
theorem dX11_image_58 : decode cX11_image 58 = .ok (.aload_n 0, 1) := by decide +kernel
theorem dX11_image_59 : decode cX11_image 59 = .ok (.getfield 61, 3) := by decide +kernel
theorem dX11_image_62 : decode cX11_image 62 = .ok (.invokestatic 264, 3) := by decide +kernel
theorem dX11_image_65 : decode cX11_image 65 = .ok (.aload_n 0, 1) := by decide +kernel
theorem dX11_image_66 : decode cX11_image 66 = .ok (.getfield 31, 3) := by decide +kernel
theorem dX11_image_69 : decode cX11_image 69 = .ok (.aload_n 0, 1) := by decide +kernel
theorem dX11_image_70 : decode cX11_image 70 = .ok (.getfield 64, 3) := by decide +kernel
theorem dX11_image_73 : decode cX11_image 73 = .ok (.invokestatic 264, 3) := by decide +kernel
theorem dX11_image_76 : decode cX11_image 76 = .ok (.aload_n 0, 1) := by decide +kernel
theorem dX11_image_77 : decode cX11_image 77 = .ok (.getfield 34, 3) := by decide +kernel
theorem dX11_image_80 : decode cX11_image 80 = .ok (.aload_n 0, 1) := by decide +kernel
theorem dX11_image_81 : decode cX11_image 81 = .ok (.getfield 67, 3) := by decide +kernel
theorem dX11_image_84 : decode cX11_image 84 = .ok (.invokestatic 264, 3) := by decide +kernel
theorem dX11_image_87 : decode cX11_image 87 = .ok (.aload_n 0, 1) := by decide +kernel
theorem dX11_image_88 : decode cX11_image 88 = .ok (.getfield 46, 3) := by decide +kernel
theorem dX11_image_91 : decode cX11_image 91 = .ok (.aload_n 0, 1) := by decide +kernel
theorem dX11_image_92 : decode cX11_image 92 = .ok (.getfield 70, 3) := by decide +kernel
theorem dX11_image_95 : decode cX11_image 95 = .ok (.invokestatic 264, 3) := by decide +kernel
theorem dX11_image_98 : decode cX11_image 98 = .ok (.aload_n 0, 1) := by decide +kernel
theorem dX11_image_99 : decode cX11_image 99 = .ok (.aload_n 0, 1) := by decide +kernel
theorem dX11_image_100 : decode cX11_image 100 = .ok (.getfield 122, 3) := by decide +kernel
theorem dX11_image_103 : decode cX11_image 103 = .ok (.putfield 268, 3) := by decide +kernel
theorem dX11_image_106 : decode cX11_image 106 = .ok (.aload_n 0, 1) := by decide +kernel
theorem dX11_image_107 : decode cX11_image 107 = .ok (.aload_n 0, 1) := by decide +kernel
theorem dX11_image_108 : decode cX11_image 108 = .ok (.getfield 125, 3) := by decide +kernel
theorem dX11_image_111 : decode cX11_image 111 = .ok (.putfield 271, 3) := by decide +kernel
theorem dX11_image_114 : decode cX11_image 114 = .ok (.aload_n 0, 1) := by decide +kernel
theorem dX11_image_115 : decode cX11_image 115 = .ok (.aload_n 0, 1) := by decide +kernel
theorem dX11_image_116 : decode cX11_image 116 = .ok (.getfield 128, 3) := by decide +kernel
theorem dX11_image_119 : decode cX11_image 119 = .ok (.putfield 274, 3) := by decide +kernel
theorem dX11_image_122 : decode cX11_image 122 = .ok (.aload_n 0, 1) := by decide +kernel
theorem dX11_image_123 : decode cX11_image 123 = .ok (.aload_n 0, 1) := by decide +kernel
theorem dX11_image_124 : decode cX11_image 124 = .ok (.getfield 131, 3) := by decide +kernel
theorem dX11_image_127 : decode cX11_image 127 = .ok (.putfield 277, 3) := by decide +kernel
theorem dX11_image_130 : decode cX11_image 130 = .ok (.aload_n 0, 1) := by decide +kernel
theorem dX11_image_131 : decode cX11_image 131 = .ok (.aload_n 0, 1) := by decide +kernel
theorem dX11_image_132 : decode cX11_image 132 = .ok (.getfield 134, 3) := by decide +kernel
theorem dX11_image_135 : decode cX11_image 135 = .ok (.putfield 280, 3) := by decide +kernel
theorem dX11_image_138 : decode cX11_image 138 = .ok (.aload_n 0, 1) := by decide +kernel
theorem dX11_image_139 : decode cX11_image 139 = .ok (.aload_n 0, 1) := by decide +kernel
theorem dX11_image_140 : decode cX11_image 140 = .ok (.getfield 137, 3) := by decide +kernel
theorem dX11_image_143 : decode cX11_image 143 = .ok (.putfield 73, 3) := by decide +kernel
theorem dX11_image_146 : decode cX11_image 146 = .ok (.aload_n 0, 1) := by decide +kernel
theorem dX11_image_147 : decode cX11_image 147 = .ok (.getfield 128, 3) := by decide +kernel
theorem dX11_image_150 : decode cX11_image 150 = .ok (.ireturn, 1) := by decide +kernel
theorem dX11_restore_0 : decode cX11_restore 0 = .ok (.aload_n 0, 1) := by decide +kernel
theorem dX11_restore_1 : decode cX11_restore 1 = .ok (.getfield 73, 3) := by decide +kernel
theorem dX11_restore_4 : decode cX11_restore 4 = .ok (.aload_n 0, 1) := by decide +kernel
theorem dX11_restore_5 : decode cX11_restore 5 = .ok (.getfield 137, 3) := by decide +kernel
theorem dX11_restore_8 : decode cX11_restore 8 = .ok (.if_icmp .eq 6, 3) := by decide +kernel
theorem dX11_restore_11 : decode cX11_restore 11 = .ok (.bipush (-103), 2) := by decide +kernel
theorem dX11_restore_13 : decode cX11_restore 13 = .ok (.ireturn, 1) := by decide +kernel
theorem dX11_restore_14 : decode cX11_restore 14 = .ok (.aload_n 0, 1) := by decide +kernel
theorem dX11_restore_15 : decode cX11_restore 15 = .ok (.getfield 49, 3) := by decide +kernel
theorem dX11_restore_18 : decode cX11_restore 18 = .ok (.aload_n 0, 1) := by decide +kernel
theorem dX11_restore_19 : decode cX11_restore 19 = .ok (.getfield 13, 3) := by decide +kernel
theorem dX11_restore_22 : decode cX11_restore 22 = .ok (.invokestatic 264, 3) := by decide +kernel
theorem dX11_restore_25 : decode cX11_restore 25 = .ok (.aload_n 0, 1) := by decide +kernel
theorem dX11_restore_26 : decode cX11_restore 26 = .ok (.getfield 52, 3) := by decide +kernel
theorem dX11_restore_29 : decode cX11_restore 29 = .ok (.aload_n 0, 1) := by decide +kernel
theorem dX11_restore_30 : decode cX11_restore 30 = .ok (.getfield 16, 3) := by decide +kernel
theorem dX11_restore_33 : decode cX11_restore 33 = .ok (.invokestatic 264, 3) := by decide +kernel
theorem dX11_restore_36 : decode cX11_restore 36 = .ok (.aload_n 0, 1) := by decide +kernel
theorem dX11_restore_37 : decode cX11_restore 37 = .ok (.getfield 55, 3) := by decide +kernel
theorem dX11_restore_40 : decode cX11_restore 40 = .ok (.aload_n 0, 1) := by decide +kernel
theorem dX11_restore_41 : decode cX11_restore 41 = .ok (.getfield 19, 3) := by decide +kernel
theorem dX11_restore_44 : decode cX11_restore 44 = .ok (.invokestatic 264, 3) := by decide +kernel
theorem dX11_restore_47 : decode cX11_restore 47 = .ok (.aload_n 0, 1) := by decide +kernel
theorem dX11_restore_48 : decode cX11_restore 48 = .ok (.getfield 58, 3) := by decide +kernel
theorem dX11_restore_51 : decode cX11_restore 51 = .ok (.aload_n 0, 1) := by decide +kernel
theorem dX11_restore_52 : decode cX11_restore 52 = .ok (.getfield 22, 3) := by decide +kernel
theorem dX11_restore_55 : decode cX11_restore 55 = .ok (.invokestatic 264, 3) := by decide +kernel
theorem dX11_restore_58 : decode cX11_restore 58 = .ok (.aload_n 0, 1) := by decide +kernel
theorem dX11_restore_59 : decode cX11_restore 59 = .ok (.getfield 61, 3) := by decide +kernel
theorem dX11_restore_62 : decode cX11_restore 62 = .ok (.aload_n 0, 1) := by decide +kernel
theorem dX11_restore_63 : decode cX11_restore 63 = .ok (.getfield 28, 3) := by decide +kernel
theorem dX11_restore_66 : decode cX11_restore 66 = .ok (.invokestatic 264, 3) := by decide +kernel
theorem dX11_restore_69 : decode cX11_restore 69 = .ok (.aload_n 0, 1) := by decide +kernel
theorem dX11_restore_70 : decode cX11_restore 70 = .ok (.getfield 64, 3) := by decide +kernel
theorem dX11_restore_73 : decode cX11_restore 73 = .ok (.aload_n 0, 1) := by decide +kernel
theorem dX11_restore_74 : decode cX11_restore 74 = .ok (.getfield 31, 3) := by decide +kernel
theorem dX11_restore_77 : decode cX11_restore 77 = .ok (.invokestatic 264, 3) := by decide +kernel
theorem dX11_restore_80 : decode cX11_restore 80 = .ok (.aload_n 0, 1) := by decide +kernel
theorem dX11_restore_81 : decode cX11_restore 81 = .ok (.getfield 67, 3) := by decide +kernel
theorem dX11_restore_84 : decode cX11_restore 84 = .ok (.aload_n 0, 1) := by decide +kernel
theorem dX11_restore_85 : decode cX11_restore 85 = .ok (.getfield 34, 3) := by decide +kernel
theorem dX11_restore_88 : decode cX11_restore 88 = .ok (.invokestatic 264, 3) := by decide +kernel
theorem dX11_restore_91 : decode cX11_restore 91 = .ok (.aload_n 0, 1) := by decide +kernel
theorem dX11_restore_92 : decode cX11_restore 92 = .ok (.getfield 70, 3) := by decide +kernel
theorem dX11_restore_95 : decode cX11_restore 95 = .ok (.aload_n 0, 1) := by decide +kernel
theorem dX11_restore_96 : decode cX11_restore 96 = .ok (.getfield 46, 3) := by decide +kernel
theorem dX11_restore_99 : decode cX11_restore 99 = .ok (.invokestatic 264, 3) := by decide +kernel
theorem dX11_restore_102 : decode cX11_restore 102 = .ok (.aload_n 0, 1) := by decide +kernel
theorem dX11_restore_103 : decode cX11_restore 103 = .ok (.aload_n 0, 1) := by decide +kernel
theorem dX11_restore_104 : decode cX11_restore 104 = .ok (.getfield 268, 3) := by decide +kernel
theorem dX11_restore_107 : decode cX11_restore 107 = .ok (.putfield 122, 3) := by decide +kernel
theorem dX11_restore_110 : decode cX11_restore 110 = .ok (.aload_n 0, 1) := by decide +kernel
theorem dX11_restore_111 : decode cX11_restore 111 = .ok (.aload_n 0, 1) := by decide +kernel
theorem dX11_restore_112 : decode cX11_restore 112 = .ok (.getfield 271, 3) := by decide +kernel
theorem dX11_restore_115 : decode cX11_restore 115 = .ok (.putfield 125, 3) := by decide +kernel
theorem dX11_restore_118 : decode cX11_restore 118 = .ok (.aload_n 0, 1) := by decide +kernel
theorem dX11_restore_119 : decode cX11_restore 119 = .ok (.aload_n 0, 1) := by decide +kernel
theorem dX11_restore_120 : decode cX11_restore 120 = .ok (.getfield 274, 3) := by decide +kernel
theorem dX11_restore_123 : decode cX11_restore 123 = .ok (.putfield 128, 3) := by decide +kernel
theorem dX11_restore_126 : decode cX11_restore 126 = .ok (.aload_n 0, 1) := by decide +kernel
theorem dX11_restore_127 : decode cX11_restore 127 = .ok (.aload_n 0, 1) := by decide +kernel
theorem dX11_restore_128 : decode cX11_restore 128 = .ok (.getfield 277, 3) := by decide +kernel
theorem dX11_restore_131 : decode cX11_restore 131 = .ok (.putfield 131, 3) := by decide +kernel
theorem dX11_restore_134 : decode cX11_restore 134 = .ok (.aload_n 0, 1) := by decide +kernel
theorem dX11_restore_135 : decode cX11_restore 135 = .ok (.aload_n 0, 1) := by decide +kernel
theorem dX11_restore_136 : decode cX11_restore 136 = .ok (.getfield 280, 3) := by decide +kernel
theorem dX11_restore_139 : decode cX11_restore 139 = .ok (.putfield 134, 3) := by decide +kernel
theorem dX11_restore_142 : decode cX11_restore 142 = .ok (.aload_n 0, 1) := by decide +kernel
theorem dX11_restore_143 : decode cX11_restore 143 = .ok (.getfield 128, 3) := by decide +kernel
theorem dX11_restore_146 : decode cX11_restore 146 = .ok (.ireturn, 1) := by decide +kernel
theorem dX11_sumOf_0 : decode cX11_sumOf 0 = .ok (.iconst 0, 1) := by decide +kernel
theorem dX11_sumOf_1 : decode cX11_sumOf 1 = .ok (.istore_n 2, 1) := by decide +kernel
theorem dX11_sumOf_2 : decode cX11_sumOf 2 = .ok (.iconst 0, 1) := by decide +kernel
theorem dX11_sumOf_3 : decode cX11_sumOf 3 = .ok (.istore_n 3, 1) := by decide +kernel
theorem dX11_sumOf_4 : decode cX11_sumOf 4 = .ok (.iload_n 3, 1) := by decide +kernel
theorem dX11_sumOf_5 : decode cX11_sumOf 5 = .ok (.aload_n 0, 1) := by decide +kernel
theorem dX11_sumOf_6 : decode cX11_sumOf 6 = .ok (.getfield 116, 3) := by decide +kernel
theorem dX11_sumOf_9 : decode cX11_sumOf 9 = .ok (.if_icmp .ge 15, 3) := by decide +kernel
theorem dX11_sumOf_12 : decode cX11_sumOf 12 = .ok (.iload_n 2, 1) := by decide +kernel
theorem dX11_sumOf_13 : decode cX11_sumOf 13 = .ok (.aload_n 1, 1) := by decide +kernel
theorem dX11_sumOf_14 : decode cX11_sumOf 14 = .ok (.iload_n 3, 1) := by decide +kernel
theorem dX11_sumOf_15 : decode cX11_sumOf 15 = .ok (.iaload, 1) := by decide +kernel
theorem dX11_sumOf_16 : decode cX11_sumOf 16 = .ok (.iadd, 1) := by decide +kernel
theorem dX11_sumOf_17 : decode cX11_sumOf 17 = .ok (.istore_n 2, 1) := by decide +kernel
theorem dX11_sumOf_18 : decode cX11_sumOf 18 = .ok (.iinc 3 1, 3) := by decide +kernel
theorem dX11_sumOf_21 : decode cX11_sumOf 21 = .ok (.goto (-17), 3) := by decide +kernel
theorem dX11_sumOf_24 : decode cX11_sumOf 24 = .ok (.iload_n 2, 1) := by decide +kernel
theorem dX11_sumOf_25 : decode cX11_sumOf 25 = .ok (.ireturn, 1) := by decide +kernel
theorem dX11_countOf_0 : decode cX11_countOf 0 = .ok (.iload_n 1, 1) := by decide +kernel
theorem dX11_countOf_1 : decode cX11_countOf 1 = .ok (.tableswitch 137 0 11 #[63, 68, 73, 82, 87, 94, 99, 108, 117, 122, 127, 132], 63) := by decide +kernel
theorem dX11_countOf_64 : decode cX11_countOf 64 = .ok (.aload_n 0, 1) := by decide +kernel
theorem dX11_countOf_65 : decode cX11_countOf 65 = .ok (.getfield 116, 3) := by decide +kernel
theorem dX11_countOf_68 : decode cX11_countOf 68 = .ok (.ireturn, 1) := by decide +kernel
theorem dX11_countOf_69 : decode cX11_countOf 69 = .ok (.aload_n 0, 1) := by decide +kernel
theorem dX11_countOf_70 : decode cX11_countOf 70 = .ok (.getfield 119, 3) := by decide +kernel
theorem dX11_countOf_73 : decode cX11_countOf 73 = .ok (.ireturn, 1) := by decide +kernel
theorem dX11_countOf_74 : decode cX11_countOf 74 = .ok (.aload_n 0, 1) := by decide +kernel
theorem dX11_countOf_75 : decode cX11_countOf 75 = .ok (.aload_n 0, 1) := by decide +kernel
theorem dX11_countOf_76 : decode cX11_countOf 76 = .ok (.getfield 16, 3) := by decide +kernel
theorem dX11_countOf_79 : decode cX11_countOf 79 = .ok (.invokevirtual 283, 3) := by decide +kernel
theorem dX11_countOf_82 : decode cX11_countOf 82 = .ok (.ireturn, 1) := by decide +kernel
theorem dX11_countOf_83 : decode cX11_countOf 83 = .ok (.aload_n 0, 1) := by decide +kernel
theorem dX11_countOf_84 : decode cX11_countOf 84 = .ok (.getfield 125, 3) := by decide +kernel
theorem dX11_countOf_87 : decode cX11_countOf 87 = .ok (.ireturn, 1) := by decide +kernel
theorem dX11_countOf_88 : decode cX11_countOf 88 = .ok (.aload_n 0, 1) := by decide +kernel
theorem dX11_countOf_89 : decode cX11_countOf 89 = .ok (.getfield 122, 3) := by decide +kernel
theorem dX11_countOf_92 : decode cX11_countOf 92 = .ok (.iconst 1, 1) := by decide +kernel
theorem dX11_countOf_93 : decode cX11_countOf 93 = .ok (.iadd, 1) := by decide +kernel
theorem dX11_countOf_94 : decode cX11_countOf 94 = .ok (.ireturn, 1) := by decide +kernel
theorem dX11_countOf_95 : decode cX11_countOf 95 = .ok (.aload_n 0, 1) := by decide +kernel
theorem dX11_countOf_96 : decode cX11_countOf 96 = .ok (.getfield 128, 3) := by decide +kernel
theorem dX11_countOf_99 : decode cX11_countOf 99 = .ok (.ireturn, 1) := by decide +kernel
theorem dX11_countOf_100 : decode cX11_countOf 100 = .ok (.aload_n 0, 1) := by decide +kernel
theorem dX11_countOf_101 : decode cX11_countOf 101 = .ok (.aload_n 0, 1) := by decide +kernel
theorem dX11_countOf_102 : decode cX11_countOf 102 = .ok (.getfield 19, 3) := by decide +kernel
theorem dX11_countOf_105 : decode cX11_countOf 105 = .ok (.invokevirtual 283, 3) := by decide +kernel
theorem dX11_countOf_108 : decode cX11_countOf 108 = .ok (.ireturn, 1) := by decide +kernel
theorem dX11_countOf_109 : decode cX11_countOf 109 = .ok (.aload_n 0, 1) := by decide +kernel
theorem dX11_countOf_110 : decode cX11_countOf 110 = .ok (.aload_n 0, 1) := by decide +kernel
theorem dX11_countOf_111 : decode cX11_countOf 111 = .ok (.getfield 22, 3) := by decide +kernel
theorem dX11_countOf_114 : decode cX11_countOf 114 = .ok (.invokevirtual 283, 3) := by decide +kernel
theorem dX11_countOf_117 : decode cX11_countOf 117 = .ok (.ireturn, 1) := by decide +kernel
theorem dX11_countOf_118 : decode cX11_countOf 118 = .ok (.aload_n 0, 1) := by decide +kernel
theorem dX11_countOf_119 : decode cX11_countOf 119 = .ok (.getfield 131, 3) := by decide +kernel
theorem dX11_countOf_122 : decode cX11_countOf 122 = .ok (.ireturn, 1) := by decide +kernel
theorem dX11_countOf_123 : decode cX11_countOf 123 = .ok (.aload_n 0, 1) := by decide +kernel
theorem dX11_countOf_124 : decode cX11_countOf 124 = .ok (.getfield 134, 3) := by decide +kernel
theorem dX11_countOf_127 : decode cX11_countOf 127 = .ok (.ireturn, 1) := by decide +kernel
theorem dX11_countOf_128 : decode cX11_countOf 128 = .ok (.aload_n 0, 1) := by decide +kernel
theorem dX11_countOf_129 : decode cX11_countOf 129 = .ok (.getfield 83, 3) := by decide +kernel
theorem dX11_countOf_132 : decode cX11_countOf 132 = .ok (.ireturn, 1) := by decide +kernel
theorem dX11_countOf_133 : decode cX11_countOf 133 = .ok (.aload_n 0, 1) := by decide +kernel
theorem dX11_countOf_134 : decode cX11_countOf 134 = .ok (.getfield 137, 3) := by decide +kernel
theorem dX11_countOf_137 : decode cX11_countOf 137 = .ok (.ireturn, 1) := by decide +kernel
theorem dX11_countOf_138 : decode cX11_countOf 138 = .ok (.bipush (-102), 2) := by decide +kernel
theorem dX11_countOf_140 : decode cX11_countOf 140 = .ok (.ireturn, 1) := by decide +kernel
theorem dX11_count_0 : decode cX11_count 0 = .ok (.aload_n 0, 1) := by decide +kernel
theorem dX11_count_1 : decode cX11_count 1 = .ok (.iload_n 1, 1) := by decide +kernel
theorem dX11_count_2 : decode cX11_count 2 = .ok (.invokevirtual 287, 3) := by decide +kernel
theorem dX11_count_5 : decode cX11_count 5 = .ok (.ireturn, 1) := by decide +kernel
theorem dX11_say_0 : decode cX11_say 0 = .ok (.aload_n 0, 1) := by decide +kernel
theorem dX11_say_1 : decode cX11_say 1 = .ok (.ldc2_w 290, 3) := by decide +kernel
theorem dX11_say_4 : decode cX11_say 4 = .ok (.aload_n 0, 1) := by decide +kernel
theorem dX11_say_5 : decode cX11_say 5 = .ok (.getfield 292, 3) := by decide +kernel
theorem dX11_say_8 : decode cX11_say 8 = .ok (.lmul, 1) := by decide +kernel
theorem dX11_say_9 : decode cX11_say 9 = .ok (.lload_n 1, 1) := by decide +kernel
theorem dX11_say_10 : decode cX11_say 10 = .ok (.ladd, 1) := by decide +kernel
theorem dX11_say_11 : decode cX11_say 11 = .ok (.putfield 292, 3) := by decide +kernel
theorem dX11_say_14 : decode cX11_say 14 = .ok (.return_, 1) := by decide +kernel
theorem dX11_sayTosser_0 : decode cX11_sayTosser 0 = .ok (.iconst 0, 1) := by decide +kernel
theorem dX11_sayTosser_1 : decode cX11_sayTosser 1 = .ok (.istore_n 2, 1) := by decide +kernel
theorem dX11_sayTosser_2 : decode cX11_sayTosser 2 = .ok (.iload_n 2, 1) := by decide +kernel
theorem dX11_sayTosser_3 : decode cX11_sayTosser 3 = .ok (.bipush 9, 2) := by decide +kernel
theorem dX11_sayTosser_5 : decode cX11_sayTosser 5 = .ok (.if_icmp .ge 20, 3) := by decide +kernel
theorem dX11_sayTosser_8 : decode cX11_sayTosser 8 = .ok (.aload_n 0, 1) := by decide +kernel
theorem dX11_sayTosser_9 : decode cX11_sayTosser 9 = .ok (.aload_n 0, 1) := by decide +kernel
theorem dX11_sayTosser_10 : decode cX11_sayTosser 10 = .ok (.iload_n 1, 1) := by decide +kernel
theorem dX11_sayTosser_11 : decode cX11_sayTosser 11 = .ok (.iload_n 2, 1) := by decide +kernel
theorem dX11_sayTosser_12 : decode cX11_sayTosser 12 = .ok (.invokevirtual 206, 3) := by decide +kernel
theorem dX11_sayTosser_15 : decode cX11_sayTosser 15 = .ok (.i2l, 1) := by decide +kernel
theorem dX11_sayTosser_16 : decode cX11_sayTosser 16 = .ok (.invokevirtual 296, 3) := by decide +kernel
theorem dX11_sayTosser_19 : decode cX11_sayTosser 19 = .ok (.iinc 2 1, 3) := by decide +kernel
theorem dX11_sayTosser_22 : decode cX11_sayTosser 22 = .ok (.goto (-20), 3) := by decide +kernel
theorem dX11_sayTosser_25 : decode cX11_sayTosser 25 = .ok (.aload_n 0, 1) := by decide +kernel
theorem dX11_sayTosser_26 : decode cX11_sayTosser 26 = .ok (.aload_n 0, 1) := by decide +kernel
theorem dX11_sayTosser_27 : decode cX11_sayTosser 27 = .ok (.iload_n 1, 1) := by decide +kernel
theorem dX11_sayTosser_28 : decode cX11_sayTosser 28 = .ok (.bipush 14, 2) := by decide +kernel
theorem dX11_sayTosser_30 : decode cX11_sayTosser 30 = .ok (.aload_n 0, 1) := by decide +kernel
theorem dX11_sayTosser_31 : decode cX11_sayTosser 31 = .ok (.getfield 122, 3) := by decide +kernel
theorem dX11_sayTosser_34 : decode cX11_sayTosser 34 = .ok (.invokevirtual 151, 3) := by decide +kernel
theorem dX11_sayTosser_37 : decode cX11_sayTosser 37 = .ok (.i2l, 1) := by decide +kernel
theorem dX11_sayTosser_38 : decode cX11_sayTosser 38 = .ok (.invokevirtual 296, 3) := by decide +kernel
theorem dX11_sayTosser_41 : decode cX11_sayTosser 41 = .ok (.aload_n 0, 1) := by decide +kernel
theorem dX11_sayTosser_42 : decode cX11_sayTosser 42 = .ok (.aload_n 0, 1) := by decide +kernel
theorem dX11_sayTosser_43 : decode cX11_sayTosser 43 = .ok (.iload_n 1, 1) := by decide +kernel
theorem dX11_sayTosser_44 : decode cX11_sayTosser 44 = .ok (.bipush 14, 2) := by decide +kernel
theorem dX11_sayTosser_46 : decode cX11_sayTosser 46 = .ok (.aload_n 0, 1) := by decide +kernel
theorem dX11_sayTosser_47 : decode cX11_sayTosser 47 = .ok (.getfield 122, 3) := by decide +kernel
theorem dX11_sayTosser_50 : decode cX11_sayTosser 50 = .ok (.invokevirtual 169, 3) := by decide +kernel
theorem dX11_sayTosser_53 : decode cX11_sayTosser 53 = .ok (.i2l, 1) := by decide +kernel
theorem dX11_sayTosser_54 : decode cX11_sayTosser 54 = .ok (.invokevirtual 296, 3) := by decide +kernel
theorem dX11_sayTosser_57 : decode cX11_sayTosser 57 = .ok (.return_, 1) := by decide +kernel
theorem dX11_sayPort_0 : decode cX11_sayPort 0 = .ok (.aload_n 0, 1) := by decide +kernel
theorem dX11_sayPort_1 : decode cX11_sayPort 1 = .ok (.aload_n 0, 1) := by decide +kernel
theorem dX11_sayPort_2 : decode cX11_sayPort 2 = .ok (.iconst 0, 1) := by decide +kernel
theorem dX11_sayPort_3 : decode cX11_sayPort 3 = .ok (.invokevirtual 237, 3) := by decide +kernel
theorem dX11_sayPort_6 : decode cX11_sayPort 6 = .ok (.i2l, 1) := by decide +kernel
theorem dX11_sayPort_7 : decode cX11_sayPort 7 = .ok (.invokevirtual 296, 3) := by decide +kernel
theorem dX11_sayPort_10 : decode cX11_sayPort 10 = .ok (.aload_n 0, 1) := by decide +kernel
theorem dX11_sayPort_11 : decode cX11_sayPort 11 = .ok (.aload_n 0, 1) := by decide +kernel
theorem dX11_sayPort_12 : decode cX11_sayPort 12 = .ok (.iconst 1, 1) := by decide +kernel
theorem dX11_sayPort_13 : decode cX11_sayPort 13 = .ok (.invokevirtual 237, 3) := by decide +kernel
theorem dX11_sayPort_16 : decode cX11_sayPort 16 = .ok (.i2l, 1) := by decide +kernel
theorem dX11_sayPort_17 : decode cX11_sayPort 17 = .ok (.invokevirtual 296, 3) := by decide +kernel
theorem dX11_sayPort_20 : decode cX11_sayPort 20 = .ok (.bipush 10, 2) := by decide +kernel
theorem dX11_sayPort_22 : decode cX11_sayPort 22 = .ok (.istore_n 1, 1) := by decide +kernel
theorem dX11_sayPort_23 : decode cX11_sayPort 23 = .ok (.iload_n 1, 1) := by decide +kernel
theorem dX11_sayPort_24 : decode cX11_sayPort 24 = .ok (.bipush 16, 2) := by decide +kernel
theorem dX11_sayPort_26 : decode cX11_sayPort 26 = .ok (.if_icmp .ge 19, 3) := by decide +kernel
theorem dX11_sayPort_29 : decode cX11_sayPort 29 = .ok (.aload_n 0, 1) := by decide +kernel
theorem dX11_sayPort_30 : decode cX11_sayPort 30 = .ok (.aload_n 0, 1) := by decide +kernel
theorem dX11_sayPort_31 : decode cX11_sayPort 31 = .ok (.iload_n 1, 1) := by decide +kernel
theorem dX11_sayPort_32 : decode cX11_sayPort 32 = .ok (.invokevirtual 237, 3) := by decide +kernel
theorem dX11_sayPort_35 : decode cX11_sayPort 35 = .ok (.i2l, 1) := by decide +kernel
theorem dX11_sayPort_36 : decode cX11_sayPort 36 = .ok (.invokevirtual 296, 3) := by decide +kernel
theorem dX11_sayPort_39 : decode cX11_sayPort 39 = .ok (.iinc 1 1, 3) := by decide +kernel
theorem dX11_sayPort_42 : decode cX11_sayPort 42 = .ok (.goto (-19), 3) := by decide +kernel
theorem dX11_sayPort_45 : decode cX11_sayPort 45 = .ok (.aload_n 0, 1) := by decide +kernel
theorem dX11_sayPort_46 : decode cX11_sayPort 46 = .ok (.aload_n 0, 1) := by decide +kernel
theorem dX11_sayPort_47 : decode cX11_sayPort 47 = .ok (.invokevirtual 240, 3) := by decide +kernel
theorem dX11_sayPort_50 : decode cX11_sayPort 50 = .ok (.i2l, 1) := by decide +kernel
theorem dX11_sayPort_51 : decode cX11_sayPort 51 = .ok (.invokevirtual 296, 3) := by decide +kernel
theorem dX11_sayPort_54 : decode cX11_sayPort 54 = .ok (.aload_n 0, 1) := by decide +kernel
theorem dX11_sayPort_55 : decode cX11_sayPort 55 = .ok (.aload_n 0, 1) := by decide +kernel
theorem dX11_sayPort_56 : decode cX11_sayPort 56 = .ok (.iconst 0, 1) := by decide +kernel
theorem dX11_sayPort_57 : decode cX11_sayPort 57 = .ok (.invokevirtual 243, 3) := by decide +kernel
theorem dX11_sayPort_60 : decode cX11_sayPort 60 = .ok (.i2l, 1) := by decide +kernel
theorem dX11_sayPort_61 : decode cX11_sayPort 61 = .ok (.invokevirtual 296, 3) := by decide +kernel
theorem dX11_sayPort_64 : decode cX11_sayPort 64 = .ok (.aload_n 0, 1) := by decide +kernel
theorem dX11_sayPort_65 : decode cX11_sayPort 65 = .ok (.aload_n 0, 1) := by decide +kernel
theorem dX11_sayPort_66 : decode cX11_sayPort 66 = .ok (.bipush 21, 2) := by decide +kernel
theorem dX11_sayPort_68 : decode cX11_sayPort 68 = .ok (.invokevirtual 243, 3) := by decide +kernel
theorem dX11_sayPort_71 : decode cX11_sayPort 71 = .ok (.i2l, 1) := by decide +kernel
theorem dX11_sayPort_72 : decode cX11_sayPort 72 = .ok (.invokevirtual 296, 3) := by decide +kernel
theorem dX11_sayPort_75 : decode cX11_sayPort 75 = .ok (.return_, 1) := by decide +kernel
theorem dX11_digest_0 : decode cX11_digest 0 = .ok (.aload_n 0, 1) := by decide +kernel
theorem dX11_digest_1 : decode cX11_digest 1 = .ok (.ldc2_w 300, 3) := by decide +kernel
theorem dX11_digest_4 : decode cX11_digest 4 = .ok (.putfield 292, 3) := by decide +kernel
theorem dX11_digest_7 : decode cX11_digest 7 = .ok (.iconst 0, 1) := by decide +kernel
theorem dX11_digest_8 : decode cX11_digest 8 = .ok (.istore_n 1, 1) := by decide +kernel
theorem dX11_digest_9 : decode cX11_digest 9 = .ok (.iload_n 1, 1) := by decide +kernel
theorem dX11_digest_10 : decode cX11_digest 10 = .ok (.aload_n 0, 1) := by decide +kernel
theorem dX11_digest_11 : decode cX11_digest 11 = .ok (.getfield 116, 3) := by decide +kernel
theorem dX11_digest_14 : decode cX11_digest 14 = .ok (.if_icmp .ge 33, 3) := by decide +kernel
theorem dX11_digest_17 : decode cX11_digest 17 = .ok (.iconst 0, 1) := by decide +kernel
theorem dX11_digest_18 : decode cX11_digest 18 = .ok (.istore_n 2, 1) := by decide +kernel
theorem dX11_digest_19 : decode cX11_digest 19 = .ok (.iload_n 2, 1) := by decide +kernel
theorem dX11_digest_20 : decode cX11_digest 20 = .ok (.iconst 5, 1) := by decide +kernel
theorem dX11_digest_21 : decode cX11_digest 21 = .ok (.if_icmp .ge 20, 3) := by decide +kernel
theorem dX11_digest_24 : decode cX11_digest 24 = .ok (.aload_n 0, 1) := by decide +kernel
theorem dX11_digest_25 : decode cX11_digest 25 = .ok (.aload_n 0, 1) := by decide +kernel
theorem dX11_digest_26 : decode cX11_digest 26 = .ok (.iload_n 1, 1) := by decide +kernel
theorem dX11_digest_27 : decode cX11_digest 27 = .ok (.iload_n 2, 1) := by decide +kernel
theorem dX11_digest_28 : decode cX11_digest 28 = .ok (.invokevirtual 185, 3) := by decide +kernel
theorem dX11_digest_31 : decode cX11_digest 31 = .ok (.i2l, 1) := by decide +kernel
theorem dX11_digest_32 : decode cX11_digest 32 = .ok (.invokevirtual 296, 3) := by decide +kernel
theorem dX11_digest_35 : decode cX11_digest 35 = .ok (.iinc 2 1, 3) := by decide +kernel
theorem dX11_digest_38 : decode cX11_digest 38 = .ok (.goto (-19), 3) := by decide +kernel
theorem dX11_digest_41 : decode cX11_digest 41 = .ok (.iinc 1 1, 3) := by decide +kernel
theorem dX11_digest_44 : decode cX11_digest 44 = .ok (.goto (-35), 3) := by decide +kernel
theorem dX11_digest_47 : decode cX11_digest 47 = .ok (.iconst 0, 1) := by decide +kernel
theorem dX11_digest_48 : decode cX11_digest 48 = .ok (.istore_n 1, 1) := by decide +kernel
theorem dX11_digest_49 : decode cX11_digest 49 = .ok (.iload_n 1, 1) := by decide +kernel
theorem dX11_digest_50 : decode cX11_digest 50 = .ok (.aload_n 0, 1) := by decide +kernel
theorem dX11_digest_51 : decode cX11_digest 51 = .ok (.getfield 119, 3) := by decide +kernel
theorem dX11_digest_54 : decode cX11_digest 54 = .ok (.if_icmp .ge 14, 3) := by decide +kernel
theorem dX11_digest_57 : decode cX11_digest 57 = .ok (.aload_n 0, 1) := by decide +kernel
theorem dX11_digest_58 : decode cX11_digest 58 = .ok (.iload_n 1, 1) := by decide +kernel
theorem dX11_digest_59 : decode cX11_digest 59 = .ok (.invokevirtual 302, 3) := by decide +kernel
theorem dX11_digest_62 : decode cX11_digest 62 = .ok (.iinc 1 1, 3) := by decide +kernel
theorem dX11_digest_65 : decode cX11_digest 65 = .ok (.goto (-16), 3) := by decide +kernel
theorem dX11_digest_68 : decode cX11_digest 68 = .ok (.aload_n 0, 1) := by decide +kernel
theorem dX11_digest_69 : decode cX11_digest 69 = .ok (.invokevirtual 213, 3) := by decide +kernel
theorem dX11_digest_72 : decode cX11_digest 72 = .ok (.ifCond .ne 7, 3) := by decide +kernel
theorem dX11_digest_75 : decode cX11_digest 75 = .ok (.aload_n 0, 1) := by decide +kernel
theorem dX11_digest_76 : decode cX11_digest 76 = .ok (.invokevirtual 305, 3) := by decide +kernel
theorem dX11_digest_79 : decode cX11_digest 79 = .ok (.iconst 0, 1) := by decide +kernel
theorem dX11_digest_80 : decode cX11_digest 80 = .ok (.istore_n 1, 1) := by decide +kernel
theorem dX11_digest_81 : decode cX11_digest 81 = .ok (.iload_n 1, 1) := by decide +kernel
theorem dX11_digest_82 : decode cX11_digest 82 = .ok (.aload_n 0, 1) := by decide +kernel
theorem dX11_digest_83 : decode cX11_digest 83 = .ok (.getfield 83, 3) := by decide +kernel
theorem dX11_digest_86 : decode cX11_digest 86 = .ok (.if_icmp .ge 20, 3) := by decide +kernel
theorem dX11_digest_89 : decode cX11_digest 89 = .ok (.aload_n 0, 1) := by decide +kernel
theorem dX11_digest_90 : decode cX11_digest 90 = .ok (.aload_n 0, 1) := by decide +kernel
theorem dX11_digest_91 : decode cX11_digest 91 = .ok (.getfield 7, 3) := by decide +kernel
theorem dX11_digest_94 : decode cX11_digest 94 = .ok (.iload_n 1, 1) := by decide +kernel
theorem dX11_digest_95 : decode cX11_digest 95 = .ok (.iaload, 1) := by decide +kernel
theorem dX11_digest_96 : decode cX11_digest 96 = .ok (.i2l, 1) := by decide +kernel
theorem dX11_digest_97 : decode cX11_digest 97 = .ok (.invokevirtual 296, 3) := by decide +kernel
theorem dX11_digest_100 : decode cX11_digest 100 = .ok (.iinc 1 1, 3) := by decide +kernel
theorem dX11_digest_103 : decode cX11_digest 103 = .ok (.goto (-22), 3) := by decide +kernel
theorem dX11_digest_106 : decode cX11_digest 106 = .ok (.iconst 0, 1) := by decide +kernel
theorem dX11_digest_107 : decode cX11_digest 107 = .ok (.istore_n 1, 1) := by decide +kernel
theorem dX11_digest_108 : decode cX11_digest 108 = .ok (.iload_n 1, 1) := by decide +kernel
theorem dX11_digest_109 : decode cX11_digest 109 = .ok (.bipush 12, 2) := by decide +kernel
theorem dX11_digest_111 : decode cX11_digest 111 = .ok (.if_icmp .ge 19, 3) := by decide +kernel
theorem dX11_digest_114 : decode cX11_digest 114 = .ok (.aload_n 0, 1) := by decide +kernel
theorem dX11_digest_115 : decode cX11_digest 115 = .ok (.aload_n 0, 1) := by decide +kernel
theorem dX11_digest_116 : decode cX11_digest 116 = .ok (.iload_n 1, 1) := by decide +kernel
theorem dX11_digest_117 : decode cX11_digest 117 = .ok (.invokevirtual 287, 3) := by decide +kernel
theorem dX11_digest_120 : decode cX11_digest 120 = .ok (.i2l, 1) := by decide +kernel
theorem dX11_digest_121 : decode cX11_digest 121 = .ok (.invokevirtual 296, 3) := by decide +kernel
theorem dX11_digest_124 : decode cX11_digest 124 = .ok (.iinc 1 1, 3) := by decide +kernel
theorem dX11_digest_127 : decode cX11_digest 127 = .ok (.goto (-19), 3) := by decide +kernel
theorem dX11_digest_130 : decode cX11_digest 130 = .ok (.aload_n 0, 1) := by decide +kernel
theorem dX11_digest_131 : decode cX11_digest 131 = .ok (.getfield 292, 3) := by decide +kernel
theorem dX11_digest_134 : decode cX11_digest 134 = .ok (.lreturn, 1) := by decide +kernel
theorem dJ11_isValidCodePoint_9a6ad_0 : decode cJ11_isValidCodePoint_9a6ad 0 = .ok (.iload_n 0, 1) := by decide +kernel
theorem dJ11_isValidCodePoint_9a6ad_1 : decode cJ11_isValidCodePoint_9a6ad 1 = .ok (.bipush 16, 2) := by decide +kernel
theorem dJ11_isValidCodePoint_9a6ad_3 : decode cJ11_isValidCodePoint_9a6ad 3 = .ok (.iushr, 1) := by decide +kernel
theorem dJ11_isValidCodePoint_9a6ad_4 : decode cJ11_isValidCodePoint_9a6ad 4 = .ok (.istore_n 1, 1) := by decide +kernel
theorem dJ11_isValidCodePoint_9a6ad_5 : decode cJ11_isValidCodePoint_9a6ad 5 = .ok (.iload_n 1, 1) := by decide +kernel
theorem dJ11_isValidCodePoint_9a6ad_6 : decode cJ11_isValidCodePoint_9a6ad 6 = .ok (.bipush 17, 2) := by decide +kernel
theorem dJ11_isValidCodePoint_9a6ad_8 : decode cJ11_isValidCodePoint_9a6ad 8 = .ok (.if_icmp .ge 7, 3) := by decide +kernel
theorem dJ11_isValidCodePoint_9a6ad_11 : decode cJ11_isValidCodePoint_9a6ad 11 = .ok (.iconst 1, 1) := by decide +kernel
theorem dJ11_isValidCodePoint_9a6ad_12 : decode cJ11_isValidCodePoint_9a6ad 12 = .ok (.goto 4, 3) := by decide +kernel
theorem dJ11_isValidCodePoint_9a6ad_15 : decode cJ11_isValidCodePoint_9a6ad 15 = .ok (.iconst 0, 1) := by decide +kernel
theorem dJ11_isValidCodePoint_9a6ad_16 : decode cJ11_isValidCodePoint_9a6ad 16 = .ok (.ireturn, 1) := by decide +kernel
theorem dJ11_highSurrogate_5068e_0 : decode cJ11_highSurrogate_5068e 0 = .ok (.iload_n 0, 1) := by decide +kernel
theorem dJ11_highSurrogate_5068e_1 : decode cJ11_highSurrogate_5068e 1 = .ok (.bipush 10, 2) := by decide +kernel
theorem dJ11_highSurrogate_5068e_3 : decode cJ11_highSurrogate_5068e 3 = .ok (.iushr, 1) := by decide +kernel
theorem dJ11_highSurrogate_5068e_4 : decode cJ11_highSurrogate_5068e 4 = .ok (.ldc 110, 2) := by decide +kernel
theorem dJ11_highSurrogate_5068e_6 : decode cJ11_highSurrogate_5068e 6 = .ok (.iadd, 1) := by decide +kernel
theorem dJ11_highSurrogate_5068e_7 : decode cJ11_highSurrogate_5068e 7 = .ok (.i2c, 1) := by decide +kernel
theorem dJ11_highSurrogate_5068e_8 : decode cJ11_highSurrogate_5068e 8 = .ok (.ireturn, 1) := by decide +kernel
theorem dJ11_lowSurrogate_5068e_0 : decode cJ11_lowSurrogate_5068e 0 = .ok (.iload_n 0, 1) := by decide +kernel
theorem dJ11_lowSurrogate_5068e_1 : decode cJ11_lowSurrogate_5068e 1 = .ok (.sipush 1023, 3) := by decide +kernel
theorem dJ11_lowSurrogate_5068e_4 : decode cJ11_lowSurrogate_5068e 4 = .ok (.iand, 1) := by decide +kernel
theorem dJ11_lowSurrogate_5068e_5 : decode cJ11_lowSurrogate_5068e 5 = .ok (.ldc 76, 2) := by decide +kernel
theorem dJ11_lowSurrogate_5068e_7 : decode cJ11_lowSurrogate_5068e 7 = .ok (.iadd, 1) := by decide +kernel
theorem dJ11_lowSurrogate_5068e_8 : decode cJ11_lowSurrogate_5068e 8 = .ok (.i2c, 1) := by decide +kernel
theorem dJ11_lowSurrogate_5068e_9 : decode cJ11_lowSurrogate_5068e 9 = .ok (.ireturn, 1) := by decide +kernel
theorem dJ6_bitCount_0f7a4_0 : decode cJ6_bitCount_0f7a4 0 = .ok (.iload_n 0, 1) := by decide +kernel
theorem dJ6_bitCount_0f7a4_1 : decode cJ6_bitCount_0f7a4 1 = .ok (.iload_n 0, 1) := by decide +kernel
theorem dJ6_bitCount_0f7a4_2 : decode cJ6_bitCount_0f7a4 2 = .ok (.iconst 1, 1) := by decide +kernel
theorem dJ6_bitCount_0f7a4_3 : decode cJ6_bitCount_0f7a4 3 = .ok (.iushr, 1) := by decide +kernel
theorem dJ6_bitCount_0f7a4_4 : decode cJ6_bitCount_0f7a4 4 = .ok (.ldc_w 265, 3) := by decide +kernel
theorem dJ6_bitCount_0f7a4_7 : decode cJ6_bitCount_0f7a4 7 = .ok (.iand, 1) := by decide +kernel
theorem dJ6_bitCount_0f7a4_8 : decode cJ6_bitCount_0f7a4 8 = .ok (.isub, 1) := by decide +kernel
theorem dJ6_bitCount_0f7a4_9 : decode cJ6_bitCount_0f7a4 9 = .ok (.istore_n 0, 1) := by decide +kernel
theorem dJ6_bitCount_0f7a4_10 : decode cJ6_bitCount_0f7a4 10 = .ok (.iload_n 0, 1) := by decide +kernel
theorem dJ6_bitCount_0f7a4_11 : decode cJ6_bitCount_0f7a4 11 = .ok (.ldc_w 266, 3) := by decide +kernel
theorem dJ6_bitCount_0f7a4_14 : decode cJ6_bitCount_0f7a4 14 = .ok (.iand, 1) := by decide +kernel
theorem dJ6_bitCount_0f7a4_15 : decode cJ6_bitCount_0f7a4 15 = .ok (.iload_n 0, 1) := by decide +kernel
theorem dJ6_bitCount_0f7a4_16 : decode cJ6_bitCount_0f7a4 16 = .ok (.iconst 2, 1) := by decide +kernel
theorem dJ6_bitCount_0f7a4_17 : decode cJ6_bitCount_0f7a4 17 = .ok (.iushr, 1) := by decide +kernel
theorem dJ6_bitCount_0f7a4_18 : decode cJ6_bitCount_0f7a4 18 = .ok (.ldc_w 266, 3) := by decide +kernel
theorem dJ6_bitCount_0f7a4_21 : decode cJ6_bitCount_0f7a4 21 = .ok (.iand, 1) := by decide +kernel
theorem dJ6_bitCount_0f7a4_22 : decode cJ6_bitCount_0f7a4 22 = .ok (.iadd, 1) := by decide +kernel
theorem dJ6_bitCount_0f7a4_23 : decode cJ6_bitCount_0f7a4 23 = .ok (.istore_n 0, 1) := by decide +kernel
theorem dJ6_bitCount_0f7a4_24 : decode cJ6_bitCount_0f7a4 24 = .ok (.iload_n 0, 1) := by decide +kernel
theorem dJ6_bitCount_0f7a4_25 : decode cJ6_bitCount_0f7a4 25 = .ok (.iload_n 0, 1) := by decide +kernel
theorem dJ6_bitCount_0f7a4_26 : decode cJ6_bitCount_0f7a4 26 = .ok (.iconst 4, 1) := by decide +kernel
theorem dJ6_bitCount_0f7a4_27 : decode cJ6_bitCount_0f7a4 27 = .ok (.iushr, 1) := by decide +kernel
theorem dJ6_bitCount_0f7a4_28 : decode cJ6_bitCount_0f7a4 28 = .ok (.iadd, 1) := by decide +kernel
theorem dJ6_bitCount_0f7a4_29 : decode cJ6_bitCount_0f7a4 29 = .ok (.ldc_w 267, 3) := by decide +kernel
theorem dJ6_bitCount_0f7a4_32 : decode cJ6_bitCount_0f7a4 32 = .ok (.iand, 1) := by decide +kernel
theorem dJ6_bitCount_0f7a4_33 : decode cJ6_bitCount_0f7a4 33 = .ok (.istore_n 0, 1) := by decide +kernel
theorem dJ6_bitCount_0f7a4_34 : decode cJ6_bitCount_0f7a4 34 = .ok (.iload_n 0, 1) := by decide +kernel
theorem dJ6_bitCount_0f7a4_35 : decode cJ6_bitCount_0f7a4 35 = .ok (.iload_n 0, 1) := by decide +kernel
theorem dJ6_bitCount_0f7a4_36 : decode cJ6_bitCount_0f7a4 36 = .ok (.bipush 8, 2) := by decide +kernel
theorem dJ6_bitCount_0f7a4_38 : decode cJ6_bitCount_0f7a4 38 = .ok (.iushr, 1) := by decide +kernel
theorem dJ6_bitCount_0f7a4_39 : decode cJ6_bitCount_0f7a4 39 = .ok (.iadd, 1) := by decide +kernel
theorem dJ6_bitCount_0f7a4_40 : decode cJ6_bitCount_0f7a4 40 = .ok (.istore_n 0, 1) := by decide +kernel
theorem dJ6_bitCount_0f7a4_41 : decode cJ6_bitCount_0f7a4 41 = .ok (.iload_n 0, 1) := by decide +kernel
theorem dJ6_bitCount_0f7a4_42 : decode cJ6_bitCount_0f7a4 42 = .ok (.iload_n 0, 1) := by decide +kernel
theorem dJ6_bitCount_0f7a4_43 : decode cJ6_bitCount_0f7a4 43 = .ok (.bipush 16, 2) := by decide +kernel
theorem dJ6_bitCount_0f7a4_45 : decode cJ6_bitCount_0f7a4 45 = .ok (.iushr, 1) := by decide +kernel
theorem dJ6_bitCount_0f7a4_46 : decode cJ6_bitCount_0f7a4 46 = .ok (.iadd, 1) := by decide +kernel
theorem dJ6_bitCount_0f7a4_47 : decode cJ6_bitCount_0f7a4 47 = .ok (.istore_n 0, 1) := by decide +kernel
theorem dJ6_bitCount_0f7a4_48 : decode cJ6_bitCount_0f7a4 48 = .ok (.iload_n 0, 1) := by decide +kernel
theorem dJ6_bitCount_0f7a4_49 : decode cJ6_bitCount_0f7a4 49 = .ok (.bipush 63, 2) := by decide +kernel
theorem dJ6_bitCount_0f7a4_51 : decode cJ6_bitCount_0f7a4 51 = .ok (.iand, 1) := by decide +kernel
theorem dJ6_bitCount_0f7a4_52 : decode cJ6_bitCount_0f7a4 52 = .ok (.ireturn, 1) := by decide +kernel
theorem dJ9_abs_0f7a4_0 : decode cJ9_abs_0f7a4 0 = .ok (.iload_n 0, 1) := by decide +kernel
theorem dJ9_abs_0f7a4_1 : decode cJ9_abs_0f7a4 1 = .ok (.ifCond .ge 8, 3) := by decide +kernel
theorem dJ9_abs_0f7a4_4 : decode cJ9_abs_0f7a4 4 = .ok (.iload_n 0, 1) := by decide +kernel
theorem dJ9_abs_0f7a4_5 : decode cJ9_abs_0f7a4 5 = .ok (.ineg, 1) := by decide +kernel
theorem dJ9_abs_0f7a4_6 : decode cJ9_abs_0f7a4 6 = .ok (.goto 4, 3) := by decide +kernel
theorem dJ9_abs_0f7a4_9 : decode cJ9_abs_0f7a4 9 = .ok (.iload_n 0, 1) := by decide +kernel
theorem dJ9_abs_0f7a4_10 : decode cJ9_abs_0f7a4 10 = .ok (.ireturn, 1) := by decide +kernel
theorem dJ9_max_7cf53_0 : decode cJ9_max_7cf53 0 = .ok (.iload_n 0, 1) := by decide +kernel
theorem dJ9_max_7cf53_1 : decode cJ9_max_7cf53 1 = .ok (.iload_n 1, 1) := by decide +kernel
theorem dJ9_max_7cf53_2 : decode cJ9_max_7cf53 2 = .ok (.if_icmp .lt 7, 3) := by decide +kernel
theorem dJ9_max_7cf53_5 : decode cJ9_max_7cf53 5 = .ok (.iload_n 0, 1) := by decide +kernel
theorem dJ9_max_7cf53_6 : decode cJ9_max_7cf53 6 = .ok (.goto 4, 3) := by decide +kernel
theorem dJ9_max_7cf53_9 : decode cJ9_max_7cf53 9 = .ok (.iload_n 1, 1) := by decide +kernel
theorem dJ9_max_7cf53_10 : decode cJ9_max_7cf53 10 = .ok (.ireturn, 1) := by decide +kernel
theorem dJ9_min_7cf53_0 : decode cJ9_min_7cf53 0 = .ok (.iload_n 0, 1) := by decide +kernel
theorem dJ9_min_7cf53_1 : decode cJ9_min_7cf53 1 = .ok (.iload_n 1, 1) := by decide +kernel
theorem dJ9_min_7cf53_2 : decode cJ9_min_7cf53 2 = .ok (.if_icmp .gt 7, 3) := by decide +kernel
theorem dJ9_min_7cf53_5 : decode cJ9_min_7cf53 5 = .ok (.iload_n 0, 1) := by decide +kernel
theorem dJ9_min_7cf53_6 : decode cJ9_min_7cf53 6 = .ok (.goto 4, 3) := by decide +kernel
theorem dJ9_min_7cf53_9 : decode cJ9_min_7cf53 9 = .ok (.iload_n 1, 1) := by decide +kernel
theorem dJ9_min_7cf53_10 : decode cJ9_min_7cf53 10 = .ok (.ireturn, 1) := by decide +kernel
theorem dJ0_length_8abf5_0 : decode cJ0_length_8abf5 0 = .ok (.aload_n 0, 1) := by decide +kernel
theorem dJ0_length_8abf5_1 : decode cJ0_length_8abf5 1 = .ok (.getfield 9, 3) := by decide +kernel
theorem dJ0_length_8abf5_4 : decode cJ0_length_8abf5 4 = .ok (.arraylength, 1) := by decide +kernel
theorem dJ0_length_8abf5_5 : decode cJ0_length_8abf5 5 = .ok (.aload_n 0, 1) := by decide +kernel
theorem dJ0_length_8abf5_6 : decode cJ0_length_8abf5 6 = .ok (.invokevirtual 335, 3) := by decide +kernel
theorem dJ0_length_8abf5_9 : decode cJ0_length_8abf5 9 = .ok (.ishr, 1) := by decide +kernel
theorem dJ0_length_8abf5_10 : decode cJ0_length_8abf5 10 = .ok (.ireturn, 1) := by decide +kernel
theorem dJ0_indexOf_0f7a4_0 : decode cJ0_indexOf_0f7a4 0 = .ok (.aload_n 0, 1) := by decide +kernel
theorem dJ0_indexOf_0f7a4_1 : decode cJ0_indexOf_0f7a4 1 = .ok (.iload_n 1, 1) := by decide +kernel
theorem dJ0_indexOf_0f7a4_2 : decode cJ0_indexOf_0f7a4 2 = .ok (.iconst 0, 1) := by decide +kernel
theorem dJ0_indexOf_0f7a4_3 : decode cJ0_indexOf_0f7a4 3 = .ok (.invokevirtual 633, 3) := by decide +kernel
theorem dJ0_indexOf_0f7a4_6 : decode cJ0_indexOf_0f7a4 6 = .ok (.ireturn, 1) := by decide +kernel
theorem dJ0_indexOf_7cf53_0 : decode cJ0_indexOf_7cf53 0 = .ok (.aload_n 0, 1) := by decide +kernel
theorem dJ0_indexOf_7cf53_1 : decode cJ0_indexOf_7cf53 1 = .ok (.invokevirtual 492, 3) := by decide +kernel
theorem dJ0_indexOf_7cf53_4 : decode cJ0_indexOf_7cf53 4 = .ok (.ifCond .eq 19, 3) := by decide +kernel
theorem dJ0_indexOf_7cf53_7 : decode cJ0_indexOf_7cf53 7 = .ok (.aload_n 0, 1) := by decide +kernel
theorem dJ0_indexOf_7cf53_8 : decode cJ0_indexOf_7cf53 8 = .ok (.getfield 9, 3) := by decide +kernel
theorem dJ0_indexOf_7cf53_11 : decode cJ0_indexOf_7cf53 11 = .ok (.iload_n 1, 1) := by decide +kernel
theorem dJ0_indexOf_7cf53_12 : decode cJ0_indexOf_7cf53 12 = .ok (.iload_n 2, 1) := by decide +kernel
theorem dJ0_indexOf_7cf53_13 : decode cJ0_indexOf_7cf53 13 = .ok (.aload_n 0, 1) := by decide +kernel
theorem dJ0_indexOf_7cf53_14 : decode cJ0_indexOf_7cf53 14 = .ok (.invokevirtual 505, 3) := by decide +kernel
theorem dJ0_indexOf_7cf53_17 : decode cJ0_indexOf_7cf53 17 = .ok (.invokestatic 637, 3) := by decide +kernel
theorem dJ0_indexOf_7cf53_20 : decode cJ0_indexOf_7cf53 20 = .ok (.goto 16, 3) := by decide +kernel
theorem dJ0_indexOf_7cf53_23 : decode cJ0_indexOf_7cf53 23 = .ok (.aload_n 0, 1) := by decide +kernel
theorem dJ0_indexOf_7cf53_24 : decode cJ0_indexOf_7cf53 24 = .ok (.getfield 9, 3) := by decide +kernel
theorem dJ0_indexOf_7cf53_27 : decode cJ0_indexOf_7cf53 27 = .ok (.iload_n 1, 1) := by decide +kernel
theorem dJ0_indexOf_7cf53_28 : decode cJ0_indexOf_7cf53 28 = .ok (.iload_n 2, 1) := by decide +kernel
theorem dJ0_indexOf_7cf53_29 : decode cJ0_indexOf_7cf53 29 = .ok (.aload_n 0, 1) := by decide +kernel
theorem dJ0_indexOf_7cf53_30 : decode cJ0_indexOf_7cf53 30 = .ok (.invokevirtual 505, 3) := by decide +kernel
theorem dJ0_indexOf_7cf53_33 : decode cJ0_indexOf_7cf53 33 = .ok (.invokestatic 640, 3) := by decide +kernel
theorem dJ0_indexOf_7cf53_36 : decode cJ0_indexOf_7cf53 36 = .ok (.ireturn, 1) := by decide +kernel
theorem dJ0_coder_7d493_0 : decode cJ0_coder_7d493 0 = .ok (.getstatic 38, 3) := by decide +kernel
theorem dJ0_coder_7d493_3 : decode cJ0_coder_7d493 3 = .ok (.ifCond .eq 10, 3) := by decide +kernel
theorem dJ0_coder_7d493_6 : decode cJ0_coder_7d493 6 = .ok (.aload_n 0, 1) := by decide +kernel
theorem dJ0_coder_7d493_7 : decode cJ0_coder_7d493 7 = .ok (.getfield 15, 3) := by decide +kernel
theorem dJ0_coder_7d493_10 : decode cJ0_coder_7d493 10 = .ok (.goto 4, 3) := by decide +kernel
theorem dJ0_coder_7d493_13 : decode cJ0_coder_7d493 13 = .ok (.iconst 1, 1) := by decide +kernel
theorem dJ0_coder_7d493_14 : decode cJ0_coder_7d493 14 = .ok (.ireturn, 1) := by decide +kernel
theorem dJ0_isLatin1_aae02_0 : decode cJ0_isLatin1_aae02 0 = .ok (.getstatic 38, 3) := by decide +kernel
theorem dJ0_isLatin1_aae02_3 : decode cJ0_isLatin1_aae02 3 = .ok (.ifCond .eq 14, 3) := by decide +kernel
theorem dJ0_isLatin1_aae02_6 : decode cJ0_isLatin1_aae02 6 = .ok (.aload_n 0, 1) := by decide +kernel
theorem dJ0_isLatin1_aae02_7 : decode cJ0_isLatin1_aae02 7 = .ok (.getfield 15, 3) := by decide +kernel
theorem dJ0_isLatin1_aae02_10 : decode cJ0_isLatin1_aae02 10 = .ok (.ifCond .ne 7, 3) := by decide +kernel
theorem dJ0_isLatin1_aae02_13 : decode cJ0_isLatin1_aae02 13 = .ok (.iconst 1, 1) := by decide +kernel
theorem dJ0_isLatin1_aae02_14 : decode cJ0_isLatin1_aae02 14 = .ok (.goto 4, 3) := by decide +kernel
theorem dJ0_isLatin1_aae02_17 : decode cJ0_isLatin1_aae02 17 = .ok (.iconst 0, 1) := by decide +kernel
theorem dJ0_isLatin1_aae02_18 : decode cJ0_isLatin1_aae02 18 = .ok (.ireturn, 1) := by decide +kernel
theorem dJ0_checkBoundsBeginEnd_23922_0 : decode cJ0_checkBoundsBeginEnd_23922 0 = .ok (.iload_n 0, 1) := by decide +kernel
theorem dJ0_checkBoundsBeginEnd_23922_1 : decode cJ0_checkBoundsBeginEnd_23922 1 = .ok (.iload_n 1, 1) := by decide +kernel
theorem dJ0_checkBoundsBeginEnd_23922_2 : decode cJ0_checkBoundsBeginEnd_23922 2 = .ok (.iload_n 2, 1) := by decide +kernel
theorem dJ0_checkBoundsBeginEnd_23922_3 : decode cJ0_checkBoundsBeginEnd_23922 3 = .ok (.getstatic 1053, 3) := by decide +kernel
theorem dJ0_checkBoundsBeginEnd_23922_6 : decode cJ0_checkBoundsBeginEnd_23922 6 = .ok (.invokestatic 1062, 3) := by decide +kernel
theorem dJ0_checkBoundsBeginEnd_23922_9 : decode cJ0_checkBoundsBeginEnd_23922 9 = .ok (.pop, 1) := by decide +kernel
theorem dJ0_checkBoundsBeginEnd_23922_10 : decode cJ0_checkBoundsBeginEnd_23922 10 = .ok (.return_, 1) := by decide +kernel
theorem dJ1_canEncode_9a6ad_0 : decode cJ1_canEncode_9a6ad 0 = .ok (.iload_n 0, 1) := by decide +kernel
theorem dJ1_canEncode_9a6ad_1 : decode cJ1_canEncode_9a6ad 1 = .ok (.ifCond .lt 14, 3) := by decide +kernel
theorem dJ1_canEncode_9a6ad_4 : decode cJ1_canEncode_9a6ad 4 = .ok (.iload_n 0, 1) := by decide +kernel
theorem dJ1_canEncode_9a6ad_5 : decode cJ1_canEncode_9a6ad 5 = .ok (.sipush 255, 3) := by decide +kernel
theorem dJ1_canEncode_9a6ad_8 : decode cJ1_canEncode_9a6ad 8 = .ok (.if_icmp .gt 7, 3) := by decide +kernel
theorem dJ1_canEncode_9a6ad_11 : decode cJ1_canEncode_9a6ad 11 = .ok (.iconst 1, 1) := by decide +kernel
theorem dJ1_canEncode_9a6ad_12 : decode cJ1_canEncode_9a6ad 12 = .ok (.goto 4, 3) := by decide +kernel
theorem dJ1_canEncode_9a6ad_15 : decode cJ1_canEncode_9a6ad 15 = .ok (.iconst 0, 1) := by decide +kernel
theorem dJ1_canEncode_9a6ad_16 : decode cJ1_canEncode_9a6ad 16 = .ok (.ireturn, 1) := by decide +kernel
theorem dJ1_indexOf_4cfef_0 : decode cJ1_indexOf_4cfef 0 = .ok (.iload_n 1, 1) := by decide +kernel
theorem dJ1_indexOf_4cfef_1 : decode cJ1_indexOf_4cfef 1 = .ok (.invokestatic 88, 3) := by decide +kernel
theorem dJ1_indexOf_4cfef_4 : decode cJ1_indexOf_4cfef 4 = .ok (.ifCond .ne 5, 3) := by decide +kernel
theorem dJ1_indexOf_4cfef_7 : decode cJ1_indexOf_4cfef 7 = .ok (.iconst (-1), 1) := by decide +kernel
theorem dJ1_indexOf_4cfef_8 : decode cJ1_indexOf_4cfef 8 = .ok (.ireturn, 1) := by decide +kernel
theorem dJ1_indexOf_4cfef_9 : decode cJ1_indexOf_4cfef 9 = .ok (.iload_n 2, 1) := by decide +kernel
theorem dJ1_indexOf_4cfef_10 : decode cJ1_indexOf_4cfef 10 = .ok (.iconst 0, 1) := by decide +kernel
theorem dJ1_indexOf_4cfef_11 : decode cJ1_indexOf_4cfef 11 = .ok (.invokestatic 92, 3) := by decide +kernel
theorem dJ1_indexOf_4cfef_14 : decode cJ1_indexOf_4cfef 14 = .ok (.istore_n 2, 1) := by decide +kernel
theorem dJ1_indexOf_4cfef_15 : decode cJ1_indexOf_4cfef 15 = .ok (.iload_n 3, 1) := by decide +kernel
theorem dJ1_indexOf_4cfef_16 : decode cJ1_indexOf_4cfef 16 = .ok (.aload_n 0, 1) := by decide +kernel
theorem dJ1_indexOf_4cfef_17 : decode cJ1_indexOf_4cfef 17 = .ok (.arraylength, 1) := by decide +kernel
theorem dJ1_indexOf_4cfef_18 : decode cJ1_indexOf_4cfef 18 = .ok (.invokestatic 38, 3) := by decide +kernel
theorem dJ1_indexOf_4cfef_21 : decode cJ1_indexOf_4cfef 21 = .ok (.istore_n 3, 1) := by decide +kernel
theorem dJ1_indexOf_4cfef_22 : decode cJ1_indexOf_4cfef 22 = .ok (.iload_n 2, 1) := by decide +kernel
theorem dJ1_indexOf_4cfef_23 : decode cJ1_indexOf_4cfef 23 = .ok (.iload_n 3, 1) := by decide +kernel
theorem dJ1_indexOf_4cfef_24 : decode cJ1_indexOf_4cfef 24 = .ok (.if_icmp .lt 5, 3) := by decide +kernel
theorem dJ1_indexOf_4cfef_27 : decode cJ1_indexOf_4cfef 27 = .ok (.iconst (-1), 1) := by decide +kernel
theorem dJ1_indexOf_4cfef_28 : decode cJ1_indexOf_4cfef 28 = .ok (.ireturn, 1) := by decide +kernel
theorem dJ1_indexOf_4cfef_29 : decode cJ1_indexOf_4cfef 29 = .ok (.aload_n 0, 1) := by decide +kernel
theorem dJ1_indexOf_4cfef_30 : decode cJ1_indexOf_4cfef 30 = .ok (.iload_n 1, 1) := by decide +kernel
theorem dJ1_indexOf_4cfef_31 : decode cJ1_indexOf_4cfef 31 = .ok (.iload_n 2, 1) := by decide +kernel
theorem dJ1_indexOf_4cfef_32 : decode cJ1_indexOf_4cfef 32 = .ok (.iload_n 3, 1) := by decide +kernel
theorem dJ1_indexOf_4cfef_33 : decode cJ1_indexOf_4cfef 33 = .ok (.invokestatic 95, 3) := by decide +kernel
theorem dJ1_indexOf_4cfef_36 : decode cJ1_indexOf_4cfef 36 = .ok (.ireturn, 1) := by decide +kernel
theorem dJ1_indexOfChar_4cfef_0 : decode cJ1_indexOfChar_4cfef 0 = .ok (.iload_n 1, 1) := by decide +kernel
theorem dJ1_indexOfChar_4cfef_1 : decode cJ1_indexOfChar_4cfef 1 = .ok (.i2b, 1) := by decide +kernel
theorem dJ1_indexOfChar_4cfef_2 : decode cJ1_indexOfChar_4cfef 2 = .ok (.istore 4, 2) := by decide +kernel
theorem dJ1_indexOfChar_4cfef_4 : decode cJ1_indexOfChar_4cfef 4 = .ok (.iload_n 2, 1) := by decide +kernel
theorem dJ1_indexOfChar_4cfef_5 : decode cJ1_indexOfChar_4cfef 5 = .ok (.istore 5, 2) := by decide +kernel
theorem dJ1_indexOfChar_4cfef_7 : decode cJ1_indexOfChar_4cfef 7 = .ok (.iload 5, 2) := by decide +kernel
theorem dJ1_indexOfChar_4cfef_9 : decode cJ1_indexOfChar_4cfef 9 = .ok (.iload_n 3, 1) := by decide +kernel
theorem dJ1_indexOfChar_4cfef_10 : decode cJ1_indexOfChar_4cfef 10 = .ok (.if_icmp .ge 21, 3) := by decide +kernel
theorem dJ1_indexOfChar_4cfef_13 : decode cJ1_indexOfChar_4cfef 13 = .ok (.aload_n 0, 1) := by decide +kernel
theorem dJ1_indexOfChar_4cfef_14 : decode cJ1_indexOfChar_4cfef 14 = .ok (.iload 5, 2) := by decide +kernel
theorem dJ1_indexOfChar_4cfef_16 : decode cJ1_indexOfChar_4cfef 16 = .ok (.baload, 1) := by decide +kernel
theorem dJ1_indexOfChar_4cfef_17 : decode cJ1_indexOfChar_4cfef 17 = .ok (.iload 4, 2) := by decide +kernel
theorem dJ1_indexOfChar_4cfef_19 : decode cJ1_indexOfChar_4cfef 19 = .ok (.if_icmp .ne 6, 3) := by decide +kernel
theorem dJ1_indexOfChar_4cfef_22 : decode cJ1_indexOfChar_4cfef 22 = .ok (.iload 5, 2) := by decide +kernel
theorem dJ1_indexOfChar_4cfef_24 : decode cJ1_indexOfChar_4cfef 24 = .ok (.ireturn, 1) := by decide +kernel
theorem dJ1_indexOfChar_4cfef_25 : decode cJ1_indexOfChar_4cfef 25 = .ok (.iinc 5 1, 3) := by decide +kernel
theorem dJ1_indexOfChar_4cfef_28 : decode cJ1_indexOfChar_4cfef 28 = .ok (.goto (-21), 3) := by decide +kernel
theorem dJ1_indexOfChar_4cfef_31 : decode cJ1_indexOfChar_4cfef 31 = .ok (.iconst (-1), 1) := by decide +kernel
theorem dJ1_indexOfChar_4cfef_32 : decode cJ1_indexOfChar_4cfef 32 = .ok (.ireturn, 1) := by decide +kernel
theorem dJ2_getChar_3b067_0 : decode cJ2_getChar_3b067 0 = .ok (.getstatic 44, 3) := by decide +kernel
theorem dJ2_getChar_3b067_3 : decode cJ2_getChar_3b067 3 = .ok (.ifCond .ne 25, 3) := by decide +kernel
theorem dJ2_getChar_3b067_6 : decode cJ2_getChar_3b067 6 = .ok (.iload_n 1, 1) := by decide +kernel
theorem dJ2_getChar_3b067_7 : decode cJ2_getChar_3b067 7 = .ok (.ifCond .lt 11, 3) := by decide +kernel
theorem dJ2_getChar_3b067_10 : decode cJ2_getChar_3b067 10 = .ok (.iload_n 1, 1) := by decide +kernel
theorem dJ2_getChar_3b067_11 : decode cJ2_getChar_3b067 11 = .ok (.aload_n 0, 1) := by decide +kernel
theorem dJ2_getChar_3b067_12 : decode cJ2_getChar_3b067 12 = .ok (.invokestatic 48, 3) := by decide +kernel
theorem dJ2_getChar_3b067_15 : decode cJ2_getChar_3b067 15 = .ok (.if_icmp .lt 13, 3) := by decide +kernel
theorem dJ2_getChar_3b067_18 : decode cJ2_getChar_3b067 18 = .ok (.new 52, 3) := by decide +kernel
theorem dJ2_getChar_3b067_21 : decode cJ2_getChar_3b067 21 = .ok (.dup, 1) := by decide +kernel
theorem dJ2_getChar_3b067_22 : decode cJ2_getChar_3b067 22 = .ok (.ldc 54, 2) := by decide +kernel
theorem dJ2_getChar_3b067_24 : decode cJ2_getChar_3b067 24 = .ok (.invokespecial 56, 3) := by decide +kernel
theorem dJ2_getChar_3b067_27 : decode cJ2_getChar_3b067 27 = .ok (.athrow, 1) := by decide +kernel
theorem dJ2_getChar_3b067_28 : decode cJ2_getChar_3b067 28 = .ok (.iload_n 1, 1) := by decide +kernel
theorem dJ2_getChar_3b067_29 : decode cJ2_getChar_3b067 29 = .ok (.iconst 1, 1) := by decide +kernel
theorem dJ2_getChar_3b067_30 : decode cJ2_getChar_3b067 30 = .ok (.ishl, 1) := by decide +kernel
theorem dJ2_getChar_3b067_31 : decode cJ2_getChar_3b067 31 = .ok (.istore_n 1, 1) := by decide +kernel
theorem dJ2_getChar_3b067_32 : decode cJ2_getChar_3b067 32 = .ok (.aload_n 0, 1) := by decide +kernel
theorem dJ2_getChar_3b067_33 : decode cJ2_getChar_3b067 33 = .ok (.iload_n 1, 1) := by decide +kernel
theorem dJ2_getChar_3b067_34 : decode cJ2_getChar_3b067 34 = .ok (.iinc 1 1, 3) := by decide +kernel
theorem dJ2_getChar_3b067_37 : decode cJ2_getChar_3b067 37 = .ok (.baload, 1) := by decide +kernel
theorem dJ2_getChar_3b067_38 : decode cJ2_getChar_3b067 38 = .ok (.sipush 255, 3) := by decide +kernel
theorem dJ2_getChar_3b067_41 : decode cJ2_getChar_3b067 41 = .ok (.iand, 1) := by decide +kernel
theorem dJ2_getChar_3b067_42 : decode cJ2_getChar_3b067 42 = .ok (.getstatic 59, 3) := by decide +kernel
theorem dJ2_getChar_3b067_45 : decode cJ2_getChar_3b067 45 = .ok (.ishl, 1) := by decide +kernel
theorem dJ2_getChar_3b067_46 : decode cJ2_getChar_3b067 46 = .ok (.aload_n 0, 1) := by decide +kernel
theorem dJ2_getChar_3b067_47 : decode cJ2_getChar_3b067 47 = .ok (.iload_n 1, 1) := by decide +kernel
theorem dJ2_getChar_3b067_48 : decode cJ2_getChar_3b067 48 = .ok (.baload, 1) := by decide +kernel
theorem dJ2_getChar_3b067_49 : decode cJ2_getChar_3b067 49 = .ok (.sipush 255, 3) := by decide +kernel
theorem dJ2_getChar_3b067_52 : decode cJ2_getChar_3b067 52 = .ok (.iand, 1) := by decide +kernel
theorem dJ2_getChar_3b067_53 : decode cJ2_getChar_3b067 53 = .ok (.getstatic 63, 3) := by decide +kernel
theorem dJ2_getChar_3b067_56 : decode cJ2_getChar_3b067 56 = .ok (.ishl, 1) := by decide +kernel
theorem dJ2_getChar_3b067_57 : decode cJ2_getChar_3b067 57 = .ok (.ior, 1) := by decide +kernel
theorem dJ2_getChar_3b067_58 : decode cJ2_getChar_3b067 58 = .ok (.i2c, 1) := by decide +kernel
theorem dJ2_getChar_3b067_59 : decode cJ2_getChar_3b067 59 = .ok (.ireturn, 1) := by decide +kernel
theorem dJ2_length_9d52b_0 : decode cJ2_length_9d52b 0 = .ok (.aload_n 0, 1) := by decide +kernel
theorem dJ2_length_9d52b_1 : decode cJ2_length_9d52b 1 = .ok (.arraylength, 1) := by decide +kernel
theorem dJ2_length_9d52b_2 : decode cJ2_length_9d52b 2 = .ok (.iconst 1, 1) := by decide +kernel
theorem dJ2_length_9d52b_3 : decode cJ2_length_9d52b 3 = .ok (.ishr, 1) := by decide +kernel
theorem dJ2_length_9d52b_4 : decode cJ2_length_9d52b 4 = .ok (.ireturn, 1) := by decide +kernel
theorem dJ2_indexOf_4cfef_0 : decode cJ2_indexOf_4cfef 0 = .ok (.iload_n 2, 1) := by decide +kernel
theorem dJ2_indexOf_4cfef_1 : decode cJ2_indexOf_4cfef 1 = .ok (.iconst 0, 1) := by decide +kernel
theorem dJ2_indexOf_4cfef_2 : decode cJ2_indexOf_4cfef 2 = .ok (.invokestatic 224, 3) := by decide +kernel
theorem dJ2_indexOf_4cfef_5 : decode cJ2_indexOf_4cfef 5 = .ok (.istore_n 2, 1) := by decide +kernel
theorem dJ2_indexOf_4cfef_6 : decode cJ2_indexOf_4cfef 6 = .ok (.iload_n 3, 1) := by decide +kernel
theorem dJ2_indexOf_4cfef_7 : decode cJ2_indexOf_4cfef 7 = .ok (.aload_n 0, 1) := by decide +kernel
theorem dJ2_indexOf_4cfef_8 : decode cJ2_indexOf_4cfef 8 = .ok (.arraylength, 1) := by decide +kernel
theorem dJ2_indexOf_4cfef_9 : decode cJ2_indexOf_4cfef 9 = .ok (.iconst 1, 1) := by decide +kernel
theorem dJ2_indexOf_4cfef_10 : decode cJ2_indexOf_4cfef 10 = .ok (.ishr, 1) := by decide +kernel
theorem dJ2_indexOf_4cfef_11 : decode cJ2_indexOf_4cfef 11 = .ok (.invokestatic 183, 3) := by decide +kernel
theorem dJ2_indexOf_4cfef_14 : decode cJ2_indexOf_4cfef 14 = .ok (.istore_n 3, 1) := by decide +kernel
theorem dJ2_indexOf_4cfef_15 : decode cJ2_indexOf_4cfef 15 = .ok (.iload_n 2, 1) := by decide +kernel
theorem dJ2_indexOf_4cfef_16 : decode cJ2_indexOf_4cfef 16 = .ok (.iload_n 3, 1) := by decide +kernel
theorem dJ2_indexOf_4cfef_17 : decode cJ2_indexOf_4cfef 17 = .ok (.if_icmp .lt 5, 3) := by decide +kernel
theorem dJ2_indexOf_4cfef_20 : decode cJ2_indexOf_4cfef 20 = .ok (.iconst (-1), 1) := by decide +kernel
theorem dJ2_indexOf_4cfef_21 : decode cJ2_indexOf_4cfef 21 = .ok (.ireturn, 1) := by decide +kernel
theorem dJ2_indexOf_4cfef_22 : decode cJ2_indexOf_4cfef 22 = .ok (.iload_n 1, 1) := by decide +kernel
theorem dJ2_indexOf_4cfef_23 : decode cJ2_indexOf_4cfef 23 = .ok (.ldc 227, 2) := by decide +kernel
theorem dJ2_indexOf_4cfef_25 : decode cJ2_indexOf_4cfef 25 = .ok (.if_icmp .ge 11, 3) := by decide +kernel
theorem dJ2_indexOf_4cfef_28 : decode cJ2_indexOf_4cfef 28 = .ok (.aload_n 0, 1) := by decide +kernel
theorem dJ2_indexOf_4cfef_29 : decode cJ2_indexOf_4cfef 29 = .ok (.iload_n 1, 1) := by decide +kernel
theorem dJ2_indexOf_4cfef_30 : decode cJ2_indexOf_4cfef 30 = .ok (.iload_n 2, 1) := by decide +kernel
theorem dJ2_indexOf_4cfef_31 : decode cJ2_indexOf_4cfef 31 = .ok (.iload_n 3, 1) := by decide +kernel
theorem dJ2_indexOf_4cfef_32 : decode cJ2_indexOf_4cfef 32 = .ok (.invokestatic 228, 3) := by decide +kernel
theorem dJ2_indexOf_4cfef_35 : decode cJ2_indexOf_4cfef 35 = .ok (.ireturn, 1) := by decide +kernel
theorem dJ2_indexOf_4cfef_36 : decode cJ2_indexOf_4cfef 36 = .ok (.aload_n 0, 1) := by decide +kernel
theorem dJ2_indexOf_4cfef_37 : decode cJ2_indexOf_4cfef 37 = .ok (.iload_n 1, 1) := by decide +kernel
theorem dJ2_indexOf_4cfef_38 : decode cJ2_indexOf_4cfef 38 = .ok (.iload_n 2, 1) := by decide +kernel
theorem dJ2_indexOf_4cfef_39 : decode cJ2_indexOf_4cfef 39 = .ok (.iload_n 3, 1) := by decide +kernel
theorem dJ2_indexOf_4cfef_40 : decode cJ2_indexOf_4cfef 40 = .ok (.invokestatic 232, 3) := by decide +kernel
theorem dJ2_indexOf_4cfef_43 : decode cJ2_indexOf_4cfef 43 = .ok (.ireturn, 1) := by decide +kernel
theorem dJ2_indexOfChar_4cfef_0 : decode cJ2_indexOfChar_4cfef 0 = .ok (.iload_n 2, 1) := by decide +kernel
theorem dJ2_indexOfChar_4cfef_1 : decode cJ2_indexOfChar_4cfef 1 = .ok (.iload_n 3, 1) := by decide +kernel
theorem dJ2_indexOfChar_4cfef_2 : decode cJ2_indexOfChar_4cfef 2 = .ok (.aload_n 0, 1) := by decide +kernel
theorem dJ2_indexOfChar_4cfef_3 : decode cJ2_indexOfChar_4cfef 3 = .ok (.invokestatic 96, 3) := by decide +kernel
theorem dJ2_indexOfChar_4cfef_6 : decode cJ2_indexOfChar_4cfef 6 = .ok (.aload_n 0, 1) := by decide +kernel
theorem dJ2_indexOfChar_4cfef_7 : decode cJ2_indexOfChar_4cfef 7 = .ok (.iload_n 1, 1) := by decide +kernel
theorem dJ2_indexOfChar_4cfef_8 : decode cJ2_indexOfChar_4cfef 8 = .ok (.iload_n 2, 1) := by decide +kernel
theorem dJ2_indexOfChar_4cfef_9 : decode cJ2_indexOfChar_4cfef 9 = .ok (.iload_n 3, 1) := by decide +kernel
theorem dJ2_indexOfChar_4cfef_10 : decode cJ2_indexOfChar_4cfef 10 = .ok (.invokestatic 244, 3) := by decide +kernel
theorem dJ2_indexOfChar_4cfef_13 : decode cJ2_indexOfChar_4cfef 13 = .ok (.ireturn, 1) := by decide +kernel
theorem dJ2_indexOfCharUnsafe_4cfef_0 : decode cJ2_indexOfCharUnsafe_4cfef 0 = .ok (.iload_n 2, 1) := by decide +kernel
theorem dJ2_indexOfCharUnsafe_4cfef_1 : decode cJ2_indexOfCharUnsafe_4cfef 1 = .ok (.istore 4, 2) := by decide +kernel
theorem dJ2_indexOfCharUnsafe_4cfef_3 : decode cJ2_indexOfCharUnsafe_4cfef 3 = .ok (.iload 4, 2) := by decide +kernel
theorem dJ2_indexOfCharUnsafe_4cfef_5 : decode cJ2_indexOfCharUnsafe_4cfef 5 = .ok (.iload_n 3, 1) := by decide +kernel
theorem dJ2_indexOfCharUnsafe_4cfef_6 : decode cJ2_indexOfCharUnsafe_4cfef 6 = .ok (.if_icmp .ge 22, 3) := by decide +kernel
theorem dJ2_indexOfCharUnsafe_4cfef_9 : decode cJ2_indexOfCharUnsafe_4cfef 9 = .ok (.aload_n 0, 1) := by decide +kernel
theorem dJ2_indexOfCharUnsafe_4cfef_10 : decode cJ2_indexOfCharUnsafe_4cfef 10 = .ok (.iload 4, 2) := by decide +kernel
theorem dJ2_indexOfCharUnsafe_4cfef_12 : decode cJ2_indexOfCharUnsafe_4cfef 12 = .ok (.invokestatic 71, 3) := by decide +kernel
theorem dJ2_indexOfCharUnsafe_4cfef_15 : decode cJ2_indexOfCharUnsafe_4cfef 15 = .ok (.iload_n 1, 1) := by decide +kernel
theorem dJ2_indexOfCharUnsafe_4cfef_16 : decode cJ2_indexOfCharUnsafe_4cfef 16 = .ok (.if_icmp .ne 6, 3) := by decide +kernel
theorem dJ2_indexOfCharUnsafe_4cfef_19 : decode cJ2_indexOfCharUnsafe_4cfef 19 = .ok (.iload 4, 2) := by decide +kernel
theorem dJ2_indexOfCharUnsafe_4cfef_21 : decode cJ2_indexOfCharUnsafe_4cfef 21 = .ok (.ireturn, 1) := by decide +kernel
theorem dJ2_indexOfCharUnsafe_4cfef_22 : decode cJ2_indexOfCharUnsafe_4cfef 22 = .ok (.iinc 4 1, 3) := by decide +kernel
theorem dJ2_indexOfCharUnsafe_4cfef_25 : decode cJ2_indexOfCharUnsafe_4cfef 25 = .ok (.goto (-22), 3) := by decide +kernel
theorem dJ2_indexOfCharUnsafe_4cfef_28 : decode cJ2_indexOfCharUnsafe_4cfef 28 = .ok (.iconst (-1), 1) := by decide +kernel
theorem dJ2_indexOfCharUnsafe_4cfef_29 : decode cJ2_indexOfCharUnsafe_4cfef 29 = .ok (.ireturn, 1) := by decide +kernel
theorem dJ2_indexOfSupplementary_4cfef_0 : decode cJ2_indexOfSupplementary_4cfef 0 = .ok (.iload_n 1, 1) := by decide +kernel
theorem dJ2_indexOfSupplementary_4cfef_1 : decode cJ2_indexOfSupplementary_4cfef 1 = .ok (.invokestatic 164, 3) := by decide +kernel
theorem dJ2_indexOfSupplementary_4cfef_4 : decode cJ2_indexOfSupplementary_4cfef 4 = .ok (.ifCond .eq 65, 3) := by decide +kernel
theorem dJ2_indexOfSupplementary_4cfef_7 : decode cJ2_indexOfSupplementary_4cfef 7 = .ok (.iload_n 1, 1) := by decide +kernel
theorem dJ2_indexOfSupplementary_4cfef_8 : decode cJ2_indexOfSupplementary_4cfef 8 = .ok (.invokestatic 157, 3) := by decide +kernel
theorem dJ2_indexOfSupplementary_4cfef_11 : decode cJ2_indexOfSupplementary_4cfef 11 = .ok (.istore 4, 2) := by decide +kernel
theorem dJ2_indexOfSupplementary_4cfef_13 : decode cJ2_indexOfSupplementary_4cfef 13 = .ok (.iload_n 1, 1) := by decide +kernel
theorem dJ2_indexOfSupplementary_4cfef_14 : decode cJ2_indexOfSupplementary_4cfef 14 = .ok (.invokestatic 161, 3) := by decide +kernel
theorem dJ2_indexOfSupplementary_4cfef_17 : decode cJ2_indexOfSupplementary_4cfef 17 = .ok (.istore 5, 2) := by decide +kernel
theorem dJ2_indexOfSupplementary_4cfef_19 : decode cJ2_indexOfSupplementary_4cfef 19 = .ok (.iload_n 2, 1) := by decide +kernel
theorem dJ2_indexOfSupplementary_4cfef_20 : decode cJ2_indexOfSupplementary_4cfef 20 = .ok (.iload_n 3, 1) := by decide +kernel
theorem dJ2_indexOfSupplementary_4cfef_21 : decode cJ2_indexOfSupplementary_4cfef 21 = .ok (.aload_n 0, 1) := by decide +kernel
theorem dJ2_indexOfSupplementary_4cfef_22 : decode cJ2_indexOfSupplementary_4cfef 22 = .ok (.invokestatic 96, 3) := by decide +kernel
theorem dJ2_indexOfSupplementary_4cfef_25 : decode cJ2_indexOfSupplementary_4cfef 25 = .ok (.iload_n 2, 1) := by decide +kernel
theorem dJ2_indexOfSupplementary_4cfef_26 : decode cJ2_indexOfSupplementary_4cfef 26 = .ok (.istore 6, 2) := by decide +kernel
theorem dJ2_indexOfSupplementary_4cfef_28 : decode cJ2_indexOfSupplementary_4cfef 28 = .ok (.iload 6, 2) := by decide +kernel
theorem dJ2_indexOfSupplementary_4cfef_30 : decode cJ2_indexOfSupplementary_4cfef 30 = .ok (.iload_n 3, 1) := by decide +kernel
theorem dJ2_indexOfSupplementary_4cfef_31 : decode cJ2_indexOfSupplementary_4cfef 31 = .ok (.iconst 1, 1) := by decide +kernel
theorem dJ2_indexOfSupplementary_4cfef_32 : decode cJ2_indexOfSupplementary_4cfef 32 = .ok (.isub, 1) := by decide +kernel
theorem dJ2_indexOfSupplementary_4cfef_33 : decode cJ2_indexOfSupplementary_4cfef 33 = .ok (.if_icmp .ge 36, 3) := by decide +kernel
theorem dJ2_indexOfSupplementary_4cfef_36 : decode cJ2_indexOfSupplementary_4cfef 36 = .ok (.aload_n 0, 1) := by decide +kernel
theorem dJ2_indexOfSupplementary_4cfef_37 : decode cJ2_indexOfSupplementary_4cfef 37 = .ok (.iload 6, 2) := by decide +kernel
theorem dJ2_indexOfSupplementary_4cfef_39 : decode cJ2_indexOfSupplementary_4cfef 39 = .ok (.invokestatic 71, 3) := by decide +kernel
theorem dJ2_indexOfSupplementary_4cfef_42 : decode cJ2_indexOfSupplementary_4cfef 42 = .ok (.iload 4, 2) := by decide +kernel
theorem dJ2_indexOfSupplementary_4cfef_44 : decode cJ2_indexOfSupplementary_4cfef 44 = .ok (.if_icmp .ne 19, 3) := by decide +kernel
theorem dJ2_indexOfSupplementary_4cfef_47 : decode cJ2_indexOfSupplementary_4cfef 47 = .ok (.aload_n 0, 1) := by decide +kernel
theorem dJ2_indexOfSupplementary_4cfef_48 : decode cJ2_indexOfSupplementary_4cfef 48 = .ok (.iload 6, 2) := by decide +kernel
theorem dJ2_indexOfSupplementary_4cfef_50 : decode cJ2_indexOfSupplementary_4cfef 50 = .ok (.iconst 1, 1) := by decide +kernel
theorem dJ2_indexOfSupplementary_4cfef_51 : decode cJ2_indexOfSupplementary_4cfef 51 = .ok (.iadd, 1) := by decide +kernel
theorem dJ2_indexOfSupplementary_4cfef_52 : decode cJ2_indexOfSupplementary_4cfef 52 = .ok (.invokestatic 71, 3) := by decide +kernel
theorem dJ2_indexOfSupplementary_4cfef_55 : decode cJ2_indexOfSupplementary_4cfef 55 = .ok (.iload 5, 2) := by decide +kernel
theorem dJ2_indexOfSupplementary_4cfef_57 : decode cJ2_indexOfSupplementary_4cfef 57 = .ok (.if_icmp .ne 6, 3) := by decide +kernel
theorem dJ2_indexOfSupplementary_4cfef_60 : decode cJ2_indexOfSupplementary_4cfef 60 = .ok (.iload 6, 2) := by decide +kernel
theorem dJ2_indexOfSupplementary_4cfef_62 : decode cJ2_indexOfSupplementary_4cfef 62 = .ok (.ireturn, 1) := by decide +kernel
theorem dJ2_indexOfSupplementary_4cfef_63 : decode cJ2_indexOfSupplementary_4cfef 63 = .ok (.iinc 6 1, 3) := by decide +kernel
theorem dJ2_indexOfSupplementary_4cfef_66 : decode cJ2_indexOfSupplementary_4cfef 66 = .ok (.goto (-38), 3) := by decide +kernel
theorem dJ2_indexOfSupplementary_4cfef_69 : decode cJ2_indexOfSupplementary_4cfef 69 = .ok (.iconst (-1), 1) := by decide +kernel
theorem dJ2_indexOfSupplementary_4cfef_70 : decode cJ2_indexOfSupplementary_4cfef 70 = .ok (.ireturn, 1) := by decide +kernel
theorem dJ2_checkBoundsBeginEnd_d044e_0 : decode cJ2_checkBoundsBeginEnd_d044e 0 = .ok (.iload_n 0, 1) := by decide +kernel
theorem dJ2_checkBoundsBeginEnd_d044e_1 : decode cJ2_checkBoundsBeginEnd_d044e 1 = .ok (.iload_n 1, 1) := by decide +kernel
theorem dJ2_checkBoundsBeginEnd_d044e_2 : decode cJ2_checkBoundsBeginEnd_d044e 2 = .ok (.aload_n 2, 1) := by decide +kernel
theorem dJ2_checkBoundsBeginEnd_d044e_3 : decode cJ2_checkBoundsBeginEnd_d044e 3 = .ok (.invokestatic 48, 3) := by decide +kernel
theorem dJ2_checkBoundsBeginEnd_d044e_6 : decode cJ2_checkBoundsBeginEnd_d044e 6 = .ok (.invokestatic 241, 3) := by decide +kernel
theorem dJ2_checkBoundsBeginEnd_d044e_9 : decode cJ2_checkBoundsBeginEnd_d044e 9 = .ok (.return_, 1) := by decide +kernel
theorem dJ3_checkFromToIndex_8c36e_0 : decode cJ3_checkFromToIndex_8c36e 0 = .ok (.iload_n 0, 1) := by decide +kernel
theorem dJ3_checkFromToIndex_8c36e_1 : decode cJ3_checkFromToIndex_8c36e 1 = .ok (.ifCond .lt 13, 3) := by decide +kernel
theorem dJ3_checkFromToIndex_8c36e_4 : decode cJ3_checkFromToIndex_8c36e 4 = .ok (.iload_n 0, 1) := by decide +kernel
theorem dJ3_checkFromToIndex_8c36e_5 : decode cJ3_checkFromToIndex_8c36e 5 = .ok (.iload_n 1, 1) := by decide +kernel
theorem dJ3_checkFromToIndex_8c36e_6 : decode cJ3_checkFromToIndex_8c36e 6 = .ok (.if_icmp .gt 8, 3) := by decide +kernel
theorem dJ3_checkFromToIndex_8c36e_9 : decode cJ3_checkFromToIndex_8c36e 9 = .ok (.iload_n 1, 1) := by decide +kernel
theorem dJ3_checkFromToIndex_8c36e_10 : decode cJ3_checkFromToIndex_8c36e 10 = .ok (.iload_n 2, 1) := by decide +kernel
theorem dJ3_checkFromToIndex_8c36e_11 : decode cJ3_checkFromToIndex_8c36e 11 = .ok (.if_icmp .le 11, 3) := by decide +kernel
theorem dJ3_checkFromToIndex_8c36e_14 : decode cJ3_checkFromToIndex_8c36e 14 = .ok (.aload_n 3, 1) := by decide +kernel
theorem dJ3_checkFromToIndex_8c36e_15 : decode cJ3_checkFromToIndex_8c36e 15 = .ok (.iload_n 0, 1) := by decide +kernel
theorem dJ3_checkFromToIndex_8c36e_16 : decode cJ3_checkFromToIndex_8c36e 16 = .ok (.iload_n 1, 1) := by decide +kernel
theorem dJ3_checkFromToIndex_8c36e_17 : decode cJ3_checkFromToIndex_8c36e 17 = .ok (.iload_n 2, 1) := by decide +kernel
theorem dJ3_checkFromToIndex_8c36e_18 : decode cJ3_checkFromToIndex_8c36e 18 = .ok (.invokestatic 99, 3) := by decide +kernel
theorem dJ3_checkFromToIndex_8c36e_21 : decode cJ3_checkFromToIndex_8c36e 21 = .ok (.athrow, 1) := by decide +kernel
theorem dJ3_checkFromToIndex_8c36e_22 : decode cJ3_checkFromToIndex_8c36e 22 = .ok (.iload_n 0, 1) := by decide +kernel
theorem dJ3_checkFromToIndex_8c36e_23 : decode cJ3_checkFromToIndex_8c36e 23 = .ok (.ireturn, 1) := by decide +kernel
end
section
theorem dL_law_0 : decode cL_law 0 = .ok (.new 7, 3) := by decide +kernel
theorem dL_law_3 : decode cL_law 3 = .ok (.dup, 1) := by decide +kernel
theorem dL_law_4 : decode cL_law 4 = .ok (.invokespecial 9, 3) := by decide +kernel
theorem dL_law_7 : decode cL_law 7 = .ok (.astore_n 1, 1) := by decide +kernel
theorem dL_law_8 : decode cL_law 8 = .ok (.new 10, 3) := by decide +kernel
theorem dL_law_11 : decode cL_law 11 = .ok (.dup, 1) := by decide +kernel
theorem dL_law_12 : decode cL_law 12 = .ok (.invokespecial 12, 3) := by decide +kernel
theorem dL_law_15 : decode cL_law 15 = .ok (.astore_n 2, 1) := by decide +kernel
theorem dL_law_16 : decode cL_law 16 = .ok (.iconst 0, 1) := by decide +kernel
theorem dL_law_17 : decode cL_law 17 = .ok (.istore_n 3, 1) := by decide +kernel
theorem dL_law_18 : decode cL_law 18 = .ok (.iload_n 3, 1) := by decide +kernel
theorem dL_law_19 : decode cL_law 19 = .ok (.aload_n 0, 1) := by decide +kernel
theorem dL_law_20 : decode cL_law 20 = .ok (.arraylength, 1) := by decide +kernel
theorem dL_law_21 : decode cL_law 21 = .ok (.iconst 4, 1) := by decide +kernel
theorem dL_law_22 : decode cL_law 22 = .ok (.isub, 1) := by decide +kernel
theorem dL_law_23 : decode cL_law 23 = .ok (.if_icmp .gt 794, 3) := by decide +kernel
theorem dL_law_26 : decode cL_law 26 = .ok (.aload_n 0, 1) := by decide +kernel
theorem dL_law_27 : decode cL_law 27 = .ok (.iload_n 3, 1) := by decide +kernel
theorem dL_law_28 : decode cL_law 28 = .ok (.iaload, 1) := by decide +kernel
theorem dL_law_29 : decode cL_law 29 = .ok (.bipush 31, 2) := by decide +kernel
theorem dL_law_31 : decode cL_law 31 = .ok (.iand, 1) := by decide +kernel
theorem dL_law_32 : decode cL_law 32 = .ok (.tableswitch 779 0 25 #[120, 143, 156, 169, 182, 215, 248, 281, 314, 347, 380, 403, 416, 449, 492, 515, 538, 551, 594, 617, 660, 673, 716, 729, 742, 765], 120) := by decide +kernel
theorem dL_law_152 : decode cL_law 152 = .ok (.aload_n 1, 1) := by decide +kernel
theorem dL_law_153 : decode cL_law 153 = .ok (.aload_n 0, 1) := by decide +kernel
theorem dL_law_154 : decode cL_law 154 = .ok (.iload_n 3, 1) := by decide +kernel
theorem dL_law_155 : decode cL_law 155 = .ok (.iconst 1, 1) := by decide +kernel
theorem dL_law_156 : decode cL_law 156 = .ok (.iadd, 1) := by decide +kernel
theorem dL_law_157 : decode cL_law 157 = .ok (.iaload, 1) := by decide +kernel
theorem dL_law_158 : decode cL_law 158 = .ok (.invokevirtual 13, 3) := by decide +kernel
theorem dL_law_161 : decode cL_law 161 = .ok (.aload_n 2, 1) := by decide +kernel
theorem dL_law_162 : decode cL_law 162 = .ok (.aload_n 0, 1) := by decide +kernel
theorem dL_law_163 : decode cL_law 163 = .ok (.iload_n 3, 1) := by decide +kernel
theorem dL_law_164 : decode cL_law 164 = .ok (.iconst 1, 1) := by decide +kernel
theorem dL_law_165 : decode cL_law 165 = .ok (.iadd, 1) := by decide +kernel
theorem dL_law_166 : decode cL_law 166 = .ok (.iaload, 1) := by decide +kernel
theorem dL_law_167 : decode cL_law 167 = .ok (.invokevirtual 17, 3) := by decide +kernel
theorem dL_law_170 : decode cL_law 170 = .ok (.if_icmp .eq 641, 3) := by decide +kernel
theorem dL_law_173 : decode cL_law 173 = .ok (.iconst 0, 1) := by decide +kernel
theorem dL_law_174 : decode cL_law 174 = .ok (.ireturn, 1) := by decide +kernel
theorem dL_law_175 : decode cL_law 175 = .ok (.aload_n 1, 1) := by decide +kernel
theorem dL_law_176 : decode cL_law 176 = .ok (.invokevirtual 18, 3) := by decide +kernel
theorem dL_law_179 : decode cL_law 179 = .ok (.aload_n 2, 1) := by decide +kernel
theorem dL_law_180 : decode cL_law 180 = .ok (.invokevirtual 22, 3) := by decide +kernel
theorem dL_law_183 : decode cL_law 183 = .ok (.if_icmp .eq 628, 3) := by decide +kernel
theorem dL_law_186 : decode cL_law 186 = .ok (.iconst 0, 1) := by decide +kernel
theorem dL_law_187 : decode cL_law 187 = .ok (.ireturn, 1) := by decide +kernel
theorem dL_law_188 : decode cL_law 188 = .ok (.aload_n 1, 1) := by decide +kernel
theorem dL_law_189 : decode cL_law 189 = .ok (.invokevirtual 23, 3) := by decide +kernel
theorem dL_law_192 : decode cL_law 192 = .ok (.aload_n 2, 1) := by decide +kernel
theorem dL_law_193 : decode cL_law 193 = .ok (.invokevirtual 26, 3) := by decide +kernel
theorem dL_law_196 : decode cL_law 196 = .ok (.if_icmp .eq 615, 3) := by decide +kernel
theorem dL_law_199 : decode cL_law 199 = .ok (.iconst 0, 1) := by decide +kernel
theorem dL_law_200 : decode cL_law 200 = .ok (.ireturn, 1) := by decide +kernel
theorem dL_law_201 : decode cL_law 201 = .ok (.aload_n 1, 1) := by decide +kernel
theorem dL_law_202 : decode cL_law 202 = .ok (.invokevirtual 27, 3) := by decide +kernel
theorem dL_law_205 : decode cL_law 205 = .ok (.aload_n 2, 1) := by decide +kernel
theorem dL_law_206 : decode cL_law 206 = .ok (.invokevirtual 30, 3) := by decide +kernel
theorem dL_law_209 : decode cL_law 209 = .ok (.if_icmp .eq 602, 3) := by decide +kernel
theorem dL_law_212 : decode cL_law 212 = .ok (.iconst 0, 1) := by decide +kernel
theorem dL_law_213 : decode cL_law 213 = .ok (.ireturn, 1) := by decide +kernel
theorem dL_law_214 : decode cL_law 214 = .ok (.aload_n 1, 1) := by decide +kernel
theorem dL_law_215 : decode cL_law 215 = .ok (.aload_n 0, 1) := by decide +kernel
theorem dL_law_216 : decode cL_law 216 = .ok (.iload_n 3, 1) := by decide +kernel
theorem dL_law_217 : decode cL_law 217 = .ok (.iconst 1, 1) := by decide +kernel
theorem dL_law_218 : decode cL_law 218 = .ok (.iadd, 1) := by decide +kernel
theorem dL_law_219 : decode cL_law 219 = .ok (.iaload, 1) := by decide +kernel
theorem dL_law_220 : decode cL_law 220 = .ok (.aload_n 0, 1) := by decide +kernel
theorem dL_law_221 : decode cL_law 221 = .ok (.iload_n 3, 1) := by decide +kernel
theorem dL_law_222 : decode cL_law 222 = .ok (.iconst 2, 1) := by decide +kernel
theorem dL_law_223 : decode cL_law 223 = .ok (.iadd, 1) := by decide +kernel
theorem dL_law_224 : decode cL_law 224 = .ok (.iaload, 1) := by decide +kernel
theorem dL_law_225 : decode cL_law 225 = .ok (.invokevirtual 31, 3) := by decide +kernel
theorem dL_law_228 : decode cL_law 228 = .ok (.aload_n 2, 1) := by decide +kernel
theorem dL_law_229 : decode cL_law 229 = .ok (.aload_n 0, 1) := by decide +kernel
theorem dL_law_230 : decode cL_law 230 = .ok (.iload_n 3, 1) := by decide +kernel
theorem dL_law_231 : decode cL_law 231 = .ok (.iconst 1, 1) := by decide +kernel
theorem dL_law_232 : decode cL_law 232 = .ok (.iadd, 1) := by decide +kernel
theorem dL_law_233 : decode cL_law 233 = .ok (.iaload, 1) := by decide +kernel
theorem dL_law_234 : decode cL_law 234 = .ok (.aload_n 0, 1) := by decide +kernel
theorem dL_law_235 : decode cL_law 235 = .ok (.iload_n 3, 1) := by decide +kernel
theorem dL_law_236 : decode cL_law 236 = .ok (.iconst 2, 1) := by decide +kernel
theorem dL_law_237 : decode cL_law 237 = .ok (.iadd, 1) := by decide +kernel
theorem dL_law_238 : decode cL_law 238 = .ok (.iaload, 1) := by decide +kernel
theorem dL_law_239 : decode cL_law 239 = .ok (.invokevirtual 35, 3) := by decide +kernel
theorem dL_law_242 : decode cL_law 242 = .ok (.if_icmp .eq 569, 3) := by decide +kernel
theorem dL_law_245 : decode cL_law 245 = .ok (.iconst 0, 1) := by decide +kernel
theorem dL_law_246 : decode cL_law 246 = .ok (.ireturn, 1) := by decide +kernel
theorem dL_law_247 : decode cL_law 247 = .ok (.aload_n 1, 1) := by decide +kernel
theorem dL_law_248 : decode cL_law 248 = .ok (.aload_n 0, 1) := by decide +kernel
theorem dL_law_249 : decode cL_law 249 = .ok (.iload_n 3, 1) := by decide +kernel
theorem dL_law_250 : decode cL_law 250 = .ok (.iconst 1, 1) := by decide +kernel
theorem dL_law_251 : decode cL_law 251 = .ok (.iadd, 1) := by decide +kernel
theorem dL_law_252 : decode cL_law 252 = .ok (.iaload, 1) := by decide +kernel
theorem dL_law_253 : decode cL_law 253 = .ok (.aload_n 0, 1) := by decide +kernel
theorem dL_law_254 : decode cL_law 254 = .ok (.iload_n 3, 1) := by decide +kernel
theorem dL_law_255 : decode cL_law 255 = .ok (.iconst 2, 1) := by decide +kernel
theorem dL_law_256 : decode cL_law 256 = .ok (.iadd, 1) := by decide +kernel
theorem dL_law_257 : decode cL_law 257 = .ok (.iaload, 1) := by decide +kernel
theorem dL_law_258 : decode cL_law 258 = .ok (.invokevirtual 36, 3) := by decide +kernel
theorem dL_law_261 : decode cL_law 261 = .ok (.aload_n 2, 1) := by decide +kernel
theorem dL_law_262 : decode cL_law 262 = .ok (.aload_n 0, 1) := by decide +kernel
theorem dL_law_263 : decode cL_law 263 = .ok (.iload_n 3, 1) := by decide +kernel
theorem dL_law_264 : decode cL_law 264 = .ok (.iconst 1, 1) := by decide +kernel
theorem dL_law_265 : decode cL_law 265 = .ok (.iadd, 1) := by decide +kernel
theorem dL_law_266 : decode cL_law 266 = .ok (.iaload, 1) := by decide +kernel
theorem dL_law_267 : decode cL_law 267 = .ok (.aload_n 0, 1) := by decide +kernel
theorem dL_law_268 : decode cL_law 268 = .ok (.iload_n 3, 1) := by decide +kernel
theorem dL_law_269 : decode cL_law 269 = .ok (.iconst 2, 1) := by decide +kernel
theorem dL_law_270 : decode cL_law 270 = .ok (.iadd, 1) := by decide +kernel
theorem dL_law_271 : decode cL_law 271 = .ok (.iaload, 1) := by decide +kernel
theorem dL_law_272 : decode cL_law 272 = .ok (.invokevirtual 39, 3) := by decide +kernel
theorem dL_law_275 : decode cL_law 275 = .ok (.if_icmp .eq 536, 3) := by decide +kernel
theorem dL_law_278 : decode cL_law 278 = .ok (.iconst 0, 1) := by decide +kernel
theorem dL_law_279 : decode cL_law 279 = .ok (.ireturn, 1) := by decide +kernel
theorem dL_law_280 : decode cL_law 280 = .ok (.aload_n 1, 1) := by decide +kernel
theorem dL_law_281 : decode cL_law 281 = .ok (.aload_n 0, 1) := by decide +kernel
theorem dL_law_282 : decode cL_law 282 = .ok (.iload_n 3, 1) := by decide +kernel
theorem dL_law_283 : decode cL_law 283 = .ok (.iconst 1, 1) := by decide +kernel
theorem dL_law_284 : decode cL_law 284 = .ok (.iadd, 1) := by decide +kernel
theorem dL_law_285 : decode cL_law 285 = .ok (.iaload, 1) := by decide +kernel
theorem dL_law_286 : decode cL_law 286 = .ok (.aload_n 0, 1) := by decide +kernel
theorem dL_law_287 : decode cL_law 287 = .ok (.iload_n 3, 1) := by decide +kernel
theorem dL_law_288 : decode cL_law 288 = .ok (.iconst 2, 1) := by decide +kernel
theorem dL_law_289 : decode cL_law 289 = .ok (.iadd, 1) := by decide +kernel
theorem dL_law_290 : decode cL_law 290 = .ok (.iaload, 1) := by decide +kernel
theorem dL_law_291 : decode cL_law 291 = .ok (.invokevirtual 40, 3) := by decide +kernel
theorem dL_law_294 : decode cL_law 294 = .ok (.aload_n 2, 1) := by decide +kernel
theorem dL_law_295 : decode cL_law 295 = .ok (.aload_n 0, 1) := by decide +kernel
theorem dL_law_296 : decode cL_law 296 = .ok (.iload_n 3, 1) := by decide +kernel
theorem dL_law_297 : decode cL_law 297 = .ok (.iconst 1, 1) := by decide +kernel
theorem dL_law_298 : decode cL_law 298 = .ok (.iadd, 1) := by decide +kernel
theorem dL_law_299 : decode cL_law 299 = .ok (.iaload, 1) := by decide +kernel
theorem dL_law_300 : decode cL_law 300 = .ok (.aload_n 0, 1) := by decide +kernel
theorem dL_law_301 : decode cL_law 301 = .ok (.iload_n 3, 1) := by decide +kernel
theorem dL_law_302 : decode cL_law 302 = .ok (.iconst 2, 1) := by decide +kernel
theorem dL_law_303 : decode cL_law 303 = .ok (.iadd, 1) := by decide +kernel
theorem dL_law_304 : decode cL_law 304 = .ok (.iaload, 1) := by decide +kernel
theorem dL_law_305 : decode cL_law 305 = .ok (.invokevirtual 43, 3) := by decide +kernel
theorem dL_law_308 : decode cL_law 308 = .ok (.if_icmp .eq 503, 3) := by decide +kernel
theorem dL_law_311 : decode cL_law 311 = .ok (.iconst 0, 1) := by decide +kernel
theorem dL_law_312 : decode cL_law 312 = .ok (.ireturn, 1) := by decide +kernel
theorem dL_law_313 : decode cL_law 313 = .ok (.aload_n 1, 1) := by decide +kernel
theorem dL_law_314 : decode cL_law 314 = .ok (.aload_n 0, 1) := by decide +kernel
theorem dL_law_315 : decode cL_law 315 = .ok (.iload_n 3, 1) := by decide +kernel
theorem dL_law_316 : decode cL_law 316 = .ok (.iconst 1, 1) := by decide +kernel
theorem dL_law_317 : decode cL_law 317 = .ok (.iadd, 1) := by decide +kernel
theorem dL_law_318 : decode cL_law 318 = .ok (.iaload, 1) := by decide +kernel
theorem dL_law_319 : decode cL_law 319 = .ok (.aload_n 0, 1) := by decide +kernel
theorem dL_law_320 : decode cL_law 320 = .ok (.iload_n 3, 1) := by decide +kernel
theorem dL_law_321 : decode cL_law 321 = .ok (.iconst 2, 1) := by decide +kernel
theorem dL_law_322 : decode cL_law 322 = .ok (.iadd, 1) := by decide +kernel
theorem dL_law_323 : decode cL_law 323 = .ok (.iaload, 1) := by decide +kernel
theorem dL_law_324 : decode cL_law 324 = .ok (.invokevirtual 44, 3) := by decide +kernel
theorem dL_law_327 : decode cL_law 327 = .ok (.aload_n 2, 1) := by decide +kernel
theorem dL_law_328 : decode cL_law 328 = .ok (.aload_n 0, 1) := by decide +kernel
theorem dL_law_329 : decode cL_law 329 = .ok (.iload_n 3, 1) := by decide +kernel
theorem dL_law_330 : decode cL_law 330 = .ok (.iconst 1, 1) := by decide +kernel
theorem dL_law_331 : decode cL_law 331 = .ok (.iadd, 1) := by decide +kernel
theorem dL_law_332 : decode cL_law 332 = .ok (.iaload, 1) := by decide +kernel
theorem dL_law_333 : decode cL_law 333 = .ok (.aload_n 0, 1) := by decide +kernel
theorem dL_law_334 : decode cL_law 334 = .ok (.iload_n 3, 1) := by decide +kernel
theorem dL_law_335 : decode cL_law 335 = .ok (.iconst 2, 1) := by decide +kernel
theorem dL_law_336 : decode cL_law 336 = .ok (.iadd, 1) := by decide +kernel
theorem dL_law_337 : decode cL_law 337 = .ok (.iaload, 1) := by decide +kernel
theorem dL_law_338 : decode cL_law 338 = .ok (.invokevirtual 47, 3) := by decide +kernel
theorem dL_law_341 : decode cL_law 341 = .ok (.if_icmp .eq 470, 3) := by decide +kernel
theorem dL_law_344 : decode cL_law 344 = .ok (.iconst 0, 1) := by decide +kernel
theorem dL_law_345 : decode cL_law 345 = .ok (.ireturn, 1) := by decide +kernel
theorem dL_law_346 : decode cL_law 346 = .ok (.aload_n 1, 1) := by decide +kernel
theorem dL_law_347 : decode cL_law 347 = .ok (.aload_n 0, 1) := by decide +kernel
theorem dL_law_348 : decode cL_law 348 = .ok (.iload_n 3, 1) := by decide +kernel
theorem dL_law_349 : decode cL_law 349 = .ok (.iconst 1, 1) := by decide +kernel
theorem dL_law_350 : decode cL_law 350 = .ok (.iadd, 1) := by decide +kernel
theorem dL_law_351 : decode cL_law 351 = .ok (.iaload, 1) := by decide +kernel
theorem dL_law_352 : decode cL_law 352 = .ok (.aload_n 0, 1) := by decide +kernel
theorem dL_law_353 : decode cL_law 353 = .ok (.iload_n 3, 1) := by decide +kernel
theorem dL_law_354 : decode cL_law 354 = .ok (.iconst 2, 1) := by decide +kernel
theorem dL_law_355 : decode cL_law 355 = .ok (.iadd, 1) := by decide +kernel
theorem dL_law_356 : decode cL_law 356 = .ok (.iaload, 1) := by decide +kernel
theorem dL_law_357 : decode cL_law 357 = .ok (.invokevirtual 48, 3) := by decide +kernel
theorem dL_law_360 : decode cL_law 360 = .ok (.aload_n 2, 1) := by decide +kernel
theorem dL_law_361 : decode cL_law 361 = .ok (.aload_n 0, 1) := by decide +kernel
theorem dL_law_362 : decode cL_law 362 = .ok (.iload_n 3, 1) := by decide +kernel
theorem dL_law_363 : decode cL_law 363 = .ok (.iconst 1, 1) := by decide +kernel
theorem dL_law_364 : decode cL_law 364 = .ok (.iadd, 1) := by decide +kernel
theorem dL_law_365 : decode cL_law 365 = .ok (.iaload, 1) := by decide +kernel
theorem dL_law_366 : decode cL_law 366 = .ok (.aload_n 0, 1) := by decide +kernel
theorem dL_law_367 : decode cL_law 367 = .ok (.iload_n 3, 1) := by decide +kernel
theorem dL_law_368 : decode cL_law 368 = .ok (.iconst 2, 1) := by decide +kernel
theorem dL_law_369 : decode cL_law 369 = .ok (.iadd, 1) := by decide +kernel
theorem dL_law_370 : decode cL_law 370 = .ok (.iaload, 1) := by decide +kernel
theorem dL_law_371 : decode cL_law 371 = .ok (.invokevirtual 51, 3) := by decide +kernel
theorem dL_law_374 : decode cL_law 374 = .ok (.if_icmp .eq 437, 3) := by decide +kernel
theorem dL_law_377 : decode cL_law 377 = .ok (.iconst 0, 1) := by decide +kernel
theorem dL_law_378 : decode cL_law 378 = .ok (.ireturn, 1) := by decide +kernel
theorem dL_law_379 : decode cL_law 379 = .ok (.aload_n 1, 1) := by decide +kernel
theorem dL_law_380 : decode cL_law 380 = .ok (.aload_n 0, 1) := by decide +kernel
theorem dL_law_381 : decode cL_law 381 = .ok (.iload_n 3, 1) := by decide +kernel
theorem dL_law_382 : decode cL_law 382 = .ok (.iconst 1, 1) := by decide +kernel
theorem dL_law_383 : decode cL_law 383 = .ok (.iadd, 1) := by decide +kernel
theorem dL_law_384 : decode cL_law 384 = .ok (.iaload, 1) := by decide +kernel
theorem dL_law_385 : decode cL_law 385 = .ok (.aload_n 0, 1) := by decide +kernel
theorem dL_law_386 : decode cL_law 386 = .ok (.iload_n 3, 1) := by decide +kernel
theorem dL_law_387 : decode cL_law 387 = .ok (.iconst 2, 1) := by decide +kernel
theorem dL_law_388 : decode cL_law 388 = .ok (.iadd, 1) := by decide +kernel
theorem dL_law_389 : decode cL_law 389 = .ok (.iaload, 1) := by decide +kernel
theorem dL_law_390 : decode cL_law 390 = .ok (.invokevirtual 52, 3) := by decide +kernel
theorem dL_law_393 : decode cL_law 393 = .ok (.aload_n 2, 1) := by decide +kernel
theorem dL_law_394 : decode cL_law 394 = .ok (.aload_n 0, 1) := by decide +kernel
theorem dL_law_395 : decode cL_law 395 = .ok (.iload_n 3, 1) := by decide +kernel
theorem dL_law_396 : decode cL_law 396 = .ok (.iconst 1, 1) := by decide +kernel
theorem dL_law_397 : decode cL_law 397 = .ok (.iadd, 1) := by decide +kernel
theorem dL_law_398 : decode cL_law 398 = .ok (.iaload, 1) := by decide +kernel
theorem dL_law_399 : decode cL_law 399 = .ok (.aload_n 0, 1) := by decide +kernel
theorem dL_law_400 : decode cL_law 400 = .ok (.iload_n 3, 1) := by decide +kernel
theorem dL_law_401 : decode cL_law 401 = .ok (.iconst 2, 1) := by decide +kernel
theorem dL_law_402 : decode cL_law 402 = .ok (.iadd, 1) := by decide +kernel
theorem dL_law_403 : decode cL_law 403 = .ok (.iaload, 1) := by decide +kernel
theorem dL_law_404 : decode cL_law 404 = .ok (.invokevirtual 55, 3) := by decide +kernel
theorem dL_law_407 : decode cL_law 407 = .ok (.if_icmp .eq 404, 3) := by decide +kernel
theorem dL_law_410 : decode cL_law 410 = .ok (.iconst 0, 1) := by decide +kernel
theorem dL_law_411 : decode cL_law 411 = .ok (.ireturn, 1) := by decide +kernel
theorem dL_law_412 : decode cL_law 412 = .ok (.aload_n 1, 1) := by decide +kernel
theorem dL_law_413 : decode cL_law 413 = .ok (.aload_n 0, 1) := by decide +kernel
theorem dL_law_414 : decode cL_law 414 = .ok (.iload_n 3, 1) := by decide +kernel
theorem dL_law_415 : decode cL_law 415 = .ok (.iconst 1, 1) := by decide +kernel
theorem dL_law_416 : decode cL_law 416 = .ok (.iadd, 1) := by decide +kernel
theorem dL_law_417 : decode cL_law 417 = .ok (.iaload, 1) := by decide +kernel
theorem dL_law_418 : decode cL_law 418 = .ok (.invokevirtual 56, 3) := by decide +kernel
theorem dL_law_421 : decode cL_law 421 = .ok (.aload_n 2, 1) := by decide +kernel
theorem dL_law_422 : decode cL_law 422 = .ok (.aload_n 0, 1) := by decide +kernel
theorem dL_law_423 : decode cL_law 423 = .ok (.iload_n 3, 1) := by decide +kernel
theorem dL_law_424 : decode cL_law 424 = .ok (.iconst 1, 1) := by decide +kernel
theorem dL_law_425 : decode cL_law 425 = .ok (.iadd, 1) := by decide +kernel
theorem dL_law_426 : decode cL_law 426 = .ok (.iaload, 1) := by decide +kernel
theorem dL_law_427 : decode cL_law 427 = .ok (.invokevirtual 59, 3) := by decide +kernel
theorem dL_law_430 : decode cL_law 430 = .ok (.if_icmp .eq 381, 3) := by decide +kernel
theorem dL_law_433 : decode cL_law 433 = .ok (.iconst 0, 1) := by decide +kernel
theorem dL_law_434 : decode cL_law 434 = .ok (.ireturn, 1) := by decide +kernel
theorem dL_law_435 : decode cL_law 435 = .ok (.aload_n 1, 1) := by decide +kernel
theorem dL_law_436 : decode cL_law 436 = .ok (.invokevirtual 60, 3) := by decide +kernel
theorem dL_law_439 : decode cL_law 439 = .ok (.aload_n 2, 1) := by decide +kernel
theorem dL_law_440 : decode cL_law 440 = .ok (.invokevirtual 63, 3) := by decide +kernel
theorem dL_law_443 : decode cL_law 443 = .ok (.if_icmp .eq 368, 3) := by decide +kernel
theorem dL_law_446 : decode cL_law 446 = .ok (.iconst 0, 1) := by decide +kernel
theorem dL_law_447 : decode cL_law 447 = .ok (.ireturn, 1) := by decide +kernel
theorem dL_law_448 : decode cL_law 448 = .ok (.aload_n 1, 1) := by decide +kernel
theorem dL_law_449 : decode cL_law 449 = .ok (.aload_n 0, 1) := by decide +kernel
theorem dL_law_450 : decode cL_law 450 = .ok (.iload_n 3, 1) := by decide +kernel
theorem dL_law_451 : decode cL_law 451 = .ok (.iconst 1, 1) := by decide +kernel
theorem dL_law_452 : decode cL_law 452 = .ok (.iadd, 1) := by decide +kernel
theorem dL_law_453 : decode cL_law 453 = .ok (.iaload, 1) := by decide +kernel
theorem dL_law_454 : decode cL_law 454 = .ok (.aload_n 0, 1) := by decide +kernel
theorem dL_law_455 : decode cL_law 455 = .ok (.iload_n 3, 1) := by decide +kernel
theorem dL_law_456 : decode cL_law 456 = .ok (.iconst 2, 1) := by decide +kernel
theorem dL_law_457 : decode cL_law 457 = .ok (.iadd, 1) := by decide +kernel
theorem dL_law_458 : decode cL_law 458 = .ok (.iaload, 1) := by decide +kernel
theorem dL_law_459 : decode cL_law 459 = .ok (.invokevirtual 64, 3) := by decide +kernel
theorem dL_law_462 : decode cL_law 462 = .ok (.aload_n 2, 1) := by decide +kernel
theorem dL_law_463 : decode cL_law 463 = .ok (.aload_n 0, 1) := by decide +kernel
theorem dL_law_464 : decode cL_law 464 = .ok (.iload_n 3, 1) := by decide +kernel
theorem dL_law_465 : decode cL_law 465 = .ok (.iconst 1, 1) := by decide +kernel
theorem dL_law_466 : decode cL_law 466 = .ok (.iadd, 1) := by decide +kernel
theorem dL_law_467 : decode cL_law 467 = .ok (.iaload, 1) := by decide +kernel
theorem dL_law_468 : decode cL_law 468 = .ok (.aload_n 0, 1) := by decide +kernel
theorem dL_law_469 : decode cL_law 469 = .ok (.iload_n 3, 1) := by decide +kernel
theorem dL_law_470 : decode cL_law 470 = .ok (.iconst 2, 1) := by decide +kernel
theorem dL_law_471 : decode cL_law 471 = .ok (.iadd, 1) := by decide +kernel
theorem dL_law_472 : decode cL_law 472 = .ok (.iaload, 1) := by decide +kernel
theorem dL_law_473 : decode cL_law 473 = .ok (.invokevirtual 67, 3) := by decide +kernel
theorem dL_law_476 : decode cL_law 476 = .ok (.if_icmp .eq 335, 3) := by decide +kernel
theorem dL_law_479 : decode cL_law 479 = .ok (.iconst 0, 1) := by decide +kernel
theorem dL_law_480 : decode cL_law 480 = .ok (.ireturn, 1) := by decide +kernel
theorem dL_law_481 : decode cL_law 481 = .ok (.aload_n 1, 1) := by decide +kernel
theorem dL_law_482 : decode cL_law 482 = .ok (.aload_n 0, 1) := by decide +kernel
theorem dL_law_483 : decode cL_law 483 = .ok (.iload_n 3, 1) := by decide +kernel
theorem dL_law_484 : decode cL_law 484 = .ok (.iconst 1, 1) := by decide +kernel
theorem dL_law_485 : decode cL_law 485 = .ok (.iadd, 1) := by decide +kernel
theorem dL_law_486 : decode cL_law 486 = .ok (.iaload, 1) := by decide +kernel
theorem dL_law_487 : decode cL_law 487 = .ok (.aload_n 0, 1) := by decide +kernel
theorem dL_law_488 : decode cL_law 488 = .ok (.iload_n 3, 1) := by decide +kernel
theorem dL_law_489 : decode cL_law 489 = .ok (.iconst 2, 1) := by decide +kernel
theorem dL_law_490 : decode cL_law 490 = .ok (.iadd, 1) := by decide +kernel
theorem dL_law_491 : decode cL_law 491 = .ok (.iaload, 1) := by decide +kernel
theorem dL_law_492 : decode cL_law 492 = .ok (.aload_n 0, 1) := by decide +kernel
theorem dL_law_493 : decode cL_law 493 = .ok (.iload_n 3, 1) := by decide +kernel
theorem dL_law_494 : decode cL_law 494 = .ok (.iconst 3, 1) := by decide +kernel
theorem dL_law_495 : decode cL_law 495 = .ok (.iadd, 1) := by decide +kernel
theorem dL_law_496 : decode cL_law 496 = .ok (.iaload, 1) := by decide +kernel
theorem dL_law_497 : decode cL_law 497 = .ok (.invokevirtual 68, 3) := by decide +kernel
theorem dL_law_500 : decode cL_law 500 = .ok (.aload_n 2, 1) := by decide +kernel
theorem dL_law_501 : decode cL_law 501 = .ok (.aload_n 0, 1) := by decide +kernel
theorem dL_law_502 : decode cL_law 502 = .ok (.iload_n 3, 1) := by decide +kernel
theorem dL_law_503 : decode cL_law 503 = .ok (.iconst 1, 1) := by decide +kernel
theorem dL_law_504 : decode cL_law 504 = .ok (.iadd, 1) := by decide +kernel
theorem dL_law_505 : decode cL_law 505 = .ok (.iaload, 1) := by decide +kernel
theorem dL_law_506 : decode cL_law 506 = .ok (.aload_n 0, 1) := by decide +kernel
theorem dL_law_507 : decode cL_law 507 = .ok (.iload_n 3, 1) := by decide +kernel
theorem dL_law_508 : decode cL_law 508 = .ok (.iconst 2, 1) := by decide +kernel
theorem dL_law_509 : decode cL_law 509 = .ok (.iadd, 1) := by decide +kernel
theorem dL_law_510 : decode cL_law 510 = .ok (.iaload, 1) := by decide +kernel
theorem dL_law_511 : decode cL_law 511 = .ok (.aload_n 0, 1) := by decide +kernel
theorem dL_law_512 : decode cL_law 512 = .ok (.iload_n 3, 1) := by decide +kernel
theorem dL_law_513 : decode cL_law 513 = .ok (.iconst 3, 1) := by decide +kernel
theorem dL_law_514 : decode cL_law 514 = .ok (.iadd, 1) := by decide +kernel
theorem dL_law_515 : decode cL_law 515 = .ok (.iaload, 1) := by decide +kernel
theorem dL_law_516 : decode cL_law 516 = .ok (.invokevirtual 72, 3) := by decide +kernel
theorem dL_law_519 : decode cL_law 519 = .ok (.if_icmp .eq 292, 3) := by decide +kernel
theorem dL_law_522 : decode cL_law 522 = .ok (.iconst 0, 1) := by decide +kernel
theorem dL_law_523 : decode cL_law 523 = .ok (.ireturn, 1) := by decide +kernel
theorem dL_law_524 : decode cL_law 524 = .ok (.aload_n 1, 1) := by decide +kernel
theorem dL_law_525 : decode cL_law 525 = .ok (.aload_n 0, 1) := by decide +kernel
theorem dL_law_526 : decode cL_law 526 = .ok (.iload_n 3, 1) := by decide +kernel
theorem dL_law_527 : decode cL_law 527 = .ok (.iconst 1, 1) := by decide +kernel
theorem dL_law_528 : decode cL_law 528 = .ok (.iadd, 1) := by decide +kernel
theorem dL_law_529 : decode cL_law 529 = .ok (.iaload, 1) := by decide +kernel
theorem dL_law_530 : decode cL_law 530 = .ok (.invokevirtual 73, 3) := by decide +kernel
theorem dL_law_533 : decode cL_law 533 = .ok (.aload_n 2, 1) := by decide +kernel
theorem dL_law_534 : decode cL_law 534 = .ok (.aload_n 0, 1) := by decide +kernel
theorem dL_law_535 : decode cL_law 535 = .ok (.iload_n 3, 1) := by decide +kernel
theorem dL_law_536 : decode cL_law 536 = .ok (.iconst 1, 1) := by decide +kernel
theorem dL_law_537 : decode cL_law 537 = .ok (.iadd, 1) := by decide +kernel
theorem dL_law_538 : decode cL_law 538 = .ok (.iaload, 1) := by decide +kernel
theorem dL_law_539 : decode cL_law 539 = .ok (.invokevirtual 76, 3) := by decide +kernel
theorem dL_law_542 : decode cL_law 542 = .ok (.if_icmp .eq 269, 3) := by decide +kernel
theorem dL_law_545 : decode cL_law 545 = .ok (.iconst 0, 1) := by decide +kernel
theorem dL_law_546 : decode cL_law 546 = .ok (.ireturn, 1) := by decide +kernel
theorem dL_law_547 : decode cL_law 547 = .ok (.aload_n 1, 1) := by decide +kernel
theorem dL_law_548 : decode cL_law 548 = .ok (.aload_n 0, 1) := by decide +kernel
theorem dL_law_549 : decode cL_law 549 = .ok (.iload_n 3, 1) := by decide +kernel
theorem dL_law_550 : decode cL_law 550 = .ok (.iconst 1, 1) := by decide +kernel
theorem dL_law_551 : decode cL_law 551 = .ok (.iadd, 1) := by decide +kernel
theorem dL_law_552 : decode cL_law 552 = .ok (.iaload, 1) := by decide +kernel
theorem dL_law_553 : decode cL_law 553 = .ok (.invokevirtual 77, 3) := by decide +kernel
theorem dL_law_556 : decode cL_law 556 = .ok (.aload_n 2, 1) := by decide +kernel
theorem dL_law_557 : decode cL_law 557 = .ok (.aload_n 0, 1) := by decide +kernel
theorem dL_law_558 : decode cL_law 558 = .ok (.iload_n 3, 1) := by decide +kernel
theorem dL_law_559 : decode cL_law 559 = .ok (.iconst 1, 1) := by decide +kernel
theorem dL_law_560 : decode cL_law 560 = .ok (.iadd, 1) := by decide +kernel
theorem dL_law_561 : decode cL_law 561 = .ok (.iaload, 1) := by decide +kernel
theorem dL_law_562 : decode cL_law 562 = .ok (.invokevirtual 80, 3) := by decide +kernel
theorem dL_law_565 : decode cL_law 565 = .ok (.if_icmp .eq 246, 3) := by decide +kernel
theorem dL_law_568 : decode cL_law 568 = .ok (.iconst 0, 1) := by decide +kernel
theorem dL_law_569 : decode cL_law 569 = .ok (.ireturn, 1) := by decide +kernel
theorem dL_law_570 : decode cL_law 570 = .ok (.aload_n 1, 1) := by decide +kernel
theorem dL_law_571 : decode cL_law 571 = .ok (.invokevirtual 81, 3) := by decide +kernel
theorem dL_law_574 : decode cL_law 574 = .ok (.aload_n 2, 1) := by decide +kernel
theorem dL_law_575 : decode cL_law 575 = .ok (.invokevirtual 84, 3) := by decide +kernel
theorem dL_law_578 : decode cL_law 578 = .ok (.if_icmp .eq 233, 3) := by decide +kernel
theorem dL_law_581 : decode cL_law 581 = .ok (.iconst 0, 1) := by decide +kernel
theorem dL_law_582 : decode cL_law 582 = .ok (.ireturn, 1) := by decide +kernel
theorem dL_law_583 : decode cL_law 583 = .ok (.aload_n 1, 1) := by decide +kernel
theorem dL_law_584 : decode cL_law 584 = .ok (.aload_n 0, 1) := by decide +kernel
theorem dL_law_585 : decode cL_law 585 = .ok (.iload_n 3, 1) := by decide +kernel
theorem dL_law_586 : decode cL_law 586 = .ok (.iconst 1, 1) := by decide +kernel
theorem dL_law_587 : decode cL_law 587 = .ok (.iadd, 1) := by decide +kernel
theorem dL_law_588 : decode cL_law 588 = .ok (.iaload, 1) := by decide +kernel
theorem dL_law_589 : decode cL_law 589 = .ok (.aload_n 0, 1) := by decide +kernel
theorem dL_law_590 : decode cL_law 590 = .ok (.iload_n 3, 1) := by decide +kernel
theorem dL_law_591 : decode cL_law 591 = .ok (.iconst 2, 1) := by decide +kernel
theorem dL_law_592 : decode cL_law 592 = .ok (.iadd, 1) := by decide +kernel
theorem dL_law_593 : decode cL_law 593 = .ok (.iaload, 1) := by decide +kernel
theorem dL_law_594 : decode cL_law 594 = .ok (.aload_n 0, 1) := by decide +kernel
theorem dL_law_595 : decode cL_law 595 = .ok (.iload_n 3, 1) := by decide +kernel
theorem dL_law_596 : decode cL_law 596 = .ok (.iconst 3, 1) := by decide +kernel
theorem dL_law_597 : decode cL_law 597 = .ok (.iadd, 1) := by decide +kernel
theorem dL_law_598 : decode cL_law 598 = .ok (.iaload, 1) := by decide +kernel
theorem dL_law_599 : decode cL_law 599 = .ok (.invokevirtual 85, 3) := by decide +kernel
theorem dL_law_602 : decode cL_law 602 = .ok (.aload_n 2, 1) := by decide +kernel
theorem dL_law_603 : decode cL_law 603 = .ok (.aload_n 0, 1) := by decide +kernel
theorem dL_law_604 : decode cL_law 604 = .ok (.iload_n 3, 1) := by decide +kernel
theorem dL_law_605 : decode cL_law 605 = .ok (.iconst 1, 1) := by decide +kernel
theorem dL_law_606 : decode cL_law 606 = .ok (.iadd, 1) := by decide +kernel
theorem dL_law_607 : decode cL_law 607 = .ok (.iaload, 1) := by decide +kernel
theorem dL_law_608 : decode cL_law 608 = .ok (.aload_n 0, 1) := by decide +kernel
theorem dL_law_609 : decode cL_law 609 = .ok (.iload_n 3, 1) := by decide +kernel
theorem dL_law_610 : decode cL_law 610 = .ok (.iconst 2, 1) := by decide +kernel
theorem dL_law_611 : decode cL_law 611 = .ok (.iadd, 1) := by decide +kernel
theorem dL_law_612 : decode cL_law 612 = .ok (.iaload, 1) := by decide +kernel
theorem dL_law_613 : decode cL_law 613 = .ok (.aload_n 0, 1) := by decide +kernel
theorem dL_law_614 : decode cL_law 614 = .ok (.iload_n 3, 1) := by decide +kernel
theorem dL_law_615 : decode cL_law 615 = .ok (.iconst 3, 1) := by decide +kernel
theorem dL_law_616 : decode cL_law 616 = .ok (.iadd, 1) := by decide +kernel
theorem dL_law_617 : decode cL_law 617 = .ok (.iaload, 1) := by decide +kernel
theorem dL_law_618 : decode cL_law 618 = .ok (.invokevirtual 88, 3) := by decide +kernel
theorem dL_law_621 : decode cL_law 621 = .ok (.if_icmp .eq 190, 3) := by decide +kernel
theorem dL_law_624 : decode cL_law 624 = .ok (.iconst 0, 1) := by decide +kernel
theorem dL_law_625 : decode cL_law 625 = .ok (.ireturn, 1) := by decide +kernel
theorem dL_law_626 : decode cL_law 626 = .ok (.aload_n 1, 1) := by decide +kernel
theorem dL_law_627 : decode cL_law 627 = .ok (.aload_n 0, 1) := by decide +kernel
theorem dL_law_628 : decode cL_law 628 = .ok (.iload_n 3, 1) := by decide +kernel
theorem dL_law_629 : decode cL_law 629 = .ok (.iconst 1, 1) := by decide +kernel
theorem dL_law_630 : decode cL_law 630 = .ok (.iadd, 1) := by decide +kernel
theorem dL_law_631 : decode cL_law 631 = .ok (.iaload, 1) := by decide +kernel
theorem dL_law_632 : decode cL_law 632 = .ok (.invokevirtual 89, 3) := by decide +kernel
theorem dL_law_635 : decode cL_law 635 = .ok (.aload_n 2, 1) := by decide +kernel
theorem dL_law_636 : decode cL_law 636 = .ok (.aload_n 0, 1) := by decide +kernel
theorem dL_law_637 : decode cL_law 637 = .ok (.iload_n 3, 1) := by decide +kernel
theorem dL_law_638 : decode cL_law 638 = .ok (.iconst 1, 1) := by decide +kernel
theorem dL_law_639 : decode cL_law 639 = .ok (.iadd, 1) := by decide +kernel
theorem dL_law_640 : decode cL_law 640 = .ok (.iaload, 1) := by decide +kernel
theorem dL_law_641 : decode cL_law 641 = .ok (.invokevirtual 92, 3) := by decide +kernel
theorem dL_law_644 : decode cL_law 644 = .ok (.if_icmp .eq 167, 3) := by decide +kernel
theorem dL_law_647 : decode cL_law 647 = .ok (.iconst 0, 1) := by decide +kernel
theorem dL_law_648 : decode cL_law 648 = .ok (.ireturn, 1) := by decide +kernel
theorem dL_law_649 : decode cL_law 649 = .ok (.aload_n 1, 1) := by decide +kernel
theorem dL_law_650 : decode cL_law 650 = .ok (.aload_n 0, 1) := by decide +kernel
theorem dL_law_651 : decode cL_law 651 = .ok (.iload_n 3, 1) := by decide +kernel
theorem dL_law_652 : decode cL_law 652 = .ok (.iconst 1, 1) := by decide +kernel
theorem dL_law_653 : decode cL_law 653 = .ok (.iadd, 1) := by decide +kernel
theorem dL_law_654 : decode cL_law 654 = .ok (.iaload, 1) := by decide +kernel
theorem dL_law_655 : decode cL_law 655 = .ok (.aload_n 0, 1) := by decide +kernel
theorem dL_law_656 : decode cL_law 656 = .ok (.iload_n 3, 1) := by decide +kernel
theorem dL_law_657 : decode cL_law 657 = .ok (.iconst 2, 1) := by decide +kernel
theorem dL_law_658 : decode cL_law 658 = .ok (.iadd, 1) := by decide +kernel
theorem dL_law_659 : decode cL_law 659 = .ok (.iaload, 1) := by decide +kernel
theorem dL_law_660 : decode cL_law 660 = .ok (.aload_n 0, 1) := by decide +kernel
theorem dL_law_661 : decode cL_law 661 = .ok (.iload_n 3, 1) := by decide +kernel
theorem dL_law_662 : decode cL_law 662 = .ok (.iconst 3, 1) := by decide +kernel
theorem dL_law_663 : decode cL_law 663 = .ok (.iadd, 1) := by decide +kernel
theorem dL_law_664 : decode cL_law 664 = .ok (.iaload, 1) := by decide +kernel
theorem dL_law_665 : decode cL_law 665 = .ok (.invokevirtual 93, 3) := by decide +kernel
theorem dL_law_668 : decode cL_law 668 = .ok (.aload_n 2, 1) := by decide +kernel
theorem dL_law_669 : decode cL_law 669 = .ok (.aload_n 0, 1) := by decide +kernel
theorem dL_law_670 : decode cL_law 670 = .ok (.iload_n 3, 1) := by decide +kernel
theorem dL_law_671 : decode cL_law 671 = .ok (.iconst 1, 1) := by decide +kernel
theorem dL_law_672 : decode cL_law 672 = .ok (.iadd, 1) := by decide +kernel
theorem dL_law_673 : decode cL_law 673 = .ok (.iaload, 1) := by decide +kernel
theorem dL_law_674 : decode cL_law 674 = .ok (.aload_n 0, 1) := by decide +kernel
theorem dL_law_675 : decode cL_law 675 = .ok (.iload_n 3, 1) := by decide +kernel
theorem dL_law_676 : decode cL_law 676 = .ok (.iconst 2, 1) := by decide +kernel
theorem dL_law_677 : decode cL_law 677 = .ok (.iadd, 1) := by decide +kernel
theorem dL_law_678 : decode cL_law 678 = .ok (.iaload, 1) := by decide +kernel
theorem dL_law_679 : decode cL_law 679 = .ok (.aload_n 0, 1) := by decide +kernel
theorem dL_law_680 : decode cL_law 680 = .ok (.iload_n 3, 1) := by decide +kernel
theorem dL_law_681 : decode cL_law 681 = .ok (.iconst 3, 1) := by decide +kernel
theorem dL_law_682 : decode cL_law 682 = .ok (.iadd, 1) := by decide +kernel
theorem dL_law_683 : decode cL_law 683 = .ok (.iaload, 1) := by decide +kernel
theorem dL_law_684 : decode cL_law 684 = .ok (.invokevirtual 96, 3) := by decide +kernel
theorem dL_law_687 : decode cL_law 687 = .ok (.if_icmp .eq 124, 3) := by decide +kernel
theorem dL_law_690 : decode cL_law 690 = .ok (.iconst 0, 1) := by decide +kernel
theorem dL_law_691 : decode cL_law 691 = .ok (.ireturn, 1) := by decide +kernel
theorem dL_law_692 : decode cL_law 692 = .ok (.aload_n 1, 1) := by decide +kernel
theorem dL_law_693 : decode cL_law 693 = .ok (.invokevirtual 97, 3) := by decide +kernel
theorem dL_law_696 : decode cL_law 696 = .ok (.aload_n 2, 1) := by decide +kernel
theorem dL_law_697 : decode cL_law 697 = .ok (.invokevirtual 100, 3) := by decide +kernel
theorem dL_law_700 : decode cL_law 700 = .ok (.if_icmp .eq 111, 3) := by decide +kernel
theorem dL_law_703 : decode cL_law 703 = .ok (.iconst 0, 1) := by decide +kernel
theorem dL_law_704 : decode cL_law 704 = .ok (.ireturn, 1) := by decide +kernel
theorem dL_law_705 : decode cL_law 705 = .ok (.aload_n 1, 1) := by decide +kernel
theorem dL_law_706 : decode cL_law 706 = .ok (.aload_n 0, 1) := by decide +kernel
theorem dL_law_707 : decode cL_law 707 = .ok (.iload_n 3, 1) := by decide +kernel
theorem dL_law_708 : decode cL_law 708 = .ok (.iconst 1, 1) := by decide +kernel
theorem dL_law_709 : decode cL_law 709 = .ok (.iadd, 1) := by decide +kernel
theorem dL_law_710 : decode cL_law 710 = .ok (.iaload, 1) := by decide +kernel
theorem dL_law_711 : decode cL_law 711 = .ok (.aload_n 0, 1) := by decide +kernel
theorem dL_law_712 : decode cL_law 712 = .ok (.iload_n 3, 1) := by decide +kernel
theorem dL_law_713 : decode cL_law 713 = .ok (.iconst 2, 1) := by decide +kernel
theorem dL_law_714 : decode cL_law 714 = .ok (.iadd, 1) := by decide +kernel
theorem dL_law_715 : decode cL_law 715 = .ok (.iaload, 1) := by decide +kernel
theorem dL_law_716 : decode cL_law 716 = .ok (.aload_n 0, 1) := by decide +kernel
theorem dL_law_717 : decode cL_law 717 = .ok (.iload_n 3, 1) := by decide +kernel
theorem dL_law_718 : decode cL_law 718 = .ok (.iconst 3, 1) := by decide +kernel
theorem dL_law_719 : decode cL_law 719 = .ok (.iadd, 1) := by decide +kernel
theorem dL_law_720 : decode cL_law 720 = .ok (.iaload, 1) := by decide +kernel
theorem dL_law_721 : decode cL_law 721 = .ok (.invokevirtual 101, 3) := by decide +kernel
theorem dL_law_724 : decode cL_law 724 = .ok (.aload_n 2, 1) := by decide +kernel
theorem dL_law_725 : decode cL_law 725 = .ok (.aload_n 0, 1) := by decide +kernel
theorem dL_law_726 : decode cL_law 726 = .ok (.iload_n 3, 1) := by decide +kernel
theorem dL_law_727 : decode cL_law 727 = .ok (.iconst 1, 1) := by decide +kernel
theorem dL_law_728 : decode cL_law 728 = .ok (.iadd, 1) := by decide +kernel
theorem dL_law_729 : decode cL_law 729 = .ok (.iaload, 1) := by decide +kernel
theorem dL_law_730 : decode cL_law 730 = .ok (.aload_n 0, 1) := by decide +kernel
theorem dL_law_731 : decode cL_law 731 = .ok (.iload_n 3, 1) := by decide +kernel
theorem dL_law_732 : decode cL_law 732 = .ok (.iconst 2, 1) := by decide +kernel
theorem dL_law_733 : decode cL_law 733 = .ok (.iadd, 1) := by decide +kernel
theorem dL_law_734 : decode cL_law 734 = .ok (.iaload, 1) := by decide +kernel
theorem dL_law_735 : decode cL_law 735 = .ok (.aload_n 0, 1) := by decide +kernel
theorem dL_law_736 : decode cL_law 736 = .ok (.iload_n 3, 1) := by decide +kernel
theorem dL_law_737 : decode cL_law 737 = .ok (.iconst 3, 1) := by decide +kernel
theorem dL_law_738 : decode cL_law 738 = .ok (.iadd, 1) := by decide +kernel
theorem dL_law_739 : decode cL_law 739 = .ok (.iaload, 1) := by decide +kernel
theorem dL_law_740 : decode cL_law 740 = .ok (.invokevirtual 104, 3) := by decide +kernel
theorem dL_law_743 : decode cL_law 743 = .ok (.if_icmp .eq 68, 3) := by decide +kernel
theorem dL_law_746 : decode cL_law 746 = .ok (.iconst 0, 1) := by decide +kernel
theorem dL_law_747 : decode cL_law 747 = .ok (.ireturn, 1) := by decide +kernel
theorem dL_law_748 : decode cL_law 748 = .ok (.aload_n 1, 1) := by decide +kernel
theorem dL_law_749 : decode cL_law 749 = .ok (.invokevirtual 105, 3) := by decide +kernel
theorem dL_law_752 : decode cL_law 752 = .ok (.aload_n 2, 1) := by decide +kernel
theorem dL_law_753 : decode cL_law 753 = .ok (.invokevirtual 108, 3) := by decide +kernel
theorem dL_law_756 : decode cL_law 756 = .ok (.if_icmp .eq 55, 3) := by decide +kernel
theorem dL_law_759 : decode cL_law 759 = .ok (.iconst 0, 1) := by decide +kernel
theorem dL_law_760 : decode cL_law 760 = .ok (.ireturn, 1) := by decide +kernel
theorem dL_law_761 : decode cL_law 761 = .ok (.aload_n 1, 1) := by decide +kernel
theorem dL_law_762 : decode cL_law 762 = .ok (.invokevirtual 109, 3) := by decide +kernel
theorem dL_law_765 : decode cL_law 765 = .ok (.aload_n 2, 1) := by decide +kernel
theorem dL_law_766 : decode cL_law 766 = .ok (.invokevirtual 112, 3) := by decide +kernel
theorem dL_law_769 : decode cL_law 769 = .ok (.if_icmp .eq 42, 3) := by decide +kernel
theorem dL_law_772 : decode cL_law 772 = .ok (.iconst 0, 1) := by decide +kernel
theorem dL_law_773 : decode cL_law 773 = .ok (.ireturn, 1) := by decide +kernel
theorem dL_law_774 : decode cL_law 774 = .ok (.aload_n 1, 1) := by decide +kernel
theorem dL_law_775 : decode cL_law 775 = .ok (.aload_n 0, 1) := by decide +kernel
theorem dL_law_776 : decode cL_law 776 = .ok (.iload_n 3, 1) := by decide +kernel
theorem dL_law_777 : decode cL_law 777 = .ok (.iconst 1, 1) := by decide +kernel
theorem dL_law_778 : decode cL_law 778 = .ok (.iadd, 1) := by decide +kernel
theorem dL_law_779 : decode cL_law 779 = .ok (.iaload, 1) := by decide +kernel
theorem dL_law_780 : decode cL_law 780 = .ok (.invokevirtual 113, 3) := by decide +kernel
theorem dL_law_783 : decode cL_law 783 = .ok (.aload_n 2, 1) := by decide +kernel
theorem dL_law_784 : decode cL_law 784 = .ok (.aload_n 0, 1) := by decide +kernel
theorem dL_law_785 : decode cL_law 785 = .ok (.iload_n 3, 1) := by decide +kernel
theorem dL_law_786 : decode cL_law 786 = .ok (.iconst 1, 1) := by decide +kernel
theorem dL_law_787 : decode cL_law 787 = .ok (.iadd, 1) := by decide +kernel
theorem dL_law_788 : decode cL_law 788 = .ok (.iaload, 1) := by decide +kernel
theorem dL_law_789 : decode cL_law 789 = .ok (.invokevirtual 116, 3) := by decide +kernel
theorem dL_law_792 : decode cL_law 792 = .ok (.if_icmp .eq 19, 3) := by decide +kernel
theorem dL_law_795 : decode cL_law 795 = .ok (.iconst 0, 1) := by decide +kernel
theorem dL_law_796 : decode cL_law 796 = .ok (.ireturn, 1) := by decide +kernel
theorem dL_law_797 : decode cL_law 797 = .ok (.aload_n 1, 1) := by decide +kernel
theorem dL_law_798 : decode cL_law 798 = .ok (.invokevirtual 117, 3) := by decide +kernel
theorem dL_law_801 : decode cL_law 801 = .ok (.aload_n 2, 1) := by decide +kernel
theorem dL_law_802 : decode cL_law 802 = .ok (.invokevirtual 121, 3) := by decide +kernel
theorem dL_law_805 : decode cL_law 805 = .ok (.lcmp, 1) := by decide +kernel
theorem dL_law_806 : decode cL_law 806 = .ok (.ifCond .eq 5, 3) := by decide +kernel
theorem dL_law_809 : decode cL_law 809 = .ok (.iconst 0, 1) := by decide +kernel
theorem dL_law_810 : decode cL_law 810 = .ok (.ireturn, 1) := by decide +kernel
theorem dL_law_811 : decode cL_law 811 = .ok (.iinc 3 4, 3) := by decide +kernel
theorem dL_law_814 : decode cL_law 814 = .ok (.goto (-796), 3) := by decide +kernel
theorem dL_law_817 : decode cL_law 817 = .ok (.iconst 1, 1) := by decide +kernel
theorem dL_law_818 : decode cL_law 818 = .ok (.ireturn, 1) := by decide +kernel
end
section
-- the mathematical machine: values, cells, worlds; a cell k of the world lies at base + k
abbrev mV : Type := Int32 ⊕ Int64 ⊕ Option Nat ⊕ Nat
abbrev vi (x : Int32) : mV := Sum.inl x
abbrev vl (x : Int64) : mV := Sum.inr (Sum.inl x)
abbrev vr (o : Option Nat) : mV := Sum.inr (Sum.inr (Sum.inl o))
abbrev vx (k : Nat) : mV := Sum.inr (Sum.inr (Sum.inr k))
abbrev mC : Type := (Nat × List mV) ⊕ (Nat × (Nat → Int32)) ⊕ (Nat × (Nat → Option Nat))
abbrev mW : Type := List mC
/-- base, fixed addresses (0 the script, 1 a string, 2 its bytes), the classes of [I and of the row of objects, where the classes lie -/
abbrev mG : Type := Nat × (Nat → Nat) × ClassId × ClassId × va_G
/-- a method: name, code, locals, return -/
abbrev mM : Type := MethodName × ByteArray × Nat × Option FieldType
abbrev mXs : Type := Nat × (Nat → Int32)
def mcat : mV → Nat
  | .inl _ => 1
  | .inr (.inl _) => 2
  | .inr (.inr _) => 1
def mt (g : mG) : mV → Value
  | .inl i => .int i
  | .inr (.inl j) => .long j
  | .inr (.inr (.inl none)) => .null
  | .inr (.inr (.inl (some k))) => .ref (g.1 + k)
  | .inr (.inr (.inr k)) => .ref (g.2.1 k)
theorem mt_cat (g : mG) (v : mV) : (mt g v).category = mcat v := by
  rcases v with _ | _ | (_ | _) | _ <;> rfl
def mcl (g : mG) : mC → va_E
  | .inl o => .inr (o.1, o.2.map (mt g))
  | .inr (.inl a) => .inl (g.2.2.1, a.1, .inl a.2)
  | .inr (.inr q) => .inl (g.2.2.2.1, q.1, .inr (.inr (.inr (.inr (fun j => (q.2 j).map (fun k => g.1 + k))))))
def mR (g : mG) (w : mW) : va_W := w.mapIdx (fun k c => (g.1 + k, mcl g c))
theorem mR_get {g : mG} {w : mW} {k : Nat} {c : mC} (h : w[k]? = some c) : (mR g w)[k]? = some (g.1 + k, mcl g c) := by
  simp [mR, List.getElem?_mapIdx, h]
theorem mR_inv {g : mG} {w : mW} {k : Nat} {q : Nat × va_E} (h : (mR g w)[k]? = some q) : ∃ c, w[k]? = some c ∧ q = (g.1 + k, mcl g c) := by
  simp only [mR, List.getElem?_mapIdx, Option.map_eq_some_iff] at h
  obtain ⟨c, h1, h2⟩ := h
  exact ⟨c, h1, h2.symm⟩
theorem mR_set {g : mG} {w : mW} {k : Nat} {c : mC} : mR g (w.set k c) = (mR g w).set k (g.1 + k, mcl g c) := by
  apply List.ext_getElem?
  intro j
  simp only [mR, List.getElem?_mapIdx, List.getElem?_set, List.length_mapIdx]
  by_cases h : k = j
  · subst h
    by_cases hl : k < w.length <;> simp [hl]
  · simp [h]
theorem mR_app {g : mG} {w : mW} {c : mC} : mR g (w ++ [c]) = mR g w ++ [(g.1 + w.length, mcl g c)] := by
  simp [mR]
theorem mR_D {g : mG} {w : mW} : va_D (fun q => g.1 ≤ q) (mR g w) := by
  refine ⟨fun i j p q hi hj h => ?_, fun k q hk => ?_⟩
  · obtain ⟨c, -, rfl⟩ := mR_inv hi
    obtain ⟨d, -, rfl⟩ := mR_inv hj
    exact Nat.add_left_cancel h
  · obtain ⟨c, -, rfl⟩ := mR_inv hk
    exact Nat.le_add_right _ _
def mSzc : mC → Nat
  | .inl o => o.2.length
  | .inr (.inl a) => a.1
  | .inr (.inr a) => a.1
def mSz : mW → Nat
  | [] => 0
  | c :: w => mSzc c + mSz w
theorem mSz_app (w : mW) (c : mC) : mSz (w ++ [c]) = mSz w + mSzc c := by
  induction w with
  | nil => simp [mSz]
  | cons a w ih => simp only [List.cons_append, mSz, ih]; omega
theorem mSz_set : ∀ (w : mW) (k : Nat) (c c' : mC), w[k]? = some c → mSzc c' = mSzc c → mSz (w.set k c') = mSz w
  | [], k, c, c', h, _ => by simp at h
  | a :: w, 0, c, c', h, e => by
    simp at h
    subst h
    simp only [List.set_cons_zero, mSz, e]
  | a :: w, k + 1, c, c', h, e => by
    simp only [List.getElem?_cons_succ] at h
    simp only [List.set_cons_succ, mSz, mSz_set w k c c' h e]
def mH (g : mG) (w : mW) (H : Heap) : Prop := H.size = g.1 + w.length ∧ va_P g.2.2.2.2 vwCl (mR g w) H
theorem mH.put {g : mG} {w : mW} {k : Nat} {c c' : mC} {H H1 : Heap} (h : mH g w H) (hk : w[k]? = some c) (he : va_at g.2.2.2.2 vwCl (g.1 + k, mcl g c') H1) (z : H1.size = H.size) (oq : ∀ q : Nat, q ≠ g.1 + k → H1[q]? = H[q]?) : mH g (w.set k c') H1 := by
  refine ⟨by rw [z, h.1, List.length_set], ?_⟩
  rw [mR_set]
  exact h.2.set mR_D (mR_get hk) he oq
theorem mH.push {g : mG} {w : mW} {c : mC} {H H1 : Heap} (h : mH g w H) (he : va_at g.2.2.2.2 vwCl (g.1 + w.length, mcl g c) H1) (z : H1.size = H.size + 1) (oq : ∀ q : Nat, q < H.size → H1[q]? = H[q]?) : mH g (w ++ [c]) H1 := by
  refine ⟨by rw [z, h.1, List.length_append]; rfl, ?_⟩
  rw [mR_app]
  refine va_P.app (h.2.kept fun k q hk => oq _ ((h.2 k q hk).lt)) (fun k q hk => ?_)
  have hz : k < 1 := (List.getElem?_eq_some_iff.mp hk).1
  rw [show k = 0 by omega] at hk
  cases hk
  exact he
-- what is given of the tables, of the string, of the script
def mWS : List Cond := lw_tbl.filter goodWord
def mNc : List (String × String) := [("PancakePort$Wide", "PancakePort$Lacy"), ("PancakePort$Thrifty", "PancakePort$Lacy"), ("PancakePort$Mayor", "PancakePort$Lacy"), ("PancakePort$Tosser", "PancakePort$Lacy"), ("PancakePort$Lacy", "PancakePort$Wide"), ("PancakePort$Thrifty", "PancakePort$Wide"), ("PancakePort$Tosser", "PancakePort$Wide"), ("PancakePort$Lacy", "PancakePort$Thrifty"), ("PancakePort$Wide", "PancakePort$Thrifty"), ("PancakePort$Mayor", "PancakePort$Thrifty"), ("PancakePort$Tosser", "PancakePort$Thrifty"), ("PancakePort$Lacy", "PancakePort$Mayor"), ("PancakePort$Wide", "PancakePort$Mayor"), ("PancakePort$Thrifty", "PancakePort$Mayor"), ("PancakePort$Tosser", "PancakePort$Mayor")]
/-- words that are carried from method to method: calls of nest mates' private methods, casts -/
def mIsN : Cond → Bool
  | .methodLinkNest .. => true
  | .castable .. => true
  | _ => false
def mNw : List Cond := lw_tbl.filter mIsN
theorem mIsN_warm {w : Cond} {s U : State} (h : mIsN w = true) (hW : s.WarmedH U.vm) (hZ : va_Nw w s) : va_Nw w U := by
  cases w <;> first | exact va_Nw.warmM hW hZ | exact va_Nw.warmC hW hZ | (simp [mIsN] at h; done)
theorem mIsN_tab {w : Cond} (h : mIsN w = true) : w.onTables = true := by
  cases w <;> first | rfl | (simp [mIsN] at h; done)
def mKt (g : mG) (U : State) : Prop := va_K g.2.2.2.2 vwCl [(g.2.2.1, .int), (g.2.2.2.1, .object "PancakePort$Tosser")] U ∧ (∀ q ∈ mNc, va_Nc q.1 q.2 U) ∧ va_AO "PancakePort$Tosser" U
def mKs (g : mG) (U : State) (H : Heap) : Prop := vk_S 1 [5] [[116, 108, 119, 104, 109]] (fun _ => g.2.1 1) (fun _ => g.2.1 2) (fun q => g.1 ≤ q) U H ∧ va_Z "java/lang/String" "COMPACT_STRINGS" "Z" (.int 1) (fun q => g.1 ≤ q) U H
def mX (g : mG) (X : mXs) (U : State) (H : Heap) : Prop := va_X (g.2.1 0) X.1 X.2 U H ∧ g.2.1 0 < g.1 ∧ g.1 ≤ H.size
/-- all that a method's entry state gives of what lies below the base -/
def mB (g : mG) (X : mXs) (U : State) : Prop := mKt g U ∧ mKs g U U.heap ∧ mX g X U U.heap ∧ vk_R "PancakePort$Reading" 82 "tlwhm" (g.2.1 1) U ∧ ∀ w ∈ mNw, va_Nw w U
theorem mKt.moved {g : mG} {u U : State} (hvm : u.vm.Alike U.vm) (h : mKt g u) : mKt g U := ⟨va_K.moved hvm h.1, fun q hq => va_Nc.moved hvm (h.2.1 q hq), va_AO.moved hvm h.2.2⟩
theorem mKs.moved {g : mG} {u U : State} {H : Heap} (hvm : u.vm.Alike U.vm) (h : mKs g u H) : mKs g U H := ⟨vk_S.moved hvm h.1, va_Z.moved hvm h.2⟩
theorem mKs.kept {g : mG} {U : State} {H H1 : Heap} (h : mKs g U H) (hq : ∀ a : Nat, a < H.size → ¬ g.1 ≤ a → H1[a]? = H[a]?) : mKs g U H1 := ⟨vk_S.kept h.1 hq, va_Z.kept h.2 hq⟩
theorem mX.moved {g : mG} {X : mXs} {u U : State} {H : Heap} (hvm : u.vm.Alike U.vm) (h : mX g X u H) : mX g X U H := ⟨va_X.moved hvm h.1, h.2⟩
theorem mX.kept {g : mG} {X : mXs} {U : State} {H H1 : Heap} (h : mX g X U H) (z : H.size ≤ H1.size) (hq : ∀ a : Nat, a < H.size → ¬ g.1 ≤ a → H1[a]? = H[a]?) : mX g X U H1 :=
  ⟨va_X.kept h.1 (hq _ (Nat.lt_of_lt_of_le h.2.1 h.2.2) (Nat.not_le.mpr h.2.1)), h.2.1, Nat.le_trans h.2.2 z⟩
/-- the entry state of a callee -/
theorem mB.call {g : mG} {X : mXs} {s U : State} {H : Heap} {locs : List Loc} (h : mB g X s) (hS : va_S (fun q => g.1 ≤ q) s.heap H locs) (hU : U.heap = H) (hW : s.WarmedH U.vm) : mB g X U := by
  refine ⟨h.1.moved hW.alike, ?_, ?_, vk_R.warm hW h.2.2.2.1, fun w hw => mIsN_warm (List.mem_filter.mp hw).2 hW (h.2.2.2.2 w hw)⟩
  · rw [hU]
    exact (h.2.1.moved hW.alike).kept hS.2.1
  · rw [hU]
    exact (h.2.2.1.moved hW.alike).kept hS.1 hS.2.1
theorem mB.blind {g : mG} {X : mXs} {U U' : State} (h : mB g X U) (hv : U'.vm = U.vm) (hh : U'.heap = U.heap) : mB g X U' := by
  have ha : U.vm.Alike U'.vm := by rw [hv]; exact Vm.Alike.refl _
  exact ⟨h.1.moved ha, by rw [hh]; exact h.2.1.moved ha, by rw [hh]; exact h.2.2.1.moved ha, vk_R.same hv h.2.2.2.1, fun w hw => va_Nw.same (mIsN_tab (List.mem_filter.mp hw).2) hv.symm (h.2.2.2.2 w hw)⟩
-- contracts
def mRm (d mc ms : Nat) : Room := { frames := d, cells := mc, slots := ms, locals := 37 * d }
def mPre (g : mG) (X : mXs) (w : mW) (as : List mV) : Array Value → State → Prop := fun av U => av = (as.map (mt g)).toArray ∧ mH g w U.heap ∧ mB g X U
def mPost (g : mG) (w' : mW) (r : Option mV) : Array Value → State → Outcome → State → Prop := fun _ st oc t => oc = .returned (r.map (mt g)) ∧ mH g w' t.heap ∧ st.heap.size ≤ t.heap.size ∧ ∀ q : Nat, q < st.heap.size → ¬ g.1 ≤ q → t.heap[q]? = st.heap[q]?
def mWs (M : mM) : List Cond := Cond.code M.1 M.2.1 M.2.2.1 M.2.2.2 :: mWS
/-- the method M, in a room of depth d: from the world w with these arguments it returns r, and leaves the world w' -/
def mMet (M : mM) (d : Nat) (as : List mV) (w : mW) (r : Option mV) (w' : mW) : Prop := (w.length ≤ w'.length ∧ mSz w ≤ mSz w') ∧
  ∀ (l : Launch) (g : mG) (X : mXs), Met l M.1 (mWs M) (mRm d (w'.length - w.length) (mSz w' - mSz w)) (mPre g X w as) (mPost g w' r) (w'.length - w.length) (mSz w' - mSz w) (fun q => g.1 ≤ q)
theorem mPre_blind {g : mG} {X : mXs} {w : mW} {as : List mV} : FrameBlind (mPre g X w as) := fun a U gg mk h => ⟨h.1, h.2.1, h.2.2.blind rfl rfl⟩
-- a method's inside
def mL (g : mG) (n : Nat) (L : List (Option mV)) (ls : Array Slot) : Prop := ls.size = n ∧ lv_wf ls ∧ ∀ (k : Nat) (v : mV), L[k]? = some (some v) → ls[k]? = some (.val (mt g v))
def mCx (M : mM) (d : Nat) (g : mG) (X : mXs) (p : Program) (R : Room) (s : State) (m : MethodId) (args : Array Value) (meth : Method) (c : Code) : Prop :=
  p.tables.exec = Jvm.exec ∧ c.code = M.2.1 ∧ c.maxLocals = M.2.2.1 ∧ s.vm.findClass M.1.cls = some m.cls ∧ (∀ w ∈ mWS, w.before args s = true) ∧ mB g X s ∧ (d ≤ R.frames ∧ 37 * d ≤ R.locals) ∧ (M.1.name = "<init>" → meth.name = "<init>")
/-- a return instruction, with r on the stack -/
def mRet (M : mM) (pc : Nat) (st : List mV) (r : Option mV) : Prop :=
  (∃ (x : Int32) (ty : FieldType), decode M.2.1 pc = .ok (.ireturn, 1) ∧ st = [vi x] ∧ r = some (vi x) ∧ M.2.2.2 = some ty ∧ narrow ty (.int x) = .int x) ∨
  (decode M.2.1 pc = .ok (.return_, 1) ∧ st = [] ∧ r = none ∧ M.2.2.2 = none) ∨
  (∃ (x : Int64), decode M.2.1 pc = .ok (.lreturn, 1) ∧ st = [vl x] ∧ r = some (vl x) ∧ M.2.2.2 = some .long) ∨
  (∃ (o : Option Nat) (C : String), decode M.2.1 pc = .ok (.areturn, 1) ∧ st = [vr o] ∧ r = some (vr o) ∧ M.2.2.2 = some (.object C))
/-- from here the method comes to its end, with r and the world w' -/
def mEv (X : mXs) (M : mM) (d : Nat) (r : Option mV) (w' : mW) (pc : Nat) (L : List (Option mV)) (st : List mV) (w : mW) : Prop :=
  (w.length ≤ w'.length ∧ mSz w ≤ mSz w') ∧
  ∀ (p : Program) (l : Launch) (e : Env) (R : Room) (s : State) (m : MethodId) (args : Array Value) (below : List Frame) (meth : Method) (c : Code) (H : Heap) (locs : List Loc) (ls : Array Slot) (Q : State → Prop) (g : mG) (n0 z0 : Nat),
    mCx M d g X p R s m args meth c → n0 ≤ w.length → z0 ≤ mSz w → w'.length ≤ n0 + R.cells → mSz w' ≤ z0 + R.slots →
    (∀ (H1 : Heap) (locs1 : List Loc) (ls1 : Array Slot) (pc1 : Nat) (st1 : List mV), mRet M pc1 st1 r → mH g w' H1 → va_S (fun q => g.1 ≤ q) s.heap H1 locs1 → W p l e R s m args below meth c H1 locs1 (w'.length - n0) (mSz w' - z0) Q (F0 m pc1 ls1 (st1.map (mt g)))) →
    mL g M.2.2.1 L ls → mH g w H → va_S (fun q => g.1 ≤ q) s.heap H locs →
    W p l e R s m args below meth c H locs (w.length - n0) (mSz w - z0) Q (F0 m pc ls (st.map (mt g)))
end
section
section EV
variable {X : mXs} {M : mM} {d : Nat} {r : Option mV} {w' : mW} {pc q : Nat} {L : List (Option mV)} {st : List mV} {w : mW}
/-- an instruction that changes the stack alone -/
theorem ev_pure {st2 : List mV} (k : mEv X M d r w' q L st2 w)
    (h : ∀ (p : Program) (l : Launch) (e : Env) (R : Room) (s : State) (m : MethodId) (args : Array Value) (below : List Frame) (meth : Method) (c : Code) (H : Heap) (locs : List Loc) (ls : Array Slot) (Q : State → Prop) (cells slots : Nat) (g : mG), mCx M d g X p R s m args meth c → mL g M.2.2.1 L ls → mH g w H → va_S (fun q => g.1 ≤ q) s.heap H locs → cells ≤ R.cells → slots ≤ R.slots →
      W p l e R s m args below meth c H locs cells slots Q (F0 m q ls (st2.map (mt g))) → W p l e R s m args below meth c H locs cells slots Q (F0 m pc ls (st.map (mt g)))) : mEv X M d r w' pc L st w :=
  ⟨k.1, fun p l e R s m args below meth c H locs ls Q g n0 z0 C h1 h2 h3 h4 hend hL hH hS => h p l e R s m args below meth c H locs ls Q _ _ g C hL hH hS (by have := k.1.1; omega) (by have := k.1.2; omega) (k.2 p l e R s m args below meth c H locs ls Q g n0 z0 C h1 h2 h3 h4 hend hL hH hS)⟩
/-- an instruction that changes the locals -/
theorem ev_loc {st2 : List mV} {L2 : List (Option mV)} (k : mEv X M d r w' q L2 st2 w)
    (h : ∀ (p : Program) (l : Launch) (e : Env) (R : Room) (s : State) (m : MethodId) (args : Array Value) (below : List Frame) (meth : Method) (c : Code) (H : Heap) (locs : List Loc) (ls : Array Slot) (Q : State → Prop) (cells slots : Nat) (g : mG), mCx M d g X p R s m args meth c → mL g M.2.2.1 L ls →
      (∀ ls2 : Array Slot, mL g M.2.2.1 L2 ls2 → W p l e R s m args below meth c H locs cells slots Q (F0 m q ls2 (st2.map (mt g)))) → W p l e R s m args below meth c H locs cells slots Q (F0 m pc ls (st.map (mt g)))) : mEv X M d r w' pc L st w :=
  ⟨k.1, fun p l e R s m args below meth c H locs ls Q g n0 z0 C h1 h2 h3 h4 hend hL hH hS => h p l e R s m args below meth c H locs ls Q _ _ g C hL (fun ls2 hL2 => k.2 p l e R s m args below meth c H locs ls2 Q g n0 z0 C h1 h2 h3 h4 hend hL2 hH hS)⟩
/-- an instruction that changes a cell of the world -/
theorem ev_heap {st2 : List mV} {w2 : mW} (k : mEv X M d r w' q L st2 w2) (hl : w2.length = w.length) (hz : mSz w2 = mSz w)
    (h : ∀ (p : Program) (l : Launch) (e : Env) (R : Room) (s : State) (m : MethodId) (args : Array Value) (below : List Frame) (meth : Method) (c : Code) (H : Heap) (locs : List Loc) (ls : Array Slot) (Q : State → Prop) (cells slots : Nat) (g : mG), mCx M d g X p R s m args meth c → mH g w H → va_S (fun q => g.1 ≤ q) s.heap H locs →
      (∀ (H1 : Heap) (locs1 : List Loc), mH g w2 H1 → va_S (fun q => g.1 ≤ q) s.heap H1 locs1 → W p l e R s m args below meth c H1 locs1 cells slots Q (F0 m q ls (st2.map (mt g)))) → W p l e R s m args below meth c H locs cells slots Q (F0 m pc ls (st.map (mt g)))) : mEv X M d r w' pc L st w := by
  refine ⟨by rw [← hl, ← hz]; exact k.1, fun p l e R s m args below meth c H locs ls Q g n0 z0 C h1 h2 h3 h4 hend hL hH hS => h p l e R s m args below meth c H locs ls Q _ _ g C hH hS (fun H1 locs1 hH1 hS1 => ?_)⟩
  have := k.2 p l e R s m args below meth c H1 locs1 ls Q g n0 z0 C (by rw [hl]; exact h1) (by rw [hz]; exact h2) h3 h4 hend hL hH1 hS1
  rw [hl, hz] at this
  exact this
/-- an instruction that makes a cell -/
theorem ev_make {st2 : List mV} {c0 : mC} (k : mEv X M d r w' q L st2 (w ++ [c0]))
    (h : ∀ (p : Program) (l : Launch) (e : Env) (R : Room) (s : State) (m : MethodId) (args : Array Value) (below : List Frame) (meth : Method) (c : Code) (H : Heap) (locs : List Loc) (ls : Array Slot) (Q : State → Prop) (cells slots : Nat) (g : mG), mCx M d g X p R s m args meth c → mH g w H → va_S (fun q => g.1 ≤ q) s.heap H locs → cells + 1 ≤ R.cells → slots + mSzc c0 ≤ R.slots →
      (∀ (H1 : Heap), mH g (w ++ [c0]) H1 → va_S (fun q => g.1 ≤ q) s.heap H1 locs → W p l e R s m args below meth c H1 locs (cells + 1) (slots + mSzc c0) Q (F0 m q ls (st2.map (mt g)))) → W p l e R s m args below meth c H locs cells slots Q (F0 m pc ls (st.map (mt g)))) : mEv X M d r w' pc L st w := by
  have k1 := k.1
  rw [mSz_app, List.length_append, List.length_singleton] at k1
  refine ⟨⟨by omega, by omega⟩, fun p l e R s m args below meth c H locs ls Q g n0 z0 C h1 h2 h3 h4 hend hL hH hS => h p l e R s m args below meth c H locs ls Q _ _ g C hH hS (by omega) (by omega) (fun H1 hH1 hS1 => ?_)⟩
  have := k.2 p l e R s m args below meth c H1 locs ls Q g n0 z0 C (by rw [List.length_append]; omega) (by rw [mSz_app]; omega) h3 h4 hend hL hH1 hS1
  rw [mSz_app, List.length_append, List.length_singleton] at this
  rw [show w.length - n0 + 1 = w.length + 1 - n0 by omega, show mSz w - z0 + mSzc c0 = mSz w + mSzc c0 - z0 by omega]
  exact this
/-- fewer locals are known -/
def mLe : List (Option mV) → List (Option mV) → Prop
  | [], _ => True
  | none :: a, _ :: b => mLe a b
  | none :: a, [] => mLe a []
  | some v :: a, x :: b => x = some v ∧ mLe a b
  | some _ :: _, [] => False
theorem mLe_get : ∀ (a b : List (Option mV)), mLe a b → ∀ (k : Nat) (v : mV), a[k]? = some (some v) → b[k]? = some (some v)
  | [], _, _, k, v, h => by simp at h
  | none :: a, [], hl, 0, v, h => by simp at h
  | none :: a, [], hl, k + 1, v, h => by
    simp only [List.getElem?_cons_succ] at h
    have := mLe_get a [] hl k v h
    simp at this
  | none :: a, x :: b, hl, 0, v, h => by simp at h
  | none :: a, x :: b, hl, k + 1, v, h => by
    simp only [List.getElem?_cons_succ] at h ⊢
    exact mLe_get a b hl k v h
  | some u :: a, [], hl, k, v, h => hl.elim
  | some u :: a, x :: b, hl, 0, v, h => by
    simp only [List.getElem?_cons_zero] at h ⊢
    rw [hl.1]
    exact h
  | some u :: a, x :: b, hl, k + 1, v, h => by
    simp only [List.getElem?_cons_succ] at h ⊢
    exact mLe_get a b hl.2 k v h
theorem ev_weak (L2 : List (Option mV)) (hl : mLe L2 L) (k : mEv X M d r w' pc L2 st w) : mEv X M d r w' pc L st w :=
  ⟨k.1, fun p l e R s m args below meth c H locs ls Q g n0 z0 C h1 h2 h3 h4 hend hL hH hS => k.2 p l e R s m args below meth c H locs ls Q g n0 z0 C h1 h2 h3 h4 hend ⟨hL.1, hL.2.1, fun j v hv => hL.2.2 j v (mLe_get L2 L hl j v hv)⟩ hH hS⟩
-- stores into the locals
def mKill : Option mV → Option mV
  | some (.inr (.inl _)) => none
  | a => a
def mSt1 : List (Option mV) → Nat → mV → List (Option mV)
  | [], _, _ => []
  | _ :: L, 0, v => some v :: L
  | a :: L, 1, v => mKill a :: mSt1 L 0 v
  | a :: L, k + 2, v => a :: mSt1 L (k + 1) v
def mDrop : List (Option mV) → List (Option mV)
  | [] => []
  | _ :: L => none :: L
def mSt2 : List (Option mV) → Nat → mV → List (Option mV)
  | [], _, _ => []
  | _ :: L, 0, v => some v :: mDrop L
  | a :: L, 1, v => mKill a :: mSt2 L 0 v
  | a :: L, k + 2, v => a :: mSt2 L (k + 1) v
theorem mKill_get {a : Option mV} {u : mV} (h : mKill a = some u) : a = some u ∧ mcat u = 1 := by
  rcases a with _ | (_ | _ | _ | _) <;> simp [mKill] at h <;> subst h <;> exact ⟨rfl, rfl⟩
theorem mSt1_get : ∀ (L : List (Option mV)) (i : Nat) (v : mV) (k : Nat) (u : mV), (mSt1 L i v)[k]? = some (some u) → (k = i ∧ u = v) ∨ (k ≠ i ∧ L[k]? = some (some u) ∧ ¬ (k + 1 = i ∧ mcat u = 2))
  | [], i, v, k, u, h => by simp [mSt1] at h
  | a :: L, 0, v, 0, u, h => by
    simp [mSt1] at h
    exact Or.inl ⟨rfl, h.symm⟩
  | a :: L, 0, v, k + 1, u, h => by
    simp [mSt1] at h
    exact Or.inr ⟨by omega, by simpa using h, by omega⟩
  | a :: L, 1, v, 0, u, h => by
    simp [mSt1] at h
    obtain ⟨h1, h2⟩ := mKill_get h
    exact Or.inr ⟨by omega, by simp [h1], by omega⟩
  | a :: L, 1, v, k + 1, u, h => by
    simp only [mSt1, List.getElem?_cons_succ] at h
    rcases mSt1_get L 0 v k u h with ⟨h1, h2⟩ | ⟨h1, h2, h3⟩
    · exact Or.inl ⟨by omega, h2⟩
    · exact Or.inr ⟨by omega, by simpa using h2, by omega⟩
  | a :: L, i + 2, v, 0, u, h => by
    simp [mSt1] at h
    exact Or.inr ⟨by omega, by simp [h], by omega⟩
  | a :: L, i + 2, v, k + 1, u, h => by
    simp only [mSt1, List.getElem?_cons_succ] at h
    rcases mSt1_get L (i + 1) v k u h with ⟨h1, h2⟩ | ⟨h1, h2, h3⟩
    · exact Or.inl ⟨by omega, h2⟩
    · exact Or.inr ⟨by omega, by simpa using h2, fun z => h3 ⟨by omega, z.2⟩⟩
theorem mDrop_get : ∀ (L : List (Option mV)) (k : Nat) (u : mV), (mDrop L)[k]? = some (some u) → k ≠ 0 ∧ L[k]? = some (some u)
  | [], k, u, h => by simp [mDrop] at h
  | a :: L, 0, u, h => by simp [mDrop] at h
  | a :: L, k + 1, u, h => ⟨by omega, by simpa [mDrop] using h⟩
theorem mSt2_get : ∀ (L : List (Option mV)) (i : Nat) (v : mV) (k : Nat) (u : mV), (mSt2 L i v)[k]? = some (some u) → (k = i ∧ u = v) ∨ (k ≠ i ∧ k ≠ i + 1 ∧ L[k]? = some (some u) ∧ ¬ (k + 1 = i ∧ mcat u = 2))
  | [], i, v, k, u, h => by simp [mSt2] at h
  | a :: L, 0, v, 0, u, h => by
    simp [mSt2] at h
    exact Or.inl ⟨rfl, h.symm⟩
  | a :: L, 0, v, k + 1, u, h => by
    simp only [mSt2, List.getElem?_cons_succ] at h
    obtain ⟨h1, h2⟩ := mDrop_get L k u h
    exact Or.inr ⟨by omega, by omega, by simpa using h2, by omega⟩
  | a :: L, 1, v, 0, u, h => by
    simp [mSt2] at h
    obtain ⟨h1, h2⟩ := mKill_get h
    exact Or.inr ⟨by omega, by omega, by simp [h1], by omega⟩
  | a :: L, 1, v, k + 1, u, h => by
    simp only [mSt2, List.getElem?_cons_succ] at h
    rcases mSt2_get L 0 v k u h with ⟨h1, h2⟩ | ⟨h1, h2, h3, h4⟩
    · exact Or.inl ⟨by omega, h2⟩
    · exact Or.inr ⟨by omega, by omega, by simpa using h3, by omega⟩
  | a :: L, i + 2, v, 0, u, h => by
    simp [mSt2] at h
    exact Or.inr ⟨by omega, by omega, by simp [h], by omega⟩
  | a :: L, i + 2, v, k + 1, u, h => by
    simp only [mSt2, List.getElem?_cons_succ] at h
    rcases mSt2_get L (i + 1) v k u h with ⟨h1, h2⟩ | ⟨h1, h2, h3, h4⟩
    · exact Or.inl ⟨by omega, h2⟩
    · exact Or.inr ⟨by omega, by omega, by simpa using h3, fun z => h4 ⟨by omega, z.2⟩⟩
def mPairs (g : mG) : Nat → List (Option mV) → List (Nat × Value)
  | _, [] => []
  | i, none :: L => mPairs g (i + 1) L
  | i, some v :: L => (i, mt g v) :: mPairs g (i + 1) L
theorem mPairs_mem {g : mG} : ∀ (L : List (Option mV)) (i : Nat) (q : Nat × Value), q ∈ mPairs g i L ↔ ∃ (k : Nat) (v : mV), L[k]? = some (some v) ∧ q = (i + k, mt g v)
  | [], i, q => by simp [mPairs]
  | none :: L, i, q => by
    rw [mPairs, mPairs_mem L (i + 1) q]
    constructor
    · rintro ⟨k, v, h1, h2⟩
      exact ⟨k + 1, v, by simpa using h1, by rw [h2]; congr 1; omega⟩
    · rintro ⟨k, v, h1, h2⟩
      cases k with
      | zero => simp at h1
      | succ k => exact ⟨k, v, by simpa using h1, by rw [h2]; congr 1; omega⟩
  | some u :: L, i, q => by
    rw [mPairs, List.mem_cons, mPairs_mem L (i + 1) q]
    constructor
    · rintro (h | ⟨k, v, h1, h2⟩)
      · exact ⟨0, u, rfl, h⟩
      · exact ⟨k + 1, v, by simpa using h1, by rw [h2]; congr 1; omega⟩
    · rintro ⟨k, v, h1, h2⟩
      cases k with
      | zero =>
        simp at h1
        subst h1
        exact Or.inl h2
      | succ k => exact Or.inr ⟨k, v, by simpa using h1, by rw [h2]; congr 1; omega⟩
theorem mL_has {g : mG} {n : Nat} {ls : Array Slot} (h : mL g n L ls) : lv_has ls n (mPairs g 0 L) := by
  refine ⟨h.1, h.2.1, fun q hq => ?_⟩
  obtain ⟨k, v, h1, rfl⟩ := (mPairs_mem L 0 q).mp hq
  simpa using h.2.2 k v h1
theorem mL_st1 {g : mG} {n i : Nat} {v : mV} {ls : Array Slot} (h : lv_has ls n ((i, mt g v) :: (mPairs g 0 L).filter (fun q => !(q.1 == i) && !(q.1 + 1 == i && q.2.category == 2)))) : mL g n (mSt1 L i v) ls := by
  refine ⟨h.1, h.2.1, fun k u hu => ?_⟩
  rcases mSt1_get L i v k u hu with ⟨rfl, rfl⟩ | ⟨h1, h2, h3⟩
  · exact h.2.2 _ List.mem_cons_self
  · refine h.2.2 (k, mt g u) (List.mem_cons_of_mem _ (List.mem_filter.mpr ⟨(mPairs_mem L 0 _).mpr ⟨k, u, h2, by simp⟩, ?_⟩))
    simp only [mt_cat, Bool.and_eq_true, Bool.not_eq_true', beq_eq_false_iff_ne, ne_eq, Bool.and_eq_false_iff]
    exact ⟨h1, by by_cases z : k + 1 = i; exact Or.inr fun y => h3 ⟨z, y⟩; exact Or.inl z⟩
theorem mL_st2 {g : mG} {n i : Nat} {v : mV} {ls : Array Slot} (h : lv_has ls n ((i, mt g v) :: (mPairs g 0 L).filter (fun q => !(q.1 == i) && (!(q.1 == i + 1) && !(q.1 + 1 == i && q.2.category == 2))))) : mL g n (mSt2 L i v) ls := by
  refine ⟨h.1, h.2.1, fun k u hu => ?_⟩
  rcases mSt2_get L i v k u hu with ⟨rfl, rfl⟩ | ⟨h1, h1b, h2, h3⟩
  · exact h.2.2 _ List.mem_cons_self
  · refine h.2.2 (k, mt g u) (List.mem_cons_of_mem _ (List.mem_filter.mpr ⟨(mPairs_mem L 0 _).mpr ⟨k, u, h2, by simp⟩, ?_⟩))
    simp only [mt_cat, Bool.and_eq_true, Bool.not_eq_true', beq_eq_false_iff_ne, ne_eq, Bool.and_eq_false_iff]
    exact ⟨h1, h1b, by by_cases z : k + 1 = i; exact Or.inr fun y => h3 ⟨z, y⟩; exact Or.inl z⟩
theorem ev_iconst {n : Int} {v : Int32} (hd : decode M.2.1 pc = .ok (.iconst n, 1)) (hq : pc + 1 = q) (hv : Int32.ofInt n = v) (kk : mEv X M d r w' q L (vi v :: st) w) : mEv X M d r w' pc L (st) w := by
  subst hq
  exact ev_pure kk fun p l e R s m args below meth c H locs ls Q cells slots g C hL hH hS hc hs K => lv_iconst C.1 C.2.1 hd hv K
theorem ev_bipush {n : Int} {v : Int32} (hd : decode M.2.1 pc = .ok (.bipush n, 2)) (hq : pc + 2 = q) (hv : (Int8.ofInt n).toInt32 = v) (kk : mEv X M d r w' q L (vi v :: st) w) : mEv X M d r w' pc L (st) w := by
  subst hq
  exact ev_pure kk fun p l e R s m args below meth c H locs ls Q cells slots g C hL hH hS hc hs K => lv_bipush C.1 C.2.1 hd hv K
theorem ev_sipush {n : Int} {v : Int32} (hd : decode M.2.1 pc = .ok (.sipush n, 3)) (hq : pc + 3 = q) (hv : (Int16.ofInt n).toInt32 = v) (kk : mEv X M d r w' q L (vi v :: st) w) : mEv X M d r w' pc L (st) w := by
  subst hq
  exact ev_pure kk fun p l e R s m args below meth c H locs ls Q cells slots g C hL hH hS hc hs K => lv_sipush C.1 C.2.1 hd hv K
theorem ev_lconst {n : Fin 2} {v : Int64} (hd : decode M.2.1 pc = .ok (.lconst n, 1)) (hq : pc + 1 = q) (hv : Int64.ofNat (n : Nat) = v) (kk : mEv X M d r w' q L (vl v :: st) w) : mEv X M d r w' pc L (st) w := by
  subst hq
  exact ev_pure kk fun p l e R s m args below meth c H locs ls Q cells slots g C hL hH hS hc hs K => lv_lconst C.1 C.2.1 hd hv K
theorem ev_null  (hd : decode M.2.1 pc = .ok (.aconst_null, 1)) (hq : pc + 1 = q) (kk : mEv X M d r w' q L (vr none :: st) w) : mEv X M d r w' pc L (st) w := by
  subst hq
  exact ev_pure kk fun p l e R s m args below meth c H locs ls Q cells slots g C hL hH hS hc hs K => lv_null C.1 C.2.1 hd K
theorem ev_ldc {k : Nat} {v : Int32} (hd : decode M.2.1 pc = .ok (.ldc k, 2)) (hq : pc + 2 = q) (hw : Cond.constant M.1.cls k v ∈ mWS) (kk : mEv X M d r w' q L (vi v :: st) w) : mEv X M d r w' pc L (st) w := by
  subst hq
  exact ev_pure kk fun p l e R s m args below meth c H locs ls Q cells slots g C hL hH hS hc hs K => lv_ldc C.1 C.2.1 C.2.2.2.1 (C.2.2.2.2.1 _ hw) hd K
theorem ev_ldcw {k : Nat} {v : Int32} (hd : decode M.2.1 pc = .ok (.ldc_w k, 3)) (hq : pc + 3 = q) (hw : Cond.constant M.1.cls k v ∈ mWS) (kk : mEv X M d r w' q L (vi v :: st) w) : mEv X M d r w' pc L (st) w := by
  subst hq
  exact ev_pure kk fun p l e R s m args below meth c H locs ls Q cells slots g C hL hH hS hc hs K => lv_ldcw C.1 C.2.1 C.2.2.2.1 (C.2.2.2.2.1 _ hw) hd K
theorem ev_ldc2 {k : Nat} {v : Int64} (hd : decode M.2.1 pc = .ok (.ldc2_w k, 3)) (hq : pc + 3 = q) (hw : Cond.constantLong M.1.cls k v ∈ mWS) (kk : mEv X M d r w' q L (vl v :: st) w) : mEv X M d r w' pc L (st) w := by
  subst hq
  exact ev_pure kk fun p l e R s m args below meth c H locs ls Q cells slots g C hL hH hS hc hs K => lv_ldc2 C.1 C.2.1 C.2.2.2.1 (C.2.2.2.2.1 _ hw) hd K
theorem ev_iload_n {k : Fin 4} {x : Int32} (hd : decode M.2.1 pc = .ok (.iload_n k, 1)) (hq : pc + 1 = q) (hl : L[(k : Nat)]? = some (some (vi x))) (kk : mEv X M d r w' q L (vi x :: st) w) : mEv X M d r w' pc L (st) w := by
  subst hq
  exact ev_pure kk fun p l e R s m args below meth c H locs ls Q cells slots g C hL hH hS hc hs K => lv_iload_n C.1 C.2.1 hd rfl (hL.2.2 _ _ hl) K
theorem ev_iload {k : Nat} {x : Int32} (hd : decode M.2.1 pc = .ok (.iload k, 2)) (hq : pc + 2 = q) (hl : L[k]? = some (some (vi x))) (kk : mEv X M d r w' q L (vi x :: st) w) : mEv X M d r w' pc L (st) w := by
  subst hq
  exact ev_pure kk fun p l e R s m args below meth c H locs ls Q cells slots g C hL hH hS hc hs K => lv_iload C.1 C.2.1 hd (hL.2.2 _ _ hl) K
theorem ev_lload_n {k : Fin 4} {x : Int64} (hd : decode M.2.1 pc = .ok (.lload_n k, 1)) (hq : pc + 1 = q) (hl : L[(k : Nat)]? = some (some (vl x))) (kk : mEv X M d r w' q L (vl x :: st) w) : mEv X M d r w' pc L (st) w := by
  subst hq
  exact ev_pure kk fun p l e R s m args below meth c H locs ls Q cells slots g C hL hH hS hc hs K => lv_lload_n C.1 C.2.1 hd rfl (hL.2.2 _ _ hl) K
theorem ev_lload {k : Nat} {x : Int64} (hd : decode M.2.1 pc = .ok (.lload k, 2)) (hq : pc + 2 = q) (hl : L[k]? = some (some (vl x))) (kk : mEv X M d r w' q L (vl x :: st) w) : mEv X M d r w' pc L (st) w := by
  subst hq
  exact ev_pure kk fun p l e R s m args below meth c H locs ls Q cells slots g C hL hH hS hc hs K => lv_lload C.1 C.2.1 hd (hL.2.2 _ _ hl) K
theorem ev_aload_n {k : Fin 4} {u : Option Nat ⊕ Nat} (hd : decode M.2.1 pc = .ok (.aload_n k, 1)) (hq : pc + 1 = q) (hl : L[(k : Nat)]? = some (some (Sum.inr (Sum.inr u)))) (kk : mEv X M d r w' q L (Sum.inr (Sum.inr u) :: st) w) : mEv X M d r w' pc L st w := by
  subst hq
  rcases u with (_ | a) | a
  · exact ev_pure kk fun p l e R s m args below meth c H locs ls Q cells slots g C hL hH hS hc hs K => lv_aload_nN C.1 C.2.1 hd rfl (hL.2.2 _ _ hl) K
  · exact ev_pure kk fun p l e R s m args below meth c H locs ls Q cells slots g C hL hH hS hc hs K => lv_aload_n C.1 C.2.1 hd rfl (hL.2.2 _ _ hl) K
  · exact ev_pure kk fun p l e R s m args below meth c H locs ls Q cells slots g C hL hH hS hc hs K => lv_aload_n C.1 C.2.1 hd rfl (hL.2.2 _ _ hl) K
theorem ev_aload {k : Nat} {u : Option Nat ⊕ Nat} (hd : decode M.2.1 pc = .ok (.aload k, 2)) (hq : pc + 2 = q) (hl : L[k]? = some (some (Sum.inr (Sum.inr u)))) (kk : mEv X M d r w' q L (Sum.inr (Sum.inr u) :: st) w) : mEv X M d r w' pc L st w := by
  subst hq
  rcases u with (_ | a) | a
  · exact ev_pure kk fun p l e R s m args below meth c H locs ls Q cells slots g C hL hH hS hc hs K => lv_aloadN C.1 C.2.1 hd (hL.2.2 _ _ hl) K
  · exact ev_pure kk fun p l e R s m args below meth c H locs ls Q cells slots g C hL hH hS hc hs K => lv_aload C.1 C.2.1 hd (hL.2.2 _ _ hl) K
  · exact ev_pure kk fun p l e R s m args below meth c H locs ls Q cells slots g C hL hH hS hc hs K => lv_aload C.1 C.2.1 hd (hL.2.2 _ _ hl) K
theorem ev_istore_n {k : Fin 4} {x : Int32} (hd : decode M.2.1 pc = .ok (.istore_n k, 1)) (hq : pc + 1 = q) (hn : (k : Nat) < M.2.2.1) (kk : mEv X M d r w' q (mSt1 L (k : Nat) (vi x)) st w) : mEv X M d r w' pc L (vi x :: st) w := by
  subst hq
  exact ev_loc kk fun p l e R s m args below meth c H locs ls Q cells slots g C hL K => lv_istore_n C.1 C.2.1 hd rfl (mL_has hL) hn rfl (fun ls2 h2 => K ls2 (mL_st1 h2))
theorem ev_istore {k : Nat} {x : Int32} (hd : decode M.2.1 pc = .ok (.istore k, 2)) (hq : pc + 2 = q) (hn : k < M.2.2.1) (kk : mEv X M d r w' q (mSt1 L k (vi x)) st w) : mEv X M d r w' pc L (vi x :: st) w := by
  subst hq
  exact ev_loc kk fun p l e R s m args below meth c H locs ls Q cells slots g C hL K => lv_istore C.1 C.2.1 hd (mL_has hL) hn rfl (fun ls2 h2 => K ls2 (mL_st1 h2))
theorem ev_lstore_n {k : Fin 4} {x : Int64} (hd : decode M.2.1 pc = .ok (.lstore_n k, 1)) (hq : pc + 1 = q) (hn : (k : Nat) + 1 < M.2.2.1) (kk : mEv X M d r w' q (mSt2 L (k : Nat) (vl x)) st w) : mEv X M d r w' pc L (vl x :: st) w := by
  subst hq
  exact ev_loc kk fun p l e R s m args below meth c H locs ls Q cells slots g C hL K => lv_lstore_n C.1 C.2.1 hd rfl (mL_has hL) hn rfl (fun ls2 h2 => K ls2 (mL_st2 h2))
theorem ev_lstore {k : Nat} {x : Int64} (hd : decode M.2.1 pc = .ok (.lstore k, 2)) (hq : pc + 2 = q) (hn : k + 1 < M.2.2.1) (kk : mEv X M d r w' q (mSt2 L k (vl x)) st w) : mEv X M d r w' pc L (vl x :: st) w := by
  subst hq
  exact ev_loc kk fun p l e R s m args below meth c H locs ls Q cells slots g C hL K => lv_lstore C.1 C.2.1 hd (mL_has hL) hn rfl (fun ls2 h2 => K ls2 (mL_st2 h2))
theorem ev_astore_n {k : Fin 4} {u : Option Nat ⊕ Nat} (hd : decode M.2.1 pc = .ok (.astore_n k, 1)) (hq : pc + 1 = q) (hn : (k : Nat) < M.2.2.1) (kk : mEv X M d r w' q (mSt1 L (k : Nat) (Sum.inr (Sum.inr u))) st w) : mEv X M d r w' pc L (Sum.inr (Sum.inr u) :: st) w := by
  subst hq
  rcases u with (_ | a) | a
  · exact ev_loc kk fun p l e R s m args below meth c H locs ls Q cells slots g C hL K => lv_astore_nN C.1 C.2.1 hd rfl (mL_has hL) hn rfl (fun ls2 h2 => K ls2 (mL_st1 h2))
  · exact ev_loc kk fun p l e R s m args below meth c H locs ls Q cells slots g C hL K => lv_astore_n C.1 C.2.1 hd rfl (mL_has hL) hn rfl (fun ls2 h2 => K ls2 (mL_st1 h2))
  · exact ev_loc kk fun p l e R s m args below meth c H locs ls Q cells slots g C hL K => lv_astore_n C.1 C.2.1 hd rfl (mL_has hL) hn rfl (fun ls2 h2 => K ls2 (mL_st1 h2))
theorem ev_astore {k : Nat} {u : Option Nat ⊕ Nat} (hd : decode M.2.1 pc = .ok (.astore k, 2)) (hq : pc + 2 = q) (hn : k < M.2.2.1) (kk : mEv X M d r w' q (mSt1 L k (Sum.inr (Sum.inr u))) st w) : mEv X M d r w' pc L (Sum.inr (Sum.inr u) :: st) w := by
  subst hq
  rcases u with (_ | a) | a
  · exact ev_loc kk fun p l e R s m args below meth c H locs ls Q cells slots g C hL K => lv_astoreN C.1 C.2.1 hd (mL_has hL) hn rfl (fun ls2 h2 => K ls2 (mL_st1 h2))
  · exact ev_loc kk fun p l e R s m args below meth c H locs ls Q cells slots g C hL K => lv_astore C.1 C.2.1 hd (mL_has hL) hn rfl (fun ls2 h2 => K ls2 (mL_st1 h2))
  · exact ev_loc kk fun p l e R s m args below meth c H locs ls Q cells slots g C hL K => lv_astore C.1 C.2.1 hd (mL_has hL) hn rfl (fun ls2 h2 => K ls2 (mL_st1 h2))
theorem ev_iinc {i : Nat} {n : Int} {x v : Int32} (hd : decode M.2.1 pc = .ok (.iinc i n, 3)) (hq : pc + 3 = q) (hn : i < M.2.2.1) (hl : L[i]? = some (some (vi x))) (hv : x + Int32.ofInt n = v) (kk : mEv X M d r w' q (mSt1 L i (vi v)) st w) : mEv X M d r w' pc L st w := by
  subst hq
  refine ev_loc kk fun p l e R s m args below meth c H locs ls Q cells slots g C hL K => ?_
  obtain ⟨j, hj⟩ := List.getElem?_of_mem ((mPairs_mem (g := g) L 0 (i, mt g (vi x))).mpr ⟨i, vi x, hl, by simp⟩)
  exact lv_iinc C.1 C.2.1 hd (mL_has hL) hj hv hn rfl (fun ls2 h2 => K ls2 (mL_st1 h2))
theorem ev_iadd {x y : Int32} (hd : decode M.2.1 pc = .ok (.iadd, 1)) (hq : pc + 1 = q) (kk : mEv X M d r w' q L (vi (x + y) :: st) w) : mEv X M d r w' pc L (vi y :: vi x :: st) w := by
  subst hq
  exact ev_pure kk fun p l e R s m args below meth c H locs ls Q cells slots g C hL hH hS hc hs K => lv_iadd C.1 C.2.1 hd K
theorem ev_isub {x y : Int32} (hd : decode M.2.1 pc = .ok (.isub, 1)) (hq : pc + 1 = q) (kk : mEv X M d r w' q L (vi (x - y) :: st) w) : mEv X M d r w' pc L (vi y :: vi x :: st) w := by
  subst hq
  exact ev_pure kk fun p l e R s m args below meth c H locs ls Q cells slots g C hL hH hS hc hs K => lv_isub C.1 C.2.1 hd K
theorem ev_imul {x y : Int32} (hd : decode M.2.1 pc = .ok (.imul, 1)) (hq : pc + 1 = q) (kk : mEv X M d r w' q L (vi (x * y) :: st) w) : mEv X M d r w' pc L (vi y :: vi x :: st) w := by
  subst hq
  exact ev_pure kk fun p l e R s m args below meth c H locs ls Q cells slots g C hL hH hS hc hs K => lv_imul C.1 C.2.1 hd K
theorem ev_iand {x y : Int32} (hd : decode M.2.1 pc = .ok (.iand, 1)) (hq : pc + 1 = q) (kk : mEv X M d r w' q L (vi (x &&& y) :: st) w) : mEv X M d r w' pc L (vi y :: vi x :: st) w := by
  subst hq
  exact ev_pure kk fun p l e R s m args below meth c H locs ls Q cells slots g C hL hH hS hc hs K => lv_iand C.1 C.2.1 hd K
theorem ev_ior {x y : Int32} (hd : decode M.2.1 pc = .ok (.ior, 1)) (hq : pc + 1 = q) (kk : mEv X M d r w' q L (vi (x ||| y) :: st) w) : mEv X M d r w' pc L (vi y :: vi x :: st) w := by
  subst hq
  exact ev_pure kk fun p l e R s m args below meth c H locs ls Q cells slots g C hL hH hS hc hs K => lv_ior C.1 C.2.1 hd K
theorem ev_ixor {x y : Int32} (hd : decode M.2.1 pc = .ok (.ixor, 1)) (hq : pc + 1 = q) (kk : mEv X M d r w' q L (vi (x ^^^ y) :: st) w) : mEv X M d r w' pc L (vi y :: vi x :: st) w := by
  subst hq
  exact ev_pure kk fun p l e R s m args below meth c H locs ls Q cells slots g C hL hH hS hc hs K => lv_ixor C.1 C.2.1 hd K
theorem ev_ishl {x y : Int32} (hd : decode M.2.1 pc = .ok (.ishl, 1)) (hq : pc + 1 = q) (kk : mEv X M d r w' q L (vi (x <<< (y &&& 31)) :: st) w) : mEv X M d r w' pc L (vi y :: vi x :: st) w := by
  subst hq
  exact ev_pure kk fun p l e R s m args below meth c H locs ls Q cells slots g C hL hH hS hc hs K => lv_ishl C.1 C.2.1 hd K
theorem ev_ishr {x y : Int32} (hd : decode M.2.1 pc = .ok (.ishr, 1)) (hq : pc + 1 = q) (kk : mEv X M d r w' q L (vi (x >>> (y &&& 31)) :: st) w) : mEv X M d r w' pc L (vi y :: vi x :: st) w := by
  subst hq
  exact ev_pure kk fun p l e R s m args below meth c H locs ls Q cells slots g C hL hH hS hc hs K => lv_ishr C.1 C.2.1 hd K
theorem ev_ineg {x : Int32} (hd : decode M.2.1 pc = .ok (.ineg, 1)) (hq : pc + 1 = q) (kk : mEv X M d r w' q L (vi (-x) :: st) w) : mEv X M d r w' pc L (vi x :: st) w := by
  subst hq
  exact ev_pure kk fun p l e R s m args below meth c H locs ls Q cells slots g C hL hH hS hc hs K => lv_ineg C.1 C.2.1 hd K
theorem ev_iushr {x y : Int32} (hd : decode M.2.1 pc = .ok (.iushr, 1)) (hq : pc + 1 = q) (kk : mEv X M d r w' q L (vi ((x.toUInt32 >>> (y.toUInt32 &&& Int32.toUInt32 31)).toInt32) :: st) w) : mEv X M d r w' pc L (vi y :: vi x :: st) w := by
  subst hq
  exact ev_pure kk fun p l e R s m args below meth c H locs ls Q cells slots g C hL hH hS hc hs K => lv_iushr C.1 C.2.1 hd rfl K
theorem ev_idiv {x y : Int32} (hd : decode M.2.1 pc = .ok (.idiv, 1)) (hq : pc + 1 = q) (hne : ¬ y = 0) (kk : mEv X M d r w' q L (vi (x / y) :: st) w) : mEv X M d r w' pc L (vi y :: vi x :: st) w := by
  subst hq
  exact ev_pure kk fun p l e R s m args below meth c H locs ls Q cells slots g C hL hH hS hc hs K => lv_idiv C.1 C.2.1 hd hne K
theorem ev_irem {x y : Int32} (hd : decode M.2.1 pc = .ok (.irem, 1)) (hq : pc + 1 = q) (hne : ¬ y = 0) (kk : mEv X M d r w' q L (vi (x - x / y * y) :: st) w) : mEv X M d r w' pc L (vi y :: vi x :: st) w := by
  subst hq
  exact ev_pure kk fun p l e R s m args below meth c H locs ls Q cells slots g C hL hH hS hc hs K => lv_irem C.1 C.2.1 hd hne K
theorem ev_ladd {x y : Int64} (hd : decode M.2.1 pc = .ok (.ladd, 1)) (hq : pc + 1 = q) (kk : mEv X M d r w' q L (vl (x + y) :: st) w) : mEv X M d r w' pc L (vl y :: vl x :: st) w := by
  subst hq
  exact ev_pure kk fun p l e R s m args below meth c H locs ls Q cells slots g C hL hH hS hc hs K => lv_ladd C.1 C.2.1 hd K
theorem ev_lmul {x y : Int64} (hd : decode M.2.1 pc = .ok (.lmul, 1)) (hq : pc + 1 = q) (kk : mEv X M d r w' q L (vl (x * y) :: st) w) : mEv X M d r w' pc L (vl y :: vl x :: st) w := by
  subst hq
  exact ev_pure kk fun p l e R s m args below meth c H locs ls Q cells slots g C hL hH hS hc hs K => lv_lmul C.1 C.2.1 hd K
theorem ev_land {x y : Int64} (hd : decode M.2.1 pc = .ok (.land, 1)) (hq : pc + 1 = q) (kk : mEv X M d r w' q L (vl (x &&& y) :: st) w) : mEv X M d r w' pc L (vl y :: vl x :: st) w := by
  subst hq
  exact ev_pure kk fun p l e R s m args below meth c H locs ls Q cells slots g C hL hH hS hc hs K => lv_land C.1 C.2.1 hd K
theorem ev_lrem {x y : Int64} (hd : decode M.2.1 pc = .ok (.lrem, 1)) (hq : pc + 1 = q) (hne : ¬ y = 0) (kk : mEv X M d r w' q L (vl (x - x / y * y) :: st) w) : mEv X M d r w' pc L (vl y :: vl x :: st) w := by
  subst hq
  exact ev_pure kk fun p l e R s m args below meth c H locs ls Q cells slots g C hL hH hS hc hs K => lv_lrem C.1 C.2.1 hd hne K
theorem ev_lcmp {x y : Int64} (hd : decode M.2.1 pc = .ok (.lcmp, 1)) (hq : pc + 1 = q) (kk : mEv X M d r w' q L (vi (lg_cmp x y) :: st) w) : mEv X M d r w' pc L (vl y :: vl x :: st) w := by
  subst hq
  exact ev_pure kk fun p l e R s m args below meth c H locs ls Q cells slots g C hL hH hS hc hs K => W.lcmp C.1 C.2.1 hd K
theorem ev_i2l {x : Int32} (hd : decode M.2.1 pc = .ok (.i2l, 1)) (hq : pc + 1 = q) (kk : mEv X M d r w' q L (vl x.toInt64 :: st) w) : mEv X M d r w' pc L (vi x :: st) w := by
  subst hq
  exact ev_pure kk fun p l e R s m args below meth c H locs ls Q cells slots g C hL hH hS hc hs K => lv_i2l C.1 C.2.1 hd rfl K
theorem ev_l2i {x : Int64} (hd : decode M.2.1 pc = .ok (.l2i, 1)) (hq : pc + 1 = q) (kk : mEv X M d r w' q L (vi x.toInt32 :: st) w) : mEv X M d r w' pc L (vl x :: st) w := by
  subst hq
  exact ev_pure kk fun p l e R s m args below meth c H locs ls Q cells slots g C hL hH hS hc hs K => lv_l2i C.1 C.2.1 hd rfl K
theorem ev_i2c {x : Int32} (hd : decode M.2.1 pc = .ok (.i2c, 1)) (hq : pc + 1 = q) (kk : mEv X M d r w' q L (vi ((x.toUInt32 % 65536).toInt32) :: st) w) : mEv X M d r w' pc L (vi x :: st) w := by
  subst hq
  exact ev_pure kk fun p l e R s m args below meth c H locs ls Q cells slots g C hL hH hS hc hs K => lv_i2c C.1 C.2.1 hd rfl K
theorem ev_i2b {x : Int32} (hd : decode M.2.1 pc = .ok (.i2b, 1)) (hq : pc + 1 = q) (kk : mEv X M d r w' q L (vi x.toInt8.toInt32 :: st) w) : mEv X M d r w' pc L (vi x :: st) w := by
  subst hq
  exact ev_pure kk fun p l e R s m args below meth c H locs ls Q cells slots g C hL hH hS hc hs K => lv_i2b C.1 C.2.1 hd rfl K
theorem ev_dup {v : mV} (hd : decode M.2.1 pc = .ok (.dup, 1)) (hq : pc + 1 = q) (hv : mcat v = 1) (kk : mEv X M d r w' q L (v :: v :: st) w) : mEv X M d r w' pc L (v :: st) w := by
  subst hq
  exact ev_pure kk fun p l e R s m args below meth c H locs ls Q cells slots g C hL hH hS hc hs K => lv_dup C.1 C.2.1 hd (by rw [mt_cat]; exact hv) K
theorem ev_dup2 {v u : mV} (hd : decode M.2.1 pc = .ok (.dup2, 1)) (hq : pc + 1 = q) (hv : mcat v = 1) (hu : mcat u = 1) (kk : mEv X M d r w' q L (v :: u :: v :: u :: st) w) : mEv X M d r w' pc L (v :: u :: st) w := by
  subst hq
  exact ev_pure kk fun p l e R s m args below meth c H locs ls Q cells slots g C hL hH hS hc hs K => lv_dup2_11 C.1 C.2.1 hd (by rw [mt_cat]; exact hv) (by rw [mt_cat]; exact hu) K
theorem ev_icmp_eq_t {x y : Int32} {off : Int} (hd : decode M.2.1 pc = .ok (.if_icmp .eq off, 3)) (ht : (pc : Int) + off = (q : Int)) (hc : x = y) (kk : mEv X M d r w' q L st w) : mEv X M d r w' pc L (vi y :: vi x :: st) w :=
  ev_pure kk fun p l e R s m args below meth c H locs ls Q cells slots g C hL hH hS hc1 hs K => lv_icmp_eq C.1 C.2.1 hd ht (fun _ => K) (fun z => absurd hc z)
theorem ev_icmp_eq_f {x y : Int32} {off : Int} {t0 : Nat} (hd : decode M.2.1 pc = .ok (.if_icmp .eq off, 3)) (ht : (pc : Int) + off = (t0 : Int)) (hq : pc + 3 = q) (hc : ¬ x = y) (kk : mEv X M d r w' q L st w) : mEv X M d r w' pc L (vi y :: vi x :: st) w := by
  subst hq
  exact ev_pure kk fun p l e R s m args below meth c H locs ls Q cells slots g C hL hH hS hc1 hs K => lv_icmp_eq C.1 C.2.1 hd ht (fun z => absurd z hc) (fun _ => K)
theorem ev_if_eq_t {x : Int32} {off : Int} (hd : decode M.2.1 pc = .ok (.ifCond .eq off, 3)) (ht : (pc : Int) + off = (q : Int)) (hc : x = 0) (kk : mEv X M d r w' q L st w) : mEv X M d r w' pc L (vi x :: st) w :=
  ev_pure kk fun p l e R s m args below meth c H locs ls Q cells slots g C hL hH hS hc1 hs K => lv_if_eq C.1 C.2.1 hd ht (fun _ => K) (fun z => absurd hc z)
theorem ev_if_eq_f {x : Int32} {off : Int} {t0 : Nat} (hd : decode M.2.1 pc = .ok (.ifCond .eq off, 3)) (ht : (pc : Int) + off = (t0 : Int)) (hq : pc + 3 = q) (hc : ¬ x = 0) (kk : mEv X M d r w' q L st w) : mEv X M d r w' pc L (vi x :: st) w := by
  subst hq
  exact ev_pure kk fun p l e R s m args below meth c H locs ls Q cells slots g C hL hH hS hc1 hs K => lv_if_eq C.1 C.2.1 hd ht (fun z => absurd z hc) (fun _ => K)
theorem ev_icmp_ne_t {x y : Int32} {off : Int} (hd : decode M.2.1 pc = .ok (.if_icmp .ne off, 3)) (ht : (pc : Int) + off = (q : Int)) (hc : ¬ x = y) (kk : mEv X M d r w' q L st w) : mEv X M d r w' pc L (vi y :: vi x :: st) w :=
  ev_pure kk fun p l e R s m args below meth c H locs ls Q cells slots g C hL hH hS hc1 hs K => lv_icmp_ne C.1 C.2.1 hd ht (fun _ => K) (fun z => absurd z hc)
theorem ev_icmp_ne_f {x y : Int32} {off : Int} {t0 : Nat} (hd : decode M.2.1 pc = .ok (.if_icmp .ne off, 3)) (ht : (pc : Int) + off = (t0 : Int)) (hq : pc + 3 = q) (hc : x = y) (kk : mEv X M d r w' q L st w) : mEv X M d r w' pc L (vi y :: vi x :: st) w := by
  subst hq
  exact ev_pure kk fun p l e R s m args below meth c H locs ls Q cells slots g C hL hH hS hc1 hs K => lv_icmp_ne C.1 C.2.1 hd ht (fun z => absurd hc z) (fun _ => K)
theorem ev_if_ne_t {x : Int32} {off : Int} (hd : decode M.2.1 pc = .ok (.ifCond .ne off, 3)) (ht : (pc : Int) + off = (q : Int)) (hc : ¬ x = 0) (kk : mEv X M d r w' q L st w) : mEv X M d r w' pc L (vi x :: st) w :=
  ev_pure kk fun p l e R s m args below meth c H locs ls Q cells slots g C hL hH hS hc1 hs K => lv_if_ne C.1 C.2.1 hd ht (fun _ => K) (fun z => absurd z hc)
theorem ev_if_ne_f {x : Int32} {off : Int} {t0 : Nat} (hd : decode M.2.1 pc = .ok (.ifCond .ne off, 3)) (ht : (pc : Int) + off = (t0 : Int)) (hq : pc + 3 = q) (hc : x = 0) (kk : mEv X M d r w' q L st w) : mEv X M d r w' pc L (vi x :: st) w := by
  subst hq
  exact ev_pure kk fun p l e R s m args below meth c H locs ls Q cells slots g C hL hH hS hc1 hs K => lv_if_ne C.1 C.2.1 hd ht (fun z => absurd hc z) (fun _ => K)
theorem ev_icmp_lt_t {x y : Int32} {off : Int} (hd : decode M.2.1 pc = .ok (.if_icmp .lt off, 3)) (ht : (pc : Int) + off = (q : Int)) (hc : x < y) (kk : mEv X M d r w' q L st w) : mEv X M d r w' pc L (vi y :: vi x :: st) w :=
  ev_pure kk fun p l e R s m args below meth c H locs ls Q cells slots g C hL hH hS hc1 hs K => lv_icmp_lt C.1 C.2.1 hd ht (fun _ => K) (fun z => absurd hc z)
theorem ev_icmp_lt_f {x y : Int32} {off : Int} {t0 : Nat} (hd : decode M.2.1 pc = .ok (.if_icmp .lt off, 3)) (ht : (pc : Int) + off = (t0 : Int)) (hq : pc + 3 = q) (hc : ¬ x < y) (kk : mEv X M d r w' q L st w) : mEv X M d r w' pc L (vi y :: vi x :: st) w := by
  subst hq
  exact ev_pure kk fun p l e R s m args below meth c H locs ls Q cells slots g C hL hH hS hc1 hs K => lv_icmp_lt C.1 C.2.1 hd ht (fun z => absurd z hc) (fun _ => K)
theorem ev_if_lt_t {x : Int32} {off : Int} (hd : decode M.2.1 pc = .ok (.ifCond .lt off, 3)) (ht : (pc : Int) + off = (q : Int)) (hc : x < 0) (kk : mEv X M d r w' q L st w) : mEv X M d r w' pc L (vi x :: st) w :=
  ev_pure kk fun p l e R s m args below meth c H locs ls Q cells slots g C hL hH hS hc1 hs K => lv_if_lt C.1 C.2.1 hd ht (fun _ => K) (fun z => absurd hc z)
theorem ev_if_lt_f {x : Int32} {off : Int} {t0 : Nat} (hd : decode M.2.1 pc = .ok (.ifCond .lt off, 3)) (ht : (pc : Int) + off = (t0 : Int)) (hq : pc + 3 = q) (hc : ¬ x < 0) (kk : mEv X M d r w' q L st w) : mEv X M d r w' pc L (vi x :: st) w := by
  subst hq
  exact ev_pure kk fun p l e R s m args below meth c H locs ls Q cells slots g C hL hH hS hc1 hs K => lv_if_lt C.1 C.2.1 hd ht (fun z => absurd z hc) (fun _ => K)
theorem ev_icmp_ge_t {x y : Int32} {off : Int} (hd : decode M.2.1 pc = .ok (.if_icmp .ge off, 3)) (ht : (pc : Int) + off = (q : Int)) (hc : y ≤ x) (kk : mEv X M d r w' q L st w) : mEv X M d r w' pc L (vi y :: vi x :: st) w :=
  ev_pure kk fun p l e R s m args below meth c H locs ls Q cells slots g C hL hH hS hc1 hs K => lv_icmp_ge C.1 C.2.1 hd ht (fun _ => K) (fun z => absurd hc z)
theorem ev_icmp_ge_f {x y : Int32} {off : Int} {t0 : Nat} (hd : decode M.2.1 pc = .ok (.if_icmp .ge off, 3)) (ht : (pc : Int) + off = (t0 : Int)) (hq : pc + 3 = q) (hc : ¬ y ≤ x) (kk : mEv X M d r w' q L st w) : mEv X M d r w' pc L (vi y :: vi x :: st) w := by
  subst hq
  exact ev_pure kk fun p l e R s m args below meth c H locs ls Q cells slots g C hL hH hS hc1 hs K => lv_icmp_ge C.1 C.2.1 hd ht (fun z => absurd z hc) (fun _ => K)
theorem ev_if_ge_t {x : Int32} {off : Int} (hd : decode M.2.1 pc = .ok (.ifCond .ge off, 3)) (ht : (pc : Int) + off = (q : Int)) (hc : 0 ≤ x) (kk : mEv X M d r w' q L st w) : mEv X M d r w' pc L (vi x :: st) w :=
  ev_pure kk fun p l e R s m args below meth c H locs ls Q cells slots g C hL hH hS hc1 hs K => lv_if_ge C.1 C.2.1 hd ht (fun _ => K) (fun z => absurd hc z)
theorem ev_if_ge_f {x : Int32} {off : Int} {t0 : Nat} (hd : decode M.2.1 pc = .ok (.ifCond .ge off, 3)) (ht : (pc : Int) + off = (t0 : Int)) (hq : pc + 3 = q) (hc : ¬ 0 ≤ x) (kk : mEv X M d r w' q L st w) : mEv X M d r w' pc L (vi x :: st) w := by
  subst hq
  exact ev_pure kk fun p l e R s m args below meth c H locs ls Q cells slots g C hL hH hS hc1 hs K => lv_if_ge C.1 C.2.1 hd ht (fun z => absurd z hc) (fun _ => K)
theorem ev_icmp_gt_t {x y : Int32} {off : Int} (hd : decode M.2.1 pc = .ok (.if_icmp .gt off, 3)) (ht : (pc : Int) + off = (q : Int)) (hc : y < x) (kk : mEv X M d r w' q L st w) : mEv X M d r w' pc L (vi y :: vi x :: st) w :=
  ev_pure kk fun p l e R s m args below meth c H locs ls Q cells slots g C hL hH hS hc1 hs K => lv_icmp_gt C.1 C.2.1 hd ht (fun _ => K) (fun z => absurd hc z)
theorem ev_icmp_gt_f {x y : Int32} {off : Int} {t0 : Nat} (hd : decode M.2.1 pc = .ok (.if_icmp .gt off, 3)) (ht : (pc : Int) + off = (t0 : Int)) (hq : pc + 3 = q) (hc : ¬ y < x) (kk : mEv X M d r w' q L st w) : mEv X M d r w' pc L (vi y :: vi x :: st) w := by
  subst hq
  exact ev_pure kk fun p l e R s m args below meth c H locs ls Q cells slots g C hL hH hS hc1 hs K => lv_icmp_gt C.1 C.2.1 hd ht (fun z => absurd z hc) (fun _ => K)
theorem ev_if_gt_t {x : Int32} {off : Int} (hd : decode M.2.1 pc = .ok (.ifCond .gt off, 3)) (ht : (pc : Int) + off = (q : Int)) (hc : 0 < x) (kk : mEv X M d r w' q L st w) : mEv X M d r w' pc L (vi x :: st) w :=
  ev_pure kk fun p l e R s m args below meth c H locs ls Q cells slots g C hL hH hS hc1 hs K => lv_if_gt C.1 C.2.1 hd ht (fun _ => K) (fun z => absurd hc z)
theorem ev_if_gt_f {x : Int32} {off : Int} {t0 : Nat} (hd : decode M.2.1 pc = .ok (.ifCond .gt off, 3)) (ht : (pc : Int) + off = (t0 : Int)) (hq : pc + 3 = q) (hc : ¬ 0 < x) (kk : mEv X M d r w' q L st w) : mEv X M d r w' pc L (vi x :: st) w := by
  subst hq
  exact ev_pure kk fun p l e R s m args below meth c H locs ls Q cells slots g C hL hH hS hc1 hs K => lv_if_gt C.1 C.2.1 hd ht (fun z => absurd z hc) (fun _ => K)
theorem ev_icmp_le_t {x y : Int32} {off : Int} (hd : decode M.2.1 pc = .ok (.if_icmp .le off, 3)) (ht : (pc : Int) + off = (q : Int)) (hc : x ≤ y) (kk : mEv X M d r w' q L st w) : mEv X M d r w' pc L (vi y :: vi x :: st) w :=
  ev_pure kk fun p l e R s m args below meth c H locs ls Q cells slots g C hL hH hS hc1 hs K => lv_icmp_le C.1 C.2.1 hd ht (fun _ => K) (fun z => absurd hc z)
theorem ev_icmp_le_f {x y : Int32} {off : Int} {t0 : Nat} (hd : decode M.2.1 pc = .ok (.if_icmp .le off, 3)) (ht : (pc : Int) + off = (t0 : Int)) (hq : pc + 3 = q) (hc : ¬ x ≤ y) (kk : mEv X M d r w' q L st w) : mEv X M d r w' pc L (vi y :: vi x :: st) w := by
  subst hq
  exact ev_pure kk fun p l e R s m args below meth c H locs ls Q cells slots g C hL hH hS hc1 hs K => lv_icmp_le C.1 C.2.1 hd ht (fun z => absurd z hc) (fun _ => K)
theorem ev_if_le_t {x : Int32} {off : Int} (hd : decode M.2.1 pc = .ok (.ifCond .le off, 3)) (ht : (pc : Int) + off = (q : Int)) (hc : x ≤ 0) (kk : mEv X M d r w' q L st w) : mEv X M d r w' pc L (vi x :: st) w :=
  ev_pure kk fun p l e R s m args below meth c H locs ls Q cells slots g C hL hH hS hc1 hs K => lv_if_le C.1 C.2.1 hd ht (fun _ => K) (fun z => absurd hc z)
theorem ev_if_le_f {x : Int32} {off : Int} {t0 : Nat} (hd : decode M.2.1 pc = .ok (.ifCond .le off, 3)) (ht : (pc : Int) + off = (t0 : Int)) (hq : pc + 3 = q) (hc : ¬ x ≤ 0) (kk : mEv X M d r w' q L st w) : mEv X M d r w' pc L (vi x :: st) w := by
  subst hq
  exact ev_pure kk fun p l e R s m args below meth c H locs ls Q cells slots g C hL hH hS hc1 hs K => lv_if_le C.1 C.2.1 hd ht (fun z => absurd z hc) (fun _ => K)
theorem ev_goto {off : Int} (hd : decode M.2.1 pc = .ok (.goto off, 3)) (ht : (pc : Int) + off = (q : Int)) (kk : mEv X M d r w' q L st w) : mEv X M d r w' pc L st w :=
  ev_pure kk fun p l e R s m args below meth c H locs ls Q cells slots g C hL hH hS hc hs K => lv_goto C.1 C.2.1 hd ht K
theorem ev_ifnull_t {off : Int} (hd : decode M.2.1 pc = .ok (.ifnull off, 3)) (ht : (pc : Int) + off = (q : Int)) (kk : mEv X M d r w' q L st w) : mEv X M d r w' pc L (vr none :: st) w :=
  ev_pure kk fun p l e R s m args below meth c H locs ls Q cells slots g C hL hH hS hc hs K => lv_ifnullN C.1 C.2.1 hd ht K
theorem ev_ifnull_f {off : Int} {a : Nat} (hd : decode M.2.1 pc = .ok (.ifnull off, 3)) (hq : pc + 3 = q) (kk : mEv X M d r w' q L st w) : mEv X M d r w' pc L (vr (some a) :: st) w := by
  subst hq
  exact ev_pure kk fun p l e R s m args below meth c H locs ls Q cells slots g C hL hH hS hc hs K => lv_ifnull C.1 C.2.1 hd K
theorem ev_ifnonnull_t {off : Int} {a : Nat} (hd : decode M.2.1 pc = .ok (.ifnonnull off, 3)) (ht : (pc : Int) + off = (q : Int)) (kk : mEv X M d r w' q L st w) : mEv X M d r w' pc L (vr (some a) :: st) w :=
  ev_pure kk fun p l e R s m args below meth c H locs ls Q cells slots g C hL hH hS hc hs K => lv_ifnonnull C.1 C.2.1 hd ht K
theorem ev_ifnonnull_f {off : Int} (hd : decode M.2.1 pc = .ok (.ifnonnull off, 3)) (hq : pc + 3 = q) (kk : mEv X M d r w' q L st w) : mEv X M d r w' pc L (vr none :: st) w := by
  subst hq
  exact ev_pure kk fun p l e R s m args below meth c H locs ls Q cells slots g C hL hH hS hc hs K => lv_ifnonnullN C.1 C.2.1 hd K
theorem ev_table_in {dflt lo hi : Int} {offs : Array Int} {len : Nat} {x : Int32} {off : Int} (hd : decode M.2.1 pc = .ok (.tableswitch dflt lo hi offs, len)) (h1 : ¬ x.toInt < lo) (h2 : ¬ hi < x.toInt) (ho : offs[(x.toInt - lo).toNat]? = some off) (ht : (pc : Int) + off = (q : Int)) (kk : mEv X M d r w' q L st w) : mEv X M d r w' pc L (vi x :: st) w :=
  ev_pure kk fun p l e R s m args below meth c H locs ls Q cells slots g C hL hH hS hc hs K => lv_tableIn C.1 C.2.1 hd h1 h2 ho ht K
theorem ev_table_out {dflt lo hi : Int} {offs : Array Int} {len : Nat} {x : Int32} (hd : decode M.2.1 pc = .ok (.tableswitch dflt lo hi offs, len)) (h : x.toInt < lo ∨ hi < x.toInt) (ht : (pc : Int) + dflt = (q : Int)) (kk : mEv X M d r w' q L st w) : mEv X M d r w' pc L (vi x :: st) w :=
  ev_pure kk fun p l e R s m args below meth c H locs ls Q cells slots g C hL hH hS hc hs K => lv_tableOut C.1 C.2.1 hd h ht K
theorem ev_lookup {dflt : Int} {ps : Array (Int × Int)} {len : Nat} {x : Int32} {off : Int} (hd : decode M.2.1 pc = .ok (.lookupswitch dflt ps, len)) (hp : (ps.toList.zip (ps.toList.drop 1)).all (fun (a, next) => a.1 < next.1) = true) (ho : Op.lookupswitch.offset ps.toList dflt x.toInt = off) (ht : (pc : Int) + off = (q : Int)) (kk : mEv X M d r w' q L st w) : mEv X M d r w' pc L (vi x :: st) w :=
  ev_pure kk fun p l e R s m args below meth c H locs ls Q cells slots g C hL hH hS hc hs K => lv_lookup C.1 C.2.1 hd hp ho ht K
end EV
end
section
section EV2
variable {X : mXs} {M : mM} {d : Nat} {r : Option mV} {w' : mW} {pc q : Nat} {L : List (Option mV)} {st : List mV} {w : mW}
theorem mGood {M1 : mM} (h : Cond.code M1.1 M1.2.1 M1.2.2.1 M1.2.2.2 ∈ mWS) : GoodIn mWS (mWs M1) := by
  intro w hw
  have hm : w ∈ mWS := by
    rcases List.mem_cons.mp hw with rfl | h2
    · exact h
    · exact h2
  exact ⟨hm, good_of_word (List.mem_filter.mp hm).2⟩
-- fields
/-- the pool place idx of own names the field kf of the class ci -/
def mFld (own : String) (idx ci kf : Nat) : Prop := ∃ (C : String) (T : u_T) (N : Nat), vwCl[ci]? = some (C, T, N) ∧ (∀ w ∈ u_ws C T N, w ∈ mWS) ∧ kf < N ∧ Cond.fieldLink own idx (T kf).1 (T kf).2.1 (T kf).2.2.1 ∈ mWS
def mFldP (own : String) (idx ci kf : Nat) (ty : FieldType) (fin : Bool) : Prop := ∃ (C : String) (T : u_T) (N : Nat), vwCl[ci]? = some (C, T, N) ∧ (∀ w ∈ u_ws C T N, w ∈ mWS) ∧ kf < N ∧ Cond.fieldLink own idx (T kf).1 (T kf).2.1 (T kf).2.2.1 ∈ mWS ∧
  (∃ ty0 : Nat → FieldType, ∀ k, k < N → parseFieldDescriptor (T k).2.2.1 = some (ty0 k)) ∧ (∀ a, a < N → ∀ b, b < N → a ≠ b → (T a).2.1 ≠ (T b).2.1) ∧ (T kf).2.2.2 = fin ∧ parseFieldDescriptor (T kf).2.2.1 = some ty ∧ (T kf).1 = own
def mFit (ty : FieldType) (v : mV) : Prop := ∀ g : mG, narrow ty (mt g v) = mt g v ∧ fits ty (mt g v) = true
theorem mFit_i {x : Int32} : mFit .int (vi x) := fun _ => ⟨rfl, rfl⟩
theorem mFit_l {x : Int64} : mFit .long (vl x) := fun _ => ⟨rfl, rfl⟩
theorem mFit_z {x : Int32} (h : x = 0 ∨ x = 1) : mFit .boolean (vi x) := fun _ => by rcases h with rfl | rfl <;> exact ⟨rfl, rfl⟩
theorem mFit_o {C : String} {o : Option Nat} : mFit (.object C) (vr o) := fun _ => by cases o <;> exact ⟨rfl, rfl⟩
theorem mFit_a {t : FieldType} {o : Option Nat} : mFit (.array t) (vr o) := fun _ => by cases o <;> exact ⟨rfl, rfl⟩
theorem ev_get {idx ci kf o : Nat} {fs : List mV} {v : mV} (hd : decode M.2.1 pc = .ok (.getfield idx, 3)) (hq : pc + 3 = q) (hf : mFld M.1.cls idx ci kf) (hw : w[o]? = some (.inl (ci, fs))) (hv : fs[kf]? = some v) (kk : mEv X M d r w' q L (v :: st) w) : mEv X M d r w' pc L (vr (some o) :: st) w := by
  subst hq
  obtain ⟨Cn, T, N, hc, hin, hk, hlink⟩ := hf
  exact ev_pure kk fun p l e R s m args below meth c H locs ls Q cells slots g C hL hH hS hc1 hs K => va_get (D := g.2.2.2.2) (cl := vwCl) (Ts := mWS) C.1 C.2.1 C.2.2.2.2.1 hin C.2.2.2.1 C.2.2.2.2.2.1.1.1 hH.2 o (mR_get hw) hc kf hk (C.2.2.2.2.1 _ hlink) (fun _ h => h) (v := mt g v) (by simp [List.getElem?_map, hv]) hd K
theorem ev_put_at {own C : String} {T : u_T} {N ci kf : Nat} {g : mG} {s : State} {args : Array Value} {k : Nat} {fs : List mV} {v : mV} {H1 : Heap} {cell : Cell} (ty0 : Nat → FieldType) (hts : ∀ w ∈ mWS, w.before args s = true) (hin : ∀ w ∈ u_ws C T N, w ∈ mWS) (hty : ∀ k, k < N → parseFieldDescriptor (T k).2.2.1 = some (ty0 k)) (hnm : ∀ a, a < N → ∀ b, b < N → a ≠ b → (T a).2.1 ≠ (T b).2.1) (hK : mKt g s) (hc : vwCl[ci]? = some (C, T, N)) (hk : kf < N) (hl : kf < fs.length)
    (q2 : cell.cls = g.2.2.2.2.1 ci) (q3 : cell.vm = .none) (q4 : ∀ k, k < N → cell.slots[g.2.2.2.2.2 ci k]? = some (vp_V (fs.map (mt g)) k)) (e1 : H1[k]? = some (cell.setSlot (g.2.2.2.2.2 ci kf) (mt g v))) : va_at g.2.2.2.2 vwCl (k, mcl g (.inl (ci, fs.set kf v))) H1 := by
  have hap := va_apart (own := own) hts hin ty0 hty hnm hK.1 hc
  refine ⟨_, hc, t_OB.to (V := updV (vp_V (fs.map (mt g))) kf (mt g v)) ⟨_, e1, q2, q3, t_set q4 hap hk _⟩ (fun j _ => ?_)⟩
  show updV (vp_V (fs.map (mt g))) kf (mt g v) j = vp_V ((fs.set kf v).map (mt g)) j
  rw [List.map_set]
  exact vp_updV_set (by rw [List.length_map]; exact hl) _ j
theorem ev_put {idx ci kf o : Nat} {fs : List mV} {v : mV} {ty : FieldType} (hd : decode M.2.1 pc = .ok (.putfield idx, 3)) (hq : pc + 3 = q) (hf : mFldP M.1.cls idx ci kf ty false) (hfit : mFit ty v) (hw : w[o]? = some (.inl (ci, fs))) (hl : kf < fs.length) (kk : mEv X M d r w' q L st (w.set o (.inl (ci, fs.set kf v)))) : mEv X M d r w' pc L (v :: vr (some o) :: st) w := by
  subst hq
  obtain ⟨Cn, T, N, hc, hin, hk, hlink, ⟨ty0, hty⟩, hnm, hfin, hdesc, -⟩ := hf
  refine ev_heap kk List.length_set (mSz_set w o _ _ hw (by simp [mSzc])) fun p l e R s m args below meth c H locs ls Q cells slots g C hH hS K => ?_
  obtain ⟨r0, h1, cell, q1, q2, q3, q4⟩ := hH.2 o _ (mR_get hw)
  have hr : r0 = (Cn, T, N) := Option.some.inj (h1.symm.trans hc)
  subst hr
  obtain ⟨hSl, hfc, kC, hkC, hkind⟩ := C.2.2.2.2.2.1.1.1.1 ci _ hc
  obtain ⟨cf, kf0, fi, f, hi, hsl⟩ := hSl kf hk
  have hlay := C.2.2.2.2.1 _ (hin _ (u_in_lay hk))
  unfold u_lay at hlay
  rw [if_neg (by rw [hfin]; decide)] at hlay
  have hst := (u_facts hfc hkC (u_lays C.2.2.2.2.1 hin hk) hi).1
  have h6 := u_store hfc hkC hkind hlay hi hdesc (hfit g).1 (hfit g).2
  refine W.putK C.1 C.2.1 (f := f) ⟨C.2.2.2.1, C.2.2.2.2.1 _ hlink, ⟨_, _, _, hi⟩, hst⟩ (by rw [q2]; exact h6) q1 q3 (by rw [hsl]; exact k2_hasslot (q4 kf hk)) rfl rfl hd fun H' e1 e2 e3 => ?_
  rw [hsl] at e1 ⊢
  exact K H' _ (hH.put hw (ev_put_at (own := M.1.cls) ty0 C.2.2.2.2.1 hin hty hnm C.2.2.2.2.2.1.1 hc hk hl q2 q3 q4 e1) e2 e3) (hS.put e2 e3 (Nat.le_add_right _ _))
theorem ev_putF {idx ci kf o : Nat} {fs : List mV} {v : mV} {ty : FieldType} (hd : decode M.2.1 pc = .ok (.putfield idx, 3)) (hq : pc + 3 = q) (hini : M.1.name = "<init>") (hf : mFldP M.1.cls idx ci kf ty true) (hfit : mFit ty v) (hw : w[o]? = some (.inl (ci, fs))) (hl : kf < fs.length) (kk : mEv X M d r w' q L st (w.set o (.inl (ci, fs.set kf v)))) : mEv X M d r w' pc L (v :: vr (some o) :: st) w := by
  subst hq
  obtain ⟨Cn, T, N, hc, hin, hk, hlink, ⟨ty0, hty⟩, hnm, hfin, hdesc, hdecl⟩ := hf
  refine ev_heap kk List.length_set (mSz_set w o _ _ hw (by simp [mSzc])) fun p l e R s m args below meth c H locs ls Q cells slots g C hH hS K => ?_
  obtain ⟨r0, h1, cell, q1, q2, q3, q4⟩ := hH.2 o _ (mR_get hw)
  have hr : r0 = (Cn, T, N) := Option.some.inj (h1.symm.trans hc)
  subst hr
  obtain ⟨hSl, hfc, kC, hkC, hkind⟩ := C.2.2.2.2.2.1.1.1.1 ci _ hc
  obtain ⟨cf, kf0, fi, f, hi, hsl⟩ := hSl kf hk
  have hlay := C.2.2.2.2.1 _ (hin _ (u_in_lay hk))
  unfold u_lay at hlay
  rw [if_pos hfin] at hlay
  have hst := (u_facts hfc hkC (u_lays C.2.2.2.2.1 hin hk) hi).1
  have hcf : m.cls = cf := by
    obtain ⟨_, _, c', _, _, _, -, -, hf', -, -, -, hown2, -⟩ := Cond.laysFinal_spec hlay
    have e1 : c' = cf := by have := hi.symm.trans hf'; simp at this; exact this.1.symm
    rw [hdecl] at hown2
    rw [← e1]; exact Option.some.inj (C.2.2.2.1.symm.trans hown2)
  have h6 := u_fits hfc hkC hkind (Or.inr hlay) hi hdesc (hfit g).1 (hfit g).2
  refine W.putFinK C.1 C.2.1 C.2.2.2.1 (C.2.2.2.2.1 _ hlink) hi hst hcf (C.2.2.2.2.2.2.2 hini) (by rw [q2]; exact h6) q1 q3 (by rw [hsl]; exact k2_hasslot (q4 kf hk)) rfl rfl hd fun H' e1 e2 e3 => ?_
  rw [hsl] at e1 ⊢
  exact K H' _ (hH.put hw (ev_put_at (own := M.1.cls) ty0 C.2.2.2.2.1 hin hty hnm C.2.2.2.2.2.1.1 hc hk hl q2 q3 q4 e1) e2 e3) (hS.put e2 e3 (Nat.le_add_right _ _))
-- rows of ints and of objects
theorem ev_iaload {a n : Nat} {f : Nat → Int32} {i : Int32} (hd : decode M.2.1 pc = .ok (.iaload, 1)) (hq : pc + 1 = q) (hw : w[a]? = some (.inr (.inl (n, f)))) (hi : vp_in i n) (kk : mEv X M d r w' q L (vi (f i.toNatClampNeg) :: st) w) : mEv X M d r w' pc L (vi i :: vr (some a) :: st) w := by
  subst hq
  exact ev_pure kk fun p l e R s m args below meth c H locs ls Q cells slots g C hL hH hS hc1 hs K => va_iald (f := f) C.1 C.2.1 C.2.2.2.2.2.1.1.1 hH.2 a 0 (mR_get hw) rfl hi hd K
theorem ev_aaload {a n : Nat} {f : Nat → Option Nat} {i : Int32} (hd : decode M.2.1 pc = .ok (.aaload, 1)) (hq : pc + 1 = q) (hw : w[a]? = some (.inr (.inr (n, f)))) (hi : vp_in i n) (kk : mEv X M d r w' q L (vr (f i.toNatClampNeg) :: st) w) : mEv X M d r w' pc L (vi i :: vr (some a) :: st) w := by
  subst hq
  refine ev_pure kk fun p l e R s m args below meth c H locs ls Q cells slots g C hL hH hS hc1 hs K => va_aldq C.1 C.2.1 C.2.2.2.2.2.1.1.1 hH.2 a 1 (mR_get hw) rfl hi hd ?_
  refine cast (congrArg (fun z => W p l e R s m args below meth c H locs cells slots Q (F0 m (pc + 1) ls (z :: st.map (mt g)))) ?_) K
  show mt g (vr (f i.toNatClampNeg)) = va_rf ((f i.toNatClampNeg).map (fun k => g.1 + k))
  cases f i.toNatClampNeg <;> rfl
theorem ev_alen {a n : Nat} {f : Nat → Int32} {v : Int32} (hd : decode M.2.1 pc = .ok (.arraylength, 1)) (hq : pc + 1 = q) (hw : w[a]? = some (.inr (.inl (n, f)))) (hv : Int32.ofNat n = v) (kk : mEv X M d r w' q L (vi v :: st) w) : mEv X M d r w' pc L (vr (some a) :: st) w := by
  subst hq
  exact ev_pure kk fun p l e R s m args below meth c H locs ls Q cells slots g C hL hH hS hc1 hs K => va_alen C.1 C.2.1 C.2.2.2.2.2.1.1.1 hH.2 a 0 (mR_get hw) rfl hv hd K
theorem ev_alenq {a n : Nat} {f : Nat → Option Nat} {v : Int32} (hd : decode M.2.1 pc = .ok (.arraylength, 1)) (hq : pc + 1 = q) (hw : w[a]? = some (.inr (.inr (n, f)))) (hv : Int32.ofNat n = v) (kk : mEv X M d r w' q L (vi v :: st) w) : mEv X M d r w' pc L (vr (some a) :: st) w := by
  subst hq
  exact ev_pure kk fun p l e R s m args below meth c H locs ls Q cells slots g C hL hH hS hc1 hs K => va_alen C.1 C.2.1 C.2.2.2.2.2.1.1.1 hH.2 a 1 (mR_get hw) rfl hv hd K
theorem ev_iastore {a n : Nat} {f : Nat → Int32} {i x : Int32} (hd : decode M.2.1 pc = .ok (.iastore, 1)) (hq : pc + 1 = q) (hw : w[a]? = some (.inr (.inl (n, f)))) (hi : vp_in i n) (kk : mEv X M d r w' q L st (w.set a (.inr (.inl (n, upd f i.toNatClampNeg x))))) : mEv X M d r w' pc L (vi x :: vi i :: vr (some a) :: st) w := by
  subst hq
  refine ev_heap kk List.length_set (mSz_set w a _ _ hw rfl) fun p l e R s m args below meth c H locs ls Q cells slots g C hH hS K => ?_
  have ha := hH.2 a _ (mR_get hw)
  refine W.iast C.1 C.2.1 ha ((C.2.2.2.2.2.1.1.1.2 0 _ rfl).1 n (fun j => .int (f j))) (fun z => by cases z) (by show ¬ (i < 0 ∨ (arrV _ _ _).slots.size ≤ _); rw [arrV_size]; exact hi) rfl rfl hd fun H1 e1 z oq => ?_
  refine K H1 _ (hH.put hw ?_ z oq) (hS.put z oq (Nat.le_add_right _ _))
  show H1[g.1 + a]? = some (vp_cell _ _)
  rw [e1]
  show some ((vp_cell _ (n, .inl f)).setSlot _ _) = some (vp_cell _ (n, .inl _))
  rw [vp_cell_i, vp_cell_i, arrV_store]
  congr 2
  funext j
  by_cases hj : j = i.toNatClampNeg
  · subst hj
    simp [updV, upd]
  · simp [updV, upd, hj]
theorem ev_aastore {a n v ci : Nat} {f : Nat → Option Nat} {i : Int32} {fs : List mV} {C1 : String} {T : u_T} {N : Nat} (hd : decode M.2.1 pc = .ok (.aastore, 1)) (hq : pc + 1 = q) (hw : w[a]? = some (.inr (.inr (n, f)))) (hi : vp_in i n) (hv : w[v]? = some (.inl (ci, fs))) (hc : vwCl[ci]? = some (C1, T, N)) (hca : Cond.castable C1 "PancakePort$Tosser" ∈ mNw ∨ C1 = "PancakePort$Tosser") (kk : mEv X M d r w' q L st (w.set a (.inr (.inr (n, va_up f i.toNatClampNeg (some v)))))) : mEv X M d r w' pc L (vr (some v) :: vi i :: vr (some a) :: st) w := by
  subst hq
  refine ev_heap kk List.length_set (mSz_set w a _ _ hw rfl) fun p l e R s m args below meth c H locs ls Q cells slots g C hH hS K => ?_
  have hlt : i.toNatClampNeg < n := Nat.not_le.mp fun z => hi (Or.inr z)
  have h0 : ¬ i < 0 := fun z => hi (Or.inl z)
  have ha := hH.2 a _ (mR_get hw)
  obtain ⟨r', hr', cellV, g1, g2, g3, -⟩ := hH.2 v _ (mR_get hv)
  have hcls := (C.2.2.2.2.2.1.1.1.1 ci _ hc).2
  obtain ⟨kA, comp, k1, k2, k3, -⟩ := (C.2.2.2.2.2.1.1.1.2 1 _ rfl).2
  obtain ⟨kT, hkT, -⟩ := Vm.findClass_spec k3
  have hasg : s.vm.assignable cellV.cls comp = true := by
    rw [g2]
    rcases hca with hca | rfl
    · obtain ⟨c0, t0, f1, f2, f3⟩ := Cond.castable_spec (va_Nw.use (A := args) rfl (C.2.2.2.2.2.1.2.2.2.2 _ hca))
      cases f1.symm.trans hcls.1
      cases f2.symm.trans k3
      exact f3
    · cases k3.symm.trans hcls.1
      exact va_assign hcls
  obtain ⟨kC, hkC, -⟩ := hcls.2
  refine W.aast C.1 C.2.1 ha (fun z h => by cases h) (fun h => by cases h) k1 k2 rfl hkT ⟨h0, by show _ < (arrV _ _ _).slots.size; rw [arrV_size]; exact hlt⟩ g1 (fun z h => by rw [g3] at h; cases h) (by rw [g2]; exact hkC) hasg rfl rfl hd fun H1 e1 z oq => ?_
  refine K H1 _ (hH.put hw ?_ z oq) (hS.put z oq (Nat.le_add_right _ _))
  show H1[g.1 + a]? = some (vp_cell _ _)
  rw [e1]
  show some ((vp_cell _ (n, .inr (.inr (.inr (.inr _))))).setSlot _ _) = some (vp_cell _ (n, .inr (.inr (.inr (.inr _)))))
  rw [vp_cell_q, vp_cell_q, arrV_store]
  congr 2
  funext j
  by_cases hj : j = i.toNatClampNeg
  · subst hj
    simp [updV, va_up, va_rf]
  · simp [updV, va_up, hj]
-- making
theorem ev_newi {n : Int32} {N : Nat} (hd : decode M.2.1 pc = .ok (.newarray .int, 2)) (hq : pc + 2 = q) (harr : Cond.arrayClass .int ∈ mWS) (hn : ¬ n < 0) (hN : n.toNatClampNeg = N) (hb : N ≤ 100000) (kk : mEv X M d r w' q L (vr (some w.length) :: st) (w ++ [.inr (.inl (N, fun _ => 0))])) : mEv X M d r w' pc L (vi n :: st) w := by
  subst hq
  refine ev_make kk fun p l e R s m args below meth c H locs ls Q cells slots g C hH hS hc1 hs1 K => ?_
  refine va_newaK (atype := .int) C.1 C.2.1 (C.2.2.2.2.1 _ harr) rfl hd rfl hn hN (by show N * 4 ≤ 536870912; omega) hc1 hs1 hH.1 fun H1 cA e1 z1 o1 hAr hNm => ?_
  have hcA : cA = g.2.2.1 := by
    have := (C.2.2.2.2.2.1.1.1.2 0 _ rfl).2
    exact Option.some.inj (hNm.symm.trans this)
  subst hcA
  refine K H1 (hH.push ?_ (by rw [z1, hH.1]) (fun x hx => o1 x (by rw [← hH.1]; exact hx))) ⟨Nat.le_trans hS.1 (by rw [z1, hH.1]; omega), fun x h1 h2 => (o1 x (by rw [← hH.1]; exact Nat.lt_of_lt_of_le h1 hS.1)).trans (hS.2.1 x h1 h2), hS.2.2⟩
  exact e1
theorem ev_newq {n : Int32} {N idx : Nat} (hd : decode M.2.1 pc = .ok (.anewarray idx, 3)) (hq : pc + 3 = q) (hl : Cond.classLink M.1.cls idx "PancakePort$Tosser" ∈ mWS) (hn : ¬ n < 0) (hN : n.toNatClampNeg = N) (hb : N ≤ 100000) (kk : mEv X M d r w' q L (vr (some w.length) :: st) (w ++ [.inr (.inr (N, fun _ => none))])) : mEv X M d r w' pc L (vi n :: st) w := by
  subst hq
  refine ev_make kk fun p l e R s m args below meth c H locs ls Q cells slots g C hH hS hc1 hs1 K => ?_
  subst hN
  refine W.anew C.1 C.2.1 C.2.2.2.1 (C.2.2.2.2.1 _ hl) (va_AO.use C.2.2.2.2.2.1.1.2.2) rfl hd rfl hn (by omega) hc1 hs1 fun cA kA comp f1 f2 f3 f4 => ?_
  generalize hH1 : H.push ({ cls := cA, slots := Array.replicate n.toNatClampNeg .null, vm := .none } : Cell) = H1
  have z1 : H1.size = H.size + 1 := by rw [← hH1, Array.size_push]
  have e1 : H1[H.size]? = some (arrV cA n.toNatClampNeg (fun _ => .null)) := by rw [← hH1, Array.getElem?_push_size, ← arrV_new]
  have o1 : ∀ q : Nat, q < H.size → H1[q]? = H[q]? := fun q hq => by rw [← hH1, Array.getElem?_push, if_neg (Nat.ne_of_lt hq)]
  have hcA : cA = g.2.2.2.1 := by
    obtain ⟨kA', comp', -, -, -, k4⟩ := (C.2.2.2.2.2.1.1.1.2 1 _ rfl).2
    exact Option.some.inj (f1.symm.trans k4)
  subst hcA
  rw [hH.1] at e1 ⊢
  refine K H1 (hH.push ?_ z1 o1) ⟨Nat.le_trans hS.1 (by rw [z1]; omega), fun x h1 h2 => (o1 x (Nat.lt_of_lt_of_le h1 hS.1)).trans (hS.2.1 x h1 h2), hS.2.2⟩
  exact e1
theorem ev_new {idx ci : Nat} {C1 : String} {T : u_T} {N : Nat} {fs : List mV} (ty0 : Nat → FieldType) (hd : decode M.2.1 pc = .ok (.new idx, 3)) (hq : pc + 3 = q) (hc : vwCl[ci]? = some (C1, T, N)) (hin : ∀ w ∈ u_ws C1 T N, w ∈ mWS) (hty : ∀ k, k < N → parseFieldDescriptor (T k).2.2.1 = some (ty0 k)) (hl : Cond.classLink M.1.cls idx C1 ∈ mWS) (hi : Cond.instantiable C1 N ∈ mWS) (hini : Cond.initialized C1 ∈ mWS) (hlen : fs.length = N) (hfs : ∀ (g : mG) (j : Nat), j < N → defaultValue (ty0 j) = vp_V (fs.map (mt g)) j) (kk : mEv X M d r w' q L (vr (some w.length) :: st) (w ++ [.inl (ci, fs)])) : mEv X M d r w' pc L st w := by
  subst hq
  refine ev_make kk fun p l e R s m args below meth c H locs ls Q cells slots g C hH hS hc1 hs1 K => ?_
  have hKn := C.2.2.2.2.2.1.1.1.1 ci _ hc
  subst hlen
  refine W.newcK C.1 C.2.1 C.2.2.2.1 (C.2.2.2.2.1 _ hl) (C.2.2.2.2.1 _ hi) (C.2.2.2.2.1 _ hini) rfl hd hc1 hs1 hKn.2.1 hH.1 fun H1 kC hkC e1 z1 o1 => ?_
  refine K H1 (hH.push ?_ (by rw [z1, hH.1]) (fun x hx => o1 x (by rw [← hH.1]; exact hx))) ⟨Nat.le_trans hS.1 (by rw [z1, hH.1]; omega), fun x h1 h2 => (o1 x (by rw [← hH.1]; exact Nat.lt_of_lt_of_le h1 hS.1)).trans (hS.2.1 x h1 h2), hS.2.2⟩
  exact ⟨_, hc, (u_born ty0 C.2.2.2.2.1 hin hKn hkC e1 hty).to (hfs g)⟩
end EV2
end
section
section EV3
variable {X : mXs} {M M1 : mM} {d d1 : Nat} {r r1 : Option mV} {w' w1 : mW} {pc q : Nat} {L : List (Option mV)} {st rest : List mV} {w : mW}
-- returns
theorem ev_ret {st1 : List mV} {r1 : Option mV} (h : mRet M pc st1 r1) : mEv X M d r1 w pc L st1 w :=
  ⟨⟨Nat.le_refl _, Nat.le_refl _⟩, fun p l e R s m args below meth c H locs ls Q g n0 z0 C h1 h2 h3 h4 hend hL hH hS => hend H locs ls pc st1 h hH hS⟩
theorem ev_iret {x : Int32} {ty : FieldType} (hd : decode M.2.1 pc = .ok (.ireturn, 1)) (ht : M.2.2.2 = some ty) (hn : narrow ty (.int x) = .int x) : mEv X M d (some (vi x)) w pc L [vi x] w := ev_ret (Or.inl ⟨x, ty, hd, rfl, rfl, ht, hn⟩)
theorem ev_zret {x : Int32} (hd : decode M.2.1 pc = .ok (.ireturn, 1)) (ht : M.2.2.2 = some .boolean) (hn : x = 0 ∨ x = 1) : mEv X M d (some (vi x)) w pc L [vi x] w := ev_iret hd ht (by rcases hn with rfl | rfl <;> rfl)
theorem ev_vret (hd : decode M.2.1 pc = .ok (.return_, 1)) (ht : M.2.2.2 = none) : mEv X M d none w pc L [] w := ev_ret (Or.inr (Or.inl ⟨hd, rfl, rfl, ht⟩))
theorem ev_lret {x : Int64} (hd : decode M.2.1 pc = .ok (.lreturn, 1)) (ht : M.2.2.2 = some .long) : mEv X M d (some (vl x)) w pc L [vl x] w := ev_ret (Or.inr (Or.inr (Or.inl ⟨x, hd, rfl, rfl, ht⟩)))
theorem ev_aret {o : Option Nat} {C : String} (hd : decode M.2.1 pc = .ok (.areturn, 1)) (ht : M.2.2.2 = some (.object C)) : mEv X M d (some (vr o)) w pc L [vr o] w := ev_ret (Or.inr (Or.inr (Or.inr ⟨o, C, hd, rfl, rfl, ht⟩)))
-- the entry
def mLa : List mV → List (Option mV)
  | [] => []
  | Sum.inl x :: vs => some (vi x) :: mLa vs
  | Sum.inr (Sum.inl x) :: vs => some (vl x) :: none :: mLa vs
  | Sum.inr (Sum.inr u) :: vs => some (Sum.inr (Sum.inr u)) :: mLa vs
theorem mLa_args {g : mG} : ∀ (vs : List mV) (i k : Nat) (v : mV), (mLa vs)[k]? = some (some v) → (i + k, mt g v) ∈ lv_args i (vs.map (mt g))
  | [], i, k, v, h => by simp [mLa] at h
  | Sum.inl x :: vs, i, 0, v, h => by
    simp [mLa] at h
    subst h
    exact List.mem_cons_self
  | Sum.inl x :: vs, i, k + 1, v, h => by
    simp only [mLa, List.getElem?_cons_succ] at h
    have := mLa_args (g := g) vs (i + 1) k v h
    rw [show i + 1 + k = i + (k + 1) by omega] at this
    refine List.mem_cons_of_mem _ ?_
    rw [show (if (mt g (Sum.inl x)).category = 2 then i + 2 else i + 1) = i + 1 by rw [mt_cat]; rfl]
    exact this
  | Sum.inr (Sum.inl x) :: vs, i, 0, v, h => by
    simp [mLa] at h
    subst h
    exact List.mem_cons_self
  | Sum.inr (Sum.inl x) :: vs, i, 1, v, h => by simp [mLa] at h
  | Sum.inr (Sum.inl x) :: vs, i, k + 2, v, h => by
    simp only [mLa, List.getElem?_cons_succ] at h
    have := mLa_args (g := g) vs (i + 2) k v h
    rw [show i + 2 + k = i + (k + 2) by omega] at this
    refine List.mem_cons_of_mem _ ?_
    rw [show (if (mt g (Sum.inr (Sum.inl x))).category = 2 then i + 2 else i + 1) = i + 2 by rw [mt_cat]; rfl]
    exact this
  | Sum.inr (Sum.inr u) :: vs, i, 0, v, h => by
    simp [mLa] at h
    subst h
    exact List.mem_cons_self
  | Sum.inr (Sum.inr u) :: vs, i, k + 1, v, h => by
    simp only [mLa, List.getElem?_cons_succ] at h
    have := mLa_args (g := g) vs (i + 1) k v h
    rw [show i + 1 + k = i + (k + 1) by omega] at this
    refine List.mem_cons_of_mem _ ?_
    rw [show (if (mt g (Sum.inr (Sum.inr u))).category = 2 then i + 2 else i + 1) = i + 1 by rw [mt_cat]; rfl]
    exact this
theorem mLa_len {g : mG} : ∀ (vs : List mV), (lg_sl (vs.map (mt g))).length = (mLa vs).length
  | [] => rfl
  | Sum.inl x :: vs => by
    have := mLa_len (g := g) vs
    simp only [lg_sl, List.map_cons, List.flatMap_cons, mt_cat, mcat] at this ⊢
    simp [mLa, this]
  | Sum.inr (Sum.inl x) :: vs => by
    have := mLa_len (g := g) vs
    simp only [lg_sl, List.map_cons, List.flatMap_cons, mt_cat, mcat] at this ⊢
    simp [mLa, this]
  | Sum.inr (Sum.inr u) :: vs => by
    have := mLa_len (g := g) vs
    simp only [lg_sl, List.map_cons, List.flatMap_cons, mt_cat, mcat] at this ⊢
    simp [mLa, this]
/-- the locals at the entry: the arguments, then n places that hold nothing yet -/
def mLn (vs : List mV) (n : Nat) : List (Option mV) := mLa vs ++ List.replicate n none
theorem mLn_get {vs : List mV} {n k : Nat} {v : mV} (h : (mLn vs n)[k]? = some (some v)) : (mLa vs)[k]? = some (some v) := by
  unfold mLn at h
  by_cases hk : k < (mLa vs).length
  · rwa [List.getElem?_append_left hk] at h
  · rw [List.getElem?_append_right (by omega), List.getElem?_replicate] at h
    split at h <;> cases h
theorem ev_met {as : List mV} {n : Nat} (hc : plainName M.1.cls = true) (hn : (mLa as).length + n = M.2.2.1) (h : ∀ X : mXs, mEv X M d r w' 0 (mLn as n) [] w) : mMet M d as w r w' := by
  refine ⟨(h (0, fun _ => 0)).1, fun l g X => Met.ofW (cc := M.2.1) (maxL := M.2.2.1) (ret := M.2.2.2) hc rfl ?_⟩
  intro p e s m args below meth c s₁ B hml hv
  obtain ⟨rfl, hH, hB⟩ := hv
  have hts := atoms_spec (ws := mWs M) B.pre
  have hlen : (lg_sl (as.map (mt g))).length ≤ M.2.2.1 := by rw [mLa_len]; omega
  have hl := lv_entry (as.map (mt g)) (n := M.2.2.1) hlen
  rw [lg_entry_eq]
  generalize (lg_sl (as.map (mt g)) ++ List.replicate (M.2.2.1 - (lg_sl (as.map (mt g))).length) Slot.unset).toArray = ls at hl ⊢
  have hk := (h X).2 p l e (headSpec (mWs M) (mRm d (w'.length - w.length) (mSz w' - mSz w))).room s m _ below meth c s.heap [] ls (MQ below (mPost g w' r) (as.map (mt g)).toArray s (w'.length - w.length) (mSz w' - mSz w) (fun q => g.1 ≤ q)) g w.length (mSz w)
    ⟨B.exec, B.bytes, hml, findClass_of_methodNamed B.named, fun w hw => hts w (List.mem_cons_of_mem _ hw), hB, ⟨Nat.le_refl _, Nat.le_refl _⟩, fun hi => (name_of_methodNamed B.named B.method).1.trans hi⟩
    (Nat.le_refl _) (Nat.le_refl _) (by show w'.length ≤ w.length + (w'.length - w.length); omega) (by show mSz w' ≤ mSz w + (mSz w' - mSz w); omega) ?_ ⟨hl.1, hl.2.1, fun k v hv => hl.2.2 (k, mt g v) (by have := mLa_args (g := g) as 0 k v (mLn_get hv); simpa using this)⟩ hH va_S.rf
  · rw [Nat.sub_self, Nat.sub_self] at hk
    exact hk
  · intro H1 locs1 ls1 pc1 st1 hret hH1 hS1
    have hpost : ∀ t : State, t.heap = H1 → mPost g w' r (as.map (mt g)).toArray s (.returned (r.map (mt g))) t := fun t ht => ⟨rfl, by rw [ht]; exact hH1, by rw [ht]; exact hS1.1, fun x g1 g2 => by rw [ht]; exact hS1.2.1 x g1 g2⟩
    rcases hret with ⟨x, ty, hd, rfl, rfl, ht, hn⟩ | ⟨hd, rfl, rfl, ht⟩ | ⟨x, hd, rfl, rfl, ht⟩ | ⟨o, Cn, hd, rfl, rfl, ht⟩
    · exact W.zret B.exec B.bytes (B.returns.trans ht) hn (fun t ht _ => hpost t ht) hS1.2.2 hd B.notSynchronized
    · exact W.vret B.exec B.bytes (B.returns.trans ht) (fun t ht _ => hpost t ht) hS1.2.2 hd B.notSynchronized
    · exact W.lret B.exec B.bytes (B.returns.trans ht) (fun t ht _ => hpost t ht) hS1.2.2 hd B.notSynchronized
    · exact W.aret B.exec B.bytes (B.returns.trans ht) (Or.inl ⟨Cn, rfl⟩) (by cases o <;> first | exact Or.inl rfl | exact Or.inr ⟨_, rfl⟩) (fun t ht _ => hpost t ht) hS1.2.2 hd B.notSynchronized
-- calls
theorem ev_run {as : List mV} (hm : mMet M1 d1 as w r1 w1) (hq : pc + 3 = q) (kk : mEv X M d r w' q L (r1.toList ++ rest) w1)
    (h : ∀ (p : Program) (l : Launch) (e : Env) (R : Room) (s : State) (m : MethodId) (args : Array Value) (below : List Frame) (meth : Method) (c : Code) (H : Heap) (locs : List Loc) (ls : Array Slot) (cells slots : Nat) (g : mG), mCx M d g X p R s m args meth c → mL g M.2.2.1 L ls → mH g w H → va_S (fun q => g.1 ≤ q) s.heap H locs → cells + (w1.length - w.length) ≤ R.cells → slots + (mSz w1 - mSz w) ≤ R.slots →
      ∃ a : Array Value, va_Run p l e R s m args below meth c H locs cells slots (w1.length - w.length) (mSz w1 - mSz w) (F0 m pc ls (st.map (mt g))) (rest.map (mt g)) (mPost g w1 r1 a) (fun q => g.1 ≤ q)) : mEv X M d r w' pc L st w := by
  subst hq
  have k1 := kk.1
  have m1 := hm.1
  refine ⟨⟨by omega, by omega⟩, fun p l e R s m args below meth c H locs ls Q g n0 z0 C h1 h2 h3 h4 hend hL hH hS => ?_⟩
  obtain ⟨a, hrun⟩ := h p l e R s m args below meth c H locs ls (w.length - n0) (mSz w - z0) g C hL hH hS (by omega) (by omega)
  intro T hT Xs
  obtain ⟨v, st₀, t, T', L', h0, X', hL', e1, e2, ⟨hv, hH1, hz, hk⟩, stp⟩ := hrun T hT Xs
  cases hv
  rw [h0] at hz hk
  rw [show w.length - n0 + (w1.length - w.length) = w1.length - n0 by omega, show mSz w - z0 + (mSz w1 - mSz w) = mSz w1 - z0 by omega] at X'
  have hS' : va_S (fun q => g.1 ≤ q) s.heap T'.heap (locs ++ L') := ⟨Nat.le_trans hS.1 (by rw [e1]; exact hz), fun x g1 g2 => by rw [e1, hk x (Nat.lt_of_lt_of_le g1 hS.1) g2]; exact hS.2.1 x g1 g2, fun x hx => by
    rcases List.mem_append.mp hx with z | z
    · exact hS.2.2 x z
    · exact hL' x z⟩
  have hW := kk.2 p l e R s m args below meth c T'.heap (locs ++ L') ls Q g n0 z0 C (by omega) (by omega) h3 h4 hend hL (by rw [e1]; exact hH1) hS'
  obtain ⟨t2, a1, b1⟩ := hW T' rfl X'
  refine ⟨t2, stp t2 ?_, b1⟩
  have e : (r1.map (mt g)).toList ++ rest.map (mt g) = (r1.toList ++ rest).map (mt g) := by cases r1 <;> simp
  rw [e]
  exact a1
/-- what every call of M1 with n arguments asks of the tables -/
def mCal (M1 : mM) (n : Nat) : Prop := Cond.code M1.1 M1.2.1 M1.2.2.1 M1.2.2.2 ∈ mWS ∧ Cond.initialized M1.1.cls ∈ mWS ∧ (M1.1.cls ≠ "java/lang/invoke/MethodHandle" ∧ M1.1.cls ≠ "java/lang/invoke/VarHandle" ∧ (parseMethodDescriptor M1.1.desc).map (fun d => d.parameters.length) = some n) ∧ M1.2.2.1 ≤ 18
theorem mRoom {R : Room} {mc ms : Nat} (h : d1 + 1 ≤ d) (hR : d ≤ R.frames ∧ 37 * d ≤ R.locals) (hml : M1.2.2.1 ≤ 18) : (mRm d1 mc ms).frames + 1 ≤ R.frames ∧ 8 + (M1.2.2.1 + 11) + (mRm d1 mc ms).locals ≤ R.locals := by
  have := hR.1
  have := hR.2
  exact ⟨by show d1 + 1 ≤ _; omega, by show _ + 37 * d1 ≤ _; omega⟩
theorem mSum {g : mG} (h : (rest.map mcat).sum ≤ 8) : ((rest.map (mt g)).map fun v => v.category).sum ≤ 8 := by
  rw [List.map_map, show ((fun v : Value => v.category) ∘ mt g) = mcat from funext fun v => mt_cat g v]
  exact h
theorem ev_invV {as : List mV} {o ci n idx : Nat} {fs : List mV} {T : u_T} {N : Nat} (hd : decode M.2.1 pc = .ok (.invokevirtual idx, 3)) (hq : pc + 3 = q) (hl : Cond.methodLink M.1.cls idx M1.1 ∈ mWS) (hcal : mCal M1 n) (hin : Cond.instanceMethod M1.1 ∈ mWS) (hsel : Cond.selects M1.1.cls M1.1 M1.1 ∈ mWS) (hdd : d1 + 1 ≤ d)
    (hst : st = as.reverse ++ vr (some o) :: rest) (hn : as.length = n) (hrs : (rest.map mcat).sum ≤ 8) (hw : w[o]? = some (.inl (ci, fs))) (hc : vwCl[ci]? = some (M1.1.cls, T, N)) (hm : mMet M1 d1 (vr (some o) :: as) w r1 w1) (kk : mEv X M d r w' q L (r1.toList ++ rest) w1) : mEv X M d r w' pc L st w := by
  subst hst
  refine ev_run hm hq kk fun p l e R s m args below meth c H locs ls cells slots g C hL hH hS hc1 hs1 => ⟨_, va_runV (As := as.map (mt g)) (b := g.1 + o) (Ts := mWS) ⟨C.1, C.2.1, C.2.2.1, C.2.2.2.1, C.2.2.2.2.1⟩ (hm.2 l g X) ⟨callB_of n C.2.2.2.2.1 (mGood hcal.1) rfl rfl rfl (C.2.2.2.2.1 _ hcal.2.1) (C.2.2.2.2.1 _ hl) hcal.2.2.1 (mRoom hdd C.2.2.2.2.2.2.1 hcal.2.2.2), C.2.2.2.2.1 _ hin, C.2.2.2.2.1 _ hsel⟩ ⟨mPre_blind, va_recv C.2.2.2.2.2.1.1.1 hH.2 hc (mR_get hw), fun U hU hW => ⟨rfl, by rw [hU]; exact hH, C.2.2.2.2.2.1.call hS hU hW⟩⟩ rfl (by rw [List.length_map]; exact hn) hL.1 (by rw [List.map_append, List.map_reverse]; rfl) (lv_room (mSum hrs)) hd ⟨hc1, hs1⟩⟩
theorem ev_invS {as : List mV} {n idx : Nat} (hd : decode M.2.1 pc = .ok (.invokestatic idx, 3)) (hq : pc + 3 = q) (hl : Cond.methodLink M.1.cls idx M1.1 ∈ mWS) (hcal : mCal M1 n) (hsta : Cond.static M1.1 ∈ mWS) (hdd : d1 + 1 ≤ d)
    (hst : st = as.reverse ++ rest) (hn : as.length = n) (hrs : (rest.map mcat).sum ≤ 8) (hm : mMet M1 d1 as w r1 w1) (kk : mEv X M d r w' q L (r1.toList ++ rest) w1) : mEv X M d r w' pc L st w := by
  subst hst
  refine ev_run hm hq kk fun p l e R s m args below meth c H locs ls cells slots g C hL hH hS hc1 hs1 => ⟨_, va_runS (As := as.map (mt g)) (Ts := mWS) ⟨C.1, C.2.1, C.2.2.1, C.2.2.2.1, C.2.2.2.2.1⟩ (hm.2 l g X) ⟨callB_of n C.2.2.2.2.1 (mGood hcal.1) rfl rfl rfl (C.2.2.2.2.1 _ hcal.2.1) (C.2.2.2.2.1 _ hl) hcal.2.2.1 (mRoom hdd C.2.2.2.2.2.2.1 hcal.2.2.2), C.2.2.2.2.1 _ hsta⟩ ⟨mPre_blind, fun U hU hW => ⟨rfl, by rw [hU]; exact hH, C.2.2.2.2.2.1.call hS hU hW⟩⟩ rfl (by rw [List.length_map]; exact hn) hL.1 (by rw [List.map_append, List.map_reverse]) (lv_room (mSum hrs)) hd ⟨hc1, hs1⟩⟩
theorem ev_invI {as : List mV} {o n idx : Nat} (hd : decode M.2.1 pc = .ok (.invokespecial idx, 3)) (hq : pc + 3 = q) (hl : Cond.methodLink M.1.cls idx M1.1 ∈ mWS) (hcal : mCal M1 n) (hin : Cond.instanceMethod M1.1 ∈ mWS) (hini : M1.1.name = "<init>") (hnone : M1.2.2.2 = none) (hdd : d1 + 1 ≤ d)
    (hst : st = as.reverse ++ vr (some o) :: rest) (hn : as.length = n) (hrs : (rest.map mcat).sum ≤ 8) (hm : mMet M1 d1 (vr (some o) :: as) w r1 w1) (kk : mEv X M d r w' q L (r1.toList ++ rest) w1) : mEv X M d r w' pc L st w := by
  subst hst
  obtain ⟨y1, b1, n1, rt⟩ := M1
  cases hnone
  refine ev_run hm hq kk fun p l e R s m args below meth c H locs ls cells slots g C hL hH hS hc1 hs1 => ⟨_, va_runI (As := as.map (mt g)) (b := g.1 + o) (Ts := mWS) ⟨C.1, C.2.1, C.2.2.1, C.2.2.2.1, C.2.2.2.2.1⟩ (hm.2 l g X) ⟨callB_of n C.2.2.2.2.1 (mGood hcal.1) rfl rfl rfl (C.2.2.2.2.1 _ hcal.2.1) (C.2.2.2.2.1 _ hl) hcal.2.2.1 (mRoom (M1 := (y1, b1, n1, none)) hdd C.2.2.2.2.2.2.1 hcal.2.2.2), hini, C.2.2.2.2.1 _ hin⟩ ⟨mPre_blind, fun U hU hW => ⟨rfl, by rw [hU]; exact hH, C.2.2.2.2.2.1.call hS hU hW⟩⟩ rfl (by rw [List.length_map]; exact hn) hL.1 (by rw [List.map_append, List.map_reverse]; rfl) (lv_room (mSum hrs)) hd ⟨hc1, hs1⟩⟩
/-- the same, of a nest mate's private method -/
theorem mCN {R : Room} {s : State} {args : Array Value} {own host : String} {idx n mc ms : Nat} (hts : ∀ w ∈ mWS, w.before args s = true) (hl : va_Nw (.methodLinkNest own idx M1.1 host) s) (hcal : mCal M1 n) (hdd : d1 + 1 ≤ d) (hR : d ≤ R.frames ∧ 37 * d ≤ R.locals) : va_CN R s args own idx M1.1 host M1.2.1 M1.2.2.1 M1.2.2.2 (mWs M1) (mRm d1 mc ms) mc ms n :=
  va_cnB n hts (mGood hcal.1) rfl rfl rfl hl (hts _ hcal.2.1) hcal.2.2.1 (mRoom hdd hR hcal.2.2.2)
theorem ev_invVN {as : List mV} {o ci n idx : Nat} {host : String} {fs : List mV} {T : u_T} {N : Nat} (hd : decode M.2.1 pc = .ok (.invokevirtual idx, 3)) (hq : pc + 3 = q) (hl : Cond.methodLinkNest M.1.cls idx M1.1 host ∈ mNw) (hcal : mCal M1 n) (hin : Cond.instanceMethod M1.1 ∈ mWS) (hsel : Cond.selects M1.1.cls M1.1 M1.1 ∈ mWS) (hdd : d1 + 1 ≤ d)
    (hst : st = as.reverse ++ vr (some o) :: rest) (hn : as.length = n) (hrs : (rest.map mcat).sum ≤ 8) (hw : w[o]? = some (.inl (ci, fs))) (hc : vwCl[ci]? = some (M1.1.cls, T, N)) (hm : mMet M1 d1 (vr (some o) :: as) w r1 w1) (kk : mEv X M d r w' q L (r1.toList ++ rest) w1) : mEv X M d r w' pc L st w := by
  subst hst
  refine ev_run hm hq kk fun p l e R s m args below meth c H locs ls cells slots g C hL hH hS hc1 hs1 => ⟨_, va_runVN (As := as.map (mt g)) (b := g.1 + o) (Ts := mWS) ⟨C.1, C.2.1, C.2.2.1, C.2.2.2.1, C.2.2.2.2.1⟩ (hm.2 l g X) ⟨mCN C.2.2.2.2.1 (C.2.2.2.2.2.1.2.2.2.2 _ hl) hcal hdd C.2.2.2.2.2.2.1, C.2.2.2.2.1 _ hin, C.2.2.2.2.1 _ hsel⟩ ⟨mPre_blind, va_recv C.2.2.2.2.2.1.1.1 hH.2 hc (mR_get hw), fun U hU hW => ⟨rfl, by rw [hU]; exact hH, C.2.2.2.2.2.1.call hS hU hW⟩⟩ rfl (by rw [List.length_map]; exact hn) hL.1 (by rw [List.map_append, List.map_reverse]; rfl) (lv_room (mSum hrs)) hd ⟨hc1, hs1⟩⟩
theorem ev_invSN {as : List mV} {n idx : Nat} {host : String} (hd : decode M.2.1 pc = .ok (.invokestatic idx, 3)) (hq : pc + 3 = q) (hl : Cond.methodLinkNest M.1.cls idx M1.1 host ∈ mNw) (hcal : mCal M1 n) (hsta : Cond.static M1.1 ∈ mWS) (hdd : d1 + 1 ≤ d)
    (hst : st = as.reverse ++ rest) (hn : as.length = n) (hrs : (rest.map mcat).sum ≤ 8) (hm : mMet M1 d1 as w r1 w1) (kk : mEv X M d r w' q L (r1.toList ++ rest) w1) : mEv X M d r w' pc L st w := by
  subst hst
  refine ev_run hm hq kk fun p l e R s m args below meth c H locs ls cells slots g C hL hH hS hc1 hs1 => ⟨_, va_runSN (As := as.map (mt g)) (Ts := mWS) ⟨C.1, C.2.1, C.2.2.1, C.2.2.2.1, C.2.2.2.2.1⟩ (hm.2 l g X) ⟨mCN C.2.2.2.2.1 (C.2.2.2.2.2.1.2.2.2.2 _ hl) hcal hdd C.2.2.2.2.2.2.1, C.2.2.2.2.1 _ hsta, trivial⟩ ⟨mPre_blind, fun U hU hW => ⟨rfl, by rw [hU]; exact hH, C.2.2.2.2.2.1.call hS hU hW⟩⟩ rfl (by rw [List.length_map]; exact hn) hL.1 (by rw [List.map_append, List.map_reverse]) (lv_room (mSum hrs)) hd ⟨hc1, hs1⟩⟩
theorem ev_invIN {as : List mV} {o n idx : Nat} {host : String} (hd : decode M.2.1 pc = .ok (.invokespecial idx, 3)) (hq : pc + 3 = q) (hl : Cond.methodLinkNest M.1.cls idx M1.1 host ∈ mNw) (hcal : mCal M1 n) (hin : Cond.instanceMethod M1.1 ∈ mWS) (hini : M1.1.name = "<init>") (hnone : M1.2.2.2 = none) (hdd : d1 + 1 ≤ d)
    (hst : st = as.reverse ++ vr (some o) :: rest) (hn : as.length = n) (hrs : (rest.map mcat).sum ≤ 8) (hm : mMet M1 d1 (vr (some o) :: as) w r1 w1) (kk : mEv X M d r w' q L (r1.toList ++ rest) w1) : mEv X M d r w' pc L st w := by
  subst hst
  obtain ⟨y1, b1, n1, rt⟩ := M1
  cases hnone
  refine ev_run hm hq kk fun p l e R s m args below meth c H locs ls cells slots g C hL hH hS hc1 hs1 => ⟨_, va_runIN (As := as.map (mt g)) (b := g.1 + o) (Ts := mWS) ⟨C.1, C.2.1, C.2.2.1, C.2.2.2.1, C.2.2.2.2.1⟩ (hm.2 l g X) ⟨mCN (M1 := (y1, b1, n1, none)) C.2.2.2.2.1 (C.2.2.2.2.2.1.2.2.2.2 _ hl) hcal hdd C.2.2.2.2.2.2.1, hini, C.2.2.2.2.1 _ hin⟩ ⟨mPre_blind, fun U hU hW => ⟨rfl, by rw [hU]; exact hH, C.2.2.2.2.2.1.call hS hU hW⟩⟩ rfl (by rw [List.length_map]; exact hn) hL.1 (by rw [List.map_append, List.map_reverse]; rfl) (lv_room (mSum hrs)) hd ⟨hc1, hs1⟩⟩
/-- a method that the receiver's class overrides -/
theorem ev_invO {as : List mV} {o ci n idx : Nat} {x : MethodName} {b0 : ByteArray} {m0 : Nat} {r0 : Option FieldType} {fs : List mV} {C1 : String} {T : u_T} {N : Nat} (hd : decode M.2.1 pc = .ok (.invokevirtual idx, 3)) (hq : pc + 3 = q) (hl : Cond.methodLink M.1.cls idx x ∈ mWS) (hsm : Cond.sameMethod x.cls x.cls x.name x.desc ∈ mWS) (hix : Cond.instanceMethod x ∈ mWS) (hcx : Cond.code x b0 m0 r0 ∈ mWS) (hsel : Cond.selects C1 x M1.1 ∈ mWS) (hcal : mCal M1 n) (hin : Cond.instanceMethod M1.1 ∈ mWS) (hdx : x.cls ≠ "java/lang/invoke/MethodHandle" ∧ x.cls ≠ "java/lang/invoke/VarHandle" ∧ (parseMethodDescriptor x.desc).map (fun d => d.parameters.length) = some n) (hdd : d1 + 1 ≤ d)
    (hst : st = as.reverse ++ vr (some o) :: rest) (hn : as.length = n) (hrs : (rest.map mcat).sum ≤ 8) (hw : w[o]? = some (.inl (ci, fs))) (hc : vwCl[ci]? = some (C1, T, N)) (hm : mMet M1 d1 (vr (some o) :: as) w r1 w1) (kk : mEv X M d r w' q L (r1.toList ++ rest) w1) : mEv X M d r w' pc L st w := by
  subst hst
  refine ev_run hm hq kk fun p l e R s m args below meth c H locs ls cells slots g C hL hH hS hc1 hs1 => ⟨_, va_runU (As := as.map (mt g)) (b := g.1 + o) (C := C1) (Ts := mWS) ⟨C.1, C.2.1, C.2.2.1, C.2.2.2.1, C.2.2.2.2.1⟩ (hm.2 l g X) (va_cwO (owner := x.cls) n C.2.2.2.2.1 ?_ rfl rfl rfl hcx hdx (mRoom hdd C.2.2.2.2.2.2.1 hcal.2.2.2)) ⟨mPre_blind, va_recv C.2.2.2.2.2.1.1.1 hH.2 hc (mR_get hw), fun U hU hW => ⟨rfl, by rw [hU]; exact hH, C.2.2.2.2.2.1.call hS hU hW⟩⟩ rfl (by rw [List.length_map]; exact hn) hL.1 (by rw [List.map_append, List.map_reverse]; rfl) (lv_room (mSum hrs)) hd ⟨hc1, hs1⟩⟩
  intro z hz
  unfold va_wsO at hz
  rcases List.mem_append.mp hz with hz | hz
  · have hm : z ∈ mWS := by
      simp only [List.mem_cons, List.not_mem_nil, or_false] at hz
      rcases hz with rfl | rfl | rfl | rfl | rfl | rfl
      · exact hl
      · exact hsm
      · exact hix
      · exact hsel
      · exact hin
      · exact hcal.2.1
    exact ⟨hm, good_of_word (List.mem_filter.mp hm).2⟩
  · exact mGood hcal.1 z hz
/-- super.y(..) -/
theorem ev_invSu {as : List mV} {o ci n idx : Nat} {fs : List mV} {C1 : String} {T : u_T} {N : Nat} (hd : decode M.2.1 pc = .ok (.invokespecial idx, 3)) (hq : pc + 3 = q) (hl : Cond.methodLink M.1.cls idx M1.1 ∈ mWS) (hsm : Cond.sameMethod M1.1.cls M1.1.cls M1.1.name M1.1.desc ∈ mWS) (hsu : Cond.superclass M.1.cls M1.1.cls ∈ mWS) (hcal : mCal M1 n) (hin : Cond.instanceMethod M1.1 ∈ mWS) (hne : M1.1.name ≠ "<init>") (hdd : d1 + 1 ≤ d)
    (hst : st = as.reverse ++ vr (some o) :: rest) (hn : as.length = n) (hrs : (rest.map mcat).sum ≤ 8) (hw : w[o]? = some (.inl (ci, fs))) (hc : vwCl[ci]? = some (C1, T, N)) (hm : mMet M1 d1 (vr (some o) :: as) w r1 w1) (kk : mEv X M d r w' q L (r1.toList ++ rest) w1) : mEv X M d r w' pc L st w := by
  subst hst
  refine ev_run hm hq kk fun p l e R s m args below meth c H locs ls cells slots g C hL hH hS hc1 hs1 => ⟨_, va_runSU (As := as.map (mt g)) (b := g.1 + o) (C := C1) (Ts := mWS) (C.2.2.2.2.2.1.1.1.1 ci _ hc).2 ⟨C.1, C.2.1, C.2.2.1, C.2.2.2.1, C.2.2.2.2.1⟩ (hm.2 l g X) (va_cwSU n C.2.2.2.2.1 ?_ rfl rfl rfl ⟨hne, hcal.2.2.1.2.2⟩ (mRoom hdd C.2.2.2.2.2.2.1 hcal.2.2.2)) ⟨mPre_blind, va_recv C.2.2.2.2.2.1.1.1 hH.2 hc (mR_get hw), fun U hU hW => ⟨rfl, by rw [hU]; exact hH, C.2.2.2.2.2.1.call hS hU hW⟩⟩ rfl (by rw [List.length_map]; exact hn) hL.1 (by rw [List.map_append, List.map_reverse]; rfl) (lv_room (mSum hrs)) hd ⟨hc1, hs1⟩⟩
  intro z hz
  unfold va_wsSU at hz
  rcases List.mem_append.mp hz with hz | hz
  · have hm : z ∈ mWS := by
      simp only [List.mem_cons, List.not_mem_nil, or_false] at hz
      rcases hz with rfl | rfl | rfl | rfl | rfl
      · exact hl
      · exact hsm
      · exact hsu
      · exact hin
      · exact hcal.2.1
    exact ⟨hm, good_of_word (List.mem_filter.mp hm).2⟩
  · exact mGood hcal.1 z hz
/-- Object.<init> -/
theorem ev_obj {o idx : Nat} (hd : decode M.2.1 pc = .ok (.invokespecial idx, 3)) (hq : pc + 3 = q) (hl : Cond.methodLink M.1.cls idx Lib.objectInit ∈ mWS) (hin : Cond.instanceMethod Lib.objectInit ∈ mWS) (hco : Cond.code Lib.objectInit ⟨#[0xb1]⟩ 1 none ∈ mWS) (hdd : 1 ≤ d) (hrs : (rest.map mcat).sum ≤ 8) (kk : mEv X M d r w' q L rest w) : mEv X M d r w' pc L (vr (some o) :: rest) w := by
  subst hq
  refine ev_pure kk fun p l e R s m args below meth c H locs ls Q cells slots g C hL hH hS hc1 hs K => ?_
  have h8 : 2 * (F0 m pc ls ((vr (some o) :: rest).map (mt g))).monitorRoom + ((rest.map (mt g)).map fun v => v.category).sum ≤ 8 := lv_room (mSum hrs)
  refine W.objInit C.1 C.2.1 C.2.2.2.1 (C.2.2.2.2.1 _ hl) (C.2.2.2.2.1 _ hin) (C.2.2.2.2.1 _ hco) rfl (hL.1.trans C.2.2.1.symm) rfl hd (by have := C.2.2.2.2.2.2.1.1; omega) (by have := C.2.2.2.2.2.2.1.2; omega) K
-- Math
theorem ev_mabs {idx : Nat} {x : Int32} (hd : decode M.2.1 pc = .ok (.invokestatic idx, 3)) (hq : pc + 3 = q) (hl : Cond.methodLink M.1.cls idx Lib.Math.abs.name ∈ mWS) (hsta : Cond.static Lib.Math.abs.name ∈ mWS) (hini : Cond.initialized "java/lang/Math" ∈ mWS) (hco : Cond.code Lib.Math.abs.name Lib.Math.abs.code 1 (some .int) ∈ mWS) (hdd : 1 ≤ d) (hrs : (rest.map mcat).sum ≤ 8) (kk : mEv X M d r w' q L (vi (if 0 ≤ x then x else 0 - x) :: rest) w) : mEv X M d r w' pc L (vi x :: rest) w := by
  subst hq
  exact ev_pure kk fun p l e R s m args below meth c H locs ls Q cells slots g C hL hH hS hc1 hs K => va_mabs C.1 C.2.1 (C.2.2.1.trans hL.1.symm) C.2.2.2.1 (C.2.2.2.2.1 _ hl) (C.2.2.2.2.1 _ hsta) (C.2.2.2.2.1 _ hini) (C.2.2.2.2.1 _ hco) (by have := C.2.2.2.2.2.2.1.1; omega) (by have := C.2.2.2.2.2.2.1.2; have := mSum (g := g) hrs; omega) hc1 hs hd K
theorem ev_mmax {idx : Nat} {x y : Int32} (hd : decode M.2.1 pc = .ok (.invokestatic idx, 3)) (hq : pc + 3 = q) (hl : Cond.methodLink M.1.cls idx Lib.Math.max.name ∈ mWS) (hsta : Cond.static Lib.Math.max.name ∈ mWS) (hini : Cond.initialized "java/lang/Math" ∈ mWS) (hco : Cond.code Lib.Math.max.name Lib.Math.max.code 2 (some .int) ∈ mWS) (hdd : 1 ≤ d) (hrs : (rest.map mcat).sum ≤ 8) (kk : mEv X M d r w' q L (vi (if x < y then y else x) :: rest) w) : mEv X M d r w' pc L (vi y :: vi x :: rest) w := by
  subst hq
  exact ev_pure kk fun p l e R s m args below meth c H locs ls Q cells slots g C hL hH hS hc1 hs K => va_mmax C.1 C.2.1 (C.2.2.1.trans hL.1.symm) C.2.2.2.1 (C.2.2.2.2.1 _ hl) (C.2.2.2.2.1 _ hsta) (C.2.2.2.2.1 _ hini) (C.2.2.2.2.1 _ hco) (by have := C.2.2.2.2.2.2.1.1; omega) (by have := C.2.2.2.2.2.2.1.2; have := mSum (g := g) hrs; omega) hc1 hs hd K
theorem ev_mmin {idx : Nat} {x y : Int32} (hd : decode M.2.1 pc = .ok (.invokestatic idx, 3)) (hq : pc + 3 = q) (hl : Cond.methodLink M.1.cls idx Lib.Math.min.name ∈ mWS) (hsta : Cond.static Lib.Math.min.name ∈ mWS) (hini : Cond.initialized "java/lang/Math" ∈ mWS) (hco : Cond.code Lib.Math.min.name Lib.Math.min.code 2 (some .int) ∈ mWS) (hdd : 1 ≤ d) (hrs : (rest.map mcat).sum ≤ 8) (kk : mEv X M d r w' q L (vi (if y < x then y else x) :: rest) w) : mEv X M d r w' pc L (vi y :: vi x :: rest) w := by
  subst hq
  exact ev_pure kk fun p l e R s m args below meth c H locs ls Q cells slots g C hL hH hS hc1 hs K => va_mmin C.1 C.2.1 (C.2.2.1.trans hL.1.symm) C.2.2.2.1 (C.2.2.2.2.1 _ hl) (C.2.2.2.2.1 _ hsta) (C.2.2.2.2.1 _ hini) (C.2.2.2.2.1 _ hco) (by have := C.2.2.2.2.2.2.1.1; omega) (by have := C.2.2.2.2.2.2.1.2; have := mSum (g := g) hrs; omega) hc1 hs hd K
-- instanceof
theorem ev_instN {idx : Nat} (hd : decode M.2.1 pc = .ok (.instanceof idx, 3)) (hq : pc + 3 = q) (kk : mEv X M d r w' q L (vi 0 :: st) w) : mEv X M d r w' pc L (vr none :: st) w := by
  subst hq
  exact ev_pure kk fun p l e R s m args below meth c H locs ls Q cells slots g C hL hH hS hc1 hs K => lv_instN C.1 C.2.1 hd K
theorem ev_inst1 {idx o ci : Nat} {fs : List mV} {C1 C2 : String} {T : u_T} {N : Nat} (hd : decode M.2.1 pc = .ok (.instanceof idx, 3)) (hq : pc + 3 = q) (hl : Cond.classLink M.1.cls idx C2 ∈ mWS) (hw : w[o]? = some (.inl (ci, fs))) (hc : vwCl[ci]? = some (C1, T, N)) (hca : Cond.castable C1 C2 ∈ mNw ∨ C1 = C2) (kk : mEv X M d r w' q L (vi 1 :: st) w) : mEv X M d r w' pc L (vr (some o) :: st) w := by
  subst hq
  refine ev_pure kk fun p l e R s m args below meth c H locs ls Q cells slots g C hL hH hS hc1 hs K => ?_
  rcases hca with hca | rfl
  · exact va_instY C.1 C.2.1 C.2.2.2.1 (C.2.2.2.2.1 _ hl) (C.2.2.2.2.2.1.2.2.2.2 _ hca) (va_recv C.2.2.2.2.2.1.1.1 hH.2 hc (mR_get hw)) hd K
  · exact va_instS C.1 C.2.1 C.2.2.2.1 (C.2.2.2.2.1 _ hl) (C.2.2.2.2.2.1.1.1.1 ci _ hc).2 (va_recv C.2.2.2.2.2.1.1.1 hH.2 hc (mR_get hw)) hd K
theorem ev_inst0 {idx o ci : Nat} {fs : List mV} {C1 C2 : String} {T : u_T} {N : Nat} (hd : decode M.2.1 pc = .ok (.instanceof idx, 3)) (hq : pc + 3 = q) (hl : Cond.classLink M.1.cls idx C2 ∈ mWS) (hw : w[o]? = some (.inl (ci, fs))) (hc : vwCl[ci]? = some (C1, T, N)) (hca : (C1, C2) ∈ mNc) (kk : mEv X M d r w' q L (vi 0 :: st) w) : mEv X M d r w' pc L (vr (some o) :: st) w := by
  subst hq
  exact ev_pure kk fun p l e R s m args below meth c H locs ls Q cells slots g C hL hH hS hc1 hs K => va_instNo C.1 C.2.1 C.2.2.2.1 (C.2.2.2.2.1 _ hl) (C.2.2.2.2.2.1.1.2.1 _ hca) (va_recv C.2.2.2.2.2.1.1.1 hH.2 hc (mR_get hw)) hd K
-- the script
theorem ev_slen (hd : decode M.2.1 pc = .ok (.arraylength, 1)) (hq : pc + 1 = q) (kk : mEv X M d r w' q L (vi (Int32.ofNat X.1) :: st) w) : mEv X M d r w' pc L (vx 0 :: st) w := by
  subst hq
  exact ev_pure kk fun p l e R s m args below meth c H locs ls Q cells slots g C hL hH hS hc1 hs K => va_slen C.1 C.2.1 C.2.2.2.2.2.1.2.2.1.1 (Nat.lt_of_lt_of_le C.2.2.2.2.2.1.2.2.1.2.1 C.2.2.2.2.2.1.2.2.1.2.2) (Nat.not_le.mpr C.2.2.2.2.2.1.2.2.1.2.1) hS hd K
theorem ev_sld {i : Int32} (hd : decode M.2.1 pc = .ok (.iaload, 1)) (hq : pc + 1 = q) (hi : vp_in i X.1) (kk : mEv X M d r w' q L (vi (X.2 i.toNatClampNeg) :: st) w) : mEv X M d r w' pc L (vi i :: vx 0 :: st) w := by
  subst hq
  exact ev_pure kk fun p l e R s m args below meth c H locs ls Q cells slots g C hL hH hS hc1 hs K => va_sld C.1 C.2.1 C.2.2.2.2.2.1.2.2.1.1 (Nat.lt_of_lt_of_le C.2.2.2.2.2.1.2.2.1.2.1 C.2.2.2.2.2.1.2.2.1.2.2) (Nat.not_le.mpr C.2.2.2.2.2.1.2.2.1.2.1) hS hi hd K
-- the string
theorem ev_ldcS (hcls : M.1.cls = "PancakePort$Reading") (hd : decode M.2.1 pc = .ok (.ldc 82, 2)) (hq : pc + 2 = q) (kk : mEv X M d r w' q L (vx 1 :: st) w) : mEv X M d r w' pc L st w := by
  subst hq
  exact ev_pure kk fun p l e R s m args below meth c H locs ls Q cells slots g C hL hH hS hc1 hs K => va_ldcS C.1 C.2.1 (own := "PancakePort$Reading") (by rw [← hcls]; exact C.2.2.2.1) C.2.2.2.2.2.1.2.2.2.1 hd K
theorem ev_coder {idx : Nat} (hd : decode M.2.1 pc = .ok (.getfield idx, 3)) (hq : pc + 3 = q) (hl : Cond.fieldLink M.1.cls idx "java/lang/String" "coder" "B" ∈ mWS) (kk : mEv X M d r w' q L (vi 0 :: st) w) : mEv X M d r w' pc L (vx 1 :: st) w := by
  subst hq
  exact ev_pure kk fun p l e R s m args below meth c H locs ls Q cells slots g C hL hH hS hc1 hs K => vk_getf C.1 C.2.1 (C.2.2.2.2.2.1.2.1.1.1 0 (by decide)).2.1 hS C.2.2.2.1 (C.2.2.2.2.1 _ hl) (fun _ h => h) hd K
theorem ev_value {idx : Nat} (hd : decode M.2.1 pc = .ok (.getfield idx, 3)) (hq : pc + 3 = q) (hl : Cond.fieldLink M.1.cls idx "java/lang/String" "value" "[B" ∈ mWS) (kk : mEv X M d r w' q L (vx 2 :: st) w) : mEv X M d r w' pc L (vx 1 :: st) w := by
  subst hq
  exact ev_pure kk fun p l e R s m args below meth c H locs ls Q cells slots g C hL hH hS hc1 hs K => vk_getf C.1 C.2.1 (C.2.2.2.2.2.1.2.1.1.1 0 (by decide)).2.2.1 hS C.2.2.2.1 (C.2.2.2.2.1 _ hl) (fun _ h => h) hd K
theorem ev_compact {idx : Nat} (hd : decode M.2.1 pc = .ok (.getstatic idx, 3)) (hq : pc + 3 = q) (hl : Cond.fieldLink M.1.cls idx "java/lang/String" "COMPACT_STRINGS" "Z" ∈ mWS) (kk : mEv X M d r w' q L (vi 1 :: st) w) : mEv X M d r w' pc L st w := by
  subst hq
  exact ev_pure kk fun p l e R s m args below meth c H locs ls Q cells slots g C hL hH hS hc1 hs K => va_gets C.1 C.2.1 C.2.2.2.2.2.1.2.1.2 hS C.2.2.2.1 (C.2.2.2.2.1 _ hl) (fun _ h => h) hd K
theorem ev_blen (hd : decode M.2.1 pc = .ok (.arraylength, 1)) (hq : pc + 1 = q) (kk : mEv X M d r w' q L (vi 5 :: st) w) : mEv X M d r w' pc L (vx 2 :: st) w := by
  subst hq
  exact ev_pure kk fun p l e R s m args below meth c H locs ls Q cells slots g C hL hH hS hc1 hs K => va_tlen C.1 C.2.1 (C.2.2.2.2.2.1.2.1.1.1 0 (by decide)).2.2.2 hS rfl hd K
theorem ev_bld {i v : Int32} (hd : decode M.2.1 pc = .ok (.baload, 1)) (hq : pc + 1 = q) (hi : vp_in i 5) (hv : ([116, 108, 119, 104, 109] : List Int32).getD i.toNatClampNeg 0 = v) (kk : mEv X M d r w' q L (vi v :: st) w) : mEv X M d r w' pc L (vi i :: vx 2 :: st) w := by
  subst hq
  subst hv
  exact ev_pure kk fun p l e R s m args below meth c H locs ls Q cells slots g C hL hH hS hc1 hs K => va_tb C.1 C.2.1 (C.2.2.2.2.2.1.2.1.1.1 0 (by decide)).2.2.2 hS hi rfl hd K
/-- a method of the string, called on it -/
theorem ev_invStr {as : List mV} {n idx : Nat} (hd : decode M.2.1 pc = .ok (.invokevirtual idx, 3)) (hq : pc + 3 = q) (hl : Cond.methodLink M.1.cls idx M1.1 ∈ mWS) (hcls : M1.1.cls = "java/lang/String") (hcal : mCal M1 n) (hin : Cond.instanceMethod M1.1 ∈ mWS) (hsel : Cond.selects M1.1.cls M1.1 M1.1 ∈ mWS) (hdd : d1 + 1 ≤ d)
    (hst : st = as.reverse ++ vx 1 :: rest) (hn : as.length = n) (hrs : (rest.map mcat).sum ≤ 8) (hm : mMet M1 d1 (vx 1 :: as) w r1 w1) (kk : mEv X M d r w' q L (r1.toList ++ rest) w1) : mEv X M d r w' pc L st w := by
  subst hst
  refine ev_run hm hq kk fun p l e R s m args below meth c H locs ls cells slots g C hL hH hS hc1 hs1 => ⟨_, va_runV (As := as.map (mt g)) (b := g.2.1 1) (Ts := mWS) (C := M1.1.cls) ⟨C.1, C.2.1, C.2.2.1, C.2.2.2.1, C.2.2.2.2.1⟩ (hm.2 l g X) ⟨callB_of n C.2.2.2.2.1 (mGood hcal.1) rfl rfl rfl (C.2.2.2.2.1 _ hcal.2.1) (C.2.2.2.2.1 _ hl) hcal.2.2.1 (mRoom hdd C.2.2.2.2.2.2.1 hcal.2.2.2), C.2.2.2.2.1 _ hin, C.2.2.2.2.1 _ hsel⟩ ⟨mPre_blind, by rw [hcls]; exact vk_recv C.2.2.2.2.2.1.2.1.1 (i := 0) (by decide) hS, fun U hU hW => ⟨rfl, by rw [hU]; exact hH, C.2.2.2.2.2.1.call hS hU hW⟩⟩ rfl (by rw [List.length_map]; exact hn) hL.1 (by rw [List.map_append, List.map_reverse]; rfl) (lv_room (mSum hrs)) hd ⟨hc1, hs1⟩⟩
end EV3
end
section
set_option maxRecDepth 100000 in
theorem tw_0 : (Jvm.Cond.selects "PancakePort$Reading" ({ cls := "PancakePort$Reading", name := "takes", desc := "(I)Z" } : Jvm.MethodName) ({ cls := "PancakePort$Reading", name := "takes", desc := "(I)Z" } : Jvm.MethodName)) ∈ mWS := List.mem_filter.mpr ⟨List.mem_of_getElem? (i := 0) (by rfl), by rfl⟩
set_option maxRecDepth 100000 in
theorem tw_1 : (Jvm.Cond.selects "PancakePort$Reading" ({ cls := "PancakePort$Reading", name := "takesRow", desc := "(I)Z" } : Jvm.MethodName) ({ cls := "PancakePort$Reading", name := "takesRow", desc := "(I)Z" } : Jvm.MethodName)) ∈ mWS := List.mem_filter.mpr ⟨List.mem_of_getElem? (i := 1) (by rfl), by rfl⟩
set_option maxRecDepth 100000 in
theorem tw_2 : (Jvm.Cond.selects "PancakePort$Reading" ({ cls := "PancakePort$Reading", name := "takesColumn", desc := "(I)Z" } : Jvm.MethodName) ({ cls := "PancakePort$Reading", name := "takesColumn", desc := "(I)Z" } : Jvm.MethodName)) ∈ mWS := List.mem_filter.mpr ⟨List.mem_of_getElem? (i := 2) (by rfl), by rfl⟩
set_option maxRecDepth 100000 in
theorem tw_3 : (Jvm.Cond.selects "PancakePort$Reading" ({ cls := "PancakePort$Reading", name := "takesAfterSleeper", desc := "(I)Z" } : Jvm.MethodName) ({ cls := "PancakePort$Reading", name := "takesAfterSleeper", desc := "(I)Z" } : Jvm.MethodName)) ∈ mWS := List.mem_filter.mpr ⟨List.mem_of_getElem? (i := 3) (by rfl), by rfl⟩
set_option maxRecDepth 100000 in
theorem tw_4 : (Jvm.Cond.selects "PancakePort$Reading" ({ cls := "PancakePort$Reading", name := "takesKind", desc := "(I)Z" } : Jvm.MethodName) ({ cls := "PancakePort$Reading", name := "takesKind", desc := "(I)Z" } : Jvm.MethodName)) ∈ mWS := List.mem_filter.mpr ⟨List.mem_of_getElem? (i := 4) (by rfl), by rfl⟩
set_option maxRecDepth 100000 in
theorem tw_5 : (Jvm.Cond.selects "PancakePort$Reading" ({ cls := "PancakePort$Reading", name := "takesSouth", desc := "(I)Z" } : Jvm.MethodName) ({ cls := "PancakePort$Reading", name := "takesSouth", desc := "(I)Z" } : Jvm.MethodName)) ∈ mWS := List.mem_filter.mpr ⟨List.mem_of_getElem? (i := 5) (by rfl), by rfl⟩
set_option maxRecDepth 100000 in
theorem tw_6 : (Jvm.Cond.selects "PancakePort$Reading" ({ cls := "PancakePort$Reading", name := "takesEast", desc := "(I)Z" } : Jvm.MethodName) ({ cls := "PancakePort$Reading", name := "takesEast", desc := "(I)Z" } : Jvm.MethodName)) ∈ mWS := List.mem_filter.mpr ⟨List.mem_of_getElem? (i := 6) (by rfl), by rfl⟩
set_option maxRecDepth 100000 in
theorem tw_7 : (Jvm.Cond.selects "PancakePort$Reading" ({ cls := "PancakePort$Reading", name := "takesAfterTosser", desc := "(I)Z" } : Jvm.MethodName) ({ cls := "PancakePort$Reading", name := "takesAfterTosser", desc := "(I)Z" } : Jvm.MethodName)) ∈ mWS := List.mem_filter.mpr ⟨List.mem_of_getElem? (i := 7) (by rfl), by rfl⟩
set_option maxRecDepth 100000 in
theorem tw_8 : (Jvm.Cond.selects "PancakePort" ({ cls := "PancakePort", name := "settle", desc := "()V" } : Jvm.MethodName) ({ cls := "PancakePort", name := "settle", desc := "()V" } : Jvm.MethodName)) ∈ mWS := List.mem_filter.mpr ⟨List.mem_of_getElem? (i := 8) (by rfl), by rfl⟩
set_option maxRecDepth 100000 in
theorem tw_9 : (Jvm.Cond.selects "PancakePort" ({ cls := "PancakePort", name := "isSleeper", desc := "(I)Z" } : Jvm.MethodName) ({ cls := "PancakePort", name := "isSleeper", desc := "(I)Z" } : Jvm.MethodName)) ∈ mWS := List.mem_filter.mpr ⟨List.mem_of_getElem? (i := 9) (by rfl), by rfl⟩
set_option maxRecDepth 100000 in
theorem tw_10 : (Jvm.Cond.selects "PancakePort" ({ cls := "PancakePort", name := "bestPlaceFor", desc := "(I)I" } : Jvm.MethodName) ({ cls := "PancakePort", name := "bestPlaceFor", desc := "(I)I" } : Jvm.MethodName)) ∈ mWS := List.mem_filter.mpr ⟨List.mem_of_getElem? (i := 10) (by rfl), by rfl⟩
set_option maxRecDepth 100000 in
theorem tw_11 : (Jvm.Cond.selects "PancakePort" ({ cls := "PancakePort", name := "countChances", desc := "()V" } : Jvm.MethodName) ({ cls := "PancakePort", name := "countChances", desc := "()V" } : Jvm.MethodName)) ∈ mWS := List.mem_filter.mpr ⟨List.mem_of_getElem? (i := 11) (by rfl), by rfl⟩
set_option maxRecDepth 100000 in
theorem tw_12 : (Jvm.Cond.selects "PancakePort" ({ cls := "PancakePort", name := "tosserAt", desc := "(I)LPancakePort$Tosser;" } : Jvm.MethodName) ({ cls := "PancakePort", name := "tosserAt", desc := "(I)LPancakePort$Tosser;" } : Jvm.MethodName)) ∈ mWS := List.mem_filter.mpr ⟨List.mem_of_getElem? (i := 12) (by rfl), by rfl⟩
set_option maxRecDepth 100000 in
theorem tw_13 : (Jvm.Cond.selects "PancakePort" ({ cls := "PancakePort", name := "landing", desc := "(III)I" } : Jvm.MethodName) ({ cls := "PancakePort", name := "landing", desc := "(III)I" } : Jvm.MethodName)) ∈ mWS := List.mem_filter.mpr ⟨List.mem_of_getElem? (i := 13) (by rfl), by rfl⟩
set_option maxRecDepth 100000 in
theorem tw_14 : (Jvm.Cond.selects "PancakePort" ({ cls := "PancakePort", name := "addChances", desc := "(LPancakePort$Tosser;I)V" } : Jvm.MethodName) ({ cls := "PancakePort", name := "addChances", desc := "(LPancakePort$Tosser;I)V" } : Jvm.MethodName)) ∈ mWS := List.mem_filter.mpr ⟨List.mem_of_getElem? (i := 14) (by rfl), by rfl⟩
set_option maxRecDepth 100000 in
theorem tw_15 : (Jvm.Cond.selects "PancakePort" ({ cls := "PancakePort", name := "isTakenByAnother", desc := "(II)Z" } : Jvm.MethodName) ({ cls := "PancakePort", name := "isTakenByAnother", desc := "(II)Z" } : Jvm.MethodName)) ∈ mWS := List.mem_filter.mpr ⟨List.mem_of_getElem? (i := 15) (by rfl), by rfl⟩
set_option maxRecDepth 100000 in
theorem tw_16 : (Jvm.Cond.selects "PancakePort" ({ cls := "PancakePort", name := "bestAimOf", desc := "(I)I" } : Jvm.MethodName) ({ cls := "PancakePort", name := "bestAimOf", desc := "(I)I" } : Jvm.MethodName)) ∈ mWS := List.mem_filter.mpr ⟨List.mem_of_getElem? (i := 16) (by rfl), by rfl⟩
set_option maxRecDepth 100000 in
theorem tw_17 : (Jvm.Cond.selects "PancakePort" ({ cls := "PancakePort", name := "freshOf", desc := "(II)I" } : Jvm.MethodName) ({ cls := "PancakePort", name := "freshOf", desc := "(II)I" } : Jvm.MethodName)) ∈ mWS := List.mem_filter.mpr ⟨List.mem_of_getElem? (i := 17) (by rfl), by rfl⟩
set_option maxRecDepth 100000 in
theorem tw_18 : (Jvm.Cond.selects "PancakePort" ({ cls := "PancakePort", name := "crowdUnder", desc := "(III)I" } : Jvm.MethodName) ({ cls := "PancakePort", name := "crowdUnder", desc := "(III)I" } : Jvm.MethodName)) ∈ mWS := List.mem_filter.mpr ⟨List.mem_of_getElem? (i := 18) (by rfl), by rfl⟩
set_option maxRecDepth 100000 in
theorem tw_19 : (Jvm.Cond.selects "PancakePort$Seen" ({ cls := "PancakePort$Seen", name := "allows", desc := "(II)Z" } : Jvm.MethodName) ({ cls := "PancakePort$Seen", name := "allows", desc := "(II)Z" } : Jvm.MethodName)) ∈ mWS := List.mem_filter.mpr ⟨List.mem_of_getElem? (i := 19) (by rfl), by rfl⟩
set_option maxRecDepth 100000 in
theorem tw_20 : (Jvm.Cond.selects "PancakePort" ({ cls := "PancakePort", name := "isToss", desc := "(II)Z" } : Jvm.MethodName) ({ cls := "PancakePort", name := "isToss", desc := "(II)Z" } : Jvm.MethodName)) ∈ mWS := List.mem_filter.mpr ⟨List.mem_of_getElem? (i := 20) (by rfl), by rfl⟩
set_option maxRecDepth 100000 in
theorem tw_21 : (Jvm.Cond.selects "PancakePort" ({ cls := "PancakePort", name := "isCell", desc := "(I)Z" } : Jvm.MethodName) ({ cls := "PancakePort", name := "isCell", desc := "(I)Z" } : Jvm.MethodName)) ∈ mWS := List.mem_filter.mpr ⟨List.mem_of_getElem? (i := 21) (by rfl), by rfl⟩
set_option maxRecDepth 100000 in
theorem tw_22 : (Jvm.Cond.selects "PancakePort" ({ cls := "PancakePort", name := "hasPort", desc := "()Z" } : Jvm.MethodName) ({ cls := "PancakePort", name := "hasPort", desc := "()Z" } : Jvm.MethodName)) ∈ mWS := List.mem_filter.mpr ⟨List.mem_of_getElem? (i := 22) (by rfl), by rfl⟩
set_option maxRecDepth 100000 in
theorem tw_23 : (Jvm.Cond.selects "PancakePort" ({ cls := "PancakePort", name := "everybody", desc := "()I" } : Jvm.MethodName) ({ cls := "PancakePort", name := "everybody", desc := "()I" } : Jvm.MethodName)) ∈ mWS := List.mem_filter.mpr ⟨List.mem_of_getElem? (i := 23) (by rfl), by rfl⟩
set_option maxRecDepth 100000 in
theorem tw_24 : (Jvm.Cond.selects "PancakePort" ({ cls := "PancakePort", name := "planFor", desc := "(I)V" } : Jvm.MethodName) ({ cls := "PancakePort", name := "planFor", desc := "(I)V" } : Jvm.MethodName)) ∈ mWS := List.mem_filter.mpr ⟨List.mem_of_getElem? (i := 24) (by rfl), by rfl⟩
set_option maxRecDepth 100000 in
theorem tw_25 : (Jvm.Cond.selects "PancakePort$Plan" ({ cls := "PancakePort$Plan", name := "leastPrice", desc := "(I)I" } : Jvm.MethodName) ({ cls := "PancakePort$Plan", name := "leastPrice", desc := "(I)I" } : Jvm.MethodName)) ∈ mWS := List.mem_filter.mpr ⟨List.mem_of_getElem? (i := 25) (by rfl), by rfl⟩
set_option maxRecDepth 100000 in
theorem tw_26 : (Jvm.Cond.selects "PancakePort$Plan" ({ cls := "PancakePort$Plan", name := "choose", desc := "(I)V" } : Jvm.MethodName) ({ cls := "PancakePort$Plan", name := "choose", desc := "(I)V" } : Jvm.MethodName)) ∈ mWS := List.mem_filter.mpr ⟨List.mem_of_getElem? (i := 26) (by rfl), by rfl⟩
set_option maxRecDepth 100000 in
theorem tw_27 : (Jvm.Cond.selects "PancakePort$Plan" ({ cls := "PancakePort$Plan", name := "firstFor", desc := "(I)I" } : Jvm.MethodName) ({ cls := "PancakePort$Plan", name := "firstFor", desc := "(I)I" } : Jvm.MethodName)) ∈ mWS := List.mem_filter.mpr ⟨List.mem_of_getElem? (i := 27) (by rfl), by rfl⟩
set_option maxRecDepth 100000 in
theorem tw_28 : (Jvm.Cond.selects "PancakePort" ({ cls := "PancakePort", name := "canLandAt", desc := "(II)Z" } : Jvm.MethodName) ({ cls := "PancakePort", name := "canLandAt", desc := "(II)Z" } : Jvm.MethodName)) ∈ mWS := List.mem_filter.mpr ⟨List.mem_of_getElem? (i := 28) (by rfl), by rfl⟩
set_option maxRecDepth 100000 in
theorem tw_29 : (Jvm.Cond.selects "PancakePort" ({ cls := "PancakePort", name := "digestOfPlans", desc := "(J)J" } : Jvm.MethodName) ({ cls := "PancakePort", name := "digestOfPlans", desc := "(J)J" } : Jvm.MethodName)) ∈ mWS := List.mem_filter.mpr ⟨List.mem_of_getElem? (i := 29) (by rfl), by rfl⟩
set_option maxRecDepth 100000 in
theorem tw_30 : (Jvm.Cond.selects "PancakePortModel" ({ cls := "PancakePortModel", name := "faultOf", desc := "()I" } : Jvm.MethodName) ({ cls := "PancakePortModel", name := "faultOf", desc := "()I" } : Jvm.MethodName)) ∈ mWS := List.mem_filter.mpr ⟨List.mem_of_getElem? (i := 30) (by rfl), by rfl⟩
set_option maxRecDepth 100000 in
theorem tw_31 : (Jvm.Cond.selects "PancakePortModel" ({ cls := "PancakePortModel", name := "isSleeperLetter", desc := "(I)Z" } : Jvm.MethodName) ({ cls := "PancakePortModel", name := "isSleeperLetter", desc := "(I)Z" } : Jvm.MethodName)) ∈ mWS := List.mem_filter.mpr ⟨List.mem_of_getElem? (i := 31) (by rfl), by rfl⟩
set_option maxRecDepth 100000 in
theorem tw_32 : (Jvm.Cond.selects "PancakePortModel" ({ cls := "PancakePortModel", name := "isNew", desc := "(I)Z" } : Jvm.MethodName) ({ cls := "PancakePortModel", name := "isNew", desc := "(I)Z" } : Jvm.MethodName)) ∈ mWS := List.mem_filter.mpr ⟨List.mem_of_getElem? (i := 32) (by rfl), by rfl⟩
set_option maxRecDepth 100000 in
theorem tw_33 : (Jvm.Cond.selects "PancakePortModel" ({ cls := "PancakePortModel", name := "cellAt", desc := "(I)I" } : Jvm.MethodName) ({ cls := "PancakePortModel", name := "cellAt", desc := "(I)I" } : Jvm.MethodName)) ∈ mWS := List.mem_filter.mpr ⟨List.mem_of_getElem? (i := 33) (by rfl), by rfl⟩
set_option maxRecDepth 100000 in
theorem tw_34 : (Jvm.Cond.selects "PancakePortModel" ({ cls := "PancakePortModel", name := "isTosserLetter", desc := "(I)Z" } : Jvm.MethodName) ({ cls := "PancakePortModel", name := "isTosserLetter", desc := "(I)Z" } : Jvm.MethodName)) ∈ mWS := List.mem_filter.mpr ⟨List.mem_of_getElem? (i := 34) (by rfl), by rfl⟩
set_option maxRecDepth 100000 in
theorem tw_35 : (Jvm.Cond.selects "PancakePortModel" ({ cls := "PancakePortModel", name := "isTosser", desc := "(I)Z" } : Jvm.MethodName) ({ cls := "PancakePortModel", name := "isTosser", desc := "(I)Z" } : Jvm.MethodName)) ∈ mWS := List.mem_filter.mpr ⟨List.mem_of_getElem? (i := 35) (by rfl), by rfl⟩
set_option maxRecDepth 100000 in
theorem tw_36 : (Jvm.Cond.selects "PancakePortModel" ({ cls := "PancakePortModel", name := "landsBy", desc := "(III)I" } : Jvm.MethodName) ({ cls := "PancakePortModel", name := "landsBy", desc := "(III)I" } : Jvm.MethodName)) ∈ mWS := List.mem_filter.mpr ⟨List.mem_of_getElem? (i := 36) (by rfl), by rfl⟩
set_option maxRecDepth 100000 in
theorem tw_37 : (Jvm.Cond.selects "PancakePortModel" ({ cls := "PancakePortModel", name := "coversOf", desc := "(III)I" } : Jvm.MethodName) ({ cls := "PancakePortModel", name := "coversOf", desc := "(III)I" } : Jvm.MethodName)) ∈ mWS := List.mem_filter.mpr ⟨List.mem_of_getElem? (i := 37) (by rfl), by rfl⟩
set_option maxRecDepth 100000 in
theorem tw_38 : (Jvm.Cond.selects "PancakePortModel" ({ cls := "PancakePortModel", name := "coversCell", desc := "(IIII)Z" } : Jvm.MethodName) ({ cls := "PancakePortModel", name := "coversCell", desc := "(IIII)Z" } : Jvm.MethodName)) ∈ mWS := List.mem_filter.mpr ⟨List.mem_of_getElem? (i := 38) (by rfl), by rfl⟩
set_option maxRecDepth 100000 in
theorem tw_39 : (Jvm.Cond.selects "PancakePortModel" ({ cls := "PancakePortModel", name := "isSleeper", desc := "(I)Z" } : Jvm.MethodName) ({ cls := "PancakePortModel", name := "isSleeper", desc := "(I)Z" } : Jvm.MethodName)) ∈ mWS := List.mem_filter.mpr ⟨List.mem_of_getElem? (i := 39) (by rfl), by rfl⟩
set_option maxRecDepth 100000 in
theorem tw_40 : (Jvm.Cond.selects "PancakePortModel" ({ cls := "PancakePortModel", name := "tellSleeper", desc := "(II)I" } : Jvm.MethodName) ({ cls := "PancakePortModel", name := "tellSleeper", desc := "(II)I" } : Jvm.MethodName)) ∈ mWS := List.mem_filter.mpr ⟨List.mem_of_getElem? (i := 40) (by rfl), by rfl⟩
set_option maxRecDepth 100000 in
theorem tw_41 : (Jvm.Cond.selects "PancakePortModel" ({ cls := "PancakePortModel", name := "lieOf", desc := "(I)I" } : Jvm.MethodName) ({ cls := "PancakePortModel", name := "lieOf", desc := "(I)I" } : Jvm.MethodName)) ∈ mWS := List.mem_filter.mpr ⟨List.mem_of_getElem? (i := 41) (by rfl), by rfl⟩
set_option maxRecDepth 100000 in
theorem tw_42 : (Jvm.Cond.selects "PancakePortModel" ({ cls := "PancakePortModel", name := "isFreeFor", desc := "(II)Z" } : Jvm.MethodName) ({ cls := "PancakePortModel", name := "isFreeFor", desc := "(II)Z" } : Jvm.MethodName)) ∈ mWS := List.mem_filter.mpr ⟨List.mem_of_getElem? (i := 42) (by rfl), by rfl⟩
set_option maxRecDepth 100000 in
theorem tw_43 : (Jvm.Cond.selects "PancakePortModel" ({ cls := "PancakePortModel", name := "tossesOver", desc := "(I)I" } : Jvm.MethodName) ({ cls := "PancakePortModel", name := "tossesOver", desc := "(I)I" } : Jvm.MethodName)) ∈ mWS := List.mem_filter.mpr ⟨List.mem_of_getElem? (i := 43) (by rfl), by rfl⟩
set_option maxRecDepth 100000 in
theorem tw_44 : (Jvm.Cond.selects "PancakePortModel" ({ cls := "PancakePortModel", name := "tellTosser", desc := "(II)I" } : Jvm.MethodName) ({ cls := "PancakePortModel", name := "tellTosser", desc := "(II)I" } : Jvm.MethodName)) ∈ mWS := List.mem_filter.mpr ⟨List.mem_of_getElem? (i := 44) (by rfl), by rfl⟩
set_option maxRecDepth 100000 in
theorem tw_45 : (Jvm.Cond.selects "PancakePortModel" ({ cls := "PancakePortModel", name := "mostOf", desc := "(II)I" } : Jvm.MethodName) ({ cls := "PancakePortModel", name := "mostOf", desc := "(II)I" } : Jvm.MethodName)) ∈ mWS := List.mem_filter.mpr ⟨List.mem_of_getElem? (i := 45) (by rfl), by rfl⟩
set_option maxRecDepth 100000 in
theorem tw_46 : (Jvm.Cond.selects "PancakePortModel" ({ cls := "PancakePortModel", name := "open", desc := "()I" } : Jvm.MethodName) ({ cls := "PancakePortModel", name := "open", desc := "()I" } : Jvm.MethodName)) ∈ mWS := List.mem_filter.mpr ⟨List.mem_of_getElem? (i := 46) (by rfl), by rfl⟩
set_option maxRecDepth 100000 in
theorem tw_47 : (Jvm.Cond.selects "PancakePortModel" ({ cls := "PancakePortModel", name := "turnsOf", desc := "(I)I" } : Jvm.MethodName) ({ cls := "PancakePortModel", name := "turnsOf", desc := "(I)I" } : Jvm.MethodName)) ∈ mWS := List.mem_filter.mpr ⟨List.mem_of_getElem? (i := 47) (by rfl), by rfl⟩
set_option maxRecDepth 100000 in
theorem tw_48 : (Jvm.Cond.selects "PancakePortModel" ({ cls := "PancakePortModel", name := "aimOf", desc := "(I)I" } : Jvm.MethodName) ({ cls := "PancakePortModel", name := "aimOf", desc := "(I)I" } : Jvm.MethodName)) ∈ mWS := List.mem_filter.mpr ⟨List.mem_of_getElem? (i := 48) (by rfl), by rfl⟩
set_option maxRecDepth 100000 in
theorem tw_49 : (Jvm.Cond.selects "PancakePortModel" ({ cls := "PancakePortModel", name := "lacks", desc := "()Z" } : Jvm.MethodName) ({ cls := "PancakePortModel", name := "lacks", desc := "()Z" } : Jvm.MethodName)) ∈ mWS := List.mem_filter.mpr ⟨List.mem_of_getElem? (i := 49) (by rfl), by rfl⟩
set_option maxRecDepth 100000 in
theorem tw_50 : (Jvm.Cond.selects "PancakePortModel" ({ cls := "PancakePortModel", name := "allOf", desc := "(I)I" } : Jvm.MethodName) ({ cls := "PancakePortModel", name := "allOf", desc := "(I)I" } : Jvm.MethodName)) ∈ mWS := List.mem_filter.mpr ⟨List.mem_of_getElem? (i := 50) (by rfl), by rfl⟩
set_option maxRecDepth 100000 in
theorem tw_51 : (Jvm.Cond.selects "PancakePortModel" ({ cls := "PancakePortModel", name := "layLeast", desc := "()V" } : Jvm.MethodName) ({ cls := "PancakePortModel", name := "layLeast", desc := "()V" } : Jvm.MethodName)) ∈ mWS := List.mem_filter.mpr ⟨List.mem_of_getElem? (i := 51) (by rfl), by rfl⟩
set_option maxRecDepth 100000 in
theorem tw_52 : (Jvm.Cond.selects "PancakePortModel" ({ cls := "PancakePortModel", name := "priceOf", desc := "(I)I" } : Jvm.MethodName) ({ cls := "PancakePortModel", name := "priceOf", desc := "(I)I" } : Jvm.MethodName)) ∈ mWS := List.mem_filter.mpr ⟨List.mem_of_getElem? (i := 52) (by rfl), by rfl⟩
set_option maxRecDepth 100000 in
theorem tw_53 : (Jvm.Cond.selects "PancakePortModel" ({ cls := "PancakePortModel", name := "layRow", desc := "(I)V" } : Jvm.MethodName) ({ cls := "PancakePortModel", name := "layRow", desc := "(I)V" } : Jvm.MethodName)) ∈ mWS := List.mem_filter.mpr ⟨List.mem_of_getElem? (i := 53) (by rfl), by rfl⟩
set_option maxRecDepth 100000 in
theorem tw_54 : (Jvm.Cond.selects "PancakePortModel" ({ cls := "PancakePortModel", name := "nightsOf", desc := "()I" } : Jvm.MethodName) ({ cls := "PancakePortModel", name := "nightsOf", desc := "()I" } : Jvm.MethodName)) ∈ mWS := List.mem_filter.mpr ⟨List.mem_of_getElem? (i := 54) (by rfl), by rfl⟩
set_option maxRecDepth 100000 in
theorem tw_55 : (Jvm.Cond.selects "PancakePortModel" ({ cls := "PancakePortModel", name := "whoOf", desc := "(I)I" } : Jvm.MethodName) ({ cls := "PancakePortModel", name := "whoOf", desc := "(I)I" } : Jvm.MethodName)) ∈ mWS := List.mem_filter.mpr ⟨List.mem_of_getElem? (i := 55) (by rfl), by rfl⟩
set_option maxRecDepth 100000 in
theorem tw_56 : (Jvm.Cond.selects "PancakePortModel" ({ cls := "PancakePortModel", name := "draw", desc := "(I)I" } : Jvm.MethodName) ({ cls := "PancakePortModel", name := "draw", desc := "(I)I" } : Jvm.MethodName)) ∈ mWS := List.mem_filter.mpr ⟨List.mem_of_getElem? (i := 56) (by rfl), by rfl⟩
set_option maxRecDepth 100000 in
theorem tw_57 : (Jvm.Cond.selects "PancakePortModel" ({ cls := "PancakePortModel", name := "countOf", desc := "(I)I" } : Jvm.MethodName) ({ cls := "PancakePortModel", name := "countOf", desc := "(I)I" } : Jvm.MethodName)) ∈ mWS := List.mem_filter.mpr ⟨List.mem_of_getElem? (i := 57) (by rfl), by rfl⟩
set_option maxRecDepth 100000 in
theorem tw_58 : (Jvm.Cond.selects "PancakePortModel" ({ cls := "PancakePortModel", name := "sumOf", desc := "([I)I" } : Jvm.MethodName) ({ cls := "PancakePortModel", name := "sumOf", desc := "([I)I" } : Jvm.MethodName)) ∈ mWS := List.mem_filter.mpr ⟨List.mem_of_getElem? (i := 58) (by rfl), by rfl⟩
set_option maxRecDepth 100000 in
theorem tw_59 : (Jvm.Cond.selects "PancakePortModel" ({ cls := "PancakePortModel", name := "say", desc := "(J)V" } : Jvm.MethodName) ({ cls := "PancakePortModel", name := "say", desc := "(J)V" } : Jvm.MethodName)) ∈ mWS := List.mem_filter.mpr ⟨List.mem_of_getElem? (i := 59) (by rfl), by rfl⟩
set_option maxRecDepth 100000 in
theorem tw_60 : (Jvm.Cond.selects "PancakePortModel" ({ cls := "PancakePortModel", name := "sayTosser", desc := "(I)V" } : Jvm.MethodName) ({ cls := "PancakePortModel", name := "sayTosser", desc := "(I)V" } : Jvm.MethodName)) ∈ mWS := List.mem_filter.mpr ⟨List.mem_of_getElem? (i := 60) (by rfl), by rfl⟩
set_option maxRecDepth 100000 in
theorem tw_61 : (Jvm.Cond.selects "PancakePortModel" ({ cls := "PancakePortModel", name := "sayPort", desc := "()V" } : Jvm.MethodName) ({ cls := "PancakePortModel", name := "sayPort", desc := "()V" } : Jvm.MethodName)) ∈ mWS := List.mem_filter.mpr ⟨List.mem_of_getElem? (i := 61) (by rfl), by rfl⟩
set_option maxRecDepth 100000 in
theorem tw_62 : (Jvm.Cond.initialized "PancakePortLaw") ∈ mWS := List.mem_filter.mpr ⟨List.mem_of_getElem? (i := 62) (by rfl), by rfl⟩
set_option maxRecDepth 100000 in
theorem tw_63 : (Jvm.Cond.initialized "PancakePort") ∈ mWS := List.mem_filter.mpr ⟨List.mem_of_getElem? (i := 63) (by rfl), by rfl⟩
set_option maxRecDepth 100000 in
theorem tw_64 : (Jvm.Cond.initialized "PancakePort$Page") ∈ mWS := List.mem_filter.mpr ⟨List.mem_of_getElem? (i := 64) (by rfl), by rfl⟩
set_option maxRecDepth 100000 in
theorem tw_65 : (Jvm.Cond.initialized "PancakePort$Reading") ∈ mWS := List.mem_filter.mpr ⟨List.mem_of_getElem? (i := 65) (by rfl), by rfl⟩
set_option maxRecDepth 100000 in
theorem tw_66 : (Jvm.Cond.initialized "PancakePort$Night") ∈ mWS := List.mem_filter.mpr ⟨List.mem_of_getElem? (i := 66) (by rfl), by rfl⟩
set_option maxRecDepth 100000 in
theorem tw_67 : (Jvm.Cond.initialized "PancakePort$Seen") ∈ mWS := List.mem_filter.mpr ⟨List.mem_of_getElem? (i := 67) (by rfl), by rfl⟩
set_option maxRecDepth 100000 in
theorem tw_68 : (Jvm.Cond.initialized "PancakePort$Plan") ∈ mWS := List.mem_filter.mpr ⟨List.mem_of_getElem? (i := 68) (by rfl), by rfl⟩
set_option maxRecDepth 100000 in
theorem tw_69 : (Jvm.Cond.initialized "PancakePortModel") ∈ mWS := List.mem_filter.mpr ⟨List.mem_of_getElem? (i := 69) (by rfl), by rfl⟩
set_option maxRecDepth 100000 in
theorem tw_70 : (Jvm.Cond.initialized "java/lang/String") ∈ mWS := List.mem_filter.mpr ⟨List.mem_of_getElem? (i := 70) (by rfl), by rfl⟩
set_option maxRecDepth 100000 in
theorem tw_71 : (Jvm.Cond.initialized "java/lang/StringLatin1") ∈ mWS := List.mem_filter.mpr ⟨List.mem_of_getElem? (i := 71) (by rfl), by rfl⟩
set_option maxRecDepth 100000 in
theorem tw_72 : (Jvm.Cond.initialized "java/lang/Math") ∈ mWS := List.mem_filter.mpr ⟨List.mem_of_getElem? (i := 72) (by rfl), by rfl⟩
set_option maxRecDepth 100000 in
theorem tw_73 : (Jvm.Cond.initialized "java/lang/StringUTF16") ∈ mWS := List.mem_filter.mpr ⟨List.mem_of_getElem? (i := 73) (by rfl), by rfl⟩
set_option maxRecDepth 100000 in
theorem tw_74 : (Jvm.Cond.initialized "jdk/internal/util/Preconditions") ∈ mWS := List.mem_filter.mpr ⟨List.mem_of_getElem? (i := 74) (by rfl), by rfl⟩
set_option maxRecDepth 100000 in
theorem tw_75 : (Jvm.Cond.initialized "java/lang/Character") ∈ mWS := List.mem_filter.mpr ⟨List.mem_of_getElem? (i := 75) (by rfl), by rfl⟩
set_option maxRecDepth 100000 in
theorem tw_76 : (Jvm.Cond.initialized "PancakePort$Tosser") ∈ mWS := List.mem_filter.mpr ⟨List.mem_of_getElem? (i := 76) (by rfl), by rfl⟩
set_option maxRecDepth 100000 in
theorem tw_77 : (Jvm.Cond.initialized "PancakePort$Lacy") ∈ mWS := List.mem_filter.mpr ⟨List.mem_of_getElem? (i := 77) (by rfl), by rfl⟩
set_option maxRecDepth 100000 in
theorem tw_78 : (Jvm.Cond.initialized "PancakePort$Wide") ∈ mWS := List.mem_filter.mpr ⟨List.mem_of_getElem? (i := 78) (by rfl), by rfl⟩
set_option maxRecDepth 100000 in
theorem tw_79 : (Jvm.Cond.initialized "PancakePort$Thrifty") ∈ mWS := List.mem_filter.mpr ⟨List.mem_of_getElem? (i := 79) (by rfl), by rfl⟩
set_option maxRecDepth 100000 in
theorem tw_80 : (Jvm.Cond.initialized "PancakePort$Mayor") ∈ mWS := List.mem_filter.mpr ⟨List.mem_of_getElem? (i := 80) (by rfl), by rfl⟩
set_option maxRecDepth 100000 in
theorem tw_81 : (Jvm.Cond.initialized "java/lang/Integer") ∈ mWS := List.mem_filter.mpr ⟨List.mem_of_getElem? (i := 81) (by rfl), by rfl⟩
set_option maxRecDepth 100000 in
theorem tw_82 : (Jvm.Cond.classLink "PancakePortLaw" (7 : Nat) "PancakePort") ∈ mWS := List.mem_filter.mpr ⟨List.mem_of_getElem? (i := 82) (by rfl), by rfl⟩
set_option maxRecDepth 100000 in
theorem tw_83 : (Jvm.Cond.instantiable "PancakePort" (11 : Nat)) ∈ mWS := List.mem_filter.mpr ⟨List.mem_of_getElem? (i := 83) (by rfl), by rfl⟩
set_option maxRecDepth 100000 in
theorem tw_84 : (Jvm.Cond.methodLink "PancakePortLaw" (9 : Nat) ({ cls := "PancakePort", name := "<init>", desc := "()V" } : Jvm.MethodName)) ∈ mWS := List.mem_filter.mpr ⟨List.mem_of_getElem? (i := 84) (by rfl), by rfl⟩
set_option maxRecDepth 100000 in
theorem tw_85 : (Jvm.Cond.instanceMethod ({ cls := "PancakePort", name := "<init>", desc := "()V" } : Jvm.MethodName)) ∈ mWS := List.mem_filter.mpr ⟨List.mem_of_getElem? (i := 85) (by rfl), by rfl⟩
set_option maxRecDepth 100000 in
theorem tw_86 : (Jvm.Cond.code ({ cls := "PancakePort", name := "<init>", desc := "()V" } : Jvm.MethodName) prog_1_method_1_code (1 : Nat) (Option.none : Option Jvm.ClassFile.FieldType)) ∈ mWS := List.mem_filter.mpr ⟨List.mem_of_getElem? (i := 86) (by rfl), by rfl⟩
set_option maxRecDepth 100000 in
theorem tw_87 : (Jvm.Cond.methodLink "PancakePort" (1 : Nat) ({ cls := "java/lang/Object", name := "<init>", desc := "()V" } : Jvm.MethodName)) ∈ mWS := List.mem_filter.mpr ⟨List.mem_of_getElem? (i := 87) (by rfl), by rfl⟩
set_option maxRecDepth 100000 in
theorem tw_88 : (Jvm.Cond.instanceMethod ({ cls := "java/lang/Object", name := "<init>", desc := "()V" } : Jvm.MethodName)) ∈ mWS := List.mem_filter.mpr ⟨List.mem_of_getElem? (i := 88) (by rfl), by rfl⟩
set_option maxRecDepth 100000 in
theorem tw_89 : (Jvm.Cond.code ({ cls := "java/lang/Object", name := "<init>", desc := "()V" } : Jvm.MethodName) object_method_1_code (1 : Nat) (Option.none : Option Jvm.ClassFile.FieldType)) ∈ mWS := List.mem_filter.mpr ⟨List.mem_of_getElem? (i := 89) (by rfl), by rfl⟩
set_option maxRecDepth 100000 in
theorem tw_90 : (Jvm.Cond.classLink "PancakePort" (7 : Nat) "PancakePort$Page") ∈ mWS := List.mem_filter.mpr ⟨List.mem_of_getElem? (i := 90) (by rfl), by rfl⟩
set_option maxRecDepth 100000 in
theorem tw_91 : (Jvm.Cond.instantiable "PancakePort$Page" (2 : Nat)) ∈ mWS := List.mem_filter.mpr ⟨List.mem_of_getElem? (i := 91) (by rfl), by rfl⟩
set_option maxRecDepth 100000 in
theorem tw_92 : (Jvm.Cond.methodLinkNest "PancakePort" (9 : Nat) ({ cls := "PancakePort$Page", name := "<init>", desc := "()V" } : Jvm.MethodName) "PancakePort") ∈ mNw := List.mem_filter.mpr ⟨List.mem_of_getElem? (i := 92) (by rfl), by rfl⟩
set_option maxRecDepth 100000 in
theorem tw_93 : (Jvm.Cond.instanceMethod ({ cls := "PancakePort$Page", name := "<init>", desc := "()V" } : Jvm.MethodName)) ∈ mWS := List.mem_filter.mpr ⟨List.mem_of_getElem? (i := 93) (by rfl), by rfl⟩
set_option maxRecDepth 100000 in
theorem tw_94 : (Jvm.Cond.code ({ cls := "PancakePort$Page", name := "<init>", desc := "()V" } : Jvm.MethodName) prog_5_method_1_code (1 : Nat) (Option.none : Option Jvm.ClassFile.FieldType)) ∈ mWS := List.mem_filter.mpr ⟨List.mem_of_getElem? (i := 94) (by rfl), by rfl⟩
set_option maxRecDepth 100000 in
theorem tw_95 : (Jvm.Cond.methodLink "PancakePort$Page" (3 : Nat) ({ cls := "java/lang/Object", name := "<init>", desc := "()V" } : Jvm.MethodName)) ∈ mWS := List.mem_filter.mpr ⟨List.mem_of_getElem? (i := 95) (by rfl), by rfl⟩
set_option maxRecDepth 100000 in
theorem tw_96 : (Jvm.Cond.fieldLink "PancakePort$Page" (9 : Nat) "PancakePort$Page" "codes" "[I") ∈ mWS := List.mem_filter.mpr ⟨List.mem_of_getElem? (i := 96) (by rfl), by rfl⟩
set_option maxRecDepth 100000 in
theorem tw_97 : (Jvm.Cond.fieldLink "PancakePort$Reading" (39 : Nat) "PancakePort$Page" "codes" "[I") ∈ mWS := List.mem_filter.mpr ⟨List.mem_of_getElem? (i := 97) (by rfl), by rfl⟩
set_option maxRecDepth 100000 in
theorem tw_98 : (Jvm.Cond.fieldLink "PancakePort" (251 : Nat) "PancakePort$Page" "codes" "[I") ∈ mWS := List.mem_filter.mpr ⟨List.mem_of_getElem? (i := 98) (by rfl), by rfl⟩
set_option maxRecDepth 100000 in
theorem tw_99 : (Jvm.Cond.fieldLink "PancakePort$Page" (15 : Nat) "PancakePort$Page" "length" "I") ∈ mWS := List.mem_filter.mpr ⟨List.mem_of_getElem? (i := 99) (by rfl), by rfl⟩
set_option maxRecDepth 100000 in
theorem tw_100 : (Jvm.Cond.fieldLink "PancakePort" (50 : Nat) "PancakePort$Page" "length" "I") ∈ mWS := List.mem_filter.mpr ⟨List.mem_of_getElem? (i := 100) (by rfl), by rfl⟩
set_option maxRecDepth 100000 in
theorem tw_101 : (Jvm.Cond.fieldLink "PancakePort$Reading" (34 : Nat) "PancakePort$Page" "length" "I") ∈ mWS := List.mem_filter.mpr ⟨List.mem_of_getElem? (i := 101) (by rfl), by rfl⟩
set_option maxRecDepth 100000 in
theorem tw_102 : (Jvm.Cond.laysFinal "PancakePort$Page" "PancakePort$Page" "codes" "[I") ∈ mWS := List.mem_filter.mpr ⟨List.mem_of_getElem? (i := 102) (by rfl), by rfl⟩
set_option maxRecDepth 100000 in
theorem tw_104 : (Jvm.Cond.lays "PancakePort$Page" "PancakePort$Page" "length" "I") ∈ mWS := List.mem_filter.mpr ⟨List.mem_of_getElem? (i := 104) (by rfl), by rfl⟩
set_option maxRecDepth 100000 in
theorem tw_106 : (Jvm.Cond.superclass "PancakePort$Page" "java/lang/Object") ∈ mWS := List.mem_filter.mpr ⟨List.mem_of_getElem? (i := 106) (by rfl), by rfl⟩
set_option maxRecDepth 100000 in
theorem tw_107 : (Jvm.Cond.arrayClass Jvm.ClassFile.FieldType.int) ∈ mWS := List.mem_filter.mpr ⟨List.mem_of_getElem? (i := 107) (by rfl), by rfl⟩
set_option maxRecDepth 100000 in
theorem tw_108 : (Jvm.Cond.classLink "PancakePort" (16 : Nat) "PancakePort$Reading") ∈ mWS := List.mem_filter.mpr ⟨List.mem_of_getElem? (i := 108) (by rfl), by rfl⟩
set_option maxRecDepth 100000 in
theorem tw_109 : (Jvm.Cond.instantiable "PancakePort$Reading" (8 : Nat)) ∈ mWS := List.mem_filter.mpr ⟨List.mem_of_getElem? (i := 109) (by rfl), by rfl⟩
set_option maxRecDepth 100000 in
theorem tw_110 : (Jvm.Cond.methodLinkNest "PancakePort" (18 : Nat) ({ cls := "PancakePort$Reading", name := "<init>", desc := "()V" } : Jvm.MethodName) "PancakePort") ∈ mNw := List.mem_filter.mpr ⟨List.mem_of_getElem? (i := 110) (by rfl), by rfl⟩
set_option maxRecDepth 100000 in
theorem tw_111 : (Jvm.Cond.instanceMethod ({ cls := "PancakePort$Reading", name := "<init>", desc := "()V" } : Jvm.MethodName)) ∈ mWS := List.mem_filter.mpr ⟨List.mem_of_getElem? (i := 111) (by rfl), by rfl⟩
set_option maxRecDepth 100000 in
theorem tw_112 : (Jvm.Cond.code ({ cls := "PancakePort$Reading", name := "<init>", desc := "()V" } : Jvm.MethodName) prog_7_method_1_code (1 : Nat) (Option.none : Option Jvm.ClassFile.FieldType)) ∈ mWS := List.mem_filter.mpr ⟨List.mem_of_getElem? (i := 112) (by rfl), by rfl⟩
set_option maxRecDepth 100000 in
theorem tw_113 : (Jvm.Cond.methodLink "PancakePort$Reading" (3 : Nat) ({ cls := "java/lang/Object", name := "<init>", desc := "()V" } : Jvm.MethodName)) ∈ mWS := List.mem_filter.mpr ⟨List.mem_of_getElem? (i := 113) (by rfl), by rfl⟩
set_option maxRecDepth 100000 in
theorem tw_114 : (Jvm.Cond.fieldLink "PancakePort$Reading" (9 : Nat) "PancakePort$Reading" "cells" "[I") ∈ mWS := List.mem_filter.mpr ⟨List.mem_of_getElem? (i := 114) (by rfl), by rfl⟩
set_option maxRecDepth 100000 in
theorem tw_115 : (Jvm.Cond.fieldLink "PancakePort$Night" (37 : Nat) "PancakePort$Reading" "cells" "[I") ∈ mWS := List.mem_filter.mpr ⟨List.mem_of_getElem? (i := 115) (by rfl), by rfl⟩
set_option maxRecDepth 100000 in
theorem tw_116 : (Jvm.Cond.fieldLink "PancakePort$Reading" (15 : Nat) "PancakePort$Reading" "kinds" "[I") ∈ mWS := List.mem_filter.mpr ⟨List.mem_of_getElem? (i := 116) (by rfl), by rfl⟩
set_option maxRecDepth 100000 in
theorem tw_117 : (Jvm.Cond.fieldLink "PancakePort" (271 : Nat) "PancakePort$Reading" "kinds" "[I") ∈ mWS := List.mem_filter.mpr ⟨List.mem_of_getElem? (i := 117) (by rfl), by rfl⟩
set_option maxRecDepth 100000 in
theorem tw_118 : (Jvm.Cond.fieldLink "PancakePort$Reading" (18 : Nat) "PancakePort$Reading" "souths" "[I") ∈ mWS := List.mem_filter.mpr ⟨List.mem_of_getElem? (i := 118) (by rfl), by rfl⟩
set_option maxRecDepth 100000 in
theorem tw_119 : (Jvm.Cond.fieldLink "PancakePort$Night" (44 : Nat) "PancakePort$Reading" "souths" "[I") ∈ mWS := List.mem_filter.mpr ⟨List.mem_of_getElem? (i := 119) (by rfl), by rfl⟩
set_option maxRecDepth 100000 in
theorem tw_120 : (Jvm.Cond.fieldLink "PancakePort$Reading" (21 : Nat) "PancakePort$Reading" "easts" "[I") ∈ mWS := List.mem_filter.mpr ⟨List.mem_of_getElem? (i := 120) (by rfl), by rfl⟩
set_option maxRecDepth 100000 in
theorem tw_121 : (Jvm.Cond.fieldLink "PancakePort$Night" (45 : Nat) "PancakePort$Reading" "easts" "[I") ∈ mWS := List.mem_filter.mpr ⟨List.mem_of_getElem? (i := 121) (by rfl), by rfl⟩
set_option maxRecDepth 100000 in
theorem tw_122 : (Jvm.Cond.fieldLink "PancakePort$Reading" (24 : Nat) "PancakePort$Reading" "sleepers" "I") ∈ mWS := List.mem_filter.mpr ⟨List.mem_of_getElem? (i := 122) (by rfl), by rfl⟩
set_option maxRecDepth 100000 in
theorem tw_123 : (Jvm.Cond.fieldLink "PancakePort" (262 : Nat) "PancakePort$Reading" "sleepers" "I") ∈ mWS := List.mem_filter.mpr ⟨List.mem_of_getElem? (i := 123) (by rfl), by rfl⟩
set_option maxRecDepth 100000 in
theorem tw_124 : (Jvm.Cond.fieldLink "PancakePort$Reading" (28 : Nat) "PancakePort$Reading" "tossers" "I") ∈ mWS := List.mem_filter.mpr ⟨List.mem_of_getElem? (i := 124) (by rfl), by rfl⟩
set_option maxRecDepth 100000 in
theorem tw_125 : (Jvm.Cond.fieldLink "PancakePort" (265 : Nat) "PancakePort$Reading" "tossers" "I") ∈ mWS := List.mem_filter.mpr ⟨List.mem_of_getElem? (i := 125) (by rfl), by rfl⟩
set_option maxRecDepth 100000 in
theorem tw_126 : (Jvm.Cond.fieldLink "PancakePort$Reading" (71 : Nat) "PancakePort$Reading" "row" "I") ∈ mWS := List.mem_filter.mpr ⟨List.mem_of_getElem? (i := 126) (by rfl), by rfl⟩
set_option maxRecDepth 100000 in
theorem tw_127 : (Jvm.Cond.fieldLink "PancakePort$Reading" (31 : Nat) "PancakePort$Reading" "due" "I") ∈ mWS := List.mem_filter.mpr ⟨List.mem_of_getElem? (i := 127) (by rfl), by rfl⟩
set_option maxRecDepth 100000 in
theorem tw_128 : (Jvm.Cond.laysFinal "PancakePort$Reading" "PancakePort$Reading" "cells" "[I") ∈ mWS := List.mem_filter.mpr ⟨List.mem_of_getElem? (i := 128) (by rfl), by rfl⟩
set_option maxRecDepth 100000 in
theorem tw_130 : (Jvm.Cond.laysFinal "PancakePort$Reading" "PancakePort$Reading" "kinds" "[I") ∈ mWS := List.mem_filter.mpr ⟨List.mem_of_getElem? (i := 130) (by rfl), by rfl⟩
set_option maxRecDepth 100000 in
theorem tw_132 : (Jvm.Cond.laysFinal "PancakePort$Reading" "PancakePort$Reading" "souths" "[I") ∈ mWS := List.mem_filter.mpr ⟨List.mem_of_getElem? (i := 132) (by rfl), by rfl⟩
set_option maxRecDepth 100000 in
theorem tw_134 : (Jvm.Cond.laysFinal "PancakePort$Reading" "PancakePort$Reading" "easts" "[I") ∈ mWS := List.mem_filter.mpr ⟨List.mem_of_getElem? (i := 134) (by rfl), by rfl⟩
set_option maxRecDepth 100000 in
theorem tw_136 : (Jvm.Cond.lays "PancakePort$Reading" "PancakePort$Reading" "sleepers" "I") ∈ mWS := List.mem_filter.mpr ⟨List.mem_of_getElem? (i := 136) (by rfl), by rfl⟩
set_option maxRecDepth 100000 in
theorem tw_138 : (Jvm.Cond.lays "PancakePort$Reading" "PancakePort$Reading" "tossers" "I") ∈ mWS := List.mem_filter.mpr ⟨List.mem_of_getElem? (i := 138) (by rfl), by rfl⟩
set_option maxRecDepth 100000 in
theorem tw_140 : (Jvm.Cond.lays "PancakePort$Reading" "PancakePort$Reading" "row" "I") ∈ mWS := List.mem_filter.mpr ⟨List.mem_of_getElem? (i := 140) (by rfl), by rfl⟩
set_option maxRecDepth 100000 in
theorem tw_142 : (Jvm.Cond.lays "PancakePort$Reading" "PancakePort$Reading" "due" "I") ∈ mWS := List.mem_filter.mpr ⟨List.mem_of_getElem? (i := 142) (by rfl), by rfl⟩
set_option maxRecDepth 100000 in
theorem tw_144 : (Jvm.Cond.superclass "PancakePort$Reading" "java/lang/Object") ∈ mWS := List.mem_filter.mpr ⟨List.mem_of_getElem? (i := 144) (by rfl), by rfl⟩
set_option maxRecDepth 100000 in
theorem tw_145 : (Jvm.Cond.classLink "PancakePort" (23 : Nat) "PancakePort$Tosser") ∈ mWS := List.mem_filter.mpr ⟨List.mem_of_getElem? (i := 145) (by rfl), by rfl⟩
set_option maxRecDepth 100000 in
theorem tw_147 : (Jvm.Cond.classLink "PancakePort" (29 : Nat) "PancakePort$Night") ∈ mWS := List.mem_filter.mpr ⟨List.mem_of_getElem? (i := 147) (by rfl), by rfl⟩
set_option maxRecDepth 100000 in
theorem tw_148 : (Jvm.Cond.instantiable "PancakePort$Night" (12 : Nat)) ∈ mWS := List.mem_filter.mpr ⟨List.mem_of_getElem? (i := 148) (by rfl), by rfl⟩
set_option maxRecDepth 100000 in
theorem tw_149 : (Jvm.Cond.methodLinkNest "PancakePort" (31 : Nat) ({ cls := "PancakePort$Night", name := "<init>", desc := "()V" } : Jvm.MethodName) "PancakePort") ∈ mNw := List.mem_filter.mpr ⟨List.mem_of_getElem? (i := 149) (by rfl), by rfl⟩
set_option maxRecDepth 100000 in
theorem tw_150 : (Jvm.Cond.instanceMethod ({ cls := "PancakePort$Night", name := "<init>", desc := "()V" } : Jvm.MethodName)) ∈ mWS := List.mem_filter.mpr ⟨List.mem_of_getElem? (i := 150) (by rfl), by rfl⟩
set_option maxRecDepth 100000 in
theorem tw_151 : (Jvm.Cond.code ({ cls := "PancakePort$Night", name := "<init>", desc := "()V" } : Jvm.MethodName) prog_4_method_1_code (1 : Nat) (Option.none : Option Jvm.ClassFile.FieldType)) ∈ mWS := List.mem_filter.mpr ⟨List.mem_of_getElem? (i := 151) (by rfl), by rfl⟩
set_option maxRecDepth 100000 in
theorem tw_152 : (Jvm.Cond.methodLink "PancakePort$Night" (3 : Nat) ({ cls := "java/lang/Object", name := "<init>", desc := "()V" } : Jvm.MethodName)) ∈ mWS := List.mem_filter.mpr ⟨List.mem_of_getElem? (i := 152) (by rfl), by rfl⟩
set_option maxRecDepth 100000 in
theorem tw_153 : (Jvm.Cond.classLink "PancakePort$Night" (30 : Nat) "PancakePort$Seen") ∈ mWS := List.mem_filter.mpr ⟨List.mem_of_getElem? (i := 153) (by rfl), by rfl⟩
set_option maxRecDepth 100000 in
theorem tw_154 : (Jvm.Cond.instantiable "PancakePort$Seen" (4 : Nat)) ∈ mWS := List.mem_filter.mpr ⟨List.mem_of_getElem? (i := 154) (by rfl), by rfl⟩
set_option maxRecDepth 100000 in
theorem tw_155 : (Jvm.Cond.methodLinkNest "PancakePort$Night" (32 : Nat) ({ cls := "PancakePort$Seen", name := "<init>", desc := "()V" } : Jvm.MethodName) "PancakePort") ∈ mNw := List.mem_filter.mpr ⟨List.mem_of_getElem? (i := 155) (by rfl), by rfl⟩
set_option maxRecDepth 100000 in
theorem tw_156 : (Jvm.Cond.instanceMethod ({ cls := "PancakePort$Seen", name := "<init>", desc := "()V" } : Jvm.MethodName)) ∈ mWS := List.mem_filter.mpr ⟨List.mem_of_getElem? (i := 156) (by rfl), by rfl⟩
set_option maxRecDepth 100000 in
theorem tw_157 : (Jvm.Cond.code ({ cls := "PancakePort$Seen", name := "<init>", desc := "()V" } : Jvm.MethodName) prog_8_method_1_code (1 : Nat) (Option.none : Option Jvm.ClassFile.FieldType)) ∈ mWS := List.mem_filter.mpr ⟨List.mem_of_getElem? (i := 157) (by rfl), by rfl⟩
set_option maxRecDepth 100000 in
theorem tw_158 : (Jvm.Cond.methodLink "PancakePort$Seen" (3 : Nat) ({ cls := "java/lang/Object", name := "<init>", desc := "()V" } : Jvm.MethodName)) ∈ mWS := List.mem_filter.mpr ⟨List.mem_of_getElem? (i := 158) (by rfl), by rfl⟩
set_option maxRecDepth 100000 in
theorem tw_159 : (Jvm.Cond.fieldLink "PancakePort$Seen" (9 : Nat) "PancakePort$Seen" "throwers" "[I") ∈ mWS := List.mem_filter.mpr ⟨List.mem_of_getElem? (i := 159) (by rfl), by rfl⟩
set_option maxRecDepth 100000 in
theorem tw_160 : (Jvm.Cond.fieldLink "PancakePort$Seen" (15 : Nat) "PancakePort$Seen" "aims" "[I") ∈ mWS := List.mem_filter.mpr ⟨List.mem_of_getElem? (i := 160) (by rfl), by rfl⟩
set_option maxRecDepth 100000 in
theorem tw_161 : (Jvm.Cond.fieldLink "PancakePort$Seen" (18 : Nat) "PancakePort$Seen" "columns" "[I") ∈ mWS := List.mem_filter.mpr ⟨List.mem_of_getElem? (i := 161) (by rfl), by rfl⟩
set_option maxRecDepth 100000 in
theorem tw_162 : (Jvm.Cond.fieldLink "PancakePort$Seen" (21 : Nat) "PancakePort$Seen" "count" "I") ∈ mWS := List.mem_filter.mpr ⟨List.mem_of_getElem? (i := 162) (by rfl), by rfl⟩
set_option maxRecDepth 100000 in
theorem tw_163 : (Jvm.Cond.fieldLink "PancakePort$Night" (50 : Nat) "PancakePort$Seen" "count" "I") ∈ mWS := List.mem_filter.mpr ⟨List.mem_of_getElem? (i := 163) (by rfl), by rfl⟩
set_option maxRecDepth 100000 in
theorem tw_164 : (Jvm.Cond.fieldLink "PancakePort" (206 : Nat) "PancakePort$Seen" "count" "I") ∈ mWS := List.mem_filter.mpr ⟨List.mem_of_getElem? (i := 164) (by rfl), by rfl⟩
set_option maxRecDepth 100000 in
theorem tw_165 : (Jvm.Cond.laysFinal "PancakePort$Seen" "PancakePort$Seen" "throwers" "[I") ∈ mWS := List.mem_filter.mpr ⟨List.mem_of_getElem? (i := 165) (by rfl), by rfl⟩
set_option maxRecDepth 100000 in
theorem tw_167 : (Jvm.Cond.laysFinal "PancakePort$Seen" "PancakePort$Seen" "aims" "[I") ∈ mWS := List.mem_filter.mpr ⟨List.mem_of_getElem? (i := 167) (by rfl), by rfl⟩
set_option maxRecDepth 100000 in
theorem tw_169 : (Jvm.Cond.laysFinal "PancakePort$Seen" "PancakePort$Seen" "columns" "[I") ∈ mWS := List.mem_filter.mpr ⟨List.mem_of_getElem? (i := 169) (by rfl), by rfl⟩
set_option maxRecDepth 100000 in
theorem tw_171 : (Jvm.Cond.lays "PancakePort$Seen" "PancakePort$Seen" "count" "I") ∈ mWS := List.mem_filter.mpr ⟨List.mem_of_getElem? (i := 171) (by rfl), by rfl⟩
set_option maxRecDepth 100000 in
theorem tw_173 : (Jvm.Cond.superclass "PancakePort$Seen" "java/lang/Object") ∈ mWS := List.mem_filter.mpr ⟨List.mem_of_getElem? (i := 173) (by rfl), by rfl⟩
set_option maxRecDepth 100000 in
theorem tw_174 : (Jvm.Cond.fieldLink "PancakePort$Night" (9 : Nat) "PancakePort$Night" "cells" "[I") ∈ mWS := List.mem_filter.mpr ⟨List.mem_of_getElem? (i := 174) (by rfl), by rfl⟩
set_option maxRecDepth 100000 in
theorem tw_175 : (Jvm.Cond.fieldLink "PancakePort" (79 : Nat) "PancakePort$Night" "cells" "[I") ∈ mWS := List.mem_filter.mpr ⟨List.mem_of_getElem? (i := 175) (by rfl), by rfl⟩
set_option maxRecDepth 100000 in
theorem tw_176 : (Jvm.Cond.fieldLink "PancakePort$Night" (15 : Nat) "PancakePort$Night" "breakfasts" "[I") ∈ mWS := List.mem_filter.mpr ⟨List.mem_of_getElem? (i := 176) (by rfl), by rfl⟩
set_option maxRecDepth 100000 in
theorem tw_177 : (Jvm.Cond.fieldLink "PancakePort" (89 : Nat) "PancakePort$Night" "breakfasts" "[I") ∈ mWS := List.mem_filter.mpr ⟨List.mem_of_getElem? (i := 177) (by rfl), by rfl⟩
set_option maxRecDepth 100000 in
theorem tw_178 : (Jvm.Cond.fieldLink "PancakePort$Night" (18 : Nat) "PancakePort$Night" "colds" "[I") ∈ mWS := List.mem_filter.mpr ⟨List.mem_of_getElem? (i := 178) (by rfl), by rfl⟩
set_option maxRecDepth 100000 in
theorem tw_179 : (Jvm.Cond.fieldLink "PancakePort" (92 : Nat) "PancakePort$Night" "colds" "[I") ∈ mWS := List.mem_filter.mpr ⟨List.mem_of_getElem? (i := 179) (by rfl), by rfl⟩
set_option maxRecDepth 100000 in
theorem tw_180 : (Jvm.Cond.fieldLink "PancakePort$Night" (21 : Nat) "PancakePort$Night" "souths" "[I") ∈ mWS := List.mem_filter.mpr ⟨List.mem_of_getElem? (i := 180) (by rfl), by rfl⟩
set_option maxRecDepth 100000 in
theorem tw_181 : (Jvm.Cond.fieldLink "PancakePort" (107 : Nat) "PancakePort$Night" "souths" "[I") ∈ mWS := List.mem_filter.mpr ⟨List.mem_of_getElem? (i := 181) (by rfl), by rfl⟩
set_option maxRecDepth 100000 in
theorem tw_182 : (Jvm.Cond.fieldLink "PancakePort$Night" (24 : Nat) "PancakePort$Night" "easts" "[I") ∈ mWS := List.mem_filter.mpr ⟨List.mem_of_getElem? (i := 182) (by rfl), by rfl⟩
set_option maxRecDepth 100000 in
theorem tw_183 : (Jvm.Cond.fieldLink "PancakePort" (110 : Nat) "PancakePort$Night" "easts" "[I") ∈ mWS := List.mem_filter.mpr ⟨List.mem_of_getElem? (i := 183) (by rfl), by rfl⟩
set_option maxRecDepth 100000 in
theorem tw_184 : (Jvm.Cond.fieldLink "PancakePort$Night" (27 : Nat) "PancakePort$Night" "thrown" "[I") ∈ mWS := List.mem_filter.mpr ⟨List.mem_of_getElem? (i := 184) (by rfl), by rfl⟩
set_option maxRecDepth 100000 in
theorem tw_185 : (Jvm.Cond.fieldLink "PancakePort" (135 : Nat) "PancakePort$Night" "thrown" "[I") ∈ mWS := List.mem_filter.mpr ⟨List.mem_of_getElem? (i := 185) (by rfl), by rfl⟩
set_option maxRecDepth 100000 in
theorem tw_186 : (Jvm.Cond.fieldLink "PancakePort$Night" (33 : Nat) "PancakePort$Night" "seen" "LPancakePort$Seen;") ∈ mWS := List.mem_filter.mpr ⟨List.mem_of_getElem? (i := 186) (by rfl), by rfl⟩
set_option maxRecDepth 100000 in
theorem tw_187 : (Jvm.Cond.fieldLink "PancakePort" (123 : Nat) "PancakePort$Night" "seen" "LPancakePort$Seen;") ∈ mWS := List.mem_filter.mpr ⟨List.mem_of_getElem? (i := 187) (by rfl), by rfl⟩
set_option maxRecDepth 100000 in
theorem tw_188 : (Jvm.Cond.fieldLink "PancakePort$Night" (54 : Nat) "PancakePort$Night" "covered" "I") ∈ mWS := List.mem_filter.mpr ⟨List.mem_of_getElem? (i := 188) (by rfl), by rfl⟩
set_option maxRecDepth 100000 in
theorem tw_189 : (Jvm.Cond.fieldLink "PancakePort" (86 : Nat) "PancakePort$Night" "covered" "I") ∈ mWS := List.mem_filter.mpr ⟨List.mem_of_getElem? (i := 189) (by rfl), by rfl⟩
set_option maxRecDepth 100000 in
theorem tw_190 : (Jvm.Cond.fieldLink "PancakePort$Night" (57 : Nat) "PancakePort$Night" "wind" "I") ∈ mWS := List.mem_filter.mpr ⟨List.mem_of_getElem? (i := 190) (by rfl), by rfl⟩
set_option maxRecDepth 100000 in
theorem tw_191 : (Jvm.Cond.fieldLink "PancakePort" (146 : Nat) "PancakePort$Night" "wind" "I") ∈ mWS := List.mem_filter.mpr ⟨List.mem_of_getElem? (i := 191) (by rfl), by rfl⟩
set_option maxRecDepth 100000 in
theorem tw_192 : (Jvm.Cond.fieldLink "PancakePort$Night" (60 : Nat) "PancakePort$Night" "batter" "I") ∈ mWS := List.mem_filter.mpr ⟨List.mem_of_getElem? (i := 192) (by rfl), by rfl⟩
set_option maxRecDepth 100000 in
theorem tw_193 : (Jvm.Cond.fieldLink "PancakePort" (159 : Nat) "PancakePort$Night" "batter" "I") ∈ mWS := List.mem_filter.mpr ⟨List.mem_of_getElem? (i := 193) (by rfl), by rfl⟩
set_option maxRecDepth 100000 in
theorem tw_194 : (Jvm.Cond.fieldLink "PancakePort$Night" (63 : Nat) "PancakePort$Night" "mornings" "I") ∈ mWS := List.mem_filter.mpr ⟨List.mem_of_getElem? (i := 194) (by rfl), by rfl⟩
set_option maxRecDepth 100000 in
theorem tw_195 : (Jvm.Cond.fieldLink "PancakePort" (176 : Nat) "PancakePort$Night" "mornings" "I") ∈ mWS := List.mem_filter.mpr ⟨List.mem_of_getElem? (i := 195) (by rfl), by rfl⟩
set_option maxRecDepth 100000 in
theorem tw_196 : (Jvm.Cond.fieldLink "PancakePort$Night" (66 : Nat) "PancakePort$Night" "tosses" "I") ∈ mWS := List.mem_filter.mpr ⟨List.mem_of_getElem? (i := 196) (by rfl), by rfl⟩
set_option maxRecDepth 100000 in
theorem tw_197 : (Jvm.Cond.fieldLink "PancakePort" (161 : Nat) "PancakePort$Night" "tosses" "I") ∈ mWS := List.mem_filter.mpr ⟨List.mem_of_getElem? (i := 197) (by rfl), by rfl⟩
set_option maxRecDepth 100000 in
theorem tw_198 : (Jvm.Cond.laysFinal "PancakePort$Night" "PancakePort$Night" "cells" "[I") ∈ mWS := List.mem_filter.mpr ⟨List.mem_of_getElem? (i := 198) (by rfl), by rfl⟩
set_option maxRecDepth 100000 in
theorem tw_200 : (Jvm.Cond.laysFinal "PancakePort$Night" "PancakePort$Night" "breakfasts" "[I") ∈ mWS := List.mem_filter.mpr ⟨List.mem_of_getElem? (i := 200) (by rfl), by rfl⟩
set_option maxRecDepth 100000 in
theorem tw_202 : (Jvm.Cond.laysFinal "PancakePort$Night" "PancakePort$Night" "colds" "[I") ∈ mWS := List.mem_filter.mpr ⟨List.mem_of_getElem? (i := 202) (by rfl), by rfl⟩
set_option maxRecDepth 100000 in
theorem tw_204 : (Jvm.Cond.laysFinal "PancakePort$Night" "PancakePort$Night" "souths" "[I") ∈ mWS := List.mem_filter.mpr ⟨List.mem_of_getElem? (i := 204) (by rfl), by rfl⟩
set_option maxRecDepth 100000 in
theorem tw_206 : (Jvm.Cond.laysFinal "PancakePort$Night" "PancakePort$Night" "easts" "[I") ∈ mWS := List.mem_filter.mpr ⟨List.mem_of_getElem? (i := 206) (by rfl), by rfl⟩
set_option maxRecDepth 100000 in
theorem tw_208 : (Jvm.Cond.laysFinal "PancakePort$Night" "PancakePort$Night" "thrown" "[I") ∈ mWS := List.mem_filter.mpr ⟨List.mem_of_getElem? (i := 208) (by rfl), by rfl⟩
set_option maxRecDepth 100000 in
theorem tw_210 : (Jvm.Cond.laysFinal "PancakePort$Night" "PancakePort$Night" "seen" "LPancakePort$Seen;") ∈ mWS := List.mem_filter.mpr ⟨List.mem_of_getElem? (i := 210) (by rfl), by rfl⟩
set_option maxRecDepth 100000 in
theorem tw_212 : (Jvm.Cond.lays "PancakePort$Night" "PancakePort$Night" "covered" "I") ∈ mWS := List.mem_filter.mpr ⟨List.mem_of_getElem? (i := 212) (by rfl), by rfl⟩
set_option maxRecDepth 100000 in
theorem tw_214 : (Jvm.Cond.lays "PancakePort$Night" "PancakePort$Night" "wind" "I") ∈ mWS := List.mem_filter.mpr ⟨List.mem_of_getElem? (i := 214) (by rfl), by rfl⟩
set_option maxRecDepth 100000 in
theorem tw_216 : (Jvm.Cond.lays "PancakePort$Night" "PancakePort$Night" "batter" "I") ∈ mWS := List.mem_filter.mpr ⟨List.mem_of_getElem? (i := 216) (by rfl), by rfl⟩
set_option maxRecDepth 100000 in
theorem tw_218 : (Jvm.Cond.lays "PancakePort$Night" "PancakePort$Night" "mornings" "I") ∈ mWS := List.mem_filter.mpr ⟨List.mem_of_getElem? (i := 218) (by rfl), by rfl⟩
set_option maxRecDepth 100000 in
theorem tw_220 : (Jvm.Cond.lays "PancakePort$Night" "PancakePort$Night" "tosses" "I") ∈ mWS := List.mem_filter.mpr ⟨List.mem_of_getElem? (i := 220) (by rfl), by rfl⟩
set_option maxRecDepth 100000 in
theorem tw_222 : (Jvm.Cond.superclass "PancakePort$Night" "java/lang/Object") ∈ mWS := List.mem_filter.mpr ⟨List.mem_of_getElem? (i := 222) (by rfl), by rfl⟩
set_option maxRecDepth 100000 in
theorem tw_223 : (Jvm.Cond.classLink "PancakePort" (39 : Nat) "PancakePort$Plan") ∈ mWS := List.mem_filter.mpr ⟨List.mem_of_getElem? (i := 223) (by rfl), by rfl⟩
set_option maxRecDepth 100000 in
theorem tw_224 : (Jvm.Cond.instantiable "PancakePort$Plan" (7 : Nat)) ∈ mWS := List.mem_filter.mpr ⟨List.mem_of_getElem? (i := 224) (by rfl), by rfl⟩
set_option maxRecDepth 100000 in
theorem tw_225 : (Jvm.Cond.methodLinkNest "PancakePort" (41 : Nat) ({ cls := "PancakePort$Plan", name := "<init>", desc := "()V" } : Jvm.MethodName) "PancakePort") ∈ mNw := List.mem_filter.mpr ⟨List.mem_of_getElem? (i := 225) (by rfl), by rfl⟩
set_option maxRecDepth 100000 in
theorem tw_226 : (Jvm.Cond.instanceMethod ({ cls := "PancakePort$Plan", name := "<init>", desc := "()V" } : Jvm.MethodName)) ∈ mWS := List.mem_filter.mpr ⟨List.mem_of_getElem? (i := 226) (by rfl), by rfl⟩
set_option maxRecDepth 100000 in
theorem tw_227 : (Jvm.Cond.code ({ cls := "PancakePort$Plan", name := "<init>", desc := "()V" } : Jvm.MethodName) prog_6_method_1_code (1 : Nat) (Option.none : Option Jvm.ClassFile.FieldType)) ∈ mWS := List.mem_filter.mpr ⟨List.mem_of_getElem? (i := 227) (by rfl), by rfl⟩
set_option maxRecDepth 100000 in
theorem tw_228 : (Jvm.Cond.methodLink "PancakePort$Plan" (3 : Nat) ({ cls := "java/lang/Object", name := "<init>", desc := "()V" } : Jvm.MethodName)) ∈ mWS := List.mem_filter.mpr ⟨List.mem_of_getElem? (i := 228) (by rfl), by rfl⟩
set_option maxRecDepth 100000 in
theorem tw_229 : (Jvm.Cond.fieldLink "PancakePort$Plan" (9 : Nat) "PancakePort$Plan" "crowds" "[I") ∈ mWS := List.mem_filter.mpr ⟨List.mem_of_getElem? (i := 229) (by rfl), by rfl⟩
set_option maxRecDepth 100000 in
theorem tw_230 : (Jvm.Cond.fieldLink "PancakePort$Plan" (15 : Nat) "PancakePort$Plan" "prices" "[I") ∈ mWS := List.mem_filter.mpr ⟨List.mem_of_getElem? (i := 230) (by rfl), by rfl⟩
set_option maxRecDepth 100000 in
theorem tw_231 : (Jvm.Cond.fieldLink "PancakePort$Plan" (18 : Nat) "PancakePort$Plan" "cheapest" "[I") ∈ mWS := List.mem_filter.mpr ⟨List.mem_of_getElem? (i := 231) (by rfl), by rfl⟩
set_option maxRecDepth 100000 in
theorem tw_232 : (Jvm.Cond.fieldLink "PancakePort$Plan" (21 : Nat) "PancakePort$Plan" "least" "[I") ∈ mWS := List.mem_filter.mpr ⟨List.mem_of_getElem? (i := 232) (by rfl), by rfl⟩
set_option maxRecDepth 100000 in
theorem tw_233 : (Jvm.Cond.fieldLink "PancakePort$Plan" (24 : Nat) "PancakePort$Plan" "chosen" "[I") ∈ mWS := List.mem_filter.mpr ⟨List.mem_of_getElem? (i := 233) (by rfl), by rfl⟩
set_option maxRecDepth 100000 in
theorem tw_234 : (Jvm.Cond.fieldLink "PancakePort$Plan" (58 : Nat) "PancakePort$Plan" "chosenCount" "I") ∈ mWS := List.mem_filter.mpr ⟨List.mem_of_getElem? (i := 234) (by rfl), by rfl⟩
set_option maxRecDepth 100000 in
theorem tw_235 : (Jvm.Cond.fieldLink "PancakePort$Plan" (50 : Nat) "PancakePort$Plan" "price" "I") ∈ mWS := List.mem_filter.mpr ⟨List.mem_of_getElem? (i := 235) (by rfl), by rfl⟩
set_option maxRecDepth 100000 in
theorem tw_236 : (Jvm.Cond.laysFinal "PancakePort$Plan" "PancakePort$Plan" "crowds" "[I") ∈ mWS := List.mem_filter.mpr ⟨List.mem_of_getElem? (i := 236) (by rfl), by rfl⟩
set_option maxRecDepth 100000 in
theorem tw_238 : (Jvm.Cond.laysFinal "PancakePort$Plan" "PancakePort$Plan" "prices" "[I") ∈ mWS := List.mem_filter.mpr ⟨List.mem_of_getElem? (i := 238) (by rfl), by rfl⟩
set_option maxRecDepth 100000 in
theorem tw_240 : (Jvm.Cond.laysFinal "PancakePort$Plan" "PancakePort$Plan" "cheapest" "[I") ∈ mWS := List.mem_filter.mpr ⟨List.mem_of_getElem? (i := 240) (by rfl), by rfl⟩
set_option maxRecDepth 100000 in
theorem tw_242 : (Jvm.Cond.laysFinal "PancakePort$Plan" "PancakePort$Plan" "least" "[I") ∈ mWS := List.mem_filter.mpr ⟨List.mem_of_getElem? (i := 242) (by rfl), by rfl⟩
set_option maxRecDepth 100000 in
theorem tw_244 : (Jvm.Cond.laysFinal "PancakePort$Plan" "PancakePort$Plan" "chosen" "[I") ∈ mWS := List.mem_filter.mpr ⟨List.mem_of_getElem? (i := 244) (by rfl), by rfl⟩
set_option maxRecDepth 100000 in
theorem tw_246 : (Jvm.Cond.lays "PancakePort$Plan" "PancakePort$Plan" "chosenCount" "I") ∈ mWS := List.mem_filter.mpr ⟨List.mem_of_getElem? (i := 246) (by rfl), by rfl⟩
set_option maxRecDepth 100000 in
theorem tw_248 : (Jvm.Cond.lays "PancakePort$Plan" "PancakePort$Plan" "price" "I") ∈ mWS := List.mem_filter.mpr ⟨List.mem_of_getElem? (i := 248) (by rfl), by rfl⟩
set_option maxRecDepth 100000 in
theorem tw_250 : (Jvm.Cond.superclass "PancakePort$Plan" "java/lang/Object") ∈ mWS := List.mem_filter.mpr ⟨List.mem_of_getElem? (i := 250) (by rfl), by rfl⟩
set_option maxRecDepth 100000 in
theorem tw_251 : (Jvm.Cond.fieldLink "PancakePort" (10 : Nat) "PancakePort" "page" "LPancakePort$Page;") ∈ mWS := List.mem_filter.mpr ⟨List.mem_of_getElem? (i := 251) (by rfl), by rfl⟩
set_option maxRecDepth 100000 in
theorem tw_252 : (Jvm.Cond.fieldLink "PancakePort" (19 : Nat) "PancakePort" "reading" "LPancakePort$Reading;") ∈ mWS := List.mem_filter.mpr ⟨List.mem_of_getElem? (i := 252) (by rfl), by rfl⟩
set_option maxRecDepth 100000 in
theorem tw_253 : (Jvm.Cond.fieldLink "PancakePort" (25 : Nat) "PancakePort" "tossers" "[LPancakePort$Tosser;") ∈ mWS := List.mem_filter.mpr ⟨List.mem_of_getElem? (i := 253) (by rfl), by rfl⟩
set_option maxRecDepth 100000 in
theorem tw_254 : (Jvm.Cond.fieldLink "PancakePort" (32 : Nat) "PancakePort" "now" "LPancakePort$Night;") ∈ mWS := List.mem_filter.mpr ⟨List.mem_of_getElem? (i := 254) (by rfl), by rfl⟩
set_option maxRecDepth 100000 in
theorem tw_255 : (Jvm.Cond.fieldLink "PancakePort" (36 : Nat) "PancakePort" "kept" "LPancakePort$Night;") ∈ mWS := List.mem_filter.mpr ⟨List.mem_of_getElem? (i := 255) (by rfl), by rfl⟩
set_option maxRecDepth 100000 in
theorem tw_256 : (Jvm.Cond.fieldLink "PancakePort" (42 : Nat) "PancakePort" "plan" "LPancakePort$Plan;") ∈ mWS := List.mem_filter.mpr ⟨List.mem_of_getElem? (i := 256) (by rfl), by rfl⟩
set_option maxRecDepth 100000 in
theorem tw_257 : (Jvm.Cond.fieldLink "PancakePort" (46 : Nat) "PancakePort" "chances" "[I") ∈ mWS := List.mem_filter.mpr ⟨List.mem_of_getElem? (i := 257) (by rfl), by rfl⟩
set_option maxRecDepth 100000 in
theorem tw_258 : (Jvm.Cond.fieldLink "PancakePort" (72 : Nat) "PancakePort" "sleeperCount" "I") ∈ mWS := List.mem_filter.mpr ⟨List.mem_of_getElem? (i := 258) (by rfl), by rfl⟩
set_option maxRecDepth 100000 in
theorem tw_259 : (Jvm.Cond.fieldLink "PancakePort" (197 : Nat) "PancakePort" "tosserCount" "I") ∈ mWS := List.mem_filter.mpr ⟨List.mem_of_getElem? (i := 259) (by rfl), by rfl⟩
set_option maxRecDepth 100000 in
theorem tw_260 : (Jvm.Cond.fieldLink "PancakePort" (69 : Nat) "PancakePort" "portsRead" "I") ∈ mWS := List.mem_filter.mpr ⟨List.mem_of_getElem? (i := 260) (by rfl), by rfl⟩
set_option maxRecDepth 100000 in
theorem tw_261 : (Jvm.Cond.fieldLink "PancakePort" (223 : Nat) "PancakePort" "imageKept" "Z") ∈ mWS := List.mem_filter.mpr ⟨List.mem_of_getElem? (i := 261) (by rfl), by rfl⟩
set_option maxRecDepth 100000 in
theorem tw_262 : (Jvm.Cond.laysFinal "PancakePort" "PancakePort" "page" "LPancakePort$Page;") ∈ mWS := List.mem_filter.mpr ⟨List.mem_of_getElem? (i := 262) (by rfl), by rfl⟩
set_option maxRecDepth 100000 in
theorem tw_264 : (Jvm.Cond.laysFinal "PancakePort" "PancakePort" "reading" "LPancakePort$Reading;") ∈ mWS := List.mem_filter.mpr ⟨List.mem_of_getElem? (i := 264) (by rfl), by rfl⟩
set_option maxRecDepth 100000 in
theorem tw_266 : (Jvm.Cond.laysFinal "PancakePort" "PancakePort" "tossers" "[LPancakePort$Tosser;") ∈ mWS := List.mem_filter.mpr ⟨List.mem_of_getElem? (i := 266) (by rfl), by rfl⟩
set_option maxRecDepth 100000 in
theorem tw_268 : (Jvm.Cond.laysFinal "PancakePort" "PancakePort" "now" "LPancakePort$Night;") ∈ mWS := List.mem_filter.mpr ⟨List.mem_of_getElem? (i := 268) (by rfl), by rfl⟩
set_option maxRecDepth 100000 in
theorem tw_270 : (Jvm.Cond.laysFinal "PancakePort" "PancakePort" "kept" "LPancakePort$Night;") ∈ mWS := List.mem_filter.mpr ⟨List.mem_of_getElem? (i := 270) (by rfl), by rfl⟩
set_option maxRecDepth 100000 in
theorem tw_272 : (Jvm.Cond.laysFinal "PancakePort" "PancakePort" "plan" "LPancakePort$Plan;") ∈ mWS := List.mem_filter.mpr ⟨List.mem_of_getElem? (i := 272) (by rfl), by rfl⟩
set_option maxRecDepth 100000 in
theorem tw_274 : (Jvm.Cond.laysFinal "PancakePort" "PancakePort" "chances" "[I") ∈ mWS := List.mem_filter.mpr ⟨List.mem_of_getElem? (i := 274) (by rfl), by rfl⟩
set_option maxRecDepth 100000 in
theorem tw_276 : (Jvm.Cond.lays "PancakePort" "PancakePort" "sleeperCount" "I") ∈ mWS := List.mem_filter.mpr ⟨List.mem_of_getElem? (i := 276) (by rfl), by rfl⟩
set_option maxRecDepth 100000 in
theorem tw_278 : (Jvm.Cond.lays "PancakePort" "PancakePort" "tosserCount" "I") ∈ mWS := List.mem_filter.mpr ⟨List.mem_of_getElem? (i := 278) (by rfl), by rfl⟩
set_option maxRecDepth 100000 in
theorem tw_280 : (Jvm.Cond.lays "PancakePort" "PancakePort" "portsRead" "I") ∈ mWS := List.mem_filter.mpr ⟨List.mem_of_getElem? (i := 280) (by rfl), by rfl⟩
set_option maxRecDepth 100000 in
theorem tw_282 : (Jvm.Cond.lays "PancakePort" "PancakePort" "imageKept" "Z") ∈ mWS := List.mem_filter.mpr ⟨List.mem_of_getElem? (i := 282) (by rfl), by rfl⟩
set_option maxRecDepth 100000 in
theorem tw_284 : (Jvm.Cond.superclass "PancakePort" "java/lang/Object") ∈ mWS := List.mem_filter.mpr ⟨List.mem_of_getElem? (i := 284) (by rfl), by rfl⟩
set_option maxRecDepth 100000 in
theorem tw_285 : (Jvm.Cond.methodLink "PancakePortLaw" (13 : Nat) ({ cls := "PancakePort", name := "letter", desc := "(I)I" } : Jvm.MethodName)) ∈ mWS := List.mem_filter.mpr ⟨List.mem_of_getElem? (i := 285) (by rfl), by rfl⟩
set_option maxRecDepth 100000 in
theorem tw_286 : (Jvm.Cond.instanceMethod ({ cls := "PancakePort", name := "letter", desc := "(I)I" } : Jvm.MethodName)) ∈ mWS := List.mem_filter.mpr ⟨List.mem_of_getElem? (i := 286) (by rfl), by rfl⟩
set_option maxRecDepth 100000 in
theorem tw_287 : (Jvm.Cond.selects "PancakePort" ({ cls := "PancakePort", name := "letter", desc := "(I)I" } : Jvm.MethodName) ({ cls := "PancakePort", name := "letter", desc := "(I)I" } : Jvm.MethodName)) ∈ mWS := List.mem_filter.mpr ⟨List.mem_of_getElem? (i := 287) (by rfl), by rfl⟩
set_option maxRecDepth 100000 in
theorem tw_288 : (Jvm.Cond.code ({ cls := "PancakePort", name := "letter", desc := "(I)I" } : Jvm.MethodName) prog_1_method_2_code (2 : Nat) (Option.some Jvm.ClassFile.FieldType.int)) ∈ mWS := List.mem_filter.mpr ⟨List.mem_of_getElem? (i := 288) (by rfl), by rfl⟩
set_option maxRecDepth 100000 in
theorem tw_289 : (Jvm.Cond.methodLink "PancakePort" (54 : Nat) ({ cls := "PancakePort$Page", name := "append", desc := "(I)V" } : Jvm.MethodName)) ∈ mWS := List.mem_filter.mpr ⟨List.mem_of_getElem? (i := 289) (by rfl), by rfl⟩
set_option maxRecDepth 100000 in
theorem tw_290 : (Jvm.Cond.instanceMethod ({ cls := "PancakePort$Page", name := "append", desc := "(I)V" } : Jvm.MethodName)) ∈ mWS := List.mem_filter.mpr ⟨List.mem_of_getElem? (i := 290) (by rfl), by rfl⟩
set_option maxRecDepth 100000 in
theorem tw_291 : (Jvm.Cond.selects "PancakePort$Page" ({ cls := "PancakePort$Page", name := "append", desc := "(I)V" } : Jvm.MethodName) ({ cls := "PancakePort$Page", name := "append", desc := "(I)V" } : Jvm.MethodName)) ∈ mWS := List.mem_filter.mpr ⟨List.mem_of_getElem? (i := 291) (by rfl), by rfl⟩
set_option maxRecDepth 100000 in
theorem tw_292 : (Jvm.Cond.code ({ cls := "PancakePort$Page", name := "append", desc := "(I)V" } : Jvm.MethodName) prog_5_method_2_code (2 : Nat) (Option.none : Option Jvm.ClassFile.FieldType)) ∈ mWS := List.mem_filter.mpr ⟨List.mem_of_getElem? (i := 292) (by rfl), by rfl⟩
set_option maxRecDepth 100000 in
theorem tw_293 : (Jvm.Cond.methodLinkNest "PancakePort$Page" (19 : Nat) ({ cls := "PancakePort", name := "put", desc := "([III)V" } : Jvm.MethodName) "PancakePort") ∈ mNw := List.mem_filter.mpr ⟨List.mem_of_getElem? (i := 293) (by rfl), by rfl⟩
set_option maxRecDepth 100000 in
theorem tw_294 : (Jvm.Cond.static ({ cls := "PancakePort", name := "put", desc := "([III)V" } : Jvm.MethodName)) ∈ mWS := List.mem_filter.mpr ⟨List.mem_of_getElem? (i := 294) (by rfl), by rfl⟩
set_option maxRecDepth 100000 in
theorem tw_295 : (Jvm.Cond.code ({ cls := "PancakePort", name := "put", desc := "([III)V" } : Jvm.MethodName) prog_1_method_55_code (3 : Nat) (Option.none : Option Jvm.ClassFile.FieldType)) ∈ mWS := List.mem_filter.mpr ⟨List.mem_of_getElem? (i := 295) (by rfl), by rfl⟩
set_option maxRecDepth 100000 in
theorem tw_296 : (Jvm.Cond.methodLink "PancakePortLaw" (18 : Nat) ({ cls := "PancakePort", name := "blank", desc := "()I" } : Jvm.MethodName)) ∈ mWS := List.mem_filter.mpr ⟨List.mem_of_getElem? (i := 296) (by rfl), by rfl⟩
set_option maxRecDepth 100000 in
theorem tw_297 : (Jvm.Cond.instanceMethod ({ cls := "PancakePort", name := "blank", desc := "()I" } : Jvm.MethodName)) ∈ mWS := List.mem_filter.mpr ⟨List.mem_of_getElem? (i := 297) (by rfl), by rfl⟩
set_option maxRecDepth 100000 in
theorem tw_298 : (Jvm.Cond.selects "PancakePort" ({ cls := "PancakePort", name := "blank", desc := "()I" } : Jvm.MethodName) ({ cls := "PancakePort", name := "blank", desc := "()I" } : Jvm.MethodName)) ∈ mWS := List.mem_filter.mpr ⟨List.mem_of_getElem? (i := 298) (by rfl), by rfl⟩
set_option maxRecDepth 100000 in
theorem tw_299 : (Jvm.Cond.code ({ cls := "PancakePort", name := "blank", desc := "()I" } : Jvm.MethodName) prog_1_method_3_code (2 : Nat) (Option.some Jvm.ClassFile.FieldType.int)) ∈ mWS := List.mem_filter.mpr ⟨List.mem_of_getElem? (i := 299) (by rfl), by rfl⟩
set_option maxRecDepth 100000 in
theorem tw_300 : (Jvm.Cond.methodLink "PancakePortLaw" (23 : Nat) ({ cls := "PancakePort", name := "fault", desc := "()I" } : Jvm.MethodName)) ∈ mWS := List.mem_filter.mpr ⟨List.mem_of_getElem? (i := 300) (by rfl), by rfl⟩
set_option maxRecDepth 100000 in
theorem tw_301 : (Jvm.Cond.instanceMethod ({ cls := "PancakePort", name := "fault", desc := "()I" } : Jvm.MethodName)) ∈ mWS := List.mem_filter.mpr ⟨List.mem_of_getElem? (i := 301) (by rfl), by rfl⟩
set_option maxRecDepth 100000 in
theorem tw_302 : (Jvm.Cond.selects "PancakePort" ({ cls := "PancakePort", name := "fault", desc := "()I" } : Jvm.MethodName) ({ cls := "PancakePort", name := "fault", desc := "()I" } : Jvm.MethodName)) ∈ mWS := List.mem_filter.mpr ⟨List.mem_of_getElem? (i := 302) (by rfl), by rfl⟩
set_option maxRecDepth 100000 in
theorem tw_303 : (Jvm.Cond.code ({ cls := "PancakePort", name := "fault", desc := "()I" } : Jvm.MethodName) prog_1_method_4_code (1 : Nat) (Option.some Jvm.ClassFile.FieldType.int)) ∈ mWS := List.mem_filter.mpr ⟨List.mem_of_getElem? (i := 303) (by rfl), by rfl⟩
set_option maxRecDepth 100000 in
theorem tw_304 : (Jvm.Cond.methodLink "PancakePort" (58 : Nat) ({ cls := "PancakePort$Reading", name := "read", desc := "(LPancakePort$Page;)I" } : Jvm.MethodName)) ∈ mWS := List.mem_filter.mpr ⟨List.mem_of_getElem? (i := 304) (by rfl), by rfl⟩
set_option maxRecDepth 100000 in
theorem tw_305 : (Jvm.Cond.instanceMethod ({ cls := "PancakePort$Reading", name := "read", desc := "(LPancakePort$Page;)I" } : Jvm.MethodName)) ∈ mWS := List.mem_filter.mpr ⟨List.mem_of_getElem? (i := 305) (by rfl), by rfl⟩
set_option maxRecDepth 100000 in
theorem tw_306 : (Jvm.Cond.selects "PancakePort$Reading" ({ cls := "PancakePort$Reading", name := "read", desc := "(LPancakePort$Page;)I" } : Jvm.MethodName) ({ cls := "PancakePort$Reading", name := "read", desc := "(LPancakePort$Page;)I" } : Jvm.MethodName)) ∈ mWS := List.mem_filter.mpr ⟨List.mem_of_getElem? (i := 306) (by rfl), by rfl⟩
set_option maxRecDepth 100000 in
theorem tw_307 : (Jvm.Cond.code ({ cls := "PancakePort$Reading", name := "read", desc := "(LPancakePort$Page;)I" } : Jvm.MethodName) prog_7_method_2_code (4 : Nat) (Option.some Jvm.ClassFile.FieldType.int)) ∈ mWS := List.mem_filter.mpr ⟨List.mem_of_getElem? (i := 307) (by rfl), by rfl⟩
set_option maxRecDepth 100000 in
theorem tw_308 : (Jvm.Cond.methodLinkNest "PancakePort$Reading" (42 : Nat) ({ cls := "PancakePort", name := "at", desc := "([II)I" } : Jvm.MethodName) "PancakePort") ∈ mNw := List.mem_filter.mpr ⟨List.mem_of_getElem? (i := 308) (by rfl), by rfl⟩
set_option maxRecDepth 100000 in
theorem tw_309 : (Jvm.Cond.static ({ cls := "PancakePort", name := "at", desc := "([II)I" } : Jvm.MethodName)) ∈ mWS := List.mem_filter.mpr ⟨List.mem_of_getElem? (i := 309) (by rfl), by rfl⟩
set_option maxRecDepth 100000 in
theorem tw_310 : (Jvm.Cond.code ({ cls := "PancakePort", name := "at", desc := "([II)I" } : Jvm.MethodName) prog_1_method_54_code (2 : Nat) (Option.some Jvm.ClassFile.FieldType.int)) ∈ mWS := List.mem_filter.mpr ⟨List.mem_of_getElem? (i := 310) (by rfl), by rfl⟩
set_option maxRecDepth 100000 in
theorem tw_311 : (Jvm.Cond.methodLink "PancakePort$Reading" (46 : Nat) ({ cls := "PancakePort$Reading", name := "takes", desc := "(I)Z" } : Jvm.MethodName)) ∈ mWS := List.mem_filter.mpr ⟨List.mem_of_getElem? (i := 311) (by rfl), by rfl⟩
set_option maxRecDepth 100000 in
theorem tw_313 : (Jvm.Cond.instanceMethod ({ cls := "PancakePort$Reading", name := "takes", desc := "(I)Z" } : Jvm.MethodName)) ∈ mWS := List.mem_filter.mpr ⟨List.mem_of_getElem? (i := 313) (by rfl), by rfl⟩
set_option maxRecDepth 100000 in
theorem tw_314 : (Jvm.Cond.code ({ cls := "PancakePort$Reading", name := "takes", desc := "(I)Z" } : Jvm.MethodName) prog_7_method_4_code (2 : Nat) (Option.some Jvm.ClassFile.FieldType.boolean)) ∈ mWS := List.mem_filter.mpr ⟨List.mem_of_getElem? (i := 314) (by rfl), by rfl⟩
set_option maxRecDepth 100000 in
theorem tw_315 : (Jvm.Cond.methodLink "PancakePort$Reading" (50 : Nat) ({ cls := "PancakePort$Reading", name := "takesRow", desc := "(I)Z" } : Jvm.MethodName)) ∈ mWS := List.mem_filter.mpr ⟨List.mem_of_getElem? (i := 315) (by rfl), by rfl⟩
set_option maxRecDepth 100000 in
theorem tw_317 : (Jvm.Cond.instanceMethod ({ cls := "PancakePort$Reading", name := "takesRow", desc := "(I)Z" } : Jvm.MethodName)) ∈ mWS := List.mem_filter.mpr ⟨List.mem_of_getElem? (i := 317) (by rfl), by rfl⟩
set_option maxRecDepth 100000 in
theorem tw_318 : (Jvm.Cond.code ({ cls := "PancakePort$Reading", name := "takesRow", desc := "(I)Z" } : Jvm.MethodName) prog_7_method_5_code (2 : Nat) (Option.some Jvm.ClassFile.FieldType.boolean)) ∈ mWS := List.mem_filter.mpr ⟨List.mem_of_getElem? (i := 318) (by rfl), by rfl⟩
set_option maxRecDepth 100000 in
theorem tw_319 : (Jvm.Cond.methodLink "PancakePort$Reading" (53 : Nat) ({ cls := "PancakePort$Reading", name := "takesColumn", desc := "(I)Z" } : Jvm.MethodName)) ∈ mWS := List.mem_filter.mpr ⟨List.mem_of_getElem? (i := 319) (by rfl), by rfl⟩
set_option maxRecDepth 100000 in
theorem tw_321 : (Jvm.Cond.instanceMethod ({ cls := "PancakePort$Reading", name := "takesColumn", desc := "(I)Z" } : Jvm.MethodName)) ∈ mWS := List.mem_filter.mpr ⟨List.mem_of_getElem? (i := 321) (by rfl), by rfl⟩
set_option maxRecDepth 100000 in
theorem tw_322 : (Jvm.Cond.code ({ cls := "PancakePort$Reading", name := "takesColumn", desc := "(I)Z" } : Jvm.MethodName) prog_7_method_6_code (4 : Nat) (Option.some Jvm.ClassFile.FieldType.boolean)) ∈ mWS := List.mem_filter.mpr ⟨List.mem_of_getElem? (i := 322) (by rfl), by rfl⟩
set_option maxRecDepth 100000 in
theorem tw_323 : (Jvm.Cond.methodLinkNest "PancakePort$Reading" (74 : Nat) ({ cls := "PancakePort", name := "cellAt", desc := "(II)I" } : Jvm.MethodName) "PancakePort") ∈ mNw := List.mem_filter.mpr ⟨List.mem_of_getElem? (i := 323) (by rfl), by rfl⟩
set_option maxRecDepth 100000 in
theorem tw_324 : (Jvm.Cond.static ({ cls := "PancakePort", name := "cellAt", desc := "(II)I" } : Jvm.MethodName)) ∈ mWS := List.mem_filter.mpr ⟨List.mem_of_getElem? (i := 324) (by rfl), by rfl⟩
set_option maxRecDepth 100000 in
theorem tw_325 : (Jvm.Cond.code ({ cls := "PancakePort", name := "cellAt", desc := "(II)I" } : Jvm.MethodName) prog_1_method_48_code (3 : Nat) (Option.some Jvm.ClassFile.FieldType.int)) ∈ mWS := List.mem_filter.mpr ⟨List.mem_of_getElem? (i := 325) (by rfl), by rfl⟩
set_option maxRecDepth 100000 in
theorem tw_326 : (Jvm.Cond.methodLinkNest "PancakePort$Reading" (78 : Nat) ({ cls := "PancakePort", name := "put", desc := "([III)V" } : Jvm.MethodName) "PancakePort") ∈ mNw := List.mem_filter.mpr ⟨List.mem_of_getElem? (i := 326) (by rfl), by rfl⟩
set_option maxRecDepth 100000 in
theorem tw_327 : (Jvm.Cond.methodLink "PancakePort$Reading" (56 : Nat) ({ cls := "PancakePort$Reading", name := "takesAfterSleeper", desc := "(I)Z" } : Jvm.MethodName)) ∈ mWS := List.mem_filter.mpr ⟨List.mem_of_getElem? (i := 327) (by rfl), by rfl⟩
set_option maxRecDepth 100000 in
theorem tw_329 : (Jvm.Cond.instanceMethod ({ cls := "PancakePort$Reading", name := "takesAfterSleeper", desc := "(I)Z" } : Jvm.MethodName)) ∈ mWS := List.mem_filter.mpr ⟨List.mem_of_getElem? (i := 329) (by rfl), by rfl⟩
set_option maxRecDepth 100000 in
theorem tw_330 : (Jvm.Cond.code ({ cls := "PancakePort$Reading", name := "takesAfterSleeper", desc := "(I)Z" } : Jvm.MethodName) prog_7_method_7_code (2 : Nat) (Option.some Jvm.ClassFile.FieldType.boolean)) ∈ mWS := List.mem_filter.mpr ⟨List.mem_of_getElem? (i := 330) (by rfl), by rfl⟩
set_option maxRecDepth 100000 in
theorem tw_331 : (Jvm.Cond.methodLink "PancakePort$Reading" (59 : Nat) ({ cls := "PancakePort$Reading", name := "takesKind", desc := "(I)Z" } : Jvm.MethodName)) ∈ mWS := List.mem_filter.mpr ⟨List.mem_of_getElem? (i := 331) (by rfl), by rfl⟩
set_option maxRecDepth 100000 in
theorem tw_333 : (Jvm.Cond.instanceMethod ({ cls := "PancakePort$Reading", name := "takesKind", desc := "(I)Z" } : Jvm.MethodName)) ∈ mWS := List.mem_filter.mpr ⟨List.mem_of_getElem? (i := 333) (by rfl), by rfl⟩
set_option maxRecDepth 100000 in
theorem tw_334 : (Jvm.Cond.code ({ cls := "PancakePort$Reading", name := "takesKind", desc := "(I)Z" } : Jvm.MethodName) prog_7_method_8_code (3 : Nat) (Option.some Jvm.ClassFile.FieldType.boolean)) ∈ mWS := List.mem_filter.mpr ⟨List.mem_of_getElem? (i := 334) (by rfl), by rfl⟩
set_option maxRecDepth 100000 in
theorem tw_336 : (Jvm.Cond.methodLink "PancakePort$Reading" (84 : Nat) ({ cls := "java/lang/String", name := "indexOf", desc := "(I)I" } : Jvm.MethodName)) ∈ mWS := List.mem_filter.mpr ⟨List.mem_of_getElem? (i := 336) (by rfl), by rfl⟩
set_option maxRecDepth 100000 in
theorem tw_337 : (Jvm.Cond.instanceMethod ({ cls := "java/lang/String", name := "indexOf", desc := "(I)I" } : Jvm.MethodName)) ∈ mWS := List.mem_filter.mpr ⟨List.mem_of_getElem? (i := 337) (by rfl), by rfl⟩
set_option maxRecDepth 100000 in
theorem tw_338 : (Jvm.Cond.selects "java/lang/String" ({ cls := "java/lang/String", name := "indexOf", desc := "(I)I" } : Jvm.MethodName) ({ cls := "java/lang/String", name := "indexOf", desc := "(I)I" } : Jvm.MethodName)) ∈ mWS := List.mem_filter.mpr ⟨List.mem_of_getElem? (i := 338) (by rfl), by rfl⟩
set_option maxRecDepth 100000 in
theorem tw_339 : (Jvm.Cond.code ({ cls := "java/lang/String", name := "indexOf", desc := "(I)I" } : Jvm.MethodName) prog_17_method_79_code (2 : Nat) (Option.some Jvm.ClassFile.FieldType.int)) ∈ mWS := List.mem_filter.mpr ⟨List.mem_of_getElem? (i := 339) (by rfl), by rfl⟩
set_option maxRecDepth 100000 in
theorem tw_340 : (Jvm.Cond.methodLink "java/lang/String" (633 : Nat) ({ cls := "java/lang/String", name := "indexOf", desc := "(II)I" } : Jvm.MethodName)) ∈ mWS := List.mem_filter.mpr ⟨List.mem_of_getElem? (i := 340) (by rfl), by rfl⟩
set_option maxRecDepth 100000 in
theorem tw_341 : (Jvm.Cond.instanceMethod ({ cls := "java/lang/String", name := "indexOf", desc := "(II)I" } : Jvm.MethodName)) ∈ mWS := List.mem_filter.mpr ⟨List.mem_of_getElem? (i := 341) (by rfl), by rfl⟩
set_option maxRecDepth 100000 in
theorem tw_342 : (Jvm.Cond.selects "java/lang/String" ({ cls := "java/lang/String", name := "indexOf", desc := "(II)I" } : Jvm.MethodName) ({ cls := "java/lang/String", name := "indexOf", desc := "(II)I" } : Jvm.MethodName)) ∈ mWS := List.mem_filter.mpr ⟨List.mem_of_getElem? (i := 342) (by rfl), by rfl⟩
set_option maxRecDepth 100000 in
theorem tw_343 : (Jvm.Cond.code ({ cls := "java/lang/String", name := "indexOf", desc := "(II)I" } : Jvm.MethodName) prog_17_method_80_code (3 : Nat) (Option.some Jvm.ClassFile.FieldType.int)) ∈ mWS := List.mem_filter.mpr ⟨List.mem_of_getElem? (i := 343) (by rfl), by rfl⟩
set_option maxRecDepth 100000 in
theorem tw_344 : (Jvm.Cond.methodLink "java/lang/String" (492 : Nat) ({ cls := "java/lang/String", name := "isLatin1", desc := "()Z" } : Jvm.MethodName)) ∈ mWS := List.mem_filter.mpr ⟨List.mem_of_getElem? (i := 344) (by rfl), by rfl⟩
set_option maxRecDepth 100000 in
theorem tw_345 : (Jvm.Cond.instanceMethod ({ cls := "java/lang/String", name := "isLatin1", desc := "()Z" } : Jvm.MethodName)) ∈ mWS := List.mem_filter.mpr ⟨List.mem_of_getElem? (i := 345) (by rfl), by rfl⟩
set_option maxRecDepth 100000 in
theorem tw_346 : (Jvm.Cond.selects "java/lang/String" ({ cls := "java/lang/String", name := "isLatin1", desc := "()Z" } : Jvm.MethodName) ({ cls := "java/lang/String", name := "isLatin1", desc := "()Z" } : Jvm.MethodName)) ∈ mWS := List.mem_filter.mpr ⟨List.mem_of_getElem? (i := 346) (by rfl), by rfl⟩
set_option maxRecDepth 100000 in
theorem tw_347 : (Jvm.Cond.code ({ cls := "java/lang/String", name := "isLatin1", desc := "()Z" } : Jvm.MethodName) prog_17_method_154_code (1 : Nat) (Option.some Jvm.ClassFile.FieldType.boolean)) ∈ mWS := List.mem_filter.mpr ⟨List.mem_of_getElem? (i := 347) (by rfl), by rfl⟩
set_option maxRecDepth 100000 in
theorem tw_348 : (Jvm.Cond.fieldLink "java/lang/String" (38 : Nat) "java/lang/String" "COMPACT_STRINGS" "Z") ∈ mWS := List.mem_filter.mpr ⟨List.mem_of_getElem? (i := 348) (by rfl), by rfl⟩
set_option maxRecDepth 100000 in
theorem tw_350 : (Jvm.Cond.methodLink "java/lang/String" (505 : Nat) ({ cls := "java/lang/String", name := "length", desc := "()I" } : Jvm.MethodName)) ∈ mWS := List.mem_filter.mpr ⟨List.mem_of_getElem? (i := 350) (by rfl), by rfl⟩
set_option maxRecDepth 100000 in
theorem tw_351 : (Jvm.Cond.instanceMethod ({ cls := "java/lang/String", name := "length", desc := "()I" } : Jvm.MethodName)) ∈ mWS := List.mem_filter.mpr ⟨List.mem_of_getElem? (i := 351) (by rfl), by rfl⟩
set_option maxRecDepth 100000 in
theorem tw_352 : (Jvm.Cond.selects "java/lang/String" ({ cls := "java/lang/String", name := "length", desc := "()I" } : Jvm.MethodName) ({ cls := "java/lang/String", name := "length", desc := "()I" } : Jvm.MethodName)) ∈ mWS := List.mem_filter.mpr ⟨List.mem_of_getElem? (i := 352) (by rfl), by rfl⟩
set_option maxRecDepth 100000 in
theorem tw_353 : (Jvm.Cond.code ({ cls := "java/lang/String", name := "length", desc := "()I" } : Jvm.MethodName) prog_17_method_54_code (1 : Nat) (Option.some Jvm.ClassFile.FieldType.int)) ∈ mWS := List.mem_filter.mpr ⟨List.mem_of_getElem? (i := 353) (by rfl), by rfl⟩
set_option maxRecDepth 100000 in
theorem tw_354 : (Jvm.Cond.methodLink "java/lang/String" (335 : Nat) ({ cls := "java/lang/String", name := "coder", desc := "()B" } : Jvm.MethodName)) ∈ mWS := List.mem_filter.mpr ⟨List.mem_of_getElem? (i := 354) (by rfl), by rfl⟩
set_option maxRecDepth 100000 in
theorem tw_355 : (Jvm.Cond.instanceMethod ({ cls := "java/lang/String", name := "coder", desc := "()B" } : Jvm.MethodName)) ∈ mWS := List.mem_filter.mpr ⟨List.mem_of_getElem? (i := 355) (by rfl), by rfl⟩
set_option maxRecDepth 100000 in
theorem tw_356 : (Jvm.Cond.selects "java/lang/String" ({ cls := "java/lang/String", name := "coder", desc := "()B" } : Jvm.MethodName) ({ cls := "java/lang/String", name := "coder", desc := "()B" } : Jvm.MethodName)) ∈ mWS := List.mem_filter.mpr ⟨List.mem_of_getElem? (i := 356) (by rfl), by rfl⟩
set_option maxRecDepth 100000 in
theorem tw_357 : (Jvm.Cond.code ({ cls := "java/lang/String", name := "coder", desc := "()B" } : Jvm.MethodName) prog_17_method_152_code (1 : Nat) (Option.some Jvm.ClassFile.FieldType.byte)) ∈ mWS := List.mem_filter.mpr ⟨List.mem_of_getElem? (i := 357) (by rfl), by rfl⟩
set_option maxRecDepth 100000 in
theorem tw_358 : (Jvm.Cond.methodLink "java/lang/String" (637 : Nat) ({ cls := "java/lang/StringLatin1", name := "indexOf", desc := "([BIII)I" } : Jvm.MethodName)) ∈ mWS := List.mem_filter.mpr ⟨List.mem_of_getElem? (i := 358) (by rfl), by rfl⟩
set_option maxRecDepth 100000 in
theorem tw_359 : (Jvm.Cond.static ({ cls := "java/lang/StringLatin1", name := "indexOf", desc := "([BIII)I" } : Jvm.MethodName)) ∈ mWS := List.mem_filter.mpr ⟨List.mem_of_getElem? (i := 359) (by rfl), by rfl⟩
set_option maxRecDepth 100000 in
theorem tw_360 : (Jvm.Cond.code ({ cls := "java/lang/StringLatin1", name := "indexOf", desc := "([BIII)I" } : Jvm.MethodName) prog_18_method_22_code (4 : Nat) (Option.some Jvm.ClassFile.FieldType.int)) ∈ mWS := List.mem_filter.mpr ⟨List.mem_of_getElem? (i := 360) (by rfl), by rfl⟩
set_option maxRecDepth 100000 in
theorem tw_361 : (Jvm.Cond.methodLink "java/lang/StringLatin1" (88 : Nat) ({ cls := "java/lang/StringLatin1", name := "canEncode", desc := "(I)Z" } : Jvm.MethodName)) ∈ mWS := List.mem_filter.mpr ⟨List.mem_of_getElem? (i := 361) (by rfl), by rfl⟩
set_option maxRecDepth 100000 in
theorem tw_362 : (Jvm.Cond.static ({ cls := "java/lang/StringLatin1", name := "canEncode", desc := "(I)Z" } : Jvm.MethodName)) ∈ mWS := List.mem_filter.mpr ⟨List.mem_of_getElem? (i := 362) (by rfl), by rfl⟩
set_option maxRecDepth 100000 in
theorem tw_363 : (Jvm.Cond.code ({ cls := "java/lang/StringLatin1", name := "canEncode", desc := "(I)Z" } : Jvm.MethodName) prog_18_method_4_code (1 : Nat) (Option.some Jvm.ClassFile.FieldType.boolean)) ∈ mWS := List.mem_filter.mpr ⟨List.mem_of_getElem? (i := 363) (by rfl), by rfl⟩
set_option maxRecDepth 100000 in
theorem tw_364 : (Jvm.Cond.methodLink "java/lang/StringLatin1" (92 : Nat) ({ cls := "java/lang/Math", name := "max", desc := "(II)I" } : Jvm.MethodName)) ∈ mWS := List.mem_filter.mpr ⟨List.mem_of_getElem? (i := 364) (by rfl), by rfl⟩
set_option maxRecDepth 100000 in
theorem tw_365 : (Jvm.Cond.static ({ cls := "java/lang/Math", name := "max", desc := "(II)I" } : Jvm.MethodName)) ∈ mWS := List.mem_filter.mpr ⟨List.mem_of_getElem? (i := 365) (by rfl), by rfl⟩
set_option maxRecDepth 100000 in
theorem tw_366 : (Jvm.Cond.code ({ cls := "java/lang/Math", name := "max", desc := "(II)I" } : Jvm.MethodName) prog_16_method_65_code (2 : Nat) (Option.some Jvm.ClassFile.FieldType.int)) ∈ mWS := List.mem_filter.mpr ⟨List.mem_of_getElem? (i := 366) (by rfl), by rfl⟩
set_option maxRecDepth 100000 in
theorem tw_367 : (Jvm.Cond.methodLink "java/lang/StringLatin1" (38 : Nat) ({ cls := "java/lang/Math", name := "min", desc := "(II)I" } : Jvm.MethodName)) ∈ mWS := List.mem_filter.mpr ⟨List.mem_of_getElem? (i := 367) (by rfl), by rfl⟩
set_option maxRecDepth 100000 in
theorem tw_368 : (Jvm.Cond.static ({ cls := "java/lang/Math", name := "min", desc := "(II)I" } : Jvm.MethodName)) ∈ mWS := List.mem_filter.mpr ⟨List.mem_of_getElem? (i := 368) (by rfl), by rfl⟩
set_option maxRecDepth 100000 in
theorem tw_369 : (Jvm.Cond.code ({ cls := "java/lang/Math", name := "min", desc := "(II)I" } : Jvm.MethodName) prog_16_method_69_code (2 : Nat) (Option.some Jvm.ClassFile.FieldType.int)) ∈ mWS := List.mem_filter.mpr ⟨List.mem_of_getElem? (i := 369) (by rfl), by rfl⟩
set_option maxRecDepth 100000 in
theorem tw_370 : (Jvm.Cond.methodLink "java/lang/StringLatin1" (95 : Nat) ({ cls := "java/lang/StringLatin1", name := "indexOfChar", desc := "([BIII)I" } : Jvm.MethodName)) ∈ mWS := List.mem_filter.mpr ⟨List.mem_of_getElem? (i := 370) (by rfl), by rfl⟩
set_option maxRecDepth 100000 in
theorem tw_371 : (Jvm.Cond.static ({ cls := "java/lang/StringLatin1", name := "indexOfChar", desc := "([BIII)I" } : Jvm.MethodName)) ∈ mWS := List.mem_filter.mpr ⟨List.mem_of_getElem? (i := 371) (by rfl), by rfl⟩
set_option maxRecDepth 100000 in
theorem tw_372 : (Jvm.Cond.code ({ cls := "java/lang/StringLatin1", name := "indexOfChar", desc := "([BIII)I" } : Jvm.MethodName) prog_18_method_23_code (6 : Nat) (Option.some Jvm.ClassFile.FieldType.int)) ∈ mWS := List.mem_filter.mpr ⟨List.mem_of_getElem? (i := 372) (by rfl), by rfl⟩
set_option maxRecDepth 100000 in
theorem tw_373 : (Jvm.Cond.methodLink "java/lang/String" (640 : Nat) ({ cls := "java/lang/StringUTF16", name := "indexOf", desc := "([BIII)I" } : Jvm.MethodName)) ∈ mWS := List.mem_filter.mpr ⟨List.mem_of_getElem? (i := 373) (by rfl), by rfl⟩
set_option maxRecDepth 100000 in
theorem tw_374 : (Jvm.Cond.static ({ cls := "java/lang/StringUTF16", name := "indexOf", desc := "([BIII)I" } : Jvm.MethodName)) ∈ mWS := List.mem_filter.mpr ⟨List.mem_of_getElem? (i := 374) (by rfl), by rfl⟩
set_option maxRecDepth 100000 in
theorem tw_375 : (Jvm.Cond.code ({ cls := "java/lang/StringUTF16", name := "indexOf", desc := "([BIII)I" } : Jvm.MethodName) prog_19_method_40_code (4 : Nat) (Option.some Jvm.ClassFile.FieldType.int)) ∈ mWS := List.mem_filter.mpr ⟨List.mem_of_getElem? (i := 375) (by rfl), by rfl⟩
set_option maxRecDepth 100000 in
theorem tw_376 : (Jvm.Cond.methodLink "java/lang/StringUTF16" (224 : Nat) ({ cls := "java/lang/Math", name := "max", desc := "(II)I" } : Jvm.MethodName)) ∈ mWS := List.mem_filter.mpr ⟨List.mem_of_getElem? (i := 376) (by rfl), by rfl⟩
set_option maxRecDepth 100000 in
theorem tw_377 : (Jvm.Cond.methodLink "java/lang/StringUTF16" (183 : Nat) ({ cls := "java/lang/Math", name := "min", desc := "(II)I" } : Jvm.MethodName)) ∈ mWS := List.mem_filter.mpr ⟨List.mem_of_getElem? (i := 377) (by rfl), by rfl⟩
set_option maxRecDepth 100000 in
theorem tw_378 : (Jvm.Cond.constant "java/lang/StringUTF16" (227 : Nat) (65536 : Int32)) ∈ mWS := List.mem_filter.mpr ⟨List.mem_of_getElem? (i := 378) (by rfl), by rfl⟩
set_option maxRecDepth 100000 in
theorem tw_379 : (Jvm.Cond.methodLink "java/lang/StringUTF16" (228 : Nat) ({ cls := "java/lang/StringUTF16", name := "indexOfChar", desc := "([BIII)I" } : Jvm.MethodName)) ∈ mWS := List.mem_filter.mpr ⟨List.mem_of_getElem? (i := 379) (by rfl), by rfl⟩
set_option maxRecDepth 100000 in
theorem tw_380 : (Jvm.Cond.static ({ cls := "java/lang/StringUTF16", name := "indexOfChar", desc := "([BIII)I" } : Jvm.MethodName)) ∈ mWS := List.mem_filter.mpr ⟨List.mem_of_getElem? (i := 380) (by rfl), by rfl⟩
set_option maxRecDepth 100000 in
theorem tw_381 : (Jvm.Cond.code ({ cls := "java/lang/StringUTF16", name := "indexOfChar", desc := "([BIII)I" } : Jvm.MethodName) prog_19_method_47_code (4 : Nat) (Option.some Jvm.ClassFile.FieldType.int)) ∈ mWS := List.mem_filter.mpr ⟨List.mem_of_getElem? (i := 381) (by rfl), by rfl⟩
set_option maxRecDepth 100000 in
theorem tw_382 : (Jvm.Cond.methodLink "java/lang/StringUTF16" (96 : Nat) ({ cls := "java/lang/StringUTF16", name := "checkBoundsBeginEnd", desc := "(II[B)V" } : Jvm.MethodName)) ∈ mWS := List.mem_filter.mpr ⟨List.mem_of_getElem? (i := 382) (by rfl), by rfl⟩
set_option maxRecDepth 100000 in
theorem tw_383 : (Jvm.Cond.static ({ cls := "java/lang/StringUTF16", name := "checkBoundsBeginEnd", desc := "(II[B)V" } : Jvm.MethodName)) ∈ mWS := List.mem_filter.mpr ⟨List.mem_of_getElem? (i := 383) (by rfl), by rfl⟩
set_option maxRecDepth 100000 in
theorem tw_384 : (Jvm.Cond.code ({ cls := "java/lang/StringUTF16", name := "checkBoundsBeginEnd", desc := "(II[B)V" } : Jvm.MethodName) prog_19_method_93_code (3 : Nat) (Option.none : Option Jvm.ClassFile.FieldType)) ∈ mWS := List.mem_filter.mpr ⟨List.mem_of_getElem? (i := 384) (by rfl), by rfl⟩
set_option maxRecDepth 100000 in
theorem tw_385 : (Jvm.Cond.methodLink "java/lang/StringUTF16" (48 : Nat) ({ cls := "java/lang/StringUTF16", name := "length", desc := "([B)I" } : Jvm.MethodName)) ∈ mWS := List.mem_filter.mpr ⟨List.mem_of_getElem? (i := 385) (by rfl), by rfl⟩
set_option maxRecDepth 100000 in
theorem tw_386 : (Jvm.Cond.static ({ cls := "java/lang/StringUTF16", name := "length", desc := "([B)I" } : Jvm.MethodName)) ∈ mWS := List.mem_filter.mpr ⟨List.mem_of_getElem? (i := 386) (by rfl), by rfl⟩
set_option maxRecDepth 100000 in
theorem tw_387 : (Jvm.Cond.code ({ cls := "java/lang/StringUTF16", name := "length", desc := "([B)I" } : Jvm.MethodName) prog_19_method_6_code (1 : Nat) (Option.some Jvm.ClassFile.FieldType.int)) ∈ mWS := List.mem_filter.mpr ⟨List.mem_of_getElem? (i := 387) (by rfl), by rfl⟩
set_option maxRecDepth 100000 in
theorem tw_388 : (Jvm.Cond.methodLink "java/lang/StringUTF16" (241 : Nat) ({ cls := "java/lang/String", name := "checkBoundsBeginEnd", desc := "(III)V" } : Jvm.MethodName)) ∈ mWS := List.mem_filter.mpr ⟨List.mem_of_getElem? (i := 388) (by rfl), by rfl⟩
set_option maxRecDepth 100000 in
theorem tw_389 : (Jvm.Cond.static ({ cls := "java/lang/String", name := "checkBoundsBeginEnd", desc := "(III)V" } : Jvm.MethodName)) ∈ mWS := List.mem_filter.mpr ⟨List.mem_of_getElem? (i := 389) (by rfl), by rfl⟩
set_option maxRecDepth 100000 in
theorem tw_390 : (Jvm.Cond.code ({ cls := "java/lang/String", name := "checkBoundsBeginEnd", desc := "(III)V" } : Jvm.MethodName) prog_17_method_158_code (3 : Nat) (Option.none : Option Jvm.ClassFile.FieldType)) ∈ mWS := List.mem_filter.mpr ⟨List.mem_of_getElem? (i := 390) (by rfl), by rfl⟩
set_option maxRecDepth 100000 in
theorem tw_391 : (Jvm.Cond.fieldLink "java/lang/String" (1053 : Nat) "jdk/internal/util/Preconditions" "SIOOBE_FORMATTER" "Ljava/util/function/BiFunction;") ∈ mWS := List.mem_filter.mpr ⟨List.mem_of_getElem? (i := 391) (by rfl), by rfl⟩
set_option maxRecDepth 100000 in
theorem tw_393 : (Jvm.Cond.methodLink "java/lang/String" (1062 : Nat) ({ cls := "jdk/internal/util/Preconditions", name := "checkFromToIndex", desc := "(IIILjava/util/function/BiFunction;)I" } : Jvm.MethodName)) ∈ mWS := List.mem_filter.mpr ⟨List.mem_of_getElem? (i := 393) (by rfl), by rfl⟩
set_option maxRecDepth 100000 in
theorem tw_394 : (Jvm.Cond.static ({ cls := "jdk/internal/util/Preconditions", name := "checkFromToIndex", desc := "(IIILjava/util/function/BiFunction;)I" } : Jvm.MethodName)) ∈ mWS := List.mem_filter.mpr ⟨List.mem_of_getElem? (i := 394) (by rfl), by rfl⟩
set_option maxRecDepth 100000 in
theorem tw_395 : (Jvm.Cond.code ({ cls := "jdk/internal/util/Preconditions", name := "checkFromToIndex", desc := "(IIILjava/util/function/BiFunction;)I" } : Jvm.MethodName) prog_20_method_12_code (4 : Nat) (Option.some Jvm.ClassFile.FieldType.int)) ∈ mWS := List.mem_filter.mpr ⟨List.mem_of_getElem? (i := 395) (by rfl), by rfl⟩
set_option maxRecDepth 100000 in
theorem tw_396 : (Jvm.Cond.methodLink "java/lang/StringUTF16" (244 : Nat) ({ cls := "java/lang/StringUTF16", name := "indexOfCharUnsafe", desc := "([BIII)I" } : Jvm.MethodName)) ∈ mWS := List.mem_filter.mpr ⟨List.mem_of_getElem? (i := 396) (by rfl), by rfl⟩
set_option maxRecDepth 100000 in
theorem tw_397 : (Jvm.Cond.static ({ cls := "java/lang/StringUTF16", name := "indexOfCharUnsafe", desc := "([BIII)I" } : Jvm.MethodName)) ∈ mWS := List.mem_filter.mpr ⟨List.mem_of_getElem? (i := 397) (by rfl), by rfl⟩
set_option maxRecDepth 100000 in
theorem tw_398 : (Jvm.Cond.code ({ cls := "java/lang/StringUTF16", name := "indexOfCharUnsafe", desc := "([BIII)I" } : Jvm.MethodName) prog_19_method_48_code (5 : Nat) (Option.some Jvm.ClassFile.FieldType.int)) ∈ mWS := List.mem_filter.mpr ⟨List.mem_of_getElem? (i := 398) (by rfl), by rfl⟩
set_option maxRecDepth 100000 in
theorem tw_399 : (Jvm.Cond.methodLink "java/lang/StringUTF16" (71 : Nat) ({ cls := "java/lang/StringUTF16", name := "getChar", desc := "([BI)C" } : Jvm.MethodName)) ∈ mWS := List.mem_filter.mpr ⟨List.mem_of_getElem? (i := 399) (by rfl), by rfl⟩
set_option maxRecDepth 100000 in
theorem tw_400 : (Jvm.Cond.static ({ cls := "java/lang/StringUTF16", name := "getChar", desc := "([BI)C" } : Jvm.MethodName)) ∈ mWS := List.mem_filter.mpr ⟨List.mem_of_getElem? (i := 400) (by rfl), by rfl⟩
set_option maxRecDepth 100000 in
theorem tw_401 : (Jvm.Cond.code ({ cls := "java/lang/StringUTF16", name := "getChar", desc := "([BI)C" } : Jvm.MethodName) prog_19_method_5_code (2 : Nat) (Option.some Jvm.ClassFile.FieldType.char)) ∈ mWS := List.mem_filter.mpr ⟨List.mem_of_getElem? (i := 401) (by rfl), by rfl⟩
set_option maxRecDepth 100000 in
theorem tw_402 : (Jvm.Cond.fieldLink "java/lang/StringUTF16" (44 : Nat) "java/lang/StringUTF16" "$assertionsDisabled" "Z") ∈ mWS := List.mem_filter.mpr ⟨List.mem_of_getElem? (i := 402) (by rfl), by rfl⟩
set_option maxRecDepth 100000 in
theorem tw_404 : (Jvm.Cond.fieldLink "java/lang/StringUTF16" (59 : Nat) "java/lang/StringUTF16" "HI_BYTE_SHIFT" "I") ∈ mWS := List.mem_filter.mpr ⟨List.mem_of_getElem? (i := 404) (by rfl), by rfl⟩
set_option maxRecDepth 100000 in
theorem tw_406 : (Jvm.Cond.fieldLink "java/lang/StringUTF16" (63 : Nat) "java/lang/StringUTF16" "LO_BYTE_SHIFT" "I") ∈ mWS := List.mem_filter.mpr ⟨List.mem_of_getElem? (i := 406) (by rfl), by rfl⟩
set_option maxRecDepth 100000 in
theorem tw_408 : (Jvm.Cond.methodLink "java/lang/StringUTF16" (232 : Nat) ({ cls := "java/lang/StringUTF16", name := "indexOfSupplementary", desc := "([BIII)I" } : Jvm.MethodName)) ∈ mWS := List.mem_filter.mpr ⟨List.mem_of_getElem? (i := 408) (by rfl), by rfl⟩
set_option maxRecDepth 100000 in
theorem tw_409 : (Jvm.Cond.static ({ cls := "java/lang/StringUTF16", name := "indexOfSupplementary", desc := "([BIII)I" } : Jvm.MethodName)) ∈ mWS := List.mem_filter.mpr ⟨List.mem_of_getElem? (i := 409) (by rfl), by rfl⟩
set_option maxRecDepth 100000 in
theorem tw_410 : (Jvm.Cond.code ({ cls := "java/lang/StringUTF16", name := "indexOfSupplementary", desc := "([BIII)I" } : Jvm.MethodName) prog_19_method_49_code (7 : Nat) (Option.some Jvm.ClassFile.FieldType.int)) ∈ mWS := List.mem_filter.mpr ⟨List.mem_of_getElem? (i := 410) (by rfl), by rfl⟩
set_option maxRecDepth 100000 in
theorem tw_411 : (Jvm.Cond.methodLink "java/lang/StringUTF16" (164 : Nat) ({ cls := "java/lang/Character", name := "isValidCodePoint", desc := "(I)Z" } : Jvm.MethodName)) ∈ mWS := List.mem_filter.mpr ⟨List.mem_of_getElem? (i := 411) (by rfl), by rfl⟩
set_option maxRecDepth 100000 in
theorem tw_412 : (Jvm.Cond.static ({ cls := "java/lang/Character", name := "isValidCodePoint", desc := "(I)Z" } : Jvm.MethodName)) ∈ mWS := List.mem_filter.mpr ⟨List.mem_of_getElem? (i := 412) (by rfl), by rfl⟩
set_option maxRecDepth 100000 in
theorem tw_413 : (Jvm.Cond.code ({ cls := "java/lang/Character", name := "isValidCodePoint", desc := "(I)Z" } : Jvm.MethodName) prog_14_method_11_code (2 : Nat) (Option.some Jvm.ClassFile.FieldType.boolean)) ∈ mWS := List.mem_filter.mpr ⟨List.mem_of_getElem? (i := 413) (by rfl), by rfl⟩
set_option maxRecDepth 100000 in
theorem tw_414 : (Jvm.Cond.methodLink "java/lang/StringUTF16" (157 : Nat) ({ cls := "java/lang/Character", name := "highSurrogate", desc := "(I)C" } : Jvm.MethodName)) ∈ mWS := List.mem_filter.mpr ⟨List.mem_of_getElem? (i := 414) (by rfl), by rfl⟩
set_option maxRecDepth 100000 in
theorem tw_415 : (Jvm.Cond.static ({ cls := "java/lang/Character", name := "highSurrogate", desc := "(I)C" } : Jvm.MethodName)) ∈ mWS := List.mem_filter.mpr ⟨List.mem_of_getElem? (i := 415) (by rfl), by rfl⟩
set_option maxRecDepth 100000 in
theorem tw_416 : (Jvm.Cond.code ({ cls := "java/lang/Character", name := "highSurrogate", desc := "(I)C" } : Jvm.MethodName) prog_14_method_28_code (1 : Nat) (Option.some Jvm.ClassFile.FieldType.char)) ∈ mWS := List.mem_filter.mpr ⟨List.mem_of_getElem? (i := 416) (by rfl), by rfl⟩
set_option maxRecDepth 100000 in
theorem tw_417 : (Jvm.Cond.constant "java/lang/Character" (110 : Nat) (55232 : Int32)) ∈ mWS := List.mem_filter.mpr ⟨List.mem_of_getElem? (i := 417) (by rfl), by rfl⟩
set_option maxRecDepth 100000 in
theorem tw_418 : (Jvm.Cond.methodLink "java/lang/StringUTF16" (161 : Nat) ({ cls := "java/lang/Character", name := "lowSurrogate", desc := "(I)C" } : Jvm.MethodName)) ∈ mWS := List.mem_filter.mpr ⟨List.mem_of_getElem? (i := 418) (by rfl), by rfl⟩
set_option maxRecDepth 100000 in
theorem tw_419 : (Jvm.Cond.static ({ cls := "java/lang/Character", name := "lowSurrogate", desc := "(I)C" } : Jvm.MethodName)) ∈ mWS := List.mem_filter.mpr ⟨List.mem_of_getElem? (i := 419) (by rfl), by rfl⟩
set_option maxRecDepth 100000 in
theorem tw_420 : (Jvm.Cond.code ({ cls := "java/lang/Character", name := "lowSurrogate", desc := "(I)C" } : Jvm.MethodName) prog_14_method_29_code (1 : Nat) (Option.some Jvm.ClassFile.FieldType.char)) ∈ mWS := List.mem_filter.mpr ⟨List.mem_of_getElem? (i := 420) (by rfl), by rfl⟩
set_option maxRecDepth 100000 in
theorem tw_421 : (Jvm.Cond.constant "java/lang/Character" (76 : Nat) (56320 : Int32)) ∈ mWS := List.mem_filter.mpr ⟨List.mem_of_getElem? (i := 421) (by rfl), by rfl⟩
set_option maxRecDepth 100000 in
theorem tw_422 : (Jvm.Cond.methodLink "PancakePort$Reading" (62 : Nat) ({ cls := "PancakePort$Reading", name := "takesSouth", desc := "(I)Z" } : Jvm.MethodName)) ∈ mWS := List.mem_filter.mpr ⟨List.mem_of_getElem? (i := 422) (by rfl), by rfl⟩
set_option maxRecDepth 100000 in
theorem tw_424 : (Jvm.Cond.instanceMethod ({ cls := "PancakePort$Reading", name := "takesSouth", desc := "(I)Z" } : Jvm.MethodName)) ∈ mWS := List.mem_filter.mpr ⟨List.mem_of_getElem? (i := 424) (by rfl), by rfl⟩
set_option maxRecDepth 100000 in
theorem tw_425 : (Jvm.Cond.code ({ cls := "PancakePort$Reading", name := "takesSouth", desc := "(I)Z" } : Jvm.MethodName) prog_7_method_9_code (2 : Nat) (Option.some Jvm.ClassFile.FieldType.boolean)) ∈ mWS := List.mem_filter.mpr ⟨List.mem_of_getElem? (i := 425) (by rfl), by rfl⟩
set_option maxRecDepth 100000 in
theorem tw_426 : (Jvm.Cond.methodLinkNest "PancakePort$Reading" (90 : Nat) ({ cls := "PancakePort", name := "isTurn", desc := "(I)Z" } : Jvm.MethodName) "PancakePort") ∈ mNw := List.mem_filter.mpr ⟨List.mem_of_getElem? (i := 426) (by rfl), by rfl⟩
set_option maxRecDepth 100000 in
theorem tw_427 : (Jvm.Cond.static ({ cls := "PancakePort", name := "isTurn", desc := "(I)Z" } : Jvm.MethodName)) ∈ mWS := List.mem_filter.mpr ⟨List.mem_of_getElem? (i := 427) (by rfl), by rfl⟩
set_option maxRecDepth 100000 in
theorem tw_428 : (Jvm.Cond.code ({ cls := "PancakePort", name := "isTurn", desc := "(I)Z" } : Jvm.MethodName) prog_1_method_47_code (1 : Nat) (Option.some Jvm.ClassFile.FieldType.boolean)) ∈ mWS := List.mem_filter.mpr ⟨List.mem_of_getElem? (i := 428) (by rfl), by rfl⟩
set_option maxRecDepth 100000 in
theorem tw_429 : (Jvm.Cond.methodLink "PancakePort$Reading" (65 : Nat) ({ cls := "PancakePort$Reading", name := "takesEast", desc := "(I)Z" } : Jvm.MethodName)) ∈ mWS := List.mem_filter.mpr ⟨List.mem_of_getElem? (i := 429) (by rfl), by rfl⟩
set_option maxRecDepth 100000 in
theorem tw_431 : (Jvm.Cond.instanceMethod ({ cls := "PancakePort$Reading", name := "takesEast", desc := "(I)Z" } : Jvm.MethodName)) ∈ mWS := List.mem_filter.mpr ⟨List.mem_of_getElem? (i := 431) (by rfl), by rfl⟩
set_option maxRecDepth 100000 in
theorem tw_432 : (Jvm.Cond.code ({ cls := "PancakePort$Reading", name := "takesEast", desc := "(I)Z" } : Jvm.MethodName) prog_7_method_10_code (2 : Nat) (Option.some Jvm.ClassFile.FieldType.boolean)) ∈ mWS := List.mem_filter.mpr ⟨List.mem_of_getElem? (i := 432) (by rfl), by rfl⟩
set_option maxRecDepth 100000 in
theorem tw_433 : (Jvm.Cond.methodLink "PancakePort$Reading" (68 : Nat) ({ cls := "PancakePort$Reading", name := "takesAfterTosser", desc := "(I)Z" } : Jvm.MethodName)) ∈ mWS := List.mem_filter.mpr ⟨List.mem_of_getElem? (i := 433) (by rfl), by rfl⟩
set_option maxRecDepth 100000 in
theorem tw_435 : (Jvm.Cond.instanceMethod ({ cls := "PancakePort$Reading", name := "takesAfterTosser", desc := "(I)Z" } : Jvm.MethodName)) ∈ mWS := List.mem_filter.mpr ⟨List.mem_of_getElem? (i := 435) (by rfl), by rfl⟩
set_option maxRecDepth 100000 in
theorem tw_436 : (Jvm.Cond.code ({ cls := "PancakePort$Reading", name := "takesAfterTosser", desc := "(I)Z" } : Jvm.MethodName) prog_7_method_11_code (2 : Nat) (Option.some Jvm.ClassFile.FieldType.boolean)) ∈ mWS := List.mem_filter.mpr ⟨List.mem_of_getElem? (i := 436) (by rfl), by rfl⟩
set_option maxRecDepth 100000 in
theorem tw_437 : (Jvm.Cond.arrayClass Jvm.ClassFile.FieldType.byte) ∈ mWS := List.mem_filter.mpr ⟨List.mem_of_getElem? (i := 437) (by rfl), by rfl⟩
set_option maxRecDepth 100000 in
theorem tw_438 : (Jvm.Cond.methodLink "PancakePortLaw" (27 : Nat) ({ cls := "PancakePort", name := "port", desc := "()I" } : Jvm.MethodName)) ∈ mWS := List.mem_filter.mpr ⟨List.mem_of_getElem? (i := 438) (by rfl), by rfl⟩
set_option maxRecDepth 100000 in
theorem tw_439 : (Jvm.Cond.instanceMethod ({ cls := "PancakePort", name := "port", desc := "()I" } : Jvm.MethodName)) ∈ mWS := List.mem_filter.mpr ⟨List.mem_of_getElem? (i := 439) (by rfl), by rfl⟩
set_option maxRecDepth 100000 in
theorem tw_440 : (Jvm.Cond.selects "PancakePort" ({ cls := "PancakePort", name := "port", desc := "()I" } : Jvm.MethodName) ({ cls := "PancakePort", name := "port", desc := "()I" } : Jvm.MethodName)) ∈ mWS := List.mem_filter.mpr ⟨List.mem_of_getElem? (i := 440) (by rfl), by rfl⟩
set_option maxRecDepth 100000 in
theorem tw_441 : (Jvm.Cond.code ({ cls := "PancakePort", name := "port", desc := "()I" } : Jvm.MethodName) prog_1_method_5_code (1 : Nat) (Option.some Jvm.ClassFile.FieldType.int)) ∈ mWS := List.mem_filter.mpr ⟨List.mem_of_getElem? (i := 441) (by rfl), by rfl⟩
set_option maxRecDepth 100000 in
theorem tw_442 : (Jvm.Cond.methodLink "PancakePort" (62 : Nat) ({ cls := "PancakePort$Reading", name := "isWhole", desc := "()Z" } : Jvm.MethodName)) ∈ mWS := List.mem_filter.mpr ⟨List.mem_of_getElem? (i := 442) (by rfl), by rfl⟩
set_option maxRecDepth 100000 in
theorem tw_443 : (Jvm.Cond.instanceMethod ({ cls := "PancakePort$Reading", name := "isWhole", desc := "()Z" } : Jvm.MethodName)) ∈ mWS := List.mem_filter.mpr ⟨List.mem_of_getElem? (i := 443) (by rfl), by rfl⟩
set_option maxRecDepth 100000 in
theorem tw_444 : (Jvm.Cond.selects "PancakePort$Reading" ({ cls := "PancakePort$Reading", name := "isWhole", desc := "()Z" } : Jvm.MethodName) ({ cls := "PancakePort$Reading", name := "isWhole", desc := "()Z" } : Jvm.MethodName)) ∈ mWS := List.mem_filter.mpr ⟨List.mem_of_getElem? (i := 444) (by rfl), by rfl⟩
set_option maxRecDepth 100000 in
theorem tw_445 : (Jvm.Cond.code ({ cls := "PancakePort$Reading", name := "isWhole", desc := "()Z" } : Jvm.MethodName) prog_7_method_3_code (1 : Nat) (Option.some Jvm.ClassFile.FieldType.boolean)) ∈ mWS := List.mem_filter.mpr ⟨List.mem_of_getElem? (i := 445) (by rfl), by rfl⟩
set_option maxRecDepth 100000 in
theorem tw_446 : (Jvm.Cond.methodLink "PancakePort" (66 : Nat) ({ cls := "PancakePort", name := "settle", desc := "()V" } : Jvm.MethodName)) ∈ mWS := List.mem_filter.mpr ⟨List.mem_of_getElem? (i := 446) (by rfl), by rfl⟩
set_option maxRecDepth 100000 in
theorem tw_448 : (Jvm.Cond.instanceMethod ({ cls := "PancakePort", name := "settle", desc := "()V" } : Jvm.MethodName)) ∈ mWS := List.mem_filter.mpr ⟨List.mem_of_getElem? (i := 448) (by rfl), by rfl⟩
set_option maxRecDepth 100000 in
theorem tw_449 : (Jvm.Cond.code ({ cls := "PancakePort", name := "settle", desc := "()V" } : Jvm.MethodName) prog_1_method_36_code (2 : Nat) (Option.none : Option Jvm.ClassFile.FieldType)) ∈ mWS := List.mem_filter.mpr ⟨List.mem_of_getElem? (i := 449) (by rfl), by rfl⟩
set_option maxRecDepth 100000 in
theorem tw_450 : (Jvm.Cond.methodLink "PancakePort" (267 : Nat) ({ cls := "PancakePort$Night", name := "begin", desc := "(LPancakePort$Reading;)V" } : Jvm.MethodName)) ∈ mWS := List.mem_filter.mpr ⟨List.mem_of_getElem? (i := 450) (by rfl), by rfl⟩
set_option maxRecDepth 100000 in
theorem tw_451 : (Jvm.Cond.instanceMethod ({ cls := "PancakePort$Night", name := "begin", desc := "(LPancakePort$Reading;)V" } : Jvm.MethodName)) ∈ mWS := List.mem_filter.mpr ⟨List.mem_of_getElem? (i := 451) (by rfl), by rfl⟩
set_option maxRecDepth 100000 in
theorem tw_452 : (Jvm.Cond.selects "PancakePort$Night" ({ cls := "PancakePort$Night", name := "begin", desc := "(LPancakePort$Reading;)V" } : Jvm.MethodName) ({ cls := "PancakePort$Night", name := "begin", desc := "(LPancakePort$Reading;)V" } : Jvm.MethodName)) ∈ mWS := List.mem_filter.mpr ⟨List.mem_of_getElem? (i := 452) (by rfl), by rfl⟩
set_option maxRecDepth 100000 in
theorem tw_453 : (Jvm.Cond.code ({ cls := "PancakePort$Night", name := "begin", desc := "(LPancakePort$Reading;)V" } : Jvm.MethodName) prog_4_method_2_code (2 : Nat) (Option.none : Option Jvm.ClassFile.FieldType)) ∈ mWS := List.mem_filter.mpr ⟨List.mem_of_getElem? (i := 453) (by rfl), by rfl⟩
set_option maxRecDepth 100000 in
theorem tw_454 : (Jvm.Cond.methodLinkNest "PancakePort$Night" (40 : Nat) ({ cls := "PancakePort", name := "copy", desc := "([I[I)V" } : Jvm.MethodName) "PancakePort") ∈ mNw := List.mem_filter.mpr ⟨List.mem_of_getElem? (i := 454) (by rfl), by rfl⟩
set_option maxRecDepth 100000 in
theorem tw_455 : (Jvm.Cond.static ({ cls := "PancakePort", name := "copy", desc := "([I[I)V" } : Jvm.MethodName)) ∈ mWS := List.mem_filter.mpr ⟨List.mem_of_getElem? (i := 455) (by rfl), by rfl⟩
set_option maxRecDepth 100000 in
theorem tw_456 : (Jvm.Cond.code ({ cls := "PancakePort", name := "copy", desc := "([I[I)V" } : Jvm.MethodName) prog_1_method_57_code (3 : Nat) (Option.none : Option Jvm.ClassFile.FieldType)) ∈ mWS := List.mem_filter.mpr ⟨List.mem_of_getElem? (i := 456) (by rfl), by rfl⟩
set_option maxRecDepth 100000 in
theorem tw_457 : (Jvm.Cond.methodLink "PancakePort" (164 : Nat) ({ cls := "PancakePort", name := "put", desc := "([III)V" } : Jvm.MethodName)) ∈ mWS := List.mem_filter.mpr ⟨List.mem_of_getElem? (i := 457) (by rfl), by rfl⟩
set_option maxRecDepth 100000 in
theorem tw_458 : (Jvm.Cond.methodLinkNest "PancakePort$Night" (46 : Nat) ({ cls := "PancakePort", name := "clear", desc := "([I)V" } : Jvm.MethodName) "PancakePort") ∈ mNw := List.mem_filter.mpr ⟨List.mem_of_getElem? (i := 458) (by rfl), by rfl⟩
set_option maxRecDepth 100000 in
theorem tw_459 : (Jvm.Cond.static ({ cls := "PancakePort", name := "clear", desc := "([I)V" } : Jvm.MethodName)) ∈ mWS := List.mem_filter.mpr ⟨List.mem_of_getElem? (i := 459) (by rfl), by rfl⟩
set_option maxRecDepth 100000 in
theorem tw_460 : (Jvm.Cond.code ({ cls := "PancakePort", name := "clear", desc := "([I)V" } : Jvm.MethodName) prog_1_method_56_code (2 : Nat) (Option.none : Option Jvm.ClassFile.FieldType)) ∈ mWS := List.mem_filter.mpr ⟨List.mem_of_getElem? (i := 460) (by rfl), by rfl⟩
set_option maxRecDepth 100000 in
theorem tw_461 : (Jvm.Cond.methodLink "PancakePort" (82 : Nat) ({ cls := "PancakePort", name := "at", desc := "([II)I" } : Jvm.MethodName)) ∈ mWS := List.mem_filter.mpr ⟨List.mem_of_getElem? (i := 461) (by rfl), by rfl⟩
set_option maxRecDepth 100000 in
theorem tw_462 : (Jvm.Cond.methodLink "PancakePort" (274 : Nat) ({ cls := "PancakePort", name := "tosserOf", desc := "(I)LPancakePort$Tosser;" } : Jvm.MethodName)) ∈ mWS := List.mem_filter.mpr ⟨List.mem_of_getElem? (i := 462) (by rfl), by rfl⟩
set_option maxRecDepth 100000 in
theorem tw_463 : (Jvm.Cond.static ({ cls := "PancakePort", name := "tosserOf", desc := "(I)LPancakePort$Tosser;" } : Jvm.MethodName)) ∈ mWS := List.mem_filter.mpr ⟨List.mem_of_getElem? (i := 463) (by rfl), by rfl⟩
set_option maxRecDepth 100000 in
theorem tw_464 : (Jvm.Cond.code ({ cls := "PancakePort", name := "tosserOf", desc := "(I)LPancakePort$Tosser;" } : Jvm.MethodName) prog_1_method_59_code (1 : Nat) (Option.some (Jvm.ClassFile.FieldType.object "PancakePort$Tosser"))) ∈ mWS := List.mem_filter.mpr ⟨List.mem_of_getElem? (i := 464) (by rfl), by rfl⟩
set_option maxRecDepth 100000 in
theorem tw_465 : (Jvm.Cond.classLink "PancakePort" (320 : Nat) "PancakePort$Lacy") ∈ mWS := List.mem_filter.mpr ⟨List.mem_of_getElem? (i := 465) (by rfl), by rfl⟩
set_option maxRecDepth 100000 in
theorem tw_466 : (Jvm.Cond.instantiable "PancakePort$Lacy" (0 : Nat)) ∈ mWS := List.mem_filter.mpr ⟨List.mem_of_getElem? (i := 466) (by rfl), by rfl⟩
set_option maxRecDepth 100000 in
theorem tw_467 : (Jvm.Cond.methodLinkNest "PancakePort" (322 : Nat) ({ cls := "PancakePort$Lacy", name := "<init>", desc := "()V" } : Jvm.MethodName) "PancakePort") ∈ mNw := List.mem_filter.mpr ⟨List.mem_of_getElem? (i := 467) (by rfl), by rfl⟩
set_option maxRecDepth 100000 in
theorem tw_468 : (Jvm.Cond.instanceMethod ({ cls := "PancakePort$Lacy", name := "<init>", desc := "()V" } : Jvm.MethodName)) ∈ mWS := List.mem_filter.mpr ⟨List.mem_of_getElem? (i := 468) (by rfl), by rfl⟩
set_option maxRecDepth 100000 in
theorem tw_469 : (Jvm.Cond.code ({ cls := "PancakePort$Lacy", name := "<init>", desc := "()V" } : Jvm.MethodName) prog_2_method_1_code (1 : Nat) (Option.none : Option Jvm.ClassFile.FieldType)) ∈ mWS := List.mem_filter.mpr ⟨List.mem_of_getElem? (i := 469) (by rfl), by rfl⟩
set_option maxRecDepth 100000 in
theorem tw_470 : (Jvm.Cond.methodLinkNest "PancakePort$Lacy" (3 : Nat) ({ cls := "PancakePort$Tosser", name := "<init>", desc := "()V" } : Jvm.MethodName) "PancakePort") ∈ mNw := List.mem_filter.mpr ⟨List.mem_of_getElem? (i := 470) (by rfl), by rfl⟩
set_option maxRecDepth 100000 in
theorem tw_471 : (Jvm.Cond.instanceMethod ({ cls := "PancakePort$Tosser", name := "<init>", desc := "()V" } : Jvm.MethodName)) ∈ mWS := List.mem_filter.mpr ⟨List.mem_of_getElem? (i := 471) (by rfl), by rfl⟩
set_option maxRecDepth 100000 in
theorem tw_472 : (Jvm.Cond.code ({ cls := "PancakePort$Tosser", name := "<init>", desc := "()V" } : Jvm.MethodName) prog_10_method_1_code (1 : Nat) (Option.none : Option Jvm.ClassFile.FieldType)) ∈ mWS := List.mem_filter.mpr ⟨List.mem_of_getElem? (i := 472) (by rfl), by rfl⟩
set_option maxRecDepth 100000 in
theorem tw_473 : (Jvm.Cond.methodLink "PancakePort$Tosser" (3 : Nat) ({ cls := "java/lang/Object", name := "<init>", desc := "()V" } : Jvm.MethodName)) ∈ mWS := List.mem_filter.mpr ⟨List.mem_of_getElem? (i := 473) (by rfl), by rfl⟩
set_option maxRecDepth 100000 in
theorem tw_474 : (Jvm.Cond.superclass "PancakePort$Lacy" "PancakePort$Tosser") ∈ mWS := List.mem_filter.mpr ⟨List.mem_of_getElem? (i := 474) (by rfl), by rfl⟩
set_option maxRecDepth 100000 in
theorem tw_475 : (Jvm.Cond.classLink "PancakePort" (323 : Nat) "PancakePort$Wide") ∈ mWS := List.mem_filter.mpr ⟨List.mem_of_getElem? (i := 475) (by rfl), by rfl⟩
set_option maxRecDepth 100000 in
theorem tw_476 : (Jvm.Cond.instantiable "PancakePort$Wide" (0 : Nat)) ∈ mWS := List.mem_filter.mpr ⟨List.mem_of_getElem? (i := 476) (by rfl), by rfl⟩
set_option maxRecDepth 100000 in
theorem tw_477 : (Jvm.Cond.methodLinkNest "PancakePort" (325 : Nat) ({ cls := "PancakePort$Wide", name := "<init>", desc := "()V" } : Jvm.MethodName) "PancakePort") ∈ mNw := List.mem_filter.mpr ⟨List.mem_of_getElem? (i := 477) (by rfl), by rfl⟩
set_option maxRecDepth 100000 in
theorem tw_478 : (Jvm.Cond.instanceMethod ({ cls := "PancakePort$Wide", name := "<init>", desc := "()V" } : Jvm.MethodName)) ∈ mWS := List.mem_filter.mpr ⟨List.mem_of_getElem? (i := 478) (by rfl), by rfl⟩
set_option maxRecDepth 100000 in
theorem tw_479 : (Jvm.Cond.code ({ cls := "PancakePort$Wide", name := "<init>", desc := "()V" } : Jvm.MethodName) prog_11_method_1_code (1 : Nat) (Option.none : Option Jvm.ClassFile.FieldType)) ∈ mWS := List.mem_filter.mpr ⟨List.mem_of_getElem? (i := 479) (by rfl), by rfl⟩
set_option maxRecDepth 100000 in
theorem tw_480 : (Jvm.Cond.methodLinkNest "PancakePort$Wide" (3 : Nat) ({ cls := "PancakePort$Tosser", name := "<init>", desc := "()V" } : Jvm.MethodName) "PancakePort") ∈ mNw := List.mem_filter.mpr ⟨List.mem_of_getElem? (i := 480) (by rfl), by rfl⟩
set_option maxRecDepth 100000 in
theorem tw_481 : (Jvm.Cond.superclass "PancakePort$Wide" "PancakePort$Tosser") ∈ mWS := List.mem_filter.mpr ⟨List.mem_of_getElem? (i := 481) (by rfl), by rfl⟩
set_option maxRecDepth 100000 in
theorem tw_482 : (Jvm.Cond.classLink "PancakePort" (326 : Nat) "PancakePort$Thrifty") ∈ mWS := List.mem_filter.mpr ⟨List.mem_of_getElem? (i := 482) (by rfl), by rfl⟩
set_option maxRecDepth 100000 in
theorem tw_483 : (Jvm.Cond.instantiable "PancakePort$Thrifty" (0 : Nat)) ∈ mWS := List.mem_filter.mpr ⟨List.mem_of_getElem? (i := 483) (by rfl), by rfl⟩
set_option maxRecDepth 100000 in
theorem tw_484 : (Jvm.Cond.methodLinkNest "PancakePort" (328 : Nat) ({ cls := "PancakePort$Thrifty", name := "<init>", desc := "()V" } : Jvm.MethodName) "PancakePort") ∈ mNw := List.mem_filter.mpr ⟨List.mem_of_getElem? (i := 484) (by rfl), by rfl⟩
set_option maxRecDepth 100000 in
theorem tw_485 : (Jvm.Cond.instanceMethod ({ cls := "PancakePort$Thrifty", name := "<init>", desc := "()V" } : Jvm.MethodName)) ∈ mWS := List.mem_filter.mpr ⟨List.mem_of_getElem? (i := 485) (by rfl), by rfl⟩
set_option maxRecDepth 100000 in
theorem tw_486 : (Jvm.Cond.code ({ cls := "PancakePort$Thrifty", name := "<init>", desc := "()V" } : Jvm.MethodName) prog_9_method_1_code (1 : Nat) (Option.none : Option Jvm.ClassFile.FieldType)) ∈ mWS := List.mem_filter.mpr ⟨List.mem_of_getElem? (i := 486) (by rfl), by rfl⟩
set_option maxRecDepth 100000 in
theorem tw_487 : (Jvm.Cond.methodLinkNest "PancakePort$Thrifty" (3 : Nat) ({ cls := "PancakePort$Tosser", name := "<init>", desc := "()V" } : Jvm.MethodName) "PancakePort") ∈ mNw := List.mem_filter.mpr ⟨List.mem_of_getElem? (i := 487) (by rfl), by rfl⟩
set_option maxRecDepth 100000 in
theorem tw_488 : (Jvm.Cond.superclass "PancakePort$Thrifty" "PancakePort$Tosser") ∈ mWS := List.mem_filter.mpr ⟨List.mem_of_getElem? (i := 488) (by rfl), by rfl⟩
set_option maxRecDepth 100000 in
theorem tw_489 : (Jvm.Cond.classLink "PancakePort" (329 : Nat) "PancakePort$Mayor") ∈ mWS := List.mem_filter.mpr ⟨List.mem_of_getElem? (i := 489) (by rfl), by rfl⟩
set_option maxRecDepth 100000 in
theorem tw_490 : (Jvm.Cond.instantiable "PancakePort$Mayor" (0 : Nat)) ∈ mWS := List.mem_filter.mpr ⟨List.mem_of_getElem? (i := 490) (by rfl), by rfl⟩
set_option maxRecDepth 100000 in
theorem tw_491 : (Jvm.Cond.methodLinkNest "PancakePort" (331 : Nat) ({ cls := "PancakePort$Mayor", name := "<init>", desc := "()V" } : Jvm.MethodName) "PancakePort") ∈ mNw := List.mem_filter.mpr ⟨List.mem_of_getElem? (i := 491) (by rfl), by rfl⟩
set_option maxRecDepth 100000 in
theorem tw_492 : (Jvm.Cond.instanceMethod ({ cls := "PancakePort$Mayor", name := "<init>", desc := "()V" } : Jvm.MethodName)) ∈ mWS := List.mem_filter.mpr ⟨List.mem_of_getElem? (i := 492) (by rfl), by rfl⟩
set_option maxRecDepth 100000 in
theorem tw_493 : (Jvm.Cond.code ({ cls := "PancakePort$Mayor", name := "<init>", desc := "()V" } : Jvm.MethodName) prog_3_method_1_code (1 : Nat) (Option.none : Option Jvm.ClassFile.FieldType)) ∈ mWS := List.mem_filter.mpr ⟨List.mem_of_getElem? (i := 493) (by rfl), by rfl⟩
set_option maxRecDepth 100000 in
theorem tw_494 : (Jvm.Cond.methodLinkNest "PancakePort$Mayor" (3 : Nat) ({ cls := "PancakePort$Wide", name := "<init>", desc := "()V" } : Jvm.MethodName) "PancakePort") ∈ mNw := List.mem_filter.mpr ⟨List.mem_of_getElem? (i := 494) (by rfl), by rfl⟩
set_option maxRecDepth 100000 in
theorem tw_495 : (Jvm.Cond.superclass "PancakePort$Mayor" "PancakePort$Wide") ∈ mWS := List.mem_filter.mpr ⟨List.mem_of_getElem? (i := 495) (by rfl), by rfl⟩
set_option maxRecDepth 100000 in
theorem tw_496 : (Jvm.Cond.instantiable "PancakePort$Tosser" (0 : Nat)) ∈ mWS := List.mem_filter.mpr ⟨List.mem_of_getElem? (i := 496) (by rfl), by rfl⟩
set_option maxRecDepth 100000 in
theorem tw_497 : (Jvm.Cond.methodLinkNest "PancakePort" (332 : Nat) ({ cls := "PancakePort$Tosser", name := "<init>", desc := "()V" } : Jvm.MethodName) "PancakePort") ∈ mNw := List.mem_filter.mpr ⟨List.mem_of_getElem? (i := 497) (by rfl), by rfl⟩
set_option maxRecDepth 100000 in
theorem tw_498 : (Jvm.Cond.superclass "PancakePort$Tosser" "java/lang/Object") ∈ mWS := List.mem_filter.mpr ⟨List.mem_of_getElem? (i := 498) (by rfl), by rfl⟩
set_option maxRecDepth 100000 in
theorem tw_499 : (Jvm.Cond.methodLink "PancakePortLaw" (31 : Nat) ({ cls := "PancakePort", name := "sleeper", desc := "(II)I" } : Jvm.MethodName)) ∈ mWS := List.mem_filter.mpr ⟨List.mem_of_getElem? (i := 499) (by rfl), by rfl⟩
set_option maxRecDepth 100000 in
theorem tw_500 : (Jvm.Cond.instanceMethod ({ cls := "PancakePort", name := "sleeper", desc := "(II)I" } : Jvm.MethodName)) ∈ mWS := List.mem_filter.mpr ⟨List.mem_of_getElem? (i := 500) (by rfl), by rfl⟩
set_option maxRecDepth 100000 in
theorem tw_501 : (Jvm.Cond.selects "PancakePort" ({ cls := "PancakePort", name := "sleeper", desc := "(II)I" } : Jvm.MethodName) ({ cls := "PancakePort", name := "sleeper", desc := "(II)I" } : Jvm.MethodName)) ∈ mWS := List.mem_filter.mpr ⟨List.mem_of_getElem? (i := 501) (by rfl), by rfl⟩
set_option maxRecDepth 100000 in
theorem tw_502 : (Jvm.Cond.code ({ cls := "PancakePort", name := "sleeper", desc := "(II)I" } : Jvm.MethodName) prog_1_method_6_code (3 : Nat) (Option.some Jvm.ClassFile.FieldType.int)) ∈ mWS := List.mem_filter.mpr ⟨List.mem_of_getElem? (i := 502) (by rfl), by rfl⟩
set_option maxRecDepth 100000 in
theorem tw_503 : (Jvm.Cond.methodLink "PancakePort" (75 : Nat) ({ cls := "PancakePort", name := "isSleeper", desc := "(I)Z" } : Jvm.MethodName)) ∈ mWS := List.mem_filter.mpr ⟨List.mem_of_getElem? (i := 503) (by rfl), by rfl⟩
set_option maxRecDepth 100000 in
theorem tw_505 : (Jvm.Cond.instanceMethod ({ cls := "PancakePort", name := "isSleeper", desc := "(I)Z" } : Jvm.MethodName)) ∈ mWS := List.mem_filter.mpr ⟨List.mem_of_getElem? (i := 505) (by rfl), by rfl⟩
set_option maxRecDepth 100000 in
theorem tw_506 : (Jvm.Cond.code ({ cls := "PancakePort", name := "isSleeper", desc := "(I)Z" } : Jvm.MethodName) prog_1_method_31_code (2 : Nat) (Option.some Jvm.ClassFile.FieldType.boolean)) ∈ mWS := List.mem_filter.mpr ⟨List.mem_of_getElem? (i := 506) (by rfl), by rfl⟩
set_option maxRecDepth 100000 in
theorem tw_507 : (Jvm.Cond.methodLink "PancakePort" (95 : Nat) ({ cls := "PancakePort", name := "bestPlaceFor", desc := "(I)I" } : Jvm.MethodName)) ∈ mWS := List.mem_filter.mpr ⟨List.mem_of_getElem? (i := 507) (by rfl), by rfl⟩
set_option maxRecDepth 100000 in
theorem tw_509 : (Jvm.Cond.instanceMethod ({ cls := "PancakePort", name := "bestPlaceFor", desc := "(I)I" } : Jvm.MethodName)) ∈ mWS := List.mem_filter.mpr ⟨List.mem_of_getElem? (i := 509) (by rfl), by rfl⟩
set_option maxRecDepth 100000 in
theorem tw_510 : (Jvm.Cond.code ({ cls := "PancakePort", name := "bestPlaceFor", desc := "(I)I" } : Jvm.MethodName) prog_1_method_43_code (6 : Nat) (Option.some Jvm.ClassFile.FieldType.int)) ∈ mWS := List.mem_filter.mpr ⟨List.mem_of_getElem? (i := 510) (by rfl), by rfl⟩
set_option maxRecDepth 100000 in
theorem tw_511 : (Jvm.Cond.methodLink "PancakePort" (291 : Nat) ({ cls := "PancakePort", name := "countChances", desc := "()V" } : Jvm.MethodName)) ∈ mWS := List.mem_filter.mpr ⟨List.mem_of_getElem? (i := 511) (by rfl), by rfl⟩
set_option maxRecDepth 100000 in
theorem tw_513 : (Jvm.Cond.instanceMethod ({ cls := "PancakePort", name := "countChances", desc := "()V" } : Jvm.MethodName)) ∈ mWS := List.mem_filter.mpr ⟨List.mem_of_getElem? (i := 513) (by rfl), by rfl⟩
set_option maxRecDepth 100000 in
theorem tw_514 : (Jvm.Cond.code ({ cls := "PancakePort", name := "countChances", desc := "()V" } : Jvm.MethodName) prog_1_method_44_code (5 : Nat) (Option.none : Option Jvm.ClassFile.FieldType)) ∈ mWS := List.mem_filter.mpr ⟨List.mem_of_getElem? (i := 514) (by rfl), by rfl⟩
set_option maxRecDepth 100000 in
theorem tw_515 : (Jvm.Cond.methodLink "PancakePort" (294 : Nat) ({ cls := "PancakePort", name := "clear", desc := "([I)V" } : Jvm.MethodName)) ∈ mWS := List.mem_filter.mpr ⟨List.mem_of_getElem? (i := 515) (by rfl), by rfl⟩
set_option maxRecDepth 100000 in
theorem tw_516 : (Jvm.Cond.methodLink "PancakePort" (99 : Nat) ({ cls := "PancakePort", name := "tosserAt", desc := "(I)LPancakePort$Tosser;" } : Jvm.MethodName)) ∈ mWS := List.mem_filter.mpr ⟨List.mem_of_getElem? (i := 516) (by rfl), by rfl⟩
set_option maxRecDepth 100000 in
theorem tw_518 : (Jvm.Cond.instanceMethod ({ cls := "PancakePort", name := "tosserAt", desc := "(I)LPancakePort$Tosser;" } : Jvm.MethodName)) ∈ mWS := List.mem_filter.mpr ⟨List.mem_of_getElem? (i := 518) (by rfl), by rfl⟩
set_option maxRecDepth 100000 in
theorem tw_519 : (Jvm.Cond.code ({ cls := "PancakePort", name := "tosserAt", desc := "(I)LPancakePort$Tosser;" } : Jvm.MethodName) prog_1_method_32_code (3 : Nat) (Option.some (Jvm.ClassFile.FieldType.object "PancakePort$Tosser"))) ∈ mWS := List.mem_filter.mpr ⟨List.mem_of_getElem? (i := 519) (by rfl), by rfl⟩
set_option maxRecDepth 100000 in
theorem tw_520 : (Jvm.Cond.methodLink "PancakePort" (149 : Nat) ({ cls := "PancakePort", name := "landing", desc := "(III)I" } : Jvm.MethodName)) ∈ mWS := List.mem_filter.mpr ⟨List.mem_of_getElem? (i := 520) (by rfl), by rfl⟩
set_option maxRecDepth 100000 in
theorem tw_522 : (Jvm.Cond.instanceMethod ({ cls := "PancakePort", name := "landing", desc := "(III)I" } : Jvm.MethodName)) ∈ mWS := List.mem_filter.mpr ⟨List.mem_of_getElem? (i := 522) (by rfl), by rfl⟩
set_option maxRecDepth 100000 in
theorem tw_523 : (Jvm.Cond.code ({ cls := "PancakePort", name := "landing", desc := "(III)I" } : Jvm.MethodName) prog_1_method_37_code (6 : Nat) (Option.some Jvm.ClassFile.FieldType.int)) ∈ mWS := List.mem_filter.mpr ⟨List.mem_of_getElem? (i := 523) (by rfl), by rfl⟩
set_option maxRecDepth 100000 in
theorem tw_524 : (Jvm.Cond.methodLink "PancakePort" (277 : Nat) ({ cls := "PancakePort", name := "cellAt", desc := "(II)I" } : Jvm.MethodName)) ∈ mWS := List.mem_filter.mpr ⟨List.mem_of_getElem? (i := 524) (by rfl), by rfl⟩
set_option maxRecDepth 100000 in
theorem tw_525 : (Jvm.Cond.methodLink "PancakePort" (298 : Nat) ({ cls := "PancakePort", name := "addChances", desc := "(LPancakePort$Tosser;I)V" } : Jvm.MethodName)) ∈ mWS := List.mem_filter.mpr ⟨List.mem_of_getElem? (i := 525) (by rfl), by rfl⟩
set_option maxRecDepth 100000 in
theorem tw_527 : (Jvm.Cond.instanceMethod ({ cls := "PancakePort", name := "addChances", desc := "(LPancakePort$Tosser;I)V" } : Jvm.MethodName)) ∈ mWS := List.mem_filter.mpr ⟨List.mem_of_getElem? (i := 527) (by rfl), by rfl⟩
set_option maxRecDepth 100000 in
theorem tw_528 : (Jvm.Cond.code ({ cls := "PancakePort", name := "addChances", desc := "(LPancakePort$Tosser;I)V" } : Jvm.MethodName) prog_1_method_45_code (6 : Nat) (Option.none : Option Jvm.ClassFile.FieldType)) ∈ mWS := List.mem_filter.mpr ⟨List.mem_of_getElem? (i := 528) (by rfl), by rfl⟩
set_option maxRecDepth 100000 in
theorem tw_529 : (Jvm.Cond.methodLink "PancakePort" (280 : Nat) ({ cls := "PancakePort$Tosser", name := "spreads", desc := "(II)Z" } : Jvm.MethodName)) ∈ mWS := List.mem_filter.mpr ⟨List.mem_of_getElem? (i := 529) (by rfl), by rfl⟩
set_option maxRecDepth 100000 in
theorem tw_530 : (Jvm.Cond.instanceMethod ({ cls := "PancakePort$Tosser", name := "spreads", desc := "(II)Z" } : Jvm.MethodName)) ∈ mWS := List.mem_filter.mpr ⟨List.mem_of_getElem? (i := 530) (by rfl), by rfl⟩
set_option maxRecDepth 100000 in
theorem tw_531 : (Jvm.Cond.selects "PancakePort$Tosser" ({ cls := "PancakePort$Tosser", name := "spreads", desc := "(II)Z" } : Jvm.MethodName) ({ cls := "PancakePort$Tosser", name := "spreads", desc := "(II)Z" } : Jvm.MethodName)) ∈ mWS := List.mem_filter.mpr ⟨List.mem_of_getElem? (i := 531) (by rfl), by rfl⟩
set_option maxRecDepth 100000 in
theorem tw_532 : (Jvm.Cond.sameMethod "PancakePort$Tosser" "PancakePort$Tosser" "spreads" "(II)Z") ∈ mWS := List.mem_filter.mpr ⟨List.mem_of_getElem? (i := 532) (by rfl), by rfl⟩
set_option maxRecDepth 100000 in
theorem tw_533 : (Jvm.Cond.selects "PancakePort$Lacy" ({ cls := "PancakePort$Tosser", name := "spreads", desc := "(II)Z" } : Jvm.MethodName) ({ cls := "PancakePort$Lacy", name := "spreads", desc := "(II)Z" } : Jvm.MethodName)) ∈ mWS := List.mem_filter.mpr ⟨List.mem_of_getElem? (i := 533) (by rfl), by rfl⟩
set_option maxRecDepth 100000 in
theorem tw_534 : (Jvm.Cond.instanceMethod ({ cls := "PancakePort$Lacy", name := "spreads", desc := "(II)Z" } : Jvm.MethodName)) ∈ mWS := List.mem_filter.mpr ⟨List.mem_of_getElem? (i := 534) (by rfl), by rfl⟩
set_option maxRecDepth 100000 in
theorem tw_535 : (Jvm.Cond.code ({ cls := "PancakePort$Lacy", name := "spreads", desc := "(II)Z" } : Jvm.MethodName) prog_2_method_4_code (3 : Nat) (Option.some Jvm.ClassFile.FieldType.boolean)) ∈ mWS := List.mem_filter.mpr ⟨List.mem_of_getElem? (i := 535) (by rfl), by rfl⟩
set_option maxRecDepth 100000 in
theorem tw_536 : (Jvm.Cond.methodLink "PancakePort$Lacy" (9 : Nat) ({ cls := "java/lang/Math", name := "abs", desc := "(I)I" } : Jvm.MethodName)) ∈ mWS := List.mem_filter.mpr ⟨List.mem_of_getElem? (i := 536) (by rfl), by rfl⟩
set_option maxRecDepth 100000 in
theorem tw_537 : (Jvm.Cond.static ({ cls := "java/lang/Math", name := "abs", desc := "(I)I" } : Jvm.MethodName)) ∈ mWS := List.mem_filter.mpr ⟨List.mem_of_getElem? (i := 537) (by rfl), by rfl⟩
set_option maxRecDepth 100000 in
theorem tw_538 : (Jvm.Cond.code ({ cls := "java/lang/Math", name := "abs", desc := "(I)I" } : Jvm.MethodName) prog_16_method_59_code (1 : Nat) (Option.some Jvm.ClassFile.FieldType.int)) ∈ mWS := List.mem_filter.mpr ⟨List.mem_of_getElem? (i := 538) (by rfl), by rfl⟩
set_option maxRecDepth 100000 in
theorem tw_539 : (Jvm.Cond.selects "PancakePort$Mayor" ({ cls := "PancakePort$Tosser", name := "spreads", desc := "(II)Z" } : Jvm.MethodName) ({ cls := "PancakePort$Mayor", name := "spreads", desc := "(II)Z" } : Jvm.MethodName)) ∈ mWS := List.mem_filter.mpr ⟨List.mem_of_getElem? (i := 539) (by rfl), by rfl⟩
set_option maxRecDepth 100000 in
theorem tw_540 : (Jvm.Cond.instanceMethod ({ cls := "PancakePort$Mayor", name := "spreads", desc := "(II)Z" } : Jvm.MethodName)) ∈ mWS := List.mem_filter.mpr ⟨List.mem_of_getElem? (i := 540) (by rfl), by rfl⟩
set_option maxRecDepth 100000 in
theorem tw_541 : (Jvm.Cond.code ({ cls := "PancakePort$Mayor", name := "spreads", desc := "(II)Z" } : Jvm.MethodName) prog_3_method_4_code (3 : Nat) (Option.some Jvm.ClassFile.FieldType.boolean)) ∈ mWS := List.mem_filter.mpr ⟨List.mem_of_getElem? (i := 541) (by rfl), by rfl⟩
set_option maxRecDepth 100000 in
theorem tw_542 : (Jvm.Cond.methodLink "PancakePort$Mayor" (9 : Nat) ({ cls := "PancakePort$Wide", name := "spreads", desc := "(II)Z" } : Jvm.MethodName)) ∈ mWS := List.mem_filter.mpr ⟨List.mem_of_getElem? (i := 542) (by rfl), by rfl⟩
set_option maxRecDepth 100000 in
theorem tw_543 : (Jvm.Cond.instanceMethod ({ cls := "PancakePort$Wide", name := "spreads", desc := "(II)Z" } : Jvm.MethodName)) ∈ mWS := List.mem_filter.mpr ⟨List.mem_of_getElem? (i := 543) (by rfl), by rfl⟩
set_option maxRecDepth 100000 in
theorem tw_544 : (Jvm.Cond.code ({ cls := "PancakePort$Wide", name := "spreads", desc := "(II)Z" } : Jvm.MethodName) prog_11_method_4_code (3 : Nat) (Option.some Jvm.ClassFile.FieldType.boolean)) ∈ mWS := List.mem_filter.mpr ⟨List.mem_of_getElem? (i := 544) (by rfl), by rfl⟩
set_option maxRecDepth 100000 in
theorem tw_545 : (Jvm.Cond.methodLink "PancakePort$Wide" (9 : Nat) ({ cls := "java/lang/Math", name := "abs", desc := "(I)I" } : Jvm.MethodName)) ∈ mWS := List.mem_filter.mpr ⟨List.mem_of_getElem? (i := 545) (by rfl), by rfl⟩
set_option maxRecDepth 100000 in
theorem tw_546 : (Jvm.Cond.selects "PancakePort$Thrifty" ({ cls := "PancakePort$Tosser", name := "spreads", desc := "(II)Z" } : Jvm.MethodName) ({ cls := "PancakePort$Thrifty", name := "spreads", desc := "(II)Z" } : Jvm.MethodName)) ∈ mWS := List.mem_filter.mpr ⟨List.mem_of_getElem? (i := 546) (by rfl), by rfl⟩
set_option maxRecDepth 100000 in
theorem tw_547 : (Jvm.Cond.instanceMethod ({ cls := "PancakePort$Thrifty", name := "spreads", desc := "(II)Z" } : Jvm.MethodName)) ∈ mWS := List.mem_filter.mpr ⟨List.mem_of_getElem? (i := 547) (by rfl), by rfl⟩
set_option maxRecDepth 100000 in
theorem tw_548 : (Jvm.Cond.code ({ cls := "PancakePort$Thrifty", name := "spreads", desc := "(II)Z" } : Jvm.MethodName) prog_9_method_4_code (3 : Nat) (Option.some Jvm.ClassFile.FieldType.boolean)) ∈ mWS := List.mem_filter.mpr ⟨List.mem_of_getElem? (i := 548) (by rfl), by rfl⟩
set_option maxRecDepth 100000 in
theorem tw_549 : (Jvm.Cond.methodLink "PancakePort$Thrifty" (9 : Nat) ({ cls := "java/lang/Math", name := "abs", desc := "(I)I" } : Jvm.MethodName)) ∈ mWS := List.mem_filter.mpr ⟨List.mem_of_getElem? (i := 549) (by rfl), by rfl⟩
set_option maxRecDepth 100000 in
theorem tw_550 : (Jvm.Cond.selects "PancakePort$Wide" ({ cls := "PancakePort$Tosser", name := "spreads", desc := "(II)Z" } : Jvm.MethodName) ({ cls := "PancakePort$Wide", name := "spreads", desc := "(II)Z" } : Jvm.MethodName)) ∈ mWS := List.mem_filter.mpr ⟨List.mem_of_getElem? (i := 550) (by rfl), by rfl⟩
set_option maxRecDepth 100000 in
theorem tw_551 : (Jvm.Cond.code ({ cls := "PancakePort$Tosser", name := "spreads", desc := "(II)Z" } : Jvm.MethodName) prog_10_method_4_code (3 : Nat) (Option.some Jvm.ClassFile.FieldType.boolean)) ∈ mWS := List.mem_filter.mpr ⟨List.mem_of_getElem? (i := 551) (by rfl), by rfl⟩
set_option maxRecDepth 100000 in
theorem tw_552 : (Jvm.Cond.methodLink "PancakePort$Tosser" (9 : Nat) ({ cls := "java/lang/Math", name := "abs", desc := "(I)I" } : Jvm.MethodName)) ∈ mWS := List.mem_filter.mpr ⟨List.mem_of_getElem? (i := 552) (by rfl), by rfl⟩
set_option maxRecDepth 100000 in
theorem tw_553 : (Jvm.Cond.methodLink "PancakePort" (182 : Nat) ({ cls := "PancakePort", name := "isTakenByAnother", desc := "(II)Z" } : Jvm.MethodName)) ∈ mWS := List.mem_filter.mpr ⟨List.mem_of_getElem? (i := 553) (by rfl), by rfl⟩
set_option maxRecDepth 100000 in
theorem tw_555 : (Jvm.Cond.instanceMethod ({ cls := "PancakePort", name := "isTakenByAnother", desc := "(II)Z" } : Jvm.MethodName)) ∈ mWS := List.mem_filter.mpr ⟨List.mem_of_getElem? (i := 555) (by rfl), by rfl⟩
set_option maxRecDepth 100000 in
theorem tw_556 : (Jvm.Cond.code ({ cls := "PancakePort", name := "isTakenByAnother", desc := "(II)Z" } : Jvm.MethodName) prog_1_method_35_code (4 : Nat) (Option.some Jvm.ClassFile.FieldType.boolean)) ∈ mWS := List.mem_filter.mpr ⟨List.mem_of_getElem? (i := 556) (by rfl), by rfl⟩
set_option maxRecDepth 100000 in
theorem tw_557 : (Jvm.Cond.methodLink "PancakePortLaw" (36 : Nat) ({ cls := "PancakePort", name := "tosser", desc := "(II)I" } : Jvm.MethodName)) ∈ mWS := List.mem_filter.mpr ⟨List.mem_of_getElem? (i := 557) (by rfl), by rfl⟩
set_option maxRecDepth 100000 in
theorem tw_558 : (Jvm.Cond.instanceMethod ({ cls := "PancakePort", name := "tosser", desc := "(II)I" } : Jvm.MethodName)) ∈ mWS := List.mem_filter.mpr ⟨List.mem_of_getElem? (i := 558) (by rfl), by rfl⟩
set_option maxRecDepth 100000 in
theorem tw_559 : (Jvm.Cond.selects "PancakePort" ({ cls := "PancakePort", name := "tosser", desc := "(II)I" } : Jvm.MethodName) ({ cls := "PancakePort", name := "tosser", desc := "(II)I" } : Jvm.MethodName)) ∈ mWS := List.mem_filter.mpr ⟨List.mem_of_getElem? (i := 559) (by rfl), by rfl⟩
set_option maxRecDepth 100000 in
theorem tw_560 : (Jvm.Cond.code ({ cls := "PancakePort", name := "tosser", desc := "(II)I" } : Jvm.MethodName) prog_1_method_7_code (4 : Nat) (Option.some Jvm.ClassFile.FieldType.int)) ∈ mWS := List.mem_filter.mpr ⟨List.mem_of_getElem? (i := 560) (by rfl), by rfl⟩
set_option maxRecDepth 100000 in
theorem tw_561 : (Jvm.Cond.methodLink "PancakePort" (103 : Nat) ({ cls := "PancakePort$Tosser", name := "kind", desc := "()I" } : Jvm.MethodName)) ∈ mWS := List.mem_filter.mpr ⟨List.mem_of_getElem? (i := 561) (by rfl), by rfl⟩
set_option maxRecDepth 100000 in
theorem tw_562 : (Jvm.Cond.instanceMethod ({ cls := "PancakePort$Tosser", name := "kind", desc := "()I" } : Jvm.MethodName)) ∈ mWS := List.mem_filter.mpr ⟨List.mem_of_getElem? (i := 562) (by rfl), by rfl⟩
set_option maxRecDepth 100000 in
theorem tw_563 : (Jvm.Cond.selects "PancakePort$Tosser" ({ cls := "PancakePort$Tosser", name := "kind", desc := "()I" } : Jvm.MethodName) ({ cls := "PancakePort$Tosser", name := "kind", desc := "()I" } : Jvm.MethodName)) ∈ mWS := List.mem_filter.mpr ⟨List.mem_of_getElem? (i := 563) (by rfl), by rfl⟩
set_option maxRecDepth 100000 in
theorem tw_564 : (Jvm.Cond.sameMethod "PancakePort$Tosser" "PancakePort$Tosser" "kind" "()I") ∈ mWS := List.mem_filter.mpr ⟨List.mem_of_getElem? (i := 564) (by rfl), by rfl⟩
set_option maxRecDepth 100000 in
theorem tw_565 : (Jvm.Cond.selects "PancakePort$Lacy" ({ cls := "PancakePort$Tosser", name := "kind", desc := "()I" } : Jvm.MethodName) ({ cls := "PancakePort$Lacy", name := "kind", desc := "()I" } : Jvm.MethodName)) ∈ mWS := List.mem_filter.mpr ⟨List.mem_of_getElem? (i := 565) (by rfl), by rfl⟩
set_option maxRecDepth 100000 in
theorem tw_566 : (Jvm.Cond.instanceMethod ({ cls := "PancakePort$Lacy", name := "kind", desc := "()I" } : Jvm.MethodName)) ∈ mWS := List.mem_filter.mpr ⟨List.mem_of_getElem? (i := 566) (by rfl), by rfl⟩
set_option maxRecDepth 100000 in
theorem tw_567 : (Jvm.Cond.code ({ cls := "PancakePort$Lacy", name := "kind", desc := "()I" } : Jvm.MethodName) prog_2_method_2_code (1 : Nat) (Option.some Jvm.ClassFile.FieldType.int)) ∈ mWS := List.mem_filter.mpr ⟨List.mem_of_getElem? (i := 567) (by rfl), by rfl⟩
set_option maxRecDepth 100000 in
theorem tw_568 : (Jvm.Cond.selects "PancakePort$Mayor" ({ cls := "PancakePort$Tosser", name := "kind", desc := "()I" } : Jvm.MethodName) ({ cls := "PancakePort$Mayor", name := "kind", desc := "()I" } : Jvm.MethodName)) ∈ mWS := List.mem_filter.mpr ⟨List.mem_of_getElem? (i := 568) (by rfl), by rfl⟩
set_option maxRecDepth 100000 in
theorem tw_569 : (Jvm.Cond.instanceMethod ({ cls := "PancakePort$Mayor", name := "kind", desc := "()I" } : Jvm.MethodName)) ∈ mWS := List.mem_filter.mpr ⟨List.mem_of_getElem? (i := 569) (by rfl), by rfl⟩
set_option maxRecDepth 100000 in
theorem tw_570 : (Jvm.Cond.code ({ cls := "PancakePort$Mayor", name := "kind", desc := "()I" } : Jvm.MethodName) prog_3_method_2_code (1 : Nat) (Option.some Jvm.ClassFile.FieldType.int)) ∈ mWS := List.mem_filter.mpr ⟨List.mem_of_getElem? (i := 570) (by rfl), by rfl⟩
set_option maxRecDepth 100000 in
theorem tw_571 : (Jvm.Cond.selects "PancakePort$Thrifty" ({ cls := "PancakePort$Tosser", name := "kind", desc := "()I" } : Jvm.MethodName) ({ cls := "PancakePort$Thrifty", name := "kind", desc := "()I" } : Jvm.MethodName)) ∈ mWS := List.mem_filter.mpr ⟨List.mem_of_getElem? (i := 571) (by rfl), by rfl⟩
set_option maxRecDepth 100000 in
theorem tw_572 : (Jvm.Cond.instanceMethod ({ cls := "PancakePort$Thrifty", name := "kind", desc := "()I" } : Jvm.MethodName)) ∈ mWS := List.mem_filter.mpr ⟨List.mem_of_getElem? (i := 572) (by rfl), by rfl⟩
set_option maxRecDepth 100000 in
theorem tw_573 : (Jvm.Cond.code ({ cls := "PancakePort$Thrifty", name := "kind", desc := "()I" } : Jvm.MethodName) prog_9_method_2_code (1 : Nat) (Option.some Jvm.ClassFile.FieldType.int)) ∈ mWS := List.mem_filter.mpr ⟨List.mem_of_getElem? (i := 573) (by rfl), by rfl⟩
set_option maxRecDepth 100000 in
theorem tw_574 : (Jvm.Cond.selects "PancakePort$Wide" ({ cls := "PancakePort$Tosser", name := "kind", desc := "()I" } : Jvm.MethodName) ({ cls := "PancakePort$Wide", name := "kind", desc := "()I" } : Jvm.MethodName)) ∈ mWS := List.mem_filter.mpr ⟨List.mem_of_getElem? (i := 574) (by rfl), by rfl⟩
set_option maxRecDepth 100000 in
theorem tw_575 : (Jvm.Cond.instanceMethod ({ cls := "PancakePort$Wide", name := "kind", desc := "()I" } : Jvm.MethodName)) ∈ mWS := List.mem_filter.mpr ⟨List.mem_of_getElem? (i := 575) (by rfl), by rfl⟩
set_option maxRecDepth 100000 in
theorem tw_576 : (Jvm.Cond.code ({ cls := "PancakePort$Wide", name := "kind", desc := "()I" } : Jvm.MethodName) prog_11_method_2_code (1 : Nat) (Option.some Jvm.ClassFile.FieldType.int)) ∈ mWS := List.mem_filter.mpr ⟨List.mem_of_getElem? (i := 576) (by rfl), by rfl⟩
set_option maxRecDepth 100000 in
theorem tw_577 : (Jvm.Cond.code ({ cls := "PancakePort$Tosser", name := "kind", desc := "()I" } : Jvm.MethodName) prog_10_method_2_code (1 : Nat) (Option.some Jvm.ClassFile.FieldType.int)) ∈ mWS := List.mem_filter.mpr ⟨List.mem_of_getElem? (i := 577) (by rfl), by rfl⟩
set_option maxRecDepth 100000 in
theorem tw_578 : (Jvm.Cond.methodLink "PancakePort" (113 : Nat) ({ cls := "PancakePort$Tosser", name := "batter", desc := "()I" } : Jvm.MethodName)) ∈ mWS := List.mem_filter.mpr ⟨List.mem_of_getElem? (i := 578) (by rfl), by rfl⟩
set_option maxRecDepth 100000 in
theorem tw_579 : (Jvm.Cond.instanceMethod ({ cls := "PancakePort$Tosser", name := "batter", desc := "()I" } : Jvm.MethodName)) ∈ mWS := List.mem_filter.mpr ⟨List.mem_of_getElem? (i := 579) (by rfl), by rfl⟩
set_option maxRecDepth 100000 in
theorem tw_580 : (Jvm.Cond.selects "PancakePort$Tosser" ({ cls := "PancakePort$Tosser", name := "batter", desc := "()I" } : Jvm.MethodName) ({ cls := "PancakePort$Tosser", name := "batter", desc := "()I" } : Jvm.MethodName)) ∈ mWS := List.mem_filter.mpr ⟨List.mem_of_getElem? (i := 580) (by rfl), by rfl⟩
set_option maxRecDepth 100000 in
theorem tw_581 : (Jvm.Cond.sameMethod "PancakePort$Tosser" "PancakePort$Tosser" "batter" "()I") ∈ mWS := List.mem_filter.mpr ⟨List.mem_of_getElem? (i := 581) (by rfl), by rfl⟩
set_option maxRecDepth 100000 in
theorem tw_582 : (Jvm.Cond.selects "PancakePort$Lacy" ({ cls := "PancakePort$Tosser", name := "batter", desc := "()I" } : Jvm.MethodName) ({ cls := "PancakePort$Lacy", name := "batter", desc := "()I" } : Jvm.MethodName)) ∈ mWS := List.mem_filter.mpr ⟨List.mem_of_getElem? (i := 582) (by rfl), by rfl⟩
set_option maxRecDepth 100000 in
theorem tw_583 : (Jvm.Cond.instanceMethod ({ cls := "PancakePort$Lacy", name := "batter", desc := "()I" } : Jvm.MethodName)) ∈ mWS := List.mem_filter.mpr ⟨List.mem_of_getElem? (i := 583) (by rfl), by rfl⟩
set_option maxRecDepth 100000 in
theorem tw_584 : (Jvm.Cond.code ({ cls := "PancakePort$Lacy", name := "batter", desc := "()I" } : Jvm.MethodName) prog_2_method_3_code (1 : Nat) (Option.some Jvm.ClassFile.FieldType.int)) ∈ mWS := List.mem_filter.mpr ⟨List.mem_of_getElem? (i := 584) (by rfl), by rfl⟩
set_option maxRecDepth 100000 in
theorem tw_585 : (Jvm.Cond.selects "PancakePort$Mayor" ({ cls := "PancakePort$Tosser", name := "batter", desc := "()I" } : Jvm.MethodName) ({ cls := "PancakePort$Mayor", name := "batter", desc := "()I" } : Jvm.MethodName)) ∈ mWS := List.mem_filter.mpr ⟨List.mem_of_getElem? (i := 585) (by rfl), by rfl⟩
set_option maxRecDepth 100000 in
theorem tw_586 : (Jvm.Cond.instanceMethod ({ cls := "PancakePort$Mayor", name := "batter", desc := "()I" } : Jvm.MethodName)) ∈ mWS := List.mem_filter.mpr ⟨List.mem_of_getElem? (i := 586) (by rfl), by rfl⟩
set_option maxRecDepth 100000 in
theorem tw_587 : (Jvm.Cond.code ({ cls := "PancakePort$Mayor", name := "batter", desc := "()I" } : Jvm.MethodName) prog_3_method_3_code (1 : Nat) (Option.some Jvm.ClassFile.FieldType.int)) ∈ mWS := List.mem_filter.mpr ⟨List.mem_of_getElem? (i := 587) (by rfl), by rfl⟩
set_option maxRecDepth 100000 in
theorem tw_588 : (Jvm.Cond.selects "PancakePort$Thrifty" ({ cls := "PancakePort$Tosser", name := "batter", desc := "()I" } : Jvm.MethodName) ({ cls := "PancakePort$Thrifty", name := "batter", desc := "()I" } : Jvm.MethodName)) ∈ mWS := List.mem_filter.mpr ⟨List.mem_of_getElem? (i := 588) (by rfl), by rfl⟩
set_option maxRecDepth 100000 in
theorem tw_589 : (Jvm.Cond.instanceMethod ({ cls := "PancakePort$Thrifty", name := "batter", desc := "()I" } : Jvm.MethodName)) ∈ mWS := List.mem_filter.mpr ⟨List.mem_of_getElem? (i := 589) (by rfl), by rfl⟩
set_option maxRecDepth 100000 in
theorem tw_590 : (Jvm.Cond.code ({ cls := "PancakePort$Thrifty", name := "batter", desc := "()I" } : Jvm.MethodName) prog_9_method_3_code (1 : Nat) (Option.some Jvm.ClassFile.FieldType.int)) ∈ mWS := List.mem_filter.mpr ⟨List.mem_of_getElem? (i := 590) (by rfl), by rfl⟩
set_option maxRecDepth 100000 in
theorem tw_591 : (Jvm.Cond.selects "PancakePort$Wide" ({ cls := "PancakePort$Tosser", name := "batter", desc := "()I" } : Jvm.MethodName) ({ cls := "PancakePort$Wide", name := "batter", desc := "()I" } : Jvm.MethodName)) ∈ mWS := List.mem_filter.mpr ⟨List.mem_of_getElem? (i := 591) (by rfl), by rfl⟩
set_option maxRecDepth 100000 in
theorem tw_592 : (Jvm.Cond.instanceMethod ({ cls := "PancakePort$Wide", name := "batter", desc := "()I" } : Jvm.MethodName)) ∈ mWS := List.mem_filter.mpr ⟨List.mem_of_getElem? (i := 592) (by rfl), by rfl⟩
set_option maxRecDepth 100000 in
theorem tw_593 : (Jvm.Cond.code ({ cls := "PancakePort$Wide", name := "batter", desc := "()I" } : Jvm.MethodName) prog_11_method_3_code (1 : Nat) (Option.some Jvm.ClassFile.FieldType.int)) ∈ mWS := List.mem_filter.mpr ⟨List.mem_of_getElem? (i := 593) (by rfl), by rfl⟩
set_option maxRecDepth 100000 in
theorem tw_594 : (Jvm.Cond.code ({ cls := "PancakePort$Tosser", name := "batter", desc := "()I" } : Jvm.MethodName) prog_10_method_3_code (1 : Nat) (Option.some Jvm.ClassFile.FieldType.int)) ∈ mWS := List.mem_filter.mpr ⟨List.mem_of_getElem? (i := 594) (by rfl), by rfl⟩
set_option maxRecDepth 100000 in
theorem tw_595 : (Jvm.Cond.methodLink "PancakePort" (116 : Nat) ({ cls := "PancakePort", name := "bestAimOf", desc := "(I)I" } : Jvm.MethodName)) ∈ mWS := List.mem_filter.mpr ⟨List.mem_of_getElem? (i := 595) (by rfl), by rfl⟩
set_option maxRecDepth 100000 in
theorem tw_597 : (Jvm.Cond.instanceMethod ({ cls := "PancakePort", name := "bestAimOf", desc := "(I)I" } : Jvm.MethodName)) ∈ mWS := List.mem_filter.mpr ⟨List.mem_of_getElem? (i := 597) (by rfl), by rfl⟩
set_option maxRecDepth 100000 in
theorem tw_598 : (Jvm.Cond.code ({ cls := "PancakePort", name := "bestAimOf", desc := "(I)I" } : Jvm.MethodName) prog_1_method_41_code (6 : Nat) (Option.some Jvm.ClassFile.FieldType.int)) ∈ mWS := List.mem_filter.mpr ⟨List.mem_of_getElem? (i := 598) (by rfl), by rfl⟩
set_option maxRecDepth 100000 in
theorem tw_599 : (Jvm.Cond.methodLink "PancakePort" (119 : Nat) ({ cls := "PancakePort", name := "freshOf", desc := "(II)I" } : Jvm.MethodName)) ∈ mWS := List.mem_filter.mpr ⟨List.mem_of_getElem? (i := 599) (by rfl), by rfl⟩
set_option maxRecDepth 100000 in
theorem tw_601 : (Jvm.Cond.instanceMethod ({ cls := "PancakePort", name := "freshOf", desc := "(II)I" } : Jvm.MethodName)) ∈ mWS := List.mem_filter.mpr ⟨List.mem_of_getElem? (i := 601) (by rfl), by rfl⟩
set_option maxRecDepth 100000 in
theorem tw_602 : (Jvm.Cond.code ({ cls := "PancakePort", name := "freshOf", desc := "(II)I" } : Jvm.MethodName) prog_1_method_40_code (3 : Nat) (Option.some Jvm.ClassFile.FieldType.int)) ∈ mWS := List.mem_filter.mpr ⟨List.mem_of_getElem? (i := 602) (by rfl), by rfl⟩
set_option maxRecDepth 100000 in
theorem tw_603 : (Jvm.Cond.methodLink "PancakePort" (153 : Nat) ({ cls := "PancakePort", name := "crowdUnder", desc := "(III)I" } : Jvm.MethodName)) ∈ mWS := List.mem_filter.mpr ⟨List.mem_of_getElem? (i := 603) (by rfl), by rfl⟩
set_option maxRecDepth 100000 in
theorem tw_605 : (Jvm.Cond.instanceMethod ({ cls := "PancakePort", name := "crowdUnder", desc := "(III)I" } : Jvm.MethodName)) ∈ mWS := List.mem_filter.mpr ⟨List.mem_of_getElem? (i := 605) (by rfl), by rfl⟩
set_option maxRecDepth 100000 in
theorem tw_606 : (Jvm.Cond.code ({ cls := "PancakePort", name := "crowdUnder", desc := "(III)I" } : Jvm.MethodName) prog_1_method_38_code (9 : Nat) (Option.some Jvm.ClassFile.FieldType.int)) ∈ mWS := List.mem_filter.mpr ⟨List.mem_of_getElem? (i := 606) (by rfl), by rfl⟩
set_option maxRecDepth 100000 in
theorem tw_607 : (Jvm.Cond.methodLink "PancakePort" (168 : Nat) ({ cls := "java/lang/Integer", name := "bitCount", desc := "(I)I" } : Jvm.MethodName)) ∈ mWS := List.mem_filter.mpr ⟨List.mem_of_getElem? (i := 607) (by rfl), by rfl⟩
set_option maxRecDepth 100000 in
theorem tw_608 : (Jvm.Cond.static ({ cls := "java/lang/Integer", name := "bitCount", desc := "(I)I" } : Jvm.MethodName)) ∈ mWS := List.mem_filter.mpr ⟨List.mem_of_getElem? (i := 608) (by rfl), by rfl⟩
set_option maxRecDepth 100000 in
theorem tw_609 : (Jvm.Cond.code ({ cls := "java/lang/Integer", name := "bitCount", desc := "(I)I" } : Jvm.MethodName) prog_15_method_49_code (1 : Nat) (Option.some Jvm.ClassFile.FieldType.int)) ∈ mWS := List.mem_filter.mpr ⟨List.mem_of_getElem? (i := 609) (by rfl), by rfl⟩
set_option maxRecDepth 100000 in
theorem tw_610 : (Jvm.Cond.constant "java/lang/Integer" (265 : Nat) (1431655765 : Int32)) ∈ mWS := List.mem_filter.mpr ⟨List.mem_of_getElem? (i := 610) (by rfl), by rfl⟩
set_option maxRecDepth 100000 in
theorem tw_611 : (Jvm.Cond.constant "java/lang/Integer" (266 : Nat) (858993459 : Int32)) ∈ mWS := List.mem_filter.mpr ⟨List.mem_of_getElem? (i := 611) (by rfl), by rfl⟩
set_option maxRecDepth 100000 in
theorem tw_612 : (Jvm.Cond.constant "java/lang/Integer" (267 : Nat) (252645135 : Int32)) ∈ mWS := List.mem_filter.mpr ⟨List.mem_of_getElem? (i := 612) (by rfl), by rfl⟩
end
section
set_option maxRecDepth 100000 in
theorem tw_613 : (Jvm.Cond.methodLink "PancakePort" (127 : Nat) ({ cls := "PancakePort$Seen", name := "turnsOf", desc := "(I)I" } : Jvm.MethodName)) ∈ mWS := List.mem_filter.mpr ⟨List.mem_of_getElem? (i := 613) (by rfl), by rfl⟩
set_option maxRecDepth 100000 in
theorem tw_614 : (Jvm.Cond.instanceMethod ({ cls := "PancakePort$Seen", name := "turnsOf", desc := "(I)I" } : Jvm.MethodName)) ∈ mWS := List.mem_filter.mpr ⟨List.mem_of_getElem? (i := 614) (by rfl), by rfl⟩
set_option maxRecDepth 100000 in
theorem tw_615 : (Jvm.Cond.selects "PancakePort$Seen" ({ cls := "PancakePort$Seen", name := "turnsOf", desc := "(I)I" } : Jvm.MethodName) ({ cls := "PancakePort$Seen", name := "turnsOf", desc := "(I)I" } : Jvm.MethodName)) ∈ mWS := List.mem_filter.mpr ⟨List.mem_of_getElem? (i := 615) (by rfl), by rfl⟩
set_option maxRecDepth 100000 in
theorem tw_616 : (Jvm.Cond.code ({ cls := "PancakePort$Seen", name := "turnsOf", desc := "(I)I" } : Jvm.MethodName) prog_8_method_3_code (4 : Nat) (Option.some Jvm.ClassFile.FieldType.int)) ∈ mWS := List.mem_filter.mpr ⟨List.mem_of_getElem? (i := 616) (by rfl), by rfl⟩
set_option maxRecDepth 100000 in
theorem tw_617 : (Jvm.Cond.methodLink "PancakePort$Seen" (29 : Nat) ({ cls := "PancakePort$Seen", name := "allows", desc := "(II)Z" } : Jvm.MethodName)) ∈ mWS := List.mem_filter.mpr ⟨List.mem_of_getElem? (i := 617) (by rfl), by rfl⟩
set_option maxRecDepth 100000 in
theorem tw_619 : (Jvm.Cond.instanceMethod ({ cls := "PancakePort$Seen", name := "allows", desc := "(II)Z" } : Jvm.MethodName)) ∈ mWS := List.mem_filter.mpr ⟨List.mem_of_getElem? (i := 619) (by rfl), by rfl⟩
set_option maxRecDepth 100000 in
theorem tw_620 : (Jvm.Cond.code ({ cls := "PancakePort$Seen", name := "allows", desc := "(II)Z" } : Jvm.MethodName) prog_8_method_4_code (5 : Nat) (Option.some Jvm.ClassFile.FieldType.boolean)) ∈ mWS := List.mem_filter.mpr ⟨List.mem_of_getElem? (i := 620) (by rfl), by rfl⟩
set_option maxRecDepth 100000 in
theorem tw_621 : (Jvm.Cond.methodLinkNest "PancakePort$Seen" (33 : Nat) ({ cls := "PancakePort", name := "at", desc := "([II)I" } : Jvm.MethodName) "PancakePort") ∈ mNw := List.mem_filter.mpr ⟨List.mem_of_getElem? (i := 621) (by rfl), by rfl⟩
set_option maxRecDepth 100000 in
theorem tw_622 : (Jvm.Cond.methodLinkNest "PancakePort$Seen" (37 : Nat) ({ cls := "PancakePort", name := "columnBy", desc := "(II)I" } : Jvm.MethodName) "PancakePort") ∈ mNw := List.mem_filter.mpr ⟨List.mem_of_getElem? (i := 622) (by rfl), by rfl⟩
set_option maxRecDepth 100000 in
theorem tw_623 : (Jvm.Cond.static ({ cls := "PancakePort", name := "columnBy", desc := "(II)I" } : Jvm.MethodName)) ∈ mWS := List.mem_filter.mpr ⟨List.mem_of_getElem? (i := 623) (by rfl), by rfl⟩
set_option maxRecDepth 100000 in
theorem tw_624 : (Jvm.Cond.code ({ cls := "PancakePort", name := "columnBy", desc := "(II)I" } : Jvm.MethodName) prog_1_method_49_code (3 : Nat) (Option.some Jvm.ClassFile.FieldType.int)) ∈ mWS := List.mem_filter.mpr ⟨List.mem_of_getElem? (i := 624) (by rfl), by rfl⟩
set_option maxRecDepth 100000 in
theorem tw_625 : (Jvm.Cond.methodLink "PancakePort" (203 : Nat) ({ cls := "PancakePort", name := "isColumn", desc := "(I)Z" } : Jvm.MethodName)) ∈ mWS := List.mem_filter.mpr ⟨List.mem_of_getElem? (i := 625) (by rfl), by rfl⟩
set_option maxRecDepth 100000 in
theorem tw_626 : (Jvm.Cond.static ({ cls := "PancakePort", name := "isColumn", desc := "(I)Z" } : Jvm.MethodName)) ∈ mWS := List.mem_filter.mpr ⟨List.mem_of_getElem? (i := 626) (by rfl), by rfl⟩
set_option maxRecDepth 100000 in
theorem tw_627 : (Jvm.Cond.code ({ cls := "PancakePort", name := "isColumn", desc := "(I)Z" } : Jvm.MethodName) prog_1_method_46_code (1 : Nat) (Option.some Jvm.ClassFile.FieldType.boolean)) ∈ mWS := List.mem_filter.mpr ⟨List.mem_of_getElem? (i := 627) (by rfl), by rfl⟩
set_option maxRecDepth 100000 in
theorem tw_628 : (Jvm.Cond.methodLink "PancakePort" (132 : Nat) ({ cls := "PancakePort", name := "tellingAim", desc := "(I)I" } : Jvm.MethodName)) ∈ mWS := List.mem_filter.mpr ⟨List.mem_of_getElem? (i := 628) (by rfl), by rfl⟩
set_option maxRecDepth 100000 in
theorem tw_629 : (Jvm.Cond.static ({ cls := "PancakePort", name := "tellingAim", desc := "(I)I" } : Jvm.MethodName)) ∈ mWS := List.mem_filter.mpr ⟨List.mem_of_getElem? (i := 629) (by rfl), by rfl⟩
set_option maxRecDepth 100000 in
theorem tw_630 : (Jvm.Cond.code ({ cls := "PancakePort", name := "tellingAim", desc := "(I)I" } : Jvm.MethodName) prog_1_method_50_code (5 : Nat) (Option.some Jvm.ClassFile.FieldType.int)) ∈ mWS := List.mem_filter.mpr ⟨List.mem_of_getElem? (i := 630) (by rfl), by rfl⟩
set_option maxRecDepth 100000 in
theorem tw_631 : (Jvm.Cond.methodLink "PancakePort" (302 : Nat) ({ cls := "PancakePort", name := "mostLeft", desc := "(II)I" } : Jvm.MethodName)) ∈ mWS := List.mem_filter.mpr ⟨List.mem_of_getElem? (i := 631) (by rfl), by rfl⟩
set_option maxRecDepth 100000 in
theorem tw_632 : (Jvm.Cond.static ({ cls := "PancakePort", name := "mostLeft", desc := "(II)I" } : Jvm.MethodName)) ∈ mWS := List.mem_filter.mpr ⟨List.mem_of_getElem? (i := 632) (by rfl), by rfl⟩
set_option maxRecDepth 100000 in
theorem tw_633 : (Jvm.Cond.code ({ cls := "PancakePort", name := "mostLeft", desc := "(II)I" } : Jvm.MethodName) prog_1_method_51_code (6 : Nat) (Option.some Jvm.ClassFile.FieldType.int)) ∈ mWS := List.mem_filter.mpr ⟨List.mem_of_getElem? (i := 633) (by rfl), by rfl⟩
set_option maxRecDepth 100000 in
theorem tw_634 : (Jvm.Cond.methodLink "PancakePort" (305 : Nat) ({ cls := "PancakePort", name := "columnBy", desc := "(II)I" } : Jvm.MethodName)) ∈ mWS := List.mem_filter.mpr ⟨List.mem_of_getElem? (i := 634) (by rfl), by rfl⟩
set_option maxRecDepth 100000 in
theorem tw_635 : (Jvm.Cond.methodLink "PancakePort" (308 : Nat) ({ cls := "java/lang/Math", name := "max", desc := "(II)I" } : Jvm.MethodName)) ∈ mWS := List.mem_filter.mpr ⟨List.mem_of_getElem? (i := 635) (by rfl), by rfl⟩
set_option maxRecDepth 100000 in
theorem tw_636 : (Jvm.Cond.methodLink "PancakePortLaw" (40 : Nat) ({ cls := "PancakePort", name := "as", desc := "(II)I" } : Jvm.MethodName)) ∈ mWS := List.mem_filter.mpr ⟨List.mem_of_getElem? (i := 636) (by rfl), by rfl⟩
set_option maxRecDepth 100000 in
theorem tw_637 : (Jvm.Cond.instanceMethod ({ cls := "PancakePort", name := "as", desc := "(II)I" } : Jvm.MethodName)) ∈ mWS := List.mem_filter.mpr ⟨List.mem_of_getElem? (i := 637) (by rfl), by rfl⟩
set_option maxRecDepth 100000 in
theorem tw_638 : (Jvm.Cond.selects "PancakePort" ({ cls := "PancakePort", name := "as", desc := "(II)I" } : Jvm.MethodName) ({ cls := "PancakePort", name := "as", desc := "(II)I" } : Jvm.MethodName)) ∈ mWS := List.mem_filter.mpr ⟨List.mem_of_getElem? (i := 638) (by rfl), by rfl⟩
set_option maxRecDepth 100000 in
theorem tw_639 : (Jvm.Cond.code ({ cls := "PancakePort", name := "as", desc := "(II)I" } : Jvm.MethodName) prog_1_method_8_code (4 : Nat) (Option.some Jvm.ClassFile.FieldType.int)) ∈ mWS := List.mem_filter.mpr ⟨List.mem_of_getElem? (i := 639) (by rfl), by rfl⟩
set_option maxRecDepth 100000 in
theorem tw_640 : (Jvm.Cond.methodLink "PancakePort" (138 : Nat) ({ cls := "PancakePort", name := "isOfKind", desc := "(LPancakePort$Tosser;I)Z" } : Jvm.MethodName)) ∈ mWS := List.mem_filter.mpr ⟨List.mem_of_getElem? (i := 640) (by rfl), by rfl⟩
set_option maxRecDepth 100000 in
theorem tw_641 : (Jvm.Cond.static ({ cls := "PancakePort", name := "isOfKind", desc := "(LPancakePort$Tosser;I)Z" } : Jvm.MethodName)) ∈ mWS := List.mem_filter.mpr ⟨List.mem_of_getElem? (i := 641) (by rfl), by rfl⟩
set_option maxRecDepth 100000 in
theorem tw_642 : (Jvm.Cond.code ({ cls := "PancakePort", name := "isOfKind", desc := "(LPancakePort$Tosser;I)Z" } : Jvm.MethodName) prog_1_method_60_code (2 : Nat) (Option.some Jvm.ClassFile.FieldType.boolean)) ∈ mWS := List.mem_filter.mpr ⟨List.mem_of_getElem? (i := 642) (by rfl), by rfl⟩
set_option maxRecDepth 100000 in
theorem tw_643 : (Jvm.Cond.methodLink "PancakePortLaw" (44 : Nat) ({ cls := "PancakePort", name := "lands", desc := "(II)I" } : Jvm.MethodName)) ∈ mWS := List.mem_filter.mpr ⟨List.mem_of_getElem? (i := 643) (by rfl), by rfl⟩
set_option maxRecDepth 100000 in
theorem tw_644 : (Jvm.Cond.instanceMethod ({ cls := "PancakePort", name := "lands", desc := "(II)I" } : Jvm.MethodName)) ∈ mWS := List.mem_filter.mpr ⟨List.mem_of_getElem? (i := 644) (by rfl), by rfl⟩
set_option maxRecDepth 100000 in
theorem tw_645 : (Jvm.Cond.selects "PancakePort" ({ cls := "PancakePort", name := "lands", desc := "(II)I" } : Jvm.MethodName) ({ cls := "PancakePort", name := "lands", desc := "(II)I" } : Jvm.MethodName)) ∈ mWS := List.mem_filter.mpr ⟨List.mem_of_getElem? (i := 645) (by rfl), by rfl⟩
set_option maxRecDepth 100000 in
theorem tw_646 : (Jvm.Cond.code ({ cls := "PancakePort", name := "lands", desc := "(II)I" } : Jvm.MethodName) prog_1_method_9_code (3 : Nat) (Option.some Jvm.ClassFile.FieldType.int)) ∈ mWS := List.mem_filter.mpr ⟨List.mem_of_getElem? (i := 646) (by rfl), by rfl⟩
set_option maxRecDepth 100000 in
theorem tw_647 : (Jvm.Cond.methodLink "PancakePort" (142 : Nat) ({ cls := "PancakePort", name := "isToss", desc := "(II)Z" } : Jvm.MethodName)) ∈ mWS := List.mem_filter.mpr ⟨List.mem_of_getElem? (i := 647) (by rfl), by rfl⟩
set_option maxRecDepth 100000 in
theorem tw_649 : (Jvm.Cond.instanceMethod ({ cls := "PancakePort", name := "isToss", desc := "(II)Z" } : Jvm.MethodName)) ∈ mWS := List.mem_filter.mpr ⟨List.mem_of_getElem? (i := 649) (by rfl), by rfl⟩
set_option maxRecDepth 100000 in
theorem tw_650 : (Jvm.Cond.code ({ cls := "PancakePort", name := "isToss", desc := "(II)Z" } : Jvm.MethodName) prog_1_method_33_code (3 : Nat) (Option.some Jvm.ClassFile.FieldType.boolean)) ∈ mWS := List.mem_filter.mpr ⟨List.mem_of_getElem? (i := 650) (by rfl), by rfl⟩
set_option maxRecDepth 100000 in
theorem tw_651 : (Jvm.Cond.methodLink "PancakePort" (156 : Nat) ({ cls := "PancakePort", name := "isCell", desc := "(I)Z" } : Jvm.MethodName)) ∈ mWS := List.mem_filter.mpr ⟨List.mem_of_getElem? (i := 651) (by rfl), by rfl⟩
set_option maxRecDepth 100000 in
theorem tw_653 : (Jvm.Cond.instanceMethod ({ cls := "PancakePort", name := "isCell", desc := "(I)Z" } : Jvm.MethodName)) ∈ mWS := List.mem_filter.mpr ⟨List.mem_of_getElem? (i := 653) (by rfl), by rfl⟩
set_option maxRecDepth 100000 in
theorem tw_654 : (Jvm.Cond.code ({ cls := "PancakePort", name := "isCell", desc := "(I)Z" } : Jvm.MethodName) prog_1_method_30_code (2 : Nat) (Option.some Jvm.ClassFile.FieldType.boolean)) ∈ mWS := List.mem_filter.mpr ⟨List.mem_of_getElem? (i := 654) (by rfl), by rfl⟩
set_option maxRecDepth 100000 in
theorem tw_655 : (Jvm.Cond.methodLink "PancakePort" (173 : Nat) ({ cls := "PancakePort", name := "hasPort", desc := "()Z" } : Jvm.MethodName)) ∈ mWS := List.mem_filter.mpr ⟨List.mem_of_getElem? (i := 655) (by rfl), by rfl⟩
set_option maxRecDepth 100000 in
theorem tw_657 : (Jvm.Cond.instanceMethod ({ cls := "PancakePort", name := "hasPort", desc := "()Z" } : Jvm.MethodName)) ∈ mWS := List.mem_filter.mpr ⟨List.mem_of_getElem? (i := 657) (by rfl), by rfl⟩
set_option maxRecDepth 100000 in
theorem tw_658 : (Jvm.Cond.code ({ cls := "PancakePort", name := "hasPort", desc := "()Z" } : Jvm.MethodName) prog_1_method_29_code (1 : Nat) (Option.some Jvm.ClassFile.FieldType.boolean)) ∈ mWS := List.mem_filter.mpr ⟨List.mem_of_getElem? (i := 658) (by rfl), by rfl⟩
set_option maxRecDepth 100000 in
theorem tw_659 : (Jvm.Cond.methodLink "PancakePortLaw" (48 : Nat) ({ cls := "PancakePort", name := "covers", desc := "(II)I" } : Jvm.MethodName)) ∈ mWS := List.mem_filter.mpr ⟨List.mem_of_getElem? (i := 659) (by rfl), by rfl⟩
set_option maxRecDepth 100000 in
theorem tw_660 : (Jvm.Cond.instanceMethod ({ cls := "PancakePort", name := "covers", desc := "(II)I" } : Jvm.MethodName)) ∈ mWS := List.mem_filter.mpr ⟨List.mem_of_getElem? (i := 660) (by rfl), by rfl⟩
set_option maxRecDepth 100000 in
theorem tw_661 : (Jvm.Cond.selects "PancakePort" ({ cls := "PancakePort", name := "covers", desc := "(II)I" } : Jvm.MethodName) ({ cls := "PancakePort", name := "covers", desc := "(II)I" } : Jvm.MethodName)) ∈ mWS := List.mem_filter.mpr ⟨List.mem_of_getElem? (i := 661) (by rfl), by rfl⟩
set_option maxRecDepth 100000 in
theorem tw_662 : (Jvm.Cond.code ({ cls := "PancakePort", name := "covers", desc := "(II)I" } : Jvm.MethodName) prog_1_method_10_code (3 : Nat) (Option.some Jvm.ClassFile.FieldType.int)) ∈ mWS := List.mem_filter.mpr ⟨List.mem_of_getElem? (i := 662) (by rfl), by rfl⟩
set_option maxRecDepth 100000 in
theorem tw_663 : (Jvm.Cond.methodLink "PancakePortLaw" (52 : Nat) ({ cls := "PancakePort", name := "toss", desc := "(II)I" } : Jvm.MethodName)) ∈ mWS := List.mem_filter.mpr ⟨List.mem_of_getElem? (i := 663) (by rfl), by rfl⟩
set_option maxRecDepth 100000 in
theorem tw_664 : (Jvm.Cond.instanceMethod ({ cls := "PancakePort", name := "toss", desc := "(II)I" } : Jvm.MethodName)) ∈ mWS := List.mem_filter.mpr ⟨List.mem_of_getElem? (i := 664) (by rfl), by rfl⟩
set_option maxRecDepth 100000 in
theorem tw_665 : (Jvm.Cond.selects "PancakePort" ({ cls := "PancakePort", name := "toss", desc := "(II)I" } : Jvm.MethodName) ({ cls := "PancakePort", name := "toss", desc := "(II)I" } : Jvm.MethodName)) ∈ mWS := List.mem_filter.mpr ⟨List.mem_of_getElem? (i := 665) (by rfl), by rfl⟩
set_option maxRecDepth 100000 in
theorem tw_666 : (Jvm.Cond.code ({ cls := "PancakePort", name := "toss", desc := "(II)I" } : Jvm.MethodName) prog_1_method_11_code (5 : Nat) (Option.some Jvm.ClassFile.FieldType.int)) ∈ mWS := List.mem_filter.mpr ⟨List.mem_of_getElem? (i := 666) (by rfl), by rfl⟩
set_option maxRecDepth 100000 in
theorem tw_667 : (Jvm.Cond.methodLink "PancakePortLaw" (56 : Nat) ({ cls := "PancakePort", name := "wind", desc := "(I)I" } : Jvm.MethodName)) ∈ mWS := List.mem_filter.mpr ⟨List.mem_of_getElem? (i := 667) (by rfl), by rfl⟩
set_option maxRecDepth 100000 in
theorem tw_668 : (Jvm.Cond.instanceMethod ({ cls := "PancakePort", name := "wind", desc := "(I)I" } : Jvm.MethodName)) ∈ mWS := List.mem_filter.mpr ⟨List.mem_of_getElem? (i := 668) (by rfl), by rfl⟩
set_option maxRecDepth 100000 in
theorem tw_669 : (Jvm.Cond.selects "PancakePort" ({ cls := "PancakePort", name := "wind", desc := "(I)I" } : Jvm.MethodName) ({ cls := "PancakePort", name := "wind", desc := "(I)I" } : Jvm.MethodName)) ∈ mWS := List.mem_filter.mpr ⟨List.mem_of_getElem? (i := 669) (by rfl), by rfl⟩
set_option maxRecDepth 100000 in
theorem tw_670 : (Jvm.Cond.code ({ cls := "PancakePort", name := "wind", desc := "(I)I" } : Jvm.MethodName) prog_1_method_12_code (3 : Nat) (Option.some Jvm.ClassFile.FieldType.int)) ∈ mWS := List.mem_filter.mpr ⟨List.mem_of_getElem? (i := 670) (by rfl), by rfl⟩
set_option maxRecDepth 100000 in
theorem tw_671 : (Jvm.Cond.methodLink "PancakePortLaw" (60 : Nat) ({ cls := "PancakePort", name := "morning", desc := "()I" } : Jvm.MethodName)) ∈ mWS := List.mem_filter.mpr ⟨List.mem_of_getElem? (i := 671) (by rfl), by rfl⟩
set_option maxRecDepth 100000 in
theorem tw_672 : (Jvm.Cond.instanceMethod ({ cls := "PancakePort", name := "morning", desc := "()I" } : Jvm.MethodName)) ∈ mWS := List.mem_filter.mpr ⟨List.mem_of_getElem? (i := 672) (by rfl), by rfl⟩
set_option maxRecDepth 100000 in
theorem tw_673 : (Jvm.Cond.selects "PancakePort" ({ cls := "PancakePort", name := "morning", desc := "()I" } : Jvm.MethodName) ({ cls := "PancakePort", name := "morning", desc := "()I" } : Jvm.MethodName)) ∈ mWS := List.mem_filter.mpr ⟨List.mem_of_getElem? (i := 673) (by rfl), by rfl⟩
set_option maxRecDepth 100000 in
theorem tw_674 : (Jvm.Cond.code ({ cls := "PancakePort", name := "morning", desc := "()I" } : Jvm.MethodName) prog_1_method_13_code (2 : Nat) (Option.some Jvm.ClassFile.FieldType.int)) ∈ mWS := List.mem_filter.mpr ⟨List.mem_of_getElem? (i := 674) (by rfl), by rfl⟩
set_option maxRecDepth 100000 in
theorem tw_675 : (Jvm.Cond.methodLink "PancakePort" (179 : Nat) ({ cls := "PancakePort$Night", name := "wake", desc := "(I)V" } : Jvm.MethodName)) ∈ mWS := List.mem_filter.mpr ⟨List.mem_of_getElem? (i := 675) (by rfl), by rfl⟩
set_option maxRecDepth 100000 in
theorem tw_676 : (Jvm.Cond.instanceMethod ({ cls := "PancakePort$Night", name := "wake", desc := "(I)V" } : Jvm.MethodName)) ∈ mWS := List.mem_filter.mpr ⟨List.mem_of_getElem? (i := 676) (by rfl), by rfl⟩
set_option maxRecDepth 100000 in
theorem tw_677 : (Jvm.Cond.selects "PancakePort$Night" ({ cls := "PancakePort$Night", name := "wake", desc := "(I)V" } : Jvm.MethodName) ({ cls := "PancakePort$Night", name := "wake", desc := "(I)V" } : Jvm.MethodName)) ∈ mWS := List.mem_filter.mpr ⟨List.mem_of_getElem? (i := 677) (by rfl), by rfl⟩
set_option maxRecDepth 100000 in
theorem tw_678 : (Jvm.Cond.code ({ cls := "PancakePort$Night", name := "wake", desc := "(I)V" } : Jvm.MethodName) prog_4_method_3_code (4 : Nat) (Option.none : Option Jvm.ClassFile.FieldType)) ∈ mWS := List.mem_filter.mpr ⟨List.mem_of_getElem? (i := 678) (by rfl), by rfl⟩
set_option maxRecDepth 100000 in
theorem tw_679 : (Jvm.Cond.methodLinkNest "PancakePort$Night" (69 : Nat) ({ cls := "PancakePort", name := "at", desc := "([II)I" } : Jvm.MethodName) "PancakePort") ∈ mNw := List.mem_filter.mpr ⟨List.mem_of_getElem? (i := 679) (by rfl), by rfl⟩
set_option maxRecDepth 100000 in
theorem tw_680 : (Jvm.Cond.methodLinkNest "PancakePort$Night" (73 : Nat) ({ cls := "PancakePort", name := "put", desc := "([III)V" } : Jvm.MethodName) "PancakePort") ∈ mNw := List.mem_filter.mpr ⟨List.mem_of_getElem? (i := 680) (by rfl), by rfl⟩
set_option maxRecDepth 100000 in
theorem tw_681 : (Jvm.Cond.methodLink "PancakePortLaw" (64 : Nat) ({ cls := "PancakePort", name := "move", desc := "(II)I" } : Jvm.MethodName)) ∈ mWS := List.mem_filter.mpr ⟨List.mem_of_getElem? (i := 681) (by rfl), by rfl⟩
set_option maxRecDepth 100000 in
theorem tw_682 : (Jvm.Cond.instanceMethod ({ cls := "PancakePort", name := "move", desc := "(II)I" } : Jvm.MethodName)) ∈ mWS := List.mem_filter.mpr ⟨List.mem_of_getElem? (i := 682) (by rfl), by rfl⟩
set_option maxRecDepth 100000 in
theorem tw_683 : (Jvm.Cond.selects "PancakePort" ({ cls := "PancakePort", name := "move", desc := "(II)I" } : Jvm.MethodName) ({ cls := "PancakePort", name := "move", desc := "(II)I" } : Jvm.MethodName)) ∈ mWS := List.mem_filter.mpr ⟨List.mem_of_getElem? (i := 683) (by rfl), by rfl⟩
set_option maxRecDepth 100000 in
theorem tw_684 : (Jvm.Cond.code ({ cls := "PancakePort", name := "move", desc := "(II)I" } : Jvm.MethodName) prog_1_method_14_code (4 : Nat) (Option.some Jvm.ClassFile.FieldType.int)) ∈ mWS := List.mem_filter.mpr ⟨List.mem_of_getElem? (i := 684) (by rfl), by rfl⟩
set_option maxRecDepth 100000 in
theorem tw_685 : (Jvm.Cond.methodLink "PancakePortLaw" (68 : Nat) ({ cls := "PancakePort", name := "train", desc := "(III)I" } : Jvm.MethodName)) ∈ mWS := List.mem_filter.mpr ⟨List.mem_of_getElem? (i := 685) (by rfl), by rfl⟩
set_option maxRecDepth 100000 in
theorem tw_686 : (Jvm.Cond.instanceMethod ({ cls := "PancakePort", name := "train", desc := "(III)I" } : Jvm.MethodName)) ∈ mWS := List.mem_filter.mpr ⟨List.mem_of_getElem? (i := 686) (by rfl), by rfl⟩
set_option maxRecDepth 100000 in
theorem tw_687 : (Jvm.Cond.selects "PancakePort" ({ cls := "PancakePort", name := "train", desc := "(III)I" } : Jvm.MethodName) ({ cls := "PancakePort", name := "train", desc := "(III)I" } : Jvm.MethodName)) ∈ mWS := List.mem_filter.mpr ⟨List.mem_of_getElem? (i := 687) (by rfl), by rfl⟩
set_option maxRecDepth 100000 in
theorem tw_688 : (Jvm.Cond.code ({ cls := "PancakePort", name := "train", desc := "(III)I" } : Jvm.MethodName) prog_1_method_15_code (5 : Nat) (Option.some Jvm.ClassFile.FieldType.int)) ∈ mWS := List.mem_filter.mpr ⟨List.mem_of_getElem? (i := 688) (by rfl), by rfl⟩
set_option maxRecDepth 100000 in
theorem tw_689 : (Jvm.Cond.methodLink "PancakePort" (185 : Nat) ({ cls := "PancakePort", name := "isTurn", desc := "(I)Z" } : Jvm.MethodName)) ∈ mWS := List.mem_filter.mpr ⟨List.mem_of_getElem? (i := 689) (by rfl), by rfl⟩
set_option maxRecDepth 100000 in
theorem tw_690 : (Jvm.Cond.methodLink "PancakePortLaw" (73 : Nat) ({ cls := "PancakePort", name := "stir", desc := "(I)I" } : Jvm.MethodName)) ∈ mWS := List.mem_filter.mpr ⟨List.mem_of_getElem? (i := 690) (by rfl), by rfl⟩
set_option maxRecDepth 100000 in
theorem tw_691 : (Jvm.Cond.instanceMethod ({ cls := "PancakePort", name := "stir", desc := "(I)I" } : Jvm.MethodName)) ∈ mWS := List.mem_filter.mpr ⟨List.mem_of_getElem? (i := 691) (by rfl), by rfl⟩
set_option maxRecDepth 100000 in
theorem tw_692 : (Jvm.Cond.selects "PancakePort" ({ cls := "PancakePort", name := "stir", desc := "(I)I" } : Jvm.MethodName) ({ cls := "PancakePort", name := "stir", desc := "(I)I" } : Jvm.MethodName)) ∈ mWS := List.mem_filter.mpr ⟨List.mem_of_getElem? (i := 692) (by rfl), by rfl⟩
set_option maxRecDepth 100000 in
theorem tw_693 : (Jvm.Cond.code ({ cls := "PancakePort", name := "stir", desc := "(I)I" } : Jvm.MethodName) prog_1_method_16_code (2 : Nat) (Option.some Jvm.ClassFile.FieldType.int)) ∈ mWS := List.mem_filter.mpr ⟨List.mem_of_getElem? (i := 693) (by rfl), by rfl⟩
set_option maxRecDepth 100000 in
theorem tw_694 : (Jvm.Cond.methodLink "PancakePortLaw" (77 : Nat) ({ cls := "PancakePort", name := "all", desc := "(I)I" } : Jvm.MethodName)) ∈ mWS := List.mem_filter.mpr ⟨List.mem_of_getElem? (i := 694) (by rfl), by rfl⟩
set_option maxRecDepth 100000 in
theorem tw_695 : (Jvm.Cond.instanceMethod ({ cls := "PancakePort", name := "all", desc := "(I)I" } : Jvm.MethodName)) ∈ mWS := List.mem_filter.mpr ⟨List.mem_of_getElem? (i := 695) (by rfl), by rfl⟩
set_option maxRecDepth 100000 in
theorem tw_696 : (Jvm.Cond.selects "PancakePort" ({ cls := "PancakePort", name := "all", desc := "(I)I" } : Jvm.MethodName) ({ cls := "PancakePort", name := "all", desc := "(I)I" } : Jvm.MethodName)) ∈ mWS := List.mem_filter.mpr ⟨List.mem_of_getElem? (i := 696) (by rfl), by rfl⟩
set_option maxRecDepth 100000 in
theorem tw_697 : (Jvm.Cond.code ({ cls := "PancakePort", name := "all", desc := "(I)I" } : Jvm.MethodName) prog_1_method_17_code (3 : Nat) (Option.some Jvm.ClassFile.FieldType.int)) ∈ mWS := List.mem_filter.mpr ⟨List.mem_of_getElem? (i := 697) (by rfl), by rfl⟩
set_option maxRecDepth 100000 in
theorem tw_698 : (Jvm.Cond.methodLink "PancakePort" (188 : Nat) ({ cls := "PancakePort", name := "everybody", desc := "()I" } : Jvm.MethodName)) ∈ mWS := List.mem_filter.mpr ⟨List.mem_of_getElem? (i := 698) (by rfl), by rfl⟩
set_option maxRecDepth 100000 in
theorem tw_700 : (Jvm.Cond.instanceMethod ({ cls := "PancakePort", name := "everybody", desc := "()I" } : Jvm.MethodName)) ∈ mWS := List.mem_filter.mpr ⟨List.mem_of_getElem? (i := 700) (by rfl), by rfl⟩
set_option maxRecDepth 100000 in
theorem tw_701 : (Jvm.Cond.code ({ cls := "PancakePort", name := "everybody", desc := "()I" } : Jvm.MethodName) prog_1_method_34_code (1 : Nat) (Option.some Jvm.ClassFile.FieldType.int)) ∈ mWS := List.mem_filter.mpr ⟨List.mem_of_getElem? (i := 701) (by rfl), by rfl⟩
set_option maxRecDepth 100000 in
theorem tw_702 : (Jvm.Cond.methodLink "PancakePort" (191 : Nat) ({ cls := "PancakePort", name := "planFor", desc := "(I)V" } : Jvm.MethodName)) ∈ mWS := List.mem_filter.mpr ⟨List.mem_of_getElem? (i := 702) (by rfl), by rfl⟩
set_option maxRecDepth 100000 in
theorem tw_704 : (Jvm.Cond.instanceMethod ({ cls := "PancakePort", name := "planFor", desc := "(I)V" } : Jvm.MethodName)) ∈ mWS := List.mem_filter.mpr ⟨List.mem_of_getElem? (i := 704) (by rfl), by rfl⟩
set_option maxRecDepth 100000 in
theorem tw_705 : (Jvm.Cond.code ({ cls := "PancakePort", name := "planFor", desc := "(I)V" } : Jvm.MethodName) prog_1_method_42_code (7 : Nat) (Option.none : Option Jvm.ClassFile.FieldType)) ∈ mWS := List.mem_filter.mpr ⟨List.mem_of_getElem? (i := 705) (by rfl), by rfl⟩
set_option maxRecDepth 100000 in
theorem tw_706 : (Jvm.Cond.methodLink "PancakePort" (283 : Nat) ({ cls := "PancakePort$Plan", name := "begin", desc := "()V" } : Jvm.MethodName)) ∈ mWS := List.mem_filter.mpr ⟨List.mem_of_getElem? (i := 706) (by rfl), by rfl⟩
set_option maxRecDepth 100000 in
theorem tw_707 : (Jvm.Cond.instanceMethod ({ cls := "PancakePort$Plan", name := "begin", desc := "()V" } : Jvm.MethodName)) ∈ mWS := List.mem_filter.mpr ⟨List.mem_of_getElem? (i := 707) (by rfl), by rfl⟩
set_option maxRecDepth 100000 in
theorem tw_708 : (Jvm.Cond.selects "PancakePort$Plan" ({ cls := "PancakePort$Plan", name := "begin", desc := "()V" } : Jvm.MethodName) ({ cls := "PancakePort$Plan", name := "begin", desc := "()V" } : Jvm.MethodName)) ∈ mWS := List.mem_filter.mpr ⟨List.mem_of_getElem? (i := 708) (by rfl), by rfl⟩
set_option maxRecDepth 100000 in
theorem tw_709 : (Jvm.Cond.code ({ cls := "PancakePort$Plan", name := "begin", desc := "()V" } : Jvm.MethodName) prog_6_method_2_code (2 : Nat) (Option.none : Option Jvm.ClassFile.FieldType)) ∈ mWS := List.mem_filter.mpr ⟨List.mem_of_getElem? (i := 709) (by rfl), by rfl⟩
set_option maxRecDepth 100000 in
theorem tw_710 : (Jvm.Cond.methodLinkNest "PancakePort$Plan" (27 : Nat) ({ cls := "PancakePort", name := "clear", desc := "([I)V" } : Jvm.MethodName) "PancakePort") ∈ mNw := List.mem_filter.mpr ⟨List.mem_of_getElem? (i := 710) (by rfl), by rfl⟩
set_option maxRecDepth 100000 in
theorem tw_711 : (Jvm.Cond.constant "PancakePort$Plan" (31 : Nat) (1048576 : Int32)) ∈ mWS := List.mem_filter.mpr ⟨List.mem_of_getElem? (i := 711) (by rfl), by rfl⟩
set_option maxRecDepth 100000 in
theorem tw_712 : (Jvm.Cond.methodLinkNest "PancakePort$Plan" (32 : Nat) ({ cls := "PancakePort", name := "put", desc := "([III)V" } : Jvm.MethodName) "PancakePort") ∈ mNw := List.mem_filter.mpr ⟨List.mem_of_getElem? (i := 712) (by rfl), by rfl⟩
set_option maxRecDepth 100000 in
theorem tw_713 : (Jvm.Cond.methodLink "PancakePort" (285 : Nat) ({ cls := "PancakePort$Plan", name := "offer", desc := "(III)V" } : Jvm.MethodName)) ∈ mWS := List.mem_filter.mpr ⟨List.mem_of_getElem? (i := 713) (by rfl), by rfl⟩
set_option maxRecDepth 100000 in
theorem tw_714 : (Jvm.Cond.instanceMethod ({ cls := "PancakePort$Plan", name := "offer", desc := "(III)V" } : Jvm.MethodName)) ∈ mWS := List.mem_filter.mpr ⟨List.mem_of_getElem? (i := 714) (by rfl), by rfl⟩
set_option maxRecDepth 100000 in
theorem tw_715 : (Jvm.Cond.selects "PancakePort$Plan" ({ cls := "PancakePort$Plan", name := "offer", desc := "(III)V" } : Jvm.MethodName) ({ cls := "PancakePort$Plan", name := "offer", desc := "(III)V" } : Jvm.MethodName)) ∈ mWS := List.mem_filter.mpr ⟨List.mem_of_getElem? (i := 715) (by rfl), by rfl⟩
set_option maxRecDepth 100000 in
theorem tw_716 : (Jvm.Cond.code ({ cls := "PancakePort$Plan", name := "offer", desc := "(III)V" } : Jvm.MethodName) prog_6_method_3_code (5 : Nat) (Option.none : Option Jvm.ClassFile.FieldType)) ∈ mWS := List.mem_filter.mpr ⟨List.mem_of_getElem? (i := 716) (by rfl), by rfl⟩
set_option maxRecDepth 100000 in
theorem tw_717 : (Jvm.Cond.methodLinkNest "PancakePort$Plan" (36 : Nat) ({ cls := "PancakePort", name := "at", desc := "([II)I" } : Jvm.MethodName) "PancakePort") ∈ mNw := List.mem_filter.mpr ⟨List.mem_of_getElem? (i := 717) (by rfl), by rfl⟩
set_option maxRecDepth 100000 in
theorem tw_718 : (Jvm.Cond.methodLink "PancakePort$Plan" (40 : Nat) ({ cls := "java/lang/Math", name := "min", desc := "(II)I" } : Jvm.MethodName)) ∈ mWS := List.mem_filter.mpr ⟨List.mem_of_getElem? (i := 718) (by rfl), by rfl⟩
set_option maxRecDepth 100000 in
theorem tw_719 : (Jvm.Cond.methodLink "PancakePort" (288 : Nat) ({ cls := "PancakePort$Plan", name := "solve", desc := "(I)V" } : Jvm.MethodName)) ∈ mWS := List.mem_filter.mpr ⟨List.mem_of_getElem? (i := 719) (by rfl), by rfl⟩
set_option maxRecDepth 100000 in
theorem tw_720 : (Jvm.Cond.instanceMethod ({ cls := "PancakePort$Plan", name := "solve", desc := "(I)V" } : Jvm.MethodName)) ∈ mWS := List.mem_filter.mpr ⟨List.mem_of_getElem? (i := 720) (by rfl), by rfl⟩
set_option maxRecDepth 100000 in
theorem tw_721 : (Jvm.Cond.selects "PancakePort$Plan" ({ cls := "PancakePort$Plan", name := "solve", desc := "(I)V" } : Jvm.MethodName) ({ cls := "PancakePort$Plan", name := "solve", desc := "(I)V" } : Jvm.MethodName)) ∈ mWS := List.mem_filter.mpr ⟨List.mem_of_getElem? (i := 721) (by rfl), by rfl⟩
set_option maxRecDepth 100000 in
theorem tw_722 : (Jvm.Cond.code ({ cls := "PancakePort$Plan", name := "solve", desc := "(I)V" } : Jvm.MethodName) prog_6_method_4_code (3 : Nat) (Option.none : Option Jvm.ClassFile.FieldType)) ∈ mWS := List.mem_filter.mpr ⟨List.mem_of_getElem? (i := 722) (by rfl), by rfl⟩
set_option maxRecDepth 100000 in
theorem tw_723 : (Jvm.Cond.methodLink "PancakePort$Plan" (46 : Nat) ({ cls := "PancakePort$Plan", name := "leastPrice", desc := "(I)I" } : Jvm.MethodName)) ∈ mWS := List.mem_filter.mpr ⟨List.mem_of_getElem? (i := 723) (by rfl), by rfl⟩
set_option maxRecDepth 100000 in
theorem tw_725 : (Jvm.Cond.instanceMethod ({ cls := "PancakePort$Plan", name := "leastPrice", desc := "(I)I" } : Jvm.MethodName)) ∈ mWS := List.mem_filter.mpr ⟨List.mem_of_getElem? (i := 725) (by rfl), by rfl⟩
set_option maxRecDepth 100000 in
theorem tw_726 : (Jvm.Cond.code ({ cls := "PancakePort$Plan", name := "leastPrice", desc := "(I)I" } : Jvm.MethodName) prog_6_method_5_code (4 : Nat) (Option.some Jvm.ClassFile.FieldType.int)) ∈ mWS := List.mem_filter.mpr ⟨List.mem_of_getElem? (i := 726) (by rfl), by rfl⟩
set_option maxRecDepth 100000 in
theorem tw_727 : (Jvm.Cond.methodLink "PancakePort$Plan" (54 : Nat) ({ cls := "PancakePort$Plan", name := "choose", desc := "(I)V" } : Jvm.MethodName)) ∈ mWS := List.mem_filter.mpr ⟨List.mem_of_getElem? (i := 727) (by rfl), by rfl⟩
set_option maxRecDepth 100000 in
theorem tw_729 : (Jvm.Cond.instanceMethod ({ cls := "PancakePort$Plan", name := "choose", desc := "(I)V" } : Jvm.MethodName)) ∈ mWS := List.mem_filter.mpr ⟨List.mem_of_getElem? (i := 729) (by rfl), by rfl⟩
set_option maxRecDepth 100000 in
theorem tw_730 : (Jvm.Cond.code ({ cls := "PancakePort$Plan", name := "choose", desc := "(I)V" } : Jvm.MethodName) prog_6_method_6_code (5 : Nat) (Option.none : Option Jvm.ClassFile.FieldType)) ∈ mWS := List.mem_filter.mpr ⟨List.mem_of_getElem? (i := 730) (by rfl), by rfl⟩
set_option maxRecDepth 100000 in
theorem tw_731 : (Jvm.Cond.methodLink "PancakePort$Plan" (61 : Nat) ({ cls := "PancakePort$Plan", name := "firstFor", desc := "(I)I" } : Jvm.MethodName)) ∈ mWS := List.mem_filter.mpr ⟨List.mem_of_getElem? (i := 731) (by rfl), by rfl⟩
set_option maxRecDepth 100000 in
theorem tw_733 : (Jvm.Cond.instanceMethod ({ cls := "PancakePort$Plan", name := "firstFor", desc := "(I)I" } : Jvm.MethodName)) ∈ mWS := List.mem_filter.mpr ⟨List.mem_of_getElem? (i := 733) (by rfl), by rfl⟩
set_option maxRecDepth 100000 in
theorem tw_734 : (Jvm.Cond.code ({ cls := "PancakePort$Plan", name := "firstFor", desc := "(I)I" } : Jvm.MethodName) prog_6_method_7_code (4 : Nat) (Option.some Jvm.ClassFile.FieldType.int)) ∈ mWS := List.mem_filter.mpr ⟨List.mem_of_getElem? (i := 734) (by rfl), by rfl⟩
set_option maxRecDepth 100000 in
theorem tw_735 : (Jvm.Cond.methodLink "PancakePort" (194 : Nat) ({ cls := "PancakePort$Plan", name := "tell", desc := "(I)I" } : Jvm.MethodName)) ∈ mWS := List.mem_filter.mpr ⟨List.mem_of_getElem? (i := 735) (by rfl), by rfl⟩
set_option maxRecDepth 100000 in
theorem tw_736 : (Jvm.Cond.instanceMethod ({ cls := "PancakePort$Plan", name := "tell", desc := "(I)I" } : Jvm.MethodName)) ∈ mWS := List.mem_filter.mpr ⟨List.mem_of_getElem? (i := 736) (by rfl), by rfl⟩
set_option maxRecDepth 100000 in
theorem tw_737 : (Jvm.Cond.selects "PancakePort$Plan" ({ cls := "PancakePort$Plan", name := "tell", desc := "(I)I" } : Jvm.MethodName) ({ cls := "PancakePort$Plan", name := "tell", desc := "(I)I" } : Jvm.MethodName)) ∈ mWS := List.mem_filter.mpr ⟨List.mem_of_getElem? (i := 737) (by rfl), by rfl⟩
set_option maxRecDepth 100000 in
theorem tw_738 : (Jvm.Cond.code ({ cls := "PancakePort$Plan", name := "tell", desc := "(I)I" } : Jvm.MethodName) prog_6_method_8_code (3 : Nat) (Option.some Jvm.ClassFile.FieldType.int)) ∈ mWS := List.mem_filter.mpr ⟨List.mem_of_getElem? (i := 738) (by rfl), by rfl⟩
set_option maxRecDepth 100000 in
theorem tw_739 : (Jvm.Cond.methodLink "PancakePortLaw" (81 : Nat) ({ cls := "PancakePort", name := "nights", desc := "()I" } : Jvm.MethodName)) ∈ mWS := List.mem_filter.mpr ⟨List.mem_of_getElem? (i := 739) (by rfl), by rfl⟩
set_option maxRecDepth 100000 in
theorem tw_740 : (Jvm.Cond.instanceMethod ({ cls := "PancakePort", name := "nights", desc := "()I" } : Jvm.MethodName)) ∈ mWS := List.mem_filter.mpr ⟨List.mem_of_getElem? (i := 740) (by rfl), by rfl⟩
set_option maxRecDepth 100000 in
theorem tw_741 : (Jvm.Cond.selects "PancakePort" ({ cls := "PancakePort", name := "nights", desc := "()I" } : Jvm.MethodName) ({ cls := "PancakePort", name := "nights", desc := "()I" } : Jvm.MethodName)) ∈ mWS := List.mem_filter.mpr ⟨List.mem_of_getElem? (i := 741) (by rfl), by rfl⟩
set_option maxRecDepth 100000 in
theorem tw_742 : (Jvm.Cond.code ({ cls := "PancakePort", name := "nights", desc := "()I" } : Jvm.MethodName) prog_1_method_18_code (2 : Nat) (Option.some Jvm.ClassFile.FieldType.int)) ∈ mWS := List.mem_filter.mpr ⟨List.mem_of_getElem? (i := 742) (by rfl), by rfl⟩
set_option maxRecDepth 100000 in
theorem tw_743 : (Jvm.Cond.methodLink "PancakePortLaw" (85 : Nat) ({ cls := "PancakePort", name := "odds", desc := "(III)I" } : Jvm.MethodName)) ∈ mWS := List.mem_filter.mpr ⟨List.mem_of_getElem? (i := 743) (by rfl), by rfl⟩
set_option maxRecDepth 100000 in
theorem tw_744 : (Jvm.Cond.instanceMethod ({ cls := "PancakePort", name := "odds", desc := "(III)I" } : Jvm.MethodName)) ∈ mWS := List.mem_filter.mpr ⟨List.mem_of_getElem? (i := 744) (by rfl), by rfl⟩
set_option maxRecDepth 100000 in
theorem tw_745 : (Jvm.Cond.selects "PancakePort" ({ cls := "PancakePort", name := "odds", desc := "(III)I" } : Jvm.MethodName) ({ cls := "PancakePort", name := "odds", desc := "(III)I" } : Jvm.MethodName)) ∈ mWS := List.mem_filter.mpr ⟨List.mem_of_getElem? (i := 745) (by rfl), by rfl⟩
set_option maxRecDepth 100000 in
theorem tw_746 : (Jvm.Cond.code ({ cls := "PancakePort", name := "odds", desc := "(III)I" } : Jvm.MethodName) prog_1_method_19_code (6 : Nat) (Option.some Jvm.ClassFile.FieldType.int)) ∈ mWS := List.mem_filter.mpr ⟨List.mem_of_getElem? (i := 746) (by rfl), by rfl⟩
set_option maxRecDepth 100000 in
theorem tw_747 : (Jvm.Cond.methodLink "PancakePortLaw" (89 : Nat) ({ cls := "PancakePort", name := "who", desc := "(I)I" } : Jvm.MethodName)) ∈ mWS := List.mem_filter.mpr ⟨List.mem_of_getElem? (i := 747) (by rfl), by rfl⟩
set_option maxRecDepth 100000 in
theorem tw_748 : (Jvm.Cond.instanceMethod ({ cls := "PancakePort", name := "who", desc := "(I)I" } : Jvm.MethodName)) ∈ mWS := List.mem_filter.mpr ⟨List.mem_of_getElem? (i := 748) (by rfl), by rfl⟩
set_option maxRecDepth 100000 in
theorem tw_749 : (Jvm.Cond.selects "PancakePort" ({ cls := "PancakePort", name := "who", desc := "(I)I" } : Jvm.MethodName) ({ cls := "PancakePort", name := "who", desc := "(I)I" } : Jvm.MethodName)) ∈ mWS := List.mem_filter.mpr ⟨List.mem_of_getElem? (i := 749) (by rfl), by rfl⟩
set_option maxRecDepth 100000 in
theorem tw_750 : (Jvm.Cond.code ({ cls := "PancakePort", name := "who", desc := "(I)I" } : Jvm.MethodName) prog_1_method_20_code (4 : Nat) (Option.some Jvm.ClassFile.FieldType.int)) ∈ mWS := List.mem_filter.mpr ⟨List.mem_of_getElem? (i := 750) (by rfl), by rfl⟩
set_option maxRecDepth 100000 in
theorem tw_751 : (Jvm.Cond.methodLink "PancakePort" (200 : Nat) ({ cls := "PancakePort", name := "canLandAt", desc := "(II)Z" } : Jvm.MethodName)) ∈ mWS := List.mem_filter.mpr ⟨List.mem_of_getElem? (i := 751) (by rfl), by rfl⟩
set_option maxRecDepth 100000 in
theorem tw_753 : (Jvm.Cond.instanceMethod ({ cls := "PancakePort", name := "canLandAt", desc := "(II)Z" } : Jvm.MethodName)) ∈ mWS := List.mem_filter.mpr ⟨List.mem_of_getElem? (i := 753) (by rfl), by rfl⟩
set_option maxRecDepth 100000 in
theorem tw_754 : (Jvm.Cond.code ({ cls := "PancakePort", name := "canLandAt", desc := "(II)Z" } : Jvm.MethodName) prog_1_method_39_code (4 : Nat) (Option.some Jvm.ClassFile.FieldType.boolean)) ∈ mWS := List.mem_filter.mpr ⟨List.mem_of_getElem? (i := 754) (by rfl), by rfl⟩
set_option maxRecDepth 100000 in
theorem tw_755 : (Jvm.Cond.methodLink "PancakePortLaw" (93 : Nat) ({ cls := "PancakePort", name := "see", desc := "(III)I" } : Jvm.MethodName)) ∈ mWS := List.mem_filter.mpr ⟨List.mem_of_getElem? (i := 755) (by rfl), by rfl⟩
set_option maxRecDepth 100000 in
theorem tw_756 : (Jvm.Cond.instanceMethod ({ cls := "PancakePort", name := "see", desc := "(III)I" } : Jvm.MethodName)) ∈ mWS := List.mem_filter.mpr ⟨List.mem_of_getElem? (i := 756) (by rfl), by rfl⟩
set_option maxRecDepth 100000 in
theorem tw_757 : (Jvm.Cond.selects "PancakePort" ({ cls := "PancakePort", name := "see", desc := "(III)I" } : Jvm.MethodName) ({ cls := "PancakePort", name := "see", desc := "(III)I" } : Jvm.MethodName)) ∈ mWS := List.mem_filter.mpr ⟨List.mem_of_getElem? (i := 757) (by rfl), by rfl⟩
set_option maxRecDepth 100000 in
theorem tw_758 : (Jvm.Cond.code ({ cls := "PancakePort", name := "see", desc := "(III)I" } : Jvm.MethodName) prog_1_method_21_code (4 : Nat) (Option.some Jvm.ClassFile.FieldType.int)) ∈ mWS := List.mem_filter.mpr ⟨List.mem_of_getElem? (i := 758) (by rfl), by rfl⟩
set_option maxRecDepth 100000 in
theorem tw_759 : (Jvm.Cond.methodLink "PancakePort" (209 : Nat) ({ cls := "PancakePort$Seen", name := "add", desc := "(III)V" } : Jvm.MethodName)) ∈ mWS := List.mem_filter.mpr ⟨List.mem_of_getElem? (i := 759) (by rfl), by rfl⟩
set_option maxRecDepth 100000 in
theorem tw_760 : (Jvm.Cond.instanceMethod ({ cls := "PancakePort$Seen", name := "add", desc := "(III)V" } : Jvm.MethodName)) ∈ mWS := List.mem_filter.mpr ⟨List.mem_of_getElem? (i := 760) (by rfl), by rfl⟩
set_option maxRecDepth 100000 in
theorem tw_761 : (Jvm.Cond.selects "PancakePort$Seen" ({ cls := "PancakePort$Seen", name := "add", desc := "(III)V" } : Jvm.MethodName) ({ cls := "PancakePort$Seen", name := "add", desc := "(III)V" } : Jvm.MethodName)) ∈ mWS := List.mem_filter.mpr ⟨List.mem_of_getElem? (i := 761) (by rfl), by rfl⟩
set_option maxRecDepth 100000 in
theorem tw_762 : (Jvm.Cond.code ({ cls := "PancakePort$Seen", name := "add", desc := "(III)V" } : Jvm.MethodName) prog_8_method_2_code (4 : Nat) (Option.none : Option Jvm.ClassFile.FieldType)) ∈ mWS := List.mem_filter.mpr ⟨List.mem_of_getElem? (i := 762) (by rfl), by rfl⟩
set_option maxRecDepth 100000 in
theorem tw_763 : (Jvm.Cond.methodLinkNest "PancakePort$Seen" (25 : Nat) ({ cls := "PancakePort", name := "put", desc := "([III)V" } : Jvm.MethodName) "PancakePort") ∈ mNw := List.mem_filter.mpr ⟨List.mem_of_getElem? (i := 763) (by rfl), by rfl⟩
set_option maxRecDepth 100000 in
theorem tw_764 : (Jvm.Cond.methodLink "PancakePortLaw" (97 : Nat) ({ cls := "PancakePort", name := "forget", desc := "()I" } : Jvm.MethodName)) ∈ mWS := List.mem_filter.mpr ⟨List.mem_of_getElem? (i := 764) (by rfl), by rfl⟩
set_option maxRecDepth 100000 in
theorem tw_765 : (Jvm.Cond.instanceMethod ({ cls := "PancakePort", name := "forget", desc := "()I" } : Jvm.MethodName)) ∈ mWS := List.mem_filter.mpr ⟨List.mem_of_getElem? (i := 765) (by rfl), by rfl⟩
set_option maxRecDepth 100000 in
theorem tw_766 : (Jvm.Cond.selects "PancakePort" ({ cls := "PancakePort", name := "forget", desc := "()I" } : Jvm.MethodName) ({ cls := "PancakePort", name := "forget", desc := "()I" } : Jvm.MethodName)) ∈ mWS := List.mem_filter.mpr ⟨List.mem_of_getElem? (i := 766) (by rfl), by rfl⟩
set_option maxRecDepth 100000 in
theorem tw_767 : (Jvm.Cond.code ({ cls := "PancakePort", name := "forget", desc := "()I" } : Jvm.MethodName) prog_1_method_22_code (2 : Nat) (Option.some Jvm.ClassFile.FieldType.int)) ∈ mWS := List.mem_filter.mpr ⟨List.mem_of_getElem? (i := 767) (by rfl), by rfl⟩
set_option maxRecDepth 100000 in
theorem tw_768 : (Jvm.Cond.methodLink "PancakePortLaw" (101 : Nat) ({ cls := "PancakePort", name := "seasons", desc := "(III)I" } : Jvm.MethodName)) ∈ mWS := List.mem_filter.mpr ⟨List.mem_of_getElem? (i := 768) (by rfl), by rfl⟩
set_option maxRecDepth 100000 in
theorem tw_769 : (Jvm.Cond.instanceMethod ({ cls := "PancakePort", name := "seasons", desc := "(III)I" } : Jvm.MethodName)) ∈ mWS := List.mem_filter.mpr ⟨List.mem_of_getElem? (i := 769) (by rfl), by rfl⟩
set_option maxRecDepth 100000 in
theorem tw_770 : (Jvm.Cond.selects "PancakePort" ({ cls := "PancakePort", name := "seasons", desc := "(III)I" } : Jvm.MethodName) ({ cls := "PancakePort", name := "seasons", desc := "(III)I" } : Jvm.MethodName)) ∈ mWS := List.mem_filter.mpr ⟨List.mem_of_getElem? (i := 770) (by rfl), by rfl⟩
set_option maxRecDepth 100000 in
theorem tw_771 : (Jvm.Cond.code ({ cls := "PancakePort", name := "seasons", desc := "(III)I" } : Jvm.MethodName) prog_1_method_23_code (11 : Nat) (Option.some Jvm.ClassFile.FieldType.int)) ∈ mWS := List.mem_filter.mpr ⟨List.mem_of_getElem? (i := 771) (by rfl), by rfl⟩
set_option maxRecDepth 100000 in
theorem tw_772 : (Jvm.Cond.methodLink "PancakePort" (213 : Nat) ({ cls := "PancakePort", name := "nextSeed", desc := "(I)I" } : Jvm.MethodName)) ∈ mWS := List.mem_filter.mpr ⟨List.mem_of_getElem? (i := 772) (by rfl), by rfl⟩
set_option maxRecDepth 100000 in
theorem tw_773 : (Jvm.Cond.static ({ cls := "PancakePort", name := "nextSeed", desc := "(I)I" } : Jvm.MethodName)) ∈ mWS := List.mem_filter.mpr ⟨List.mem_of_getElem? (i := 773) (by rfl), by rfl⟩
set_option maxRecDepth 100000 in
theorem tw_774 : (Jvm.Cond.code ({ cls := "PancakePort", name := "nextSeed", desc := "(I)I" } : Jvm.MethodName) prog_1_method_52_code (1 : Nat) (Option.some Jvm.ClassFile.FieldType.int)) ∈ mWS := List.mem_filter.mpr ⟨List.mem_of_getElem? (i := 774) (by rfl), by rfl⟩
set_option maxRecDepth 100000 in
theorem tw_775 : (Jvm.Cond.constantLong "PancakePort" (313 : Nat) (1103515245 : Int64)) ∈ mWS := List.mem_filter.mpr ⟨List.mem_of_getElem? (i := 775) (by rfl), by rfl⟩
set_option maxRecDepth 100000 in
theorem tw_776 : (Jvm.Cond.constantLong "PancakePort" (315 : Nat) (12345 : Int64)) ∈ mWS := List.mem_filter.mpr ⟨List.mem_of_getElem? (i := 776) (by rfl), by rfl⟩
set_option maxRecDepth 100000 in
theorem tw_777 : (Jvm.Cond.constantLong "PancakePort" (317 : Nat) (2147483648 : Int64)) ∈ mWS := List.mem_filter.mpr ⟨List.mem_of_getElem? (i := 777) (by rfl), by rfl⟩
set_option maxRecDepth 100000 in
theorem tw_778 : (Jvm.Cond.methodLink "PancakePort" (216 : Nat) ({ cls := "PancakePort", name := "draw", desc := "(II)I" } : Jvm.MethodName)) ∈ mWS := List.mem_filter.mpr ⟨List.mem_of_getElem? (i := 778) (by rfl), by rfl⟩
set_option maxRecDepth 100000 in
theorem tw_779 : (Jvm.Cond.static ({ cls := "PancakePort", name := "draw", desc := "(II)I" } : Jvm.MethodName)) ∈ mWS := List.mem_filter.mpr ⟨List.mem_of_getElem? (i := 779) (by rfl), by rfl⟩
set_option maxRecDepth 100000 in
theorem tw_780 : (Jvm.Cond.code ({ cls := "PancakePort", name := "draw", desc := "(II)I" } : Jvm.MethodName) prog_1_method_53_code (2 : Nat) (Option.some Jvm.ClassFile.FieldType.int)) ∈ mWS := List.mem_filter.mpr ⟨List.mem_of_getElem? (i := 780) (by rfl), by rfl⟩
set_option maxRecDepth 100000 in
theorem tw_781 : (Jvm.Cond.constant "PancakePort" (319 : Nat) (65536 : Int32)) ∈ mWS := List.mem_filter.mpr ⟨List.mem_of_getElem? (i := 781) (by rfl), by rfl⟩
set_option maxRecDepth 100000 in
theorem tw_782 : (Jvm.Cond.methodLink "PancakePortLaw" (105 : Nat) ({ cls := "PancakePort", name := "image", desc := "()I" } : Jvm.MethodName)) ∈ mWS := List.mem_filter.mpr ⟨List.mem_of_getElem? (i := 782) (by rfl), by rfl⟩
set_option maxRecDepth 100000 in
theorem tw_783 : (Jvm.Cond.instanceMethod ({ cls := "PancakePort", name := "image", desc := "()I" } : Jvm.MethodName)) ∈ mWS := List.mem_filter.mpr ⟨List.mem_of_getElem? (i := 783) (by rfl), by rfl⟩
set_option maxRecDepth 100000 in
theorem tw_784 : (Jvm.Cond.selects "PancakePort" ({ cls := "PancakePort", name := "image", desc := "()I" } : Jvm.MethodName) ({ cls := "PancakePort", name := "image", desc := "()I" } : Jvm.MethodName)) ∈ mWS := List.mem_filter.mpr ⟨List.mem_of_getElem? (i := 784) (by rfl), by rfl⟩
set_option maxRecDepth 100000 in
theorem tw_785 : (Jvm.Cond.code ({ cls := "PancakePort", name := "image", desc := "()I" } : Jvm.MethodName) prog_1_method_24_code (1 : Nat) (Option.some Jvm.ClassFile.FieldType.int)) ∈ mWS := List.mem_filter.mpr ⟨List.mem_of_getElem? (i := 785) (by rfl), by rfl⟩
set_option maxRecDepth 100000 in
theorem tw_786 : (Jvm.Cond.methodLink "PancakePort" (219 : Nat) ({ cls := "PancakePort$Night", name := "takeFrom", desc := "(LPancakePort$Night;)V" } : Jvm.MethodName)) ∈ mWS := List.mem_filter.mpr ⟨List.mem_of_getElem? (i := 786) (by rfl), by rfl⟩
set_option maxRecDepth 100000 in
theorem tw_787 : (Jvm.Cond.instanceMethod ({ cls := "PancakePort$Night", name := "takeFrom", desc := "(LPancakePort$Night;)V" } : Jvm.MethodName)) ∈ mWS := List.mem_filter.mpr ⟨List.mem_of_getElem? (i := 787) (by rfl), by rfl⟩
set_option maxRecDepth 100000 in
theorem tw_788 : (Jvm.Cond.selects "PancakePort$Night" ({ cls := "PancakePort$Night", name := "takeFrom", desc := "(LPancakePort$Night;)V" } : Jvm.MethodName) ({ cls := "PancakePort$Night", name := "takeFrom", desc := "(LPancakePort$Night;)V" } : Jvm.MethodName)) ∈ mWS := List.mem_filter.mpr ⟨List.mem_of_getElem? (i := 788) (by rfl), by rfl⟩
set_option maxRecDepth 100000 in
theorem tw_789 : (Jvm.Cond.code ({ cls := "PancakePort$Night", name := "takeFrom", desc := "(LPancakePort$Night;)V" } : Jvm.MethodName) prog_4_method_4_code (2 : Nat) (Option.none : Option Jvm.ClassFile.FieldType)) ∈ mWS := List.mem_filter.mpr ⟨List.mem_of_getElem? (i := 789) (by rfl), by rfl⟩
set_option maxRecDepth 100000 in
theorem tw_790 : (Jvm.Cond.methodLink "PancakePort$Night" (77 : Nat) ({ cls := "PancakePort$Seen", name := "takeFrom", desc := "(LPancakePort$Seen;)V" } : Jvm.MethodName)) ∈ mWS := List.mem_filter.mpr ⟨List.mem_of_getElem? (i := 790) (by rfl), by rfl⟩
set_option maxRecDepth 100000 in
theorem tw_791 : (Jvm.Cond.instanceMethod ({ cls := "PancakePort$Seen", name := "takeFrom", desc := "(LPancakePort$Seen;)V" } : Jvm.MethodName)) ∈ mWS := List.mem_filter.mpr ⟨List.mem_of_getElem? (i := 791) (by rfl), by rfl⟩
set_option maxRecDepth 100000 in
theorem tw_792 : (Jvm.Cond.selects "PancakePort$Seen" ({ cls := "PancakePort$Seen", name := "takeFrom", desc := "(LPancakePort$Seen;)V" } : Jvm.MethodName) ({ cls := "PancakePort$Seen", name := "takeFrom", desc := "(LPancakePort$Seen;)V" } : Jvm.MethodName)) ∈ mWS := List.mem_filter.mpr ⟨List.mem_of_getElem? (i := 792) (by rfl), by rfl⟩
set_option maxRecDepth 100000 in
theorem tw_793 : (Jvm.Cond.code ({ cls := "PancakePort$Seen", name := "takeFrom", desc := "(LPancakePort$Seen;)V" } : Jvm.MethodName) prog_8_method_5_code (2 : Nat) (Option.none : Option Jvm.ClassFile.FieldType)) ∈ mWS := List.mem_filter.mpr ⟨List.mem_of_getElem? (i := 793) (by rfl), by rfl⟩
set_option maxRecDepth 100000 in
theorem tw_794 : (Jvm.Cond.methodLinkNest "PancakePort$Seen" (41 : Nat) ({ cls := "PancakePort", name := "copy", desc := "([I[I)V" } : Jvm.MethodName) "PancakePort") ∈ mNw := List.mem_filter.mpr ⟨List.mem_of_getElem? (i := 794) (by rfl), by rfl⟩
set_option maxRecDepth 100000 in
theorem tw_795 : (Jvm.Cond.methodLink "PancakePortLaw" (109 : Nat) ({ cls := "PancakePort", name := "restore", desc := "()I" } : Jvm.MethodName)) ∈ mWS := List.mem_filter.mpr ⟨List.mem_of_getElem? (i := 795) (by rfl), by rfl⟩
set_option maxRecDepth 100000 in
theorem tw_796 : (Jvm.Cond.instanceMethod ({ cls := "PancakePort", name := "restore", desc := "()I" } : Jvm.MethodName)) ∈ mWS := List.mem_filter.mpr ⟨List.mem_of_getElem? (i := 796) (by rfl), by rfl⟩
set_option maxRecDepth 100000 in
theorem tw_797 : (Jvm.Cond.selects "PancakePort" ({ cls := "PancakePort", name := "restore", desc := "()I" } : Jvm.MethodName) ({ cls := "PancakePort", name := "restore", desc := "()I" } : Jvm.MethodName)) ∈ mWS := List.mem_filter.mpr ⟨List.mem_of_getElem? (i := 797) (by rfl), by rfl⟩
set_option maxRecDepth 100000 in
theorem tw_798 : (Jvm.Cond.code ({ cls := "PancakePort", name := "restore", desc := "()I" } : Jvm.MethodName) prog_1_method_25_code (1 : Nat) (Option.some Jvm.ClassFile.FieldType.int)) ∈ mWS := List.mem_filter.mpr ⟨List.mem_of_getElem? (i := 798) (by rfl), by rfl⟩
set_option maxRecDepth 100000 in
theorem tw_799 : (Jvm.Cond.methodLink "PancakePortLaw" (113 : Nat) ({ cls := "PancakePort", name := "count", desc := "(I)I" } : Jvm.MethodName)) ∈ mWS := List.mem_filter.mpr ⟨List.mem_of_getElem? (i := 799) (by rfl), by rfl⟩
set_option maxRecDepth 100000 in
theorem tw_800 : (Jvm.Cond.instanceMethod ({ cls := "PancakePort", name := "count", desc := "(I)I" } : Jvm.MethodName)) ∈ mWS := List.mem_filter.mpr ⟨List.mem_of_getElem? (i := 800) (by rfl), by rfl⟩
set_option maxRecDepth 100000 in
theorem tw_801 : (Jvm.Cond.selects "PancakePort" ({ cls := "PancakePort", name := "count", desc := "(I)I" } : Jvm.MethodName) ({ cls := "PancakePort", name := "count", desc := "(I)I" } : Jvm.MethodName)) ∈ mWS := List.mem_filter.mpr ⟨List.mem_of_getElem? (i := 801) (by rfl), by rfl⟩
set_option maxRecDepth 100000 in
theorem tw_802 : (Jvm.Cond.code ({ cls := "PancakePort", name := "count", desc := "(I)I" } : Jvm.MethodName) prog_1_method_26_code (2 : Nat) (Option.some Jvm.ClassFile.FieldType.int)) ∈ mWS := List.mem_filter.mpr ⟨List.mem_of_getElem? (i := 802) (by rfl), by rfl⟩
set_option maxRecDepth 100000 in
theorem tw_803 : (Jvm.Cond.methodLink "PancakePort" (227 : Nat) ({ cls := "PancakePort", name := "sum", desc := "([I)I" } : Jvm.MethodName)) ∈ mWS := List.mem_filter.mpr ⟨List.mem_of_getElem? (i := 803) (by rfl), by rfl⟩
set_option maxRecDepth 100000 in
theorem tw_804 : (Jvm.Cond.static ({ cls := "PancakePort", name := "sum", desc := "([I)I" } : Jvm.MethodName)) ∈ mWS := List.mem_filter.mpr ⟨List.mem_of_getElem? (i := 804) (by rfl), by rfl⟩
set_option maxRecDepth 100000 in
theorem tw_805 : (Jvm.Cond.code ({ cls := "PancakePort", name := "sum", desc := "([I)I" } : Jvm.MethodName) prog_1_method_58_code (3 : Nat) (Option.some Jvm.ClassFile.FieldType.int)) ∈ mWS := List.mem_filter.mpr ⟨List.mem_of_getElem? (i := 805) (by rfl), by rfl⟩
set_option maxRecDepth 100000 in
theorem tw_806 : (Jvm.Cond.methodLink "PancakePortLaw" (117 : Nat) ({ cls := "PancakePort", name := "digest", desc := "()J" } : Jvm.MethodName)) ∈ mWS := List.mem_filter.mpr ⟨List.mem_of_getElem? (i := 806) (by rfl), by rfl⟩
set_option maxRecDepth 100000 in
theorem tw_807 : (Jvm.Cond.instanceMethod ({ cls := "PancakePort", name := "digest", desc := "()J" } : Jvm.MethodName)) ∈ mWS := List.mem_filter.mpr ⟨List.mem_of_getElem? (i := 807) (by rfl), by rfl⟩
set_option maxRecDepth 100000 in
theorem tw_808 : (Jvm.Cond.selects "PancakePort" ({ cls := "PancakePort", name := "digest", desc := "()J" } : Jvm.MethodName) ({ cls := "PancakePort", name := "digest", desc := "()J" } : Jvm.MethodName)) ∈ mWS := List.mem_filter.mpr ⟨List.mem_of_getElem? (i := 808) (by rfl), by rfl⟩
set_option maxRecDepth 100000 in
theorem tw_809 : (Jvm.Cond.code ({ cls := "PancakePort", name := "digest", desc := "()J" } : Jvm.MethodName) prog_1_method_27_code (5 : Nat) (Option.some Jvm.ClassFile.FieldType.long)) ∈ mWS := List.mem_filter.mpr ⟨List.mem_of_getElem? (i := 809) (by rfl), by rfl⟩
set_option maxRecDepth 100000 in
theorem tw_810 : (Jvm.Cond.constantLong "PancakePort" (231 : Nat) (1217 : Int64)) ∈ mWS := List.mem_filter.mpr ⟨List.mem_of_getElem? (i := 810) (by rfl), by rfl⟩
set_option maxRecDepth 100000 in
theorem tw_811 : (Jvm.Cond.constantLong "PancakePort" (233 : Nat) (31 : Int64)) ∈ mWS := List.mem_filter.mpr ⟨List.mem_of_getElem? (i := 811) (by rfl), by rfl⟩
set_option maxRecDepth 100000 in
theorem tw_812 : (Jvm.Cond.methodLink "PancakePort" (235 : Nat) ({ cls := "PancakePort", name := "sleeper", desc := "(II)I" } : Jvm.MethodName)) ∈ mWS := List.mem_filter.mpr ⟨List.mem_of_getElem? (i := 812) (by rfl), by rfl⟩
set_option maxRecDepth 100000 in
theorem tw_813 : (Jvm.Cond.methodLink "PancakePort" (238 : Nat) ({ cls := "PancakePort", name := "tosser", desc := "(II)I" } : Jvm.MethodName)) ∈ mWS := List.mem_filter.mpr ⟨List.mem_of_getElem? (i := 813) (by rfl), by rfl⟩
set_option maxRecDepth 100000 in
theorem tw_814 : (Jvm.Cond.methodLink "PancakePort" (241 : Nat) ({ cls := "PancakePort", name := "lands", desc := "(II)I" } : Jvm.MethodName)) ∈ mWS := List.mem_filter.mpr ⟨List.mem_of_getElem? (i := 814) (by rfl), by rfl⟩
set_option maxRecDepth 100000 in
theorem tw_815 : (Jvm.Cond.methodLink "PancakePort" (244 : Nat) ({ cls := "PancakePort", name := "covers", desc := "(II)I" } : Jvm.MethodName)) ∈ mWS := List.mem_filter.mpr ⟨List.mem_of_getElem? (i := 815) (by rfl), by rfl⟩
set_option maxRecDepth 100000 in
theorem tw_816 : (Jvm.Cond.methodLink "PancakePort" (247 : Nat) ({ cls := "PancakePort", name := "digestOfPlans", desc := "(J)J" } : Jvm.MethodName)) ∈ mWS := List.mem_filter.mpr ⟨List.mem_of_getElem? (i := 816) (by rfl), by rfl⟩
set_option maxRecDepth 100000 in
theorem tw_818 : (Jvm.Cond.instanceMethod ({ cls := "PancakePort", name := "digestOfPlans", desc := "(J)J" } : Jvm.MethodName)) ∈ mWS := List.mem_filter.mpr ⟨List.mem_of_getElem? (i := 818) (by rfl), by rfl⟩
set_option maxRecDepth 100000 in
theorem tw_819 : (Jvm.Cond.code ({ cls := "PancakePort", name := "digestOfPlans", desc := "(J)J" } : Jvm.MethodName) prog_1_method_28_code (6 : Nat) (Option.some Jvm.ClassFile.FieldType.long)) ∈ mWS := List.mem_filter.mpr ⟨List.mem_of_getElem? (i := 819) (by rfl), by rfl⟩
set_option maxRecDepth 100000 in
theorem tw_820 : (Jvm.Cond.methodLink "PancakePort" (256 : Nat) ({ cls := "PancakePort", name := "nights", desc := "()I" } : Jvm.MethodName)) ∈ mWS := List.mem_filter.mpr ⟨List.mem_of_getElem? (i := 820) (by rfl), by rfl⟩
set_option maxRecDepth 100000 in
theorem tw_821 : (Jvm.Cond.methodLink "PancakePort" (259 : Nat) ({ cls := "PancakePort", name := "who", desc := "(I)I" } : Jvm.MethodName)) ∈ mWS := List.mem_filter.mpr ⟨List.mem_of_getElem? (i := 821) (by rfl), by rfl⟩
set_option maxRecDepth 100000 in
theorem tw_822 : (Jvm.Cond.methodLink "PancakePort" (254 : Nat) ({ cls := "PancakePort", name := "count", desc := "(I)I" } : Jvm.MethodName)) ∈ mWS := List.mem_filter.mpr ⟨List.mem_of_getElem? (i := 822) (by rfl), by rfl⟩
set_option maxRecDepth 100000 in
theorem tw_823 : (Jvm.Cond.classLink "PancakePortLaw" (10 : Nat) "PancakePortModel") ∈ mWS := List.mem_filter.mpr ⟨List.mem_of_getElem? (i := 823) (by rfl), by rfl⟩
set_option maxRecDepth 100000 in
theorem tw_824 : (Jvm.Cond.instantiable "PancakePortModel" (40 : Nat)) ∈ mWS := List.mem_filter.mpr ⟨List.mem_of_getElem? (i := 824) (by rfl), by rfl⟩
set_option maxRecDepth 100000 in
theorem tw_825 : (Jvm.Cond.methodLink "PancakePortLaw" (12 : Nat) ({ cls := "PancakePortModel", name := "<init>", desc := "()V" } : Jvm.MethodName)) ∈ mWS := List.mem_filter.mpr ⟨List.mem_of_getElem? (i := 825) (by rfl), by rfl⟩
set_option maxRecDepth 100000 in
theorem tw_826 : (Jvm.Cond.instanceMethod ({ cls := "PancakePortModel", name := "<init>", desc := "()V" } : Jvm.MethodName)) ∈ mWS := List.mem_filter.mpr ⟨List.mem_of_getElem? (i := 826) (by rfl), by rfl⟩
set_option maxRecDepth 100000 in
theorem tw_827 : (Jvm.Cond.code ({ cls := "PancakePortModel", name := "<init>", desc := "()V" } : Jvm.MethodName) prog_13_method_1_code (1 : Nat) (Option.none : Option Jvm.ClassFile.FieldType)) ∈ mWS := List.mem_filter.mpr ⟨List.mem_of_getElem? (i := 827) (by rfl), by rfl⟩
set_option maxRecDepth 100000 in
theorem tw_828 : (Jvm.Cond.methodLink "PancakePortModel" (1 : Nat) ({ cls := "java/lang/Object", name := "<init>", desc := "()V" } : Jvm.MethodName)) ∈ mWS := List.mem_filter.mpr ⟨List.mem_of_getElem? (i := 828) (by rfl), by rfl⟩
set_option maxRecDepth 100000 in
theorem tw_829 : (Jvm.Cond.fieldLink "PancakePortModel" (7 : Nat) "PancakePortModel" "page" "[I") ∈ mWS := List.mem_filter.mpr ⟨List.mem_of_getElem? (i := 829) (by rfl), by rfl⟩
set_option maxRecDepth 100000 in
theorem tw_830 : (Jvm.Cond.fieldLink "PancakePortModel" (83 : Nat) "PancakePortModel" "pageMany" "I") ∈ mWS := List.mem_filter.mpr ⟨List.mem_of_getElem? (i := 830) (by rfl), by rfl⟩
set_option maxRecDepth 100000 in
theorem tw_831 : (Jvm.Cond.fieldLink "PancakePortModel" (98 : Nat) "PancakePortModel" "end" "I") ∈ mWS := List.mem_filter.mpr ⟨List.mem_of_getElem? (i := 831) (by rfl), by rfl⟩
set_option maxRecDepth 100000 in
theorem tw_832 : (Jvm.Cond.fieldLink "PancakePortModel" (116 : Nat) "PancakePortModel" "sleepers" "I") ∈ mWS := List.mem_filter.mpr ⟨List.mem_of_getElem? (i := 832) (by rfl), by rfl⟩
set_option maxRecDepth 100000 in
theorem tw_833 : (Jvm.Cond.fieldLink "PancakePortModel" (119 : Nat) "PancakePortModel" "tossers" "I") ∈ mWS := List.mem_filter.mpr ⟨List.mem_of_getElem? (i := 833) (by rfl), by rfl⟩
set_option maxRecDepth 100000 in
theorem tw_834 : (Jvm.Cond.fieldLink "PancakePortModel" (122 : Nat) "PancakePortModel" "wind" "I") ∈ mWS := List.mem_filter.mpr ⟨List.mem_of_getElem? (i := 834) (by rfl), by rfl⟩
set_option maxRecDepth 100000 in
theorem tw_835 : (Jvm.Cond.fieldLink "PancakePortModel" (125 : Nat) "PancakePortModel" "batter" "I") ∈ mWS := List.mem_filter.mpr ⟨List.mem_of_getElem? (i := 835) (by rfl), by rfl⟩
set_option maxRecDepth 100000 in
theorem tw_836 : (Jvm.Cond.fieldLink "PancakePortModel" (128 : Nat) "PancakePortModel" "mornings" "I") ∈ mWS := List.mem_filter.mpr ⟨List.mem_of_getElem? (i := 836) (by rfl), by rfl⟩
set_option maxRecDepth 100000 in
theorem tw_837 : (Jvm.Cond.fieldLink "PancakePortModel" (131 : Nat) "PancakePortModel" "thrown" "I") ∈ mWS := List.mem_filter.mpr ⟨List.mem_of_getElem? (i := 837) (by rfl), by rfl⟩
set_option maxRecDepth 100000 in
theorem tw_838 : (Jvm.Cond.fieldLink "PancakePortModel" (137 : Nat) "PancakePortModel" "portsRead" "I") ∈ mWS := List.mem_filter.mpr ⟨List.mem_of_getElem? (i := 838) (by rfl), by rfl⟩
set_option maxRecDepth 100000 in
theorem tw_839 : (Jvm.Cond.fieldLink "PancakePortModel" (13 : Nat) "PancakePortModel" "cells" "[I") ∈ mWS := List.mem_filter.mpr ⟨List.mem_of_getElem? (i := 839) (by rfl), by rfl⟩
set_option maxRecDepth 100000 in
theorem tw_840 : (Jvm.Cond.fieldLink "PancakePortModel" (16 : Nat) "PancakePortModel" "isCovered" "[I") ∈ mWS := List.mem_filter.mpr ⟨List.mem_of_getElem? (i := 840) (by rfl), by rfl⟩
set_option maxRecDepth 100000 in
theorem tw_841 : (Jvm.Cond.fieldLink "PancakePortModel" (19 : Nat) "PancakePortModel" "breakfasts" "[I") ∈ mWS := List.mem_filter.mpr ⟨List.mem_of_getElem? (i := 841) (by rfl), by rfl⟩
set_option maxRecDepth 100000 in
theorem tw_842 : (Jvm.Cond.fieldLink "PancakePortModel" (22 : Nat) "PancakePortModel" "colds" "[I") ∈ mWS := List.mem_filter.mpr ⟨List.mem_of_getElem? (i := 842) (by rfl), by rfl⟩
set_option maxRecDepth 100000 in
theorem tw_843 : (Jvm.Cond.fieldLink "PancakePortModel" (25 : Nat) "PancakePortModel" "kinds" "[I") ∈ mWS := List.mem_filter.mpr ⟨List.mem_of_getElem? (i := 843) (by rfl), by rfl⟩
set_option maxRecDepth 100000 in
theorem tw_844 : (Jvm.Cond.fieldLink "PancakePortModel" (28 : Nat) "PancakePortModel" "south" "[I") ∈ mWS := List.mem_filter.mpr ⟨List.mem_of_getElem? (i := 844) (by rfl), by rfl⟩
set_option maxRecDepth 100000 in
theorem tw_845 : (Jvm.Cond.fieldLink "PancakePortModel" (31 : Nat) "PancakePortModel" "east" "[I") ∈ mWS := List.mem_filter.mpr ⟨List.mem_of_getElem? (i := 845) (by rfl), by rfl⟩
set_option maxRecDepth 100000 in
theorem tw_846 : (Jvm.Cond.fieldLink "PancakePortModel" (34 : Nat) "PancakePortModel" "threw" "[I") ∈ mWS := List.mem_filter.mpr ⟨List.mem_of_getElem? (i := 846) (by rfl), by rfl⟩
set_option maxRecDepth 100000 in
theorem tw_847 : (Jvm.Cond.fieldLink "PancakePortModel" (37 : Nat) "PancakePortModel" "covering" "[I") ∈ mWS := List.mem_filter.mpr ⟨List.mem_of_getElem? (i := 847) (by rfl), by rfl⟩
set_option maxRecDepth 100000 in
theorem tw_848 : (Jvm.Cond.fieldLink "PancakePortModel" (40 : Nat) "PancakePortModel" "least" "[I") ∈ mWS := List.mem_filter.mpr ⟨List.mem_of_getElem? (i := 848) (by rfl), by rfl⟩
set_option maxRecDepth 100000 in
theorem tw_849 : (Jvm.Cond.fieldLink "PancakePortModel" (43 : Nat) "PancakePortModel" "taken" "[I") ∈ mWS := List.mem_filter.mpr ⟨List.mem_of_getElem? (i := 849) (by rfl), by rfl⟩
set_option maxRecDepth 100000 in
theorem tw_850 : (Jvm.Cond.fieldLink "PancakePortModel" (223 : Nat) "PancakePortModel" "takenMany" "I") ∈ mWS := List.mem_filter.mpr ⟨List.mem_of_getElem? (i := 850) (by rfl), by rfl⟩
set_option maxRecDepth 100000 in
theorem tw_851 : (Jvm.Cond.fieldLink "PancakePortModel" (134 : Nat) "PancakePortModel" "seenMany" "I") ∈ mWS := List.mem_filter.mpr ⟨List.mem_of_getElem? (i := 851) (by rfl), by rfl⟩
set_option maxRecDepth 100000 in
theorem tw_852 : (Jvm.Cond.fieldLink "PancakePortModel" (46 : Nat) "PancakePortModel" "sights" "[I") ∈ mWS := List.mem_filter.mpr ⟨List.mem_of_getElem? (i := 852) (by rfl), by rfl⟩
set_option maxRecDepth 100000 in
theorem tw_853 : (Jvm.Cond.fieldLink "PancakePortModel" (251 : Nat) "PancakePortModel" "seedNow" "I") ∈ mWS := List.mem_filter.mpr ⟨List.mem_of_getElem? (i := 853) (by rfl), by rfl⟩
set_option maxRecDepth 100000 in
theorem tw_854 : (Jvm.Cond.fieldLink "PancakePortModel" (73 : Nat) "PancakePortModel" "keptPort" "I") ∈ mWS := List.mem_filter.mpr ⟨List.mem_of_getElem? (i := 854) (by rfl), by rfl⟩
set_option maxRecDepth 100000 in
theorem tw_855 : (Jvm.Cond.fieldLink "PancakePortModel" (268 : Nat) "PancakePortModel" "keptWind" "I") ∈ mWS := List.mem_filter.mpr ⟨List.mem_of_getElem? (i := 855) (by rfl), by rfl⟩
set_option maxRecDepth 100000 in
theorem tw_856 : (Jvm.Cond.fieldLink "PancakePortModel" (271 : Nat) "PancakePortModel" "keptBatter" "I") ∈ mWS := List.mem_filter.mpr ⟨List.mem_of_getElem? (i := 856) (by rfl), by rfl⟩
set_option maxRecDepth 100000 in
theorem tw_857 : (Jvm.Cond.fieldLink "PancakePortModel" (274 : Nat) "PancakePortModel" "keptMornings" "I") ∈ mWS := List.mem_filter.mpr ⟨List.mem_of_getElem? (i := 857) (by rfl), by rfl⟩
set_option maxRecDepth 100000 in
theorem tw_858 : (Jvm.Cond.fieldLink "PancakePortModel" (277 : Nat) "PancakePortModel" "keptThrown" "I") ∈ mWS := List.mem_filter.mpr ⟨List.mem_of_getElem? (i := 858) (by rfl), by rfl⟩
set_option maxRecDepth 100000 in
theorem tw_859 : (Jvm.Cond.fieldLink "PancakePortModel" (280 : Nat) "PancakePortModel" "keptSeen" "I") ∈ mWS := List.mem_filter.mpr ⟨List.mem_of_getElem? (i := 859) (by rfl), by rfl⟩
set_option maxRecDepth 100000 in
theorem tw_860 : (Jvm.Cond.fieldLink "PancakePortModel" (49 : Nat) "PancakePortModel" "keptCells" "[I") ∈ mWS := List.mem_filter.mpr ⟨List.mem_of_getElem? (i := 860) (by rfl), by rfl⟩
set_option maxRecDepth 100000 in
theorem tw_861 : (Jvm.Cond.fieldLink "PancakePortModel" (52 : Nat) "PancakePortModel" "keptCovered" "[I") ∈ mWS := List.mem_filter.mpr ⟨List.mem_of_getElem? (i := 861) (by rfl), by rfl⟩
set_option maxRecDepth 100000 in
theorem tw_862 : (Jvm.Cond.fieldLink "PancakePortModel" (55 : Nat) "PancakePortModel" "keptBreakfasts" "[I") ∈ mWS := List.mem_filter.mpr ⟨List.mem_of_getElem? (i := 862) (by rfl), by rfl⟩
set_option maxRecDepth 100000 in
theorem tw_863 : (Jvm.Cond.fieldLink "PancakePortModel" (58 : Nat) "PancakePortModel" "keptColds" "[I") ∈ mWS := List.mem_filter.mpr ⟨List.mem_of_getElem? (i := 863) (by rfl), by rfl⟩
set_option maxRecDepth 100000 in
theorem tw_864 : (Jvm.Cond.fieldLink "PancakePortModel" (61 : Nat) "PancakePortModel" "keptSouth" "[I") ∈ mWS := List.mem_filter.mpr ⟨List.mem_of_getElem? (i := 864) (by rfl), by rfl⟩
set_option maxRecDepth 100000 in
theorem tw_865 : (Jvm.Cond.fieldLink "PancakePortModel" (64 : Nat) "PancakePortModel" "keptEast" "[I") ∈ mWS := List.mem_filter.mpr ⟨List.mem_of_getElem? (i := 865) (by rfl), by rfl⟩
set_option maxRecDepth 100000 in
theorem tw_866 : (Jvm.Cond.fieldLink "PancakePortModel" (67 : Nat) "PancakePortModel" "keptThrew" "[I") ∈ mWS := List.mem_filter.mpr ⟨List.mem_of_getElem? (i := 866) (by rfl), by rfl⟩
set_option maxRecDepth 100000 in
theorem tw_867 : (Jvm.Cond.fieldLink "PancakePortModel" (70 : Nat) "PancakePortModel" "keptSights" "[I") ∈ mWS := List.mem_filter.mpr ⟨List.mem_of_getElem? (i := 867) (by rfl), by rfl⟩
set_option maxRecDepth 100000 in
theorem tw_868 : (Jvm.Cond.fieldLink "PancakePortModel" (292 : Nat) "PancakePortModel" "hash" "J") ∈ mWS := List.mem_filter.mpr ⟨List.mem_of_getElem? (i := 868) (by rfl), by rfl⟩
set_option maxRecDepth 100000 in
theorem tw_869 : (Jvm.Cond.laysFinal "PancakePortModel" "PancakePortModel" "page" "[I") ∈ mWS := List.mem_filter.mpr ⟨List.mem_of_getElem? (i := 869) (by rfl), by rfl⟩
set_option maxRecDepth 100000 in
theorem tw_871 : (Jvm.Cond.lays "PancakePortModel" "PancakePortModel" "pageMany" "I") ∈ mWS := List.mem_filter.mpr ⟨List.mem_of_getElem? (i := 871) (by rfl), by rfl⟩
set_option maxRecDepth 100000 in
theorem tw_873 : (Jvm.Cond.lays "PancakePortModel" "PancakePortModel" "end" "I") ∈ mWS := List.mem_filter.mpr ⟨List.mem_of_getElem? (i := 873) (by rfl), by rfl⟩
set_option maxRecDepth 100000 in
theorem tw_875 : (Jvm.Cond.lays "PancakePortModel" "PancakePortModel" "sleepers" "I") ∈ mWS := List.mem_filter.mpr ⟨List.mem_of_getElem? (i := 875) (by rfl), by rfl⟩
set_option maxRecDepth 100000 in
theorem tw_877 : (Jvm.Cond.lays "PancakePortModel" "PancakePortModel" "tossers" "I") ∈ mWS := List.mem_filter.mpr ⟨List.mem_of_getElem? (i := 877) (by rfl), by rfl⟩
set_option maxRecDepth 100000 in
theorem tw_879 : (Jvm.Cond.lays "PancakePortModel" "PancakePortModel" "wind" "I") ∈ mWS := List.mem_filter.mpr ⟨List.mem_of_getElem? (i := 879) (by rfl), by rfl⟩
set_option maxRecDepth 100000 in
theorem tw_881 : (Jvm.Cond.lays "PancakePortModel" "PancakePortModel" "batter" "I") ∈ mWS := List.mem_filter.mpr ⟨List.mem_of_getElem? (i := 881) (by rfl), by rfl⟩
set_option maxRecDepth 100000 in
theorem tw_883 : (Jvm.Cond.lays "PancakePortModel" "PancakePortModel" "mornings" "I") ∈ mWS := List.mem_filter.mpr ⟨List.mem_of_getElem? (i := 883) (by rfl), by rfl⟩
set_option maxRecDepth 100000 in
theorem tw_885 : (Jvm.Cond.lays "PancakePortModel" "PancakePortModel" "thrown" "I") ∈ mWS := List.mem_filter.mpr ⟨List.mem_of_getElem? (i := 885) (by rfl), by rfl⟩
set_option maxRecDepth 100000 in
theorem tw_887 : (Jvm.Cond.lays "PancakePortModel" "PancakePortModel" "portsRead" "I") ∈ mWS := List.mem_filter.mpr ⟨List.mem_of_getElem? (i := 887) (by rfl), by rfl⟩
set_option maxRecDepth 100000 in
theorem tw_889 : (Jvm.Cond.laysFinal "PancakePortModel" "PancakePortModel" "cells" "[I") ∈ mWS := List.mem_filter.mpr ⟨List.mem_of_getElem? (i := 889) (by rfl), by rfl⟩
set_option maxRecDepth 100000 in
theorem tw_891 : (Jvm.Cond.laysFinal "PancakePortModel" "PancakePortModel" "isCovered" "[I") ∈ mWS := List.mem_filter.mpr ⟨List.mem_of_getElem? (i := 891) (by rfl), by rfl⟩
set_option maxRecDepth 100000 in
theorem tw_893 : (Jvm.Cond.laysFinal "PancakePortModel" "PancakePortModel" "breakfasts" "[I") ∈ mWS := List.mem_filter.mpr ⟨List.mem_of_getElem? (i := 893) (by rfl), by rfl⟩
set_option maxRecDepth 100000 in
theorem tw_895 : (Jvm.Cond.laysFinal "PancakePortModel" "PancakePortModel" "colds" "[I") ∈ mWS := List.mem_filter.mpr ⟨List.mem_of_getElem? (i := 895) (by rfl), by rfl⟩
set_option maxRecDepth 100000 in
theorem tw_897 : (Jvm.Cond.laysFinal "PancakePortModel" "PancakePortModel" "kinds" "[I") ∈ mWS := List.mem_filter.mpr ⟨List.mem_of_getElem? (i := 897) (by rfl), by rfl⟩
set_option maxRecDepth 100000 in
theorem tw_899 : (Jvm.Cond.laysFinal "PancakePortModel" "PancakePortModel" "south" "[I") ∈ mWS := List.mem_filter.mpr ⟨List.mem_of_getElem? (i := 899) (by rfl), by rfl⟩
set_option maxRecDepth 100000 in
theorem tw_901 : (Jvm.Cond.laysFinal "PancakePortModel" "PancakePortModel" "east" "[I") ∈ mWS := List.mem_filter.mpr ⟨List.mem_of_getElem? (i := 901) (by rfl), by rfl⟩
set_option maxRecDepth 100000 in
theorem tw_903 : (Jvm.Cond.laysFinal "PancakePortModel" "PancakePortModel" "threw" "[I") ∈ mWS := List.mem_filter.mpr ⟨List.mem_of_getElem? (i := 903) (by rfl), by rfl⟩
set_option maxRecDepth 100000 in
theorem tw_905 : (Jvm.Cond.laysFinal "PancakePortModel" "PancakePortModel" "covering" "[I") ∈ mWS := List.mem_filter.mpr ⟨List.mem_of_getElem? (i := 905) (by rfl), by rfl⟩
set_option maxRecDepth 100000 in
theorem tw_907 : (Jvm.Cond.laysFinal "PancakePortModel" "PancakePortModel" "least" "[I") ∈ mWS := List.mem_filter.mpr ⟨List.mem_of_getElem? (i := 907) (by rfl), by rfl⟩
set_option maxRecDepth 100000 in
theorem tw_909 : (Jvm.Cond.laysFinal "PancakePortModel" "PancakePortModel" "taken" "[I") ∈ mWS := List.mem_filter.mpr ⟨List.mem_of_getElem? (i := 909) (by rfl), by rfl⟩
set_option maxRecDepth 100000 in
theorem tw_911 : (Jvm.Cond.lays "PancakePortModel" "PancakePortModel" "takenMany" "I") ∈ mWS := List.mem_filter.mpr ⟨List.mem_of_getElem? (i := 911) (by rfl), by rfl⟩
set_option maxRecDepth 100000 in
theorem tw_913 : (Jvm.Cond.lays "PancakePortModel" "PancakePortModel" "seenMany" "I") ∈ mWS := List.mem_filter.mpr ⟨List.mem_of_getElem? (i := 913) (by rfl), by rfl⟩
set_option maxRecDepth 100000 in
theorem tw_915 : (Jvm.Cond.laysFinal "PancakePortModel" "PancakePortModel" "sights" "[I") ∈ mWS := List.mem_filter.mpr ⟨List.mem_of_getElem? (i := 915) (by rfl), by rfl⟩
set_option maxRecDepth 100000 in
theorem tw_917 : (Jvm.Cond.lays "PancakePortModel" "PancakePortModel" "seedNow" "I") ∈ mWS := List.mem_filter.mpr ⟨List.mem_of_getElem? (i := 917) (by rfl), by rfl⟩
set_option maxRecDepth 100000 in
theorem tw_919 : (Jvm.Cond.lays "PancakePortModel" "PancakePortModel" "keptPort" "I") ∈ mWS := List.mem_filter.mpr ⟨List.mem_of_getElem? (i := 919) (by rfl), by rfl⟩
set_option maxRecDepth 100000 in
theorem tw_921 : (Jvm.Cond.lays "PancakePortModel" "PancakePortModel" "keptWind" "I") ∈ mWS := List.mem_filter.mpr ⟨List.mem_of_getElem? (i := 921) (by rfl), by rfl⟩
set_option maxRecDepth 100000 in
theorem tw_923 : (Jvm.Cond.lays "PancakePortModel" "PancakePortModel" "keptBatter" "I") ∈ mWS := List.mem_filter.mpr ⟨List.mem_of_getElem? (i := 923) (by rfl), by rfl⟩
set_option maxRecDepth 100000 in
theorem tw_925 : (Jvm.Cond.lays "PancakePortModel" "PancakePortModel" "keptMornings" "I") ∈ mWS := List.mem_filter.mpr ⟨List.mem_of_getElem? (i := 925) (by rfl), by rfl⟩
set_option maxRecDepth 100000 in
theorem tw_927 : (Jvm.Cond.lays "PancakePortModel" "PancakePortModel" "keptThrown" "I") ∈ mWS := List.mem_filter.mpr ⟨List.mem_of_getElem? (i := 927) (by rfl), by rfl⟩
set_option maxRecDepth 100000 in
theorem tw_929 : (Jvm.Cond.lays "PancakePortModel" "PancakePortModel" "keptSeen" "I") ∈ mWS := List.mem_filter.mpr ⟨List.mem_of_getElem? (i := 929) (by rfl), by rfl⟩
set_option maxRecDepth 100000 in
theorem tw_931 : (Jvm.Cond.laysFinal "PancakePortModel" "PancakePortModel" "keptCells" "[I") ∈ mWS := List.mem_filter.mpr ⟨List.mem_of_getElem? (i := 931) (by rfl), by rfl⟩
set_option maxRecDepth 100000 in
theorem tw_933 : (Jvm.Cond.laysFinal "PancakePortModel" "PancakePortModel" "keptCovered" "[I") ∈ mWS := List.mem_filter.mpr ⟨List.mem_of_getElem? (i := 933) (by rfl), by rfl⟩
set_option maxRecDepth 100000 in
theorem tw_935 : (Jvm.Cond.laysFinal "PancakePortModel" "PancakePortModel" "keptBreakfasts" "[I") ∈ mWS := List.mem_filter.mpr ⟨List.mem_of_getElem? (i := 935) (by rfl), by rfl⟩
set_option maxRecDepth 100000 in
theorem tw_937 : (Jvm.Cond.laysFinal "PancakePortModel" "PancakePortModel" "keptColds" "[I") ∈ mWS := List.mem_filter.mpr ⟨List.mem_of_getElem? (i := 937) (by rfl), by rfl⟩
set_option maxRecDepth 100000 in
theorem tw_939 : (Jvm.Cond.laysFinal "PancakePortModel" "PancakePortModel" "keptSouth" "[I") ∈ mWS := List.mem_filter.mpr ⟨List.mem_of_getElem? (i := 939) (by rfl), by rfl⟩
set_option maxRecDepth 100000 in
theorem tw_941 : (Jvm.Cond.laysFinal "PancakePortModel" "PancakePortModel" "keptEast" "[I") ∈ mWS := List.mem_filter.mpr ⟨List.mem_of_getElem? (i := 941) (by rfl), by rfl⟩
set_option maxRecDepth 100000 in
theorem tw_943 : (Jvm.Cond.laysFinal "PancakePortModel" "PancakePortModel" "keptThrew" "[I") ∈ mWS := List.mem_filter.mpr ⟨List.mem_of_getElem? (i := 943) (by rfl), by rfl⟩
set_option maxRecDepth 100000 in
theorem tw_945 : (Jvm.Cond.laysFinal "PancakePortModel" "PancakePortModel" "keptSights" "[I") ∈ mWS := List.mem_filter.mpr ⟨List.mem_of_getElem? (i := 945) (by rfl), by rfl⟩
set_option maxRecDepth 100000 in
theorem tw_947 : (Jvm.Cond.lays "PancakePortModel" "PancakePortModel" "hash" "J") ∈ mWS := List.mem_filter.mpr ⟨List.mem_of_getElem? (i := 947) (by rfl), by rfl⟩
set_option maxRecDepth 100000 in
theorem tw_949 : (Jvm.Cond.superclass "PancakePortModel" "java/lang/Object") ∈ mWS := List.mem_filter.mpr ⟨List.mem_of_getElem? (i := 949) (by rfl), by rfl⟩
set_option maxRecDepth 100000 in
theorem tw_950 : (Jvm.Cond.methodLink "PancakePortLaw" (17 : Nat) ({ cls := "PancakePortModel", name := "letter", desc := "(I)I" } : Jvm.MethodName)) ∈ mWS := List.mem_filter.mpr ⟨List.mem_of_getElem? (i := 950) (by rfl), by rfl⟩
set_option maxRecDepth 100000 in
theorem tw_951 : (Jvm.Cond.instanceMethod ({ cls := "PancakePortModel", name := "letter", desc := "(I)I" } : Jvm.MethodName)) ∈ mWS := List.mem_filter.mpr ⟨List.mem_of_getElem? (i := 951) (by rfl), by rfl⟩
set_option maxRecDepth 100000 in
theorem tw_952 : (Jvm.Cond.selects "PancakePortModel" ({ cls := "PancakePortModel", name := "letter", desc := "(I)I" } : Jvm.MethodName) ({ cls := "PancakePortModel", name := "letter", desc := "(I)I" } : Jvm.MethodName)) ∈ mWS := List.mem_filter.mpr ⟨List.mem_of_getElem? (i := 952) (by rfl), by rfl⟩
set_option maxRecDepth 100000 in
theorem tw_953 : (Jvm.Cond.code ({ cls := "PancakePortModel", name := "letter", desc := "(I)I" } : Jvm.MethodName) prog_13_method_4_code (2 : Nat) (Option.some Jvm.ClassFile.FieldType.int)) ∈ mWS := List.mem_filter.mpr ⟨List.mem_of_getElem? (i := 953) (by rfl), by rfl⟩
set_option maxRecDepth 100000 in
theorem tw_954 : (Jvm.Cond.constantLong "PancakePortModel" (77 : Nat) (126 : Int64)) ∈ mWS := List.mem_filter.mpr ⟨List.mem_of_getElem? (i := 954) (by rfl), by rfl⟩
set_option maxRecDepth 100000 in
theorem tw_955 : (Jvm.Cond.methodLink "PancakePortModel" (79 : Nat) ({ cls := "PancakePortModel", name := "in", desc := "(JJJ)Z" } : Jvm.MethodName)) ∈ mWS := List.mem_filter.mpr ⟨List.mem_of_getElem? (i := 955) (by rfl), by rfl⟩
set_option maxRecDepth 100000 in
theorem tw_956 : (Jvm.Cond.static ({ cls := "PancakePortModel", name := "in", desc := "(JJJ)Z" } : Jvm.MethodName)) ∈ mWS := List.mem_filter.mpr ⟨List.mem_of_getElem? (i := 956) (by rfl), by rfl⟩
set_option maxRecDepth 100000 in
theorem tw_957 : (Jvm.Cond.code ({ cls := "PancakePortModel", name := "in", desc := "(JJJ)Z" } : Jvm.MethodName) prog_13_method_2_code (6 : Nat) (Option.some Jvm.ClassFile.FieldType.boolean)) ∈ mWS := List.mem_filter.mpr ⟨List.mem_of_getElem? (i := 957) (by rfl), by rfl⟩
set_option maxRecDepth 100000 in
theorem tw_958 : (Jvm.Cond.methodLink "PancakePortLaw" (22 : Nat) ({ cls := "PancakePortModel", name := "blank", desc := "()I" } : Jvm.MethodName)) ∈ mWS := List.mem_filter.mpr ⟨List.mem_of_getElem? (i := 958) (by rfl), by rfl⟩
set_option maxRecDepth 100000 in
theorem tw_959 : (Jvm.Cond.instanceMethod ({ cls := "PancakePortModel", name := "blank", desc := "()I" } : Jvm.MethodName)) ∈ mWS := List.mem_filter.mpr ⟨List.mem_of_getElem? (i := 959) (by rfl), by rfl⟩
set_option maxRecDepth 100000 in
theorem tw_960 : (Jvm.Cond.selects "PancakePortModel" ({ cls := "PancakePortModel", name := "blank", desc := "()I" } : Jvm.MethodName) ({ cls := "PancakePortModel", name := "blank", desc := "()I" } : Jvm.MethodName)) ∈ mWS := List.mem_filter.mpr ⟨List.mem_of_getElem? (i := 960) (by rfl), by rfl⟩
set_option maxRecDepth 100000 in
theorem tw_961 : (Jvm.Cond.code ({ cls := "PancakePortModel", name := "blank", desc := "()I" } : Jvm.MethodName) prog_13_method_5_code (2 : Nat) (Option.some Jvm.ClassFile.FieldType.int)) ∈ mWS := List.mem_filter.mpr ⟨List.mem_of_getElem? (i := 961) (by rfl), by rfl⟩
set_option maxRecDepth 100000 in
theorem tw_962 : (Jvm.Cond.methodLink "PancakePortLaw" (26 : Nat) ({ cls := "PancakePortModel", name := "fault", desc := "()I" } : Jvm.MethodName)) ∈ mWS := List.mem_filter.mpr ⟨List.mem_of_getElem? (i := 962) (by rfl), by rfl⟩
set_option maxRecDepth 100000 in
theorem tw_963 : (Jvm.Cond.instanceMethod ({ cls := "PancakePortModel", name := "fault", desc := "()I" } : Jvm.MethodName)) ∈ mWS := List.mem_filter.mpr ⟨List.mem_of_getElem? (i := 963) (by rfl), by rfl⟩
set_option maxRecDepth 100000 in
theorem tw_964 : (Jvm.Cond.selects "PancakePortModel" ({ cls := "PancakePortModel", name := "fault", desc := "()I" } : Jvm.MethodName) ({ cls := "PancakePortModel", name := "fault", desc := "()I" } : Jvm.MethodName)) ∈ mWS := List.mem_filter.mpr ⟨List.mem_of_getElem? (i := 964) (by rfl), by rfl⟩
set_option maxRecDepth 100000 in
theorem tw_965 : (Jvm.Cond.code ({ cls := "PancakePortModel", name := "fault", desc := "()I" } : Jvm.MethodName) prog_13_method_12_code (1 : Nat) (Option.some Jvm.ClassFile.FieldType.int)) ∈ mWS := List.mem_filter.mpr ⟨List.mem_of_getElem? (i := 965) (by rfl), by rfl⟩
set_option maxRecDepth 100000 in
theorem tw_966 : (Jvm.Cond.methodLink "PancakePortModel" (112 : Nat) ({ cls := "PancakePortModel", name := "faultOf", desc := "()I" } : Jvm.MethodName)) ∈ mWS := List.mem_filter.mpr ⟨List.mem_of_getElem? (i := 966) (by rfl), by rfl⟩
set_option maxRecDepth 100000 in
theorem tw_968 : (Jvm.Cond.instanceMethod ({ cls := "PancakePortModel", name := "faultOf", desc := "()I" } : Jvm.MethodName)) ∈ mWS := List.mem_filter.mpr ⟨List.mem_of_getElem? (i := 968) (by rfl), by rfl⟩
set_option maxRecDepth 100000 in
theorem tw_969 : (Jvm.Cond.code ({ cls := "PancakePortModel", name := "faultOf", desc := "()I" } : Jvm.MethodName) prog_13_method_11_code (2 : Nat) (Option.some Jvm.ClassFile.FieldType.int)) ∈ mWS := List.mem_filter.mpr ⟨List.mem_of_getElem? (i := 969) (by rfl), by rfl⟩
set_option maxRecDepth 100000 in
theorem tw_970 : (Jvm.Cond.methodLink "PancakePortModel" (106 : Nat) ({ cls := "PancakePortModel", name := "isSleeperLetter", desc := "(I)Z" } : Jvm.MethodName)) ∈ mWS := List.mem_filter.mpr ⟨List.mem_of_getElem? (i := 970) (by rfl), by rfl⟩
set_option maxRecDepth 100000 in
theorem tw_972 : (Jvm.Cond.instanceMethod ({ cls := "PancakePortModel", name := "isSleeperLetter", desc := "(I)Z" } : Jvm.MethodName)) ∈ mWS := List.mem_filter.mpr ⟨List.mem_of_getElem? (i := 972) (by rfl), by rfl⟩
set_option maxRecDepth 100000 in
theorem tw_973 : (Jvm.Cond.code ({ cls := "PancakePortModel", name := "isSleeperLetter", desc := "(I)Z" } : Jvm.MethodName) prog_13_method_9_code (3 : Nat) (Option.some Jvm.ClassFile.FieldType.boolean)) ∈ mWS := List.mem_filter.mpr ⟨List.mem_of_getElem? (i := 973) (by rfl), by rfl⟩
set_option maxRecDepth 100000 in
theorem tw_974 : (Jvm.Cond.constantLong "PancakePortModel" (90 : Nat) (48 : Int64)) ∈ mWS := List.mem_filter.mpr ⟨List.mem_of_getElem? (i := 974) (by rfl), by rfl⟩
set_option maxRecDepth 100000 in
theorem tw_975 : (Jvm.Cond.constantLong "PancakePortModel" (92 : Nat) (53 : Int64)) ∈ mWS := List.mem_filter.mpr ⟨List.mem_of_getElem? (i := 975) (by rfl), by rfl⟩
set_option maxRecDepth 100000 in
theorem tw_976 : (Jvm.Cond.methodLink "PancakePortModel" (94 : Nat) ({ cls := "PancakePortModel", name := "isNew", desc := "(I)Z" } : Jvm.MethodName)) ∈ mWS := List.mem_filter.mpr ⟨List.mem_of_getElem? (i := 976) (by rfl), by rfl⟩
set_option maxRecDepth 100000 in
theorem tw_978 : (Jvm.Cond.instanceMethod ({ cls := "PancakePortModel", name := "isNew", desc := "(I)Z" } : Jvm.MethodName)) ∈ mWS := List.mem_filter.mpr ⟨List.mem_of_getElem? (i := 978) (by rfl), by rfl⟩
set_option maxRecDepth 100000 in
theorem tw_979 : (Jvm.Cond.code ({ cls := "PancakePortModel", name := "isNew", desc := "(I)Z" } : Jvm.MethodName) prog_13_method_8_code (4 : Nat) (Option.some Jvm.ClassFile.FieldType.boolean)) ∈ mWS := List.mem_filter.mpr ⟨List.mem_of_getElem? (i := 979) (by rfl), by rfl⟩
set_option maxRecDepth 100000 in
theorem tw_980 : (Jvm.Cond.methodLink "PancakePortModel" (86 : Nat) ({ cls := "PancakePortModel", name := "cellAt", desc := "(I)I" } : Jvm.MethodName)) ∈ mWS := List.mem_filter.mpr ⟨List.mem_of_getElem? (i := 980) (by rfl), by rfl⟩
set_option maxRecDepth 100000 in
theorem tw_982 : (Jvm.Cond.instanceMethod ({ cls := "PancakePortModel", name := "cellAt", desc := "(I)I" } : Jvm.MethodName)) ∈ mWS := List.mem_filter.mpr ⟨List.mem_of_getElem? (i := 982) (by rfl), by rfl⟩
set_option maxRecDepth 100000 in
theorem tw_983 : (Jvm.Cond.code ({ cls := "PancakePortModel", name := "cellAt", desc := "(I)I" } : Jvm.MethodName) prog_13_method_7_code (2 : Nat) (Option.some Jvm.ClassFile.FieldType.int)) ∈ mWS := List.mem_filter.mpr ⟨List.mem_of_getElem? (i := 983) (by rfl), by rfl⟩
set_option maxRecDepth 100000 in
theorem tw_984 : (Jvm.Cond.methodLink "PancakePortModel" (109 : Nat) ({ cls := "PancakePortModel", name := "isTosserLetter", desc := "(I)Z" } : Jvm.MethodName)) ∈ mWS := List.mem_filter.mpr ⟨List.mem_of_getElem? (i := 984) (by rfl), by rfl⟩
set_option maxRecDepth 100000 in
theorem tw_986 : (Jvm.Cond.instanceMethod ({ cls := "PancakePortModel", name := "isTosserLetter", desc := "(I)Z" } : Jvm.MethodName)) ∈ mWS := List.mem_filter.mpr ⟨List.mem_of_getElem? (i := 986) (by rfl), by rfl⟩
set_option maxRecDepth 100000 in
theorem tw_987 : (Jvm.Cond.code ({ cls := "PancakePortModel", name := "isTosserLetter", desc := "(I)Z" } : Jvm.MethodName) prog_13_method_10_code (4 : Nat) (Option.some Jvm.ClassFile.FieldType.boolean)) ∈ mWS := List.mem_filter.mpr ⟨List.mem_of_getElem? (i := 987) (by rfl), by rfl⟩
set_option maxRecDepth 100000 in
theorem tw_988 : (Jvm.Cond.methodLink "PancakePortModel" (101 : Nat) ({ cls := "PancakePortModel", name := "kindBy", desc := "(I)I" } : Jvm.MethodName)) ∈ mWS := List.mem_filter.mpr ⟨List.mem_of_getElem? (i := 988) (by rfl), by rfl⟩
set_option maxRecDepth 100000 in
theorem tw_989 : (Jvm.Cond.static ({ cls := "PancakePortModel", name := "kindBy", desc := "(I)I" } : Jvm.MethodName)) ∈ mWS := List.mem_filter.mpr ⟨List.mem_of_getElem? (i := 989) (by rfl), by rfl⟩
set_option maxRecDepth 100000 in
theorem tw_990 : (Jvm.Cond.code ({ cls := "PancakePortModel", name := "kindBy", desc := "(I)I" } : Jvm.MethodName) prog_13_method_6_code (1 : Nat) (Option.some Jvm.ClassFile.FieldType.int)) ∈ mWS := List.mem_filter.mpr ⟨List.mem_of_getElem? (i := 990) (by rfl), by rfl⟩
set_option maxRecDepth 100000 in
theorem tw_991 : (Jvm.Cond.constantLong "PancakePortModel" (104 : Nat) (52 : Int64)) ∈ mWS := List.mem_filter.mpr ⟨List.mem_of_getElem? (i := 991) (by rfl), by rfl⟩
set_option maxRecDepth 100000 in
theorem tw_992 : (Jvm.Cond.methodLink "PancakePortLaw" (30 : Nat) ({ cls := "PancakePortModel", name := "port", desc := "()I" } : Jvm.MethodName)) ∈ mWS := List.mem_filter.mpr ⟨List.mem_of_getElem? (i := 992) (by rfl), by rfl⟩
set_option maxRecDepth 100000 in
theorem tw_993 : (Jvm.Cond.instanceMethod ({ cls := "PancakePortModel", name := "port", desc := "()I" } : Jvm.MethodName)) ∈ mWS := List.mem_filter.mpr ⟨List.mem_of_getElem? (i := 993) (by rfl), by rfl⟩
set_option maxRecDepth 100000 in
theorem tw_994 : (Jvm.Cond.selects "PancakePortModel" ({ cls := "PancakePortModel", name := "port", desc := "()I" } : Jvm.MethodName) ({ cls := "PancakePortModel", name := "port", desc := "()I" } : Jvm.MethodName)) ∈ mWS := List.mem_filter.mpr ⟨List.mem_of_getElem? (i := 994) (by rfl), by rfl⟩
set_option maxRecDepth 100000 in
theorem tw_995 : (Jvm.Cond.code ({ cls := "PancakePortModel", name := "port", desc := "()I" } : Jvm.MethodName) prog_13_method_13_code (3 : Nat) (Option.some Jvm.ClassFile.FieldType.int)) ∈ mWS := List.mem_filter.mpr ⟨List.mem_of_getElem? (i := 995) (by rfl), by rfl⟩
set_option maxRecDepth 100000 in
theorem tw_996 : (Jvm.Cond.methodLink "PancakePortLaw" (47 : Nat) ({ cls := "PancakePortModel", name := "lands", desc := "(II)I" } : Jvm.MethodName)) ∈ mWS := List.mem_filter.mpr ⟨List.mem_of_getElem? (i := 996) (by rfl), by rfl⟩
set_option maxRecDepth 100000 in
theorem tw_997 : (Jvm.Cond.instanceMethod ({ cls := "PancakePortModel", name := "lands", desc := "(II)I" } : Jvm.MethodName)) ∈ mWS := List.mem_filter.mpr ⟨List.mem_of_getElem? (i := 997) (by rfl), by rfl⟩
set_option maxRecDepth 100000 in
theorem tw_998 : (Jvm.Cond.selects "PancakePortModel" ({ cls := "PancakePortModel", name := "lands", desc := "(II)I" } : Jvm.MethodName) ({ cls := "PancakePortModel", name := "lands", desc := "(II)I" } : Jvm.MethodName)) ∈ mWS := List.mem_filter.mpr ⟨List.mem_of_getElem? (i := 998) (by rfl), by rfl⟩
set_option maxRecDepth 100000 in
theorem tw_999 : (Jvm.Cond.code ({ cls := "PancakePortModel", name := "lands", desc := "(II)I" } : Jvm.MethodName) prog_13_method_27_code (3 : Nat) (Option.some Jvm.ClassFile.FieldType.int)) ∈ mWS := List.mem_filter.mpr ⟨List.mem_of_getElem? (i := 999) (by rfl), by rfl⟩
set_option maxRecDepth 100000 in
theorem tw_1000 : (Jvm.Cond.methodLink "PancakePortModel" (163 : Nat) ({ cls := "PancakePortModel", name := "isTosser", desc := "(I)Z" } : Jvm.MethodName)) ∈ mWS := List.mem_filter.mpr ⟨List.mem_of_getElem? (i := 1000) (by rfl), by rfl⟩
set_option maxRecDepth 100000 in
theorem tw_1002 : (Jvm.Cond.instanceMethod ({ cls := "PancakePortModel", name := "isTosser", desc := "(I)Z" } : Jvm.MethodName)) ∈ mWS := List.mem_filter.mpr ⟨List.mem_of_getElem? (i := 1002) (by rfl), by rfl⟩
set_option maxRecDepth 100000 in
theorem tw_1003 : (Jvm.Cond.code ({ cls := "PancakePortModel", name := "isTosser", desc := "(I)Z" } : Jvm.MethodName) prog_13_method_16_code (2 : Nat) (Option.some Jvm.ClassFile.FieldType.boolean)) ∈ mWS := List.mem_filter.mpr ⟨List.mem_of_getElem? (i := 1003) (by rfl), by rfl⟩
set_option maxRecDepth 100000 in
theorem tw_1004 : (Jvm.Cond.methodLink "PancakePortModel" (166 : Nat) ({ cls := "PancakePortModel", name := "isCell", desc := "(I)Z" } : Jvm.MethodName)) ∈ mWS := List.mem_filter.mpr ⟨List.mem_of_getElem? (i := 1004) (by rfl), by rfl⟩
set_option maxRecDepth 100000 in
theorem tw_1005 : (Jvm.Cond.static ({ cls := "PancakePortModel", name := "isCell", desc := "(I)Z" } : Jvm.MethodName)) ∈ mWS := List.mem_filter.mpr ⟨List.mem_of_getElem? (i := 1005) (by rfl), by rfl⟩
set_option maxRecDepth 100000 in
theorem tw_1006 : (Jvm.Cond.code ({ cls := "PancakePortModel", name := "isCell", desc := "(I)Z" } : Jvm.MethodName) prog_13_method_17_code (1 : Nat) (Option.some Jvm.ClassFile.FieldType.boolean)) ∈ mWS := List.mem_filter.mpr ⟨List.mem_of_getElem? (i := 1006) (by rfl), by rfl⟩
set_option maxRecDepth 100000 in
theorem tw_1007 : (Jvm.Cond.constantLong "PancakePortModel" (140 : Nat) (35 : Int64)) ∈ mWS := List.mem_filter.mpr ⟨List.mem_of_getElem? (i := 1007) (by rfl), by rfl⟩
set_option maxRecDepth 100000 in
theorem tw_1008 : (Jvm.Cond.methodLink "PancakePortModel" (151 : Nat) ({ cls := "PancakePortModel", name := "landsBy", desc := "(III)I" } : Jvm.MethodName)) ∈ mWS := List.mem_filter.mpr ⟨List.mem_of_getElem? (i := 1008) (by rfl), by rfl⟩
set_option maxRecDepth 100000 in
theorem tw_1010 : (Jvm.Cond.instanceMethod ({ cls := "PancakePortModel", name := "landsBy", desc := "(III)I" } : Jvm.MethodName)) ∈ mWS := List.mem_filter.mpr ⟨List.mem_of_getElem? (i := 1010) (by rfl), by rfl⟩
set_option maxRecDepth 100000 in
theorem tw_1011 : (Jvm.Cond.code ({ cls := "PancakePortModel", name := "landsBy", desc := "(III)I" } : Jvm.MethodName) prog_13_method_19_code (4 : Nat) (Option.some Jvm.ClassFile.FieldType.int)) ∈ mWS := List.mem_filter.mpr ⟨List.mem_of_getElem? (i := 1011) (by rfl), by rfl⟩
set_option maxRecDepth 100000 in
theorem tw_1012 : (Jvm.Cond.methodLink "PancakePortModel" (144 : Nat) ({ cls := "PancakePortModel", name := "cellOf", desc := "(II)I" } : Jvm.MethodName)) ∈ mWS := List.mem_filter.mpr ⟨List.mem_of_getElem? (i := 1012) (by rfl), by rfl⟩
set_option maxRecDepth 100000 in
theorem tw_1013 : (Jvm.Cond.static ({ cls := "PancakePortModel", name := "cellOf", desc := "(II)I" } : Jvm.MethodName)) ∈ mWS := List.mem_filter.mpr ⟨List.mem_of_getElem? (i := 1013) (by rfl), by rfl⟩
set_option maxRecDepth 100000 in
theorem tw_1014 : (Jvm.Cond.code ({ cls := "PancakePortModel", name := "cellOf", desc := "(II)I" } : Jvm.MethodName) prog_13_method_18_code (2 : Nat) (Option.some Jvm.ClassFile.FieldType.int)) ∈ mWS := List.mem_filter.mpr ⟨List.mem_of_getElem? (i := 1014) (by rfl), by rfl⟩
set_option maxRecDepth 100000 in
theorem tw_1015 : (Jvm.Cond.constantLong "PancakePortModel" (142 : Nat) (5 : Int64)) ∈ mWS := List.mem_filter.mpr ⟨List.mem_of_getElem? (i := 1015) (by rfl), by rfl⟩
set_option maxRecDepth 100000 in
theorem tw_1016 : (Jvm.Cond.methodLink "PancakePortLaw" (51 : Nat) ({ cls := "PancakePortModel", name := "covers", desc := "(II)I" } : Jvm.MethodName)) ∈ mWS := List.mem_filter.mpr ⟨List.mem_of_getElem? (i := 1016) (by rfl), by rfl⟩
set_option maxRecDepth 100000 in
theorem tw_1017 : (Jvm.Cond.instanceMethod ({ cls := "PancakePortModel", name := "covers", desc := "(II)I" } : Jvm.MethodName)) ∈ mWS := List.mem_filter.mpr ⟨List.mem_of_getElem? (i := 1017) (by rfl), by rfl⟩
set_option maxRecDepth 100000 in
theorem tw_1018 : (Jvm.Cond.selects "PancakePortModel" ({ cls := "PancakePortModel", name := "covers", desc := "(II)I" } : Jvm.MethodName) ({ cls := "PancakePortModel", name := "covers", desc := "(II)I" } : Jvm.MethodName)) ∈ mWS := List.mem_filter.mpr ⟨List.mem_of_getElem? (i := 1018) (by rfl), by rfl⟩
set_option maxRecDepth 100000 in
theorem tw_1019 : (Jvm.Cond.code ({ cls := "PancakePortModel", name := "covers", desc := "(II)I" } : Jvm.MethodName) prog_13_method_28_code (3 : Nat) (Option.some Jvm.ClassFile.FieldType.int)) ∈ mWS := List.mem_filter.mpr ⟨List.mem_of_getElem? (i := 1019) (by rfl), by rfl⟩
set_option maxRecDepth 100000 in
theorem tw_1020 : (Jvm.Cond.methodLink "PancakePortModel" (169 : Nat) ({ cls := "PancakePortModel", name := "coversOf", desc := "(III)I" } : Jvm.MethodName)) ∈ mWS := List.mem_filter.mpr ⟨List.mem_of_getElem? (i := 1020) (by rfl), by rfl⟩
set_option maxRecDepth 100000 in
theorem tw_1022 : (Jvm.Cond.instanceMethod ({ cls := "PancakePortModel", name := "coversOf", desc := "(III)I" } : Jvm.MethodName)) ∈ mWS := List.mem_filter.mpr ⟨List.mem_of_getElem? (i := 1022) (by rfl), by rfl⟩
set_option maxRecDepth 100000 in
theorem tw_1023 : (Jvm.Cond.code ({ cls := "PancakePortModel", name := "coversOf", desc := "(III)I" } : Jvm.MethodName) prog_13_method_23_code (6 : Nat) (Option.some Jvm.ClassFile.FieldType.int)) ∈ mWS := List.mem_filter.mpr ⟨List.mem_of_getElem? (i := 1023) (by rfl), by rfl⟩
set_option maxRecDepth 100000 in
theorem tw_1024 : (Jvm.Cond.methodLink "PancakePortModel" (159 : Nat) ({ cls := "PancakePortModel", name := "coversCell", desc := "(IIII)Z" } : Jvm.MethodName)) ∈ mWS := List.mem_filter.mpr ⟨List.mem_of_getElem? (i := 1024) (by rfl), by rfl⟩
set_option maxRecDepth 100000 in
theorem tw_1026 : (Jvm.Cond.instanceMethod ({ cls := "PancakePortModel", name := "coversCell", desc := "(IIII)Z" } : Jvm.MethodName)) ∈ mWS := List.mem_filter.mpr ⟨List.mem_of_getElem? (i := 1026) (by rfl), by rfl⟩
set_option maxRecDepth 100000 in
theorem tw_1027 : (Jvm.Cond.code ({ cls := "PancakePortModel", name := "coversCell", desc := "(IIII)Z" } : Jvm.MethodName) prog_13_method_22_code (6 : Nat) (Option.some Jvm.ClassFile.FieldType.boolean)) ∈ mWS := List.mem_filter.mpr ⟨List.mem_of_getElem? (i := 1027) (by rfl), by rfl⟩
set_option maxRecDepth 100000 in
theorem tw_1028 : (Jvm.Cond.methodLink "PancakePortModel" (155 : Nat) ({ cls := "PancakePortModel", name := "reaches", desc := "(III)Z" } : Jvm.MethodName)) ∈ mWS := List.mem_filter.mpr ⟨List.mem_of_getElem? (i := 1028) (by rfl), by rfl⟩
set_option maxRecDepth 100000 in
theorem tw_1029 : (Jvm.Cond.static ({ cls := "PancakePortModel", name := "reaches", desc := "(III)Z" } : Jvm.MethodName)) ∈ mWS := List.mem_filter.mpr ⟨List.mem_of_getElem? (i := 1029) (by rfl), by rfl⟩
set_option maxRecDepth 100000 in
theorem tw_1030 : (Jvm.Cond.code ({ cls := "PancakePortModel", name := "reaches", desc := "(III)Z" } : Jvm.MethodName) prog_13_method_21_code (6 : Nat) (Option.some Jvm.ClassFile.FieldType.boolean)) ∈ mWS := List.mem_filter.mpr ⟨List.mem_of_getElem? (i := 1030) (by rfl), by rfl⟩
set_option maxRecDepth 100000 in
theorem tw_1031 : (Jvm.Cond.methodLink "PancakePortModel" (148 : Nat) ({ cls := "PancakePortModel", name := "far", desc := "(II)I" } : Jvm.MethodName)) ∈ mWS := List.mem_filter.mpr ⟨List.mem_of_getElem? (i := 1031) (by rfl), by rfl⟩
set_option maxRecDepth 100000 in
theorem tw_1032 : (Jvm.Cond.static ({ cls := "PancakePortModel", name := "far", desc := "(II)I" } : Jvm.MethodName)) ∈ mWS := List.mem_filter.mpr ⟨List.mem_of_getElem? (i := 1032) (by rfl), by rfl⟩
set_option maxRecDepth 100000 in
theorem tw_1033 : (Jvm.Cond.code ({ cls := "PancakePortModel", name := "far", desc := "(II)I" } : Jvm.MethodName) prog_13_method_20_code (2 : Nat) (Option.some Jvm.ClassFile.FieldType.int)) ∈ mWS := List.mem_filter.mpr ⟨List.mem_of_getElem? (i := 1033) (by rfl), by rfl⟩
set_option maxRecDepth 100000 in
theorem tw_1034 : (Jvm.Cond.methodLink "PancakePortLaw" (35 : Nat) ({ cls := "PancakePortModel", name := "sleeper", desc := "(II)I" } : Jvm.MethodName)) ∈ mWS := List.mem_filter.mpr ⟨List.mem_of_getElem? (i := 1034) (by rfl), by rfl⟩
set_option maxRecDepth 100000 in
theorem tw_1035 : (Jvm.Cond.instanceMethod ({ cls := "PancakePortModel", name := "sleeper", desc := "(II)I" } : Jvm.MethodName)) ∈ mWS := List.mem_filter.mpr ⟨List.mem_of_getElem? (i := 1035) (by rfl), by rfl⟩
set_option maxRecDepth 100000 in
theorem tw_1036 : (Jvm.Cond.selects "PancakePortModel" ({ cls := "PancakePortModel", name := "sleeper", desc := "(II)I" } : Jvm.MethodName) ({ cls := "PancakePortModel", name := "sleeper", desc := "(II)I" } : Jvm.MethodName)) ∈ mWS := List.mem_filter.mpr ⟨List.mem_of_getElem? (i := 1036) (by rfl), by rfl⟩
set_option maxRecDepth 100000 in
theorem tw_1037 : (Jvm.Cond.code ({ cls := "PancakePortModel", name := "sleeper", desc := "(II)I" } : Jvm.MethodName) prog_13_method_33_code (3 : Nat) (Option.some Jvm.ClassFile.FieldType.int)) ∈ mWS := List.mem_filter.mpr ⟨List.mem_of_getElem? (i := 1037) (by rfl), by rfl⟩
set_option maxRecDepth 100000 in
theorem tw_1038 : (Jvm.Cond.methodLink "PancakePortModel" (182 : Nat) ({ cls := "PancakePortModel", name := "isSleeper", desc := "(I)Z" } : Jvm.MethodName)) ∈ mWS := List.mem_filter.mpr ⟨List.mem_of_getElem? (i := 1038) (by rfl), by rfl⟩
set_option maxRecDepth 100000 in
theorem tw_1040 : (Jvm.Cond.instanceMethod ({ cls := "PancakePortModel", name := "isSleeper", desc := "(I)Z" } : Jvm.MethodName)) ∈ mWS := List.mem_filter.mpr ⟨List.mem_of_getElem? (i := 1040) (by rfl), by rfl⟩
set_option maxRecDepth 100000 in
theorem tw_1041 : (Jvm.Cond.code ({ cls := "PancakePortModel", name := "isSleeper", desc := "(I)Z" } : Jvm.MethodName) prog_13_method_15_code (2 : Nat) (Option.some Jvm.ClassFile.FieldType.boolean)) ∈ mWS := List.mem_filter.mpr ⟨List.mem_of_getElem? (i := 1041) (by rfl), by rfl⟩
set_option maxRecDepth 100000 in
theorem tw_1042 : (Jvm.Cond.methodLink "PancakePortModel" (185 : Nat) ({ cls := "PancakePortModel", name := "tellSleeper", desc := "(II)I" } : Jvm.MethodName)) ∈ mWS := List.mem_filter.mpr ⟨List.mem_of_getElem? (i := 1042) (by rfl), by rfl⟩
set_option maxRecDepth 100000 in
theorem tw_1044 : (Jvm.Cond.instanceMethod ({ cls := "PancakePortModel", name := "tellSleeper", desc := "(II)I" } : Jvm.MethodName)) ∈ mWS := List.mem_filter.mpr ⟨List.mem_of_getElem? (i := 1044) (by rfl), by rfl⟩
set_option maxRecDepth 100000 in
theorem tw_1045 : (Jvm.Cond.code ({ cls := "PancakePortModel", name := "tellSleeper", desc := "(II)I" } : Jvm.MethodName) prog_13_method_32_code (3 : Nat) (Option.some Jvm.ClassFile.FieldType.int)) ∈ mWS := List.mem_filter.mpr ⟨List.mem_of_getElem? (i := 1045) (by rfl), by rfl⟩
set_option maxRecDepth 100000 in
theorem tw_1046 : (Jvm.Cond.methodLink "PancakePortModel" (179 : Nat) ({ cls := "PancakePortModel", name := "lieOf", desc := "(I)I" } : Jvm.MethodName)) ∈ mWS := List.mem_filter.mpr ⟨List.mem_of_getElem? (i := 1046) (by rfl), by rfl⟩
set_option maxRecDepth 100000 in
theorem tw_1048 : (Jvm.Cond.instanceMethod ({ cls := "PancakePortModel", name := "lieOf", desc := "(I)I" } : Jvm.MethodName)) ∈ mWS := List.mem_filter.mpr ⟨List.mem_of_getElem? (i := 1048) (by rfl), by rfl⟩
set_option maxRecDepth 100000 in
theorem tw_1049 : (Jvm.Cond.code ({ cls := "PancakePortModel", name := "lieOf", desc := "(I)I" } : Jvm.MethodName) prog_13_method_31_code (6 : Nat) (Option.some Jvm.ClassFile.FieldType.int)) ∈ mWS := List.mem_filter.mpr ⟨List.mem_of_getElem? (i := 1049) (by rfl), by rfl⟩
set_option maxRecDepth 100000 in
theorem tw_1050 : (Jvm.Cond.methodLink "PancakePortModel" (172 : Nat) ({ cls := "PancakePortModel", name := "isFreeFor", desc := "(II)Z" } : Jvm.MethodName)) ∈ mWS := List.mem_filter.mpr ⟨List.mem_of_getElem? (i := 1050) (by rfl), by rfl⟩
set_option maxRecDepth 100000 in
theorem tw_1052 : (Jvm.Cond.instanceMethod ({ cls := "PancakePortModel", name := "isFreeFor", desc := "(II)Z" } : Jvm.MethodName)) ∈ mWS := List.mem_filter.mpr ⟨List.mem_of_getElem? (i := 1052) (by rfl), by rfl⟩
set_option maxRecDepth 100000 in
theorem tw_1053 : (Jvm.Cond.code ({ cls := "PancakePortModel", name := "isFreeFor", desc := "(II)Z" } : Jvm.MethodName) prog_13_method_29_code (5 : Nat) (Option.some Jvm.ClassFile.FieldType.boolean)) ∈ mWS := List.mem_filter.mpr ⟨List.mem_of_getElem? (i := 1053) (by rfl), by rfl⟩
set_option maxRecDepth 100000 in
theorem tw_1054 : (Jvm.Cond.methodLink "PancakePortModel" (176 : Nat) ({ cls := "PancakePortModel", name := "tossesOver", desc := "(I)I" } : Jvm.MethodName)) ∈ mWS := List.mem_filter.mpr ⟨List.mem_of_getElem? (i := 1054) (by rfl), by rfl⟩
set_option maxRecDepth 100000 in
theorem tw_1056 : (Jvm.Cond.instanceMethod ({ cls := "PancakePortModel", name := "tossesOver", desc := "(I)I" } : Jvm.MethodName)) ∈ mWS := List.mem_filter.mpr ⟨List.mem_of_getElem? (i := 1056) (by rfl), by rfl⟩
set_option maxRecDepth 100000 in
theorem tw_1057 : (Jvm.Cond.code ({ cls := "PancakePortModel", name := "tossesOver", desc := "(I)I" } : Jvm.MethodName) prog_13_method_30_code (5 : Nat) (Option.some Jvm.ClassFile.FieldType.int)) ∈ mWS := List.mem_filter.mpr ⟨List.mem_of_getElem? (i := 1057) (by rfl), by rfl⟩
set_option maxRecDepth 100000 in
theorem tw_1058 : (Jvm.Cond.methodLink "PancakePortLaw" (39 : Nat) ({ cls := "PancakePortModel", name := "tosser", desc := "(II)I" } : Jvm.MethodName)) ∈ mWS := List.mem_filter.mpr ⟨List.mem_of_getElem? (i := 1058) (by rfl), by rfl⟩
set_option maxRecDepth 100000 in
theorem tw_1059 : (Jvm.Cond.instanceMethod ({ cls := "PancakePortModel", name := "tosser", desc := "(II)I" } : Jvm.MethodName)) ∈ mWS := List.mem_filter.mpr ⟨List.mem_of_getElem? (i := 1059) (by rfl), by rfl⟩
set_option maxRecDepth 100000 in
theorem tw_1060 : (Jvm.Cond.selects "PancakePortModel" ({ cls := "PancakePortModel", name := "tosser", desc := "(II)I" } : Jvm.MethodName) ({ cls := "PancakePortModel", name := "tosser", desc := "(II)I" } : Jvm.MethodName)) ∈ mWS := List.mem_filter.mpr ⟨List.mem_of_getElem? (i := 1060) (by rfl), by rfl⟩
set_option maxRecDepth 100000 in
theorem tw_1061 : (Jvm.Cond.code ({ cls := "PancakePortModel", name := "tosser", desc := "(II)I" } : Jvm.MethodName) prog_13_method_36_code (3 : Nat) (Option.some Jvm.ClassFile.FieldType.int)) ∈ mWS := List.mem_filter.mpr ⟨List.mem_of_getElem? (i := 1061) (by rfl), by rfl⟩
set_option maxRecDepth 100000 in
theorem tw_1062 : (Jvm.Cond.methodLink "PancakePortModel" (206 : Nat) ({ cls := "PancakePortModel", name := "tellTosser", desc := "(II)I" } : Jvm.MethodName)) ∈ mWS := List.mem_filter.mpr ⟨List.mem_of_getElem? (i := 1062) (by rfl), by rfl⟩
set_option maxRecDepth 100000 in
theorem tw_1064 : (Jvm.Cond.instanceMethod ({ cls := "PancakePortModel", name := "tellTosser", desc := "(II)I" } : Jvm.MethodName)) ∈ mWS := List.mem_filter.mpr ⟨List.mem_of_getElem? (i := 1064) (by rfl), by rfl⟩
set_option maxRecDepth 100000 in
theorem tw_1065 : (Jvm.Cond.code ({ cls := "PancakePortModel", name := "tellTosser", desc := "(II)I" } : Jvm.MethodName) prog_13_method_35_code (3 : Nat) (Option.some Jvm.ClassFile.FieldType.int)) ∈ mWS := List.mem_filter.mpr ⟨List.mem_of_getElem? (i := 1065) (by rfl), by rfl⟩
set_option maxRecDepth 100000 in
theorem tw_1066 : (Jvm.Cond.methodLink "PancakePortModel" (194 : Nat) ({ cls := "PancakePortModel", name := "batterOf", desc := "(I)I" } : Jvm.MethodName)) ∈ mWS := List.mem_filter.mpr ⟨List.mem_of_getElem? (i := 1066) (by rfl), by rfl⟩
set_option maxRecDepth 100000 in
theorem tw_1067 : (Jvm.Cond.static ({ cls := "PancakePortModel", name := "batterOf", desc := "(I)I" } : Jvm.MethodName)) ∈ mWS := List.mem_filter.mpr ⟨List.mem_of_getElem? (i := 1067) (by rfl), by rfl⟩
set_option maxRecDepth 100000 in
theorem tw_1068 : (Jvm.Cond.code ({ cls := "PancakePortModel", name := "batterOf", desc := "(I)I" } : Jvm.MethodName) prog_13_method_25_code (1 : Nat) (Option.some Jvm.ClassFile.FieldType.int)) ∈ mWS := List.mem_filter.mpr ⟨List.mem_of_getElem? (i := 1068) (by rfl), by rfl⟩
set_option maxRecDepth 100000 in
theorem tw_1069 : (Jvm.Cond.methodLink "PancakePortModel" (197 : Nat) ({ cls := "PancakePortModel", name := "mostOf", desc := "(II)I" } : Jvm.MethodName)) ∈ mWS := List.mem_filter.mpr ⟨List.mem_of_getElem? (i := 1069) (by rfl), by rfl⟩
set_option maxRecDepth 100000 in
theorem tw_1071 : (Jvm.Cond.instanceMethod ({ cls := "PancakePortModel", name := "mostOf", desc := "(II)I" } : Jvm.MethodName)) ∈ mWS := List.mem_filter.mpr ⟨List.mem_of_getElem? (i := 1071) (by rfl), by rfl⟩
set_option maxRecDepth 100000 in
theorem tw_1072 : (Jvm.Cond.code ({ cls := "PancakePortModel", name := "mostOf", desc := "(II)I" } : Jvm.MethodName) prog_13_method_34_code (7 : Nat) (Option.some Jvm.ClassFile.FieldType.int)) ∈ mWS := List.mem_filter.mpr ⟨List.mem_of_getElem? (i := 1072) (by rfl), by rfl⟩
set_option maxRecDepth 100000 in
theorem tw_1073 : (Jvm.Cond.methodLink "PancakePortModel" (188 : Nat) ({ cls := "PancakePortModel", name := "open", desc := "()I" } : Jvm.MethodName)) ∈ mWS := List.mem_filter.mpr ⟨List.mem_of_getElem? (i := 1073) (by rfl), by rfl⟩
set_option maxRecDepth 100000 in
theorem tw_1075 : (Jvm.Cond.instanceMethod ({ cls := "PancakePortModel", name := "open", desc := "()I" } : Jvm.MethodName)) ∈ mWS := List.mem_filter.mpr ⟨List.mem_of_getElem? (i := 1075) (by rfl), by rfl⟩
set_option maxRecDepth 100000 in
theorem tw_1076 : (Jvm.Cond.code ({ cls := "PancakePortModel", name := "open", desc := "()I" } : Jvm.MethodName) prog_13_method_26_code (3 : Nat) (Option.some Jvm.ClassFile.FieldType.int)) ∈ mWS := List.mem_filter.mpr ⟨List.mem_of_getElem? (i := 1076) (by rfl), by rfl⟩
set_option maxRecDepth 100000 in
theorem tw_1077 : (Jvm.Cond.methodLink "PancakePortModel" (191 : Nat) ({ cls := "PancakePortModel", name := "ones", desc := "(I)I" } : Jvm.MethodName)) ∈ mWS := List.mem_filter.mpr ⟨List.mem_of_getElem? (i := 1077) (by rfl), by rfl⟩
set_option maxRecDepth 100000 in
theorem tw_1078 : (Jvm.Cond.static ({ cls := "PancakePortModel", name := "ones", desc := "(I)I" } : Jvm.MethodName)) ∈ mWS := List.mem_filter.mpr ⟨List.mem_of_getElem? (i := 1078) (by rfl), by rfl⟩
set_option maxRecDepth 100000 in
theorem tw_1079 : (Jvm.Cond.code ({ cls := "PancakePortModel", name := "ones", desc := "(I)I" } : Jvm.MethodName) prog_13_method_24_code (3 : Nat) (Option.some Jvm.ClassFile.FieldType.int)) ∈ mWS := List.mem_filter.mpr ⟨List.mem_of_getElem? (i := 1079) (by rfl), by rfl⟩
set_option maxRecDepth 100000 in
theorem tw_1080 : (Jvm.Cond.methodLink "PancakePortModel" (200 : Nat) ({ cls := "PancakePortModel", name := "turnsOf", desc := "(I)I" } : Jvm.MethodName)) ∈ mWS := List.mem_filter.mpr ⟨List.mem_of_getElem? (i := 1080) (by rfl), by rfl⟩
set_option maxRecDepth 100000 in
theorem tw_1082 : (Jvm.Cond.instanceMethod ({ cls := "PancakePortModel", name := "turnsOf", desc := "(I)I" } : Jvm.MethodName)) ∈ mWS := List.mem_filter.mpr ⟨List.mem_of_getElem? (i := 1082) (by rfl), by rfl⟩
set_option maxRecDepth 100000 in
theorem tw_1083 : (Jvm.Cond.code ({ cls := "PancakePortModel", name := "turnsOf", desc := "(I)I" } : Jvm.MethodName) prog_13_method_57_code (6 : Nat) (Option.some Jvm.ClassFile.FieldType.int)) ∈ mWS := List.mem_filter.mpr ⟨List.mem_of_getElem? (i := 1083) (by rfl), by rfl⟩
set_option maxRecDepth 100000 in
theorem tw_1084 : (Jvm.Cond.methodLink "PancakePortModel" (246 : Nat) ({ cls := "PancakePortModel", name := "columnBy", desc := "(II)I" } : Jvm.MethodName)) ∈ mWS := List.mem_filter.mpr ⟨List.mem_of_getElem? (i := 1084) (by rfl), by rfl⟩
set_option maxRecDepth 100000 in
theorem tw_1085 : (Jvm.Cond.static ({ cls := "PancakePortModel", name := "columnBy", desc := "(II)I" } : Jvm.MethodName)) ∈ mWS := List.mem_filter.mpr ⟨List.mem_of_getElem? (i := 1085) (by rfl), by rfl⟩
set_option maxRecDepth 100000 in
theorem tw_1086 : (Jvm.Cond.code ({ cls := "PancakePortModel", name := "columnBy", desc := "(II)I" } : Jvm.MethodName) prog_13_method_56_code (3 : Nat) (Option.some Jvm.ClassFile.FieldType.int)) ∈ mWS := List.mem_filter.mpr ⟨List.mem_of_getElem? (i := 1086) (by rfl), by rfl⟩
set_option maxRecDepth 100000 in
theorem tw_1087 : (Jvm.Cond.methodLink "PancakePortModel" (203 : Nat) ({ cls := "PancakePortModel", name := "aimOf", desc := "(I)I" } : Jvm.MethodName)) ∈ mWS := List.mem_filter.mpr ⟨List.mem_of_getElem? (i := 1087) (by rfl), by rfl⟩
set_option maxRecDepth 100000 in
theorem tw_1089 : (Jvm.Cond.instanceMethod ({ cls := "PancakePortModel", name := "aimOf", desc := "(I)I" } : Jvm.MethodName)) ∈ mWS := List.mem_filter.mpr ⟨List.mem_of_getElem? (i := 1089) (by rfl), by rfl⟩
set_option maxRecDepth 100000 in
theorem tw_1090 : (Jvm.Cond.code ({ cls := "PancakePortModel", name := "aimOf", desc := "(I)I" } : Jvm.MethodName) prog_13_method_58_code (10 : Nat) (Option.some Jvm.ClassFile.FieldType.int)) ∈ mWS := List.mem_filter.mpr ⟨List.mem_of_getElem? (i := 1090) (by rfl), by rfl⟩
set_option maxRecDepth 100000 in
theorem tw_1091 : (Jvm.Cond.methodLink "PancakePortLaw" (43 : Nat) ({ cls := "PancakePortModel", name := "as", desc := "(II)I" } : Jvm.MethodName)) ∈ mWS := List.mem_filter.mpr ⟨List.mem_of_getElem? (i := 1091) (by rfl), by rfl⟩
set_option maxRecDepth 100000 in
theorem tw_1092 : (Jvm.Cond.instanceMethod ({ cls := "PancakePortModel", name := "as", desc := "(II)I" } : Jvm.MethodName)) ∈ mWS := List.mem_filter.mpr ⟨List.mem_of_getElem? (i := 1092) (by rfl), by rfl⟩
set_option maxRecDepth 100000 in
theorem tw_1093 : (Jvm.Cond.selects "PancakePortModel" ({ cls := "PancakePortModel", name := "as", desc := "(II)I" } : Jvm.MethodName) ({ cls := "PancakePortModel", name := "as", desc := "(II)I" } : Jvm.MethodName)) ∈ mWS := List.mem_filter.mpr ⟨List.mem_of_getElem? (i := 1093) (by rfl), by rfl⟩
set_option maxRecDepth 100000 in
theorem tw_1094 : (Jvm.Cond.code ({ cls := "PancakePortModel", name := "as", desc := "(II)I" } : Jvm.MethodName) prog_13_method_37_code (4 : Nat) (Option.some Jvm.ClassFile.FieldType.int)) ∈ mWS := List.mem_filter.mpr ⟨List.mem_of_getElem? (i := 1094) (by rfl), by rfl⟩
set_option maxRecDepth 100000 in
theorem tw_1095 : (Jvm.Cond.constantLong "PancakePortModel" (209 : Nat) (4 : Int64)) ∈ mWS := List.mem_filter.mpr ⟨List.mem_of_getElem? (i := 1095) (by rfl), by rfl⟩
set_option maxRecDepth 100000 in
theorem tw_1096 : (Jvm.Cond.methodLink "PancakePortLaw" (55 : Nat) ({ cls := "PancakePortModel", name := "toss", desc := "(II)I" } : Jvm.MethodName)) ∈ mWS := List.mem_filter.mpr ⟨List.mem_of_getElem? (i := 1096) (by rfl), by rfl⟩
set_option maxRecDepth 100000 in
theorem tw_1097 : (Jvm.Cond.instanceMethod ({ cls := "PancakePortModel", name := "toss", desc := "(II)I" } : Jvm.MethodName)) ∈ mWS := List.mem_filter.mpr ⟨List.mem_of_getElem? (i := 1097) (by rfl), by rfl⟩
set_option maxRecDepth 100000 in
theorem tw_1098 : (Jvm.Cond.selects "PancakePortModel" ({ cls := "PancakePortModel", name := "toss", desc := "(II)I" } : Jvm.MethodName) ({ cls := "PancakePortModel", name := "toss", desc := "(II)I" } : Jvm.MethodName)) ∈ mWS := List.mem_filter.mpr ⟨List.mem_of_getElem? (i := 1098) (by rfl), by rfl⟩
set_option maxRecDepth 100000 in
theorem tw_1099 : (Jvm.Cond.code ({ cls := "PancakePortModel", name := "toss", desc := "(II)I" } : Jvm.MethodName) prog_13_method_38_code (5 : Nat) (Option.some Jvm.ClassFile.FieldType.int)) ∈ mWS := List.mem_filter.mpr ⟨List.mem_of_getElem? (i := 1099) (by rfl), by rfl⟩
set_option maxRecDepth 100000 in
theorem tw_1100 : (Jvm.Cond.methodLink "PancakePortLaw" (59 : Nat) ({ cls := "PancakePortModel", name := "wind", desc := "(I)I" } : Jvm.MethodName)) ∈ mWS := List.mem_filter.mpr ⟨List.mem_of_getElem? (i := 1100) (by rfl), by rfl⟩
set_option maxRecDepth 100000 in
theorem tw_1101 : (Jvm.Cond.instanceMethod ({ cls := "PancakePortModel", name := "wind", desc := "(I)I" } : Jvm.MethodName)) ∈ mWS := List.mem_filter.mpr ⟨List.mem_of_getElem? (i := 1101) (by rfl), by rfl⟩
set_option maxRecDepth 100000 in
theorem tw_1102 : (Jvm.Cond.selects "PancakePortModel" ({ cls := "PancakePortModel", name := "wind", desc := "(I)I" } : Jvm.MethodName) ({ cls := "PancakePortModel", name := "wind", desc := "(I)I" } : Jvm.MethodName)) ∈ mWS := List.mem_filter.mpr ⟨List.mem_of_getElem? (i := 1102) (by rfl), by rfl⟩
set_option maxRecDepth 100000 in
theorem tw_1103 : (Jvm.Cond.code ({ cls := "PancakePortModel", name := "wind", desc := "(I)I" } : Jvm.MethodName) prog_13_method_39_code (3 : Nat) (Option.some Jvm.ClassFile.FieldType.int)) ∈ mWS := List.mem_filter.mpr ⟨List.mem_of_getElem? (i := 1103) (by rfl), by rfl⟩
set_option maxRecDepth 100000 in
theorem tw_1104 : (Jvm.Cond.constantLong "PancakePortModel" (211 : Nat) (-1 : Int64)) ∈ mWS := List.mem_filter.mpr ⟨List.mem_of_getElem? (i := 1104) (by rfl), by rfl⟩
set_option maxRecDepth 100000 in
theorem tw_1105 : (Jvm.Cond.methodLink "PancakePortModel" (213 : Nat) ({ cls := "PancakePortModel", name := "lacks", desc := "()Z" } : Jvm.MethodName)) ∈ mWS := List.mem_filter.mpr ⟨List.mem_of_getElem? (i := 1105) (by rfl), by rfl⟩
set_option maxRecDepth 100000 in
theorem tw_1107 : (Jvm.Cond.instanceMethod ({ cls := "PancakePortModel", name := "lacks", desc := "()Z" } : Jvm.MethodName)) ∈ mWS := List.mem_filter.mpr ⟨List.mem_of_getElem? (i := 1107) (by rfl), by rfl⟩
set_option maxRecDepth 100000 in
theorem tw_1108 : (Jvm.Cond.code ({ cls := "PancakePortModel", name := "lacks", desc := "()Z" } : Jvm.MethodName) prog_13_method_14_code (1 : Nat) (Option.some Jvm.ClassFile.FieldType.boolean)) ∈ mWS := List.mem_filter.mpr ⟨List.mem_of_getElem? (i := 1108) (by rfl), by rfl⟩
set_option maxRecDepth 100000 in
theorem tw_1109 : (Jvm.Cond.methodLink "PancakePortLaw" (63 : Nat) ({ cls := "PancakePortModel", name := "morning", desc := "()I" } : Jvm.MethodName)) ∈ mWS := List.mem_filter.mpr ⟨List.mem_of_getElem? (i := 1109) (by rfl), by rfl⟩
set_option maxRecDepth 100000 in
theorem tw_1110 : (Jvm.Cond.instanceMethod ({ cls := "PancakePortModel", name := "morning", desc := "()I" } : Jvm.MethodName)) ∈ mWS := List.mem_filter.mpr ⟨List.mem_of_getElem? (i := 1110) (by rfl), by rfl⟩
set_option maxRecDepth 100000 in
theorem tw_1111 : (Jvm.Cond.selects "PancakePortModel" ({ cls := "PancakePortModel", name := "morning", desc := "()I" } : Jvm.MethodName) ({ cls := "PancakePortModel", name := "morning", desc := "()I" } : Jvm.MethodName)) ∈ mWS := List.mem_filter.mpr ⟨List.mem_of_getElem? (i := 1111) (by rfl), by rfl⟩
set_option maxRecDepth 100000 in
theorem tw_1112 : (Jvm.Cond.code ({ cls := "PancakePortModel", name := "morning", desc := "()I" } : Jvm.MethodName) prog_13_method_40_code (3 : Nat) (Option.some Jvm.ClassFile.FieldType.int)) ∈ mWS := List.mem_filter.mpr ⟨List.mem_of_getElem? (i := 1112) (by rfl), by rfl⟩
set_option maxRecDepth 100000 in
theorem tw_1113 : (Jvm.Cond.methodLink "PancakePortLaw" (67 : Nat) ({ cls := "PancakePortModel", name := "move", desc := "(II)I" } : Jvm.MethodName)) ∈ mWS := List.mem_filter.mpr ⟨List.mem_of_getElem? (i := 1113) (by rfl), by rfl⟩
set_option maxRecDepth 100000 in
theorem tw_1114 : (Jvm.Cond.instanceMethod ({ cls := "PancakePortModel", name := "move", desc := "(II)I" } : Jvm.MethodName)) ∈ mWS := List.mem_filter.mpr ⟨List.mem_of_getElem? (i := 1114) (by rfl), by rfl⟩
set_option maxRecDepth 100000 in
theorem tw_1115 : (Jvm.Cond.selects "PancakePortModel" ({ cls := "PancakePortModel", name := "move", desc := "(II)I" } : Jvm.MethodName) ({ cls := "PancakePortModel", name := "move", desc := "(II)I" } : Jvm.MethodName)) ∈ mWS := List.mem_filter.mpr ⟨List.mem_of_getElem? (i := 1115) (by rfl), by rfl⟩
set_option maxRecDepth 100000 in
theorem tw_1116 : (Jvm.Cond.code ({ cls := "PancakePortModel", name := "move", desc := "(II)I" } : Jvm.MethodName) prog_13_method_41_code (4 : Nat) (Option.some Jvm.ClassFile.FieldType.int)) ∈ mWS := List.mem_filter.mpr ⟨List.mem_of_getElem? (i := 1116) (by rfl), by rfl⟩
set_option maxRecDepth 100000 in
theorem tw_1117 : (Jvm.Cond.methodLink "PancakePortLaw" (72 : Nat) ({ cls := "PancakePortModel", name := "train", desc := "(III)I" } : Jvm.MethodName)) ∈ mWS := List.mem_filter.mpr ⟨List.mem_of_getElem? (i := 1117) (by rfl), by rfl⟩
set_option maxRecDepth 100000 in
theorem tw_1118 : (Jvm.Cond.instanceMethod ({ cls := "PancakePortModel", name := "train", desc := "(III)I" } : Jvm.MethodName)) ∈ mWS := List.mem_filter.mpr ⟨List.mem_of_getElem? (i := 1118) (by rfl), by rfl⟩
set_option maxRecDepth 100000 in
theorem tw_1119 : (Jvm.Cond.selects "PancakePortModel" ({ cls := "PancakePortModel", name := "train", desc := "(III)I" } : Jvm.MethodName) ({ cls := "PancakePortModel", name := "train", desc := "(III)I" } : Jvm.MethodName)) ∈ mWS := List.mem_filter.mpr ⟨List.mem_of_getElem? (i := 1119) (by rfl), by rfl⟩
set_option maxRecDepth 100000 in
theorem tw_1120 : (Jvm.Cond.code ({ cls := "PancakePortModel", name := "train", desc := "(III)I" } : Jvm.MethodName) prog_13_method_42_code (5 : Nat) (Option.some Jvm.ClassFile.FieldType.int)) ∈ mWS := List.mem_filter.mpr ⟨List.mem_of_getElem? (i := 1120) (by rfl), by rfl⟩
set_option maxRecDepth 100000 in
theorem tw_1121 : (Jvm.Cond.methodLink "PancakePortLaw" (76 : Nat) ({ cls := "PancakePortModel", name := "stir", desc := "(I)I" } : Jvm.MethodName)) ∈ mWS := List.mem_filter.mpr ⟨List.mem_of_getElem? (i := 1121) (by rfl), by rfl⟩
set_option maxRecDepth 100000 in
theorem tw_1122 : (Jvm.Cond.instanceMethod ({ cls := "PancakePortModel", name := "stir", desc := "(I)I" } : Jvm.MethodName)) ∈ mWS := List.mem_filter.mpr ⟨List.mem_of_getElem? (i := 1122) (by rfl), by rfl⟩
set_option maxRecDepth 100000 in
theorem tw_1123 : (Jvm.Cond.selects "PancakePortModel" ({ cls := "PancakePortModel", name := "stir", desc := "(I)I" } : Jvm.MethodName) ({ cls := "PancakePortModel", name := "stir", desc := "(I)I" } : Jvm.MethodName)) ∈ mWS := List.mem_filter.mpr ⟨List.mem_of_getElem? (i := 1123) (by rfl), by rfl⟩
set_option maxRecDepth 100000 in
theorem tw_1124 : (Jvm.Cond.code ({ cls := "PancakePortModel", name := "stir", desc := "(I)I" } : Jvm.MethodName) prog_13_method_43_code (2 : Nat) (Option.some Jvm.ClassFile.FieldType.int)) ∈ mWS := List.mem_filter.mpr ⟨List.mem_of_getElem? (i := 1124) (by rfl), by rfl⟩
set_option maxRecDepth 100000 in
theorem tw_1125 : (Jvm.Cond.constantLong "PancakePortModel" (217 : Nat) (60 : Int64)) ∈ mWS := List.mem_filter.mpr ⟨List.mem_of_getElem? (i := 1125) (by rfl), by rfl⟩
set_option maxRecDepth 100000 in
theorem tw_1126 : (Jvm.Cond.methodLink "PancakePortLaw" (80 : Nat) ({ cls := "PancakePortModel", name := "all", desc := "(I)I" } : Jvm.MethodName)) ∈ mWS := List.mem_filter.mpr ⟨List.mem_of_getElem? (i := 1126) (by rfl), by rfl⟩
set_option maxRecDepth 100000 in
theorem tw_1127 : (Jvm.Cond.instanceMethod ({ cls := "PancakePortModel", name := "all", desc := "(I)I" } : Jvm.MethodName)) ∈ mWS := List.mem_filter.mpr ⟨List.mem_of_getElem? (i := 1127) (by rfl), by rfl⟩
set_option maxRecDepth 100000 in
theorem tw_1128 : (Jvm.Cond.selects "PancakePortModel" ({ cls := "PancakePortModel", name := "all", desc := "(I)I" } : Jvm.MethodName) ({ cls := "PancakePortModel", name := "all", desc := "(I)I" } : Jvm.MethodName)) ∈ mWS := List.mem_filter.mpr ⟨List.mem_of_getElem? (i := 1128) (by rfl), by rfl⟩
set_option maxRecDepth 100000 in
theorem tw_1129 : (Jvm.Cond.code ({ cls := "PancakePortModel", name := "all", desc := "(I)I" } : Jvm.MethodName) prog_13_method_48_code (2 : Nat) (Option.some Jvm.ClassFile.FieldType.int)) ∈ mWS := List.mem_filter.mpr ⟨List.mem_of_getElem? (i := 1129) (by rfl), by rfl⟩
set_option maxRecDepth 100000 in
theorem tw_1130 : (Jvm.Cond.constantLong "PancakePortModel" (233 : Nat) (10 : Int64)) ∈ mWS := List.mem_filter.mpr ⟨List.mem_of_getElem? (i := 1130) (by rfl), by rfl⟩
set_option maxRecDepth 100000 in
theorem tw_1131 : (Jvm.Cond.constantLong "PancakePortModel" (235 : Nat) (15 : Int64)) ∈ mWS := List.mem_filter.mpr ⟨List.mem_of_getElem? (i := 1131) (by rfl), by rfl⟩
set_option maxRecDepth 100000 in
theorem tw_1132 : (Jvm.Cond.methodLink "PancakePortModel" (237 : Nat) ({ cls := "PancakePortModel", name := "allOf", desc := "(I)I" } : Jvm.MethodName)) ∈ mWS := List.mem_filter.mpr ⟨List.mem_of_getElem? (i := 1132) (by rfl), by rfl⟩
set_option maxRecDepth 100000 in
theorem tw_1134 : (Jvm.Cond.instanceMethod ({ cls := "PancakePortModel", name := "allOf", desc := "(I)I" } : Jvm.MethodName)) ∈ mWS := List.mem_filter.mpr ⟨List.mem_of_getElem? (i := 1134) (by rfl), by rfl⟩
set_option maxRecDepth 100000 in
theorem tw_1135 : (Jvm.Cond.code ({ cls := "PancakePortModel", name := "allOf", desc := "(I)I" } : Jvm.MethodName) prog_13_method_47_code (3 : Nat) (Option.some Jvm.ClassFile.FieldType.int)) ∈ mWS := List.mem_filter.mpr ⟨List.mem_of_getElem? (i := 1135) (by rfl), by rfl⟩
set_option maxRecDepth 100000 in
theorem tw_1136 : (Jvm.Cond.methodLink "PancakePortModel" (226 : Nat) ({ cls := "PancakePortModel", name := "layLeast", desc := "()V" } : Jvm.MethodName)) ∈ mWS := List.mem_filter.mpr ⟨List.mem_of_getElem? (i := 1136) (by rfl), by rfl⟩
set_option maxRecDepth 100000 in
theorem tw_1138 : (Jvm.Cond.instanceMethod ({ cls := "PancakePortModel", name := "layLeast", desc := "()V" } : Jvm.MethodName)) ∈ mWS := List.mem_filter.mpr ⟨List.mem_of_getElem? (i := 1138) (by rfl), by rfl⟩
set_option maxRecDepth 100000 in
theorem tw_1139 : (Jvm.Cond.code ({ cls := "PancakePortModel", name := "layLeast", desc := "()V" } : Jvm.MethodName) prog_13_method_45_code (6 : Nat) (Option.none : Option Jvm.ClassFile.FieldType)) ∈ mWS := List.mem_filter.mpr ⟨List.mem_of_getElem? (i := 1139) (by rfl), by rfl⟩
set_option maxRecDepth 100000 in
theorem tw_1140 : (Jvm.Cond.constant "PancakePortModel" (219 : Nat) (1000000 : Int32)) ∈ mWS := List.mem_filter.mpr ⟨List.mem_of_getElem? (i := 1140) (by rfl), by rfl⟩
set_option maxRecDepth 100000 in
theorem tw_1141 : (Jvm.Cond.methodLink "PancakePortModel" (220 : Nat) ({ cls := "PancakePortModel", name := "priceOf", desc := "(I)I" } : Jvm.MethodName)) ∈ mWS := List.mem_filter.mpr ⟨List.mem_of_getElem? (i := 1141) (by rfl), by rfl⟩
set_option maxRecDepth 100000 in
theorem tw_1143 : (Jvm.Cond.instanceMethod ({ cls := "PancakePortModel", name := "priceOf", desc := "(I)I" } : Jvm.MethodName)) ∈ mWS := List.mem_filter.mpr ⟨List.mem_of_getElem? (i := 1143) (by rfl), by rfl⟩
set_option maxRecDepth 100000 in
theorem tw_1144 : (Jvm.Cond.code ({ cls := "PancakePortModel", name := "priceOf", desc := "(I)I" } : Jvm.MethodName) prog_13_method_44_code (2 : Nat) (Option.some Jvm.ClassFile.FieldType.int)) ∈ mWS := List.mem_filter.mpr ⟨List.mem_of_getElem? (i := 1144) (by rfl), by rfl⟩
set_option maxRecDepth 100000 in
theorem tw_1145 : (Jvm.Cond.methodLink "PancakePortModel" (229 : Nat) ({ cls := "PancakePortModel", name := "layRow", desc := "(I)V" } : Jvm.MethodName)) ∈ mWS := List.mem_filter.mpr ⟨List.mem_of_getElem? (i := 1145) (by rfl), by rfl⟩
set_option maxRecDepth 100000 in
theorem tw_1147 : (Jvm.Cond.instanceMethod ({ cls := "PancakePortModel", name := "layRow", desc := "(I)V" } : Jvm.MethodName)) ∈ mWS := List.mem_filter.mpr ⟨List.mem_of_getElem? (i := 1147) (by rfl), by rfl⟩
set_option maxRecDepth 100000 in
theorem tw_1148 : (Jvm.Cond.code ({ cls := "PancakePortModel", name := "layRow", desc := "(I)V" } : Jvm.MethodName) prog_13_method_46_code (5 : Nat) (Option.none : Option Jvm.ClassFile.FieldType)) ∈ mWS := List.mem_filter.mpr ⟨List.mem_of_getElem? (i := 1148) (by rfl), by rfl⟩
set_option maxRecDepth 100000 in
theorem tw_1149 : (Jvm.Cond.methodLink "PancakePortLaw" (84 : Nat) ({ cls := "PancakePortModel", name := "nights", desc := "()I" } : Jvm.MethodName)) ∈ mWS := List.mem_filter.mpr ⟨List.mem_of_getElem? (i := 1149) (by rfl), by rfl⟩
set_option maxRecDepth 100000 in
theorem tw_1150 : (Jvm.Cond.instanceMethod ({ cls := "PancakePortModel", name := "nights", desc := "()I" } : Jvm.MethodName)) ∈ mWS := List.mem_filter.mpr ⟨List.mem_of_getElem? (i := 1150) (by rfl), by rfl⟩
set_option maxRecDepth 100000 in
theorem tw_1151 : (Jvm.Cond.selects "PancakePortModel" ({ cls := "PancakePortModel", name := "nights", desc := "()I" } : Jvm.MethodName) ({ cls := "PancakePortModel", name := "nights", desc := "()I" } : Jvm.MethodName)) ∈ mWS := List.mem_filter.mpr ⟨List.mem_of_getElem? (i := 1151) (by rfl), by rfl⟩
set_option maxRecDepth 100000 in
theorem tw_1152 : (Jvm.Cond.code ({ cls := "PancakePortModel", name := "nights", desc := "()I" } : Jvm.MethodName) prog_13_method_50_code (1 : Nat) (Option.some Jvm.ClassFile.FieldType.int)) ∈ mWS := List.mem_filter.mpr ⟨List.mem_of_getElem? (i := 1152) (by rfl), by rfl⟩
set_option maxRecDepth 100000 in
theorem tw_1153 : (Jvm.Cond.methodLink "PancakePortModel" (240 : Nat) ({ cls := "PancakePortModel", name := "nightsOf", desc := "()I" } : Jvm.MethodName)) ∈ mWS := List.mem_filter.mpr ⟨List.mem_of_getElem? (i := 1153) (by rfl), by rfl⟩
set_option maxRecDepth 100000 in
theorem tw_1155 : (Jvm.Cond.instanceMethod ({ cls := "PancakePortModel", name := "nightsOf", desc := "()I" } : Jvm.MethodName)) ∈ mWS := List.mem_filter.mpr ⟨List.mem_of_getElem? (i := 1155) (by rfl), by rfl⟩
set_option maxRecDepth 100000 in
theorem tw_1156 : (Jvm.Cond.code ({ cls := "PancakePortModel", name := "nightsOf", desc := "()I" } : Jvm.MethodName) prog_13_method_49_code (2 : Nat) (Option.some Jvm.ClassFile.FieldType.int)) ∈ mWS := List.mem_filter.mpr ⟨List.mem_of_getElem? (i := 1156) (by rfl), by rfl⟩
set_option maxRecDepth 100000 in
theorem tw_1157 : (Jvm.Cond.methodLink "PancakePortLaw" (88 : Nat) ({ cls := "PancakePortModel", name := "odds", desc := "(III)I" } : Jvm.MethodName)) ∈ mWS := List.mem_filter.mpr ⟨List.mem_of_getElem? (i := 1157) (by rfl), by rfl⟩
set_option maxRecDepth 100000 in
theorem tw_1158 : (Jvm.Cond.instanceMethod ({ cls := "PancakePortModel", name := "odds", desc := "(III)I" } : Jvm.MethodName)) ∈ mWS := List.mem_filter.mpr ⟨List.mem_of_getElem? (i := 1158) (by rfl), by rfl⟩
set_option maxRecDepth 100000 in
theorem tw_1159 : (Jvm.Cond.selects "PancakePortModel" ({ cls := "PancakePortModel", name := "odds", desc := "(III)I" } : Jvm.MethodName) ({ cls := "PancakePortModel", name := "odds", desc := "(III)I" } : Jvm.MethodName)) ∈ mWS := List.mem_filter.mpr ⟨List.mem_of_getElem? (i := 1159) (by rfl), by rfl⟩
set_option maxRecDepth 100000 in
theorem tw_1160 : (Jvm.Cond.code ({ cls := "PancakePortModel", name := "odds", desc := "(III)I" } : Jvm.MethodName) prog_13_method_51_code (6 : Nat) (Option.some Jvm.ClassFile.FieldType.int)) ∈ mWS := List.mem_filter.mpr ⟨List.mem_of_getElem? (i := 1160) (by rfl), by rfl⟩
set_option maxRecDepth 100000 in
theorem tw_1161 : (Jvm.Cond.methodLink "PancakePortLaw" (92 : Nat) ({ cls := "PancakePortModel", name := "who", desc := "(I)I" } : Jvm.MethodName)) ∈ mWS := List.mem_filter.mpr ⟨List.mem_of_getElem? (i := 1161) (by rfl), by rfl⟩
set_option maxRecDepth 100000 in
theorem tw_1162 : (Jvm.Cond.instanceMethod ({ cls := "PancakePortModel", name := "who", desc := "(I)I" } : Jvm.MethodName)) ∈ mWS := List.mem_filter.mpr ⟨List.mem_of_getElem? (i := 1162) (by rfl), by rfl⟩
set_option maxRecDepth 100000 in
theorem tw_1163 : (Jvm.Cond.selects "PancakePortModel" ({ cls := "PancakePortModel", name := "who", desc := "(I)I" } : Jvm.MethodName) ({ cls := "PancakePortModel", name := "who", desc := "(I)I" } : Jvm.MethodName)) ∈ mWS := List.mem_filter.mpr ⟨List.mem_of_getElem? (i := 1163) (by rfl), by rfl⟩
set_option maxRecDepth 100000 in
theorem tw_1164 : (Jvm.Cond.code ({ cls := "PancakePortModel", name := "who", desc := "(I)I" } : Jvm.MethodName) prog_13_method_53_code (2 : Nat) (Option.some Jvm.ClassFile.FieldType.int)) ∈ mWS := List.mem_filter.mpr ⟨List.mem_of_getElem? (i := 1164) (by rfl), by rfl⟩
set_option maxRecDepth 100000 in
theorem tw_1165 : (Jvm.Cond.methodLink "PancakePortModel" (243 : Nat) ({ cls := "PancakePortModel", name := "whoOf", desc := "(I)I" } : Jvm.MethodName)) ∈ mWS := List.mem_filter.mpr ⟨List.mem_of_getElem? (i := 1165) (by rfl), by rfl⟩
set_option maxRecDepth 100000 in
theorem tw_1167 : (Jvm.Cond.instanceMethod ({ cls := "PancakePortModel", name := "whoOf", desc := "(I)I" } : Jvm.MethodName)) ∈ mWS := List.mem_filter.mpr ⟨List.mem_of_getElem? (i := 1167) (by rfl), by rfl⟩
set_option maxRecDepth 100000 in
theorem tw_1168 : (Jvm.Cond.code ({ cls := "PancakePortModel", name := "whoOf", desc := "(I)I" } : Jvm.MethodName) prog_13_method_52_code (5 : Nat) (Option.some Jvm.ClassFile.FieldType.int)) ∈ mWS := List.mem_filter.mpr ⟨List.mem_of_getElem? (i := 1168) (by rfl), by rfl⟩
set_option maxRecDepth 100000 in
theorem tw_1169 : (Jvm.Cond.methodLink "PancakePortLaw" (96 : Nat) ({ cls := "PancakePortModel", name := "see", desc := "(III)I" } : Jvm.MethodName)) ∈ mWS := List.mem_filter.mpr ⟨List.mem_of_getElem? (i := 1169) (by rfl), by rfl⟩
set_option maxRecDepth 100000 in
theorem tw_1170 : (Jvm.Cond.instanceMethod ({ cls := "PancakePortModel", name := "see", desc := "(III)I" } : Jvm.MethodName)) ∈ mWS := List.mem_filter.mpr ⟨List.mem_of_getElem? (i := 1170) (by rfl), by rfl⟩
set_option maxRecDepth 100000 in
theorem tw_1171 : (Jvm.Cond.selects "PancakePortModel" ({ cls := "PancakePortModel", name := "see", desc := "(III)I" } : Jvm.MethodName) ({ cls := "PancakePortModel", name := "see", desc := "(III)I" } : Jvm.MethodName)) ∈ mWS := List.mem_filter.mpr ⟨List.mem_of_getElem? (i := 1171) (by rfl), by rfl⟩
set_option maxRecDepth 100000 in
theorem tw_1172 : (Jvm.Cond.code ({ cls := "PancakePortModel", name := "see", desc := "(III)I" } : Jvm.MethodName) prog_13_method_54_code (4 : Nat) (Option.some Jvm.ClassFile.FieldType.int)) ∈ mWS := List.mem_filter.mpr ⟨List.mem_of_getElem? (i := 1172) (by rfl), by rfl⟩
set_option maxRecDepth 100000 in
theorem tw_1173 : (Jvm.Cond.methodLink "PancakePortLaw" (100 : Nat) ({ cls := "PancakePortModel", name := "forget", desc := "()I" } : Jvm.MethodName)) ∈ mWS := List.mem_filter.mpr ⟨List.mem_of_getElem? (i := 1173) (by rfl), by rfl⟩
set_option maxRecDepth 100000 in
theorem tw_1174 : (Jvm.Cond.instanceMethod ({ cls := "PancakePortModel", name := "forget", desc := "()I" } : Jvm.MethodName)) ∈ mWS := List.mem_filter.mpr ⟨List.mem_of_getElem? (i := 1174) (by rfl), by rfl⟩
set_option maxRecDepth 100000 in
theorem tw_1175 : (Jvm.Cond.selects "PancakePortModel" ({ cls := "PancakePortModel", name := "forget", desc := "()I" } : Jvm.MethodName) ({ cls := "PancakePortModel", name := "forget", desc := "()I" } : Jvm.MethodName)) ∈ mWS := List.mem_filter.mpr ⟨List.mem_of_getElem? (i := 1175) (by rfl), by rfl⟩
set_option maxRecDepth 100000 in
theorem tw_1176 : (Jvm.Cond.code ({ cls := "PancakePortModel", name := "forget", desc := "()I" } : Jvm.MethodName) prog_13_method_55_code (2 : Nat) (Option.some Jvm.ClassFile.FieldType.int)) ∈ mWS := List.mem_filter.mpr ⟨List.mem_of_getElem? (i := 1176) (by rfl), by rfl⟩
set_option maxRecDepth 100000 in
theorem tw_1177 : (Jvm.Cond.methodLink "PancakePortLaw" (104 : Nat) ({ cls := "PancakePortModel", name := "seasons", desc := "(III)I" } : Jvm.MethodName)) ∈ mWS := List.mem_filter.mpr ⟨List.mem_of_getElem? (i := 1177) (by rfl), by rfl⟩
set_option maxRecDepth 100000 in
theorem tw_1178 : (Jvm.Cond.instanceMethod ({ cls := "PancakePortModel", name := "seasons", desc := "(III)I" } : Jvm.MethodName)) ∈ mWS := List.mem_filter.mpr ⟨List.mem_of_getElem? (i := 1178) (by rfl), by rfl⟩
set_option maxRecDepth 100000 in
theorem tw_1179 : (Jvm.Cond.selects "PancakePortModel" ({ cls := "PancakePortModel", name := "seasons", desc := "(III)I" } : Jvm.MethodName) ({ cls := "PancakePortModel", name := "seasons", desc := "(III)I" } : Jvm.MethodName)) ∈ mWS := List.mem_filter.mpr ⟨List.mem_of_getElem? (i := 1179) (by rfl), by rfl⟩
set_option maxRecDepth 100000 in
theorem tw_1180 : (Jvm.Cond.code ({ cls := "PancakePortModel", name := "seasons", desc := "(III)I" } : Jvm.MethodName) prog_13_method_60_code (10 : Nat) (Option.some Jvm.ClassFile.FieldType.int)) ∈ mWS := List.mem_filter.mpr ⟨List.mem_of_getElem? (i := 1180) (by rfl), by rfl⟩
set_option maxRecDepth 100000 in
theorem tw_1181 : (Jvm.Cond.constantLong "PancakePortModel" (259 : Nat) (2 : Int64)) ∈ mWS := List.mem_filter.mpr ⟨List.mem_of_getElem? (i := 1181) (by rfl), by rfl⟩
set_option maxRecDepth 100000 in
theorem tw_1182 : (Jvm.Cond.methodLink "PancakePortModel" (261 : Nat) ({ cls := "PancakePortModel", name := "draw", desc := "(I)I" } : Jvm.MethodName)) ∈ mWS := List.mem_filter.mpr ⟨List.mem_of_getElem? (i := 1182) (by rfl), by rfl⟩
set_option maxRecDepth 100000 in
theorem tw_1184 : (Jvm.Cond.instanceMethod ({ cls := "PancakePortModel", name := "draw", desc := "(I)I" } : Jvm.MethodName)) ∈ mWS := List.mem_filter.mpr ⟨List.mem_of_getElem? (i := 1184) (by rfl), by rfl⟩
set_option maxRecDepth 100000 in
theorem tw_1185 : (Jvm.Cond.code ({ cls := "PancakePortModel", name := "draw", desc := "(I)I" } : Jvm.MethodName) prog_13_method_59_code (2 : Nat) (Option.some Jvm.ClassFile.FieldType.int)) ∈ mWS := List.mem_filter.mpr ⟨List.mem_of_getElem? (i := 1185) (by rfl), by rfl⟩
set_option maxRecDepth 100000 in
theorem tw_1186 : (Jvm.Cond.constantLong "PancakePortModel" (249 : Nat) (1103515245 : Int64)) ∈ mWS := List.mem_filter.mpr ⟨List.mem_of_getElem? (i := 1186) (by rfl), by rfl⟩
set_option maxRecDepth 100000 in
theorem tw_1187 : (Jvm.Cond.constantLong "PancakePortModel" (254 : Nat) (12345 : Int64)) ∈ mWS := List.mem_filter.mpr ⟨List.mem_of_getElem? (i := 1187) (by rfl), by rfl⟩
set_option maxRecDepth 100000 in
theorem tw_1188 : (Jvm.Cond.constantLong "PancakePortModel" (256 : Nat) (2147483647 : Int64)) ∈ mWS := List.mem_filter.mpr ⟨List.mem_of_getElem? (i := 1188) (by rfl), by rfl⟩
set_option maxRecDepth 100000 in
theorem tw_1189 : (Jvm.Cond.constant "PancakePortModel" (258 : Nat) (65536 : Int32)) ∈ mWS := List.mem_filter.mpr ⟨List.mem_of_getElem? (i := 1189) (by rfl), by rfl⟩
set_option maxRecDepth 100000 in
theorem tw_1190 : (Jvm.Cond.methodLink "PancakePortLaw" (108 : Nat) ({ cls := "PancakePortModel", name := "image", desc := "()I" } : Jvm.MethodName)) ∈ mWS := List.mem_filter.mpr ⟨List.mem_of_getElem? (i := 1190) (by rfl), by rfl⟩
set_option maxRecDepth 100000 in
theorem tw_1191 : (Jvm.Cond.instanceMethod ({ cls := "PancakePortModel", name := "image", desc := "()I" } : Jvm.MethodName)) ∈ mWS := List.mem_filter.mpr ⟨List.mem_of_getElem? (i := 1191) (by rfl), by rfl⟩
set_option maxRecDepth 100000 in
theorem tw_1192 : (Jvm.Cond.selects "PancakePortModel" ({ cls := "PancakePortModel", name := "image", desc := "()I" } : Jvm.MethodName) ({ cls := "PancakePortModel", name := "image", desc := "()I" } : Jvm.MethodName)) ∈ mWS := List.mem_filter.mpr ⟨List.mem_of_getElem? (i := 1192) (by rfl), by rfl⟩
set_option maxRecDepth 100000 in
theorem tw_1193 : (Jvm.Cond.code ({ cls := "PancakePortModel", name := "image", desc := "()I" } : Jvm.MethodName) prog_13_method_61_code (1 : Nat) (Option.some Jvm.ClassFile.FieldType.int)) ∈ mWS := List.mem_filter.mpr ⟨List.mem_of_getElem? (i := 1193) (by rfl), by rfl⟩
set_option maxRecDepth 100000 in
theorem tw_1194 : (Jvm.Cond.methodLink "PancakePortModel" (264 : Nat) ({ cls := "PancakePortModel", name := "copy", desc := "([I[I)V" } : Jvm.MethodName)) ∈ mWS := List.mem_filter.mpr ⟨List.mem_of_getElem? (i := 1194) (by rfl), by rfl⟩
set_option maxRecDepth 100000 in
theorem tw_1195 : (Jvm.Cond.static ({ cls := "PancakePortModel", name := "copy", desc := "([I[I)V" } : Jvm.MethodName)) ∈ mWS := List.mem_filter.mpr ⟨List.mem_of_getElem? (i := 1195) (by rfl), by rfl⟩
set_option maxRecDepth 100000 in
theorem tw_1196 : (Jvm.Cond.code ({ cls := "PancakePortModel", name := "copy", desc := "([I[I)V" } : Jvm.MethodName) prog_13_method_3_code (3 : Nat) (Option.none : Option Jvm.ClassFile.FieldType)) ∈ mWS := List.mem_filter.mpr ⟨List.mem_of_getElem? (i := 1196) (by rfl), by rfl⟩
set_option maxRecDepth 100000 in
theorem tw_1197 : (Jvm.Cond.methodLink "PancakePortLaw" (112 : Nat) ({ cls := "PancakePortModel", name := "restore", desc := "()I" } : Jvm.MethodName)) ∈ mWS := List.mem_filter.mpr ⟨List.mem_of_getElem? (i := 1197) (by rfl), by rfl⟩
set_option maxRecDepth 100000 in
theorem tw_1198 : (Jvm.Cond.instanceMethod ({ cls := "PancakePortModel", name := "restore", desc := "()I" } : Jvm.MethodName)) ∈ mWS := List.mem_filter.mpr ⟨List.mem_of_getElem? (i := 1198) (by rfl), by rfl⟩
set_option maxRecDepth 100000 in
theorem tw_1199 : (Jvm.Cond.selects "PancakePortModel" ({ cls := "PancakePortModel", name := "restore", desc := "()I" } : Jvm.MethodName) ({ cls := "PancakePortModel", name := "restore", desc := "()I" } : Jvm.MethodName)) ∈ mWS := List.mem_filter.mpr ⟨List.mem_of_getElem? (i := 1199) (by rfl), by rfl⟩
set_option maxRecDepth 100000 in
theorem tw_1200 : (Jvm.Cond.code ({ cls := "PancakePortModel", name := "restore", desc := "()I" } : Jvm.MethodName) prog_13_method_62_code (1 : Nat) (Option.some Jvm.ClassFile.FieldType.int)) ∈ mWS := List.mem_filter.mpr ⟨List.mem_of_getElem? (i := 1200) (by rfl), by rfl⟩
set_option maxRecDepth 100000 in
theorem tw_1201 : (Jvm.Cond.methodLink "PancakePortLaw" (116 : Nat) ({ cls := "PancakePortModel", name := "count", desc := "(I)I" } : Jvm.MethodName)) ∈ mWS := List.mem_filter.mpr ⟨List.mem_of_getElem? (i := 1201) (by rfl), by rfl⟩
set_option maxRecDepth 100000 in
theorem tw_1202 : (Jvm.Cond.instanceMethod ({ cls := "PancakePortModel", name := "count", desc := "(I)I" } : Jvm.MethodName)) ∈ mWS := List.mem_filter.mpr ⟨List.mem_of_getElem? (i := 1202) (by rfl), by rfl⟩
set_option maxRecDepth 100000 in
theorem tw_1203 : (Jvm.Cond.selects "PancakePortModel" ({ cls := "PancakePortModel", name := "count", desc := "(I)I" } : Jvm.MethodName) ({ cls := "PancakePortModel", name := "count", desc := "(I)I" } : Jvm.MethodName)) ∈ mWS := List.mem_filter.mpr ⟨List.mem_of_getElem? (i := 1203) (by rfl), by rfl⟩
set_option maxRecDepth 100000 in
theorem tw_1204 : (Jvm.Cond.code ({ cls := "PancakePortModel", name := "count", desc := "(I)I" } : Jvm.MethodName) prog_13_method_65_code (2 : Nat) (Option.some Jvm.ClassFile.FieldType.int)) ∈ mWS := List.mem_filter.mpr ⟨List.mem_of_getElem? (i := 1204) (by rfl), by rfl⟩
set_option maxRecDepth 100000 in
theorem tw_1205 : (Jvm.Cond.methodLink "PancakePortModel" (287 : Nat) ({ cls := "PancakePortModel", name := "countOf", desc := "(I)I" } : Jvm.MethodName)) ∈ mWS := List.mem_filter.mpr ⟨List.mem_of_getElem? (i := 1205) (by rfl), by rfl⟩
set_option maxRecDepth 100000 in
theorem tw_1207 : (Jvm.Cond.instanceMethod ({ cls := "PancakePortModel", name := "countOf", desc := "(I)I" } : Jvm.MethodName)) ∈ mWS := List.mem_filter.mpr ⟨List.mem_of_getElem? (i := 1207) (by rfl), by rfl⟩
set_option maxRecDepth 100000 in
theorem tw_1208 : (Jvm.Cond.code ({ cls := "PancakePortModel", name := "countOf", desc := "(I)I" } : Jvm.MethodName) prog_13_method_64_code (2 : Nat) (Option.some Jvm.ClassFile.FieldType.int)) ∈ mWS := List.mem_filter.mpr ⟨List.mem_of_getElem? (i := 1208) (by rfl), by rfl⟩
set_option maxRecDepth 100000 in
theorem tw_1209 : (Jvm.Cond.methodLink "PancakePortModel" (283 : Nat) ({ cls := "PancakePortModel", name := "sumOf", desc := "([I)I" } : Jvm.MethodName)) ∈ mWS := List.mem_filter.mpr ⟨List.mem_of_getElem? (i := 1209) (by rfl), by rfl⟩
set_option maxRecDepth 100000 in
theorem tw_1211 : (Jvm.Cond.instanceMethod ({ cls := "PancakePortModel", name := "sumOf", desc := "([I)I" } : Jvm.MethodName)) ∈ mWS := List.mem_filter.mpr ⟨List.mem_of_getElem? (i := 1211) (by rfl), by rfl⟩
set_option maxRecDepth 100000 in
theorem tw_1212 : (Jvm.Cond.code ({ cls := "PancakePortModel", name := "sumOf", desc := "([I)I" } : Jvm.MethodName) prog_13_method_63_code (4 : Nat) (Option.some Jvm.ClassFile.FieldType.int)) ∈ mWS := List.mem_filter.mpr ⟨List.mem_of_getElem? (i := 1212) (by rfl), by rfl⟩
set_option maxRecDepth 100000 in
theorem tw_1213 : (Jvm.Cond.methodLink "PancakePortLaw" (121 : Nat) ({ cls := "PancakePortModel", name := "digest", desc := "()J" } : Jvm.MethodName)) ∈ mWS := List.mem_filter.mpr ⟨List.mem_of_getElem? (i := 1213) (by rfl), by rfl⟩
set_option maxRecDepth 100000 in
theorem tw_1214 : (Jvm.Cond.instanceMethod ({ cls := "PancakePortModel", name := "digest", desc := "()J" } : Jvm.MethodName)) ∈ mWS := List.mem_filter.mpr ⟨List.mem_of_getElem? (i := 1214) (by rfl), by rfl⟩
set_option maxRecDepth 100000 in
theorem tw_1215 : (Jvm.Cond.selects "PancakePortModel" ({ cls := "PancakePortModel", name := "digest", desc := "()J" } : Jvm.MethodName) ({ cls := "PancakePortModel", name := "digest", desc := "()J" } : Jvm.MethodName)) ∈ mWS := List.mem_filter.mpr ⟨List.mem_of_getElem? (i := 1215) (by rfl), by rfl⟩
set_option maxRecDepth 100000 in
theorem tw_1216 : (Jvm.Cond.code ({ cls := "PancakePortModel", name := "digest", desc := "()J" } : Jvm.MethodName) prog_13_method_69_code (3 : Nat) (Option.some Jvm.ClassFile.FieldType.long)) ∈ mWS := List.mem_filter.mpr ⟨List.mem_of_getElem? (i := 1216) (by rfl), by rfl⟩
set_option maxRecDepth 100000 in
theorem tw_1217 : (Jvm.Cond.constantLong "PancakePortModel" (300 : Nat) (1217 : Int64)) ∈ mWS := List.mem_filter.mpr ⟨List.mem_of_getElem? (i := 1217) (by rfl), by rfl⟩
set_option maxRecDepth 100000 in
theorem tw_1218 : (Jvm.Cond.methodLink "PancakePortModel" (296 : Nat) ({ cls := "PancakePortModel", name := "say", desc := "(J)V" } : Jvm.MethodName)) ∈ mWS := List.mem_filter.mpr ⟨List.mem_of_getElem? (i := 1218) (by rfl), by rfl⟩
set_option maxRecDepth 100000 in
theorem tw_1220 : (Jvm.Cond.instanceMethod ({ cls := "PancakePortModel", name := "say", desc := "(J)V" } : Jvm.MethodName)) ∈ mWS := List.mem_filter.mpr ⟨List.mem_of_getElem? (i := 1220) (by rfl), by rfl⟩
set_option maxRecDepth 100000 in
theorem tw_1221 : (Jvm.Cond.code ({ cls := "PancakePortModel", name := "say", desc := "(J)V" } : Jvm.MethodName) prog_13_method_66_code (3 : Nat) (Option.none : Option Jvm.ClassFile.FieldType)) ∈ mWS := List.mem_filter.mpr ⟨List.mem_of_getElem? (i := 1221) (by rfl), by rfl⟩
set_option maxRecDepth 100000 in
theorem tw_1222 : (Jvm.Cond.constantLong "PancakePortModel" (290 : Nat) (31 : Int64)) ∈ mWS := List.mem_filter.mpr ⟨List.mem_of_getElem? (i := 1222) (by rfl), by rfl⟩
set_option maxRecDepth 100000 in
theorem tw_1223 : (Jvm.Cond.methodLink "PancakePortModel" (302 : Nat) ({ cls := "PancakePortModel", name := "sayTosser", desc := "(I)V" } : Jvm.MethodName)) ∈ mWS := List.mem_filter.mpr ⟨List.mem_of_getElem? (i := 1223) (by rfl), by rfl⟩
set_option maxRecDepth 100000 in
theorem tw_1225 : (Jvm.Cond.instanceMethod ({ cls := "PancakePortModel", name := "sayTosser", desc := "(I)V" } : Jvm.MethodName)) ∈ mWS := List.mem_filter.mpr ⟨List.mem_of_getElem? (i := 1225) (by rfl), by rfl⟩
set_option maxRecDepth 100000 in
theorem tw_1226 : (Jvm.Cond.code ({ cls := "PancakePortModel", name := "sayTosser", desc := "(I)V" } : Jvm.MethodName) prog_13_method_67_code (3 : Nat) (Option.none : Option Jvm.ClassFile.FieldType)) ∈ mWS := List.mem_filter.mpr ⟨List.mem_of_getElem? (i := 1226) (by rfl), by rfl⟩
set_option maxRecDepth 100000 in
theorem tw_1227 : (Jvm.Cond.methodLink "PancakePortModel" (305 : Nat) ({ cls := "PancakePortModel", name := "sayPort", desc := "()V" } : Jvm.MethodName)) ∈ mWS := List.mem_filter.mpr ⟨List.mem_of_getElem? (i := 1227) (by rfl), by rfl⟩
set_option maxRecDepth 100000 in
theorem tw_1229 : (Jvm.Cond.instanceMethod ({ cls := "PancakePortModel", name := "sayPort", desc := "()V" } : Jvm.MethodName)) ∈ mWS := List.mem_filter.mpr ⟨List.mem_of_getElem? (i := 1229) (by rfl), by rfl⟩
set_option maxRecDepth 100000 in
theorem tw_1230 : (Jvm.Cond.code ({ cls := "PancakePortModel", name := "sayPort", desc := "()V" } : Jvm.MethodName) prog_13_method_68_code (2 : Nat) (Option.none : Option Jvm.ClassFile.FieldType)) ∈ mWS := List.mem_filter.mpr ⟨List.mem_of_getElem? (i := 1230) (by rfl), by rfl⟩
set_option maxRecDepth 100000 in
theorem tw_1231 : (Jvm.Cond.sameMethod "PancakePort$Wide" "PancakePort$Wide" "spreads" "(II)Z") ∈ mWS := List.mem_filter.mpr ⟨List.mem_of_getElem? (i := 1231) (by rfl), by rfl⟩
set_option maxRecDepth 100000 in
theorem tw_1232 : (Jvm.Cond.castable "PancakePort$Mayor" "PancakePort$Wide") ∈ mNw := List.mem_filter.mpr ⟨List.mem_of_getElem? (i := 1232) (by rfl), by rfl⟩
set_option maxRecDepth 100000 in
theorem tw_1233 : (Jvm.Cond.castable "PancakePort$Lacy" "PancakePort$Tosser") ∈ mNw := List.mem_filter.mpr ⟨List.mem_of_getElem? (i := 1233) (by rfl), by rfl⟩
set_option maxRecDepth 100000 in
theorem tw_1234 : (Jvm.Cond.castable "PancakePort$Wide" "PancakePort$Tosser") ∈ mNw := List.mem_filter.mpr ⟨List.mem_of_getElem? (i := 1234) (by rfl), by rfl⟩
set_option maxRecDepth 100000 in
theorem tw_1235 : (Jvm.Cond.castable "PancakePort$Thrifty" "PancakePort$Tosser") ∈ mNw := List.mem_filter.mpr ⟨List.mem_of_getElem? (i := 1235) (by rfl), by rfl⟩
set_option maxRecDepth 100000 in
theorem tw_1236 : (Jvm.Cond.castable "PancakePort$Mayor" "PancakePort$Tosser") ∈ mNw := List.mem_filter.mpr ⟨List.mem_of_getElem? (i := 1236) (by rfl), by rfl⟩
set_option maxRecDepth 100000 in
theorem tw_1237 : (Jvm.Cond.fieldLink "java/lang/String" (15 : Nat) "java/lang/String" "coder" "B") ∈ mWS := List.mem_filter.mpr ⟨List.mem_of_getElem? (i := 1237) (by rfl), by rfl⟩
set_option maxRecDepth 100000 in
theorem tw_1238 : (Jvm.Cond.fieldLink "java/lang/String" (9 : Nat) "java/lang/String" "value" "[B") ∈ mWS := List.mem_filter.mpr ⟨List.mem_of_getElem? (i := 1238) (by rfl), by rfl⟩
end
section
-- what the methods are made of, as functions over the world
def mFuel : Nat := 1000
def gV (w : mW) (o : Option Nat) (ci k : Nat) : Option mV := match o with
  | none => none
  | some a => match w[a]? with
    | some (.inl c) => if c.1 = ci then c.2[k]? else none
    | _ => none
def gI (w : mW) (o : Option Nat) (ci k : Nat) : Option Int32 := match gV w o ci k with
  | some (.inl x) => some x
  | _ => none
def gL (w : mW) (o : Option Nat) (ci k : Nat) : Option Int64 := match gV w o ci k with
  | some (.inr (.inl x)) => some x
  | _ => none
def gR (w : mW) (o : Option Nat) (ci k : Nat) : Option (Option Nat) := match gV w o ci k with
  | some (.inr (.inr (.inl x))) => some x
  | _ => none
theorem gV_spec {w : mW} {o : Option Nat} {ci k : Nat} {v : mV} (h : gV w o ci k = some v) : ∃ (a : Nat) (fs : List mV), o = some a ∧ w[a]? = some (.inl (ci, fs)) ∧ fs[k]? = some v := by
  unfold gV at h
  split at h
  · cases h
  · split at h
    · rename_i c hc
      split at h
      · rename_i hci
        exact ⟨_, c.2, rfl, by rw [hc, ← hci], h⟩
      · cases h
    · cases h
theorem gI_spec {w : mW} {o : Option Nat} {ci k : Nat} {v : Int32} (h : gI w o ci k = some v) : gV w o ci k = some (vi v) := by
  unfold gI at h
  split at h
  · rename_i x hx; cases h; exact hx
  · cases h
theorem gL_spec {w : mW} {o : Option Nat} {ci k : Nat} {v : Int64} (h : gL w o ci k = some v) : gV w o ci k = some (vl v) := by
  unfold gL at h
  split at h
  · rename_i x hx; cases h; exact hx
  · cases h
theorem gR_spec {w : mW} {o : Option Nat} {ci k : Nat} {v : Option Nat} (h : gR w o ci k = some v) : gV w o ci k = some (vr v) := by
  unfold gR at h
  split at h
  · rename_i x hx; cases h; exact hx
  · cases h
def pV (w : mW) (o : Option Nat) (ci k : Nat) (v : mV) : Option mW := match o with
  | none => none
  | some a => match w[a]? with
    | some (.inl c) => if c.1 = ci ∧ k < c.2.length then some (w.set a (.inl (ci, c.2.set k v))) else none
    | _ => none
theorem pV_spec {w w1 : mW} {o : Option Nat} {ci k : Nat} {v : mV} (h : pV w o ci k v = some w1) : ∃ (a : Nat) (fs : List mV), o = some a ∧ w[a]? = some (.inl (ci, fs)) ∧ k < fs.length ∧ w1 = w.set a (.inl (ci, fs.set k v)) := by
  unfold pV at h
  split at h
  · cases h
  · split at h
    · rename_i c hc
      split at h
      · rename_i hci
        cases h
        exact ⟨_, c.2, rfl, by rw [hc, ← hci.1], hci.2, rfl⟩
      · cases h
    · cases h
def pI (w : mW) (o : Option Nat) (ci k : Nat) (x : Int32) : Option mW := pV w o ci k (vi x)
def pZ (w : mW) (o : Option Nat) (ci k : Nat) (x : Int32) : Option mW := if x = 0 ∨ x = 1 then pV w o ci k (vi x) else none
def pL (w : mW) (o : Option Nat) (ci k : Nat) (x : Int64) : Option mW := pV w o ci k (vl x)
def pR (w : mW) (o : Option Nat) (ci k : Nat) (x : Option Nat) : Option mW := pV w o ci k (vr x)
def aG (w : mW) (o : Option Nat) : Option (Nat × (Nat → Int32)) := match o with
  | none => none
  | some a => match w[a]? with
    | some (.inr (.inl c)) => some c
    | _ => none
def rG (w : mW) (o : Option Nat) : Option (Nat × (Nat → Option Nat)) := match o with
  | none => none
  | some a => match w[a]? with
    | some (.inr (.inr c)) => some c
    | _ => none
theorem aG_spec {w : mW} {o : Option Nat} {c : Nat × (Nat → Int32)} (h : aG w o = some c) : ∃ a : Nat, o = some a ∧ w[a]? = some (.inr (.inl c)) := by
  unfold aG at h
  split at h
  · cases h
  · split at h
    · rename_i c hc; cases h; exact ⟨_, rfl, hc⟩
    · cases h
theorem rG_spec {w : mW} {o : Option Nat} {c : Nat × (Nat → Option Nat)} (h : rG w o = some c) : ∃ a : Nat, o = some a ∧ w[a]? = some (.inr (.inr c)) := by
  unfold rG at h
  split at h
  · cases h
  · split at h
    · rename_i c hc; cases h; exact ⟨_, rfl, hc⟩
    · cases h
def aL (w : mW) (o : Option Nat) (i : Int32) : Option Int32 := match aG w o with
  | none => none
  | some c => if i.toNatClampNeg < c.1 ∧ ¬ i < 0 then some (c.2 i.toNatClampNeg) else none
def rL (w : mW) (o : Option Nat) (i : Int32) : Option (Option Nat) := match rG w o with
  | none => none
  | some c => if i.toNatClampNeg < c.1 ∧ ¬ i < 0 then some (c.2 i.toNatClampNeg) else none
def aN (w : mW) (o : Option Nat) : Option Int32 := (aG w o).map fun c => Int32.ofNat c.1
def rN (w : mW) (o : Option Nat) : Option Int32 := (rG w o).map fun c => Int32.ofNat c.1
def aS (w : mW) (o : Option Nat) (i x : Int32) : Option mW := match aG w o with
  | none => none
  | some c => if i.toNatClampNeg < c.1 ∧ ¬ i < 0 then some (w.set (o.getD 0) (.inr (.inl (c.1, upd c.2 i.toNatClampNeg x)))) else none
/-- the class of a tosser -/
def tO (w : mW) (o : Option Nat) : Option Nat := match o with
  | none => none
  | some a => match w[a]? with
    | some (.inl c) => if c.1 = 8 ∨ c.1 = 0 ∨ c.1 = 9 ∨ c.1 = 7 ∨ c.1 = 1 then some c.1 else none
    | _ => none
def rS (w : mW) (o : Option Nat) (i : Int32) (x : Option Nat) : Option mW := match rG w o with
  | none => none
  | some c => match tO w x with
    | none => none
    | some _ => if i.toNatClampNeg < c.1 ∧ ¬ i < 0 then some (w.set (o.getD 0) (.inr (.inr (c.1, va_up c.2 i.toNatClampNeg x)))) else none
def iO (w : mW) (o : Option Nat) (t : Nat) : Option Int32 := match o with
  | none => some 0
  | some _ => (tO w o).map fun c => if c = t ∨ (c = 1 ∧ t = 9) then 1 else 0
theorem tO_spec {w : mW} {o : Option Nat} {c : Nat} (h : tO w o = some c) : ∃ (a : Nat) (fs : List mV), o = some a ∧ w[a]? = some (.inl (c, fs)) ∧ (c = 8 ∨ c = 0 ∨ c = 9 ∨ c = 7 ∨ c = 1) := by
  unfold tO at h
  split at h
  · cases h
  · split at h
    · rename_i c hc
      split at h
      · rename_i hci
        cases h
        exact ⟨_, c.2, rfl, hc, hci⟩
      · cases h
    · cases h
theorem mLe_nil {b : List (Option mV)} : mLe [] b := by cases b <;> trivial
theorem mLe_none {a b : List (Option mV)} {x : Option mV} (h : mLe a b) : mLe (none :: a) (x :: b) := h
theorem mLe_some {a b : List (Option mV)} {v : mV} (h : mLe a b) : mLe (some v :: a) (some v :: b) := ⟨rfl, h⟩
section EV4
variable {X : mXs} {M M1 : mM} {d d1 : Nat} {r r1 : Option mV} {w' w1 : mW} {pc q : Nat} {L : List (Option mV)} {st rest : List mV} {w : mW} {o : Option Nat} {idx ci kf : Nat}
theorem ev_gI {x : Int32} (hd : decode M.2.1 pc = .ok (.getfield idx, 3)) (hf : mFld M.1.cls idx ci kf) (h : gI w o ci kf = some x) (hq : pc + 3 = q) (kk : mEv X M d r w' q L (vi x :: st) w) : mEv X M d r w' pc L (vr o :: st) w := by
  obtain ⟨a, fs, rfl, h1, h2⟩ := gV_spec (gI_spec h)
  exact ev_get hd hq hf h1 h2 kk
theorem ev_gL {x : Int64} (hd : decode M.2.1 pc = .ok (.getfield idx, 3)) (hf : mFld M.1.cls idx ci kf) (h : gL w o ci kf = some x) (hq : pc + 3 = q) (kk : mEv X M d r w' q L (vl x :: st) w) : mEv X M d r w' pc L (vr o :: st) w := by
  obtain ⟨a, fs, rfl, h1, h2⟩ := gV_spec (gL_spec h)
  exact ev_get hd hq hf h1 h2 kk
theorem ev_gR {x : Option Nat} (hd : decode M.2.1 pc = .ok (.getfield idx, 3)) (hf : mFld M.1.cls idx ci kf) (h : gR w o ci kf = some x) (hq : pc + 3 = q) (kk : mEv X M d r w' q L (vr x :: st) w) : mEv X M d r w' pc L (vr o :: st) w := by
  obtain ⟨a, fs, rfl, h1, h2⟩ := gV_spec (gR_spec h)
  exact ev_get hd hq hf h1 h2 kk
theorem ev_pI {x : Int32} {w2 : mW} (hd : decode M.2.1 pc = .ok (.putfield idx, 3)) (hf : mFldP M.1.cls idx ci kf .int false) (h : pI w o ci kf x = some w2) (hq : pc + 3 = q) (kk : mEv X M d r w' q L st w2) : mEv X M d r w' pc L (vi x :: vr o :: st) w := by
  obtain ⟨a, fs, rfl, h1, h2, rfl⟩ := pV_spec h
  exact ev_put hd hq hf mFit_i h1 h2 kk
theorem ev_pZ {x : Int32} {w2 : mW} (hd : decode M.2.1 pc = .ok (.putfield idx, 3)) (hf : mFldP M.1.cls idx ci kf .boolean false) (h : pZ w o ci kf x = some w2) (hq : pc + 3 = q) (kk : mEv X M d r w' q L st w2) : mEv X M d r w' pc L (vi x :: vr o :: st) w := by
  unfold pZ at h
  split at h
  · rename_i hx
    obtain ⟨a, fs, rfl, h1, h2, rfl⟩ := pV_spec h
    exact ev_put hd hq hf (mFit_z hx) h1 h2 kk
  · cases h
theorem ev_pL {x : Int64} {w2 : mW} (hd : decode M.2.1 pc = .ok (.putfield idx, 3)) (hf : mFldP M.1.cls idx ci kf .long false) (h : pL w o ci kf x = some w2) (hq : pc + 3 = q) (kk : mEv X M d r w' q L st w2) : mEv X M d r w' pc L (vl x :: vr o :: st) w := by
  obtain ⟨a, fs, rfl, h1, h2, rfl⟩ := pV_spec h
  exact ev_put hd hq hf mFit_l h1 h2 kk
theorem ev_pRF {x : Option Nat} {ty : FieldType} {w2 : mW} (hd : decode M.2.1 pc = .ok (.putfield idx, 3)) (hini : M.1.name = "<init>") (hfit : mFit ty (vr x)) (hf : mFldP M.1.cls idx ci kf ty true) (h : pR w o ci kf x = some w2) (hq : pc + 3 = q) (kk : mEv X M d r w' q L st w2) : mEv X M d r w' pc L (vr x :: vr o :: st) w := by
  obtain ⟨a, fs, rfl, h1, h2, rfl⟩ := pV_spec h
  exact ev_putF hd hq hini hf hfit h1 h2 kk
theorem vp_in_mk {i : Int32} {n : Nat} (h : i.toNatClampNeg < n ∧ ¬ i < 0) : vp_in i n := fun z => by rcases z with z | z; exact h.2 z; omega
theorem ev_aL {i x : Int32} (hd : decode M.2.1 pc = .ok (.iaload, 1)) (h : aL w o i = some x) (hq : pc + 1 = q) (kk : mEv X M d r w' q L (vi x :: st) w) : mEv X M d r w' pc L (vi i :: vr o :: st) w := by
  unfold aL at h
  split at h
  · cases h
  · rename_i c hc
    obtain ⟨a, rfl, h1⟩ := aG_spec hc
    split at h
    · rename_i hi
      cases h
      exact ev_iaload hd hq h1 (vp_in_mk hi) kk
    · cases h
theorem ev_rL {i : Int32} {x : Option Nat} (hd : decode M.2.1 pc = .ok (.aaload, 1)) (h : rL w o i = some x) (hq : pc + 1 = q) (kk : mEv X M d r w' q L (vr x :: st) w) : mEv X M d r w' pc L (vi i :: vr o :: st) w := by
  unfold rL at h
  split at h
  · cases h
  · rename_i c hc
    obtain ⟨a, rfl, h1⟩ := rG_spec hc
    split at h
    · rename_i hi
      cases h
      exact ev_aaload hd hq h1 (vp_in_mk hi) kk
    · cases h
theorem ev_aN {x : Int32} (hd : decode M.2.1 pc = .ok (.arraylength, 1)) (h : aN w o = some x) (hq : pc + 1 = q) (kk : mEv X M d r w' q L (vi x :: st) w) : mEv X M d r w' pc L (vr o :: st) w := by
  obtain ⟨c, hc, rfl⟩ := Option.map_eq_some_iff.mp h
  obtain ⟨a, rfl, h1⟩ := aG_spec hc
  exact ev_alen hd hq h1 rfl kk
theorem ev_rN {x : Int32} (hd : decode M.2.1 pc = .ok (.arraylength, 1)) (h : rN w o = some x) (hq : pc + 1 = q) (kk : mEv X M d r w' q L (vi x :: st) w) : mEv X M d r w' pc L (vr o :: st) w := by
  obtain ⟨c, hc, rfl⟩ := Option.map_eq_some_iff.mp h
  obtain ⟨a, rfl, h1⟩ := rG_spec hc
  exact ev_alenq hd hq h1 rfl kk
theorem ev_aS {i x : Int32} {w2 : mW} (hd : decode M.2.1 pc = .ok (.iastore, 1)) (h : aS w o i x = some w2) (hq : pc + 1 = q) (kk : mEv X M d r w' q L st w2) : mEv X M d r w' pc L (vi x :: vi i :: vr o :: st) w := by
  unfold aS at h
  split at h
  · cases h
  · rename_i c hc
    obtain ⟨a, rfl, h1⟩ := aG_spec hc
    split at h
    · rename_i hi
      cases h
      exact ev_iastore hd hq h1 (vp_in_mk hi) kk
    · cases h
theorem ev_rS {i : Int32} {x : Option Nat} {w2 : mW} (hd : decode M.2.1 pc = .ok (.aastore, 1)) (h0 : Cond.castable "PancakePort$Lacy" "PancakePort$Tosser" ∈ mNw) (h9 : Cond.castable "PancakePort$Wide" "PancakePort$Tosser" ∈ mNw) (h7 : Cond.castable "PancakePort$Thrifty" "PancakePort$Tosser" ∈ mNw) (h11 : Cond.castable "PancakePort$Mayor" "PancakePort$Tosser" ∈ mNw) (h : rS w o i x = some w2) (hq : pc + 1 = q) (kk : mEv X M d r w' q L st w2) : mEv X M d r w' pc L (vr x :: vi i :: vr o :: st) w := by
  unfold rS at h
  split at h
  · cases h
  · rename_i c hc
    obtain ⟨a, rfl, h1⟩ := rG_spec hc
    split at h
    · cases h
    · rename_i t ht
      obtain ⟨b, fs, rfl, h2, hci⟩ := tO_spec ht
      split at h
      · rename_i hi
        cases h
        rcases hci with rfl | rfl | rfl | rfl | rfl
        · exact ev_aastore (C1 := RX8) hd hq h1 (vp_in_mk hi) h2 rfl (Or.inr rfl) kk
        · exact ev_aastore (C1 := RX0) hd hq h1 (vp_in_mk hi) h2 rfl (Or.inl h0) kk
        · exact ev_aastore (C1 := RX9) hd hq h1 (vp_in_mk hi) h2 rfl (Or.inl h9) kk
        · exact ev_aastore (C1 := RX7) hd hq h1 (vp_in_mk hi) h2 rfl (Or.inl h7) kk
        · exact ev_aastore (C1 := RX1) hd hq h1 (vp_in_mk hi) h2 rfl (Or.inl h11) kk
      · cases h
theorem ev_iO {v : Int32} {t : Nat} {C2 : String} (hd : decode M.2.1 pc = .ok (.instanceof idx, 3)) (hl : Cond.classLink M.1.cls idx C2 ∈ mWS) (ht : (t, C2) ∈ ([(0, RX0), (9, RX9), (7, RX7), (1, RX1)] : List (Nat × String))) (hmw : Cond.castable "PancakePort$Mayor" "PancakePort$Wide" ∈ mNw) (h : iO w o t = some v) (hq : pc + 3 = q) (kk : mEv X M d r w' q L (vi v :: st) w) : mEv X M d r w' pc L (vr o :: st) w := by
  unfold iO at h
  split at h
  · cases h
    exact ev_instN hd hq kk
  · obtain ⟨c, hc, rfl⟩ := Option.map_eq_some_iff.mp h
    obtain ⟨b, fs, e, h2, hci⟩ := tO_spec hc
    cases e
    simp only [List.mem_cons, List.not_mem_nil, or_false, Prod.mk.injEq] at ht
    rcases ht with ⟨rfl, rfl⟩ | ⟨rfl, rfl⟩ | ⟨rfl, rfl⟩ | ⟨rfl, rfl⟩ <;> rcases hci with rfl | rfl | rfl | rfl | rfl
    all_goals first
      | exact ev_inst1 hd hq hl h2 rfl (Or.inr rfl) kk
      | exact ev_inst0 hd hq hl h2 rfl (by decide) kk
      | exact ev_inst1 hd hq hl h2 rfl (Or.inl hmw) kk
end EV4
end
