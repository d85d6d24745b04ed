section
-- ===== PART A: goes FIRST, ahead of the names: the tables' words, and 'selects' of the private methods out of them =====
/-- a private method of a class that the tables say can be made, by its rows of tables_1 -/
def lw_okq (q : MethodName × Nat) : Prop := (q.1.cls ≠ "java/lang/invoke/MethodHandle" ∧ q.1.cls ≠ "java/lang/invoke/VarHandle") ∧ Cond.instantiable q.1.cls q.2 ∈ tables_1 ∧ Cond.privateMethod q.1 ∈ tables_1 ∧ Cond.instanceMethod q.1 ∈ tables_1
theorem lw_p0 : lw_okq (⟨"ElevenPaces", "textOf", "(I)LElevenPaces$Text;"⟩, 12) := ⟨⟨by decide +kernel, by decide +kernel⟩, List.mem_of_getElem? (i := 17) (by decide +kernel), List.mem_of_getElem? (i := 320) (by decide +kernel), List.mem_of_getElem? (i := 321) (by decide +kernel)⟩
theorem lw_p1 : lw_okq (⟨"ElevenPaces", "takeIn", "(I)V"⟩, 12) := ⟨⟨by decide +kernel, by decide +kernel⟩, List.mem_of_getElem? (i := 17) (by decide +kernel), List.mem_of_getElem? (i := 333) (by decide +kernel), List.mem_of_getElem? (i := 334) (by decide +kernel)⟩
theorem lw_p2 : lw_okq (⟨"ElevenPaces$Crowd", "place", "(LElevenPaces$Text;I)V"⟩, 7) := ⟨⟨by decide +kernel, by decide +kernel⟩, List.mem_of_getElem? (i := 42) (by decide +kernel), List.mem_of_getElem? (i := 364) (by decide +kernel), List.mem_of_getElem? (i := 365) (by decide +kernel)⟩
theorem lw_p3 : lw_okq (⟨"ElevenPaces$Fair", "faultOf", "(LElevenPaces$Text;I)I"⟩, 5) := ⟨⟨by decide +kernel, by decide +kernel⟩, List.mem_of_getElem? (i := 106) (by decide +kernel), List.mem_of_getElem? (i := 373) (by decide +kernel), List.mem_of_getElem? (i := 374) (by decide +kernel)⟩
theorem lw_p4 : lw_okq (⟨"ElevenPaces", "isPerson", "(I)Z"⟩, 12) := ⟨⟨by decide +kernel, by decide +kernel⟩, List.mem_of_getElem? (i := 17) (by decide +kernel), List.mem_of_getElem? (i := 407) (by decide +kernel), List.mem_of_getElem? (i := 408) (by decide +kernel)⟩
theorem lw_p5 : lw_okq (⟨"ElevenPaces", "goes", "(II)Z"⟩, 12) := ⟨⟨by decide +kernel, by decide +kernel⟩, List.mem_of_getElem? (i := 17) (by decide +kernel), List.mem_of_getElem? (i := 416) (by decide +kernel), List.mem_of_getElem? (i := 417) (by decide +kernel)⟩
theorem lw_p6 : lw_okq (⟨"ElevenPaces", "found", "(I)I"⟩, 12) := ⟨⟨by decide +kernel, by decide +kernel⟩, List.mem_of_getElem? (i := 17) (by decide +kernel), List.mem_of_getElem? (i := 449) (by decide +kernel), List.mem_of_getElem? (i := 450) (by decide +kernel)⟩
theorem lw_p7 : lw_okq (⟨"ElevenPaces", "areTwo", "(II)Z"⟩, 12) := ⟨⟨by decide +kernel, by decide +kernel⟩, List.mem_of_getElem? (i := 17) (by decide +kernel), List.mem_of_getElem? (i := 470) (by decide +kernel), List.mem_of_getElem? (i := 471) (by decide +kernel)⟩
theorem lw_p8 : lw_okq (⟨"ElevenPaces$Market", "verdictBy", "(I[IIII)I"⟩, 2) := ⟨⟨by decide +kernel, by decide +kernel⟩, List.mem_of_getElem? (i := 88) (by decide +kernel), List.mem_of_getElem? (i := 482) (by decide +kernel), List.mem_of_getElem? (i := 483) (by decide +kernel)⟩
theorem lw_p9 : lw_okq (⟨"ElevenPaces$Crowd", "sellsTo", "(II)Z"⟩, 7) := ⟨⟨by decide +kernel, by decide +kernel⟩, List.mem_of_getElem? (i := 42) (by decide +kernel), List.mem_of_getElem? (i := 491) (by decide +kernel), List.mem_of_getElem? (i := 492) (by decide +kernel)⟩
theorem lw_p10 : lw_okq (⟨"ElevenPaces$Match", "choose", "(IIII)V"⟩, 6) := ⟨⟨by decide +kernel, by decide +kernel⟩, List.mem_of_getElem? (i := 161) (by decide +kernel), List.mem_of_getElem? (i := 516) (by decide +kernel), List.mem_of_getElem? (i := 517) (by decide +kernel)⟩
theorem lw_p11 : lw_okq (⟨"ElevenPaces$Match", "keepIfBetter", "(II)V"⟩, 6) := ⟨⟨by decide +kernel, by decide +kernel⟩, List.mem_of_getElem? (i := 161) (by decide +kernel), List.mem_of_getElem? (i := 520) (by decide +kernel), List.mem_of_getElem? (i := 521) (by decide +kernel)⟩
theorem lw_p12 : lw_okq (⟨"ElevenPaces$Trial", "strikes", "(II)Z"⟩, 6) := ⟨⟨by decide +kernel, by decide +kernel⟩, List.mem_of_getElem? (i := 135) (by decide +kernel), List.mem_of_getElem? (i := 540) (by decide +kernel), List.mem_of_getElem? (i := 541) (by decide +kernel)⟩
theorem lw_p13 : lw_okq (⟨"ElevenPaces$Trial", "moves", "(II)Z"⟩, 6) := ⟨⟨by decide +kernel, by decide +kernel⟩, List.mem_of_getElem? (i := 135) (by decide +kernel), List.mem_of_getElem? (i := 546) (by decide +kernel), List.mem_of_getElem? (i := 547) (by decide +kernel)⟩
theorem lw_p14 : lw_okq (⟨"ElevenPaces$Walk", "queueGoals", "(III)V"⟩, 5) := ⟨⟨by decide +kernel, by decide +kernel⟩, List.mem_of_getElem? (i := 189) (by decide +kernel), List.mem_of_getElem? (i := 572) (by decide +kernel), List.mem_of_getElem? (i := 573) (by decide +kernel)⟩
theorem lw_p15 : lw_okq (⟨"ElevenPaces$Walk", "isOpen", "(III)Z"⟩, 5) := ⟨⟨by decide +kernel, by decide +kernel⟩, List.mem_of_getElem? (i := 189) (by decide +kernel), List.mem_of_getElem? (i := 577) (by decide +kernel), List.mem_of_getElem? (i := 578) (by decide +kernel)⟩
def lw_privs_1 : List (MethodName × Nat) := [(⟨"ElevenPaces", "textOf", "(I)LElevenPaces$Text;"⟩, 12), (⟨"ElevenPaces", "takeIn", "(I)V"⟩, 12), (⟨"ElevenPaces$Crowd", "place", "(LElevenPaces$Text;I)V"⟩, 7), (⟨"ElevenPaces$Fair", "faultOf", "(LElevenPaces$Text;I)I"⟩, 5), (⟨"ElevenPaces", "isPerson", "(I)Z"⟩, 12), (⟨"ElevenPaces", "goes", "(II)Z"⟩, 12), (⟨"ElevenPaces", "found", "(I)I"⟩, 12), (⟨"ElevenPaces", "areTwo", "(II)Z"⟩, 12), (⟨"ElevenPaces$Market", "verdictBy", "(I[IIII)I"⟩, 2), (⟨"ElevenPaces$Crowd", "sellsTo", "(II)Z"⟩, 7), (⟨"ElevenPaces$Match", "choose", "(IIII)V"⟩, 6), (⟨"ElevenPaces$Match", "keepIfBetter", "(II)V"⟩, 6), (⟨"ElevenPaces$Trial", "strikes", "(II)Z"⟩, 6), (⟨"ElevenPaces$Trial", "moves", "(II)Z"⟩, 6), (⟨"ElevenPaces$Walk", "queueGoals", "(III)V"⟩, 5), (⟨"ElevenPaces$Walk", "isOpen", "(III)Z"⟩, 5)]
theorem lw_r1 : ∀ q ∈ lw_privs_1, lw_okq q := List.forall_mem_cons.mpr ⟨lw_p0, List.forall_mem_cons.mpr ⟨lw_p1, List.forall_mem_cons.mpr ⟨lw_p2, List.forall_mem_cons.mpr ⟨lw_p3, List.forall_mem_cons.mpr ⟨lw_p4, List.forall_mem_cons.mpr ⟨lw_p5, List.forall_mem_cons.mpr ⟨lw_p6, List.forall_mem_cons.mpr ⟨lw_p7, List.forall_mem_cons.mpr ⟨lw_p8, List.forall_mem_cons.mpr ⟨lw_p9, List.forall_mem_cons.mpr ⟨lw_p10, List.forall_mem_cons.mpr ⟨lw_p11, List.forall_mem_cons.mpr ⟨lw_p12, List.forall_mem_cons.mpr ⟨lw_p13, List.forall_mem_cons.mpr ⟨lw_p14, List.forall_mem_cons.mpr ⟨lw_p15, fun _ h => absurd h List.not_mem_nil⟩⟩⟩⟩⟩⟩⟩⟩⟩⟩⟩⟩⟩⟩⟩⟩
theorem lw_p16 : lw_okq (⟨"ElevenPaces$Walk", "enqueue", "(II)V"⟩, 5) := ⟨⟨by decide +kernel, by decide +kernel⟩, List.mem_of_getElem? (i := 189) (by decide +kernel), List.mem_of_getElem? (i := 582) (by decide +kernel), List.mem_of_getElem? (i := 583) (by decide +kernel)⟩
theorem lw_p17 : lw_okq (⟨"ElevenPaces$Walk", "queueNeighbours", "(III)V"⟩, 5) := ⟨⟨by decide +kernel, by decide +kernel⟩, List.mem_of_getElem? (i := 189) (by decide +kernel), List.mem_of_getElem? (i := 586) (by decide +kernel), List.mem_of_getElem? (i := 587) (by decide +kernel)⟩
theorem lw_p18 : lw_okq (⟨"ElevenPaces$Walk", "leastDirection", "(I)I"⟩, 5) := ⟨⟨by decide +kernel, by decide +kernel⟩, List.mem_of_getElem? (i := 189) (by decide +kernel), List.mem_of_getElem? (i := 599) (by decide +kernel), List.mem_of_getElem? (i := 600) (by decide +kernel)⟩
theorem lw_p19 : lw_okq (⟨"ElevenPaces$Market", "isHinderedBy", "(III)Z"⟩, 2) := ⟨⟨by decide +kernel, by decide +kernel⟩, List.mem_of_getElem? (i := 88) (by decide +kernel), List.mem_of_getElem? (i := 611) (by decide +kernel), List.mem_of_getElem? (i := 612) (by decide +kernel)⟩
theorem lw_p20 : lw_okq (⟨"ElevenPaces$Posts", "isCommon", "(IIII)Z"⟩, 2) := ⟨⟨by decide +kernel, by decide +kernel⟩, List.mem_of_getElem? (i := 211) (by decide +kernel), List.mem_of_getElem? (i := 676) (by decide +kernel), List.mem_of_getElem? (i := 677) (by decide +kernel)⟩
theorem lw_p21 : lw_okq (⟨"ElevenPaces$Stall", "profitOn", "(I)I"⟩, 6) := ⟨⟨by decide +kernel, by decide +kernel⟩, List.mem_of_getElem? (i := 225) (by decide +kernel), List.mem_of_getElem? (i := 693) (by decide +kernel), List.mem_of_getElem? (i := 694) (by decide +kernel)⟩
theorem lw_p22 : lw_okq (⟨"ElevenPaces$Stall", "ask", "(III)V"⟩, 6) := ⟨⟨by decide +kernel, by decide +kernel⟩, List.mem_of_getElem? (i := 225) (by decide +kernel), List.mem_of_getElem? (i := 700) (by decide +kernel), List.mem_of_getElem? (i := 701) (by decide +kernel)⟩
theorem lw_p23 : lw_okq (⟨"ElevenPaces$Stall", "margins", "()I"⟩, 6) := ⟨⟨by decide +kernel, by decide +kernel⟩, List.mem_of_getElem? (i := 225) (by decide +kernel), List.mem_of_getElem? (i := 705) (by decide +kernel), List.mem_of_getElem? (i := 706) (by decide +kernel)⟩
theorem lw_p24 : lw_okq (⟨"ElevenPaces", "mixedPerson", "(JI)J"⟩, 12) := ⟨⟨by decide +kernel, by decide +kernel⟩, List.mem_of_getElem? (i := 17) (by decide +kernel), List.mem_of_getElem? (i := 779) (by decide +kernel), List.mem_of_getElem? (i := 780) (by decide +kernel)⟩
theorem lw_p25 : lw_okq (⟨"ElevenPacesModel", "stands", "()V"⟩, 32) := ⟨⟨by decide +kernel, by decide +kernel⟩, List.mem_of_getElem? (i := 785) (by decide +kernel), List.mem_of_getElem? (i := 898) (by decide +kernel), List.mem_of_getElem? (i := 899) (by decide +kernel)⟩
theorem lw_p26 : lw_okq (⟨"ElevenPacesModel", "peopleFault", "()I"⟩, 32) := ⟨⟨by decide +kernel, by decide +kernel⟩, List.mem_of_getElem? (i := 785) (by decide +kernel), List.mem_of_getElem? (i := 902) (by decide +kernel), List.mem_of_getElem? (i := 903) (by decide +kernel)⟩
theorem lw_p27 : lw_okq (⟨"ElevenPacesModel", "reads", "()I"⟩, 32) := ⟨⟨by decide +kernel, by decide +kernel⟩, List.mem_of_getElem? (i := 785) (by decide +kernel), List.mem_of_getElem? (i := 906) (by decide +kernel), List.mem_of_getElem? (i := 907) (by decide +kernel)⟩
theorem lw_p28 : lw_okq (⟨"ElevenPacesModel", "byteAt", "(II)I"⟩, 32) := ⟨⟨by decide +kernel, by decide +kernel⟩, List.mem_of_getElem? (i := 785) (by decide +kernel), List.mem_of_getElem? (i := 910) (by decide +kernel), List.mem_of_getElem? (i := 911) (by decide +kernel)⟩
theorem lw_p29 : lw_okq (⟨"ElevenPacesModel", "pairAt", "(I)I"⟩, 32) := ⟨⟨by decide +kernel, by decide +kernel⟩, List.mem_of_getElem? (i := 785) (by decide +kernel), List.mem_of_getElem? (i := 914) (by decide +kernel), List.mem_of_getElem? (i := 915) (by decide +kernel)⟩
theorem lw_p30 : lw_okq (⟨"ElevenPacesModel", "isFigure", "(I)Z"⟩, 32) := ⟨⟨by decide +kernel, by decide +kernel⟩, List.mem_of_getElem? (i := 785) (by decide +kernel), List.mem_of_getElem? (i := 918) (by decide +kernel), List.mem_of_getElem? (i := 919) (by decide +kernel)⟩
theorem lw_p31 : lw_okq (⟨"ElevenPacesModel", "faultOf", "(I)I"⟩, 32) := ⟨⟨by decide +kernel, by decide +kernel⟩, List.mem_of_getElem? (i := 785) (by decide +kernel), List.mem_of_getElem? (i := 930) (by decide +kernel), List.mem_of_getElem? (i := 931) (by decide +kernel)⟩
def lw_privs_2 : List (MethodName × Nat) := [(⟨"ElevenPaces$Walk", "enqueue", "(II)V"⟩, 5), (⟨"ElevenPaces$Walk", "queueNeighbours", "(III)V"⟩, 5), (⟨"ElevenPaces$Walk", "leastDirection", "(I)I"⟩, 5), (⟨"ElevenPaces$Market", "isHinderedBy", "(III)Z"⟩, 2), (⟨"ElevenPaces$Posts", "isCommon", "(IIII)Z"⟩, 2), (⟨"ElevenPaces$Stall", "profitOn", "(I)I"⟩, 6), (⟨"ElevenPaces$Stall", "ask", "(III)V"⟩, 6), (⟨"ElevenPaces$Stall", "margins", "()I"⟩, 6), (⟨"ElevenPaces", "mixedPerson", "(JI)J"⟩, 12), (⟨"ElevenPacesModel", "stands", "()V"⟩, 32), (⟨"ElevenPacesModel", "peopleFault", "()I"⟩, 32), (⟨"ElevenPacesModel", "reads", "()I"⟩, 32), (⟨"ElevenPacesModel", "byteAt", "(II)I"⟩, 32), (⟨"ElevenPacesModel", "pairAt", "(I)I"⟩, 32), (⟨"ElevenPacesModel", "isFigure", "(I)Z"⟩, 32), (⟨"ElevenPacesModel", "faultOf", "(I)I"⟩, 32)]
theorem lw_r2 : ∀ q ∈ lw_privs_2, lw_okq q := List.forall_mem_cons.mpr ⟨lw_p16, List.forall_mem_cons.mpr ⟨lw_p17, List.forall_mem_cons.mpr ⟨lw_p18, List.forall_mem_cons.mpr ⟨lw_p19, List.forall_mem_cons.mpr ⟨lw_p20, List.forall_mem_cons.mpr ⟨lw_p21, List.forall_mem_cons.mpr ⟨lw_p22, List.forall_mem_cons.mpr ⟨lw_p23, List.forall_mem_cons.mpr ⟨lw_p24, List.forall_mem_cons.mpr ⟨lw_p25, List.forall_mem_cons.mpr ⟨lw_p26, List.forall_mem_cons.mpr ⟨lw_p27, List.forall_mem_cons.mpr ⟨lw_p28, List.forall_mem_cons.mpr ⟨lw_p29, List.forall_mem_cons.mpr ⟨lw_p30, List.forall_mem_cons.mpr ⟨lw_p31, fun _ h => absurd h List.not_mem_nil⟩⟩⟩⟩⟩⟩⟩⟩⟩⟩⟩⟩⟩⟩⟩⟩
theorem lw_p32 : lw_okq (⟨"ElevenPacesModel", "fairFault", "()I"⟩, 32) := ⟨⟨by decide +kernel, by decide +kernel⟩, List.mem_of_getElem? (i := 785) (by decide +kernel), List.mem_of_getElem? (i := 934) (by decide +kernel), List.mem_of_getElem? (i := 935) (by decide +kernel)⟩
theorem lw_p33 : lw_okq (⟨"ElevenPacesModel", "isPerson", "(I)Z"⟩, 32) := ⟨⟨by decide +kernel, by decide +kernel⟩, List.mem_of_getElem? (i := 785) (by decide +kernel), List.mem_of_getElem? (i := 946) (by decide +kernel), List.mem_of_getElem? (i := 947) (by decide +kernel)⟩
theorem lw_p34 : lw_okq (⟨"ElevenPacesModel", "peopleNow", "()I"⟩, 32) := ⟨⟨by decide +kernel, by decide +kernel⟩, List.mem_of_getElem? (i := 785) (by decide +kernel), List.mem_of_getElem? (i := 950) (by decide +kernel), List.mem_of_getElem? (i := 951) (by decide +kernel)⟩
theorem lw_p35 : lw_okq (⟨"ElevenPacesModel", "personOf", "(II)I"⟩, 32) := ⟨⟨by decide +kernel, by decide +kernel⟩, List.mem_of_getElem? (i := 785) (by decide +kernel), List.mem_of_getElem? (i := 954) (by decide +kernel), List.mem_of_getElem? (i := 955) (by decide +kernel)⟩
theorem lw_p36 : lw_okq (⟨"ElevenPacesModel", "steps", "(II)Z"⟩, 32) := ⟨⟨by decide +kernel, by decide +kernel⟩, List.mem_of_getElem? (i := 785) (by decide +kernel), List.mem_of_getElem? (i := 962) (by decide +kernel), List.mem_of_getElem? (i := 963) (by decide +kernel)⟩
theorem lw_p37 : lw_okq (⟨"ElevenPacesModel", "lays", "()V"⟩, 32) := ⟨⟨by decide +kernel, by decide +kernel⟩, List.mem_of_getElem? (i := 785) (by decide +kernel), List.mem_of_getElem? (i := 966) (by decide +kernel), List.mem_of_getElem? (i := 967) (by decide +kernel)⟩
theorem lw_p38 : lw_okq (⟨"ElevenPacesModel", "isFree", "(II)Z"⟩, 32) := ⟨⟨by decide +kernel, by decide +kernel⟩, List.mem_of_getElem? (i := 785) (by decide +kernel), List.mem_of_getElem? (i := 973) (by decide +kernel), List.mem_of_getElem? (i := 974) (by decide +kernel)⟩
theorem lw_p39 : lw_okq (⟨"ElevenPacesModel", "meets", "(I)I"⟩, 32) := ⟨⟨by decide +kernel, by decide +kernel⟩, List.mem_of_getElem? (i := 785) (by decide +kernel), List.mem_of_getElem? (i := 987) (by decide +kernel), List.mem_of_getElem? (i := 988) (by decide +kernel)⟩
theorem lw_p40 : lw_okq (⟨"ElevenPacesModel", "areTwo", "(II)Z"⟩, 32) := ⟨⟨by decide +kernel, by decide +kernel⟩, List.mem_of_getElem? (i := 785) (by decide +kernel), List.mem_of_getElem? (i := 1003) (by decide +kernel), List.mem_of_getElem? (i := 1004) (by decide +kernel)⟩
theorem lw_p41 : lw_okq (⟨"ElevenPacesModel", "bindsBy", "(IIII)I"⟩, 32) := ⟨⟨by decide +kernel, by decide +kernel⟩, List.mem_of_getElem? (i := 785) (by decide +kernel), List.mem_of_getElem? (i := 1007) (by decide +kernel), List.mem_of_getElem? (i := 1008) (by decide +kernel)⟩
theorem lw_p42 : lw_okq (⟨"ElevenPacesModel", "nearer", "(III)I"⟩, 32) := ⟨⟨by decide +kernel, by decide +kernel⟩, List.mem_of_getElem? (i := 785) (by decide +kernel), List.mem_of_getElem? (i := 1011) (by decide +kernel), List.mem_of_getElem? (i := 1012) (by decide +kernel)⟩
theorem lw_p43 : lw_okq (⟨"ElevenPacesModel", "worthOf", "(II)I"⟩, 32) := ⟨⟨by decide +kernel, by decide +kernel⟩, List.mem_of_getElem? (i := 785) (by decide +kernel), List.mem_of_getElem? (i := 1015) (by decide +kernel), List.mem_of_getElem? (i := 1016) (by decide +kernel)⟩
theorem lw_p44 : lw_okq (⟨"ElevenPacesModel", "buyer", "(II)I"⟩, 32) := ⟨⟨by decide +kernel, by decide +kernel⟩, List.mem_of_getElem? (i := 785) (by decide +kernel), List.mem_of_getElem? (i := 1019) (by decide +kernel), List.mem_of_getElem? (i := 1020) (by decide +kernel)⟩
theorem lw_p45 : lw_okq (⟨"ElevenPacesModel", "isBound", "(II)Z"⟩, 32) := ⟨⟨by decide +kernel, by decide +kernel⟩, List.mem_of_getElem? (i := 785) (by decide +kernel), List.mem_of_getElem? (i := 1023) (by decide +kernel), List.mem_of_getElem? (i := 1024) (by decide +kernel)⟩
theorem lw_p46 : lw_okq (⟨"ElevenPacesModel", "pairsNow", "()I"⟩, 32) := ⟨⟨by decide +kernel, by decide +kernel⟩, List.mem_of_getElem? (i := 785) (by decide +kernel), List.mem_of_getElem? (i := 1031) (by decide +kernel), List.mem_of_getElem? (i := 1032) (by decide +kernel)⟩
theorem lw_p47 : lw_okq (⟨"ElevenPacesModel", "pairsBy", "(I)I"⟩, 32) := ⟨⟨by decide +kernel, by decide +kernel⟩, List.mem_of_getElem? (i := 785) (by decide +kernel), List.mem_of_getElem? (i := 1035) (by decide +kernel), List.mem_of_getElem? (i := 1036) (by decide +kernel)⟩
def lw_privs_3 : List (MethodName × Nat) := [(⟨"ElevenPacesModel", "fairFault", "()I"⟩, 32), (⟨"ElevenPacesModel", "isPerson", "(I)Z"⟩, 32), (⟨"ElevenPacesModel", "peopleNow", "()I"⟩, 32), (⟨"ElevenPacesModel", "personOf", "(II)I"⟩, 32), (⟨"ElevenPacesModel", "steps", "(II)Z"⟩, 32), (⟨"ElevenPacesModel", "lays", "()V"⟩, 32), (⟨"ElevenPacesModel", "isFree", "(II)Z"⟩, 32), (⟨"ElevenPacesModel", "meets", "(I)I"⟩, 32), (⟨"ElevenPacesModel", "areTwo", "(II)Z"⟩, 32), (⟨"ElevenPacesModel", "bindsBy", "(IIII)I"⟩, 32), (⟨"ElevenPacesModel", "nearer", "(III)I"⟩, 32), (⟨"ElevenPacesModel", "worthOf", "(II)I"⟩, 32), (⟨"ElevenPacesModel", "buyer", "(II)I"⟩, 32), (⟨"ElevenPacesModel", "isBound", "(II)Z"⟩, 32), (⟨"ElevenPacesModel", "pairsNow", "()I"⟩, 32), (⟨"ElevenPacesModel", "pairsBy", "(I)I"⟩, 32)]
theorem lw_r3 : ∀ q ∈ lw_privs_3, lw_okq q := List.forall_mem_cons.mpr ⟨lw_p32, List.forall_mem_cons.mpr ⟨lw_p33, List.forall_mem_cons.mpr ⟨lw_p34, List.forall_mem_cons.mpr ⟨lw_p35, List.forall_mem_cons.mpr ⟨lw_p36, List.forall_mem_cons.mpr ⟨lw_p37, List.forall_mem_cons.mpr ⟨lw_p38, List.forall_mem_cons.mpr ⟨lw_p39, List.forall_mem_cons.mpr ⟨lw_p40, List.forall_mem_cons.mpr ⟨lw_p41, List.forall_mem_cons.mpr ⟨lw_p42, List.forall_mem_cons.mpr ⟨lw_p43, List.forall_mem_cons.mpr ⟨lw_p44, List.forall_mem_cons.mpr ⟨lw_p45, List.forall_mem_cons.mpr ⟨lw_p46, List.forall_mem_cons.mpr ⟨lw_p47, fun _ h => absurd h List.not_mem_nil⟩⟩⟩⟩⟩⟩⟩⟩⟩⟩⟩⟩⟩⟩⟩⟩
theorem lw_p48 : lw_okq (⟨"ElevenPacesModel", "onceOf", "(I)I"⟩, 32) := ⟨⟨by decide +kernel, by decide +kernel⟩, List.mem_of_getElem? (i := 785) (by decide +kernel), List.mem_of_getElem? (i := 1043) (by decide +kernel), List.mem_of_getElem? (i := 1044) (by decide +kernel)⟩
theorem lw_p49 : lw_okq (⟨"ElevenPacesModel", "laysOnce", "()V"⟩, 32) := ⟨⟨by decide +kernel, by decide +kernel⟩, List.mem_of_getElem? (i := 785) (by decide +kernel), List.mem_of_getElem? (i := 1047) (by decide +kernel), List.mem_of_getElem? (i := 1048) (by decide +kernel)⟩
theorem lw_p50 : lw_okq (⟨"ElevenPacesModel", "worthNow", "()I"⟩, 32) := ⟨⟨by decide +kernel, by decide +kernel⟩, List.mem_of_getElem? (i := 785) (by decide +kernel), List.mem_of_getElem? (i := 1059) (by decide +kernel), List.mem_of_getElem? (i := 1060) (by decide +kernel)⟩
theorem lw_p51 : lw_okq (⟨"ElevenPacesModel", "judgedOf", "(I)I"⟩, 32) := ⟨⟨by decide +kernel, by decide +kernel⟩, List.mem_of_getElem? (i := 785) (by decide +kernel), List.mem_of_getElem? (i := 1067) (by decide +kernel), List.mem_of_getElem? (i := 1068) (by decide +kernel)⟩
theorem lw_p52 : lw_okq (⟨"ElevenPacesModel", "judges", "()V"⟩, 32) := ⟨⟨by decide +kernel, by decide +kernel⟩, List.mem_of_getElem? (i := 785) (by decide +kernel), List.mem_of_getElem? (i := 1071) (by decide +kernel), List.mem_of_getElem? (i := 1072) (by decide +kernel)⟩
theorem lw_p53 : lw_okq (⟨"ElevenPacesModel", "endsOf", "(I)I"⟩, 32) := ⟨⟨by decide +kernel, by decide +kernel⟩, List.mem_of_getElem? (i := 785) (by decide +kernel), List.mem_of_getElem? (i := 1079) (by decide +kernel), List.mem_of_getElem? (i := 1080) (by decide +kernel)⟩
theorem lw_p54 : lw_okq (⟨"ElevenPacesModel", "comesOf", "(II)I"⟩, 32) := ⟨⟨by decide +kernel, by decide +kernel⟩, List.mem_of_getElem? (i := 785) (by decide +kernel), List.mem_of_getElem? (i := 1087) (by decide +kernel), List.mem_of_getElem? (i := 1088) (by decide +kernel)⟩
theorem lw_p55 : lw_okq (⟨"ElevenPacesModel", "laysFar", "(II)V"⟩, 32) := ⟨⟨by decide +kernel, by decide +kernel⟩, List.mem_of_getElem? (i := 785) (by decide +kernel), List.mem_of_getElem? (i := 1091) (by decide +kernel), List.mem_of_getElem? (i := 1092) (by decide +kernel)⟩
theorem lw_p56 : lw_okq (⟨"ElevenPacesModel", "hindersOf", "(II)I"⟩, 32) := ⟨⟨by decide +kernel, by decide +kernel⟩, List.mem_of_getElem? (i := 785) (by decide +kernel), List.mem_of_getElem? (i := 1103) (by decide +kernel), List.mem_of_getElem? (i := 1104) (by decide +kernel)⟩
theorem lw_p57 : lw_okq (⟨"ElevenPacesModel", "seesNow", "()I"⟩, 32) := ⟨⟨by decide +kernel, by decide +kernel⟩, List.mem_of_getElem? (i := 785) (by decide +kernel), List.mem_of_getElem? (i := 1119) (by decide +kernel), List.mem_of_getElem? (i := 1120) (by decide +kernel)⟩
theorem lw_p58 : lw_okq (⟨"ElevenPacesModel", "isDue", "(II)Z"⟩, 32) := ⟨⟨by decide +kernel, by decide +kernel⟩, List.mem_of_getElem? (i := 785) (by decide +kernel), List.mem_of_getElem? (i := 1123) (by decide +kernel), List.mem_of_getElem? (i := 1124) (by decide +kernel)⟩
theorem lw_p59 : lw_okq (⟨"ElevenPacesModel", "moreOf", "(I)I"⟩, 32) := ⟨⟨by decide +kernel, by decide +kernel⟩, List.mem_of_getElem? (i := 785) (by decide +kernel), List.mem_of_getElem? (i := 1131) (by decide +kernel), List.mem_of_getElem? (i := 1132) (by decide +kernel)⟩
theorem lw_p60 : lw_okq (⟨"ElevenPacesModel", "brokerOf", "(I)I"⟩, 32) := ⟨⟨by decide +kernel, by decide +kernel⟩, List.mem_of_getElem? (i := 785) (by decide +kernel), List.mem_of_getElem? (i := 1143) (by decide +kernel), List.mem_of_getElem? (i := 1144) (by decide +kernel)⟩
theorem lw_p61 : lw_okq (⟨"ElevenPacesModel", "brokes", "(I)I"⟩, 32) := ⟨⟨by decide +kernel, by decide +kernel⟩, List.mem_of_getElem? (i := 785) (by decide +kernel), List.mem_of_getElem? (i := 1147) (by decide +kernel), List.mem_of_getElem? (i := 1148) (by decide +kernel)⟩
theorem lw_p62 : lw_okq (⟨"ElevenPacesModel", "otherOf", "(III)I"⟩, 32) := ⟨⟨by decide +kernel, by decide +kernel⟩, List.mem_of_getElem? (i := 785) (by decide +kernel), List.mem_of_getElem? (i := 1155) (by decide +kernel), List.mem_of_getElem? (i := 1156) (by decide +kernel)⟩
theorem lw_p63 : lw_okq (⟨"ElevenPacesModel", "lacks", "(III)I"⟩, 32) := ⟨⟨by decide +kernel, by decide +kernel⟩, List.mem_of_getElem? (i := 785) (by decide +kernel), List.mem_of_getElem? (i := 1171) (by decide +kernel), List.mem_of_getElem? (i := 1172) (by decide +kernel)⟩
def lw_privs_4 : List (MethodName × Nat) := [(⟨"ElevenPacesModel", "onceOf", "(I)I"⟩, 32), (⟨"ElevenPacesModel", "laysOnce", "()V"⟩, 32), (⟨"ElevenPacesModel", "worthNow", "()I"⟩, 32), (⟨"ElevenPacesModel", "judgedOf", "(I)I"⟩, 32), (⟨"ElevenPacesModel", "judges", "()V"⟩, 32), (⟨"ElevenPacesModel", "endsOf", "(I)I"⟩, 32), (⟨"ElevenPacesModel", "comesOf", "(II)I"⟩, 32), (⟨"ElevenPacesModel", "laysFar", "(II)V"⟩, 32), (⟨"ElevenPacesModel", "hindersOf", "(II)I"⟩, 32), (⟨"ElevenPacesModel", "seesNow", "()I"⟩, 32), (⟨"ElevenPacesModel", "isDue", "(II)Z"⟩, 32), (⟨"ElevenPacesModel", "moreOf", "(I)I"⟩, 32), (⟨"ElevenPacesModel", "brokerOf", "(I)I"⟩, 32), (⟨"ElevenPacesModel", "brokes", "(I)I"⟩, 32), (⟨"ElevenPacesModel", "otherOf", "(III)I"⟩, 32), (⟨"ElevenPacesModel", "lacks", "(III)I"⟩, 32)]
theorem lw_r4 : ∀ q ∈ lw_privs_4, lw_okq q := List.forall_mem_cons.mpr ⟨lw_p48, List.forall_mem_cons.mpr ⟨lw_p49, List.forall_mem_cons.mpr ⟨lw_p50, List.forall_mem_cons.mpr ⟨lw_p51, List.forall_mem_cons.mpr ⟨lw_p52, List.forall_mem_cons.mpr ⟨lw_p53, List.forall_mem_cons.mpr ⟨lw_p54, List.forall_mem_cons.mpr ⟨lw_p55, List.forall_mem_cons.mpr ⟨lw_p56, List.forall_mem_cons.mpr ⟨lw_p57, List.forall_mem_cons.mpr ⟨lw_p58, List.forall_mem_cons.mpr ⟨lw_p59, List.forall_mem_cons.mpr ⟨lw_p60, List.forall_mem_cons.mpr ⟨lw_p61, List.forall_mem_cons.mpr ⟨lw_p62, List.forall_mem_cons.mpr ⟨lw_p63, fun _ h => absurd h List.not_mem_nil⟩⟩⟩⟩⟩⟩⟩⟩⟩⟩⟩⟩⟩⟩⟩⟩
theorem lw_p64 : lw_okq (⟨"ElevenPacesModel", "keep", "(III)V"⟩, 32) := ⟨⟨by decide +kernel, by decide +kernel⟩, List.mem_of_getElem? (i := 785) (by decide +kernel), List.mem_of_getElem? (i := 1175) (by decide +kernel), List.mem_of_getElem? (i := 1176) (by decide +kernel)⟩
theorem lw_p65 : lw_okq (⟨"ElevenPacesModel", "partsNow", "()I"⟩, 32) := ⟨⟨by decide +kernel, by decide +kernel⟩, List.mem_of_getElem? (i := 785) (by decide +kernel), List.mem_of_getElem? (i := 1196) (by decide +kernel), List.mem_of_getElem? (i := 1197) (by decide +kernel)⟩
def lw_privs_5 : List (MethodName × Nat) := [(⟨"ElevenPacesModel", "keep", "(III)V"⟩, 32), (⟨"ElevenPacesModel", "partsNow", "()I"⟩, 32)]
theorem lw_r5 : ∀ q ∈ lw_privs_5, lw_okq q := List.forall_mem_cons.mpr ⟨lw_p64, List.forall_mem_cons.mpr ⟨lw_p65, fun _ h => absurd h List.not_mem_nil⟩⟩
def lw_privs : List (MethodName × Nat) := lw_privs_1 ++ (lw_privs_2 ++ (lw_privs_3 ++ (lw_privs_4 ++ (lw_privs_5))))
def lw_tbl : List Cond := k2_sels lw_privs ++ tables_1
theorem lw_privs_ok : ∀ q ∈ lw_privs, lw_okq q := by
  show ∀ q ∈ lw_privs_1 ++ (lw_privs_2 ++ (lw_privs_3 ++ (lw_privs_4 ++ (lw_privs_5)))), lw_okq q
  exact List.forall_mem_append.mpr ⟨lw_r1, List.forall_mem_append.mpr ⟨lw_r2, List.forall_mem_append.mpr ⟨lw_r3, List.forall_mem_append.mpr ⟨lw_r4, lw_r5⟩⟩⟩⟩
end
section
/-! ===== BEGIN printed: names, fields, word lists, decode rows ===== -/
def RX0 : String := "ElevenPaces$Crowd"
def TX0 : u_T := fun k => match k with
  | 0 => ("ElevenPaces$Crowd", "trade", "[I", true)
  | 1 => ("ElevenPaces$Crowd", "thing", "[I", true)
  | 2 => ("ElevenPaces$Crowd", "price", "[I", true)
  | 3 => ("ElevenPaces$Crowd", "homeSpot", "[I", true)
  | 4 => ("ElevenPaces$Crowd", "spot", "[I", true)
  | 5 => ("ElevenPaces$Crowd", "size", "I", false)
  | _ => ("ElevenPaces$Crowd", "fault", "I", false)
def tyX0 : Nat → FieldType := fun k => match k with
  | 0 => .array .int
  | 1 => .array .int
  | 2 => .array .int
  | 3 => .array .int
  | 4 => .array .int
  | 5 => .int
  | _ => .int
abbrev wsX00 : List Cond := u_ws RX0 TX0 7
theorem nmX0 : ∀ a, a < 7 → ∀ b, b < 7 → a ≠ b → (TX0 a).2.1 ≠ (TX0 b).2.1 := by decide +kernel
theorem tyX0_ok : ∀ k, k < 7 → parseFieldDescriptor (TX0 k).2.2.1 = some (tyX0 k) := by decide +kernel
abbrev cX0_init : ByteArray := prog_2_method_1_code
def yX0_init : MethodName := ⟨RX0, "<init>", "()V"⟩
abbrev cX0_tell : ByteArray := prog_2_method_2_code
def yX0_tell : MethodName := ⟨RX0, "tell", "(LElevenPaces$Text;)V"⟩
abbrev cX0_goHome : ByteArray := prog_2_method_3_code
def yX0_goHome : MethodName := ⟨RX0, "goHome", "()I"⟩
abbrev cX0_canTrade : ByteArray := prog_2_method_4_code
def yX0_canTrade : MethodName := ⟨RX0, "canTrade", "(II)Z"⟩
abbrev cX0_gain : ByteArray := prog_2_method_5_code
def yX0_gain : MethodName := ⟨RX0, "gain", "(II)I"⟩
abbrev cX0_sellsTo : ByteArray := prog_2_method_6_code
def yX0_sellsTo : MethodName := ⟨RX0, "sellsTo", "(II)Z"⟩
abbrev cX0_place : ByteArray := prog_2_method_7_code
def yX0_place : MethodName := ⟨RX0, "place", "(LElevenPaces$Text;I)V"⟩
abbrev cX0_number : ByteArray := prog_2_method_8_code
def yX0_number : MethodName := ⟨RX0, "number", "(LElevenPaces$Text;I)I"⟩
abbrev cX0_faultOf : ByteArray := prog_2_method_9_code
def yX0_faultOf : MethodName := ⟨RX0, "faultOf", "(LElevenPaces$Text;)I"⟩
abbrev cX0_faultAt : ByteArray := prog_2_method_10_code
def yX0_faultAt : MethodName := ⟨RX0, "faultAt", "(LElevenPaces$Text;I)I"⟩
def RX1 : String := "ElevenPaces$Fair"
def TX1 : u_T := fun k => match k with
  | 0 => ("ElevenPaces$Fair", "isDone", "[Z", true)
  | 1 => ("ElevenPaces$Fair", "one", "[I", true)
  | 2 => ("ElevenPaces$Fair", "two", "[I", true)
  | 3 => ("ElevenPaces$Fair", "size", "I", false)
  | _ => ("ElevenPaces$Fair", "fault", "I", false)
def tyX1 : Nat → FieldType := fun k => match k with
  | 0 => .array .boolean
  | 1 => .array .int
  | 2 => .array .int
  | 3 => .int
  | _ => .int
abbrev wsX10 : List Cond := u_ws RX1 TX1 5
theorem nmX1 : ∀ a, a < 5 → ∀ b, b < 5 → a ≠ b → (TX1 a).2.1 ≠ (TX1 b).2.1 := by decide +kernel
theorem tyX1_ok : ∀ k, k < 5 → parseFieldDescriptor (TX1 k).2.2.1 = some (tyX1 k) := by decide +kernel
abbrev cX1_init : ByteArray := prog_3_method_1_code
def yX1_init : MethodName := ⟨RX1, "<init>", "()V"⟩
abbrev cX1_tell : ByteArray := prog_3_method_2_code
def yX1_tell : MethodName := ⟨RX1, "tell", "(LElevenPaces$Text;I)V"⟩
abbrev cX1_faultOf : ByteArray := prog_3_method_3_code
def yX1_faultOf : MethodName := ⟨RX1, "faultOf", "(LElevenPaces$Text;I)I"⟩
def RX2 : String := "ElevenPaces$Market"
def TX2 : u_T := fun k => match k with
  | 0 => ("ElevenPaces$Market", "crowd", "LElevenPaces$Crowd;", true)
  | _ => ("ElevenPaces$Market", "settings", "[I", true)
def tyX2 : Nat → FieldType := fun k => match k with
  | 0 => .object "ElevenPaces$Crowd"
  | _ => .array .int
abbrev wsX20 : List Cond := u_ws RX2 TX2 2
theorem nmX2 : ∀ a, a < 2 → ∀ b, b < 2 → a ≠ b → (TX2 a).2.1 ≠ (TX2 b).2.1 := by decide +kernel
theorem tyX2_ok : ∀ k, k < 2 → parseFieldDescriptor (TX2 k).2.2.1 = some (tyX2 k) := by decide +kernel
abbrev cX2_init : ByteArray := prog_4_method_1_code
def yX2_init : MethodName := ⟨RX2, "<init>", "(LElevenPaces$Crowd;)V"⟩
abbrev cX2_square : ByteArray := prog_4_method_2_code
def yX2_square : MethodName := ⟨RX2, "square", "(I)I"⟩
abbrev cX2_lawfulStep : ByteArray := prog_4_method_3_code
def yX2_lawfulStep : MethodName := ⟨RX2, "lawfulStep", "([III)I"⟩
abbrev cX2_mayStand : ByteArray := prog_4_method_4_code
def yX2_mayStand : MethodName := ⟨RX2, "mayStand", "([III)Z"⟩
abbrev cX2_firstNearer : ByteArray := prog_4_method_5_code
def yX2_firstNearer : MethodName := ⟨RX2, "firstNearer", "([IIII)I"⟩
abbrev cX2_verdict : ByteArray := prog_4_method_6_code
def yX2_verdict : MethodName := ⟨RX2, "verdict", "([IIII)I"⟩
abbrev cX2_bindingPairs : ByteArray := prog_4_method_7_code
def yX2_bindingPairs : MethodName := ⟨RX2, "bindingPairs", "(I)I"⟩
abbrev cX2_bestDue : ByteArray := prog_4_method_8_code
def yX2_bestDue : MethodName := ⟨RX2, "bestDue", "(II)I"⟩
abbrev cX2_hindered : ByteArray := prog_4_method_9_code
def yX2_hindered : MethodName := ⟨RX2, "hindered", "(IZ)I"⟩
abbrev cX2_isHinderedBy : ByteArray := prog_4_method_10_code
def yX2_isHinderedBy : MethodName := ⟨RX2, "isHinderedBy", "(III)Z"⟩
abbrev cX2_verdictBy : ByteArray := prog_4_method_11_code
def yX2_verdictBy : MethodName := ⟨RX2, "verdictBy", "(I[IIII)I"⟩
def RX3 : String := "ElevenPaces$Match"
def TX3 : u_T := fun k => match k with
  | 0 => ("ElevenPaces$Match", "market", "LElevenPaces$Market;", true)
  | 1 => ("ElevenPaces$Match", "canBind", "[Z", true)
  | 2 => ("ElevenPaces$Match", "mate", "[I", true)
  | 3 => ("ElevenPaces$Match", "bestMate", "[I", true)
  | 4 => ("ElevenPaces$Match", "mostPairs", "I", false)
  | _ => ("ElevenPaces$Match", "mostGain", "I", false)
def tyX3 : Nat → FieldType := fun k => match k with
  | 0 => .object "ElevenPaces$Market"
  | 1 => .array .boolean
  | 2 => .array .int
  | 3 => .array .int
  | 4 => .int
  | _ => .int
abbrev wsX30 : List Cond := u_ws RX3 TX3 6
theorem nmX3 : ∀ a, a < 6 → ∀ b, b < 6 → a ≠ b → (TX3 a).2.1 ≠ (TX3 b).2.1 := by decide +kernel
theorem tyX3_ok : ∀ k, k < 6 → parseFieldDescriptor (TX3 k).2.2.1 = some (tyX3 k) := by decide +kernel
abbrev cX3_init : ByteArray := prog_5_method_1_code
def yX3_init : MethodName := ⟨RX3, "<init>", "(LElevenPaces$Market;)V"⟩
abbrev cX3_solve : ByteArray := prog_5_method_2_code
def yX3_solve : MethodName := ⟨RX3, "solve", "()V"⟩
abbrev cX3_choose : ByteArray := prog_5_method_3_code
def yX3_choose : MethodName := ⟨RX3, "choose", "(IIII)V"⟩
abbrev cX3_keepIfBetter : ByteArray := prog_5_method_4_code
def yX3_keepIfBetter : MethodName := ⟨RX3, "keepIfBetter", "(II)V"⟩
def RX4 : String := "ElevenPaces$Posts"
def TX4 : u_T := fun k => match k with
  | 0 => ("ElevenPaces$Posts", "spot", "[I", true)
  | _ => ("ElevenPaces$Posts", "size", "I", false)
def tyX4 : Nat → FieldType := fun k => match k with
  | 0 => .array .int
  | _ => .int
abbrev wsX40 : List Cond := u_ws RX4 TX4 2
theorem nmX4 : ∀ a, a < 2 → ∀ b, b < 2 → a ≠ b → (TX4 a).2.1 ≠ (TX4 b).2.1 := by decide +kernel
theorem tyX4_ok : ∀ k, k < 2 → parseFieldDescriptor (TX4 k).2.2.1 = some (tyX4 k) := by decide +kernel
abbrev cX4_init : ByteArray := prog_6_method_1_code
def yX4_init : MethodName := ⟨RX4, "<init>", "()V"⟩
abbrev cX4_isFull : ByteArray := prog_6_method_2_code
def yX4_isFull : MethodName := ⟨RX4, "isFull", "()Z"⟩
abbrev cX4_has : ByteArray := prog_6_method_3_code
def yX4_has : MethodName := ⟨RX4, "has", "(I)Z"⟩
abbrev cX4_add : ByteArray := prog_6_method_4_code
def yX4_add : MethodName := ⟨RX4, "add", "(I)I"⟩
abbrev cX4_clear : ByteArray := prog_6_method_5_code
def yX4_clear : MethodName := ⟨RX4, "clear", "()I"⟩
abbrev cX4_pairsAt : ByteArray := prog_6_method_6_code
def yX4_pairsAt : MethodName := ⟨RX4, "pairsAt", "(I)I"⟩
abbrev cX4_seenFrom : ByteArray := prog_6_method_7_code
def yX4_seenFrom : MethodName := ⟨RX4, "seenFrom", "(II)I"⟩
abbrev cX4_bestSpot : ByteArray := prog_6_method_8_code
def yX4_bestSpot : MethodName := ⟨RX4, "bestSpot", "(I)I"⟩
abbrev cX4_commonSpots : ByteArray := prog_6_method_9_code
def yX4_commonSpots : MethodName := ⟨RX4, "commonSpots", "(III)I"⟩
abbrev cX4_commonSpot : ByteArray := prog_6_method_10_code
def yX4_commonSpot : MethodName := ⟨RX4, "commonSpot", "(IIII)I"⟩
abbrev cX4_isCommon : ByteArray := prog_6_method_11_code
def yX4_isCommon : MethodName := ⟨RX4, "isCommon", "(IIII)Z"⟩
def RX5 : String := "ElevenPaces$Sheet"
def TX5 : u_T := fun k => match k with
  | 0 => ("ElevenPaces$Sheet", "items", "[I", true)
  | 1 => ("ElevenPaces$Sheet", "lost", "Z", false)
  | 2 => ("ElevenPaces$Sheet", "form", "I", false)
  | _ => ("ElevenPaces$Sheet", "size", "I", false)
def tyX5 : Nat → FieldType := fun k => match k with
  | 0 => .array .int
  | 1 => .boolean
  | 2 => .int
  | _ => .int
abbrev wsX50 : List Cond := u_ws RX5 TX5 4
theorem nmX5 : ∀ a, a < 4 → ∀ b, b < 4 → a ≠ b → (TX5 a).2.1 ≠ (TX5 b).2.1 := by decide +kernel
theorem tyX5_ok : ∀ k, k < 4 → parseFieldDescriptor (TX5 k).2.2.1 = some (tyX5 k) := by decide +kernel
abbrev cX5_init : ByteArray := prog_7_method_1_code
def yX5_init : MethodName := ⟨RX5, "<init>", "()V"⟩
abbrev cX5_renew : ByteArray := prog_7_method_2_code
def yX5_renew : MethodName := ⟨RX5, "renew", "(II)V"⟩
abbrev cX5_findingAt : ByteArray := prog_7_method_3_code
def yX5_findingAt : MethodName := ⟨RX5, "findingAt", "(II)I"⟩
abbrev cX5_hasRange : ByteArray := prog_7_method_4_code
def yX5_hasRange : MethodName := ⟨RX5, "hasRange", "(II)Z"⟩
abbrev cX5_store : ByteArray := prog_7_method_5_code
def yX5_store : MethodName := ⟨RX5, "store", "(II)V"⟩
def RX6 : String := "ElevenPaces$Stall"
def TX6 : u_T := fun k => match k with
  | 0 => ("ElevenPaces$Stall", "market", "LElevenPaces$Market;", true)
  | 1 => ("ElevenPaces$Stall", "isAlone", "[Z", true)
  | 2 => ("ElevenPaces$Stall", "dearest", "[I", true)
  | 3 => ("ElevenPaces$Stall", "cheapest", "[I", true)
  | 4 => ("ElevenPaces$Stall", "bestSpot", "I", false)
  | _ => ("ElevenPaces$Stall", "mostProfit", "I", false)
def tyX6 : Nat → FieldType := fun k => match k with
  | 0 => .object "ElevenPaces$Market"
  | 1 => .array .boolean
  | 2 => .array .int
  | 3 => .array .int
  | 4 => .int
  | _ => .int
abbrev wsX60 : List Cond := u_ws RX6 TX6 6
theorem nmX6 : ∀ a, a < 6 → ∀ b, b < 6 → a ≠ b → (TX6 a).2.1 ≠ (TX6 b).2.1 := by decide +kernel
theorem tyX6_ok : ∀ k, k < 6 → parseFieldDescriptor (TX6 k).2.2.1 = some (tyX6 k) := by decide +kernel
abbrev cX6_init : ByteArray := prog_8_method_1_code
def yX6_init : MethodName := ⟨RX6, "<init>", "(LElevenPaces$Market;)V"⟩
abbrev cX6_seek : ByteArray := prog_8_method_2_code
def yX6_seek : MethodName := ⟨RX6, "seek", "()V"⟩
abbrev cX6_profitOn : ByteArray := prog_8_method_3_code
def yX6_profitOn : MethodName := ⟨RX6, "profitOn", "(I)I"⟩
abbrev cX6_ask : ByteArray := prog_8_method_4_code
def yX6_ask : MethodName := ⟨RX6, "ask", "(III)V"⟩
abbrev cX6_margins : ByteArray := prog_8_method_5_code
def yX6_margins : MethodName := ⟨RX6, "margins", "()I"⟩
def RX7 : String := "ElevenPaces$Text"
def TX7 : u_T := fun k => match k with
  | 0 => ("ElevenPaces$Text", "bytes", "[I", true)
  | _ => ("ElevenPaces$Text", "length", "I", false)
def tyX7 : Nat → FieldType := fun k => match k with
  | 0 => .array .int
  | _ => .int
abbrev wsX70 : List Cond := u_ws RX7 TX7 2
theorem nmX7 : ∀ a, a < 2 → ∀ b, b < 2 → a ≠ b → (TX7 a).2.1 ≠ (TX7 b).2.1 := by decide +kernel
theorem tyX7_ok : ∀ k, k < 2 → parseFieldDescriptor (TX7 k).2.2.1 = some (tyX7 k) := by decide +kernel
abbrev cX7_init : ByteArray := prog_9_method_1_code
def yX7_init : MethodName := ⟨RX7, "<init>", "(I)V"⟩
abbrev cX7_length : ByteArray := prog_9_method_2_code
def yX7_length : MethodName := ⟨RX7, "length", "()I"⟩
abbrev cX7_isFull : ByteArray := prog_9_method_3_code
def yX7_isFull : MethodName := ⟨RX7, "isFull", "()Z"⟩
abbrev cX7_add : ByteArray := prog_9_method_4_code
def yX7_add : MethodName := ⟨RX7, "add", "(I)V"⟩
abbrev cX7_clear : ByteArray := prog_9_method_5_code
def yX7_clear : MethodName := ⟨RX7, "clear", "()I"⟩
abbrev cX7_at : ByteArray := prog_9_method_6_code
def yX7_at : MethodName := ⟨RX7, "at", "(I)I"⟩
def RX8 : String := "ElevenPaces$Trial"
def TX8 : u_T := fun k => match k with
  | 0 => ("ElevenPaces$Trial", "market", "LElevenPaces$Market;", true)
  | 1 => ("ElevenPaces$Trial", "spot", "[I", true)
  | 2 => ("ElevenPaces$Trial", "hasDone", "[Z", true)
  | 3 => ("ElevenPaces$Trial", "failed", "I", false)
  | 4 => ("ElevenPaces$Trial", "bargains", "I", false)
  | _ => ("ElevenPaces$Trial", "gained", "I", false)
def tyX8 : Nat → FieldType := fun k => match k with
  | 0 => .object "ElevenPaces$Market"
  | 1 => .array .int
  | 2 => .array .boolean
  | 3 => .int
  | 4 => .int
  | _ => .int
abbrev wsX80 : List Cond := u_ws RX8 TX8 6
theorem nmX8 : ∀ a, a < 6 → ∀ b, b < 6 → a ≠ b → (TX8 a).2.1 ≠ (TX8 b).2.1 := by decide +kernel
theorem tyX8_ok : ∀ k, k < 6 → parseFieldDescriptor (TX8 k).2.2.1 = some (tyX8 k) := by decide +kernel
abbrev cX8_init : ByteArray := prog_10_method_1_code
def yX8_init : MethodName := ⟨RX8, "<init>", "(LElevenPaces$Market;)V"⟩
abbrev cX8_judge : ByteArray := prog_10_method_2_code
def yX8_judge : MethodName := ⟨RX8, "judge", "(LElevenPaces$Fair;)V"⟩
abbrev cX8_result : ByteArray := prog_10_method_3_code
def yX8_result : MethodName := ⟨RX8, "result", "(I)I"⟩
abbrev cX8_moves : ByteArray := prog_10_method_4_code
def yX8_moves : MethodName := ⟨RX8, "moves", "(II)Z"⟩
abbrev cX8_strikes : ByteArray := prog_10_method_5_code
def yX8_strikes : MethodName := ⟨RX8, "strikes", "(II)Z"⟩
def RX9 : String := "ElevenPaces$Walk"
def TX9 : u_T := fun k => match k with
  | 0 => ("ElevenPaces$Walk", "market", "LElevenPaces$Market;", true)
  | 1 => ("ElevenPaces$Walk", "spots", "[I", true)
  | 2 => ("ElevenPaces$Walk", "steps", "[I", true)
  | 3 => ("ElevenPaces$Walk", "queue", "[I", true)
  | _ => ("ElevenPaces$Walk", "queued", "I", false)
def tyX9 : Nat → FieldType := fun k => match k with
  | 0 => .object "ElevenPaces$Market"
  | 1 => .array .int
  | 2 => .array .int
  | 3 => .array .int
  | _ => .int
abbrev wsX90 : List Cond := u_ws RX9 TX9 5
theorem nmX9 : ∀ a, a < 5 → ∀ b, b < 5 → a ≠ b → (TX9 a).2.1 ≠ (TX9 b).2.1 := by decide +kernel
theorem tyX9_ok : ∀ k, k < 5 → parseFieldDescriptor (TX9 k).2.2.1 = some (tyX9 k) := by decide +kernel
abbrev cX9_init : ByteArray := prog_11_method_1_code
def yX9_init : MethodName := ⟨RX9, "<init>", "(LElevenPaces$Market;)V"⟩
abbrev cX9_search : ByteArray := prog_11_method_2_code
def yX9_search : MethodName := ⟨RX9, "search", "(II)I"⟩
abbrev cX9_direction : ByteArray := prog_11_method_3_code
def yX9_direction : MethodName := ⟨RX9, "direction", "(II)I"⟩
abbrev cX9_leastDirection : ByteArray := prog_11_method_4_code
def yX9_leastDirection : MethodName := ⟨RX9, "leastDirection", "(I)I"⟩
abbrev cX9_queueGoals : ByteArray := prog_11_method_5_code
def yX9_queueGoals : MethodName := ⟨RX9, "queueGoals", "(III)V"⟩
abbrev cX9_queueNeighbours : ByteArray := prog_11_method_6_code
def yX9_queueNeighbours : MethodName := ⟨RX9, "queueNeighbours", "(III)V"⟩
abbrev cX9_isOpen : ByteArray := prog_11_method_7_code
def yX9_isOpen : MethodName := ⟨RX9, "isOpen", "(III)Z"⟩
abbrev cX9_enqueue : ByteArray := prog_11_method_8_code
def yX9_enqueue : MethodName := ⟨RX9, "enqueue", "(II)V"⟩
def RX10 : String := "ElevenPaces"
def TX10 : u_T := fun k => match k with
  | 0 => ("ElevenPaces", "peopleText", "LElevenPaces$Text;", true)
  | 1 => ("ElevenPaces", "fairText", "LElevenPaces$Text;", true)
  | 2 => ("ElevenPaces", "crowd", "LElevenPaces$Crowd;", true)
  | 3 => ("ElevenPaces", "market", "LElevenPaces$Market;", true)
  | 4 => ("ElevenPaces", "fair", "LElevenPaces$Fair;", true)
  | 5 => ("ElevenPaces", "trial", "LElevenPaces$Trial;", true)
  | 6 => ("ElevenPaces", "match", "LElevenPaces$Match;", true)
  | 7 => ("ElevenPaces", "walk", "LElevenPaces$Walk;", true)
  | 8 => ("ElevenPaces", "posts", "LElevenPaces$Posts;", true)
  | 9 => ("ElevenPaces", "stall", "LElevenPaces$Stall;", true)
  | 10 => ("ElevenPaces", "sheets", "[LElevenPaces$Sheet;", true)
  | _ => ("ElevenPaces", "latestFinding", "I", false)
def tyX10 : Nat → FieldType := fun k => match k with
  | 0 => .object "ElevenPaces$Text"
  | 1 => .object "ElevenPaces$Text"
  | 2 => .object "ElevenPaces$Crowd"
  | 3 => .object "ElevenPaces$Market"
  | 4 => .object "ElevenPaces$Fair"
  | 5 => .object "ElevenPaces$Trial"
  | 6 => .object "ElevenPaces$Match"
  | 7 => .object "ElevenPaces$Walk"
  | 8 => .object "ElevenPaces$Posts"
  | 9 => .object "ElevenPaces$Stall"
  | 10 => .array (.object "ElevenPaces$Sheet")
  | _ => .int
abbrev wsX100 : List Cond := u_ws RX10 TX10 12
theorem nmX10 : ∀ a, a < 12 → ∀ b, b < 12 → a ≠ b → (TX10 a).2.1 ≠ (TX10 b).2.1 := by decide +kernel
theorem tyX10_ok : ∀ k, k < 12 → parseFieldDescriptor (TX10 k).2.2.1 = some (tyX10 k) := by decide +kernel
abbrev cX10_init : ByteArray := prog_1_method_1_code
def yX10_init : MethodName := ⟨RX10, "<init>", "()V"⟩
abbrev cX10_type : ByteArray := prog_1_method_2_code
def yX10_type : MethodName := ⟨RX10, "type", "(II)I"⟩
abbrev cX10_wipe : ByteArray := prog_1_method_3_code
def yX10_wipe : MethodName := ⟨RX10, "wipe", "(I)I"⟩
abbrev cX10_fault : ByteArray := prog_1_method_4_code
def yX10_fault : MethodName := ⟨RX10, "fault", "(I)I"⟩
abbrev cX10_set : ByteArray := prog_1_method_5_code
def yX10_set : MethodName := ⟨RX10, "set", "(II)I"⟩
abbrev cX10_person : ByteArray := prog_1_method_6_code
def yX10_person : MethodName := ⟨RX10, "person", "(II)I"⟩
abbrev cX10_step : ByteArray := prog_1_method_7_code
def yX10_step : MethodName := ⟨RX10, "step", "(II)I"⟩
abbrev cX10_read : ByteArray := prog_1_method_8_code
def yX10_read : MethodName := ⟨RX10, "read", "(II)I"⟩
abbrev cX10_home : ByteArray := prog_1_method_9_code
def yX10_home : MethodName := ⟨RX10, "home", "()I"⟩
abbrev cX10_away : ByteArray := prog_1_method_10_code
def yX10_away : MethodName := ⟨RX10, "away", "(II)I"⟩
abbrev cX10_binds : ByteArray := prog_1_method_11_code
def yX10_binds : MethodName := ⟨RX10, "binds", "(III)I"⟩
abbrev cX10_pairs : ByteArray := prog_1_method_12_code
def yX10_pairs : MethodName := ⟨RX10, "pairs", "()I"⟩
abbrev cX10_once : ByteArray := prog_1_method_13_code
def yX10_once : MethodName := ⟨RX10, "once", "(I)I"⟩
abbrev cX10_worth : ByteArray := prog_1_method_14_code
def yX10_worth : MethodName := ⟨RX10, "worth", "()I"⟩
abbrev cX10_judged : ByteArray := prog_1_method_15_code
def yX10_judged : MethodName := ⟨RX10, "judged", "(I)I"⟩
abbrev cX10_ends : ByteArray := prog_1_method_16_code
def yX10_ends : MethodName := ⟨RX10, "ends", "(I)I"⟩
abbrev cX10_comes : ByteArray := prog_1_method_17_code
def yX10_comes : MethodName := ⟨RX10, "comes", "(II)I"⟩
abbrev cX10_way : ByteArray := prog_1_method_18_code
def yX10_way : MethodName := ⟨RX10, "way", "(III)I"⟩
abbrev cX10_hinders : ByteArray := prog_1_method_19_code
def yX10_hinders : MethodName := ⟨RX10, "hinders", "(II)I"⟩
abbrev cX10_post : ByteArray := prog_1_method_20_code
def yX10_post : MethodName := ⟨RX10, "post", "(I)I"⟩
abbrev cX10_gone : ByteArray := prog_1_method_21_code
def yX10_gone : MethodName := ⟨RX10, "gone", "()I"⟩
abbrev cX10_sees : ByteArray := prog_1_method_22_code
def yX10_sees : MethodName := ⟨RX10, "sees", "()I"⟩
abbrev cX10_more : ByteArray := prog_1_method_23_code
def yX10_more : MethodName := ⟨RX10, "more", "(I)I"⟩
abbrev cX10_both : ByteArray := prog_1_method_24_code
def yX10_both : MethodName := ⟨RX10, "both", "(III)I"⟩
abbrev cX10_broker : ByteArray := prog_1_method_25_code
def yX10_broker : MethodName := ⟨RX10, "broker", "(I)I"⟩
abbrev cX10_other : ByteArray := prog_1_method_26_code
def yX10_other : MethodName := ⟨RX10, "other", "(III)I"⟩
abbrev cX10_sheet : ByteArray := prog_1_method_27_code
def yX10_sheet : MethodName := ⟨RX10, "sheet", "(III)I"⟩
abbrev cX10_lose : ByteArray := prog_1_method_28_code
def yX10_lose : MethodName := ⟨RX10, "lose", "(I)I"⟩
abbrev cX10_put : ByteArray := prog_1_method_29_code
def yX10_put : MethodName := ⟨RX10, "put", "(IIII)I"⟩
abbrev cX10_get : ByteArray := prog_1_method_30_code
def yX10_get : MethodName := ⟨RX10, "get", "(III)I"⟩
abbrev cX10_copy : ByteArray := prog_1_method_31_code
def yX10_copy : MethodName := ⟨RX10, "copy", "(IIIII)I"⟩
abbrev cX10_write : ByteArray := prog_1_method_32_code
def yX10_write : MethodName := ⟨RX10, "write", "(I)I"⟩
abbrev cX10_count : ByteArray := prog_1_method_33_code
def yX10_count : MethodName := ⟨RX10, "count", "(I)I"⟩
abbrev cX10_digest : ByteArray := prog_1_method_34_code
def yX10_digest : MethodName := ⟨RX10, "digest", "()J"⟩
abbrev cX10_mixedPerson : ByteArray := prog_1_method_35_code
def yX10_mixedPerson : MethodName := ⟨RX10, "mixedPerson", "(JI)J"⟩
abbrev cX10_mixed : ByteArray := prog_1_method_36_code
def yX10_mixed : MethodName := ⟨RX10, "mixed", "(JI)J"⟩
abbrev cX10_found : ByteArray := prog_1_method_37_code
def yX10_found : MethodName := ⟨RX10, "found", "(I)I"⟩
abbrev cX10_textOf : ByteArray := prog_1_method_38_code
def yX10_textOf : MethodName := ⟨RX10, "textOf", "(I)LElevenPaces$Text;"⟩
abbrev cX10_takeIn : ByteArray := prog_1_method_39_code
def yX10_takeIn : MethodName := ⟨RX10, "takeIn", "(I)V"⟩
abbrev cX10_goes : ByteArray := prog_1_method_40_code
def yX10_goes : MethodName := ⟨RX10, "goes", "(II)Z"⟩
abbrev cX10_isPerson : ByteArray := prog_1_method_41_code
def yX10_isPerson : MethodName := ⟨RX10, "isPerson", "(I)Z"⟩
abbrev cX10_areTwo : ByteArray := prog_1_method_42_code
def yX10_areTwo : MethodName := ⟨RX10, "areTwo", "(II)Z"⟩
abbrev cX10_isText : ByteArray := prog_1_method_43_code
def yX10_isText : MethodName := ⟨RX10, "isText", "(I)Z"⟩
abbrev cX10_isDirection : ByteArray := prog_1_method_44_code
def yX10_isDirection : MethodName := ⟨RX10, "isDirection", "(I)Z"⟩
abbrev cX10_isSpot : ByteArray := prog_1_method_45_code
def yX10_isSpot : MethodName := ⟨RX10, "isSpot", "(I)Z"⟩
abbrev cX10_isSheet : ByteArray := prog_1_method_46_code
def yX10_isSheet : MethodName := ⟨RX10, "isSheet", "(I)Z"⟩
abbrev cX10_isForm : ByteArray := prog_1_method_47_code
def yX10_isForm : MethodName := ⟨RX10, "isForm", "(I)Z"⟩
abbrev cX10_between : ByteArray := prog_1_method_48_code
def yX10_between : MethodName := ⟨RX10, "between", "(II)I"⟩
abbrev cX10_neighbour : ByteArray := prog_1_method_49_code
def yX10_neighbour : MethodName := ⟨RX10, "neighbour", "(II)I"⟩
abbrev cX10_figure : ByteArray := prog_1_method_50_code
def yX10_figure : MethodName := ⟨RX10, "figure", "(I)I"⟩
def RX11 : String := "ElevenPacesModel"
def TX11 : u_T := fun k => match k with
  | 0 => ("ElevenPacesModel", "typed", "[I", true)
  | 1 => ("ElevenPacesModel", "texts", "[I", true)
  | 2 => ("ElevenPacesModel", "setting", "[I", true)
  | 3 => ("ElevenPacesModel", "people", "I", false)
  | 4 => ("ElevenPacesModel", "kinds", "[I", true)
  | 5 => ("ElevenPacesModel", "things", "[I", true)
  | 6 => ("ElevenPacesModel", "prices", "[I", true)
  | 7 => ("ElevenPacesModel", "homes", "[I", true)
  | 8 => ("ElevenPacesModel", "spots", "[I", true)
  | 9 => ("ElevenPacesModel", "now", "[I", true)
  | 10 => ("ElevenPacesModel", "parts", "I", false)
  | 11 => ("ElevenPacesModel", "partOne", "[I", true)
  | 12 => ("ElevenPacesModel", "partTwo", "[I", true)
  | 13 => ("ElevenPacesModel", "partDone", "[I", true)
  | 14 => ("ElevenPacesModel", "good", "[I", true)
  | 15 => ("ElevenPacesModel", "with", "[I", true)
  | 16 => ("ElevenPacesModel", "judgedPart", "I", false)
  | 17 => ("ElevenPacesModel", "judgedDone", "I", false)
  | 18 => ("ElevenPacesModel", "judgedWorth", "I", false)
  | 19 => ("ElevenPacesModel", "far", "[I", true)
  | 20 => ("ElevenPacesModel", "queue", "[I", true)
  | 21 => ("ElevenPacesModel", "posts", "I", false)
  | 22 => ("ElevenPacesModel", "post", "[I", true)
  | 23 => ("ElevenPacesModel", "clearOnes", "[I", true)
  | 24 => ("ElevenPacesModel", "greatest", "[I", true)
  | 25 => ("ElevenPacesModel", "least", "[I", true)
  | 26 => ("ElevenPacesModel", "isThere", "[Z", true)
  | 27 => ("ElevenPacesModel", "forms", "[I", true)
  | 28 => ("ElevenPacesModel", "sizes", "[I", true)
  | 29 => ("ElevenPacesModel", "items", "[I", true)
  | 30 => ("ElevenPacesModel", "moved", "[I", true)
  | _ => ("ElevenPacesModel", "finding", "I", false)
def tyX11 : Nat → FieldType := fun k => match k with
  | 0 => .array .int
  | 1 => .array .int
  | 2 => .array .int
  | 3 => .int
  | 4 => .array .int
  | 5 => .array .int
  | 6 => .array .int
  | 7 => .array .int
  | 8 => .array .int
  | 9 => .array .int
  | 10 => .int
  | 11 => .array .int
  | 12 => .array .int
  | 13 => .array .int
  | 14 => .array .int
  | 15 => .array .int
  | 16 => .int
  | 17 => .int
  | 18 => .int
  | 19 => .array .int
  | 20 => .array .int
  | 21 => .int
  | 22 => .array .int
  | 23 => .array .int
  | 24 => .array .int
  | 25 => .array .int
  | 26 => .array .boolean
  | 27 => .array .int
  | 28 => .array .int
  | 29 => .array .int
  | 30 => .array .int
  | _ => .int
abbrev wsX110 : List Cond := u_ws RX11 TX11 32
theorem nmX11 : ∀ a, a < 32 → ∀ b, b < 32 → a ≠ b → (TX11 a).2.1 ≠ (TX11 b).2.1 := by decide +kernel
theorem tyX11_ok : ∀ k, k < 32 → parseFieldDescriptor (TX11 k).2.2.1 = some (tyX11 k) := by decide +kernel
abbrev cX11_init : ByteArray := prog_13_method_1_code
def yX11_init : MethodName := ⟨RX11, "<init>", "()V"⟩
abbrev cX11_in : ByteArray := prog_13_method_3_code
def yX11_in : MethodName := ⟨RX11, "in", "(III)Z"⟩
abbrev cX11_isIn : ByteArray := prog_13_method_4_code
def yX11_isIn : MethodName := ⟨RX11, "isIn", "(II)Z"⟩
abbrev cX11_limit : ByteArray := prog_13_method_5_code
def yX11_limit : MethodName := ⟨RX11, "limit", "(I)I"⟩
abbrev cX11_type : ByteArray := prog_13_method_6_code
def yX11_type : MethodName := ⟨RX11, "type", "(II)I"⟩
abbrev cX11_wipe : ByteArray := prog_13_method_7_code
def yX11_wipe : MethodName := ⟨RX11, "wipe", "(I)I"⟩
abbrev cX11_stands : ByteArray := prog_13_method_8_code
def yX11_stands : MethodName := ⟨RX11, "stands", "()V"⟩
abbrev cX11_byteAt : ByteArray := prog_13_method_9_code
def yX11_byteAt : MethodName := ⟨RX11, "byteAt", "(II)I"⟩
abbrev cX11_isFigure : ByteArray := prog_13_method_10_code
def yX11_isFigure : MethodName := ⟨RX11, "isFigure", "(I)Z"⟩
abbrev cX11_pairAt : ByteArray := prog_13_method_11_code
def yX11_pairAt : MethodName := ⟨RX11, "pairAt", "(I)I"⟩
abbrev cX11_reads : ByteArray := prog_13_method_12_code
def yX11_reads : MethodName := ⟨RX11, "reads", "()I"⟩
abbrev cX11_peopleFault : ByteArray := prog_13_method_13_code
def yX11_peopleFault : MethodName := ⟨RX11, "peopleFault", "()I"⟩
abbrev cX11_peopleNow : ByteArray := prog_13_method_14_code
def yX11_peopleNow : MethodName := ⟨RX11, "peopleNow", "()I"⟩
abbrev cX11_isPerson : ByteArray := prog_13_method_15_code
def yX11_isPerson : MethodName := ⟨RX11, "isPerson", "(I)Z"⟩
abbrev cX11_fairFault : ByteArray := prog_13_method_16_code
def yX11_fairFault : MethodName := ⟨RX11, "fairFault", "()I"⟩
abbrev cX11_faultOf : ByteArray := prog_13_method_17_code
def yX11_faultOf : MethodName := ⟨RX11, "faultOf", "(I)I"⟩
abbrev cX11_fault : ByteArray := prog_13_method_18_code
def yX11_fault : MethodName := ⟨RX11, "fault", "(I)I"⟩
abbrev cX11_set : ByteArray := prog_13_method_19_code
def yX11_set : MethodName := ⟨RX11, "set", "(II)I"⟩
abbrev cX11_personOf : ByteArray := prog_13_method_20_code
def yX11_personOf : MethodName := ⟨RX11, "personOf", "(II)I"⟩
abbrev cX11_person : ByteArray := prog_13_method_21_code
def yX11_person : MethodName := ⟨RX11, "person", "(II)I"⟩
abbrev cX11_awayBy : ByteArray := prog_13_method_22_code
def yX11_awayBy : MethodName := ⟨RX11, "awayBy", "(II)I"⟩
abbrev cX11_stepTo : ByteArray := prog_13_method_23_code
def yX11_stepTo : MethodName := ⟨RX11, "stepTo", "(II)I"⟩
abbrev cX11_isFree : ByteArray := prog_13_method_24_code
def yX11_isFree : MethodName := ⟨RX11, "isFree", "(II)Z"⟩
abbrev cX11_lays : ByteArray := prog_13_method_25_code
def yX11_lays : MethodName := ⟨RX11, "lays", "()V"⟩
abbrev cX11_steps : ByteArray := prog_13_method_26_code
def yX11_steps : MethodName := ⟨RX11, "steps", "(II)Z"⟩
abbrev cX11_step : ByteArray := prog_13_method_27_code
def yX11_step : MethodName := ⟨RX11, "step", "(II)I"⟩
abbrev cX11_read : ByteArray := prog_13_method_28_code
def yX11_read : MethodName := ⟨RX11, "read", "(II)I"⟩
abbrev cX11_home : ByteArray := prog_13_method_29_code
def yX11_home : MethodName := ⟨RX11, "home", "()I"⟩
abbrev cX11_away : ByteArray := prog_13_method_30_code
def yX11_away : MethodName := ⟨RX11, "away", "(II)I"⟩
abbrev cX11_nearer : ByteArray := prog_13_method_31_code
def yX11_nearer : MethodName := ⟨RX11, "nearer", "(III)I"⟩
abbrev cX11_buyer : ByteArray := prog_13_method_32_code
def yX11_buyer : MethodName := ⟨RX11, "buyer", "(II)I"⟩
abbrev cX11_worthOf : ByteArray := prog_13_method_33_code
def yX11_worthOf : MethodName := ⟨RX11, "worthOf", "(II)I"⟩
abbrev cX11_bindsBy : ByteArray := prog_13_method_34_code
def yX11_bindsBy : MethodName := ⟨RX11, "bindsBy", "(IIII)I"⟩
abbrev cX11_isBound : ByteArray := prog_13_method_35_code
def yX11_isBound : MethodName := ⟨RX11, "isBound", "(II)Z"⟩
abbrev cX11_areTwo : ByteArray := prog_13_method_36_code
def yX11_areTwo : MethodName := ⟨RX11, "areTwo", "(II)Z"⟩
abbrev cX11_binds : ByteArray := prog_13_method_37_code
def yX11_binds : MethodName := ⟨RX11, "binds", "(III)I"⟩
abbrev cX11_pairsBy : ByteArray := prog_13_method_38_code
def yX11_pairsBy : MethodName := ⟨RX11, "pairsBy", "(I)I"⟩
abbrev cX11_pairsNow : ByteArray := prog_13_method_39_code
def yX11_pairsNow : MethodName := ⟨RX11, "pairsNow", "()I"⟩
abbrev cX11_pairs : ByteArray := prog_13_method_40_code
def yX11_pairs : MethodName := ⟨RX11, "pairs", "()I"⟩
abbrev cX11_laysOnce : ByteArray := prog_13_method_41_code
def yX11_laysOnce : MethodName := ⟨RX11, "laysOnce", "()V"⟩
abbrev cX11_onceOf : ByteArray := prog_13_method_42_code
def yX11_onceOf : MethodName := ⟨RX11, "onceOf", "(I)I"⟩
abbrev cX11_once : ByteArray := prog_13_method_43_code
def yX11_once : MethodName := ⟨RX11, "once", "(I)I"⟩
abbrev cX11_worthNow : ByteArray := prog_13_method_44_code
def yX11_worthNow : MethodName := ⟨RX11, "worthNow", "()I"⟩
abbrev cX11_worth : ByteArray := prog_13_method_45_code
def yX11_worth : MethodName := ⟨RX11, "worth", "()I"⟩
abbrev cX11_judges : ByteArray := prog_13_method_46_code
def yX11_judges : MethodName := ⟨RX11, "judges", "()V"⟩
abbrev cX11_judgedOf : ByteArray := prog_13_method_47_code
def yX11_judgedOf : MethodName := ⟨RX11, "judgedOf", "(I)I"⟩
abbrev cX11_judged : ByteArray := prog_13_method_48_code
def yX11_judged : MethodName := ⟨RX11, "judged", "(I)I"⟩
abbrev cX11_endsOf : ByteArray := prog_13_method_49_code
def yX11_endsOf : MethodName := ⟨RX11, "endsOf", "(I)I"⟩
abbrev cX11_ends : ByteArray := prog_13_method_50_code
def yX11_ends : MethodName := ⟨RX11, "ends", "(I)I"⟩
abbrev cX11_laysFar : ByteArray := prog_13_method_51_code
def yX11_laysFar : MethodName := ⟨RX11, "laysFar", "(II)V"⟩
abbrev cX11_comesOf : ByteArray := prog_13_method_52_code
def yX11_comesOf : MethodName := ⟨RX11, "comesOf", "(II)I"⟩
abbrev cX11_comes : ByteArray := prog_13_method_53_code
def yX11_comes : MethodName := ⟨RX11, "comes", "(II)I"⟩
abbrev cX11_way : ByteArray := prog_13_method_54_code
def yX11_way : MethodName := ⟨RX11, "way", "(III)I"⟩
abbrev cX11_hindersOf : ByteArray := prog_13_method_55_code
def yX11_hindersOf : MethodName := ⟨RX11, "hindersOf", "(II)I"⟩
abbrev cX11_hinders : ByteArray := prog_13_method_56_code
def yX11_hinders : MethodName := ⟨RX11, "hinders", "(II)I"⟩
abbrev cX11_post : ByteArray := prog_13_method_57_code
def yX11_post : MethodName := ⟨RX11, "post", "(I)I"⟩
abbrev cX11_gone : ByteArray := prog_13_method_58_code
def yX11_gone : MethodName := ⟨RX11, "gone", "()I"⟩
abbrev cX11_isDue : ByteArray := prog_13_method_59_code
def yX11_isDue : MethodName := ⟨RX11, "isDue", "(II)Z"⟩
abbrev cX11_seesNow : ByteArray := prog_13_method_60_code
def yX11_seesNow : MethodName := ⟨RX11, "seesNow", "()I"⟩
abbrev cX11_sees : ByteArray := prog_13_method_61_code
def yX11_sees : MethodName := ⟨RX11, "sees", "()I"⟩
abbrev cX11_moreOf : ByteArray := prog_13_method_62_code
def yX11_moreOf : MethodName := ⟨RX11, "moreOf", "(I)I"⟩
abbrev cX11_more : ByteArray := prog_13_method_63_code
def yX11_more : MethodName := ⟨RX11, "more", "(I)I"⟩
abbrev cX11_both : ByteArray := prog_13_method_64_code
def yX11_both : MethodName := ⟨RX11, "both", "(III)I"⟩
abbrev cX11_brokes : ByteArray := prog_13_method_65_code
def yX11_brokes : MethodName := ⟨RX11, "brokes", "(I)I"⟩
abbrev cX11_brokerOf : ByteArray := prog_13_method_66_code
def yX11_brokerOf : MethodName := ⟨RX11, "brokerOf", "(I)I"⟩
abbrev cX11_broker : ByteArray := prog_13_method_67_code
def yX11_broker : MethodName := ⟨RX11, "broker", "(I)I"⟩
abbrev cX11_otherOf : ByteArray := prog_13_method_68_code
def yX11_otherOf : MethodName := ⟨RX11, "otherOf", "(III)I"⟩
abbrev cX11_other : ByteArray := prog_13_method_69_code
def yX11_other : MethodName := ⟨RX11, "other", "(III)I"⟩
abbrev cX11_meets : ByteArray := prog_13_method_70_code
def yX11_meets : MethodName := ⟨RX11, "meets", "(I)I"⟩
abbrev cX11_isSheet : ByteArray := prog_13_method_71_code
def yX11_isSheet : MethodName := ⟨RX11, "isSheet", "(I)Z"⟩
abbrev cX11_sheet : ByteArray := prog_13_method_72_code
def yX11_sheet : MethodName := ⟨RX11, "sheet", "(III)I"⟩
abbrev cX11_lose : ByteArray := prog_13_method_73_code
def yX11_lose : MethodName := ⟨RX11, "lose", "(I)I"⟩
abbrev cX11_lacks : ByteArray := prog_13_method_74_code
def yX11_lacks : MethodName := ⟨RX11, "lacks", "(III)I"⟩
abbrev cX11_keep : ByteArray := prog_13_method_75_code
def yX11_keep : MethodName := ⟨RX11, "keep", "(III)V"⟩
abbrev cX11_put : ByteArray := prog_13_method_76_code
def yX11_put : MethodName := ⟨RX11, "put", "(IIII)I"⟩
abbrev cX11_get : ByteArray := prog_13_method_77_code
def yX11_get : MethodName := ⟨RX11, "get", "(III)I"⟩
abbrev cX11_copy : ByteArray := prog_13_method_78_code
def yX11_copy : MethodName := ⟨RX11, "copy", "(IIIII)I"⟩
abbrev cX11_write : ByteArray := prog_13_method_79_code
def yX11_write : MethodName := ⟨RX11, "write", "(I)I"⟩
abbrev cX11_partsNow : ByteArray := prog_13_method_80_code
def yX11_partsNow : MethodName := ⟨RX11, "partsNow", "()I"⟩
abbrev cX11_count : ByteArray := prog_13_method_81_code
def yX11_count : MethodName := ⟨RX11, "count", "(I)I"⟩
abbrev cX11_digest : ByteArray := prog_13_method_82_code
def yX11_digest : MethodName := ⟨RX11, "digest", "()J"⟩
def RJ9 : String := "java/lang/Math"
def TJ9 : u_T := fun k => match k with
  | _ => ("", "", "", false)
def tyJ9 : Nat → FieldType := fun k => match k with
  | _ => .int
abbrev wsJ90 : List Cond := u_ws RJ9 TJ9 0
theorem nmJ9 : ∀ a, a < 0 → ∀ b, b < 0 → a ≠ b → (TJ9 a).2.1 ≠ (TJ9 b).2.1 := by decide +kernel
theorem tyJ9_ok : ∀ k, k < 0 → parseFieldDescriptor (TJ9 k).2.2.1 = some (tyJ9 k) := by decide +kernel
abbrev cJ9_max_7cf53 : ByteArray := prog_14_method_65_code
def yJ9_max_7cf53 : MethodName := ⟨RJ9, "max", "(II)I"⟩
abbrev cJ9_min_7cf53 : ByteArray := prog_14_method_69_code
def yJ9_min_7cf53 : MethodName := ⟨RJ9, "min", "(II)I"⟩
def RJ10 : String := "java/lang/System"
def TJ10 : u_T := fun k => match k with
  | _ => ("", "", "", false)
def tyJ10 : Nat → FieldType := fun k => match k with
  | _ => .int
abbrev wsJ100 : List Cond := u_ws RJ10 TJ10 0
theorem nmJ10 : ∀ a, a < 0 → ∀ b, b < 0 → a ≠ b → (TJ10 a).2.1 ≠ (TJ10 b).2.1 := by decide +kernel
theorem tyJ10_ok : ∀ k, k < 0 → parseFieldDescriptor (TJ10 k).2.2.1 = some (tyJ10 k) := by decide +kernel
def RJ7 : String := "java/util/Arrays"
def TJ7 : u_T := fun k => match k with
  | _ => ("", "", "", false)
def tyJ7 : Nat → FieldType := fun k => match k with
  | _ => .int
abbrev wsJ70 : List Cond := u_ws RJ7 TJ7 0
theorem nmJ7 : ∀ a, a < 0 → ∀ b, b < 0 → a ≠ b → (TJ7 a).2.1 ≠ (TJ7 b).2.1 := by decide +kernel
theorem tyJ7_ok : ∀ k, k < 0 → parseFieldDescriptor (TJ7 k).2.2.1 = some (tyJ7 k) := by decide +kernel
abbrev cJ7_fill_53178 : ByteArray := prog_16_method_103_code
def yJ7_fill_53178 : MethodName := ⟨RJ7, "fill", "([II)V"⟩
def RL : String := "ElevenPacesLaw"
abbrev cL_law : ByteArray := code
def yL_law : MethodName := ⟨RL, "law", "([I)Z"⟩
abbrev vwCl : List vw_C := [(RX0, TX0, 7), (RX1, TX1, 5), (RX2, TX2, 2), (RX3, TX3, 6), (RX4, TX4, 2), (RX5, TX5, 4), (RX6, TX6, 6), (RX7, TX7, 2), (RX8, TX8, 6), (RX9, TX9, 5), (RX10, TX10, 12), (RX11, TX11, 32)]
end
section
/-! The abstract machine: values, places, shapes; what relates them to the model's heap. -/
def lw_good : List Cond := lw_tbl.filter goodWord
def isNestW : Cond → Bool
  | .fieldLinkNest .. => true
  | .methodLinkNest .. => true
  | _ => false
def lw_nest : List Cond := lw_tbl.filter isNestW
theorem lw_good_in {w : Cond} (h : w ∈ lw_good) : w ∈ lw_tbl ∧ goodWord w = true := List.mem_filter.mp h
/-- class number, name, bytes, locals, result -/
abbrev MTy : Type := Nat × MethodName × ByteArray × Nat × Option FieldType
def WM (M : MTy) : List Cond := .code M.2.1 M.2.2.1 M.2.2.2.1 M.2.2.2.2 :: lw_good
abbrev EE : Type := Launch × va_G × Nat × (Nat → Nat) × (FieldType → ClassId)
abbrev Shp : Type := Nat ⊕ (FieldType × Nat)
abbrev GG : Type := Nat → Nat → Value
def ad (E : EE) (k : Nat) : Nat := if k < 5 then E.2.2.2.1 k else E.2.2.1 + (k - 5)
def rv (E : EE) : Value → Value
  | .ref k => .ref (ad E k)
  | v => v
theorem rv_cat (E : EE) (v : Value) : (rv E v).category = v.category := by cases v <;> rfl
theorem ad_hi (E : EE) {k : Nat} (h : 5 ≤ k) : ad E k = E.2.2.1 + (k - 5) := by unfold ad; rw [if_neg (by omega)]
theorem ad_inj (E : EE) {k j : Nat} (h : 5 ≤ k) (h2 : 5 ≤ j) (e : ad E k = ad E j) : k = j := by rw [ad_hi E h, ad_hi E h2] at e; omega
def fr (E : EE) : Nat → Prop := fun q => E.2.2.1 ≤ q
def tysE (E : EE) : List (ClassId × FieldType) := [(E.2.2.2.2 .int, .int), (E.2.2.2.2 .boolean, .boolean), (E.2.2.2.2 (.object RX5), .object RX5)]
def Env2 (E : EE) (U : State) : Prop := va_K E.2.1 vwCl (tysE E) U ∧ (∀ w ∈ lw_nest, va_Nw w U) ∧ va_AO RX5 U
def Rcls (n : Nat) : String := [RX0, RX1, RX2, RX3, RX4, RX5, RX6, RX7, RX8, RX9, RX10, RX11, RL, RJ9, RJ10, RJ7].getD n ""
def stn (k : Nat) : String := ["", "EAST", "SOUTH", "LEAST_SETTING", "MOST_SETTING"].getD k ""
def cellR (E : EE) (k : Nat) (x : Shp) (g : Nat → Value) (H : Heap) : Prop := match x with
  | .inl ci => ∃ r : vw_C, vwCl[ci]? = some r ∧ t_OB (ad E k) (E.2.1.1 ci) r.2.2 (E.2.1.2 ci) H (fun j => rv E (g j))
  | .inr a => H[ad E k]? = some (arrV (E.2.2.2.2 a.1) a.2 (fun j => rv E (g j)))
def HR (E : EE) (sh : List Shp) (G : GG) (U : State) (H : Heap) : Prop :=
  (5 ≤ sh.length ∧ H.size = E.2.2.1 + (sh.length - 5)) ∧
  (∀ (k : Nat) (x : Shp), 5 ≤ k → sh[k]? = some x → cellR E k x (G k) H) ∧
  (∀ k : Nat, k < 5 → ∃ n : Nat, sh[k]? = some (.inr (.int, n)) ∧ va_T .int (ad E k) n (fun j => rv E (G k j)) (fr E) U H) ∧
  (∀ k : Nat, 1 ≤ k → k < 5 → va_Z RX10 (stn k) "[I" (.ref (ad E k)) (fr E) U H)
theorem cellR.kept {E : EE} {k : Nat} {x : Shp} {g : Nat → Value} {H H1 : Heap} (h : cellR E k x g H) (hq : H1[ad E k]? = H[ad E k]?) : cellR E k x g H1 := by
  cases x with
  | inl ci =>
    obtain ⟨r, h1, h2⟩ := h
    exact ⟨r, h1, h2.kept hq⟩
  | inr a => exact hq.trans h
theorem cellR.lt {E : EE} {k : Nat} {x : Shp} {g : Nat → Value} {H : Heap} (h : cellR E k x g H) : ad E k < H.size := by
  cases x with
  | inl ci =>
    obtain ⟨r, h1, cell, h2, -⟩ := h
    exact (Array.getElem?_eq_some_iff.mp h2).1
  | inr a => exact (Array.getElem?_eq_some_iff.mp h).1
theorem HR.moved {E : EE} {sh : List Shp} {G : GG} {u U : State} {H : Heap} (hvm : u.vm.Alike U.vm) (h : HR E sh G u H) : HR E sh G U H := by
  obtain ⟨h1, h2, h3, h4⟩ := h
  refine ⟨h1, h2, fun k hk => ?_, fun k h5 h6 => (h4 k h5 h6).moved hvm⟩
  obtain ⟨n, a, b⟩ := h3 k hk
  exact ⟨n, a, b.moved hvm⟩
theorem Env2.warm {E : EE} {s U : State} (hW : s.WarmedH U.vm) (h : Env2 E s) : Env2 E U := by
  refine ⟨h.1.moved hW.alike, fun w hw => ?_, va_AO.moved hW.alike h.2.2⟩
  have h0 := h.2.1 w hw
  have hn := (List.mem_filter.mp hw).2
  cases w <;> first | (simp [isNestW] at hn; done) | exact va_Nw.warmF hW h0 | exact va_Nw.warmM hW h0
theorem Env2.same {E : EE} {s U : State} (hv : s.vm = U.vm) (h : Env2 E s) : Env2 E U := by
  have ha : s.vm.Alike U.vm := by rw [← hv]; exact Vm.Alike.refl _
  refine ⟨h.1.moved ha, fun w hw => ?_, va_AO.moved ha h.2.2⟩
  have h0 := h.2.1 w hw
  have hn := (List.mem_filter.mp hw).2
  cases w <;> first | (simp [isNestW] at hn; done) | exact va_Nw.same rfl hv h0
def up2 {α : Type} (G : Nat → Nat → α) (k j : Nat) (v : α) : Nat → Nat → α := fun a b => if a = k then (if b = j then v else G a b) else G a b
/-- one cell written anew, at a place of ours -/
theorem HR.put {E : EE} {sh : List Shp} {G G' : GG} {U : State} {H H1 : Heap} {k : Nat} (h : HR E sh G U H) (hk : 5 ≤ k) (hz : H1.size = H.size) (oq : ∀ q : Nat, q ≠ ad E k → H1[q]? = H[q]?)
    (hG : ∀ a, a ≠ k → G' a = G a) (hc : ∀ x, sh[k]? = some x → cellR E k x (G' k) H1) : HR E sh G' U H1 := by
  obtain ⟨h1, h2, h3, h4⟩ := h
  have hout : ∀ a : Nat, a < H.size → ¬ fr E a → H1[a]? = H[a]? := fun a _ hn => oq a (fun e => hn (by rw [e, ad_hi E hk]; exact Nat.le_add_right _ _))
  refine ⟨⟨h1.1, by rw [hz]; exact h1.2⟩, fun a x ha hx => ?_, fun a ha => ?_, fun a h5 h6 => (h4 a h5 h6).kept hout⟩
  · by_cases e : a = k
    · subst e
      exact hc x hx
    · rw [hG a e]
      exact (h2 a x ha hx).kept (oq _ (fun z => e (ad_inj E ha hk z)))
  · obtain ⟨n, a1, b1⟩ := h3 a ha
    refine ⟨n, a1, ?_⟩
    rw [hG a (by omega)]
    exact b1.kept hout
/-- one cell more -/
theorem HR.push {E : EE} {sh : List Shp} {G G' : GG} {U : State} {H H1 : Heap} {x : Shp} (h : HR E sh G U H) (hz : H1.size = H.size + 1) (oq : ∀ q : Nat, q < H.size → H1[q]? = H[q]?)
    (hG : ∀ a, a ≠ sh.length → G' a = G a) (hc : cellR E sh.length x (G' sh.length) H1) : HR E (sh ++ [x]) G' U H1 := by
  obtain ⟨h1, h2, h3, h4⟩ := h
  have hout : ∀ a : Nat, a < H.size → ¬ fr E a → H1[a]? = H[a]? := fun a ha _ => oq a ha
  refine ⟨⟨by simp; omega, by rw [hz, h1.2]; simp; omega⟩, fun a y ha hy => ?_, fun a ha => ?_, fun a h5 h6 => (h4 a h5 h6).kept hout⟩
  · by_cases e : a < sh.length
    · rw [List.getElem?_append_left e] at hy
      rw [hG a (by omega)]
      have hc2 := h2 a y ha hy
      exact hc2.kept (oq _ hc2.lt)
    · rw [List.getElem?_append_right (by omega)] at hy
      have hz2 : a - sh.length < 1 := (List.getElem?_eq_some_iff.mp hy).1
      have e2 : a = sh.length := by omega
      subst e2
      rw [Nat.sub_self] at hy
      cases hy
      exact hc
  · obtain ⟨n, a1, b1⟩ := h3 a ha
    have hl : a < sh.length := (List.getElem?_eq_some_iff.mp a1).1
    refine ⟨n, by rw [List.getElem?_append_left hl]; exact a1, ?_⟩
    rw [hG a (by omega)]
    exact b1.kept hout
/-! locals -/
def lget : List (Option Value) → Nat → Option Value
  | [], _ => none
  | o :: _, 0 => o
  | _ :: t, n + 1 => lget t n
def lset : List (Option Value) → Nat → Option Value → List (Option Value)
  | [], _, _ => []
  | _ :: t, 0, v => v :: t
  | h :: t, n + 1, v => h :: lset t n v
def kill2 (ls : List (Option Value)) (i : Nat) : List (Option Value) := match i with
  | 0 => ls
  | j + 1 => match lget ls j with
    | some v => if v.category = 2 then lset ls j none else ls
    | none => ls
def set1 (ls : List (Option Value)) (i : Nat) (v : Value) : List (Option Value) := lset (kill2 ls i) i (some v)
def set2 (ls : List (Option Value)) (i : Nat) (v : Value) : List (Option Value) := lset (lset (kill2 ls i) i (some v)) (i + 1) none
theorem lget_lset : ∀ (ls : List (Option Value)) (i j : Nat) (o : Option Value) (v : Value), lget (lset ls i o) j = some v → (j = i ∧ o = some v) ∨ (j ≠ i ∧ lget ls j = some v)
  | [], i, j, o, v, h => by simp [lset, lget] at h
  | a :: t, 0, 0, o, v, h => Or.inl ⟨rfl, h⟩
  | a :: t, 0, j + 1, o, v, h => Or.inr ⟨by omega, h⟩
  | a :: t, i + 1, 0, o, v, h => Or.inr ⟨by omega, h⟩
  | a :: t, i + 1, j + 1, o, v, h => by
    rcases lget_lset t i j o v h with ⟨h1, h2⟩ | ⟨h1, h2⟩
    · exact Or.inl ⟨by omega, h2⟩
    · exact Or.inr ⟨by omega, h2⟩
def lst (E : EE) : Nat → List (Option Value) → List (Nat × Value)
  | _, [] => []
  | i, none :: t => lst E (i + 1) t
  | i, some v :: t => (i, rv E v) :: lst E (i + 1) t
theorem lst_mem (E : EE) : ∀ (ls : List (Option Value)) (i : Nat) (q : Nat × Value), q ∈ lst E i ls ↔ ∃ j v, lget ls j = some v ∧ q = (i + j, rv E v)
  | [], i, q => by simp [lst, lget]
  | none :: t, i, q => by
    rw [show lst E i (none :: t) = lst E (i + 1) t from rfl, lst_mem E t (i + 1) q]
    constructor
    · rintro ⟨j, v, h1, h2⟩
      exact ⟨j + 1, v, h1, by rw [h2]; congr 1; omega⟩
    · rintro ⟨j, v, h1, h2⟩
      cases j with
      | zero => simp [lget] at h1
      | succ j => exact ⟨j, v, h1, by rw [h2]; congr 1; omega⟩
  | some w :: t, i, q => by
    rw [show lst E i (some w :: t) = (i, rv E w) :: lst E (i + 1) t from rfl, List.mem_cons, lst_mem E t (i + 1) q]
    constructor
    · rintro (h | ⟨j, v, h1, h2⟩)
      · exact ⟨0, w, rfl, h⟩
      · exact ⟨j + 1, v, h1, by rw [h2]; congr 1; omega⟩
    · rintro ⟨j, v, h1, h2⟩
      cases j with
      | zero => simp [lget] at h1; subst h1; exact Or.inl h2
      | succ j => exact Or.inr ⟨j, v, h1, by rw [h2]; congr 1; omega⟩
def lvr (E : EE) (n : Nat) (ls : List (Option Value)) (la : Array Slot) : Prop := lv_has la n (lst E 0 ls)
theorem lvr.at {E : EE} {n : Nat} {ls : List (Option Value)} {la : Array Slot} (h : lvr E n ls la) {i : Nat} {v : Value} (hv : lget ls i = some v) : la[i]? = some (.val (rv E v)) :=
  h.2.2 (i, rv E v) ((lst_mem E ls 0 _).mpr ⟨i, v, hv, by rw [Nat.zero_add]⟩)
theorem lvr.sub {E : EE} {n : Nat} {ls : List (Option Value)} {la : Array Slot} {l : List (Nat × Value)} (h : lv_has la n l) (hs : ∀ j v, lget ls j = some v → (j, rv E v) ∈ l) : lvr E n ls la := by
  refine ⟨h.1, h.2.1, fun q hq => ?_⟩
  obtain ⟨j, v, h1, rfl⟩ := (lst_mem E ls 0 q).mp hq
  rw [Nat.zero_add]
  exact h.2.2 _ (hs j v h1)
theorem kill2_get {ls : List (Option Value)} {i j : Nat} {v : Value} (h : lget (kill2 ls i) j = some v) : lget ls j = some v ∧ ¬ (j + 1 = i ∧ v.category = 2) := by
  unfold kill2 at h
  cases i with
  | zero => exact ⟨h, by omega⟩
  | succ k =>
    simp only at h
    split at h
    · rename_i w hw
      split at h
      · rename_i hc
        rcases lget_lset _ _ _ _ _ h with ⟨h1, h2⟩ | ⟨h1, h2⟩
        · cases h2
        · exact ⟨h2, by omega⟩
      · rename_i hc
        refine ⟨h, ?_⟩
        rintro ⟨e, e2⟩
        have : j = k := by omega
        subst this
        rw [hw] at h
        cases h
        exact hc e2
    · rename_i hw
      refine ⟨h, ?_⟩
      rintro ⟨e, e2⟩
      have : j = k := by omega
      subst this
      rw [hw] at h
      cases h
theorem set1_sub {E : EE} {ls : List (Option Value)} {i : Nat} {v : Value} : ∀ j w, lget (set1 ls i v) j = some w → (j, rv E w) ∈ ((i, rv E v) :: (lst E 0 ls).filter (fun q => !(q.1 == i) && !(q.1 + 1 == i && q.2.category == 2))) := by
  intro j w h
  rcases lget_lset _ _ _ _ _ h with ⟨h1, h2⟩ | ⟨h1, h2⟩
  · cases h2; subst h1; exact List.mem_cons_self
  · obtain ⟨h3, h4⟩ := kill2_get h2
    refine List.mem_cons_of_mem _ (List.mem_filter.mpr ⟨(lst_mem E ls 0 _).mpr ⟨j, w, h3, by rw [Nat.zero_add]⟩, ?_⟩)
    simp only [Bool.and_eq_true, Bool.not_eq_true', beq_eq_false_iff_ne, ne_eq, Bool.and_eq_false_iff, rv_cat]
    exact ⟨h1, by by_cases e : j + 1 = i; exact Or.inr (fun z => h4 ⟨e, z⟩); exact Or.inl e⟩
theorem set2_sub {E : EE} {ls : List (Option Value)} {i : Nat} {v : Value} : ∀ j w, lget (set2 ls i v) j = some w → (j, rv E w) ∈ ((i, rv E v) :: (lst E 0 ls).filter (fun q => !(q.1 == i) && (!(q.1 == i + 1) && !(q.1 + 1 == i && q.2.category == 2)))) := by
  intro j w h
  rcases lget_lset _ _ _ _ _ h with ⟨h1, h2⟩ | ⟨h0, h⟩
  · cases h2
  rcases lget_lset _ _ _ _ _ h with ⟨h1, h2⟩ | ⟨h1, h2⟩
  · cases h2; subst h1; exact List.mem_cons_self
  · obtain ⟨h3, h4⟩ := kill2_get h2
    refine List.mem_cons_of_mem _ (List.mem_filter.mpr ⟨(lst_mem E ls 0 _).mpr ⟨j, w, h3, by rw [Nat.zero_add]⟩, ?_⟩)
    simp only [Bool.and_eq_true, Bool.not_eq_true', beq_eq_false_iff_ne, ne_eq, Bool.and_eq_false_iff, rv_cat]
    exact ⟨h1, h0, by by_cases e : j + 1 = i; exact Or.inr (fun z => h4 ⟨e, z⟩); exact Or.inl e⟩
/-- locals at the entry -/
def entL : List Value → Nat → List (Option Value)
  | [], n => List.replicate n none
  | v :: t, n => if v.category = 2 then some v :: none :: entL t (n - 2) else some v :: entL t (n - 1)
end
section
/-! The judgement: from this place in a method, the machine comes to the method's end with Q. -/
theorem entL_sub (E : EE) : ∀ (vs : List Value) (n i : Nat) (j : Nat) (v : Value), lget (entL vs n) j = some v → (i + j, rv E v) ∈ lv_args i (vs.map (rv E))
  | [], n, i, j, v, h => by
    exfalso
    simp only [entL] at h
    induction n generalizing j with
    | zero => simp [lget] at h
    | succ n ih =>
      rw [List.replicate_succ] at h
      cases j with
      | zero => simp [lget] at h
      | succ j => exact ih j h
  | w :: t, n, i, j, v, h => by
    simp only [List.map_cons, lv_args, rv_cat]
    simp only [entL] at h
    by_cases hc : w.category = 2
    · rw [if_pos hc] at h ⊢
      cases j with
      | zero => simp only [lget] at h; cases h; exact List.mem_cons_self
      | succ j =>
        cases j with
        | zero => simp [lget] at h
        | succ j =>
          have := entL_sub E t (n - 2) (i + 2) j v h
          exact List.mem_cons_of_mem _ (by rw [show i + (j + 1 + 1) = i + 2 + j by omega]; exact this)
    · rw [if_neg hc] at h ⊢
      cases j with
      | zero => simp only [lget] at h; cases h; exact List.mem_cons_self
      | succ j =>
        have := entL_sub E t (n - 1) (i + 1) j v h
        exact List.mem_cons_of_mem _ (by rw [show i + (j + 1) = i + 1 + j by omega]; exact this)
def vsz : List Value → Nat
  | [] => 0
  | v :: t => (if v.category = 2 then 2 else 1) + vsz t
theorem vsz_eq (E : EE) : ∀ vs : List Value, (lg_sl (vs.map (rv E))).length = vsz vs
  | [] => rfl
  | v :: t => by
    have ih := vsz_eq E t
    simp only [lg_sl, List.map_cons, List.flatMap_cons, List.length_append, vsz, rv_cat] at ih ⊢
    rw [ih]
    by_cases hc : v.category = 2 <;> simp [hc]
theorem lvr_entry (E : EE) (vs : List Value) {n : Nat} (h : vsz vs ≤ n) : lvr E n (entL vs n) ((lg_sl (vs.map (rv E)) ++ List.replicate (n - (lg_sl (vs.map (rv E))).length) Slot.unset).toArray) := by
  refine lvr.sub (lv_entry (vs.map (rv E)) (n := n) (by rw [vsz_eq]; exact h)) (fun j v hv => ?_)
  have := entL_sub E vs n 0 j v hv
  rwa [Nat.zero_add] at this
abbrev QQ : Type := Option Value → List Shp → GG → Prop
/-- the instruction that returns r from a method of this result -/
def retOf : Option FieldType → Instr → Option Value → Prop
  | some .int, .ireturn, some (.int _) => True
  | some .boolean, .ireturn, some (.int x) => x = 0 ∨ x = 1
  | some .long, .lreturn, some (.long _) => True
  | some (.object _), .areturn, some (.ref _) => True
  | none, .return_, none => True
  | _, _, _ => False
/-- the context of a method's walk -/
def CT (E : EE) (M : MTy) (d MC MS : Nat) (Q : QQ) (p : Program) (e : Env) (R : Room) (s : State) (m : MethodId) (args : Array Value) (below : List Frame) (meth : Method) (c : Code) (Qw : State → Prop) : Prop :=
  (p.tables.exec = Jvm.exec ∧ c.code = M.2.2.1 ∧ c.maxLocals = M.2.2.2.1 ∧ s.vm.findClass (Rcls M.1) = some m.cls) ∧
  (∀ w ∈ WM M, w.before args s = true) ∧ Env2 E s ∧ E.2.2.1 ≤ s.heap.size ∧ (d ≤ R.frames ∧ 40 * d ≤ R.locals ∧ MC ≤ R.cells ∧ MS ≤ R.slots) ∧ meth.name = M.2.1.name ∧
  (∀ (r : Option Value) (sh : List Shp) (G : GG) (H : Heap) (locs : List Loc) (pc : Nat) (la : Array Slot) (ins : Instr), Q r sh G → HR E sh G s H → va_S (fr E) s.heap H locs → retOf M.2.2.2.2 ins r → decode M.2.2.1 pc = .ok (ins, 1) →
    W p E.1 e R s m args below meth c H locs MC MS Qw (F0 m pc la (r.toList.map (rv E))))
def Rn (E : EE) (M : MTy) (d MC MS cs sl pc : Nat) (ls : List (Option Value)) (st : List Value) (sh : List Shp) (G : GG) (Q : QQ) : Prop :=
  ∀ p e R s m args below meth c Qw, CT E M d MC MS Q p e R s m args below meth c Qw → ∀ H locs la, HR E sh G s H → va_S (fr E) s.heap H locs → lvr E M.2.2.2.1 ls la →
    W p E.1 e R s m args below meth c H locs cs sl Qw (F0 m pc la (st.map (rv E)))
def rmE (d mc ms : Nat) : Room := { frames := d, cells := mc, slots := ms, locals := 40 * d }
def PcE (E : EE) (vs : List Value) (sh : List Shp) (G : GG) : Array Value → State → Prop := fun a U => a = (vs.map (rv E)).toArray ∧ Env2 E U ∧ HR E sh G U U.heap
def QcE (E : EE) (Q : QQ) : Array Value → State → Outcome → State → Prop := fun _ st oc t => (∃ (r : Option Value) (sh : List Shp) (G : GG), oc = .returned (r.map (rv E)) ∧ Q r sh G ∧ HR E sh G t t.heap) ∧ va_F (fr E) st t
def Ev (E : EE) (d : Nat) (M : MTy) (vs : List Value) (sh : List Shp) (G : GG) (mc ms : Nat) (Q : QQ) : Prop := Met E.1 M.2.1 (WM M) (rmE d mc ms) (PcE E vs sh G) (QcE E Q) mc ms (fr E)
def OkM (M : MTy) : Prop := Cond.code M.2.1 M.2.2.1 M.2.2.2.1 M.2.2.2.2 ∈ lw_good ∧ Cond.initialized M.2.1.cls ∈ lw_good ∧ M.2.1.cls = Rcls M.1 ∧ plainName M.2.1.cls = true ∧ (M.2.1.cls ≠ "java/lang/invoke/MethodHandle" ∧ M.2.1.cls ≠ "java/lang/invoke/VarHandle")
theorem HR.lo {E : EE} {sh : List Shp} {G : GG} {U : State} {H : Heap} (h : HR E sh G U H) : E.2.2.1 ≤ H.size := by rw [h.1.2]; exact Nat.le_add_right _ _
set_option maxHeartbeats 1000000 in
theorem Ev.of {E : EE} {d : Nat} {M : MTy} {vs : List Value} {sh : List Shp} {G : GG} {mc ms : Nat} {Q : QQ} (hM : OkM M) (hv : vsz vs ≤ M.2.2.2.1) (hR : Rn E M d mc ms 0 0 0 (entL vs M.2.2.2.1) [] sh G Q) : Ev E d M vs sh G mc ms Q := by
  refine Met.ofW (cc := M.2.2.1) (maxL := M.2.2.2.1) (ret := M.2.2.2.2) hM.2.2.2.1 rfl ?_
  intro p e s m args below meth c s₁ B hml hp
  obtain ⟨rfl, hE, hH⟩ := hp
  have hx := B.exec
  have hb := B.bytes
  have hr := B.returns
  have hts := atoms_spec (ws := WM M) B.pre
  have hown : s.vm.findClass M.2.1.cls = some m.cls := findClass_of_methodNamed B.named
  have hlocks := B.notSynchronized
  have hin : meth.name = M.2.1.name := (name_of_methodNamed B.named B.method).1
  rw [lg_entry_eq]
  refine hR p e _ s m _ below meth c (MQ below (QcE E Q) ((vs.map (rv E)).toArray) s mc ms (fr E)) ⟨⟨hx, hb, hml, by rw [← hM.2.2.1]; exact hown⟩, hts, hE, hH.lo, ⟨Nat.le_refl _, Nat.le_refl _, Nat.le_refl _, Nat.le_refl _⟩, hin, ?_⟩ s.heap [] _ hH va_S.rf (lvr_entry E vs hv)
  intro r sh' G' H locs pc la ins hq hH' hS hret hdec
  have fin : ∀ (o : Option Value), o = r.map (rv E) → ∀ t : State, t.heap = H → s.WarmedH t.vm → QcE E Q ((vs.map (rv E)).toArray) s (.returned o) t := by
    intro o ho t ht hW
    refine ⟨⟨r, sh', G', by rw [ho], hq, ?_⟩, hS.F ht⟩
    rw [ht]
    exact hH'.moved hW.alike
  cases r with
  | none =>
    cases hrt : M.2.2.2.2 with
    | none =>
      rw [hrt] at hret hr
      cases ins <;> first | (simp [retOf] at hret; done) | exact W.vret hx hb hr (fin none rfl) hS.2.2 hdec
    | some ty => rw [hrt] at hret; cases ty <;> cases ins <;> simp [retOf] at hret
  | some v =>
    cases hrt : M.2.2.2.2 with
    | none => rw [hrt] at hret; cases ins <;> simp [retOf] at hret
    | some ty =>
      rw [hrt] at hret hr
      cases ty with
      | int =>
        cases v <;> cases ins <;> first | (simp [retOf] at hret; done) | exact W.iret hx hb hr (fin _ rfl) hS.2.2 hdec
      | boolean =>
        cases v with
        | int x =>
          cases ins <;> first | (simp [retOf] at hret; done) | skip
          refine W.zret hx hb hr ?_ (fin _ rfl) hS.2.2 hdec
          rcases (show x = 0 ∨ x = 1 from hret) with rfl | rfl <;> rfl
        | _ => cases ins <;> simp [retOf] at hret
      | long =>
        cases v <;> cases ins <;> first | (simp [retOf] at hret; done) | exact W.lret hx hb hr (fin _ rfl) hS.2.2 hdec
      | object n =>
        cases v <;> cases ins <;> first | (simp [retOf] at hret; done) | exact W.aret hx hb hr (Or.inl ⟨_, rfl⟩) (Or.inr ⟨_, rfl⟩) (fin _ rfl) hS.2.2 hdec
      | _ => cases v <;> cases ins <;> simp [retOf] at hret
section RET
variable {E : EE} {M : MTy} {d MC MS cs sl pc : Nat} {ls : List (Option Value)} {st : List Value} {sh : List Shp} {G : GG} {Q : QQ}
theorem Rn.ret {r : Option Value} {ins : Instr} (hdec : decode M.2.2.1 pc = .ok (ins, 1)) (hr : retOf M.2.2.2.2 ins r) (hst : st = r.toList) (hc : cs ≤ MC) (hs : sl ≤ MS) (hq : Q r sh G) : Rn E M d MC MS cs sl pc ls st sh G Q := by
  intro p e R s m args below meth c Qw C H locs la hH hS hL
  subst hst
  exact W.widen hc hs (C.2.2.2.2.2.2 r sh G H locs pc la ins hq hH hS hr hdec)
theorem Rn.post {Q2 : QQ} (h : Rn E M d MC MS cs sl pc ls st sh G Q2) (hq : ∀ r sh G, Q2 r sh G → Q r sh G) : Rn E M d MC MS cs sl pc ls st sh G Q := by
  intro p e R s m args below meth c Qw C H locs la hH hS hL
  exact h p e R s m args below meth c Qw ⟨C.1, C.2.1, C.2.2.1, C.2.2.2.1, C.2.2.2.2.1, C.2.2.2.2.2.1, fun r sh G H locs pc la ins q1 => C.2.2.2.2.2.2 r sh G H locs pc la ins (hq r sh G q1)⟩ H locs la hH hS hL
end RET
end
section
/-! Printed by wip/whole/gen/gen_links.py: methods, their words, links. -/
theorem gd {w : Cond} (i : Nat) (h : lw_tbl[i]? = some w) (hg : goodWord w = true) : w ∈ lw_good := List.mem_filter.mpr ⟨List.mem_of_getElem? h, hg⟩
theorem nd {w : Cond} (i : Nat) (h : lw_tbl[i]? = some w) (hg : isNestW w = true) : w ∈ lw_nest := List.mem_filter.mpr ⟨List.mem_of_getElem? h, hg⟩
def npar (M : MTy) : Nat := ((parseMethodDescriptor M.2.1.desc).map (fun d => d.parameters.length)).getD 0
def OkN (M : MTy) : Prop := OkM M ∧ (parseMethodDescriptor M.2.1.desc).map (fun d => d.parameters.length) = some (npar M)
def OkI (M : MTy) : Prop := Cond.instanceMethod M.2.1 ∈ lw_good ∧ Cond.selects M.2.1.cls M.2.1 M.2.1 ∈ lw_good ∧ OkN M
def OkS (M : MTy) : Prop := Cond.static M.2.1 ∈ lw_good ∧ OkN M
def OkC (M : MTy) : Prop := Cond.instanceMethod M.2.1 ∈ lw_good ∧ M.2.1.name = "<init>" ∧ OkN M
def Lnk (oc idx : Nat) (M : MTy) : Prop := Cond.methodLink (Rcls oc) idx M.2.1 ∈ lw_good ∨ ∃ host : String, Cond.methodLinkNest (Rcls oc) idx M.2.1 host ∈ lw_nest
def mX0_init : MTy := (0, yX0_init, cX0_init, 1, none)
set_option maxRecDepth 20000 in
theorem okX0_init : OkC mX0_init := ⟨gd 110 rfl rfl, rfl, ⟨⟨gd 111 rfl rfl, gd 70 rfl rfl, rfl, by decide, by decide +kernel⟩, by decide +kernel⟩⟩
def mX0_tell : MTy := (0, yX0_tell, cX0_tell, 3, none)
set_option maxRecDepth 20000 in
theorem okX0_tell : OkI mX0_tell := ⟨gd 403 rfl rfl, gd 404 rfl rfl, ⟨⟨gd 405 rfl rfl, gd 70 rfl rfl, rfl, by decide, by decide +kernel⟩, by decide +kernel⟩⟩
def mX0_goHome : MTy := (0, yX0_goHome, cX0_goHome, 3, (some .int))
set_option maxRecDepth 20000 in
theorem okX0_goHome : OkI mX0_goHome := ⟨gd 523 rfl rfl, gd 524 rfl rfl, ⟨⟨gd 525 rfl rfl, gd 70 rfl rfl, rfl, by decide, by decide +kernel⟩, by decide +kernel⟩⟩
def mX0_canTrade : MTy := (0, yX0_canTrade, cX0_canTrade, 3, (some .boolean))
set_option maxRecDepth 20000 in
theorem okX0_canTrade : OkI mX0_canTrade := ⟨gd 553 rfl rfl, gd 554 rfl rfl, ⟨⟨gd 555 rfl rfl, gd 70 rfl rfl, rfl, by decide, by decide +kernel⟩, by decide +kernel⟩⟩
def mX0_gain : MTy := (0, yX0_gain, cX0_gain, 3, (some .int))
set_option maxRecDepth 20000 in
theorem okX0_gain : OkI mX0_gain := ⟨gd 561 rfl rfl, gd 562 rfl rfl, ⟨⟨gd 563 rfl rfl, gd 70 rfl rfl, rfl, by decide, by decide +kernel⟩, by decide +kernel⟩⟩
def mX0_sellsTo : MTy := (0, yX0_sellsTo, cX0_sellsTo, 3, (some .boolean))
set_option maxRecDepth 20000 in
theorem okX0_sellsTo : OkI mX0_sellsTo := ⟨gd 558 rfl rfl, gd 9 rfl rfl, ⟨⟨gd 559 rfl rfl, gd 70 rfl rfl, rfl, by decide, by decide +kernel⟩, by decide +kernel⟩⟩
def mX0_place : MTy := (0, yX0_place, cX0_place, 5, none)
set_option maxRecDepth 20000 in
theorem okX0_place : OkI mX0_place := ⟨gd 431 rfl rfl, gd 2 rfl rfl, ⟨⟨gd 432 rfl rfl, gd 70 rfl rfl, rfl, by decide, by decide +kernel⟩, by decide +kernel⟩⟩
def mX0_number : MTy := (0, yX0_number, cX0_number, 2, (some .int))
set_option maxRecDepth 20000 in
theorem okX0_number : OkS mX0_number := ⟨gd 424 rfl rfl, ⟨⟨gd 425 rfl rfl, gd 70 rfl rfl, rfl, by decide, by decide +kernel⟩, by decide +kernel⟩⟩
def mX0_faultOf : MTy := (0, yX0_faultOf, cX0_faultOf, 4, (some .int))
set_option maxRecDepth 20000 in
theorem okX0_faultOf : OkS mX0_faultOf := ⟨gd 407 rfl rfl, ⟨⟨gd 408 rfl rfl, gd 70 rfl rfl, rfl, by decide, by decide +kernel⟩, by decide +kernel⟩⟩
def mX0_faultAt : MTy := (0, yX0_faultAt, cX0_faultAt, 3, (some .int))
set_option maxRecDepth 20000 in
theorem okX0_faultAt : OkS mX0_faultAt := ⟨gd 414 rfl rfl, ⟨⟨gd 415 rfl rfl, gd 70 rfl rfl, rfl, by decide, by decide +kernel⟩, by decide +kernel⟩⟩
def mX1_init : MTy := (1, yX1_init, cX1_init, 1, none)
set_option maxRecDepth 20000 in
theorem okX1_init : OkC mX1_init := ⟨gd 174 rfl rfl, rfl, ⟨⟨gd 175 rfl rfl, gd 72 rfl rfl, rfl, by decide, by decide +kernel⟩, by decide +kernel⟩⟩
def mX1_tell : MTy := (1, yX1_tell, cX1_tell, 3, none)
set_option maxRecDepth 20000 in
theorem okX1_tell : OkI mX1_tell := ⟨gd 434 rfl rfl, gd 435 rfl rfl, ⟨⟨gd 436 rfl rfl, gd 72 rfl rfl, rfl, by decide, by decide +kernel⟩, by decide +kernel⟩⟩
def mX1_faultOf : MTy := (1, yX1_faultOf, cX1_faultOf, 10, (some .int))
set_option maxRecDepth 20000 in
theorem okX1_faultOf : OkI mX1_faultOf := ⟨gd 440 rfl rfl, gd 3 rfl rfl, ⟨⟨gd 441 rfl rfl, gd 72 rfl rfl, rfl, by decide, by decide +kernel⟩, by decide +kernel⟩⟩
def mX2_init : MTy := (2, yX2_init, cX2_init, 2, none)
set_option maxRecDepth 20000 in
theorem okX2_init : OkC mX2_init := ⟨gd 156 rfl rfl, rfl, ⟨⟨gd 157 rfl rfl, gd 71 rfl rfl, rfl, by decide, by decide +kernel⟩, by decide +kernel⟩⟩
def mX2_square : MTy := (2, yX2_square, cX2_square, 2, (some .int))
set_option maxRecDepth 20000 in
theorem okX2_square : OkI mX2_square := ⟨gd 501 rfl rfl, gd 502 rfl rfl, ⟨⟨gd 503 rfl rfl, gd 71 rfl rfl, rfl, by decide, by decide +kernel⟩, by decide +kernel⟩⟩
def mX2_lawfulStep : MTy := (2, yX2_lawfulStep, cX2_lawfulStep, 5, (some .int))
set_option maxRecDepth 20000 in
theorem okX2_lawfulStep : OkI mX2_lawfulStep := ⟨gd 486 rfl rfl, gd 487 rfl rfl, ⟨⟨gd 488 rfl rfl, gd 71 rfl rfl, rfl, by decide, by decide +kernel⟩, by decide +kernel⟩⟩
def mX2_mayStand : MTy := (2, yX2_mayStand, cX2_mayStand, 6, (some .boolean))
set_option maxRecDepth 20000 in
theorem okX2_mayStand : OkI mX2_mayStand := ⟨gd 497 rfl rfl, gd 498 rfl rfl, ⟨⟨gd 499 rfl rfl, gd 71 rfl rfl, rfl, by decide, by decide +kernel⟩, by decide +kernel⟩⟩
def mX2_firstNearer : MTy := (2, yX2_firstNearer, cX2_firstNearer, 8, (some .int))
set_option maxRecDepth 20000 in
theorem okX2_firstNearer : OkI mX2_firstNearer := ⟨gd 540 rfl rfl, gd 541 rfl rfl, ⟨⟨gd 542 rfl rfl, gd 71 rfl rfl, rfl, by decide, by decide +kernel⟩, by decide +kernel⟩⟩
def mX2_verdict : MTy := (2, yX2_verdict, cX2_verdict, 5, (some .int))
set_option maxRecDepth 20000 in
theorem okX2_verdict : OkI mX2_verdict := ⟨gd 544 rfl rfl, gd 545 rfl rfl, ⟨⟨gd 546 rfl rfl, gd 71 rfl rfl, rfl, by decide, by decide +kernel⟩, by decide +kernel⟩⟩
def mX2_bindingPairs : MTy := (2, yX2_bindingPairs, cX2_bindingPairs, 5, (some .int))
set_option maxRecDepth 20000 in
theorem okX2_bindingPairs : OkI mX2_bindingPairs := ⟨gd 569 rfl rfl, gd 570 rfl rfl, ⟨⟨gd 571 rfl rfl, gd 71 rfl rfl, rfl, by decide, by decide +kernel⟩, by decide +kernel⟩⟩
def mX2_bestDue : MTy := (2, yX2_bestDue, cX2_bestDue, 7, (some .int))
set_option maxRecDepth 20000 in
theorem okX2_bestDue : OkI mX2_bestDue := ⟨gd 779 rfl rfl, gd 780 rfl rfl, ⟨⟨gd 781 rfl rfl, gd 71 rfl rfl, rfl, by decide, by decide +kernel⟩, by decide +kernel⟩⟩
def mX2_hindered : MTy := (2, yX2_hindered, cX2_hindered, 6, (some .int))
set_option maxRecDepth 20000 in
theorem okX2_hindered : OkI mX2_hindered := ⟨gd 673 rfl rfl, gd 674 rfl rfl, ⟨⟨gd 675 rfl rfl, gd 71 rfl rfl, rfl, by decide, by decide +kernel⟩, by decide +kernel⟩⟩
def mX2_isHinderedBy : MTy := (2, yX2_isHinderedBy, cX2_isHinderedBy, 4, (some .boolean))
set_option maxRecDepth 20000 in
theorem okX2_isHinderedBy : OkI mX2_isHinderedBy := ⟨gd 678 rfl rfl, gd 19 rfl rfl, ⟨⟨gd 679 rfl rfl, gd 71 rfl rfl, rfl, by decide, by decide +kernel⟩, by decide +kernel⟩⟩
def mX2_verdictBy : MTy := (2, yX2_verdictBy, cX2_verdictBy, 6, (some .int))
set_option maxRecDepth 20000 in
theorem okX2_verdictBy : OkI mX2_verdictBy := ⟨gd 549 rfl rfl, gd 8 rfl rfl, ⟨⟨gd 550 rfl rfl, gd 71 rfl rfl, rfl, by decide, by decide +kernel⟩, by decide +kernel⟩⟩
def mX3_init : MTy := (3, yX3_init, cX3_init, 2, none)
set_option maxRecDepth 20000 in
theorem okX3_init : OkC mX3_init := ⟨gd 229 rfl rfl, rfl, ⟨⟨gd 230 rfl rfl, gd 74 rfl rfl, rfl, by decide, by decide +kernel⟩, by decide +kernel⟩⟩
def mX3_solve : MTy := (3, yX3_solve, cX3_solve, 4, none)
set_option maxRecDepth 20000 in
theorem okX3_solve : OkI mX3_solve := ⟨gd 577 rfl rfl, gd 578 rfl rfl, ⟨⟨gd 579 rfl rfl, gd 74 rfl rfl, rfl, by decide, by decide +kernel⟩, by decide +kernel⟩⟩
def mX3_choose : MTy := (3, yX3_choose, cX3_choose, 7, none)
set_option maxRecDepth 20000 in
theorem okX3_choose : OkI mX3_choose := ⟨gd 583 rfl rfl, gd 10 rfl rfl, ⟨⟨gd 584 rfl rfl, gd 74 rfl rfl, rfl, by decide, by decide +kernel⟩, by decide +kernel⟩⟩
def mX3_keepIfBetter : MTy := (3, yX3_keepIfBetter, cX3_keepIfBetter, 3, none)
set_option maxRecDepth 20000 in
theorem okX3_keepIfBetter : OkI mX3_keepIfBetter := ⟨gd 587 rfl rfl, gd 11 rfl rfl, ⟨⟨gd 588 rfl rfl, gd 74 rfl rfl, rfl, by decide, by decide +kernel⟩, by decide +kernel⟩⟩
def mX4_init : MTy := (4, yX4_init, cX4_init, 1, none)
set_option maxRecDepth 20000 in
theorem okX4_init : OkC mX4_init := ⟨gd 279 rfl rfl, rfl, ⟨⟨gd 280 rfl rfl, gd 76 rfl rfl, rfl, by decide, by decide +kernel⟩, by decide +kernel⟩⟩
def mX4_isFull : MTy := (4, yX4_isFull, cX4_isFull, 1, (some .boolean))
set_option maxRecDepth 20000 in
theorem okX4_isFull : OkI mX4_isFull := ⟨gd 690 rfl rfl, gd 691 rfl rfl, ⟨⟨gd 692 rfl rfl, gd 76 rfl rfl, rfl, by decide, by decide +kernel⟩, by decide +kernel⟩⟩
def mX4_has : MTy := (4, yX4_has, cX4_has, 2, (some .boolean))
set_option maxRecDepth 20000 in
theorem okX4_has : OkI mX4_has := ⟨gd 734 rfl rfl, gd 735 rfl rfl, ⟨⟨gd 736 rfl rfl, gd 76 rfl rfl, rfl, by decide, by decide +kernel⟩, by decide +kernel⟩⟩
def mX4_add : MTy := (4, yX4_add, cX4_add, 2, (some .int))
set_option maxRecDepth 20000 in
theorem okX4_add : OkI mX4_add := ⟨gd 694 rfl rfl, gd 695 rfl rfl, ⟨⟨gd 696 rfl rfl, gd 76 rfl rfl, rfl, by decide, by decide +kernel⟩, by decide +kernel⟩⟩
def mX4_clear : MTy := (4, yX4_clear, cX4_clear, 2, (some .int))
set_option maxRecDepth 20000 in
theorem okX4_clear : OkI mX4_clear := ⟨gd 703 rfl rfl, gd 704 rfl rfl, ⟨⟨gd 705 rfl rfl, gd 76 rfl rfl, rfl, by decide, by decide +kernel⟩, by decide +kernel⟩⟩
def mX4_pairsAt : MTy := (4, yX4_pairsAt, cX4_pairsAt, 5, (some .int))
set_option maxRecDepth 20000 in
theorem okX4_pairsAt : OkI mX4_pairsAt := ⟨gd 712 rfl rfl, gd 713 rfl rfl, ⟨⟨gd 714 rfl rfl, gd 76 rfl rfl, rfl, by decide, by decide +kernel⟩, by decide +kernel⟩⟩
def mX4_seenFrom : MTy := (4, yX4_seenFrom, cX4_seenFrom, 5, (some .int))
set_option maxRecDepth 20000 in
theorem okX4_seenFrom : OkI mX4_seenFrom := ⟨gd 725 rfl rfl, gd 726 rfl rfl, ⟨⟨gd 727 rfl rfl, gd 76 rfl rfl, rfl, by decide, by decide +kernel⟩, by decide +kernel⟩⟩
def mX4_bestSpot : MTy := (4, yX4_bestSpot, cX4_bestSpot, 6, (some .int))
set_option maxRecDepth 20000 in
theorem okX4_bestSpot : OkI mX4_bestSpot := ⟨gd 721 rfl rfl, gd 722 rfl rfl, ⟨⟨gd 723 rfl rfl, gd 76 rfl rfl, rfl, by decide, by decide +kernel⟩, by decide +kernel⟩⟩
def mX4_commonSpots : MTy := (4, yX4_commonSpots, cX4_commonSpots, 6, (some .int))
set_option maxRecDepth 20000 in
theorem okX4_commonSpots : OkI mX4_commonSpots := ⟨gd 738 rfl rfl, gd 739 rfl rfl, ⟨⟨gd 740 rfl rfl, gd 76 rfl rfl, rfl, by decide, by decide +kernel⟩, by decide +kernel⟩⟩
def mX4_commonSpot : MTy := (4, yX4_commonSpot, cX4_commonSpot, 7, (some .int))
set_option maxRecDepth 20000 in
theorem okX4_commonSpot : OkI mX4_commonSpot := ⟨gd 746 rfl rfl, gd 747 rfl rfl, ⟨⟨gd 748 rfl rfl, gd 76 rfl rfl, rfl, by decide, by decide +kernel⟩, by decide +kernel⟩⟩
def mX4_isCommon : MTy := (4, yX4_isCommon, cX4_isCommon, 5, (some .boolean))
set_option maxRecDepth 20000 in
theorem okX4_isCommon : OkI mX4_isCommon := ⟨gd 743 rfl rfl, gd 20 rfl rfl, ⟨⟨gd 744 rfl rfl, gd 76 rfl rfl, rfl, by decide, by decide +kernel⟩, by decide +kernel⟩⟩
def mX5_init : MTy := (5, yX5_init, cX5_init, 1, none)
set_option maxRecDepth 20000 in
theorem okX5_init : OkC mX5_init := ⟨gd 321 rfl rfl, rfl, ⟨⟨gd 322 rfl rfl, gd 78 rfl rfl, rfl, by decide, by decide +kernel⟩, by decide +kernel⟩⟩
def mX5_renew : MTy := (5, yX5_renew, cX5_renew, 3, none)
set_option maxRecDepth 20000 in
theorem okX5_renew : OkI mX5_renew := ⟨gd 791 rfl rfl, gd 792 rfl rfl, ⟨⟨gd 793 rfl rfl, gd 78 rfl rfl, rfl, by decide, by decide +kernel⟩, by decide +kernel⟩⟩
def mX5_findingAt : MTy := (5, yX5_findingAt, cX5_findingAt, 3, (some .int))
set_option maxRecDepth 20000 in
theorem okX5_findingAt : OkI mX5_findingAt := ⟨gd 804 rfl rfl, gd 805 rfl rfl, ⟨⟨gd 806 rfl rfl, gd 78 rfl rfl, rfl, by decide, by decide +kernel⟩, by decide +kernel⟩⟩
def mX5_hasRange : MTy := (5, yX5_hasRange, cX5_hasRange, 3, (some .boolean))
set_option maxRecDepth 20000 in
theorem okX5_hasRange : OkI mX5_hasRange := ⟨gd 821 rfl rfl, gd 822 rfl rfl, ⟨⟨gd 823 rfl rfl, gd 78 rfl rfl, rfl, by decide, by decide +kernel⟩, by decide +kernel⟩⟩
def mX5_store : MTy := (5, yX5_store, cX5_store, 3, none)
set_option maxRecDepth 20000 in
theorem okX5_store : OkI mX5_store := ⟨gd 808 rfl rfl, gd 809 rfl rfl, ⟨⟨gd 810 rfl rfl, gd 78 rfl rfl, rfl, by decide, by decide +kernel⟩, by decide +kernel⟩⟩
def mX6_init : MTy := (6, yX6_init, cX6_init, 2, none)
set_option maxRecDepth 20000 in
theorem okX6_init : OkC mX6_init := ⟨gd 293 rfl rfl, rfl, ⟨⟨gd 294 rfl rfl, gd 77 rfl rfl, rfl, by decide, by decide +kernel⟩, by decide +kernel⟩⟩
def mX6_seek : MTy := (6, yX6_seek, cX6_seek, 3, none)
set_option maxRecDepth 20000 in
theorem okX6_seek : OkI mX6_seek := ⟨gd 754 rfl rfl, gd 755 rfl rfl, ⟨⟨gd 756 rfl rfl, gd 77 rfl rfl, rfl, by decide, by decide +kernel⟩, by decide +kernel⟩⟩
def mX6_profitOn : MTy := (6, yX6_profitOn, cX6_profitOn, 7, (some .int))
set_option maxRecDepth 20000 in
theorem okX6_profitOn : OkI mX6_profitOn := ⟨gd 760 rfl rfl, gd 21 rfl rfl, ⟨⟨gd 761 rfl rfl, gd 77 rfl rfl, rfl, by decide, by decide +kernel⟩, by decide +kernel⟩⟩
def mX6_ask : MTy := (6, yX6_ask, cX6_ask, 4, none)
set_option maxRecDepth 20000 in
theorem okX6_ask : OkI mX6_ask := ⟨gd 767 rfl rfl, gd 22 rfl rfl, ⟨⟨gd 768 rfl rfl, gd 77 rfl rfl, rfl, by decide, by decide +kernel⟩, by decide +kernel⟩⟩
def mX6_margins : MTy := (6, yX6_margins, cX6_margins, 3, (some .int))
set_option maxRecDepth 20000 in
theorem okX6_margins : OkI mX6_margins := ⟨gd 772 rfl rfl, gd 23 rfl rfl, ⟨⟨gd 773 rfl rfl, gd 77 rfl rfl, rfl, by decide, by decide +kernel⟩, by decide +kernel⟩⟩
def mX7_init : MTy := (7, yX7_init, cX7_init, 2, none)
set_option maxRecDepth 20000 in
theorem okX7_init : OkC mX7_init := ⟨gd 93 rfl rfl, rfl, ⟨⟨gd 94 rfl rfl, gd 68 rfl rfl, rfl, by decide, by decide +kernel⟩, by decide +kernel⟩⟩
def mX7_length : MTy := (7, yX7_length, cX7_length, 1, (some .int))
set_option maxRecDepth 20000 in
theorem okX7_length : OkI mX7_length := ⟨gd 410 rfl rfl, gd 411 rfl rfl, ⟨⟨gd 412 rfl rfl, gd 68 rfl rfl, rfl, by decide, by decide +kernel⟩, by decide +kernel⟩⟩
def mX7_isFull : MTy := (7, yX7_isFull, cX7_isFull, 1, (some .boolean))
set_option maxRecDepth 20000 in
theorem okX7_isFull : OkI mX7_isFull := ⟨gd 390 rfl rfl, gd 391 rfl rfl, ⟨⟨gd 392 rfl rfl, gd 68 rfl rfl, rfl, by decide, by decide +kernel⟩, by decide +kernel⟩⟩
def mX7_add : MTy := (7, yX7_add, cX7_add, 2, none)
set_option maxRecDepth 20000 in
theorem okX7_add : OkI mX7_add := ⟨gd 394 rfl rfl, gd 395 rfl rfl, ⟨⟨gd 396 rfl rfl, gd 68 rfl rfl, rfl, by decide, by decide +kernel⟩, by decide +kernel⟩⟩
def mX7_clear : MTy := (7, yX7_clear, cX7_clear, 2, (some .int))
set_option maxRecDepth 20000 in
theorem okX7_clear : OkI mX7_clear := ⟨gd 453 rfl rfl, gd 454 rfl rfl, ⟨⟨gd 455 rfl rfl, gd 68 rfl rfl, rfl, by decide, by decide +kernel⟩, by decide +kernel⟩⟩
def mX7_at : MTy := (7, yX7_at, cX7_at, 2, (some .int))
set_option maxRecDepth 20000 in
theorem okX7_at : OkI mX7_at := ⟨gd 417 rfl rfl, gd 418 rfl rfl, ⟨⟨gd 419 rfl rfl, gd 68 rfl rfl, rfl, by decide, by decide +kernel⟩, by decide +kernel⟩⟩
def mX8_init : MTy := (8, yX8_init, cX8_init, 2, none)
set_option maxRecDepth 20000 in
theorem okX8_init : OkC mX8_init := ⟨gd 203 rfl rfl, rfl, ⟨⟨gd 204 rfl rfl, gd 73 rfl rfl, rfl, by decide, by decide +kernel⟩, by decide +kernel⟩⟩
def mX8_judge : MTy := (8, yX8_judge, cX8_judge, 4, none)
set_option maxRecDepth 20000 in
theorem okX8_judge : OkI mX8_judge := ⟨gd 602 rfl rfl, gd 603 rfl rfl, ⟨⟨gd 604 rfl rfl, gd 73 rfl rfl, rfl, by decide, by decide +kernel⟩, by decide +kernel⟩⟩
def mX8_result : MTy := (8, yX8_result, cX8_result, 2, (some .int))
set_option maxRecDepth 20000 in
theorem okX8_result : OkI mX8_result := ⟨gd 617 rfl rfl, gd 618 rfl rfl, ⟨⟨gd 619 rfl rfl, gd 73 rfl rfl, rfl, by decide, by decide +kernel⟩, by decide +kernel⟩⟩
def mX8_moves : MTy := (8, yX8_moves, cX8_moves, 4, (some .boolean))
set_option maxRecDepth 20000 in
theorem okX8_moves : OkI mX8_moves := ⟨gd 613 rfl rfl, gd 13 rfl rfl, ⟨⟨gd 614 rfl rfl, gd 73 rfl rfl, rfl, by decide, by decide +kernel⟩, by decide +kernel⟩⟩
def mX8_strikes : MTy := (8, yX8_strikes, cX8_strikes, 3, (some .boolean))
set_option maxRecDepth 20000 in
theorem okX8_strikes : OkI mX8_strikes := ⟨gd 607 rfl rfl, gd 12 rfl rfl, ⟨⟨gd 608 rfl rfl, gd 73 rfl rfl, rfl, by decide, by decide +kernel⟩, by decide +kernel⟩⟩
def mX9_init : MTy := (9, yX9_init, cX9_init, 2, none)
set_option maxRecDepth 20000 in
theorem okX9_init : OkC mX9_init := ⟨gd 257 rfl rfl, rfl, ⟨⟨gd 258 rfl rfl, gd 75 rfl rfl, rfl, by decide, by decide +kernel⟩, by decide +kernel⟩⟩
def mX9_search : MTy := (9, yX9_search, cX9_search, 5, (some .int))
set_option maxRecDepth 20000 in
theorem okX9_search : OkI mX9_search := ⟨gd 629 rfl rfl, gd 630 rfl rfl, ⟨⟨gd 631 rfl rfl, gd 75 rfl rfl, rfl, by decide, by decide +kernel⟩, by decide +kernel⟩⟩
def mX9_direction : MTy := (9, yX9_direction, cX9_direction, 6, (some .int))
set_option maxRecDepth 20000 in
theorem okX9_direction : OkI mX9_direction := ⟨gd 661 rfl rfl, gd 662 rfl rfl, ⟨⟨gd 663 rfl rfl, gd 75 rfl rfl, rfl, by decide, by decide +kernel⟩, by decide +kernel⟩⟩
def mX9_leastDirection : MTy := (9, yX9_leastDirection, cX9_leastDirection, 4, (some .int))
set_option maxRecDepth 20000 in
theorem okX9_leastDirection : OkI mX9_leastDirection := ⟨gd 666 rfl rfl, gd 18 rfl rfl, ⟨⟨gd 667 rfl rfl, gd 75 rfl rfl, rfl, by decide, by decide +kernel⟩, by decide +kernel⟩⟩
def mX9_queueGoals : MTy := (9, yX9_queueGoals, cX9_queueGoals, 5, none)
set_option maxRecDepth 20000 in
theorem okX9_queueGoals : OkI mX9_queueGoals := ⟨gd 639 rfl rfl, gd 14 rfl rfl, ⟨⟨gd 640 rfl rfl, gd 75 rfl rfl, rfl, by decide, by decide +kernel⟩, by decide +kernel⟩⟩
def mX9_queueNeighbours : MTy := (9, yX9_queueNeighbours, cX9_queueNeighbours, 6, none)
set_option maxRecDepth 20000 in
theorem okX9_queueNeighbours : OkI mX9_queueNeighbours := ⟨gd 653 rfl rfl, gd 17 rfl rfl, ⟨⟨gd 654 rfl rfl, gd 75 rfl rfl, rfl, by decide, by decide +kernel⟩, by decide +kernel⟩⟩
def mX9_isOpen : MTy := (9, yX9_isOpen, cX9_isOpen, 4, (some .boolean))
set_option maxRecDepth 20000 in
theorem okX9_isOpen : OkI mX9_isOpen := ⟨gd 644 rfl rfl, gd 15 rfl rfl, ⟨⟨gd 645 rfl rfl, gd 75 rfl rfl, rfl, by decide, by decide +kernel⟩, by decide +kernel⟩⟩
def mX9_enqueue : MTy := (9, yX9_enqueue, cX9_enqueue, 3, none)
set_option maxRecDepth 20000 in
theorem okX9_enqueue : OkI mX9_enqueue := ⟨gd 649 rfl rfl, gd 16 rfl rfl, ⟨⟨gd 650 rfl rfl, gd 75 rfl rfl, rfl, by decide, by decide +kernel⟩, by decide +kernel⟩⟩
def mX10_init : MTy := (10, yX10_init, cX10_init, 2, none)
set_option maxRecDepth 20000 in
theorem okX10_init : OkC mX10_init := ⟨gd 85 rfl rfl, rfl, ⟨⟨gd 86 rfl rfl, gd 67 rfl rfl, rfl, by decide, by decide +kernel⟩, by decide +kernel⟩⟩
def mX10_type : MTy := (10, yX10_type, cX10_type, 4, (some .int))
set_option maxRecDepth 20000 in
theorem okX10_type : OkI mX10_type := ⟨gd 379 rfl rfl, gd 380 rfl rfl, ⟨⟨gd 381 rfl rfl, gd 67 rfl rfl, rfl, by decide, by decide +kernel⟩, by decide +kernel⟩⟩
def mX10_wipe : MTy := (10, yX10_wipe, cX10_wipe, 3, (some .int))
set_option maxRecDepth 20000 in
theorem okX10_wipe : OkI mX10_wipe := ⟨gd 449 rfl rfl, gd 450 rfl rfl, ⟨⟨gd 451 rfl rfl, gd 67 rfl rfl, rfl, by decide, by decide +kernel⟩, by decide +kernel⟩⟩
def mX10_fault : MTy := (10, yX10_fault, cX10_fault, 2, (some .int))
set_option maxRecDepth 20000 in
theorem okX10_fault : OkI mX10_fault := ⟨gd 457 rfl rfl, gd 458 rfl rfl, ⟨⟨gd 459 rfl rfl, gd 67 rfl rfl, rfl, by decide, by decide +kernel⟩, by decide +kernel⟩⟩
def mX10_set : MTy := (10, yX10_set, cX10_set, 4, (some .int))
set_option maxRecDepth 20000 in
theorem okX10_set : OkI mX10_set := ⟨gd 461 rfl rfl, gd 462 rfl rfl, ⟨⟨gd 463 rfl rfl, gd 67 rfl rfl, rfl, by decide, by decide +kernel⟩, by decide +kernel⟩⟩
def mX10_person : MTy := (10, yX10_person, cX10_person, 3, (some .int))
set_option maxRecDepth 20000 in
theorem okX10_person : OkI mX10_person := ⟨gd 469 rfl rfl, gd 470 rfl rfl, ⟨⟨gd 471 rfl rfl, gd 67 rfl rfl, rfl, by decide, by decide +kernel⟩, by decide +kernel⟩⟩
def mX10_step : MTy := (10, yX10_step, cX10_step, 3, (some .int))
set_option maxRecDepth 20000 in
theorem okX10_step : OkI mX10_step := ⟨gd 477 rfl rfl, gd 478 rfl rfl, ⟨⟨gd 479 rfl rfl, gd 67 rfl rfl, rfl, by decide, by decide +kernel⟩, by decide +kernel⟩⟩
def mX10_read : MTy := (10, yX10_read, cX10_read, 5, (some .int))
set_option maxRecDepth 20000 in
theorem okX10_read : OkI mX10_read := ⟨gd 508 rfl rfl, gd 509 rfl rfl, ⟨⟨gd 510 rfl rfl, gd 67 rfl rfl, rfl, by decide, by decide +kernel⟩, by decide +kernel⟩⟩
def mX10_home : MTy := (10, yX10_home, cX10_home, 1, (some .int))
set_option maxRecDepth 20000 in
theorem okX10_home : OkI mX10_home := ⟨gd 519 rfl rfl, gd 520 rfl rfl, ⟨⟨gd 521 rfl rfl, gd 67 rfl rfl, rfl, by decide, by decide +kernel⟩, by decide +kernel⟩⟩
def mX10_away : MTy := (10, yX10_away, cX10_away, 3, (some .int))
set_option maxRecDepth 20000 in
theorem okX10_away : OkI mX10_away := ⟨gd 527 rfl rfl, gd 528 rfl rfl, ⟨⟨gd 529 rfl rfl, gd 67 rfl rfl, rfl, by decide, by decide +kernel⟩, by decide +kernel⟩⟩
def mX10_binds : MTy := (10, yX10_binds, cX10_binds, 5, (some .int))
set_option maxRecDepth 20000 in
theorem okX10_binds : OkI mX10_binds := ⟨gd 532 rfl rfl, gd 533 rfl rfl, ⟨⟨gd 534 rfl rfl, gd 67 rfl rfl, rfl, by decide, by decide +kernel⟩, by decide +kernel⟩⟩
def mX10_pairs : MTy := (10, yX10_pairs, cX10_pairs, 1, (some .int))
set_option maxRecDepth 20000 in
theorem okX10_pairs : OkI mX10_pairs := ⟨gd 565 rfl rfl, gd 566 rfl rfl, ⟨⟨gd 567 rfl rfl, gd 67 rfl rfl, rfl, by decide, by decide +kernel⟩, by decide +kernel⟩⟩
def mX10_once : MTy := (10, yX10_once, cX10_once, 2, (some .int))
set_option maxRecDepth 20000 in
theorem okX10_once : OkI mX10_once := ⟨gd 573 rfl rfl, gd 574 rfl rfl, ⟨⟨gd 575 rfl rfl, gd 67 rfl rfl, rfl, by decide, by decide +kernel⟩, by decide +kernel⟩⟩
def mX10_worth : MTy := (10, yX10_worth, cX10_worth, 1, (some .int))
set_option maxRecDepth 20000 in
theorem okX10_worth : OkI mX10_worth := ⟨gd 594 rfl rfl, gd 595 rfl rfl, ⟨⟨gd 596 rfl rfl, gd 67 rfl rfl, rfl, by decide, by decide +kernel⟩, by decide +kernel⟩⟩
def mX10_judged : MTy := (10, yX10_judged, cX10_judged, 2, (some .int))
set_option maxRecDepth 20000 in
theorem okX10_judged : OkI mX10_judged := ⟨gd 598 rfl rfl, gd 599 rfl rfl, ⟨⟨gd 600 rfl rfl, gd 67 rfl rfl, rfl, by decide, by decide +kernel⟩, by decide +kernel⟩⟩
def mX10_ends : MTy := (10, yX10_ends, cX10_ends, 2, (some .int))
set_option maxRecDepth 20000 in
theorem okX10_ends : OkI mX10_ends := ⟨gd 621 rfl rfl, gd 622 rfl rfl, ⟨⟨gd 623 rfl rfl, gd 67 rfl rfl, rfl, by decide, by decide +kernel⟩, by decide +kernel⟩⟩
def mX10_comes : MTy := (10, yX10_comes, cX10_comes, 3, (some .int))
set_option maxRecDepth 20000 in
theorem okX10_comes : OkI mX10_comes := ⟨gd 625 rfl rfl, gd 626 rfl rfl, ⟨⟨gd 627 rfl rfl, gd 67 rfl rfl, rfl, by decide, by decide +kernel⟩, by decide +kernel⟩⟩
def mX10_way : MTy := (10, yX10_way, cX10_way, 5, (some .int))
set_option maxRecDepth 20000 in
theorem okX10_way : OkI mX10_way := ⟨gd 657 rfl rfl, gd 658 rfl rfl, ⟨⟨gd 659 rfl rfl, gd 67 rfl rfl, rfl, by decide, by decide +kernel⟩, by decide +kernel⟩⟩
def mX10_hinders : MTy := (10, yX10_hinders, cX10_hinders, 3, (some .int))
set_option maxRecDepth 20000 in
theorem okX10_hinders : OkI mX10_hinders := ⟨gd 669 rfl rfl, gd 670 rfl rfl, ⟨⟨gd 671 rfl rfl, gd 67 rfl rfl, rfl, by decide, by decide +kernel⟩, by decide +kernel⟩⟩
def mX10_post : MTy := (10, yX10_post, cX10_post, 2, (some .int))
set_option maxRecDepth 20000 in
theorem okX10_post : OkI mX10_post := ⟨gd 683 rfl rfl, gd 684 rfl rfl, ⟨⟨gd 685 rfl rfl, gd 67 rfl rfl, rfl, by decide, by decide +kernel⟩, by decide +kernel⟩⟩
def mX10_gone : MTy := (10, yX10_gone, cX10_gone, 1, (some .int))
set_option maxRecDepth 20000 in
theorem okX10_gone : OkI mX10_gone := ⟨gd 699 rfl rfl, gd 700 rfl rfl, ⟨⟨gd 701 rfl rfl, gd 67 rfl rfl, rfl, by decide, by decide +kernel⟩, by decide +kernel⟩⟩
def mX10_sees : MTy := (10, yX10_sees, cX10_sees, 1, (some .int))
set_option maxRecDepth 20000 in
theorem okX10_sees : OkI mX10_sees := ⟨gd 707 rfl rfl, gd 708 rfl rfl, ⟨⟨gd 709 rfl rfl, gd 67 rfl rfl, rfl, by decide, by decide +kernel⟩, by decide +kernel⟩⟩
def mX10_more : MTy := (10, yX10_more, cX10_more, 3, (some .int))
set_option maxRecDepth 20000 in
theorem okX10_more : OkI mX10_more := ⟨gd 717 rfl rfl, gd 718 rfl rfl, ⟨⟨gd 719 rfl rfl, gd 67 rfl rfl, rfl, by decide, by decide +kernel⟩, by decide +kernel⟩⟩
def mX10_both : MTy := (10, yX10_both, cX10_both, 4, (some .int))
set_option maxRecDepth 20000 in
theorem okX10_both : OkI mX10_both := ⟨gd 730 rfl rfl, gd 731 rfl rfl, ⟨⟨gd 732 rfl rfl, gd 67 rfl rfl, rfl, by decide, by decide +kernel⟩, by decide +kernel⟩⟩
def mX10_broker : MTy := (10, yX10_broker, cX10_broker, 2, (some .int))
set_option maxRecDepth 20000 in
theorem okX10_broker : OkI mX10_broker := ⟨gd 750 rfl rfl, gd 751 rfl rfl, ⟨⟨gd 752 rfl rfl, gd 67 rfl rfl, rfl, by decide, by decide +kernel⟩, by decide +kernel⟩⟩
def mX10_other : MTy := (10, yX10_other, cX10_other, 5, (some .int))
set_option maxRecDepth 20000 in
theorem okX10_other : OkI mX10_other := ⟨gd 775 rfl rfl, gd 776 rfl rfl, ⟨⟨gd 777 rfl rfl, gd 67 rfl rfl, rfl, by decide, by decide +kernel⟩, by decide +kernel⟩⟩
def mX10_sheet : MTy := (10, yX10_sheet, cX10_sheet, 4, (some .int))
set_option maxRecDepth 20000 in
theorem okX10_sheet : OkI mX10_sheet := ⟨gd 784 rfl rfl, gd 785 rfl rfl, ⟨⟨gd 786 rfl rfl, gd 67 rfl rfl, rfl, by decide, by decide +kernel⟩, by decide +kernel⟩⟩
def mX10_lose : MTy := (10, yX10_lose, cX10_lose, 2, (some .int))
set_option maxRecDepth 20000 in
theorem okX10_lose : OkI mX10_lose := ⟨gd 796 rfl rfl, gd 797 rfl rfl, ⟨⟨gd 798 rfl rfl, gd 67 rfl rfl, rfl, by decide, by decide +kernel⟩, by decide +kernel⟩⟩
def mX10_put : MTy := (10, yX10_put, cX10_put, 6, (some .int))
set_option maxRecDepth 20000 in
theorem okX10_put : OkI mX10_put := ⟨gd 800 rfl rfl, gd 801 rfl rfl, ⟨⟨gd 802 rfl rfl, gd 67 rfl rfl, rfl, by decide, by decide +kernel⟩, by decide +kernel⟩⟩
def mX10_get : MTy := (10, yX10_get, cX10_get, 5, (some .int))
set_option maxRecDepth 20000 in
theorem okX10_get : OkI mX10_get := ⟨gd 812 rfl rfl, gd 813 rfl rfl, ⟨⟨gd 814 rfl rfl, gd 67 rfl rfl, rfl, by decide, by decide +kernel⟩, by decide +kernel⟩⟩
def mX10_copy : MTy := (10, yX10_copy, cX10_copy, 8, (some .int))
set_option maxRecDepth 20000 in
theorem okX10_copy : OkI mX10_copy := ⟨gd 817 rfl rfl, gd 818 rfl rfl, ⟨⟨gd 819 rfl rfl, gd 67 rfl rfl, rfl, by decide, by decide +kernel⟩, by decide +kernel⟩⟩
def mX10_write : MTy := (10, yX10_write, cX10_write, 4, (some .int))
set_option maxRecDepth 20000 in
theorem okX10_write : OkI mX10_write := ⟨gd 826 rfl rfl, gd 827 rfl rfl, ⟨⟨gd 828 rfl rfl, gd 67 rfl rfl, rfl, by decide, by decide +kernel⟩, by decide +kernel⟩⟩
def mX10_count : MTy := (10, yX10_count, cX10_count, 2, (some .int))
set_option maxRecDepth 20000 in
theorem okX10_count : OkI mX10_count := ⟨gd 831 rfl rfl, gd 832 rfl rfl, ⟨⟨gd 833 rfl rfl, gd 67 rfl rfl, rfl, by decide, by decide +kernel⟩, by decide +kernel⟩⟩
def mX10_digest : MTy := (10, yX10_digest, cX10_digest, 6, (some .long))
set_option maxRecDepth 20000 in
theorem okX10_digest : OkI mX10_digest := ⟨gd 835 rfl rfl, gd 836 rfl rfl, ⟨⟨gd 837 rfl rfl, gd 67 rfl rfl, rfl, by decide, by decide +kernel⟩, by decide +kernel⟩⟩
def mX10_mixedPerson : MTy := (10, yX10_mixedPerson, cX10_mixedPerson, 7, (some .long))
set_option maxRecDepth 20000 in
theorem okX10_mixedPerson : OkI mX10_mixedPerson := ⟨gd 846 rfl rfl, gd 24 rfl rfl, ⟨⟨gd 847 rfl rfl, gd 67 rfl rfl, rfl, by decide, by decide +kernel⟩, by decide +kernel⟩⟩
def mX10_mixed : MTy := (10, yX10_mixed, cX10_mixed, 3, (some .long))
set_option maxRecDepth 20000 in
theorem okX10_mixed : OkS mX10_mixed := ⟨gd 841 rfl rfl, ⟨⟨gd 842 rfl rfl, gd 67 rfl rfl, rfl, by decide, by decide +kernel⟩, by decide +kernel⟩⟩
def mX10_found : MTy := (10, yX10_found, cX10_found, 2, (some .int))
set_option maxRecDepth 20000 in
theorem okX10_found : OkI mX10_found := ⟨gd 516 rfl rfl, gd 6 rfl rfl, ⟨⟨gd 517 rfl rfl, gd 67 rfl rfl, rfl, by decide, by decide +kernel⟩, by decide +kernel⟩⟩
def mX10_textOf : MTy := (10, yX10_textOf, cX10_textOf, 2, (some (.object "ElevenPaces$Text")))
set_option maxRecDepth 20000 in
theorem okX10_textOf : OkI mX10_textOf := ⟨gd 387 rfl rfl, gd 0 rfl rfl, ⟨⟨gd 388 rfl rfl, gd 67 rfl rfl, rfl, by decide, by decide +kernel⟩, by decide +kernel⟩⟩
def mX10_takeIn : MTy := (10, yX10_takeIn, cX10_takeIn, 2, none)
set_option maxRecDepth 20000 in
theorem okX10_takeIn : OkI mX10_takeIn := ⟨gd 400 rfl rfl, gd 1 rfl rfl, ⟨⟨gd 401 rfl rfl, gd 67 rfl rfl, rfl, by decide, by decide +kernel⟩, by decide +kernel⟩⟩
def mX10_goes : MTy := (10, yX10_goes, cX10_goes, 4, (some .boolean))
set_option maxRecDepth 20000 in
theorem okX10_goes : OkI mX10_goes := ⟨gd 483 rfl rfl, gd 5 rfl rfl, ⟨⟨gd 484 rfl rfl, gd 67 rfl rfl, rfl, by decide, by decide +kernel⟩, by decide +kernel⟩⟩
def mX10_isPerson : MTy := (10, yX10_isPerson, cX10_isPerson, 2, (some .boolean))
set_option maxRecDepth 20000 in
theorem okX10_isPerson : OkI mX10_isPerson := ⟨gd 474 rfl rfl, gd 4 rfl rfl, ⟨⟨gd 475 rfl rfl, gd 67 rfl rfl, rfl, by decide, by decide +kernel⟩, by decide +kernel⟩⟩
def mX10_areTwo : MTy := (10, yX10_areTwo, cX10_areTwo, 3, (some .boolean))
set_option maxRecDepth 20000 in
theorem okX10_areTwo : OkI mX10_areTwo := ⟨gd 537 rfl rfl, gd 7 rfl rfl, ⟨⟨gd 538 rfl rfl, gd 67 rfl rfl, rfl, by decide, by decide +kernel⟩, by decide +kernel⟩⟩
def mX10_isText : MTy := (10, yX10_isText, cX10_isText, 1, (some .boolean))
set_option maxRecDepth 20000 in
theorem okX10_isText : OkS mX10_isText := ⟨gd 383 rfl rfl, ⟨⟨gd 384 rfl rfl, gd 67 rfl rfl, rfl, by decide, by decide +kernel⟩, by decide +kernel⟩⟩
def mX10_isDirection : MTy := (10, yX10_isDirection, cX10_isDirection, 1, (some .boolean))
set_option maxRecDepth 20000 in
theorem okX10_isDirection : OkS mX10_isDirection := ⟨gd 445 rfl rfl, ⟨⟨gd 446 rfl rfl, gd 67 rfl rfl, rfl, by decide, by decide +kernel⟩, by decide +kernel⟩⟩
def mX10_isSpot : MTy := (10, yX10_isSpot, cX10_isSpot, 1, (some .boolean))
set_option maxRecDepth 20000 in
theorem okX10_isSpot : OkS mX10_isSpot := ⟨gd 687 rfl rfl, ⟨⟨gd 688 rfl rfl, gd 67 rfl rfl, rfl, by decide, by decide +kernel⟩, by decide +kernel⟩⟩
def mX10_isSheet : MTy := (10, yX10_isSheet, cX10_isSheet, 1, (some .boolean))
set_option maxRecDepth 20000 in
theorem okX10_isSheet : OkS mX10_isSheet := ⟨gd 512 rfl rfl, ⟨⟨gd 513 rfl rfl, gd 67 rfl rfl, rfl, by decide, by decide +kernel⟩, by decide +kernel⟩⟩
def mX10_isForm : MTy := (10, yX10_isForm, cX10_isForm, 1, (some .boolean))
set_option maxRecDepth 20000 in
theorem okX10_isForm : OkS mX10_isForm := ⟨gd 788 rfl rfl, ⟨⟨gd 789 rfl rfl, gd 67 rfl rfl, rfl, by decide, by decide +kernel⟩, by decide +kernel⟩⟩
def mX10_between : MTy := (10, yX10_between, cX10_between, 4, (some .int))
set_option maxRecDepth 20000 in
theorem okX10_between : OkS mX10_between := ⟨gd 505 rfl rfl, ⟨⟨gd 506 rfl rfl, gd 67 rfl rfl, rfl, by decide, by decide +kernel⟩, by decide +kernel⟩⟩
def mX10_neighbour : MTy := (10, yX10_neighbour, cX10_neighbour, 4, (some .int))
set_option maxRecDepth 20000 in
theorem okX10_neighbour : OkS mX10_neighbour := ⟨gd 490 rfl rfl, ⟨⟨gd 491 rfl rfl, gd 67 rfl rfl, rfl, by decide, by decide +kernel⟩, by decide +kernel⟩⟩
def mX10_figure : MTy := (10, yX10_figure, cX10_figure, 1, (some .int))
set_option maxRecDepth 20000 in
theorem okX10_figure : OkS mX10_figure := ⟨gd 421 rfl rfl, ⟨⟨gd 422 rfl rfl, gd 67 rfl rfl, rfl, by decide, by decide +kernel⟩, by decide +kernel⟩⟩
def mX11_init : MTy := (11, yX11_init, cX11_init, 1, none)
set_option maxRecDepth 20000 in
theorem okX11_init : OkC mX11_init := ⟨gd 853 rfl rfl, rfl, ⟨⟨gd 854 rfl rfl, gd 79 rfl rfl, rfl, by decide, by decide +kernel⟩, by decide +kernel⟩⟩
def mX11_in : MTy := (11, yX11_in, cX11_in, 3, (some .boolean))
set_option maxRecDepth 20000 in
theorem okX11_in : OkS mX11_in := ⟨gd 958 rfl rfl, ⟨⟨gd 959 rfl rfl, gd 79 rfl rfl, rfl, by decide, by decide +kernel⟩, by decide +kernel⟩⟩
def mX11_isIn : MTy := (11, yX11_isIn, cX11_isIn, 2, (some .boolean))
set_option maxRecDepth 20000 in
theorem okX11_isIn : OkS mX11_isIn := ⟨gd 1117 rfl rfl, ⟨⟨gd 1118 rfl rfl, gd 79 rfl rfl, rfl, by decide, by decide +kernel⟩, by decide +kernel⟩⟩
def mX11_limit : MTy := (11, yX11_limit, cX11_limit, 1, (some .int))
set_option maxRecDepth 20000 in
theorem okX11_limit : OkS mX11_limit := ⟨gd 961 rfl rfl, ⟨⟨gd 962 rfl rfl, gd 79 rfl rfl, rfl, by decide, by decide +kernel⟩, by decide +kernel⟩⟩
def mX11_type : MTy := (11, yX11_type, cX11_type, 3, (some .int))
set_option maxRecDepth 20000 in
theorem okX11_type : OkI mX11_type := ⟨gd 954 rfl rfl, gd 955 rfl rfl, ⟨⟨gd 956 rfl rfl, gd 79 rfl rfl, rfl, by decide, by decide +kernel⟩, by decide +kernel⟩⟩
def mX11_wipe : MTy := (11, yX11_wipe, cX11_wipe, 3, (some .int))
set_option maxRecDepth 20000 in
theorem okX11_wipe : OkI mX11_wipe := ⟨gd 988 rfl rfl, gd 989 rfl rfl, ⟨⟨gd 990 rfl rfl, gd 79 rfl rfl, rfl, by decide, by decide +kernel⟩, by decide +kernel⟩⟩
def mX11_stands : MTy := (11, yX11_stands, cX11_stands, 3, none)
set_option maxRecDepth 20000 in
theorem okX11_stands : OkI mX11_stands := ⟨gd 965 rfl rfl, gd 25 rfl rfl, ⟨⟨gd 966 rfl rfl, gd 79 rfl rfl, rfl, by decide, by decide +kernel⟩, by decide +kernel⟩⟩
def mX11_byteAt : MTy := (11, yX11_byteAt, cX11_byteAt, 3, (some .int))
set_option maxRecDepth 20000 in
theorem okX11_byteAt : OkI mX11_byteAt := ⟨gd 977 rfl rfl, gd 28 rfl rfl, ⟨⟨gd 978 rfl rfl, gd 79 rfl rfl, rfl, by decide, by decide +kernel⟩, by decide +kernel⟩⟩
def mX11_isFigure : MTy := (11, yX11_isFigure, cX11_isFigure, 2, (some .boolean))
set_option maxRecDepth 20000 in
theorem okX11_isFigure : OkI mX11_isFigure := ⟨gd 985 rfl rfl, gd 30 rfl rfl, ⟨⟨gd 986 rfl rfl, gd 79 rfl rfl, rfl, by decide, by decide +kernel⟩, by decide +kernel⟩⟩
def mX11_pairAt : MTy := (11, yX11_pairAt, cX11_pairAt, 2, (some .int))
set_option maxRecDepth 20000 in
theorem okX11_pairAt : OkI mX11_pairAt := ⟨gd 981 rfl rfl, gd 29 rfl rfl, ⟨⟨gd 982 rfl rfl, gd 79 rfl rfl, rfl, by decide, by decide +kernel⟩, by decide +kernel⟩⟩
def mX11_reads : MTy := (11, yX11_reads, cX11_reads, 7, (some .int))
set_option maxRecDepth 20000 in
theorem okX11_reads : OkI mX11_reads := ⟨gd 973 rfl rfl, gd 27 rfl rfl, ⟨⟨gd 974 rfl rfl, gd 79 rfl rfl, rfl, by decide, by decide +kernel⟩, by decide +kernel⟩⟩
def mX11_peopleFault : MTy := (11, yX11_peopleFault, cX11_peopleFault, 1, (some .int))
set_option maxRecDepth 20000 in
theorem okX11_peopleFault : OkI mX11_peopleFault := ⟨gd 969 rfl rfl, gd 26 rfl rfl, ⟨⟨gd 970 rfl rfl, gd 79 rfl rfl, rfl, by decide, by decide +kernel⟩, by decide +kernel⟩⟩
def mX11_peopleNow : MTy := (11, yX11_peopleNow, cX11_peopleNow, 2, (some .int))
set_option maxRecDepth 20000 in
theorem okX11_peopleNow : OkI mX11_peopleNow := ⟨gd 1017 rfl rfl, gd 34 rfl rfl, ⟨⟨gd 1018 rfl rfl, gd 79 rfl rfl, rfl, by decide, by decide +kernel⟩, by decide +kernel⟩⟩
def mX11_isPerson : MTy := (11, yX11_isPerson, cX11_isPerson, 2, (some .boolean))
set_option maxRecDepth 20000 in
theorem okX11_isPerson : OkI mX11_isPerson := ⟨gd 1013 rfl rfl, gd 33 rfl rfl, ⟨⟨gd 1014 rfl rfl, gd 79 rfl rfl, rfl, by decide, by decide +kernel⟩, by decide +kernel⟩⟩
def mX11_fairFault : MTy := (11, yX11_fairFault, cX11_fairFault, 8, (some .int))
set_option maxRecDepth 20000 in
theorem okX11_fairFault : OkI mX11_fairFault := ⟨gd 1001 rfl rfl, gd 32 rfl rfl, ⟨⟨gd 1002 rfl rfl, gd 79 rfl rfl, rfl, by decide, by decide +kernel⟩, by decide +kernel⟩⟩
def mX11_faultOf : MTy := (11, yX11_faultOf, cX11_faultOf, 2, (some .int))
set_option maxRecDepth 20000 in
theorem okX11_faultOf : OkI mX11_faultOf := ⟨gd 997 rfl rfl, gd 31 rfl rfl, ⟨⟨gd 998 rfl rfl, gd 79 rfl rfl, rfl, by decide, by decide +kernel⟩, by decide +kernel⟩⟩
def mX11_fault : MTy := (11, yX11_fault, cX11_fault, 2, (some .int))
set_option maxRecDepth 20000 in
theorem okX11_fault : OkI mX11_fault := ⟨gd 992 rfl rfl, gd 993 rfl rfl, ⟨⟨gd 994 rfl rfl, gd 79 rfl rfl, rfl, by decide, by decide +kernel⟩, by decide +kernel⟩⟩
def mX11_set : MTy := (11, yX11_set, cX11_set, 4, (some .int))
set_option maxRecDepth 20000 in
theorem okX11_set : OkI mX11_set := ⟨gd 1004 rfl rfl, gd 1005 rfl rfl, ⟨⟨gd 1006 rfl rfl, gd 79 rfl rfl, rfl, by decide, by decide +kernel⟩, by decide +kernel⟩⟩
def mX11_personOf : MTy := (11, yX11_personOf, cX11_personOf, 3, (some .int))
set_option maxRecDepth 20000 in
theorem okX11_personOf : OkI mX11_personOf := ⟨gd 1021 rfl rfl, gd 35 rfl rfl, ⟨⟨gd 1022 rfl rfl, gd 79 rfl rfl, rfl, by decide, by decide +kernel⟩, by decide +kernel⟩⟩
def mX11_person : MTy := (11, yX11_person, cX11_person, 3, (some .int))
set_option maxRecDepth 20000 in
theorem okX11_person : OkI mX11_person := ⟨gd 1008 rfl rfl, gd 1009 rfl rfl, ⟨⟨gd 1010 rfl rfl, gd 79 rfl rfl, rfl, by decide, by decide +kernel⟩, by decide +kernel⟩⟩
def mX11_awayBy : MTy := (11, yX11_awayBy, cX11_awayBy, 4, (some .int))
set_option maxRecDepth 20000 in
theorem okX11_awayBy : OkS mX11_awayBy := ⟨gd 1043 rfl rfl, ⟨⟨gd 1044 rfl rfl, gd 79 rfl rfl, rfl, by decide, by decide +kernel⟩, by decide +kernel⟩⟩
def mX11_stepTo : MTy := (11, yX11_stepTo, cX11_stepTo, 4, (some .int))
set_option maxRecDepth 20000 in
theorem okX11_stepTo : OkS mX11_stepTo := ⟨gd 1036 rfl rfl, ⟨⟨gd 1037 rfl rfl, gd 79 rfl rfl, rfl, by decide, by decide +kernel⟩, by decide +kernel⟩⟩
def mX11_isFree : MTy := (11, yX11_isFree, cX11_isFree, 4, (some .boolean))
set_option maxRecDepth 20000 in
theorem okX11_isFree : OkI mX11_isFree := ⟨gd 1040 rfl rfl, gd 38 rfl rfl, ⟨⟨gd 1041 rfl rfl, gd 79 rfl rfl, rfl, by decide, by decide +kernel⟩, by decide +kernel⟩⟩
def mX11_lays : MTy := (11, yX11_lays, cX11_lays, 3, none)
set_option maxRecDepth 20000 in
theorem okX11_lays : OkI mX11_lays := ⟨gd 1033 rfl rfl, gd 37 rfl rfl, ⟨⟨gd 1034 rfl rfl, gd 79 rfl rfl, rfl, by decide, by decide +kernel⟩, by decide +kernel⟩⟩
def mX11_steps : MTy := (11, yX11_steps, cX11_steps, 4, (some .boolean))
set_option maxRecDepth 20000 in
theorem okX11_steps : OkI mX11_steps := ⟨gd 1029 rfl rfl, gd 36 rfl rfl, ⟨⟨gd 1030 rfl rfl, gd 79 rfl rfl, rfl, by decide, by decide +kernel⟩, by decide +kernel⟩⟩
def mX11_step : MTy := (11, yX11_step, cX11_step, 3, (some .int))
set_option maxRecDepth 20000 in
theorem okX11_step : OkI mX11_step := ⟨gd 1024 rfl rfl, gd 1025 rfl rfl, ⟨⟨gd 1026 rfl rfl, gd 79 rfl rfl, rfl, by decide, by decide +kernel⟩, by decide +kernel⟩⟩
def mX11_read : MTy := (11, yX11_read, cX11_read, 4, (some .int))
set_option maxRecDepth 20000 in
theorem okX11_read : OkI mX11_read := ⟨gd 1046 rfl rfl, gd 1047 rfl rfl, ⟨⟨gd 1048 rfl rfl, gd 79 rfl rfl, rfl, by decide, by decide +kernel⟩, by decide +kernel⟩⟩
def mX11_home : MTy := (11, yX11_home, cX11_home, 4, (some .int))
set_option maxRecDepth 20000 in
theorem okX11_home : OkI mX11_home := ⟨gd 1057 rfl rfl, gd 1058 rfl rfl, ⟨⟨gd 1059 rfl rfl, gd 79 rfl rfl, rfl, by decide, by decide +kernel⟩, by decide +kernel⟩⟩
def mX11_away : MTy := (11, yX11_away, cX11_away, 3, (some .int))
set_option maxRecDepth 20000 in
theorem okX11_away : OkI mX11_away := ⟨gd 1061 rfl rfl, gd 1062 rfl rfl, ⟨⟨gd 1063 rfl rfl, gd 79 rfl rfl, rfl, by decide, by decide +kernel⟩, by decide +kernel⟩⟩
def mX11_nearer : MTy := (11, yX11_nearer, cX11_nearer, 7, (some .int))
set_option maxRecDepth 20000 in
theorem okX11_nearer : OkI mX11_nearer := ⟨gd 1078 rfl rfl, gd 42 rfl rfl, ⟨⟨gd 1079 rfl rfl, gd 79 rfl rfl, rfl, by decide, by decide +kernel⟩, by decide +kernel⟩⟩
def mX11_buyer : MTy := (11, yX11_buyer, cX11_buyer, 3, (some .int))
set_option maxRecDepth 20000 in
theorem okX11_buyer : OkI mX11_buyer := ⟨gd 1086 rfl rfl, gd 44 rfl rfl, ⟨⟨gd 1087 rfl rfl, gd 79 rfl rfl, rfl, by decide, by decide +kernel⟩, by decide +kernel⟩⟩
def mX11_worthOf : MTy := (11, yX11_worthOf, cX11_worthOf, 4, (some .int))
set_option maxRecDepth 20000 in
theorem okX11_worthOf : OkI mX11_worthOf := ⟨gd 1082 rfl rfl, gd 43 rfl rfl, ⟨⟨gd 1083 rfl rfl, gd 79 rfl rfl, rfl, by decide, by decide +kernel⟩, by decide +kernel⟩⟩
def mX11_bindsBy : MTy := (11, yX11_bindsBy, cX11_bindsBy, 6, (some .int))
set_option maxRecDepth 20000 in
theorem okX11_bindsBy : OkI mX11_bindsBy := ⟨gd 1074 rfl rfl, gd 41 rfl rfl, ⟨⟨gd 1075 rfl rfl, gd 79 rfl rfl, rfl, by decide, by decide +kernel⟩, by decide +kernel⟩⟩
def mX11_isBound : MTy := (11, yX11_isBound, cX11_isBound, 3, (some .boolean))
set_option maxRecDepth 20000 in
theorem okX11_isBound : OkI mX11_isBound := ⟨gd 1090 rfl rfl, gd 45 rfl rfl, ⟨⟨gd 1091 rfl rfl, gd 79 rfl rfl, rfl, by decide, by decide +kernel⟩, by decide +kernel⟩⟩
def mX11_areTwo : MTy := (11, yX11_areTwo, cX11_areTwo, 3, (some .boolean))
set_option maxRecDepth 20000 in
theorem okX11_areTwo : OkI mX11_areTwo := ⟨gd 1070 rfl rfl, gd 40 rfl rfl, ⟨⟨gd 1071 rfl rfl, gd 79 rfl rfl, rfl, by decide, by decide +kernel⟩, by decide +kernel⟩⟩
def mX11_binds : MTy := (11, yX11_binds, cX11_binds, 4, (some .int))
set_option maxRecDepth 20000 in
theorem okX11_binds : OkI mX11_binds := ⟨gd 1065 rfl rfl, gd 1066 rfl rfl, ⟨⟨gd 1067 rfl rfl, gd 79 rfl rfl, rfl, by decide, by decide +kernel⟩, by decide +kernel⟩⟩
def mX11_pairsBy : MTy := (11, yX11_pairsBy, cX11_pairsBy, 5, (some .int))
set_option maxRecDepth 20000 in
theorem okX11_pairsBy : OkI mX11_pairsBy := ⟨gd 1102 rfl rfl, gd 47 rfl rfl, ⟨⟨gd 1103 rfl rfl, gd 79 rfl rfl, rfl, by decide, by decide +kernel⟩, by decide +kernel⟩⟩
def mX11_pairsNow : MTy := (11, yX11_pairsNow, cX11_pairsNow, 1, (some .int))
set_option maxRecDepth 20000 in
theorem okX11_pairsNow : OkI mX11_pairsNow := ⟨gd 1098 rfl rfl, gd 46 rfl rfl, ⟨⟨gd 1099 rfl rfl, gd 79 rfl rfl, rfl, by decide, by decide +kernel⟩, by decide +kernel⟩⟩
def mX11_pairs : MTy := (11, yX11_pairs, cX11_pairs, 1, (some .int))
set_option maxRecDepth 20000 in
theorem okX11_pairs : OkI mX11_pairs := ⟨gd 1093 rfl rfl, gd 1094 rfl rfl, ⟨⟨gd 1095 rfl rfl, gd 79 rfl rfl, rfl, by decide, by decide +kernel⟩, by decide +kernel⟩⟩
def mX11_laysOnce : MTy := (11, yX11_laysOnce, cX11_laysOnce, 6, none)
set_option maxRecDepth 20000 in
theorem okX11_laysOnce : OkI mX11_laysOnce := ⟨gd 1114 rfl rfl, gd 49 rfl rfl, ⟨⟨gd 1115 rfl rfl, gd 79 rfl rfl, rfl, by decide, by decide +kernel⟩, by decide +kernel⟩⟩
def mX11_onceOf : MTy := (11, yX11_onceOf, cX11_onceOf, 2, (some .int))
set_option maxRecDepth 20000 in
theorem okX11_onceOf : OkI mX11_onceOf := ⟨gd 1110 rfl rfl, gd 48 rfl rfl, ⟨⟨gd 1111 rfl rfl, gd 79 rfl rfl, rfl, by decide, by decide +kernel⟩, by decide +kernel⟩⟩
def mX11_once : MTy := (11, yX11_once, cX11_once, 2, (some .int))
set_option maxRecDepth 20000 in
theorem okX11_once : OkI mX11_once := ⟨gd 1105 rfl rfl, gd 1106 rfl rfl, ⟨⟨gd 1107 rfl rfl, gd 79 rfl rfl, rfl, by decide, by decide +kernel⟩, by decide +kernel⟩⟩
def mX11_worthNow : MTy := (11, yX11_worthNow, cX11_worthNow, 1, (some .int))
set_option maxRecDepth 20000 in
theorem okX11_worthNow : OkI mX11_worthNow := ⟨gd 1126 rfl rfl, gd 50 rfl rfl, ⟨⟨gd 1127 rfl rfl, gd 79 rfl rfl, rfl, by decide, by decide +kernel⟩, by decide +kernel⟩⟩
def mX11_worth : MTy := (11, yX11_worth, cX11_worth, 1, (some .int))
set_option maxRecDepth 20000 in
theorem okX11_worth : OkI mX11_worth := ⟨gd 1121 rfl rfl, gd 1122 rfl rfl, ⟨⟨gd 1123 rfl rfl, gd 79 rfl rfl, rfl, by decide, by decide +kernel⟩, by decide +kernel⟩⟩
def mX11_judges : MTy := (11, yX11_judges, cX11_judges, 8, none)
set_option maxRecDepth 20000 in
theorem okX11_judges : OkI mX11_judges := ⟨gd 1138 rfl rfl, gd 52 rfl rfl, ⟨⟨gd 1139 rfl rfl, gd 79 rfl rfl, rfl, by decide, by decide +kernel⟩, by decide +kernel⟩⟩
def mX11_judgedOf : MTy := (11, yX11_judgedOf, cX11_judgedOf, 2, (some .int))
set_option maxRecDepth 20000 in
theorem okX11_judgedOf : OkI mX11_judgedOf := ⟨gd 1134 rfl rfl, gd 51 rfl rfl, ⟨⟨gd 1135 rfl rfl, gd 79 rfl rfl, rfl, by decide, by decide +kernel⟩, by decide +kernel⟩⟩
def mX11_judged : MTy := (11, yX11_judged, cX11_judged, 2, (some .int))
set_option maxRecDepth 20000 in
theorem okX11_judged : OkI mX11_judged := ⟨gd 1129 rfl rfl, gd 1130 rfl rfl, ⟨⟨gd 1131 rfl rfl, gd 79 rfl rfl, rfl, by decide, by decide +kernel⟩, by decide +kernel⟩⟩
def mX11_endsOf : MTy := (11, yX11_endsOf, cX11_endsOf, 2, (some .int))
set_option maxRecDepth 20000 in
theorem okX11_endsOf : OkI mX11_endsOf := ⟨gd 1146 rfl rfl, gd 53 rfl rfl, ⟨⟨gd 1147 rfl rfl, gd 79 rfl rfl, rfl, by decide, by decide +kernel⟩, by decide +kernel⟩⟩
def mX11_ends : MTy := (11, yX11_ends, cX11_ends, 2, (some .int))
set_option maxRecDepth 20000 in
theorem okX11_ends : OkI mX11_ends := ⟨gd 1141 rfl rfl, gd 1142 rfl rfl, ⟨⟨gd 1143 rfl rfl, gd 79 rfl rfl, rfl, by decide, by decide +kernel⟩, by decide +kernel⟩⟩
def mX11_laysFar : MTy := (11, yX11_laysFar, cX11_laysFar, 8, none)
set_option maxRecDepth 20000 in
theorem okX11_laysFar : OkI mX11_laysFar := ⟨gd 1158 rfl rfl, gd 55 rfl rfl, ⟨⟨gd 1159 rfl rfl, gd 79 rfl rfl, rfl, by decide, by decide +kernel⟩, by decide +kernel⟩⟩
def mX11_comesOf : MTy := (11, yX11_comesOf, cX11_comesOf, 3, (some .int))
set_option maxRecDepth 20000 in
theorem okX11_comesOf : OkI mX11_comesOf := ⟨gd 1154 rfl rfl, gd 54 rfl rfl, ⟨⟨gd 1155 rfl rfl, gd 79 rfl rfl, rfl, by decide, by decide +kernel⟩, by decide +kernel⟩⟩
def mX11_comes : MTy := (11, yX11_comes, cX11_comes, 3, (some .int))
set_option maxRecDepth 20000 in
theorem okX11_comes : OkI mX11_comes := ⟨gd 1149 rfl rfl, gd 1150 rfl rfl, ⟨⟨gd 1151 rfl rfl, gd 79 rfl rfl, rfl, by decide, by decide +kernel⟩, by decide +kernel⟩⟩
def mX11_way : MTy := (11, yX11_way, cX11_way, 9, (some .int))
set_option maxRecDepth 20000 in
theorem okX11_way : OkI mX11_way := ⟨gd 1161 rfl rfl, gd 1162 rfl rfl, ⟨⟨gd 1163 rfl rfl, gd 79 rfl rfl, rfl, by decide, by decide +kernel⟩, by decide +kernel⟩⟩
def mX11_hindersOf : MTy := (11, yX11_hindersOf, cX11_hindersOf, 8, (some .int))
set_option maxRecDepth 20000 in
theorem okX11_hindersOf : OkI mX11_hindersOf := ⟨gd 1170 rfl rfl, gd 56 rfl rfl, ⟨⟨gd 1171 rfl rfl, gd 79 rfl rfl, rfl, by decide, by decide +kernel⟩, by decide +kernel⟩⟩
def mX11_hinders : MTy := (11, yX11_hinders, cX11_hinders, 3, (some .int))
set_option maxRecDepth 20000 in
theorem okX11_hinders : OkI mX11_hinders := ⟨gd 1165 rfl rfl, gd 1166 rfl rfl, ⟨⟨gd 1167 rfl rfl, gd 79 rfl rfl, rfl, by decide, by decide +kernel⟩, by decide +kernel⟩⟩
def mX11_post : MTy := (11, yX11_post, cX11_post, 2, (some .int))
set_option maxRecDepth 20000 in
theorem okX11_post : OkI mX11_post := ⟨gd 1173 rfl rfl, gd 1174 rfl rfl, ⟨⟨gd 1175 rfl rfl, gd 79 rfl rfl, rfl, by decide, by decide +kernel⟩, by decide +kernel⟩⟩
def mX11_gone : MTy := (11, yX11_gone, cX11_gone, 2, (some .int))
set_option maxRecDepth 20000 in
theorem okX11_gone : OkI mX11_gone := ⟨gd 1177 rfl rfl, gd 1178 rfl rfl, ⟨⟨gd 1179 rfl rfl, gd 79 rfl rfl, rfl, by decide, by decide +kernel⟩, by decide +kernel⟩⟩
def mX11_isDue : MTy := (11, yX11_isDue, cX11_isDue, 3, (some .boolean))
set_option maxRecDepth 20000 in
theorem okX11_isDue : OkI mX11_isDue := ⟨gd 1190 rfl rfl, gd 58 rfl rfl, ⟨⟨gd 1191 rfl rfl, gd 79 rfl rfl, rfl, by decide, by decide +kernel⟩, by decide +kernel⟩⟩
def mX11_seesNow : MTy := (11, yX11_seesNow, cX11_seesNow, 4, (some .int))
set_option maxRecDepth 20000 in
theorem okX11_seesNow : OkI mX11_seesNow := ⟨gd 1186 rfl rfl, gd 57 rfl rfl, ⟨⟨gd 1187 rfl rfl, gd 79 rfl rfl, rfl, by decide, by decide +kernel⟩, by decide +kernel⟩⟩
def mX11_sees : MTy := (11, yX11_sees, cX11_sees, 1, (some .int))
set_option maxRecDepth 20000 in
theorem okX11_sees : OkI mX11_sees := ⟨gd 1181 rfl rfl, gd 1182 rfl rfl, ⟨⟨gd 1183 rfl rfl, gd 79 rfl rfl, rfl, by decide, by decide +kernel⟩, by decide +kernel⟩⟩
def mX11_moreOf : MTy := (11, yX11_moreOf, cX11_moreOf, 7, (some .int))
set_option maxRecDepth 20000 in
theorem okX11_moreOf : OkI mX11_moreOf := ⟨gd 1198 rfl rfl, gd 59 rfl rfl, ⟨⟨gd 1199 rfl rfl, gd 79 rfl rfl, rfl, by decide, by decide +kernel⟩, by decide +kernel⟩⟩
def mX11_more : MTy := (11, yX11_more, cX11_more, 2, (some .int))
set_option maxRecDepth 20000 in
theorem okX11_more : OkI mX11_more := ⟨gd 1193 rfl rfl, gd 1194 rfl rfl, ⟨⟨gd 1195 rfl rfl, gd 79 rfl rfl, rfl, by decide, by decide +kernel⟩, by decide +kernel⟩⟩
def mX11_both : MTy := (11, yX11_both, cX11_both, 6, (some .int))
set_option maxRecDepth 20000 in
theorem okX11_both : OkI mX11_both := ⟨gd 1201 rfl rfl, gd 1202 rfl rfl, ⟨⟨gd 1203 rfl rfl, gd 79 rfl rfl, rfl, by decide, by decide +kernel⟩, by decide +kernel⟩⟩
def mX11_brokes : MTy := (11, yX11_brokes, cX11_brokes, 5, (some .int))
set_option maxRecDepth 20000 in
theorem okX11_brokes : OkI mX11_brokes := ⟨gd 1214 rfl rfl, gd 61 rfl rfl, ⟨⟨gd 1215 rfl rfl, gd 79 rfl rfl, rfl, by decide, by decide +kernel⟩, by decide +kernel⟩⟩
def mX11_brokerOf : MTy := (11, yX11_brokerOf, cX11_brokerOf, 6, (some .int))
set_option maxRecDepth 20000 in
theorem okX11_brokerOf : OkI mX11_brokerOf := ⟨gd 1210 rfl rfl, gd 60 rfl rfl, ⟨⟨gd 1211 rfl rfl, gd 79 rfl rfl, rfl, by decide, by decide +kernel⟩, by decide +kernel⟩⟩
def mX11_broker : MTy := (11, yX11_broker, cX11_broker, 2, (some .int))
set_option maxRecDepth 20000 in
theorem okX11_broker : OkI mX11_broker := ⟨gd 1205 rfl rfl, gd 1206 rfl rfl, ⟨⟨gd 1207 rfl rfl, gd 79 rfl rfl, rfl, by decide, by decide +kernel⟩, by decide +kernel⟩⟩
def mX11_otherOf : MTy := (11, yX11_otherOf, cX11_otherOf, 8, (some .int))
set_option maxRecDepth 20000 in
theorem okX11_otherOf : OkI mX11_otherOf := ⟨gd 1222 rfl rfl, gd 62 rfl rfl, ⟨⟨gd 1223 rfl rfl, gd 79 rfl rfl, rfl, by decide, by decide +kernel⟩, by decide +kernel⟩⟩
def mX11_other : MTy := (11, yX11_other, cX11_other, 4, (some .int))
set_option maxRecDepth 20000 in
theorem okX11_other : OkI mX11_other := ⟨gd 1217 rfl rfl, gd 1218 rfl rfl, ⟨⟨gd 1219 rfl rfl, gd 79 rfl rfl, rfl, by decide, by decide +kernel⟩, by decide +kernel⟩⟩
def mX11_meets : MTy := (11, yX11_meets, cX11_meets, 2, (some .int))
set_option maxRecDepth 20000 in
theorem okX11_meets : OkI mX11_meets := ⟨gd 1054 rfl rfl, gd 39 rfl rfl, ⟨⟨gd 1055 rfl rfl, gd 79 rfl rfl, rfl, by decide, by decide +kernel⟩, by decide +kernel⟩⟩
def mX11_isSheet : MTy := (11, yX11_isSheet, cX11_isSheet, 1, (some .boolean))
set_option maxRecDepth 20000 in
theorem okX11_isSheet : OkS mX11_isSheet := ⟨gd 1050 rfl rfl, ⟨⟨gd 1051 rfl rfl, gd 79 rfl rfl, rfl, by decide, by decide +kernel⟩, by decide +kernel⟩⟩
def mX11_sheet : MTy := (11, yX11_sheet, cX11_sheet, 5, (some .int))
set_option maxRecDepth 20000 in
theorem okX11_sheet : OkI mX11_sheet := ⟨gd 1225 rfl rfl, gd 1226 rfl rfl, ⟨⟨gd 1227 rfl rfl, gd 79 rfl rfl, rfl, by decide, by decide +kernel⟩, by decide +kernel⟩⟩
def mX11_lose : MTy := (11, yX11_lose, cX11_lose, 2, (some .int))
set_option maxRecDepth 20000 in
theorem okX11_lose : OkI mX11_lose := ⟨gd 1229 rfl rfl, gd 1230 rfl rfl, ⟨⟨gd 1231 rfl rfl, gd 79 rfl rfl, rfl, by decide, by decide +kernel⟩, by decide +kernel⟩⟩
def mX11_lacks : MTy := (11, yX11_lacks, cX11_lacks, 4, (some .int))
set_option maxRecDepth 20000 in
theorem okX11_lacks : OkI mX11_lacks := ⟨gd 1238 rfl rfl, gd 63 rfl rfl, ⟨⟨gd 1239 rfl rfl, gd 79 rfl rfl, rfl, by decide, by decide +kernel⟩, by decide +kernel⟩⟩
def mX11_keep : MTy := (11, yX11_keep, cX11_keep, 4, none)
set_option maxRecDepth 20000 in
theorem okX11_keep : OkI mX11_keep := ⟨gd 1242 rfl rfl, gd 64 rfl rfl, ⟨⟨gd 1243 rfl rfl, gd 79 rfl rfl, rfl, by decide, by decide +kernel⟩, by decide +kernel⟩⟩
def mX11_put : MTy := (11, yX11_put, cX11_put, 6, (some .int))
set_option maxRecDepth 20000 in
theorem okX11_put : OkI mX11_put := ⟨gd 1233 rfl rfl, gd 1234 rfl rfl, ⟨⟨gd 1235 rfl rfl, gd 79 rfl rfl, rfl, by decide, by decide +kernel⟩, by decide +kernel⟩⟩
def mX11_get : MTy := (11, yX11_get, cX11_get, 5, (some .int))
set_option maxRecDepth 20000 in
theorem okX11_get : OkI mX11_get := ⟨gd 1245 rfl rfl, gd 1246 rfl rfl, ⟨⟨gd 1247 rfl rfl, gd 79 rfl rfl, rfl, by decide, by decide +kernel⟩, by decide +kernel⟩⟩
def mX11_copy : MTy := (11, yX11_copy, cX11_copy, 7, (some .int))
set_option maxRecDepth 20000 in
theorem okX11_copy : OkI mX11_copy := ⟨gd 1250 rfl rfl, gd 1251 rfl rfl, ⟨⟨gd 1252 rfl rfl, gd 79 rfl rfl, rfl, by decide, by decide +kernel⟩, by decide +kernel⟩⟩
def mX11_write : MTy := (11, yX11_write, cX11_write, 4, (some .int))
set_option maxRecDepth 20000 in
theorem okX11_write : OkI mX11_write := ⟨gd 1254 rfl rfl, gd 1255 rfl rfl, ⟨⟨gd 1256 rfl rfl, gd 79 rfl rfl, rfl, by decide, by decide +kernel⟩, by decide +kernel⟩⟩
def mX11_partsNow : MTy := (11, yX11_partsNow, cX11_partsNow, 2, (some .int))
set_option maxRecDepth 20000 in
theorem okX11_partsNow : OkI mX11_partsNow := ⟨gd 1263 rfl rfl, gd 65 rfl rfl, ⟨⟨gd 1264 rfl rfl, gd 79 rfl rfl, rfl, by decide, by decide +kernel⟩, by decide +kernel⟩⟩
def mX11_count : MTy := (11, yX11_count, cX11_count, 2, (some .int))
set_option maxRecDepth 20000 in
theorem okX11_count : OkI mX11_count := ⟨gd 1258 rfl rfl, gd 1259 rfl rfl, ⟨⟨gd 1260 rfl rfl, gd 79 rfl rfl, rfl, by decide, by decide +kernel⟩, by decide +kernel⟩⟩
def mX11_digest : MTy := (11, yX11_digest, cX11_digest, 5, (some .long))
set_option maxRecDepth 20000 in
theorem okX11_digest : OkI mX11_digest := ⟨gd 1266 rfl rfl, gd 1267 rfl rfl, ⟨⟨gd 1268 rfl rfl, gd 79 rfl rfl, rfl, by decide, by decide +kernel⟩, by decide +kernel⟩⟩
def mJ7_fill_53178 : MTy := (15, yJ7_fill_53178, cJ7_fill_53178, 4, none)
set_option maxRecDepth 20000 in
theorem okJ7_fill_53178 : OkS mJ7_fill_53178 := ⟨gd 635 rfl rfl, ⟨⟨gd 636 rfl rfl, gd 81 rfl rfl, rfl, by decide, by decide +kernel⟩, by decide +kernel⟩⟩
def mL_law : MTy := (12, yL_law, cL_law, 4, some .boolean)
set_option maxRecDepth 20000 in
theorem lk_12_9 : Lnk 12 9 mX10_init := Or.inl (gd 84 rfl rfl)
set_option maxRecDepth 20000 in
theorem lk_10_11 : Lnk 10 11 mX7_init := Or.inl (gd 92 rfl rfl)
set_option maxRecDepth 20000 in
theorem lk_10_30 : Lnk 10 30 mX2_init := Or.inl (gd 155 rfl rfl)
set_option maxRecDepth 20000 in
theorem lk_10_46 : Lnk 10 46 mX8_init := Or.inl (gd 202 rfl rfl)
set_option maxRecDepth 20000 in
theorem lk_10_55 : Lnk 10 55 mX3_init := Or.inl (gd 228 rfl rfl)
set_option maxRecDepth 20000 in
theorem lk_10_62 : Lnk 10 62 mX9_init := Or.inl (gd 256 rfl rfl)
set_option maxRecDepth 20000 in
theorem lk_10_76 : Lnk 10 76 mX6_init := Or.inl (gd 292 rfl rfl)
set_option maxRecDepth 20000 in
theorem lk_12_13 : Lnk 12 13 mX10_type := Or.inl (gd 378 rfl rfl)
set_option maxRecDepth 20000 in
theorem lk_10_92 : Lnk 10 92 mX10_isText := Or.inl (gd 382 rfl rfl)
set_option maxRecDepth 20000 in
theorem lk_10_96 : Lnk 10 96 mX10_textOf := Or.inl (gd 385 rfl rfl)
set_option maxRecDepth 20000 in
theorem lk_10_100 : Lnk 10 100 mX7_isFull := Or.inl (gd 389 rfl rfl)
set_option maxRecDepth 20000 in
theorem lk_10_104 : Lnk 10 104 mX7_add := Or.inl (gd 393 rfl rfl)
set_option maxRecDepth 20000 in
theorem lk_7_25 : Lnk 7 25 mX7_isFull := Or.inl (gd 397 rfl rfl)
set_option maxRecDepth 20000 in
theorem lk_10_107 : Lnk 10 107 mX10_takeIn := Or.inl (gd 398 rfl rfl)
set_option maxRecDepth 20000 in
theorem lk_10_318 : Lnk 10 318 mX0_tell := Or.inl (gd 402 rfl rfl)
set_option maxRecDepth 20000 in
theorem lk_0_34 : Lnk 0 34 mX0_faultOf := Or.inl (gd 406 rfl rfl)
set_option maxRecDepth 20000 in
theorem lk_0_38 : Lnk 0 38 mX7_length := Or.inl (gd 409 rfl rfl)
set_option maxRecDepth 20000 in
theorem lk_0_69 : Lnk 0 69 mX0_faultAt := Or.inl (gd 413 rfl rfl)
set_option maxRecDepth 20000 in
theorem lk_0_58 : Lnk 0 58 mX7_at := Or.inl (gd 416 rfl rfl)
set_option maxRecDepth 20000 in
theorem lk_0_65 : Lnk 0 65 mX0_number := Or.inl (gd 423 rfl rfl)
set_option maxRecDepth 20000 in
theorem lk_0_50 : Lnk 0 50 mX0_place := Or.inl (gd 429 rfl rfl)
set_option maxRecDepth 20000 in
theorem lk_10_322 : Lnk 10 322 mX1_tell := Or.inl (gd 433 rfl rfl)
set_option maxRecDepth 20000 in
theorem lk_1_29 : Lnk 1 29 mX7_length := Or.inl (gd 437 rfl rfl)
set_option maxRecDepth 20000 in
theorem lk_1_35 : Lnk 1 35 mX1_faultOf := Or.inl (gd 438 rfl rfl)
set_option maxRecDepth 20000 in
theorem lk_1_39 : Lnk 1 39 mX7_at := Or.inl (gd 442 rfl rfl)
set_option maxRecDepth 20000 in
theorem lk_10_110 : Lnk 10 110 mX7_length := Or.inl (gd 447 rfl rfl)
set_option maxRecDepth 20000 in
theorem lk_12_18 : Lnk 12 18 mX10_wipe := Or.inl (gd 448 rfl rfl)
set_option maxRecDepth 20000 in
theorem lk_10_114 : Lnk 10 114 mX7_clear := Or.inl (gd 452 rfl rfl)
set_option maxRecDepth 20000 in
theorem lk_12_23 : Lnk 12 23 mX10_fault := Or.inl (gd 456 rfl rfl)
set_option maxRecDepth 20000 in
theorem lk_12_27 : Lnk 12 27 mX10_set := Or.inl (gd 460 rfl rfl)
set_option maxRecDepth 20000 in
theorem lk_12_31 : Lnk 12 31 mX10_person := Or.inl (gd 468 rfl rfl)
set_option maxRecDepth 20000 in
theorem lk_10_131 : Lnk 10 131 mX10_isPerson := Or.inl (gd 472 rfl rfl)
set_option maxRecDepth 20000 in
theorem lk_12_35 : Lnk 12 35 mX10_step := Or.inl (gd 476 rfl rfl)
set_option maxRecDepth 20000 in
theorem lk_10_146 : Lnk 10 146 mX10_isDirection := Or.inl (gd 480 rfl rfl)
set_option maxRecDepth 20000 in
theorem lk_10_149 : Lnk 10 149 mX10_goes := Or.inl (gd 481 rfl rfl)
set_option maxRecDepth 20000 in
theorem lk_10_325 : Lnk 10 325 mX2_lawfulStep := Or.inl (gd 485 rfl rfl)
set_option maxRecDepth 20000 in
theorem lk_2_23 : Lnk 2 23 mX2_mayStand := Or.inl (gd 496 rfl rfl)
set_option maxRecDepth 20000 in
theorem lk_2_27 : Lnk 2 27 mX2_square := Or.inl (gd 500 rfl rfl)
set_option maxRecDepth 20000 in
theorem lk_12_39 : Lnk 12 39 mX10_read := Or.inl (gd 507 rfl rfl)
set_option maxRecDepth 20000 in
theorem lk_10_153 : Lnk 10 153 mX10_isSheet := Or.inl (gd 511 rfl rfl)
set_option maxRecDepth 20000 in
theorem lk_10_160 : Lnk 10 160 mX10_found := Or.inl (gd 514 rfl rfl)
set_option maxRecDepth 20000 in
theorem lk_12_43 : Lnk 12 43 mX10_home := Or.inl (gd 518 rfl rfl)
set_option maxRecDepth 20000 in
theorem lk_10_170 : Lnk 10 170 mX0_goHome := Or.inl (gd 522 rfl rfl)
set_option maxRecDepth 20000 in
theorem lk_12_48 : Lnk 12 48 mX10_away := Or.inl (gd 526 rfl rfl)
set_option maxRecDepth 20000 in
theorem lk_10_173 : Lnk 10 173 mX10_between := Or.inl (gd 530 rfl rfl)
set_option maxRecDepth 20000 in
theorem lk_12_52 : Lnk 12 52 mX10_binds := Or.inl (gd 531 rfl rfl)
set_option maxRecDepth 20000 in
theorem lk_10_177 : Lnk 10 177 mX10_areTwo := Or.inl (gd 535 rfl rfl)
set_option maxRecDepth 20000 in
theorem lk_10_180 : Lnk 10 180 mX2_firstNearer := Or.inl (gd 539 rfl rfl)
set_option maxRecDepth 20000 in
theorem lk_10_184 : Lnk 10 184 mX2_verdict := Or.inl (gd 543 rfl rfl)
set_option maxRecDepth 20000 in
theorem lk_2_40 : Lnk 2 40 mX2_verdictBy := Or.inl (gd 547 rfl rfl)
set_option maxRecDepth 20000 in
theorem lk_2_61 : Lnk 2 61 mX2_firstNearer := Or.inl (gd 551 rfl rfl)
set_option maxRecDepth 20000 in
theorem lk_2_64 : Lnk 2 64 mX0_canTrade := Or.inl (gd 552 rfl rfl)
set_option maxRecDepth 20000 in
theorem lk_0_54 : Lnk 0 54 mX0_sellsTo := Or.inl (gd 556 rfl rfl)
set_option maxRecDepth 20000 in
theorem lk_10_187 : Lnk 10 187 mX0_gain := Or.inl (gd 560 rfl rfl)
set_option maxRecDepth 20000 in
theorem lk_12_57 : Lnk 12 57 mX10_pairs := Or.inl (gd 564 rfl rfl)
set_option maxRecDepth 20000 in
theorem lk_10_190 : Lnk 10 190 mX2_bindingPairs := Or.inl (gd 568 rfl rfl)
set_option maxRecDepth 20000 in
theorem lk_12_61 : Lnk 12 61 mX10_once := Or.inl (gd 572 rfl rfl)
set_option maxRecDepth 20000 in
theorem lk_10_193 : Lnk 10 193 mX3_solve := Or.inl (gd 576 rfl rfl)
set_option maxRecDepth 20000 in
theorem lk_3_47 : Lnk 3 47 mX2_verdict := Or.inl (gd 580 rfl rfl)
set_option maxRecDepth 20000 in
theorem lk_3_51 : Lnk 3 51 mX3_choose := Or.inl (gd 581 rfl rfl)
set_option maxRecDepth 20000 in
theorem lk_3_55 : Lnk 3 55 mX3_keepIfBetter := Or.inl (gd 585 rfl rfl)
set_option maxRecDepth 20000 in
theorem lk_3_59 : Lnk 3 59 mX0_gain := Or.inl (gd 592 rfl rfl)
set_option maxRecDepth 20000 in
theorem lk_12_65 : Lnk 12 65 mX10_worth := Or.inl (gd 593 rfl rfl)
set_option maxRecDepth 20000 in
theorem lk_12_69 : Lnk 12 69 mX10_judged := Or.inl (gd 597 rfl rfl)
set_option maxRecDepth 20000 in
theorem lk_10_205 : Lnk 10 205 mX8_judge := Or.inl (gd 601 rfl rfl)
set_option maxRecDepth 20000 in
theorem lk_8_57 : Lnk 8 57 mX8_strikes := Or.inl (gd 605 rfl rfl)
set_option maxRecDepth 20000 in
theorem lk_8_68 : Lnk 8 68 mX2_verdict := Or.inl (gd 609 rfl rfl)
set_option maxRecDepth 20000 in
theorem lk_8_72 : Lnk 8 72 mX0_gain := Or.inl (gd 610 rfl rfl)
set_option maxRecDepth 20000 in
theorem lk_8_61 : Lnk 8 61 mX8_moves := Or.inl (gd 611 rfl rfl)
set_option maxRecDepth 20000 in
theorem lk_8_64 : Lnk 8 64 mX2_lawfulStep := Or.inl (gd 615 rfl rfl)
set_option maxRecDepth 20000 in
theorem lk_10_209 : Lnk 10 209 mX8_result := Or.inl (gd 616 rfl rfl)
set_option maxRecDepth 20000 in
theorem lk_12_73 : Lnk 12 73 mX10_ends := Or.inl (gd 620 rfl rfl)
set_option maxRecDepth 20000 in
theorem lk_12_77 : Lnk 12 77 mX10_comes := Or.inl (gd 624 rfl rfl)
set_option maxRecDepth 20000 in
theorem lk_10_213 : Lnk 10 213 mX9_search := Or.inl (gd 628 rfl rfl)
set_option maxRecDepth 20000 in
theorem lk_9_35 : Lnk 9 35 mX0_canTrade := Or.inl (gd 632 rfl rfl)
set_option maxRecDepth 20000 in
theorem lk_9_50 : Lnk 9 50 mJ7_fill_53178 := Or.inl (gd 634 rfl rfl)
set_option maxRecDepth 20000 in
theorem lk_9_56 : Lnk 9 56 mX9_queueGoals := Or.inl (gd 637 rfl rfl)
set_option maxRecDepth 20000 in
theorem lk_9_71 : Lnk 9 71 mX2_verdict := Or.inl (gd 641 rfl rfl)
set_option maxRecDepth 20000 in
theorem lk_9_75 : Lnk 9 75 mX9_isOpen := Or.inl (gd 642 rfl rfl)
set_option maxRecDepth 20000 in
theorem lk_9_83 : Lnk 9 83 mX2_mayStand := Or.inl (gd 646 rfl rfl)
set_option maxRecDepth 20000 in
theorem lk_9_79 : Lnk 9 79 mX9_enqueue := Or.inl (gd 647 rfl rfl)
set_option maxRecDepth 20000 in
theorem lk_9_60 : Lnk 9 60 mX9_queueNeighbours := Or.inl (gd 651 rfl rfl)
set_option maxRecDepth 20000 in
theorem lk_12_81 : Lnk 12 81 mX10_way := Or.inl (gd 656 rfl rfl)
set_option maxRecDepth 20000 in
theorem lk_10_216 : Lnk 10 216 mX9_direction := Or.inl (gd 660 rfl rfl)
set_option maxRecDepth 20000 in
theorem lk_9_63 : Lnk 9 63 mX9_leastDirection := Or.inl (gd 664 rfl rfl)
set_option maxRecDepth 20000 in
theorem lk_12_85 : Lnk 12 85 mX10_hinders := Or.inl (gd 668 rfl rfl)
set_option maxRecDepth 20000 in
theorem lk_10_219 : Lnk 10 219 mX2_hindered := Or.inl (gd 672 rfl rfl)
set_option maxRecDepth 20000 in
theorem lk_2_50 : Lnk 2 50 mX2_isHinderedBy := Or.inl (gd 676 rfl rfl)
set_option maxRecDepth 20000 in
theorem lk_2_57 : Lnk 2 57 mX2_verdict := Or.inl (gd 680 rfl rfl)
set_option maxRecDepth 20000 in
theorem lk_2_54 : Lnk 2 54 mX0_gain := Or.inl (gd 681 rfl rfl)
set_option maxRecDepth 20000 in
theorem lk_12_89 : Lnk 12 89 mX10_post := Or.inl (gd 682 rfl rfl)
set_option maxRecDepth 20000 in
theorem lk_10_223 : Lnk 10 223 mX10_isSpot := Or.inl (gd 686 rfl rfl)
set_option maxRecDepth 20000 in
theorem lk_10_226 : Lnk 10 226 mX4_isFull := Or.inl (gd 689 rfl rfl)
set_option maxRecDepth 20000 in
theorem lk_10_227 : Lnk 10 227 mX4_add := Or.inl (gd 693 rfl rfl)
set_option maxRecDepth 20000 in
theorem lk_4_19 : Lnk 4 19 mX4_isFull := Or.inl (gd 697 rfl rfl)
set_option maxRecDepth 20000 in
theorem lk_12_93 : Lnk 12 93 mX10_gone := Or.inl (gd 698 rfl rfl)
set_option maxRecDepth 20000 in
theorem lk_10_229 : Lnk 10 229 mX4_clear := Or.inl (gd 702 rfl rfl)
set_option maxRecDepth 20000 in
theorem lk_12_97 : Lnk 12 97 mX10_sees := Or.inl (gd 706 rfl rfl)
set_option maxRecDepth 20000 in
theorem lk_10_230 : Lnk 10 230 mX2_square := Or.inl (gd 710 rfl rfl)
set_option maxRecDepth 20000 in
theorem lk_10_233 : Lnk 10 233 mX4_pairsAt := Or.inl (gd 711 rfl rfl)
set_option maxRecDepth 20000 in
theorem lk_12_101 : Lnk 12 101 mX10_more := Or.inl (gd 716 rfl rfl)
set_option maxRecDepth 20000 in
theorem lk_10_236 : Lnk 10 236 mX4_bestSpot := Or.inl (gd 720 rfl rfl)
set_option maxRecDepth 20000 in
theorem lk_4_27 : Lnk 4 27 mX4_seenFrom := Or.inl (gd 724 rfl rfl)
set_option maxRecDepth 20000 in
theorem lk_10_239 : Lnk 10 239 mX4_seenFrom := Or.inl (gd 728 rfl rfl)
set_option maxRecDepth 20000 in
theorem lk_12_105 : Lnk 12 105 mX10_both := Or.inl (gd 729 rfl rfl)
set_option maxRecDepth 20000 in
theorem lk_10_242 : Lnk 10 242 mX4_has := Or.inl (gd 733 rfl rfl)
set_option maxRecDepth 20000 in
theorem lk_10_245 : Lnk 10 245 mX4_commonSpots := Or.inl (gd 737 rfl rfl)
set_option maxRecDepth 20000 in
theorem lk_4_30 : Lnk 4 30 mX4_isCommon := Or.inl (gd 741 rfl rfl)
set_option maxRecDepth 20000 in
theorem lk_10_249 : Lnk 10 249 mX4_commonSpot := Or.inl (gd 745 rfl rfl)
set_option maxRecDepth 20000 in
theorem lk_12_109 : Lnk 12 109 mX10_broker := Or.inl (gd 749 rfl rfl)
set_option maxRecDepth 20000 in
theorem lk_10_253 : Lnk 10 253 mX6_seek := Or.inl (gd 753 rfl rfl)
set_option maxRecDepth 20000 in
theorem lk_6_47 : Lnk 6 47 mX2_firstNearer := Or.inl (gd 757 rfl rfl)
set_option maxRecDepth 20000 in
theorem lk_6_51 : Lnk 6 51 mX6_profitOn := Or.inl (gd 758 rfl rfl)
set_option maxRecDepth 20000 in
theorem lk_6_55 : Lnk 6 55 mX2_square := Or.inl (gd 762 rfl rfl)
set_option maxRecDepth 20000 in
theorem lk_6_58 : Lnk 6 58 mJ7_fill_53178 := Or.inl (gd 763 rfl rfl)
set_option maxRecDepth 20000 in
theorem lk_6_77 : Lnk 6 77 mX6_ask := Or.inl (gd 765 rfl rfl)
set_option maxRecDepth 20000 in
theorem lk_6_81 : Lnk 6 81 mX6_margins := Or.inl (gd 770 rfl rfl)
set_option maxRecDepth 20000 in
theorem lk_12_113 : Lnk 12 113 mX10_other := Or.inl (gd 774 rfl rfl)
set_option maxRecDepth 20000 in
theorem lk_10_261 : Lnk 10 261 mX2_bestDue := Or.inl (gd 778 rfl rfl)
set_option maxRecDepth 20000 in
theorem lk_2_47 : Lnk 2 47 mX2_bindingPairs := Or.inl (gd 782 rfl rfl)
set_option maxRecDepth 20000 in
theorem lk_12_117 : Lnk 12 117 mX10_sheet := Or.inl (gd 783 rfl rfl)
set_option maxRecDepth 20000 in
theorem lk_10_264 : Lnk 10 264 mX10_isForm := Or.inl (gd 787 rfl rfl)
set_option maxRecDepth 20000 in
theorem lk_10_267 : Lnk 10 267 mX5_renew := Or.inl (gd 790 rfl rfl)
set_option maxRecDepth 20000 in
theorem lk_5_26 : Lnk 5 26 mJ7_fill_53178 := Or.inl (gd 794 rfl rfl)
set_option maxRecDepth 20000 in
theorem lk_12_121 : Lnk 12 121 mX10_lose := Or.inl (gd 795 rfl rfl)
set_option maxRecDepth 20000 in
theorem lk_12_125 : Lnk 12 125 mX10_put := Or.inl (gd 799 rfl rfl)
set_option maxRecDepth 20000 in
theorem lk_10_271 : Lnk 10 271 mX5_findingAt := Or.inl (gd 803 rfl rfl)
set_option maxRecDepth 20000 in
theorem lk_10_274 : Lnk 10 274 mX5_store := Or.inl (gd 807 rfl rfl)
set_option maxRecDepth 20000 in
theorem lk_12_130 : Lnk 12 130 mX10_get := Or.inl (gd 811 rfl rfl)
set_option maxRecDepth 20000 in
theorem lk_12_134 : Lnk 12 134 mX10_copy := Or.inl (gd 816 rfl rfl)
set_option maxRecDepth 20000 in
theorem lk_10_281 : Lnk 10 281 mX5_hasRange := Or.inl (gd 820 rfl rfl)
set_option maxRecDepth 20000 in
theorem lk_12_139 : Lnk 12 139 mX10_write := Or.inl (gd 825 rfl rfl)
set_option maxRecDepth 20000 in
theorem lk_12_143 : Lnk 12 143 mX10_count := Or.inl (gd 830 rfl rfl)
set_option maxRecDepth 20000 in
theorem lk_12_147 : Lnk 12 147 mX10_digest := Or.inl (gd 834 rfl rfl)
set_option maxRecDepth 20000 in
theorem lk_10_300 : Lnk 10 300 mX10_count := Or.inl (gd 839 rfl rfl)
set_option maxRecDepth 20000 in
theorem lk_10_303 : Lnk 10 303 mX10_mixed := Or.inl (gd 840 rfl rfl)
set_option maxRecDepth 20000 in
theorem lk_10_307 : Lnk 10 307 mX10_mixedPerson := Or.inl (gd 844 rfl rfl)
set_option maxRecDepth 20000 in
theorem lk_10_313 : Lnk 10 313 mX10_person := Or.inl (gd 848 rfl rfl)
set_option maxRecDepth 20000 in
theorem lk_10_310 : Lnk 10 310 mX10_pairs := Or.inl (gd 849 rfl rfl)
set_option maxRecDepth 20000 in
theorem lk_12_12 : Lnk 12 12 mX11_init := Or.inl (gd 852 rfl rfl)
set_option maxRecDepth 20000 in
theorem lk_12_17 : Lnk 12 17 mX11_type := Or.inl (gd 953 rfl rfl)
set_option maxRecDepth 20000 in
theorem lk_11_86 : Lnk 11 86 mX11_in := Or.inl (gd 957 rfl rfl)
set_option maxRecDepth 20000 in
theorem lk_11_90 : Lnk 11 90 mX11_limit := Or.inl (gd 960 rfl rfl)
set_option maxRecDepth 20000 in
theorem lk_11_94 : Lnk 11 94 mX11_stands := Or.inl (gd 963 rfl rfl)
set_option maxRecDepth 20000 in
theorem lk_11_97 : Lnk 11 97 mX11_peopleFault := Or.inl (gd 967 rfl rfl)
set_option maxRecDepth 20000 in
theorem lk_11_116 : Lnk 11 116 mX11_reads := Or.inl (gd 971 rfl rfl)
set_option maxRecDepth 20000 in
theorem lk_11_105 : Lnk 11 105 mX11_byteAt := Or.inl (gd 975 rfl rfl)
set_option maxRecDepth 20000 in
theorem lk_11_113 : Lnk 11 113 mX11_pairAt := Or.inl (gd 979 rfl rfl)
set_option maxRecDepth 20000 in
theorem lk_11_109 : Lnk 11 109 mX11_isFigure := Or.inl (gd 983 rfl rfl)
set_option maxRecDepth 20000 in
theorem lk_12_22 : Lnk 12 22 mX11_wipe := Or.inl (gd 987 rfl rfl)
set_option maxRecDepth 20000 in
theorem lk_12_26 : Lnk 12 26 mX11_fault := Or.inl (gd 991 rfl rfl)
set_option maxRecDepth 20000 in
theorem lk_11_128 : Lnk 11 128 mX11_faultOf := Or.inl (gd 995 rfl rfl)
set_option maxRecDepth 20000 in
theorem lk_11_125 : Lnk 11 125 mX11_fairFault := Or.inl (gd 999 rfl rfl)
set_option maxRecDepth 20000 in
theorem lk_12_30 : Lnk 12 30 mX11_set := Or.inl (gd 1003 rfl rfl)
set_option maxRecDepth 20000 in
theorem lk_12_34 : Lnk 12 34 mX11_person := Or.inl (gd 1007 rfl rfl)
set_option maxRecDepth 20000 in
theorem lk_11_131 : Lnk 11 131 mX11_isPerson := Or.inl (gd 1011 rfl rfl)
set_option maxRecDepth 20000 in
theorem lk_11_119 : Lnk 11 119 mX11_peopleNow := Or.inl (gd 1015 rfl rfl)
set_option maxRecDepth 20000 in
theorem lk_11_134 : Lnk 11 134 mX11_personOf := Or.inl (gd 1019 rfl rfl)
set_option maxRecDepth 20000 in
theorem lk_12_38 : Lnk 12 38 mX11_step := Or.inl (gd 1023 rfl rfl)
set_option maxRecDepth 20000 in
theorem lk_11_150 : Lnk 11 150 mX11_steps := Or.inl (gd 1027 rfl rfl)
set_option maxRecDepth 20000 in
theorem lk_11_140 : Lnk 11 140 mX11_lays := Or.inl (gd 1031 rfl rfl)
set_option maxRecDepth 20000 in
theorem lk_11_143 : Lnk 11 143 mX11_stepTo := Or.inl (gd 1035 rfl rfl)
set_option maxRecDepth 20000 in
theorem lk_11_146 : Lnk 11 146 mX11_isFree := Or.inl (gd 1038 rfl rfl)
set_option maxRecDepth 20000 in
theorem lk_11_137 : Lnk 11 137 mX11_awayBy := Or.inl (gd 1042 rfl rfl)
set_option maxRecDepth 20000 in
theorem lk_12_42 : Lnk 12 42 mX11_read := Or.inl (gd 1045 rfl rfl)
set_option maxRecDepth 20000 in
theorem lk_11_153 : Lnk 11 153 mX11_isSheet := Or.inl (gd 1049 rfl rfl)
set_option maxRecDepth 20000 in
theorem lk_11_156 : Lnk 11 156 mX11_meets := Or.inl (gd 1052 rfl rfl)
set_option maxRecDepth 20000 in
theorem lk_12_47 : Lnk 12 47 mX11_home := Or.inl (gd 1056 rfl rfl)
set_option maxRecDepth 20000 in
theorem lk_12_51 : Lnk 12 51 mX11_away := Or.inl (gd 1060 rfl rfl)
set_option maxRecDepth 20000 in
theorem lk_12_56 : Lnk 12 56 mX11_binds := Or.inl (gd 1064 rfl rfl)
set_option maxRecDepth 20000 in
theorem lk_11_173 : Lnk 11 173 mX11_areTwo := Or.inl (gd 1068 rfl rfl)
set_option maxRecDepth 20000 in
theorem lk_11_169 : Lnk 11 169 mX11_bindsBy := Or.inl (gd 1072 rfl rfl)
set_option maxRecDepth 20000 in
theorem lk_11_162 : Lnk 11 162 mX11_nearer := Or.inl (gd 1076 rfl rfl)
set_option maxRecDepth 20000 in
theorem lk_11_166 : Lnk 11 166 mX11_worthOf := Or.inl (gd 1080 rfl rfl)
set_option maxRecDepth 20000 in
theorem lk_11_159 : Lnk 11 159 mX11_buyer := Or.inl (gd 1084 rfl rfl)
set_option maxRecDepth 20000 in
theorem lk_11_176 : Lnk 11 176 mX11_isBound := Or.inl (gd 1088 rfl rfl)
set_option maxRecDepth 20000 in
theorem lk_12_60 : Lnk 12 60 mX11_pairs := Or.inl (gd 1092 rfl rfl)
set_option maxRecDepth 20000 in
theorem lk_11_182 : Lnk 11 182 mX11_pairsNow := Or.inl (gd 1096 rfl rfl)
set_option maxRecDepth 20000 in
theorem lk_11_179 : Lnk 11 179 mX11_pairsBy := Or.inl (gd 1100 rfl rfl)
set_option maxRecDepth 20000 in
theorem lk_12_64 : Lnk 12 64 mX11_once := Or.inl (gd 1104 rfl rfl)
set_option maxRecDepth 20000 in
theorem lk_11_192 : Lnk 11 192 mX11_onceOf := Or.inl (gd 1108 rfl rfl)
set_option maxRecDepth 20000 in
theorem lk_11_189 : Lnk 11 189 mX11_laysOnce := Or.inl (gd 1112 rfl rfl)
set_option maxRecDepth 20000 in
theorem lk_11_185 : Lnk 11 185 mX11_isIn := Or.inl (gd 1116 rfl rfl)
set_option maxRecDepth 20000 in
theorem lk_12_68 : Lnk 12 68 mX11_worth := Or.inl (gd 1120 rfl rfl)
set_option maxRecDepth 20000 in
theorem lk_11_195 : Lnk 11 195 mX11_worthNow := Or.inl (gd 1124 rfl rfl)
set_option maxRecDepth 20000 in
theorem lk_12_72 : Lnk 12 72 mX11_judged := Or.inl (gd 1128 rfl rfl)
set_option maxRecDepth 20000 in
theorem lk_11_210 : Lnk 11 210 mX11_judgedOf := Or.inl (gd 1132 rfl rfl)
set_option maxRecDepth 20000 in
theorem lk_11_207 : Lnk 11 207 mX11_judges := Or.inl (gd 1136 rfl rfl)
set_option maxRecDepth 20000 in
theorem lk_12_76 : Lnk 12 76 mX11_ends := Or.inl (gd 1140 rfl rfl)
set_option maxRecDepth 20000 in
theorem lk_11_213 : Lnk 11 213 mX11_endsOf := Or.inl (gd 1144 rfl rfl)
set_option maxRecDepth 20000 in
theorem lk_12_80 : Lnk 12 80 mX11_comes := Or.inl (gd 1148 rfl rfl)
set_option maxRecDepth 20000 in
theorem lk_11_220 : Lnk 11 220 mX11_comesOf := Or.inl (gd 1152 rfl rfl)
set_option maxRecDepth 20000 in
theorem lk_11_216 : Lnk 11 216 mX11_laysFar := Or.inl (gd 1156 rfl rfl)
set_option maxRecDepth 20000 in
theorem lk_12_84 : Lnk 12 84 mX11_way := Or.inl (gd 1160 rfl rfl)
set_option maxRecDepth 20000 in
theorem lk_12_88 : Lnk 12 88 mX11_hinders := Or.inl (gd 1164 rfl rfl)
set_option maxRecDepth 20000 in
theorem lk_11_223 : Lnk 11 223 mX11_hindersOf := Or.inl (gd 1168 rfl rfl)
set_option maxRecDepth 20000 in
theorem lk_12_92 : Lnk 12 92 mX11_post := Or.inl (gd 1172 rfl rfl)
set_option maxRecDepth 20000 in
theorem lk_12_96 : Lnk 12 96 mX11_gone := Or.inl (gd 1176 rfl rfl)
set_option maxRecDepth 20000 in
theorem lk_12_100 : Lnk 12 100 mX11_sees := Or.inl (gd 1180 rfl rfl)
set_option maxRecDepth 20000 in
theorem lk_11_232 : Lnk 11 232 mX11_seesNow := Or.inl (gd 1184 rfl rfl)
set_option maxRecDepth 20000 in
theorem lk_11_229 : Lnk 11 229 mX11_isDue := Or.inl (gd 1188 rfl rfl)
set_option maxRecDepth 20000 in
theorem lk_12_104 : Lnk 12 104 mX11_more := Or.inl (gd 1192 rfl rfl)
set_option maxRecDepth 20000 in
theorem lk_11_235 : Lnk 11 235 mX11_moreOf := Or.inl (gd 1196 rfl rfl)
set_option maxRecDepth 20000 in
theorem lk_12_108 : Lnk 12 108 mX11_both := Or.inl (gd 1200 rfl rfl)
set_option maxRecDepth 20000 in
theorem lk_12_112 : Lnk 12 112 mX11_broker := Or.inl (gd 1204 rfl rfl)
set_option maxRecDepth 20000 in
theorem lk_11_241 : Lnk 11 241 mX11_brokerOf := Or.inl (gd 1208 rfl rfl)
set_option maxRecDepth 20000 in
theorem lk_11_238 : Lnk 11 238 mX11_brokes := Or.inl (gd 1212 rfl rfl)
set_option maxRecDepth 20000 in
theorem lk_12_116 : Lnk 12 116 mX11_other := Or.inl (gd 1216 rfl rfl)
set_option maxRecDepth 20000 in
theorem lk_11_244 : Lnk 11 244 mX11_otherOf := Or.inl (gd 1220 rfl rfl)
set_option maxRecDepth 20000 in
theorem lk_12_120 : Lnk 12 120 mX11_sheet := Or.inl (gd 1224 rfl rfl)
set_option maxRecDepth 20000 in
theorem lk_12_124 : Lnk 12 124 mX11_lose := Or.inl (gd 1228 rfl rfl)
set_option maxRecDepth 20000 in
theorem lk_12_129 : Lnk 12 129 mX11_put := Or.inl (gd 1232 rfl rfl)
set_option maxRecDepth 20000 in
theorem lk_11_250 : Lnk 11 250 mX11_lacks := Or.inl (gd 1236 rfl rfl)
set_option maxRecDepth 20000 in
theorem lk_11_253 : Lnk 11 253 mX11_keep := Or.inl (gd 1240 rfl rfl)
set_option maxRecDepth 20000 in
theorem lk_12_133 : Lnk 12 133 mX11_get := Or.inl (gd 1244 rfl rfl)
set_option maxRecDepth 20000 in
theorem lk_12_138 : Lnk 12 138 mX11_copy := Or.inl (gd 1249 rfl rfl)
set_option maxRecDepth 20000 in
theorem lk_12_142 : Lnk 12 142 mX11_write := Or.inl (gd 1253 rfl rfl)
set_option maxRecDepth 20000 in
theorem lk_12_146 : Lnk 12 146 mX11_count := Or.inl (gd 1257 rfl rfl)
set_option maxRecDepth 20000 in
theorem lk_11_258 : Lnk 11 258 mX11_partsNow := Or.inl (gd 1261 rfl rfl)
set_option maxRecDepth 20000 in
theorem lk_12_151 : Lnk 12 151 mX11_digest := Or.inl (gd 1265 rfl rfl)
set_option maxRecDepth 20000 in
theorem lk_11_265 : Lnk 11 265 mX11_count := Or.inl (gd 1271 rfl rfl)
set_option maxRecDepth 20000 in
theorem lk_10_23 : Lnk 10 23 mX0_init := Or.inr ⟨"ElevenPaces", nd 109 rfl rfl⟩
set_option maxRecDepth 20000 in
theorem lk_10_39 : Lnk 10 39 mX1_init := Or.inr ⟨"ElevenPaces", nd 173 rfl rfl⟩
set_option maxRecDepth 20000 in
theorem lk_10_69 : Lnk 10 69 mX4_init := Or.inr ⟨"ElevenPaces", nd 278 rfl rfl⟩
set_option maxRecDepth 20000 in
theorem lk_10_87 : Lnk 10 87 mX5_init := Or.inr ⟨"ElevenPaces", nd 320 rfl rfl⟩
set_option maxRecDepth 20000 in
theorem lk_0_62 : Lnk 0 62 mX10_figure := Or.inr ⟨"ElevenPaces", nd 420 rfl rfl⟩
set_option maxRecDepth 20000 in
theorem lk_1_43 : Lnk 1 43 mX10_figure := Or.inr ⟨"ElevenPaces", nd 443 rfl rfl⟩
set_option maxRecDepth 20000 in
theorem lk_1_46 : Lnk 1 46 mX10_isDirection := Or.inr ⟨"ElevenPaces", nd 444 rfl rfl⟩
set_option maxRecDepth 20000 in
theorem lk_2_19 : Lnk 2 19 mX10_neighbour := Or.inr ⟨"ElevenPaces", nd 489 rfl rfl⟩
set_option maxRecDepth 20000 in
theorem lk_2_37 : Lnk 2 37 mX10_between := Or.inr ⟨"ElevenPaces", nd 504 rfl rfl⟩
set_option maxRecDepth 20000 in
theorem lk_9_67 : Lnk 9 67 mX10_neighbour := Or.inr ⟨"ElevenPaces", nd 655 rfl rfl⟩
set_option maxRecDepth 20000 in
theorem lk_4_23 : Lnk 4 23 mX10_between := Or.inr ⟨"ElevenPaces", nd 715 rfl rfl⟩
set_option maxRecDepth 20000 in
theorem lk_6_64 : Lnk 6 64 mX10_between := Or.inr ⟨"ElevenPaces", nd 764 rfl rfl⟩
def FLok (q : Nat × Nat × Nat × Nat) : Prop := ∃ r : vw_C, vwCl[q.2.2.1]? = some r ∧ q.2.2.2 < r.2.2 ∧ (Cond.fieldLink (Rcls q.1) q.2.1 (r.2.1 q.2.2.2).1 (r.2.1 q.2.2.2).2.1 (r.2.1 q.2.2.2).2.2.1 ∈ lw_good ∨ ∃ host : String, Cond.fieldLinkNest (Rcls q.1) q.2.1 (r.2.1 q.2.2.2).1 (r.2.1 q.2.2.2).2.1 (r.2.1 q.2.2.2).2.2.1 host ∈ lw_nest)
def FL0 : List (Nat × Nat × Nat × Nat) := [(7, 15, 7, 0), (7, 21, 7, 1), (0, 9, 0, 0), (0, 15, 0, 1), (0, 18, 0, 2), (0, 21, 0, 3), (0, 24, 0, 4), (0, 27, 0, 5), (0, 31, 0, 6), (2, 15, 2, 0), (2, 9, 2, 1), (1, 9, 1, 0), (1, 15, 1, 1), (1, 19, 1, 2), (1, 22, 1, 3)]
set_option maxRecDepth 20000 in
theorem FL0_ok : ∀ q ∈ FL0, FLok q := List.forall_mem_cons.mpr ⟨⟨_, rfl, by decide, Or.inl (gd 99 rfl rfl)⟩, List.forall_mem_cons.mpr ⟨⟨_, rfl, by decide, Or.inl (gd 100 rfl rfl)⟩, List.forall_mem_cons.mpr ⟨⟨_, rfl, by decide, Or.inl (gd 113 rfl rfl)⟩, List.forall_mem_cons.mpr ⟨⟨_, rfl, by decide, Or.inl (gd 116 rfl rfl)⟩, List.forall_mem_cons.mpr ⟨⟨_, rfl, by decide, Or.inl (gd 119 rfl rfl)⟩, List.forall_mem_cons.mpr ⟨⟨_, rfl, by decide, Or.inl (gd 122 rfl rfl)⟩, List.forall_mem_cons.mpr ⟨⟨_, rfl, by decide, Or.inl (gd 123 rfl rfl)⟩, List.forall_mem_cons.mpr ⟨⟨_, rfl, by decide, Or.inl (gd 130 rfl rfl)⟩, List.forall_mem_cons.mpr ⟨⟨_, rfl, by decide, Or.inl (gd 136 rfl rfl)⟩, List.forall_mem_cons.mpr ⟨⟨_, rfl, by decide, Or.inl (gd 159 rfl rfl)⟩, List.forall_mem_cons.mpr ⟨⟨_, rfl, by decide, Or.inl (gd 164 rfl rfl)⟩, List.forall_mem_cons.mpr ⟨⟨_, rfl, by decide, Or.inl (gd 177 rfl rfl)⟩, List.forall_mem_cons.mpr ⟨⟨_, rfl, by decide, Or.inl (gd 179 rfl rfl)⟩, List.forall_mem_cons.mpr ⟨⟨_, rfl, by decide, Or.inl (gd 181 rfl rfl)⟩, List.forall_mem_cons.mpr ⟨⟨_, rfl, by decide, Or.inl (gd 183 rfl rfl)⟩, fun _ h => absurd h List.not_mem_nil⟩⟩⟩⟩⟩⟩⟩⟩⟩⟩⟩⟩⟩⟩⟩
def FL1 : List (Nat × Nat × Nat × Nat) := [(1, 26, 1, 4), (8, 29, 8, 0), (8, 9, 8, 1), (8, 15, 8, 2), (8, 19, 8, 3), (8, 23, 8, 4), (8, 26, 8, 5), (3, 29, 3, 0), (3, 9, 3, 1), (3, 15, 3, 2), (3, 19, 3, 3), (3, 22, 3, 4), (3, 26, 3, 5), (9, 25, 9, 0), (9, 9, 9, 1)]
set_option maxRecDepth 20000 in
theorem FL1_ok : ∀ q ∈ FL1, FLok q := List.forall_mem_cons.mpr ⟨⟨_, rfl, by decide, Or.inl (gd 186 rfl rfl)⟩, List.forall_mem_cons.mpr ⟨⟨_, rfl, by decide, Or.inl (gd 206 rfl rfl)⟩, List.forall_mem_cons.mpr ⟨⟨_, rfl, by decide, Or.inl (gd 207 rfl rfl)⟩, List.forall_mem_cons.mpr ⟨⟨_, rfl, by decide, Or.inl (gd 209 rfl rfl)⟩, List.forall_mem_cons.mpr ⟨⟨_, rfl, by decide, Or.inl (gd 210 rfl rfl)⟩, List.forall_mem_cons.mpr ⟨⟨_, rfl, by decide, Or.inl (gd 211 rfl rfl)⟩, List.forall_mem_cons.mpr ⟨⟨_, rfl, by decide, Or.inl (gd 212 rfl rfl)⟩, List.forall_mem_cons.mpr ⟨⟨_, rfl, by decide, Or.inl (gd 232 rfl rfl)⟩, List.forall_mem_cons.mpr ⟨⟨_, rfl, by decide, Or.inl (gd 233 rfl rfl)⟩, List.forall_mem_cons.mpr ⟨⟨_, rfl, by decide, Or.inl (gd 234 rfl rfl)⟩, List.forall_mem_cons.mpr ⟨⟨_, rfl, by decide, Or.inl (gd 235 rfl rfl)⟩, List.forall_mem_cons.mpr ⟨⟨_, rfl, by decide, Or.inl (gd 237 rfl rfl)⟩, List.forall_mem_cons.mpr ⟨⟨_, rfl, by decide, Or.inl (gd 239 rfl rfl)⟩, List.forall_mem_cons.mpr ⟨⟨_, rfl, by decide, Or.inl (gd 260 rfl rfl)⟩, List.forall_mem_cons.mpr ⟨⟨_, rfl, by decide, Or.inl (gd 261 rfl rfl)⟩, fun _ h => absurd h List.not_mem_nil⟩⟩⟩⟩⟩⟩⟩⟩⟩⟩⟩⟩⟩⟩⟩
def FL2 : List (Nat × Nat × Nat × Nat) := [(9, 15, 9, 2), (9, 18, 9, 3), (9, 21, 9, 4), (4, 9, 4, 0), (4, 15, 4, 1), (6, 29, 6, 0), (6, 9, 6, 1), (6, 15, 6, 2), (6, 19, 6, 3), (6, 22, 6, 4), (6, 26, 6, 5), (5, 9, 5, 0), (5, 15, 5, 1), (5, 19, 5, 2), (5, 23, 5, 3)]
set_option maxRecDepth 20000 in
theorem FL2_ok : ∀ q ∈ FL2, FLok q := List.forall_mem_cons.mpr ⟨⟨_, rfl, by decide, Or.inl (gd 262 rfl rfl)⟩, List.forall_mem_cons.mpr ⟨⟨_, rfl, by decide, Or.inl (gd 263 rfl rfl)⟩, List.forall_mem_cons.mpr ⟨⟨_, rfl, by decide, Or.inl (gd 264 rfl rfl)⟩, List.forall_mem_cons.mpr ⟨⟨_, rfl, by decide, Or.inl (gd 282 rfl rfl)⟩, List.forall_mem_cons.mpr ⟨⟨_, rfl, by decide, Or.inl (gd 283 rfl rfl)⟩, List.forall_mem_cons.mpr ⟨⟨_, rfl, by decide, Or.inl (gd 296 rfl rfl)⟩, List.forall_mem_cons.mpr ⟨⟨_, rfl, by decide, Or.inl (gd 297 rfl rfl)⟩, List.forall_mem_cons.mpr ⟨⟨_, rfl, by decide, Or.inl (gd 298 rfl rfl)⟩, List.forall_mem_cons.mpr ⟨⟨_, rfl, by decide, Or.inl (gd 299 rfl rfl)⟩, List.forall_mem_cons.mpr ⟨⟨_, rfl, by decide, Or.inl (gd 300 rfl rfl)⟩, List.forall_mem_cons.mpr ⟨⟨_, rfl, by decide, Or.inl (gd 302 rfl rfl)⟩, List.forall_mem_cons.mpr ⟨⟨_, rfl, by decide, Or.inl (gd 324 rfl rfl)⟩, List.forall_mem_cons.mpr ⟨⟨_, rfl, by decide, Or.inl (gd 326 rfl rfl)⟩, List.forall_mem_cons.mpr ⟨⟨_, rfl, by decide, Or.inl (gd 328 rfl rfl)⟩, List.forall_mem_cons.mpr ⟨⟨_, rfl, by decide, Or.inl (gd 330 rfl rfl)⟩, fun _ h => absurd h List.not_mem_nil⟩⟩⟩⟩⟩⟩⟩⟩⟩⟩⟩⟩⟩⟩⟩
def FL3 : List (Nat × Nat × Nat × Nat) := [(10, 14, 10, 0), (10, 18, 10, 1), (10, 24, 10, 2), (10, 33, 10, 3), (10, 40, 10, 4), (10, 49, 10, 5), (10, 56, 10, 6), (10, 63, 10, 7), (10, 70, 10, 8), (10, 77, 10, 9), (10, 83, 10, 10), (10, 88, 10, 11), (11, 7, 11, 0), (11, 13, 11, 1), (11, 16, 11, 2)]
set_option maxRecDepth 20000 in
theorem FL3_ok : ∀ q ∈ FL3, FLok q := List.forall_mem_cons.mpr ⟨⟨_, rfl, by decide, Or.inl (gd 341 rfl rfl)⟩, List.forall_mem_cons.mpr ⟨⟨_, rfl, by decide, Or.inl (gd 342 rfl rfl)⟩, List.forall_mem_cons.mpr ⟨⟨_, rfl, by decide, Or.inl (gd 343 rfl rfl)⟩, List.forall_mem_cons.mpr ⟨⟨_, rfl, by decide, Or.inl (gd 344 rfl rfl)⟩, List.forall_mem_cons.mpr ⟨⟨_, rfl, by decide, Or.inl (gd 345 rfl rfl)⟩, List.forall_mem_cons.mpr ⟨⟨_, rfl, by decide, Or.inl (gd 346 rfl rfl)⟩, List.forall_mem_cons.mpr ⟨⟨_, rfl, by decide, Or.inl (gd 347 rfl rfl)⟩, List.forall_mem_cons.mpr ⟨⟨_, rfl, by decide, Or.inl (gd 348 rfl rfl)⟩, List.forall_mem_cons.mpr ⟨⟨_, rfl, by decide, Or.inl (gd 349 rfl rfl)⟩, List.forall_mem_cons.mpr ⟨⟨_, rfl, by decide, Or.inl (gd 350 rfl rfl)⟩, List.forall_mem_cons.mpr ⟨⟨_, rfl, by decide, Or.inl (gd 351 rfl rfl)⟩, List.forall_mem_cons.mpr ⟨⟨_, rfl, by decide, Or.inl (gd 352 rfl rfl)⟩, List.forall_mem_cons.mpr ⟨⟨_, rfl, by decide, Or.inl (gd 856 rfl rfl)⟩, List.forall_mem_cons.mpr ⟨⟨_, rfl, by decide, Or.inl (gd 857 rfl rfl)⟩, List.forall_mem_cons.mpr ⟨⟨_, rfl, by decide, Or.inl (gd 858 rfl rfl)⟩, fun _ h => absurd h List.not_mem_nil⟩⟩⟩⟩⟩⟩⟩⟩⟩⟩⟩⟩⟩⟩⟩
def FL4 : List (Nat × Nat × Nat × Nat) := [(11, 101, 11, 3), (11, 19, 11, 4), (11, 22, 11, 5), (11, 25, 11, 6), (11, 28, 11, 7), (11, 31, 11, 8), (11, 34, 11, 9), (11, 122, 11, 10), (11, 37, 11, 11), (11, 40, 11, 12), (11, 43, 11, 13), (11, 46, 11, 14), (11, 49, 11, 15), (11, 198, 11, 16), (11, 201, 11, 17)]
set_option maxRecDepth 20000 in
theorem FL4_ok : ∀ q ∈ FL4, FLok q := List.forall_mem_cons.mpr ⟨⟨_, rfl, by decide, Or.inl (gd 859 rfl rfl)⟩, List.forall_mem_cons.mpr ⟨⟨_, rfl, by decide, Or.inl (gd 860 rfl rfl)⟩, List.forall_mem_cons.mpr ⟨⟨_, rfl, by decide, Or.inl (gd 861 rfl rfl)⟩, List.forall_mem_cons.mpr ⟨⟨_, rfl, by decide, Or.inl (gd 862 rfl rfl)⟩, List.forall_mem_cons.mpr ⟨⟨_, rfl, by decide, Or.inl (gd 863 rfl rfl)⟩, List.forall_mem_cons.mpr ⟨⟨_, rfl, by decide, Or.inl (gd 864 rfl rfl)⟩, List.forall_mem_cons.mpr ⟨⟨_, rfl, by decide, Or.inl (gd 865 rfl rfl)⟩, List.forall_mem_cons.mpr ⟨⟨_, rfl, by decide, Or.inl (gd 866 rfl rfl)⟩, List.forall_mem_cons.mpr ⟨⟨_, rfl, by decide, Or.inl (gd 867 rfl rfl)⟩, List.forall_mem_cons.mpr ⟨⟨_, rfl, by decide, Or.inl (gd 868 rfl rfl)⟩, List.forall_mem_cons.mpr ⟨⟨_, rfl, by decide, Or.inl (gd 869 rfl rfl)⟩, List.forall_mem_cons.mpr ⟨⟨_, rfl, by decide, Or.inl (gd 870 rfl rfl)⟩, List.forall_mem_cons.mpr ⟨⟨_, rfl, by decide, Or.inl (gd 871 rfl rfl)⟩, List.forall_mem_cons.mpr ⟨⟨_, rfl, by decide, Or.inl (gd 872 rfl rfl)⟩, List.forall_mem_cons.mpr ⟨⟨_, rfl, by decide, Or.inl (gd 873 rfl rfl)⟩, fun _ h => absurd h List.not_mem_nil⟩⟩⟩⟩⟩⟩⟩⟩⟩⟩⟩⟩⟩⟩⟩
def FL5 : List (Nat × Nat × Nat × Nat) := [(11, 204, 11, 18), (11, 52, 11, 19), (11, 55, 11, 20), (11, 226, 11, 21), (11, 58, 11, 22), (11, 61, 11, 23), (11, 64, 11, 24), (11, 67, 11, 25), (11, 70, 11, 26), (11, 74, 11, 27), (11, 77, 11, 28), (11, 80, 11, 29), (11, 83, 11, 30), (11, 247, 11, 31), (6, 68, 0, 0)]
set_option maxRecDepth 20000 in
theorem FL5_ok : ∀ q ∈ FL5, FLok q := List.forall_mem_cons.mpr ⟨⟨_, rfl, by decide, Or.inl (gd 874 rfl rfl)⟩, List.forall_mem_cons.mpr ⟨⟨_, rfl, by decide, Or.inl (gd 875 rfl rfl)⟩, List.forall_mem_cons.mpr ⟨⟨_, rfl, by decide, Or.inl (gd 876 rfl rfl)⟩, List.forall_mem_cons.mpr ⟨⟨_, rfl, by decide, Or.inl (gd 877 rfl rfl)⟩, List.forall_mem_cons.mpr ⟨⟨_, rfl, by decide, Or.inl (gd 878 rfl rfl)⟩, List.forall_mem_cons.mpr ⟨⟨_, rfl, by decide, Or.inl (gd 879 rfl rfl)⟩, List.forall_mem_cons.mpr ⟨⟨_, rfl, by decide, Or.inl (gd 880 rfl rfl)⟩, List.forall_mem_cons.mpr ⟨⟨_, rfl, by decide, Or.inl (gd 881 rfl rfl)⟩, List.forall_mem_cons.mpr ⟨⟨_, rfl, by decide, Or.inl (gd 882 rfl rfl)⟩, List.forall_mem_cons.mpr ⟨⟨_, rfl, by decide, Or.inl (gd 883 rfl rfl)⟩, List.forall_mem_cons.mpr ⟨⟨_, rfl, by decide, Or.inl (gd 884 rfl rfl)⟩, List.forall_mem_cons.mpr ⟨⟨_, rfl, by decide, Or.inl (gd 885 rfl rfl)⟩, List.forall_mem_cons.mpr ⟨⟨_, rfl, by decide, Or.inl (gd 886 rfl rfl)⟩, List.forall_mem_cons.mpr ⟨⟨_, rfl, by decide, Or.inl (gd 887 rfl rfl)⟩, List.forall_mem_cons.mpr ⟨⟨_, rfl, by decide, Or.inr ⟨"ElevenPaces", nd 114 rfl rfl⟩⟩, fun _ h => absurd h List.not_mem_nil⟩⟩⟩⟩⟩⟩⟩⟩⟩⟩⟩⟩⟩⟩⟩
def FL6 : List (Nat × Nat × Nat × Nat) := [(10, 134, 0, 0), (6, 71, 0, 1), (10, 137, 0, 1), (6, 74, 0, 2), (10, 140, 0, 2), (9, 41, 0, 4), (8, 44, 0, 4), (6, 44, 0, 4), (3, 44, 0, 4), (10, 143, 0, 4), (2, 44, 0, 4), (3, 39, 0, 5), (8, 39, 0, 5), (6, 39, 0, 5), (2, 31, 0, 5)]
set_option maxRecDepth 20000 in
theorem FL6_ok : ∀ q ∈ FL6, FLok q := List.forall_mem_cons.mpr ⟨⟨_, rfl, by decide, Or.inr ⟨"ElevenPaces", nd 115 rfl rfl⟩⟩, List.forall_mem_cons.mpr ⟨⟨_, rfl, by decide, Or.inr ⟨"ElevenPaces", nd 117 rfl rfl⟩⟩, List.forall_mem_cons.mpr ⟨⟨_, rfl, by decide, Or.inr ⟨"ElevenPaces", nd 118 rfl rfl⟩⟩, List.forall_mem_cons.mpr ⟨⟨_, rfl, by decide, Or.inr ⟨"ElevenPaces", nd 120 rfl rfl⟩⟩, List.forall_mem_cons.mpr ⟨⟨_, rfl, by decide, Or.inr ⟨"ElevenPaces", nd 121 rfl rfl⟩⟩, List.forall_mem_cons.mpr ⟨⟨_, rfl, by decide, Or.inr ⟨"ElevenPaces", nd 124 rfl rfl⟩⟩, List.forall_mem_cons.mpr ⟨⟨_, rfl, by decide, Or.inr ⟨"ElevenPaces", nd 125 rfl rfl⟩⟩, List.forall_mem_cons.mpr ⟨⟨_, rfl, by decide, Or.inr ⟨"ElevenPaces", nd 126 rfl rfl⟩⟩, List.forall_mem_cons.mpr ⟨⟨_, rfl, by decide, Or.inr ⟨"ElevenPaces", nd 127 rfl rfl⟩⟩, List.forall_mem_cons.mpr ⟨⟨_, rfl, by decide, Or.inr ⟨"ElevenPaces", nd 128 rfl rfl⟩⟩, List.forall_mem_cons.mpr ⟨⟨_, rfl, by decide, Or.inr ⟨"ElevenPaces", nd 129 rfl rfl⟩⟩, List.forall_mem_cons.mpr ⟨⟨_, rfl, by decide, Or.inr ⟨"ElevenPaces", nd 131 rfl rfl⟩⟩, List.forall_mem_cons.mpr ⟨⟨_, rfl, by decide, Or.inr ⟨"ElevenPaces", nd 132 rfl rfl⟩⟩, List.forall_mem_cons.mpr ⟨⟨_, rfl, by decide, Or.inr ⟨"ElevenPaces", nd 133 rfl rfl⟩⟩, List.forall_mem_cons.mpr ⟨⟨_, rfl, by decide, Or.inr ⟨"ElevenPaces", nd 134 rfl rfl⟩⟩, fun _ h => absurd h List.not_mem_nil⟩⟩⟩⟩⟩⟩⟩⟩⟩⟩⟩⟩⟩⟩⟩
def FL7 : List (Nat × Nat × Nat × Nat) := [(10, 290, 0, 5), (10, 117, 0, 6), (3, 33, 2, 0), (9, 29, 2, 0), (8, 33, 2, 0), (6, 33, 2, 0), (10, 128, 2, 1), (8, 48, 1, 0), (8, 51, 1, 1), (8, 54, 1, 2), (8, 45, 1, 3), (10, 296, 1, 3), (10, 120, 1, 4), (10, 212, 8, 1), (10, 199, 3, 3)]
set_option maxRecDepth 20000 in
theorem FL7_ok : ∀ q ∈ FL7, FLok q := List.forall_mem_cons.mpr ⟨⟨_, rfl, by decide, Or.inr ⟨"ElevenPaces", nd 135 rfl rfl⟩⟩, List.forall_mem_cons.mpr ⟨⟨_, rfl, by decide, Or.inr ⟨"ElevenPaces", nd 137 rfl rfl⟩⟩, List.forall_mem_cons.mpr ⟨⟨_, rfl, by decide, Or.inr ⟨"ElevenPaces", nd 160 rfl rfl⟩⟩, List.forall_mem_cons.mpr ⟨⟨_, rfl, by decide, Or.inr ⟨"ElevenPaces", nd 161 rfl rfl⟩⟩, List.forall_mem_cons.mpr ⟨⟨_, rfl, by decide, Or.inr ⟨"ElevenPaces", nd 162 rfl rfl⟩⟩, List.forall_mem_cons.mpr ⟨⟨_, rfl, by decide, Or.inr ⟨"ElevenPaces", nd 163 rfl rfl⟩⟩, List.forall_mem_cons.mpr ⟨⟨_, rfl, by decide, Or.inr ⟨"ElevenPaces", nd 165 rfl rfl⟩⟩, List.forall_mem_cons.mpr ⟨⟨_, rfl, by decide, Or.inr ⟨"ElevenPaces", nd 178 rfl rfl⟩⟩, List.forall_mem_cons.mpr ⟨⟨_, rfl, by decide, Or.inr ⟨"ElevenPaces", nd 180 rfl rfl⟩⟩, List.forall_mem_cons.mpr ⟨⟨_, rfl, by decide, Or.inr ⟨"ElevenPaces", nd 182 rfl rfl⟩⟩, List.forall_mem_cons.mpr ⟨⟨_, rfl, by decide, Or.inr ⟨"ElevenPaces", nd 184 rfl rfl⟩⟩, List.forall_mem_cons.mpr ⟨⟨_, rfl, by decide, Or.inr ⟨"ElevenPaces", nd 185 rfl rfl⟩⟩, List.forall_mem_cons.mpr ⟨⟨_, rfl, by decide, Or.inr ⟨"ElevenPaces", nd 187 rfl rfl⟩⟩, List.forall_mem_cons.mpr ⟨⟨_, rfl, by decide, Or.inr ⟨"ElevenPaces", nd 208 rfl rfl⟩⟩, List.forall_mem_cons.mpr ⟨⟨_, rfl, by decide, Or.inr ⟨"ElevenPaces", nd 236 rfl rfl⟩⟩, fun _ h => absurd h List.not_mem_nil⟩⟩⟩⟩⟩⟩⟩⟩⟩⟩⟩⟩⟩⟩⟩
def FL8 : List (Nat × Nat × Nat × Nat) := [(10, 196, 3, 4), (10, 202, 3, 5), (10, 297, 4, 1), (10, 256, 6, 4), (10, 258, 6, 5), (10, 167, 5, 0), (10, 156, 5, 1), (10, 278, 5, 2), (10, 164, 5, 3)]
set_option maxRecDepth 20000 in
theorem FL8_ok : ∀ q ∈ FL8, FLok q := List.forall_mem_cons.mpr ⟨⟨_, rfl, by decide, Or.inr ⟨"ElevenPaces", nd 238 rfl rfl⟩⟩, List.forall_mem_cons.mpr ⟨⟨_, rfl, by decide, Or.inr ⟨"ElevenPaces", nd 240 rfl rfl⟩⟩, List.forall_mem_cons.mpr ⟨⟨_, rfl, by decide, Or.inr ⟨"ElevenPaces", nd 284 rfl rfl⟩⟩, List.forall_mem_cons.mpr ⟨⟨_, rfl, by decide, Or.inr ⟨"ElevenPaces", nd 301 rfl rfl⟩⟩, List.forall_mem_cons.mpr ⟨⟨_, rfl, by decide, Or.inr ⟨"ElevenPaces", nd 303 rfl rfl⟩⟩, List.forall_mem_cons.mpr ⟨⟨_, rfl, by decide, Or.inr ⟨"ElevenPaces", nd 325 rfl rfl⟩⟩, List.forall_mem_cons.mpr ⟨⟨_, rfl, by decide, Or.inr ⟨"ElevenPaces", nd 327 rfl rfl⟩⟩, List.forall_mem_cons.mpr ⟨⟨_, rfl, by decide, Or.inr ⟨"ElevenPaces", nd 329 rfl rfl⟩⟩, List.forall_mem_cons.mpr ⟨⟨_, rfl, by decide, Or.inr ⟨"ElevenPaces", nd 331 rfl rfl⟩⟩, fun _ h => absurd h List.not_mem_nil⟩⟩⟩⟩⟩⟩⟩⟩⟩
def FL : List (Nat × Nat × Nat × Nat) := FL0 ++ (FL1 ++ (FL2 ++ (FL3 ++ (FL4 ++ (FL5 ++ (FL6 ++ (FL7 ++ (FL8))))))))
theorem FL_ok : ∀ q ∈ FL, FLok q := List.forall_mem_append.mpr ⟨FL0_ok, List.forall_mem_append.mpr ⟨FL1_ok, List.forall_mem_append.mpr ⟨FL2_ok, List.forall_mem_append.mpr ⟨FL3_ok, List.forall_mem_append.mpr ⟨FL4_ok, List.forall_mem_append.mpr ⟨FL5_ok, List.forall_mem_append.mpr ⟨FL6_ok, List.forall_mem_append.mpr ⟨FL7_ok, FL8_ok⟩⟩⟩⟩⟩⟩⟩⟩
set_option maxRecDepth 20000 in
theorem lay0 : ∀ w ∈ u_ws RX0 TX0 7, w ∈ lw_good := List.forall_mem_cons.mpr ⟨gd 138 rfl rfl, List.forall_mem_cons.mpr ⟨gd 140 rfl rfl, List.forall_mem_cons.mpr ⟨gd 142 rfl rfl, List.forall_mem_cons.mpr ⟨gd 144 rfl rfl, List.forall_mem_cons.mpr ⟨gd 146 rfl rfl, List.forall_mem_cons.mpr ⟨gd 148 rfl rfl, List.forall_mem_cons.mpr ⟨gd 150 rfl rfl, fun _ h => absurd h List.not_mem_nil⟩⟩⟩⟩⟩⟩⟩
set_option maxRecDepth 20000 in
theorem lay1 : ∀ w ∈ u_ws RX1 TX1 5, w ∈ lw_good := List.forall_mem_cons.mpr ⟨gd 188 rfl rfl, List.forall_mem_cons.mpr ⟨gd 190 rfl rfl, List.forall_mem_cons.mpr ⟨gd 192 rfl rfl, List.forall_mem_cons.mpr ⟨gd 194 rfl rfl, List.forall_mem_cons.mpr ⟨gd 196 rfl rfl, fun _ h => absurd h List.not_mem_nil⟩⟩⟩⟩⟩
set_option maxRecDepth 20000 in
theorem lay2 : ∀ w ∈ u_ws RX2 TX2 2, w ∈ lw_good := List.forall_mem_cons.mpr ⟨gd 166 rfl rfl, List.forall_mem_cons.mpr ⟨gd 168 rfl rfl, fun _ h => absurd h List.not_mem_nil⟩⟩
set_option maxRecDepth 20000 in
theorem lay3 : ∀ w ∈ u_ws RX3 TX3 6, w ∈ lw_good := List.forall_mem_cons.mpr ⟨gd 241 rfl rfl, List.forall_mem_cons.mpr ⟨gd 243 rfl rfl, List.forall_mem_cons.mpr ⟨gd 245 rfl rfl, List.forall_mem_cons.mpr ⟨gd 247 rfl rfl, List.forall_mem_cons.mpr ⟨gd 249 rfl rfl, List.forall_mem_cons.mpr ⟨gd 251 rfl rfl, fun _ h => absurd h List.not_mem_nil⟩⟩⟩⟩⟩⟩
set_option maxRecDepth 20000 in
theorem lay4 : ∀ w ∈ u_ws RX4 TX4 2, w ∈ lw_good := List.forall_mem_cons.mpr ⟨gd 285 rfl rfl, List.forall_mem_cons.mpr ⟨gd 287 rfl rfl, fun _ h => absurd h List.not_mem_nil⟩⟩
set_option maxRecDepth 20000 in
theorem lay5 : ∀ w ∈ u_ws RX5 TX5 4, w ∈ lw_good := List.forall_mem_cons.mpr ⟨gd 332 rfl rfl, List.forall_mem_cons.mpr ⟨gd 334 rfl rfl, List.forall_mem_cons.mpr ⟨gd 336 rfl rfl, List.forall_mem_cons.mpr ⟨gd 338 rfl rfl, fun _ h => absurd h List.not_mem_nil⟩⟩⟩⟩
set_option maxRecDepth 20000 in
theorem lay6 : ∀ w ∈ u_ws RX6 TX6 6, w ∈ lw_good := List.forall_mem_cons.mpr ⟨gd 304 rfl rfl, List.forall_mem_cons.mpr ⟨gd 306 rfl rfl, List.forall_mem_cons.mpr ⟨gd 308 rfl rfl, List.forall_mem_cons.mpr ⟨gd 310 rfl rfl, List.forall_mem_cons.mpr ⟨gd 312 rfl rfl, List.forall_mem_cons.mpr ⟨gd 314 rfl rfl, fun _ h => absurd h List.not_mem_nil⟩⟩⟩⟩⟩⟩
set_option maxRecDepth 20000 in
theorem lay7 : ∀ w ∈ u_ws RX7 TX7 2, w ∈ lw_good := List.forall_mem_cons.mpr ⟨gd 101 rfl rfl, List.forall_mem_cons.mpr ⟨gd 103 rfl rfl, fun _ h => absurd h List.not_mem_nil⟩⟩
set_option maxRecDepth 20000 in
theorem lay8 : ∀ w ∈ u_ws RX8 TX8 6, w ∈ lw_good := List.forall_mem_cons.mpr ⟨gd 213 rfl rfl, List.forall_mem_cons.mpr ⟨gd 215 rfl rfl, List.forall_mem_cons.mpr ⟨gd 217 rfl rfl, List.forall_mem_cons.mpr ⟨gd 219 rfl rfl, List.forall_mem_cons.mpr ⟨gd 221 rfl rfl, List.forall_mem_cons.mpr ⟨gd 223 rfl rfl, fun _ h => absurd h List.not_mem_nil⟩⟩⟩⟩⟩⟩
set_option maxRecDepth 20000 in
theorem lay9 : ∀ w ∈ u_ws RX9 TX9 5, w ∈ lw_good := List.forall_mem_cons.mpr ⟨gd 265 rfl rfl, List.forall_mem_cons.mpr ⟨gd 267 rfl rfl, List.forall_mem_cons.mpr ⟨gd 269 rfl rfl, List.forall_mem_cons.mpr ⟨gd 271 rfl rfl, List.forall_mem_cons.mpr ⟨gd 273 rfl rfl, fun _ h => absurd h List.not_mem_nil⟩⟩⟩⟩⟩
set_option maxRecDepth 20000 in
theorem lay10 : ∀ w ∈ u_ws RX10 TX10 12, w ∈ lw_good := List.forall_mem_cons.mpr ⟨gd 353 rfl rfl, List.forall_mem_cons.mpr ⟨gd 355 rfl rfl, List.forall_mem_cons.mpr ⟨gd 357 rfl rfl, List.forall_mem_cons.mpr ⟨gd 359 rfl rfl, List.forall_mem_cons.mpr ⟨gd 361 rfl rfl, List.forall_mem_cons.mpr ⟨gd 363 rfl rfl, List.forall_mem_cons.mpr ⟨gd 365 rfl rfl, List.forall_mem_cons.mpr ⟨gd 367 rfl rfl, List.forall_mem_cons.mpr ⟨gd 369 rfl rfl, List.forall_mem_cons.mpr ⟨gd 371 rfl rfl, List.forall_mem_cons.mpr ⟨gd 373 rfl rfl, List.forall_mem_cons.mpr ⟨gd 375 rfl rfl, fun _ h => absurd h List.not_mem_nil⟩⟩⟩⟩⟩⟩⟩⟩⟩⟩⟩⟩
set_option maxRecDepth 20000 in
theorem lay11 : ∀ w ∈ u_ws RX11 TX11 32, w ∈ lw_good := List.forall_mem_cons.mpr ⟨gd 888 rfl rfl, List.forall_mem_cons.mpr ⟨gd 890 rfl rfl, List.forall_mem_cons.mpr ⟨gd 892 rfl rfl, List.forall_mem_cons.mpr ⟨gd 894 rfl rfl, List.forall_mem_cons.mpr ⟨gd 896 rfl rfl, List.forall_mem_cons.mpr ⟨gd 898 rfl rfl, List.forall_mem_cons.mpr ⟨gd 900 rfl rfl, List.forall_mem_cons.mpr ⟨gd 902 rfl rfl, List.forall_mem_cons.mpr ⟨gd 904 rfl rfl, List.forall_mem_cons.mpr ⟨gd 906 rfl rfl, List.forall_mem_cons.mpr ⟨gd 908 rfl rfl, List.forall_mem_cons.mpr ⟨gd 910 rfl rfl, List.forall_mem_cons.mpr ⟨gd 912 rfl rfl, List.forall_mem_cons.mpr ⟨gd 914 rfl rfl, List.forall_mem_cons.mpr ⟨gd 916 rfl rfl, List.forall_mem_cons.mpr ⟨gd 918 rfl rfl, List.forall_mem_cons.mpr ⟨gd 920 rfl rfl, List.forall_mem_cons.mpr ⟨gd 922 rfl rfl, List.forall_mem_cons.mpr ⟨gd 924 rfl rfl, List.forall_mem_cons.mpr ⟨gd 926 rfl rfl, List.forall_mem_cons.mpr ⟨gd 928 rfl rfl, List.forall_mem_cons.mpr ⟨gd 930 rfl rfl, List.forall_mem_cons.mpr ⟨gd 932 rfl rfl, List.forall_mem_cons.mpr ⟨gd 934 rfl rfl, List.forall_mem_cons.mpr ⟨gd 936 rfl rfl, List.forall_mem_cons.mpr ⟨gd 938 rfl rfl, List.forall_mem_cons.mpr ⟨gd 940 rfl rfl, List.forall_mem_cons.mpr ⟨gd 942 rfl rfl, List.forall_mem_cons.mpr ⟨gd 944 rfl rfl, List.forall_mem_cons.mpr ⟨gd 946 rfl rfl, List.forall_mem_cons.mpr ⟨gd 948 rfl rfl, List.forall_mem_cons.mpr ⟨gd 950 rfl rfl, fun _ h => absurd h List.not_mem_nil⟩⟩⟩⟩⟩⟩⟩⟩⟩⟩⟩⟩⟩⟩⟩⟩⟩⟩⟩⟩⟩⟩⟩⟩⟩⟩⟩⟩⟩⟩⟩⟩
theorem lays_ok : ∀ (ci : Nat) (r : vw_C), vwCl[ci]? = some r → ∀ w ∈ u_ws r.1 r.2.1 r.2.2, w ∈ lw_good
  | 0, _, h => by cases h; exact lay0
  | 1, _, h => by cases h; exact lay1
  | 2, _, h => by cases h; exact lay2
  | 3, _, h => by cases h; exact lay3
  | 4, _, h => by cases h; exact lay4
  | 5, _, h => by cases h; exact lay5
  | 6, _, h => by cases h; exact lay6
  | 7, _, h => by cases h; exact lay7
  | 8, _, h => by cases h; exact lay8
  | 9, _, h => by cases h; exact lay9
  | 10, _, h => by cases h; exact lay10
  | 11, _, h => by cases h; exact lay11
  | n + 12, _, h => by simp [vwCl] at h
def ftyp (ci : Nat) : Nat → FieldType := [tyX0, tyX1, tyX2, tyX3, tyX4, tyX5, tyX6, tyX7, tyX8, tyX9, tyX10, tyX11].getD ci (fun _ => .int)
theorem ftyp_ok : ∀ (ci : Nat) (r : vw_C), vwCl[ci]? = some r → (∀ k, k < r.2.2 → parseFieldDescriptor (r.2.1 k).2.2.1 = some (ftyp ci k)) ∧ (∀ a, a < r.2.2 → ∀ b, b < r.2.2 → a ≠ b → (r.2.1 a).2.1 ≠ (r.2.1 b).2.1)
  | 0, _, h => by cases h; exact ⟨tyX0_ok, nmX0⟩
  | 1, _, h => by cases h; exact ⟨tyX1_ok, nmX1⟩
  | 2, _, h => by cases h; exact ⟨tyX2_ok, nmX2⟩
  | 3, _, h => by cases h; exact ⟨tyX3_ok, nmX3⟩
  | 4, _, h => by cases h; exact ⟨tyX4_ok, nmX4⟩
  | 5, _, h => by cases h; exact ⟨tyX5_ok, nmX5⟩
  | 6, _, h => by cases h; exact ⟨tyX6_ok, nmX6⟩
  | 7, _, h => by cases h; exact ⟨tyX7_ok, nmX7⟩
  | 8, _, h => by cases h; exact ⟨tyX8_ok, nmX8⟩
  | 9, _, h => by cases h; exact ⟨tyX9_ok, nmX9⟩
  | 10, _, h => by cases h; exact ⟨tyX10_ok, nmX10⟩
  | 11, _, h => by cases h; exact ⟨tyX11_ok, nmX11⟩
  | n + 12, _, h => by simp [vwCl] at h
set_option maxRecDepth 20000 in
theorem inst_ok : ∀ (ci : Nat) (r : vw_C), vwCl[ci]? = some r → Cond.instantiable r.1 r.2.2 ∈ lw_good ∧ Cond.initialized r.1 ∈ lw_good
  | 0, _, h => by cases h; exact ⟨gd 108 rfl rfl, gd 70 rfl rfl⟩
  | 1, _, h => by cases h; exact ⟨gd 172 rfl rfl, gd 72 rfl rfl⟩
  | 2, _, h => by cases h; exact ⟨gd 154 rfl rfl, gd 71 rfl rfl⟩
  | 3, _, h => by cases h; exact ⟨gd 227 rfl rfl, gd 74 rfl rfl⟩
  | 4, _, h => by cases h; exact ⟨gd 277 rfl rfl, gd 76 rfl rfl⟩
  | 5, _, h => by cases h; exact ⟨gd 319 rfl rfl, gd 78 rfl rfl⟩
  | 6, _, h => by cases h; exact ⟨gd 291 rfl rfl, gd 77 rfl rfl⟩
  | 7, _, h => by cases h; exact ⟨gd 91 rfl rfl, gd 68 rfl rfl⟩
  | 8, _, h => by cases h; exact ⟨gd 201 rfl rfl, gd 73 rfl rfl⟩
  | 9, _, h => by cases h; exact ⟨gd 255 rfl rfl, gd 75 rfl rfl⟩
  | 10, _, h => by cases h; exact ⟨gd 83 rfl rfl, gd 67 rfl rfl⟩
  | 11, _, h => by cases h; exact ⟨gd 851 rfl rfl, gd 79 rfl rfl⟩
  | n + 12, _, h => by simp [vwCl] at h
def CIok (q : Nat × Nat × Value) : Prop := (∃ x : Int32, q.2.2 = .int x ∧ Cond.constant (Rcls q.1) q.2.1 x ∈ lw_good) ∨ ∃ x : Int64, q.2.2 = .long x ∧ Cond.constantLong (Rcls q.1) q.2.1 x ∈ lw_good
def CI : List (Nat × Nat × Value) := [(10, 277, .int (-2147483648)), (11, 188, .int (1000000)), (11, 257, .int (-2147483648)), (10, 298, .long (17)), (10, 316, .long (31)), (11, 261, .long (17)), (11, 263, .long (31))]
set_option maxRecDepth 20000 in
theorem CI_ok : ∀ q ∈ CI, CIok q := List.forall_mem_cons.mpr ⟨Or.inl ⟨_, rfl, gd 815 rfl rfl⟩, List.forall_mem_cons.mpr ⟨Or.inl ⟨_, rfl, gd 1119 rfl rfl⟩, List.forall_mem_cons.mpr ⟨Or.inl ⟨_, rfl, gd 1248 rfl rfl⟩, List.forall_mem_cons.mpr ⟨Or.inr ⟨_, rfl, gd 838 rfl rfl⟩, List.forall_mem_cons.mpr ⟨Or.inr ⟨_, rfl, gd 843 rfl rfl⟩, List.forall_mem_cons.mpr ⟨Or.inr ⟨_, rfl, gd 1269 rfl rfl⟩, List.forall_mem_cons.mpr ⟨Or.inr ⟨_, rfl, gd 1270 rfl rfl⟩, fun _ h => absurd h List.not_mem_nil⟩⟩⟩⟩⟩⟩⟩
def SKok (q : Nat × Nat × Nat) : Prop := 1 ≤ q.2.2 ∧ q.2.2 < 5 ∧ Cond.fieldLink (Rcls q.1) q.2.1 RX10 (stn q.2.2) "[I" ∈ lw_good
def SK : List (Nat × Nat × Nat) := [(10, 121, 3), (10, 125, 4), (10, 329, 1), (10, 332, 2)]
set_option maxRecDepth 20000 in
theorem SK_ok : ∀ q ∈ SK, SKok q := List.forall_mem_cons.mpr ⟨⟨by decide, by decide, gd 464 rfl rfl⟩, List.forall_mem_cons.mpr ⟨⟨by decide, by decide, gd 466 rfl rfl⟩, List.forall_mem_cons.mpr ⟨⟨by decide, by decide, gd 492 rfl rfl⟩, List.forall_mem_cons.mpr ⟨⟨by decide, by decide, gd 494 rfl rfl⟩, fun _ h => absurd h List.not_mem_nil⟩⟩⟩⟩
def CKok (q : Nat × Nat × Nat) : Prop := ∃ r : vw_C, vwCl[q.2.2]? = some r ∧ Cond.classLink (Rcls q.1) q.2.1 r.1 ∈ lw_good
def CK : List (Nat × Nat × Nat) := [(12, 7, 10), (10, 7, 7), (10, 21, 0), (10, 28, 2), (10, 37, 1), (10, 44, 8), (10, 53, 3), (10, 60, 9), (10, 67, 4), (10, 74, 6), (10, 81, 5), (12, 10, 11)]
set_option maxRecDepth 20000 in
theorem CK_ok : ∀ q ∈ CK, CKok q := List.forall_mem_cons.mpr ⟨⟨_, rfl, gd 82 rfl rfl⟩, List.forall_mem_cons.mpr ⟨⟨_, rfl, gd 90 rfl rfl⟩, List.forall_mem_cons.mpr ⟨⟨_, rfl, gd 107 rfl rfl⟩, List.forall_mem_cons.mpr ⟨⟨_, rfl, gd 153 rfl rfl⟩, List.forall_mem_cons.mpr ⟨⟨_, rfl, gd 171 rfl rfl⟩, List.forall_mem_cons.mpr ⟨⟨_, rfl, gd 200 rfl rfl⟩, List.forall_mem_cons.mpr ⟨⟨_, rfl, gd 226 rfl rfl⟩, List.forall_mem_cons.mpr ⟨⟨_, rfl, gd 254 rfl rfl⟩, List.forall_mem_cons.mpr ⟨⟨_, rfl, gd 276 rfl rfl⟩, List.forall_mem_cons.mpr ⟨⟨_, rfl, gd 290 rfl rfl⟩, List.forall_mem_cons.mpr ⟨⟨_, rfl, gd 317 rfl rfl⟩, List.forall_mem_cons.mpr ⟨⟨_, rfl, gd 850 rfl rfl⟩, fun _ h => absurd h List.not_mem_nil⟩⟩⟩⟩⟩⟩⟩⟩⟩⟩⟩⟩
set_option maxRecDepth 20000 in
theorem oi_10_1 : Cond.methodLink (Rcls 10) 1 objectInit ∈ lw_good := gd 87 rfl rfl
set_option maxRecDepth 20000 in
theorem oi_7_3 : Cond.methodLink (Rcls 7) 3 objectInit ∈ lw_good := gd 95 rfl rfl
set_option maxRecDepth 20000 in
theorem ma_7_9 : Cond.methodLink (Rcls 7) 9 Lib.Math.max.name ∈ lw_good := gd 96 rfl rfl
set_option maxRecDepth 20000 in
theorem oi_0_3 : Cond.methodLink (Rcls 0) 3 objectInit ∈ lw_good := gd 112 rfl rfl
set_option maxRecDepth 20000 in
theorem oi_2_3 : Cond.methodLink (Rcls 2) 3 objectInit ∈ lw_good := gd 158 rfl rfl
set_option maxRecDepth 20000 in
theorem oi_1_3 : Cond.methodLink (Rcls 1) 3 objectInit ∈ lw_good := gd 176 rfl rfl
set_option maxRecDepth 20000 in
theorem oi_8_3 : Cond.methodLink (Rcls 8) 3 objectInit ∈ lw_good := gd 205 rfl rfl
set_option maxRecDepth 20000 in
theorem oi_3_3 : Cond.methodLink (Rcls 3) 3 objectInit ∈ lw_good := gd 231 rfl rfl
set_option maxRecDepth 20000 in
theorem oi_9_3 : Cond.methodLink (Rcls 9) 3 objectInit ∈ lw_good := gd 259 rfl rfl
set_option maxRecDepth 20000 in
theorem oi_4_3 : Cond.methodLink (Rcls 4) 3 objectInit ∈ lw_good := gd 281 rfl rfl
set_option maxRecDepth 20000 in
theorem oi_6_3 : Cond.methodLink (Rcls 6) 3 objectInit ∈ lw_good := gd 295 rfl rfl
set_option maxRecDepth 20000 in
theorem oi_5_3 : Cond.methodLink (Rcls 5) 3 objectInit ∈ lw_good := gd 323 rfl rfl
set_option maxRecDepth 20000 in
theorem ma_0_44 : Cond.methodLink (Rcls 0) 44 Lib.Math.min.name ∈ lw_good := gd 426 rfl rfl
set_option maxRecDepth 20000 in
theorem ac_3_63 : Cond.methodLink (Rcls 3) 63 arraycopyName ∈ lw_good := gd 589 rfl rfl
set_option maxRecDepth 20000 in
theorem ac_9_44 : Cond.methodLink (Rcls 9) 44 arraycopyName ∈ lw_good := gd 633 rfl rfl
set_option maxRecDepth 20000 in
theorem ma_6_85 : Cond.methodLink (Rcls 6) 85 Lib.Math.max.name ∈ lw_good := gd 769 rfl rfl
set_option maxRecDepth 20000 in
theorem ac_10_284 : Cond.methodLink (Rcls 10) 284 arraycopyName ∈ lw_good := gd 824 rfl rfl
set_option maxRecDepth 20000 in
theorem ma_10_291 : Cond.methodLink (Rcls 10) 291 Lib.Math.min.name ∈ lw_good := gd 829 rfl rfl
set_option maxRecDepth 20000 in
theorem oi_11_1 : Cond.methodLink (Rcls 11) 1 objectInit ∈ lw_good := gd 855 rfl rfl
set_option maxRecDepth 20000 in
theorem oi_inst : Cond.instanceMethod objectInit ∈ lw_good := gd 88 rfl rfl
set_option maxRecDepth 20000 in
theorem oi_code : Cond.code objectInit ⟨#[0xb1]⟩ 1 none ∈ lw_good := gd 89 rfl rfl
set_option maxRecDepth 20000 in
theorem ac_nat : Cond.native arraycopyName ∈ lw_good ∧ Cond.static arraycopyName ∈ lw_good ∧ Cond.initialized "java/lang/System" ∈ lw_good := ⟨gd 591 rfl rfl, gd 590 rfl rfl, gd 80 rfl rfl⟩
set_option maxRecDepth 20000 in
theorem ma_max : Cond.static Lib.Math.max.name ∈ lw_good ∧ Cond.initialized "java/lang/Math" ∈ lw_good ∧ Cond.code Lib.Math.max.name Lib.Math.max.code 2 (some .int) ∈ lw_good := ⟨gd 97 rfl rfl, gd 69 rfl rfl, gd 98 rfl rfl⟩
set_option maxRecDepth 20000 in
theorem ma_min : Cond.static Lib.Math.min.name ∈ lw_good ∧ Cond.initialized "java/lang/Math" ∈ lw_good ∧ Cond.code Lib.Math.min.name Lib.Math.min.code 2 (some .int) ∈ lw_good := ⟨gd 427 rfl rfl, gd 69 rfl rfl, gd 428 rfl rfl⟩
set_option maxRecDepth 20000 in
theorem arc_int : Cond.arrayClass .int ∈ lw_good := gd 106 rfl rfl
set_option maxRecDepth 20000 in
theorem arc_boolean : Cond.arrayClass .boolean ∈ lw_good := gd 199 rfl rfl
end
section
/-! Straight stretches: what instructions without a fork do, by computation; and that the machine does so. -/
abbrev SI : Type := Instr × Nat × Nat × Nat × Value
abbrev SS : Type := Nat × List (Option Value) × List Value × GG
def shg : List Shp → Nat → Option Shp
  | [], _ => none
  | x :: _, 0 => some x
  | _ :: t, n + 1 => shg t n
theorem shg_eq : ∀ (l : List Shp) (k : Nat), shg l k = l[k]?
  | [], k => by simp [shg]
  | x :: t, 0 => rfl
  | x :: t, n + 1 => by rw [List.getElem?_cons_succ]; exact shg_eq t n
def isObj (sh : List Shp) (k a : Nat) : Bool := match shg sh k with
  | some (.inl c) => c == a
  | _ => false
def arrLen (sh : List Shp) (k : Nat) : Option Nat := match shg sh k with
  | some (.inr (.int, n)) => some n
  | _ => none
def putOk (ty : FieldType) (v : Value) : Bool := match ty, v with
  | .int, .int _ => true
  | .boolean, .int x => x == 0 || x == 1
  | _, _ => false
def sstep (sh : List Shp) (i : SI) (s : SS) : Option SS := match i.1 with
  | .iconst _ => some (s.1 + 1, s.2.1, i.2.2.2.2 :: s.2.2.1, s.2.2.2)
  | .bipush _ => some (s.1 + 2, s.2.1, i.2.2.2.2 :: s.2.2.1, s.2.2.2)
  | .sipush _ => some (s.1 + 3, s.2.1, i.2.2.2.2 :: s.2.2.1, s.2.2.2)
  | .ldc _ => some (s.1 + 2, s.2.1, i.2.2.2.2 :: s.2.2.1, s.2.2.2)
  | .ldc_w _ => some (s.1 + 3, s.2.1, i.2.2.2.2 :: s.2.2.1, s.2.2.2)
  | .ldc2_w _ => some (s.1 + 3, s.2.1, i.2.2.2.2 :: s.2.2.1, s.2.2.2)
  | .getstatic _ => some (s.1 + 3, s.2.1, .ref i.2.2.1 :: s.2.2.1, s.2.2.2)
  | .iload _ => match lget s.2.1 i.2.2.1 with
    | some (.int x) => some (s.1 + 2, s.2.1, .int x :: s.2.2.1, s.2.2.2)
    | _ => none
  | .iload_n _ => match lget s.2.1 i.2.2.1 with
    | some (.int x) => some (s.1 + 1, s.2.1, .int x :: s.2.2.1, s.2.2.2)
    | _ => none
  | .aload _ => match lget s.2.1 i.2.2.1 with
    | some (.ref x) => some (s.1 + 2, s.2.1, .ref x :: s.2.2.1, s.2.2.2)
    | _ => none
  | .aload_n _ => match lget s.2.1 i.2.2.1 with
    | some (.ref x) => some (s.1 + 1, s.2.1, .ref x :: s.2.2.1, s.2.2.2)
    | _ => none
  | .lload _ => match lget s.2.1 i.2.2.1 with
    | some (.long x) => some (s.1 + 2, s.2.1, .long x :: s.2.2.1, s.2.2.2)
    | _ => none
  | .lload_n _ => match lget s.2.1 i.2.2.1 with
    | some (.long x) => some (s.1 + 1, s.2.1, .long x :: s.2.2.1, s.2.2.2)
    | _ => none
  | .istore _ => match s.2.2.1 with
    | .int x :: r => some (s.1 + 2, set1 s.2.1 i.2.2.1 (.int x), r, s.2.2.2)
    | _ => none
  | .istore_n _ => match s.2.2.1 with
    | .int x :: r => some (s.1 + 1, set1 s.2.1 i.2.2.1 (.int x), r, s.2.2.2)
    | _ => none
  | .astore _ => match s.2.2.1 with
    | .ref x :: r => some (s.1 + 2, set1 s.2.1 i.2.2.1 (.ref x), r, s.2.2.2)
    | _ => none
  | .astore_n _ => match s.2.2.1 with
    | .ref x :: r => some (s.1 + 1, set1 s.2.1 i.2.2.1 (.ref x), r, s.2.2.2)
    | _ => none
  | .lstore _ => match s.2.2.1 with
    | .long x :: r => some (s.1 + 2, set2 s.2.1 i.2.2.1 (.long x), r, s.2.2.2)
    | _ => none
  | .lstore_n _ => match s.2.2.1 with
    | .long x :: r => some (s.1 + 1, set2 s.2.1 i.2.2.1 (.long x), r, s.2.2.2)
    | _ => none
  | .iinc _ _ => match lget s.2.1 i.2.2.1, i.2.2.2.2 with
    | some (.int x), .int n => some (s.1 + 3, set1 s.2.1 i.2.2.1 (.int (x + n)), s.2.2.1, s.2.2.2)
    | _, _ => none
  | .iadd => match s.2.2.1 with
    | .int y :: .int x :: r => some (s.1 + 1, s.2.1, .int (x + y) :: r, s.2.2.2)
    | _ => none
  | .isub => match s.2.2.1 with
    | .int y :: .int x :: r => some (s.1 + 1, s.2.1, .int (x - y) :: r, s.2.2.2)
    | _ => none
  | .imul => match s.2.2.1 with
    | .int y :: .int x :: r => some (s.1 + 1, s.2.1, .int (x * y) :: r, s.2.2.2)
    | _ => none
  | .iand => match s.2.2.1 with
    | .int y :: .int x :: r => some (s.1 + 1, s.2.1, .int (x &&& y) :: r, s.2.2.2)
    | _ => none
  | .ior => match s.2.2.1 with
    | .int y :: .int x :: r => some (s.1 + 1, s.2.1, .int (x ||| y) :: r, s.2.2.2)
    | _ => none
  | .ixor => match s.2.2.1 with
    | .int y :: .int x :: r => some (s.1 + 1, s.2.1, .int (x ^^^ y) :: r, s.2.2.2)
    | _ => none
  | .ishl => match s.2.2.1 with
    | .int y :: .int x :: r => some (s.1 + 1, s.2.1, .int (x <<< (y &&& 31)) :: r, s.2.2.2)
    | _ => none
  | .ishr => match s.2.2.1 with
    | .int y :: .int x :: r => some (s.1 + 1, s.2.1, .int (x >>> (y &&& 31)) :: r, s.2.2.2)
    | _ => none
  | .ladd => match s.2.2.1 with
    | .long y :: .long x :: r => some (s.1 + 1, s.2.1, .long (x + y) :: r, s.2.2.2)
    | _ => none
  | .lmul => match s.2.2.1 with
    | .long y :: .long x :: r => some (s.1 + 1, s.2.1, .long (x * y) :: r, s.2.2.2)
    | _ => none
  | .lcmp => match s.2.2.1 with
    | .long y :: .long x :: r => some (s.1 + 1, s.2.1, .int (lg_cmp x y) :: r, s.2.2.2)
    | _ => none
  | .i2l => match s.2.2.1 with
    | .int x :: r => some (s.1 + 1, s.2.1, .long x.toInt64 :: r, s.2.2.2)
    | _ => none
  | .i2b => match s.2.2.1 with
    | .int x :: r => some (s.1 + 1, s.2.1, .int x.toInt8.toInt32 :: r, s.2.2.2)
    | _ => none
  | .i2s => match s.2.2.1 with
    | .int x :: r => some (s.1 + 1, s.2.1, .int x.toInt16.toInt32 :: r, s.2.2.2)
    | _ => none
  | .dup => match s.2.2.1 with
    | v :: r => if v.category = 1 then some (s.1 + 1, s.2.1, v :: v :: r, s.2.2.2) else none
    | _ => none
  | .dup2 => match s.2.2.1 with
    | v :: w :: r => if v.category = 1 then (if w.category = 1 then some (s.1 + 1, s.2.1, v :: w :: v :: w :: r, s.2.2.2) else none) else none
    | _ => none
  | .goto _ => some (i.2.2.1, s.2.1, s.2.2.1, s.2.2.2)
  | .getfield _ => match s.2.2.1 with
    | .ref k :: r => bif isObj sh k i.2.2.1 then some (s.1 + 3, s.2.1, s.2.2.2 k i.2.2.2.1 :: r, s.2.2.2) else none
    | _ => none
  | .putfield _ => match s.2.2.1 with
    | v :: .ref k :: r => bif isObj sh k i.2.2.1 && putOk (ftyp i.2.2.1 i.2.2.2.1) v then some (s.1 + 3, s.2.1, r, up2 s.2.2.2 k i.2.2.2.1 v) else none
    | _ => none
  | .arraylength => match s.2.2.1 with
    | .ref k :: r => match arrLen sh k with
      | some n => some (s.1 + 1, s.2.1, .int (Int32.ofNat n) :: r, s.2.2.2)
      | none => none
    | _ => none
  | _ => none
def srun (sh : List Shp) : List SI → SS → Option SS
  | [], s => some s
  | i :: t, s => match sstep sh i s with
    | some s' => srun sh t s'
    | none => none
/-- an instruction, and what is written beside it -/
def auxOk (oc nL pc : Nat) (i : SI) : Bool := match i.1 with
  | .iconst n => i.2.2.2.2 == .int (Int32.ofInt n) && i.2.1 == 1
  | .bipush n => i.2.2.2.2 == .int (Int8.ofInt n).toInt32 && i.2.1 == 2
  | .sipush n => i.2.2.2.2 == .int (Int16.ofInt n).toInt32 && i.2.1 == 3
  | .ldc k => CI.contains (oc, k, i.2.2.2.2) && i.2.1 == 2 && (match i.2.2.2.2 with | .int _ => true | _ => false)
  | .ldc_w k => CI.contains (oc, k, i.2.2.2.2) && i.2.1 == 3 && (match i.2.2.2.2 with | .int _ => true | _ => false)
  | .ldc2_w k => CI.contains (oc, k, i.2.2.2.2) && i.2.1 == 3 && (match i.2.2.2.2 with | .long _ => true | _ => false)
  | .getstatic k => SK.contains (oc, k, i.2.2.1) && i.2.1 == 3
  | .iload k => k == i.2.2.1 && i.2.1 == 2
  | .iload_n k => k.val == i.2.2.1 && i.2.1 == 1
  | .aload k => k == i.2.2.1 && i.2.1 == 2
  | .aload_n k => k.val == i.2.2.1 && i.2.1 == 1
  | .lload k => k == i.2.2.1 && i.2.1 == 2
  | .lload_n k => k.val == i.2.2.1 && i.2.1 == 1
  | .istore k => k == i.2.2.1 && i.2.1 == 2 && decide (k < nL)
  | .istore_n k => k.val == i.2.2.1 && i.2.1 == 1 && decide (k.val < nL)
  | .astore k => k == i.2.2.1 && i.2.1 == 2 && decide (k < nL)
  | .astore_n k => k.val == i.2.2.1 && i.2.1 == 1 && decide (k.val < nL)
  | .lstore k => k == i.2.2.1 && i.2.1 == 2 && decide (k + 1 < nL)
  | .lstore_n k => k.val == i.2.2.1 && i.2.1 == 1 && decide (k.val + 1 < nL)
  | .iinc k n => k == i.2.2.1 && i.2.2.2.2 == .int (Int32.ofInt n) && i.2.1 == 3 && decide (k < nL)
  | .goto off => (pc : Int) + off == (i.2.2.1 : Int) && i.2.1 == 3
  | .getfield k => FL.contains (oc, k, i.2.2.1, i.2.2.2.1) && i.2.1 == 3
  | .putfield k => FL.contains (oc, k, i.2.2.1, i.2.2.2.1) && i.2.1 == 3 && (match vwCl[i.2.2.1]? with | some r => (r.2.1 i.2.2.2.1).2.2.2 == false | none => false)
  | _ => i.2.1 == 1
def decIs (code : ByteArray) (pc : Nat) (i : Instr) (n : Nat) : Bool := decide (decode code pc = .ok (i, n))
def blk (oc nL : Nat) (code : ByteArray) : Nat → List SI → Bool
  | _, [] => true
  | pc, i :: t => decIs code pc i.1 i.2.1 && auxOk oc nL pc i && blk oc nL code (match i.1 with | .goto _ => i.2.2.1 | _ => pc + i.2.1) t
theorem mem_of_contains {α : Type} [BEq α] [LawfulBEq α] {l : List α} {a : α} (h : l.contains a = true) : a ∈ l := by simpa using h
end
section
section ONE
variable {E : EE} {M : MTy} {d MC MS cs sl pc : Nat} {ls : List (Option Value)} {st : List Value} {sh : List Shp} {G : GG} {Q : QQ}
theorem CT.word {p e R s m args below meth c Qw} (C : CT E M d MC MS Q p e R s m args below meth c Qw) {w : Cond} (h : w ∈ lw_good) : w.before args s = true := C.2.1 w (List.mem_cons_of_mem _ h)
theorem CT.nest {p e R s m args below meth c Qw} (C : CT E M d MC MS Q p e R s m args below meth c Qw) {w : Cond} (h : w ∈ lw_nest) : w.before args s = true := va_Nw.use (by
  have hn := (List.mem_filter.mp h).2
  cases w <;> first | (simp [isNestW] at hn; done) | rfl) (C.2.2.1.2.1 w h)
theorem HR.obj {E : EE} {sh : List Shp} {G : GG} {U : State} {H : Heap} {k a : Nat} (h : HR E sh G U H) (ho : isObj sh k a = true) : 5 ≤ k ∧ sh[k]? = some (.inl a) ∧ cellR E k (.inl a) (G k) H := by
  unfold isObj at ho
  rw [shg_eq] at ho
  split at ho
  · rename_i c hc
    have e : c = a := by simpa using ho
    subst e
    have h5 : 5 ≤ k := by
      rcases Nat.lt_or_ge k 5 with q | q
      · obtain ⟨n, h1, -⟩ := h.2.2.1 k q
        rw [h1] at hc
        cases hc
      · exact q
    exact ⟨h5, hc, h.2.1 k _ h5 hc⟩
  · cases ho
theorem HR.arr {E : EE} {sh : List Shp} {G : GG} {U : State} {H : Heap} {k n : Nat} {ty : FieldType} (hK : va_K E.2.1 vwCl (tysE E) U) (hty : ty = .int ∨ ty = .boolean ∨ ty = .object RX5) (h : HR E sh G U H) (ho : sh[k]? = some (.inr (ty, n))) :
    ∃ cell : Cell, H[ad E k]? = some cell ∧ U.isArrayOf cell ty ∧ cell.vm ≠ .unknown ∧ n ≤ cell.slots.size ∧ cell.slots.size.toInt32 = Int32.ofNat n ∧ ∀ j : Nat, j < n → cell.slots[j]? = some (rv E (G k j)) := by
  rcases Nat.lt_or_ge k 5 with q | q
  · obtain ⟨n', h1, cell, a1, a2, a3, a4, a5, a6, -⟩ := h.2.2.1 k q
    rw [h1] at ho
    cases ho
    exact ⟨cell, a1, a2, a3, a4, a5, a6⟩
  · have hc := h.2.1 k _ q ho
    have hA : ArrOfT U (E.2.2.2.2 ty) ty := by
      rcases hty with rfl | rfl | rfl
      · exact (hK.2 0 _ rfl).1
      · exact (hK.2 1 _ rfl).1
      · exact (hK.2 2 _ rfl).1
    refine ⟨arrV (E.2.2.2.2 ty) n (fun j => rv E (G k j)), hc, hA n _, (fun z => by cases z), ?_, ?_, fun j hj => arrV_read _ _ hj⟩
    · rw [arrV_size]; exact Nat.le_refl _
    · rw [arrV_size]
set_option maxHeartbeats 2000000 in
theorem Rn.getf {a b k idx : Nat} (hdec : decode M.2.2.1 pc = .ok (.getfield idx, 3)) (hf : (M.1, idx, a, b) ∈ FL) (ho : isObj sh k a = true) (kk : Rn E M d MC MS cs sl (pc + 3) ls (G k b :: st) sh G Q) : Rn E M d MC MS cs sl pc ls (.ref k :: st) sh G Q := by
  intro p e R s m args below meth c Qw C H locs la hH hS hL
  obtain ⟨h5, hk0, r0, h1, cell, q1, q2, q3, q4⟩ := hH.obj ho
  obtain ⟨r, hr, hb, hlk⟩ := FL_ok _ hf
  cases h1.symm.trans hr
  obtain ⟨hSl, hfc, kC, hkC, hkind⟩ := C.2.2.1.1.1 a _ hr
  obtain ⟨cf, kf, fi, f, hi, hsl⟩ := hSl b hb
  have hst := (u_facts hfc hkC (u_lays (fun w hw => C.word hw) (lays_ok a _ hr) hb) hi).1
  have kk' := kk p e R s m args below meth c Qw C H locs la hH hS hL
  rcases hlk with hl | ⟨host, hl⟩
  · exact W.getf C.1.1 C.1.2.1 C.1.2.2.2 (C.word hl) hi hst q1 (by rw [q3]; exact fun h => by cases h) (v := rv E (G k b)) (by rw [hsl, q4 b hb]) rfl rfl hdec kk'
  · exact va_Wgetf C.1.1 C.1.2.1 C.1.2.2.2 (C.nest hl) hi hst q1 (by rw [q3]; exact fun h => by cases h) (v := rv E (G k b)) (by rw [hsl, q4 b hb]) rfl rfl hdec kk'
theorem apart_ok {p e R s m args below meth c Qw} (C : CT E M d MC MS Q p e R s m args below meth c Qw) {a : Nat} {r : vw_C} (hr : vwCl[a]? = some r) : ∀ x y, x < r.2.2 → y < r.2.2 → x ≠ y → E.2.1.2 a x ≠ E.2.1.2 a y :=
  va_apart (s := s) (args := args) (own := "") (Ts := lw_good) (fun w hw => C.word hw) (lays_ok a _ hr) (ftyp a) (ftyp_ok a _ hr).1 (ftyp_ok a _ hr).2 C.2.2.1.1 hr
set_option maxHeartbeats 2000000 in
/-- a field that is not final: a value that it can hold -/
theorem Rn.putf {a b k idx : Nat} {v : Value} (hdec : decode M.2.2.1 pc = .ok (.putfield idx, 3)) (hf : (M.1, idx, a, b) ∈ FL) (hfin : ∀ r, vwCl[a]? = some r → (r.2.1 b).2.2.2 = false) (ho : isObj sh k a = true) (hn : narrow (ftyp a b) (rv E v) = rv E v) (hfit : fits (ftyp a b) (rv E v) = true) (kk : Rn E M d MC MS cs sl (pc + 3) ls st sh (up2 G k b v) Q) : Rn E M d MC MS cs sl pc ls (v :: .ref k :: st) sh G Q := by
  intro p e R s m args below meth c Qw C H locs la hH hS hL
  obtain ⟨h5, hk0, r0, h1, cell, q1, q2, q3, q4⟩ := hH.obj ho
  obtain ⟨r, hr, hb, hlk⟩ := FL_ok _ hf
  cases h1.symm.trans hr
  have hap := apart_ok C hr
  obtain ⟨hSl, hfc, kC, hkC, hkind⟩ := C.2.2.1.1.1 a _ hr
  obtain ⟨cf, kf, fi, f, hi, hsl⟩ := hSl b hb
  have hts : ∀ w ∈ lw_good, w.before args s = true := fun w hw => C.word hw
  have hlay := hts _ (lays_ok a _ hr _ (u_in_lay hb))
  unfold u_lay at hlay
  rw [if_neg (by rw [hfin _ hr]; decide)] at hlay
  have hst := (u_facts hfc hkC (u_lays hts (lays_ok a _ hr) hb) hi).1
  have h6 := u_store hfc hkC hkind hlay hi ((ftyp_ok a _ hr).1 b hb) hn hfit
  have fin : ∀ H' : Heap, H'[ad E k]? = some (cell.setSlot f.slot (rv E v)) → H'.size = H.size → (∀ q, q ≠ ad E k → H'[q]? = H[q]?) → W p E.1 e R s m args below meth c H' (locs ++ [⟨ad E k, f.slot⟩]) cs sl Qw (F0 m (pc + 3) la (st.map (rv E))) := by
    intro H' e1 e2 e3
    rw [hsl] at e1 ⊢
    refine kk p e R s m args below meth c Qw C H' _ la ?_ (hS.put e2 e3 (by rw [ad_hi E h5]; exact Nat.le_add_right _ _)) hL
    refine hH.put h5 e2 e3 (fun x hx => ?_) (fun x hx => ?_)
    · funext j; simp [up2, hx]
    · cases hx.symm.trans hk0
      refine ⟨_, hr, _, e1, q2, q3, fun j hj => ?_⟩
      have := t_set q4 hap hb (rv E v) j hj
      rw [this]
      by_cases hjb : j = b
      · subst hjb; simp [up2, updV]
      · simp [up2, updV, hjb]
  rcases hlk with hl | ⟨host, hl⟩
  · exact W.putK C.1.1 C.1.2.1 (f := f) ⟨C.1.2.2.2, C.word hl, ⟨_, _, _, hi⟩, hst⟩ (by rw [q2]; exact h6) q1 q3 (by rw [hsl]; exact k2_hasslot (q4 b hb)) rfl rfl hdec fin
  · exact va_WputK C.1.1 C.1.2.1 (f := f) C.1.2.2.2 (C.nest hl) hi hst (by rw [q2]; exact h6) q1 q3 (by rw [hsl]; exact k2_hasslot (q4 b hb)) rfl rfl hdec fin
theorem Rn.alen {k n : Nat} {ty : FieldType} (hdec : decode M.2.2.1 pc = .ok (.arraylength, 1)) (hty : ty = .int ∨ ty = .boolean ∨ ty = .object RX5) (ho : sh[k]? = some (.inr (ty, n))) (kk : Rn E M d MC MS cs sl (pc + 1) ls (.int (Int32.ofNat n) :: st) sh G Q) : Rn E M d MC MS cs sl pc ls (.ref k :: st) sh G Q := by
  intro p e R s m args below meth c Qw C H locs la hH hS hL
  obtain ⟨cell, a1, a2, a3, a4, a5, a6⟩ := hH.arr C.2.2.1.1 hty ho
  exact W.alen (n := Int32.ofNat n) C.1.1 C.1.2.1 a1 a2 a5 rfl rfl hdec (kk p e R s m args below meth c Qw C H locs la hH hS hL)
theorem Rn.gets {k idx : Nat} (hdec : decode M.2.2.1 pc = .ok (.getstatic idx, 3)) (hk : (M.1, idx, k) ∈ SK) (kk : Rn E M d MC MS cs sl (pc + 3) ls (.ref k :: st) sh G Q) : Rn E M d MC MS cs sl pc ls st sh G Q := by
  intro p e R s m args below meth c Qw C H locs la hH hS hL
  obtain ⟨h1, h2, hl⟩ := SK_ok _ hk
  obtain ⟨cf, kf, fi, f, a, cell, z1, z2, z3, z4, z5, z6, z7, z8⟩ := hH.2.2.2 k h1 h2
  exact W.gets C.1.1 C.1.2.1 C.1.2.2.2 (C.word hl) z1 z2 z3 z4 z5 (fun e => by rw [e] at z6; cases z6) z7 rfl hdec (kk p e R s m args below meth c Qw C H locs la hH hS hL)
theorem Rn.ld {v : Value} {i : Nat} {ins : Instr} {n : Nat} (hl : lget ls i = some v)
    (row : ∀ {p : Program} {l : Launch} {e : Env} {R : Room} {s : State} {m : MethodId} {args : Array Value} {below : List Frame} {meth : Method} {c : Code} {H : Heap} {locs : List Loc} {cells slots : Nat} {Qw : State → Prop} {la : Array Slot} {rest : List Value}, p.tables.exec = Jvm.exec → c.code = M.2.2.1 → la[i]? = some (.val (rv E v)) → W p l e R s m args below meth c H locs cells slots Qw (F0 m (pc + n) la (rv E v :: rest)) → W p l e R s m args below meth c H locs cells slots Qw (F0 m pc la rest))
    (kk : Rn E M d MC MS cs sl (pc + n) ls (v :: st) sh G Q) : Rn E M d MC MS cs sl pc ls st sh G Q := by
  intro p e R s m args below meth c Qw C H locs la hH hS hL
  exact row C.1.1 C.1.2.1 (hL.at hl) (kk p e R s m args below meth c Qw C H locs la hH hS hL)
theorem Rn.st1 {v : Value} {i n : Nat} 
    (row : ∀ {p : Program} {l : Launch} {e : Env} {R : Room} {s : State} {m : MethodId} {args : Array Value} {below : List Frame} {meth : Method} {c : Code} {H : Heap} {locs : List Loc} {cells slots : Nat} {Qw : State → Prop} {la : Array Slot} {rest : List Value}, p.tables.exec = Jvm.exec → c.code = M.2.2.1 → lv_has la M.2.2.2.1 (lst E 0 ls) → (∀ la' : Array Slot, lv_has la' M.2.2.2.1 ((i, rv E v) :: (lst E 0 ls).filter (fun q => !(q.1 == i) && !(q.1 + 1 == i && q.2.category == 2))) → W p l e R s m args below meth c H locs cells slots Qw (F0 m (pc + n) la' rest)) → W p l e R s m args below meth c H locs cells slots Qw (F0 m pc la (rv E v :: rest)))
    (kk : Rn E M d MC MS cs sl (pc + n) (set1 ls i v) st sh G Q) : Rn E M d MC MS cs sl pc ls (v :: st) sh G Q := by
  intro p e R s m args below meth c Qw C H locs la hH hS hL
  exact row C.1.1 C.1.2.1 hL (fun la' hl' => kk p e R s m args below meth c Qw C H locs la' hH hS (lvr.sub hl' set1_sub))
theorem Rn.st2 {v : Value} {i n : Nat} 
    (row : ∀ {p : Program} {l : Launch} {e : Env} {R : Room} {s : State} {m : MethodId} {args : Array Value} {below : List Frame} {meth : Method} {c : Code} {H : Heap} {locs : List Loc} {cells slots : Nat} {Qw : State → Prop} {la : Array Slot} {rest : List Value}, p.tables.exec = Jvm.exec → c.code = M.2.2.1 → lv_has la M.2.2.2.1 (lst E 0 ls) → (∀ la' : Array Slot, lv_has la' M.2.2.2.1 ((i, rv E v) :: (lst E 0 ls).filter (fun q => !(q.1 == i) && (!(q.1 == i + 1) && !(q.1 + 1 == i && q.2.category == 2)))) → W p l e R s m args below meth c H locs cells slots Qw (F0 m (pc + n) la' rest)) → W p l e R s m args below meth c H locs cells slots Qw (F0 m pc la (rv E v :: rest)))
    (kk : Rn E M d MC MS cs sl (pc + n) (set2 ls i v) st sh G Q) : Rn E M d MC MS cs sl pc ls (v :: st) sh G Q := by
  intro p e R s m args below meth c Qw C H locs la hH hS hL
  exact row C.1.1 C.1.2.1 hL (fun la' hl' => kk p e R s m args below meth c Qw C H locs la' hH hS (lvr.sub hl' set2_sub))
end ONE
end
section
section GO
variable {E : EE} {M : MTy} {d MC MS cs sl pc : Nat} {ls : List (Option Value)} {st : List Value} {sh : List Shp} {G : GG} {Q : QQ}
set_option maxHeartbeats 4000000 in
theorem Rn.one {i : SI} {s' : SS} (hd : decIs M.2.2.1 pc i.1 i.2.1 = true) (ha : auxOk M.1 M.2.2.2.1 pc i = true) (hs : sstep sh i (pc, ls, st, G) = some s') :
    (Rn E M d MC MS cs sl s'.1 s'.2.1 s'.2.2.1 sh s'.2.2.2 Q → Rn E M d MC MS cs sl pc ls st sh G Q) ∧ s'.1 = (match i.1 with | .goto _ => i.2.2.1 | _ => pc + i.2.1) := by
  obtain ⟨ins, n, a, b, v⟩ := i
  have hdec : decode M.2.2.1 pc = .ok (ins, n) := of_decide_eq_true hd
  cases ins with
  | iconst z =>
    simp only [auxOk, Bool.and_eq_true, beq_iff_eq] at ha
    obtain ⟨rfl, rfl⟩ := ha
    simp only [sstep, Option.some.injEq] at hs
    subst hs
    refine ⟨fun kk => ?_, rfl⟩
    intro p e R s m args below meth c Qw C H locs la hH hS hL
    exact lv_iconst C.1.1 C.1.2.1 hdec rfl (kk p e R s m args below meth c Qw C H locs la hH hS hL)
  | bipush z =>
    simp only [auxOk, Bool.and_eq_true, beq_iff_eq] at ha
    obtain ⟨rfl, rfl⟩ := ha
    simp only [sstep, Option.some.injEq] at hs
    subst hs
    refine ⟨fun kk => ?_, rfl⟩
    intro p e R s m args below meth c Qw C H locs la hH hS hL
    exact lv_bipush C.1.1 C.1.2.1 hdec rfl (kk p e R s m args below meth c Qw C H locs la hH hS hL)
  | sipush z =>
    simp only [auxOk, Bool.and_eq_true, beq_iff_eq] at ha
    obtain ⟨rfl, rfl⟩ := ha
    simp only [sstep, Option.some.injEq] at hs
    subst hs
    refine ⟨fun kk => ?_, rfl⟩
    intro p e R s m args below meth c Qw C H locs la hH hS hL
    exact lv_sipush C.1.1 C.1.2.1 hdec rfl (kk p e R s m args below meth c Qw C H locs la hH hS hL)
  | ldc z =>
    simp only [auxOk, Bool.and_eq_true, beq_iff_eq] at ha
    obtain ⟨⟨h1, rfl⟩, h2⟩ := ha
    simp only [sstep, Option.some.injEq] at hs
    subst hs
    refine ⟨fun kk => ?_, rfl⟩
    rcases CI_ok _ (mem_of_contains h1) with ⟨x, e1, hw⟩ | ⟨x, e1, hw⟩
    · simp only at e1
      subst e1
      first
        | (exfalso; simp at h2; done)
        | (intro p e R s m args below meth c Qw C H locs la hH hS hL; exact lv_ldc C.1.1 C.1.2.1 C.1.2.2.2 (C.word hw) hdec (kk p e R s m args below meth c Qw C H locs la hH hS hL))
    · simp only at e1
      subst e1
      first
        | (exfalso; simp at h2; done)
        | (intro p e R s m args below meth c Qw C H locs la hH hS hL; exact lv_ldc C.1.1 C.1.2.1 C.1.2.2.2 (C.word hw) hdec (kk p e R s m args below meth c Qw C H locs la hH hS hL))
  | ldc_w z =>
    simp only [auxOk, Bool.and_eq_true, beq_iff_eq] at ha
    obtain ⟨⟨h1, rfl⟩, h2⟩ := ha
    simp only [sstep, Option.some.injEq] at hs
    subst hs
    refine ⟨fun kk => ?_, rfl⟩
    rcases CI_ok _ (mem_of_contains h1) with ⟨x, e1, hw⟩ | ⟨x, e1, hw⟩
    · simp only at e1
      subst e1
      first
        | (exfalso; simp at h2; done)
        | (intro p e R s m args below meth c Qw C H locs la hH hS hL; exact lv_ldcw C.1.1 C.1.2.1 C.1.2.2.2 (C.word hw) hdec (kk p e R s m args below meth c Qw C H locs la hH hS hL))
    · simp only at e1
      subst e1
      first
        | (exfalso; simp at h2; done)
        | (intro p e R s m args below meth c Qw C H locs la hH hS hL; exact lv_ldcw C.1.1 C.1.2.1 C.1.2.2.2 (C.word hw) hdec (kk p e R s m args below meth c Qw C H locs la hH hS hL))
  | ldc2_w z =>
    simp only [auxOk, Bool.and_eq_true, beq_iff_eq] at ha
    obtain ⟨⟨h1, rfl⟩, h2⟩ := ha
    simp only [sstep, Option.some.injEq] at hs
    subst hs
    refine ⟨fun kk => ?_, rfl⟩
    rcases CI_ok _ (mem_of_contains h1) with ⟨x, e1, hw⟩ | ⟨x, e1, hw⟩
    · simp only at e1
      subst e1
      first
        | (exfalso; simp at h2; done)
        | (intro p e R s m args below meth c Qw C H locs la hH hS hL; exact lv_ldc2 C.1.1 C.1.2.1 C.1.2.2.2 (C.word hw) hdec (kk p e R s m args below meth c Qw C H locs la hH hS hL))
    · simp only at e1
      subst e1
      first
        | (exfalso; simp at h2; done)
        | (intro p e R s m args below meth c Qw C H locs la hH hS hL; exact lv_ldc2 C.1.1 C.1.2.1 C.1.2.2.2 (C.word hw) hdec (kk p e R s m args below meth c Qw C H locs la hH hS hL))
  | getstatic z =>
    simp only [auxOk, Bool.and_eq_true, beq_iff_eq] at ha
    obtain ⟨h1, rfl⟩ := ha
    simp only [sstep, Option.some.injEq] at hs
    subst hs
    exact ⟨fun kk => Rn.gets hdec (mem_of_contains h1) kk, rfl⟩
  | iload z =>
    simp only [auxOk, Bool.and_eq_true, beq_iff_eq] at ha
    obtain ⟨rfl, rfl⟩ := ha
    simp only [sstep] at hs
    split at hs
    · rename_i x hx
      cases hs
      refine ⟨fun kk => ?_, rfl⟩
      intro p e R s m args below meth c Qw C H locs la hH hS hL
      exact lv_iload C.1.1 C.1.2.1 hdec (hL.at hx) (kk p e R s m args below meth c Qw C H locs la hH hS hL)
    · cases hs
  | iload_n z =>
    simp only [auxOk, Bool.and_eq_true, beq_iff_eq] at ha
    obtain ⟨rfl, rfl⟩ := ha
    simp only [sstep] at hs
    split at hs
    · rename_i x hx
      cases hs
      refine ⟨fun kk => ?_, rfl⟩
      intro p e R s m args below meth c Qw C H locs la hH hS hL
      exact lv_iload_n C.1.1 C.1.2.1 hdec rfl (hL.at hx) (kk p e R s m args below meth c Qw C H locs la hH hS hL)
    · cases hs
  | aload z =>
    simp only [auxOk, Bool.and_eq_true, beq_iff_eq] at ha
    obtain ⟨rfl, rfl⟩ := ha
    simp only [sstep] at hs
    split at hs
    · rename_i x hx
      cases hs
      refine ⟨fun kk => ?_, rfl⟩
      intro p e R s m args below meth c Qw C H locs la hH hS hL
      exact lv_aload C.1.1 C.1.2.1 hdec (hL.at hx) (kk p e R s m args below meth c Qw C H locs la hH hS hL)
    · cases hs
  | aload_n z =>
    simp only [auxOk, Bool.and_eq_true, beq_iff_eq] at ha
    obtain ⟨rfl, rfl⟩ := ha
    simp only [sstep] at hs
    split at hs
    · rename_i x hx
      cases hs
      refine ⟨fun kk => ?_, rfl⟩
      intro p e R s m args below meth c Qw C H locs la hH hS hL
      exact lv_aload_n C.1.1 C.1.2.1 hdec rfl (hL.at hx) (kk p e R s m args below meth c Qw C H locs la hH hS hL)
    · cases hs
  | lload z =>
    simp only [auxOk, Bool.and_eq_true, beq_iff_eq] at ha
    obtain ⟨rfl, rfl⟩ := ha
    simp only [sstep] at hs
    split at hs
    · rename_i x hx
      cases hs
      refine ⟨fun kk => ?_, rfl⟩
      intro p e R s m args below meth c Qw C H locs la hH hS hL
      exact lv_lload C.1.1 C.1.2.1 hdec (hL.at hx) (kk p e R s m args below meth c Qw C H locs la hH hS hL)
    · cases hs
  | lload_n z =>
    simp only [auxOk, Bool.and_eq_true, beq_iff_eq] at ha
    obtain ⟨rfl, rfl⟩ := ha
    simp only [sstep] at hs
    split at hs
    · rename_i x hx
      cases hs
      refine ⟨fun kk => ?_, rfl⟩
      intro p e R s m args below meth c Qw C H locs la hH hS hL
      exact lv_lload_n C.1.1 C.1.2.1 hdec rfl (hL.at hx) (kk p e R s m args below meth c Qw C H locs la hH hS hL)
    · cases hs
  | istore z =>
    simp only [auxOk, Bool.and_eq_true, beq_iff_eq, decide_eq_true_eq] at ha
    obtain ⟨⟨rfl, rfl⟩, hn⟩ := ha
    simp only [sstep] at hs
    split at hs
    · rename_i x r
      cases hs
      refine ⟨fun kk => ?_, rfl⟩
      intro p e R s m args below meth c Qw C H locs la hH hS hL
      exact lv_istore C.1.1 C.1.2.1 hdec hL hn rfl (fun la' hl' => kk p e R s m args below meth c Qw C H locs la' hH hS (lvr.sub hl' set1_sub))
    · cases hs
  | istore_n z =>
    simp only [auxOk, Bool.and_eq_true, beq_iff_eq, decide_eq_true_eq] at ha
    obtain ⟨⟨rfl, rfl⟩, hn⟩ := ha
    simp only [sstep] at hs
    split at hs
    · rename_i x r
      cases hs
      refine ⟨fun kk => ?_, rfl⟩
      intro p e R s m args below meth c Qw C H locs la hH hS hL
      exact lv_istore_n C.1.1 C.1.2.1 hdec rfl hL hn rfl (fun la' hl' => kk p e R s m args below meth c Qw C H locs la' hH hS (lvr.sub hl' set1_sub))
    · cases hs
  | astore z =>
    simp only [auxOk, Bool.and_eq_true, beq_iff_eq, decide_eq_true_eq] at ha
    obtain ⟨⟨rfl, rfl⟩, hn⟩ := ha
    simp only [sstep] at hs
    split at hs
    · rename_i x r
      cases hs
      refine ⟨fun kk => ?_, rfl⟩
      intro p e R s m args below meth c Qw C H locs la hH hS hL
      exact lv_astore C.1.1 C.1.2.1 hdec hL hn rfl (fun la' hl' => kk p e R s m args below meth c Qw C H locs la' hH hS (lvr.sub hl' set1_sub))
    · cases hs
  | astore_n z =>
    simp only [auxOk, Bool.and_eq_true, beq_iff_eq, decide_eq_true_eq] at ha
    obtain ⟨⟨rfl, rfl⟩, hn⟩ := ha
    simp only [sstep] at hs
    split at hs
    · rename_i x r
      cases hs
      refine ⟨fun kk => ?_, rfl⟩
      intro p e R s m args below meth c Qw C H locs la hH hS hL
      exact lv_astore_n C.1.1 C.1.2.1 hdec rfl hL hn rfl (fun la' hl' => kk p e R s m args below meth c Qw C H locs la' hH hS (lvr.sub hl' set1_sub))
    · cases hs
  | lstore z =>
    simp only [auxOk, Bool.and_eq_true, beq_iff_eq, decide_eq_true_eq] at ha
    obtain ⟨⟨rfl, rfl⟩, hn⟩ := ha
    simp only [sstep] at hs
    split at hs
    · rename_i x r
      cases hs
      refine ⟨fun kk => ?_, rfl⟩
      intro p e R s m args below meth c Qw C H locs la hH hS hL
      exact lv_lstore C.1.1 C.1.2.1 hdec hL hn rfl (fun la' hl' => kk p e R s m args below meth c Qw C H locs la' hH hS (lvr.sub hl' set2_sub))
    · cases hs
  | lstore_n z =>
    simp only [auxOk, Bool.and_eq_true, beq_iff_eq, decide_eq_true_eq] at ha
    obtain ⟨⟨rfl, rfl⟩, hn⟩ := ha
    simp only [sstep] at hs
    split at hs
    · rename_i x r
      cases hs
      refine ⟨fun kk => ?_, rfl⟩
      intro p e R s m args below meth c Qw C H locs la hH hS hL
      exact lv_lstore_n C.1.1 C.1.2.1 hdec rfl hL hn rfl (fun la' hl' => kk p e R s m args below meth c Qw C H locs la' hH hS (lvr.sub hl' set2_sub))
    · cases hs
  | iinc z z2 =>
    simp only [auxOk, Bool.and_eq_true, beq_iff_eq, decide_eq_true_eq] at ha
    obtain ⟨⟨⟨rfl, rfl⟩, rfl⟩, hn⟩ := ha
    simp only [sstep] at hs
    split at hs
    · rename_i x n2 hx he
      cases he
      cases hs
      refine ⟨fun kk => ?_, rfl⟩
      intro p e R s m args below meth c Qw C H locs la hH hS hL
      obtain ⟨q, hq⟩ := List.getElem?_of_mem ((lst_mem E ls 0 (z, .int x)).mpr ⟨z, _, hx, by rw [Nat.zero_add]; rfl⟩)
      exact lv_iinc C.1.1 C.1.2.1 hdec hL hq rfl hn rfl (fun la' hl' => kk p e R s m args below meth c Qw C H locs la' hH hS (lvr.sub hl' set1_sub))
    · cases hs
  | iadd =>
    simp only [auxOk, beq_iff_eq] at ha
    subst ha
    simp only [sstep] at hs
    split at hs
    · rename_i y x r
      cases hs
      refine ⟨fun kk => ?_, rfl⟩
      intro p e R s m args below meth c Qw C H locs la hH hS hL
      exact lv_iadd C.1.1 C.1.2.1 hdec (kk p e R s m args below meth c Qw C H locs la hH hS hL)
    · cases hs
  | isub =>
    simp only [auxOk, beq_iff_eq] at ha
    subst ha
    simp only [sstep] at hs
    split at hs
    · rename_i y x r
      cases hs
      refine ⟨fun kk => ?_, rfl⟩
      intro p e R s m args below meth c Qw C H locs la hH hS hL
      exact lv_isub C.1.1 C.1.2.1 hdec (kk p e R s m args below meth c Qw C H locs la hH hS hL)
    · cases hs
  | imul =>
    simp only [auxOk, beq_iff_eq] at ha
    subst ha
    simp only [sstep] at hs
    split at hs
    · rename_i y x r
      cases hs
      refine ⟨fun kk => ?_, rfl⟩
      intro p e R s m args below meth c Qw C H locs la hH hS hL
      exact lv_imul C.1.1 C.1.2.1 hdec (kk p e R s m args below meth c Qw C H locs la hH hS hL)
    · cases hs
  | iand =>
    simp only [auxOk, beq_iff_eq] at ha
    subst ha
    simp only [sstep] at hs
    split at hs
    · rename_i y x r
      cases hs
      refine ⟨fun kk => ?_, rfl⟩
      intro p e R s m args below meth c Qw C H locs la hH hS hL
      exact lv_iand C.1.1 C.1.2.1 hdec (kk p e R s m args below meth c Qw C H locs la hH hS hL)
    · cases hs
  | ior =>
    simp only [auxOk, beq_iff_eq] at ha
    subst ha
    simp only [sstep] at hs
    split at hs
    · rename_i y x r
      cases hs
      refine ⟨fun kk => ?_, rfl⟩
      intro p e R s m args below meth c Qw C H locs la hH hS hL
      exact lv_ior C.1.1 C.1.2.1 hdec (kk p e R s m args below meth c Qw C H locs la hH hS hL)
    · cases hs
  | ixor =>
    simp only [auxOk, beq_iff_eq] at ha
    subst ha
    simp only [sstep] at hs
    split at hs
    · rename_i y x r
      cases hs
      refine ⟨fun kk => ?_, rfl⟩
      intro p e R s m args below meth c Qw C H locs la hH hS hL
      exact lv_ixor C.1.1 C.1.2.1 hdec (kk p e R s m args below meth c Qw C H locs la hH hS hL)
    · cases hs
  | ishl =>
    simp only [auxOk, beq_iff_eq] at ha
    subst ha
    simp only [sstep] at hs
    split at hs
    · rename_i y x r
      cases hs
      refine ⟨fun kk => ?_, rfl⟩
      intro p e R s m args below meth c Qw C H locs la hH hS hL
      exact lv_ishl C.1.1 C.1.2.1 hdec (kk p e R s m args below meth c Qw C H locs la hH hS hL)
    · cases hs
  | ishr =>
    simp only [auxOk, beq_iff_eq] at ha
    subst ha
    simp only [sstep] at hs
    split at hs
    · rename_i y x r
      cases hs
      refine ⟨fun kk => ?_, rfl⟩
      intro p e R s m args below meth c Qw C H locs la hH hS hL
      exact lv_ishr C.1.1 C.1.2.1 hdec (kk p e R s m args below meth c Qw C H locs la hH hS hL)
    · cases hs
  | ladd =>
    simp only [auxOk, beq_iff_eq] at ha
    subst ha
    simp only [sstep] at hs
    split at hs
    · rename_i y x r
      cases hs
      refine ⟨fun kk => ?_, rfl⟩
      intro p e R s m args below meth c Qw C H locs la hH hS hL
      exact lv_ladd C.1.1 C.1.2.1 hdec (kk p e R s m args below meth c Qw C H locs la hH hS hL)
    · cases hs
  | lmul =>
    simp only [auxOk, beq_iff_eq] at ha
    subst ha
    simp only [sstep] at hs
    split at hs
    · rename_i y x r
      cases hs
      refine ⟨fun kk => ?_, rfl⟩
      intro p e R s m args below meth c Qw C H locs la hH hS hL
      exact lv_lmul C.1.1 C.1.2.1 hdec (kk p e R s m args below meth c Qw C H locs la hH hS hL)
    · cases hs
  | lcmp =>
    simp only [auxOk, beq_iff_eq] at ha
    subst ha
    simp only [sstep] at hs
    split at hs
    · rename_i y x r
      cases hs
      refine ⟨fun kk => ?_, rfl⟩
      intro p e R s m args below meth c Qw C H locs la hH hS hL
      exact W.lcmp C.1.1 C.1.2.1 hdec (kk p e R s m args below meth c Qw C H locs la hH hS hL)
    · cases hs
  | i2l =>
    simp only [auxOk, beq_iff_eq] at ha
    subst ha
    simp only [sstep] at hs
    split at hs
    · rename_i x r
      cases hs
      refine ⟨fun kk => ?_, rfl⟩
      intro p e R s m args below meth c Qw C H locs la hH hS hL
      exact lv_i2l C.1.1 C.1.2.1 hdec rfl (kk p e R s m args below meth c Qw C H locs la hH hS hL)
    · cases hs
  | i2b =>
    simp only [auxOk, beq_iff_eq] at ha
    subst ha
    simp only [sstep] at hs
    split at hs
    · rename_i x r
      cases hs
      refine ⟨fun kk => ?_, rfl⟩
      intro p e R s m args below meth c Qw C H locs la hH hS hL
      exact lv_i2b C.1.1 C.1.2.1 hdec rfl (kk p e R s m args below meth c Qw C H locs la hH hS hL)
    · cases hs
  | i2s =>
    simp only [auxOk, beq_iff_eq] at ha
    subst ha
    simp only [sstep] at hs
    split at hs
    · rename_i x r
      cases hs
      refine ⟨fun kk => ?_, rfl⟩
      intro p e R s m args below meth c Qw C H locs la hH hS hL
      exact lv_i2s C.1.1 C.1.2.1 hdec rfl (kk p e R s m args below meth c Qw C H locs la hH hS hL)
    · cases hs
  | dup =>
    simp only [auxOk, beq_iff_eq] at ha
    subst ha
    simp only [sstep] at hs
    split at hs
    · rename_i w r
      split at hs
      · rename_i hc
        cases hs
        refine ⟨fun kk => ?_, rfl⟩
        intro p e R s m args below meth c Qw C H locs la hH hS hL
        exact lv_dup C.1.1 C.1.2.1 hdec (by rw [rv_cat]; exact hc) (kk p e R s m args below meth c Qw C H locs la hH hS hL)
      · cases hs
    · cases hs
  | dup2 =>
    simp only [auxOk, beq_iff_eq] at ha
    subst ha
    simp only [sstep] at hs
    split at hs
    · rename_i w w2 r
      split at hs
      · rename_i hc
        split at hs
        · rename_i hc2
          cases hs
          refine ⟨fun kk => ?_, rfl⟩
          intro p e R s m args below meth c Qw C H locs la hH hS hL
          exact lv_dup2_11 C.1.1 C.1.2.1 hdec (by rw [rv_cat]; exact hc) (by rw [rv_cat]; exact hc2) (kk p e R s m args below meth c Qw C H locs la hH hS hL)
        · cases hs
      · cases hs
    · cases hs
  | goto off =>
    simp only [auxOk, Bool.and_eq_true, beq_iff_eq] at ha
    obtain ⟨h1, rfl⟩ := ha
    simp only [sstep, Option.some.injEq] at hs
    subst hs
    refine ⟨fun kk => ?_, rfl⟩
    intro p e R s m args below meth c Qw C H locs la hH hS hL
    exact lv_goto C.1.1 C.1.2.1 hdec h1 (kk p e R s m args below meth c Qw C H locs la hH hS hL)
  | getfield z =>
    simp only [auxOk, Bool.and_eq_true, beq_iff_eq] at ha
    obtain ⟨h1, rfl⟩ := ha
    simp only [sstep] at hs
    split at hs
    · rename_i k r
      cases ho : isObj sh k a with
      | false => simp [ho] at hs
      | true =>
        simp only [ho, cond_true, Option.some.injEq] at hs
        subst hs
        exact ⟨fun kk => Rn.getf hdec (mem_of_contains h1) ho kk, rfl⟩
    · cases hs
  | putfield z =>
    simp only [auxOk, Bool.and_eq_true, beq_iff_eq] at ha
    obtain ⟨⟨h1, rfl⟩, h2⟩ := ha
    simp only [sstep] at hs
    split at hs
    · rename_i w k r
      cases ho : isObj sh k a with
      | false => simp [ho] at hs
      | true =>
        cases hp : putOk (ftyp a b) w with
        | false => simp [ho, hp] at hs
        | true =>
          simp only [ho, hp, Bool.and_true, cond_true, Option.some.injEq] at hs
          subst hs
          have hfin : ∀ r, vwCl[a]? = some r → (r.2.1 b).2.2.2 = false := by
            intro r hr
            rw [hr] at h2
            simpa using h2
          have hnf : narrow (ftyp a b) (rv E w) = rv E w ∧ fits (ftyp a b) (rv E w) = true := by
            unfold putOk at hp
            split at hp
            · rename_i x0 e1
              rw [e1]
              exact ⟨rfl, rfl⟩
            · rename_i x0 x1 e1
              rw [e1]
              rcases (show x1 = 0 ∨ x1 = 1 by simpa using hp) with rfl | rfl
              · exact ⟨rfl, rfl⟩
              · exact ⟨rfl, rfl⟩
            · cases hp
          exact ⟨fun kk => Rn.putf hdec (mem_of_contains h1) hfin ho hnf.1 hnf.2 kk, rfl⟩
    · cases hs
  | arraylength =>
    simp only [auxOk, beq_iff_eq] at ha
    subst ha
    simp only [sstep] at hs
    split at hs
    · rename_i k r
      split at hs
      · rename_i n2 hn2
        cases hs
        refine ⟨fun kk => ?_, rfl⟩
        unfold arrLen at hn2
        rw [shg_eq] at hn2
        split at hn2
        · rename_i y hy
          cases hn2
          exact Rn.alen hdec (Or.inl rfl) hy kk
        · cases hn2
      · cases hs
    · cases hs
  | _ => simp [sstep] at hs
theorem Rn.go : ∀ {is : List SI} {pc : Nat} {ls : List (Option Value)} {st : List Value} {G : GG} {s' : SS}, blk M.1 M.2.2.2.1 M.2.2.1 pc is = true → srun sh is (pc, ls, st, G) = some s' → Rn E M d MC MS cs sl s'.1 s'.2.1 s'.2.2.1 sh s'.2.2.2 Q → Rn E M d MC MS cs sl pc ls st sh G Q
  | [], pc, ls, st, G, s', _, h, k => by
    simp only [srun, Option.some.injEq] at h
    subst h
    exact k
  | i :: t, pc, ls, st, G, s', hb, h, k => by
    simp only [blk, Bool.and_eq_true] at hb
    simp only [srun] at h
    split at h
    · rename_i s1 h1
      have key := Rn.one (E := E) (d := d) (MC := MC) (MS := MS) (cs := cs) (sl := sl) (Q := Q) hb.1.1 hb.1.2 h1
      exact key.1 (Rn.go (is := t) (s' := s') (pc := s1.1) (by rw [key.2]; exact hb.2) h k)
    · cases h
end GO
end
section
section FORK
variable {E : EE} {M : MTy} {d MC MS cs sl pc : Nat} {ls : List (Option Value)} {st : List Value} {sh : List Shp} {G : GG} {Q : QQ}
theorem Rn.if_eq {x : Int32} {off : Int} (tgt : Nat) (hdec : decode M.2.2.1 pc = .ok (.ifCond .eq off, 3)) (ht : (pc : Int) + off = (tgt : Int)) (kt : x = 0 → Rn E M d MC MS cs sl tgt ls st sh G Q) (kf : ¬ x = 0 → Rn E M d MC MS cs sl (pc + 3) ls st sh G Q) : Rn E M d MC MS cs sl pc ls (.int x :: st) sh G Q := by
  intro p e R s m args below meth c Qw C H locs la hH hS hL
  exact lv_if_eq C.1.1 C.1.2.1 hdec ht (fun h => kt h p e R s m args below meth c Qw C H locs la hH hS hL) (fun h => kf h p e R s m args below meth c Qw C H locs la hH hS hL)
theorem Rn.icmp_eq {x y : Int32} {off : Int} (tgt : Nat) (hdec : decode M.2.2.1 pc = .ok (.if_icmp .eq off, 3)) (ht : (pc : Int) + off = (tgt : Int)) (kt : x = y → Rn E M d MC MS cs sl tgt ls st sh G Q) (kf : ¬ x = y → Rn E M d MC MS cs sl (pc + 3) ls st sh G Q) : Rn E M d MC MS cs sl pc ls (.int y :: .int x :: st) sh G Q := by
  intro p e R s m args below meth c Qw C H locs la hH hS hL
  exact lv_icmp_eq C.1.1 C.1.2.1 hdec ht (fun h => kt h p e R s m args below meth c Qw C H locs la hH hS hL) (fun h => kf h p e R s m args below meth c Qw C H locs la hH hS hL)
theorem Rn.if_ne {x : Int32} {off : Int} (tgt : Nat) (hdec : decode M.2.2.1 pc = .ok (.ifCond .ne off, 3)) (ht : (pc : Int) + off = (tgt : Int)) (kt : ¬ x = 0 → Rn E M d MC MS cs sl tgt ls st sh G Q) (kf : x = 0 → Rn E M d MC MS cs sl (pc + 3) ls st sh G Q) : Rn E M d MC MS cs sl pc ls (.int x :: st) sh G Q := by
  intro p e R s m args below meth c Qw C H locs la hH hS hL
  exact lv_if_ne C.1.1 C.1.2.1 hdec ht (fun h => kt h p e R s m args below meth c Qw C H locs la hH hS hL) (fun h => kf h p e R s m args below meth c Qw C H locs la hH hS hL)
theorem Rn.icmp_ne {x y : Int32} {off : Int} (tgt : Nat) (hdec : decode M.2.2.1 pc = .ok (.if_icmp .ne off, 3)) (ht : (pc : Int) + off = (tgt : Int)) (kt : ¬ x = y → Rn E M d MC MS cs sl tgt ls st sh G Q) (kf : x = y → Rn E M d MC MS cs sl (pc + 3) ls st sh G Q) : Rn E M d MC MS cs sl pc ls (.int y :: .int x :: st) sh G Q := by
  intro p e R s m args below meth c Qw C H locs la hH hS hL
  exact lv_icmp_ne C.1.1 C.1.2.1 hdec ht (fun h => kt h p e R s m args below meth c Qw C H locs la hH hS hL) (fun h => kf h p e R s m args below meth c Qw C H locs la hH hS hL)
theorem Rn.if_lt {x : Int32} {off : Int} (tgt : Nat) (hdec : decode M.2.2.1 pc = .ok (.ifCond .lt off, 3)) (ht : (pc : Int) + off = (tgt : Int)) (kt : x < 0 → Rn E M d MC MS cs sl tgt ls st sh G Q) (kf : ¬ x < 0 → Rn E M d MC MS cs sl (pc + 3) ls st sh G Q) : Rn E M d MC MS cs sl pc ls (.int x :: st) sh G Q := by
  intro p e R s m args below meth c Qw C H locs la hH hS hL
  exact lv_if_lt C.1.1 C.1.2.1 hdec ht (fun h => kt h p e R s m args below meth c Qw C H locs la hH hS hL) (fun h => kf h p e R s m args below meth c Qw C H locs la hH hS hL)
theorem Rn.icmp_lt {x y : Int32} {off : Int} (tgt : Nat) (hdec : decode M.2.2.1 pc = .ok (.if_icmp .lt off, 3)) (ht : (pc : Int) + off = (tgt : Int)) (kt : x < y → Rn E M d MC MS cs sl tgt ls st sh G Q) (kf : ¬ x < y → Rn E M d MC MS cs sl (pc + 3) ls st sh G Q) : Rn E M d MC MS cs sl pc ls (.int y :: .int x :: st) sh G Q := by
  intro p e R s m args below meth c Qw C H locs la hH hS hL
  exact lv_icmp_lt C.1.1 C.1.2.1 hdec ht (fun h => kt h p e R s m args below meth c Qw C H locs la hH hS hL) (fun h => kf h p e R s m args below meth c Qw C H locs la hH hS hL)
theorem Rn.if_ge {x : Int32} {off : Int} (tgt : Nat) (hdec : decode M.2.2.1 pc = .ok (.ifCond .ge off, 3)) (ht : (pc : Int) + off = (tgt : Int)) (kt : 0 ≤ x → Rn E M d MC MS cs sl tgt ls st sh G Q) (kf : ¬ 0 ≤ x → Rn E M d MC MS cs sl (pc + 3) ls st sh G Q) : Rn E M d MC MS cs sl pc ls (.int x :: st) sh G Q := by
  intro p e R s m args below meth c Qw C H locs la hH hS hL
  exact lv_if_ge C.1.1 C.1.2.1 hdec ht (fun h => kt h p e R s m args below meth c Qw C H locs la hH hS hL) (fun h => kf h p e R s m args below meth c Qw C H locs la hH hS hL)
theorem Rn.icmp_ge {x y : Int32} {off : Int} (tgt : Nat) (hdec : decode M.2.2.1 pc = .ok (.if_icmp .ge off, 3)) (ht : (pc : Int) + off = (tgt : Int)) (kt : y ≤ x → Rn E M d MC MS cs sl tgt ls st sh G Q) (kf : ¬ y ≤ x → Rn E M d MC MS cs sl (pc + 3) ls st sh G Q) : Rn E M d MC MS cs sl pc ls (.int y :: .int x :: st) sh G Q := by
  intro p e R s m args below meth c Qw C H locs la hH hS hL
  exact lv_icmp_ge C.1.1 C.1.2.1 hdec ht (fun h => kt h p e R s m args below meth c Qw C H locs la hH hS hL) (fun h => kf h p e R s m args below meth c Qw C H locs la hH hS hL)
theorem Rn.if_gt {x : Int32} {off : Int} (tgt : Nat) (hdec : decode M.2.2.1 pc = .ok (.ifCond .gt off, 3)) (ht : (pc : Int) + off = (tgt : Int)) (kt : 0 < x → Rn E M d MC MS cs sl tgt ls st sh G Q) (kf : ¬ 0 < x → Rn E M d MC MS cs sl (pc + 3) ls st sh G Q) : Rn E M d MC MS cs sl pc ls (.int x :: st) sh G Q := by
  intro p e R s m args below meth c Qw C H locs la hH hS hL
  exact lv_if_gt C.1.1 C.1.2.1 hdec ht (fun h => kt h p e R s m args below meth c Qw C H locs la hH hS hL) (fun h => kf h p e R s m args below meth c Qw C H locs la hH hS hL)
theorem Rn.icmp_gt {x y : Int32} {off : Int} (tgt : Nat) (hdec : decode M.2.2.1 pc = .ok (.if_icmp .gt off, 3)) (ht : (pc : Int) + off = (tgt : Int)) (kt : y < x → Rn E M d MC MS cs sl tgt ls st sh G Q) (kf : ¬ y < x → Rn E M d MC MS cs sl (pc + 3) ls st sh G Q) : Rn E M d MC MS cs sl pc ls (.int y :: .int x :: st) sh G Q := by
  intro p e R s m args below meth c Qw C H locs la hH hS hL
  exact lv_icmp_gt C.1.1 C.1.2.1 hdec ht (fun h => kt h p e R s m args below meth c Qw C H locs la hH hS hL) (fun h => kf h p e R s m args below meth c Qw C H locs la hH hS hL)
theorem Rn.if_le {x : Int32} {off : Int} (tgt : Nat) (hdec : decode M.2.2.1 pc = .ok (.ifCond .le off, 3)) (ht : (pc : Int) + off = (tgt : Int)) (kt : x ≤ 0 → Rn E M d MC MS cs sl tgt ls st sh G Q) (kf : ¬ x ≤ 0 → Rn E M d MC MS cs sl (pc + 3) ls st sh G Q) : Rn E M d MC MS cs sl pc ls (.int x :: st) sh G Q := by
  intro p e R s m args below meth c Qw C H locs la hH hS hL
  exact lv_if_le C.1.1 C.1.2.1 hdec ht (fun h => kt h p e R s m args below meth c Qw C H locs la hH hS hL) (fun h => kf h p e R s m args below meth c Qw C H locs la hH hS hL)
theorem Rn.icmp_le {x y : Int32} {off : Int} (tgt : Nat) (hdec : decode M.2.2.1 pc = .ok (.if_icmp .le off, 3)) (ht : (pc : Int) + off = (tgt : Int)) (kt : x ≤ y → Rn E M d MC MS cs sl tgt ls st sh G Q) (kf : ¬ x ≤ y → Rn E M d MC MS cs sl (pc + 3) ls st sh G Q) : Rn E M d MC MS cs sl pc ls (.int y :: .int x :: st) sh G Q := by
  intro p e R s m args below meth c Qw C H locs la hH hS hL
  exact lv_icmp_le C.1.1 C.1.2.1 hdec ht (fun h => kt h p e R s m args below meth c Qw C H locs la hH hS hL) (fun h => kf h p e R s m args below meth c Qw C H locs la hH hS hL)
theorem Rn.idiv {x y : Int32} (hdec : decode M.2.2.1 pc = .ok (.idiv, 1)) (hne : ¬ y = 0) (kk : Rn E M d MC MS cs sl (pc + 1) ls (.int (x / y) :: st) sh G Q) : Rn E M d MC MS cs sl pc ls (.int y :: .int x :: st) sh G Q := by
  intro p e R s m args below meth c Qw C H locs la hH hS hL
  exact lv_idiv C.1.1 C.1.2.1 hdec hne (kk p e R s m args below meth c Qw C H locs la hH hS hL)
theorem Rn.irem {x y : Int32} (hdec : decode M.2.2.1 pc = .ok (.irem, 1)) (hne : ¬ y = 0) (kk : Rn E M d MC MS cs sl (pc + 1) ls (.int (x - x / y * y) :: st) sh G Q) : Rn E M d MC MS cs sl pc ls (.int y :: .int x :: st) sh G Q := by
  intro p e R s m args below meth c Qw C H locs la hH hS hL
  exact lv_irem C.1.1 C.1.2.1 hdec hne (kk p e R s m args below meth c Qw C H locs la hH hS hL)
theorem Rn.tblIn {x : Int32} {dflt lo hi off : Int} {offs : Array Int} {len : Nat} (tgt : Nat) (hdec : decode M.2.2.1 pc = .ok (.tableswitch dflt lo hi offs, len)) (h1 : ¬ x.toInt < lo) (h2 : ¬ hi < x.toInt) (ho : offs[(x.toInt - lo).toNat]? = some off) (ht : (pc : Int) + off = (tgt : Int)) (kk : Rn E M d MC MS cs sl tgt ls st sh G Q) : Rn E M d MC MS cs sl pc ls (.int x :: st) sh G Q := by
  intro p e R s m args below meth c Qw C H locs la hH hS hL
  exact lv_tableIn C.1.1 C.1.2.1 hdec h1 h2 ho ht (kk p e R s m args below meth c Qw C H locs la hH hS hL)
theorem Rn.tblOut {x : Int32} {dflt lo hi : Int} {offs : Array Int} {len : Nat} (tgt : Nat) (hdec : decode M.2.2.1 pc = .ok (.tableswitch dflt lo hi offs, len)) (h1 : x.toInt < lo ∨ hi < x.toInt) (ht : (pc : Int) + dflt = (tgt : Int)) (kk : Rn E M d MC MS cs sl tgt ls st sh G Q) : Rn E M d MC MS cs sl pc ls (.int x :: st) sh G Q := by
  intro p e R s m args below meth c Qw C H locs la hH hS hL
  exact lv_tableOut C.1.1 C.1.2.1 hdec h1 ht (kk p e R s m args below meth c Qw C H locs la hH hS hL)
theorem Rn.iald {k n : Nat} (j : Nat) (hdec : decode M.2.2.1 pc = .ok (.iaload, 1)) (ho : shg sh k = some (.inr (.int, n))) (hn : n < 2147483648) (hj : j < n) (kk : Rn E M d MC MS cs sl (pc + 1) ls (G k j :: st) sh G Q) : Rn E M d MC MS cs sl pc ls (.int (nI j) :: .ref k :: st) sh G Q := by
  intro p e R s m args below meth c Qw C H locs la hH hS hL
  rw [shg_eq] at ho
  obtain ⟨cell, a1, a2, a3, a4, a5, a6⟩ := hH.arr C.2.2.1.1 (by simp) ho
  have hc : (nI j).toNatClampNeg = j := nI_clamp (Nat.lt_trans hj hn)
  refine W.iald C.1.1 C.1.2.1 a1 a2 a3 ?_ (v := rv E (G k j)) (by rw [hc]; exact a6 j hj) rfl rfl hdec (kk p e R s m args below meth c Qw C H locs la hH hS hL)
  rw [hc]
  rintro (h | h)
  · exact nI_pos (Nat.lt_trans hj hn) h
  · omega
theorem Rn.zald {k n : Nat} (j : Nat) (hdec : decode M.2.2.1 pc = .ok (.baload, 1)) (ho : shg sh k = some (.inr (.boolean, n))) (hn : n < 2147483648) (hj : j < n) (kk : Rn E M d MC MS cs sl (pc + 1) ls (G k j :: st) sh G Q) : Rn E M d MC MS cs sl pc ls (.int (nI j) :: .ref k :: st) sh G Q := by
  intro p e R s m args below meth c Qw C H locs la hH hS hL
  rw [shg_eq] at ho
  obtain ⟨cell, a1, a2, a3, a4, a5, a6⟩ := hH.arr C.2.2.1.1 (by simp) ho
  have hc : (nI j).toNatClampNeg = j := nI_clamp (Nat.lt_trans hj hn)
  refine W.zald C.1.1 C.1.2.1 a1 a2 a3 ?_ (v := rv E (G k j)) (by rw [hc]; exact a6 j hj) rfl rfl hdec (kk p e R s m args below meth c Qw C H locs la hH hS hL)
  rw [hc]
  rintro (h | h)
  · exact nI_pos (Nat.lt_trans hj hn) h
  · omega
theorem Rn.aald {k n : Nat} (j : Nat) (hdec : decode M.2.2.1 pc = .ok (.aaload, 1)) (ho : shg sh k = some (.inr (.object RX5, n))) (hn : n < 2147483648) (hj : j < n) (kk : Rn E M d MC MS cs sl (pc + 1) ls (G k j :: st) sh G Q) : Rn E M d MC MS cs sl pc ls (.int (nI j) :: .ref k :: st) sh G Q := by
  intro p e R s m args below meth c Qw C H locs la hH hS hL
  rw [shg_eq] at ho
  obtain ⟨cell, a1, a2, a3, a4, a5, a6⟩ := hH.arr C.2.2.1.1 (by simp) ho
  have hc : (nI j).toNatClampNeg = j := nI_clamp (Nat.lt_trans hj hn)
  refine W.aald C.1.1 C.1.2.1 a1 a2 rfl a3 ?_ (v := rv E (G k j)) (by rw [hc]; exact a6 j hj) rfl rfl hdec (kk p e R s m args below meth c Qw C H locs la hH hS hL)
  rw [hc]
  rintro (h | h)
  · exact nI_pos (Nat.lt_trans hj hn) h
  · omega
/-- a cell of ours is an array: one place written -/
theorem HR.ast {E : EE} {sh : List Shp} {G : GG} {U : State} {H H1 : Heap} {k n j : Nat} {ty : FieldType} {v : Value} (h : HR E sh G U H) (h5 : 5 ≤ k) (ho : sh[k]? = some (.inr (ty, n))) (e : H1[ad E k]? = some ((arrV (E.2.2.2.2 ty) n (fun j => rv E (G k j))).setSlot j (rv E v))) (z : H1.size = H.size) (oq : ∀ q, q ≠ ad E k → H1[q]? = H[q]?) : HR E sh (up2 G k j v) U H1 := by
  refine h.put h5 z oq (fun a ha => ?_) (fun x hx => ?_)
  · funext j; simp [up2, ha]
  · cases hx.symm.trans ho
    show H1[ad E k]? = some (arrV _ _ _)
    rw [e, arrV_store]
    congr 2
    funext q
    by_cases hq : q = j
    · subst hq; simp [up2, updV]
    · simp [up2, updV, hq]
theorem fr_ad {E : EE} {k : Nat} (h5 : 5 ≤ k) : fr E (ad E k) := by rw [ad_hi E h5]; exact Nat.le_add_right _ _
theorem Rn.iast {k n : Nat} {x : Int32} (j : Nat) (hdec : decode M.2.2.1 pc = .ok (.iastore, 1)) (h5 : 5 ≤ k) (ho : shg sh k = some (.inr (.int, n))) (hn : n < 2147483648) (hj : j < n) (kk : Rn E M d MC MS cs sl (pc + 1) ls st sh (up2 G k j (.int x)) Q) : Rn E M d MC MS cs sl pc ls (.int x :: .int (nI j) :: .ref k :: st) sh G Q := by
  intro p e R s m args below meth c Qw C H locs la hH hS hL
  rw [shg_eq] at ho
  have hc : (nI j).toNatClampNeg = j := nI_clamp (Nat.lt_trans hj hn)
  refine W.iast C.1.1 C.1.2.1 (hH.2.1 k _ h5 ho) ((C.2.2.1.1.2 0 _ rfl).1 _ _) (fun z => by cases z) ?_ rfl rfl hdec fun H1 e1 z oq => ?_
  · rw [hc, arrV_size]
    rintro (h | h)
    · exact nI_pos (Nat.lt_trans hj hn) h
    · omega
  · rw [hc] at e1 ⊢
    exact kk p e R s m args below meth c Qw C H1 _ la (hH.ast (v := .int x) h5 ho e1 z oq) (hS.put z oq (fr_ad h5)) hL
theorem Rn.zast {k n : Nat} {x : Int32} (j : Nat) (hdec : decode M.2.2.1 pc = .ok (.bastore, 1)) (h5 : 5 ≤ k) (ho : shg sh k = some (.inr (.boolean, n))) (hn : n < 2147483648) (hj : j < n) (hx : x = 0 ∨ x = 1) (kk : Rn E M d MC MS cs sl (pc + 1) ls st sh (up2 G k j (.int x)) Q) : Rn E M d MC MS cs sl pc ls (.int x :: .int (nI j) :: .ref k :: st) sh G Q := by
  intro p e R s m args below meth c Qw C H locs la hH hS hL
  rw [shg_eq] at ho
  have hc : (nI j).toNatClampNeg = j := nI_clamp (Nat.lt_trans hj hn)
  refine W.zast C.1.1 C.1.2.1 (hH.2.1 k _ h5 ho) ((C.2.2.1.1.2 1 _ rfl).1 _ _) (fun z => by cases z) ?_ rfl rfl hdec fun H1 e1 z oq => ?_
  · rw [hc, arrV_size]
    rintro (h | h)
    · exact nI_pos (Nat.lt_trans hj hn) h
    · omega
  · rw [hc] at e1 ⊢
    have hnx : narrow .boolean (.int x) = .int x := by rcases hx with rfl | rfl <;> rfl
    rw [hnx] at e1
    exact kk p e R s m args below meth c Qw C H1 _ la (hH.ast (v := .int x) h5 ho e1 z oq) (hS.put z oq (fr_ad h5)) hL
theorem Rn.aast {k n q : Nat} (j : Nat) (hdec : decode M.2.2.1 pc = .ok (.aastore, 1)) (h5 : 5 ≤ k) (ho : shg sh k = some (.inr (.object RX5, n))) (hq : isObj sh q 5 = true) (hn : n < 2147483648) (hj : j < n) (kk : Rn E M d MC MS cs sl (pc + 1) ls st sh (up2 G k j (.ref q)) Q) : Rn E M d MC MS cs sl pc ls (.ref q :: .int (nI j) :: .ref k :: st) sh G Q := by
  intro p e R s m args below meth c Qw C H locs la hH hS hL
  rw [shg_eq] at ho
  have hc : (nI j).toNatClampNeg = j := nI_clamp (Nat.lt_trans hj hn)
  obtain ⟨q5, hk0, r0, h1, cellV, g1, g2, g3, -⟩ := hH.obj hq
  cases h1
  have hK := C.2.2.1.1
  have hcls := (hK.1 5 _ rfl).2
  obtain ⟨kA, comp, k1, k2, k3, -⟩ := (hK.2 2 _ rfl).2
  have hcomp : comp = E.2.1.1 5 := Option.some.inj (k3.symm.trans hcls.1)
  subst hcomp
  obtain ⟨kC, hkC, -⟩ := hcls.2
  refine W.aast C.1.1 C.1.2.1 (hH.2.1 k _ h5 ho) (fun q h => by cases h) (fun h => by cases h) k1 k2 rfl hkC ?_ g1 (fun q h => by rw [g3] at h; cases h) (by rw [g2]; exact hkC) (by rw [g2]; exact va_assign hcls) rfl rfl hdec fun H1 e1 z oq => ?_
  · rw [hc, arrV_size]
    exact ⟨nI_pos (Nat.lt_trans hj hn), hj⟩
  · rw [hc] at e1 ⊢
    exact kk p e R s m args below meth c Qw C H1 _ la (hH.ast (v := .ref q) h5 ho e1 z oq) (hS.put z oq (fr_ad h5)) hL
theorem Rn.mmax {x y : Int32} {idx : Nat} (hdec : decode M.2.2.1 pc = .ok (.invokestatic idx, 3)) (hl : Cond.methodLink (Rcls M.1) idx Lib.Math.max.name ∈ lw_good) (hd : 1 ≤ d) (hst : (st.map fun v => v.category).sum ≤ 8) (hc : cs ≤ MC) (hs : sl ≤ MS) (kk : Rn E M d MC MS cs sl (pc + 3) ls (.int (if x < y then y else x) :: st) sh G Q) : Rn E M d MC MS cs sl pc ls (.int y :: .int x :: st) sh G Q := by
  intro p e R s m args below meth c Qw C H locs la hH hS hL
  obtain ⟨f1, f2, f3, f4⟩ := C.2.2.2.2.1
  have e1 : ((st.map (rv E)).map fun v => v.category) = (st.map fun v => v.category) := by rw [List.map_map]; exact List.map_congr_left (fun v _ => rv_cat E v)
  exact va_mmax C.1.1 C.1.2.1 (by rw [C.1.2.2.1, hL.1]) C.1.2.2.2 (C.word hl) (C.word ma_max.1) (C.word ma_max.2.1) (C.word ma_max.2.2) (by omega) (by rw [e1]; omega) (by omega) (by omega) hdec (kk p e R s m args below meth c Qw C H locs la hH hS hL)
theorem Rn.mmin {x y : Int32} {idx : Nat} (hdec : decode M.2.2.1 pc = .ok (.invokestatic idx, 3)) (hl : Cond.methodLink (Rcls M.1) idx Lib.Math.min.name ∈ lw_good) (hd : 1 ≤ d) (hst : (st.map fun v => v.category).sum ≤ 8) (hc : cs ≤ MC) (hs : sl ≤ MS) (kk : Rn E M d MC MS cs sl (pc + 3) ls (.int (if y < x then y else x) :: st) sh G Q) : Rn E M d MC MS cs sl pc ls (.int y :: .int x :: st) sh G Q := by
  intro p e R s m args below meth c Qw C H locs la hH hS hL
  obtain ⟨f1, f2, f3, f4⟩ := C.2.2.2.2.1
  have e1 : ((st.map (rv E)).map fun v => v.category) = (st.map fun v => v.category) := by rw [List.map_map]; exact List.map_congr_left (fun v _ => rv_cat E v)
  exact va_mmin C.1.1 C.1.2.1 (by rw [C.1.2.2.1, hL.1]) C.1.2.2.2 (C.word hl) (C.word ma_min.1) (C.word ma_min.2.1) (C.word ma_min.2.2) (by omega) (by rw [e1]; omega) (by omega) (by omega) hdec (kk p e R s m args below meth c Qw C H locs la hH hS hL)
/-- a stretch, and the instruction behind it -/
def bl2 (M : MTy) (pc : Nat) (is : List SI) (pc2 : Nat) (ins : Instr) (n : Nat) : Bool := blk M.1 M.2.2.2.1 M.2.2.1 pc is && decIs M.2.2.1 pc2 ins n
theorem Rn.B {is : List SI} {pc2 n : Nat} {ins : Instr} {ls2 : List (Option Value)} {st2 : List Value} {G2 : GG} (hb : bl2 M pc is pc2 ins n = true) (hr : srun sh is (pc, ls, st, G) = some (pc2, ls2, st2, G2)) (k : decode M.2.2.1 pc2 = .ok (ins, n) → Rn E M d MC MS cs sl pc2 ls2 st2 sh G2 Q) : Rn E M d MC MS cs sl pc ls st sh G Q := by
  have hb2 := (Bool.and_eq_true _ _).mp hb
  exact Rn.go hb2.1 hr (k (of_decide_eq_true hb2.2))
end FORK
end
section
section CALL
variable {E : EE} {M : MTy} {d MC MS cs sl pc : Nat} {ls : List (Option Value)} {st : List Value} {sh : List Shp} {G : GG} {Q : QQ}
theorem cat_map (E : EE) (l : List Value) : ((l.map (rv E)).map fun v => v.category) = (l.map fun v => v.category) := by rw [List.map_map]; exact List.map_congr_left (fun v _ => rv_cat E v)
theorem PcE.blind (E : EE) (vs : List Value) (sh : List Shp) (G : GG) : FrameBlind (PcE E vs sh G) := by
  intro a U g mk h
  exact ⟨h.1, Env2.same (s := U) (U := U.calling g mk a) rfl h.2.1, h.2.2.moved (u := U) (U := U.calling g mk a) (Vm.Alike.refl U.vm)⟩
theorem PcE.of {E : EE} {vs : List Value} {sh : List Shp} {G : GG} {s U : State} {H : Heap} (hE : Env2 E s) (hH : HR E sh G s H) (hU : U.heap = H) (hW : s.WarmedH U.vm) : PcE E vs sh G (vs.map (rv E)).toArray U :=
  ⟨rfl, hE.warm hW, by rw [hU]; exact hH.moved hW.alike⟩
theorem good_WM (M M2 : MTy) (h : Cond.code M2.2.1 M2.2.2.1 M2.2.2.2.1 M2.2.2.2.2 ∈ lw_good) : GoodIn (WM M) (WM M2) := by
  intro w hw
  rcases List.mem_cons.mp hw with rfl | hw
  · exact ⟨List.mem_cons_of_mem _ h, good_of_word (lw_good_in h).2⟩
  · exact ⟨List.mem_cons_of_mem _ hw, good_of_word (lw_good_in hw).2⟩
/-- behind a call -/
theorem Rn.behind {Q2 : QQ} {mc ms : Nat} {rest : List Value} {a : Array Value} {free : Addr → Prop} {st0 : List Value} {p : Program} {e : Env} {R : Room} {s : State} {m : MethodId} {args : Array Value} {below : List Frame} {meth : Method} {c : Code} {Qw : State → Prop} {H : Heap} {locs : List Loc} {la : Array Slot}
    (C : CT E M d MC MS Q p e R s m args below meth c Qw) (hS : va_S (fr E) s.heap H locs) (hL : lvr E M.2.2.2.1 ls la) (hH0 : HR E sh G s H)
    (hr : va_Run p E.1 e R s m args below meth c H locs cs sl mc ms (F0 m pc la st0) (rest.map (rv E)) (QcE E Q2 a) (fr E))
    (kk : ∀ r sh' G', Q2 r sh' G' → Rn E M d MC MS (cs + mc) (sl + ms) (pc + 3) ls (r.toList ++ rest) sh' G' Q) : W p E.1 e R s m args below meth c H locs cs sl Qw (F0 m pc la st0) := by
  intro T hT X
  obtain ⟨v, st₀, t, T', L, h0, X', hL2, e1, e2, ⟨⟨r, sh', G', hv, hq, hb⟩, hz, hk⟩, stp⟩ := hr T hT X
  cases hv
  rw [h0] at hz hk
  have hal : s.vm.Alike t.vm := by rw [← e2]; exact X'.warmed.alike
  have hH1 : HR E sh' G' s T'.heap := by rw [e1]; exact hb.moved hal.symm
  have hS1 : va_S (fr E) s.heap T'.heap (locs ++ L) := by
    refine ⟨Nat.le_trans hS.1 (by rw [e1]; exact hz), fun q h1 h2 => ?_, fun q hq' => ?_⟩
    · rw [e1, hk q (Nat.lt_of_lt_of_le h1 hS.1) h2]
      exact hS.2.1 q h1 h2
    · rcases List.mem_append.mp hq' with h | h
      · exact hS.2.2 q h
      · exact hL2 q h
  have kk' := kk r sh' G' hq p e R s m args below meth c Qw C T'.heap (locs ++ L) la hH1 hS1 hL
  obtain ⟨t2, a1, b1⟩ := kk' T' rfl X'
  refine ⟨t2, stp t2 ?_, b1⟩
  have e3 : (r.map (rv E)).toList ++ rest.map (rv E) = (r.toList ++ rest).map (rv E) := by cases r <;> rfl
  rw [e3]
  exact a1
theorem Rn.callS {M2 : MTy} {As rest : List Value} {idx d2 mc ms : Nat} {Q2 : QQ} (hdec : decode M.2.2.1 pc = .ok (.invokestatic idx, 3)) (hl : Lnk M.1 idx M2) (ok : OkS M2) (hml : M2.2.2.2.1 ≤ 21) (ev : Ev E d2 M2 As sh G mc ms Q2) (hd : d2 < d) (hn : As.length = npar M2) (hst : st = As.reverse ++ rest) (hrest : (rest.map fun v => v.category).sum ≤ 8) (hc : cs + mc ≤ MC) (hs : sl + ms ≤ MS)
    (kk : ∀ r sh' G', Q2 r sh' G' → Rn E M d MC MS (cs + mc) (sl + ms) (pc + 3) ls (r.toList ++ rest) sh' G' Q) : Rn E M d MC MS cs sl pc ls st sh G Q := by
  intro p e R s m args below meth c Qw C H locs la hH hS hL
  obtain ⟨f1, f2, f3, f4⟩ := C.2.2.2.2.1
  obtain ⟨o1, ⟨o2, o3, o4, o5, o6⟩, o7⟩ := ok
  have hR : (rmE d2 mc ms).frames + 1 ≤ R.frames ∧ 8 + (M2.2.2.2.1 + 11) + (rmE d2 mc ms).locals ≤ R.locals := ⟨by show d2 + 1 ≤ _; omega, by show 8 + (_ + 11) + 40 * d2 ≤ _; omega⟩
  have hp : PreS s H (PcE E As sh G) (As.map (rv E)) := ⟨PcE.blind E As sh G, fun U hU hW => PcE.of C.2.2.1 hH hU hW⟩
  have hst2 : st.map (rv E) = (As.map (rv E)).reverse ++ rest.map (rv E) := by rw [hst, List.map_append, List.map_reverse]
  refine Rn.behind (rest := rest) (a := (As.map (rv E)).toArray) (free := fr E) C hS hL hH ?_ kk
  have S : CallFix p m c M.2.2.1 M.2.2.2.1 s args (WM M) (Rcls M.1) := ⟨C.1.1, C.1.2.1, C.1.2.2.1, C.1.2.2.2, C.2.1⟩
  rcases hl with hl | ⟨host, hl⟩
  · exact va_runS S ev ⟨callB_of (npar M2) C.2.1 (good_WM M M2 o2) rfl rfl rfl (C.word o3) (C.word hl) ⟨o6.1, o6.2, o7⟩ hR, C.word o1⟩ hp rfl (by rw [List.length_map]; exact hn) hL.1 hst2 (lv_room (by rw [cat_map]; exact hrest)) hdec ⟨by omega, by omega⟩
  · exact va_runSN S ev ⟨va_cnB (host := host) (npar M2) C.2.1 (good_WM M M2 o2) rfl rfl rfl (C.2.2.1.2.1 _ hl) (C.word o3) ⟨o6.1, o6.2, o7⟩ hR, C.word o1, trivial⟩ hp rfl (by rw [List.length_map]; exact hn) hL.1 hst2 (lv_room (by rw [cat_map]; exact hrest)) hdec ⟨by omega, by omega⟩
theorem Rn.callV {M2 : MTy} {As rest : List Value} {idx d2 mc ms k : Nat} {Q2 : QQ} (hdec : decode M.2.2.1 pc = .ok (.invokevirtual idx, 3)) (hl : Lnk M.1 idx M2) (ok : OkI M2) (hml : M2.2.2.2.1 ≤ 21) (hk : isObj sh k M2.1 = true) (ev : Ev E d2 M2 (.ref k :: As) sh G mc ms Q2) (hd : d2 < d) (hn : As.length = npar M2) (hst : st = As.reverse ++ .ref k :: rest) (hrest : (rest.map fun v => v.category).sum ≤ 8) (hc : cs + mc ≤ MC) (hs : sl + ms ≤ MS)
    (kk : ∀ r sh' G', Q2 r sh' G' → Rn E M d MC MS (cs + mc) (sl + ms) (pc + 3) ls (r.toList ++ rest) sh' G' Q) : Rn E M d MC MS cs sl pc ls st sh G Q := by
  intro p e R s m args below meth c Qw C H locs la hH hS hL
  obtain ⟨f1, f2, f3, f4⟩ := C.2.2.2.2.1
  obtain ⟨o1, o0, ⟨o2, o3, o4, o5, o6⟩, o7⟩ := ok
  have hR : (rmE d2 mc ms).frames + 1 ≤ R.frames ∧ 8 + (M2.2.2.2.1 + 11) + (rmE d2 mc ms).locals ≤ R.locals := ⟨by show d2 + 1 ≤ _; omega, by show 8 + (_ + 11) + 40 * d2 ≤ _; omega⟩
  have hcell : ∃ cellB : Cell, H[ad E k]? = some cellB ∧ cellB.vm.isStatics = false ∧ s.vm.findClass M2.2.1.cls = some cellB.cls := by
    obtain ⟨h5, hk0, r0, h1, cell, q1, q2, q3, q4⟩ := hH.obj hk
    refine ⟨cell, q1, by rw [q3]; rfl, ?_⟩
    have hcl := (C.2.2.1.1.1 _ _ h1).2.1
    rw [q2, o4]
    have : Rcls M2.1 = r0.1 := by
      have hlt : M2.1 < 12 := (List.getElem?_eq_some_iff.mp h1).1
      match hm : M2.1, hlt with
      | 0, _ => rw [hm] at h1; cases h1; rfl
      | 1, _ => rw [hm] at h1; cases h1; rfl
      | 2, _ => rw [hm] at h1; cases h1; rfl
      | 3, _ => rw [hm] at h1; cases h1; rfl
      | 4, _ => rw [hm] at h1; cases h1; rfl
      | 5, _ => rw [hm] at h1; cases h1; rfl
      | 6, _ => rw [hm] at h1; cases h1; rfl
      | 7, _ => rw [hm] at h1; cases h1; rfl
      | 8, _ => rw [hm] at h1; cases h1; rfl
      | 9, _ => rw [hm] at h1; cases h1; rfl
      | 10, _ => rw [hm] at h1; cases h1; rfl
      | 11, _ => rw [hm] at h1; cases h1; rfl
    rw [this]
    exact hcl
  have hp : PreV s H M2.2.1.cls (ad E k) (PcE E (.ref k :: As) sh G) (As.map (rv E)) := ⟨PcE.blind E _ sh G, hcell, fun U hU hW => PcE.of C.2.2.1 hH hU hW⟩
  have hst2 : st.map (rv E) = (As.map (rv E)).reverse ++ .ref (ad E k) :: rest.map (rv E) := by rw [hst, List.map_append, List.map_reverse]; rfl
  refine Rn.behind (rest := rest) (a := (Value.ref (ad E k) :: As.map (rv E)).toArray) (free := fr E) C hS hL hH ?_ kk
  have S : CallFix p m c M.2.2.1 M.2.2.2.1 s args (WM M) (Rcls M.1) := ⟨C.1.1, C.1.2.1, C.1.2.2.1, C.1.2.2.2, C.2.1⟩
  rcases hl with hl | ⟨host, hl⟩
  · exact va_runV S ev ⟨callB_of (npar M2) C.2.1 (good_WM M M2 o2) rfl rfl rfl (C.word o3) (C.word hl) ⟨o6.1, o6.2, o7⟩ hR, C.word o1, C.word o0⟩ hp rfl (by rw [List.length_map]; exact hn) hL.1 hst2 (lv_room (by rw [cat_map]; exact hrest)) hdec ⟨by omega, by omega⟩
  · exact va_runVN S ev ⟨va_cnB (host := host) (npar M2) C.2.1 (good_WM M M2 o2) rfl rfl rfl (C.2.2.1.2.1 _ hl) (C.word o3) ⟨o6.1, o6.2, o7⟩ hR, C.word o1, C.word o0⟩ hp rfl (by rw [List.length_map]; exact hn) hL.1 hst2 (lv_room (by rw [cat_map]; exact hrest)) hdec ⟨by omega, by omega⟩
theorem Rn.callI {M2 : MTy} {As rest : List Value} {idx d2 mc ms k : Nat} {Q2 : QQ} (hdec : decode M.2.2.1 pc = .ok (.invokespecial idx, 3)) (hl : Lnk M.1 idx M2) (ok : OkC M2) (hret : M2.2.2.2.2 = none) (hml : M2.2.2.2.1 ≤ 21) (ev : Ev E d2 M2 (.ref k :: As) sh G mc ms Q2) (hd : d2 < d) (hn : As.length = npar M2) (hst : st = As.reverse ++ .ref k :: rest) (hrest : (rest.map fun v => v.category).sum ≤ 8) (hc : cs + mc ≤ MC) (hs : sl + ms ≤ MS)
    (kk : ∀ r sh' G', Q2 r sh' G' → Rn E M d MC MS (cs + mc) (sl + ms) (pc + 3) ls (r.toList ++ rest) sh' G' Q) : Rn E M d MC MS cs sl pc ls st sh G Q := by
  intro p e R s m args below meth c Qw C H locs la hH hS hL
  obtain ⟨f1, f2, f3, f4⟩ := C.2.2.2.2.1
  obtain ⟨c2, y2, b2, l2, rt⟩ := M2
  cases hret
  obtain ⟨o1, o0, ⟨o2, o3, o4, o5, o6⟩, o7⟩ := ok
  have hR : (rmE d2 mc ms).frames + 1 ≤ R.frames ∧ 8 + (l2 + 11) + (rmE d2 mc ms).locals ≤ R.locals := ⟨by show d2 + 1 ≤ _; omega, by show 8 + (_ + 11) + 40 * d2 ≤ _; simp only at hml; omega⟩
  have hp : PreS s H (PcE E (.ref k :: As) sh G) (.ref (ad E k) :: As.map (rv E)) := ⟨PcE.blind E _ sh G, fun U hU hW => PcE.of C.2.2.1 hH hU hW⟩
  have hst2 : st.map (rv E) = (As.map (rv E)).reverse ++ .ref (ad E k) :: rest.map (rv E) := by rw [hst, List.map_append, List.map_reverse]; rfl
  refine Rn.behind (rest := rest) (a := (Value.ref (ad E k) :: As.map (rv E)).toArray) (free := fr E) C hS hL hH ?_ kk
  have S : CallFix p m c M.2.2.1 M.2.2.2.1 s args (WM M) (Rcls M.1) := ⟨C.1.1, C.1.2.1, C.1.2.2.1, C.1.2.2.2, C.2.1⟩
  rcases hl with hl | ⟨host, hl⟩
  · exact va_runI S ev ⟨callB_of (npar (c2, y2, b2, l2, none)) C.2.1 (good_WM M (c2, y2, b2, l2, none) o2) rfl rfl rfl (C.word o3) (C.word hl) ⟨o6.1, o6.2, o7⟩ hR, o0, C.word o1⟩ hp rfl (by rw [List.length_map]; exact hn) hL.1 hst2 (lv_room (by rw [cat_map]; exact hrest)) hdec ⟨by omega, by omega⟩
  · exact va_runIN S ev ⟨va_cnB (host := host) (npar (c2, y2, b2, l2, none)) C.2.1 (good_WM M (c2, y2, b2, l2, none) o2) rfl rfl rfl (C.2.2.1.2.1 _ hl) (C.word o3) ⟨o6.1, o6.2, o7⟩ hR, o0, C.word o1⟩ hp rfl (by rw [List.length_map]; exact hn) hL.1 hst2 (lv_room (by rw [cat_map]; exact hrest)) hdec ⟨by omega, by omega⟩
theorem Rn.objI {k idx : Nat} (hdec : decode M.2.2.1 pc = .ok (.invokespecial idx, 3)) (hl : Cond.methodLink (Rcls M.1) idx objectInit ∈ lw_good) (hd : 1 ≤ d) (hrest : (st.map fun v => v.category).sum ≤ 8) (kk : Rn E M d MC MS cs sl (pc + 3) ls st sh G Q) : Rn E M d MC MS cs sl pc ls (.ref k :: st) sh G Q := by
  intro p e R s m args below meth c Qw C H locs la hH hS hL
  obtain ⟨f1, f2, f3, f4⟩ := C.2.2.2.2.1
  refine W.objInit C.1.1 C.1.2.1 C.1.2.2.2 (C.word hl) (C.word oi_inst) (C.word oi_code) rfl (by rw [C.1.2.2.1]; exact hL.1) rfl hdec (by omega) ?_ (kk p e R s m args below meth c Qw C H locs la hH hS hL)
  rw [cat_map]
  show 2 * 0 + _ + 12 ≤ _
  omega
end CALL
end
section
section ALLOC
variable {E : EE} {M : MTy} {d MC MS cs sl pc : Nat} {ls : List (Option Value)} {st : List Value} {sh : List Shp} {G : GG} {Q : QQ}
def gset (G : GG) (k : Nat) (f : Nat → Value) : GG := fun a => if a = k then f else G a
theorem ad_len {E : EE} {sh : List Shp} {G : GG} {U : State} {H : Heap} (h : HR E sh G U H) : ad E sh.length = H.size := by rw [ad_hi E h.1.1, h.1.2]
theorem rv_dflt (E : EE) (ty : FieldType) : rv E (defaultValue ty) = defaultValue ty := by cases ty <;> rfl
theorem Rn.new {ci idx N : Nat} (hdec : decode M.2.2.1 pc = .ok (.new idx, 3)) (hk : (M.1, idx, ci) ∈ CK) (hN : ∀ r, vwCl[ci]? = some r → r.2.2 = N) (hc : cs + 1 ≤ MC) (hs : sl + N ≤ MS)
    (kk : Rn E M d MC MS (cs + 1) (sl + N) (pc + 3) ls (.ref sh.length :: st) (sh ++ [.inl ci]) (gset G sh.length (fun j => defaultValue (ftyp ci j))) Q) : Rn E M d MC MS cs sl pc ls st sh G Q := by
  intro p e R s m args below meth c Qw C H locs la hH hS hL
  obtain ⟨f1, f2, f3, f4⟩ := C.2.2.2.2.1
  obtain ⟨r, hr, hl⟩ := CK_ok _ hk
  have hKn := C.2.2.1.1.1 ci _ hr
  obtain ⟨i1, i2⟩ := inst_ok ci _ hr
  have hts : ∀ w ∈ lw_good, w.before args s = true := fun w hw => C.word hw
  have hNr := hN _ hr
  subst hNr
  refine W.newcK C.1.1 C.1.2.1 C.1.2.2.2 (C.word hl) (C.word i1) (C.word i2) rfl hdec (by omega) (by omega) hKn.2.1 rfl fun H1 kC hkC e1 z1 o1 => ?_
  have hH1 : HR E (sh ++ [.inl ci]) (gset G sh.length (fun j => defaultValue (ftyp ci j))) s H1 := by
    refine hH.push z1 o1 (fun a ha => by simp [gset, ha]) ⟨_, hr, ?_⟩
    rw [ad_len hH]
    have hb := u_born (ftyp ci) hts (lays_ok ci _ hr) hKn hkC e1 (ftyp_ok ci _ hr).1
    obtain ⟨cell, b1, b2, b3, b4⟩ := hb
    refine ⟨cell, b1, b2, b3, fun k hk => ?_⟩
    rw [b4 k hk]
    simp only [gset, if_pos]
    rw [rv_dflt]
  have := kk p e R s m args below meth c Qw C H1 locs la hH1 ⟨Nat.le_trans hS.1 (by omega), fun x h1 h2 => (o1 x (Nat.lt_of_lt_of_le h1 hS.1)).trans (hS.2.1 x h1 h2), hS.2.2⟩ hL
  rw [← ad_len hH]
  exact this
theorem Rn.newa {atype : ArrayType} {ty : FieldType} {n : Int32} {N : Nat} (hdec : decode M.2.2.1 pc = .ok (.newarray atype, 2)) (hty : newarray.typeOf atype = ty) (hty2 : ty = .int ∨ ty = .boolean) (hn : n = nI N) (hN : N ≤ 4096) (hc : cs + 1 ≤ MC) (hs : sl + N ≤ MS)
    (kk : Rn E M d MC MS (cs + 1) (sl + N) (pc + 2) ls (.ref sh.length :: st) (sh ++ [.inr (ty, N)]) (gset G sh.length (fun _ => .int 0)) Q) : Rn E M d MC MS cs sl pc ls (.int n :: st) sh G Q := by
  intro p e R s m args below meth c Qw C H locs la hH hS hL
  obtain ⟨f1, f2, f3, f4⟩ := C.2.2.2.2.1
  subst hn
  have hK := C.2.2.1.1
  have hw : Cond.arrayClass (newarray.typeOf atype) ∈ lw_good := by rw [hty]; rcases hty2 with rfl | rfl; exact arc_int; exact arc_boolean
  have hcl : (nI N).toNatClampNeg = N := nI_clamp (by omega)
  have hbytes : N * componentBytes (newarray.typeOf atype) ≤ 536870912 := by
    rw [hty]
    have : componentBytes ty ≤ 4 := by rcases hty2 with rfl | rfl <;> decide
    have := Nat.mul_le_mul hN this
    omega
  refine va_newaK C.1.1 C.1.2.1 (C.word hw) rfl hdec rfl (nI_pos (by omega)) hcl hbytes (by omega) (by omega) rfl fun H1 cA e1 z1 o1 hAr hNm => ?_
  have hcA : cA = E.2.2.2.2 ty := by
    rw [hty] at hNm
    rcases hty2 with rfl | rfl
    · exact Option.some.inj (hNm.symm.trans (hK.2 0 _ rfl).2)
    · exact Option.some.inj (hNm.symm.trans (hK.2 1 _ rfl).2)
  have hH1 : HR E (sh ++ [.inr (ty, N)]) (gset G sh.length (fun _ => .int 0)) s H1 := by
    refine hH.push z1 o1 (fun a ha => by simp [gset, ha]) ?_
    show H1[ad E sh.length]? = some (arrV (E.2.2.2.2 ty) N _)
    rw [ad_len hH, e1, hcA, hty]
    congr 2
    funext j
    simp only [gset, if_pos]
    rcases hty2 with rfl | rfl <;> rfl
  have := kk p e R s m args below meth c Qw C H1 locs la hH1 ⟨Nat.le_trans hS.1 (by omega), fun x h1 h2 => (o1 x (Nat.lt_of_lt_of_le h1 hS.1)).trans (hS.2.1 x h1 h2), hS.2.2⟩ hL
  rw [← ad_len hH]
  exact this
theorem Rn.anew {idx N : Nat} {n : Int32} (hdec : decode M.2.2.1 pc = .ok (.anewarray idx, 3)) (hk : (M.1, idx, 5) ∈ CK) (hn : n = nI N) (hN : N ≤ 4096) (hc : cs + 1 ≤ MC) (hs : sl + N ≤ MS)
    (kk : Rn E M d MC MS (cs + 1) (sl + N) (pc + 3) ls (.ref sh.length :: st) (sh ++ [.inr (.object RX5, N)]) (gset G sh.length (fun _ => .null)) Q) : Rn E M d MC MS cs sl pc ls (.int n :: st) sh G Q := by
  intro p e R s m args below meth c Qw C H locs la hH hS hL
  obtain ⟨f1, f2, f3, f4⟩ := C.2.2.2.2.1
  subst hn
  have hK := C.2.2.1.1
  obtain ⟨r, hr, hl⟩ := CK_ok _ hk
  cases hr
  have hcl : (nI N).toNatClampNeg = N := nI_clamp (by omega)
  refine W.anew (C := RX5) C.1.1 C.1.2.1 C.1.2.2.2 (C.word hl) (va_AO.use C.2.2.1.2.2) rfl hdec rfl (nI_pos (by omega)) (by rw [hcl]; omega) (by omega) (by rw [hcl]; omega) fun cA kA comp g1 g2 g3 g4 => ?_
  rw [hcl]
  generalize hH1 : H.push ({ cls := cA, slots := Array.replicate N .null, vm := .none } : Cell) = H1
  have z1 : H1.size = H.size + 1 := by rw [← hH1, Array.size_push]
  have e1 : H1[H.size]? = some (arrV cA N (fun _ => .null)) := by rw [← hH1, Array.getElem?_push_size, ← arrV_new]
  have o1 : ∀ q : Nat, q < H.size → H1[q]? = H[q]? := fun q hq => by rw [← hH1, Array.getElem?_push, if_neg (Nat.ne_of_lt hq)]
  have hcA : cA = E.2.2.2.2 (.object RX5) := by
    obtain ⟨kA', comp', k1, k2, k3, k4⟩ := (hK.2 2 _ rfl).2
    exact Option.some.inj (g1.symm.trans k4)
  have hH2 : HR E (sh ++ [.inr (.object RX5, N)]) (gset G sh.length (fun _ => .null)) s H1 := by
    refine hH.push z1 o1 (fun a ha => by simp [gset, ha]) ?_
    show H1[ad E sh.length]? = some (arrV (E.2.2.2.2 (.object RX5)) N _)
    rw [ad_len hH, e1, hcA]
    congr 2
    funext j
    simp only [gset, if_pos]
    rfl
  have := kk p e R s m args below meth c Qw C H1 locs la hH2 ⟨Nat.le_trans hS.1 (by omega), fun x h1 h2 => (o1 x (Nat.lt_of_lt_of_le h1 hS.1)).trans (hS.2.1 x h1 h2), hS.2.2⟩ hL
  rw [← ad_len hH]
  exact this
/-- a final field, in the constructor of its own class -/
theorem Rn.putF {a b k q idx : Nat} (hdec : decode M.2.2.1 pc = .ok (.putfield idx, 3)) (hf : (M.1, idx, a, b) ∈ FL) (hfin : ∀ r, vwCl[a]? = some r → (r.2.1 b).2.2.2 = true ∧ (r.2.1 b).1 = Rcls M.1) (hl1 : ∀ r, vwCl[a]? = some r → Cond.fieldLink (Rcls M.1) idx (r.2.1 b).1 (r.2.1 b).2.1 (r.2.1 b).2.2.1 ∈ lw_good) (hin : M.2.1.name = "<init>") (ho : isObj sh k a = true) (hty : (∃ n, ftyp a b = .object n) ∨ ∃ t, ftyp a b = .array t) (kk : Rn E M d MC MS cs sl (pc + 3) ls st sh (up2 G k b (.ref q)) Q) : Rn E M d MC MS cs sl pc ls (.ref q :: .ref k :: st) sh G Q := by
  intro p e R s m args below meth c Qw C H locs la hH hS hL
  obtain ⟨h5, hk0, r0, h1, cell, q1, q2, q3, q4⟩ := hH.obj ho
  obtain ⟨r, hr, hb, hlk⟩ := FL_ok _ hf
  cases h1.symm.trans hr
  have hap := apart_ok C hr
  obtain ⟨hSl, hfc, kC, hkC, hkind⟩ := C.2.2.1.1.1 a _ hr
  obtain ⟨cf, kf, fi, f, hi, hsl⟩ := hSl b hb
  have hts : ∀ w ∈ lw_good, w.before args s = true := fun w hw => C.word hw
  have hlay := hts _ (lays_ok a _ hr _ (u_in_lay hb))
  unfold u_lay at hlay
  rw [if_pos (hfin _ hr).1] at hlay
  have hst := (u_facts hfc hkC (u_lays hts (lays_ok a _ hr) hb) hi).1
  have hcf : m.cls = cf := by
    obtain ⟨_, _, c', _, _, _, -, -, hf', -, -, -, hown2, -⟩ := Cond.laysFinal_spec hlay
    have e1 : c' = cf := by have := hi.symm.trans hf'; simp at this; exact this.1.symm
    rw [(hfin _ hr).2] at hown2
    rw [← e1]; exact Option.some.inj (C.1.2.2.2.symm.trans hown2)
  have hnf : narrow (ftyp a b) (.ref (ad E q)) = .ref (ad E q) ∧ fits (ftyp a b) (.ref (ad E q)) = true := by
    rcases hty with ⟨n, e⟩ | ⟨n, e⟩ <;> rw [e] <;> exact ⟨rfl, rfl⟩
  have h6 := u_fits hfc hkC hkind (Or.inr hlay) hi ((ftyp_ok a _ hr).1 b hb) hnf.1 hnf.2
  refine W.putFinK C.1.1 C.1.2.1 C.1.2.2.2 (C.word (hl1 _ hr)) hi hst hcf (by rw [C.2.2.2.2.2.1]; exact hin) (by rw [q2]; exact h6) q1 q3 (by rw [hsl]; exact k2_hasslot (q4 b hb)) rfl rfl hdec fun H' e1 e2 e3 => ?_
  rw [hsl] at e1 ⊢
  refine kk p e R s m args below meth c Qw C H' _ la ?_ (hS.put e2 e3 (fr_ad h5)) hL
  refine hH.put h5 e2 e3 (fun x hx => ?_) (fun x hx => ?_)
  · funext j; simp [up2, hx]
  · cases hx.symm.trans hk0
    refine ⟨_, hr, _, e1, q2, q3, fun j hj => ?_⟩
    refine Eq.trans (t_set q4 hap hb (rv E (.ref q)) j hj) ?_
    by_cases hjb : j = b
    · subst hjb; simp [up2, updV, rv]
    · simp [up2, updV, hjb]
def cpy2 (G : GG) (ks kd sp dp n : Nat) : GG := fun a j => if a = kd then (if dp ≤ j ∧ j < dp + n then G ks (sp + (j - dp)) else G kd j) else G a j
/-- System.arraycopy between int arrays of ours -/
theorem Rn.acopy {ks kd n0 n1 sp dp n idx : Nat} (hdec : decode M.2.2.1 pc = .ok (.invokestatic idx, 3)) (hl : Cond.methodLink (Rcls M.1) idx arraycopyName ∈ lw_good) (h5 : 5 ≤ kd) (h5s : 5 ≤ ks) (ho0 : shg sh ks = some (.inr (.int, n0))) (ho1 : shg sh kd = some (.inr (.int, n1))) (hn0 : n0 < 2147483648) (hn1 : n1 < 2147483648) (hs0 : sp + n ≤ n0) (hs1 : dp + n ≤ n1) (hi : ∀ j, ∃ x, G ks j = .int x) (hd : 2 ≤ d) (hrest : (st.map fun v => v.category).sum ≤ 8)
    (kk : Rn E M d MC MS cs sl (pc + 3) ls st sh (cpy2 G ks kd sp dp n) Q) : Rn E M d MC MS cs sl pc ls (.int (nI n) :: .int (nI dp) :: .ref kd :: .int (nI sp) :: .ref ks :: st) sh G Q := by
  intro p e R s m args below meth c Qw C H locs la hH hS hL
  obtain ⟨f1, f2, f3, f4⟩ := C.2.2.2.2.1
  rw [shg_eq] at ho0 ho1
  have hK := C.2.2.1.1
  have hc0 := hH.2.1 ks _ h5s ho0
  have hc1 := hH.2.1 kd _ h5 ho1
  have hA := (hK.2 0 _ rfl).1
  obtain ⟨-, k0, hk0, cm0, hkk0⟩ := hA n0 (fun j => rv E (G ks j))
  obtain ⟨-, k1, hk1, cm1, hkk1⟩ := hA n1 (fun j => rv E (G kd j))
  have t1 : (nI sp).toNatClampNeg = sp := nI_clamp (by omega)
  have t2 : (nI dp).toNatClampNeg = dp := nI_clamp (by omega)
  have t3 : (nI n).toNatClampNeg = n := nI_clamp (by omega)
  have i1 : (nI sp).toInt = sp := nI_toInt (by omega)
  have i2 : (nI dp).toInt = dp := nI_toInt (by omega)
  have i3 : (nI n).toInt = n := nI_toInt (by omega)
  intro T hT X
  obtain ⟨vm', X', step⟩ := X.arraycopy C.1.1 C.1.2.2.2 (C.word hl) (C.word ac_nat.1) (C.word ac_nat.2.1) (C.word ac_nat.2.2) (src := ad E ks) (dst := ad E kd) (cs := arrV (E.2.2.2.2 .int) n0 (fun j => rv E (G ks j))) (cd := arrV (E.2.2.2.2 .int) n1 (fun j => rv E (G kd j))) (srcPos := nI sp) (destPos := nI dp) (n := nI n) (by rw [hT]; exact hc0) (by rw [hT]; exact hc1)
    (fun _ h => by cases h) (fun _ h => by cases h) (fun h => by cases h) (fun h => by cases h) hk0 hk1 hkk0 hkk1 (by simp [refKind]) (nI_pos (by omega)) (nI_pos (by omega)) (nI_pos (by omega))
    (by rw [i1, i3, arrV_size]; omega)
    (by rw [i2, i3, arrV_size]; omega)
    (fun vm₁ _ i hi2 => by
      rw [t3] at hi2
      obtain ⟨x, hx⟩ := hi (sp + i)
      have e : (arrV (E.2.2.2.2 .int) n0 (fun j => rv E (G ks j))).slots.getD ((nI sp).toNatClampNeg + i) .null = .int x := by
        rw [t1, Array.getD_eq_getD_getElem?, arrV_read _ _ (by omega), hx]
        rfl
      refine ⟨?_, ?_⟩
      · rw [e]
        rfl
      · rw [e]
        exact trivial)
    (g := F0 m pc la (.int (nI n) :: .int (nI dp) :: .ref (ad E kd) :: .int (nI sp) :: .ref (ad E ks) :: st.map (rv E))) rfl (by rw [C.1.2.2.1]; exact hL.1) (rest := st.map (rv E)) rfl (by rw [C.1.2.1]; exact hdec) (by omega) (by rw [cat_map]; show 2 * 0 + _ + _ ≤ _; have : nativeFrameWords "java/lang/System" "arraycopy" 5 ≤ 40 := (by decide); omega)
  have e1 : copied (arrV (E.2.2.2.2 .int) n0 (fun j => rv E (G ks j))) (arrV (E.2.2.2.2 .int) n1 (fun j => rv E (G kd j))) (nI sp) (nI dp) (nI n) = arrV (E.2.2.2.2 .int) n1 (fun j => rv E (cpy2 G ks kd sp dp n kd j)) := by
    have h := va_copied (rv E) (E.2.2.2.2 .int) (E.2.2.2.2 .int) (n1 := n1) (dp := dp) (G ks) (G kd) hs0
    show (arrV _ _ _).storeRun (nI dp).toNatClampNeg ((arrV _ _ _).stretch (nI sp).toNatClampNeg (nI n).toNatClampNeg) = _
    rw [t1, t2, t3, h]
    congr 1
    funext j
    simp only [va_cpy, cpy2, if_pos]
  rw [e1] at X' step
  have hlt : ad E kd < H.size := (Array.getElem?_eq_some_iff.mp hc1).1
  generalize hcell : arrV (E.2.2.2.2 .int) n1 (fun j => rv E (cpy2 G ks kd sp dp n kd j)) = cellN at X' step
  have hheap : ((T.setVm vm').setCell (ad E kd) cellN).heap = H.setIfInBounds (ad E kd) cellN := by rw [← hT]; rfl
  have oq : ∀ q : Nat, q ≠ ad E kd → (H.setIfInBounds (ad E kd) cellN)[q]? = H[q]? := fun q hq => by simp [Array.getElem?_setIfInBounds, Ne.symm hq]
  have hat : (H.setIfInBounds (ad E kd) cellN)[ad E kd]? = some cellN := by simp [Array.getElem?_setIfInBounds, hlt]
  have hH1 : HR E sh (cpy2 G ks kd sp dp n) s (H.setIfInBounds (ad E kd) cellN) := by
    refine hH.put h5 (by simp) oq (fun a ha => ?_) (fun x hx => ?_)
    · funext j; simp [cpy2, ha]
    · cases hx.symm.trans ho1
      show _ = some (arrV _ _ _)
      rw [hat, ← hcell]
  obtain ⟨t, a1, b1⟩ := kk p e R s m args below meth c Qw C _ _ la hH1 ⟨by simp; exact hS.1, fun q g1 g2 => by
      rw [oq q (fun e => g2 (by rw [e]; exact fr_ad h5))]
      exact hS.2.1 q g1 g2, fun q hq => by
      rcases List.mem_append.mp hq with h | h
      · exact hS.2.2 q h
      · obtain ⟨z, -, hz⟩ := List.mem_map.mp h
        rw [← hz]
        exact fr_ad h5⟩ hL _ hheap X'
  exact ⟨t, step t a1, b1⟩
end ALLOC
end
section
/-! The world behind the two constructors: its shapes, its references, its numbers F. Printed by wip/whole/gen/gen_r2.py. -/
abbrev FF : Type := Nat → Nat → Int32
def SH (L : Nat) : List Shp := [.inr (.int, L), .inr (.int, 8), .inr (.int, 8), .inr (.int, 3), .inr (.int, 3), .inl 10, .inl 7, .inr (.int, 90), .inl 7, .inr (.int, 60), .inl 0, .inr (.int, 10), .inr (.int, 10), .inr (.int, 10), .inr (.int, 10), .inr (.int, 10), .inl 2, .inr (.int, 3), .inl 1, .inr (.boolean, 20), .inr (.int, 20), .inr (.int, 20), .inl 8, .inr (.int, 10), .inr (.boolean, 10), .inl 3, .inr (.boolean, 100), .inr (.int, 10), .inr (.int, 10), .inl 9, .inr (.int, 10), .inr (.int, 1024), .inr (.int, 1024), .inl 4, .inr (.int, 8), .inl 6, .inr (.boolean, 10), .inr (.int, 4), .inr (.int, 4), .inr (.object RX5, 4), .inl 5, .inr (.int, 60), .inl 5, .inr (.int, 60), .inl 5, .inr (.int, 60), .inl 5, .inr (.int, 60), .inl 11, .inr (.int, 2), .inr (.int, 180), .inr (.int, 3), .inr (.int, 11), .inr (.int, 11), .inr (.int, 11), .inr (.int, 11), .inr (.int, 11), .inr (.int, 11), .inr (.int, 32), .inr (.int, 32), .inr (.int, 32), .inr (.int, 1024), .inr (.int, 11), .inr (.int, 1024), .inr (.int, 1024), .inr (.int, 8), .inr (.int, 11), .inr (.int, 4), .inr (.int, 4), .inr (.boolean, 4), .inr (.int, 4), .inr (.int, 4), .inr (.int, 240), .inr (.int, 60)]
def rl : List (Option Nat) → Nat → Option Nat
  | [], _ => none
  | x :: _, 0 => x
  | _ :: t, n + 1 => rl t n
def nthR : List (Nat → Option Nat) → Nat → Nat → Option Nat
  | [], _ => fun _ => none
  | x :: _, 0 => x
  | _ :: t, n + 1 => nthR t n
def rowsL : List (Nat → Option Nat) := [fun _ => none, fun _ => none, fun _ => none, fun _ => none, fun _ => none, rl [some 6, some 8, some 10, some 16, some 18, some 22, some 25, some 29, some 33, some 35, some 39, none], rl [some 7, none], fun _ => none, rl [some 9, none], fun _ => none, rl [some 11, some 12, some 13, some 14, some 15, none, none], fun _ => none, fun _ => none, fun _ => none, fun _ => none, fun _ => none, rl [some 10, some 17], fun _ => none, rl [some 19, some 20, some 21, none, none], fun _ => none, fun _ => none, fun _ => none, rl [some 16, some 23, some 24, none, none, none], fun _ => none, fun _ => none, rl [some 16, some 26, some 27, some 28, none, none], fun _ => none, fun _ => none, fun _ => none, rl [some 16, some 30, some 31, some 32, none], fun _ => none, fun _ => none, fun _ => none, rl [some 34, none], fun _ => none, rl [some 16, some 36, some 37, some 38, none, none], fun _ => none, fun _ => none, fun _ => none, fun j => some (40 + 2 * j), rl [some 41, none, none, none], fun _ => none, rl [some 43, none, none, none], fun _ => none, rl [some 45, none, none, none], fun _ => none, rl [some 47, none, none, none], fun _ => none, rl [some 49, some 50, some 51, none, some 52, some 53, some 54, some 55, some 56, some 57, none, some 58, some 59, some 60, some 61, some 62, none, none, none, some 63, some 64, none, some 65, some 66, some 67, some 68, some 69, some 70, some 71, some 72, some 73, none], fun _ => none, fun _ => none, fun _ => none, fun _ => none, fun _ => none, fun _ => none, fun _ => none, fun _ => none, fun _ => none, fun _ => none, fun _ => none, fun _ => none, fun _ => none, fun _ => none, fun _ => none, fun _ => none, fun _ => none, fun _ => none, fun _ => none, fun _ => none, fun _ => none, fun _ => none, fun _ => none, fun _ => none, fun _ => none]
def gl (F : FF) : GG := fun k j => match nthR rowsL k j with
  | some r => .ref r
  | none => .int (F k j)
theorem gl_int {F : FF} {k j : Nat} (h : nthR rowsL k j = none) : gl F k j = .int (F k j) := by unfold gl; rw [h]
theorem gl_ref {F : FF} {k j r : Nat} (h : nthR rowsL k j = some r) : gl F k j = .ref r := by unfold gl; rw [h]
theorem gl_up {F : FF} {k j : Nat} {x : Int32} (h : nthR rowsL k j = none) : up2 (gl F) k j (.int x) = gl (up2 F k j x) := by
  funext a b
  by_cases ha : a = k
  · subst ha
    by_cases hb : b = j
    · subst hb
      rw [gl_int h]
      simp [up2]
    · simp only [up2, if_pos, if_neg hb, gl]
  · simp only [up2, if_neg ha, gl]
abbrev Q2 : Type := Option Value → FF → Prop
def Lq (L : Nat) (Q : Q2) : QQ := fun r sh G => ∃ F : FF, sh = SH L ∧ G = gl F ∧ Q r F
def R2 (E : EE) (L : Nat) (M : MTy) (d pc : Nat) (ls : List (Option Value)) (st : List Value) (F : FF) (Q : Q2) : Prop := Rn E M d 0 0 0 0 pc ls st (SH L) (gl F) (Lq L Q)
def Ev2 (E : EE) (L d : Nat) (M : MTy) (vs : List Value) (F : FF) (Q : Q2) : Prop := Ev E d M vs (SH L) (gl F) 0 0 (Lq L Q)
/-- the method answers r and leaves F1 -/
def Ev3 (E : EE) (L d : Nat) (M : MTy) (vs : List Value) (F : FF) (r : Option Value) (F1 : FF) : Prop := Ev2 E L d M vs F (fun r' F' => r' = r ∧ F' = F1)
section R2S
variable {E : EE} {L : Nat} {M : MTy} {d pc : Nat} {ls : List (Option Value)} {st : List Value} {F : FF} {Q : Q2}
theorem Ev2.of {vs : List Value} (hM : OkM M) (hv : vsz vs ≤ M.2.2.2.1) (hR : R2 E L M d 0 (entL vs M.2.2.2.1) [] F Q) : Ev2 E L d M vs F Q := Ev.of hM hv hR
theorem Ev3.of {vs : List Value} {r : Option Value} {F1 : FF} (hM : OkM M) (hv : vsz vs ≤ M.2.2.2.1) (hR : R2 E L M d 0 (entL vs M.2.2.2.1) [] F (fun r' F' => r' = r ∧ F' = F1)) : Ev3 E L d M vs F r F1 := Ev.of hM hv hR
theorem Ev3.eq {vs : List Value} {r r2 : Option Value} {F1 F2 : FF} (h : Ev3 E L d M vs F r F1) (e1 : r = r2) (e2 : F1 = F2) : Ev3 E L d M vs F r2 F2 := by rw [← e1, ← e2]; exact h
theorem R2.B {is : List SI} {pc2 n : Nat} {ins : Instr} {ls2 : List (Option Value)} {st2 : List Value} (hb : bl2 M pc is pc2 ins n = true) (hr : srun (SH L) is (pc, ls, st, gl F) = some (pc2, ls2, st2, gl F)) (k : decode M.2.2.1 pc2 = .ok (ins, n) → R2 E L M d pc2 ls2 st2 F Q) : R2 E L M d pc ls st F Q := Rn.B hb hr k
theorem R2.if_eq {x : Int32} {off : Int} (tgt : Nat) (hdec : decode M.2.2.1 pc = .ok (.ifCond .eq off, 3)) (ht : (pc : Int) + off = (tgt : Int)) (kt : x = 0 → R2 E L M d tgt ls st F Q) (kf : ¬ x = 0 → R2 E L M d (pc + 3) ls st F Q) : R2 E L M d pc ls (.int x :: st) F Q := Rn.if_eq tgt hdec ht kt kf
theorem R2.icmp_eq {x y : Int32} {off : Int} (tgt : Nat) (hdec : decode M.2.2.1 pc = .ok (.if_icmp .eq off, 3)) (ht : (pc : Int) + off = (tgt : Int)) (kt : x = y → R2 E L M d tgt ls st F Q) (kf : ¬ x = y → R2 E L M d (pc + 3) ls st F Q) : R2 E L M d pc ls (.int y :: .int x :: st) F Q := Rn.icmp_eq tgt hdec ht kt kf
theorem R2.if_ne {x : Int32} {off : Int} (tgt : Nat) (hdec : decode M.2.2.1 pc = .ok (.ifCond .ne off, 3)) (ht : (pc : Int) + off = (tgt : Int)) (kt : ¬ x = 0 → R2 E L M d tgt ls st F Q) (kf : x = 0 → R2 E L M d (pc + 3) ls st F Q) : R2 E L M d pc ls (.int x :: st) F Q := Rn.if_ne tgt hdec ht kt kf
theorem R2.icmp_ne {x y : Int32} {off : Int} (tgt : Nat) (hdec : decode M.2.2.1 pc = .ok (.if_icmp .ne off, 3)) (ht : (pc : Int) + off = (tgt : Int)) (kt : ¬ x = y → R2 E L M d tgt ls st F Q) (kf : x = y → R2 E L M d (pc + 3) ls st F Q) : R2 E L M d pc ls (.int y :: .int x :: st) F Q := Rn.icmp_ne tgt hdec ht kt kf
theorem R2.if_lt {x : Int32} {off : Int} (tgt : Nat) (hdec : decode M.2.2.1 pc = .ok (.ifCond .lt off, 3)) (ht : (pc : Int) + off = (tgt : Int)) (kt : x < 0 → R2 E L M d tgt ls st F Q) (kf : ¬ x < 0 → R2 E L M d (pc + 3) ls st F Q) : R2 E L M d pc ls (.int x :: st) F Q := Rn.if_lt tgt hdec ht kt kf
theorem R2.icmp_lt {x y : Int32} {off : Int} (tgt : Nat) (hdec : decode M.2.2.1 pc = .ok (.if_icmp .lt off, 3)) (ht : (pc : Int) + off = (tgt : Int)) (kt : x < y → R2 E L M d tgt ls st F Q) (kf : ¬ x < y → R2 E L M d (pc + 3) ls st F Q) : R2 E L M d pc ls (.int y :: .int x :: st) F Q := Rn.icmp_lt tgt hdec ht kt kf
theorem R2.if_ge {x : Int32} {off : Int} (tgt : Nat) (hdec : decode M.2.2.1 pc = .ok (.ifCond .ge off, 3)) (ht : (pc : Int) + off = (tgt : Int)) (kt : 0 ≤ x → R2 E L M d tgt ls st F Q) (kf : ¬ 0 ≤ x → R2 E L M d (pc + 3) ls st F Q) : R2 E L M d pc ls (.int x :: st) F Q := Rn.if_ge tgt hdec ht kt kf
theorem R2.icmp_ge {x y : Int32} {off : Int} (tgt : Nat) (hdec : decode M.2.2.1 pc = .ok (.if_icmp .ge off, 3)) (ht : (pc : Int) + off = (tgt : Int)) (kt : y ≤ x → R2 E L M d tgt ls st F Q) (kf : ¬ y ≤ x → R2 E L M d (pc + 3) ls st F Q) : R2 E L M d pc ls (.int y :: .int x :: st) F Q := Rn.icmp_ge tgt hdec ht kt kf
theorem R2.if_gt {x : Int32} {off : Int} (tgt : Nat) (hdec : decode M.2.2.1 pc = .ok (.ifCond .gt off, 3)) (ht : (pc : Int) + off = (tgt : Int)) (kt : 0 < x → R2 E L M d tgt ls st F Q) (kf : ¬ 0 < x → R2 E L M d (pc + 3) ls st F Q) : R2 E L M d pc ls (.int x :: st) F Q := Rn.if_gt tgt hdec ht kt kf
theorem R2.icmp_gt {x y : Int32} {off : Int} (tgt : Nat) (hdec : decode M.2.2.1 pc = .ok (.if_icmp .gt off, 3)) (ht : (pc : Int) + off = (tgt : Int)) (kt : y < x → R2 E L M d tgt ls st F Q) (kf : ¬ y < x → R2 E L M d (pc + 3) ls st F Q) : R2 E L M d pc ls (.int y :: .int x :: st) F Q := Rn.icmp_gt tgt hdec ht kt kf
theorem R2.if_le {x : Int32} {off : Int} (tgt : Nat) (hdec : decode M.2.2.1 pc = .ok (.ifCond .le off, 3)) (ht : (pc : Int) + off = (tgt : Int)) (kt : x ≤ 0 → R2 E L M d tgt ls st F Q) (kf : ¬ x ≤ 0 → R2 E L M d (pc + 3) ls st F Q) : R2 E L M d pc ls (.int x :: st) F Q := Rn.if_le tgt hdec ht kt kf
theorem R2.icmp_le {x y : Int32} {off : Int} (tgt : Nat) (hdec : decode M.2.2.1 pc = .ok (.if_icmp .le off, 3)) (ht : (pc : Int) + off = (tgt : Int)) (kt : x ≤ y → R2 E L M d tgt ls st F Q) (kf : ¬ x ≤ y → R2 E L M d (pc + 3) ls st F Q) : R2 E L M d pc ls (.int y :: .int x :: st) F Q := Rn.icmp_le tgt hdec ht kt kf
theorem R2.idiv {x y : Int32} (hdec : decode M.2.2.1 pc = .ok (.idiv, 1)) (hne : ¬ y = 0) (kk : R2 E L M d (pc + 1) ls (.int (x / y) :: st) F Q) : R2 E L M d pc ls (.int y :: .int x :: st) F Q := Rn.idiv hdec hne kk
theorem R2.irem {x y : Int32} (hdec : decode M.2.2.1 pc = .ok (.irem, 1)) (hne : ¬ y = 0) (kk : R2 E L M d (pc + 1) ls (.int (x - x / y * y) :: st) F Q) : R2 E L M d pc ls (.int y :: .int x :: st) F Q := Rn.irem hdec hne kk
theorem R2.tblIn {x : Int32} {dflt lo hi off : Int} {offs : Array Int} {len : Nat} (tgt : Nat) (hdec : decode M.2.2.1 pc = .ok (.tableswitch dflt lo hi offs, len)) (h1 : ¬ x.toInt < lo) (h2 : ¬ hi < x.toInt) (ho : offs[(x.toInt - lo).toNat]? = some off) (ht : (pc : Int) + off = (tgt : Int)) (kk : R2 E L M d tgt ls st F Q) : R2 E L M d pc ls (.int x :: st) F Q := Rn.tblIn tgt hdec h1 h2 ho ht kk
theorem R2.tblOut {x : Int32} {dflt lo hi : Int} {offs : Array Int} {len : Nat} (tgt : Nat) (hdec : decode M.2.2.1 pc = .ok (.tableswitch dflt lo hi offs, len)) (h1 : x.toInt < lo ∨ hi < x.toInt) (ht : (pc : Int) + dflt = (tgt : Int)) (kk : R2 E L M d tgt ls st F Q) : R2 E L M d pc ls (.int x :: st) F Q := Rn.tblOut tgt hdec h1 ht kk
theorem R2.iald {k n : Nat} {x : Int32} (j : Nat) (hx : x = nI j) (hdec : decode M.2.2.1 pc = .ok (.iaload, 1)) (ho : shg (SH L) k = some (.inr (.int, n))) (hr : ∀ q : Nat, nthR rowsL k q = none) (hn : n < 2147483648) (hj : j < n) (kk : R2 E L M d (pc + 1) ls (.int (F k j) :: st) F Q) : R2 E L M d pc ls (.int x :: .ref k :: st) F Q := by
  subst hx
  exact Rn.iald j hdec ho hn hj (by rw [gl_int (hr j)]; exact kk)
theorem R2.zald {k n : Nat} {x : Int32} (j : Nat) (hx : x = nI j) (hdec : decode M.2.2.1 pc = .ok (.baload, 1)) (ho : shg (SH L) k = some (.inr (.boolean, n))) (hr : ∀ q : Nat, nthR rowsL k q = none) (hn : n < 2147483648) (hj : j < n) (kk : R2 E L M d (pc + 1) ls (.int (F k j) :: st) F Q) : R2 E L M d pc ls (.int x :: .ref k :: st) F Q := by
  subst hx
  exact Rn.zald j hdec ho hn hj (by rw [gl_int (hr j)]; exact kk)
theorem R2.aald {k n k2 : Nat} {x : Int32} (j : Nat) (hx : x = nI j) (hdec : decode M.2.2.1 pc = .ok (.aaload, 1)) (ho : shg (SH L) k = some (.inr (.object RX5, n))) (hn : n < 2147483648) (hj : j < n) (hr : nthR rowsL k j = some k2) (kk : R2 E L M d (pc + 1) ls (.ref k2 :: st) F Q) : R2 E L M d pc ls (.int x :: .ref k :: st) F Q := by
  subst hx
  exact Rn.aald j hdec ho hn hj (by rw [gl_ref hr]; exact kk)
theorem R2.iast {k n : Nat} {x y : Int32} (j : Nat) (hx : x = nI j) (hdec : decode M.2.2.1 pc = .ok (.iastore, 1)) (h5 : 5 ≤ k) (ho : shg (SH L) k = some (.inr (.int, n))) (hr : ∀ q : Nat, nthR rowsL k q = none) (hn : n < 2147483648) (hj : j < n) (kk : R2 E L M d (pc + 1) ls st (up2 F k j y) Q) : R2 E L M d pc ls (.int y :: .int x :: .ref k :: st) F Q := by
  subst hx
  exact Rn.iast j hdec h5 ho hn hj (by rw [gl_up (hr j)]; exact kk)
theorem R2.zast {k n : Nat} {x y : Int32} (j : Nat) (hx : x = nI j) (hdec : decode M.2.2.1 pc = .ok (.bastore, 1)) (h5 : 5 ≤ k) (ho : shg (SH L) k = some (.inr (.boolean, n))) (hr : ∀ q : Nat, nthR rowsL k q = none) (hn : n < 2147483648) (hj : j < n) (hy : y = 0 ∨ y = 1) (kk : R2 E L M d (pc + 1) ls st (up2 F k j y) Q) : R2 E L M d pc ls (.int y :: .int x :: .ref k :: st) F Q := by
  subst hx
  exact Rn.zast j hdec h5 ho hn hj hy (by rw [gl_up (hr j)]; exact kk)
theorem R2.putf {a b k idx : Nat} {x : Int32} (hdec : decode M.2.2.1 pc = .ok (.putfield idx, 3)) (hf : (M.1, idx, a, b) ∈ FL) (hfin : (match vwCl[a]? with | some r => (r.2.1 b).2.2.2 == false | none => false) = true) (ho : isObj (SH L) k a = true) (hp : putOk (ftyp a b) (.int x) = true) (hr : ∀ _ : Nat, nthR rowsL k b = none) (kk : R2 E L M d (pc + 3) ls st (up2 F k b x) Q) : R2 E L M d pc ls (.int x :: .ref k :: st) F Q := by
  have hnf : narrow (ftyp a b) (rv E (.int x)) = rv E (.int x) ∧ fits (ftyp a b) (rv E (.int x)) = true := by
    unfold putOk at hp
    split at hp
    · rename_i x0 e1 e2
      rw [e1]
      exact ⟨rfl, rfl⟩
    · rename_i x0 x1 e1 e2
      rw [e1]
      have e3 := Value.int.inj e2
      subst e3
      rcases (show x = 0 ∨ x = 1 by simpa using hp) with rfl | rfl
      · exact ⟨rfl, rfl⟩
      · exact ⟨rfl, rfl⟩
    · cases hp
  refine Rn.putf hdec hf (fun r hr => ?_) ho hnf.1 hnf.2 (by rw [gl_up (hr 0)]; exact kk)
  rw [hr] at hfin
  simpa using hfin
theorem R2.mmax {x y : Int32} {idx : Nat} (hdec : decode M.2.2.1 pc = .ok (.invokestatic idx, 3)) (hl : Cond.methodLink (Rcls M.1) idx Lib.Math.max.name ∈ lw_good) (hd : 1 ≤ d) (hst : (st.map fun v => v.category).sum ≤ 8) (kk : R2 E L M d (pc + 3) ls (.int (if x < y then y else x) :: st) F Q) : R2 E L M d pc ls (.int y :: .int x :: st) F Q := Rn.mmax hdec hl hd hst (Nat.le_refl _) (Nat.le_refl _) kk
theorem R2.mmin {x y : Int32} {idx : Nat} (hdec : decode M.2.2.1 pc = .ok (.invokestatic idx, 3)) (hl : Cond.methodLink (Rcls M.1) idx Lib.Math.min.name ∈ lw_good) (hd : 1 ≤ d) (hst : (st.map fun v => v.category).sum ≤ 8) (kk : R2 E L M d (pc + 3) ls (.int (if y < x then y else x) :: st) F Q) : R2 E L M d pc ls (.int y :: .int x :: st) F Q := Rn.mmin hdec hl hd hst (Nat.le_refl _) (Nat.le_refl _) kk
def cpyF (F : FF) (ks kd sp dp n : Nat) : FF := fun a j => if a = kd then (if dp ≤ j ∧ j < dp + n then F ks (sp + (j - dp)) else F kd j) else F a j
theorem gl_cpy {F : FF} {ks kd sp dp n : Nat} (h1 : ∀ q, nthR rowsL ks q = none) (h2 : ∀ q, nthR rowsL kd q = none) : cpy2 (gl F) ks kd sp dp n = gl (cpyF F ks kd sp dp n) := by
  funext a j
  by_cases ha : a = kd
  · subst ha
    by_cases hj : dp ≤ j ∧ j < dp + n
    · simp only [cpy2, if_pos, hj, and_self]
      rw [gl_int (h1 _), gl_int (h2 _)]
      simp [cpyF, hj]
    · simp only [cpy2, if_pos, if_neg hj]
      rw [gl_int (h2 _), gl_int (h2 _)]
      simp only [cpyF, if_pos, if_neg hj]
  · simp only [cpy2, if_neg ha, gl, cpyF]
theorem R2.acopy {ks kd n0 n1 sp dp n idx : Nat} {xs xd xn : Int32} (hs : xs = nI sp) (hdp : xd = nI dp) (hn : xn = nI n) (hdec : decode M.2.2.1 pc = .ok (.invokestatic idx, 3)) (hl : Cond.methodLink (Rcls M.1) idx arraycopyName ∈ lw_good) (h5 : 5 ≤ kd) (h5s : 5 ≤ ks) (ho0 : shg (SH L) ks = some (.inr (.int, n0))) (ho1 : shg (SH L) kd = some (.inr (.int, n1))) (h1 : ∀ q, nthR rowsL ks q = none) (h2 : ∀ q, nthR rowsL kd q = none) (hn0 : n0 < 2147483648) (hn1 : n1 < 2147483648) (hs0 : sp + n ≤ n0) (hs1 : dp + n ≤ n1) (hd : 2 ≤ d) (hrest : (st.map fun v => v.category).sum ≤ 8)
    (kk : R2 E L M d (pc + 3) ls st (cpyF F ks kd sp dp n) Q) : R2 E L M d pc ls (.int xn :: .int xd :: .ref kd :: .int xs :: .ref ks :: st) F Q := by
  subst hs; subst hdp; subst hn
  exact Rn.acopy hdec hl h5 h5s ho0 ho1 hn0 hn1 hs0 hs1 (fun j => ⟨_, gl_int (h1 j)⟩) hd hrest (by rw [gl_cpy h1 h2]; exact kk)
theorem R2.callS {M2 : MTy} {As rest : List Value} {idx d2 : Nat} {Qc : Q2} (hdec : decode M.2.2.1 pc = .ok (.invokestatic idx, 3)) (hl : Lnk M.1 idx M2) (ok : OkS M2) (hml : M2.2.2.2.1 ≤ 21) (ev : Ev2 E L d2 M2 As F Qc) (hd : d2 < d) (hn : As.length = npar M2) (hst : st = As.reverse ++ rest) (hrest : (rest.map fun v => v.category).sum ≤ 8)
    (kk : ∀ r F1, Qc r F1 → R2 E L M d (pc + 3) ls (r.toList ++ rest) F1 Q) : R2 E L M d pc ls st F Q := by
  refine Rn.callS hdec hl ok hml ev hd hn hst hrest (Nat.le_refl _) (Nat.le_refl _) ?_
  rintro r sh' G' ⟨F1, rfl, rfl, hq⟩
  exact kk r F1 hq
theorem R2.callV {M2 : MTy} {As rest : List Value} {idx d2 k : Nat} {Qc : Q2} (hdec : decode M.2.2.1 pc = .ok (.invokevirtual idx, 3)) (hl : Lnk M.1 idx M2) (ok : OkI M2) (hml : M2.2.2.2.1 ≤ 21) (hk : isObj (SH L) k M2.1 = true) (ev : Ev2 E L d2 M2 (.ref k :: As) F Qc) (hd : d2 < d) (hn : As.length = npar M2) (hst : st = As.reverse ++ .ref k :: rest) (hrest : (rest.map fun v => v.category).sum ≤ 8)
    (kk : ∀ r F1, Qc r F1 → R2 E L M d (pc + 3) ls (r.toList ++ rest) F1 Q) : R2 E L M d pc ls st F Q := by
  refine Rn.callV hdec hl ok hml hk ev hd hn hst hrest (Nat.le_refl _) (Nat.le_refl _) ?_
  rintro r sh' G' ⟨F1, rfl, rfl, hq⟩
  exact kk r F1 hq
theorem R2.callS3 {M2 : MTy} {As rest : List Value} {idx d2 : Nat} {r : Option Value} {F1 : FF} (hdec : decode M.2.2.1 pc = .ok (.invokestatic idx, 3)) (hl : Lnk M.1 idx M2) (ok : OkS M2) (hml : M2.2.2.2.1 ≤ 21) (ev : Ev3 E L d2 M2 As F r F1) (hd : d2 < d) (hn : As.length = npar M2) (hst : st = As.reverse ++ rest) (hrest : (rest.map fun v => v.category).sum ≤ 8)
    (kk : R2 E L M d (pc + 3) ls (r.toList ++ rest) F1 Q) : R2 E L M d pc ls st F Q := by
  refine R2.callS hdec hl ok hml ev hd hn hst hrest ?_
  rintro r' F' ⟨rfl, rfl⟩
  exact kk
theorem R2.callV3 {M2 : MTy} {As rest : List Value} {idx d2 k : Nat} {r : Option Value} {F1 : FF} (hdec : decode M.2.2.1 pc = .ok (.invokevirtual idx, 3)) (hl : Lnk M.1 idx M2) (ok : OkI M2) (hml : M2.2.2.2.1 ≤ 21) (hk : isObj (SH L) k M2.1 = true) (ev : Ev3 E L d2 M2 (.ref k :: As) F r F1) (hd : d2 < d) (hn : As.length = npar M2) (hst : st = As.reverse ++ .ref k :: rest) (hrest : (rest.map fun v => v.category).sum ≤ 8)
    (kk : R2 E L M d (pc + 3) ls (r.toList ++ rest) F1 Q) : R2 E L M d pc ls st F Q := by
  refine R2.callV hdec hl ok hml hk ev hd hn hst hrest ?_
  rintro r' F' ⟨rfl, rfl⟩
  exact kk
theorem R2.ret {r : Option Value} {ins : Instr} (hdec : decode M.2.2.1 pc = .ok (ins, 1)) (hr : retOf M.2.2.2.2 ins r) (hst : st = r.toList) (hq : Q r F) : R2 E L M d pc ls st F Q := Rn.ret hdec hr hst (Nat.le_refl _) (Nat.le_refl _) ⟨F, rfl, rfl, hq⟩
theorem R2.ret3 {r r0 : Option Value} {F1 : FF} {ins : Instr} (hdec : decode M.2.2.1 pc = .ok (ins, 1)) (hr : retOf M.2.2.2.2 ins r) (hst : st = r.toList) (e : r = r0) (e2 : F = F1) : R2 E L M d pc ls st F (fun r' F' => r' = r0 ∧ F' = F1) := R2.ret hdec hr hst ⟨e, e2⟩
def subL : List (Option Value) → List (Option Value) → Prop
  | [], _ => True
  | none :: a, _ :: b => subL a b
  | some v :: a, x :: b => x = some v ∧ subL a b
  | _ :: _, [] => False
theorem subL_get : ∀ {a b : List (Option Value)}, subL a b → ∀ j v, lget a j = some v → lget b j = some v
  | [], _, _, j, v, h => by simp [lget] at h
  | none :: a, x :: b, hs, 0, v, h => by simp [lget] at h
  | none :: a, x :: b, hs, j + 1, v, h => subL_get (a := a) (b := b) hs j v h
  | some w :: a, x :: b, hs, 0, v, h => by
    have h1 : some w = some v := h
    rw [← h1]
    exact hs.1
  | some w :: a, x :: b, hs, j + 1, v, h => subL_get (a := a) (b := b) hs.2 j v h
theorem R2.forget {ls2 : List (Option Value)} (hs : subL ls2 ls) (k : R2 E L M d pc ls2 st F Q) : R2 E L M d pc ls st F Q := by
  intro p e R s m args below meth c Qw C H locs la hH hS hL
  refine k p e R s m args below meth c Qw C H locs la hH hS ?_
  refine lvr.sub (l := lst E 0 ls) hL (fun j v h => ?_)
  exact (lst_mem E ls 0 _).mpr ⟨j, v, subL_get hs j v h, by rw [Nat.zero_add]⟩
theorem R2.top {x y : Int32} (e : x = y) (k : R2 E L M d pc ls (.int y :: st) F Q) : R2 E L M d pc ls (.int x :: st) F Q := by rw [e]; exact k
theorem R2.eqF {F2 : FF} (e : F = F2) (k : R2 E L M d pc ls st F2 Q) : R2 E L M d pc ls st F Q := by rw [e]; exact k
theorem Ev2.post {vs : List Value} {Qc : Q2} (h : Ev2 E L d M vs F Q) (hq : ∀ r F, Q r F → Qc r F) : Ev2 E L d M vs F Qc := by
  intro p e hA hB hC s m args below hf hS hP hX
  obtain ⟨k, o, h1, h2, h3, ⟨⟨⟨r, sh, G, e1, ⟨F', e2, e3, h4⟩, h5⟩, h6⟩, h7⟩⟩ := h p e hA hB hC s m args below hf hS hP hX
  exact ⟨k, o, h1, h2, h3, ⟨⟨⟨r, sh, G, e1, ⟨F', e2, e3, hq r F' h4⟩, h5⟩, h6⟩, h7⟩⟩
end R2S
end
section
/-! Leaves of the class: pure words, and what the methods answer. Printed by wip/whole/gen/spec1.py. -/
def rem32 (x : Int32) : Int32 := x - x / 32 * 32
def awy (s t : Int32) : Int32 := 4 * ((rem32 s - rem32 t) * (rem32 s - rem32 t) + (s / 32 - t / 32) * (s / 32 - t / 32))
def b2i (p : Prop) [Decidable p] : Int32 := if p then 1 else 0
def exT (d : Nat) : Int32 := [0, 1, 1, 1, 0, -1, -1, -1].getD d 0
def syT (d : Nat) : Int32 := [-1, -1, 0, 1, 1, 1, 0, -1].getD d 0
def nbr (s : Int32) (d : Nat) : Int32 := if rem32 s + exT d < 0 ∨ 32 ≤ rem32 s + exT d ∨ s / 32 + syT d < 0 ∨ 32 ≤ s / 32 + syT d then -1 else 32 * (s / 32 + syT d) + (rem32 s + exT d)
def fig (b : Int32) : Int32 := if 48 ≤ b ∧ b ≤ 57 then b - 48 else -1
/-- the static tables, as the Statement gives them -/
def CST (F : FF) : Prop := (∀ j, j < 8 → F 1 j = exT j) ∧ (∀ j, j < 8 → F 2 j = syT j) ∧ (F 3 0 = 1 ∧ F 3 1 = 0 ∧ F 3 2 = 0) ∧ (F 4 0 = 90 ∧ F 4 1 = 90 ∧ F 4 2 = 40)
theorem up2_same {α : Type} (F : Nat → Nat → α) (k j : Nat) (v : α) : up2 F k j v k j = v := by simp [up2]
theorem b2i_t {p : Prop} [Decidable p] (h : p) : (1 : Int32) = b2i p := by unfold b2i; rw [if_pos h]
theorem b2i_f {p : Prop} [Decidable p] (h : ¬ p) : (0 : Int32) = b2i p := by unfold b2i; rw [if_neg h]
theorem b2i_zero {p : Prop} [Decidable p] : b2i p = 0 ↔ ¬ p := by unfold b2i; split <;> simp [*]
theorem b2i_nz {p : Prop} [Decidable p] : ¬ b2i p = 0 ↔ p := by unfold b2i; split <;> simp [*]
theorem b2i_01 {p : Prop} [Decidable p] : b2i p = 0 ∨ b2i p = 1 := by unfold b2i; split <;> simp
theorem b_X10_isText_0_1 : bl2 mX10_isText 0 [(.iload_n 0, 1, 0, 0, .null)] 1 (.ifCond .eq 8) 3 = true := by decide +kernel
theorem b_X10_isText_9_14 : bl2 mX10_isText 9 [(.iconst 1, 1, 0, 0, .int 1), (.goto 4, 3, 14, 0, .null)] 14 (.ireturn) 1 = true := by decide +kernel
theorem b_X10_isText_4_6 : bl2 mX10_isText 4 [(.iload_n 0, 1, 0, 0, .null), (.iconst 1, 1, 0, 0, .int 1)] 6 (.if_icmp .ne 7) 3 = true := by decide +kernel
theorem b_X10_isText_13_14 : bl2 mX10_isText 13 [(.iconst 0, 1, 0, 0, .int 0)] 14 (.ireturn) 1 = true := by decide +kernel
set_option maxRecDepth 20000 in
set_option maxHeartbeats 1000000 in
theorem ev_isText (E : EE) (L : Nat) (F : FF) (x : Int32) : Ev3 E L 1 mX10_isText [.int x] F (some (.int (b2i (x = 0 ∨ x = 1)))) F := by
  refine Ev3.of okX10_isText.2.1 (Nat.le_of_ble_eq_true rfl) ?_
  show R2 E L mX10_isText 1 0 [some (.int x)] [] F _
  refine R2.B (ls2 := [some (.int x)]) (st2 := [.int x]) b_X10_isText_0_1 rfl (fun hd => ?_)
  refine R2.if_eq 9 hd (by decide) (fun c1 => ?_) (fun c1 => ?_)
  · refine R2.B (ls2 := [some (.int x)]) (st2 := [.int 1]) b_X10_isText_9_14 rfl (fun hd => ?_)
    exact R2.ret3 (r := some (.int 1)) hd (Or.inr rfl) rfl (congrArg (fun z => some (Value.int z)) (b2i_t (by clear hd; grind))) rfl
  · refine R2.B (ls2 := [some (.int x)]) (st2 := [.int 1, .int x]) b_X10_isText_4_6 rfl (fun hd => ?_)
    refine R2.icmp_ne 13 hd (by decide) (fun c6 => ?_) (fun c6 => ?_)
    · refine R2.B (ls2 := [some (.int x)]) (st2 := [.int 0]) b_X10_isText_13_14 rfl (fun hd => ?_)
      exact R2.ret3 (r := some (.int 0)) hd (Or.inl rfl) rfl (congrArg (fun z => some (Value.int z)) (b2i_f (by clear hd; grind))) rfl
    · refine R2.B (ls2 := [some (.int x)]) (st2 := [.int 1]) b_X10_isText_9_14 rfl (fun hd => ?_)
      exact R2.ret3 (r := some (.int 1)) hd (Or.inr rfl) rfl (congrArg (fun z => some (Value.int z)) (b2i_t (by clear hd; grind))) rfl
theorem b_X10_isDirection_0_1 : bl2 mX10_isDirection 0 [(.iload_n 0, 1, 0, 0, .null)] 1 (.ifCond .lt 13) 3 = true := by decide +kernel
theorem b_X10_isDirection_14_15 : bl2 mX10_isDirection 14 [(.iconst 0, 1, 0, 0, .int 0)] 15 (.ireturn) 1 = true := by decide +kernel
theorem b_X10_isDirection_4_7 : bl2 mX10_isDirection 4 [(.iload_n 0, 1, 0, 0, .null), (.bipush 8, 2, 0, 0, .int 8)] 7 (.if_icmp .ge 7) 3 = true := by decide +kernel
theorem b_X10_isDirection_10_15 : bl2 mX10_isDirection 10 [(.iconst 1, 1, 0, 0, .int 1), (.goto 4, 3, 15, 0, .null)] 15 (.ireturn) 1 = true := by decide +kernel
set_option maxRecDepth 20000 in
set_option maxHeartbeats 1000000 in
theorem ev_isDirection (E : EE) (L : Nat) (F : FF) (x : Int32) : Ev3 E L 1 mX10_isDirection [.int x] F (some (.int (b2i (0 ≤ x ∧ x < 8)))) F := by
  refine Ev3.of okX10_isDirection.2.1 (Nat.le_of_ble_eq_true rfl) ?_
  show R2 E L mX10_isDirection 1 0 [some (.int x)] [] F _
  refine R2.B (ls2 := [some (.int x)]) (st2 := [.int x]) b_X10_isDirection_0_1 rfl (fun hd => ?_)
  refine R2.if_lt 14 hd (by decide) (fun c1 => ?_) (fun c1 => ?_)
  · refine R2.B (ls2 := [some (.int x)]) (st2 := [.int 0]) b_X10_isDirection_14_15 rfl (fun hd => ?_)
    exact R2.ret3 (r := some (.int 0)) hd (Or.inl rfl) rfl (congrArg (fun z => some (Value.int z)) (b2i_f (by clear hd; grind))) rfl
  · refine R2.B (ls2 := [some (.int x)]) (st2 := [.int 8, .int x]) b_X10_isDirection_4_7 rfl (fun hd => ?_)
    refine R2.icmp_ge 14 hd (by decide) (fun c7 => ?_) (fun c7 => ?_)
    · refine R2.B (ls2 := [some (.int x)]) (st2 := [.int 0]) b_X10_isDirection_14_15 rfl (fun hd => ?_)
      exact R2.ret3 (r := some (.int 0)) hd (Or.inl rfl) rfl (congrArg (fun z => some (Value.int z)) (b2i_f (by clear hd; grind))) rfl
    · refine R2.B (ls2 := [some (.int x)]) (st2 := [.int 1]) b_X10_isDirection_10_15 rfl (fun hd => ?_)
      exact R2.ret3 (r := some (.int 1)) hd (Or.inr rfl) rfl (congrArg (fun z => some (Value.int z)) (b2i_t (by clear hd; grind))) rfl
theorem b_X10_isSpot_0_1 : bl2 mX10_isSpot 0 [(.iload_n 0, 1, 0, 0, .null)] 1 (.ifCond .lt 14) 3 = true := by decide +kernel
theorem b_X10_isSpot_15_16 : bl2 mX10_isSpot 15 [(.iconst 0, 1, 0, 0, .int 0)] 16 (.ireturn) 1 = true := by decide +kernel
theorem b_X10_isSpot_4_8 : bl2 mX10_isSpot 4 [(.iload_n 0, 1, 0, 0, .null), (.sipush 1024, 3, 0, 0, .int 1024)] 8 (.if_icmp .ge 7) 3 = true := by decide +kernel
theorem b_X10_isSpot_11_16 : bl2 mX10_isSpot 11 [(.iconst 1, 1, 0, 0, .int 1), (.goto 4, 3, 16, 0, .null)] 16 (.ireturn) 1 = true := by decide +kernel
set_option maxRecDepth 20000 in
set_option maxHeartbeats 1000000 in
theorem ev_isSpot (E : EE) (L : Nat) (F : FF) (x : Int32) : Ev3 E L 1 mX10_isSpot [.int x] F (some (.int (b2i (0 ≤ x ∧ x < 1024)))) F := by
  refine Ev3.of okX10_isSpot.2.1 (Nat.le_of_ble_eq_true rfl) ?_
  show R2 E L mX10_isSpot 1 0 [some (.int x)] [] F _
  refine R2.B (ls2 := [some (.int x)]) (st2 := [.int x]) b_X10_isSpot_0_1 rfl (fun hd => ?_)
  refine R2.if_lt 15 hd (by decide) (fun c1 => ?_) (fun c1 => ?_)
  · refine R2.B (ls2 := [some (.int x)]) (st2 := [.int 0]) b_X10_isSpot_15_16 rfl (fun hd => ?_)
    exact R2.ret3 (r := some (.int 0)) hd (Or.inl rfl) rfl (congrArg (fun z => some (Value.int z)) (b2i_f (by clear hd; grind))) rfl
  · refine R2.B (ls2 := [some (.int x)]) (st2 := [.int 1024, .int x]) b_X10_isSpot_4_8 rfl (fun hd => ?_)
    refine R2.icmp_ge 15 hd (by decide) (fun c8 => ?_) (fun c8 => ?_)
    · refine R2.B (ls2 := [some (.int x)]) (st2 := [.int 0]) b_X10_isSpot_15_16 rfl (fun hd => ?_)
      exact R2.ret3 (r := some (.int 0)) hd (Or.inl rfl) rfl (congrArg (fun z => some (Value.int z)) (b2i_f (by clear hd; grind))) rfl
    · refine R2.B (ls2 := [some (.int x)]) (st2 := [.int 1]) b_X10_isSpot_11_16 rfl (fun hd => ?_)
      exact R2.ret3 (r := some (.int 1)) hd (Or.inr rfl) rfl (congrArg (fun z => some (Value.int z)) (b2i_t (by clear hd; grind))) rfl
theorem b_X10_isSheet_0_1 : bl2 mX10_isSheet 0 [(.iload_n 0, 1, 0, 0, .null)] 1 (.ifCond .lt 12) 3 = true := by decide +kernel
theorem b_X10_isSheet_13_14 : bl2 mX10_isSheet 13 [(.iconst 0, 1, 0, 0, .int 0)] 14 (.ireturn) 1 = true := by decide +kernel
theorem b_X10_isSheet_4_6 : bl2 mX10_isSheet 4 [(.iload_n 0, 1, 0, 0, .null), (.iconst 4, 1, 0, 0, .int 4)] 6 (.if_icmp .ge 7) 3 = true := by decide +kernel
theorem b_X10_isSheet_9_14 : bl2 mX10_isSheet 9 [(.iconst 1, 1, 0, 0, .int 1), (.goto 4, 3, 14, 0, .null)] 14 (.ireturn) 1 = true := by decide +kernel
set_option maxRecDepth 20000 in
set_option maxHeartbeats 1000000 in
theorem ev_isSheet (E : EE) (L : Nat) (F : FF) (x : Int32) : Ev3 E L 1 mX10_isSheet [.int x] F (some (.int (b2i (0 ≤ x ∧ x < 4)))) F := by
  refine Ev3.of okX10_isSheet.2.1 (Nat.le_of_ble_eq_true rfl) ?_
  show R2 E L mX10_isSheet 1 0 [some (.int x)] [] F _
  refine R2.B (ls2 := [some (.int x)]) (st2 := [.int x]) b_X10_isSheet_0_1 rfl (fun hd => ?_)
  refine R2.if_lt 13 hd (by decide) (fun c1 => ?_) (fun c1 => ?_)
  · refine R2.B (ls2 := [some (.int x)]) (st2 := [.int 0]) b_X10_isSheet_13_14 rfl (fun hd => ?_)
    exact R2.ret3 (r := some (.int 0)) hd (Or.inl rfl) rfl (congrArg (fun z => some (Value.int z)) (b2i_f (by clear hd; grind))) rfl
  · refine R2.B (ls2 := [some (.int x)]) (st2 := [.int 4, .int x]) b_X10_isSheet_4_6 rfl (fun hd => ?_)
    refine R2.icmp_ge 13 hd (by decide) (fun c6 => ?_) (fun c6 => ?_)
    · refine R2.B (ls2 := [some (.int x)]) (st2 := [.int 0]) b_X10_isSheet_13_14 rfl (fun hd => ?_)
      exact R2.ret3 (r := some (.int 0)) hd (Or.inl rfl) rfl (congrArg (fun z => some (Value.int z)) (b2i_f (by clear hd; grind))) rfl
    · refine R2.B (ls2 := [some (.int x)]) (st2 := [.int 1]) b_X10_isSheet_9_14 rfl (fun hd => ?_)
      exact R2.ret3 (r := some (.int 1)) hd (Or.inr rfl) rfl (congrArg (fun z => some (Value.int z)) (b2i_t (by clear hd; grind))) rfl
theorem b_X10_isForm_0_1 : bl2 mX10_isForm 0 [(.iload_n 0, 1, 0, 0, .null)] 1 (.ifCond .lt 12) 3 = true := by decide +kernel
theorem b_X10_isForm_13_14 : bl2 mX10_isForm 13 [(.iconst 0, 1, 0, 0, .int 0)] 14 (.ireturn) 1 = true := by decide +kernel
theorem b_X10_isForm_4_6 : bl2 mX10_isForm 4 [(.iload_n 0, 1, 0, 0, .null), (.iconst 3, 1, 0, 0, .int 3)] 6 (.if_icmp .ge 7) 3 = true := by decide +kernel
theorem b_X10_isForm_9_14 : bl2 mX10_isForm 9 [(.iconst 1, 1, 0, 0, .int 1), (.goto 4, 3, 14, 0, .null)] 14 (.ireturn) 1 = true := by decide +kernel
set_option maxRecDepth 20000 in
set_option maxHeartbeats 1000000 in
theorem ev_isForm (E : EE) (L : Nat) (F : FF) (x : Int32) : Ev3 E L 1 mX10_isForm [.int x] F (some (.int (b2i (0 ≤ x ∧ x < 3)))) F := by
  refine Ev3.of okX10_isForm.2.1 (Nat.le_of_ble_eq_true rfl) ?_
  show R2 E L mX10_isForm 1 0 [some (.int x)] [] F _
  refine R2.B (ls2 := [some (.int x)]) (st2 := [.int x]) b_X10_isForm_0_1 rfl (fun hd => ?_)
  refine R2.if_lt 13 hd (by decide) (fun c1 => ?_) (fun c1 => ?_)
  · refine R2.B (ls2 := [some (.int x)]) (st2 := [.int 0]) b_X10_isForm_13_14 rfl (fun hd => ?_)
    exact R2.ret3 (r := some (.int 0)) hd (Or.inl rfl) rfl (congrArg (fun z => some (Value.int z)) (b2i_f (by clear hd; grind))) rfl
  · refine R2.B (ls2 := [some (.int x)]) (st2 := [.int 3, .int x]) b_X10_isForm_4_6 rfl (fun hd => ?_)
    refine R2.icmp_ge 13 hd (by decide) (fun c6 => ?_) (fun c6 => ?_)
    · refine R2.B (ls2 := [some (.int x)]) (st2 := [.int 0]) b_X10_isForm_13_14 rfl (fun hd => ?_)
      exact R2.ret3 (r := some (.int 0)) hd (Or.inl rfl) rfl (congrArg (fun z => some (Value.int z)) (b2i_f (by clear hd; grind))) rfl
    · refine R2.B (ls2 := [some (.int x)]) (st2 := [.int 1]) b_X10_isForm_9_14 rfl (fun hd => ?_)
      exact R2.ret3 (r := some (.int 1)) hd (Or.inr rfl) rfl (congrArg (fun z => some (Value.int z)) (b2i_t (by clear hd; grind))) rfl
theorem b_X10_between_0_3 : bl2 mX10_between 0 [(.iload_n 0, 1, 0, 0, .null), (.bipush 32, 2, 0, 0, .int 32)] 3 (.irem) 1 = true := by decide +kernel
theorem b_X10_between_4_7 : bl2 mX10_between 4 [(.iload_n 1, 1, 1, 0, .null), (.bipush 32, 2, 0, 0, .int 32)] 7 (.irem) 1 = true := by decide +kernel
theorem b_X10_between_8_13 : bl2 mX10_between 8 [(.isub, 1, 0, 0, .null), (.istore_n 2, 1, 2, 0, .null), (.iload_n 0, 1, 0, 0, .null), (.bipush 32, 2, 0, 0, .int 32)] 13 (.idiv) 1 = true := by decide +kernel
theorem b_X10_between_14_17 : bl2 mX10_between 14 [(.iload_n 1, 1, 1, 0, .null), (.bipush 32, 2, 0, 0, .int 32)] 17 (.idiv) 1 = true := by decide +kernel
theorem b_X10_between_18_29 : bl2 mX10_between 18 [(.isub, 1, 0, 0, .null), (.istore_n 3, 1, 3, 0, .null), (.iconst 4, 1, 0, 0, .int 4), (.iload_n 2, 1, 2, 0, .null), (.iload_n 2, 1, 2, 0, .null), (.imul, 1, 0, 0, .null), (.iload_n 3, 1, 3, 0, .null), (.iload_n 3, 1, 3, 0, .null), (.imul, 1, 0, 0, .null), (.iadd, 1, 0, 0, .null), (.imul, 1, 0, 0, .null)] 29 (.ireturn) 1 = true := by decide +kernel
set_option maxRecDepth 20000 in
set_option maxHeartbeats 1000000 in
theorem ev_between (E : EE) (L : Nat) (F : FF) (s t : Int32) : Ev3 E L 1 mX10_between [.int s, .int t] F (some (.int (awy s t))) F := by
  refine Ev3.of okX10_between.2.1 (Nat.le_of_ble_eq_true rfl) ?_
  show R2 E L mX10_between 1 0 [some (.int s), some (.int t), none, none] [] F _
  refine R2.B (ls2 := [some (.int s), some (.int t), none, none]) (st2 := [.int 32, .int s]) b_X10_between_0_3 rfl (fun hd => ?_)
  refine R2.irem hd (by decide) ?_
  refine R2.B (ls2 := [some (.int s), some (.int t), none, none]) (st2 := [.int 32, .int t, .int (s - s / 32 * 32)]) b_X10_between_4_7 rfl (fun hd => ?_)
  refine R2.irem hd (by decide) ?_
  refine R2.B (ls2 := [some (.int s), some (.int t), some (.int ((s - s / 32 * 32) - (t - t / 32 * 32))), none]) (st2 := [.int 32, .int s]) b_X10_between_8_13 rfl (fun hd => ?_)
  refine R2.idiv hd (by decide) ?_
  refine R2.B (ls2 := [some (.int s), some (.int t), some (.int ((s - s / 32 * 32) - (t - t / 32 * 32))), none]) (st2 := [.int 32, .int t, .int (s / 32)]) b_X10_between_14_17 rfl (fun hd => ?_)
  refine R2.idiv hd (by decide) ?_
  refine R2.B (ls2 := [some (.int s), some (.int t), some (.int ((s - s / 32 * 32) - (t - t / 32 * 32))), some (.int ((s / 32) - (t / 32)))]) (st2 := [.int (4 * ((((s - s / 32 * 32) - (t - t / 32 * 32)) * ((s - s / 32 * 32) - (t - t / 32 * 32))) + (((s / 32) - (t / 32)) * ((s / 32) - (t / 32)))))]) b_X10_between_18_29 rfl (fun hd => ?_)
  exact R2.ret3 (r := some (.int (4 * ((((s - s / 32 * 32) - (t - t / 32 * 32)) * ((s - s / 32 * 32) - (t - t / 32 * 32))) + (((s / 32) - (t / 32)) * ((s / 32) - (t / 32))))))) hd trivial rfl (rfl) rfl
theorem b_X10_figure_0_3 : bl2 mX10_figure 0 [(.iload_n 0, 1, 0, 0, .null), (.bipush 48, 2, 0, 0, .int 48)] 3 (.if_icmp .lt 16) 3 = true := by decide +kernel
theorem b_X10_figure_19_20 : bl2 mX10_figure 19 [(.iconst (-1), 1, 0, 0, .int (-1))] 20 (.ireturn) 1 = true := by decide +kernel
theorem b_X10_figure_6_9 : bl2 mX10_figure 6 [(.iload_n 0, 1, 0, 0, .null), (.bipush 57, 2, 0, 0, .int 57)] 9 (.if_icmp .gt 10) 3 = true := by decide +kernel
theorem b_X10_figure_12_20 : bl2 mX10_figure 12 [(.iload_n 0, 1, 0, 0, .null), (.bipush 48, 2, 0, 0, .int 48), (.isub, 1, 0, 0, .null), (.goto 4, 3, 20, 0, .null)] 20 (.ireturn) 1 = true := by decide +kernel
set_option maxRecDepth 20000 in
set_option maxHeartbeats 1000000 in
theorem ev_figure (E : EE) (L : Nat) (F : FF) (b : Int32) : Ev3 E L 1 mX10_figure [.int b] F (some (.int (fig b))) F := by
  refine Ev3.of okX10_figure.2.1 (Nat.le_of_ble_eq_true rfl) ?_
  show R2 E L mX10_figure 1 0 [some (.int b)] [] F _
  refine R2.B (ls2 := [some (.int b)]) (st2 := [.int 48, .int b]) b_X10_figure_0_3 rfl (fun hd => ?_)
  refine R2.icmp_lt 19 hd (by decide) (fun c3 => ?_) (fun c3 => ?_)
  · refine R2.B (ls2 := [some (.int b)]) (st2 := [.int (-1)]) b_X10_figure_19_20 rfl (fun hd => ?_)
    exact R2.ret3 (r := some (.int (-1))) hd trivial rfl (congrArg (fun z => some (Value.int z)) (by clear hd; unfold fig; grind)) rfl
  · refine R2.B (ls2 := [some (.int b)]) (st2 := [.int 57, .int b]) b_X10_figure_6_9 rfl (fun hd => ?_)
    refine R2.icmp_gt 19 hd (by decide) (fun c9 => ?_) (fun c9 => ?_)
    · refine R2.B (ls2 := [some (.int b)]) (st2 := [.int (-1)]) b_X10_figure_19_20 rfl (fun hd => ?_)
      exact R2.ret3 (r := some (.int (-1))) hd trivial rfl (congrArg (fun z => some (Value.int z)) (by clear hd; unfold fig; grind)) rfl
    · refine R2.B (ls2 := [some (.int b)]) (st2 := [.int (b - 48)]) b_X10_figure_12_20 rfl (fun hd => ?_)
      exact R2.ret3 (r := some (.int (b - 48))) hd trivial rfl (congrArg (fun z => some (Value.int z)) (by clear hd; unfold fig; grind)) rfl
theorem b_X10_mixed_0_8 : bl2 mX10_mixed 0 [(.ldc2_w 316, 3, 0, 0, .long 31), (.lload_n 0, 1, 0, 0, .null), (.lmul, 1, 0, 0, .null), (.iload_n 2, 1, 2, 0, .null), (.i2l, 1, 0, 0, .null), (.ladd, 1, 0, 0, .null)] 8 (.lreturn) 1 = true := by decide +kernel
set_option maxRecDepth 20000 in
set_option maxHeartbeats 1000000 in
theorem ev_mixed (E : EE) (L : Nat) (F : FF) (h : Int64) (v : Int32) : Ev3 E L 1 mX10_mixed [.long h, .int v] F (some (.long (31 * h + v.toInt64))) F := by
  refine Ev3.of okX10_mixed.2.1 (Nat.le_of_ble_eq_true rfl) ?_
  show R2 E L mX10_mixed 1 0 [some (.long h), none, some (.int v)] [] F _
  refine R2.B (ls2 := [some (.long h), none, some (.int v)]) (st2 := [.long ((31 * h) + (Int32.toInt64 v))]) b_X10_mixed_0_8 rfl (fun hd => ?_)
  exact R2.ret3 (r := some (.long ((31 * h) + (Int32.toInt64 v)))) hd trivial rfl (rfl) rfl
theorem b_X10_neighbour_0_3 : bl2 mX10_neighbour 0 [(.iload_n 0, 1, 0, 0, .null), (.bipush 32, 2, 0, 0, .int 32)] 3 (.irem) 1 = true := by decide +kernel
theorem b_X10_neighbour_4_8 : bl2 mX10_neighbour 4 [(.getstatic 329, 3, 1, 0, .null), (.iload_n 1, 1, 1, 0, .null)] 8 (.iaload) 1 = true := by decide +kernel
theorem b_X10_neighbour_9_14 : bl2 mX10_neighbour 9 [(.iadd, 1, 0, 0, .null), (.istore_n 2, 1, 2, 0, .null), (.iload_n 0, 1, 0, 0, .null), (.bipush 32, 2, 0, 0, .int 32)] 14 (.idiv) 1 = true := by decide +kernel
theorem b_X10_neighbour_15_19 : bl2 mX10_neighbour 15 [(.getstatic 332, 3, 2, 0, .null), (.iload_n 1, 1, 1, 0, .null)] 19 (.iaload) 1 = true := by decide +kernel
theorem b_X10_neighbour_20_23 : bl2 mX10_neighbour 20 [(.iadd, 1, 0, 0, .null), (.istore_n 3, 1, 3, 0, .null), (.iload_n 2, 1, 2, 0, .null)] 23 (.ifCond .lt 19) 3 = true := by decide +kernel
theorem b_X10_neighbour_42_52 : bl2 mX10_neighbour 42 [(.iconst (-1), 1, 0, 0, .int (-1)), (.goto 9, 3, 52, 0, .null)] 52 (.ireturn) 1 = true := by decide +kernel
theorem b_X10_neighbour_26_29 : bl2 mX10_neighbour 26 [(.iload_n 2, 1, 2, 0, .null), (.bipush 32, 2, 0, 0, .int 32)] 29 (.if_icmp .ge 13) 3 = true := by decide +kernel
theorem b_X10_neighbour_32_33 : bl2 mX10_neighbour 32 [(.iload_n 3, 1, 3, 0, .null)] 33 (.ifCond .lt 9) 3 = true := by decide +kernel
theorem b_X10_neighbour_36_39 : bl2 mX10_neighbour 36 [(.iload_n 3, 1, 3, 0, .null), (.bipush 32, 2, 0, 0, .int 32)] 39 (.if_icmp .lt 7) 3 = true := by decide +kernel
theorem b_X10_neighbour_46_52 : bl2 mX10_neighbour 46 [(.bipush 32, 2, 0, 0, .int 32), (.iload_n 3, 1, 3, 0, .null), (.imul, 1, 0, 0, .null), (.iload_n 2, 1, 2, 0, .null), (.iadd, 1, 0, 0, .null)] 52 (.ireturn) 1 = true := by decide +kernel
set_option maxRecDepth 20000 in
set_option maxHeartbeats 1000000 in
theorem ev_neighbour (E : EE) (L : Nat) (F : FF) (hc : CST F) (s : Int32) (d : Nat) (hd8 : d < 8) : Ev3 E L 1 mX10_neighbour [.int s, .int (nI d)] F (some (.int (nbr s d))) F := by
  refine Ev3.of okX10_neighbour.2.1 (Nat.le_of_ble_eq_true rfl) ?_
  show R2 E L mX10_neighbour 1 0 [some (.int s), some (.int (nI d)), none, none] [] F _
  refine R2.B (ls2 := [some (.int s), some (.int (nI d)), none, none]) (st2 := [.int 32, .int s]) b_X10_neighbour_0_3 rfl (fun hd => ?_)
  refine R2.irem hd (by decide) ?_
  refine R2.B (ls2 := [some (.int s), some (.int (nI d)), none, none]) (st2 := [.int (nI d), .ref 1, .int (s - s / 32 * 32)]) b_X10_neighbour_4_8 rfl (fun hd => ?_)
  refine R2.iald d rfl hd rfl (fun _ => rfl) (by decide) (by omega) ?_
  refine R2.B (ls2 := [some (.int s), some (.int (nI d)), some (.int ((s - s / 32 * 32) + (F 1 d))), none]) (st2 := [.int 32, .int s]) b_X10_neighbour_9_14 rfl (fun hd => ?_)
  refine R2.idiv hd (by decide) ?_
  refine R2.B (ls2 := [some (.int s), some (.int (nI d)), some (.int ((s - s / 32 * 32) + (F 1 d))), none]) (st2 := [.int (nI d), .ref 2, .int (s / 32)]) b_X10_neighbour_15_19 rfl (fun hd => ?_)
  refine R2.iald d rfl hd rfl (fun _ => rfl) (by decide) (by omega) ?_
  refine R2.B (ls2 := [some (.int s), some (.int (nI d)), some (.int ((s - s / 32 * 32) + (F 1 d))), some (.int ((s / 32) + (F 2 d)))]) (st2 := [.int ((s - s / 32 * 32) + (F 1 d))]) b_X10_neighbour_20_23 rfl (fun hd => ?_)
  refine R2.if_lt 42 hd (by decide) (fun c23 => ?_) (fun c23 => ?_)
  · refine R2.B (ls2 := [some (.int s), some (.int (nI d)), some (.int ((s - s / 32 * 32) + (F 1 d))), some (.int ((s / 32) + (F 2 d)))]) (st2 := [.int (-1)]) b_X10_neighbour_42_52 rfl (fun hd => ?_)
    exact R2.ret3 (r := some (.int (-1))) hd trivial rfl (congrArg (fun z => some (Value.int z)) (by unfold nbr rem32; rw [← hc.1 d hd8, ← hc.2.1 d hd8]; clear hd; grind)) rfl
  · refine R2.B (ls2 := [some (.int s), some (.int (nI d)), some (.int ((s - s / 32 * 32) + (F 1 d))), some (.int ((s / 32) + (F 2 d)))]) (st2 := [.int 32, .int ((s - s / 32 * 32) + (F 1 d))]) b_X10_neighbour_26_29 rfl (fun hd => ?_)
    refine R2.icmp_ge 42 hd (by decide) (fun c29 => ?_) (fun c29 => ?_)
    · refine R2.B (ls2 := [some (.int s), some (.int (nI d)), some (.int ((s - s / 32 * 32) + (F 1 d))), some (.int ((s / 32) + (F 2 d)))]) (st2 := [.int (-1)]) b_X10_neighbour_42_52 rfl (fun hd => ?_)
      exact R2.ret3 (r := some (.int (-1))) hd trivial rfl (congrArg (fun z => some (Value.int z)) (by unfold nbr rem32; rw [← hc.1 d hd8, ← hc.2.1 d hd8]; clear hd; grind)) rfl
    · refine R2.B (ls2 := [some (.int s), some (.int (nI d)), some (.int ((s - s / 32 * 32) + (F 1 d))), some (.int ((s / 32) + (F 2 d)))]) (st2 := [.int ((s / 32) + (F 2 d))]) b_X10_neighbour_32_33 rfl (fun hd => ?_)
      refine R2.if_lt 42 hd (by decide) (fun c33 => ?_) (fun c33 => ?_)
      · refine R2.B (ls2 := [some (.int s), some (.int (nI d)), some (.int ((s - s / 32 * 32) + (F 1 d))), some (.int ((s / 32) + (F 2 d)))]) (st2 := [.int (-1)]) b_X10_neighbour_42_52 rfl (fun hd => ?_)
        exact R2.ret3 (r := some (.int (-1))) hd trivial rfl (congrArg (fun z => some (Value.int z)) (by unfold nbr rem32; rw [← hc.1 d hd8, ← hc.2.1 d hd8]; clear hd; grind)) rfl
      · refine R2.B (ls2 := [some (.int s), some (.int (nI d)), some (.int ((s - s / 32 * 32) + (F 1 d))), some (.int ((s / 32) + (F 2 d)))]) (st2 := [.int 32, .int ((s / 32) + (F 2 d))]) b_X10_neighbour_36_39 rfl (fun hd => ?_)
        refine R2.icmp_lt 46 hd (by decide) (fun c39 => ?_) (fun c39 => ?_)
        · refine R2.B (ls2 := [some (.int s), some (.int (nI d)), some (.int ((s - s / 32 * 32) + (F 1 d))), some (.int ((s / 32) + (F 2 d)))]) (st2 := [.int ((32 * ((s / 32) + (F 2 d))) + ((s - s / 32 * 32) + (F 1 d)))]) b_X10_neighbour_46_52 rfl (fun hd => ?_)
          exact R2.ret3 (r := some (.int ((32 * ((s / 32) + (F 2 d))) + ((s - s / 32 * 32) + (F 1 d))))) hd trivial rfl (congrArg (fun z => some (Value.int z)) (by unfold nbr rem32; rw [← hc.1 d hd8, ← hc.2.1 d hd8]; clear hd; grind)) rfl
        · refine R2.B (ls2 := [some (.int s), some (.int (nI d)), some (.int ((s - s / 32 * 32) + (F 1 d))), some (.int ((s / 32) + (F 2 d)))]) (st2 := [.int (-1)]) b_X10_neighbour_42_52 rfl (fun hd => ?_)
          exact R2.ret3 (r := some (.int (-1))) hd trivial rfl (congrArg (fun z => some (Value.int z)) (by unfold nbr rem32; rw [← hc.1 d hd8, ← hc.2.1 d hd8]; clear hd; grind)) rfl
end
section
/-! Text and Crowd. Printed by wip/whole/gen/spec2.py. -/
/-- what a text holds at a place: none beyond its end -/
def tat (l : Nat) (b : Nat → Int32) (j : Nat) : Int32 := if j < l then b j else -1
def nmb (l : Nat) (b : Nat → Int32) (j : Nat) : Int32 := 10 * fig (tat l b j) + fig (tat l b (j + 1))
def fltAt (l : Nat) (b : Nat → Int32) (j : Nat) : Int32 :=
  if 10 ≤ j / 9 then nI j
  else if j % 9 = 0 then (if tat l b j = 115 ∨ tat l b j = 98 ∨ tat l b j = 110 then -1 else nI j)
  else if j % 9 = 1 then (if fig (tat l b j) ≠ -1 ∧ fig (tat l b j) < 4 then -1 else nI j)
  else if j % 9 = 5 ∨ j % 9 = 7 then (if fig (tat l b j) = -1 then nI j else if nmb l b (j - 1) < 32 then -1 else nI (j - 1))
  else if j % 9 = 8 then (if tat l b j = 59 then -1 else nI j)
  else (if fig (tat l b j) ≠ -1 then -1 else nI j)
def cFlt (l : Nat) (b : Nat → Int32) : Nat → Nat → Int32
  | 0, _ => if l = 0 ∨ l % 9 = 8 then -1 else nI l
  | k + 1, i => if fltAt l b i = -1 then cFlt l b k (i + 1) else fltAt l b i
def cKind (x : Int32) : Int32 := if x = 115 then 0 else if x = 98 then 1 else 2
def plcF (F : FF) (l : Nat) (p : Nat) : FF :=
  up2 (up2 (up2 (up2 (up2 F 11 p (cKind (tat l (F 7) (p * 9)))) 12 p (fig (tat l (F 7) (p * 9 + 1)))) 13 p (nmb l (F 7) (p * 9 + 2))) 14 p (32 * nmb l (F 7) (p * 9 + 6) + nmb l (F 7) (p * 9 + 4))) 15 p (32 * nmb l (F 7) (p * 9 + 6) + nmb l (F 7) (p * 9 + 4))
def plcL (l : Nat) : Nat → Nat → FF → FF
  | 0, _, F => F
  | k + 1, p, F => plcL l k (p + 1) (plcF F l p)
/-- how many people the text tells -/
def cCnt (l : Nat) (b : Nat → Int32) : Nat := if cFlt l b l 0 = -1 then (if (l + 1) / 9 < 10 then (l + 1) / 9 else 10) else 0
def tellF (F : FF) (l : Nat) : FF := plcL l (cCnt l (F 7)) 0 (up2 (up2 F 10 6 (cFlt l (F 7) l 0)) 10 5 (nI (cCnt l (F 7))))
def homeL : Nat → Nat → Int32 → FF → Int32 × FF
  | 0, _, acc, F => (acc, F)
  | k + 1, p, acc, F => homeL k (p + 1) (if F 15 p = F 14 p then acc else acc + 1) (up2 F 15 p (F 14 p))
abbrev sls (K T P : Nat → Int32) (a b : Nat) : Prop := K a = 0 ∧ K b = 1 ∧ T a = T b ∧ P a ≤ P b
abbrev trd (K T P : Nat → Int32) (a b : Nat) : Prop := sls K T P a b ∨ sls K T P b a
def gan (K P : Nat → Int32) (a b : Nat) : Int32 := if K a = 1 then P a - P b else P b - P a
theorem b_X7_length_0_4 : bl2 mX7_length 0 [(.aload_n 0, 1, 0, 0, .null), (.getfield 21, 3, 7, 1, .null)] 4 (.ireturn) 1 = true := by decide +kernel
set_option maxRecDepth 20000 in
set_option maxHeartbeats 1000000 in
theorem ev_length6 (E : EE) (L : Nat) (F : FF) : Ev3 E L 1 mX7_length [.ref 6] F (some (.int (F 6 1))) F := by
  refine Ev3.of okX7_length.2.2.1 (Nat.le_of_ble_eq_true rfl) ?_
  show R2 E L mX7_length 1 0 [some (.ref 6)] [] F _
  refine R2.B (ls2 := [some (.ref 6)]) (st2 := [.int (F 6 1)]) b_X7_length_0_4 rfl (fun hd => ?_)
  exact R2.ret3 (r := some (.int (F 6 1))) hd trivial rfl rfl rfl
theorem b_X7_isFull_0_9 : bl2 mX7_isFull 0 [(.aload_n 0, 1, 0, 0, .null), (.getfield 21, 3, 7, 1, .null), (.aload_n 0, 1, 0, 0, .null), (.getfield 15, 3, 7, 0, .null), (.arraylength, 1, 0, 0, .null)] 9 (.if_icmp .lt 7) 3 = true := by decide +kernel
theorem b_X7_isFull_16_17 : bl2 mX7_isFull 16 [(.iconst 0, 1, 0, 0, .int 0)] 17 (.ireturn) 1 = true := by decide +kernel
theorem b_X7_isFull_12_17 : bl2 mX7_isFull 12 [(.iconst 1, 1, 0, 0, .int 1), (.goto 4, 3, 17, 0, .null)] 17 (.ireturn) 1 = true := by decide +kernel
set_option maxRecDepth 20000 in
set_option maxHeartbeats 1000000 in
theorem ev_isFull6 (E : EE) (L : Nat) (F : FF) : Ev3 E L 1 mX7_isFull [.ref 6] F (some (.int (b2i (¬ F 6 1 < 90)))) F := by
  refine Ev3.of okX7_isFull.2.2.1 (Nat.le_of_ble_eq_true rfl) ?_
  show R2 E L mX7_isFull 1 0 [some (.ref 6)] [] F _
  refine R2.B (ls2 := [some (.ref 6)]) (st2 := [.int 90, .int (F 6 1)]) b_X7_isFull_0_9 rfl (fun hd => ?_)
  refine R2.icmp_lt 16 hd (by decide) (fun c9 => ?_) (fun c9 => ?_)
  · refine R2.B (ls2 := [some (.ref 6)]) (st2 := [.int 0]) b_X7_isFull_16_17 rfl (fun hd => ?_)
    exact R2.ret3 (r := some (.int 0)) hd (Or.inl rfl) rfl (congrArg (fun z => some (Value.int z)) (b2i_f (by clear hd; grind))) rfl
  · refine R2.B (ls2 := [some (.ref 6)]) (st2 := [.int 1]) b_X7_isFull_12_17 rfl (fun hd => ?_)
    exact R2.ret3 (r := some (.int 1)) hd (Or.inr rfl) rfl (congrArg (fun z => some (Value.int z)) (b2i_t (by clear hd; grind))) rfl
theorem b_X7_clear_0_7 : bl2 mX7_clear 0 [(.aload_n 0, 1, 0, 0, .null), (.getfield 21, 3, 7, 1, .null), (.istore_n 1, 1, 1, 0, .null), (.aload_n 0, 1, 0, 0, .null), (.iconst 0, 1, 0, 0, .int 0)] 7 (.putfield 21) 3 = true := by decide +kernel
theorem b_X7_clear_10_11 : bl2 mX7_clear 10 [(.iload_n 1, 1, 1, 0, .null)] 11 (.ireturn) 1 = true := by decide +kernel
set_option maxRecDepth 20000 in
set_option maxHeartbeats 1000000 in
theorem ev_clear6 (E : EE) (L : Nat) (F : FF) : Ev3 E L 1 mX7_clear [.ref 6] F (some (.int (F 6 1))) (up2 F 6 1 0) := by
  refine Ev3.of okX7_clear.2.2.1 (Nat.le_of_ble_eq_true rfl) ?_
  show R2 E L mX7_clear 1 0 [some (.ref 6), none] [] F _
  refine R2.B (ls2 := [some (.ref 6), some (.int (F 6 1))]) (st2 := [.int 0, .ref 6]) b_X7_clear_0_7 rfl (fun hd => ?_)
  refine R2.putf (a := 7) (b := 1) hd (by decide) (by decide) rfl rfl (fun _ => rfl) ?_
  refine R2.B (ls2 := [some (.ref 6), some (.int (F 6 1))]) (st2 := [.int (F 6 1)]) b_X7_clear_10_11 rfl (fun hd => ?_)
  exact R2.ret3 (r := some (.int (F 6 1))) hd trivial rfl rfl rfl
set_option maxRecDepth 20000 in
set_option maxHeartbeats 1000000 in
theorem ev_length8 (E : EE) (L : Nat) (F : FF) : Ev3 E L 1 mX7_length [.ref 8] F (some (.int (F 8 1))) F := by
  refine Ev3.of okX7_length.2.2.1 (Nat.le_of_ble_eq_true rfl) ?_
  show R2 E L mX7_length 1 0 [some (.ref 8)] [] F _
  refine R2.B (ls2 := [some (.ref 8)]) (st2 := [.int (F 8 1)]) b_X7_length_0_4 rfl (fun hd => ?_)
  exact R2.ret3 (r := some (.int (F 8 1))) hd trivial rfl rfl rfl
set_option maxRecDepth 20000 in
set_option maxHeartbeats 1000000 in
theorem ev_isFull8 (E : EE) (L : Nat) (F : FF) : Ev3 E L 1 mX7_isFull [.ref 8] F (some (.int (b2i (¬ F 8 1 < 60)))) F := by
  refine Ev3.of okX7_isFull.2.2.1 (Nat.le_of_ble_eq_true rfl) ?_
  show R2 E L mX7_isFull 1 0 [some (.ref 8)] [] F _
  refine R2.B (ls2 := [some (.ref 8)]) (st2 := [.int 60, .int (F 8 1)]) b_X7_isFull_0_9 rfl (fun hd => ?_)
  refine R2.icmp_lt 16 hd (by decide) (fun c9 => ?_) (fun c9 => ?_)
  · refine R2.B (ls2 := [some (.ref 8)]) (st2 := [.int 0]) b_X7_isFull_16_17 rfl (fun hd => ?_)
    exact R2.ret3 (r := some (.int 0)) hd (Or.inl rfl) rfl (congrArg (fun z => some (Value.int z)) (b2i_f (by clear hd; grind))) rfl
  · refine R2.B (ls2 := [some (.ref 8)]) (st2 := [.int 1]) b_X7_isFull_12_17 rfl (fun hd => ?_)
    exact R2.ret3 (r := some (.int 1)) hd (Or.inr rfl) rfl (congrArg (fun z => some (Value.int z)) (b2i_t (by clear hd; grind))) rfl
set_option maxRecDepth 20000 in
set_option maxHeartbeats 1000000 in
theorem ev_clear8 (E : EE) (L : Nat) (F : FF) : Ev3 E L 1 mX7_clear [.ref 8] F (some (.int (F 8 1))) (up2 F 8 1 0) := by
  refine Ev3.of okX7_clear.2.2.1 (Nat.le_of_ble_eq_true rfl) ?_
  show R2 E L mX7_clear 1 0 [some (.ref 8), none] [] F _
  refine R2.B (ls2 := [some (.ref 8), some (.int (F 8 1))]) (st2 := [.int 0, .ref 8]) b_X7_clear_0_7 rfl (fun hd => ?_)
  refine R2.putf (a := 7) (b := 1) hd (by decide) (by decide) rfl rfl (fun _ => rfl) ?_
  refine R2.B (ls2 := [some (.ref 8), some (.int (F 8 1))]) (st2 := [.int (F 8 1)]) b_X7_clear_10_11 rfl (fun hd => ?_)
  exact R2.ret3 (r := some (.int (F 8 1))) hd trivial rfl rfl rfl
theorem b_X7_add_0_1 : bl2 mX7_add 0 [(.aload_n 0, 1, 0, 0, .null)] 1 (.invokevirtual 25) 3 = true := by decide +kernel
theorem b_X7_add_4_4 : bl2 mX7_add 4 [] 4 (.ifCond .ne 23) 3 = true := by decide +kernel
theorem b_X7_add_7_16 : bl2 mX7_add 7 [(.aload_n 0, 1, 0, 0, .null), (.getfield 15, 3, 7, 0, .null), (.aload_n 0, 1, 0, 0, .null), (.getfield 21, 3, 7, 1, .null), (.iload_n 1, 1, 1, 0, .null)] 16 (.iastore) 1 = true := by decide +kernel
theorem b_X7_add_17_24 : bl2 mX7_add 17 [(.aload_n 0, 1, 0, 0, .null), (.dup, 1, 0, 0, .null), (.getfield 21, 3, 7, 1, .null), (.iconst 1, 1, 0, 0, .int 1), (.iadd, 1, 0, 0, .null)] 24 (.putfield 21) 3 = true := by decide +kernel
theorem b_X7_add_27_27 : bl2 mX7_add 27 [] 27 (.return_) 1 = true := by decide +kernel
set_option maxRecDepth 20000 in
set_option maxHeartbeats 1000000 in
theorem ev_add6 (E : EE) (L : Nat) (F : FF) (l : Nat) (x : Int32) (hlen : F 6 1 = nI l) (hl : l < 90) : Ev3 E L 2 mX7_add [.ref 6, .int x] F none (up2 (up2 F 7 l x) 6 1 (nI (l + 1))) := by
  refine Ev3.of okX7_add.2.2.1 (Nat.le_of_ble_eq_true rfl) ?_
  show R2 E L mX7_add 2 0 [some (.ref 6), some (.int x)] [] F _
  refine R2.B (ls2 := [some (.ref 6), some (.int x)]) (st2 := [.ref 6]) b_X7_add_0_1 rfl (fun hd => ?_)
  refine R2.callV3 (M2 := mX7_isFull) (As := []) (rest := []) hd lk_7_25 okX7_isFull (by decide) rfl (ev_isFull6 E L _) (by decide) rfl rfl (Nat.le_of_ble_eq_true rfl) ?_
  refine R2.top (show (b2i (¬ F 6 1 < 90) : Int32) = b2i (¬ nI l < 90) from (by rw [hlen])) ?_
  refine R2.B (ls2 := [some (.ref 6), some (.int x)]) (st2 := [.int (b2i (¬ nI l < 90))]) b_X7_add_4_4 rfl (fun hd => ?_)
  refine R2.if_ne 27 hd (by decide) (fun c4 => absurd (by rw [show b2i (¬ nI l < 90) = 0 from (b2i_f (fun z => z (nI_lt hl (by decide)))).symm]) c4) (fun c4 => ?_)
  refine R2.B (ls2 := [some (.ref 6), some (.int x)]) (st2 := [.int x, .int (F 6 1), .ref 7]) b_X7_add_7_16 rfl (fun hd => ?_)
  rw [show (F 6 1 : Int32) = nI l from hlen]
  refine R2.iast l rfl hd (by decide) rfl (fun _ => rfl) (by decide) (by omega) ?_
  refine R2.B (ls2 := [some (.ref 6), some (.int x)]) (st2 := [.int ((F 6 1) + 1), .ref 6]) b_X7_add_17_24 rfl (fun hd => ?_)
  refine R2.putf (a := 7) (b := 1) hd (by decide) (by decide) rfl rfl (fun _ => rfl) ?_
  refine R2.B (ls2 := [some (.ref 6), some (.int x)]) (st2 := []) b_X7_add_27_27 rfl (fun hd => ?_)
  exact R2.ret3 (r := none) hd trivial rfl rfl (by rw [hlen, nI_1])
theorem b_X7_at_0_1 : bl2 mX7_at 0 [(.iload_n 1, 1, 1, 0, .null)] 1 (.ifCond .lt 20) 3 = true := by decide +kernel
theorem b_X7_at_4_9 : bl2 mX7_at 4 [(.iload_n 1, 1, 1, 0, .null), (.aload_n 0, 1, 0, 0, .null), (.getfield 21, 3, 7, 1, .null)] 9 (.if_icmp .ge 12) 3 = true := by decide +kernel
theorem b_X7_at_21_22 : bl2 mX7_at 21 [(.iconst (-1), 1, 0, 0, .int (-1))] 22 (.ireturn) 1 = true := by decide +kernel
theorem b_X7_at_12_17 : bl2 mX7_at 12 [(.aload_n 0, 1, 0, 0, .null), (.getfield 15, 3, 7, 0, .null), (.iload_n 1, 1, 1, 0, .null)] 17 (.iaload) 1 = true := by decide +kernel
theorem b_X7_at_18_22 : bl2 mX7_at 18 [(.goto 4, 3, 22, 0, .null)] 22 (.ireturn) 1 = true := by decide +kernel
set_option maxRecDepth 20000 in
set_option maxHeartbeats 1000000 in
theorem ev_at6 (E : EE) (L : Nat) (F : FF) (l j : Nat) (hlen : F 6 1 = nI l) (hl : l ≤ 90) (hj : j < 2000) : Ev3 E L 1 mX7_at [.ref 6, .int (nI j)] F (some (.int (tat l (F 7) j))) F := by
  refine Ev3.of okX7_at.2.2.1 (Nat.le_of_ble_eq_true rfl) ?_
  show R2 E L mX7_at 1 0 [some (.ref 6), some (.int (nI j))] [] F _
  refine R2.B (ls2 := [some (.ref 6), some (.int (nI j))]) (st2 := [.int (nI j)]) b_X7_at_0_1 rfl (fun hd => ?_)
  refine R2.if_lt 21 hd (by decide) (fun c1 => absurd c1 (nI_pos (by omega))) (fun c1 => ?_)
  refine R2.B (ls2 := [some (.ref 6), some (.int (nI j))]) (st2 := [.int (F 6 1), .int (nI j)]) b_X7_at_4_9 rfl (fun hd => ?_)
  rw [show (F 6 1 : Int32) = nI l from hlen]
  refine R2.icmp_ge 21 hd (by decide) (fun c9 => ?_) (fun c9 => ?_)
  · have nc9 : l ≤ j := (nI_leI (a := l) (b := j) (by omega) (by omega)).mp c9
    refine R2.B (ls2 := [some (.ref 6), some (.int (nI j))]) (st2 := [.int (-1)]) b_X7_at_21_22 rfl (fun hd => ?_)
    exact R2.ret3 (r := some (.int (-1))) hd trivial rfl (congrArg (fun z => some (Value.int z)) (by clear hd; unfold tat; grind)) rfl
  · have nc9 : ¬ l ≤ j := fun h9 => c9 ((nI_leI (a := l) (b := j) (by omega) (by omega)).mpr h9)
    refine R2.B (ls2 := [some (.ref 6), some (.int (nI j))]) (st2 := [.int (nI j), .ref 7]) b_X7_at_12_17 rfl (fun hd => ?_)
    refine R2.iald j rfl hd rfl (fun _ => rfl) (by decide) (by omega) ?_
    refine R2.B (ls2 := [some (.ref 6), some (.int (nI j))]) (st2 := [.int (F 7 j)]) b_X7_at_18_22 rfl (fun hd => ?_)
    exact R2.ret3 (r := some (.int (F 7 j))) hd trivial rfl (congrArg (fun z => some (Value.int z)) (by clear hd; unfold tat; grind)) rfl
set_option maxRecDepth 20000 in
set_option maxHeartbeats 1000000 in
theorem ev_add8 (E : EE) (L : Nat) (F : FF) (l : Nat) (x : Int32) (hlen : F 8 1 = nI l) (hl : l < 60) : Ev3 E L 2 mX7_add [.ref 8, .int x] F none (up2 (up2 F 9 l x) 8 1 (nI (l + 1))) := by
  refine Ev3.of okX7_add.2.2.1 (Nat.le_of_ble_eq_true rfl) ?_
  show R2 E L mX7_add 2 0 [some (.ref 8), some (.int x)] [] F _
  refine R2.B (ls2 := [some (.ref 8), some (.int x)]) (st2 := [.ref 8]) b_X7_add_0_1 rfl (fun hd => ?_)
  refine R2.callV3 (M2 := mX7_isFull) (As := []) (rest := []) hd lk_7_25 okX7_isFull (by decide) rfl (ev_isFull8 E L _) (by decide) rfl rfl (Nat.le_of_ble_eq_true rfl) ?_
  refine R2.top (show (b2i (¬ F 8 1 < 60) : Int32) = b2i (¬ nI l < 60) from (by rw [hlen])) ?_
  refine R2.B (ls2 := [some (.ref 8), some (.int x)]) (st2 := [.int (b2i (¬ nI l < 60))]) b_X7_add_4_4 rfl (fun hd => ?_)
  refine R2.if_ne 27 hd (by decide) (fun c4 => absurd (by rw [show b2i (¬ nI l < 60) = 0 from (b2i_f (fun z => z (nI_lt hl (by decide)))).symm]) c4) (fun c4 => ?_)
  refine R2.B (ls2 := [some (.ref 8), some (.int x)]) (st2 := [.int x, .int (F 8 1), .ref 9]) b_X7_add_7_16 rfl (fun hd => ?_)
  rw [show (F 8 1 : Int32) = nI l from hlen]
  refine R2.iast l rfl hd (by decide) rfl (fun _ => rfl) (by decide) (by omega) ?_
  refine R2.B (ls2 := [some (.ref 8), some (.int x)]) (st2 := [.int ((F 8 1) + 1), .ref 8]) b_X7_add_17_24 rfl (fun hd => ?_)
  refine R2.putf (a := 7) (b := 1) hd (by decide) (by decide) rfl rfl (fun _ => rfl) ?_
  refine R2.B (ls2 := [some (.ref 8), some (.int x)]) (st2 := []) b_X7_add_27_27 rfl (fun hd => ?_)
  exact R2.ret3 (r := none) hd trivial rfl rfl (by rw [hlen, nI_1])
set_option maxRecDepth 20000 in
set_option maxHeartbeats 1000000 in
theorem ev_at8 (E : EE) (L : Nat) (F : FF) (l j : Nat) (hlen : F 8 1 = nI l) (hl : l ≤ 60) (hj : j < 2000) : Ev3 E L 1 mX7_at [.ref 8, .int (nI j)] F (some (.int (tat l (F 9) j))) F := by
  refine Ev3.of okX7_at.2.2.1 (Nat.le_of_ble_eq_true rfl) ?_
  show R2 E L mX7_at 1 0 [some (.ref 8), some (.int (nI j))] [] F _
  refine R2.B (ls2 := [some (.ref 8), some (.int (nI j))]) (st2 := [.int (nI j)]) b_X7_at_0_1 rfl (fun hd => ?_)
  refine R2.if_lt 21 hd (by decide) (fun c1 => absurd c1 (nI_pos (by omega))) (fun c1 => ?_)
  refine R2.B (ls2 := [some (.ref 8), some (.int (nI j))]) (st2 := [.int (F 8 1), .int (nI j)]) b_X7_at_4_9 rfl (fun hd => ?_)
  rw [show (F 8 1 : Int32) = nI l from hlen]
  refine R2.icmp_ge 21 hd (by decide) (fun c9 => ?_) (fun c9 => ?_)
  · have nc9 : l ≤ j := (nI_leI (a := l) (b := j) (by omega) (by omega)).mp c9
    refine R2.B (ls2 := [some (.ref 8), some (.int (nI j))]) (st2 := [.int (-1)]) b_X7_at_21_22 rfl (fun hd => ?_)
    exact R2.ret3 (r := some (.int (-1))) hd trivial rfl (congrArg (fun z => some (Value.int z)) (by clear hd; unfold tat; grind)) rfl
  · have nc9 : ¬ l ≤ j := fun h9 => c9 ((nI_leI (a := l) (b := j) (by omega) (by omega)).mpr h9)
    refine R2.B (ls2 := [some (.ref 8), some (.int (nI j))]) (st2 := [.int (nI j), .ref 9]) b_X7_at_12_17 rfl (fun hd => ?_)
    refine R2.iald j rfl hd rfl (fun _ => rfl) (by decide) (by omega) ?_
    refine R2.B (ls2 := [some (.ref 8), some (.int (nI j))]) (st2 := [.int (F 9 j)]) b_X7_at_18_22 rfl (fun hd => ?_)
    exact R2.ret3 (r := some (.int (F 9 j))) hd trivial rfl (congrArg (fun z => some (Value.int z)) (by clear hd; unfold tat; grind)) rfl
theorem b_X0_number_0_4 : bl2 mX0_number 0 [(.bipush 10, 2, 0, 0, .int 10), (.aload_n 0, 1, 0, 0, .null), (.iload_n 1, 1, 1, 0, .null)] 4 (.invokevirtual 58) 3 = true := by decide +kernel
theorem b_X0_number_7_7 : bl2 mX0_number 7 [] 7 (.invokestatic 62) 3 = true := by decide +kernel
theorem b_X0_number_10_15 : bl2 mX0_number 10 [(.imul, 1, 0, 0, .null), (.aload_n 0, 1, 0, 0, .null), (.iload_n 1, 1, 1, 0, .null), (.iconst 1, 1, 0, 0, .int 1), (.iadd, 1, 0, 0, .null)] 15 (.invokevirtual 58) 3 = true := by decide +kernel
theorem b_X0_number_18_18 : bl2 mX0_number 18 [] 18 (.invokestatic 62) 3 = true := by decide +kernel
theorem b_X0_number_21_22 : bl2 mX0_number 21 [(.iadd, 1, 0, 0, .null)] 22 (.ireturn) 1 = true := by decide +kernel
set_option maxRecDepth 20000 in
set_option maxHeartbeats 1000000 in
theorem ev_number (E : EE) (L : Nat) (F : FF) (l j : Nat) (hlen : F 6 1 = nI l) (hl : l ≤ 90) (hj : j < 1900) : Ev3 E L 2 mX0_number [.ref 6, .int (nI j)] F (some (.int (nmb l (F 7) j))) F := by
  refine Ev3.of okX0_number.2.1 (Nat.le_of_ble_eq_true rfl) ?_
  show R2 E L mX0_number 2 0 [some (.ref 6), some (.int (nI j))] [] F _
  refine R2.B (ls2 := [some (.ref 6), some (.int (nI j))]) (st2 := [.int (nI j), .ref 6, .int 10]) b_X0_number_0_4 rfl (fun hd => ?_)
  refine R2.callV3 (M2 := mX7_at) (As := [.int (nI j)]) (rest := [.int 10]) hd lk_0_58 okX7_at (by decide) rfl (ev_at6 E L F l j hlen (by omega) (by omega)) (by decide) rfl rfl (Nat.le_of_ble_eq_true rfl) ?_
  refine R2.B (ls2 := [some (.ref 6), some (.int (nI j))]) (st2 := [.int (tat l (F 7) j), .int 10]) b_X0_number_7_7 rfl (fun hd => ?_)
  refine R2.callS3 (M2 := mX10_figure) (As := [.int (tat l (F 7) j)]) (rest := [.int 10]) hd lk_0_62 okX10_figure (by decide) (ev_figure E L F (tat l (F 7) j)) (by decide) rfl rfl (Nat.le_of_ble_eq_true rfl) ?_
  refine R2.B (ls2 := [some (.ref 6), some (.int (nI j))]) (st2 := [.int ((nI j) + 1), .ref 6, .int (10 * (fig (tat l (F 7) j)))]) b_X0_number_10_15 rfl (fun hd => ?_)
  rw [show ((nI j) + 1 : Int32) = nI (j + 1) from nI_add j 1]
  refine R2.callV3 (M2 := mX7_at) (As := [.int (nI (j + 1))]) (rest := [.int (10 * (fig (tat l (F 7) j)))]) hd lk_0_58 okX7_at (by decide) rfl (ev_at6 E L F l (j + 1) hlen (by omega) (by omega)) (by decide) rfl rfl (Nat.le_of_ble_eq_true rfl) ?_
  refine R2.B (ls2 := [some (.ref 6), some (.int (nI j))]) (st2 := [.int (tat l (F 7) (j + 1)), .int (10 * (fig (tat l (F 7) j)))]) b_X0_number_18_18 rfl (fun hd => ?_)
  refine R2.callS3 (M2 := mX10_figure) (As := [.int (tat l (F 7) (j + 1))]) (rest := [.int (10 * (fig (tat l (F 7) j)))]) hd lk_0_62 okX10_figure (by decide) (ev_figure E L F (tat l (F 7) (j + 1))) (by decide) rfl rfl (Nat.le_of_ble_eq_true rfl) ?_
  refine R2.B (ls2 := [some (.ref 6), some (.int (nI j))]) (st2 := [.int ((10 * (fig (tat l (F 7) j))) + (fig (tat l (F 7) (j + 1))))]) b_X0_number_21_22 rfl (fun hd => ?_)
  exact R2.ret3 (r := some (.int ((10 * (fig (tat l (F 7) j))) + (fig (tat l (F 7) (j + 1)))))) hd trivial rfl rfl rfl
theorem b_X0_faultAt_0_2 : bl2 mX0_faultAt 0 [(.aload_n 0, 1, 0, 0, .null), (.iload_n 1, 1, 1, 0, .null)] 2 (.invokevirtual 58) 3 = true := by decide +kernel
theorem b_X0_faultAt_5_9 : bl2 mX0_faultAt 5 [(.istore_n 2, 1, 2, 0, .null), (.iload_n 1, 1, 1, 0, .null), (.bipush 9, 2, 0, 0, .int 9)] 9 (.idiv) 1 = true := by decide +kernel
theorem b_X0_faultAt_10_12 : bl2 mX0_faultAt 10 [(.bipush 10, 2, 0, 0, .int 10)] 12 (.if_icmp .lt 5) 3 = true := by decide +kernel
theorem b_X0_faultAt_17_20 : bl2 mX0_faultAt 17 [(.iload_n 1, 1, 1, 0, .null), (.bipush 9, 2, 0, 0, .int 9)] 20 (.irem) 1 = true := by decide +kernel
theorem b_X0_faultAt_21_21 : bl2 mX0_faultAt 21 [] 21 (.tableswitch 141 0 8 #[51, 75, 141, 141, 141, 97, 141, 97, 129]) 51 = true := by decide +kernel
theorem b_X0_faultAt_72_75 : bl2 mX0_faultAt 72 [(.iload_n 2, 1, 2, 0, .null), (.bipush 115, 2, 0, 0, .int 115)] 75 (.if_icmp .eq 15) 3 = true := by decide +kernel
theorem b_X0_faultAt_90_95 : bl2 mX0_faultAt 90 [(.iconst (-1), 1, 0, 0, .int (-1)), (.goto 4, 3, 95, 0, .null)] 95 (.ireturn) 1 = true := by decide +kernel
theorem b_X0_faultAt_78_81 : bl2 mX0_faultAt 78 [(.iload_n 2, 1, 2, 0, .null), (.bipush 98, 2, 0, 0, .int 98)] 81 (.if_icmp .eq 9) 3 = true := by decide +kernel
theorem b_X0_faultAt_84_87 : bl2 mX0_faultAt 84 [(.iload_n 2, 1, 2, 0, .null), (.bipush 110, 2, 0, 0, .int 110)] 87 (.if_icmp .ne 7) 3 = true := by decide +kernel
theorem b_X0_faultAt_94_95 : bl2 mX0_faultAt 94 [(.iload_n 1, 1, 1, 0, .null)] 95 (.ireturn) 1 = true := by decide +kernel
theorem b_X0_faultAt_96_97 : bl2 mX0_faultAt 96 [(.iload_n 2, 1, 2, 0, .null)] 97 (.invokestatic 62) 3 = true := by decide +kernel
theorem b_X0_faultAt_100_101 : bl2 mX0_faultAt 100 [(.iconst (-1), 1, 0, 0, .int (-1))] 101 (.if_icmp .eq 15) 3 = true := by decide +kernel
theorem b_X0_faultAt_116_117 : bl2 mX0_faultAt 116 [(.iload_n 1, 1, 1, 0, .null)] 117 (.ireturn) 1 = true := by decide +kernel
theorem b_X0_faultAt_104_105 : bl2 mX0_faultAt 104 [(.iload_n 2, 1, 2, 0, .null)] 105 (.invokestatic 62) 3 = true := by decide +kernel
theorem b_X0_faultAt_108_109 : bl2 mX0_faultAt 108 [(.iconst 4, 1, 0, 0, .int 4)] 109 (.if_icmp .ge 7) 3 = true := by decide +kernel
theorem b_X0_faultAt_112_117 : bl2 mX0_faultAt 112 [(.iconst (-1), 1, 0, 0, .int (-1)), (.goto 4, 3, 117, 0, .null)] 117 (.ireturn) 1 = true := by decide +kernel
theorem b_X0_faultAt_162_163 : bl2 mX0_faultAt 162 [(.iload_n 2, 1, 2, 0, .null)] 163 (.invokestatic 62) 3 = true := by decide +kernel
theorem b_X0_faultAt_166_167 : bl2 mX0_faultAt 166 [(.iconst (-1), 1, 0, 0, .int (-1))] 167 (.if_icmp .eq 7) 3 = true := by decide +kernel
theorem b_X0_faultAt_174_175 : bl2 mX0_faultAt 174 [(.iload_n 1, 1, 1, 0, .null)] 175 (.ireturn) 1 = true := by decide +kernel
theorem b_X0_faultAt_170_175 : bl2 mX0_faultAt 170 [(.iconst (-1), 1, 0, 0, .int (-1)), (.goto 4, 3, 175, 0, .null)] 175 (.ireturn) 1 = true := by decide +kernel
theorem b_X0_faultAt_118_119 : bl2 mX0_faultAt 118 [(.iload_n 2, 1, 2, 0, .null)] 119 (.invokestatic 62) 3 = true := by decide +kernel
theorem b_X0_faultAt_122_123 : bl2 mX0_faultAt 122 [(.iconst (-1), 1, 0, 0, .int (-1))] 123 (.if_icmp .ne 7) 3 = true := by decide +kernel
theorem b_X0_faultAt_130_134 : bl2 mX0_faultAt 130 [(.aload_n 0, 1, 0, 0, .null), (.iload_n 1, 1, 1, 0, .null), (.iconst 1, 1, 0, 0, .int 1), (.isub, 1, 0, 0, .null)] 134 (.invokestatic 65) 3 = true := by decide +kernel
theorem b_X0_faultAt_137_139 : bl2 mX0_faultAt 137 [(.bipush 32, 2, 0, 0, .int 32)] 139 (.if_icmp .ge 7) 3 = true := by decide +kernel
theorem b_X0_faultAt_146_149 : bl2 mX0_faultAt 146 [(.iload_n 1, 1, 1, 0, .null), (.iconst 1, 1, 0, 0, .int 1), (.isub, 1, 0, 0, .null)] 149 (.ireturn) 1 = true := by decide +kernel
theorem b_X0_faultAt_142_149 : bl2 mX0_faultAt 142 [(.iconst (-1), 1, 0, 0, .int (-1)), (.goto 6, 3, 149, 0, .null)] 149 (.ireturn) 1 = true := by decide +kernel
theorem b_X0_faultAt_126_149 : bl2 mX0_faultAt 126 [(.iload_n 1, 1, 1, 0, .null), (.goto 22, 3, 149, 0, .null)] 149 (.ireturn) 1 = true := by decide +kernel
theorem b_X0_faultAt_150_153 : bl2 mX0_faultAt 150 [(.iload_n 2, 1, 2, 0, .null), (.bipush 59, 2, 0, 0, .int 59)] 153 (.if_icmp .ne 7) 3 = true := by decide +kernel
theorem b_X0_faultAt_160_161 : bl2 mX0_faultAt 160 [(.iload_n 1, 1, 1, 0, .null)] 161 (.ireturn) 1 = true := by decide +kernel
theorem b_X0_faultAt_156_161 : bl2 mX0_faultAt 156 [(.iconst (-1), 1, 0, 0, .int (-1)), (.goto 4, 3, 161, 0, .null)] 161 (.ireturn) 1 = true := by decide +kernel
theorem b_X0_faultAt_15_16 : bl2 mX0_faultAt 15 [(.iload_n 1, 1, 1, 0, .null)] 16 (.ireturn) 1 = true := by decide +kernel
set_option maxRecDepth 20000 in
set_option maxHeartbeats 1000000 in
theorem ev_faultAt (E : EE) (L : Nat) (F : FF) (l j : Nat) (hlen : F 6 1 = nI l) (hl : l ≤ 90) (hj : j < 90) : Ev3 E L 3 mX0_faultAt [.ref 6, .int (nI j)] F (some (.int (fltAt l (F 7) j))) F := by
  refine Ev3.of okX0_faultAt.2.1 (Nat.le_of_ble_eq_true rfl) ?_
  show R2 E L mX0_faultAt 3 0 [some (.ref 6), some (.int (nI j)), none] [] F _
  refine R2.B (ls2 := [some (.ref 6), some (.int (nI j)), none]) (st2 := [.int (nI j), .ref 6]) b_X0_faultAt_0_2 rfl (fun hd => ?_)
  refine R2.callV3 (M2 := mX7_at) (As := [.int (nI j)]) (rest := []) hd lk_0_58 okX7_at (by decide) rfl (ev_at6 E L F l j hlen (by omega) (by omega)) (by decide) rfl rfl (Nat.le_of_ble_eq_true rfl) ?_
  refine R2.B (ls2 := [some (.ref 6), some (.int (nI j)), some (.int (tat l (F 7) j))]) (st2 := [.int 9, .int (nI j)]) b_X0_faultAt_5_9 rfl (fun hd => ?_)
  refine R2.idiv hd (by decide) ?_
  refine R2.top (show ((nI j) / 9 : Int32) = nI (j / 9) from pk_div (by omega) (by decide) (by decide)) ?_
  refine R2.B (ls2 := [some (.ref 6), some (.int (nI j)), some (.int (tat l (F 7) j))]) (st2 := [.int 10, .int (nI (j / 9))]) b_X0_faultAt_10_12 rfl (fun hd => ?_)
  refine R2.icmp_lt 17 hd (by decide) (fun c12 => ?_) (fun c12 => ?_)
  · have nc12 : (j / 9) < 10 := (nI_ltI (a := (j / 9)) (b := 10) (by omega) (by omega)).mp c12
    refine R2.B (ls2 := [some (.ref 6), some (.int (nI j)), some (.int (tat l (F 7) j))]) (st2 := [.int 9, .int (nI j)]) b_X0_faultAt_17_20 rfl (fun hd => ?_)
    refine R2.irem hd (by decide) ?_
    refine R2.top (show ((nI j) - (nI j) / 9 * 9 : Int32) = nI (j % 9) from pk_rem (by omega) (by decide) (by decide)) ?_
    refine R2.B (ls2 := [some (.ref 6), some (.int (nI j)), some (.int (tat l (F 7) j))]) (st2 := [.int (nI (j % 9))]) b_X0_faultAt_21_21 rfl (fun hd => ?_)
    rcases (show j % 9 = 0 ∨ j % 9 = 1 ∨ j % 9 = 2 ∨ j % 9 = 3 ∨ j % 9 = 4 ∨ j % 9 = 5 ∨ j % 9 = 6 ∨ j % 9 = 7 ∨ j % 9 = 8 by omega) with h9 | h9 | h9 | h9 | h9 | h9 | h9 | h9 | h9
    · rw [h9]
      refine R2.tblIn (off := 51) 72 hd (by decide) (by decide) rfl (by decide) ?_
      refine R2.B (ls2 := [some (.ref 6), some (.int (nI j)), some (.int (tat l (F 7) j))]) (st2 := [.int 115, .int (tat l (F 7) j)]) b_X0_faultAt_72_75 rfl (fun hd => ?_)
      refine R2.icmp_eq 90 hd (by decide) (fun c75 => ?_) (fun c75 => ?_)
      · refine R2.B (ls2 := [some (.ref 6), some (.int (nI j)), some (.int (tat l (F 7) j))]) (st2 := [.int (-1)]) b_X0_faultAt_90_95 rfl (fun hd => ?_)
        exact R2.ret3 (r := some (.int (-1))) hd trivial rfl (congrArg (fun z => some (Value.int z)) (by clear hd; unfold fltAt; grind)) rfl
      · refine R2.B (ls2 := [some (.ref 6), some (.int (nI j)), some (.int (tat l (F 7) j))]) (st2 := [.int 98, .int (tat l (F 7) j)]) b_X0_faultAt_78_81 rfl (fun hd => ?_)
        refine R2.icmp_eq 90 hd (by decide) (fun c81 => ?_) (fun c81 => ?_)
        · refine R2.B (ls2 := [some (.ref 6), some (.int (nI j)), some (.int (tat l (F 7) j))]) (st2 := [.int (-1)]) b_X0_faultAt_90_95 rfl (fun hd => ?_)
          exact R2.ret3 (r := some (.int (-1))) hd trivial rfl (congrArg (fun z => some (Value.int z)) (by clear hd; unfold fltAt; grind)) rfl
        · refine R2.B (ls2 := [some (.ref 6), some (.int (nI j)), some (.int (tat l (F 7) j))]) (st2 := [.int 110, .int (tat l (F 7) j)]) b_X0_faultAt_84_87 rfl (fun hd => ?_)
          refine R2.icmp_ne 94 hd (by decide) (fun c87 => ?_) (fun c87 => ?_)
          · refine R2.B (ls2 := [some (.ref 6), some (.int (nI j)), some (.int (tat l (F 7) j))]) (st2 := [.int (nI j)]) b_X0_faultAt_94_95 rfl (fun hd => ?_)
            exact R2.ret3 (r := some (.int (nI j))) hd trivial rfl (congrArg (fun z => some (Value.int z)) (by clear hd; unfold fltAt; grind)) rfl
          · refine R2.B (ls2 := [some (.ref 6), some (.int (nI j)), some (.int (tat l (F 7) j))]) (st2 := [.int (-1)]) b_X0_faultAt_90_95 rfl (fun hd => ?_)
            exact R2.ret3 (r := some (.int (-1))) hd trivial rfl (congrArg (fun z => some (Value.int z)) (by clear hd; unfold fltAt; grind)) rfl
    · rw [h9]
      refine R2.tblIn (off := 75) 96 hd (by decide) (by decide) rfl (by decide) ?_
      refine R2.B (ls2 := [some (.ref 6), some (.int (nI j)), some (.int (tat l (F 7) j))]) (st2 := [.int (tat l (F 7) j)]) b_X0_faultAt_96_97 rfl (fun hd => ?_)
      refine R2.callS3 (M2 := mX10_figure) (As := [.int (tat l (F 7) j)]) (rest := []) hd lk_0_62 okX10_figure (by decide) (ev_figure E L F (tat l (F 7) j)) (by decide) rfl rfl (Nat.le_of_ble_eq_true rfl) ?_
      refine R2.B (ls2 := [some (.ref 6), some (.int (nI j)), some (.int (tat l (F 7) j))]) (st2 := [.int (-1), .int (fig (tat l (F 7) j))]) b_X0_faultAt_100_101 rfl (fun hd => ?_)
      refine R2.icmp_eq 116 hd (by decide) (fun c101 => ?_) (fun c101 => ?_)
      · refine R2.B (ls2 := [some (.ref 6), some (.int (nI j)), some (.int (tat l (F 7) j))]) (st2 := [.int (nI j)]) b_X0_faultAt_116_117 rfl (fun hd => ?_)
        exact R2.ret3 (r := some (.int (nI j))) hd trivial rfl (congrArg (fun z => some (Value.int z)) (by clear hd; unfold fltAt; grind)) rfl
      · refine R2.B (ls2 := [some (.ref 6), some (.int (nI j)), some (.int (tat l (F 7) j))]) (st2 := [.int (tat l (F 7) j)]) b_X0_faultAt_104_105 rfl (fun hd => ?_)
        refine R2.callS3 (M2 := mX10_figure) (As := [.int (tat l (F 7) j)]) (rest := []) hd lk_0_62 okX10_figure (by decide) (ev_figure E L F (tat l (F 7) j)) (by decide) rfl rfl (Nat.le_of_ble_eq_true rfl) ?_
        refine R2.B (ls2 := [some (.ref 6), some (.int (nI j)), some (.int (tat l (F 7) j))]) (st2 := [.int 4, .int (fig (tat l (F 7) j))]) b_X0_faultAt_108_109 rfl (fun hd => ?_)
        refine R2.icmp_ge 116 hd (by decide) (fun c109 => ?_) (fun c109 => ?_)
        · refine R2.B (ls2 := [some (.ref 6), some (.int (nI j)), some (.int (tat l (F 7) j))]) (st2 := [.int (nI j)]) b_X0_faultAt_116_117 rfl (fun hd => ?_)
          exact R2.ret3 (r := some (.int (nI j))) hd trivial rfl (congrArg (fun z => some (Value.int z)) (by clear hd; unfold fltAt; grind)) rfl
        · refine R2.B (ls2 := [some (.ref 6), some (.int (nI j)), some (.int (tat l (F 7) j))]) (st2 := [.int (-1)]) b_X0_faultAt_112_117 rfl (fun hd => ?_)
          exact R2.ret3 (r := some (.int (-1))) hd trivial rfl (congrArg (fun z => some (Value.int z)) (by clear hd; unfold fltAt; grind)) rfl
    · rw [h9]
      refine R2.tblIn (off := 141) 162 hd (by decide) (by decide) rfl (by decide) ?_
      refine R2.B (ls2 := [some (.ref 6), some (.int (nI j)), some (.int (tat l (F 7) j))]) (st2 := [.int (tat l (F 7) j)]) b_X0_faultAt_162_163 rfl (fun hd => ?_)
      refine R2.callS3 (M2 := mX10_figure) (As := [.int (tat l (F 7) j)]) (rest := []) hd lk_0_62 okX10_figure (by decide) (ev_figure E L F (tat l (F 7) j)) (by decide) rfl rfl (Nat.le_of_ble_eq_true rfl) ?_
      refine R2.B (ls2 := [some (.ref 6), some (.int (nI j)), some (.int (tat l (F 7) j))]) (st2 := [.int (-1), .int (fig (tat l (F 7) j))]) b_X0_faultAt_166_167 rfl (fun hd => ?_)
      refine R2.icmp_eq 174 hd (by decide) (fun c167 => ?_) (fun c167 => ?_)
      · refine R2.B (ls2 := [some (.ref 6), some (.int (nI j)), some (.int (tat l (F 7) j))]) (st2 := [.int (nI j)]) b_X0_faultAt_174_175 rfl (fun hd => ?_)
        exact R2.ret3 (r := some (.int (nI j))) hd trivial rfl (congrArg (fun z => some (Value.int z)) (by clear hd; unfold fltAt; grind)) rfl
      · refine R2.B (ls2 := [some (.ref 6), some (.int (nI j)), some (.int (tat l (F 7) j))]) (st2 := [.int (-1)]) b_X0_faultAt_170_175 rfl (fun hd => ?_)
        exact R2.ret3 (r := some (.int (-1))) hd trivial rfl (congrArg (fun z => some (Value.int z)) (by clear hd; unfold fltAt; grind)) rfl
    · rw [h9]
      refine R2.tblIn (off := 141) 162 hd (by decide) (by decide) rfl (by decide) ?_
      refine R2.B (ls2 := [some (.ref 6), some (.int (nI j)), some (.int (tat l (F 7) j))]) (st2 := [.int (tat l (F 7) j)]) b_X0_faultAt_162_163 rfl (fun hd => ?_)
      refine R2.callS3 (M2 := mX10_figure) (As := [.int (tat l (F 7) j)]) (rest := []) hd lk_0_62 okX10_figure (by decide) (ev_figure E L F (tat l (F 7) j)) (by decide) rfl rfl (Nat.le_of_ble_eq_true rfl) ?_
      refine R2.B (ls2 := [some (.ref 6), some (.int (nI j)), some (.int (tat l (F 7) j))]) (st2 := [.int (-1), .int (fig (tat l (F 7) j))]) b_X0_faultAt_166_167 rfl (fun hd => ?_)
      refine R2.icmp_eq 174 hd (by decide) (fun c167 => ?_) (fun c167 => ?_)
      · refine R2.B (ls2 := [some (.ref 6), some (.int (nI j)), some (.int (tat l (F 7) j))]) (st2 := [.int (nI j)]) b_X0_faultAt_174_175 rfl (fun hd => ?_)
        exact R2.ret3 (r := some (.int (nI j))) hd trivial rfl (congrArg (fun z => some (Value.int z)) (by clear hd; unfold fltAt; grind)) rfl
      · refine R2.B (ls2 := [some (.ref 6), some (.int (nI j)), some (.int (tat l (F 7) j))]) (st2 := [.int (-1)]) b_X0_faultAt_170_175 rfl (fun hd => ?_)
        exact R2.ret3 (r := some (.int (-1))) hd trivial rfl (congrArg (fun z => some (Value.int z)) (by clear hd; unfold fltAt; grind)) rfl
    · rw [h9]
      refine R2.tblIn (off := 141) 162 hd (by decide) (by decide) rfl (by decide) ?_
      refine R2.B (ls2 := [some (.ref 6), some (.int (nI j)), some (.int (tat l (F 7) j))]) (st2 := [.int (tat l (F 7) j)]) b_X0_faultAt_162_163 rfl (fun hd => ?_)
      refine R2.callS3 (M2 := mX10_figure) (As := [.int (tat l (F 7) j)]) (rest := []) hd lk_0_62 okX10_figure (by decide) (ev_figure E L F (tat l (F 7) j)) (by decide) rfl rfl (Nat.le_of_ble_eq_true rfl) ?_
      refine R2.B (ls2 := [some (.ref 6), some (.int (nI j)), some (.int (tat l (F 7) j))]) (st2 := [.int (-1), .int (fig (tat l (F 7) j))]) b_X0_faultAt_166_167 rfl (fun hd => ?_)
      refine R2.icmp_eq 174 hd (by decide) (fun c167 => ?_) (fun c167 => ?_)
      · refine R2.B (ls2 := [some (.ref 6), some (.int (nI j)), some (.int (tat l (F 7) j))]) (st2 := [.int (nI j)]) b_X0_faultAt_174_175 rfl (fun hd => ?_)
        exact R2.ret3 (r := some (.int (nI j))) hd trivial rfl (congrArg (fun z => some (Value.int z)) (by clear hd; unfold fltAt; grind)) rfl
      · refine R2.B (ls2 := [some (.ref 6), some (.int (nI j)), some (.int (tat l (F 7) j))]) (st2 := [.int (-1)]) b_X0_faultAt_170_175 rfl (fun hd => ?_)
        exact R2.ret3 (r := some (.int (-1))) hd trivial rfl (congrArg (fun z => some (Value.int z)) (by clear hd; unfold fltAt; grind)) rfl
    · rw [h9]
      refine R2.tblIn (off := 97) 118 hd (by decide) (by decide) rfl (by decide) ?_
      refine R2.B (ls2 := [some (.ref 6), some (.int (nI j)), some (.int (tat l (F 7) j))]) (st2 := [.int (tat l (F 7) j)]) b_X0_faultAt_118_119 rfl (fun hd => ?_)
      refine R2.callS3 (M2 := mX10_figure) (As := [.int (tat l (F 7) j)]) (rest := []) hd lk_0_62 okX10_figure (by decide) (ev_figure E L F (tat l (F 7) j)) (by decide) rfl rfl (Nat.le_of_ble_eq_true rfl) ?_
      refine R2.B (ls2 := [some (.ref 6), some (.int (nI j)), some (.int (tat l (F 7) j))]) (st2 := [.int (-1), .int (fig (tat l (F 7) j))]) b_X0_faultAt_122_123 rfl (fun hd => ?_)
      refine R2.icmp_ne 130 hd (by decide) (fun c123 => ?_) (fun c123 => ?_)
      · refine R2.B (ls2 := [some (.ref 6), some (.int (nI j)), some (.int (tat l (F 7) j))]) (st2 := [.int ((nI j) - 1), .ref 6]) b_X0_faultAt_130_134 rfl (fun hd => ?_)
        rw [show ((nI j) - 1 : Int32) = nI (j - 1) from pk_sub (show 1 ≤ j by omega)]
        refine R2.callS3 (M2 := mX0_number) (As := [.ref 6, .int (nI (j - 1))]) (rest := []) hd lk_0_65 okX0_number (by decide) (ev_number E L F l (j - 1) hlen (by omega) (by omega)) (by decide) rfl rfl (Nat.le_of_ble_eq_true rfl) ?_
        refine R2.B (ls2 := [some (.ref 6), some (.int (nI j)), some (.int (tat l (F 7) j))]) (st2 := [.int 32, .int (nmb l (F 7) (j - 1))]) b_X0_faultAt_137_139 rfl (fun hd => ?_)
        refine R2.icmp_ge 146 hd (by decide) (fun c139 => ?_) (fun c139 => ?_)
        · refine R2.B (ls2 := [some (.ref 6), some (.int (nI j)), some (.int (tat l (F 7) j))]) (st2 := [.int ((nI j) - 1)]) b_X0_faultAt_146_149 rfl (fun hd => ?_)
          rw [show ((nI j) - 1 : Int32) = nI (j - 1) from pk_sub (show 1 ≤ j by omega)]
          exact R2.ret3 (r := some (.int (nI (j - 1)))) hd trivial rfl (congrArg (fun z => some (Value.int z)) (by clear hd; unfold fltAt; grind)) rfl
        · refine R2.B (ls2 := [some (.ref 6), some (.int (nI j)), some (.int (tat l (F 7) j))]) (st2 := [.int (-1)]) b_X0_faultAt_142_149 rfl (fun hd => ?_)
          exact R2.ret3 (r := some (.int (-1))) hd trivial rfl (congrArg (fun z => some (Value.int z)) (by clear hd; unfold fltAt; grind)) rfl
      · refine R2.B (ls2 := [some (.ref 6), some (.int (nI j)), some (.int (tat l (F 7) j))]) (st2 := [.int (nI j)]) b_X0_faultAt_126_149 rfl (fun hd => ?_)
        exact R2.ret3 (r := some (.int (nI j))) hd trivial rfl (congrArg (fun z => some (Value.int z)) (by clear hd; unfold fltAt; grind)) rfl
    · rw [h9]
      refine R2.tblIn (off := 141) 162 hd (by decide) (by decide) rfl (by decide) ?_
      refine R2.B (ls2 := [some (.ref 6), some (.int (nI j)), some (.int (tat l (F 7) j))]) (st2 := [.int (tat l (F 7) j)]) b_X0_faultAt_162_163 rfl (fun hd => ?_)
      refine R2.callS3 (M2 := mX10_figure) (As := [.int (tat l (F 7) j)]) (rest := []) hd lk_0_62 okX10_figure (by decide) (ev_figure E L F (tat l (F 7) j)) (by decide) rfl rfl (Nat.le_of_ble_eq_true rfl) ?_
      refine R2.B (ls2 := [some (.ref 6), some (.int (nI j)), some (.int (tat l (F 7) j))]) (st2 := [.int (-1), .int (fig (tat l (F 7) j))]) b_X0_faultAt_166_167 rfl (fun hd => ?_)
      refine R2.icmp_eq 174 hd (by decide) (fun c167 => ?_) (fun c167 => ?_)
      · refine R2.B (ls2 := [some (.ref 6), some (.int (nI j)), some (.int (tat l (F 7) j))]) (st2 := [.int (nI j)]) b_X0_faultAt_174_175 rfl (fun hd => ?_)
        exact R2.ret3 (r := some (.int (nI j))) hd trivial rfl (congrArg (fun z => some (Value.int z)) (by clear hd; unfold fltAt; grind)) rfl
      · refine R2.B (ls2 := [some (.ref 6), some (.int (nI j)), some (.int (tat l (F 7) j))]) (st2 := [.int (-1)]) b_X0_faultAt_170_175 rfl (fun hd => ?_)
        exact R2.ret3 (r := some (.int (-1))) hd trivial rfl (congrArg (fun z => some (Value.int z)) (by clear hd; unfold fltAt; grind)) rfl
    · rw [h9]
      refine R2.tblIn (off := 97) 118 hd (by decide) (by decide) rfl (by decide) ?_
      refine R2.B (ls2 := [some (.ref 6), some (.int (nI j)), some (.int (tat l (F 7) j))]) (st2 := [.int (tat l (F 7) j)]) b_X0_faultAt_118_119 rfl (fun hd => ?_)
      refine R2.callS3 (M2 := mX10_figure) (As := [.int (tat l (F 7) j)]) (rest := []) hd lk_0_62 okX10_figure (by decide) (ev_figure E L F (tat l (F 7) j)) (by decide) rfl rfl (Nat.le_of_ble_eq_true rfl) ?_
      refine R2.B (ls2 := [some (.ref 6), some (.int (nI j)), some (.int (tat l (F 7) j))]) (st2 := [.int (-1), .int (fig (tat l (F 7) j))]) b_X0_faultAt_122_123 rfl (fun hd => ?_)
      refine R2.icmp_ne 130 hd (by decide) (fun c123 => ?_) (fun c123 => ?_)
      · refine R2.B (ls2 := [some (.ref 6), some (.int (nI j)), some (.int (tat l (F 7) j))]) (st2 := [.int ((nI j) - 1), .ref 6]) b_X0_faultAt_130_134 rfl (fun hd => ?_)
        rw [show ((nI j) - 1 : Int32) = nI (j - 1) from pk_sub (show 1 ≤ j by omega)]
        refine R2.callS3 (M2 := mX0_number) (As := [.ref 6, .int (nI (j - 1))]) (rest := []) hd lk_0_65 okX0_number (by decide) (ev_number E L F l (j - 1) hlen (by omega) (by omega)) (by decide) rfl rfl (Nat.le_of_ble_eq_true rfl) ?_
        refine R2.B (ls2 := [some (.ref 6), some (.int (nI j)), some (.int (tat l (F 7) j))]) (st2 := [.int 32, .int (nmb l (F 7) (j - 1))]) b_X0_faultAt_137_139 rfl (fun hd => ?_)
        refine R2.icmp_ge 146 hd (by decide) (fun c139 => ?_) (fun c139 => ?_)
        · refine R2.B (ls2 := [some (.ref 6), some (.int (nI j)), some (.int (tat l (F 7) j))]) (st2 := [.int ((nI j) - 1)]) b_X0_faultAt_146_149 rfl (fun hd => ?_)
          rw [show ((nI j) - 1 : Int32) = nI (j - 1) from pk_sub (show 1 ≤ j by omega)]
          exact R2.ret3 (r := some (.int (nI (j - 1)))) hd trivial rfl (congrArg (fun z => some (Value.int z)) (by clear hd; unfold fltAt; grind)) rfl
        · refine R2.B (ls2 := [some (.ref 6), some (.int (nI j)), some (.int (tat l (F 7) j))]) (st2 := [.int (-1)]) b_X0_faultAt_142_149 rfl (fun hd => ?_)
          exact R2.ret3 (r := some (.int (-1))) hd trivial rfl (congrArg (fun z => some (Value.int z)) (by clear hd; unfold fltAt; grind)) rfl
      · refine R2.B (ls2 := [some (.ref 6), some (.int (nI j)), some (.int (tat l (F 7) j))]) (st2 := [.int (nI j)]) b_X0_faultAt_126_149 rfl (fun hd => ?_)
        exact R2.ret3 (r := some (.int (nI j))) hd trivial rfl (congrArg (fun z => some (Value.int z)) (by clear hd; unfold fltAt; grind)) rfl
    · rw [h9]
      refine R2.tblIn (off := 129) 150 hd (by decide) (by decide) rfl (by decide) ?_
      refine R2.B (ls2 := [some (.ref 6), some (.int (nI j)), some (.int (tat l (F 7) j))]) (st2 := [.int 59, .int (tat l (F 7) j)]) b_X0_faultAt_150_153 rfl (fun hd => ?_)
      refine R2.icmp_ne 160 hd (by decide) (fun c153 => ?_) (fun c153 => ?_)
      · refine R2.B (ls2 := [some (.ref 6), some (.int (nI j)), some (.int (tat l (F 7) j))]) (st2 := [.int (nI j)]) b_X0_faultAt_160_161 rfl (fun hd => ?_)
        exact R2.ret3 (r := some (.int (nI j))) hd trivial rfl (congrArg (fun z => some (Value.int z)) (by clear hd; unfold fltAt; grind)) rfl
      · refine R2.B (ls2 := [some (.ref 6), some (.int (nI j)), some (.int (tat l (F 7) j))]) (st2 := [.int (-1)]) b_X0_faultAt_156_161 rfl (fun hd => ?_)
        exact R2.ret3 (r := some (.int (-1))) hd trivial rfl (congrArg (fun z => some (Value.int z)) (by clear hd; unfold fltAt; grind)) rfl
  · have nc12 : ¬ (j / 9) < 10 := fun h9 => c12 ((nI_ltI (a := (j / 9)) (b := 10) (by omega) (by omega)).mpr h9)
    refine R2.B (ls2 := [some (.ref 6), some (.int (nI j)), some (.int (tat l (F 7) j))]) (st2 := [.int (nI j)]) b_X0_faultAt_15_16 rfl (fun hd => ?_)
    exact R2.ret3 (r := some (.int (nI j))) hd trivial rfl (congrArg (fun z => some (Value.int z)) (by clear hd; unfold fltAt; grind)) rfl
theorem b_X0_faultOf_7_9 : bl2 mX0_faultOf 7 [(.iload_n 2, 1, 2, 0, .null), (.iload_n 1, 1, 1, 0, .null)] 9 (.if_icmp .ge 22) 3 = true := by decide +kernel
theorem b_X0_faultOf_31_32 : bl2 mX0_faultOf 31 [(.iload_n 1, 1, 1, 0, .null)] 32 (.ifCond .eq 12) 3 = true := by decide +kernel
theorem b_X0_faultOf_44_51 : bl2 mX0_faultOf 44 [(.iconst 1, 1, 0, 0, .int 1), (.goto 4, 3, 49, 0, .null), (.istore_n 2, 1, 2, 0, .null), (.iload_n 2, 1, 2, 0, .null)] 51 (.ifCond .eq 7) 3 = true := by decide +kernel
theorem b_X0_faultOf_54_59 : bl2 mX0_faultOf 54 [(.iconst (-1), 1, 0, 0, .int (-1)), (.goto 4, 3, 59, 0, .null)] 59 (.ireturn) 1 = true := by decide +kernel
theorem b_X0_faultOf_35_38 : bl2 mX0_faultOf 35 [(.iload_n 1, 1, 1, 0, .null), (.bipush 9, 2, 0, 0, .int 9)] 38 (.irem) 1 = true := by decide +kernel
theorem b_X0_faultOf_39_41 : bl2 mX0_faultOf 39 [(.bipush 8, 2, 0, 0, .int 8)] 41 (.if_icmp .ne 7) 3 = true := by decide +kernel
theorem b_X0_faultOf_48_51 : bl2 mX0_faultOf 48 [(.iconst 0, 1, 0, 0, .int 0), (.istore_n 2, 1, 2, 0, .null), (.iload_n 2, 1, 2, 0, .null)] 51 (.ifCond .eq 7) 3 = true := by decide +kernel
theorem b_X0_faultOf_58_59 : bl2 mX0_faultOf 58 [(.iload_n 1, 1, 1, 0, .null)] 59 (.ireturn) 1 = true := by decide +kernel
theorem b_X0_faultOf_12_14 : bl2 mX0_faultOf 12 [(.aload_n 0, 1, 0, 0, .null), (.iload_n 2, 1, 2, 0, .null)] 14 (.invokestatic 69) 3 = true := by decide +kernel
theorem b_X0_faultOf_17_20 : bl2 mX0_faultOf 17 [(.istore_n 3, 1, 3, 0, .null), (.iload_n 3, 1, 3, 0, .null), (.iconst (-1), 1, 0, 0, .int (-1))] 20 (.if_icmp .eq 5) 3 = true := by decide +kernel
theorem b_X0_faultOf_25_7 : bl2 mX0_faultOf 25 [(.iinc 2 1, 3, 2, 0, .int 1), (.goto (-21), 3, 7, 0, .null)] 7 (.iload_n 2) 1 = true := by decide +kernel
theorem b_X0_faultOf_23_24 : bl2 mX0_faultOf 23 [(.iload_n 3, 1, 3, 0, .null)] 24 (.ireturn) 1 = true := by decide +kernel
set_option maxRecDepth 20000 in
set_option maxHeartbeats 2000000 in
theorem lp_faultOf (E : EE) (L : Nat) (F : FF) (l : Nat) (hlen : F 6 1 = nI l) (hl : l ≤ 90) : ∀ (k : Nat) (i : Nat), i + k = l → R2 E L mX0_faultOf 4 7 [some (.ref 6), some (.int (nI l)), some (.int (nI i)), none] [] F (fun r' F' => r' = some (.int (cFlt l (F 7) k i)) ∧ F' = F) := by
  intro k
  induction k with
  | zero =>
    intro i hi
    refine R2.B (ls2 := [some (.ref 6), some (.int (nI l)), some (.int (nI i)), none]) (st2 := [.int (nI l), .int (nI i)]) b_X0_faultOf_7_9 rfl (fun hd => ?_)
    refine R2.icmp_ge 31 hd (by decide) (fun c9 => ?_) (fun c9 => absurd (nI_le (by omega) (by omega)) c9)
    refine R2.B (ls2 := [some (.ref 6), some (.int (nI l)), some (.int (nI i)), none]) (st2 := [.int (nI l)]) b_X0_faultOf_31_32 rfl (fun hd => ?_)
    refine R2.if_eq 44 hd (by decide) (fun c32 => ?_) (fun c32 => ?_)
    · have nc32 : l = 0 := (nI_eq (a := l) (b := 0) (by omega) (by omega)).mp c32
      refine R2.B (ls2 := [some (.ref 6), some (.int (nI l)), some (.int 1), none]) (st2 := [.int 1]) b_X0_faultOf_44_51 rfl (fun hd => ?_)
      refine R2.if_eq 58 hd (by decide) (fun c51 => absurd c51 (by decide)) (fun c51 => ?_)
      refine R2.B (ls2 := [some (.ref 6), some (.int (nI l)), some (.int 1), none]) (st2 := [.int (-1)]) b_X0_faultOf_54_59 rfl (fun hd => ?_)
      exact R2.ret3 (r := some (.int (-1))) hd trivial rfl (congrArg (fun z => some (Value.int z)) (by clear hd; unfold cFlt; grind)) rfl
    · have nc32 : ¬ l = 0 := fun h9 => c32 ((nI_eq (a := l) (b := 0) (by omega) (by omega)).mpr h9)
      refine R2.B (ls2 := [some (.ref 6), some (.int (nI l)), some (.int (nI i)), none]) (st2 := [.int 9, .int (nI l)]) b_X0_faultOf_35_38 rfl (fun hd => ?_)
      refine R2.irem hd (by decide) ?_
      refine R2.top (show ((nI l) - (nI l) / 9 * 9 : Int32) = nI (l % 9) from pk_rem (by omega) (by decide) (by decide)) ?_
      refine R2.B (ls2 := [some (.ref 6), some (.int (nI l)), some (.int (nI i)), none]) (st2 := [.int 8, .int (nI (l % 9))]) b_X0_faultOf_39_41 rfl (fun hd => ?_)
      refine R2.icmp_ne 48 hd (by decide) (fun c41 => ?_) (fun c41 => ?_)
      · have nc41 : ¬ (l % 9) = 8 := fun h9 => c41 ((nI_eq (a := (l % 9)) (b := 8) (by omega) (by omega)).mpr h9)
        refine R2.B (ls2 := [some (.ref 6), some (.int (nI l)), some (.int 0), none]) (st2 := [.int 0]) b_X0_faultOf_48_51 rfl (fun hd => ?_)
        refine R2.if_eq 58 hd (by decide) (fun c51 => ?_) (fun c51 => absurd (by decide) c51)
        refine R2.B (ls2 := [some (.ref 6), some (.int (nI l)), some (.int 0), none]) (st2 := [.int (nI l)]) b_X0_faultOf_58_59 rfl (fun hd => ?_)
        exact R2.ret3 (r := some (.int (nI l))) hd trivial rfl (congrArg (fun z => some (Value.int z)) (by clear hd; unfold cFlt; grind)) rfl
      · have nc41 : (l % 9) = 8 := (nI_eq (a := (l % 9)) (b := 8) (by omega) (by omega)).mp c41
        refine R2.B (ls2 := [some (.ref 6), some (.int (nI l)), some (.int 1), none]) (st2 := [.int 1]) b_X0_faultOf_44_51 rfl (fun hd => ?_)
        refine R2.if_eq 58 hd (by decide) (fun c51 => absurd c51 (by decide)) (fun c51 => ?_)
        refine R2.B (ls2 := [some (.ref 6), some (.int (nI l)), some (.int 1), none]) (st2 := [.int (-1)]) b_X0_faultOf_54_59 rfl (fun hd => ?_)
        exact R2.ret3 (r := some (.int (-1))) hd trivial rfl (congrArg (fun z => some (Value.int z)) (by clear hd; unfold cFlt; grind)) rfl
  | succ k ih =>
    intro i hi
    refine R2.B (ls2 := [some (.ref 6), some (.int (nI l)), some (.int (nI i)), none]) (st2 := [.int (nI l), .int (nI i)]) b_X0_faultOf_7_9 rfl (fun hd => ?_)
    refine R2.icmp_ge 31 hd (by decide) (fun c9 => absurd c9 (nI_ge (by omega) (by omega))) (fun c9 => ?_)
    refine R2.B (ls2 := [some (.ref 6), some (.int (nI l)), some (.int (nI i)), none]) (st2 := [.int (nI i), .ref 6]) b_X0_faultOf_12_14 rfl (fun hd => ?_)
    refine R2.callS3 (M2 := mX0_faultAt) (As := [.ref 6, .int (nI i)]) (rest := []) hd lk_0_69 okX0_faultAt (by decide) (ev_faultAt E L F l i hlen hl (by omega)) (by decide) rfl rfl (Nat.le_of_ble_eq_true rfl) ?_
    refine R2.B (ls2 := [some (.ref 6), some (.int (nI l)), some (.int (nI i)), some (.int (fltAt l (F 7) i))]) (st2 := [.int (-1), .int (fltAt l (F 7) i)]) b_X0_faultOf_17_20 rfl (fun hd => ?_)
    refine R2.icmp_eq 25 hd (by decide) (fun c20 => ?_) (fun c20 => ?_)
    · refine R2.B (ls2 := [some (.ref 6), some (.int (nI l)), some (.int ((nI i) + 1)), some (.int (fltAt l (F 7) i))]) (st2 := []) b_X0_faultOf_25_7 rfl (fun hd => ?_)
      rw [show ((nI i) + 1 : Int32) = nI (i + 1) from nI_add i 1]
      rw [show cFlt l (F 7) (k + 1) i = cFlt l (F 7) k (i + 1) from if_pos c20]
      refine R2.forget (ls2 := [some (.ref 6), some (.int (nI l)), some (.int (nI (i + 1))), none]) ⟨rfl, ⟨rfl, ⟨rfl, trivial⟩⟩⟩ ?_
      exact ih (i + 1) (by omega)
    · refine R2.B (ls2 := [some (.ref 6), some (.int (nI l)), some (.int (nI i)), some (.int (fltAt l (F 7) i))]) (st2 := [.int (fltAt l (F 7) i)]) b_X0_faultOf_23_24 rfl (fun hd => ?_)
      exact R2.ret3 (r := some (.int (fltAt l (F 7) i))) hd trivial rfl (congrArg (fun z => some (Value.int z)) (by clear hd; unfold cFlt; grind)) rfl
theorem b_X0_faultOf_0_1 : bl2 mX0_faultOf 0 [(.aload_n 0, 1, 0, 0, .null)] 1 (.invokevirtual 38) 3 = true := by decide +kernel
theorem b_X0_faultOf_4_7 : bl2 mX0_faultOf 4 [(.istore_n 1, 1, 1, 0, .null), (.iconst 0, 1, 0, 0, .int 0), (.istore_n 2, 1, 2, 0, .null)] 7 (.iload_n 2) 1 = true := by decide +kernel
set_option maxRecDepth 20000 in
set_option maxHeartbeats 1000000 in
theorem ev_faultOf (E : EE) (L : Nat) (F : FF) (l : Nat) (hlen : F 6 1 = nI l) (hl : l ≤ 90) : Ev3 E L 4 mX0_faultOf [.ref 6] F (some (.int (cFlt l (F 7) l 0))) F := by
  refine Ev3.of okX0_faultOf.2.1 (Nat.le_of_ble_eq_true rfl) ?_
  show R2 E L mX0_faultOf 4 0 [some (.ref 6), none, none, none] [] F _
  refine R2.B (ls2 := [some (.ref 6), none, none, none]) (st2 := [.ref 6]) b_X0_faultOf_0_1 rfl (fun hd => ?_)
  refine R2.callV3 (M2 := mX7_length) (As := []) (rest := []) hd lk_0_38 okX7_length (by decide) rfl (ev_length6 E L _) (by decide) rfl rfl (Nat.le_of_ble_eq_true rfl) ?_
  refine R2.top (show (F 6 1 : Int32) = nI l from hlen) ?_
  refine R2.B (ls2 := [some (.ref 6), some (.int (nI l)), some (.int 0), none]) (st2 := []) b_X0_faultOf_4_7 rfl (fun hd => ?_)
  rw [show (0 : Int32) = nI 0 from rfl]
  exact lp_faultOf E L F l hlen hl l 0 (by omega)
theorem b_X0_place_0_7 : bl2 mX0_place 0 [(.iload_n 2, 1, 2, 0, .null), (.bipush 9, 2, 0, 0, .int 9), (.imul, 1, 0, 0, .null), (.istore_n 3, 1, 3, 0, .null), (.aload_n 1, 1, 1, 0, .null), (.iload_n 3, 1, 3, 0, .null)] 7 (.invokevirtual 58) 3 = true := by decide +kernel
theorem b_X0_place_10_21 : bl2 mX0_place 10 [(.istore 4, 2, 4, 0, .null), (.aload_n 0, 1, 0, 0, .null), (.getfield 9, 3, 0, 0, .null), (.iload_n 2, 1, 2, 0, .null), (.iload 4, 2, 4, 0, .null), (.bipush 115, 2, 0, 0, .int 115)] 21 (.if_icmp .ne 7) 3 = true := by decide +kernel
theorem b_X0_place_28_32 : bl2 mX0_place 28 [(.iload 4, 2, 4, 0, .null), (.bipush 98, 2, 0, 0, .int 98)] 32 (.if_icmp .ne 7) 3 = true := by decide +kernel
theorem b_X0_place_39_40 : bl2 mX0_place 39 [(.iconst 2, 1, 0, 0, .int 2)] 40 (.iastore) 1 = true := by decide +kernel
theorem b_X0_place_41_50 : bl2 mX0_place 41 [(.aload_n 0, 1, 0, 0, .null), (.getfield 15, 3, 0, 1, .null), (.iload_n 2, 1, 2, 0, .null), (.aload_n 1, 1, 1, 0, .null), (.iload_n 3, 1, 3, 0, .null), (.iconst 1, 1, 0, 0, .int 1), (.iadd, 1, 0, 0, .null)] 50 (.invokevirtual 58) 3 = true := by decide +kernel
theorem b_X0_place_53_53 : bl2 mX0_place 53 [] 53 (.invokestatic 62) 3 = true := by decide +kernel
theorem b_X0_place_56_56 : bl2 mX0_place 56 [] 56 (.iastore) 1 = true := by decide +kernel
theorem b_X0_place_57_66 : bl2 mX0_place 57 [(.aload_n 0, 1, 0, 0, .null), (.getfield 18, 3, 0, 2, .null), (.iload_n 2, 1, 2, 0, .null), (.aload_n 1, 1, 1, 0, .null), (.iload_n 3, 1, 3, 0, .null), (.iconst 2, 1, 0, 0, .int 2), (.iadd, 1, 0, 0, .null)] 66 (.invokestatic 65) 3 = true := by decide +kernel
theorem b_X0_place_69_69 : bl2 mX0_place 69 [] 69 (.iastore) 1 = true := by decide +kernel
theorem b_X0_place_70_82 : bl2 mX0_place 70 [(.aload_n 0, 1, 0, 0, .null), (.getfield 21, 3, 0, 3, .null), (.iload_n 2, 1, 2, 0, .null), (.bipush 32, 2, 0, 0, .int 32), (.aload_n 1, 1, 1, 0, .null), (.iload_n 3, 1, 3, 0, .null), (.bipush 6, 2, 0, 0, .int 6), (.iadd, 1, 0, 0, .null)] 82 (.invokestatic 65) 3 = true := by decide +kernel
theorem b_X0_place_85_90 : bl2 mX0_place 85 [(.imul, 1, 0, 0, .null), (.aload_n 1, 1, 1, 0, .null), (.iload_n 3, 1, 3, 0, .null), (.iconst 4, 1, 0, 0, .int 4), (.iadd, 1, 0, 0, .null)] 90 (.invokestatic 65) 3 = true := by decide +kernel
theorem b_X0_place_93_94 : bl2 mX0_place 93 [(.iadd, 1, 0, 0, .null)] 94 (.iastore) 1 = true := by decide +kernel
theorem b_X0_place_95_105 : bl2 mX0_place 95 [(.aload_n 0, 1, 0, 0, .null), (.getfield 24, 3, 0, 4, .null), (.iload_n 2, 1, 2, 0, .null), (.aload_n 0, 1, 0, 0, .null), (.getfield 21, 3, 0, 3, .null), (.iload_n 2, 1, 2, 0, .null)] 105 (.iaload) 1 = true := by decide +kernel
theorem b_X0_place_106_106 : bl2 mX0_place 106 [] 106 (.iastore) 1 = true := by decide +kernel
theorem b_X0_place_107_107 : bl2 mX0_place 107 [] 107 (.return_) 1 = true := by decide +kernel
theorem b_X0_place_35_40 : bl2 mX0_place 35 [(.iconst 1, 1, 0, 0, .int 1), (.goto 4, 3, 40, 0, .null)] 40 (.iastore) 1 = true := by decide +kernel
theorem b_X0_place_24_40 : bl2 mX0_place 24 [(.iconst 0, 1, 0, 0, .int 0), (.goto 15, 3, 40, 0, .null)] 40 (.iastore) 1 = true := by decide +kernel
set_option maxRecDepth 20000 in
set_option maxHeartbeats 1000000 in
theorem ev_place (E : EE) (L : Nat) (F : FF) (l p : Nat) (hlen : F 6 1 = nI l) (hl : l ≤ 90) (hp : p < 10) : Ev3 E L 3 mX0_place [.ref 10, .ref 6, .int (nI p)] F none (plcF F l p) := by
  refine Ev3.of okX0_place.2.2.1 (Nat.le_of_ble_eq_true rfl) ?_
  show R2 E L mX0_place 3 0 [some (.ref 10), some (.ref 6), some (.int (nI p)), none, none] [] F _
  refine R2.B (ls2 := [some (.ref 10), some (.ref 6), some (.int (nI p)), some (.int ((nI p) * 9)), none]) (st2 := [.int ((nI p) * 9), .ref 6]) b_X0_place_0_7 rfl (fun hd => ?_)
  rw [show ((nI p) * 9 : Int32) = nI (p * 9) from pk_mul p 9]
  refine R2.callV3 (M2 := mX7_at) (As := [.int (nI (p * 9))]) (rest := []) hd lk_0_58 okX7_at (by decide) rfl (ev_at6 E L F l (p * 9) hlen (by omega) (by omega)) (by decide) rfl rfl (Nat.le_of_ble_eq_true rfl) ?_
  refine R2.B (ls2 := [some (.ref 10), some (.ref 6), some (.int (nI p)), some (.int (nI (p * 9))), some (.int (tat l (F 7) (p * 9)))]) (st2 := [.int 115, .int (tat l (F 7) (p * 9)), .int (nI p), .ref 11]) b_X0_place_10_21 rfl (fun hd => ?_)
  refine R2.icmp_ne 28 hd (by decide) (fun c21 => ?_) (fun c21 => ?_)
  · refine R2.B (ls2 := [some (.ref 10), some (.ref 6), some (.int (nI p)), some (.int (nI (p * 9))), some (.int (tat l (F 7) (p * 9)))]) (st2 := [.int 98, .int (tat l (F 7) (p * 9)), .int (nI p), .ref 11]) b_X0_place_28_32 rfl (fun hd => ?_)
    refine R2.icmp_ne 39 hd (by decide) (fun c32 => ?_) (fun c32 => ?_)
    · refine R2.B (ls2 := [some (.ref 10), some (.ref 6), some (.int (nI p)), some (.int (nI (p * 9))), some (.int (tat l (F 7) (p * 9)))]) (st2 := [.int 2, .int (nI p), .ref 11]) b_X0_place_39_40 rfl (fun hd => ?_)
      refine R2.iast p rfl hd (by decide) rfl (fun _ => rfl) (by decide) (by omega) ?_
      refine R2.B (ls2 := [some (.ref 10), some (.ref 6), some (.int (nI p)), some (.int (nI (p * 9))), some (.int (tat l (F 7) (p * 9)))]) (st2 := [.int ((nI (p * 9)) + 1), .ref 6, .int (nI p), .ref 12]) b_X0_place_41_50 rfl (fun hd => ?_)
      rw [show ((nI (p * 9)) + 1 : Int32) = nI ((p * 9) + 1) from nI_add (p * 9) 1]
      refine R2.callV3 (M2 := mX7_at) (As := [.int (nI ((p * 9) + 1))]) (rest := [.int (nI p), .ref 12]) hd lk_0_58 okX7_at (by decide) rfl (ev_at6 E L (up2 F 11 p 2) l ((p * 9) + 1) hlen (by omega) (by omega)) (by decide) rfl rfl (Nat.le_of_ble_eq_true rfl) ?_
      refine R2.B (ls2 := [some (.ref 10), some (.ref 6), some (.int (nI p)), some (.int (nI (p * 9))), some (.int (tat l (F 7) (p * 9)))]) (st2 := [.int (tat l (F 7) ((p * 9) + 1)), .int (nI p), .ref 12]) b_X0_place_53_53 rfl (fun hd => ?_)
      refine R2.callS3 (M2 := mX10_figure) (As := [.int (tat l (F 7) ((p * 9) + 1))]) (rest := [.int (nI p), .ref 12]) hd lk_0_62 okX10_figure (by decide) (ev_figure E L (up2 F 11 p 2) (tat l (F 7) ((p * 9) + 1))) (by decide) rfl rfl (Nat.le_of_ble_eq_true rfl) ?_
      refine R2.B (ls2 := [some (.ref 10), some (.ref 6), some (.int (nI p)), some (.int (nI (p * 9))), some (.int (tat l (F 7) (p * 9)))]) (st2 := [.int (fig (tat l (F 7) ((p * 9) + 1))), .int (nI p), .ref 12]) b_X0_place_56_56 rfl (fun hd => ?_)
      refine R2.iast p rfl hd (by decide) rfl (fun _ => rfl) (by decide) (by omega) ?_
      refine R2.B (ls2 := [some (.ref 10), some (.ref 6), some (.int (nI p)), some (.int (nI (p * 9))), some (.int (tat l (F 7) (p * 9)))]) (st2 := [.int ((nI (p * 9)) + 2), .ref 6, .int (nI p), .ref 13]) b_X0_place_57_66 rfl (fun hd => ?_)
      rw [show ((nI (p * 9)) + 2 : Int32) = nI ((p * 9) + 2) from nI_add (p * 9) 2]
      refine R2.callS3 (M2 := mX0_number) (As := [.ref 6, .int (nI ((p * 9) + 2))]) (rest := [.int (nI p), .ref 13]) hd lk_0_65 okX0_number (by decide) (ev_number E L (up2 (up2 F 11 p 2) 12 p (fig (tat l (F 7) ((p * 9) + 1)))) l ((p * 9) + 2) hlen (by omega) (by omega)) (by decide) rfl rfl (Nat.le_of_ble_eq_true rfl) ?_
      refine R2.B (ls2 := [some (.ref 10), some (.ref 6), some (.int (nI p)), some (.int (nI (p * 9))), some (.int (tat l (F 7) (p * 9)))]) (st2 := [.int (nmb l (F 7) ((p * 9) + 2)), .int (nI p), .ref 13]) b_X0_place_69_69 rfl (fun hd => ?_)
      refine R2.iast p rfl hd (by decide) rfl (fun _ => rfl) (by decide) (by omega) ?_
      refine R2.B (ls2 := [some (.ref 10), some (.ref 6), some (.int (nI p)), some (.int (nI (p * 9))), some (.int (tat l (F 7) (p * 9)))]) (st2 := [.int ((nI (p * 9)) + 6), .ref 6, .int 32, .int (nI p), .ref 14]) b_X0_place_70_82 rfl (fun hd => ?_)
      rw [show ((nI (p * 9)) + 6 : Int32) = nI ((p * 9) + 6) from nI_add (p * 9) 6]
      refine R2.callS3 (M2 := mX0_number) (As := [.ref 6, .int (nI ((p * 9) + 6))]) (rest := [.int 32, .int (nI p), .ref 14]) hd lk_0_65 okX0_number (by decide) (ev_number E L (up2 (up2 (up2 F 11 p 2) 12 p (fig (tat l (F 7) ((p * 9) + 1)))) 13 p (nmb l (F 7) ((p * 9) + 2))) l ((p * 9) + 6) hlen (by omega) (by omega)) (by decide) rfl rfl (Nat.le_of_ble_eq_true rfl) ?_
      refine R2.B (ls2 := [some (.ref 10), some (.ref 6), some (.int (nI p)), some (.int (nI (p * 9))), some (.int (tat l (F 7) (p * 9)))]) (st2 := [.int ((nI (p * 9)) + 4), .ref 6, .int (32 * (nmb l (F 7) ((p * 9) + 6))), .int (nI p), .ref 14]) b_X0_place_85_90 rfl (fun hd => ?_)
      rw [show ((nI (p * 9)) + 4 : Int32) = nI ((p * 9) + 4) from nI_add (p * 9) 4]
      refine R2.callS3 (M2 := mX0_number) (As := [.ref 6, .int (nI ((p * 9) + 4))]) (rest := [.int (32 * (nmb l (F 7) ((p * 9) + 6))), .int (nI p), .ref 14]) hd lk_0_65 okX0_number (by decide) (ev_number E L (up2 (up2 (up2 F 11 p 2) 12 p (fig (tat l (F 7) ((p * 9) + 1)))) 13 p (nmb l (F 7) ((p * 9) + 2))) l ((p * 9) + 4) hlen (by omega) (by omega)) (by decide) rfl rfl (Nat.le_of_ble_eq_true rfl) ?_
      refine R2.B (ls2 := [some (.ref 10), some (.ref 6), some (.int (nI p)), some (.int (nI (p * 9))), some (.int (tat l (F 7) (p * 9)))]) (st2 := [.int ((32 * (nmb l (F 7) ((p * 9) + 6))) + (nmb l (F 7) ((p * 9) + 4))), .int (nI p), .ref 14]) b_X0_place_93_94 rfl (fun hd => ?_)
      refine R2.iast p rfl hd (by decide) rfl (fun _ => rfl) (by decide) (by omega) ?_
      refine R2.B (ls2 := [some (.ref 10), some (.ref 6), some (.int (nI p)), some (.int (nI (p * 9))), some (.int (tat l (F 7) (p * 9)))]) (st2 := [.int (nI p), .ref 14, .int (nI p), .ref 15]) b_X0_place_95_105 rfl (fun hd => ?_)
      refine R2.iald p rfl hd rfl (fun _ => rfl) (by decide) (by omega) ?_
      refine R2.top (show ((up2 (up2 (up2 (up2 F 11 p 2) 12 p (fig (tat l (F 7) ((p * 9) + 1)))) 13 p (nmb l (F 7) ((p * 9) + 2))) 14 p ((32 * (nmb l (F 7) ((p * 9) + 6))) + (nmb l (F 7) ((p * 9) + 4)))) 14 p : Int32) = (32 * (nmb l (F 7) ((p * 9) + 6))) + (nmb l (F 7) ((p * 9) + 4)) from up2_same _ _ _ _) ?_
      refine R2.B (ls2 := [some (.ref 10), some (.ref 6), some (.int (nI p)), some (.int (nI (p * 9))), some (.int (tat l (F 7) (p * 9)))]) (st2 := [.int ((32 * (nmb l (F 7) ((p * 9) + 6))) + (nmb l (F 7) ((p * 9) + 4))), .int (nI p), .ref 15]) b_X0_place_106_106 rfl (fun hd => ?_)
      refine R2.iast p rfl hd (by decide) rfl (fun _ => rfl) (by decide) (by omega) ?_
      refine R2.B (ls2 := [some (.ref 10), some (.ref 6), some (.int (nI p)), some (.int (nI (p * 9))), some (.int (tat l (F 7) (p * 9)))]) (st2 := []) b_X0_place_107_107 rfl (fun hd => ?_)
      refine R2.ret3 (r := none) hd trivial rfl rfl ?_
      unfold plcF cKind
      first | (rw [if_pos c21]; done) | (rw [if_neg c21, if_pos c32]; done) | (rw [if_neg c21, if_neg c32]; done)
    · refine R2.B (ls2 := [some (.ref 10), some (.ref 6), some (.int (nI p)), some (.int (nI (p * 9))), some (.int (tat l (F 7) (p * 9)))]) (st2 := [.int 1, .int (nI p), .ref 11]) b_X0_place_35_40 rfl (fun hd => ?_)
      refine R2.iast p rfl hd (by decide) rfl (fun _ => rfl) (by decide) (by omega) ?_
      refine R2.B (ls2 := [some (.ref 10), some (.ref 6), some (.int (nI p)), some (.int (nI (p * 9))), some (.int (tat l (F 7) (p * 9)))]) (st2 := [.int ((nI (p * 9)) + 1), .ref 6, .int (nI p), .ref 12]) b_X0_place_41_50 rfl (fun hd => ?_)
      rw [show ((nI (p * 9)) + 1 : Int32) = nI ((p * 9) + 1) from nI_add (p * 9) 1]
      refine R2.callV3 (M2 := mX7_at) (As := [.int (nI ((p * 9) + 1))]) (rest := [.int (nI p), .ref 12]) hd lk_0_58 okX7_at (by decide) rfl (ev_at6 E L (up2 F 11 p 1) l ((p * 9) + 1) hlen (by omega) (by omega)) (by decide) rfl rfl (Nat.le_of_ble_eq_true rfl) ?_
      refine R2.B (ls2 := [some (.ref 10), some (.ref 6), some (.int (nI p)), some (.int (nI (p * 9))), some (.int (tat l (F 7) (p * 9)))]) (st2 := [.int (tat l (F 7) ((p * 9) + 1)), .int (nI p), .ref 12]) b_X0_place_53_53 rfl (fun hd => ?_)
      refine R2.callS3 (M2 := mX10_figure) (As := [.int (tat l (F 7) ((p * 9) + 1))]) (rest := [.int (nI p), .ref 12]) hd lk_0_62 okX10_figure (by decide) (ev_figure E L (up2 F 11 p 1) (tat l (F 7) ((p * 9) + 1))) (by decide) rfl rfl (Nat.le_of_ble_eq_true rfl) ?_
      refine R2.B (ls2 := [some (.ref 10), some (.ref 6), some (.int (nI p)), some (.int (nI (p * 9))), some (.int (tat l (F 7) (p * 9)))]) (st2 := [.int (fig (tat l (F 7) ((p * 9) + 1))), .int (nI p), .ref 12]) b_X0_place_56_56 rfl (fun hd => ?_)
      refine R2.iast p rfl hd (by decide) rfl (fun _ => rfl) (by decide) (by omega) ?_
      refine R2.B (ls2 := [some (.ref 10), some (.ref 6), some (.int (nI p)), some (.int (nI (p * 9))), some (.int (tat l (F 7) (p * 9)))]) (st2 := [.int ((nI (p * 9)) + 2), .ref 6, .int (nI p), .ref 13]) b_X0_place_57_66 rfl (fun hd => ?_)
      rw [show ((nI (p * 9)) + 2 : Int32) = nI ((p * 9) + 2) from nI_add (p * 9) 2]
      refine R2.callS3 (M2 := mX0_number) (As := [.ref 6, .int (nI ((p * 9) + 2))]) (rest := [.int (nI p), .ref 13]) hd lk_0_65 okX0_number (by decide) (ev_number E L (up2 (up2 F 11 p 1) 12 p (fig (tat l (F 7) ((p * 9) + 1)))) l ((p * 9) + 2) hlen (by omega) (by omega)) (by decide) rfl rfl (Nat.le_of_ble_eq_true rfl) ?_
      refine R2.B (ls2 := [some (.ref 10), some (.ref 6), some (.int (nI p)), some (.int (nI (p * 9))), some (.int (tat l (F 7) (p * 9)))]) (st2 := [.int (nmb l (F 7) ((p * 9) + 2)), .int (nI p), .ref 13]) b_X0_place_69_69 rfl (fun hd => ?_)
      refine R2.iast p rfl hd (by decide) rfl (fun _ => rfl) (by decide) (by omega) ?_
      refine R2.B (ls2 := [some (.ref 10), some (.ref 6), some (.int (nI p)), some (.int (nI (p * 9))), some (.int (tat l (F 7) (p * 9)))]) (st2 := [.int ((nI (p * 9)) + 6), .ref 6, .int 32, .int (nI p), .ref 14]) b_X0_place_70_82 rfl (fun hd => ?_)
      rw [show ((nI (p * 9)) + 6 : Int32) = nI ((p * 9) + 6) from nI_add (p * 9) 6]
      refine R2.callS3 (M2 := mX0_number) (As := [.ref 6, .int (nI ((p * 9) + 6))]) (rest := [.int 32, .int (nI p), .ref 14]) hd lk_0_65 okX0_number (by decide) (ev_number E L (up2 (up2 (up2 F 11 p 1) 12 p (fig (tat l (F 7) ((p * 9) + 1)))) 13 p (nmb l (F 7) ((p * 9) + 2))) l ((p * 9) + 6) hlen (by omega) (by omega)) (by decide) rfl rfl (Nat.le_of_ble_eq_true rfl) ?_
      refine R2.B (ls2 := [some (.ref 10), some (.ref 6), some (.int (nI p)), some (.int (nI (p * 9))), some (.int (tat l (F 7) (p * 9)))]) (st2 := [.int ((nI (p * 9)) + 4), .ref 6, .int (32 * (nmb l (F 7) ((p * 9) + 6))), .int (nI p), .ref 14]) b_X0_place_85_90 rfl (fun hd => ?_)
      rw [show ((nI (p * 9)) + 4 : Int32) = nI ((p * 9) + 4) from nI_add (p * 9) 4]
      refine R2.callS3 (M2 := mX0_number) (As := [.ref 6, .int (nI ((p * 9) + 4))]) (rest := [.int (32 * (nmb l (F 7) ((p * 9) + 6))), .int (nI p), .ref 14]) hd lk_0_65 okX0_number (by decide) (ev_number E L (up2 (up2 (up2 F 11 p 1) 12 p (fig (tat l (F 7) ((p * 9) + 1)))) 13 p (nmb l (F 7) ((p * 9) + 2))) l ((p * 9) + 4) hlen (by omega) (by omega)) (by decide) rfl rfl (Nat.le_of_ble_eq_true rfl) ?_
      refine R2.B (ls2 := [some (.ref 10), some (.ref 6), some (.int (nI p)), some (.int (nI (p * 9))), some (.int (tat l (F 7) (p * 9)))]) (st2 := [.int ((32 * (nmb l (F 7) ((p * 9) + 6))) + (nmb l (F 7) ((p * 9) + 4))), .int (nI p), .ref 14]) b_X0_place_93_94 rfl (fun hd => ?_)
      refine R2.iast p rfl hd (by decide) rfl (fun _ => rfl) (by decide) (by omega) ?_
      refine R2.B (ls2 := [some (.ref 10), some (.ref 6), some (.int (nI p)), some (.int (nI (p * 9))), some (.int (tat l (F 7) (p * 9)))]) (st2 := [.int (nI p), .ref 14, .int (nI p), .ref 15]) b_X0_place_95_105 rfl (fun hd => ?_)
      refine R2.iald p rfl hd rfl (fun _ => rfl) (by decide) (by omega) ?_
      refine R2.top (show ((up2 (up2 (up2 (up2 F 11 p 1) 12 p (fig (tat l (F 7) ((p * 9) + 1)))) 13 p (nmb l (F 7) ((p * 9) + 2))) 14 p ((32 * (nmb l (F 7) ((p * 9) + 6))) + (nmb l (F 7) ((p * 9) + 4)))) 14 p : Int32) = (32 * (nmb l (F 7) ((p * 9) + 6))) + (nmb l (F 7) ((p * 9) + 4)) from up2_same _ _ _ _) ?_
      refine R2.B (ls2 := [some (.ref 10), some (.ref 6), some (.int (nI p)), some (.int (nI (p * 9))), some (.int (tat l (F 7) (p * 9)))]) (st2 := [.int ((32 * (nmb l (F 7) ((p * 9) + 6))) + (nmb l (F 7) ((p * 9) + 4))), .int (nI p), .ref 15]) b_X0_place_106_106 rfl (fun hd => ?_)
      refine R2.iast p rfl hd (by decide) rfl (fun _ => rfl) (by decide) (by omega) ?_
      refine R2.B (ls2 := [some (.ref 10), some (.ref 6), some (.int (nI p)), some (.int (nI (p * 9))), some (.int (tat l (F 7) (p * 9)))]) (st2 := []) b_X0_place_107_107 rfl (fun hd => ?_)
      refine R2.ret3 (r := none) hd trivial rfl rfl ?_
      unfold plcF cKind
      first | (rw [if_pos c21]; done) | (rw [if_neg c21, if_pos c32]; done) | (rw [if_neg c21, if_neg c32]; done)
  · refine R2.B (ls2 := [some (.ref 10), some (.ref 6), some (.int (nI p)), some (.int (nI (p * 9))), some (.int (tat l (F 7) (p * 9)))]) (st2 := [.int 0, .int (nI p), .ref 11]) b_X0_place_24_40 rfl (fun hd => ?_)
    refine R2.iast p rfl hd (by decide) rfl (fun _ => rfl) (by decide) (by omega) ?_
    refine R2.B (ls2 := [some (.ref 10), some (.ref 6), some (.int (nI p)), some (.int (nI (p * 9))), some (.int (tat l (F 7) (p * 9)))]) (st2 := [.int ((nI (p * 9)) + 1), .ref 6, .int (nI p), .ref 12]) b_X0_place_41_50 rfl (fun hd => ?_)
    rw [show ((nI (p * 9)) + 1 : Int32) = nI ((p * 9) + 1) from nI_add (p * 9) 1]
    refine R2.callV3 (M2 := mX7_at) (As := [.int (nI ((p * 9) + 1))]) (rest := [.int (nI p), .ref 12]) hd lk_0_58 okX7_at (by decide) rfl (ev_at6 E L (up2 F 11 p 0) l ((p * 9) + 1) hlen (by omega) (by omega)) (by decide) rfl rfl (Nat.le_of_ble_eq_true rfl) ?_
    refine R2.B (ls2 := [some (.ref 10), some (.ref 6), some (.int (nI p)), some (.int (nI (p * 9))), some (.int (tat l (F 7) (p * 9)))]) (st2 := [.int (tat l (F 7) ((p * 9) + 1)), .int (nI p), .ref 12]) b_X0_place_53_53 rfl (fun hd => ?_)
    refine R2.callS3 (M2 := mX10_figure) (As := [.int (tat l (F 7) ((p * 9) + 1))]) (rest := [.int (nI p), .ref 12]) hd lk_0_62 okX10_figure (by decide) (ev_figure E L (up2 F 11 p 0) (tat l (F 7) ((p * 9) + 1))) (by decide) rfl rfl (Nat.le_of_ble_eq_true rfl) ?_
    refine R2.B (ls2 := [some (.ref 10), some (.ref 6), some (.int (nI p)), some (.int (nI (p * 9))), some (.int (tat l (F 7) (p * 9)))]) (st2 := [.int (fig (tat l (F 7) ((p * 9) + 1))), .int (nI p), .ref 12]) b_X0_place_56_56 rfl (fun hd => ?_)
    refine R2.iast p rfl hd (by decide) rfl (fun _ => rfl) (by decide) (by omega) ?_
    refine R2.B (ls2 := [some (.ref 10), some (.ref 6), some (.int (nI p)), some (.int (nI (p * 9))), some (.int (tat l (F 7) (p * 9)))]) (st2 := [.int ((nI (p * 9)) + 2), .ref 6, .int (nI p), .ref 13]) b_X0_place_57_66 rfl (fun hd => ?_)
    rw [show ((nI (p * 9)) + 2 : Int32) = nI ((p * 9) + 2) from nI_add (p * 9) 2]
    refine R2.callS3 (M2 := mX0_number) (As := [.ref 6, .int (nI ((p * 9) + 2))]) (rest := [.int (nI p), .ref 13]) hd lk_0_65 okX0_number (by decide) (ev_number E L (up2 (up2 F 11 p 0) 12 p (fig (tat l (F 7) ((p * 9) + 1)))) l ((p * 9) + 2) hlen (by omega) (by omega)) (by decide) rfl rfl (Nat.le_of_ble_eq_true rfl) ?_
    refine R2.B (ls2 := [some (.ref 10), some (.ref 6), some (.int (nI p)), some (.int (nI (p * 9))), some (.int (tat l (F 7) (p * 9)))]) (st2 := [.int (nmb l (F 7) ((p * 9) + 2)), .int (nI p), .ref 13]) b_X0_place_69_69 rfl (fun hd => ?_)
    refine R2.iast p rfl hd (by decide) rfl (fun _ => rfl) (by decide) (by omega) ?_
    refine R2.B (ls2 := [some (.ref 10), some (.ref 6), some (.int (nI p)), some (.int (nI (p * 9))), some (.int (tat l (F 7) (p * 9)))]) (st2 := [.int ((nI (p * 9)) + 6), .ref 6, .int 32, .int (nI p), .ref 14]) b_X0_place_70_82 rfl (fun hd => ?_)
    rw [show ((nI (p * 9)) + 6 : Int32) = nI ((p * 9) + 6) from nI_add (p * 9) 6]
    refine R2.callS3 (M2 := mX0_number) (As := [.ref 6, .int (nI ((p * 9) + 6))]) (rest := [.int 32, .int (nI p), .ref 14]) hd lk_0_65 okX0_number (by decide) (ev_number E L (up2 (up2 (up2 F 11 p 0) 12 p (fig (tat l (F 7) ((p * 9) + 1)))) 13 p (nmb l (F 7) ((p * 9) + 2))) l ((p * 9) + 6) hlen (by omega) (by omega)) (by decide) rfl rfl (Nat.le_of_ble_eq_true rfl) ?_
    refine R2.B (ls2 := [some (.ref 10), some (.ref 6), some (.int (nI p)), some (.int (nI (p * 9))), some (.int (tat l (F 7) (p * 9)))]) (st2 := [.int ((nI (p * 9)) + 4), .ref 6, .int (32 * (nmb l (F 7) ((p * 9) + 6))), .int (nI p), .ref 14]) b_X0_place_85_90 rfl (fun hd => ?_)
    rw [show ((nI (p * 9)) + 4 : Int32) = nI ((p * 9) + 4) from nI_add (p * 9) 4]
    refine R2.callS3 (M2 := mX0_number) (As := [.ref 6, .int (nI ((p * 9) + 4))]) (rest := [.int (32 * (nmb l (F 7) ((p * 9) + 6))), .int (nI p), .ref 14]) hd lk_0_65 okX0_number (by decide) (ev_number E L (up2 (up2 (up2 F 11 p 0) 12 p (fig (tat l (F 7) ((p * 9) + 1)))) 13 p (nmb l (F 7) ((p * 9) + 2))) l ((p * 9) + 4) hlen (by omega) (by omega)) (by decide) rfl rfl (Nat.le_of_ble_eq_true rfl) ?_
    refine R2.B (ls2 := [some (.ref 10), some (.ref 6), some (.int (nI p)), some (.int (nI (p * 9))), some (.int (tat l (F 7) (p * 9)))]) (st2 := [.int ((32 * (nmb l (F 7) ((p * 9) + 6))) + (nmb l (F 7) ((p * 9) + 4))), .int (nI p), .ref 14]) b_X0_place_93_94 rfl (fun hd => ?_)
    refine R2.iast p rfl hd (by decide) rfl (fun _ => rfl) (by decide) (by omega) ?_
    refine R2.B (ls2 := [some (.ref 10), some (.ref 6), some (.int (nI p)), some (.int (nI (p * 9))), some (.int (tat l (F 7) (p * 9)))]) (st2 := [.int (nI p), .ref 14, .int (nI p), .ref 15]) b_X0_place_95_105 rfl (fun hd => ?_)
    refine R2.iald p rfl hd rfl (fun _ => rfl) (by decide) (by omega) ?_
    refine R2.top (show ((up2 (up2 (up2 (up2 F 11 p 0) 12 p (fig (tat l (F 7) ((p * 9) + 1)))) 13 p (nmb l (F 7) ((p * 9) + 2))) 14 p ((32 * (nmb l (F 7) ((p * 9) + 6))) + (nmb l (F 7) ((p * 9) + 4)))) 14 p : Int32) = (32 * (nmb l (F 7) ((p * 9) + 6))) + (nmb l (F 7) ((p * 9) + 4)) from up2_same _ _ _ _) ?_
    refine R2.B (ls2 := [some (.ref 10), some (.ref 6), some (.int (nI p)), some (.int (nI (p * 9))), some (.int (tat l (F 7) (p * 9)))]) (st2 := [.int ((32 * (nmb l (F 7) ((p * 9) + 6))) + (nmb l (F 7) ((p * 9) + 4))), .int (nI p), .ref 15]) b_X0_place_106_106 rfl (fun hd => ?_)
    refine R2.iast p rfl hd (by decide) rfl (fun _ => rfl) (by decide) (by omega) ?_
    refine R2.B (ls2 := [some (.ref 10), some (.ref 6), some (.int (nI p)), some (.int (nI (p * 9))), some (.int (tat l (F 7) (p * 9)))]) (st2 := []) b_X0_place_107_107 rfl (fun hd => ?_)
    refine R2.ret3 (r := none) hd trivial rfl rfl ?_
    unfold plcF cKind
    first | (rw [if_pos c21]; done) | (rw [if_neg c21, if_pos c32]; done) | (rw [if_neg c21, if_neg c32]; done)
end
section
/-! Crowd's rest, Market. Printed by wip/whole/gen/spec3.py. -/
theorem min10 {a : Nat} (h : a < 1000) : (if (10 : Int32) < nI a then (10 : Int32) else nI a) = nI (if a < 10 then a else 10) := by
  have e10 : (10 : Int32) = nI 10 := rfl
  rw [e10]
  by_cases ha : a < 10
  · rw [if_pos ha, if_neg (fun z => Nat.lt_asymm ha ((nI_ltI (a := 10) (by decide) (by omega)).mp z))]
  · rw [if_neg ha]
    by_cases hb : a = 10
    · subst hb; rw [if_neg (fun z => Nat.lt_irrefl 10 ((nI_ltI (a := 10) (b := 10) (by decide) (by decide)).mp z))]
    · rw [if_pos ((nI_ltI (a := 10) (b := a) (by decide) (by omega)).mpr (by omega))]
def mayS (X : Nat → Int32) (p : Nat) (t near : Int32) : Nat → Nat → Bool
  | 0, _ => true
  | k + 1, i => if i ≠ p ∧ awy (X i) t < near then false else mayS X p t near k (i + 1)
def lawS (X : Nat → Int32) (p d : Nat) (near : Int32) (n : Nat) : Int32 := if nbr (X p) d ≠ -1 ∧ mayS X p (nbr (X p) d) near n 0 = true then nbr (X p) d else -1
abbrev nrC (X : Nat → Int32) (a b : Nat) (w clr : Int32) (q : Nat) : Prop := q ≠ a ∧ q ≠ b ∧ nI q ≠ w ∧ (awy (X q) (X a) < clr ∨ awy (X q) (X b) < clr)
def fnr (X : Nat → Int32) (a b : Nat) (w clr : Int32) : Nat → Nat → Int32
  | 0, _ => -1
  | k + 1, i => if nrC X a b w clr i then nI i else fnr X a b w clr k (i + 1)
def vdB (K T P X : Nat → Int32) (clr due w : Int32) (n a b : Nat) : Int32 :=
  if awy (X a) (X b) ≠ due * due then 1 else if fnr X a b w clr n 0 ≠ -1 then 2 else if trd K T P a b then 0 else 3
def cvd (F : FF) (X : Nat → Int32) (n : Nat) (due w : Int32) (a b : Nat) : Int32 := vdB (F 11) (F 12) (F 13) X (F 17 1 * F 17 1) due w n a b
def sumI (g : Nat → Int32) : Nat → Nat → Int32 → Int32
  | 0, _, acc => acc
  | k + 1, b, acc => sumI g k (b + 1) (acc + g b)
def sumO (g : Nat → Nat → Int32) (n : Nat) : Nat → Nat → Int32 → Int32
  | 0, _, acc => acc
  | k + 1, a, acc => sumO g n k (a + 1) (sumI (g a) (n - (a + 1)) (a + 1) acc)
def gBP (F : FF) (X : Nat → Int32) (n : Nat) (due : Int32) (a b : Nat) : Int32 := if cvd F X n due (-1) a b = 0 then 1 else 0
def cBP (F : FF) (n : Nat) (due : Int32) : Int32 := sumO (gBP F (F 15) n due) n n 0 0
def bdL (g : Nat → Int32) : Nat → Nat → Nat → Int32 → Nat
  | 0, _, best, _ => best
  | k + 1, j, best, most => if most < g j then bdL g k (j + 1) j (g j) else bdL g k (j + 1) best most
def cBD (F : FF) (n f t : Nat) : Nat := bdL (fun j => sumO (gBP F (F 15) n (nI j)) n n 0 0) (t - f) (f + 1) f (sumO (gBP F (F 15) n (nI f)) n n 0 0)
abbrev hndC (F : FF) (n p a b : Nat) : Prop := cvd F (F 15) n (F 17 0) (nI p) a b = 0 ∧ ¬ cvd F (F 15) n (F 17 0) (-1) a b = 0
def gHN (F : FF) (n p : Nat) (wo : Int32) (a b : Nat) : Int32 := if a ≠ p ∧ b ≠ p ∧ hndC F n p a b then (if wo = 0 then 1 else gan (F 11) (F 13) a b) else 0
def cHN (F : FF) (n p : Nat) (wo : Int32) : Int32 := sumO (gHN F n p wo) n n 0 0
theorem b_X0_tell_40_45 : bl2 mX0_tell 40 [(.iload_n 2, 1, 2, 0, .null), (.aload_n 0, 1, 0, 0, .null), (.getfield 27, 3, 0, 5, .null)] 45 (.if_icmp .ge 15) 3 = true := by decide +kernel
theorem b_X0_tell_60_60 : bl2 mX0_tell 60 [] 60 (.return_) 1 = true := by decide +kernel
theorem b_X0_tell_48_51 : bl2 mX0_tell 48 [(.aload_n 0, 1, 0, 0, .null), (.aload_n 1, 1, 1, 0, .null), (.iload_n 2, 1, 2, 0, .null)] 51 (.invokevirtual 50) 3 = true := by decide +kernel
theorem b_X0_tell_54_40 : bl2 mX0_tell 54 [(.iinc 2 1, 3, 2, 0, .int 1), (.goto (-17), 3, 40, 0, .null)] 40 (.iload_n 2) 1 = true := by decide +kernel
set_option maxRecDepth 20000 in
set_option maxHeartbeats 2000000 in
theorem lp_tell (E : EE) (L : Nat) (l n : Nat) (hl : l ≤ 90) (hn : n ≤ 10) : ∀ (k : Nat) (p : Nat) (F : FF), p + k = n → F 10 5 = nI n → F 6 1 = nI l → R2 E L mX0_tell 6 40 [some (.ref 10), some (.ref 6), some (.int (nI p))] [] F (fun r' F' => r' = none ∧ F' = plcL l k p F) := by
  intro k
  induction k with
  | zero =>
    intro p F hi h5 h6
    refine R2.B (ls2 := [some (.ref 10), some (.ref 6), some (.int (nI p))]) (st2 := [.int (F 10 5), .int (nI p)]) b_X0_tell_40_45 rfl (fun hd => ?_)
    rw [show (F 10 5 : Int32) = nI n from h5]
    refine R2.icmp_ge 60 hd (by decide) (fun c45 => ?_) (fun c45 => absurd (nI_le (by omega) (by omega)) c45)
    refine R2.B (ls2 := [some (.ref 10), some (.ref 6), some (.int (nI p))]) (st2 := []) b_X0_tell_60_60 rfl (fun hd => ?_)
    exact R2.ret3 (r := none) hd trivial rfl rfl rfl
  | succ k ih =>
    intro p F hi h5 h6
    refine R2.B (ls2 := [some (.ref 10), some (.ref 6), some (.int (nI p))]) (st2 := [.int (F 10 5), .int (nI p)]) b_X0_tell_40_45 rfl (fun hd => ?_)
    rw [show (F 10 5 : Int32) = nI n from h5]
    refine R2.icmp_ge 60 hd (by decide) (fun c45 => absurd c45 (nI_ge (by omega) (by omega))) (fun c45 => ?_)
    refine R2.B (ls2 := [some (.ref 10), some (.ref 6), some (.int (nI p))]) (st2 := [.int (nI p), .ref 6, .ref 10]) b_X0_tell_48_51 rfl (fun hd => ?_)
    refine R2.callV3 (M2 := mX0_place) (As := [.ref 6, .int (nI p)]) (rest := []) hd lk_0_50 okX0_place (by decide) rfl (ev_place E L F l p h6 hl (by omega)) (by decide) rfl rfl (Nat.le_of_ble_eq_true rfl) ?_
    refine R2.B (ls2 := [some (.ref 10), some (.ref 6), some (.int ((nI p) + 1))]) (st2 := []) b_X0_tell_54_40 rfl (fun hd => ?_)
    rw [show ((nI p) + 1 : Int32) = nI (p + 1) from nI_add p 1]
    exact ih (p + 1) (plcF F l p) (by omega) h5 h6
theorem b_X0_tell_0_2 : bl2 mX0_tell 0 [(.aload_n 0, 1, 0, 0, .null), (.aload_n 1, 1, 1, 0, .null)] 2 (.invokestatic 34) 3 = true := by decide +kernel
theorem b_X0_tell_5_5 : bl2 mX0_tell 5 [] 5 (.putfield 31) 3 = true := by decide +kernel
theorem b_X0_tell_8_14 : bl2 mX0_tell 8 [(.aload_n 0, 1, 0, 0, .null), (.aload_n 0, 1, 0, 0, .null), (.getfield 31, 3, 0, 6, .null), (.iconst (-1), 1, 0, 0, .int (-1))] 14 (.if_icmp .ne 20) 3 = true := by decide +kernel
theorem b_X0_tell_34_35 : bl2 mX0_tell 34 [(.iconst 0, 1, 0, 0, .int 0)] 35 (.putfield 27) 3 = true := by decide +kernel
theorem b_X0_tell_38_40 : bl2 mX0_tell 38 [(.iconst 0, 1, 0, 0, .int 0), (.istore_n 2, 1, 2, 0, .null)] 40 (.iload_n 2) 1 = true := by decide +kernel
theorem b_X0_tell_17_18 : bl2 mX0_tell 17 [(.aload_n 1, 1, 1, 0, .null)] 18 (.invokevirtual 38) 3 = true := by decide +kernel
theorem b_X0_tell_21_25 : bl2 mX0_tell 21 [(.iconst 1, 1, 0, 0, .int 1), (.iadd, 1, 0, 0, .null), (.bipush 9, 2, 0, 0, .int 9)] 25 (.idiv) 1 = true := by decide +kernel
theorem b_X0_tell_26_28 : bl2 mX0_tell 26 [(.bipush 10, 2, 0, 0, .int 10)] 28 (.invokestatic 44) 3 = true := by decide +kernel
theorem b_X0_tell_31_35 : bl2 mX0_tell 31 [(.goto 4, 3, 35, 0, .null)] 35 (.putfield 27) 3 = true := by decide +kernel
set_option maxRecDepth 20000 in
set_option maxHeartbeats 1000000 in
theorem ev_tell (E : EE) (L : Nat) (F : FF) (l : Nat) (hlen : F 6 1 = nI l) (hl : l ≤ 90) : Ev3 E L 6 mX0_tell [.ref 10, .ref 6] F none (tellF F l) := by
  refine Ev3.of okX0_tell.2.2.1 (Nat.le_of_ble_eq_true rfl) ?_
  show R2 E L mX0_tell 6 0 [some (.ref 10), some (.ref 6), none] [] F _
  refine R2.B (ls2 := [some (.ref 10), some (.ref 6), none]) (st2 := [.ref 6, .ref 10]) b_X0_tell_0_2 rfl (fun hd => ?_)
  refine R2.callS3 (M2 := mX0_faultOf) (As := [.ref 6]) (rest := [.ref 10]) hd lk_0_34 okX0_faultOf (by decide) (ev_faultOf E L F l hlen hl) (by decide) rfl rfl (Nat.le_of_ble_eq_true rfl) ?_
  refine R2.B (ls2 := [some (.ref 10), some (.ref 6), none]) (st2 := [.int (cFlt l (F 7) l 0), .ref 10]) b_X0_tell_5_5 rfl (fun hd => ?_)
  refine R2.putf (a := 0) (b := 6) hd (by decide) (by decide) rfl rfl (fun _ => rfl) ?_
  refine R2.B (ls2 := [some (.ref 10), some (.ref 6), none]) (st2 := [.int (-1), .int (cFlt l (F 7) l 0), .ref 10]) b_X0_tell_8_14 rfl (fun hd => ?_)
  refine R2.icmp_ne 34 hd (by decide) (fun c14 => ?_) (fun c14 => ?_)
  · refine R2.B (ls2 := [some (.ref 10), some (.ref 6), none]) (st2 := [.int 0, .ref 10]) b_X0_tell_34_35 rfl (fun hd => ?_)
    refine R2.putf (a := 0) (b := 5) hd (by decide) (by decide) rfl rfl (fun _ => rfl) ?_
    refine R2.B (ls2 := [some (.ref 10), some (.ref 6), some (.int 0)]) (st2 := []) b_X0_tell_38_40 rfl (fun hd => ?_)
    have hq : cCnt l (F 7) ≤ 10 := by unfold cCnt; split <;> (try split) <;> omega
    refine R2.eqF (F2 := up2 (up2 F 10 6 (cFlt l (F 7) l 0)) 10 5 (nI (cCnt l (F 7)))) (by unfold cCnt; clear hd; first | rw [if_pos c14] | rw [if_neg c14]; rfl) ?_
    exact lp_tell E L l (cCnt l (F 7)) hl hq (cCnt l (F 7)) 0 _ (by omega) rfl hlen
  · refine R2.B (ls2 := [some (.ref 10), some (.ref 6), none]) (st2 := [.ref 6, .ref 10]) b_X0_tell_17_18 rfl (fun hd => ?_)
    refine R2.callV3 (M2 := mX7_length) (As := []) (rest := [.ref 10]) hd lk_0_38 okX7_length (by decide) rfl (ev_length6 E L _) (by decide) rfl rfl (Nat.le_of_ble_eq_true rfl) ?_
    refine R2.top (show (F 6 1 : Int32) = nI l from hlen) ?_
    refine R2.B (ls2 := [some (.ref 10), some (.ref 6), none]) (st2 := [.int 9, .int ((nI l) + 1), .ref 10]) b_X0_tell_21_25 rfl (fun hd => ?_)
    rw [show ((nI l) + 1 : Int32) = nI (l + 1) from nI_add l 1]
    refine R2.idiv hd (by decide) ?_
    refine R2.top (show ((nI (l + 1)) / 9 : Int32) = nI ((l + 1) / 9) from pk_div (by omega) (by decide) (by decide)) ?_
    refine R2.B (ls2 := [some (.ref 10), some (.ref 6), none]) (st2 := [.int 10, .int (nI ((l + 1) / 9)), .ref 10]) b_X0_tell_26_28 rfl (fun hd => ?_)
    refine R2.mmin hd ma_0_44 (by decide) (Nat.le_of_ble_eq_true rfl) ?_
    refine R2.top (show (if 10 < nI ((l + 1) / 9) then 10 else nI ((l + 1) / 9) : Int32) = nI (if (l + 1) / 9 < 10 then (l + 1) / 9 else 10) from min10 (by omega)) ?_
    refine R2.B (ls2 := [some (.ref 10), some (.ref 6), none]) (st2 := [.int (nI (if (l + 1) / 9 < 10 then (l + 1) / 9 else 10)), .ref 10]) b_X0_tell_31_35 rfl (fun hd => ?_)
    refine R2.putf (a := 0) (b := 5) hd (by decide) (by decide) rfl rfl (fun _ => rfl) ?_
    refine R2.B (ls2 := [some (.ref 10), some (.ref 6), some (.int 0)]) (st2 := []) b_X0_tell_38_40 rfl (fun hd => ?_)
    have hq : cCnt l (F 7) ≤ 10 := by unfold cCnt; split <;> (try split) <;> omega
    refine R2.eqF (F2 := up2 (up2 F 10 6 (cFlt l (F 7) l 0)) 10 5 (nI (cCnt l (F 7)))) (by unfold cCnt; clear hd; first | rw [if_pos c14] | rw [if_neg c14]; rfl) ?_
    exact lp_tell E L l (cCnt l (F 7)) hl hq (cCnt l (F 7)) 0 _ (by omega) rfl hlen
theorem b_X0_goHome_4_9 : bl2 mX0_goHome 4 [(.iload_n 2, 1, 2, 0, .null), (.aload_n 0, 1, 0, 0, .null), (.getfield 27, 3, 0, 5, .null)] 9 (.if_icmp .ge 39) 3 = true := by decide +kernel
theorem b_X0_goHome_48_49 : bl2 mX0_goHome 48 [(.iload_n 1, 1, 1, 0, .null)] 49 (.ireturn) 1 = true := by decide +kernel
theorem b_X0_goHome_12_17 : bl2 mX0_goHome 12 [(.aload_n 0, 1, 0, 0, .null), (.getfield 24, 3, 0, 4, .null), (.iload_n 2, 1, 2, 0, .null)] 17 (.iaload) 1 = true := by decide +kernel
theorem b_X0_goHome_18_23 : bl2 mX0_goHome 18 [(.aload_n 0, 1, 0, 0, .null), (.getfield 21, 3, 0, 3, .null), (.iload_n 2, 1, 2, 0, .null)] 23 (.iaload) 1 = true := by decide +kernel
theorem b_X0_goHome_24_24 : bl2 mX0_goHome 24 [] 24 (.if_icmp .eq 6) 3 = true := by decide +kernel
theorem b_X0_goHome_30_40 : bl2 mX0_goHome 30 [(.aload_n 0, 1, 0, 0, .null), (.getfield 24, 3, 0, 4, .null), (.iload_n 2, 1, 2, 0, .null), (.aload_n 0, 1, 0, 0, .null), (.getfield 21, 3, 0, 3, .null), (.iload_n 2, 1, 2, 0, .null)] 40 (.iaload) 1 = true := by decide +kernel
theorem b_X0_goHome_41_41 : bl2 mX0_goHome 41 [] 41 (.iastore) 1 = true := by decide +kernel
theorem b_X0_goHome_42_4 : bl2 mX0_goHome 42 [(.iinc 2 1, 3, 2, 0, .int 1), (.goto (-41), 3, 4, 0, .null)] 4 (.iload_n 2) 1 = true := by decide +kernel
theorem b_X0_goHome_27_40 : bl2 mX0_goHome 27 [(.iinc 1 1, 3, 1, 0, .int 1), (.aload_n 0, 1, 0, 0, .null), (.getfield 24, 3, 0, 4, .null), (.iload_n 2, 1, 2, 0, .null), (.aload_n 0, 1, 0, 0, .null), (.getfield 21, 3, 0, 3, .null), (.iload_n 2, 1, 2, 0, .null)] 40 (.iaload) 1 = true := by decide +kernel
set_option maxRecDepth 20000 in
set_option maxHeartbeats 2000000 in
theorem lp_goHome (E : EE) (L : Nat) (n : Nat) (hn : n ≤ 10) : ∀ (k : Nat) (p : Nat) (acc : Int32) (F : FF), p + k = n → F 10 5 = nI n → R2 E L mX0_goHome 1 4 [some (.ref 10), some (.int acc), some (.int (nI p))] [] F (fun r' F' => r' = some (.int (homeL k p acc F).1) ∧ F' = (homeL k p acc F).2) := by
  intro k
  induction k with
  | zero =>
    intro p acc F hi h5
    refine R2.B (ls2 := [some (.ref 10), some (.int acc), some (.int (nI p))]) (st2 := [.int (F 10 5), .int (nI p)]) b_X0_goHome_4_9 rfl (fun hd => ?_)
    rw [show (F 10 5 : Int32) = nI n from h5]
    refine R2.icmp_ge 48 hd (by decide) (fun c9 => ?_) (fun c9 => absurd (nI_le (by omega) (by omega)) c9)
    refine R2.B (ls2 := [some (.ref 10), some (.int acc), some (.int (nI p))]) (st2 := [.int acc]) b_X0_goHome_48_49 rfl (fun hd => ?_)
    exact R2.ret3 (r := some (.int acc)) hd trivial rfl rfl rfl
  | succ k ih =>
    intro p acc F hi h5
    refine R2.B (ls2 := [some (.ref 10), some (.int acc), some (.int (nI p))]) (st2 := [.int (F 10 5), .int (nI p)]) b_X0_goHome_4_9 rfl (fun hd => ?_)
    rw [show (F 10 5 : Int32) = nI n from h5]
    refine R2.icmp_ge 48 hd (by decide) (fun c9 => absurd c9 (nI_ge (by omega) (by omega))) (fun c9 => ?_)
    refine R2.B (ls2 := [some (.ref 10), some (.int acc), some (.int (nI p))]) (st2 := [.int (nI p), .ref 15]) b_X0_goHome_12_17 rfl (fun hd => ?_)
    refine R2.iald p rfl hd rfl (fun _ => rfl) (by decide) (by omega) ?_
    refine R2.B (ls2 := [some (.ref 10), some (.int acc), some (.int (nI p))]) (st2 := [.int (nI p), .ref 14, .int (F 15 p)]) b_X0_goHome_18_23 rfl (fun hd => ?_)
    refine R2.iald p rfl hd rfl (fun _ => rfl) (by decide) (by omega) ?_
    refine R2.B (ls2 := [some (.ref 10), some (.int acc), some (.int (nI p))]) (st2 := [.int (F 14 p), .int (F 15 p)]) b_X0_goHome_24_24 rfl (fun hd => ?_)
    refine R2.icmp_eq 30 hd (by decide) (fun c24 => ?_) (fun c24 => ?_)
    · refine R2.B (ls2 := [some (.ref 10), some (.int acc), some (.int (nI p))]) (st2 := [.int (nI p), .ref 14, .int (nI p), .ref 15]) b_X0_goHome_30_40 rfl (fun hd => ?_)
      refine R2.iald p rfl hd rfl (fun _ => rfl) (by decide) (by omega) ?_
      refine R2.B (ls2 := [some (.ref 10), some (.int acc), some (.int (nI p))]) (st2 := [.int (F 14 p), .int (nI p), .ref 15]) b_X0_goHome_41_41 rfl (fun hd => ?_)
      refine R2.iast p rfl hd (by decide) rfl (fun _ => rfl) (by decide) (by omega) ?_
      refine R2.B (ls2 := [some (.ref 10), some (.int acc), some (.int ((nI p) + 1))]) (st2 := []) b_X0_goHome_42_4 rfl (fun hd => ?_)
      rw [show ((nI p) + 1 : Int32) = nI (p + 1) from nI_add p 1]
      rw [show homeL (k + 1) p acc F = homeL k (p + 1) acc (up2 F 15 p (F 14 p)) from (by simp only [homeL]; rw [if_pos c24])]
      exact ih (p + 1) acc (up2 F 15 p (F 14 p)) (by omega) h5
    · refine R2.B (ls2 := [some (.ref 10), some (.int (acc + 1)), some (.int (nI p))]) (st2 := [.int (nI p), .ref 14, .int (nI p), .ref 15]) b_X0_goHome_27_40 rfl (fun hd => ?_)
      refine R2.iald p rfl hd rfl (fun _ => rfl) (by decide) (by omega) ?_
      refine R2.B (ls2 := [some (.ref 10), some (.int (acc + 1)), some (.int (nI p))]) (st2 := [.int (F 14 p), .int (nI p), .ref 15]) b_X0_goHome_41_41 rfl (fun hd => ?_)
      refine R2.iast p rfl hd (by decide) rfl (fun _ => rfl) (by decide) (by omega) ?_
      refine R2.B (ls2 := [some (.ref 10), some (.int (acc + 1)), some (.int ((nI p) + 1))]) (st2 := []) b_X0_goHome_42_4 rfl (fun hd => ?_)
      rw [show ((nI p) + 1 : Int32) = nI (p + 1) from nI_add p 1]
      rw [show homeL (k + 1) p acc F = homeL k (p + 1) (acc + 1) (up2 F 15 p (F 14 p)) from (by simp only [homeL]; rw [if_neg c24])]
      exact ih (p + 1) (acc + 1) (up2 F 15 p (F 14 p)) (by omega) h5
theorem b_X0_goHome_0_4 : bl2 mX0_goHome 0 [(.iconst 0, 1, 0, 0, .int 0), (.istore_n 1, 1, 1, 0, .null), (.iconst 0, 1, 0, 0, .int 0), (.istore_n 2, 1, 2, 0, .null)] 4 (.iload_n 2) 1 = true := by decide +kernel
set_option maxRecDepth 20000 in
set_option maxHeartbeats 1000000 in
theorem ev_goHome (E : EE) (L : Nat) (F : FF) (n : Nat) (hn : F 10 5 = nI n) (hn10 : n ≤ 10) : Ev3 E L 1 mX0_goHome [.ref 10] F (some (.int (homeL n 0 0 F).1)) (homeL n 0 0 F).2 := by
  refine Ev3.of okX0_goHome.2.2.1 (Nat.le_of_ble_eq_true rfl) ?_
  show R2 E L mX0_goHome 1 0 [some (.ref 10), none, none] [] F _
  refine R2.B (ls2 := [some (.ref 10), some (.int 0), some (.int 0)]) (st2 := []) b_X0_goHome_0_4 rfl (fun hd => ?_)
  exact lp_goHome E L n hn10 n 0 0 F (by omega) hn
theorem b_X0_sellsTo_0_5 : bl2 mX0_sellsTo 0 [(.aload_n 0, 1, 0, 0, .null), (.getfield 9, 3, 0, 0, .null), (.iload_n 1, 1, 1, 0, .null)] 5 (.iaload) 1 = true := by decide +kernel
theorem b_X0_sellsTo_6_6 : bl2 mX0_sellsTo 6 [] 6 (.ifCond .ne 47) 3 = true := by decide +kernel
theorem b_X0_sellsTo_53_54 : bl2 mX0_sellsTo 53 [(.iconst 0, 1, 0, 0, .int 0)] 54 (.ireturn) 1 = true := by decide +kernel
theorem b_X0_sellsTo_9_14 : bl2 mX0_sellsTo 9 [(.aload_n 0, 1, 0, 0, .null), (.getfield 9, 3, 0, 0, .null), (.iload_n 2, 1, 2, 0, .null)] 14 (.iaload) 1 = true := by decide +kernel
theorem b_X0_sellsTo_15_16 : bl2 mX0_sellsTo 15 [(.iconst 1, 1, 0, 0, .int 1)] 16 (.if_icmp .ne 37) 3 = true := by decide +kernel
theorem b_X0_sellsTo_19_24 : bl2 mX0_sellsTo 19 [(.aload_n 0, 1, 0, 0, .null), (.getfield 15, 3, 0, 1, .null), (.iload_n 1, 1, 1, 0, .null)] 24 (.iaload) 1 = true := by decide +kernel
theorem b_X0_sellsTo_25_30 : bl2 mX0_sellsTo 25 [(.aload_n 0, 1, 0, 0, .null), (.getfield 15, 3, 0, 1, .null), (.iload_n 2, 1, 2, 0, .null)] 30 (.iaload) 1 = true := by decide +kernel
theorem b_X0_sellsTo_31_31 : bl2 mX0_sellsTo 31 [] 31 (.if_icmp .ne 22) 3 = true := by decide +kernel
theorem b_X0_sellsTo_34_39 : bl2 mX0_sellsTo 34 [(.aload_n 0, 1, 0, 0, .null), (.getfield 18, 3, 0, 2, .null), (.iload_n 2, 1, 2, 0, .null)] 39 (.iaload) 1 = true := by decide +kernel
theorem b_X0_sellsTo_40_45 : bl2 mX0_sellsTo 40 [(.aload_n 0, 1, 0, 0, .null), (.getfield 18, 3, 0, 2, .null), (.iload_n 1, 1, 1, 0, .null)] 45 (.iaload) 1 = true := by decide +kernel
theorem b_X0_sellsTo_46_46 : bl2 mX0_sellsTo 46 [] 46 (.if_icmp .lt 7) 3 = true := by decide +kernel
theorem b_X0_sellsTo_49_54 : bl2 mX0_sellsTo 49 [(.iconst 1, 1, 0, 0, .int 1), (.goto 4, 3, 54, 0, .null)] 54 (.ireturn) 1 = true := by decide +kernel
set_option maxRecDepth 20000 in
set_option maxHeartbeats 1000000 in
theorem ev_sellsTo (E : EE) (L : Nat) (F : FF) (a b : Nat) (ha : a < 10) (hb : b < 10) : Ev3 E L 1 mX0_sellsTo [.ref 10, .int (nI a), .int (nI b)] F (some (.int (b2i (sls (F 11) (F 12) (F 13) a b)))) F := by
  refine Ev3.of okX0_sellsTo.2.2.1 (Nat.le_of_ble_eq_true rfl) ?_
  show R2 E L mX0_sellsTo 1 0 [some (.ref 10), some (.int (nI a)), some (.int (nI b))] [] F _
  refine R2.B (ls2 := [some (.ref 10), some (.int (nI a)), some (.int (nI b))]) (st2 := [.int (nI a), .ref 11]) b_X0_sellsTo_0_5 rfl (fun hd => ?_)
  refine R2.iald a rfl hd rfl (fun _ => rfl) (by decide) (by omega) ?_
  refine R2.B (ls2 := [some (.ref 10), some (.int (nI a)), some (.int (nI b))]) (st2 := [.int (F 11 a)]) b_X0_sellsTo_6_6 rfl (fun hd => ?_)
  refine R2.if_ne 53 hd (by decide) (fun c6 => ?_) (fun c6 => ?_)
  · refine R2.B (ls2 := [some (.ref 10), some (.int (nI a)), some (.int (nI b))]) (st2 := [.int 0]) b_X0_sellsTo_53_54 rfl (fun hd => ?_)
    exact R2.ret3 (r := some (.int 0)) hd (Or.inl rfl) rfl (congrArg (fun z => some (Value.int z)) (b2i_f (by clear hd; grind))) rfl
  · refine R2.B (ls2 := [some (.ref 10), some (.int (nI a)), some (.int (nI b))]) (st2 := [.int (nI b), .ref 11]) b_X0_sellsTo_9_14 rfl (fun hd => ?_)
    refine R2.iald b rfl hd rfl (fun _ => rfl) (by decide) (by omega) ?_
    refine R2.B (ls2 := [some (.ref 10), some (.int (nI a)), some (.int (nI b))]) (st2 := [.int 1, .int (F 11 b)]) b_X0_sellsTo_15_16 rfl (fun hd => ?_)
    refine R2.icmp_ne 53 hd (by decide) (fun c16 => ?_) (fun c16 => ?_)
    · refine R2.B (ls2 := [some (.ref 10), some (.int (nI a)), some (.int (nI b))]) (st2 := [.int 0]) b_X0_sellsTo_53_54 rfl (fun hd => ?_)
      exact R2.ret3 (r := some (.int 0)) hd (Or.inl rfl) rfl (congrArg (fun z => some (Value.int z)) (b2i_f (by clear hd; grind))) rfl
    · refine R2.B (ls2 := [some (.ref 10), some (.int (nI a)), some (.int (nI b))]) (st2 := [.int (nI a), .ref 12]) b_X0_sellsTo_19_24 rfl (fun hd => ?_)
      refine R2.iald a rfl hd rfl (fun _ => rfl) (by decide) (by omega) ?_
      refine R2.B (ls2 := [some (.ref 10), some (.int (nI a)), some (.int (nI b))]) (st2 := [.int (nI b), .ref 12, .int (F 12 a)]) b_X0_sellsTo_25_30 rfl (fun hd => ?_)
      refine R2.iald b rfl hd rfl (fun _ => rfl) (by decide) (by omega) ?_
      refine R2.B (ls2 := [some (.ref 10), some (.int (nI a)), some (.int (nI b))]) (st2 := [.int (F 12 b), .int (F 12 a)]) b_X0_sellsTo_31_31 rfl (fun hd => ?_)
      refine R2.icmp_ne 53 hd (by decide) (fun c31 => ?_) (fun c31 => ?_)
      · refine R2.B (ls2 := [some (.ref 10), some (.int (nI a)), some (.int (nI b))]) (st2 := [.int 0]) b_X0_sellsTo_53_54 rfl (fun hd => ?_)
        exact R2.ret3 (r := some (.int 0)) hd (Or.inl rfl) rfl (congrArg (fun z => some (Value.int z)) (b2i_f (by clear hd; grind))) rfl
      · refine R2.B (ls2 := [some (.ref 10), some (.int (nI a)), some (.int (nI b))]) (st2 := [.int (nI b), .ref 13]) b_X0_sellsTo_34_39 rfl (fun hd => ?_)
        refine R2.iald b rfl hd rfl (fun _ => rfl) (by decide) (by omega) ?_
        refine R2.B (ls2 := [some (.ref 10), some (.int (nI a)), some (.int (nI b))]) (st2 := [.int (nI a), .ref 13, .int (F 13 b)]) b_X0_sellsTo_40_45 rfl (fun hd => ?_)
        refine R2.iald a rfl hd rfl (fun _ => rfl) (by decide) (by omega) ?_
        refine R2.B (ls2 := [some (.ref 10), some (.int (nI a)), some (.int (nI b))]) (st2 := [.int (F 13 a), .int (F 13 b)]) b_X0_sellsTo_46_46 rfl (fun hd => ?_)
        refine R2.icmp_lt 53 hd (by decide) (fun c46 => ?_) (fun c46 => ?_)
        · refine R2.B (ls2 := [some (.ref 10), some (.int (nI a)), some (.int (nI b))]) (st2 := [.int 0]) b_X0_sellsTo_53_54 rfl (fun hd => ?_)
          exact R2.ret3 (r := some (.int 0)) hd (Or.inl rfl) rfl (congrArg (fun z => some (Value.int z)) (b2i_f (by clear hd; grind))) rfl
        · refine R2.B (ls2 := [some (.ref 10), some (.int (nI a)), some (.int (nI b))]) (st2 := [.int 1]) b_X0_sellsTo_49_54 rfl (fun hd => ?_)
          exact R2.ret3 (r := some (.int 1)) hd (Or.inr rfl) rfl (congrArg (fun z => some (Value.int z)) (b2i_t (by clear hd; grind))) rfl
theorem b_X0_canTrade_0_3 : bl2 mX0_canTrade 0 [(.aload_n 0, 1, 0, 0, .null), (.iload_n 1, 1, 1, 0, .null), (.iload_n 2, 1, 2, 0, .null)] 3 (.invokevirtual 54) 3 = true := by decide +kernel
theorem b_X0_canTrade_6_6 : bl2 mX0_canTrade 6 [] 6 (.ifCond .ne 12) 3 = true := by decide +kernel
theorem b_X0_canTrade_18_23 : bl2 mX0_canTrade 18 [(.iconst 1, 1, 0, 0, .int 1), (.goto 4, 3, 23, 0, .null)] 23 (.ireturn) 1 = true := by decide +kernel
theorem b_X0_canTrade_9_12 : bl2 mX0_canTrade 9 [(.aload_n 0, 1, 0, 0, .null), (.iload_n 2, 1, 2, 0, .null), (.iload_n 1, 1, 1, 0, .null)] 12 (.invokevirtual 54) 3 = true := by decide +kernel
theorem b_X0_canTrade_15_15 : bl2 mX0_canTrade 15 [] 15 (.ifCond .eq 7) 3 = true := by decide +kernel
theorem b_X0_canTrade_22_23 : bl2 mX0_canTrade 22 [(.iconst 0, 1, 0, 0, .int 0)] 23 (.ireturn) 1 = true := by decide +kernel
set_option maxRecDepth 20000 in
set_option maxHeartbeats 1000000 in
theorem ev_canTrade (E : EE) (L : Nat) (F : FF) (a b : Nat) (ha : a < 10) (hb : b < 10) : Ev3 E L 2 mX0_canTrade [.ref 10, .int (nI a), .int (nI b)] F (some (.int (b2i (trd (F 11) (F 12) (F 13) a b)))) F := by
  refine Ev3.of okX0_canTrade.2.2.1 (Nat.le_of_ble_eq_true rfl) ?_
  show R2 E L mX0_canTrade 2 0 [some (.ref 10), some (.int (nI a)), some (.int (nI b))] [] F _
  refine R2.B (ls2 := [some (.ref 10), some (.int (nI a)), some (.int (nI b))]) (st2 := [.int (nI b), .int (nI a), .ref 10]) b_X0_canTrade_0_3 rfl (fun hd => ?_)
  refine R2.callV3 (M2 := mX0_sellsTo) (As := [.int (nI a), .int (nI b)]) (rest := []) hd lk_0_54 okX0_sellsTo (by decide) rfl (ev_sellsTo E L F a b (by omega) (by omega)) (by decide) rfl rfl (Nat.le_of_ble_eq_true rfl) ?_
  refine R2.B (ls2 := [some (.ref 10), some (.int (nI a)), some (.int (nI b))]) (st2 := [.int (b2i (sls (F 11) (F 12) (F 13) a b))]) b_X0_canTrade_6_6 rfl (fun hd => ?_)
  refine R2.if_ne 18 hd (by decide) (fun c6 => ?_) (fun c6 => ?_)
  · have nc6 : sls (F 11) (F 12) (F 13) a b := b2i_nz.mp c6
    refine R2.B (ls2 := [some (.ref 10), some (.int (nI a)), some (.int (nI b))]) (st2 := [.int 1]) b_X0_canTrade_18_23 rfl (fun hd => ?_)
    exact R2.ret3 (r := some (.int 1)) hd (Or.inr rfl) rfl (congrArg (fun z => some (Value.int z)) (b2i_t (by clear hd; grind))) rfl
  · have nc6 : ¬ (sls (F 11) (F 12) (F 13) a b) := b2i_zero.mp c6
    refine R2.B (ls2 := [some (.ref 10), some (.int (nI a)), some (.int (nI b))]) (st2 := [.int (nI a), .int (nI b), .ref 10]) b_X0_canTrade_9_12 rfl (fun hd => ?_)
    refine R2.callV3 (M2 := mX0_sellsTo) (As := [.int (nI b), .int (nI a)]) (rest := []) hd lk_0_54 okX0_sellsTo (by decide) rfl (ev_sellsTo E L F b a (by omega) (by omega)) (by decide) rfl rfl (Nat.le_of_ble_eq_true rfl) ?_
    refine R2.B (ls2 := [some (.ref 10), some (.int (nI a)), some (.int (nI b))]) (st2 := [.int (b2i (sls (F 11) (F 12) (F 13) b a))]) b_X0_canTrade_15_15 rfl (fun hd => ?_)
    refine R2.if_eq 22 hd (by decide) (fun c15 => ?_) (fun c15 => ?_)
    · have nc15 : ¬ (sls (F 11) (F 12) (F 13) b a) := b2i_zero.mp c15
      refine R2.B (ls2 := [some (.ref 10), some (.int (nI a)), some (.int (nI b))]) (st2 := [.int 0]) b_X0_canTrade_22_23 rfl (fun hd => ?_)
      exact R2.ret3 (r := some (.int 0)) hd (Or.inl rfl) rfl (congrArg (fun z => some (Value.int z)) (b2i_f (by clear hd; grind))) rfl
    · have nc15 : sls (F 11) (F 12) (F 13) b a := b2i_nz.mp c15
      refine R2.B (ls2 := [some (.ref 10), some (.int (nI a)), some (.int (nI b))]) (st2 := [.int 1]) b_X0_canTrade_18_23 rfl (fun hd => ?_)
      exact R2.ret3 (r := some (.int 1)) hd (Or.inr rfl) rfl (congrArg (fun z => some (Value.int z)) (b2i_t (by clear hd; grind))) rfl
theorem b_X0_gain_0_5 : bl2 mX0_gain 0 [(.aload_n 0, 1, 0, 0, .null), (.getfield 9, 3, 0, 0, .null), (.iload_n 1, 1, 1, 0, .null)] 5 (.iaload) 1 = true := by decide +kernel
theorem b_X0_gain_6_7 : bl2 mX0_gain 6 [(.iconst 1, 1, 0, 0, .int 1)] 7 (.if_icmp .ne 19) 3 = true := by decide +kernel
theorem b_X0_gain_26_31 : bl2 mX0_gain 26 [(.aload_n 0, 1, 0, 0, .null), (.getfield 18, 3, 0, 2, .null), (.iload_n 2, 1, 2, 0, .null)] 31 (.iaload) 1 = true := by decide +kernel
theorem b_X0_gain_32_37 : bl2 mX0_gain 32 [(.aload_n 0, 1, 0, 0, .null), (.getfield 18, 3, 0, 2, .null), (.iload_n 1, 1, 1, 0, .null)] 37 (.iaload) 1 = true := by decide +kernel
theorem b_X0_gain_38_39 : bl2 mX0_gain 38 [(.isub, 1, 0, 0, .null)] 39 (.ireturn) 1 = true := by decide +kernel
theorem b_X0_gain_10_15 : bl2 mX0_gain 10 [(.aload_n 0, 1, 0, 0, .null), (.getfield 18, 3, 0, 2, .null), (.iload_n 1, 1, 1, 0, .null)] 15 (.iaload) 1 = true := by decide +kernel
theorem b_X0_gain_16_21 : bl2 mX0_gain 16 [(.aload_n 0, 1, 0, 0, .null), (.getfield 18, 3, 0, 2, .null), (.iload_n 2, 1, 2, 0, .null)] 21 (.iaload) 1 = true := by decide +kernel
theorem b_X0_gain_22_39 : bl2 mX0_gain 22 [(.isub, 1, 0, 0, .null), (.goto 16, 3, 39, 0, .null)] 39 (.ireturn) 1 = true := by decide +kernel
set_option maxRecDepth 20000 in
set_option maxHeartbeats 1000000 in
theorem ev_gain (E : EE) (L : Nat) (F : FF) (a b : Nat) (ha : a < 10) (hb : b < 10) : Ev3 E L 1 mX0_gain [.ref 10, .int (nI a), .int (nI b)] F (some (.int (gan (F 11) (F 13) a b))) F := by
  refine Ev3.of okX0_gain.2.2.1 (Nat.le_of_ble_eq_true rfl) ?_
  show R2 E L mX0_gain 1 0 [some (.ref 10), some (.int (nI a)), some (.int (nI b))] [] F _
  refine R2.B (ls2 := [some (.ref 10), some (.int (nI a)), some (.int (nI b))]) (st2 := [.int (nI a), .ref 11]) b_X0_gain_0_5 rfl (fun hd => ?_)
  refine R2.iald a rfl hd rfl (fun _ => rfl) (by decide) (by omega) ?_
  refine R2.B (ls2 := [some (.ref 10), some (.int (nI a)), some (.int (nI b))]) (st2 := [.int 1, .int (F 11 a)]) b_X0_gain_6_7 rfl (fun hd => ?_)
  refine R2.icmp_ne 26 hd (by decide) (fun c7 => ?_) (fun c7 => ?_)
  · refine R2.B (ls2 := [some (.ref 10), some (.int (nI a)), some (.int (nI b))]) (st2 := [.int (nI b), .ref 13]) b_X0_gain_26_31 rfl (fun hd => ?_)
    refine R2.iald b rfl hd rfl (fun _ => rfl) (by decide) (by omega) ?_
    refine R2.B (ls2 := [some (.ref 10), some (.int (nI a)), some (.int (nI b))]) (st2 := [.int (nI a), .ref 13, .int (F 13 b)]) b_X0_gain_32_37 rfl (fun hd => ?_)
    refine R2.iald a rfl hd rfl (fun _ => rfl) (by decide) (by omega) ?_
    refine R2.B (ls2 := [some (.ref 10), some (.int (nI a)), some (.int (nI b))]) (st2 := [.int ((F 13 b) - (F 13 a))]) b_X0_gain_38_39 rfl (fun hd => ?_)
    exact R2.ret3 (r := some (.int ((F 13 b) - (F 13 a)))) hd trivial rfl (congrArg (fun z => some (Value.int z)) (by clear hd; unfold gan; grind)) rfl
  · refine R2.B (ls2 := [some (.ref 10), some (.int (nI a)), some (.int (nI b))]) (st2 := [.int (nI a), .ref 13]) b_X0_gain_10_15 rfl (fun hd => ?_)
    refine R2.iald a rfl hd rfl (fun _ => rfl) (by decide) (by omega) ?_
    refine R2.B (ls2 := [some (.ref 10), some (.int (nI a)), some (.int (nI b))]) (st2 := [.int (nI b), .ref 13, .int (F 13 a)]) b_X0_gain_16_21 rfl (fun hd => ?_)
    refine R2.iald b rfl hd rfl (fun _ => rfl) (by decide) (by omega) ?_
    refine R2.B (ls2 := [some (.ref 10), some (.int (nI a)), some (.int (nI b))]) (st2 := [.int ((F 13 a) - (F 13 b))]) b_X0_gain_22_39 rfl (fun hd => ?_)
    exact R2.ret3 (r := some (.int ((F 13 a) - (F 13 b)))) hd trivial rfl (congrArg (fun z => some (Value.int z)) (by clear hd; unfold gan; grind)) rfl
end
section
theorem b_X2_square_0_5 : bl2 mX2_square 0 [(.aload_n 0, 1, 0, 0, .null), (.getfield 9, 3, 2, 1, .null), (.iload_n 1, 1, 1, 0, .null)] 5 (.iaload) 1 = true := by decide +kernel
theorem b_X2_square_6_11 : bl2 mX2_square 6 [(.aload_n 0, 1, 0, 0, .null), (.getfield 9, 3, 2, 1, .null), (.iload_n 1, 1, 1, 0, .null)] 11 (.iaload) 1 = true := by decide +kernel
theorem b_X2_square_12_13 : bl2 mX2_square 12 [(.imul, 1, 0, 0, .null)] 13 (.ireturn) 1 = true := by decide +kernel
set_option maxRecDepth 20000 in
set_option maxHeartbeats 1000000 in
theorem ev_square (E : EE) (L : Nat) (F : FF) (j : Nat) (hj : j < 3) : Ev3 E L 1 mX2_square [.ref 16, .int (nI j)] F (some (.int (F 17 j * F 17 j))) F := by
  refine Ev3.of okX2_square.2.2.1 (Nat.le_of_ble_eq_true rfl) ?_
  show R2 E L mX2_square 1 0 [some (.ref 16), some (.int (nI j))] [] F _
  refine R2.B (ls2 := [some (.ref 16), some (.int (nI j))]) (st2 := [.int (nI j), .ref 17]) b_X2_square_0_5 rfl (fun hd => ?_)
  refine R2.iald j rfl hd rfl (fun _ => rfl) (by decide) (by omega) ?_
  refine R2.B (ls2 := [some (.ref 16), some (.int (nI j))]) (st2 := [.int (nI j), .ref 17, .int (F 17 j)]) b_X2_square_6_11 rfl (fun hd => ?_)
  refine R2.iald j rfl hd rfl (fun _ => rfl) (by decide) (by omega) ?_
  refine R2.B (ls2 := [some (.ref 16), some (.int (nI j))]) (st2 := [.int ((F 17 j) * (F 17 j))]) b_X2_square_12_13 rfl (fun hd => ?_)
  exact R2.ret3 (r := some (.int ((F 17 j) * (F 17 j)))) hd trivial rfl rfl rfl
theorem b_X2_mayStand_10_19 : bl2 mX2_mayStand 10 [(.iload 5, 2, 5, 0, .null), (.aload_n 0, 1, 0, 0, .null), (.getfield 15, 3, 2, 0, .null), (.getfield 31, 3, 0, 5, .null)] 19 (.if_icmp .ge 30) 3 = true := by decide +kernel
theorem b_X2_mayStand_49_50 : bl2 mX2_mayStand 49 [(.iconst 1, 1, 0, 0, .int 1)] 50 (.ireturn) 1 = true := by decide +kernel
theorem b_X2_mayStand_22_25 : bl2 mX2_mayStand 22 [(.iload 5, 2, 5, 0, .null), (.iload_n 2, 1, 2, 0, .null)] 25 (.if_icmp .eq 18) 3 = true := by decide +kernel
theorem b_X2_mayStand_43_10 : bl2 mX2_mayStand 43 [(.iinc 5 1, 3, 5, 0, .int 1), (.goto (-36), 3, 10, 0, .null)] 10 (.iload 5) 2 = true := by decide +kernel
theorem b_X2_mayStand_28_31 : bl2 mX2_mayStand 28 [(.aload_n 1, 1, 1, 0, .null), (.iload 5, 2, 5, 0, .null)] 31 (.iaload) 1 = true := by decide +kernel
theorem b_X2_mayStand_32_33 : bl2 mX2_mayStand 32 [(.iload_n 3, 1, 3, 0, .null)] 33 (.invokestatic 37) 3 = true := by decide +kernel
theorem b_X2_mayStand_36_38 : bl2 mX2_mayStand 36 [(.iload 4, 2, 4, 0, .null)] 38 (.if_icmp .ge 5) 3 = true := by decide +kernel
theorem b_X2_mayStand_41_42 : bl2 mX2_mayStand 41 [(.iconst 0, 1, 0, 0, .int 0)] 42 (.ireturn) 1 = true := by decide +kernel
set_option maxRecDepth 20000 in
set_option maxHeartbeats 2000000 in
theorem lp_mayStand (E : EE) (L : Nat) (F : FF) (n : Nat) (hn : F 10 5 = nI n) (hn10 : n ≤ 10) (sp : Nat) (hsp : shg (SH L) sp = some (.inr (.int, 10))) (hsr : ∀ q : Nat, nthR rowsL sp q = none) (p : Nat) (t near : Int32) (hp : p < 10) : ∀ (k : Nat) (i : Nat), i + k = n → R2 E L mX2_mayStand 2 10 [some (.ref 16), some (.ref sp), some (.int (nI p)), some (.int t), some (.int near), some (.int (nI i))] [] F (fun r' F' => r' = some (.int (b2i (mayS (F sp) p t near k i = true))) ∧ F' = F) := by
  intro k
  induction k with
  | zero =>
    intro i hi
    refine R2.B (ls2 := [some (.ref 16), some (.ref sp), some (.int (nI p)), some (.int t), some (.int near), some (.int (nI i))]) (st2 := [.int (F 10 5), .int (nI i)]) b_X2_mayStand_10_19 rfl (fun hd => ?_)
    rw [show (F 10 5 : Int32) = nI n from hn]
    refine R2.icmp_ge 49 hd (by decide) (fun c19 => ?_) (fun c19 => absurd (nI_le (by omega) (by omega)) c19)
    refine R2.B (ls2 := [some (.ref 16), some (.ref sp), some (.int (nI p)), some (.int t), some (.int near), some (.int (nI i))]) (st2 := [.int 1]) b_X2_mayStand_49_50 rfl (fun hd => ?_)
    exact R2.ret3 (r := some (.int 1)) hd (Or.inr rfl) rfl (congrArg (fun z => some (Value.int z)) (b2i_t (by clear hd; simp only [mayS] <;> grind))) rfl
  | succ k ih =>
    intro i hi
    refine R2.B (ls2 := [some (.ref 16), some (.ref sp), some (.int (nI p)), some (.int t), some (.int near), some (.int (nI i))]) (st2 := [.int (F 10 5), .int (nI i)]) b_X2_mayStand_10_19 rfl (fun hd => ?_)
    rw [show (F 10 5 : Int32) = nI n from hn]
    refine R2.icmp_ge 49 hd (by decide) (fun c19 => absurd c19 (nI_ge (by omega) (by omega))) (fun c19 => ?_)
    refine R2.B (ls2 := [some (.ref 16), some (.ref sp), some (.int (nI p)), some (.int t), some (.int near), some (.int (nI i))]) (st2 := [.int (nI p), .int (nI i)]) b_X2_mayStand_22_25 rfl (fun hd => ?_)
    refine R2.icmp_eq 43 hd (by decide) (fun c25 => ?_) (fun c25 => ?_)
    · have nc25 : i = p := (nI_eq (a := i) (b := p) (by omega) (by omega)).mp c25
      refine R2.B (ls2 := [some (.ref 16), some (.ref sp), some (.int (nI p)), some (.int t), some (.int near), some (.int ((nI i) + 1))]) (st2 := []) b_X2_mayStand_43_10 rfl (fun hd => ?_)
      rw [show ((nI i) + 1 : Int32) = nI (i + 1) from nI_add i 1]
      rw [show mayS (F sp) p t near (k + 1) i = mayS (F sp) p t near k (i + 1) from (by clear hd; simp only [mayS] <;> grind)]
      exact ih (i + 1) (by omega)
    · have nc25 : ¬ i = p := fun h9 => c25 ((nI_eq (a := i) (b := p) (by omega) (by omega)).mpr h9)
      refine R2.B (ls2 := [some (.ref 16), some (.ref sp), some (.int (nI p)), some (.int t), some (.int near), some (.int (nI i))]) (st2 := [.int (nI i), .ref sp]) b_X2_mayStand_28_31 rfl (fun hd => ?_)
      refine R2.iald i rfl hd hsp hsr (by decide) (by omega) ?_
      refine R2.B (ls2 := [some (.ref 16), some (.ref sp), some (.int (nI p)), some (.int t), some (.int near), some (.int (nI i))]) (st2 := [.int t, .int (F sp i)]) b_X2_mayStand_32_33 rfl (fun hd => ?_)
      refine R2.callS3 (M2 := mX10_between) (As := [.int (F sp i), .int t]) (rest := []) hd lk_2_37 okX10_between (by decide) (ev_between E L F (F sp i) t) (by decide) rfl rfl (Nat.le_of_ble_eq_true rfl) ?_
      refine R2.B (ls2 := [some (.ref 16), some (.ref sp), some (.int (nI p)), some (.int t), some (.int near), some (.int (nI i))]) (st2 := [.int near, .int (awy (F sp i) t)]) b_X2_mayStand_36_38 rfl (fun hd => ?_)
      refine R2.icmp_ge 43 hd (by decide) (fun c38 => ?_) (fun c38 => ?_)
      · refine R2.B (ls2 := [some (.ref 16), some (.ref sp), some (.int (nI p)), some (.int t), some (.int near), some (.int ((nI i) + 1))]) (st2 := []) b_X2_mayStand_43_10 rfl (fun hd => ?_)
        rw [show ((nI i) + 1 : Int32) = nI (i + 1) from nI_add i 1]
        rw [show mayS (F sp) p t near (k + 1) i = mayS (F sp) p t near k (i + 1) from (by clear hd; simp only [mayS] <;> grind)]
        exact ih (i + 1) (by omega)
      · refine R2.B (ls2 := [some (.ref 16), some (.ref sp), some (.int (nI p)), some (.int t), some (.int near), some (.int (nI i))]) (st2 := [.int 0]) b_X2_mayStand_41_42 rfl (fun hd => ?_)
        exact R2.ret3 (r := some (.int 0)) hd (Or.inl rfl) rfl (congrArg (fun z => some (Value.int z)) (b2i_f (by clear hd; simp only [mayS] <;> grind))) rfl
theorem b_X2_mayStand_0_2 : bl2 mX2_mayStand 0 [(.aload_n 0, 1, 0, 0, .null), (.iconst 2, 1, 0, 0, .int 2)] 2 (.invokevirtual 27) 3 = true := by decide +kernel
theorem b_X2_mayStand_5_10 : bl2 mX2_mayStand 5 [(.istore 4, 2, 4, 0, .null), (.iconst 0, 1, 0, 0, .int 0), (.istore 5, 2, 5, 0, .null)] 10 (.iload 5) 2 = true := by decide +kernel
set_option maxRecDepth 20000 in
set_option maxHeartbeats 1000000 in
theorem ev_mayStand (E : EE) (L : Nat) (F : FF) (n : Nat) (hn : F 10 5 = nI n) (hn10 : n ≤ 10) (sp : Nat) (hsp : shg (SH L) sp = some (.inr (.int, 10))) (hsr : ∀ q : Nat, nthR rowsL sp q = none) (p : Nat) (t : Int32) (hp : p < 10) : Ev3 E L 2 mX2_mayStand [.ref 16, .ref sp, .int (nI p), .int t] F (some (.int (b2i (mayS (F sp) p t (F 17 2 * F 17 2) n 0 = true)))) F := by
  refine Ev3.of okX2_mayStand.2.2.1 (Nat.le_of_ble_eq_true rfl) ?_
  show R2 E L mX2_mayStand 2 0 [some (.ref 16), some (.ref sp), some (.int (nI p)), some (.int t), none, none] [] F _
  refine R2.B (ls2 := [some (.ref 16), some (.ref sp), some (.int (nI p)), some (.int t), none, none]) (st2 := [.int 2, .ref 16]) b_X2_mayStand_0_2 rfl (fun hd => ?_)
  refine R2.callV3 (M2 := mX2_square) (As := [.int 2]) (rest := []) hd lk_2_27 okX2_square (by decide) rfl (ev_square E L F 2 (by decide)) (by decide) rfl rfl (Nat.le_of_ble_eq_true rfl) ?_
  refine R2.B (ls2 := [some (.ref 16), some (.ref sp), some (.int (nI p)), some (.int t), some (.int ((F 17 2) * (F 17 2))), some (.int 0)]) (st2 := []) b_X2_mayStand_5_10 rfl (fun hd => ?_)
  exact lp_mayStand E L F n hn hn10 sp hsp hsr p t _ hp n 0 (by omega)
theorem b_X2_lawfulStep_0_2 : bl2 mX2_lawfulStep 0 [(.aload_n 1, 1, 1, 0, .null), (.iload_n 2, 1, 2, 0, .null)] 2 (.iaload) 1 = true := by decide +kernel
theorem b_X2_lawfulStep_3_4 : bl2 mX2_lawfulStep 3 [(.iload_n 3, 1, 3, 0, .null)] 4 (.invokestatic 19) 3 = true := by decide +kernel
theorem b_X2_lawfulStep_7_12 : bl2 mX2_lawfulStep 7 [(.istore 4, 2, 4, 0, .null), (.iload 4, 2, 4, 0, .null), (.iconst (-1), 1, 0, 0, .int (-1))] 12 (.if_icmp .eq 19) 3 = true := by decide +kernel
theorem b_X2_lawfulStep_31_32 : bl2 mX2_lawfulStep 31 [(.iconst (-1), 1, 0, 0, .int (-1))] 32 (.ireturn) 1 = true := by decide +kernel
theorem b_X2_lawfulStep_15_20 : bl2 mX2_lawfulStep 15 [(.aload_n 0, 1, 0, 0, .null), (.aload_n 1, 1, 1, 0, .null), (.iload_n 2, 1, 2, 0, .null), (.iload 4, 2, 4, 0, .null)] 20 (.invokevirtual 23) 3 = true := by decide +kernel
theorem b_X2_lawfulStep_23_23 : bl2 mX2_lawfulStep 23 [] 23 (.ifCond .eq 8) 3 = true := by decide +kernel
theorem b_X2_lawfulStep_26_32 : bl2 mX2_lawfulStep 26 [(.iload 4, 2, 4, 0, .null), (.goto 4, 3, 32, 0, .null)] 32 (.ireturn) 1 = true := by decide +kernel
set_option maxRecDepth 20000 in
set_option maxHeartbeats 1000000 in
theorem ev_lawfulStep (E : EE) (L : Nat) (F : FF) (hc : CST F) (n : Nat) (hn : F 10 5 = nI n) (hn10 : n ≤ 10) (sp : Nat) (hsp : shg (SH L) sp = some (.inr (.int, 10))) (hsr : ∀ q : Nat, nthR rowsL sp q = none) (p d : Nat) (hp : p < 10) (hd8 : d < 8) : Ev3 E L 3 mX2_lawfulStep [.ref 16, .ref sp, .int (nI p), .int (nI d)] F (some (.int (lawS (F sp) p d (F 17 2 * F 17 2) n))) F := by
  refine Ev3.of okX2_lawfulStep.2.2.1 (Nat.le_of_ble_eq_true rfl) ?_
  show R2 E L mX2_lawfulStep 3 0 [some (.ref 16), some (.ref sp), some (.int (nI p)), some (.int (nI d)), none] [] F _
  refine R2.B (ls2 := [some (.ref 16), some (.ref sp), some (.int (nI p)), some (.int (nI d)), none]) (st2 := [.int (nI p), .ref sp]) b_X2_lawfulStep_0_2 rfl (fun hd => ?_)
  refine R2.iald p rfl hd hsp hsr (by decide) (by omega) ?_
  refine R2.B (ls2 := [some (.ref 16), some (.ref sp), some (.int (nI p)), some (.int (nI d)), none]) (st2 := [.int (nI d), .int (F sp p)]) b_X2_lawfulStep_3_4 rfl (fun hd => ?_)
  refine R2.callS3 (M2 := mX10_neighbour) (As := [.int (F sp p), .int (nI d)]) (rest := []) hd lk_2_19 okX10_neighbour (by decide) (ev_neighbour E L F hc (F sp p) d (by omega)) (by decide) rfl rfl (Nat.le_of_ble_eq_true rfl) ?_
  refine R2.B (ls2 := [some (.ref 16), some (.ref sp), some (.int (nI p)), some (.int (nI d)), some (.int (nbr (F sp p) d))]) (st2 := [.int (-1), .int (nbr (F sp p) d)]) b_X2_lawfulStep_7_12 rfl (fun hd => ?_)
  refine R2.icmp_eq 31 hd (by decide) (fun c12 => ?_) (fun c12 => ?_)
  · refine R2.B (ls2 := [some (.ref 16), some (.ref sp), some (.int (nI p)), some (.int (nI d)), some (.int (nbr (F sp p) d))]) (st2 := [.int (-1)]) b_X2_lawfulStep_31_32 rfl (fun hd => ?_)
    exact R2.ret3 (r := some (.int (-1))) hd trivial rfl (congrArg (fun z => some (Value.int z)) (by unfold lawS; clear hd; grind)) rfl
  · refine R2.B (ls2 := [some (.ref 16), some (.ref sp), some (.int (nI p)), some (.int (nI d)), some (.int (nbr (F sp p) d))]) (st2 := [.int (nbr (F sp p) d), .int (nI p), .ref sp, .ref 16]) b_X2_lawfulStep_15_20 rfl (fun hd => ?_)
    refine R2.callV3 (M2 := mX2_mayStand) (As := [.ref sp, .int (nI p), .int (nbr (F sp p) d)]) (rest := []) hd lk_2_23 okX2_mayStand (by decide) rfl (ev_mayStand E L F n hn hn10 sp hsp hsr p (nbr (F sp p) d) (by omega)) (by decide) rfl rfl (Nat.le_of_ble_eq_true rfl) ?_
    refine R2.B (ls2 := [some (.ref 16), some (.ref sp), some (.int (nI p)), some (.int (nI d)), some (.int (nbr (F sp p) d))]) (st2 := [.int (b2i (mayS (F sp) p (nbr (F sp p) d) ((F 17 2) * (F 17 2)) n 0 = true))]) b_X2_lawfulStep_23_23 rfl (fun hd => ?_)
    refine R2.if_eq 31 hd (by decide) (fun c23 => ?_) (fun c23 => ?_)
    · have nc23 : ¬ (mayS (F sp) p (nbr (F sp p) d) ((F 17 2) * (F 17 2)) n 0 = true) := b2i_zero.mp c23
      refine R2.B (ls2 := [some (.ref 16), some (.ref sp), some (.int (nI p)), some (.int (nI d)), some (.int (nbr (F sp p) d))]) (st2 := [.int (-1)]) b_X2_lawfulStep_31_32 rfl (fun hd => ?_)
      exact R2.ret3 (r := some (.int (-1))) hd trivial rfl (congrArg (fun z => some (Value.int z)) (by unfold lawS; clear hd; grind)) rfl
    · have nc23 : mayS (F sp) p (nbr (F sp p) d) ((F 17 2) * (F 17 2)) n 0 = true := b2i_nz.mp c23
      refine R2.B (ls2 := [some (.ref 16), some (.ref sp), some (.int (nI p)), some (.int (nI d)), some (.int (nbr (F sp p) d))]) (st2 := [.int (nbr (F sp p) d)]) b_X2_lawfulStep_26_32 rfl (fun hd => ?_)
      exact R2.ret3 (r := some (.int (nbr (F sp p) d))) hd trivial rfl (congrArg (fun z => some (Value.int z)) (by unfold lawS; clear hd; grind)) rfl
theorem b_X2_firstNearer_10_19 : bl2 mX2_firstNearer 10 [(.iload 6, 2, 6, 0, .null), (.aload_n 0, 1, 0, 0, .null), (.getfield 15, 3, 2, 0, .null), (.getfield 31, 3, 0, 5, .null)] 19 (.if_icmp .ge 73) 3 = true := by decide +kernel
theorem b_X2_firstNearer_92_93 : bl2 mX2_firstNearer 92 [(.iconst (-1), 1, 0, 0, .int (-1))] 93 (.ireturn) 1 = true := by decide +kernel
theorem b_X2_firstNearer_22_25 : bl2 mX2_firstNearer 22 [(.iload 6, 2, 6, 0, .null), (.iload_n 2, 1, 2, 0, .null)] 25 (.if_icmp .eq 20) 3 = true := by decide +kernel
theorem b_X2_firstNearer_45_50 : bl2 mX2_firstNearer 45 [(.iconst 0, 1, 0, 0, .int 0), (.istore 7, 2, 7, 0, .null), (.iload 7, 2, 7, 0, .null)] 50 (.ifCond .eq 36) 3 = true := by decide +kernel
theorem b_X2_firstNearer_86_10 : bl2 mX2_firstNearer 86 [(.iinc 6 1, 3, 6, 0, .int 1), (.goto (-79), 3, 10, 0, .null)] 10 (.iload 6) 2 = true := by decide +kernel
theorem b_X2_firstNearer_28_31 : bl2 mX2_firstNearer 28 [(.iload 6, 2, 6, 0, .null), (.iload_n 3, 1, 3, 0, .null)] 31 (.if_icmp .eq 14) 3 = true := by decide +kernel
theorem b_X2_firstNearer_34_38 : bl2 mX2_firstNearer 34 [(.iload 6, 2, 6, 0, .null), (.iload 4, 2, 4, 0, .null)] 38 (.if_icmp .eq 7) 3 = true := by decide +kernel
theorem b_X2_firstNearer_41_50 : bl2 mX2_firstNearer 41 [(.iconst 1, 1, 0, 0, .int 1), (.goto 4, 3, 46, 0, .null), (.istore 7, 2, 7, 0, .null), (.iload 7, 2, 7, 0, .null)] 50 (.ifCond .eq 36) 3 = true := by decide +kernel
theorem b_X2_firstNearer_53_56 : bl2 mX2_firstNearer 53 [(.aload_n 1, 1, 1, 0, .null), (.iload 6, 2, 6, 0, .null)] 56 (.iaload) 1 = true := by decide +kernel
theorem b_X2_firstNearer_57_59 : bl2 mX2_firstNearer 57 [(.aload_n 1, 1, 1, 0, .null), (.iload_n 2, 1, 2, 0, .null)] 59 (.iaload) 1 = true := by decide +kernel
theorem b_X2_firstNearer_60_60 : bl2 mX2_firstNearer 60 [] 60 (.invokestatic 37) 3 = true := by decide +kernel
theorem b_X2_firstNearer_63_65 : bl2 mX2_firstNearer 63 [(.iload 5, 2, 5, 0, .null)] 65 (.if_icmp .lt 18) 3 = true := by decide +kernel
theorem b_X2_firstNearer_83_85 : bl2 mX2_firstNearer 83 [(.iload 6, 2, 6, 0, .null)] 85 (.ireturn) 1 = true := by decide +kernel
theorem b_X2_firstNearer_68_71 : bl2 mX2_firstNearer 68 [(.aload_n 1, 1, 1, 0, .null), (.iload 6, 2, 6, 0, .null)] 71 (.iaload) 1 = true := by decide +kernel
theorem b_X2_firstNearer_72_74 : bl2 mX2_firstNearer 72 [(.aload_n 1, 1, 1, 0, .null), (.iload_n 3, 1, 3, 0, .null)] 74 (.iaload) 1 = true := by decide +kernel
theorem b_X2_firstNearer_75_75 : bl2 mX2_firstNearer 75 [] 75 (.invokestatic 37) 3 = true := by decide +kernel
theorem b_X2_firstNearer_78_80 : bl2 mX2_firstNearer 78 [(.iload 5, 2, 5, 0, .null)] 80 (.if_icmp .ge 6) 3 = true := by decide +kernel
set_option maxRecDepth 20000 in
set_option maxHeartbeats 2000000 in
theorem lp_firstNearer (E : EE) (L : Nat) (F : FF) (n : Nat) (hn : F 10 5 = nI n) (hn10 : n ≤ 10) (sp : Nat) (hsp : shg (SH L) sp = some (.inr (.int, 10))) (hsr : ∀ q : Nat, nthR rowsL sp q = none) (a b : Nat) (w clr : Int32) (ha : a < 10) (hb : b < 10) : ∀ (k : Nat) (i : Nat), i + k = n → R2 E L mX2_firstNearer 2 10 [some (.ref 16), some (.ref sp), some (.int (nI a)), some (.int (nI b)), some (.int w), some (.int clr), some (.int (nI i)), none] [] F (fun r' F' => r' = some (.int (fnr (F sp) a b w clr k i)) ∧ F' = F) := by
  intro k
  induction k with
  | zero =>
    intro i hi
    refine R2.B (ls2 := [some (.ref 16), some (.ref sp), some (.int (nI a)), some (.int (nI b)), some (.int w), some (.int clr), some (.int (nI i)), none]) (st2 := [.int (F 10 5), .int (nI i)]) b_X2_firstNearer_10_19 rfl (fun hd => ?_)
    rw [show (F 10 5 : Int32) = nI n from hn]
    refine R2.icmp_ge 92 hd (by decide) (fun c19 => ?_) (fun c19 => absurd (nI_le (by omega) (by omega)) c19)
    refine R2.B (ls2 := [some (.ref 16), some (.ref sp), some (.int (nI a)), some (.int (nI b)), some (.int w), some (.int clr), some (.int (nI i)), none]) (st2 := [.int (-1)]) b_X2_firstNearer_92_93 rfl (fun hd => ?_)
    exact R2.ret3 (r := some (.int (-1))) hd trivial rfl (congrArg (fun z => some (Value.int z)) (by clear hd; simp only [fnr] <;> grind)) rfl
  | succ k ih =>
    intro i hi
    refine R2.B (ls2 := [some (.ref 16), some (.ref sp), some (.int (nI a)), some (.int (nI b)), some (.int w), some (.int clr), some (.int (nI i)), none]) (st2 := [.int (F 10 5), .int (nI i)]) b_X2_firstNearer_10_19 rfl (fun hd => ?_)
    rw [show (F 10 5 : Int32) = nI n from hn]
    refine R2.icmp_ge 92 hd (by decide) (fun c19 => absurd c19 (nI_ge (by omega) (by omega))) (fun c19 => ?_)
    refine R2.B (ls2 := [some (.ref 16), some (.ref sp), some (.int (nI a)), some (.int (nI b)), some (.int w), some (.int clr), some (.int (nI i)), none]) (st2 := [.int (nI a), .int (nI i)]) b_X2_firstNearer_22_25 rfl (fun hd => ?_)
    refine R2.icmp_eq 45 hd (by decide) (fun c25 => ?_) (fun c25 => ?_)
    · have nc25 : i = a := (nI_eq (a := i) (b := a) (by omega) (by omega)).mp c25
      refine R2.B (ls2 := [some (.ref 16), some (.ref sp), some (.int (nI a)), some (.int (nI b)), some (.int w), some (.int clr), some (.int (nI i)), some (.int 0)]) (st2 := [.int 0]) b_X2_firstNearer_45_50 rfl (fun hd => ?_)
      refine R2.if_eq 86 hd (by decide) (fun c50 => ?_) (fun c50 => absurd (by decide) c50)
      refine R2.B (ls2 := [some (.ref 16), some (.ref sp), some (.int (nI a)), some (.int (nI b)), some (.int w), some (.int clr), some (.int ((nI i) + 1)), some (.int 0)]) (st2 := []) b_X2_firstNearer_86_10 rfl (fun hd => ?_)
      rw [show ((nI i) + 1 : Int32) = nI (i + 1) from nI_add i 1]
      rw [show fnr (F sp) a b w clr (k + 1) i = fnr (F sp) a b w clr k (i + 1) from (by clear hd; simp only [fnr] <;> grind)]
      refine R2.forget (ls2 := [some (.ref 16), some (.ref sp), some (.int (nI a)), some (.int (nI b)), some (.int w), some (.int clr), some (.int (nI (i + 1))), none]) ⟨rfl, ⟨rfl, ⟨rfl, ⟨rfl, ⟨rfl, ⟨rfl, ⟨rfl, trivial⟩⟩⟩⟩⟩⟩⟩ ?_
      exact ih (i + 1) (by omega)
    · have nc25 : ¬ i = a := fun h9 => c25 ((nI_eq (a := i) (b := a) (by omega) (by omega)).mpr h9)
      refine R2.B (ls2 := [some (.ref 16), some (.ref sp), some (.int (nI a)), some (.int (nI b)), some (.int w), some (.int clr), some (.int (nI i)), none]) (st2 := [.int (nI b), .int (nI i)]) b_X2_firstNearer_28_31 rfl (fun hd => ?_)
      refine R2.icmp_eq 45 hd (by decide) (fun c31 => ?_) (fun c31 => ?_)
      · have nc31 : i = b := (nI_eq (a := i) (b := b) (by omega) (by omega)).mp c31
        refine R2.B (ls2 := [some (.ref 16), some (.ref sp), some (.int (nI a)), some (.int (nI b)), some (.int w), some (.int clr), some (.int (nI i)), some (.int 0)]) (st2 := [.int 0]) b_X2_firstNearer_45_50 rfl (fun hd => ?_)
        refine R2.if_eq 86 hd (by decide) (fun c50 => ?_) (fun c50 => absurd (by decide) c50)
        refine R2.B (ls2 := [some (.ref 16), some (.ref sp), some (.int (nI a)), some (.int (nI b)), some (.int w), some (.int clr), some (.int ((nI i) + 1)), some (.int 0)]) (st2 := []) b_X2_firstNearer_86_10 rfl (fun hd => ?_)
        rw [show ((nI i) + 1 : Int32) = nI (i + 1) from nI_add i 1]
        rw [show fnr (F sp) a b w clr (k + 1) i = fnr (F sp) a b w clr k (i + 1) from (by clear hd; simp only [fnr] <;> grind)]
        refine R2.forget (ls2 := [some (.ref 16), some (.ref sp), some (.int (nI a)), some (.int (nI b)), some (.int w), some (.int clr), some (.int (nI (i + 1))), none]) ⟨rfl, ⟨rfl, ⟨rfl, ⟨rfl, ⟨rfl, ⟨rfl, ⟨rfl, trivial⟩⟩⟩⟩⟩⟩⟩ ?_
        exact ih (i + 1) (by omega)
      · have nc31 : ¬ i = b := fun h9 => c31 ((nI_eq (a := i) (b := b) (by omega) (by omega)).mpr h9)
        refine R2.B (ls2 := [some (.ref 16), some (.ref sp), some (.int (nI a)), some (.int (nI b)), some (.int w), some (.int clr), some (.int (nI i)), none]) (st2 := [.int w, .int (nI i)]) b_X2_firstNearer_34_38 rfl (fun hd => ?_)
        refine R2.icmp_eq 45 hd (by decide) (fun c38 => ?_) (fun c38 => ?_)
        · refine R2.B (ls2 := [some (.ref 16), some (.ref sp), some (.int (nI a)), some (.int (nI b)), some (.int w), some (.int clr), some (.int (nI i)), some (.int 0)]) (st2 := [.int 0]) b_X2_firstNearer_45_50 rfl (fun hd => ?_)
          refine R2.if_eq 86 hd (by decide) (fun c50 => ?_) (fun c50 => absurd (by decide) c50)
          refine R2.B (ls2 := [some (.ref 16), some (.ref sp), some (.int (nI a)), some (.int (nI b)), some (.int w), some (.int clr), some (.int ((nI i) + 1)), some (.int 0)]) (st2 := []) b_X2_firstNearer_86_10 rfl (fun hd => ?_)
          rw [show ((nI i) + 1 : Int32) = nI (i + 1) from nI_add i 1]
          rw [show fnr (F sp) a b w clr (k + 1) i = fnr (F sp) a b w clr k (i + 1) from (by clear hd; simp only [fnr] <;> grind)]
          refine R2.forget (ls2 := [some (.ref 16), some (.ref sp), some (.int (nI a)), some (.int (nI b)), some (.int w), some (.int clr), some (.int (nI (i + 1))), none]) ⟨rfl, ⟨rfl, ⟨rfl, ⟨rfl, ⟨rfl, ⟨rfl, ⟨rfl, trivial⟩⟩⟩⟩⟩⟩⟩ ?_
          exact ih (i + 1) (by omega)
        · refine R2.B (ls2 := [some (.ref 16), some (.ref sp), some (.int (nI a)), some (.int (nI b)), some (.int w), some (.int clr), some (.int (nI i)), some (.int 1)]) (st2 := [.int 1]) b_X2_firstNearer_41_50 rfl (fun hd => ?_)
          refine R2.if_eq 86 hd (by decide) (fun c50 => absurd c50 (by decide)) (fun c50 => ?_)
          refine R2.B (ls2 := [some (.ref 16), some (.ref sp), some (.int (nI a)), some (.int (nI b)), some (.int w), some (.int clr), some (.int (nI i)), some (.int 1)]) (st2 := [.int (nI i), .ref sp]) b_X2_firstNearer_53_56 rfl (fun hd => ?_)
          refine R2.iald i rfl hd hsp hsr (by decide) (by omega) ?_
          refine R2.B (ls2 := [some (.ref 16), some (.ref sp), some (.int (nI a)), some (.int (nI b)), some (.int w), some (.int clr), some (.int (nI i)), some (.int 1)]) (st2 := [.int (nI a), .ref sp, .int (F sp i)]) b_X2_firstNearer_57_59 rfl (fun hd => ?_)
          refine R2.iald a rfl hd hsp hsr (by decide) (by omega) ?_
          refine R2.B (ls2 := [some (.ref 16), some (.ref sp), some (.int (nI a)), some (.int (nI b)), some (.int w), some (.int clr), some (.int (nI i)), some (.int 1)]) (st2 := [.int (F sp a), .int (F sp i)]) b_X2_firstNearer_60_60 rfl (fun hd => ?_)
          refine R2.callS3 (M2 := mX10_between) (As := [.int (F sp i), .int (F sp a)]) (rest := []) hd lk_2_37 okX10_between (by decide) (ev_between E L F (F sp i) (F sp a)) (by decide) rfl rfl (Nat.le_of_ble_eq_true rfl) ?_
          refine R2.B (ls2 := [some (.ref 16), some (.ref sp), some (.int (nI a)), some (.int (nI b)), some (.int w), some (.int clr), some (.int (nI i)), some (.int 1)]) (st2 := [.int clr, .int (awy (F sp i) (F sp a))]) b_X2_firstNearer_63_65 rfl (fun hd => ?_)
          refine R2.icmp_lt 83 hd (by decide) (fun c65 => ?_) (fun c65 => ?_)
          · refine R2.B (ls2 := [some (.ref 16), some (.ref sp), some (.int (nI a)), some (.int (nI b)), some (.int w), some (.int clr), some (.int (nI i)), some (.int 1)]) (st2 := [.int (nI i)]) b_X2_firstNearer_83_85 rfl (fun hd => ?_)
            exact R2.ret3 (r := some (.int (nI i))) hd trivial rfl (congrArg (fun z => some (Value.int z)) (by clear hd; simp only [fnr] <;> grind)) rfl
          · refine R2.B (ls2 := [some (.ref 16), some (.ref sp), some (.int (nI a)), some (.int (nI b)), some (.int w), some (.int clr), some (.int (nI i)), some (.int 1)]) (st2 := [.int (nI i), .ref sp]) b_X2_firstNearer_68_71 rfl (fun hd => ?_)
            refine R2.iald i rfl hd hsp hsr (by decide) (by omega) ?_
            refine R2.B (ls2 := [some (.ref 16), some (.ref sp), some (.int (nI a)), some (.int (nI b)), some (.int w), some (.int clr), some (.int (nI i)), some (.int 1)]) (st2 := [.int (nI b), .ref sp, .int (F sp i)]) b_X2_firstNearer_72_74 rfl (fun hd => ?_)
            refine R2.iald b rfl hd hsp hsr (by decide) (by omega) ?_
            refine R2.B (ls2 := [some (.ref 16), some (.ref sp), some (.int (nI a)), some (.int (nI b)), some (.int w), some (.int clr), some (.int (nI i)), some (.int 1)]) (st2 := [.int (F sp b), .int (F sp i)]) b_X2_firstNearer_75_75 rfl (fun hd => ?_)
            refine R2.callS3 (M2 := mX10_between) (As := [.int (F sp i), .int (F sp b)]) (rest := []) hd lk_2_37 okX10_between (by decide) (ev_between E L F (F sp i) (F sp b)) (by decide) rfl rfl (Nat.le_of_ble_eq_true rfl) ?_
            refine R2.B (ls2 := [some (.ref 16), some (.ref sp), some (.int (nI a)), some (.int (nI b)), some (.int w), some (.int clr), some (.int (nI i)), some (.int 1)]) (st2 := [.int clr, .int (awy (F sp i) (F sp b))]) b_X2_firstNearer_78_80 rfl (fun hd => ?_)
            refine R2.icmp_ge 86 hd (by decide) (fun c80 => ?_) (fun c80 => ?_)
            · refine R2.B (ls2 := [some (.ref 16), some (.ref sp), some (.int (nI a)), some (.int (nI b)), some (.int w), some (.int clr), some (.int ((nI i) + 1)), some (.int 1)]) (st2 := []) b_X2_firstNearer_86_10 rfl (fun hd => ?_)
              rw [show ((nI i) + 1 : Int32) = nI (i + 1) from nI_add i 1]
              rw [show fnr (F sp) a b w clr (k + 1) i = fnr (F sp) a b w clr k (i + 1) from (by clear hd; simp only [fnr] <;> grind)]
              refine R2.forget (ls2 := [some (.ref 16), some (.ref sp), some (.int (nI a)), some (.int (nI b)), some (.int w), some (.int clr), some (.int (nI (i + 1))), none]) ⟨rfl, ⟨rfl, ⟨rfl, ⟨rfl, ⟨rfl, ⟨rfl, ⟨rfl, trivial⟩⟩⟩⟩⟩⟩⟩ ?_
              exact ih (i + 1) (by omega)
            · refine R2.B (ls2 := [some (.ref 16), some (.ref sp), some (.int (nI a)), some (.int (nI b)), some (.int w), some (.int clr), some (.int (nI i)), some (.int 1)]) (st2 := [.int (nI i)]) b_X2_firstNearer_83_85 rfl (fun hd => ?_)
              exact R2.ret3 (r := some (.int (nI i))) hd trivial rfl (congrArg (fun z => some (Value.int z)) (by clear hd; simp only [fnr] <;> grind)) rfl
theorem b_X2_firstNearer_0_2 : bl2 mX2_firstNearer 0 [(.aload_n 0, 1, 0, 0, .null), (.iconst 1, 1, 0, 0, .int 1)] 2 (.invokevirtual 27) 3 = true := by decide +kernel
theorem b_X2_firstNearer_5_10 : bl2 mX2_firstNearer 5 [(.istore 5, 2, 5, 0, .null), (.iconst 0, 1, 0, 0, .int 0), (.istore 6, 2, 6, 0, .null)] 10 (.iload 6) 2 = true := by decide +kernel
set_option maxRecDepth 20000 in
set_option maxHeartbeats 1000000 in
theorem ev_firstNearer (E : EE) (L : Nat) (F : FF) (n : Nat) (hn : F 10 5 = nI n) (hn10 : n ≤ 10) (sp : Nat) (hsp : shg (SH L) sp = some (.inr (.int, 10))) (hsr : ∀ q : Nat, nthR rowsL sp q = none) (a b : Nat) (w : Int32) (ha : a < 10) (hb : b < 10) : Ev3 E L 2 mX2_firstNearer [.ref 16, .ref sp, .int (nI a), .int (nI b), .int w] F (some (.int (fnr (F sp) a b w (F 17 1 * F 17 1) n 0))) F := by
  refine Ev3.of okX2_firstNearer.2.2.1 (Nat.le_of_ble_eq_true rfl) ?_
  show R2 E L mX2_firstNearer 2 0 [some (.ref 16), some (.ref sp), some (.int (nI a)), some (.int (nI b)), some (.int w), none, none, none] [] F _
  refine R2.B (ls2 := [some (.ref 16), some (.ref sp), some (.int (nI a)), some (.int (nI b)), some (.int w), none, none, none]) (st2 := [.int 1, .ref 16]) b_X2_firstNearer_0_2 rfl (fun hd => ?_)
  refine R2.callV3 (M2 := mX2_square) (As := [.int 1]) (rest := []) hd lk_2_27 okX2_square (by decide) rfl (ev_square E L F 1 (by decide)) (by decide) rfl rfl (Nat.le_of_ble_eq_true rfl) ?_
  refine R2.B (ls2 := [some (.ref 16), some (.ref sp), some (.int (nI a)), some (.int (nI b)), some (.int w), some (.int ((F 17 1) * (F 17 1))), some (.int 0), none]) (st2 := []) b_X2_firstNearer_5_10 rfl (fun hd => ?_)
  exact lp_firstNearer E L F n hn hn10 sp hsp hsr a b w _ ha hb n 0 (by omega)
theorem b_X2_verdictBy_0_2 : bl2 mX2_verdictBy 0 [(.aload_n 2, 1, 2, 0, .null), (.iload_n 3, 1, 3, 0, .null)] 2 (.iaload) 1 = true := by decide +kernel
theorem b_X2_verdictBy_3_6 : bl2 mX2_verdictBy 3 [(.aload_n 2, 1, 2, 0, .null), (.iload 4, 2, 4, 0, .null)] 6 (.iaload) 1 = true := by decide +kernel
theorem b_X2_verdictBy_7_7 : bl2 mX2_verdictBy 7 [] 7 (.invokestatic 37) 3 = true := by decide +kernel
theorem b_X2_verdictBy_10_13 : bl2 mX2_verdictBy 10 [(.iload_n 1, 1, 1, 0, .null), (.iload_n 1, 1, 1, 0, .null), (.imul, 1, 0, 0, .null)] 13 (.if_icmp .eq 5) 3 = true := by decide +kernel
theorem b_X2_verdictBy_18_25 : bl2 mX2_verdictBy 18 [(.aload_n 0, 1, 0, 0, .null), (.aload_n 2, 1, 2, 0, .null), (.iload_n 3, 1, 3, 0, .null), (.iload 4, 2, 4, 0, .null), (.iload 5, 2, 5, 0, .null)] 25 (.invokevirtual 61) 3 = true := by decide +kernel
theorem b_X2_verdictBy_28_29 : bl2 mX2_verdictBy 28 [(.iconst (-1), 1, 0, 0, .int (-1))] 29 (.if_icmp .eq 5) 3 = true := by decide +kernel
theorem b_X2_verdictBy_34_41 : bl2 mX2_verdictBy 34 [(.aload_n 0, 1, 0, 0, .null), (.getfield 15, 3, 2, 0, .null), (.iload_n 3, 1, 3, 0, .null), (.iload 4, 2, 4, 0, .null)] 41 (.invokevirtual 64) 3 = true := by decide +kernel
theorem b_X2_verdictBy_44_44 : bl2 mX2_verdictBy 44 [] 44 (.ifCond .eq 7) 3 = true := by decide +kernel
theorem b_X2_verdictBy_51_52 : bl2 mX2_verdictBy 51 [(.iconst 3, 1, 0, 0, .int 3)] 52 (.ireturn) 1 = true := by decide +kernel
theorem b_X2_verdictBy_47_52 : bl2 mX2_verdictBy 47 [(.iconst 0, 1, 0, 0, .int 0), (.goto 4, 3, 52, 0, .null)] 52 (.ireturn) 1 = true := by decide +kernel
theorem b_X2_verdictBy_32_33 : bl2 mX2_verdictBy 32 [(.iconst 2, 1, 0, 0, .int 2)] 33 (.ireturn) 1 = true := by decide +kernel
theorem b_X2_verdictBy_16_17 : bl2 mX2_verdictBy 16 [(.iconst 1, 1, 0, 0, .int 1)] 17 (.ireturn) 1 = true := by decide +kernel
set_option maxRecDepth 20000 in
set_option maxHeartbeats 1000000 in
theorem ev_verdictBy (E : EE) (L : Nat) (F : FF) (n : Nat) (hn : F 10 5 = nI n) (hn10 : n ≤ 10) (sp : Nat) (hsp : shg (SH L) sp = some (.inr (.int, 10))) (hsr : ∀ q : Nat, nthR rowsL sp q = none) (a b : Nat) (due w : Int32) (ha : a < 10) (hb : b < 10) : Ev3 E L 3 mX2_verdictBy [.ref 16, .int due, .ref sp, .int (nI a), .int (nI b), .int w] F (some (.int (cvd F (F sp) n due w a b))) F := by
  refine Ev3.of okX2_verdictBy.2.2.1 (Nat.le_of_ble_eq_true rfl) ?_
  show R2 E L mX2_verdictBy 3 0 [some (.ref 16), some (.int due), some (.ref sp), some (.int (nI a)), some (.int (nI b)), some (.int w)] [] F _
  refine R2.B (ls2 := [some (.ref 16), some (.int due), some (.ref sp), some (.int (nI a)), some (.int (nI b)), some (.int w)]) (st2 := [.int (nI a), .ref sp]) b_X2_verdictBy_0_2 rfl (fun hd => ?_)
  refine R2.iald a rfl hd hsp hsr (by decide) (by omega) ?_
  refine R2.B (ls2 := [some (.ref 16), some (.int due), some (.ref sp), some (.int (nI a)), some (.int (nI b)), some (.int w)]) (st2 := [.int (nI b), .ref sp, .int (F sp a)]) b_X2_verdictBy_3_6 rfl (fun hd => ?_)
  refine R2.iald b rfl hd hsp hsr (by decide) (by omega) ?_
  refine R2.B (ls2 := [some (.ref 16), some (.int due), some (.ref sp), some (.int (nI a)), some (.int (nI b)), some (.int w)]) (st2 := [.int (F sp b), .int (F sp a)]) b_X2_verdictBy_7_7 rfl (fun hd => ?_)
  refine R2.callS3 (M2 := mX10_between) (As := [.int (F sp a), .int (F sp b)]) (rest := []) hd lk_2_37 okX10_between (by decide) (ev_between E L F (F sp a) (F sp b)) (by decide) rfl rfl (Nat.le_of_ble_eq_true rfl) ?_
  refine R2.B (ls2 := [some (.ref 16), some (.int due), some (.ref sp), some (.int (nI a)), some (.int (nI b)), some (.int w)]) (st2 := [.int (due * due), .int (awy (F sp a) (F sp b))]) b_X2_verdictBy_10_13 rfl (fun hd => ?_)
  refine R2.icmp_eq 18 hd (by decide) (fun c13 => ?_) (fun c13 => ?_)
  · refine R2.B (ls2 := [some (.ref 16), some (.int due), some (.ref sp), some (.int (nI a)), some (.int (nI b)), some (.int w)]) (st2 := [.int w, .int (nI b), .int (nI a), .ref sp, .ref 16]) b_X2_verdictBy_18_25 rfl (fun hd => ?_)
    refine R2.callV3 (M2 := mX2_firstNearer) (As := [.ref sp, .int (nI a), .int (nI b), .int w]) (rest := []) hd lk_2_61 okX2_firstNearer (by decide) rfl (ev_firstNearer E L F n hn hn10 sp hsp hsr a b w (by omega) (by omega)) (by decide) rfl rfl (Nat.le_of_ble_eq_true rfl) ?_
    refine R2.B (ls2 := [some (.ref 16), some (.int due), some (.ref sp), some (.int (nI a)), some (.int (nI b)), some (.int w)]) (st2 := [.int (-1), .int (fnr (F sp) a b w ((F 17 1) * (F 17 1)) n 0)]) b_X2_verdictBy_28_29 rfl (fun hd => ?_)
    refine R2.icmp_eq 34 hd (by decide) (fun c29 => ?_) (fun c29 => ?_)
    · refine R2.B (ls2 := [some (.ref 16), some (.int due), some (.ref sp), some (.int (nI a)), some (.int (nI b)), some (.int w)]) (st2 := [.int (nI b), .int (nI a), .ref 10]) b_X2_verdictBy_34_41 rfl (fun hd => ?_)
      refine R2.callV3 (M2 := mX0_canTrade) (As := [.int (nI a), .int (nI b)]) (rest := []) hd lk_2_64 okX0_canTrade (by decide) rfl (ev_canTrade E L F a b (by omega) (by omega)) (by decide) rfl rfl (Nat.le_of_ble_eq_true rfl) ?_
      refine R2.B (ls2 := [some (.ref 16), some (.int due), some (.ref sp), some (.int (nI a)), some (.int (nI b)), some (.int w)]) (st2 := [.int (b2i (trd (F 11) (F 12) (F 13) a b))]) b_X2_verdictBy_44_44 rfl (fun hd => ?_)
      refine R2.if_eq 51 hd (by decide) (fun c44 => ?_) (fun c44 => ?_)
      · have nc44 : ¬ (trd (F 11) (F 12) (F 13) a b) := b2i_zero.mp c44
        refine R2.B (ls2 := [some (.ref 16), some (.int due), some (.ref sp), some (.int (nI a)), some (.int (nI b)), some (.int w)]) (st2 := [.int 3]) b_X2_verdictBy_51_52 rfl (fun hd => ?_)
        exact R2.ret3 (r := some (.int 3)) hd trivial rfl (congrArg (fun z => some (Value.int z)) (by unfold cvd vdB; clear hd; grind)) rfl
      · have nc44 : trd (F 11) (F 12) (F 13) a b := b2i_nz.mp c44
        refine R2.B (ls2 := [some (.ref 16), some (.int due), some (.ref sp), some (.int (nI a)), some (.int (nI b)), some (.int w)]) (st2 := [.int 0]) b_X2_verdictBy_47_52 rfl (fun hd => ?_)
        exact R2.ret3 (r := some (.int 0)) hd trivial rfl (congrArg (fun z => some (Value.int z)) (by unfold cvd vdB; clear hd; grind)) rfl
    · refine R2.B (ls2 := [some (.ref 16), some (.int due), some (.ref sp), some (.int (nI a)), some (.int (nI b)), some (.int w)]) (st2 := [.int 2]) b_X2_verdictBy_32_33 rfl (fun hd => ?_)
      exact R2.ret3 (r := some (.int 2)) hd trivial rfl (congrArg (fun z => some (Value.int z)) (by unfold cvd vdB; clear hd; grind)) rfl
  · refine R2.B (ls2 := [some (.ref 16), some (.int due), some (.ref sp), some (.int (nI a)), some (.int (nI b)), some (.int w)]) (st2 := [.int 1]) b_X2_verdictBy_16_17 rfl (fun hd => ?_)
    exact R2.ret3 (r := some (.int 1)) hd trivial rfl (congrArg (fun z => some (Value.int z)) (by unfold cvd vdB; clear hd; grind)) rfl
theorem b_X2_verdict_0_6 : bl2 mX2_verdict 0 [(.aload_n 0, 1, 0, 0, .null), (.aload_n 0, 1, 0, 0, .null), (.getfield 9, 3, 2, 1, .null), (.iconst 0, 1, 0, 0, .int 0)] 6 (.iaload) 1 = true := by decide +kernel
theorem b_X2_verdict_7_12 : bl2 mX2_verdict 7 [(.aload_n 1, 1, 1, 0, .null), (.iload_n 2, 1, 2, 0, .null), (.iload_n 3, 1, 3, 0, .null), (.iload 4, 2, 4, 0, .null)] 12 (.invokevirtual 40) 3 = true := by decide +kernel
theorem b_X2_verdict_15_15 : bl2 mX2_verdict 15 [] 15 (.ireturn) 1 = true := by decide +kernel
set_option maxRecDepth 20000 in
set_option maxHeartbeats 1000000 in
theorem ev_verdict (E : EE) (L : Nat) (F : FF) (n : Nat) (hn : F 10 5 = nI n) (hn10 : n ≤ 10) (sp : Nat) (hsp : shg (SH L) sp = some (.inr (.int, 10))) (hsr : ∀ q : Nat, nthR rowsL sp q = none) (a b : Nat) (w : Int32) (ha : a < 10) (hb : b < 10) : Ev3 E L 4 mX2_verdict [.ref 16, .ref sp, .int (nI a), .int (nI b), .int w] F (some (.int (cvd F (F sp) n (F 17 0) w a b))) F := by
  refine Ev3.of okX2_verdict.2.2.1 (Nat.le_of_ble_eq_true rfl) ?_
  show R2 E L mX2_verdict 4 0 [some (.ref 16), some (.ref sp), some (.int (nI a)), some (.int (nI b)), some (.int w)] [] F _
  refine R2.B (ls2 := [some (.ref 16), some (.ref sp), some (.int (nI a)), some (.int (nI b)), some (.int w)]) (st2 := [.int 0, .ref 17, .ref 16]) b_X2_verdict_0_6 rfl (fun hd => ?_)
  refine R2.iald 0 rfl hd rfl (fun _ => rfl) (by decide) (by omega) ?_
  refine R2.B (ls2 := [some (.ref 16), some (.ref sp), some (.int (nI a)), some (.int (nI b)), some (.int w)]) (st2 := [.int w, .int (nI b), .int (nI a), .ref sp, .int (F 17 0), .ref 16]) b_X2_verdict_7_12 rfl (fun hd => ?_)
  refine R2.callV3 (M2 := mX2_verdictBy) (As := [.int (F 17 0), .ref sp, .int (nI a), .int (nI b), .int w]) (rest := []) hd lk_2_40 okX2_verdictBy (by decide) rfl (ev_verdictBy E L F n hn hn10 sp hsp hsr a b (F 17 0) w (by omega) (by omega)) (by decide) rfl rfl (Nat.le_of_ble_eq_true rfl) ?_
  refine R2.B (ls2 := [some (.ref 16), some (.ref sp), some (.int (nI a)), some (.int (nI b)), some (.int w)]) (st2 := [.int (cvd F (F sp) n (F 17 0) w a b)]) b_X2_verdict_15_15 rfl (fun hd => ?_)
  exact R2.ret3 (r := some (.int (cvd F (F sp) n (F 17 0) w a b))) hd trivial rfl rfl rfl
end
section
/-! Market's loops. Printed by wip/whole/gen/spec4.py. -/
theorem b_X2_isHinderedBy_0_11 : bl2 mX2_isHinderedBy 0 [(.aload_n 0, 1, 0, 0, .null), (.aload_n 0, 1, 0, 0, .null), (.getfield 15, 3, 2, 0, .null), (.getfield 44, 3, 0, 4, .null), (.iload_n 2, 1, 2, 0, .null), (.iload_n 3, 1, 3, 0, .null), (.iload_n 1, 1, 1, 0, .null)] 11 (.invokevirtual 57) 3 = true := by decide +kernel
theorem b_X2_isHinderedBy_14_14 : bl2 mX2_isHinderedBy 14 [] 14 (.ifCond .ne 24) 3 = true := by decide +kernel
theorem b_X2_isHinderedBy_38_39 : bl2 mX2_isHinderedBy 38 [(.iconst 0, 1, 0, 0, .int 0)] 39 (.ireturn) 1 = true := by decide +kernel
theorem b_X2_isHinderedBy_17_28 : bl2 mX2_isHinderedBy 17 [(.aload_n 0, 1, 0, 0, .null), (.aload_n 0, 1, 0, 0, .null), (.getfield 15, 3, 2, 0, .null), (.getfield 44, 3, 0, 4, .null), (.iload_n 2, 1, 2, 0, .null), (.iload_n 3, 1, 3, 0, .null), (.iconst (-1), 1, 0, 0, .int (-1))] 28 (.invokevirtual 57) 3 = true := by decide +kernel
theorem b_X2_isHinderedBy_31_31 : bl2 mX2_isHinderedBy 31 [] 31 (.ifCond .eq 7) 3 = true := by decide +kernel
theorem b_X2_isHinderedBy_34_39 : bl2 mX2_isHinderedBy 34 [(.iconst 1, 1, 0, 0, .int 1), (.goto 4, 3, 39, 0, .null)] 39 (.ireturn) 1 = true := by decide +kernel
set_option maxRecDepth 20000 in
set_option maxHeartbeats 1000000 in
theorem ev_isHinderedBy (E : EE) (L : Nat) (F : FF) (n : Nat) (hn : F 10 5 = nI n) (hn10 : n ≤ 10) (p a b : Nat) (ha : a < 10) (hb : b < 10) : Ev3 E L 5 mX2_isHinderedBy [.ref 16, .int (nI p), .int (nI a), .int (nI b)] F (some (.int (b2i (hndC F n p a b)))) F := by
  refine Ev3.of okX2_isHinderedBy.2.2.1 (Nat.le_of_ble_eq_true rfl) ?_
  show R2 E L mX2_isHinderedBy 5 0 [some (.ref 16), some (.int (nI p)), some (.int (nI a)), some (.int (nI b))] [] F _
  refine R2.B (ls2 := [some (.ref 16), some (.int (nI p)), some (.int (nI a)), some (.int (nI b))]) (st2 := [.int (nI p), .int (nI b), .int (nI a), .ref 15, .ref 16]) b_X2_isHinderedBy_0_11 rfl (fun hd => ?_)
  refine R2.callV3 (M2 := mX2_verdict) (As := [.ref 15, .int (nI a), .int (nI b), .int (nI p)]) (rest := []) hd lk_2_57 okX2_verdict (by decide) rfl (ev_verdict E L F n hn hn10 15 rfl (fun _ => rfl) a b (nI p) (by omega) (by omega)) (by decide) rfl rfl (Nat.le_of_ble_eq_true rfl) ?_
  refine R2.B (ls2 := [some (.ref 16), some (.int (nI p)), some (.int (nI a)), some (.int (nI b))]) (st2 := [.int (cvd F (F 15) n (F 17 0) (nI p) a b)]) b_X2_isHinderedBy_14_14 rfl (fun hd => ?_)
  refine R2.if_ne 38 hd (by decide) (fun c14 => ?_) (fun c14 => ?_)
  · refine R2.B (ls2 := [some (.ref 16), some (.int (nI p)), some (.int (nI a)), some (.int (nI b))]) (st2 := [.int 0]) b_X2_isHinderedBy_38_39 rfl (fun hd => ?_)
    exact R2.ret3 (r := some (.int 0)) hd (Or.inl rfl) rfl (congrArg (fun z => some (Value.int z)) (b2i_f (by clear hd; grind))) rfl
  · refine R2.B (ls2 := [some (.ref 16), some (.int (nI p)), some (.int (nI a)), some (.int (nI b))]) (st2 := [.int (-1), .int (nI b), .int (nI a), .ref 15, .ref 16]) b_X2_isHinderedBy_17_28 rfl (fun hd => ?_)
    refine R2.callV3 (M2 := mX2_verdict) (As := [.ref 15, .int (nI a), .int (nI b), .int (-1)]) (rest := []) hd lk_2_57 okX2_verdict (by decide) rfl (ev_verdict E L F n hn hn10 15 rfl (fun _ => rfl) a b (-1) (by omega) (by omega)) (by decide) rfl rfl (Nat.le_of_ble_eq_true rfl) ?_
    refine R2.B (ls2 := [some (.ref 16), some (.int (nI p)), some (.int (nI a)), some (.int (nI b))]) (st2 := [.int (cvd F (F 15) n (F 17 0) (-1) a b)]) b_X2_isHinderedBy_31_31 rfl (fun hd => ?_)
    refine R2.if_eq 38 hd (by decide) (fun c31 => ?_) (fun c31 => ?_)
    · refine R2.B (ls2 := [some (.ref 16), some (.int (nI p)), some (.int (nI a)), some (.int (nI b))]) (st2 := [.int 0]) b_X2_isHinderedBy_38_39 rfl (fun hd => ?_)
      exact R2.ret3 (r := some (.int 0)) hd (Or.inl rfl) rfl (congrArg (fun z => some (Value.int z)) (b2i_f (by clear hd; grind))) rfl
    · refine R2.B (ls2 := [some (.ref 16), some (.int (nI p)), some (.int (nI a)), some (.int (nI b))]) (st2 := [.int 1]) b_X2_isHinderedBy_34_39 rfl (fun hd => ?_)
      exact R2.ret3 (r := some (.int 1)) hd (Or.inr rfl) rfl (congrArg (fun z => some (Value.int z)) (b2i_t (by clear hd; grind))) rfl
theorem b_X2_bindingPairs_20_29 : bl2 mX2_bindingPairs 20 [(.iload 4, 2, 4, 0, .null), (.aload_n 0, 1, 0, 0, .null), (.getfield 15, 3, 2, 0, .null), (.getfield 31, 3, 0, 5, .null)] 29 (.if_icmp .ge 31) 3 = true := by decide +kernel
theorem b_X2_bindingPairs_60_60 : bl2 mX2_bindingPairs 60 [] 60 (.iinc 3 1) 3 = true := by decide +kernel
theorem b_X2_bindingPairs_32_45 : bl2 mX2_bindingPairs 32 [(.aload_n 0, 1, 0, 0, .null), (.iload_n 1, 1, 1, 0, .null), (.aload_n 0, 1, 0, 0, .null), (.getfield 15, 3, 2, 0, .null), (.getfield 44, 3, 0, 4, .null), (.iload_n 3, 1, 3, 0, .null), (.iload 4, 2, 4, 0, .null), (.iconst (-1), 1, 0, 0, .int (-1))] 45 (.invokevirtual 40) 3 = true := by decide +kernel
theorem b_X2_bindingPairs_48_48 : bl2 mX2_bindingPairs 48 [] 48 (.ifCond .ne 6) 3 = true := by decide +kernel
theorem b_X2_bindingPairs_54_20 : bl2 mX2_bindingPairs 54 [(.iinc 4 1, 3, 4, 0, .int 1), (.goto (-37), 3, 20, 0, .null)] 20 (.iload 4) 2 = true := by decide +kernel
theorem b_X2_bindingPairs_51_20 : bl2 mX2_bindingPairs 51 [(.iinc 2 1, 3, 2, 0, .int 1), (.iinc 4 1, 3, 4, 0, .int 1), (.goto (-37), 3, 20, 0, .null)] 20 (.iload 4) 2 = true := by decide +kernel
set_option maxRecDepth 20000 in
set_option maxHeartbeats 2000000 in
theorem lp_bpI (E : EE) (L : Nat) (F : FF) (n : Nat) (hn : F 10 5 = nI n) (hn10 : n ≤ 10) (due : Int32) (Q : Q2) (a : Nat) (ha : a < n) : ∀ (k : Nat) (b : Nat) (acc : Int32), b + k = n → R2 E L mX2_bindingPairs 4 60 [some (.ref 16), some (.int due), some (.int (sumI (gBP F (F 15) n due a) k b acc)), some (.int (nI a)), none] [] F Q → R2 E L mX2_bindingPairs 4 20 [some (.ref 16), some (.int due), some (.int acc), some (.int (nI a)), some (.int (nI b))] [] F Q := by
  intro k
  induction k with
  | zero =>
    intro b acc hi ex
    refine R2.B (ls2 := [some (.ref 16), some (.int due), some (.int acc), some (.int (nI a)), some (.int (nI b))]) (st2 := [.int (F 10 5), .int (nI b)]) b_X2_bindingPairs_20_29 rfl (fun hd => ?_)
    rw [show (F 10 5 : Int32) = nI n from hn]
    refine R2.icmp_ge 60 hd (by decide) (fun c29 => ?_) (fun c29 => absurd (nI_le (by omega) (by omega)) c29)
    refine R2.B (ls2 := [some (.ref 16), some (.int due), some (.int acc), some (.int (nI a)), some (.int (nI b))]) (st2 := []) b_X2_bindingPairs_60_60 rfl (fun hd => ?_)
    refine R2.forget (ls2 := [some (.ref 16), some (.int due), some (.int acc), some (.int (nI a)), none]) ⟨rfl, ⟨rfl, ⟨rfl, ⟨rfl, trivial⟩⟩⟩⟩ ?_
    exact ex
  | succ k ih =>
    intro b acc hi ex
    refine R2.B (ls2 := [some (.ref 16), some (.int due), some (.int acc), some (.int (nI a)), some (.int (nI b))]) (st2 := [.int (F 10 5), .int (nI b)]) b_X2_bindingPairs_20_29 rfl (fun hd => ?_)
    rw [show (F 10 5 : Int32) = nI n from hn]
    refine R2.icmp_ge 60 hd (by decide) (fun c29 => absurd c29 (nI_ge (by omega) (by omega))) (fun c29 => ?_)
    refine R2.B (ls2 := [some (.ref 16), some (.int due), some (.int acc), some (.int (nI a)), some (.int (nI b))]) (st2 := [.int (-1), .int (nI b), .int (nI a), .ref 15, .int due, .ref 16]) b_X2_bindingPairs_32_45 rfl (fun hd => ?_)
    refine R2.callV3 (M2 := mX2_verdictBy) (As := [.int due, .ref 15, .int (nI a), .int (nI b), .int (-1)]) (rest := []) hd lk_2_40 okX2_verdictBy (by decide) rfl (ev_verdictBy E L F n hn hn10 15 rfl (fun _ => rfl) a b due (-1) (by omega) (by omega)) (by decide) rfl rfl (Nat.le_of_ble_eq_true rfl) ?_
    refine R2.B (ls2 := [some (.ref 16), some (.int due), some (.int acc), some (.int (nI a)), some (.int (nI b))]) (st2 := [.int (cvd F (F 15) n due (-1) a b)]) b_X2_bindingPairs_48_48 rfl (fun hd => ?_)
    refine R2.if_ne 54 hd (by decide) (fun c48 => ?_) (fun c48 => ?_)
    · refine R2.B (ls2 := [some (.ref 16), some (.int due), some (.int acc), some (.int (nI a)), some (.int ((nI b) + 1))]) (st2 := []) b_X2_bindingPairs_54_20 rfl (fun hd => ?_)
      rw [show ((nI b) + 1 : Int32) = nI (b + 1) from nI_add b 1]
      have e : sumI (gBP F (F 15) n due a) (k + 1) b acc = sumI (gBP F (F 15) n due a) k (b + 1) acc := by
        simp only [sumI, gBP]; rw [if_neg c48, Int32.add_zero]
      rw [e] at ex
      exact ih (b + 1) acc (by omega) ex
    · refine R2.B (ls2 := [some (.ref 16), some (.int due), some (.int (acc + 1)), some (.int (nI a)), some (.int ((nI b) + 1))]) (st2 := []) b_X2_bindingPairs_51_20 rfl (fun hd => ?_)
      rw [show ((nI b) + 1 : Int32) = nI (b + 1) from nI_add b 1]
      have e : sumI (gBP F (F 15) n due a) (k + 1) b acc = sumI (gBP F (F 15) n due a) k (b + 1) (acc + 1) := by
        simp only [sumI, gBP]; rw [if_pos c48]
      rw [e] at ex
      exact ih (b + 1) (acc + 1) (by omega) ex
theorem b_X2_bindingPairs_4_12 : bl2 mX2_bindingPairs 4 [(.iload_n 3, 1, 3, 0, .null), (.aload_n 0, 1, 0, 0, .null), (.getfield 15, 3, 2, 0, .null), (.getfield 31, 3, 0, 5, .null)] 12 (.if_icmp .ge 54) 3 = true := by decide +kernel
theorem b_X2_bindingPairs_66_67 : bl2 mX2_bindingPairs 66 [(.iload_n 2, 1, 2, 0, .null)] 67 (.ireturn) 1 = true := by decide +kernel
theorem b_X2_bindingPairs_15_20 : bl2 mX2_bindingPairs 15 [(.iload_n 3, 1, 3, 0, .null), (.iconst 1, 1, 0, 0, .int 1), (.iadd, 1, 0, 0, .null), (.istore 4, 2, 4, 0, .null)] 20 (.iload 4) 2 = true := by decide +kernel
theorem b_X2_bindingPairs_60_4 : bl2 mX2_bindingPairs 60 [(.iinc 3 1, 3, 3, 0, .int 1), (.goto (-59), 3, 4, 0, .null)] 4 (.iload_n 3) 1 = true := by decide +kernel
set_option maxRecDepth 20000 in
set_option maxHeartbeats 2000000 in
theorem lp_bpO (E : EE) (L : Nat) (F : FF) (n : Nat) (hn : F 10 5 = nI n) (hn10 : n ≤ 10) (due : Int32) : ∀ (k : Nat) (a : Nat) (acc : Int32), a + k = n → R2 E L mX2_bindingPairs 4 4 [some (.ref 16), some (.int due), some (.int acc), some (.int (nI a)), none] [] F (fun r' F' => r' = some (.int (sumO (gBP F (F 15) n due) n k a acc)) ∧ F' = F) := by
  intro k
  induction k with
  | zero =>
    intro a acc hi
    refine R2.B (ls2 := [some (.ref 16), some (.int due), some (.int acc), some (.int (nI a)), none]) (st2 := [.int (F 10 5), .int (nI a)]) b_X2_bindingPairs_4_12 rfl (fun hd => ?_)
    rw [show (F 10 5 : Int32) = nI n from hn]
    refine R2.icmp_ge 66 hd (by decide) (fun c12 => ?_) (fun c12 => absurd (nI_le (by omega) (by omega)) c12)
    refine R2.B (ls2 := [some (.ref 16), some (.int due), some (.int acc), some (.int (nI a)), none]) (st2 := [.int acc]) b_X2_bindingPairs_66_67 rfl (fun hd => ?_)
    exact R2.ret3 (r := some (.int acc)) hd trivial rfl rfl rfl
  | succ k ih =>
    intro a acc hi
    refine R2.B (ls2 := [some (.ref 16), some (.int due), some (.int acc), some (.int (nI a)), none]) (st2 := [.int (F 10 5), .int (nI a)]) b_X2_bindingPairs_4_12 rfl (fun hd => ?_)
    rw [show (F 10 5 : Int32) = nI n from hn]
    refine R2.icmp_ge 66 hd (by decide) (fun c12 => absurd c12 (nI_ge (by omega) (by omega))) (fun c12 => ?_)
    refine R2.B (ls2 := [some (.ref 16), some (.int due), some (.int acc), some (.int (nI a)), some (.int ((nI a) + 1))]) (st2 := []) b_X2_bindingPairs_15_20 rfl (fun hd => ?_)
    rw [show ((nI a) + 1 : Int32) = nI (a + 1) from nI_add a 1]
    refine lp_bpI E L F n hn hn10 due _ a (by omega) (n - (a + 1)) (a + 1) acc (by omega) ?_
    refine R2.B (ls2 := [some (.ref 16), some (.int due), some (.int (sumI (gBP F (F 15) n due a) (n - (a + 1)) (a + 1) acc)), some (.int ((nI a) + 1)), none]) (st2 := []) b_X2_bindingPairs_60_4 rfl (fun hd => ?_)
    rw [show ((nI a) + 1 : Int32) = nI (a + 1) from nI_add a 1]
    exact ih (a + 1) _ (by omega)
theorem b_X2_bindingPairs_0_4 : bl2 mX2_bindingPairs 0 [(.iconst 0, 1, 0, 0, .int 0), (.istore_n 2, 1, 2, 0, .null), (.iconst 0, 1, 0, 0, .int 0), (.istore_n 3, 1, 3, 0, .null)] 4 (.iload_n 3) 1 = true := by decide +kernel
set_option maxRecDepth 20000 in
set_option maxHeartbeats 1000000 in
theorem ev_bindingPairs (E : EE) (L : Nat) (F : FF) (n : Nat) (hn : F 10 5 = nI n) (hn10 : n ≤ 10) (due : Int32) : Ev3 E L 4 mX2_bindingPairs [.ref 16, .int due] F (some (.int (cBP F n due))) F := by
  refine Ev3.of okX2_bindingPairs.2.2.1 (Nat.le_of_ble_eq_true rfl) ?_
  show R2 E L mX2_bindingPairs 4 0 [some (.ref 16), some (.int due), none, none, none] [] F _
  refine R2.B (ls2 := [some (.ref 16), some (.int due), some (.int 0), some (.int 0), none]) (st2 := []) b_X2_bindingPairs_0_4 rfl (fun hd => ?_)
  exact lp_bpO E L F n hn hn10 due n 0 0 (by omega)
theorem b_X2_bestDue_14_17 : bl2 mX2_bestDue 14 [(.iload 5, 2, 5, 0, .null), (.iload_n 2, 1, 2, 0, .null)] 17 (.if_icmp .gt 31) 3 = true := by decide +kernel
theorem b_X2_bestDue_48_49 : bl2 mX2_bestDue 48 [(.iload_n 3, 1, 3, 0, .null)] 49 (.ireturn) 1 = true := by decide +kernel
theorem b_X2_bestDue_20_23 : bl2 mX2_bestDue 20 [(.aload_n 0, 1, 0, 0, .null), (.iload 5, 2, 5, 0, .null)] 23 (.invokevirtual 47) 3 = true := by decide +kernel
theorem b_X2_bestDue_26_32 : bl2 mX2_bestDue 26 [(.istore 6, 2, 6, 0, .null), (.iload 6, 2, 6, 0, .null), (.iload 4, 2, 4, 0, .null)] 32 (.if_icmp .le 10) 3 = true := by decide +kernel
theorem b_X2_bestDue_42_14 : bl2 mX2_bestDue 42 [(.iinc 5 1, 3, 5, 0, .int 1), (.goto (-31), 3, 14, 0, .null)] 14 (.iload 5) 2 = true := by decide +kernel
theorem b_X2_bestDue_35_14 : bl2 mX2_bestDue 35 [(.iload 6, 2, 6, 0, .null), (.istore 4, 2, 4, 0, .null), (.iload 5, 2, 5, 0, .null), (.istore_n 3, 1, 3, 0, .null), (.iinc 5 1, 3, 5, 0, .int 1), (.goto (-31), 3, 14, 0, .null)] 14 (.iload 5) 2 = true := by decide +kernel
set_option maxRecDepth 20000 in
set_option maxHeartbeats 2000000 in
theorem lp_bestDue (E : EE) (L : Nat) (F : FF) (n : Nat) (hn : F 10 5 = nI n) (hn10 : n ≤ 10) (f t : Nat) (ht : t ≤ 90) : ∀ (k : Nat) (j best : Nat) (most : Int32), j + k = t + 1 → j ≤ 91 → R2 E L mX2_bestDue 5 14 [some (.ref 16), some (.int (nI f)), some (.int (nI t)), some (.int (nI best)), some (.int most), some (.int (nI j)), none] [] F (fun r' F' => r' = some (.int (nI (bdL (fun j => cBP F n (nI j)) k j best most))) ∧ F' = F) := by
  intro k
  induction k with
  | zero =>
    intro j best most hi hj
    refine R2.B (ls2 := [some (.ref 16), some (.int (nI f)), some (.int (nI t)), some (.int (nI best)), some (.int most), some (.int (nI j)), none]) (st2 := [.int (nI t), .int (nI j)]) b_X2_bestDue_14_17 rfl (fun hd => ?_)
    refine R2.icmp_gt 48 hd (by decide) (fun c17 => ?_) (fun c17 => absurd (nI_lt (by omega) (by omega)) c17)
    refine R2.B (ls2 := [some (.ref 16), some (.int (nI f)), some (.int (nI t)), some (.int (nI best)), some (.int most), some (.int (nI j)), none]) (st2 := [.int (nI best)]) b_X2_bestDue_48_49 rfl (fun hd => ?_)
    exact R2.ret3 (r := some (.int (nI best))) hd trivial rfl rfl rfl
  | succ k ih =>
    intro j best most hi hj
    refine R2.B (ls2 := [some (.ref 16), some (.int (nI f)), some (.int (nI t)), some (.int (nI best)), some (.int most), some (.int (nI j)), none]) (st2 := [.int (nI t), .int (nI j)]) b_X2_bestDue_14_17 rfl (fun hd => ?_)
    refine R2.icmp_gt 48 hd (by decide) (fun c17 => absurd c17 (nI_nlt (by omega) (by omega))) (fun c17 => ?_)
    refine R2.B (ls2 := [some (.ref 16), some (.int (nI f)), some (.int (nI t)), some (.int (nI best)), some (.int most), some (.int (nI j)), none]) (st2 := [.int (nI j), .ref 16]) b_X2_bestDue_20_23 rfl (fun hd => ?_)
    refine R2.callV3 (M2 := mX2_bindingPairs) (As := [.int (nI j)]) (rest := []) hd lk_2_47 okX2_bindingPairs (by decide) rfl (ev_bindingPairs E L F n hn hn10 (nI j)) (by decide) rfl rfl (Nat.le_of_ble_eq_true rfl) ?_
    refine R2.B (ls2 := [some (.ref 16), some (.int (nI f)), some (.int (nI t)), some (.int (nI best)), some (.int most), some (.int (nI j)), some (.int (cBP F n (nI j)))]) (st2 := [.int most, .int (cBP F n (nI j))]) b_X2_bestDue_26_32 rfl (fun hd => ?_)
    refine R2.icmp_le 42 hd (by decide) (fun c32 => ?_) (fun c32 => ?_)
    · refine R2.B (ls2 := [some (.ref 16), some (.int (nI f)), some (.int (nI t)), some (.int (nI best)), some (.int most), some (.int ((nI j) + 1)), some (.int (cBP F n (nI j)))]) (st2 := []) b_X2_bestDue_42_14 rfl (fun hd => ?_)
      rw [show ((nI j) + 1 : Int32) = nI (j + 1) from nI_add j 1]
      rw [show bdL (fun j => cBP F n (nI j)) (k + 1) j best most = bdL (fun j => cBP F n (nI j)) k (j + 1) best most from (by simp only [bdL]; rw [if_neg (Int32.not_lt.mpr c32)])]
      refine R2.forget (ls2 := [some (.ref 16), some (.int (nI f)), some (.int (nI t)), some (.int (nI best)), some (.int most), some (.int (nI (j + 1))), none]) ⟨rfl, ⟨rfl, ⟨rfl, ⟨rfl, ⟨rfl, ⟨rfl, trivial⟩⟩⟩⟩⟩⟩ ?_
      exact ih (j + 1) _ _ (by omega) (by omega)
    · refine R2.B (ls2 := [some (.ref 16), some (.int (nI f)), some (.int (nI t)), some (.int (nI j)), some (.int (cBP F n (nI j))), some (.int ((nI j) + 1)), some (.int (cBP F n (nI j)))]) (st2 := []) b_X2_bestDue_35_14 rfl (fun hd => ?_)
      rw [show ((nI j) + 1 : Int32) = nI (j + 1) from nI_add j 1]
      rw [show bdL (fun j => cBP F n (nI j)) (k + 1) j best most = bdL (fun j => cBP F n (nI j)) k (j + 1) j (cBP F n (nI j)) from (by simp only [bdL]; rw [if_pos (Int32.not_le.mp c32)])]
      refine R2.forget (ls2 := [some (.ref 16), some (.int (nI f)), some (.int (nI t)), some (.int (nI j)), some (.int (cBP F n (nI j))), some (.int (nI (j + 1))), none]) ⟨rfl, ⟨rfl, ⟨rfl, ⟨rfl, ⟨rfl, ⟨rfl, trivial⟩⟩⟩⟩⟩⟩ ?_
      exact ih (j + 1) _ _ (by omega) (by omega)
theorem b_X2_bestDue_0_4 : bl2 mX2_bestDue 0 [(.iload_n 1, 1, 1, 0, .null), (.istore_n 3, 1, 3, 0, .null), (.aload_n 0, 1, 0, 0, .null), (.iload_n 1, 1, 1, 0, .null)] 4 (.invokevirtual 47) 3 = true := by decide +kernel
theorem b_X2_bestDue_7_14 : bl2 mX2_bestDue 7 [(.istore 4, 2, 4, 0, .null), (.iload_n 1, 1, 1, 0, .null), (.iconst 1, 1, 0, 0, .int 1), (.iadd, 1, 0, 0, .null), (.istore 5, 2, 5, 0, .null)] 14 (.iload 5) 2 = true := by decide +kernel
set_option maxRecDepth 20000 in
set_option maxHeartbeats 1000000 in
theorem ev_bestDue (E : EE) (L : Nat) (F : FF) (n : Nat) (hn : F 10 5 = nI n) (hn10 : n ≤ 10) (f t : Nat) (hf : f ≤ t) (ht : t ≤ 90) : Ev3 E L 5 mX2_bestDue [.ref 16, .int (nI f), .int (nI t)] F (some (.int (nI (cBD F n f t)))) F := by
  refine Ev3.of okX2_bestDue.2.2.1 (Nat.le_of_ble_eq_true rfl) ?_
  show R2 E L mX2_bestDue 5 0 [some (.ref 16), some (.int (nI f)), some (.int (nI t)), none, none, none, none] [] F _
  refine R2.B (ls2 := [some (.ref 16), some (.int (nI f)), some (.int (nI t)), some (.int (nI f)), none, none, none]) (st2 := [.int (nI f), .ref 16]) b_X2_bestDue_0_4 rfl (fun hd => ?_)
  refine R2.callV3 (M2 := mX2_bindingPairs) (As := [.int (nI f)]) (rest := []) hd lk_2_47 okX2_bindingPairs (by decide) rfl (ev_bindingPairs E L F n hn hn10 (nI f)) (by decide) rfl rfl (Nat.le_of_ble_eq_true rfl) ?_
  refine R2.B (ls2 := [some (.ref 16), some (.int (nI f)), some (.int (nI t)), some (.int (nI f)), some (.int (cBP F n (nI f))), some (.int ((nI f) + 1)), none]) (st2 := []) b_X2_bestDue_7_14 rfl (fun hd => ?_)
  rw [show ((nI f) + 1 : Int32) = nI (f + 1) from nI_add f 1]
  exact lp_bestDue E L F n hn hn10 f t ht (t - f) (f + 1) f _ (by omega) (by omega)
theorem b_X2_hindered_23_32 : bl2 mX2_hindered 23 [(.iload 5, 2, 5, 0, .null), (.aload_n 0, 1, 0, 0, .null), (.getfield 15, 3, 2, 0, .null), (.getfield 31, 3, 0, 5, .null)] 32 (.if_icmp .ge 55) 3 = true := by decide +kernel
theorem b_X2_hindered_87_87 : bl2 mX2_hindered 87 [] 87 (.iinc 4 1) 3 = true := by decide +kernel
theorem b_X2_hindered_35_38 : bl2 mX2_hindered 35 [(.iload 4, 2, 4, 0, .null), (.iload_n 1, 1, 1, 0, .null)] 38 (.if_icmp .eq 43) 3 = true := by decide +kernel
theorem b_X2_hindered_81_23 : bl2 mX2_hindered 81 [(.iinc 5 1, 3, 5, 0, .int 1), (.goto (-61), 3, 23, 0, .null)] 23 (.iload 5) 2 = true := by decide +kernel
theorem b_X2_hindered_41_44 : bl2 mX2_hindered 41 [(.iload 5, 2, 5, 0, .null), (.iload_n 1, 1, 1, 0, .null)] 44 (.if_icmp .eq 37) 3 = true := by decide +kernel
theorem b_X2_hindered_47_53 : bl2 mX2_hindered 47 [(.aload_n 0, 1, 0, 0, .null), (.iload_n 1, 1, 1, 0, .null), (.iload 4, 2, 4, 0, .null), (.iload 5, 2, 5, 0, .null)] 53 (.invokevirtual 50) 3 = true := by decide +kernel
theorem b_X2_hindered_56_56 : bl2 mX2_hindered 56 [] 56 (.ifCond .eq 25) 3 = true := by decide +kernel
theorem b_X2_hindered_59_61 : bl2 mX2_hindered 59 [(.iload_n 3, 1, 3, 0, .null), (.iload_n 2, 1, 2, 0, .null)] 61 (.ifCond .eq 17) 3 = true := by decide +kernel
theorem b_X2_hindered_78_23 : bl2 mX2_hindered 78 [(.iconst 1, 1, 0, 0, .int 1), (.iadd, 1, 0, 0, .null), (.istore_n 3, 1, 3, 0, .null), (.iinc 5 1, 3, 5, 0, .int 1), (.goto (-61), 3, 23, 0, .null)] 23 (.iload 5) 2 = true := by decide +kernel
theorem b_X2_hindered_64_72 : bl2 mX2_hindered 64 [(.aload_n 0, 1, 0, 0, .null), (.getfield 15, 3, 2, 0, .null), (.iload 4, 2, 4, 0, .null), (.iload 5, 2, 5, 0, .null)] 72 (.invokevirtual 54) 3 = true := by decide +kernel
theorem b_X2_hindered_75_23 : bl2 mX2_hindered 75 [(.goto 4, 3, 79, 0, .null), (.iadd, 1, 0, 0, .null), (.istore_n 3, 1, 3, 0, .null), (.iinc 5 1, 3, 5, 0, .int 1), (.goto (-61), 3, 23, 0, .null)] 23 (.iload 5) 2 = true := by decide +kernel
set_option maxRecDepth 20000 in
set_option maxHeartbeats 2000000 in
theorem lp_hnI (E : EE) (L : Nat) (F : FF) (n : Nat) (hn : F 10 5 = nI n) (hn10 : n ≤ 10) (p : Nat) (wo : Int32) (hp : p < 10) (Q : Q2) (a : Nat) (ha : a < n) : ∀ (k : Nat) (b : Nat) (acc : Int32), b + k = n → R2 E L mX2_hindered 6 87 [some (.ref 16), some (.int (nI p)), some (.int wo), some (.int (sumI (gHN F n p wo a) k b acc)), some (.int (nI a)), none] [] F Q → R2 E L mX2_hindered 6 23 [some (.ref 16), some (.int (nI p)), some (.int wo), some (.int acc), some (.int (nI a)), some (.int (nI b))] [] F Q := by
  intro k
  induction k with
  | zero =>
    intro b acc hi ex
    refine R2.B (ls2 := [some (.ref 16), some (.int (nI p)), some (.int wo), some (.int acc), some (.int (nI a)), some (.int (nI b))]) (st2 := [.int (F 10 5), .int (nI b)]) b_X2_hindered_23_32 rfl (fun hd => ?_)
    rw [show (F 10 5 : Int32) = nI n from hn]
    refine R2.icmp_ge 87 hd (by decide) (fun c32 => ?_) (fun c32 => absurd (nI_le (by omega) (by omega)) c32)
    refine R2.B (ls2 := [some (.ref 16), some (.int (nI p)), some (.int wo), some (.int acc), some (.int (nI a)), some (.int (nI b))]) (st2 := []) b_X2_hindered_87_87 rfl (fun hd => ?_)
    refine R2.forget (ls2 := [some (.ref 16), some (.int (nI p)), some (.int wo), some (.int acc), some (.int (nI a)), none]) ⟨rfl, ⟨rfl, ⟨rfl, ⟨rfl, ⟨rfl, trivial⟩⟩⟩⟩⟩ ?_
    exact ex
  | succ k ih =>
    intro b acc hi ex
    refine R2.B (ls2 := [some (.ref 16), some (.int (nI p)), some (.int wo), some (.int acc), some (.int (nI a)), some (.int (nI b))]) (st2 := [.int (F 10 5), .int (nI b)]) b_X2_hindered_23_32 rfl (fun hd => ?_)
    rw [show (F 10 5 : Int32) = nI n from hn]
    refine R2.icmp_ge 87 hd (by decide) (fun c32 => absurd c32 (nI_ge (by omega) (by omega))) (fun c32 => ?_)
    refine R2.B (ls2 := [some (.ref 16), some (.int (nI p)), some (.int wo), some (.int acc), some (.int (nI a)), some (.int (nI b))]) (st2 := [.int (nI p), .int (nI a)]) b_X2_hindered_35_38 rfl (fun hd => ?_)
    refine R2.icmp_eq 81 hd (by decide) (fun c38 => ?_) (fun c38 => ?_)
    · have nc38 : a = p := (nI_eq (a := a) (b := p) (by omega) (by omega)).mp c38
      refine R2.B (ls2 := [some (.ref 16), some (.int (nI p)), some (.int wo), some (.int acc), some (.int (nI a)), some (.int ((nI b) + 1))]) (st2 := []) b_X2_hindered_81_23 rfl (fun hd => ?_)
      rw [show ((nI b) + 1 : Int32) = nI (b + 1) from nI_add b 1]
      have e : sumI (gHN F n p wo a) (k + 1) b acc = sumI (gHN F n p wo a) k (b + 1) acc := by
        simp only [sumI, gHN]; rw [if_neg (by clear hd; grind), Int32.add_zero]
      rw [e] at ex
      exact ih (b + 1) acc (by omega) ex
    · have nc38 : ¬ a = p := fun h9 => c38 ((nI_eq (a := a) (b := p) (by omega) (by omega)).mpr h9)
      refine R2.B (ls2 := [some (.ref 16), some (.int (nI p)), some (.int wo), some (.int acc), some (.int (nI a)), some (.int (nI b))]) (st2 := [.int (nI p), .int (nI b)]) b_X2_hindered_41_44 rfl (fun hd => ?_)
      refine R2.icmp_eq 81 hd (by decide) (fun c44 => ?_) (fun c44 => ?_)
      · have nc44 : b = p := (nI_eq (a := b) (b := p) (by omega) (by omega)).mp c44
        refine R2.B (ls2 := [some (.ref 16), some (.int (nI p)), some (.int wo), some (.int acc), some (.int (nI a)), some (.int ((nI b) + 1))]) (st2 := []) b_X2_hindered_81_23 rfl (fun hd => ?_)
        rw [show ((nI b) + 1 : Int32) = nI (b + 1) from nI_add b 1]
        have e : sumI (gHN F n p wo a) (k + 1) b acc = sumI (gHN F n p wo a) k (b + 1) acc := by
          simp only [sumI, gHN]; rw [if_neg (by clear hd; grind), Int32.add_zero]
        rw [e] at ex
        exact ih (b + 1) acc (by omega) ex
      · have nc44 : ¬ b = p := fun h9 => c44 ((nI_eq (a := b) (b := p) (by omega) (by omega)).mpr h9)
        refine R2.B (ls2 := [some (.ref 16), some (.int (nI p)), some (.int wo), some (.int acc), some (.int (nI a)), some (.int (nI b))]) (st2 := [.int (nI b), .int (nI a), .int (nI p), .ref 16]) b_X2_hindered_47_53 rfl (fun hd => ?_)
        refine R2.callV3 (M2 := mX2_isHinderedBy) (As := [.int (nI p), .int (nI a), .int (nI b)]) (rest := []) hd lk_2_50 okX2_isHinderedBy (by decide) rfl (ev_isHinderedBy E L F n hn hn10 p a b (by omega) (by omega)) (by decide) rfl rfl (Nat.le_of_ble_eq_true rfl) ?_
        refine R2.B (ls2 := [some (.ref 16), some (.int (nI p)), some (.int wo), some (.int acc), some (.int (nI a)), some (.int (nI b))]) (st2 := [.int (b2i (hndC F n p a b))]) b_X2_hindered_56_56 rfl (fun hd => ?_)
        refine R2.if_eq 81 hd (by decide) (fun c56 => ?_) (fun c56 => ?_)
        · have nc56 : ¬ (hndC F n p a b) := b2i_zero.mp c56
          refine R2.B (ls2 := [some (.ref 16), some (.int (nI p)), some (.int wo), some (.int acc), some (.int (nI a)), some (.int ((nI b) + 1))]) (st2 := []) b_X2_hindered_81_23 rfl (fun hd => ?_)
          rw [show ((nI b) + 1 : Int32) = nI (b + 1) from nI_add b 1]
          have e : sumI (gHN F n p wo a) (k + 1) b acc = sumI (gHN F n p wo a) k (b + 1) acc := by
            simp only [sumI, gHN]; rw [if_neg (by clear hd; grind), Int32.add_zero]
          rw [e] at ex
          exact ih (b + 1) acc (by omega) ex
        · have nc56 : hndC F n p a b := b2i_nz.mp c56
          refine R2.B (ls2 := [some (.ref 16), some (.int (nI p)), some (.int wo), some (.int acc), some (.int (nI a)), some (.int (nI b))]) (st2 := [.int wo, .int acc]) b_X2_hindered_59_61 rfl (fun hd => ?_)
          refine R2.if_eq 78 hd (by decide) (fun c61 => ?_) (fun c61 => ?_)
          · refine R2.B (ls2 := [some (.ref 16), some (.int (nI p)), some (.int wo), some (.int (acc + 1)), some (.int (nI a)), some (.int ((nI b) + 1))]) (st2 := []) b_X2_hindered_78_23 rfl (fun hd => ?_)
            rw [show ((nI b) + 1 : Int32) = nI (b + 1) from nI_add b 1]
            have e : sumI (gHN F n p wo a) (k + 1) b acc = sumI (gHN F n p wo a) k (b + 1) (acc + 1) := by
              simp only [sumI, gHN]; rw [if_pos ⟨nc38, nc44, nc56⟩]; first | rw [if_pos c61] | rw [if_neg c61]
            rw [e] at ex
            exact ih (b + 1) (acc + 1) (by omega) ex
          · refine R2.B (ls2 := [some (.ref 16), some (.int (nI p)), some (.int wo), some (.int acc), some (.int (nI a)), some (.int (nI b))]) (st2 := [.int (nI b), .int (nI a), .ref 10, .int acc]) b_X2_hindered_64_72 rfl (fun hd => ?_)
            refine R2.callV3 (M2 := mX0_gain) (As := [.int (nI a), .int (nI b)]) (rest := [.int acc]) hd lk_2_54 okX0_gain (by decide) rfl (ev_gain E L F a b (by omega) (by omega)) (by decide) rfl rfl (Nat.le_of_ble_eq_true rfl) ?_
            refine R2.B (ls2 := [some (.ref 16), some (.int (nI p)), some (.int wo), some (.int (acc + (gan (F 11) (F 13) a b))), some (.int (nI a)), some (.int ((nI b) + 1))]) (st2 := []) b_X2_hindered_75_23 rfl (fun hd => ?_)
            rw [show ((nI b) + 1 : Int32) = nI (b + 1) from nI_add b 1]
            have e : sumI (gHN F n p wo a) (k + 1) b acc = sumI (gHN F n p wo a) k (b + 1) (acc + (gan (F 11) (F 13) a b)) := by
              simp only [sumI, gHN]; rw [if_pos ⟨nc38, nc44, nc56⟩]; first | rw [if_pos c61] | rw [if_neg c61]
            rw [e] at ex
            exact ih (b + 1) (acc + (gan (F 11) (F 13) a b)) (by omega) ex
theorem b_X2_hindered_5_14 : bl2 mX2_hindered 5 [(.iload 4, 2, 4, 0, .null), (.aload_n 0, 1, 0, 0, .null), (.getfield 15, 3, 2, 0, .null), (.getfield 31, 3, 0, 5, .null)] 14 (.if_icmp .ge 79) 3 = true := by decide +kernel
theorem b_X2_hindered_93_94 : bl2 mX2_hindered 93 [(.iload_n 3, 1, 3, 0, .null)] 94 (.ireturn) 1 = true := by decide +kernel
theorem b_X2_hindered_17_23 : bl2 mX2_hindered 17 [(.iload 4, 2, 4, 0, .null), (.iconst 1, 1, 0, 0, .int 1), (.iadd, 1, 0, 0, .null), (.istore 5, 2, 5, 0, .null)] 23 (.iload 5) 2 = true := by decide +kernel
theorem b_X2_hindered_87_5 : bl2 mX2_hindered 87 [(.iinc 4 1, 3, 4, 0, .int 1), (.goto (-85), 3, 5, 0, .null)] 5 (.iload 4) 2 = true := by decide +kernel
set_option maxRecDepth 20000 in
set_option maxHeartbeats 2000000 in
theorem lp_hnO (E : EE) (L : Nat) (F : FF) (n : Nat) (hn : F 10 5 = nI n) (hn10 : n ≤ 10) (p : Nat) (wo : Int32) (hp : p < 10) : ∀ (k : Nat) (a : Nat) (acc : Int32), a + k = n → R2 E L mX2_hindered 6 5 [some (.ref 16), some (.int (nI p)), some (.int wo), some (.int acc), some (.int (nI a)), none] [] F (fun r' F' => r' = some (.int (sumO (gHN F n p wo) n k a acc)) ∧ F' = F) := by
  intro k
  induction k with
  | zero =>
    intro a acc hi
    refine R2.B (ls2 := [some (.ref 16), some (.int (nI p)), some (.int wo), some (.int acc), some (.int (nI a)), none]) (st2 := [.int (F 10 5), .int (nI a)]) b_X2_hindered_5_14 rfl (fun hd => ?_)
    rw [show (F 10 5 : Int32) = nI n from hn]
    refine R2.icmp_ge 93 hd (by decide) (fun c14 => ?_) (fun c14 => absurd (nI_le (by omega) (by omega)) c14)
    refine R2.B (ls2 := [some (.ref 16), some (.int (nI p)), some (.int wo), some (.int acc), some (.int (nI a)), none]) (st2 := [.int acc]) b_X2_hindered_93_94 rfl (fun hd => ?_)
    exact R2.ret3 (r := some (.int acc)) hd trivial rfl rfl rfl
  | succ k ih =>
    intro a acc hi
    refine R2.B (ls2 := [some (.ref 16), some (.int (nI p)), some (.int wo), some (.int acc), some (.int (nI a)), none]) (st2 := [.int (F 10 5), .int (nI a)]) b_X2_hindered_5_14 rfl (fun hd => ?_)
    rw [show (F 10 5 : Int32) = nI n from hn]
    refine R2.icmp_ge 93 hd (by decide) (fun c14 => absurd c14 (nI_ge (by omega) (by omega))) (fun c14 => ?_)
    refine R2.B (ls2 := [some (.ref 16), some (.int (nI p)), some (.int wo), some (.int acc), some (.int (nI a)), some (.int ((nI a) + 1))]) (st2 := []) b_X2_hindered_17_23 rfl (fun hd => ?_)
    rw [show ((nI a) + 1 : Int32) = nI (a + 1) from nI_add a 1]
    refine lp_hnI E L F n hn hn10 p wo hp _ a (by omega) (n - (a + 1)) (a + 1) acc (by omega) ?_
    refine R2.B (ls2 := [some (.ref 16), some (.int (nI p)), some (.int wo), some (.int (sumI (gHN F n p wo a) (n - (a + 1)) (a + 1) acc)), some (.int ((nI a) + 1)), none]) (st2 := []) b_X2_hindered_87_5 rfl (fun hd => ?_)
    rw [show ((nI a) + 1 : Int32) = nI (a + 1) from nI_add a 1]
    exact ih (a + 1) _ (by omega)
theorem b_X2_hindered_0_5 : bl2 mX2_hindered 0 [(.iconst 0, 1, 0, 0, .int 0), (.istore_n 3, 1, 3, 0, .null), (.iconst 0, 1, 0, 0, .int 0), (.istore 4, 2, 4, 0, .null)] 5 (.iload 4) 2 = true := by decide +kernel
set_option maxRecDepth 20000 in
set_option maxHeartbeats 1000000 in
theorem ev_hindered (E : EE) (L : Nat) (F : FF) (n : Nat) (hn : F 10 5 = nI n) (hn10 : n ≤ 10) (p : Nat) (wo : Int32) (hp : p < 10) : Ev3 E L 6 mX2_hindered [.ref 16, .int (nI p), .int wo] F (some (.int (cHN F n p wo))) F := by
  refine Ev3.of okX2_hindered.2.2.1 (Nat.le_of_ble_eq_true rfl) ?_
  show R2 E L mX2_hindered 6 0 [some (.ref 16), some (.int (nI p)), some (.int wo), none, none, none] [] F _
  refine R2.B (ls2 := [some (.ref 16), some (.int (nI p)), some (.int wo), some (.int 0), some (.int 0), none]) (st2 := []) b_X2_hindered_0_5 rfl (fun hd => ?_)
  exact lp_hnO E L F n hn hn10 p wo hp n 0 0 (by omega)
end
section
/-! Posts, fill, Sheet. Printed by wip/whole/gen/spec5.py. -/
def fillF (F : FF) (q n : Nat) (v : Int32) : FF := fun a j => if a = q ∧ j < n then v else F a j
theorem fill_0 (F : FF) (q : Nat) (v : Int32) : fillF F q 0 v = F := by funext a j; simp [fillF]
theorem fill_s (F : FF) (q n : Nat) (v : Int32) : up2 (fillF F q n v) q n v = fillF F q (n + 1) v := by
  funext a j
  simp only [up2, fillF]
  by_cases ha : a = q
  · subst ha
    by_cases hj : j = n
    · subst hj; simp
    · by_cases hl : j < n
      · simp [hj, hl, show j < n + 1 by omega]
      · simp [hj, hl, show ¬ j < n + 1 by omega]
  · simp [ha]
def gPA (X : Nat → Int32) (ds : Int32) (a b : Nat) : Int32 := if awy (X a) (X b) = ds then 1 else 0
def gSF (X : Nat → Int32) (w ds : Int32) (a : Nat) : Int32 := if awy (X a) w = ds then 1 else 0
def seenS (X : Nat → Int32) (m : Nat) (w ds : Int32) : Int32 := sumI (gSF X w ds) m 0 0
abbrev isCm (X : Nat → Int32) (a b : Nat) (ds : Int32) (w : Nat) : Prop := awy (X a) (nI w) = ds ∧ awy (X b) (nI w) = ds
def gCS (X : Nat → Int32) (a b : Nat) (ds : Int32) (w : Nat) : Int32 := if isCm X a b ds w then 1 else 0
def csL (X : Nat → Int32) (a b : Nat) (ds : Int32) : Nat → Nat → Int32 → Int32
  | 0, _, _ => -1
  | k + 1, w, left => if isCm X a b ds w then (if left = 0 then nI w else csL X a b ds k (w + 1) (left + -1)) else csL X a b ds k (w + 1) left
def fndA (lost form size f i : Int32) : Int32 := if ¬ lost = 0 then 1 else if ¬ f = form then 3 else if i < 0 ∨ ¬ i < size then 2 else 0
def nrw (f v : Int32) : Int32 := if f = 0 then v.toInt8.toInt32 else if f = 1 then v.toInt16.toInt32 else v
theorem b_J7_fill_53178_5_7 : bl2 mJ7_fill_53178 5 [(.iload_n 2, 1, 2, 0, .null), (.iload_n 3, 1, 3, 0, .null)] 7 (.if_icmp .ge 13) 3 = true := by decide +kernel
theorem b_J7_fill_53178_20_20 : bl2 mJ7_fill_53178 20 [] 20 (.return_) 1 = true := by decide +kernel
theorem b_J7_fill_53178_10_13 : bl2 mJ7_fill_53178 10 [(.aload_n 0, 1, 0, 0, .null), (.iload_n 2, 1, 2, 0, .null), (.iload_n 1, 1, 1, 0, .null)] 13 (.iastore) 1 = true := by decide +kernel
theorem b_J7_fill_53178_14_5 : bl2 mJ7_fill_53178 14 [(.iinc 2 1, 3, 2, 0, .int 1), (.goto (-12), 3, 5, 0, .null)] 5 (.iload_n 2) 1 = true := by decide +kernel
set_option maxRecDepth 20000 in
set_option maxHeartbeats 2000000 in
theorem lp_fill (E : EE) (L : Nat) (F : FF) (q n : Nat) (v : Int32) (hq : shg (SH L) q = some (.inr (.int, n))) (hr : ∀ z : Nat, nthR rowsL q z = none) (h5 : 5 ≤ q) (hn : n ≤ 4096) : ∀ (k : Nat) (i : Nat), i + k = n → R2 E L mJ7_fill_53178 1 5 [some (.ref q), some (.int v), some (.int (nI i)), some (.int (nI n))] [] (fillF F q i v) (fun r' F' => r' = none ∧ F' = fillF F q n v) := by
  intro k
  induction k with
  | zero =>
    intro i hi
    refine R2.B (ls2 := [some (.ref q), some (.int v), some (.int (nI i)), some (.int (nI n))]) (st2 := [.int (nI n), .int (nI i)]) b_J7_fill_53178_5_7 rfl (fun hd => ?_)
    refine R2.icmp_ge 20 hd (by decide) (fun c7 => ?_) (fun c7 => absurd (nI_le (by omega) (by omega)) c7)
    refine R2.B (ls2 := [some (.ref q), some (.int v), some (.int (nI i)), some (.int (nI n))]) (st2 := []) b_J7_fill_53178_20_20 rfl (fun hd => ?_)
    exact R2.ret3 (r := none) hd trivial rfl rfl (by rw [show i = n by omega])
  | succ k ih =>
    intro i hi
    refine R2.B (ls2 := [some (.ref q), some (.int v), some (.int (nI i)), some (.int (nI n))]) (st2 := [.int (nI n), .int (nI i)]) b_J7_fill_53178_5_7 rfl (fun hd => ?_)
    refine R2.icmp_ge 20 hd (by decide) (fun c7 => absurd c7 (nI_ge (by omega) (by omega))) (fun c7 => ?_)
    refine R2.B (ls2 := [some (.ref q), some (.int v), some (.int (nI i)), some (.int (nI n))]) (st2 := [.int v, .int (nI i), .ref q]) b_J7_fill_53178_10_13 rfl (fun hd => ?_)
    refine R2.iast i rfl hd h5 hq hr (by omega) (by omega) ?_
    refine R2.B (ls2 := [some (.ref q), some (.int v), some (.int ((nI i) + 1)), some (.int (nI n))]) (st2 := []) b_J7_fill_53178_14_5 rfl (fun hd => ?_)
    rw [show ((nI i) + 1 : Int32) = nI (i + 1) from nI_add i 1]
    refine R2.eqF (fill_s F q i v) ?_
    exact ih (i + 1) (by omega)
theorem b_fill_0 : bl2 mJ7_fill_53178 0 [(.iconst 0, 1, 0, 0, .int 0), (.istore_n 2, 1, 2, 0, .null), (.aload_n 0, 1, 0, 0, .null)] 3 (.arraylength) 1 = true := by decide +kernel
theorem b_fill_4 : bl2 mJ7_fill_53178 4 [(.istore_n 3, 1, 3, 0, .null)] 5 (.iload_n 2) 1 = true := by decide +kernel
set_option maxRecDepth 20000 in
theorem ev_fill (E : EE) (L : Nat) (F : FF) (q n : Nat) (v : Int32) (hq : shg (SH L) q = some (.inr (.int, n))) (hr : ∀ z : Nat, nthR rowsL q z = none) (h5 : 5 ≤ q) (hn : n ≤ 4096) : Ev3 E L 1 mJ7_fill_53178 [.ref q, .int v] F none (fillF F q n v) := by
  refine Ev3.of okJ7_fill_53178.2.1 (Nat.le_of_ble_eq_true rfl) ?_
  show R2 E L mJ7_fill_53178 1 0 [some (.ref q), some (.int v), none, none] [] F _
  refine R2.B (ls2 := [some (.ref q), some (.int v), some (.int 0), none]) (st2 := [.ref q]) b_fill_0 rfl (fun hd => ?_)
  refine Rn.alen hd (Or.inl rfl) (by rw [← shg_eq]; exact hq) ?_
  refine R2.B (ls2 := [some (.ref q), some (.int v), some (.int 0), some (.int (nI n))]) (st2 := []) b_fill_4 rfl (fun hd => ?_)
  refine R2.eqF (fill_0 F q v).symm ?_
  exact lp_fill E L F q n v hq hr h5 hn n 0 (by omega)
theorem b_X4_isFull_0_6 : bl2 mX4_isFull 0 [(.aload_n 0, 1, 0, 0, .null), (.getfield 15, 3, 4, 1, .null), (.bipush 8, 2, 0, 0, .int 8)] 6 (.if_icmp .lt 7) 3 = true := by decide +kernel
theorem b_X4_isFull_13_14 : bl2 mX4_isFull 13 [(.iconst 0, 1, 0, 0, .int 0)] 14 (.ireturn) 1 = true := by decide +kernel
theorem b_X4_isFull_9_14 : bl2 mX4_isFull 9 [(.iconst 1, 1, 0, 0, .int 1), (.goto 4, 3, 14, 0, .null)] 14 (.ireturn) 1 = true := by decide +kernel
set_option maxRecDepth 20000 in
set_option maxHeartbeats 1000000 in
theorem ev_pFull (E : EE) (L : Nat) (F : FF) : Ev3 E L 1 mX4_isFull [.ref 33] F (some (.int (b2i (¬ F 33 1 < 8)))) F := by
  refine Ev3.of okX4_isFull.2.2.1 (Nat.le_of_ble_eq_true rfl) ?_
  show R2 E L mX4_isFull 1 0 [some (.ref 33)] [] F _
  refine R2.B (ls2 := [some (.ref 33)]) (st2 := [.int 8, .int (F 33 1)]) b_X4_isFull_0_6 rfl (fun hd => ?_)
  refine R2.icmp_lt 13 hd (by decide) (fun c6 => ?_) (fun c6 => ?_)
  · refine R2.B (ls2 := [some (.ref 33)]) (st2 := [.int 0]) b_X4_isFull_13_14 rfl (fun hd => ?_)
    exact R2.ret3 (r := some (.int 0)) hd (Or.inl rfl) rfl (congrArg (fun z => some (Value.int z)) (b2i_f (by clear hd; grind))) rfl
  · refine R2.B (ls2 := [some (.ref 33)]) (st2 := [.int 1]) b_X4_isFull_9_14 rfl (fun hd => ?_)
    exact R2.ret3 (r := some (.int 1)) hd (Or.inr rfl) rfl (congrArg (fun z => some (Value.int z)) (b2i_t (by clear hd; grind))) rfl
theorem b_X4_has_0_1 : bl2 mX4_has 0 [(.iload_n 1, 1, 1, 0, .null)] 1 (.ifCond .lt 15) 3 = true := by decide +kernel
theorem b_X4_has_16_17 : bl2 mX4_has 16 [(.iconst 0, 1, 0, 0, .int 0)] 17 (.ireturn) 1 = true := by decide +kernel
theorem b_X4_has_4_9 : bl2 mX4_has 4 [(.iload_n 1, 1, 1, 0, .null), (.aload_n 0, 1, 0, 0, .null), (.getfield 15, 3, 4, 1, .null)] 9 (.if_icmp .ge 7) 3 = true := by decide +kernel
theorem b_X4_has_12_17 : bl2 mX4_has 12 [(.iconst 1, 1, 0, 0, .int 1), (.goto 4, 3, 17, 0, .null)] 17 (.ireturn) 1 = true := by decide +kernel
set_option maxRecDepth 20000 in
set_option maxHeartbeats 1000000 in
theorem ev_has (E : EE) (L : Nat) (F : FF) (x : Int32) : Ev3 E L 1 mX4_has [.ref 33, .int x] F (some (.int (b2i (0 ≤ x ∧ x < F 33 1)))) F := by
  refine Ev3.of okX4_has.2.2.1 (Nat.le_of_ble_eq_true rfl) ?_
  show R2 E L mX4_has 1 0 [some (.ref 33), some (.int x)] [] F _
  refine R2.B (ls2 := [some (.ref 33), some (.int x)]) (st2 := [.int x]) b_X4_has_0_1 rfl (fun hd => ?_)
  refine R2.if_lt 16 hd (by decide) (fun c1 => ?_) (fun c1 => ?_)
  · refine R2.B (ls2 := [some (.ref 33), some (.int x)]) (st2 := [.int 0]) b_X4_has_16_17 rfl (fun hd => ?_)
    exact R2.ret3 (r := some (.int 0)) hd (Or.inl rfl) rfl (congrArg (fun z => some (Value.int z)) (b2i_f (by clear hd; grind))) rfl
  · refine R2.B (ls2 := [some (.ref 33), some (.int x)]) (st2 := [.int (F 33 1), .int x]) b_X4_has_4_9 rfl (fun hd => ?_)
    refine R2.icmp_ge 16 hd (by decide) (fun c9 => ?_) (fun c9 => ?_)
    · refine R2.B (ls2 := [some (.ref 33), some (.int x)]) (st2 := [.int 0]) b_X4_has_16_17 rfl (fun hd => ?_)
      exact R2.ret3 (r := some (.int 0)) hd (Or.inl rfl) rfl (congrArg (fun z => some (Value.int z)) (b2i_f (by clear hd; grind))) rfl
    · refine R2.B (ls2 := [some (.ref 33), some (.int x)]) (st2 := [.int 1]) b_X4_has_12_17 rfl (fun hd => ?_)
      exact R2.ret3 (r := some (.int 1)) hd (Or.inr rfl) rfl (congrArg (fun z => some (Value.int z)) (b2i_t (by clear hd; grind))) rfl
theorem b_X4_add_0_1 : bl2 mX4_add 0 [(.aload_n 0, 1, 0, 0, .null)] 1 (.invokevirtual 19) 3 = true := by decide +kernel
theorem b_X4_add_4_4 : bl2 mX4_add 4 [] 4 (.ifCond .eq 5) 3 = true := by decide +kernel
theorem b_X4_add_9_18 : bl2 mX4_add 9 [(.aload_n 0, 1, 0, 0, .null), (.getfield 9, 3, 4, 0, .null), (.aload_n 0, 1, 0, 0, .null), (.getfield 15, 3, 4, 1, .null), (.iload_n 1, 1, 1, 0, .null)] 18 (.iastore) 1 = true := by decide +kernel
theorem b_X4_add_19_26 : bl2 mX4_add 19 [(.aload_n 0, 1, 0, 0, .null), (.dup, 1, 0, 0, .null), (.getfield 15, 3, 4, 1, .null), (.iconst 1, 1, 0, 0, .int 1), (.iadd, 1, 0, 0, .null)] 26 (.putfield 15) 3 = true := by decide +kernel
theorem b_X4_add_29_35 : bl2 mX4_add 29 [(.aload_n 0, 1, 0, 0, .null), (.getfield 15, 3, 4, 1, .null), (.iconst 1, 1, 0, 0, .int 1), (.isub, 1, 0, 0, .null)] 35 (.ireturn) 1 = true := by decide +kernel
set_option maxRecDepth 20000 in
set_option maxHeartbeats 1000000 in
theorem ev_pAdd (E : EE) (L : Nat) (F : FF) (m : Nat) (hm : F 33 1 = nI m) (hm8 : m < 8) (x : Int32) : Ev3 E L 2 mX4_add [.ref 33, .int x] F (some (.int (nI m))) (up2 (up2 F 34 m x) 33 1 (nI (m + 1))) := by
  refine Ev3.of okX4_add.2.2.1 (Nat.le_of_ble_eq_true rfl) ?_
  show R2 E L mX4_add 2 0 [some (.ref 33), some (.int x)] [] F _
  refine R2.B (ls2 := [some (.ref 33), some (.int x)]) (st2 := [.ref 33]) b_X4_add_0_1 rfl (fun hd => ?_)
  refine R2.callV3 (M2 := mX4_isFull) (As := []) (rest := []) hd lk_4_19 okX4_isFull (by decide) rfl (ev_pFull E L _) (by decide) rfl rfl (Nat.le_of_ble_eq_true rfl) ?_
  refine R2.B (ls2 := [some (.ref 33), some (.int x)]) (st2 := [.int (b2i (¬ F 33 1 < 8))]) b_X4_add_4_4 rfl (fun hd => ?_)
  refine R2.if_eq 9 hd (by decide) (fun c4 => ?_) (fun c4 => absurd (by rw [show b2i (¬ F 33 1 < 8) = 0 from (b2i_f (fun z => z (by rw [hm]; exact nI_lt hm8 (by decide)))).symm]) c4)
  refine R2.B (ls2 := [some (.ref 33), some (.int x)]) (st2 := [.int x, .int (F 33 1), .ref 34]) b_X4_add_9_18 rfl (fun hd => ?_)
  refine R2.iast m hm hd (by decide) rfl (fun _ => rfl) (by decide) (by omega) ?_
  refine R2.B (ls2 := [some (.ref 33), some (.int x)]) (st2 := [.int ((F 33 1) + 1), .ref 33]) b_X4_add_19_26 rfl (fun hd => ?_)
  refine R2.putf (a := 4) (b := 1) hd (by decide) (by decide) rfl rfl (fun _ => rfl) ?_
  refine R2.B (ls2 := [some (.ref 33), some (.int x)]) (st2 := [.int (((F 33 1) + 1) - 1)]) b_X4_add_29_35 rfl (fun hd => ?_)
  exact R2.ret3 (r := some (.int (((F 33 1) + 1) - 1))) hd trivial rfl (congrArg (fun z => some (Value.int z)) (by rw [hm, nI_1, nI_pred])) (by rw [hm, nI_1])
theorem b_X4_clear_0_7 : bl2 mX4_clear 0 [(.aload_n 0, 1, 0, 0, .null), (.getfield 15, 3, 4, 1, .null), (.istore_n 1, 1, 1, 0, .null), (.aload_n 0, 1, 0, 0, .null), (.iconst 0, 1, 0, 0, .int 0)] 7 (.putfield 15) 3 = true := by decide +kernel
theorem b_X4_clear_10_11 : bl2 mX4_clear 10 [(.iload_n 1, 1, 1, 0, .null)] 11 (.ireturn) 1 = true := by decide +kernel
set_option maxRecDepth 20000 in
set_option maxHeartbeats 1000000 in
theorem ev_pClear (E : EE) (L : Nat) (F : FF) : Ev3 E L 1 mX4_clear [.ref 33] F (some (.int (F 33 1))) (up2 F 33 1 0) := by
  refine Ev3.of okX4_clear.2.2.1 (Nat.le_of_ble_eq_true rfl) ?_
  show R2 E L mX4_clear 1 0 [some (.ref 33), none] [] F _
  refine R2.B (ls2 := [some (.ref 33), some (.int (F 33 1))]) (st2 := [.int 0, .ref 33]) b_X4_clear_0_7 rfl (fun hd => ?_)
  refine R2.putf (a := 4) (b := 1) hd (by decide) (by decide) rfl rfl (fun _ => rfl) ?_
  refine R2.B (ls2 := [some (.ref 33), some (.int (F 33 1))]) (st2 := [.int (F 33 1)]) b_X4_clear_10_11 rfl (fun hd => ?_)
  exact R2.ret3 (r := some (.int (F 33 1))) hd trivial rfl rfl rfl
theorem b_X4_pairsAt_17_23 : bl2 mX4_pairsAt 17 [(.iload 4, 2, 4, 0, .null), (.aload_n 0, 1, 0, 0, .null), (.getfield 15, 3, 4, 1, .null)] 23 (.if_icmp .ge 32) 3 = true := by decide +kernel
theorem b_X4_pairsAt_55_55 : bl2 mX4_pairsAt 55 [] 55 (.iinc 3 1) 3 = true := by decide +kernel
theorem b_X4_pairsAt_26_31 : bl2 mX4_pairsAt 26 [(.aload_n 0, 1, 0, 0, .null), (.getfield 9, 3, 4, 0, .null), (.iload_n 3, 1, 3, 0, .null)] 31 (.iaload) 1 = true := by decide +kernel
theorem b_X4_pairsAt_32_38 : bl2 mX4_pairsAt 32 [(.aload_n 0, 1, 0, 0, .null), (.getfield 9, 3, 4, 0, .null), (.iload 4, 2, 4, 0, .null)] 38 (.iaload) 1 = true := by decide +kernel
theorem b_X4_pairsAt_39_39 : bl2 mX4_pairsAt 39 [] 39 (.invokestatic 23) 3 = true := by decide +kernel
theorem b_X4_pairsAt_42_43 : bl2 mX4_pairsAt 42 [(.iload_n 1, 1, 1, 0, .null)] 43 (.if_icmp .ne 6) 3 = true := by decide +kernel
theorem b_X4_pairsAt_49_17 : bl2 mX4_pairsAt 49 [(.iinc 4 1, 3, 4, 0, .int 1), (.goto (-35), 3, 17, 0, .null)] 17 (.iload 4) 2 = true := by decide +kernel
theorem b_X4_pairsAt_46_17 : bl2 mX4_pairsAt 46 [(.iinc 2 1, 3, 2, 0, .int 1), (.iinc 4 1, 3, 4, 0, .int 1), (.goto (-35), 3, 17, 0, .null)] 17 (.iload 4) 2 = true := by decide +kernel
set_option maxRecDepth 20000 in
set_option maxHeartbeats 2000000 in
theorem lp_paI (E : EE) (L : Nat) (F : FF) (m : Nat) (hm : F 33 1 = nI m) (hm8 : m ≤ 8) (ds : Int32) (Q : Q2) (a : Nat) (ha : a < m) : ∀ (k : Nat) (b : Nat) (acc : Int32), b + k = m → R2 E L mX4_pairsAt 2 55 [some (.ref 33), some (.int ds), some (.int (sumI (gPA (F 34) ds a) k b acc)), some (.int (nI a)), none] [] F Q → R2 E L mX4_pairsAt 2 17 [some (.ref 33), some (.int ds), some (.int acc), some (.int (nI a)), some (.int (nI b))] [] F Q := by
  intro k
  induction k with
  | zero =>
    intro b acc hi ex
    refine R2.B (ls2 := [some (.ref 33), some (.int ds), some (.int acc), some (.int (nI a)), some (.int (nI b))]) (st2 := [.int (F 33 1), .int (nI b)]) b_X4_pairsAt_17_23 rfl (fun hd => ?_)
    rw [show (F 33 1 : Int32) = nI m from hm]
    refine R2.icmp_ge 55 hd (by decide) (fun c23 => ?_) (fun c23 => absurd (nI_le (by omega) (by omega)) c23)
    refine R2.B (ls2 := [some (.ref 33), some (.int ds), some (.int acc), some (.int (nI a)), some (.int (nI b))]) (st2 := []) b_X4_pairsAt_55_55 rfl (fun hd => ?_)
    refine R2.forget (ls2 := [some (.ref 33), some (.int ds), some (.int acc), some (.int (nI a)), none]) ⟨rfl, ⟨rfl, ⟨rfl, ⟨rfl, trivial⟩⟩⟩⟩ ?_
    exact ex
  | succ k ih =>
    intro b acc hi ex
    refine R2.B (ls2 := [some (.ref 33), some (.int ds), some (.int acc), some (.int (nI a)), some (.int (nI b))]) (st2 := [.int (F 33 1), .int (nI b)]) b_X4_pairsAt_17_23 rfl (fun hd => ?_)
    rw [show (F 33 1 : Int32) = nI m from hm]
    refine R2.icmp_ge 55 hd (by decide) (fun c23 => absurd c23 (nI_ge (by omega) (by omega))) (fun c23 => ?_)
    refine R2.B (ls2 := [some (.ref 33), some (.int ds), some (.int acc), some (.int (nI a)), some (.int (nI b))]) (st2 := [.int (nI a), .ref 34]) b_X4_pairsAt_26_31 rfl (fun hd => ?_)
    refine R2.iald a rfl hd rfl (fun _ => rfl) (by decide) (by omega) ?_
    refine R2.B (ls2 := [some (.ref 33), some (.int ds), some (.int acc), some (.int (nI a)), some (.int (nI b))]) (st2 := [.int (nI b), .ref 34, .int (F 34 a)]) b_X4_pairsAt_32_38 rfl (fun hd => ?_)
    refine R2.iald b rfl hd rfl (fun _ => rfl) (by decide) (by omega) ?_
    refine R2.B (ls2 := [some (.ref 33), some (.int ds), some (.int acc), some (.int (nI a)), some (.int (nI b))]) (st2 := [.int (F 34 b), .int (F 34 a)]) b_X4_pairsAt_39_39 rfl (fun hd => ?_)
    refine R2.callS3 (M2 := mX10_between) (As := [.int (F 34 a), .int (F 34 b)]) (rest := []) hd lk_4_23 okX10_between (by decide) (ev_between E L F (F 34 a) (F 34 b)) (by decide) rfl rfl (Nat.le_of_ble_eq_true rfl) ?_
    refine R2.B (ls2 := [some (.ref 33), some (.int ds), some (.int acc), some (.int (nI a)), some (.int (nI b))]) (st2 := [.int ds, .int (awy (F 34 a) (F 34 b))]) b_X4_pairsAt_42_43 rfl (fun hd => ?_)
    refine R2.icmp_ne 49 hd (by decide) (fun c43 => ?_) (fun c43 => ?_)
    · refine R2.B (ls2 := [some (.ref 33), some (.int ds), some (.int acc), some (.int (nI a)), some (.int ((nI b) + 1))]) (st2 := []) b_X4_pairsAt_49_17 rfl (fun hd => ?_)
      rw [show ((nI b) + 1 : Int32) = nI (b + 1) from nI_add b 1]
      have e : sumI (gPA (F 34) ds a) (k + 1) b acc = sumI (gPA (F 34) ds a) k (b + 1) acc := by
        simp only [sumI, gPA]; rw [if_neg c43, Int32.add_zero]
      rw [e] at ex
      exact ih (b + 1) acc (by omega) ex
    · refine R2.B (ls2 := [some (.ref 33), some (.int ds), some (.int (acc + 1)), some (.int (nI a)), some (.int ((nI b) + 1))]) (st2 := []) b_X4_pairsAt_46_17 rfl (fun hd => ?_)
      rw [show ((nI b) + 1 : Int32) = nI (b + 1) from nI_add b 1]
      have e : sumI (gPA (F 34) ds a) (k + 1) b acc = sumI (gPA (F 34) ds a) k (b + 1) (acc + 1) := by
        simp only [sumI, gPA]; rw [if_pos c43]
      rw [e] at ex
      exact ih (b + 1) (acc + 1) (by omega) ex
theorem b_X4_pairsAt_4_9 : bl2 mX4_pairsAt 4 [(.iload_n 3, 1, 3, 0, .null), (.aload_n 0, 1, 0, 0, .null), (.getfield 15, 3, 4, 1, .null)] 9 (.if_icmp .ge 52) 3 = true := by decide +kernel
theorem b_X4_pairsAt_61_62 : bl2 mX4_pairsAt 61 [(.iload_n 2, 1, 2, 0, .null)] 62 (.ireturn) 1 = true := by decide +kernel
theorem b_X4_pairsAt_12_17 : bl2 mX4_pairsAt 12 [(.iload_n 3, 1, 3, 0, .null), (.iconst 1, 1, 0, 0, .int 1), (.iadd, 1, 0, 0, .null), (.istore 4, 2, 4, 0, .null)] 17 (.iload 4) 2 = true := by decide +kernel
theorem b_X4_pairsAt_55_4 : bl2 mX4_pairsAt 55 [(.iinc 3 1, 3, 3, 0, .int 1), (.goto (-54), 3, 4, 0, .null)] 4 (.iload_n 3) 1 = true := by decide +kernel
set_option maxRecDepth 20000 in
set_option maxHeartbeats 2000000 in
theorem lp_paO (E : EE) (L : Nat) (F : FF) (m : Nat) (hm : F 33 1 = nI m) (hm8 : m ≤ 8) (ds : Int32) : ∀ (k : Nat) (a : Nat) (acc : Int32), a + k = m → R2 E L mX4_pairsAt 2 4 [some (.ref 33), some (.int ds), some (.int acc), some (.int (nI a)), none] [] F (fun r' F' => r' = some (.int (sumO (gPA (F 34) ds) m k a acc)) ∧ F' = F) := by
  intro k
  induction k with
  | zero =>
    intro a acc hi
    refine R2.B (ls2 := [some (.ref 33), some (.int ds), some (.int acc), some (.int (nI a)), none]) (st2 := [.int (F 33 1), .int (nI a)]) b_X4_pairsAt_4_9 rfl (fun hd => ?_)
    rw [show (F 33 1 : Int32) = nI m from hm]
    refine R2.icmp_ge 61 hd (by decide) (fun c9 => ?_) (fun c9 => absurd (nI_le (by omega) (by omega)) c9)
    refine R2.B (ls2 := [some (.ref 33), some (.int ds), some (.int acc), some (.int (nI a)), none]) (st2 := [.int acc]) b_X4_pairsAt_61_62 rfl (fun hd => ?_)
    exact R2.ret3 (r := some (.int acc)) hd trivial rfl rfl rfl
  | succ k ih =>
    intro a acc hi
    refine R2.B (ls2 := [some (.ref 33), some (.int ds), some (.int acc), some (.int (nI a)), none]) (st2 := [.int (F 33 1), .int (nI a)]) b_X4_pairsAt_4_9 rfl (fun hd => ?_)
    rw [show (F 33 1 : Int32) = nI m from hm]
    refine R2.icmp_ge 61 hd (by decide) (fun c9 => absurd c9 (nI_ge (by omega) (by omega))) (fun c9 => ?_)
    refine R2.B (ls2 := [some (.ref 33), some (.int ds), some (.int acc), some (.int (nI a)), some (.int ((nI a) + 1))]) (st2 := []) b_X4_pairsAt_12_17 rfl (fun hd => ?_)
    rw [show ((nI a) + 1 : Int32) = nI (a + 1) from nI_add a 1]
    refine lp_paI E L F m hm hm8 ds _ a (by omega) (m - (a + 1)) (a + 1) acc (by omega) ?_
    refine R2.B (ls2 := [some (.ref 33), some (.int ds), some (.int (sumI (gPA (F 34) ds a) (m - (a + 1)) (a + 1) acc)), some (.int ((nI a) + 1)), none]) (st2 := []) b_X4_pairsAt_55_4 rfl (fun hd => ?_)
    rw [show ((nI a) + 1 : Int32) = nI (a + 1) from nI_add a 1]
    exact ih (a + 1) _ (by omega)
theorem b_X4_pairsAt_0_4 : bl2 mX4_pairsAt 0 [(.iconst 0, 1, 0, 0, .int 0), (.istore_n 2, 1, 2, 0, .null), (.iconst 0, 1, 0, 0, .int 0), (.istore_n 3, 1, 3, 0, .null)] 4 (.iload_n 3) 1 = true := by decide +kernel
set_option maxRecDepth 20000 in
set_option maxHeartbeats 1000000 in
theorem ev_pairsAt (E : EE) (L : Nat) (F : FF) (m : Nat) (hm : F 33 1 = nI m) (hm8 : m ≤ 8) (ds : Int32) : Ev3 E L 2 mX4_pairsAt [.ref 33, .int ds] F (some (.int (sumO (gPA (F 34) ds) m m 0 0))) F := by
  refine Ev3.of okX4_pairsAt.2.2.1 (Nat.le_of_ble_eq_true rfl) ?_
  show R2 E L mX4_pairsAt 2 0 [some (.ref 33), some (.int ds), none, none, none] [] F _
  refine R2.B (ls2 := [some (.ref 33), some (.int ds), some (.int 0), some (.int 0), none]) (st2 := []) b_X4_pairsAt_0_4 rfl (fun hd => ?_)
  exact lp_paO E L F m hm hm8 ds m 0 0 (by omega)
theorem b_X4_seenFrom_5_11 : bl2 mX4_seenFrom 5 [(.iload 4, 2, 4, 0, .null), (.aload_n 0, 1, 0, 0, .null), (.getfield 15, 3, 4, 1, .null)] 11 (.if_icmp .ge 27) 3 = true := by decide +kernel
theorem b_X4_seenFrom_38_39 : bl2 mX4_seenFrom 38 [(.iload_n 3, 1, 3, 0, .null)] 39 (.ireturn) 1 = true := by decide +kernel
theorem b_X4_seenFrom_14_20 : bl2 mX4_seenFrom 14 [(.aload_n 0, 1, 0, 0, .null), (.getfield 9, 3, 4, 0, .null), (.iload 4, 2, 4, 0, .null)] 20 (.iaload) 1 = true := by decide +kernel
theorem b_X4_seenFrom_21_22 : bl2 mX4_seenFrom 21 [(.iload_n 1, 1, 1, 0, .null)] 22 (.invokestatic 23) 3 = true := by decide +kernel
theorem b_X4_seenFrom_25_26 : bl2 mX4_seenFrom 25 [(.iload_n 2, 1, 2, 0, .null)] 26 (.if_icmp .ne 6) 3 = true := by decide +kernel
theorem b_X4_seenFrom_32_5 : bl2 mX4_seenFrom 32 [(.iinc 4 1, 3, 4, 0, .int 1), (.goto (-30), 3, 5, 0, .null)] 5 (.iload 4) 2 = true := by decide +kernel
theorem b_X4_seenFrom_29_5 : bl2 mX4_seenFrom 29 [(.iinc 3 1, 3, 3, 0, .int 1), (.iinc 4 1, 3, 4, 0, .int 1), (.goto (-30), 3, 5, 0, .null)] 5 (.iload 4) 2 = true := by decide +kernel
set_option maxRecDepth 20000 in
set_option maxHeartbeats 2000000 in
theorem lp_seen (E : EE) (L : Nat) (F : FF) (m : Nat) (hm : F 33 1 = nI m) (hm8 : m ≤ 8) (w ds : Int32) : ∀ (k : Nat) (b : Nat) (acc : Int32), b + k = m → R2 E L mX4_seenFrom 2 5 [some (.ref 33), some (.int w), some (.int ds), some (.int acc), some (.int (nI b))] [] F (fun r' F' => r' = some (.int (sumI (gSF (F 34) w ds) k b acc)) ∧ F' = F) := by
  intro k
  induction k with
  | zero =>
    intro b acc hi
    refine R2.B (ls2 := [some (.ref 33), some (.int w), some (.int ds), some (.int acc), some (.int (nI b))]) (st2 := [.int (F 33 1), .int (nI b)]) b_X4_seenFrom_5_11 rfl (fun hd => ?_)
    rw [show (F 33 1 : Int32) = nI m from hm]
    refine R2.icmp_ge 38 hd (by decide) (fun c11 => ?_) (fun c11 => absurd (nI_le (by omega) (by omega)) c11)
    refine R2.B (ls2 := [some (.ref 33), some (.int w), some (.int ds), some (.int acc), some (.int (nI b))]) (st2 := [.int acc]) b_X4_seenFrom_38_39 rfl (fun hd => ?_)
    exact R2.ret3 (r := some (.int acc)) hd trivial rfl rfl rfl
  | succ k ih =>
    intro b acc hi
    refine R2.B (ls2 := [some (.ref 33), some (.int w), some (.int ds), some (.int acc), some (.int (nI b))]) (st2 := [.int (F 33 1), .int (nI b)]) b_X4_seenFrom_5_11 rfl (fun hd => ?_)
    rw [show (F 33 1 : Int32) = nI m from hm]
    refine R2.icmp_ge 38 hd (by decide) (fun c11 => absurd c11 (nI_ge (by omega) (by omega))) (fun c11 => ?_)
    refine R2.B (ls2 := [some (.ref 33), some (.int w), some (.int ds), some (.int acc), some (.int (nI b))]) (st2 := [.int (nI b), .ref 34]) b_X4_seenFrom_14_20 rfl (fun hd => ?_)
    refine R2.iald b rfl hd rfl (fun _ => rfl) (by decide) (by omega) ?_
    refine R2.B (ls2 := [some (.ref 33), some (.int w), some (.int ds), some (.int acc), some (.int (nI b))]) (st2 := [.int w, .int (F 34 b)]) b_X4_seenFrom_21_22 rfl (fun hd => ?_)
    refine R2.callS3 (M2 := mX10_between) (As := [.int (F 34 b), .int w]) (rest := []) hd lk_4_23 okX10_between (by decide) (ev_between E L F (F 34 b) w) (by decide) rfl rfl (Nat.le_of_ble_eq_true rfl) ?_
    refine R2.B (ls2 := [some (.ref 33), some (.int w), some (.int ds), some (.int acc), some (.int (nI b))]) (st2 := [.int ds, .int (awy (F 34 b) w)]) b_X4_seenFrom_25_26 rfl (fun hd => ?_)
    refine R2.icmp_ne 32 hd (by decide) (fun c26 => ?_) (fun c26 => ?_)
    · refine R2.B (ls2 := [some (.ref 33), some (.int w), some (.int ds), some (.int acc), some (.int ((nI b) + 1))]) (st2 := []) b_X4_seenFrom_32_5 rfl (fun hd => ?_)
      rw [show ((nI b) + 1 : Int32) = nI (b + 1) from nI_add b 1]
      rw [show sumI (gSF (F 34) w ds) (k + 1) b acc = sumI (gSF (F 34) w ds) k (b + 1) acc from (by simp only [sumI, gSF]; rw [if_neg c26, Int32.add_zero])]
      exact ih (b + 1) _ (by omega)
    · refine R2.B (ls2 := [some (.ref 33), some (.int w), some (.int ds), some (.int (acc + 1)), some (.int ((nI b) + 1))]) (st2 := []) b_X4_seenFrom_29_5 rfl (fun hd => ?_)
      rw [show ((nI b) + 1 : Int32) = nI (b + 1) from nI_add b 1]
      rw [show sumI (gSF (F 34) w ds) (k + 1) b acc = sumI (gSF (F 34) w ds) k (b + 1) (acc + 1) from (by simp only [sumI, gSF]; rw [if_pos c26])]
      exact ih (b + 1) _ (by omega)
theorem b_X4_seenFrom_0_5 : bl2 mX4_seenFrom 0 [(.iconst 0, 1, 0, 0, .int 0), (.istore_n 3, 1, 3, 0, .null), (.iconst 0, 1, 0, 0, .int 0), (.istore 4, 2, 4, 0, .null)] 5 (.iload 4) 2 = true := by decide +kernel
set_option maxRecDepth 20000 in
set_option maxHeartbeats 1000000 in
theorem ev_seenFrom (E : EE) (L : Nat) (F : FF) (m : Nat) (hm : F 33 1 = nI m) (hm8 : m ≤ 8) (w ds : Int32) : Ev3 E L 2 mX4_seenFrom [.ref 33, .int w, .int ds] F (some (.int (seenS (F 34) m w ds))) F := by
  refine Ev3.of okX4_seenFrom.2.2.1 (Nat.le_of_ble_eq_true rfl) ?_
  show R2 E L mX4_seenFrom 2 0 [some (.ref 33), some (.int w), some (.int ds), none, none] [] F _
  refine R2.B (ls2 := [some (.ref 33), some (.int w), some (.int ds), some (.int 0), some (.int 0)]) (st2 := []) b_X4_seenFrom_0_5 rfl (fun hd => ?_)
  exact lp_seen E L F m hm hm8 w ds m 0 0 (by omega)
theorem b_X4_bestSpot_7_12 : bl2 mX4_bestSpot 7 [(.iload 4, 2, 4, 0, .null), (.sipush 1024, 3, 0, 0, .int 1024)] 12 (.if_icmp .ge 30) 3 = true := by decide +kernel
theorem b_X4_bestSpot_42_43 : bl2 mX4_bestSpot 42 [(.iload_n 2, 1, 2, 0, .null)] 43 (.ireturn) 1 = true := by decide +kernel
theorem b_X4_bestSpot_15_19 : bl2 mX4_bestSpot 15 [(.aload_n 0, 1, 0, 0, .null), (.iload 4, 2, 4, 0, .null), (.iload_n 1, 1, 1, 0, .null)] 19 (.invokevirtual 27) 3 = true := by decide +kernel
theorem b_X4_bestSpot_22_27 : bl2 mX4_bestSpot 22 [(.istore 5, 2, 5, 0, .null), (.iload 5, 2, 5, 0, .null), (.iload_n 3, 1, 3, 0, .null)] 27 (.if_icmp .le 9) 3 = true := by decide +kernel
theorem b_X4_bestSpot_36_7 : bl2 mX4_bestSpot 36 [(.iinc 4 1, 3, 4, 0, .int 1), (.goto (-32), 3, 7, 0, .null)] 7 (.iload 4) 2 = true := by decide +kernel
theorem b_X4_bestSpot_30_7 : bl2 mX4_bestSpot 30 [(.iload 5, 2, 5, 0, .null), (.istore_n 3, 1, 3, 0, .null), (.iload 4, 2, 4, 0, .null), (.istore_n 2, 1, 2, 0, .null), (.iinc 4 1, 3, 4, 0, .int 1), (.goto (-32), 3, 7, 0, .null)] 7 (.iload 4) 2 = true := by decide +kernel
set_option maxRecDepth 20000 in
set_option maxHeartbeats 2000000 in
theorem lp_bestSpot (E : EE) (L : Nat) (F : FF) (m : Nat) (hm : F 33 1 = nI m) (hm8 : m ≤ 8) (ds : Int32) : ∀ (k : Nat) (w best : Nat) (most : Int32), w + k = 1024 → R2 E L mX4_bestSpot 3 7 [some (.ref 33), some (.int ds), some (.int (nI best)), some (.int most), some (.int (nI w)), none] [] F (fun r' F' => r' = some (.int (nI (bdL (fun w => seenS (F 34) m (nI w) ds) k w best most))) ∧ F' = F) := by
  intro k
  induction k with
  | zero =>
    intro w best most hi
    refine R2.B (ls2 := [some (.ref 33), some (.int ds), some (.int (nI best)), some (.int most), some (.int (nI w)), none]) (st2 := [.int 1024, .int (nI w)]) b_X4_bestSpot_7_12 rfl (fun hd => ?_)
    refine R2.icmp_ge 42 hd (by decide) (fun c12 => ?_) (fun c12 => absurd (nI_le (a := 1024) (b := w) (by omega) (by omega)) c12)
    refine R2.B (ls2 := [some (.ref 33), some (.int ds), some (.int (nI best)), some (.int most), some (.int (nI w)), none]) (st2 := [.int (nI best)]) b_X4_bestSpot_42_43 rfl (fun hd => ?_)
    exact R2.ret3 (r := some (.int (nI best))) hd trivial rfl rfl rfl
  | succ k ih =>
    intro w best most hi
    refine R2.B (ls2 := [some (.ref 33), some (.int ds), some (.int (nI best)), some (.int most), some (.int (nI w)), none]) (st2 := [.int 1024, .int (nI w)]) b_X4_bestSpot_7_12 rfl (fun hd => ?_)
    refine R2.icmp_ge 42 hd (by decide) (fun c12 => absurd c12 (nI_ge (b := 1024) (by omega) (by omega))) (fun c12 => ?_)
    refine R2.B (ls2 := [some (.ref 33), some (.int ds), some (.int (nI best)), some (.int most), some (.int (nI w)), none]) (st2 := [.int ds, .int (nI w), .ref 33]) b_X4_bestSpot_15_19 rfl (fun hd => ?_)
    refine R2.callV3 (M2 := mX4_seenFrom) (As := [.int (nI w), .int ds]) (rest := []) hd lk_4_27 okX4_seenFrom (by decide) rfl (ev_seenFrom E L F m hm hm8 (nI w) ds) (by decide) rfl rfl (Nat.le_of_ble_eq_true rfl) ?_
    refine R2.B (ls2 := [some (.ref 33), some (.int ds), some (.int (nI best)), some (.int most), some (.int (nI w)), some (.int (seenS (F 34) m (nI w) ds))]) (st2 := [.int most, .int (seenS (F 34) m (nI w) ds)]) b_X4_bestSpot_22_27 rfl (fun hd => ?_)
    refine R2.icmp_le 36 hd (by decide) (fun c27 => ?_) (fun c27 => ?_)
    · refine R2.B (ls2 := [some (.ref 33), some (.int ds), some (.int (nI best)), some (.int most), some (.int ((nI w) + 1)), some (.int (seenS (F 34) m (nI w) ds))]) (st2 := []) b_X4_bestSpot_36_7 rfl (fun hd => ?_)
      rw [show ((nI w) + 1 : Int32) = nI (w + 1) from nI_add w 1]
      rw [show bdL (fun w => seenS (F 34) m (nI w) ds) (k + 1) w best most = bdL (fun w => seenS (F 34) m (nI w) ds) k (w + 1) best most from (by simp only [bdL]; rw [if_neg (Int32.not_lt.mpr c27)])]
      refine R2.forget (ls2 := [some (.ref 33), some (.int ds), some (.int (nI best)), some (.int most), some (.int (nI (w + 1))), none]) ⟨rfl, ⟨rfl, ⟨rfl, ⟨rfl, ⟨rfl, trivial⟩⟩⟩⟩⟩ ?_
      exact ih (w + 1) _ _ (by omega)
    · refine R2.B (ls2 := [some (.ref 33), some (.int ds), some (.int (nI w)), some (.int (seenS (F 34) m (nI w) ds)), some (.int ((nI w) + 1)), some (.int (seenS (F 34) m (nI w) ds))]) (st2 := []) b_X4_bestSpot_30_7 rfl (fun hd => ?_)
      rw [show ((nI w) + 1 : Int32) = nI (w + 1) from nI_add w 1]
      rw [show bdL (fun w => seenS (F 34) m (nI w) ds) (k + 1) w best most = bdL (fun w => seenS (F 34) m (nI w) ds) k (w + 1) w (seenS (F 34) m (nI w) ds) from (by simp only [bdL]; rw [if_pos (Int32.not_le.mp c27)])]
      refine R2.forget (ls2 := [some (.ref 33), some (.int ds), some (.int (nI w)), some (.int (seenS (F 34) m (nI w) ds)), some (.int (nI (w + 1))), none]) ⟨rfl, ⟨rfl, ⟨rfl, ⟨rfl, ⟨rfl, trivial⟩⟩⟩⟩⟩ ?_
      exact ih (w + 1) _ _ (by omega)
theorem b_X4_bestSpot_0_7 : bl2 mX4_bestSpot 0 [(.iconst 0, 1, 0, 0, .int 0), (.istore_n 2, 1, 2, 0, .null), (.iconst 0, 1, 0, 0, .int 0), (.istore_n 3, 1, 3, 0, .null), (.iconst 0, 1, 0, 0, .int 0), (.istore 4, 2, 4, 0, .null)] 7 (.iload 4) 2 = true := by decide +kernel
set_option maxRecDepth 20000 in
set_option maxHeartbeats 1000000 in
theorem ev_bestSpot (E : EE) (L : Nat) (F : FF) (m : Nat) (hm : F 33 1 = nI m) (hm8 : m ≤ 8) (ds : Int32) : Ev3 E L 3 mX4_bestSpot [.ref 33, .int ds] F (some (.int (nI (bdL (fun w => seenS (F 34) m (nI w) ds) 1024 0 0 0)))) F := by
  refine Ev3.of okX4_bestSpot.2.2.1 (Nat.le_of_ble_eq_true rfl) ?_
  show R2 E L mX4_bestSpot 3 0 [some (.ref 33), some (.int ds), none, none, none, none] [] F _
  refine R2.B (ls2 := [some (.ref 33), some (.int ds), some (.int 0), some (.int 0), some (.int 0), none]) (st2 := []) b_X4_bestSpot_0_7 rfl (fun hd => ?_)
  exact lp_bestSpot E L F m hm hm8 ds 1024 0 0 0 (by omega)
theorem b_X4_isCommon_0_5 : bl2 mX4_isCommon 0 [(.aload_n 0, 1, 0, 0, .null), (.getfield 9, 3, 4, 0, .null), (.iload_n 2, 1, 2, 0, .null)] 5 (.iaload) 1 = true := by decide +kernel
theorem b_X4_isCommon_6_7 : bl2 mX4_isCommon 6 [(.iload_n 1, 1, 1, 0, .null)] 7 (.invokestatic 23) 3 = true := by decide +kernel
theorem b_X4_isCommon_10_12 : bl2 mX4_isCommon 10 [(.iload 4, 2, 4, 0, .null)] 12 (.if_icmp .ne 22) 3 = true := by decide +kernel
theorem b_X4_isCommon_34_35 : bl2 mX4_isCommon 34 [(.iconst 0, 1, 0, 0, .int 0)] 35 (.ireturn) 1 = true := by decide +kernel
theorem b_X4_isCommon_15_20 : bl2 mX4_isCommon 15 [(.aload_n 0, 1, 0, 0, .null), (.getfield 9, 3, 4, 0, .null), (.iload_n 3, 1, 3, 0, .null)] 20 (.iaload) 1 = true := by decide +kernel
theorem b_X4_isCommon_21_22 : bl2 mX4_isCommon 21 [(.iload_n 1, 1, 1, 0, .null)] 22 (.invokestatic 23) 3 = true := by decide +kernel
theorem b_X4_isCommon_25_27 : bl2 mX4_isCommon 25 [(.iload 4, 2, 4, 0, .null)] 27 (.if_icmp .ne 7) 3 = true := by decide +kernel
theorem b_X4_isCommon_30_35 : bl2 mX4_isCommon 30 [(.iconst 1, 1, 0, 0, .int 1), (.goto 4, 3, 35, 0, .null)] 35 (.ireturn) 1 = true := by decide +kernel
set_option maxRecDepth 20000 in
set_option maxHeartbeats 1000000 in
theorem ev_isCommon (E : EE) (L : Nat) (F : FF) (w a b : Nat) (ds : Int32) (ha : a < 8) (hb : b < 8) : Ev3 E L 2 mX4_isCommon [.ref 33, .int (nI w), .int (nI a), .int (nI b), .int ds] F (some (.int (b2i (isCm (F 34) a b ds w)))) F := by
  refine Ev3.of okX4_isCommon.2.2.1 (Nat.le_of_ble_eq_true rfl) ?_
  show R2 E L mX4_isCommon 2 0 [some (.ref 33), some (.int (nI w)), some (.int (nI a)), some (.int (nI b)), some (.int ds)] [] F _
  refine R2.B (ls2 := [some (.ref 33), some (.int (nI w)), some (.int (nI a)), some (.int (nI b)), some (.int ds)]) (st2 := [.int (nI a), .ref 34]) b_X4_isCommon_0_5 rfl (fun hd => ?_)
  refine R2.iald a rfl hd rfl (fun _ => rfl) (by decide) (by omega) ?_
  refine R2.B (ls2 := [some (.ref 33), some (.int (nI w)), some (.int (nI a)), some (.int (nI b)), some (.int ds)]) (st2 := [.int (nI w), .int (F 34 a)]) b_X4_isCommon_6_7 rfl (fun hd => ?_)
  refine R2.callS3 (M2 := mX10_between) (As := [.int (F 34 a), .int (nI w)]) (rest := []) hd lk_4_23 okX10_between (by decide) (ev_between E L F (F 34 a) (nI w)) (by decide) rfl rfl (Nat.le_of_ble_eq_true rfl) ?_
  refine R2.B (ls2 := [some (.ref 33), some (.int (nI w)), some (.int (nI a)), some (.int (nI b)), some (.int ds)]) (st2 := [.int ds, .int (awy (F 34 a) (nI w))]) b_X4_isCommon_10_12 rfl (fun hd => ?_)
  refine R2.icmp_ne 34 hd (by decide) (fun c12 => ?_) (fun c12 => ?_)
  · refine R2.B (ls2 := [some (.ref 33), some (.int (nI w)), some (.int (nI a)), some (.int (nI b)), some (.int ds)]) (st2 := [.int 0]) b_X4_isCommon_34_35 rfl (fun hd => ?_)
    exact R2.ret3 (r := some (.int 0)) hd (Or.inl rfl) rfl (congrArg (fun z => some (Value.int z)) (b2i_f (by clear hd; grind))) rfl
  · refine R2.B (ls2 := [some (.ref 33), some (.int (nI w)), some (.int (nI a)), some (.int (nI b)), some (.int ds)]) (st2 := [.int (nI b), .ref 34]) b_X4_isCommon_15_20 rfl (fun hd => ?_)
    refine R2.iald b rfl hd rfl (fun _ => rfl) (by decide) (by omega) ?_
    refine R2.B (ls2 := [some (.ref 33), some (.int (nI w)), some (.int (nI a)), some (.int (nI b)), some (.int ds)]) (st2 := [.int (nI w), .int (F 34 b)]) b_X4_isCommon_21_22 rfl (fun hd => ?_)
    refine R2.callS3 (M2 := mX10_between) (As := [.int (F 34 b), .int (nI w)]) (rest := []) hd lk_4_23 okX10_between (by decide) (ev_between E L F (F 34 b) (nI w)) (by decide) rfl rfl (Nat.le_of_ble_eq_true rfl) ?_
    refine R2.B (ls2 := [some (.ref 33), some (.int (nI w)), some (.int (nI a)), some (.int (nI b)), some (.int ds)]) (st2 := [.int ds, .int (awy (F 34 b) (nI w))]) b_X4_isCommon_25_27 rfl (fun hd => ?_)
    refine R2.icmp_ne 34 hd (by decide) (fun c27 => ?_) (fun c27 => ?_)
    · refine R2.B (ls2 := [some (.ref 33), some (.int (nI w)), some (.int (nI a)), some (.int (nI b)), some (.int ds)]) (st2 := [.int 0]) b_X4_isCommon_34_35 rfl (fun hd => ?_)
      exact R2.ret3 (r := some (.int 0)) hd (Or.inl rfl) rfl (congrArg (fun z => some (Value.int z)) (b2i_f (by clear hd; grind))) rfl
    · refine R2.B (ls2 := [some (.ref 33), some (.int (nI w)), some (.int (nI a)), some (.int (nI b)), some (.int ds)]) (st2 := [.int 1]) b_X4_isCommon_30_35 rfl (fun hd => ?_)
      exact R2.ret3 (r := some (.int 1)) hd (Or.inr rfl) rfl (congrArg (fun z => some (Value.int z)) (b2i_t (by clear hd; grind))) rfl
theorem b_X4_commonSpots_6_11 : bl2 mX4_commonSpots 6 [(.iload 5, 2, 5, 0, .null), (.sipush 1024, 3, 0, 0, .int 1024)] 11 (.if_icmp .ge 24) 3 = true := by decide +kernel
theorem b_X4_commonSpots_35_37 : bl2 mX4_commonSpots 35 [(.iload 4, 2, 4, 0, .null)] 37 (.ireturn) 1 = true := by decide +kernel
theorem b_X4_commonSpots_14_20 : bl2 mX4_commonSpots 14 [(.aload_n 0, 1, 0, 0, .null), (.iload 5, 2, 5, 0, .null), (.iload_n 1, 1, 1, 0, .null), (.iload_n 2, 1, 2, 0, .null), (.iload_n 3, 1, 3, 0, .null)] 20 (.invokevirtual 30) 3 = true := by decide +kernel
theorem b_X4_commonSpots_23_23 : bl2 mX4_commonSpots 23 [] 23 (.ifCond .eq 6) 3 = true := by decide +kernel
theorem b_X4_commonSpots_29_6 : bl2 mX4_commonSpots 29 [(.iinc 5 1, 3, 5, 0, .int 1), (.goto (-26), 3, 6, 0, .null)] 6 (.iload 5) 2 = true := by decide +kernel
theorem b_X4_commonSpots_26_6 : bl2 mX4_commonSpots 26 [(.iinc 4 1, 3, 4, 0, .int 1), (.iinc 5 1, 3, 5, 0, .int 1), (.goto (-26), 3, 6, 0, .null)] 6 (.iload 5) 2 = true := by decide +kernel
set_option maxRecDepth 20000 in
set_option maxHeartbeats 2000000 in
theorem lp_cSpots (E : EE) (L : Nat) (F : FF) (a b : Nat) (ds : Int32) (ha : a < 8) (hb : b < 8) : ∀ (k : Nat) (w : Nat) (acc : Int32), w + k = 1024 → R2 E L mX4_commonSpots 3 6 [some (.ref 33), some (.int (nI a)), some (.int (nI b)), some (.int ds), some (.int acc), some (.int (nI w))] [] F (fun r' F' => r' = some (.int (sumI (gCS (F 34) a b ds) k w acc)) ∧ F' = F) := by
  intro k
  induction k with
  | zero =>
    intro w acc hi
    refine R2.B (ls2 := [some (.ref 33), some (.int (nI a)), some (.int (nI b)), some (.int ds), some (.int acc), some (.int (nI w))]) (st2 := [.int 1024, .int (nI w)]) b_X4_commonSpots_6_11 rfl (fun hd => ?_)
    refine R2.icmp_ge 35 hd (by decide) (fun c11 => ?_) (fun c11 => absurd (nI_le (a := 1024) (b := w) (by omega) (by omega)) c11)
    refine R2.B (ls2 := [some (.ref 33), some (.int (nI a)), some (.int (nI b)), some (.int ds), some (.int acc), some (.int (nI w))]) (st2 := [.int acc]) b_X4_commonSpots_35_37 rfl (fun hd => ?_)
    exact R2.ret3 (r := some (.int acc)) hd trivial rfl rfl rfl
  | succ k ih =>
    intro w acc hi
    refine R2.B (ls2 := [some (.ref 33), some (.int (nI a)), some (.int (nI b)), some (.int ds), some (.int acc), some (.int (nI w))]) (st2 := [.int 1024, .int (nI w)]) b_X4_commonSpots_6_11 rfl (fun hd => ?_)
    refine R2.icmp_ge 35 hd (by decide) (fun c11 => absurd c11 (nI_ge (b := 1024) (by omega) (by omega))) (fun c11 => ?_)
    refine R2.B (ls2 := [some (.ref 33), some (.int (nI a)), some (.int (nI b)), some (.int ds), some (.int acc), some (.int (nI w))]) (st2 := [.int ds, .int (nI b), .int (nI a), .int (nI w), .ref 33]) b_X4_commonSpots_14_20 rfl (fun hd => ?_)
    refine R2.callV3 (M2 := mX4_isCommon) (As := [.int (nI w), .int (nI a), .int (nI b), .int ds]) (rest := []) hd lk_4_30 okX4_isCommon (by decide) rfl (ev_isCommon E L F w a b ds (by omega) (by omega)) (by decide) rfl rfl (Nat.le_of_ble_eq_true rfl) ?_
    refine R2.B (ls2 := [some (.ref 33), some (.int (nI a)), some (.int (nI b)), some (.int ds), some (.int acc), some (.int (nI w))]) (st2 := [.int (b2i (isCm (F 34) a b ds w))]) b_X4_commonSpots_23_23 rfl (fun hd => ?_)
    refine R2.if_eq 29 hd (by decide) (fun c23 => ?_) (fun c23 => ?_)
    · have nc23 : ¬ (isCm (F 34) a b ds w) := b2i_zero.mp c23
      refine R2.B (ls2 := [some (.ref 33), some (.int (nI a)), some (.int (nI b)), some (.int ds), some (.int acc), some (.int ((nI w) + 1))]) (st2 := []) b_X4_commonSpots_29_6 rfl (fun hd => ?_)
      rw [show ((nI w) + 1 : Int32) = nI (w + 1) from nI_add w 1]
      rw [show sumI (gCS (F 34) a b ds) (k + 1) w acc = sumI (gCS (F 34) a b ds) k (w + 1) acc from (by simp only [sumI, gCS]; rw [if_neg nc23, Int32.add_zero])]
      exact ih (w + 1) _ (by omega)
    · have nc23 : isCm (F 34) a b ds w := b2i_nz.mp c23
      refine R2.B (ls2 := [some (.ref 33), some (.int (nI a)), some (.int (nI b)), some (.int ds), some (.int (acc + 1)), some (.int ((nI w) + 1))]) (st2 := []) b_X4_commonSpots_26_6 rfl (fun hd => ?_)
      rw [show ((nI w) + 1 : Int32) = nI (w + 1) from nI_add w 1]
      rw [show sumI (gCS (F 34) a b ds) (k + 1) w acc = sumI (gCS (F 34) a b ds) k (w + 1) (acc + 1) from (by simp only [sumI, gCS]; rw [if_pos nc23])]
      exact ih (w + 1) _ (by omega)
theorem b_X4_commonSpots_0_6 : bl2 mX4_commonSpots 0 [(.iconst 0, 1, 0, 0, .int 0), (.istore 4, 2, 4, 0, .null), (.iconst 0, 1, 0, 0, .int 0), (.istore 5, 2, 5, 0, .null)] 6 (.iload 5) 2 = true := by decide +kernel
set_option maxRecDepth 20000 in
set_option maxHeartbeats 1000000 in
theorem ev_commonSpots (E : EE) (L : Nat) (F : FF) (a b : Nat) (ds : Int32) (ha : a < 8) (hb : b < 8) : Ev3 E L 3 mX4_commonSpots [.ref 33, .int (nI a), .int (nI b), .int ds] F (some (.int (sumI (gCS (F 34) a b ds) 1024 0 0))) F := by
  refine Ev3.of okX4_commonSpots.2.2.1 (Nat.le_of_ble_eq_true rfl) ?_
  show R2 E L mX4_commonSpots 3 0 [some (.ref 33), some (.int (nI a)), some (.int (nI b)), some (.int ds), none, none] [] F _
  refine R2.B (ls2 := [some (.ref 33), some (.int (nI a)), some (.int (nI b)), some (.int ds), some (.int 0), some (.int 0)]) (st2 := []) b_X4_commonSpots_0_6 rfl (fun hd => ?_)
  exact lp_cSpots E L F a b ds ha hb 1024 0 0 (by omega)
theorem b_X4_commonSpot_7_12 : bl2 mX4_commonSpot 7 [(.iload 6, 2, 6, 0, .null), (.sipush 1024, 3, 0, 0, .int 1024)] 12 (.if_icmp .ge 32) 3 = true := by decide +kernel
theorem b_X4_commonSpot_44_45 : bl2 mX4_commonSpot 44 [(.iconst (-1), 1, 0, 0, .int (-1))] 45 (.ireturn) 1 = true := by decide +kernel
theorem b_X4_commonSpot_15_21 : bl2 mX4_commonSpot 15 [(.aload_n 0, 1, 0, 0, .null), (.iload 6, 2, 6, 0, .null), (.iload_n 1, 1, 1, 0, .null), (.iload_n 2, 1, 2, 0, .null), (.iload_n 3, 1, 3, 0, .null)] 21 (.invokevirtual 30) 3 = true := by decide +kernel
theorem b_X4_commonSpot_24_24 : bl2 mX4_commonSpot 24 [] 24 (.ifCond .eq 14) 3 = true := by decide +kernel
theorem b_X4_commonSpot_38_7 : bl2 mX4_commonSpot 38 [(.iinc 6 1, 3, 6, 0, .int 1), (.goto (-34), 3, 7, 0, .null)] 7 (.iload 6) 2 = true := by decide +kernel
theorem b_X4_commonSpot_27_29 : bl2 mX4_commonSpot 27 [(.iload 5, 2, 5, 0, .null)] 29 (.ifCond .ne 6) 3 = true := by decide +kernel
theorem b_X4_commonSpot_35_7 : bl2 mX4_commonSpot 35 [(.iinc 5 (-1), 3, 5, 0, .int (-1)), (.iinc 6 1, 3, 6, 0, .int 1), (.goto (-34), 3, 7, 0, .null)] 7 (.iload 6) 2 = true := by decide +kernel
theorem b_X4_commonSpot_32_34 : bl2 mX4_commonSpot 32 [(.iload 6, 2, 6, 0, .null)] 34 (.ireturn) 1 = true := by decide +kernel
set_option maxRecDepth 20000 in
set_option maxHeartbeats 2000000 in
theorem lp_cSpot (E : EE) (L : Nat) (F : FF) (a b : Nat) (ds : Int32) (ha : a < 8) (hb : b < 8) (x : Int32) : ∀ (k : Nat) (w : Nat) (left : Int32), w + k = 1024 → R2 E L mX4_commonSpot 3 7 [some (.ref 33), some (.int (nI a)), some (.int (nI b)), some (.int ds), some (.int x), some (.int left), some (.int (nI w))] [] F (fun r' F' => r' = some (.int (csL (F 34) a b ds k w left)) ∧ F' = F) := by
  intro k
  induction k with
  | zero =>
    intro w left hi
    refine R2.B (ls2 := [some (.ref 33), some (.int (nI a)), some (.int (nI b)), some (.int ds), some (.int x), some (.int left), some (.int (nI w))]) (st2 := [.int 1024, .int (nI w)]) b_X4_commonSpot_7_12 rfl (fun hd => ?_)
    refine R2.icmp_ge 44 hd (by decide) (fun c12 => ?_) (fun c12 => absurd (nI_le (a := 1024) (b := w) (by omega) (by omega)) c12)
    refine R2.B (ls2 := [some (.ref 33), some (.int (nI a)), some (.int (nI b)), some (.int ds), some (.int x), some (.int left), some (.int (nI w))]) (st2 := [.int (-1)]) b_X4_commonSpot_44_45 rfl (fun hd => ?_)
    exact R2.ret3 (r := some (.int (-1))) hd trivial rfl (congrArg (fun z => some (Value.int z)) (by clear hd; simp only [csL] <;> grind)) rfl
  | succ k ih =>
    intro w left hi
    refine R2.B (ls2 := [some (.ref 33), some (.int (nI a)), some (.int (nI b)), some (.int ds), some (.int x), some (.int left), some (.int (nI w))]) (st2 := [.int 1024, .int (nI w)]) b_X4_commonSpot_7_12 rfl (fun hd => ?_)
    refine R2.icmp_ge 44 hd (by decide) (fun c12 => absurd c12 (nI_ge (b := 1024) (by omega) (by omega))) (fun c12 => ?_)
    refine R2.B (ls2 := [some (.ref 33), some (.int (nI a)), some (.int (nI b)), some (.int ds), some (.int x), some (.int left), some (.int (nI w))]) (st2 := [.int ds, .int (nI b), .int (nI a), .int (nI w), .ref 33]) b_X4_commonSpot_15_21 rfl (fun hd => ?_)
    refine R2.callV3 (M2 := mX4_isCommon) (As := [.int (nI w), .int (nI a), .int (nI b), .int ds]) (rest := []) hd lk_4_30 okX4_isCommon (by decide) rfl (ev_isCommon E L F w a b ds (by omega) (by omega)) (by decide) rfl rfl (Nat.le_of_ble_eq_true rfl) ?_
    refine R2.B (ls2 := [some (.ref 33), some (.int (nI a)), some (.int (nI b)), some (.int ds), some (.int x), some (.int left), some (.int (nI w))]) (st2 := [.int (b2i (isCm (F 34) a b ds w))]) b_X4_commonSpot_24_24 rfl (fun hd => ?_)
    refine R2.if_eq 38 hd (by decide) (fun c24 => ?_) (fun c24 => ?_)
    · have nc24 : ¬ (isCm (F 34) a b ds w) := b2i_zero.mp c24
      refine R2.B (ls2 := [some (.ref 33), some (.int (nI a)), some (.int (nI b)), some (.int ds), some (.int x), some (.int left), some (.int ((nI w) + 1))]) (st2 := []) b_X4_commonSpot_38_7 rfl (fun hd => ?_)
      rw [show ((nI w) + 1 : Int32) = nI (w + 1) from nI_add w 1]
      rw [show csL (F 34) a b ds (k + 1) w left = csL (F 34) a b ds k (w + 1) left from (by clear hd; simp only [csL] <;> grind)]
      exact ih (w + 1) _ (by omega)
    · have nc24 : isCm (F 34) a b ds w := b2i_nz.mp c24
      refine R2.B (ls2 := [some (.ref 33), some (.int (nI a)), some (.int (nI b)), some (.int ds), some (.int x), some (.int left), some (.int (nI w))]) (st2 := [.int left]) b_X4_commonSpot_27_29 rfl (fun hd => ?_)
      refine R2.if_ne 35 hd (by decide) (fun c29 => ?_) (fun c29 => ?_)
      · refine R2.B (ls2 := [some (.ref 33), some (.int (nI a)), some (.int (nI b)), some (.int ds), some (.int x), some (.int (left + (-1))), some (.int ((nI w) + 1))]) (st2 := []) b_X4_commonSpot_35_7 rfl (fun hd => ?_)
        rw [show ((nI w) + 1 : Int32) = nI (w + 1) from nI_add w 1]
        rw [show csL (F 34) a b ds (k + 1) w left = csL (F 34) a b ds k (w + 1) (left + (-1)) from (by clear hd; simp only [csL] <;> grind)]
        exact ih (w + 1) _ (by omega)
      · refine R2.B (ls2 := [some (.ref 33), some (.int (nI a)), some (.int (nI b)), some (.int ds), some (.int x), some (.int left), some (.int (nI w))]) (st2 := [.int (nI w)]) b_X4_commonSpot_32_34 rfl (fun hd => ?_)
        exact R2.ret3 (r := some (.int (nI w))) hd trivial rfl (congrArg (fun z => some (Value.int z)) (by clear hd; simp only [csL] <;> grind)) rfl
theorem b_X4_commonSpot_0_7 : bl2 mX4_commonSpot 0 [(.iload 4, 2, 4, 0, .null), (.istore 5, 2, 5, 0, .null), (.iconst 0, 1, 0, 0, .int 0), (.istore 6, 2, 6, 0, .null)] 7 (.iload 6) 2 = true := by decide +kernel
set_option maxRecDepth 20000 in
set_option maxHeartbeats 1000000 in
theorem ev_commonSpot (E : EE) (L : Nat) (F : FF) (a b : Nat) (ds : Int32) (ha : a < 8) (hb : b < 8) (x : Int32) : Ev3 E L 3 mX4_commonSpot [.ref 33, .int (nI a), .int (nI b), .int ds, .int x] F (some (.int (csL (F 34) a b ds 1024 0 x))) F := by
  refine Ev3.of okX4_commonSpot.2.2.1 (Nat.le_of_ble_eq_true rfl) ?_
  show R2 E L mX4_commonSpot 3 0 [some (.ref 33), some (.int (nI a)), some (.int (nI b)), some (.int ds), some (.int x), none, none] [] F _
  refine R2.B (ls2 := [some (.ref 33), some (.int (nI a)), some (.int (nI b)), some (.int ds), some (.int x), some (.int x), some (.int 0)]) (st2 := []) b_X4_commonSpot_0_7 rfl (fun hd => ?_)
  exact lp_cSpot E L F a b ds ha hb x 1024 0 x (by omega)
end
section
theorem b_X5_findingAt_0_4 : bl2 mX5_findingAt 0 [(.aload_n 0, 1, 0, 0, .null), (.getfield 15, 3, 5, 1, .null)] 4 (.ifCond .eq 5) 3 = true := by decide +kernel
theorem b_X5_findingAt_9_14 : bl2 mX5_findingAt 9 [(.iload_n 1, 1, 1, 0, .null), (.aload_n 0, 1, 0, 0, .null), (.getfield 19, 3, 5, 2, .null)] 14 (.if_icmp .eq 5) 3 = true := by decide +kernel
theorem b_X5_findingAt_19_20 : bl2 mX5_findingAt 19 [(.iload_n 2, 1, 2, 0, .null)] 20 (.ifCond .lt 11) 3 = true := by decide +kernel
theorem b_X5_findingAt_31_36 : bl2 mX5_findingAt 31 [(.iconst 2, 1, 0, 0, .int 2), (.goto 4, 3, 36, 0, .null)] 36 (.ireturn) 1 = true := by decide +kernel
theorem b_X5_findingAt_23_28 : bl2 mX5_findingAt 23 [(.iload_n 2, 1, 2, 0, .null), (.aload_n 0, 1, 0, 0, .null), (.getfield 23, 3, 5, 3, .null)] 28 (.if_icmp .lt 7) 3 = true := by decide +kernel
theorem b_X5_findingAt_35_36 : bl2 mX5_findingAt 35 [(.iconst 0, 1, 0, 0, .int 0)] 36 (.ireturn) 1 = true := by decide +kernel
theorem b_X5_findingAt_17_18 : bl2 mX5_findingAt 17 [(.iconst 3, 1, 0, 0, .int 3)] 18 (.ireturn) 1 = true := by decide +kernel
theorem b_X5_findingAt_7_8 : bl2 mX5_findingAt 7 [(.iconst 1, 1, 0, 0, .int 1)] 8 (.ireturn) 1 = true := by decide +kernel
set_option maxRecDepth 20000 in
set_option maxHeartbeats 1000000 in
theorem ev_findingAt40 (E : EE) (L : Nat) (F : FF) (f x : Int32) : Ev3 E L 1 mX5_findingAt [.ref 40, .int f, .int x] F (some (.int (fndA (F 40 1) (F 40 2) (F 40 3) f x))) F := by
  refine Ev3.of okX5_findingAt.2.2.1 (Nat.le_of_ble_eq_true rfl) ?_
  show R2 E L mX5_findingAt 1 0 [some (.ref 40), some (.int f), some (.int x)] [] F _
  refine R2.B (ls2 := [some (.ref 40), some (.int f), some (.int x)]) (st2 := [.int (F 40 1)]) b_X5_findingAt_0_4 rfl (fun hd => ?_)
  refine R2.if_eq 9 hd (by decide) (fun c4 => ?_) (fun c4 => ?_)
  · refine R2.B (ls2 := [some (.ref 40), some (.int f), some (.int x)]) (st2 := [.int (F 40 2), .int f]) b_X5_findingAt_9_14 rfl (fun hd => ?_)
    refine R2.icmp_eq 19 hd (by decide) (fun c14 => ?_) (fun c14 => ?_)
    · refine R2.B (ls2 := [some (.ref 40), some (.int f), some (.int x)]) (st2 := [.int x]) b_X5_findingAt_19_20 rfl (fun hd => ?_)
      refine R2.if_lt 31 hd (by decide) (fun c20 => ?_) (fun c20 => ?_)
      · refine R2.B (ls2 := [some (.ref 40), some (.int f), some (.int x)]) (st2 := [.int 2]) b_X5_findingAt_31_36 rfl (fun hd => ?_)
        exact R2.ret3 (r := some (.int 2)) hd trivial rfl (congrArg (fun z => some (Value.int z)) (by clear hd; unfold fndA; grind)) rfl
      · refine R2.B (ls2 := [some (.ref 40), some (.int f), some (.int x)]) (st2 := [.int (F 40 3), .int x]) b_X5_findingAt_23_28 rfl (fun hd => ?_)
        refine R2.icmp_lt 35 hd (by decide) (fun c28 => ?_) (fun c28 => ?_)
        · refine R2.B (ls2 := [some (.ref 40), some (.int f), some (.int x)]) (st2 := [.int 0]) b_X5_findingAt_35_36 rfl (fun hd => ?_)
          exact R2.ret3 (r := some (.int 0)) hd trivial rfl (congrArg (fun z => some (Value.int z)) (by clear hd; unfold fndA; grind)) rfl
        · refine R2.B (ls2 := [some (.ref 40), some (.int f), some (.int x)]) (st2 := [.int 2]) b_X5_findingAt_31_36 rfl (fun hd => ?_)
          exact R2.ret3 (r := some (.int 2)) hd trivial rfl (congrArg (fun z => some (Value.int z)) (by clear hd; unfold fndA; grind)) rfl
    · refine R2.B (ls2 := [some (.ref 40), some (.int f), some (.int x)]) (st2 := [.int 3]) b_X5_findingAt_17_18 rfl (fun hd => ?_)
      exact R2.ret3 (r := some (.int 3)) hd trivial rfl (congrArg (fun z => some (Value.int z)) (by clear hd; unfold fndA; grind)) rfl
  · refine R2.B (ls2 := [some (.ref 40), some (.int f), some (.int x)]) (st2 := [.int 1]) b_X5_findingAt_7_8 rfl (fun hd => ?_)
    exact R2.ret3 (r := some (.int 1)) hd trivial rfl (congrArg (fun z => some (Value.int z)) (by clear hd; unfold fndA; grind)) rfl
theorem b_X5_hasRange_0_1 : bl2 mX5_hasRange 0 [(.iload_n 1, 1, 1, 0, .null)] 1 (.ifCond .lt 21) 3 = true := by decide +kernel
theorem b_X5_hasRange_22_23 : bl2 mX5_hasRange 22 [(.iconst 0, 1, 0, 0, .int 0)] 23 (.ireturn) 1 = true := by decide +kernel
theorem b_X5_hasRange_4_5 : bl2 mX5_hasRange 4 [(.iload_n 2, 1, 2, 0, .null)] 5 (.ifCond .lt 17) 3 = true := by decide +kernel
theorem b_X5_hasRange_8_15 : bl2 mX5_hasRange 8 [(.iload_n 1, 1, 1, 0, .null), (.aload_n 0, 1, 0, 0, .null), (.getfield 23, 3, 5, 3, .null), (.iload_n 2, 1, 2, 0, .null), (.isub, 1, 0, 0, .null)] 15 (.if_icmp .gt 7) 3 = true := by decide +kernel
theorem b_X5_hasRange_18_23 : bl2 mX5_hasRange 18 [(.iconst 1, 1, 0, 0, .int 1), (.goto 4, 3, 23, 0, .null)] 23 (.ireturn) 1 = true := by decide +kernel
set_option maxRecDepth 20000 in
set_option maxHeartbeats 1000000 in
theorem ev_hasRange40 (E : EE) (L : Nat) (F : FF) (f x : Int32) : Ev3 E L 1 mX5_hasRange [.ref 40, .int f, .int x] F (some (.int (b2i (0 ≤ f ∧ 0 ≤ x ∧ f ≤ F 40 3 - x)))) F := by
  refine Ev3.of okX5_hasRange.2.2.1 (Nat.le_of_ble_eq_true rfl) ?_
  show R2 E L mX5_hasRange 1 0 [some (.ref 40), some (.int f), some (.int x)] [] F _
  refine R2.B (ls2 := [some (.ref 40), some (.int f), some (.int x)]) (st2 := [.int f]) b_X5_hasRange_0_1 rfl (fun hd => ?_)
  refine R2.if_lt 22 hd (by decide) (fun c1 => ?_) (fun c1 => ?_)
  · refine R2.B (ls2 := [some (.ref 40), some (.int f), some (.int x)]) (st2 := [.int 0]) b_X5_hasRange_22_23 rfl (fun hd => ?_)
    exact R2.ret3 (r := some (.int 0)) hd (Or.inl rfl) rfl (congrArg (fun z => some (Value.int z)) (b2i_f (by clear hd; grind))) rfl
  · refine R2.B (ls2 := [some (.ref 40), some (.int f), some (.int x)]) (st2 := [.int x]) b_X5_hasRange_4_5 rfl (fun hd => ?_)
    refine R2.if_lt 22 hd (by decide) (fun c5 => ?_) (fun c5 => ?_)
    · refine R2.B (ls2 := [some (.ref 40), some (.int f), some (.int x)]) (st2 := [.int 0]) b_X5_hasRange_22_23 rfl (fun hd => ?_)
      exact R2.ret3 (r := some (.int 0)) hd (Or.inl rfl) rfl (congrArg (fun z => some (Value.int z)) (b2i_f (by clear hd; grind))) rfl
    · refine R2.B (ls2 := [some (.ref 40), some (.int f), some (.int x)]) (st2 := [.int ((F 40 3) - x), .int f]) b_X5_hasRange_8_15 rfl (fun hd => ?_)
      refine R2.icmp_gt 22 hd (by decide) (fun c15 => ?_) (fun c15 => ?_)
      · refine R2.B (ls2 := [some (.ref 40), some (.int f), some (.int x)]) (st2 := [.int 0]) b_X5_hasRange_22_23 rfl (fun hd => ?_)
        exact R2.ret3 (r := some (.int 0)) hd (Or.inl rfl) rfl (congrArg (fun z => some (Value.int z)) (b2i_f (by clear hd; grind))) rfl
      · refine R2.B (ls2 := [some (.ref 40), some (.int f), some (.int x)]) (st2 := [.int 1]) b_X5_hasRange_18_23 rfl (fun hd => ?_)
        exact R2.ret3 (r := some (.int 1)) hd (Or.inr rfl) rfl (congrArg (fun z => some (Value.int z)) (b2i_t (by clear hd; grind))) rfl
theorem b_X5_store_0_1 : bl2 mX5_store 0 [(.iload_n 1, 1, 1, 0, .null)] 1 (.ifCond .lt 43) 3 = true := by decide +kernel
theorem b_X5_store_4_9 : bl2 mX5_store 4 [(.iload_n 1, 1, 1, 0, .null), (.aload_n 0, 1, 0, 0, .null), (.getfield 23, 3, 5, 3, .null)] 9 (.if_icmp .ge 35) 3 = true := by decide +kernel
theorem b_X5_store_12_21 : bl2 mX5_store 12 [(.aload_n 0, 1, 0, 0, .null), (.getfield 9, 3, 5, 0, .null), (.iload_n 1, 1, 1, 0, .null), (.aload_n 0, 1, 0, 0, .null), (.getfield 19, 3, 5, 2, .null)] 21 (.ifCond .ne 8) 3 = true := by decide +kernel
theorem b_X5_store_29_34 : bl2 mX5_store 29 [(.aload_n 0, 1, 0, 0, .null), (.getfield 19, 3, 5, 2, .null), (.iconst 1, 1, 0, 0, .int 1)] 34 (.if_icmp .ne 8) 3 = true := by decide +kernel
theorem b_X5_store_42_43 : bl2 mX5_store 42 [(.iload_n 2, 1, 2, 0, .null)] 43 (.iastore) 1 = true := by decide +kernel
theorem b_X5_store_44_44 : bl2 mX5_store 44 [] 44 (.return_) 1 = true := by decide +kernel
theorem b_X5_store_37_43 : bl2 mX5_store 37 [(.iload_n 2, 1, 2, 0, .null), (.i2s, 1, 0, 0, .null), (.goto 4, 3, 43, 0, .null)] 43 (.iastore) 1 = true := by decide +kernel
theorem b_X5_store_24_43 : bl2 mX5_store 24 [(.iload_n 2, 1, 2, 0, .null), (.i2b, 1, 0, 0, .null), (.goto 17, 3, 43, 0, .null)] 43 (.iastore) 1 = true := by decide +kernel
set_option maxRecDepth 20000 in
set_option maxHeartbeats 1000000 in
theorem ev_store40 (E : EE) (L : Nat) (F : FF) (j : Nat) (v : Int32) (hj : j < 60) (hs : nI j < F 40 3) : Ev3 E L 1 mX5_store [.ref 40, .int (nI j), .int v] F none (up2 F 41 j (nrw (F 40 2) v)) := by
  refine Ev3.of okX5_store.2.2.1 (Nat.le_of_ble_eq_true rfl) ?_
  show R2 E L mX5_store 1 0 [some (.ref 40), some (.int (nI j)), some (.int v)] [] F _
  refine R2.B (ls2 := [some (.ref 40), some (.int (nI j)), some (.int v)]) (st2 := [.int (nI j)]) b_X5_store_0_1 rfl (fun hd => ?_)
  refine R2.if_lt 44 hd (by decide) (fun c1 => absurd c1 (nI_pos (by omega))) (fun c1 => ?_)
  refine R2.B (ls2 := [some (.ref 40), some (.int (nI j)), some (.int v)]) (st2 := [.int (F 40 3), .int (nI j)]) b_X5_store_4_9 rfl (fun hd => ?_)
  refine R2.icmp_ge 44 hd (by decide) (fun c9 => absurd c9 (Int32.not_le.mpr hs)) (fun c9 => ?_)
  refine R2.B (ls2 := [some (.ref 40), some (.int (nI j)), some (.int v)]) (st2 := [.int (F 40 2), .int (nI j), .ref 41]) b_X5_store_12_21 rfl (fun hd => ?_)
  refine R2.if_ne 29 hd (by decide) (fun c21 => ?_) (fun c21 => ?_)
  · refine R2.B (ls2 := [some (.ref 40), some (.int (nI j)), some (.int v)]) (st2 := [.int 1, .int (F 40 2), .int (nI j), .ref 41]) b_X5_store_29_34 rfl (fun hd => ?_)
    refine R2.icmp_ne 42 hd (by decide) (fun c34 => ?_) (fun c34 => ?_)
    · refine R2.B (ls2 := [some (.ref 40), some (.int (nI j)), some (.int v)]) (st2 := [.int v, .int (nI j), .ref 41]) b_X5_store_42_43 rfl (fun hd => ?_)
      refine R2.iast j rfl hd (by decide) rfl (fun _ => rfl) (by decide) (by omega) ?_
      refine R2.B (ls2 := [some (.ref 40), some (.int (nI j)), some (.int v)]) (st2 := []) b_X5_store_44_44 rfl (fun hd => ?_)
      refine R2.ret3 (r := none) hd trivial rfl rfl ?_
      unfold nrw
      first | (rw [if_pos c21]; done) | (rw [if_neg c21, if_pos c34]; done) | (rw [if_neg c21, if_neg c34]; done)
    · refine R2.B (ls2 := [some (.ref 40), some (.int (nI j)), some (.int v)]) (st2 := [.int v.toInt16.toInt32, .int (nI j), .ref 41]) b_X5_store_37_43 rfl (fun hd => ?_)
      refine R2.iast j rfl hd (by decide) rfl (fun _ => rfl) (by decide) (by omega) ?_
      refine R2.B (ls2 := [some (.ref 40), some (.int (nI j)), some (.int v)]) (st2 := []) b_X5_store_44_44 rfl (fun hd => ?_)
      refine R2.ret3 (r := none) hd trivial rfl rfl ?_
      unfold nrw
      first | (rw [if_pos c21]; done) | (rw [if_neg c21, if_pos c34]; done) | (rw [if_neg c21, if_neg c34]; done)
  · refine R2.B (ls2 := [some (.ref 40), some (.int (nI j)), some (.int v)]) (st2 := [.int v.toInt8.toInt32, .int (nI j), .ref 41]) b_X5_store_24_43 rfl (fun hd => ?_)
    refine R2.iast j rfl hd (by decide) rfl (fun _ => rfl) (by decide) (by omega) ?_
    refine R2.B (ls2 := [some (.ref 40), some (.int (nI j)), some (.int v)]) (st2 := []) b_X5_store_44_44 rfl (fun hd => ?_)
    refine R2.ret3 (r := none) hd trivial rfl rfl ?_
    unfold nrw
    first | (rw [if_pos c21]; done) | (rw [if_neg c21, if_pos c34]; done) | (rw [if_neg c21, if_neg c34]; done)
theorem b_X5_renew_0_2 : bl2 mX5_renew 0 [(.aload_n 0, 1, 0, 0, .null), (.iconst 0, 1, 0, 0, .int 0)] 2 (.putfield 15) 3 = true := by decide +kernel
theorem b_X5_renew_5_7 : bl2 mX5_renew 5 [(.aload_n 0, 1, 0, 0, .null), (.iload_n 1, 1, 1, 0, .null)] 7 (.putfield 19) 3 = true := by decide +kernel
theorem b_X5_renew_10_12 : bl2 mX5_renew 10 [(.aload_n 0, 1, 0, 0, .null), (.iload_n 2, 1, 2, 0, .null)] 12 (.putfield 23) 3 = true := by decide +kernel
theorem b_X5_renew_15_20 : bl2 mX5_renew 15 [(.aload_n 0, 1, 0, 0, .null), (.getfield 9, 3, 5, 0, .null), (.iconst 0, 1, 0, 0, .int 0)] 20 (.invokestatic 26) 3 = true := by decide +kernel
theorem b_X5_renew_23_23 : bl2 mX5_renew 23 [] 23 (.return_) 1 = true := by decide +kernel
set_option maxRecDepth 20000 in
set_option maxHeartbeats 1000000 in
theorem ev_renew40 (E : EE) (L : Nat) (F : FF) (f x : Int32) : Ev3 E L 2 mX5_renew [.ref 40, .int f, .int x] F none (fillF (up2 (up2 (up2 F 40 1 0) 40 2 f) 40 3 x) 41 60 0) := by
  refine Ev3.of okX5_renew.2.2.1 (Nat.le_of_ble_eq_true rfl) ?_
  show R2 E L mX5_renew 2 0 [some (.ref 40), some (.int f), some (.int x)] [] F _
  refine R2.B (ls2 := [some (.ref 40), some (.int f), some (.int x)]) (st2 := [.int 0, .ref 40]) b_X5_renew_0_2 rfl (fun hd => ?_)
  refine R2.putf (a := 5) (b := 1) hd (by decide) (by decide) rfl rfl (fun _ => rfl) ?_
  refine R2.B (ls2 := [some (.ref 40), some (.int f), some (.int x)]) (st2 := [.int f, .ref 40]) b_X5_renew_5_7 rfl (fun hd => ?_)
  refine R2.putf (a := 5) (b := 2) hd (by decide) (by decide) rfl rfl (fun _ => rfl) ?_
  refine R2.B (ls2 := [some (.ref 40), some (.int f), some (.int x)]) (st2 := [.int x, .ref 40]) b_X5_renew_10_12 rfl (fun hd => ?_)
  refine R2.putf (a := 5) (b := 3) hd (by decide) (by decide) rfl rfl (fun _ => rfl) ?_
  refine R2.B (ls2 := [some (.ref 40), some (.int f), some (.int x)]) (st2 := [.int 0, .ref 41]) b_X5_renew_15_20 rfl (fun hd => ?_)
  refine R2.callS3 (M2 := mJ7_fill_53178) (As := [.ref 41, .int 0]) (rest := []) hd lk_5_26 okJ7_fill_53178 (by decide) (ev_fill E L (up2 (up2 (up2 F 40 1 0) 40 2 f) 40 3 x) 41 60 0 rfl (fun _ => rfl) (by decide) (by decide)) (by decide) rfl rfl (Nat.le_of_ble_eq_true rfl) ?_
  refine R2.B (ls2 := [some (.ref 40), some (.int f), some (.int x)]) (st2 := []) b_X5_renew_23_23 rfl (fun hd => ?_)
  exact R2.ret3 (r := none) hd trivial rfl rfl rfl
set_option maxRecDepth 20000 in
set_option maxHeartbeats 1000000 in
theorem ev_findingAt42 (E : EE) (L : Nat) (F : FF) (f x : Int32) : Ev3 E L 1 mX5_findingAt [.ref 42, .int f, .int x] F (some (.int (fndA (F 42 1) (F 42 2) (F 42 3) f x))) F := by
  refine Ev3.of okX5_findingAt.2.2.1 (Nat.le_of_ble_eq_true rfl) ?_
  show R2 E L mX5_findingAt 1 0 [some (.ref 42), some (.int f), some (.int x)] [] F _
  refine R2.B (ls2 := [some (.ref 42), some (.int f), some (.int x)]) (st2 := [.int (F 42 1)]) b_X5_findingAt_0_4 rfl (fun hd => ?_)
  refine R2.if_eq 9 hd (by decide) (fun c4 => ?_) (fun c4 => ?_)
  · refine R2.B (ls2 := [some (.ref 42), some (.int f), some (.int x)]) (st2 := [.int (F 42 2), .int f]) b_X5_findingAt_9_14 rfl (fun hd => ?_)
    refine R2.icmp_eq 19 hd (by decide) (fun c14 => ?_) (fun c14 => ?_)
    · refine R2.B (ls2 := [some (.ref 42), some (.int f), some (.int x)]) (st2 := [.int x]) b_X5_findingAt_19_20 rfl (fun hd => ?_)
      refine R2.if_lt 31 hd (by decide) (fun c20 => ?_) (fun c20 => ?_)
      · refine R2.B (ls2 := [some (.ref 42), some (.int f), some (.int x)]) (st2 := [.int 2]) b_X5_findingAt_31_36 rfl (fun hd => ?_)
        exact R2.ret3 (r := some (.int 2)) hd trivial rfl (congrArg (fun z => some (Value.int z)) (by clear hd; unfold fndA; grind)) rfl
      · refine R2.B (ls2 := [some (.ref 42), some (.int f), some (.int x)]) (st2 := [.int (F 42 3), .int x]) b_X5_findingAt_23_28 rfl (fun hd => ?_)
        refine R2.icmp_lt 35 hd (by decide) (fun c28 => ?_) (fun c28 => ?_)
        · refine R2.B (ls2 := [some (.ref 42), some (.int f), some (.int x)]) (st2 := [.int 0]) b_X5_findingAt_35_36 rfl (fun hd => ?_)
          exact R2.ret3 (r := some (.int 0)) hd trivial rfl (congrArg (fun z => some (Value.int z)) (by clear hd; unfold fndA; grind)) rfl
        · refine R2.B (ls2 := [some (.ref 42), some (.int f), some (.int x)]) (st2 := [.int 2]) b_X5_findingAt_31_36 rfl (fun hd => ?_)
          exact R2.ret3 (r := some (.int 2)) hd trivial rfl (congrArg (fun z => some (Value.int z)) (by clear hd; unfold fndA; grind)) rfl
    · refine R2.B (ls2 := [some (.ref 42), some (.int f), some (.int x)]) (st2 := [.int 3]) b_X5_findingAt_17_18 rfl (fun hd => ?_)
      exact R2.ret3 (r := some (.int 3)) hd trivial rfl (congrArg (fun z => some (Value.int z)) (by clear hd; unfold fndA; grind)) rfl
  · refine R2.B (ls2 := [some (.ref 42), some (.int f), some (.int x)]) (st2 := [.int 1]) b_X5_findingAt_7_8 rfl (fun hd => ?_)
    exact R2.ret3 (r := some (.int 1)) hd trivial rfl (congrArg (fun z => some (Value.int z)) (by clear hd; unfold fndA; grind)) rfl
set_option maxRecDepth 20000 in
set_option maxHeartbeats 1000000 in
theorem ev_hasRange42 (E : EE) (L : Nat) (F : FF) (f x : Int32) : Ev3 E L 1 mX5_hasRange [.ref 42, .int f, .int x] F (some (.int (b2i (0 ≤ f ∧ 0 ≤ x ∧ f ≤ F 42 3 - x)))) F := by
  refine Ev3.of okX5_hasRange.2.2.1 (Nat.le_of_ble_eq_true rfl) ?_
  show R2 E L mX5_hasRange 1 0 [some (.ref 42), some (.int f), some (.int x)] [] F _
  refine R2.B (ls2 := [some (.ref 42), some (.int f), some (.int x)]) (st2 := [.int f]) b_X5_hasRange_0_1 rfl (fun hd => ?_)
  refine R2.if_lt 22 hd (by decide) (fun c1 => ?_) (fun c1 => ?_)
  · refine R2.B (ls2 := [some (.ref 42), some (.int f), some (.int x)]) (st2 := [.int 0]) b_X5_hasRange_22_23 rfl (fun hd => ?_)
    exact R2.ret3 (r := some (.int 0)) hd (Or.inl rfl) rfl (congrArg (fun z => some (Value.int z)) (b2i_f (by clear hd; grind))) rfl
  · refine R2.B (ls2 := [some (.ref 42), some (.int f), some (.int x)]) (st2 := [.int x]) b_X5_hasRange_4_5 rfl (fun hd => ?_)
    refine R2.if_lt 22 hd (by decide) (fun c5 => ?_) (fun c5 => ?_)
    · refine R2.B (ls2 := [some (.ref 42), some (.int f), some (.int x)]) (st2 := [.int 0]) b_X5_hasRange_22_23 rfl (fun hd => ?_)
      exact R2.ret3 (r := some (.int 0)) hd (Or.inl rfl) rfl (congrArg (fun z => some (Value.int z)) (b2i_f (by clear hd; grind))) rfl
    · refine R2.B (ls2 := [some (.ref 42), some (.int f), some (.int x)]) (st2 := [.int ((F 42 3) - x), .int f]) b_X5_hasRange_8_15 rfl (fun hd => ?_)
      refine R2.icmp_gt 22 hd (by decide) (fun c15 => ?_) (fun c15 => ?_)
      · refine R2.B (ls2 := [some (.ref 42), some (.int f), some (.int x)]) (st2 := [.int 0]) b_X5_hasRange_22_23 rfl (fun hd => ?_)
        exact R2.ret3 (r := some (.int 0)) hd (Or.inl rfl) rfl (congrArg (fun z => some (Value.int z)) (b2i_f (by clear hd; grind))) rfl
      · refine R2.B (ls2 := [some (.ref 42), some (.int f), some (.int x)]) (st2 := [.int 1]) b_X5_hasRange_18_23 rfl (fun hd => ?_)
        exact R2.ret3 (r := some (.int 1)) hd (Or.inr rfl) rfl (congrArg (fun z => some (Value.int z)) (b2i_t (by clear hd; grind))) rfl
set_option maxRecDepth 20000 in
set_option maxHeartbeats 1000000 in
theorem ev_store42 (E : EE) (L : Nat) (F : FF) (j : Nat) (v : Int32) (hj : j < 60) (hs : nI j < F 42 3) : Ev3 E L 1 mX5_store [.ref 42, .int (nI j), .int v] F none (up2 F 43 j (nrw (F 42 2) v)) := by
  refine Ev3.of okX5_store.2.2.1 (Nat.le_of_ble_eq_true rfl) ?_
  show R2 E L mX5_store 1 0 [some (.ref 42), some (.int (nI j)), some (.int v)] [] F _
  refine R2.B (ls2 := [some (.ref 42), some (.int (nI j)), some (.int v)]) (st2 := [.int (nI j)]) b_X5_store_0_1 rfl (fun hd => ?_)
  refine R2.if_lt 44 hd (by decide) (fun c1 => absurd c1 (nI_pos (by omega))) (fun c1 => ?_)
  refine R2.B (ls2 := [some (.ref 42), some (.int (nI j)), some (.int v)]) (st2 := [.int (F 42 3), .int (nI j)]) b_X5_store_4_9 rfl (fun hd => ?_)
  refine R2.icmp_ge 44 hd (by decide) (fun c9 => absurd c9 (Int32.not_le.mpr hs)) (fun c9 => ?_)
  refine R2.B (ls2 := [some (.ref 42), some (.int (nI j)), some (.int v)]) (st2 := [.int (F 42 2), .int (nI j), .ref 43]) b_X5_store_12_21 rfl (fun hd => ?_)
  refine R2.if_ne 29 hd (by decide) (fun c21 => ?_) (fun c21 => ?_)
  · refine R2.B (ls2 := [some (.ref 42), some (.int (nI j)), some (.int v)]) (st2 := [.int 1, .int (F 42 2), .int (nI j), .ref 43]) b_X5_store_29_34 rfl (fun hd => ?_)
    refine R2.icmp_ne 42 hd (by decide) (fun c34 => ?_) (fun c34 => ?_)
    · refine R2.B (ls2 := [some (.ref 42), some (.int (nI j)), some (.int v)]) (st2 := [.int v, .int (nI j), .ref 43]) b_X5_store_42_43 rfl (fun hd => ?_)
      refine R2.iast j rfl hd (by decide) rfl (fun _ => rfl) (by decide) (by omega) ?_
      refine R2.B (ls2 := [some (.ref 42), some (.int (nI j)), some (.int v)]) (st2 := []) b_X5_store_44_44 rfl (fun hd => ?_)
      refine R2.ret3 (r := none) hd trivial rfl rfl ?_
      unfold nrw
      first | (rw [if_pos c21]; done) | (rw [if_neg c21, if_pos c34]; done) | (rw [if_neg c21, if_neg c34]; done)
    · refine R2.B (ls2 := [some (.ref 42), some (.int (nI j)), some (.int v)]) (st2 := [.int v.toInt16.toInt32, .int (nI j), .ref 43]) b_X5_store_37_43 rfl (fun hd => ?_)
      refine R2.iast j rfl hd (by decide) rfl (fun _ => rfl) (by decide) (by omega) ?_
      refine R2.B (ls2 := [some (.ref 42), some (.int (nI j)), some (.int v)]) (st2 := []) b_X5_store_44_44 rfl (fun hd => ?_)
      refine R2.ret3 (r := none) hd trivial rfl rfl ?_
      unfold nrw
      first | (rw [if_pos c21]; done) | (rw [if_neg c21, if_pos c34]; done) | (rw [if_neg c21, if_neg c34]; done)
  · refine R2.B (ls2 := [some (.ref 42), some (.int (nI j)), some (.int v)]) (st2 := [.int v.toInt8.toInt32, .int (nI j), .ref 43]) b_X5_store_24_43 rfl (fun hd => ?_)
    refine R2.iast j rfl hd (by decide) rfl (fun _ => rfl) (by decide) (by omega) ?_
    refine R2.B (ls2 := [some (.ref 42), some (.int (nI j)), some (.int v)]) (st2 := []) b_X5_store_44_44 rfl (fun hd => ?_)
    refine R2.ret3 (r := none) hd trivial rfl rfl ?_
    unfold nrw
    first | (rw [if_pos c21]; done) | (rw [if_neg c21, if_pos c34]; done) | (rw [if_neg c21, if_neg c34]; done)
set_option maxRecDepth 20000 in
set_option maxHeartbeats 1000000 in
theorem ev_renew42 (E : EE) (L : Nat) (F : FF) (f x : Int32) : Ev3 E L 2 mX5_renew [.ref 42, .int f, .int x] F none (fillF (up2 (up2 (up2 F 42 1 0) 42 2 f) 42 3 x) 43 60 0) := by
  refine Ev3.of okX5_renew.2.2.1 (Nat.le_of_ble_eq_true rfl) ?_
  show R2 E L mX5_renew 2 0 [some (.ref 42), some (.int f), some (.int x)] [] F _
  refine R2.B (ls2 := [some (.ref 42), some (.int f), some (.int x)]) (st2 := [.int 0, .ref 42]) b_X5_renew_0_2 rfl (fun hd => ?_)
  refine R2.putf (a := 5) (b := 1) hd (by decide) (by decide) rfl rfl (fun _ => rfl) ?_
  refine R2.B (ls2 := [some (.ref 42), some (.int f), some (.int x)]) (st2 := [.int f, .ref 42]) b_X5_renew_5_7 rfl (fun hd => ?_)
  refine R2.putf (a := 5) (b := 2) hd (by decide) (by decide) rfl rfl (fun _ => rfl) ?_
  refine R2.B (ls2 := [some (.ref 42), some (.int f), some (.int x)]) (st2 := [.int x, .ref 42]) b_X5_renew_10_12 rfl (fun hd => ?_)
  refine R2.putf (a := 5) (b := 3) hd (by decide) (by decide) rfl rfl (fun _ => rfl) ?_
  refine R2.B (ls2 := [some (.ref 42), some (.int f), some (.int x)]) (st2 := [.int 0, .ref 43]) b_X5_renew_15_20 rfl (fun hd => ?_)
  refine R2.callS3 (M2 := mJ7_fill_53178) (As := [.ref 43, .int 0]) (rest := []) hd lk_5_26 okJ7_fill_53178 (by decide) (ev_fill E L (up2 (up2 (up2 F 42 1 0) 42 2 f) 42 3 x) 43 60 0 rfl (fun _ => rfl) (by decide) (by decide)) (by decide) rfl rfl (Nat.le_of_ble_eq_true rfl) ?_
  refine R2.B (ls2 := [some (.ref 42), some (.int f), some (.int x)]) (st2 := []) b_X5_renew_23_23 rfl (fun hd => ?_)
  exact R2.ret3 (r := none) hd trivial rfl rfl rfl
set_option maxRecDepth 20000 in
set_option maxHeartbeats 1000000 in
theorem ev_findingAt44 (E : EE) (L : Nat) (F : FF) (f x : Int32) : Ev3 E L 1 mX5_findingAt [.ref 44, .int f, .int x] F (some (.int (fndA (F 44 1) (F 44 2) (F 44 3) f x))) F := by
  refine Ev3.of okX5_findingAt.2.2.1 (Nat.le_of_ble_eq_true rfl) ?_
  show R2 E L mX5_findingAt 1 0 [some (.ref 44), some (.int f), some (.int x)] [] F _
  refine R2.B (ls2 := [some (.ref 44), some (.int f), some (.int x)]) (st2 := [.int (F 44 1)]) b_X5_findingAt_0_4 rfl (fun hd => ?_)
  refine R2.if_eq 9 hd (by decide) (fun c4 => ?_) (fun c4 => ?_)
  · refine R2.B (ls2 := [some (.ref 44), some (.int f), some (.int x)]) (st2 := [.int (F 44 2), .int f]) b_X5_findingAt_9_14 rfl (fun hd => ?_)
    refine R2.icmp_eq 19 hd (by decide) (fun c14 => ?_) (fun c14 => ?_)
    · refine R2.B (ls2 := [some (.ref 44), some (.int f), some (.int x)]) (st2 := [.int x]) b_X5_findingAt_19_20 rfl (fun hd => ?_)
      refine R2.if_lt 31 hd (by decide) (fun c20 => ?_) (fun c20 => ?_)
      · refine R2.B (ls2 := [some (.ref 44), some (.int f), some (.int x)]) (st2 := [.int 2]) b_X5_findingAt_31_36 rfl (fun hd => ?_)
        exact R2.ret3 (r := some (.int 2)) hd trivial rfl (congrArg (fun z => some (Value.int z)) (by clear hd; unfold fndA; grind)) rfl
      · refine R2.B (ls2 := [some (.ref 44), some (.int f), some (.int x)]) (st2 := [.int (F 44 3), .int x]) b_X5_findingAt_23_28 rfl (fun hd => ?_)
        refine R2.icmp_lt 35 hd (by decide) (fun c28 => ?_) (fun c28 => ?_)
        · refine R2.B (ls2 := [some (.ref 44), some (.int f), some (.int x)]) (st2 := [.int 0]) b_X5_findingAt_35_36 rfl (fun hd => ?_)
          exact R2.ret3 (r := some (.int 0)) hd trivial rfl (congrArg (fun z => some (Value.int z)) (by clear hd; unfold fndA; grind)) rfl
        · refine R2.B (ls2 := [some (.ref 44), some (.int f), some (.int x)]) (st2 := [.int 2]) b_X5_findingAt_31_36 rfl (fun hd => ?_)
          exact R2.ret3 (r := some (.int 2)) hd trivial rfl (congrArg (fun z => some (Value.int z)) (by clear hd; unfold fndA; grind)) rfl
    · refine R2.B (ls2 := [some (.ref 44), some (.int f), some (.int x)]) (st2 := [.int 3]) b_X5_findingAt_17_18 rfl (fun hd => ?_)
      exact R2.ret3 (r := some (.int 3)) hd trivial rfl (congrArg (fun z => some (Value.int z)) (by clear hd; unfold fndA; grind)) rfl
  · refine R2.B (ls2 := [some (.ref 44), some (.int f), some (.int x)]) (st2 := [.int 1]) b_X5_findingAt_7_8 rfl (fun hd => ?_)
    exact R2.ret3 (r := some (.int 1)) hd trivial rfl (congrArg (fun z => some (Value.int z)) (by clear hd; unfold fndA; grind)) rfl
set_option maxRecDepth 20000 in
set_option maxHeartbeats 1000000 in
theorem ev_hasRange44 (E : EE) (L : Nat) (F : FF) (f x : Int32) : Ev3 E L 1 mX5_hasRange [.ref 44, .int f, .int x] F (some (.int (b2i (0 ≤ f ∧ 0 ≤ x ∧ f ≤ F 44 3 - x)))) F := by
  refine Ev3.of okX5_hasRange.2.2.1 (Nat.le_of_ble_eq_true rfl) ?_
  show R2 E L mX5_hasRange 1 0 [some (.ref 44), some (.int f), some (.int x)] [] F _
  refine R2.B (ls2 := [some (.ref 44), some (.int f), some (.int x)]) (st2 := [.int f]) b_X5_hasRange_0_1 rfl (fun hd => ?_)
  refine R2.if_lt 22 hd (by decide) (fun c1 => ?_) (fun c1 => ?_)
  · refine R2.B (ls2 := [some (.ref 44), some (.int f), some (.int x)]) (st2 := [.int 0]) b_X5_hasRange_22_23 rfl (fun hd => ?_)
    exact R2.ret3 (r := some (.int 0)) hd (Or.inl rfl) rfl (congrArg (fun z => some (Value.int z)) (b2i_f (by clear hd; grind))) rfl
  · refine R2.B (ls2 := [some (.ref 44), some (.int f), some (.int x)]) (st2 := [.int x]) b_X5_hasRange_4_5 rfl (fun hd => ?_)
    refine R2.if_lt 22 hd (by decide) (fun c5 => ?_) (fun c5 => ?_)
    · refine R2.B (ls2 := [some (.ref 44), some (.int f), some (.int x)]) (st2 := [.int 0]) b_X5_hasRange_22_23 rfl (fun hd => ?_)
      exact R2.ret3 (r := some (.int 0)) hd (Or.inl rfl) rfl (congrArg (fun z => some (Value.int z)) (b2i_f (by clear hd; grind))) rfl
    · refine R2.B (ls2 := [some (.ref 44), some (.int f), some (.int x)]) (st2 := [.int ((F 44 3) - x), .int f]) b_X5_hasRange_8_15 rfl (fun hd => ?_)
      refine R2.icmp_gt 22 hd (by decide) (fun c15 => ?_) (fun c15 => ?_)
      · refine R2.B (ls2 := [some (.ref 44), some (.int f), some (.int x)]) (st2 := [.int 0]) b_X5_hasRange_22_23 rfl (fun hd => ?_)
        exact R2.ret3 (r := some (.int 0)) hd (Or.inl rfl) rfl (congrArg (fun z => some (Value.int z)) (b2i_f (by clear hd; grind))) rfl
      · refine R2.B (ls2 := [some (.ref 44), some (.int f), some (.int x)]) (st2 := [.int 1]) b_X5_hasRange_18_23 rfl (fun hd => ?_)
        exact R2.ret3 (r := some (.int 1)) hd (Or.inr rfl) rfl (congrArg (fun z => some (Value.int z)) (b2i_t (by clear hd; grind))) rfl
set_option maxRecDepth 20000 in
set_option maxHeartbeats 1000000 in
theorem ev_store44 (E : EE) (L : Nat) (F : FF) (j : Nat) (v : Int32) (hj : j < 60) (hs : nI j < F 44 3) : Ev3 E L 1 mX5_store [.ref 44, .int (nI j), .int v] F none (up2 F 45 j (nrw (F 44 2) v)) := by
  refine Ev3.of okX5_store.2.2.1 (Nat.le_of_ble_eq_true rfl) ?_
  show R2 E L mX5_store 1 0 [some (.ref 44), some (.int (nI j)), some (.int v)] [] F _
  refine R2.B (ls2 := [some (.ref 44), some (.int (nI j)), some (.int v)]) (st2 := [.int (nI j)]) b_X5_store_0_1 rfl (fun hd => ?_)
  refine R2.if_lt 44 hd (by decide) (fun c1 => absurd c1 (nI_pos (by omega))) (fun c1 => ?_)
  refine R2.B (ls2 := [some (.ref 44), some (.int (nI j)), some (.int v)]) (st2 := [.int (F 44 3), .int (nI j)]) b_X5_store_4_9 rfl (fun hd => ?_)
  refine R2.icmp_ge 44 hd (by decide) (fun c9 => absurd c9 (Int32.not_le.mpr hs)) (fun c9 => ?_)
  refine R2.B (ls2 := [some (.ref 44), some (.int (nI j)), some (.int v)]) (st2 := [.int (F 44 2), .int (nI j), .ref 45]) b_X5_store_12_21 rfl (fun hd => ?_)
  refine R2.if_ne 29 hd (by decide) (fun c21 => ?_) (fun c21 => ?_)
  · refine R2.B (ls2 := [some (.ref 44), some (.int (nI j)), some (.int v)]) (st2 := [.int 1, .int (F 44 2), .int (nI j), .ref 45]) b_X5_store_29_34 rfl (fun hd => ?_)
    refine R2.icmp_ne 42 hd (by decide) (fun c34 => ?_) (fun c34 => ?_)
    · refine R2.B (ls2 := [some (.ref 44), some (.int (nI j)), some (.int v)]) (st2 := [.int v, .int (nI j), .ref 45]) b_X5_store_42_43 rfl (fun hd => ?_)
      refine R2.iast j rfl hd (by decide) rfl (fun _ => rfl) (by decide) (by omega) ?_
      refine R2.B (ls2 := [some (.ref 44), some (.int (nI j)), some (.int v)]) (st2 := []) b_X5_store_44_44 rfl (fun hd => ?_)
      refine R2.ret3 (r := none) hd trivial rfl rfl ?_
      unfold nrw
      first | (rw [if_pos c21]; done) | (rw [if_neg c21, if_pos c34]; done) | (rw [if_neg c21, if_neg c34]; done)
    · refine R2.B (ls2 := [some (.ref 44), some (.int (nI j)), some (.int v)]) (st2 := [.int v.toInt16.toInt32, .int (nI j), .ref 45]) b_X5_store_37_43 rfl (fun hd => ?_)
      refine R2.iast j rfl hd (by decide) rfl (fun _ => rfl) (by decide) (by omega) ?_
      refine R2.B (ls2 := [some (.ref 44), some (.int (nI j)), some (.int v)]) (st2 := []) b_X5_store_44_44 rfl (fun hd => ?_)
      refine R2.ret3 (r := none) hd trivial rfl rfl ?_
      unfold nrw
      first | (rw [if_pos c21]; done) | (rw [if_neg c21, if_pos c34]; done) | (rw [if_neg c21, if_neg c34]; done)
  · refine R2.B (ls2 := [some (.ref 44), some (.int (nI j)), some (.int v)]) (st2 := [.int v.toInt8.toInt32, .int (nI j), .ref 45]) b_X5_store_24_43 rfl (fun hd => ?_)
    refine R2.iast j rfl hd (by decide) rfl (fun _ => rfl) (by decide) (by omega) ?_
    refine R2.B (ls2 := [some (.ref 44), some (.int (nI j)), some (.int v)]) (st2 := []) b_X5_store_44_44 rfl (fun hd => ?_)
    refine R2.ret3 (r := none) hd trivial rfl rfl ?_
    unfold nrw
    first | (rw [if_pos c21]; done) | (rw [if_neg c21, if_pos c34]; done) | (rw [if_neg c21, if_neg c34]; done)
set_option maxRecDepth 20000 in
set_option maxHeartbeats 1000000 in
theorem ev_renew44 (E : EE) (L : Nat) (F : FF) (f x : Int32) : Ev3 E L 2 mX5_renew [.ref 44, .int f, .int x] F none (fillF (up2 (up2 (up2 F 44 1 0) 44 2 f) 44 3 x) 45 60 0) := by
  refine Ev3.of okX5_renew.2.2.1 (Nat.le_of_ble_eq_true rfl) ?_
  show R2 E L mX5_renew 2 0 [some (.ref 44), some (.int f), some (.int x)] [] F _
  refine R2.B (ls2 := [some (.ref 44), some (.int f), some (.int x)]) (st2 := [.int 0, .ref 44]) b_X5_renew_0_2 rfl (fun hd => ?_)
  refine R2.putf (a := 5) (b := 1) hd (by decide) (by decide) rfl rfl (fun _ => rfl) ?_
  refine R2.B (ls2 := [some (.ref 44), some (.int f), some (.int x)]) (st2 := [.int f, .ref 44]) b_X5_renew_5_7 rfl (fun hd => ?_)
  refine R2.putf (a := 5) (b := 2) hd (by decide) (by decide) rfl rfl (fun _ => rfl) ?_
  refine R2.B (ls2 := [some (.ref 44), some (.int f), some (.int x)]) (st2 := [.int x, .ref 44]) b_X5_renew_10_12 rfl (fun hd => ?_)
  refine R2.putf (a := 5) (b := 3) hd (by decide) (by decide) rfl rfl (fun _ => rfl) ?_
  refine R2.B (ls2 := [some (.ref 44), some (.int f), some (.int x)]) (st2 := [.int 0, .ref 45]) b_X5_renew_15_20 rfl (fun hd => ?_)
  refine R2.callS3 (M2 := mJ7_fill_53178) (As := [.ref 45, .int 0]) (rest := []) hd lk_5_26 okJ7_fill_53178 (by decide) (ev_fill E L (up2 (up2 (up2 F 44 1 0) 44 2 f) 44 3 x) 45 60 0 rfl (fun _ => rfl) (by decide) (by decide)) (by decide) rfl rfl (Nat.le_of_ble_eq_true rfl) ?_
  refine R2.B (ls2 := [some (.ref 44), some (.int f), some (.int x)]) (st2 := []) b_X5_renew_23_23 rfl (fun hd => ?_)
  exact R2.ret3 (r := none) hd trivial rfl rfl rfl
set_option maxRecDepth 20000 in
set_option maxHeartbeats 1000000 in
theorem ev_findingAt46 (E : EE) (L : Nat) (F : FF) (f x : Int32) : Ev3 E L 1 mX5_findingAt [.ref 46, .int f, .int x] F (some (.int (fndA (F 46 1) (F 46 2) (F 46 3) f x))) F := by
  refine Ev3.of okX5_findingAt.2.2.1 (Nat.le_of_ble_eq_true rfl) ?_
  show R2 E L mX5_findingAt 1 0 [some (.ref 46), some (.int f), some (.int x)] [] F _
  refine R2.B (ls2 := [some (.ref 46), some (.int f), some (.int x)]) (st2 := [.int (F 46 1)]) b_X5_findingAt_0_4 rfl (fun hd => ?_)
  refine R2.if_eq 9 hd (by decide) (fun c4 => ?_) (fun c4 => ?_)
  · refine R2.B (ls2 := [some (.ref 46), some (.int f), some (.int x)]) (st2 := [.int (F 46 2), .int f]) b_X5_findingAt_9_14 rfl (fun hd => ?_)
    refine R2.icmp_eq 19 hd (by decide) (fun c14 => ?_) (fun c14 => ?_)
    · refine R2.B (ls2 := [some (.ref 46), some (.int f), some (.int x)]) (st2 := [.int x]) b_X5_findingAt_19_20 rfl (fun hd => ?_)
      refine R2.if_lt 31 hd (by decide) (fun c20 => ?_) (fun c20 => ?_)
      · refine R2.B (ls2 := [some (.ref 46), some (.int f), some (.int x)]) (st2 := [.int 2]) b_X5_findingAt_31_36 rfl (fun hd => ?_)
        exact R2.ret3 (r := some (.int 2)) hd trivial rfl (congrArg (fun z => some (Value.int z)) (by clear hd; unfold fndA; grind)) rfl
      · refine R2.B (ls2 := [some (.ref 46), some (.int f), some (.int x)]) (st2 := [.int (F 46 3), .int x]) b_X5_findingAt_23_28 rfl (fun hd => ?_)
        refine R2.icmp_lt 35 hd (by decide) (fun c28 => ?_) (fun c28 => ?_)
        · refine R2.B (ls2 := [some (.ref 46), some (.int f), some (.int x)]) (st2 := [.int 0]) b_X5_findingAt_35_36 rfl (fun hd => ?_)
          exact R2.ret3 (r := some (.int 0)) hd trivial rfl (congrArg (fun z => some (Value.int z)) (by clear hd; unfold fndA; grind)) rfl
        · refine R2.B (ls2 := [some (.ref 46), some (.int f), some (.int x)]) (st2 := [.int 2]) b_X5_findingAt_31_36 rfl (fun hd => ?_)
          exact R2.ret3 (r := some (.int 2)) hd trivial rfl (congrArg (fun z => some (Value.int z)) (by clear hd; unfold fndA; grind)) rfl
    · refine R2.B (ls2 := [some (.ref 46), some (.int f), some (.int x)]) (st2 := [.int 3]) b_X5_findingAt_17_18 rfl (fun hd => ?_)
      exact R2.ret3 (r := some (.int 3)) hd trivial rfl (congrArg (fun z => some (Value.int z)) (by clear hd; unfold fndA; grind)) rfl
  · refine R2.B (ls2 := [some (.ref 46), some (.int f), some (.int x)]) (st2 := [.int 1]) b_X5_findingAt_7_8 rfl (fun hd => ?_)
    exact R2.ret3 (r := some (.int 1)) hd trivial rfl (congrArg (fun z => some (Value.int z)) (by clear hd; unfold fndA; grind)) rfl
set_option maxRecDepth 20000 in
set_option maxHeartbeats 1000000 in
theorem ev_hasRange46 (E : EE) (L : Nat) (F : FF) (f x : Int32) : Ev3 E L 1 mX5_hasRange [.ref 46, .int f, .int x] F (some (.int (b2i (0 ≤ f ∧ 0 ≤ x ∧ f ≤ F 46 3 - x)))) F := by
  refine Ev3.of okX5_hasRange.2.2.1 (Nat.le_of_ble_eq_true rfl) ?_
  show R2 E L mX5_hasRange 1 0 [some (.ref 46), some (.int f), some (.int x)] [] F _
  refine R2.B (ls2 := [some (.ref 46), some (.int f), some (.int x)]) (st2 := [.int f]) b_X5_hasRange_0_1 rfl (fun hd => ?_)
  refine R2.if_lt 22 hd (by decide) (fun c1 => ?_) (fun c1 => ?_)
  · refine R2.B (ls2 := [some (.ref 46), some (.int f), some (.int x)]) (st2 := [.int 0]) b_X5_hasRange_22_23 rfl (fun hd => ?_)
    exact R2.ret3 (r := some (.int 0)) hd (Or.inl rfl) rfl (congrArg (fun z => some (Value.int z)) (b2i_f (by clear hd; grind))) rfl
  · refine R2.B (ls2 := [some (.ref 46), some (.int f), some (.int x)]) (st2 := [.int x]) b_X5_hasRange_4_5 rfl (fun hd => ?_)
    refine R2.if_lt 22 hd (by decide) (fun c5 => ?_) (fun c5 => ?_)
    · refine R2.B (ls2 := [some (.ref 46), some (.int f), some (.int x)]) (st2 := [.int 0]) b_X5_hasRange_22_23 rfl (fun hd => ?_)
      exact R2.ret3 (r := some (.int 0)) hd (Or.inl rfl) rfl (congrArg (fun z => some (Value.int z)) (b2i_f (by clear hd; grind))) rfl
    · refine R2.B (ls2 := [some (.ref 46), some (.int f), some (.int x)]) (st2 := [.int ((F 46 3) - x), .int f]) b_X5_hasRange_8_15 rfl (fun hd => ?_)
      refine R2.icmp_gt 22 hd (by decide) (fun c15 => ?_) (fun c15 => ?_)
      · refine R2.B (ls2 := [some (.ref 46), some (.int f), some (.int x)]) (st2 := [.int 0]) b_X5_hasRange_22_23 rfl (fun hd => ?_)
        exact R2.ret3 (r := some (.int 0)) hd (Or.inl rfl) rfl (congrArg (fun z => some (Value.int z)) (b2i_f (by clear hd; grind))) rfl
      · refine R2.B (ls2 := [some (.ref 46), some (.int f), some (.int x)]) (st2 := [.int 1]) b_X5_hasRange_18_23 rfl (fun hd => ?_)
        exact R2.ret3 (r := some (.int 1)) hd (Or.inr rfl) rfl (congrArg (fun z => some (Value.int z)) (b2i_t (by clear hd; grind))) rfl
set_option maxRecDepth 20000 in
set_option maxHeartbeats 1000000 in
theorem ev_store46 (E : EE) (L : Nat) (F : FF) (j : Nat) (v : Int32) (hj : j < 60) (hs : nI j < F 46 3) : Ev3 E L 1 mX5_store [.ref 46, .int (nI j), .int v] F none (up2 F 47 j (nrw (F 46 2) v)) := by
  refine Ev3.of okX5_store.2.2.1 (Nat.le_of_ble_eq_true rfl) ?_
  show R2 E L mX5_store 1 0 [some (.ref 46), some (.int (nI j)), some (.int v)] [] F _
  refine R2.B (ls2 := [some (.ref 46), some (.int (nI j)), some (.int v)]) (st2 := [.int (nI j)]) b_X5_store_0_1 rfl (fun hd => ?_)
  refine R2.if_lt 44 hd (by decide) (fun c1 => absurd c1 (nI_pos (by omega))) (fun c1 => ?_)
  refine R2.B (ls2 := [some (.ref 46), some (.int (nI j)), some (.int v)]) (st2 := [.int (F 46 3), .int (nI j)]) b_X5_store_4_9 rfl (fun hd => ?_)
  refine R2.icmp_ge 44 hd (by decide) (fun c9 => absurd c9 (Int32.not_le.mpr hs)) (fun c9 => ?_)
  refine R2.B (ls2 := [some (.ref 46), some (.int (nI j)), some (.int v)]) (st2 := [.int (F 46 2), .int (nI j), .ref 47]) b_X5_store_12_21 rfl (fun hd => ?_)
  refine R2.if_ne 29 hd (by decide) (fun c21 => ?_) (fun c21 => ?_)
  · refine R2.B (ls2 := [some (.ref 46), some (.int (nI j)), some (.int v)]) (st2 := [.int 1, .int (F 46 2), .int (nI j), .ref 47]) b_X5_store_29_34 rfl (fun hd => ?_)
    refine R2.icmp_ne 42 hd (by decide) (fun c34 => ?_) (fun c34 => ?_)
    · refine R2.B (ls2 := [some (.ref 46), some (.int (nI j)), some (.int v)]) (st2 := [.int v, .int (nI j), .ref 47]) b_X5_store_42_43 rfl (fun hd => ?_)
      refine R2.iast j rfl hd (by decide) rfl (fun _ => rfl) (by decide) (by omega) ?_
      refine R2.B (ls2 := [some (.ref 46), some (.int (nI j)), some (.int v)]) (st2 := []) b_X5_store_44_44 rfl (fun hd => ?_)
      refine R2.ret3 (r := none) hd trivial rfl rfl ?_
      unfold nrw
      first | (rw [if_pos c21]; done) | (rw [if_neg c21, if_pos c34]; done) | (rw [if_neg c21, if_neg c34]; done)
    · refine R2.B (ls2 := [some (.ref 46), some (.int (nI j)), some (.int v)]) (st2 := [.int v.toInt16.toInt32, .int (nI j), .ref 47]) b_X5_store_37_43 rfl (fun hd => ?_)
      refine R2.iast j rfl hd (by decide) rfl (fun _ => rfl) (by decide) (by omega) ?_
      refine R2.B (ls2 := [some (.ref 46), some (.int (nI j)), some (.int v)]) (st2 := []) b_X5_store_44_44 rfl (fun hd => ?_)
      refine R2.ret3 (r := none) hd trivial rfl rfl ?_
      unfold nrw
      first | (rw [if_pos c21]; done) | (rw [if_neg c21, if_pos c34]; done) | (rw [if_neg c21, if_neg c34]; done)
  · refine R2.B (ls2 := [some (.ref 46), some (.int (nI j)), some (.int v)]) (st2 := [.int v.toInt8.toInt32, .int (nI j), .ref 47]) b_X5_store_24_43 rfl (fun hd => ?_)
    refine R2.iast j rfl hd (by decide) rfl (fun _ => rfl) (by decide) (by omega) ?_
    refine R2.B (ls2 := [some (.ref 46), some (.int (nI j)), some (.int v)]) (st2 := []) b_X5_store_44_44 rfl (fun hd => ?_)
    refine R2.ret3 (r := none) hd trivial rfl rfl ?_
    unfold nrw
    first | (rw [if_pos c21]; done) | (rw [if_neg c21, if_pos c34]; done) | (rw [if_neg c21, if_neg c34]; done)
set_option maxRecDepth 20000 in
set_option maxHeartbeats 1000000 in
theorem ev_renew46 (E : EE) (L : Nat) (F : FF) (f x : Int32) : Ev3 E L 2 mX5_renew [.ref 46, .int f, .int x] F none (fillF (up2 (up2 (up2 F 46 1 0) 46 2 f) 46 3 x) 47 60 0) := by
  refine Ev3.of okX5_renew.2.2.1 (Nat.le_of_ble_eq_true rfl) ?_
  show R2 E L mX5_renew 2 0 [some (.ref 46), some (.int f), some (.int x)] [] F _
  refine R2.B (ls2 := [some (.ref 46), some (.int f), some (.int x)]) (st2 := [.int 0, .ref 46]) b_X5_renew_0_2 rfl (fun hd => ?_)
  refine R2.putf (a := 5) (b := 1) hd (by decide) (by decide) rfl rfl (fun _ => rfl) ?_
  refine R2.B (ls2 := [some (.ref 46), some (.int f), some (.int x)]) (st2 := [.int f, .ref 46]) b_X5_renew_5_7 rfl (fun hd => ?_)
  refine R2.putf (a := 5) (b := 2) hd (by decide) (by decide) rfl rfl (fun _ => rfl) ?_
  refine R2.B (ls2 := [some (.ref 46), some (.int f), some (.int x)]) (st2 := [.int x, .ref 46]) b_X5_renew_10_12 rfl (fun hd => ?_)
  refine R2.putf (a := 5) (b := 3) hd (by decide) (by decide) rfl rfl (fun _ => rfl) ?_
  refine R2.B (ls2 := [some (.ref 46), some (.int f), some (.int x)]) (st2 := [.int 0, .ref 47]) b_X5_renew_15_20 rfl (fun hd => ?_)
  refine R2.callS3 (M2 := mJ7_fill_53178) (As := [.ref 47, .int 0]) (rest := []) hd lk_5_26 okJ7_fill_53178 (by decide) (ev_fill E L (up2 (up2 (up2 F 46 1 0) 46 2 f) 46 3 x) 47 60 0 rfl (fun _ => rfl) (by decide) (by decide)) (by decide) rfl rfl (Nat.le_of_ble_eq_true rfl) ?_
  refine R2.B (ls2 := [some (.ref 46), some (.int f), some (.int x)]) (st2 := []) b_X5_renew_23_23 rfl (fun hd => ?_)
  exact R2.ret3 (r := none) hd trivial rfl rfl rfl
end
section
/-! Fair, Trial. Printed by wip/whole/gen/spec6.py. -/
def fairP (F : FF) (part : Nat) (dn f1 f2 : Int32) : FF := up2 (up2 (up2 (up2 F 19 part dn) 20 part f1) 21 part f2) 18 3 (nI (part + 1))
def fairL (l n : Nat) : Nat → Nat → Nat → FF → Int32 × FF
  | 0, _, start, F => (nI start, F)
  | k + 1, part, start, F =>
    if tat l (F 9) start = 61 then
      if fig (tat l (F 9) (start + 1)) = -1 ∨ ¬ fig (tat l (F 9) (start + 1)) < nI n then (nI (start + 1), F)
      else if fig (tat l (F 9) (start + 1 + 1)) = -1 ∨ fig (tat l (F 9) (start + 1 + 1)) = fig (tat l (F 9) (start + 1)) ∨ ¬ fig (tat l (F 9) (start + 1 + 1)) < nI n then (nI (start + 1 + 1), F)
      else if start + 1 + 2 = l then (-1, fairP F part 1 (fig (tat l (F 9) (start + 1))) (fig (tat l (F 9) (start + 1 + 1))))
      else if ¬ tat l (F 9) (start + 1 + 2) = 59 then (nI (start + 1 + 2), fairP F part 1 (fig (tat l (F 9) (start + 1))) (fig (tat l (F 9) (start + 1 + 1))))
      else fairL l n k (part + 1) (start + 1 + 3) (fairP F part 1 (fig (tat l (F 9) (start + 1))) (fig (tat l (F 9) (start + 1 + 1))))
    else
      if fig (tat l (F 9) start) = -1 ∨ ¬ fig (tat l (F 9) start) < nI n then (nI start, F)
      else if fig (tat l (F 9) (start + 1)) = -1 ∨ ¬ (0 ≤ fig (tat l (F 9) (start + 1)) ∧ fig (tat l (F 9) (start + 1)) < 8) then (nI (start + 1), F)
      else if start + 2 = l then (-1, fairP F part 0 (fig (tat l (F 9) start)) (fig (tat l (F 9) (start + 1))))
      else if ¬ tat l (F 9) (start + 2) = 59 then (nI (start + 2), fairP F part 0 (fig (tat l (F 9) start)) (fig (tat l (F 9) (start + 1))))
      else fairL l n k (part + 1) (start + 3) (fairP F part 0 (fig (tat l (F 9) start)) (fig (tat l (F 9) (start + 1))))
def tfF (F : FF) (l n : Nat) : FF :=
  if l = 0 then up2 (up2 F 18 3 0) 18 4 (-1)
  else if (fairL l n 20 0 0 (up2 F 18 3 0)).1 = -1 then up2 (fairL l n 20 0 0 (up2 F 18 3 0)).2 18 4 (fairL l n 20 0 0 (up2 F 18 3 0)).1
  else up2 (up2 (fairL l n 20 0 0 (up2 F 18 3 0)).2 18 4 (fairL l n 20 0 0 (up2 F 18 3 0)).1) 18 3 0
abbrev strC (F : FF) (n a b : Nat) : Prop := F 24 a = 0 ∧ F 24 b = 0 ∧ cvd F (F 23) n (F 17 0) (-1) a b = 0
def strF (F : FF) (a b : Nat) : FF := up2 (up2 (up2 (up2 F 24 a 1) 24 b 1) 22 4 (F 22 4 + 1)) 22 5 (F 22 5 + gan (F 11) (F 13) a b)
def movT (F : FF) (n p d : Nat) : Int32 := lawS (F 23) p d (F 17 2 * F 17 2) n
def jcL : Nat → Nat → FF → FF
  | 0, _, F => F
  | k + 1, p, F => jcL k (p + 1) (up2 (up2 F 23 p (F 15 p)) 24 p 0)
/-- one part of the fair -/
def jgS (n : Nat) (F : FF) (q a b : Nat) : FF :=
  if F 19 q = 0 then (if movT F n a b = -1 then up2 F 22 3 (nI q) else up2 F 23 a (movT F n a b))
  else (if strC F n a b then strF F a b else up2 F 22 3 (nI q))
def jgL (n : Nat) : Nat → Nat → FF → FF
  | 0, _, F => F
  | k + 1, q, F => if F 22 3 = -1 then jgL n k (q + 1) (jgS n F q (F 20 q).toNatClampNeg (F 21 q).toNatClampNeg) else F
def jgF (F : FF) (n s : Nat) : FF := jgL n s 0 (up2 (up2 (up2 (jcL n 0 F) 22 4 0) 22 5 0) 22 3 (-1))
/-- what a fair's parts may be -/
def FairOK (F : FF) (n s : Nat) : Prop := F 18 3 = nI s ∧ s ≤ 20 ∧ ∀ q, q < s → ∃ a b : Nat, a < n ∧ F 20 q = nI a ∧ F 21 q = nI b ∧ ((F 19 q = 0 ∧ b < 8) ∨ (F 19 q = 1 ∧ b < n))
theorem b_X1_faultOf_5_9 : bl2 mX1_faultOf 5 [(.iload 4, 2, 4, 0, .null), (.bipush 20, 2, 0, 0, .int 20)] 9 (.if_icmp .ge 199) 3 = true := by decide +kernel
theorem b_X1_faultOf_208_209 : bl2 mX1_faultOf 208 [(.iload_n 3, 1, 3, 0, .null)] 209 (.ireturn) 1 = true := by decide +kernel
theorem b_X1_faultOf_12_14 : bl2 mX1_faultOf 12 [(.aload_n 1, 1, 1, 0, .null), (.iload_n 3, 1, 3, 0, .null)] 14 (.invokevirtual 39) 3 = true := by decide +kernel
theorem b_X1_faultOf_17_19 : bl2 mX1_faultOf 17 [(.bipush 61, 2, 0, 0, .int 61)] 19 (.if_icmp .ne 7) 3 = true := by decide +kernel
theorem b_X1_faultOf_26_31 : bl2 mX1_faultOf 26 [(.iconst 0, 1, 0, 0, .int 0), (.istore 5, 2, 5, 0, .null), (.iload 5, 2, 5, 0, .null)] 31 (.ifCond .eq 9) 3 = true := by decide +kernel
theorem b_X1_faultOf_40_46 : bl2 mX1_faultOf 40 [(.iload_n 3, 1, 3, 0, .null), (.istore 6, 2, 6, 0, .null), (.aload_n 1, 1, 1, 0, .null), (.iload 6, 2, 6, 0, .null)] 46 (.invokevirtual 39) 3 = true := by decide +kernel
theorem b_X1_faultOf_49_49 : bl2 mX1_faultOf 49 [] 49 (.invokestatic 43) 3 = true := by decide +kernel
theorem b_X1_faultOf_52_59 : bl2 mX1_faultOf 52 [(.istore 7, 2, 7, 0, .null), (.aload_n 1, 1, 1, 0, .null), (.iload 6, 2, 6, 0, .null), (.iconst 1, 1, 0, 0, .int 1), (.iadd, 1, 0, 0, .null)] 59 (.invokevirtual 39) 3 = true := by decide +kernel
theorem b_X1_faultOf_62_62 : bl2 mX1_faultOf 62 [] 62 (.invokestatic 43) 3 = true := by decide +kernel
theorem b_X1_faultOf_65_70 : bl2 mX1_faultOf 65 [(.istore 8, 2, 8, 0, .null), (.iload 7, 2, 7, 0, .null), (.iconst (-1), 1, 0, 0, .int (-1))] 70 (.if_icmp .eq 9) 3 = true := by decide +kernel
theorem b_X1_faultOf_79_81 : bl2 mX1_faultOf 79 [(.iload 6, 2, 6, 0, .null)] 81 (.ireturn) 1 = true := by decide +kernel
theorem b_X1_faultOf_73_76 : bl2 mX1_faultOf 73 [(.iload 7, 2, 7, 0, .null), (.iload_n 2, 1, 2, 0, .null)] 76 (.if_icmp .lt 6) 3 = true := by decide +kernel
theorem b_X1_faultOf_82_84 : bl2 mX1_faultOf 82 [(.iload 5, 2, 5, 0, .null)] 84 (.ifCond .eq 24) 3 = true := by decide +kernel
theorem b_X1_faultOf_108_110 : bl2 mX1_faultOf 108 [(.iload 8, 2, 8, 0, .null)] 110 (.invokestatic 46) 3 = true := by decide +kernel
theorem b_X1_faultOf_113_118 : bl2 mX1_faultOf 113 [(.istore 9, 2, 9, 0, .null), (.iload 8, 2, 8, 0, .null), (.iconst (-1), 1, 0, 0, .int (-1))] 118 (.if_icmp .eq 8) 3 = true := by decide +kernel
theorem b_X1_faultOf_126_130 : bl2 mX1_faultOf 126 [(.iload 6, 2, 6, 0, .null), (.iconst 1, 1, 0, 0, .int 1), (.iadd, 1, 0, 0, .null)] 130 (.ireturn) 1 = true := by decide +kernel
theorem b_X1_faultOf_121_123 : bl2 mX1_faultOf 121 [(.iload 9, 2, 9, 0, .null)] 123 (.ifCond .ne 8) 3 = true := by decide +kernel
theorem b_X1_faultOf_131_139 : bl2 mX1_faultOf 131 [(.aload_n 0, 1, 0, 0, .null), (.getfield 9, 3, 1, 0, .null), (.iload 4, 2, 4, 0, .null), (.iload 5, 2, 5, 0, .null)] 139 (.bastore) 1 = true := by decide +kernel
theorem b_X1_faultOf_140_148 : bl2 mX1_faultOf 140 [(.aload_n 0, 1, 0, 0, .null), (.getfield 15, 3, 1, 1, .null), (.iload 4, 2, 4, 0, .null), (.iload 7, 2, 7, 0, .null)] 148 (.iastore) 1 = true := by decide +kernel
theorem b_X1_faultOf_149_157 : bl2 mX1_faultOf 149 [(.aload_n 0, 1, 0, 0, .null), (.getfield 19, 3, 1, 2, .null), (.iload 4, 2, 4, 0, .null), (.iload 8, 2, 8, 0, .null)] 157 (.iastore) 1 = true := by decide +kernel
theorem b_X1_faultOf_158_163 : bl2 mX1_faultOf 158 [(.aload_n 0, 1, 0, 0, .null), (.iload 4, 2, 4, 0, .null), (.iconst 1, 1, 0, 0, .int 1), (.iadd, 1, 0, 0, .null)] 163 (.putfield 22) 3 = true := by decide +kernel
theorem b_X1_faultOf_166_171 : bl2 mX1_faultOf 166 [(.iload 6, 2, 6, 0, .null), (.iconst 2, 1, 0, 0, .int 2), (.iadd, 1, 0, 0, .null), (.aload_n 1, 1, 1, 0, .null)] 171 (.invokevirtual 29) 3 = true := by decide +kernel
theorem b_X1_faultOf_174_174 : bl2 mX1_faultOf 174 [] 174 (.if_icmp .ne 5) 3 = true := by decide +kernel
theorem b_X1_faultOf_179_184 : bl2 mX1_faultOf 179 [(.aload_n 1, 1, 1, 0, .null), (.iload 6, 2, 6, 0, .null), (.iconst 2, 1, 0, 0, .int 2), (.iadd, 1, 0, 0, .null)] 184 (.invokevirtual 39) 3 = true := by decide +kernel
theorem b_X1_faultOf_187_189 : bl2 mX1_faultOf 187 [(.bipush 59, 2, 0, 0, .int 59)] 189 (.if_icmp .eq 8) 3 = true := by decide +kernel
theorem b_X1_faultOf_197_5 : bl2 mX1_faultOf 197 [(.iload 6, 2, 6, 0, .null), (.iconst 3, 1, 0, 0, .int 3), (.iadd, 1, 0, 0, .null), (.istore_n 3, 1, 3, 0, .null), (.iinc 4 1, 3, 4, 0, .int 1), (.goto (-200), 3, 5, 0, .null)] 5 (.iload 4) 2 = true := by decide +kernel
theorem b_X1_faultOf_192_196 : bl2 mX1_faultOf 192 [(.iload 6, 2, 6, 0, .null), (.iconst 2, 1, 0, 0, .int 2), (.iadd, 1, 0, 0, .null)] 196 (.ireturn) 1 = true := by decide +kernel
theorem b_X1_faultOf_177_178 : bl2 mX1_faultOf 177 [(.iconst (-1), 1, 0, 0, .int (-1))] 178 (.ireturn) 1 = true := by decide +kernel
theorem b_X1_faultOf_22_31 : bl2 mX1_faultOf 22 [(.iconst 1, 1, 0, 0, .int 1), (.goto 4, 3, 27, 0, .null), (.istore 5, 2, 5, 0, .null), (.iload 5, 2, 5, 0, .null)] 31 (.ifCond .eq 9) 3 = true := by decide +kernel
theorem b_X1_faultOf_34_46 : bl2 mX1_faultOf 34 [(.iload_n 3, 1, 3, 0, .null), (.iconst 1, 1, 0, 0, .int 1), (.iadd, 1, 0, 0, .null), (.goto 4, 3, 41, 0, .null), (.istore 6, 2, 6, 0, .null), (.aload_n 1, 1, 1, 0, .null), (.iload 6, 2, 6, 0, .null)] 46 (.invokevirtual 39) 3 = true := by decide +kernel
theorem b_X1_faultOf_87_91 : bl2 mX1_faultOf 87 [(.iload 8, 2, 8, 0, .null), (.iload 7, 2, 7, 0, .null)] 91 (.if_icmp .eq 13) 3 = true := by decide +kernel
theorem b_X1_faultOf_104_118 : bl2 mX1_faultOf 104 [(.iconst 0, 1, 0, 0, .int 0), (.goto 8, 3, 113, 0, .null), (.istore 9, 2, 9, 0, .null), (.iload 8, 2, 8, 0, .null), (.iconst (-1), 1, 0, 0, .int (-1))] 118 (.if_icmp .eq 8) 3 = true := by decide +kernel
theorem b_X1_faultOf_94_97 : bl2 mX1_faultOf 94 [(.iload 8, 2, 8, 0, .null), (.iload_n 2, 1, 2, 0, .null)] 97 (.if_icmp .ge 7) 3 = true := by decide +kernel
theorem b_X1_faultOf_100_118 : bl2 mX1_faultOf 100 [(.iconst 1, 1, 0, 0, .int 1), (.goto 12, 3, 113, 0, .null), (.istore 9, 2, 9, 0, .null), (.iload 8, 2, 8, 0, .null), (.iconst (-1), 1, 0, 0, .int (-1))] 118 (.if_icmp .eq 8) 3 = true := by decide +kernel
set_option maxRecDepth 20000 in
set_option maxHeartbeats 2000000 in
theorem lp_fairF (E : EE) (L : Nat) (l n : Nat) (hl : l ≤ 60) (hn : n ≤ 10) : ∀ (k : Nat) (part start : Nat) (F : FF), part + k = 20 → start ≤ 4 * part → F 8 1 = nI l → R2 E L mX1_faultOf 2 5 [some (.ref 18), some (.ref 8), some (.int (nI n)), some (.int (nI start)), some (.int (nI part)), none, none, none, none, none] [] F (fun r' F' => r' = some (.int (fairL l n k part start F).1) ∧ F' = (fairL l n k part start F).2) := by
  intro k
  induction k with
  | zero =>
    intro part start F hi hst hlen
    refine R2.B (ls2 := [some (.ref 18), some (.ref 8), some (.int (nI n)), some (.int (nI start)), some (.int (nI part)), none, none, none, none, none]) (st2 := [.int 20, .int (nI part)]) b_X1_faultOf_5_9 rfl (fun hd => ?_)
    refine R2.icmp_ge 208 hd (by decide) (fun c9 => ?_) (fun c9 => absurd (nI_le (a := 20) (by omega) (by omega)) c9)
    refine R2.B (ls2 := [some (.ref 18), some (.ref 8), some (.int (nI n)), some (.int (nI start)), some (.int (nI part)), none, none, none, none, none]) (st2 := [.int (nI start)]) b_X1_faultOf_208_209 rfl (fun hd => ?_)
    exact R2.ret3 (r := some (.int (nI start))) hd trivial rfl rfl rfl
  | succ k ih =>
    intro part start F hi hst hlen
    refine R2.B (ls2 := [some (.ref 18), some (.ref 8), some (.int (nI n)), some (.int (nI start)), some (.int (nI part)), none, none, none, none, none]) (st2 := [.int 20, .int (nI part)]) b_X1_faultOf_5_9 rfl (fun hd => ?_)
    refine R2.icmp_ge 208 hd (by decide) (fun c9 => absurd c9 (nI_ge (b := 20) (by omega) (by omega))) (fun c9 => ?_)
    refine R2.B (ls2 := [some (.ref 18), some (.ref 8), some (.int (nI n)), some (.int (nI start)), some (.int (nI part)), none, none, none, none, none]) (st2 := [.int (nI start), .ref 8]) b_X1_faultOf_12_14 rfl (fun hd => ?_)
    refine R2.callV3 (M2 := mX7_at) (As := [.int (nI start)]) (rest := []) hd lk_1_39 okX7_at (by decide) rfl (ev_at8 E L F l start hlen (by omega) (by omega)) (by decide) rfl rfl (Nat.le_of_ble_eq_true rfl) ?_
    refine R2.B (ls2 := [some (.ref 18), some (.ref 8), some (.int (nI n)), some (.int (nI start)), some (.int (nI part)), none, none, none, none, none]) (st2 := [.int 61, .int (tat l (F 9) start)]) b_X1_faultOf_17_19 rfl (fun hd => ?_)
    refine R2.icmp_ne 26 hd (by decide) (fun c19 => ?_) (fun c19 => ?_)
    · refine R2.B (ls2 := [some (.ref 18), some (.ref 8), some (.int (nI n)), some (.int (nI start)), some (.int (nI part)), some (.int 0), none, none, none, none]) (st2 := [.int 0]) b_X1_faultOf_26_31 rfl (fun hd => ?_)
      refine R2.if_eq 40 hd (by decide) (fun c31 => ?_) (fun c31 => absurd (by decide) c31)
      refine R2.B (ls2 := [some (.ref 18), some (.ref 8), some (.int (nI n)), some (.int (nI start)), some (.int (nI part)), some (.int 0), some (.int (nI start)), none, none, none]) (st2 := [.int (nI start), .ref 8]) b_X1_faultOf_40_46 rfl (fun hd => ?_)
      refine R2.callV3 (M2 := mX7_at) (As := [.int (nI start)]) (rest := []) hd lk_1_39 okX7_at (by decide) rfl (ev_at8 E L F l start hlen (by omega) (by omega)) (by decide) rfl rfl (Nat.le_of_ble_eq_true rfl) ?_
      refine R2.B (ls2 := [some (.ref 18), some (.ref 8), some (.int (nI n)), some (.int (nI start)), some (.int (nI part)), some (.int 0), some (.int (nI start)), none, none, none]) (st2 := [.int (tat l (F 9) start)]) b_X1_faultOf_49_49 rfl (fun hd => ?_)
      refine R2.callS3 (M2 := mX10_figure) (As := [.int (tat l (F 9) start)]) (rest := []) hd lk_1_43 okX10_figure (by decide) (ev_figure E L F (tat l (F 9) start)) (by decide) rfl rfl (Nat.le_of_ble_eq_true rfl) ?_
      refine R2.B (ls2 := [some (.ref 18), some (.ref 8), some (.int (nI n)), some (.int (nI start)), some (.int (nI part)), some (.int 0), some (.int (nI start)), some (.int (fig (tat l (F 9) start))), none, none]) (st2 := [.int ((nI start) + 1), .ref 8]) b_X1_faultOf_52_59 rfl (fun hd => ?_)
      rw [show ((nI start) + 1 : Int32) = nI (start + 1) from nI_add start 1]
      refine R2.callV3 (M2 := mX7_at) (As := [.int (nI (start + 1))]) (rest := []) hd lk_1_39 okX7_at (by decide) rfl (ev_at8 E L F l (start + 1) hlen (by omega) (by omega)) (by decide) rfl rfl (Nat.le_of_ble_eq_true rfl) ?_
      refine R2.B (ls2 := [some (.ref 18), some (.ref 8), some (.int (nI n)), some (.int (nI start)), some (.int (nI part)), some (.int 0), some (.int (nI start)), some (.int (fig (tat l (F 9) start))), none, none]) (st2 := [.int (tat l (F 9) (start + 1))]) b_X1_faultOf_62_62 rfl (fun hd => ?_)
      refine R2.callS3 (M2 := mX10_figure) (As := [.int (tat l (F 9) (start + 1))]) (rest := []) hd lk_1_43 okX10_figure (by decide) (ev_figure E L F (tat l (F 9) (start + 1))) (by decide) rfl rfl (Nat.le_of_ble_eq_true rfl) ?_
      refine R2.B (ls2 := [some (.ref 18), some (.ref 8), some (.int (nI n)), some (.int (nI start)), some (.int (nI part)), some (.int 0), some (.int (nI start)), some (.int (fig (tat l (F 9) start))), some (.int (fig (tat l (F 9) (start + 1)))), none]) (st2 := [.int (-1), .int (fig (tat l (F 9) start))]) b_X1_faultOf_65_70 rfl (fun hd => ?_)
      refine R2.icmp_eq 79 hd (by decide) (fun c70 => ?_) (fun c70 => ?_)
      · refine R2.B (ls2 := [some (.ref 18), some (.ref 8), some (.int (nI n)), some (.int (nI start)), some (.int (nI part)), some (.int 0), some (.int (nI start)), some (.int (fig (tat l (F 9) start))), some (.int (fig (tat l (F 9) (start + 1)))), none]) (st2 := [.int (nI start)]) b_X1_faultOf_79_81 rfl (fun hd => ?_)
        have e : fairL l n (k + 1) part start F = (nI start, F) := by
          clear hd; simp only [fairL] <;> grind [fairP]
        exact R2.ret3 (r := some (.int (nI start))) hd trivial rfl (by rw [e]) (by rw [e])
      · refine R2.B (ls2 := [some (.ref 18), some (.ref 8), some (.int (nI n)), some (.int (nI start)), some (.int (nI part)), some (.int 0), some (.int (nI start)), some (.int (fig (tat l (F 9) start))), some (.int (fig (tat l (F 9) (start + 1)))), none]) (st2 := [.int (nI n), .int (fig (tat l (F 9) start))]) b_X1_faultOf_73_76 rfl (fun hd => ?_)
        refine R2.icmp_lt 82 hd (by decide) (fun c76 => ?_) (fun c76 => ?_)
        · refine R2.B (ls2 := [some (.ref 18), some (.ref 8), some (.int (nI n)), some (.int (nI start)), some (.int (nI part)), some (.int 0), some (.int (nI start)), some (.int (fig (tat l (F 9) start))), some (.int (fig (tat l (F 9) (start + 1)))), none]) (st2 := [.int 0]) b_X1_faultOf_82_84 rfl (fun hd => ?_)
          refine R2.if_eq 108 hd (by decide) (fun c84 => ?_) (fun c84 => absurd (by decide) c84)
          refine R2.B (ls2 := [some (.ref 18), some (.ref 8), some (.int (nI n)), some (.int (nI start)), some (.int (nI part)), some (.int 0), some (.int (nI start)), some (.int (fig (tat l (F 9) start))), some (.int (fig (tat l (F 9) (start + 1)))), none]) (st2 := [.int (fig (tat l (F 9) (start + 1)))]) b_X1_faultOf_108_110 rfl (fun hd => ?_)
          refine R2.callS3 (M2 := mX10_isDirection) (As := [.int (fig (tat l (F 9) (start + 1)))]) (rest := []) hd lk_1_46 okX10_isDirection (by decide) (ev_isDirection E L F (fig (tat l (F 9) (start + 1)))) (by decide) rfl rfl (Nat.le_of_ble_eq_true rfl) ?_
          refine R2.B (ls2 := [some (.ref 18), some (.ref 8), some (.int (nI n)), some (.int (nI start)), some (.int (nI part)), some (.int 0), some (.int (nI start)), some (.int (fig (tat l (F 9) start))), some (.int (fig (tat l (F 9) (start + 1)))), some (.int (b2i (0 ≤ (fig (tat l (F 9) (start + 1))) ∧ (fig (tat l (F 9) (start + 1))) < 8)))]) (st2 := [.int (-1), .int (fig (tat l (F 9) (start + 1)))]) b_X1_faultOf_113_118 rfl (fun hd => ?_)
          refine R2.icmp_eq 126 hd (by decide) (fun c118 => ?_) (fun c118 => ?_)
          · refine R2.B (ls2 := [some (.ref 18), some (.ref 8), some (.int (nI n)), some (.int (nI start)), some (.int (nI part)), some (.int 0), some (.int (nI start)), some (.int (fig (tat l (F 9) start))), some (.int (fig (tat l (F 9) (start + 1)))), some (.int (b2i (0 ≤ (fig (tat l (F 9) (start + 1))) ∧ (fig (tat l (F 9) (start + 1))) < 8)))]) (st2 := [.int ((nI start) + 1)]) b_X1_faultOf_126_130 rfl (fun hd => ?_)
            rw [show ((nI start) + 1 : Int32) = nI (start + 1) from nI_add start 1]
            have e : fairL l n (k + 1) part start F = (nI (start + 1), F) := by
              clear hd; simp only [fairL] <;> grind [fairP]
            exact R2.ret3 (r := some (.int (nI (start + 1)))) hd trivial rfl (by rw [e]) (by rw [e])
          · refine R2.B (ls2 := [some (.ref 18), some (.ref 8), some (.int (nI n)), some (.int (nI start)), some (.int (nI part)), some (.int 0), some (.int (nI start)), some (.int (fig (tat l (F 9) start))), some (.int (fig (tat l (F 9) (start + 1)))), some (.int (b2i (0 ≤ (fig (tat l (F 9) (start + 1))) ∧ (fig (tat l (F 9) (start + 1))) < 8)))]) (st2 := [.int (b2i (0 ≤ (fig (tat l (F 9) (start + 1))) ∧ (fig (tat l (F 9) (start + 1))) < 8))]) b_X1_faultOf_121_123 rfl (fun hd => ?_)
            refine R2.if_ne 131 hd (by decide) (fun c123 => ?_) (fun c123 => ?_)
            · have nc123 : 0 ≤ (fig (tat l (F 9) (start + 1))) ∧ (fig (tat l (F 9) (start + 1))) < 8 := b2i_nz.mp c123
              refine R2.B (ls2 := [some (.ref 18), some (.ref 8), some (.int (nI n)), some (.int (nI start)), some (.int (nI part)), some (.int 0), some (.int (nI start)), some (.int (fig (tat l (F 9) start))), some (.int (fig (tat l (F 9) (start + 1)))), some (.int (b2i (0 ≤ (fig (tat l (F 9) (start + 1))) ∧ (fig (tat l (F 9) (start + 1))) < 8)))]) (st2 := [.int 0, .int (nI part), .ref 19]) b_X1_faultOf_131_139 rfl (fun hd => ?_)
              refine R2.zast part rfl hd (by decide) rfl (fun _ => rfl) (by decide) (by omega) (by decide) ?_
              refine R2.B (ls2 := [some (.ref 18), some (.ref 8), some (.int (nI n)), some (.int (nI start)), some (.int (nI part)), some (.int 0), some (.int (nI start)), some (.int (fig (tat l (F 9) start))), some (.int (fig (tat l (F 9) (start + 1)))), some (.int (b2i (0 ≤ (fig (tat l (F 9) (start + 1))) ∧ (fig (tat l (F 9) (start + 1))) < 8)))]) (st2 := [.int (fig (tat l (F 9) start)), .int (nI part), .ref 20]) b_X1_faultOf_140_148 rfl (fun hd => ?_)
              refine R2.iast part rfl hd (by decide) rfl (fun _ => rfl) (by decide) (by omega) ?_
              refine R2.B (ls2 := [some (.ref 18), some (.ref 8), some (.int (nI n)), some (.int (nI start)), some (.int (nI part)), some (.int 0), some (.int (nI start)), some (.int (fig (tat l (F 9) start))), some (.int (fig (tat l (F 9) (start + 1)))), some (.int (b2i (0 ≤ (fig (tat l (F 9) (start + 1))) ∧ (fig (tat l (F 9) (start + 1))) < 8)))]) (st2 := [.int (fig (tat l (F 9) (start + 1))), .int (nI part), .ref 21]) b_X1_faultOf_149_157 rfl (fun hd => ?_)
              refine R2.iast part rfl hd (by decide) rfl (fun _ => rfl) (by decide) (by omega) ?_
              refine R2.B (ls2 := [some (.ref 18), some (.ref 8), some (.int (nI n)), some (.int (nI start)), some (.int (nI part)), some (.int 0), some (.int (nI start)), some (.int (fig (tat l (F 9) start))), some (.int (fig (tat l (F 9) (start + 1)))), some (.int (b2i (0 ≤ (fig (tat l (F 9) (start + 1))) ∧ (fig (tat l (F 9) (start + 1))) < 8)))]) (st2 := [.int ((nI part) + 1), .ref 18]) b_X1_faultOf_158_163 rfl (fun hd => ?_)
              rw [show ((nI part) + 1 : Int32) = nI (part + 1) from nI_add part 1]
              refine R2.putf (a := 1) (b := 3) hd (by decide) (by decide) rfl rfl (fun _ => rfl) ?_
              refine R2.B (ls2 := [some (.ref 18), some (.ref 8), some (.int (nI n)), some (.int (nI start)), some (.int (nI part)), some (.int 0), some (.int (nI start)), some (.int (fig (tat l (F 9) start))), some (.int (fig (tat l (F 9) (start + 1)))), some (.int (b2i (0 ≤ (fig (tat l (F 9) (start + 1))) ∧ (fig (tat l (F 9) (start + 1))) < 8)))]) (st2 := [.ref 8, .int ((nI start) + 2)]) b_X1_faultOf_166_171 rfl (fun hd => ?_)
              rw [show ((nI start) + 2 : Int32) = nI (start + 2) from nI_add start 2]
              refine R2.callV3 (M2 := mX7_length) (As := []) (rest := [.int (nI (start + 2))]) hd lk_1_29 okX7_length (by decide) rfl (ev_length8 E L _) (by decide) rfl rfl (Nat.le_of_ble_eq_true rfl) ?_
              refine R2.top (show (F 8 1 : Int32) = nI l from hlen) ?_
              refine R2.B (ls2 := [some (.ref 18), some (.ref 8), some (.int (nI n)), some (.int (nI start)), some (.int (nI part)), some (.int 0), some (.int (nI start)), some (.int (fig (tat l (F 9) start))), some (.int (fig (tat l (F 9) (start + 1)))), some (.int (b2i (0 ≤ (fig (tat l (F 9) (start + 1))) ∧ (fig (tat l (F 9) (start + 1))) < 8)))]) (st2 := [.int (nI l), .int (nI (start + 2))]) b_X1_faultOf_174_174 rfl (fun hd => ?_)
              refine R2.icmp_ne 179 hd (by decide) (fun c174 => ?_) (fun c174 => ?_)
              · have nc174 : ¬ (start + 2) = l := fun h9 => c174 ((nI_eq (a := (start + 2)) (b := l) (by omega) (by omega)).mpr h9)
                refine R2.B (ls2 := [some (.ref 18), some (.ref 8), some (.int (nI n)), some (.int (nI start)), some (.int (nI part)), some (.int 0), some (.int (nI start)), some (.int (fig (tat l (F 9) start))), some (.int (fig (tat l (F 9) (start + 1)))), some (.int (b2i (0 ≤ (fig (tat l (F 9) (start + 1))) ∧ (fig (tat l (F 9) (start + 1))) < 8)))]) (st2 := [.int ((nI start) + 2), .ref 8]) b_X1_faultOf_179_184 rfl (fun hd => ?_)
                rw [show ((nI start) + 2 : Int32) = nI (start + 2) from nI_add start 2]
                refine R2.callV3 (M2 := mX7_at) (As := [.int (nI (start + 2))]) (rest := []) hd lk_1_39 okX7_at (by decide) rfl (ev_at8 E L (up2 (up2 (up2 (up2 F 19 part 0) 20 part (fig (tat l (F 9) start))) 21 part (fig (tat l (F 9) (start + 1)))) 18 3 (nI (part + 1))) l (start + 2) hlen (by omega) (by omega)) (by decide) rfl rfl (Nat.le_of_ble_eq_true rfl) ?_
                refine R2.B (ls2 := [some (.ref 18), some (.ref 8), some (.int (nI n)), some (.int (nI start)), some (.int (nI part)), some (.int 0), some (.int (nI start)), some (.int (fig (tat l (F 9) start))), some (.int (fig (tat l (F 9) (start + 1)))), some (.int (b2i (0 ≤ (fig (tat l (F 9) (start + 1))) ∧ (fig (tat l (F 9) (start + 1))) < 8)))]) (st2 := [.int 59, .int (tat l (F 9) (start + 2))]) b_X1_faultOf_187_189 rfl (fun hd => ?_)
                refine R2.icmp_eq 197 hd (by decide) (fun c189 => ?_) (fun c189 => ?_)
                · refine R2.B (ls2 := [some (.ref 18), some (.ref 8), some (.int (nI n)), some (.int ((nI start) + 3)), some (.int ((nI part) + 1)), some (.int 0), some (.int (nI start)), some (.int (fig (tat l (F 9) start))), some (.int (fig (tat l (F 9) (start + 1)))), some (.int (b2i (0 ≤ (fig (tat l (F 9) (start + 1))) ∧ (fig (tat l (F 9) (start + 1))) < 8)))]) (st2 := []) b_X1_faultOf_197_5 rfl (fun hd => ?_)
                  rw [show ((nI start) + 3 : Int32) = nI (start + 3) from nI_add start 3]
                  rw [show ((nI part) + 1 : Int32) = nI (part + 1) from nI_add part 1]
                  have e : fairL l n (k + 1) part start F = fairL l n k (part + 1) ((start + 3)) (up2 (up2 (up2 (up2 F 19 part 0) 20 part (fig (tat l (F 9) start))) 21 part (fig (tat l (F 9) (start + 1)))) 18 3 (nI (part + 1))) := by
                    clear hd; simp only [fairL] <;> grind [fairP]
                  rw [e]
                  refine R2.forget (ls2 := [some (.ref 18), some (.ref 8), some (.int (nI n)), some (.int (nI (start + 3))), some (.int (nI (part + 1))), none, none, none, none, none]) ⟨rfl, ⟨rfl, ⟨rfl, ⟨rfl, ⟨rfl, trivial⟩⟩⟩⟩⟩ ?_
                  exact ih (part + 1) _ _ (by omega) (by omega) hlen
                · refine R2.B (ls2 := [some (.ref 18), some (.ref 8), some (.int (nI n)), some (.int (nI start)), some (.int (nI part)), some (.int 0), some (.int (nI start)), some (.int (fig (tat l (F 9) start))), some (.int (fig (tat l (F 9) (start + 1)))), some (.int (b2i (0 ≤ (fig (tat l (F 9) (start + 1))) ∧ (fig (tat l (F 9) (start + 1))) < 8)))]) (st2 := [.int ((nI start) + 2)]) b_X1_faultOf_192_196 rfl (fun hd => ?_)
                  rw [show ((nI start) + 2 : Int32) = nI (start + 2) from nI_add start 2]
                  have e : fairL l n (k + 1) part start F = (nI (start + 2), (up2 (up2 (up2 (up2 F 19 part 0) 20 part (fig (tat l (F 9) start))) 21 part (fig (tat l (F 9) (start + 1)))) 18 3 (nI (part + 1)))) := by
                    clear hd; simp only [fairL] <;> grind [fairP]
                  exact R2.ret3 (r := some (.int (nI (start + 2)))) hd trivial rfl (by rw [e]) (by rw [e])
              · have nc174 : (start + 2) = l := (nI_eq (a := (start + 2)) (b := l) (by omega) (by omega)).mp c174
                refine R2.B (ls2 := [some (.ref 18), some (.ref 8), some (.int (nI n)), some (.int (nI start)), some (.int (nI part)), some (.int 0), some (.int (nI start)), some (.int (fig (tat l (F 9) start))), some (.int (fig (tat l (F 9) (start + 1)))), some (.int (b2i (0 ≤ (fig (tat l (F 9) (start + 1))) ∧ (fig (tat l (F 9) (start + 1))) < 8)))]) (st2 := [.int (-1)]) b_X1_faultOf_177_178 rfl (fun hd => ?_)
                have e : fairL l n (k + 1) part start F = ((-1), (up2 (up2 (up2 (up2 F 19 part 0) 20 part (fig (tat l (F 9) start))) 21 part (fig (tat l (F 9) (start + 1)))) 18 3 (nI (part + 1)))) := by
                  clear hd; simp only [fairL] <;> grind [fairP]
                exact R2.ret3 (r := some (.int (-1))) hd trivial rfl (by rw [e]) (by rw [e])
            · have nc123 : ¬ (0 ≤ (fig (tat l (F 9) (start + 1))) ∧ (fig (tat l (F 9) (start + 1))) < 8) := b2i_zero.mp c123
              refine R2.B (ls2 := [some (.ref 18), some (.ref 8), some (.int (nI n)), some (.int (nI start)), some (.int (nI part)), some (.int 0), some (.int (nI start)), some (.int (fig (tat l (F 9) start))), some (.int (fig (tat l (F 9) (start + 1)))), some (.int (b2i (0 ≤ (fig (tat l (F 9) (start + 1))) ∧ (fig (tat l (F 9) (start + 1))) < 8)))]) (st2 := [.int ((nI start) + 1)]) b_X1_faultOf_126_130 rfl (fun hd => ?_)
              rw [show ((nI start) + 1 : Int32) = nI (start + 1) from nI_add start 1]
              have e : fairL l n (k + 1) part start F = (nI (start + 1), F) := by
                clear hd; simp only [fairL] <;> grind [fairP]
              exact R2.ret3 (r := some (.int (nI (start + 1)))) hd trivial rfl (by rw [e]) (by rw [e])
        · refine R2.B (ls2 := [some (.ref 18), some (.ref 8), some (.int (nI n)), some (.int (nI start)), some (.int (nI part)), some (.int 0), some (.int (nI start)), some (.int (fig (tat l (F 9) start))), some (.int (fig (tat l (F 9) (start + 1)))), none]) (st2 := [.int (nI start)]) b_X1_faultOf_79_81 rfl (fun hd => ?_)
          have e : fairL l n (k + 1) part start F = (nI start, F) := by
            clear hd; simp only [fairL] <;> grind [fairP]
          exact R2.ret3 (r := some (.int (nI start))) hd trivial rfl (by rw [e]) (by rw [e])
    · refine R2.B (ls2 := [some (.ref 18), some (.ref 8), some (.int (nI n)), some (.int (nI start)), some (.int (nI part)), some (.int 1), none, none, none, none]) (st2 := [.int 1]) b_X1_faultOf_22_31 rfl (fun hd => ?_)
      refine R2.if_eq 40 hd (by decide) (fun c31 => absurd c31 (by decide)) (fun c31 => ?_)
      refine R2.B (ls2 := [some (.ref 18), some (.ref 8), some (.int (nI n)), some (.int (nI start)), some (.int (nI part)), some (.int 1), some (.int ((nI start) + 1)), none, none, none]) (st2 := [.int ((nI start) + 1), .ref 8]) b_X1_faultOf_34_46 rfl (fun hd => ?_)
      rw [show ((nI start) + 1 : Int32) = nI (start + 1) from nI_add start 1]
      refine R2.callV3 (M2 := mX7_at) (As := [.int (nI (start + 1))]) (rest := []) hd lk_1_39 okX7_at (by decide) rfl (ev_at8 E L F l (start + 1) hlen (by omega) (by omega)) (by decide) rfl rfl (Nat.le_of_ble_eq_true rfl) ?_
      refine R2.B (ls2 := [some (.ref 18), some (.ref 8), some (.int (nI n)), some (.int (nI start)), some (.int (nI part)), some (.int 1), some (.int (nI (start + 1))), none, none, none]) (st2 := [.int (tat l (F 9) (start + 1))]) b_X1_faultOf_49_49 rfl (fun hd => ?_)
      refine R2.callS3 (M2 := mX10_figure) (As := [.int (tat l (F 9) (start + 1))]) (rest := []) hd lk_1_43 okX10_figure (by decide) (ev_figure E L F (tat l (F 9) (start + 1))) (by decide) rfl rfl (Nat.le_of_ble_eq_true rfl) ?_
      refine R2.B (ls2 := [some (.ref 18), some (.ref 8), some (.int (nI n)), some (.int (nI start)), some (.int (nI part)), some (.int 1), some (.int (nI (start + 1))), some (.int (fig (tat l (F 9) (start + 1)))), none, none]) (st2 := [.int ((nI (start + 1)) + 1), .ref 8]) b_X1_faultOf_52_59 rfl (fun hd => ?_)
      rw [show ((nI (start + 1)) + 1 : Int32) = nI ((start + 1) + 1) from nI_add (start + 1) 1]
      refine R2.callV3 (M2 := mX7_at) (As := [.int (nI ((start + 1) + 1))]) (rest := []) hd lk_1_39 okX7_at (by decide) rfl (ev_at8 E L F l ((start + 1) + 1) hlen (by omega) (by omega)) (by decide) rfl rfl (Nat.le_of_ble_eq_true rfl) ?_
      refine R2.B (ls2 := [some (.ref 18), some (.ref 8), some (.int (nI n)), some (.int (nI start)), some (.int (nI part)), some (.int 1), some (.int (nI (start + 1))), some (.int (fig (tat l (F 9) (start + 1)))), none, none]) (st2 := [.int (tat l (F 9) ((start + 1) + 1))]) b_X1_faultOf_62_62 rfl (fun hd => ?_)
      refine R2.callS3 (M2 := mX10_figure) (As := [.int (tat l (F 9) ((start + 1) + 1))]) (rest := []) hd lk_1_43 okX10_figure (by decide) (ev_figure E L F (tat l (F 9) ((start + 1) + 1))) (by decide) rfl rfl (Nat.le_of_ble_eq_true rfl) ?_
      refine R2.B (ls2 := [some (.ref 18), some (.ref 8), some (.int (nI n)), some (.int (nI start)), some (.int (nI part)), some (.int 1), some (.int (nI (start + 1))), some (.int (fig (tat l (F 9) (start + 1)))), some (.int (fig (tat l (F 9) ((start + 1) + 1)))), none]) (st2 := [.int (-1), .int (fig (tat l (F 9) (start + 1)))]) b_X1_faultOf_65_70 rfl (fun hd => ?_)
      refine R2.icmp_eq 79 hd (by decide) (fun c70 => ?_) (fun c70 => ?_)
      · refine R2.B (ls2 := [some (.ref 18), some (.ref 8), some (.int (nI n)), some (.int (nI start)), some (.int (nI part)), some (.int 1), some (.int (nI (start + 1))), some (.int (fig (tat l (F 9) (start + 1)))), some (.int (fig (tat l (F 9) ((start + 1) + 1)))), none]) (st2 := [.int (nI (start + 1))]) b_X1_faultOf_79_81 rfl (fun hd => ?_)
        have e : fairL l n (k + 1) part start F = (nI (start + 1), F) := by
          clear hd; simp only [fairL] <;> grind [fairP]
        exact R2.ret3 (r := some (.int (nI (start + 1)))) hd trivial rfl (by rw [e]) (by rw [e])
      · refine R2.B (ls2 := [some (.ref 18), some (.ref 8), some (.int (nI n)), some (.int (nI start)), some (.int (nI part)), some (.int 1), some (.int (nI (start + 1))), some (.int (fig (tat l (F 9) (start + 1)))), some (.int (fig (tat l (F 9) ((start + 1) + 1)))), none]) (st2 := [.int (nI n), .int (fig (tat l (F 9) (start + 1)))]) b_X1_faultOf_73_76 rfl (fun hd => ?_)
        refine R2.icmp_lt 82 hd (by decide) (fun c76 => ?_) (fun c76 => ?_)
        · refine R2.B (ls2 := [some (.ref 18), some (.ref 8), some (.int (nI n)), some (.int (nI start)), some (.int (nI part)), some (.int 1), some (.int (nI (start + 1))), some (.int (fig (tat l (F 9) (start + 1)))), some (.int (fig (tat l (F 9) ((start + 1) + 1)))), none]) (st2 := [.int 1]) b_X1_faultOf_82_84 rfl (fun hd => ?_)
          refine R2.if_eq 108 hd (by decide) (fun c84 => absurd c84 (by decide)) (fun c84 => ?_)
          refine R2.B (ls2 := [some (.ref 18), some (.ref 8), some (.int (nI n)), some (.int (nI start)), some (.int (nI part)), some (.int 1), some (.int (nI (start + 1))), some (.int (fig (tat l (F 9) (start + 1)))), some (.int (fig (tat l (F 9) ((start + 1) + 1)))), none]) (st2 := [.int (fig (tat l (F 9) (start + 1))), .int (fig (tat l (F 9) ((start + 1) + 1)))]) b_X1_faultOf_87_91 rfl (fun hd => ?_)
          refine R2.icmp_eq 104 hd (by decide) (fun c91 => ?_) (fun c91 => ?_)
          · refine R2.B (ls2 := [some (.ref 18), some (.ref 8), some (.int (nI n)), some (.int (nI start)), some (.int (nI part)), some (.int 1), some (.int (nI (start + 1))), some (.int (fig (tat l (F 9) (start + 1)))), some (.int (fig (tat l (F 9) ((start + 1) + 1)))), some (.int 0)]) (st2 := [.int (-1), .int (fig (tat l (F 9) ((start + 1) + 1)))]) b_X1_faultOf_104_118 rfl (fun hd => ?_)
            refine R2.icmp_eq 126 hd (by decide) (fun c118 => ?_) (fun c118 => ?_)
            · refine R2.B (ls2 := [some (.ref 18), some (.ref 8), some (.int (nI n)), some (.int (nI start)), some (.int (nI part)), some (.int 1), some (.int (nI (start + 1))), some (.int (fig (tat l (F 9) (start + 1)))), some (.int (fig (tat l (F 9) ((start + 1) + 1)))), some (.int 0)]) (st2 := [.int ((nI (start + 1)) + 1)]) b_X1_faultOf_126_130 rfl (fun hd => ?_)
              rw [show ((nI (start + 1)) + 1 : Int32) = nI ((start + 1) + 1) from nI_add (start + 1) 1]
              have e : fairL l n (k + 1) part start F = (nI ((start + 1) + 1), F) := by
                clear hd; simp only [fairL] <;> grind [fairP]
              exact R2.ret3 (r := some (.int (nI ((start + 1) + 1)))) hd trivial rfl (by rw [e]) (by rw [e])
            · refine R2.B (ls2 := [some (.ref 18), some (.ref 8), some (.int (nI n)), some (.int (nI start)), some (.int (nI part)), some (.int 1), some (.int (nI (start + 1))), some (.int (fig (tat l (F 9) (start + 1)))), some (.int (fig (tat l (F 9) ((start + 1) + 1)))), some (.int 0)]) (st2 := [.int 0]) b_X1_faultOf_121_123 rfl (fun hd => ?_)
              refine R2.if_ne 131 hd (by decide) (fun c123 => absurd (by decide) c123) (fun c123 => ?_)
              refine R2.B (ls2 := [some (.ref 18), some (.ref 8), some (.int (nI n)), some (.int (nI start)), some (.int (nI part)), some (.int 1), some (.int (nI (start + 1))), some (.int (fig (tat l (F 9) (start + 1)))), some (.int (fig (tat l (F 9) ((start + 1) + 1)))), some (.int 0)]) (st2 := [.int ((nI (start + 1)) + 1)]) b_X1_faultOf_126_130 rfl (fun hd => ?_)
              rw [show ((nI (start + 1)) + 1 : Int32) = nI ((start + 1) + 1) from nI_add (start + 1) 1]
              have e : fairL l n (k + 1) part start F = (nI ((start + 1) + 1), F) := by
                clear hd; simp only [fairL] <;> grind [fairP]
              exact R2.ret3 (r := some (.int (nI ((start + 1) + 1)))) hd trivial rfl (by rw [e]) (by rw [e])
          · refine R2.B (ls2 := [some (.ref 18), some (.ref 8), some (.int (nI n)), some (.int (nI start)), some (.int (nI part)), some (.int 1), some (.int (nI (start + 1))), some (.int (fig (tat l (F 9) (start + 1)))), some (.int (fig (tat l (F 9) ((start + 1) + 1)))), none]) (st2 := [.int (nI n), .int (fig (tat l (F 9) ((start + 1) + 1)))]) b_X1_faultOf_94_97 rfl (fun hd => ?_)
            refine R2.icmp_ge 104 hd (by decide) (fun c97 => ?_) (fun c97 => ?_)
            · refine R2.B (ls2 := [some (.ref 18), some (.ref 8), some (.int (nI n)), some (.int (nI start)), some (.int (nI part)), some (.int 1), some (.int (nI (start + 1))), some (.int (fig (tat l (F 9) (start + 1)))), some (.int (fig (tat l (F 9) ((start + 1) + 1)))), some (.int 0)]) (st2 := [.int (-1), .int (fig (tat l (F 9) ((start + 1) + 1)))]) b_X1_faultOf_104_118 rfl (fun hd => ?_)
              refine R2.icmp_eq 126 hd (by decide) (fun c118 => ?_) (fun c118 => ?_)
              · refine R2.B (ls2 := [some (.ref 18), some (.ref 8), some (.int (nI n)), some (.int (nI start)), some (.int (nI part)), some (.int 1), some (.int (nI (start + 1))), some (.int (fig (tat l (F 9) (start + 1)))), some (.int (fig (tat l (F 9) ((start + 1) + 1)))), some (.int 0)]) (st2 := [.int ((nI (start + 1)) + 1)]) b_X1_faultOf_126_130 rfl (fun hd => ?_)
                rw [show ((nI (start + 1)) + 1 : Int32) = nI ((start + 1) + 1) from nI_add (start + 1) 1]
                have e : fairL l n (k + 1) part start F = (nI ((start + 1) + 1), F) := by
                  clear hd; simp only [fairL] <;> grind [fairP]
                exact R2.ret3 (r := some (.int (nI ((start + 1) + 1)))) hd trivial rfl (by rw [e]) (by rw [e])
              · refine R2.B (ls2 := [some (.ref 18), some (.ref 8), some (.int (nI n)), some (.int (nI start)), some (.int (nI part)), some (.int 1), some (.int (nI (start + 1))), some (.int (fig (tat l (F 9) (start + 1)))), some (.int (fig (tat l (F 9) ((start + 1) + 1)))), some (.int 0)]) (st2 := [.int 0]) b_X1_faultOf_121_123 rfl (fun hd => ?_)
                refine R2.if_ne 131 hd (by decide) (fun c123 => absurd (by decide) c123) (fun c123 => ?_)
                refine R2.B (ls2 := [some (.ref 18), some (.ref 8), some (.int (nI n)), some (.int (nI start)), some (.int (nI part)), some (.int 1), some (.int (nI (start + 1))), some (.int (fig (tat l (F 9) (start + 1)))), some (.int (fig (tat l (F 9) ((start + 1) + 1)))), some (.int 0)]) (st2 := [.int ((nI (start + 1)) + 1)]) b_X1_faultOf_126_130 rfl (fun hd => ?_)
                rw [show ((nI (start + 1)) + 1 : Int32) = nI ((start + 1) + 1) from nI_add (start + 1) 1]
                have e : fairL l n (k + 1) part start F = (nI ((start + 1) + 1), F) := by
                  clear hd; simp only [fairL] <;> grind [fairP]
                exact R2.ret3 (r := some (.int (nI ((start + 1) + 1)))) hd trivial rfl (by rw [e]) (by rw [e])
            · refine R2.B (ls2 := [some (.ref 18), some (.ref 8), some (.int (nI n)), some (.int (nI start)), some (.int (nI part)), some (.int 1), some (.int (nI (start + 1))), some (.int (fig (tat l (F 9) (start + 1)))), some (.int (fig (tat l (F 9) ((start + 1) + 1)))), some (.int 1)]) (st2 := [.int (-1), .int (fig (tat l (F 9) ((start + 1) + 1)))]) b_X1_faultOf_100_118 rfl (fun hd => ?_)
              refine R2.icmp_eq 126 hd (by decide) (fun c118 => ?_) (fun c118 => ?_)
              · refine R2.B (ls2 := [some (.ref 18), some (.ref 8), some (.int (nI n)), some (.int (nI start)), some (.int (nI part)), some (.int 1), some (.int (nI (start + 1))), some (.int (fig (tat l (F 9) (start + 1)))), some (.int (fig (tat l (F 9) ((start + 1) + 1)))), some (.int 1)]) (st2 := [.int ((nI (start + 1)) + 1)]) b_X1_faultOf_126_130 rfl (fun hd => ?_)
                rw [show ((nI (start + 1)) + 1 : Int32) = nI ((start + 1) + 1) from nI_add (start + 1) 1]
                have e : fairL l n (k + 1) part start F = (nI ((start + 1) + 1), F) := by
                  clear hd; simp only [fairL] <;> grind [fairP]
                exact R2.ret3 (r := some (.int (nI ((start + 1) + 1)))) hd trivial rfl (by rw [e]) (by rw [e])
              · refine R2.B (ls2 := [some (.ref 18), some (.ref 8), some (.int (nI n)), some (.int (nI start)), some (.int (nI part)), some (.int 1), some (.int (nI (start + 1))), some (.int (fig (tat l (F 9) (start + 1)))), some (.int (fig (tat l (F 9) ((start + 1) + 1)))), some (.int 1)]) (st2 := [.int 1]) b_X1_faultOf_121_123 rfl (fun hd => ?_)
                refine R2.if_ne 131 hd (by decide) (fun c123 => ?_) (fun c123 => absurd c123 (by decide))
                refine R2.B (ls2 := [some (.ref 18), some (.ref 8), some (.int (nI n)), some (.int (nI start)), some (.int (nI part)), some (.int 1), some (.int (nI (start + 1))), some (.int (fig (tat l (F 9) (start + 1)))), some (.int (fig (tat l (F 9) ((start + 1) + 1)))), some (.int 1)]) (st2 := [.int 1, .int (nI part), .ref 19]) b_X1_faultOf_131_139 rfl (fun hd => ?_)
                refine R2.zast part rfl hd (by decide) rfl (fun _ => rfl) (by decide) (by omega) (by decide) ?_
                refine R2.B (ls2 := [some (.ref 18), some (.ref 8), some (.int (nI n)), some (.int (nI start)), some (.int (nI part)), some (.int 1), some (.int (nI (start + 1))), some (.int (fig (tat l (F 9) (start + 1)))), some (.int (fig (tat l (F 9) ((start + 1) + 1)))), some (.int 1)]) (st2 := [.int (fig (tat l (F 9) (start + 1))), .int (nI part), .ref 20]) b_X1_faultOf_140_148 rfl (fun hd => ?_)
                refine R2.iast part rfl hd (by decide) rfl (fun _ => rfl) (by decide) (by omega) ?_
                refine R2.B (ls2 := [some (.ref 18), some (.ref 8), some (.int (nI n)), some (.int (nI start)), some (.int (nI part)), some (.int 1), some (.int (nI (start + 1))), some (.int (fig (tat l (F 9) (start + 1)))), some (.int (fig (tat l (F 9) ((start + 1) + 1)))), some (.int 1)]) (st2 := [.int (fig (tat l (F 9) ((start + 1) + 1))), .int (nI part), .ref 21]) b_X1_faultOf_149_157 rfl (fun hd => ?_)
                refine R2.iast part rfl hd (by decide) rfl (fun _ => rfl) (by decide) (by omega) ?_
                refine R2.B (ls2 := [some (.ref 18), some (.ref 8), some (.int (nI n)), some (.int (nI start)), some (.int (nI part)), some (.int 1), some (.int (nI (start + 1))), some (.int (fig (tat l (F 9) (start + 1)))), some (.int (fig (tat l (F 9) ((start + 1) + 1)))), some (.int 1)]) (st2 := [.int ((nI part) + 1), .ref 18]) b_X1_faultOf_158_163 rfl (fun hd => ?_)
                rw [show ((nI part) + 1 : Int32) = nI (part + 1) from nI_add part 1]
                refine R2.putf (a := 1) (b := 3) hd (by decide) (by decide) rfl rfl (fun _ => rfl) ?_
                refine R2.B (ls2 := [some (.ref 18), some (.ref 8), some (.int (nI n)), some (.int (nI start)), some (.int (nI part)), some (.int 1), some (.int (nI (start + 1))), some (.int (fig (tat l (F 9) (start + 1)))), some (.int (fig (tat l (F 9) ((start + 1) + 1)))), some (.int 1)]) (st2 := [.ref 8, .int ((nI (start + 1)) + 2)]) b_X1_faultOf_166_171 rfl (fun hd => ?_)
                rw [show ((nI (start + 1)) + 2 : Int32) = nI ((start + 1) + 2) from nI_add (start + 1) 2]
                refine R2.callV3 (M2 := mX7_length) (As := []) (rest := [.int (nI ((start + 1) + 2))]) hd lk_1_29 okX7_length (by decide) rfl (ev_length8 E L _) (by decide) rfl rfl (Nat.le_of_ble_eq_true rfl) ?_
                refine R2.top (show (F 8 1 : Int32) = nI l from hlen) ?_
                refine R2.B (ls2 := [some (.ref 18), some (.ref 8), some (.int (nI n)), some (.int (nI start)), some (.int (nI part)), some (.int 1), some (.int (nI (start + 1))), some (.int (fig (tat l (F 9) (start + 1)))), some (.int (fig (tat l (F 9) ((start + 1) + 1)))), some (.int 1)]) (st2 := [.int (nI l), .int (nI ((start + 1) + 2))]) b_X1_faultOf_174_174 rfl (fun hd => ?_)
                refine R2.icmp_ne 179 hd (by decide) (fun c174 => ?_) (fun c174 => ?_)
                · have nc174 : ¬ ((start + 1) + 2) = l := fun h9 => c174 ((nI_eq (a := ((start + 1) + 2)) (b := l) (by omega) (by omega)).mpr h9)
                  refine R2.B (ls2 := [some (.ref 18), some (.ref 8), some (.int (nI n)), some (.int (nI start)), some (.int (nI part)), some (.int 1), some (.int (nI (start + 1))), some (.int (fig (tat l (F 9) (start + 1)))), some (.int (fig (tat l (F 9) ((start + 1) + 1)))), some (.int 1)]) (st2 := [.int ((nI (start + 1)) + 2), .ref 8]) b_X1_faultOf_179_184 rfl (fun hd => ?_)
                  rw [show ((nI (start + 1)) + 2 : Int32) = nI ((start + 1) + 2) from nI_add (start + 1) 2]
                  refine R2.callV3 (M2 := mX7_at) (As := [.int (nI ((start + 1) + 2))]) (rest := []) hd lk_1_39 okX7_at (by decide) rfl (ev_at8 E L (up2 (up2 (up2 (up2 F 19 part 1) 20 part (fig (tat l (F 9) (start + 1)))) 21 part (fig (tat l (F 9) ((start + 1) + 1)))) 18 3 (nI (part + 1))) l ((start + 1) + 2) hlen (by omega) (by omega)) (by decide) rfl rfl (Nat.le_of_ble_eq_true rfl) ?_
                  refine R2.B (ls2 := [some (.ref 18), some (.ref 8), some (.int (nI n)), some (.int (nI start)), some (.int (nI part)), some (.int 1), some (.int (nI (start + 1))), some (.int (fig (tat l (F 9) (start + 1)))), some (.int (fig (tat l (F 9) ((start + 1) + 1)))), some (.int 1)]) (st2 := [.int 59, .int (tat l (F 9) ((start + 1) + 2))]) b_X1_faultOf_187_189 rfl (fun hd => ?_)
                  refine R2.icmp_eq 197 hd (by decide) (fun c189 => ?_) (fun c189 => ?_)
                  · refine R2.B (ls2 := [some (.ref 18), some (.ref 8), some (.int (nI n)), some (.int ((nI (start + 1)) + 3)), some (.int ((nI part) + 1)), some (.int 1), some (.int (nI (start + 1))), some (.int (fig (tat l (F 9) (start + 1)))), some (.int (fig (tat l (F 9) ((start + 1) + 1)))), some (.int 1)]) (st2 := []) b_X1_faultOf_197_5 rfl (fun hd => ?_)
                    rw [show ((nI (start + 1)) + 3 : Int32) = nI ((start + 1) + 3) from nI_add (start + 1) 3]
                    rw [show ((nI part) + 1 : Int32) = nI (part + 1) from nI_add part 1]
                    have e : fairL l n (k + 1) part start F = fairL l n k (part + 1) (((start + 1) + 3)) (up2 (up2 (up2 (up2 F 19 part 1) 20 part (fig (tat l (F 9) (start + 1)))) 21 part (fig (tat l (F 9) ((start + 1) + 1)))) 18 3 (nI (part + 1))) := by
                      clear hd; simp only [fairL] <;> grind [fairP]
                    rw [e]
                    refine R2.forget (ls2 := [some (.ref 18), some (.ref 8), some (.int (nI n)), some (.int (nI ((start + 1) + 3))), some (.int (nI (part + 1))), none, none, none, none, none]) ⟨rfl, ⟨rfl, ⟨rfl, ⟨rfl, ⟨rfl, trivial⟩⟩⟩⟩⟩ ?_
                    exact ih (part + 1) _ _ (by omega) (by omega) hlen
                  · refine R2.B (ls2 := [some (.ref 18), some (.ref 8), some (.int (nI n)), some (.int (nI start)), some (.int (nI part)), some (.int 1), some (.int (nI (start + 1))), some (.int (fig (tat l (F 9) (start + 1)))), some (.int (fig (tat l (F 9) ((start + 1) + 1)))), some (.int 1)]) (st2 := [.int ((nI (start + 1)) + 2)]) b_X1_faultOf_192_196 rfl (fun hd => ?_)
                    rw [show ((nI (start + 1)) + 2 : Int32) = nI ((start + 1) + 2) from nI_add (start + 1) 2]
                    have e : fairL l n (k + 1) part start F = (nI ((start + 1) + 2), (up2 (up2 (up2 (up2 F 19 part 1) 20 part (fig (tat l (F 9) (start + 1)))) 21 part (fig (tat l (F 9) ((start + 1) + 1)))) 18 3 (nI (part + 1)))) := by
                      clear hd; simp only [fairL] <;> grind [fairP]
                    exact R2.ret3 (r := some (.int (nI ((start + 1) + 2)))) hd trivial rfl (by rw [e]) (by rw [e])
                · have nc174 : ((start + 1) + 2) = l := (nI_eq (a := ((start + 1) + 2)) (b := l) (by omega) (by omega)).mp c174
                  refine R2.B (ls2 := [some (.ref 18), some (.ref 8), some (.int (nI n)), some (.int (nI start)), some (.int (nI part)), some (.int 1), some (.int (nI (start + 1))), some (.int (fig (tat l (F 9) (start + 1)))), some (.int (fig (tat l (F 9) ((start + 1) + 1)))), some (.int 1)]) (st2 := [.int (-1)]) b_X1_faultOf_177_178 rfl (fun hd => ?_)
                  have e : fairL l n (k + 1) part start F = ((-1), (up2 (up2 (up2 (up2 F 19 part 1) 20 part (fig (tat l (F 9) (start + 1)))) 21 part (fig (tat l (F 9) ((start + 1) + 1)))) 18 3 (nI (part + 1)))) := by
                    clear hd; simp only [fairL] <;> grind [fairP]
                  exact R2.ret3 (r := some (.int (-1))) hd trivial rfl (by rw [e]) (by rw [e])
        · refine R2.B (ls2 := [some (.ref 18), some (.ref 8), some (.int (nI n)), some (.int (nI start)), some (.int (nI part)), some (.int 1), some (.int (nI (start + 1))), some (.int (fig (tat l (F 9) (start + 1)))), some (.int (fig (tat l (F 9) ((start + 1) + 1)))), none]) (st2 := [.int (nI (start + 1))]) b_X1_faultOf_79_81 rfl (fun hd => ?_)
          have e : fairL l n (k + 1) part start F = (nI (start + 1), F) := by
            clear hd; simp only [fairL] <;> grind [fairP]
          exact R2.ret3 (r := some (.int (nI (start + 1)))) hd trivial rfl (by rw [e]) (by rw [e])
theorem b_X1_faultOf_0_5 : bl2 mX1_faultOf 0 [(.iconst 0, 1, 0, 0, .int 0), (.istore_n 3, 1, 3, 0, .null), (.iconst 0, 1, 0, 0, .int 0), (.istore 4, 2, 4, 0, .null)] 5 (.iload 4) 2 = true := by decide +kernel
set_option maxRecDepth 20000 in
set_option maxHeartbeats 1000000 in
theorem ev_fairFaultOf (E : EE) (L : Nat) (F : FF) (l n : Nat) (hl : l ≤ 60) (hn : n ≤ 10) (hlen : F 8 1 = nI l) : Ev3 E L 2 mX1_faultOf [.ref 18, .ref 8, .int (nI n)] F (some (.int (fairL l n 20 0 0 F).1)) (fairL l n 20 0 0 F).2 := by
  refine Ev3.of okX1_faultOf.2.2.1 (Nat.le_of_ble_eq_true rfl) ?_
  show R2 E L mX1_faultOf 2 0 [some (.ref 18), some (.ref 8), some (.int (nI n)), none, none, none, none, none, none, none] [] F _
  refine R2.B (ls2 := [some (.ref 18), some (.ref 8), some (.int (nI n)), some (.int 0), some (.int 0), none, none, none, none, none]) (st2 := []) b_X1_faultOf_0_5 rfl (fun hd => ?_)
  exact lp_fairF E L l n hl hn 20 0 0 F (by omega) (by omega) hlen
theorem b_X1_tell_0_2 : bl2 mX1_tell 0 [(.aload_n 0, 1, 0, 0, .null), (.iconst 0, 1, 0, 0, .int 0)] 2 (.putfield 22) 3 = true := by decide +kernel
theorem b_X1_tell_5_7 : bl2 mX1_tell 5 [(.aload_n 0, 1, 0, 0, .null), (.aload_n 1, 1, 1, 0, .null)] 7 (.invokevirtual 29) 3 = true := by decide +kernel
theorem b_X1_tell_10_10 : bl2 mX1_tell 10 [] 10 (.ifCond .ne 7) 3 = true := by decide +kernel
theorem b_X1_tell_17_20 : bl2 mX1_tell 17 [(.aload_n 0, 1, 0, 0, .null), (.aload_n 1, 1, 1, 0, .null), (.iload_n 2, 1, 2, 0, .null)] 20 (.invokevirtual 35) 3 = true := by decide +kernel
theorem b_X1_tell_23_23 : bl2 mX1_tell 23 [] 23 (.putfield 26) 3 = true := by decide +kernel
theorem b_X1_tell_26_31 : bl2 mX1_tell 26 [(.aload_n 0, 1, 0, 0, .null), (.getfield 26, 3, 1, 4, .null), (.iconst (-1), 1, 0, 0, .int (-1))] 31 (.if_icmp .eq 8) 3 = true := by decide +kernel
theorem b_X1_tell_39_39 : bl2 mX1_tell 39 [] 39 (.return_) 1 = true := by decide +kernel
theorem b_X1_tell_34_36 : bl2 mX1_tell 34 [(.aload_n 0, 1, 0, 0, .null), (.iconst 0, 1, 0, 0, .int 0)] 36 (.putfield 22) 3 = true := by decide +kernel
theorem b_X1_tell_13_23 : bl2 mX1_tell 13 [(.iconst (-1), 1, 0, 0, .int (-1)), (.goto 9, 3, 23, 0, .null)] 23 (.putfield 26) 3 = true := by decide +kernel
set_option maxRecDepth 20000 in
set_option maxHeartbeats 1000000 in
theorem ev_fairTell (E : EE) (L : Nat) (F : FF) (l n : Nat) (hl : l ≤ 60) (hn : n ≤ 10) (hlen : F 8 1 = nI l) : Ev3 E L 3 mX1_tell [.ref 18, .ref 8, .int (nI n)] F none (tfF F l n) := by
  refine Ev3.of okX1_tell.2.2.1 (Nat.le_of_ble_eq_true rfl) ?_
  show R2 E L mX1_tell 3 0 [some (.ref 18), some (.ref 8), some (.int (nI n))] [] F _
  refine R2.B (ls2 := [some (.ref 18), some (.ref 8), some (.int (nI n))]) (st2 := [.int 0, .ref 18]) b_X1_tell_0_2 rfl (fun hd => ?_)
  refine R2.putf (a := 1) (b := 3) hd (by decide) (by decide) rfl rfl (fun _ => rfl) ?_
  refine R2.B (ls2 := [some (.ref 18), some (.ref 8), some (.int (nI n))]) (st2 := [.ref 8, .ref 18]) b_X1_tell_5_7 rfl (fun hd => ?_)
  refine R2.callV3 (M2 := mX7_length) (As := []) (rest := [.ref 18]) hd lk_1_29 okX7_length (by decide) rfl (ev_length8 E L _) (by decide) rfl rfl (Nat.le_of_ble_eq_true rfl) ?_
  refine R2.top (show (F 8 1 : Int32) = nI l from hlen) ?_
  refine R2.B (ls2 := [some (.ref 18), some (.ref 8), some (.int (nI n))]) (st2 := [.int (nI l), .ref 18]) b_X1_tell_10_10 rfl (fun hd => ?_)
  refine R2.if_ne 17 hd (by decide) (fun c10 => ?_) (fun c10 => ?_)
  · have nc10 : ¬ l = 0 := fun h9 => c10 ((nI_eq (a := l) (b := 0) (by omega) (by omega)).mpr h9)
    refine R2.B (ls2 := [some (.ref 18), some (.ref 8), some (.int (nI n))]) (st2 := [.int (nI n), .ref 8, .ref 18, .ref 18]) b_X1_tell_17_20 rfl (fun hd => ?_)
    refine R2.callV3 (M2 := mX1_faultOf) (As := [.ref 8, .int (nI n)]) (rest := [.ref 18]) hd lk_1_35 okX1_faultOf (by decide) rfl (ev_fairFaultOf E L (up2 F 18 3 0) l n hl hn hlen) (by decide) rfl rfl (Nat.le_of_ble_eq_true rfl) ?_
    refine R2.B (ls2 := [some (.ref 18), some (.ref 8), some (.int (nI n))]) (st2 := [.int ((fairL l n 20 0 0 (up2 F 18 3 0)).1), .ref 18]) b_X1_tell_23_23 rfl (fun hd => ?_)
    refine R2.putf (a := 1) (b := 4) hd (by decide) (by decide) rfl rfl (fun _ => rfl) ?_
    refine R2.B (ls2 := [some (.ref 18), some (.ref 8), some (.int (nI n))]) (st2 := [.int (-1), .int ((fairL l n 20 0 0 (up2 F 18 3 0)).1)]) b_X1_tell_26_31 rfl (fun hd => ?_)
    refine R2.icmp_eq 39 hd (by decide) (fun c31 => ?_) (fun c31 => ?_)
    · refine R2.B (ls2 := [some (.ref 18), some (.ref 8), some (.int (nI n))]) (st2 := []) b_X1_tell_39_39 rfl (fun hd => ?_)
      exact R2.ret3 (r := none) hd trivial rfl rfl (by clear hd; unfold tfF; grind)
    · refine R2.B (ls2 := [some (.ref 18), some (.ref 8), some (.int (nI n))]) (st2 := [.int 0, .ref 18]) b_X1_tell_34_36 rfl (fun hd => ?_)
      refine R2.putf (a := 1) (b := 3) hd (by decide) (by decide) rfl rfl (fun _ => rfl) ?_
      refine R2.B (ls2 := [some (.ref 18), some (.ref 8), some (.int (nI n))]) (st2 := []) b_X1_tell_39_39 rfl (fun hd => ?_)
      exact R2.ret3 (r := none) hd trivial rfl rfl (by clear hd; unfold tfF; grind)
  · have nc10 : l = 0 := (nI_eq (a := l) (b := 0) (by omega) (by omega)).mp c10
    refine R2.B (ls2 := [some (.ref 18), some (.ref 8), some (.int (nI n))]) (st2 := [.int (-1), .ref 18]) b_X1_tell_13_23 rfl (fun hd => ?_)
    refine R2.putf (a := 1) (b := 4) hd (by decide) (by decide) rfl rfl (fun _ => rfl) ?_
    refine R2.B (ls2 := [some (.ref 18), some (.ref 8), some (.int (nI n))]) (st2 := [.int (-1), .int (-1)]) b_X1_tell_26_31 rfl (fun hd => ?_)
    refine R2.icmp_eq 39 hd (by decide) (fun c31 => ?_) (fun c31 => absurd (by decide) c31)
    refine R2.B (ls2 := [some (.ref 18), some (.ref 8), some (.int (nI n))]) (st2 := []) b_X1_tell_39_39 rfl (fun hd => ?_)
    exact R2.ret3 (r := none) hd trivial rfl rfl (by clear hd; unfold tfF; grind)
theorem b_X8_moves_0_10 : bl2 mX8_moves 0 [(.aload_n 0, 1, 0, 0, .null), (.getfield 29, 3, 8, 0, .null), (.aload_n 0, 1, 0, 0, .null), (.getfield 9, 3, 8, 1, .null), (.iload_n 1, 1, 1, 0, .null), (.iload_n 2, 1, 2, 0, .null)] 10 (.invokevirtual 64) 3 = true := by decide +kernel
theorem b_X8_moves_13_16 : bl2 mX8_moves 13 [(.istore_n 3, 1, 3, 0, .null), (.iload_n 3, 1, 3, 0, .null), (.iconst (-1), 1, 0, 0, .int (-1))] 16 (.if_icmp .ne 5) 3 = true := by decide +kernel
theorem b_X8_moves_21_27 : bl2 mX8_moves 21 [(.aload_n 0, 1, 0, 0, .null), (.getfield 9, 3, 8, 1, .null), (.iload_n 1, 1, 1, 0, .null), (.iload_n 3, 1, 3, 0, .null)] 27 (.iastore) 1 = true := by decide +kernel
theorem b_X8_moves_28_29 : bl2 mX8_moves 28 [(.iconst 1, 1, 0, 0, .int 1)] 29 (.ireturn) 1 = true := by decide +kernel
theorem b_X8_moves_19_20 : bl2 mX8_moves 19 [(.iconst 0, 1, 0, 0, .int 0)] 20 (.ireturn) 1 = true := by decide +kernel
set_option maxRecDepth 20000 in
set_option maxHeartbeats 1000000 in
theorem ev_moves (E : EE) (L : Nat) (F : FF) (hc : CST F) (n : Nat) (hn : F 10 5 = nI n) (hn10 : n ≤ 10) (p d : Nat) (hp : p < 10) (hd8 : d < 8) : Ev3 E L 4 mX8_moves [.ref 22, .int (nI p), .int (nI d)] F (some (.int (b2i (¬ movT F n p d = -1)))) (if movT F n p d = -1 then F else up2 F 23 p (movT F n p d)) := by
  refine Ev3.of okX8_moves.2.2.1 (Nat.le_of_ble_eq_true rfl) ?_
  show R2 E L mX8_moves 4 0 [some (.ref 22), some (.int (nI p)), some (.int (nI d)), none] [] F _
  refine R2.B (ls2 := [some (.ref 22), some (.int (nI p)), some (.int (nI d)), none]) (st2 := [.int (nI d), .int (nI p), .ref 23, .ref 16]) b_X8_moves_0_10 rfl (fun hd => ?_)
  refine R2.callV3 (M2 := mX2_lawfulStep) (As := [.ref 23, .int (nI p), .int (nI d)]) (rest := []) hd lk_8_64 okX2_lawfulStep (by decide) rfl (ev_lawfulStep E L F hc n hn hn10 23 rfl (fun _ => rfl) p d (by omega) (by omega)) (by decide) rfl rfl (Nat.le_of_ble_eq_true rfl) ?_
  refine R2.B (ls2 := [some (.ref 22), some (.int (nI p)), some (.int (nI d)), some (.int (lawS (F 23) p d ((F 17 2) * (F 17 2)) n))]) (st2 := [.int (-1), .int (lawS (F 23) p d ((F 17 2) * (F 17 2)) n)]) b_X8_moves_13_16 rfl (fun hd => ?_)
  refine R2.icmp_ne 21 hd (by decide) (fun c16 => ?_) (fun c16 => ?_)
  · refine R2.B (ls2 := [some (.ref 22), some (.int (nI p)), some (.int (nI d)), some (.int (lawS (F 23) p d ((F 17 2) * (F 17 2)) n))]) (st2 := [.int (lawS (F 23) p d ((F 17 2) * (F 17 2)) n), .int (nI p), .ref 23]) b_X8_moves_21_27 rfl (fun hd => ?_)
    refine R2.iast p rfl hd (by decide) rfl (fun _ => rfl) (by decide) (by omega) ?_
    refine R2.B (ls2 := [some (.ref 22), some (.int (nI p)), some (.int (nI d)), some (.int (lawS (F 23) p d ((F 17 2) * (F 17 2)) n))]) (st2 := [.int 1]) b_X8_moves_28_29 rfl (fun hd => ?_)
    exact R2.ret3 (r := some (.int 1)) hd (Or.inr rfl) rfl (congrArg (fun z => some (Value.int z)) (b2i_t (by clear hd; unfold movT; grind))) (by clear hd; unfold movT; grind)
  · refine R2.B (ls2 := [some (.ref 22), some (.int (nI p)), some (.int (nI d)), some (.int (lawS (F 23) p d ((F 17 2) * (F 17 2)) n))]) (st2 := [.int 0]) b_X8_moves_19_20 rfl (fun hd => ?_)
    exact R2.ret3 (r := some (.int 0)) hd (Or.inl rfl) rfl (congrArg (fun z => some (Value.int z)) (b2i_f (by clear hd; unfold movT; grind))) (by clear hd; unfold movT; grind)
theorem b_X8_strikes_0_5 : bl2 mX8_strikes 0 [(.aload_n 0, 1, 0, 0, .null), (.getfield 15, 3, 8, 2, .null), (.iload_n 1, 1, 1, 0, .null)] 5 (.baload) 1 = true := by decide +kernel
theorem b_X8_strikes_6_6 : bl2 mX8_strikes 6 [] 6 (.ifCond .ne 29) 3 = true := by decide +kernel
theorem b_X8_strikes_35_36 : bl2 mX8_strikes 35 [(.iconst 0, 1, 0, 0, .int 0)] 36 (.ireturn) 1 = true := by decide +kernel
theorem b_X8_strikes_9_14 : bl2 mX8_strikes 9 [(.aload_n 0, 1, 0, 0, .null), (.getfield 15, 3, 8, 2, .null), (.iload_n 2, 1, 2, 0, .null)] 14 (.baload) 1 = true := by decide +kernel
theorem b_X8_strikes_15_15 : bl2 mX8_strikes 15 [] 15 (.ifCond .ne 20) 3 = true := by decide +kernel
theorem b_X8_strikes_18_29 : bl2 mX8_strikes 18 [(.aload_n 0, 1, 0, 0, .null), (.getfield 29, 3, 8, 0, .null), (.aload_n 0, 1, 0, 0, .null), (.getfield 9, 3, 8, 1, .null), (.iload_n 1, 1, 1, 0, .null), (.iload_n 2, 1, 2, 0, .null), (.iconst (-1), 1, 0, 0, .int (-1))] 29 (.invokevirtual 68) 3 = true := by decide +kernel
theorem b_X8_strikes_32_32 : bl2 mX8_strikes 32 [] 32 (.ifCond .eq 5) 3 = true := by decide +kernel
theorem b_X8_strikes_37_43 : bl2 mX8_strikes 37 [(.aload_n 0, 1, 0, 0, .null), (.getfield 15, 3, 8, 2, .null), (.iload_n 1, 1, 1, 0, .null), (.iconst 1, 1, 0, 0, .int 1)] 43 (.bastore) 1 = true := by decide +kernel
theorem b_X8_strikes_44_50 : bl2 mX8_strikes 44 [(.aload_n 0, 1, 0, 0, .null), (.getfield 15, 3, 8, 2, .null), (.iload_n 2, 1, 2, 0, .null), (.iconst 1, 1, 0, 0, .int 1)] 50 (.bastore) 1 = true := by decide +kernel
theorem b_X8_strikes_51_58 : bl2 mX8_strikes 51 [(.aload_n 0, 1, 0, 0, .null), (.dup, 1, 0, 0, .null), (.getfield 23, 3, 8, 4, .null), (.iconst 1, 1, 0, 0, .int 1), (.iadd, 1, 0, 0, .null)] 58 (.putfield 23) 3 = true := by decide +kernel
theorem b_X8_strikes_61_75 : bl2 mX8_strikes 61 [(.aload_n 0, 1, 0, 0, .null), (.dup, 1, 0, 0, .null), (.getfield 26, 3, 8, 5, .null), (.aload_n 0, 1, 0, 0, .null), (.getfield 29, 3, 8, 0, .null), (.getfield 33, 3, 2, 0, .null), (.iload_n 1, 1, 1, 0, .null), (.iload_n 2, 1, 2, 0, .null)] 75 (.invokevirtual 72) 3 = true := by decide +kernel
theorem b_X8_strikes_78_79 : bl2 mX8_strikes 78 [(.iadd, 1, 0, 0, .null)] 79 (.putfield 26) 3 = true := by decide +kernel
theorem b_X8_strikes_82_83 : bl2 mX8_strikes 82 [(.iconst 1, 1, 0, 0, .int 1)] 83 (.ireturn) 1 = true := by decide +kernel
set_option maxRecDepth 20000 in
set_option maxHeartbeats 1000000 in
theorem ev_strikes (E : EE) (L : Nat) (F : FF) (n : Nat) (hn : F 10 5 = nI n) (hn10 : n ≤ 10) (a b : Nat) (ha : a < 10) (hb : b < 10) : Ev3 E L 5 mX8_strikes [.ref 22, .int (nI a), .int (nI b)] F (some (.int (b2i (strC F n a b)))) (if strC F n a b then strF F a b else F) := by
  refine Ev3.of okX8_strikes.2.2.1 (Nat.le_of_ble_eq_true rfl) ?_
  show R2 E L mX8_strikes 5 0 [some (.ref 22), some (.int (nI a)), some (.int (nI b))] [] F _
  refine R2.B (ls2 := [some (.ref 22), some (.int (nI a)), some (.int (nI b))]) (st2 := [.int (nI a), .ref 24]) b_X8_strikes_0_5 rfl (fun hd => ?_)
  refine R2.zald a rfl hd rfl (fun _ => rfl) (by decide) (by omega) ?_
  refine R2.B (ls2 := [some (.ref 22), some (.int (nI a)), some (.int (nI b))]) (st2 := [.int (F 24 a)]) b_X8_strikes_6_6 rfl (fun hd => ?_)
  refine R2.if_ne 35 hd (by decide) (fun c6 => ?_) (fun c6 => ?_)
  · refine R2.B (ls2 := [some (.ref 22), some (.int (nI a)), some (.int (nI b))]) (st2 := [.int 0]) b_X8_strikes_35_36 rfl (fun hd => ?_)
    exact R2.ret3 (r := some (.int 0)) hd (Or.inl rfl) rfl (congrArg (fun z => some (Value.int z)) (b2i_f (by clear hd; grind))) (by clear hd; unfold strF; grind)
  · refine R2.B (ls2 := [some (.ref 22), some (.int (nI a)), some (.int (nI b))]) (st2 := [.int (nI b), .ref 24]) b_X8_strikes_9_14 rfl (fun hd => ?_)
    refine R2.zald b rfl hd rfl (fun _ => rfl) (by decide) (by omega) ?_
    refine R2.B (ls2 := [some (.ref 22), some (.int (nI a)), some (.int (nI b))]) (st2 := [.int (F 24 b)]) b_X8_strikes_15_15 rfl (fun hd => ?_)
    refine R2.if_ne 35 hd (by decide) (fun c15 => ?_) (fun c15 => ?_)
    · refine R2.B (ls2 := [some (.ref 22), some (.int (nI a)), some (.int (nI b))]) (st2 := [.int 0]) b_X8_strikes_35_36 rfl (fun hd => ?_)
      exact R2.ret3 (r := some (.int 0)) hd (Or.inl rfl) rfl (congrArg (fun z => some (Value.int z)) (b2i_f (by clear hd; grind))) (by clear hd; unfold strF; grind)
    · refine R2.B (ls2 := [some (.ref 22), some (.int (nI a)), some (.int (nI b))]) (st2 := [.int (-1), .int (nI b), .int (nI a), .ref 23, .ref 16]) b_X8_strikes_18_29 rfl (fun hd => ?_)
      refine R2.callV3 (M2 := mX2_verdict) (As := [.ref 23, .int (nI a), .int (nI b), .int (-1)]) (rest := []) hd lk_8_68 okX2_verdict (by decide) rfl (ev_verdict E L F n hn hn10 23 rfl (fun _ => rfl) a b (-1) (by omega) (by omega)) (by decide) rfl rfl (Nat.le_of_ble_eq_true rfl) ?_
      refine R2.B (ls2 := [some (.ref 22), some (.int (nI a)), some (.int (nI b))]) (st2 := [.int (cvd F (F 23) n (F 17 0) (-1) a b)]) b_X8_strikes_32_32 rfl (fun hd => ?_)
      refine R2.if_eq 37 hd (by decide) (fun c32 => ?_) (fun c32 => ?_)
      · refine R2.B (ls2 := [some (.ref 22), some (.int (nI a)), some (.int (nI b))]) (st2 := [.int 1, .int (nI a), .ref 24]) b_X8_strikes_37_43 rfl (fun hd => ?_)
        refine R2.zast a rfl hd (by decide) rfl (fun _ => rfl) (by decide) (by omega) (by decide) ?_
        refine R2.B (ls2 := [some (.ref 22), some (.int (nI a)), some (.int (nI b))]) (st2 := [.int 1, .int (nI b), .ref 24]) b_X8_strikes_44_50 rfl (fun hd => ?_)
        refine R2.zast b rfl hd (by decide) rfl (fun _ => rfl) (by decide) (by omega) (by decide) ?_
        refine R2.B (ls2 := [some (.ref 22), some (.int (nI a)), some (.int (nI b))]) (st2 := [.int ((F 22 4) + 1), .ref 22]) b_X8_strikes_51_58 rfl (fun hd => ?_)
        refine R2.putf (a := 8) (b := 4) hd (by decide) (by decide) rfl rfl (fun _ => rfl) ?_
        refine R2.B (ls2 := [some (.ref 22), some (.int (nI a)), some (.int (nI b))]) (st2 := [.int (nI b), .int (nI a), .ref 10, .int (F 22 5), .ref 22]) b_X8_strikes_61_75 rfl (fun hd => ?_)
        refine R2.callV3 (M2 := mX0_gain) (As := [.int (nI a), .int (nI b)]) (rest := [.int (F 22 5), .ref 22]) hd lk_8_72 okX0_gain (by decide) rfl (ev_gain E L (up2 (up2 (up2 F 24 a 1) 24 b 1) 22 4 ((F 22 4) + 1)) a b (by omega) (by omega)) (by decide) rfl rfl (Nat.le_of_ble_eq_true rfl) ?_
        refine R2.B (ls2 := [some (.ref 22), some (.int (nI a)), some (.int (nI b))]) (st2 := [.int ((F 22 5) + (gan (F 11) (F 13) a b)), .ref 22]) b_X8_strikes_78_79 rfl (fun hd => ?_)
        refine R2.putf (a := 8) (b := 5) hd (by decide) (by decide) rfl rfl (fun _ => rfl) ?_
        refine R2.B (ls2 := [some (.ref 22), some (.int (nI a)), some (.int (nI b))]) (st2 := [.int 1]) b_X8_strikes_82_83 rfl (fun hd => ?_)
        exact R2.ret3 (r := some (.int 1)) hd (Or.inr rfl) rfl (congrArg (fun z => some (Value.int z)) (b2i_t (by clear hd; grind))) (by clear hd; unfold strF; grind)
      · refine R2.B (ls2 := [some (.ref 22), some (.int (nI a)), some (.int (nI b))]) (st2 := [.int 0]) b_X8_strikes_35_36 rfl (fun hd => ?_)
        exact R2.ret3 (r := some (.int 0)) hd (Or.inl rfl) rfl (congrArg (fun z => some (Value.int z)) (b2i_f (by clear hd; grind))) (by clear hd; unfold strF; grind)
theorem b_X8_result_0_1 : bl2 mX8_result 0 [(.iload_n 1, 1, 1, 0, .null)] 1 (.ifCond .ne 10) 3 = true := by decide +kernel
theorem b_X8_result_11_13 : bl2 mX8_result 11 [(.iload_n 1, 1, 1, 0, .null), (.iconst 1, 1, 0, 0, .int 1)] 13 (.if_icmp .ne 10) 3 = true := by decide +kernel
theorem b_X8_result_23_27 : bl2 mX8_result 23 [(.aload_n 0, 1, 0, 0, .null), (.getfield 26, 3, 8, 5, .null)] 27 (.ireturn) 1 = true := by decide +kernel
theorem b_X8_result_16_27 : bl2 mX8_result 16 [(.aload_n 0, 1, 0, 0, .null), (.getfield 23, 3, 8, 4, .null), (.goto 7, 3, 27, 0, .null)] 27 (.ireturn) 1 = true := by decide +kernel
theorem b_X8_result_4_27 : bl2 mX8_result 4 [(.aload_n 0, 1, 0, 0, .null), (.getfield 19, 3, 8, 3, .null), (.goto 19, 3, 27, 0, .null)] 27 (.ireturn) 1 = true := by decide +kernel
set_option maxRecDepth 20000 in
set_option maxHeartbeats 1000000 in
theorem ev_result (E : EE) (L : Nat) (F : FF) (x : Int32) : Ev3 E L 1 mX8_result [.ref 22, .int x] F (some (.int (if x = 0 then F 22 3 else if x = 1 then F 22 4 else F 22 5))) F := by
  refine Ev3.of okX8_result.2.2.1 (Nat.le_of_ble_eq_true rfl) ?_
  show R2 E L mX8_result 1 0 [some (.ref 22), some (.int x)] [] F _
  refine R2.B (ls2 := [some (.ref 22), some (.int x)]) (st2 := [.int x]) b_X8_result_0_1 rfl (fun hd => ?_)
  refine R2.if_ne 11 hd (by decide) (fun c1 => ?_) (fun c1 => ?_)
  · refine R2.B (ls2 := [some (.ref 22), some (.int x)]) (st2 := [.int 1, .int x]) b_X8_result_11_13 rfl (fun hd => ?_)
    refine R2.icmp_ne 23 hd (by decide) (fun c13 => ?_) (fun c13 => ?_)
    · refine R2.B (ls2 := [some (.ref 22), some (.int x)]) (st2 := [.int (F 22 5)]) b_X8_result_23_27 rfl (fun hd => ?_)
      exact R2.ret3 (r := some (.int (F 22 5))) hd trivial rfl (congrArg (fun z => some (Value.int z)) (by clear hd; grind)) rfl
    · refine R2.B (ls2 := [some (.ref 22), some (.int x)]) (st2 := [.int (F 22 4)]) b_X8_result_16_27 rfl (fun hd => ?_)
      exact R2.ret3 (r := some (.int (F 22 4))) hd trivial rfl (congrArg (fun z => some (Value.int z)) (by clear hd; grind)) rfl
  · refine R2.B (ls2 := [some (.ref 22), some (.int x)]) (st2 := [.int (F 22 3)]) b_X8_result_4_27 rfl (fun hd => ?_)
    exact R2.ret3 (r := some (.int (F 22 3))) hd trivial rfl (congrArg (fun z => some (Value.int z)) (by clear hd; grind)) rfl
end
section
/-! Trial.judge, Stall. Printed by wip/whole/gen/spec7.py. -/
theorem b_X8_judge_2_13 : bl2 mX8_judge 2 [(.iload_n 2, 1, 2, 0, .null), (.aload_n 0, 1, 0, 0, .null), (.getfield 29, 3, 8, 0, .null), (.getfield 33, 3, 2, 0, .null), (.getfield 39, 3, 0, 5, .null)] 13 (.if_icmp .ge 34) 3 = true := by decide +kernel
theorem b_X8_judge_47_47 : bl2 mX8_judge 47 [] 47 (.aload_n 0) 1 = true := by decide +kernel
theorem b_X8_judge_16_32 : bl2 mX8_judge 16 [(.aload_n 0, 1, 0, 0, .null), (.getfield 9, 3, 8, 1, .null), (.iload_n 2, 1, 2, 0, .null), (.aload_n 0, 1, 0, 0, .null), (.getfield 29, 3, 8, 0, .null), (.getfield 33, 3, 2, 0, .null), (.getfield 44, 3, 0, 4, .null), (.iload_n 2, 1, 2, 0, .null)] 32 (.iaload) 1 = true := by decide +kernel
theorem b_X8_judge_33_33 : bl2 mX8_judge 33 [] 33 (.iastore) 1 = true := by decide +kernel
theorem b_X8_judge_34_40 : bl2 mX8_judge 34 [(.aload_n 0, 1, 0, 0, .null), (.getfield 15, 3, 8, 2, .null), (.iload_n 2, 1, 2, 0, .null), (.iconst 0, 1, 0, 0, .int 0)] 40 (.bastore) 1 = true := by decide +kernel
theorem b_X8_judge_41_2 : bl2 mX8_judge 41 [(.iinc 2 1, 3, 2, 0, .int 1), (.goto (-42), 3, 2, 0, .null)] 2 (.iload_n 2) 1 = true := by decide +kernel
set_option maxRecDepth 20000 in
set_option maxHeartbeats 2000000 in
theorem lp_jc (E : EE) (L : Nat) (n : Nat) (hn10 : n ≤ 10) (Q : Q2) : ∀ (k : Nat) (p : Nat) (F : FF), p + k = n → F 10 5 = nI n → R2 E L mX8_judge 6 47 [some (.ref 22), some (.ref 18), none, none] [] (jcL k p F) Q → R2 E L mX8_judge 6 2 [some (.ref 22), some (.ref 18), some (.int (nI p)), none] [] F Q := by
  intro k
  induction k with
  | zero =>
    intro p F hi h5 ex
    refine R2.B (ls2 := [some (.ref 22), some (.ref 18), some (.int (nI p)), none]) (st2 := [.int (F 10 5), .int (nI p)]) b_X8_judge_2_13 rfl (fun hd => ?_)
    rw [show (F 10 5 : Int32) = nI n from h5]
    refine R2.icmp_ge 47 hd (by decide) (fun c13 => ?_) (fun c13 => absurd (nI_le (by omega) (by omega)) c13)
    refine R2.B (ls2 := [some (.ref 22), some (.ref 18), some (.int (nI p)), none]) (st2 := []) b_X8_judge_47_47 rfl (fun hd => ?_)
    refine R2.forget (ls2 := [some (.ref 22), some (.ref 18), none, none]) ⟨rfl, ⟨rfl, trivial⟩⟩ ?_
    exact ex
  | succ k ih =>
    intro p F hi h5 ex
    refine R2.B (ls2 := [some (.ref 22), some (.ref 18), some (.int (nI p)), none]) (st2 := [.int (F 10 5), .int (nI p)]) b_X8_judge_2_13 rfl (fun hd => ?_)
    rw [show (F 10 5 : Int32) = nI n from h5]
    refine R2.icmp_ge 47 hd (by decide) (fun c13 => absurd c13 (nI_ge (by omega) (by omega))) (fun c13 => ?_)
    refine R2.B (ls2 := [some (.ref 22), some (.ref 18), some (.int (nI p)), none]) (st2 := [.int (nI p), .ref 15, .int (nI p), .ref 23]) b_X8_judge_16_32 rfl (fun hd => ?_)
    refine R2.iald p rfl hd rfl (fun _ => rfl) (by decide) (by omega) ?_
    refine R2.B (ls2 := [some (.ref 22), some (.ref 18), some (.int (nI p)), none]) (st2 := [.int (F 15 p), .int (nI p), .ref 23]) b_X8_judge_33_33 rfl (fun hd => ?_)
    refine R2.iast p rfl hd (by decide) rfl (fun _ => rfl) (by decide) (by omega) ?_
    refine R2.B (ls2 := [some (.ref 22), some (.ref 18), some (.int (nI p)), none]) (st2 := [.int 0, .int (nI p), .ref 24]) b_X8_judge_34_40 rfl (fun hd => ?_)
    refine R2.zast p rfl hd (by decide) rfl (fun _ => rfl) (by decide) (by omega) (by decide) ?_
    refine R2.B (ls2 := [some (.ref 22), some (.ref 18), some (.int ((nI p) + 1)), none]) (st2 := []) b_X8_judge_41_2 rfl (fun hd => ?_)
    rw [show ((nI p) + 1 : Int32) = nI (p + 1) from nI_add p 1]
    exact ih (p + 1) _ (by omega) h5 ex
theorem ev_moves0 (E : EE) (L : Nat) (F : FF) (hc : CST F) (n : Nat) (hn : F 10 5 = nI n) (hn10 : n ≤ 10) (p d : Nat) (hp : p < 10) (hd8 : d < 8) (h : movT F n p d = -1) : Ev3 E L 4 mX8_moves [.ref 22, .int (nI p), .int (nI d)] F (some (.int 0)) F :=
  (ev_moves E L F hc n hn hn10 p d hp hd8).eq (by rw [← b2i_f (fun z => z h)]) (if_pos h)
theorem ev_moves1 (E : EE) (L : Nat) (F : FF) (hc : CST F) (n : Nat) (hn : F 10 5 = nI n) (hn10 : n ≤ 10) (p d : Nat) (hp : p < 10) (hd8 : d < 8) (h : ¬ movT F n p d = -1) : Ev3 E L 4 mX8_moves [.ref 22, .int (nI p), .int (nI d)] F (some (.int 1)) (up2 F 23 p (movT F n p d)) :=
  (ev_moves E L F hc n hn hn10 p d hp hd8).eq (by rw [← b2i_t h]) (if_neg h)
theorem ev_strikes0 (E : EE) (L : Nat) (F : FF) (n : Nat) (hn : F 10 5 = nI n) (hn10 : n ≤ 10) (a b : Nat) (ha : a < 10) (hb : b < 10) (h : ¬ strC F n a b) : Ev3 E L 5 mX8_strikes [.ref 22, .int (nI a), .int (nI b)] F (some (.int 0)) F :=
  (ev_strikes E L F n hn hn10 a b ha hb).eq (by rw [← b2i_f h]) (if_neg h)
theorem ev_strikes1 (E : EE) (L : Nat) (F : FF) (n : Nat) (hn : F 10 5 = nI n) (hn10 : n ≤ 10) (a b : Nat) (ha : a < 10) (hb : b < 10) (h : strC F n a b) : Ev3 E L 5 mX8_strikes [.ref 22, .int (nI a), .int (nI b)] F (some (.int 1)) (strF F a b) :=
  (ev_strikes E L F n hn hn10 a b ha hb).eq (by rw [← b2i_t h]) (if_pos h)
theorem b_X8_judge_64_69 : bl2 mX8_judge 64 [(.iload_n 2, 1, 2, 0, .null), (.aload_n 1, 1, 1, 0, .null), (.getfield 45, 3, 1, 3, .null)] 69 (.if_icmp .ge 71) 3 = true := by decide +kernel
theorem b_X8_judge_140_140 : bl2 mX8_judge 140 [] 140 (.return_) 1 = true := by decide +kernel
theorem b_X8_judge_72_77 : bl2 mX8_judge 72 [(.aload_n 0, 1, 0, 0, .null), (.getfield 19, 3, 8, 3, .null), (.iconst (-1), 1, 0, 0, .int (-1))] 77 (.if_icmp .ne 63) 3 = true := by decide +kernel
theorem b_X8_judge_80_85 : bl2 mX8_judge 80 [(.aload_n 1, 1, 1, 0, .null), (.getfield 48, 3, 1, 0, .null), (.iload_n 2, 1, 2, 0, .null)] 85 (.baload) 1 = true := by decide +kernel
theorem b_X8_judge_86_86 : bl2 mX8_judge 86 [] 86 (.ifCond .eq 22) 3 = true := by decide +kernel
theorem b_X8_judge_108_114 : bl2 mX8_judge 108 [(.aload_n 0, 1, 0, 0, .null), (.aload_n 1, 1, 1, 0, .null), (.getfield 51, 3, 1, 1, .null), (.iload_n 2, 1, 2, 0, .null)] 114 (.iaload) 1 = true := by decide +kernel
theorem b_X8_judge_115_120 : bl2 mX8_judge 115 [(.aload_n 1, 1, 1, 0, .null), (.getfield 54, 3, 1, 2, .null), (.iload_n 2, 1, 2, 0, .null)] 120 (.iaload) 1 = true := by decide +kernel
theorem b_X8_judge_121_121 : bl2 mX8_judge 121 [] 121 (.invokevirtual 61) 3 = true := by decide +kernel
theorem b_X8_judge_124_126 : bl2 mX8_judge 124 [(.istore_n 3, 1, 3, 0, .null), (.iload_n 3, 1, 3, 0, .null)] 126 (.ifCond .ne 8) 3 = true := by decide +kernel
theorem b_X8_judge_129_131 : bl2 mX8_judge 129 [(.aload_n 0, 1, 0, 0, .null), (.iload_n 2, 1, 2, 0, .null)] 131 (.putfield 19) 3 = true := by decide +kernel
theorem b_X8_judge_134_64 : bl2 mX8_judge 134 [(.iinc 2 1, 3, 2, 0, .int 1), (.goto (-73), 3, 64, 0, .null)] 64 (.iload_n 2) 1 = true := by decide +kernel
theorem b_X8_judge_89_95 : bl2 mX8_judge 89 [(.aload_n 0, 1, 0, 0, .null), (.aload_n 1, 1, 1, 0, .null), (.getfield 51, 3, 1, 1, .null), (.iload_n 2, 1, 2, 0, .null)] 95 (.iaload) 1 = true := by decide +kernel
theorem b_X8_judge_96_101 : bl2 mX8_judge 96 [(.aload_n 1, 1, 1, 0, .null), (.getfield 54, 3, 1, 2, .null), (.iload_n 2, 1, 2, 0, .null)] 101 (.iaload) 1 = true := by decide +kernel
theorem b_X8_judge_102_102 : bl2 mX8_judge 102 [] 102 (.invokevirtual 57) 3 = true := by decide +kernel
theorem b_X8_judge_105_126 : bl2 mX8_judge 105 [(.goto 19, 3, 124, 0, .null), (.istore_n 3, 1, 3, 0, .null), (.iload_n 3, 1, 3, 0, .null)] 126 (.ifCond .ne 8) 3 = true := by decide +kernel
set_option maxRecDepth 20000 in
set_option maxHeartbeats 2000000 in
theorem lp_jg (E : EE) (L : Nat) (n s : Nat) (hn10 : n ≤ 10) : ∀ (k : Nat) (q : Nat) (F : FF), q + k = s → CST F → F 10 5 = nI n → FairOK F n s → R2 E L mX8_judge 6 64 [some (.ref 22), some (.ref 18), some (.int (nI q)), none] [] F (fun r' F' => r' = none ∧ F' = jgL n k q F) := by
  intro k
  induction k with
  | zero =>
    intro q F hi hc h5 hf
    have hs20 := hf.2.1
    refine R2.B (ls2 := [some (.ref 22), some (.ref 18), some (.int (nI q)), none]) (st2 := [.int (F 18 3), .int (nI q)]) b_X8_judge_64_69 rfl (fun hd => ?_)
    rw [show (F 18 3 : Int32) = nI s from hf.1]
    refine R2.icmp_ge 140 hd (by decide) (fun c69 => ?_) (fun c69 => absurd (nI_le (by omega) (by omega)) c69)
    refine R2.B (ls2 := [some (.ref 22), some (.ref 18), some (.int (nI q)), none]) (st2 := []) b_X8_judge_140_140 rfl (fun hd => ?_)
    exact R2.ret3 (r := none) hd trivial rfl rfl rfl
  | succ k ih =>
    intro q F hi hc h5 hf
    have hs20 := hf.2.1
    obtain ⟨a, b, ha, e1, e2, hk⟩ := hf.2.2 q (by omega)
    rcases hk with ⟨hz, hb⟩ | ⟨hz, hb⟩
    · refine R2.B (ls2 := [some (.ref 22), some (.ref 18), some (.int (nI q)), none]) (st2 := [.int (F 18 3), .int (nI q)]) b_X8_judge_64_69 rfl (fun hd => ?_)
      rw [show (F 18 3 : Int32) = nI s from hf.1]
      refine R2.icmp_ge 140 hd (by decide) (fun c69 => absurd c69 (nI_ge (by omega) (by omega))) (fun c69 => ?_)
      refine R2.B (ls2 := [some (.ref 22), some (.ref 18), some (.int (nI q)), none]) (st2 := [.int (-1), .int (F 22 3)]) b_X8_judge_72_77 rfl (fun hd => ?_)
      refine R2.icmp_ne 140 hd (by decide) (fun c77 => ?_) (fun c77 => ?_)
      · refine R2.B (ls2 := [some (.ref 22), some (.ref 18), some (.int (nI q)), none]) (st2 := []) b_X8_judge_140_140 rfl (fun hd => ?_)
        exact R2.ret3 (r := none) hd trivial rfl rfl (by simp only [jgL]; rw [if_neg c77])
      · refine R2.B (ls2 := [some (.ref 22), some (.ref 18), some (.int (nI q)), none]) (st2 := [.int (nI q), .ref 19]) b_X8_judge_80_85 rfl (fun hd => ?_)
        refine R2.zald q rfl hd rfl (fun _ => rfl) (by decide) (by omega) ?_
        refine R2.B (ls2 := [some (.ref 22), some (.ref 18), some (.int (nI q)), none]) (st2 := [.int (F 19 q)]) b_X8_judge_86_86 rfl (fun hd => ?_)
        refine R2.if_eq 108 hd (by decide) (fun c86 => ?_) (fun c86 => absurd (hz) c86)
        refine R2.B (ls2 := [some (.ref 22), some (.ref 18), some (.int (nI q)), none]) (st2 := [.int (nI q), .ref 20, .ref 22]) b_X8_judge_108_114 rfl (fun hd => ?_)
        refine R2.iald q rfl hd rfl (fun _ => rfl) (by decide) (by omega) ?_
        refine R2.top (show (F 20 q : Int32) = nI a from e1) ?_
        refine R2.B (ls2 := [some (.ref 22), some (.ref 18), some (.int (nI q)), none]) (st2 := [.int (nI q), .ref 21, .int (nI a), .ref 22]) b_X8_judge_115_120 rfl (fun hd => ?_)
        refine R2.iald q rfl hd rfl (fun _ => rfl) (by decide) (by omega) ?_
        refine R2.top (show (F 21 q : Int32) = nI b from e2) ?_
        refine R2.B (ls2 := [some (.ref 22), some (.ref 18), some (.int (nI q)), none]) (st2 := [.int (nI b), .int (nI a), .ref 22]) b_X8_judge_121_121 rfl (fun hd => ?_)
        by_cases hm : movT F n a b = -1
        · refine R2.callV3 (M2 := mX8_moves) (As := [.int (nI a), .int (nI b)]) (rest := []) hd lk_8_61 okX8_moves (by decide) rfl (ev_moves0 E L F hc n h5 hn10 a b (by omega) hb hm) (by decide) rfl rfl (Nat.le_of_ble_eq_true rfl) ?_
          refine R2.B (ls2 := [some (.ref 22), some (.ref 18), some (.int (nI q)), some (.int 0)]) (st2 := [.int 0]) b_X8_judge_124_126 rfl (fun hd => ?_)
          refine R2.if_ne 134 hd (by decide) (fun c126 => absurd (by decide) c126) (fun c126 => ?_)
          refine R2.B (ls2 := [some (.ref 22), some (.ref 18), some (.int (nI q)), some (.int 0)]) (st2 := [.int (nI q), .ref 22]) b_X8_judge_129_131 rfl (fun hd => ?_)
          refine R2.putf (a := 8) (b := 3) hd (by decide) (by decide) rfl rfl (fun _ => rfl) ?_
          refine R2.B (ls2 := [some (.ref 22), some (.ref 18), some (.int ((nI q) + 1)), some (.int 0)]) (st2 := []) b_X8_judge_134_64 rfl (fun hd => ?_)
          rw [show ((nI q) + 1 : Int32) = nI (q + 1) from nI_add q 1]
          have e : jgL n (k + 1) q F = jgL n k (q + 1) (up2 F 22 3 (nI q)) := by
            simp only [jgL]; rw [if_pos c77, e1, e2, nI_clamp (by omega), nI_clamp (by omega)]; unfold jgS; rw [if_pos hz]; first | rw [if_pos hm] | rw [if_neg hm]
          rw [e]
          refine R2.forget (ls2 := [some (.ref 22), some (.ref 18), some (.int (nI (q + 1))), none]) ⟨rfl, ⟨rfl, ⟨rfl, trivial⟩⟩⟩ ?_
          exact ih (q + 1) _ (by omega) hc h5 hf
        · refine R2.callV3 (M2 := mX8_moves) (As := [.int (nI a), .int (nI b)]) (rest := []) hd lk_8_61 okX8_moves (by decide) rfl (ev_moves1 E L F hc n h5 hn10 a b (by omega) hb hm) (by decide) rfl rfl (Nat.le_of_ble_eq_true rfl) ?_
          refine R2.B (ls2 := [some (.ref 22), some (.ref 18), some (.int (nI q)), some (.int 1)]) (st2 := [.int 1]) b_X8_judge_124_126 rfl (fun hd => ?_)
          refine R2.if_ne 134 hd (by decide) (fun c126 => ?_) (fun c126 => absurd c126 (by decide))
          refine R2.B (ls2 := [some (.ref 22), some (.ref 18), some (.int ((nI q) + 1)), some (.int 1)]) (st2 := []) b_X8_judge_134_64 rfl (fun hd => ?_)
          rw [show ((nI q) + 1 : Int32) = nI (q + 1) from nI_add q 1]
          have e : jgL n (k + 1) q F = jgL n k (q + 1) (up2 F 23 a (movT F n a b)) := by
            simp only [jgL]; rw [if_pos c77, e1, e2, nI_clamp (by omega), nI_clamp (by omega)]; unfold jgS; rw [if_pos hz]; first | rw [if_pos hm] | rw [if_neg hm]
          rw [e]
          refine R2.forget (ls2 := [some (.ref 22), some (.ref 18), some (.int (nI (q + 1))), none]) ⟨rfl, ⟨rfl, ⟨rfl, trivial⟩⟩⟩ ?_
          exact ih (q + 1) _ (by omega) hc h5 hf
    · refine R2.B (ls2 := [some (.ref 22), some (.ref 18), some (.int (nI q)), none]) (st2 := [.int (F 18 3), .int (nI q)]) b_X8_judge_64_69 rfl (fun hd => ?_)
      rw [show (F 18 3 : Int32) = nI s from hf.1]
      refine R2.icmp_ge 140 hd (by decide) (fun c69 => absurd c69 (nI_ge (by omega) (by omega))) (fun c69 => ?_)
      refine R2.B (ls2 := [some (.ref 22), some (.ref 18), some (.int (nI q)), none]) (st2 := [.int (-1), .int (F 22 3)]) b_X8_judge_72_77 rfl (fun hd => ?_)
      refine R2.icmp_ne 140 hd (by decide) (fun c77 => ?_) (fun c77 => ?_)
      · refine R2.B (ls2 := [some (.ref 22), some (.ref 18), some (.int (nI q)), none]) (st2 := []) b_X8_judge_140_140 rfl (fun hd => ?_)
        exact R2.ret3 (r := none) hd trivial rfl rfl (by simp only [jgL]; rw [if_neg c77])
      · refine R2.B (ls2 := [some (.ref 22), some (.ref 18), some (.int (nI q)), none]) (st2 := [.int (nI q), .ref 19]) b_X8_judge_80_85 rfl (fun hd => ?_)
        refine R2.zald q rfl hd rfl (fun _ => rfl) (by decide) (by omega) ?_
        refine R2.B (ls2 := [some (.ref 22), some (.ref 18), some (.int (nI q)), none]) (st2 := [.int (F 19 q)]) b_X8_judge_86_86 rfl (fun hd => ?_)
        refine R2.if_eq 108 hd (by decide) (fun c86 => absurd c86 (by rw [hz]; decide)) (fun c86 => ?_)
        refine R2.B (ls2 := [some (.ref 22), some (.ref 18), some (.int (nI q)), none]) (st2 := [.int (nI q), .ref 20, .ref 22]) b_X8_judge_89_95 rfl (fun hd => ?_)
        refine R2.iald q rfl hd rfl (fun _ => rfl) (by decide) (by omega) ?_
        refine R2.top (show (F 20 q : Int32) = nI a from e1) ?_
        refine R2.B (ls2 := [some (.ref 22), some (.ref 18), some (.int (nI q)), none]) (st2 := [.int (nI q), .ref 21, .int (nI a), .ref 22]) b_X8_judge_96_101 rfl (fun hd => ?_)
        refine R2.iald q rfl hd rfl (fun _ => rfl) (by decide) (by omega) ?_
        refine R2.top (show (F 21 q : Int32) = nI b from e2) ?_
        refine R2.B (ls2 := [some (.ref 22), some (.ref 18), some (.int (nI q)), none]) (st2 := [.int (nI b), .int (nI a), .ref 22]) b_X8_judge_102_102 rfl (fun hd => ?_)
        by_cases hm : strC F n a b
        · refine R2.callV3 (M2 := mX8_strikes) (As := [.int (nI a), .int (nI b)]) (rest := []) hd lk_8_57 okX8_strikes (by decide) rfl (ev_strikes1 E L F n h5 hn10 a b (by omega) (by omega) hm) (by decide) rfl rfl (Nat.le_of_ble_eq_true rfl) ?_
          refine R2.B (ls2 := [some (.ref 22), some (.ref 18), some (.int (nI q)), some (.int 1)]) (st2 := [.int 1]) b_X8_judge_105_126 rfl (fun hd => ?_)
          refine R2.if_ne 134 hd (by decide) (fun c126 => ?_) (fun c126 => absurd c126 (by decide))
          refine R2.B (ls2 := [some (.ref 22), some (.ref 18), some (.int ((nI q) + 1)), some (.int 1)]) (st2 := []) b_X8_judge_134_64 rfl (fun hd => ?_)
          rw [show ((nI q) + 1 : Int32) = nI (q + 1) from nI_add q 1]
          have e : jgL n (k + 1) q F = jgL n k (q + 1) (strF F a b) := by
            simp only [jgL]; rw [if_pos c77, e1, e2, nI_clamp (by omega), nI_clamp (by omega)]; unfold jgS; rw [if_neg (show ¬ F 19 q = 0 by rw [hz]; decide)]; first | rw [if_pos hm] | rw [if_neg hm]
          rw [e]
          refine R2.forget (ls2 := [some (.ref 22), some (.ref 18), some (.int (nI (q + 1))), none]) ⟨rfl, ⟨rfl, ⟨rfl, trivial⟩⟩⟩ ?_
          exact ih (q + 1) _ (by omega) hc h5 hf
        · refine R2.callV3 (M2 := mX8_strikes) (As := [.int (nI a), .int (nI b)]) (rest := []) hd lk_8_57 okX8_strikes (by decide) rfl (ev_strikes0 E L F n h5 hn10 a b (by omega) (by omega) hm) (by decide) rfl rfl (Nat.le_of_ble_eq_true rfl) ?_
          refine R2.B (ls2 := [some (.ref 22), some (.ref 18), some (.int (nI q)), some (.int 0)]) (st2 := [.int 0]) b_X8_judge_105_126 rfl (fun hd => ?_)
          refine R2.if_ne 134 hd (by decide) (fun c126 => absurd (by decide) c126) (fun c126 => ?_)
          refine R2.B (ls2 := [some (.ref 22), some (.ref 18), some (.int (nI q)), some (.int 0)]) (st2 := [.int (nI q), .ref 22]) b_X8_judge_129_131 rfl (fun hd => ?_)
          refine R2.putf (a := 8) (b := 3) hd (by decide) (by decide) rfl rfl (fun _ => rfl) ?_
          refine R2.B (ls2 := [some (.ref 22), some (.ref 18), some (.int ((nI q) + 1)), some (.int 0)]) (st2 := []) b_X8_judge_134_64 rfl (fun hd => ?_)
          rw [show ((nI q) + 1 : Int32) = nI (q + 1) from nI_add q 1]
          have e : jgL n (k + 1) q F = jgL n k (q + 1) (up2 F 22 3 (nI q)) := by
            simp only [jgL]; rw [if_pos c77, e1, e2, nI_clamp (by omega), nI_clamp (by omega)]; unfold jgS; rw [if_neg (show ¬ F 19 q = 0 by rw [hz]; decide)]; first | rw [if_pos hm] | rw [if_neg hm]
          rw [e]
          refine R2.forget (ls2 := [some (.ref 22), some (.ref 18), some (.int (nI (q + 1))), none]) ⟨rfl, ⟨rfl, ⟨rfl, trivial⟩⟩⟩ ?_
          exact ih (q + 1) _ (by omega) hc h5 hf
theorem jcL_row : ∀ (k p : Nat) (F : FF) (a : Nat), a ≠ 23 → a ≠ 24 → jcL k p F a = F a
  | 0, _, _, _, _, _ => rfl
  | k + 1, p, F, a, h1, h2 => by
    rw [jcL, jcL_row k (p + 1) _ a h1 h2]
    funext j
    simp [up2, h1, h2]
theorem CST.of {F F' : FF} (h : CST F) (e1 : F' 1 = F 1) (e2 : F' 2 = F 2) (e3 : F' 3 = F 3) (e4 : F' 4 = F 4) : CST F' := by unfold CST; rw [e1, e2, e3, e4]; exact h
theorem FairOK.of {F F' : FF} {n s : Nat} (h : FairOK F n s) (e1 : F' 18 = F 18) (e2 : F' 19 = F 19) (e3 : F' 20 = F 20) (e4 : F' 21 = F 21) : FairOK F' n s := by unfold FairOK; rw [e1, e2, e3, e4]; exact h
theorem b_X8_judge_0_2 : bl2 mX8_judge 0 [(.iconst 0, 1, 0, 0, .int 0), (.istore_n 2, 1, 2, 0, .null)] 2 (.iload_n 2) 1 = true := by decide +kernel
theorem b_X8_judge_47_49 : bl2 mX8_judge 47 [(.aload_n 0, 1, 0, 0, .null), (.iconst 0, 1, 0, 0, .int 0)] 49 (.putfield 23) 3 = true := by decide +kernel
theorem b_X8_judge_52_54 : bl2 mX8_judge 52 [(.aload_n 0, 1, 0, 0, .null), (.iconst 0, 1, 0, 0, .int 0)] 54 (.putfield 26) 3 = true := by decide +kernel
theorem b_X8_judge_57_59 : bl2 mX8_judge 57 [(.aload_n 0, 1, 0, 0, .null), (.iconst (-1), 1, 0, 0, .int (-1))] 59 (.putfield 19) 3 = true := by decide +kernel
theorem b_X8_judge_62_64 : bl2 mX8_judge 62 [(.iconst 0, 1, 0, 0, .int 0), (.istore_n 2, 1, 2, 0, .null)] 64 (.iload_n 2) 1 = true := by decide +kernel
set_option maxRecDepth 20000 in
set_option maxHeartbeats 1000000 in
theorem ev_judge (E : EE) (L : Nat) (F : FF) (hc : CST F) (n : Nat) (hn : F 10 5 = nI n) (hn10 : n ≤ 10) (s : Nat) (hf : FairOK F n s) : Ev3 E L 6 mX8_judge [.ref 22, .ref 18] F none (jgF F n s) := by
  refine Ev3.of okX8_judge.2.2.1 (Nat.le_of_ble_eq_true rfl) ?_
  show R2 E L mX8_judge 6 0 [some (.ref 22), some (.ref 18), none, none] [] F _
  refine R2.B (ls2 := [some (.ref 22), some (.ref 18), some (.int 0), none]) (st2 := []) b_X8_judge_0_2 rfl (fun hd => ?_)
  refine lp_jc E L n hn10 _ n 0 F (by omega) hn ?_
  refine R2.B (ls2 := [some (.ref 22), some (.ref 18), none, none]) (st2 := [.int 0, .ref 22]) b_X8_judge_47_49 rfl (fun hd => ?_)
  refine R2.putf (a := 8) (b := 4) hd (by decide) (by decide) rfl rfl (fun _ => rfl) ?_
  refine R2.B (ls2 := [some (.ref 22), some (.ref 18), none, none]) (st2 := [.int 0, .ref 22]) b_X8_judge_52_54 rfl (fun hd => ?_)
  refine R2.putf (a := 8) (b := 5) hd (by decide) (by decide) rfl rfl (fun _ => rfl) ?_
  refine R2.B (ls2 := [some (.ref 22), some (.ref 18), none, none]) (st2 := [.int (-1), .ref 22]) b_X8_judge_57_59 rfl (fun hd => ?_)
  refine R2.putf (a := 8) (b := 3) hd (by decide) (by decide) rfl rfl (fun _ => rfl) ?_
  refine R2.B (ls2 := [some (.ref 22), some (.ref 18), some (.int 0), none]) (st2 := []) b_X8_judge_62_64 rfl (fun hd => ?_)
  have hr := jcL_row n 0 F
  exact lp_jg E L n s hn10 s 0 _ (by omega) (hc.of (hr 1 (by decide) (by decide)) (hr 2 (by decide) (by decide)) (hr 3 (by decide) (by decide)) (hr 4 (by decide) (by decide))) ((congrFun (hr 10 (by decide) (by decide)) 5).trans hn) (hf.of (hr 18 (by decide) (by decide)) (hr 19 (by decide) (by decide)) (hr 20 (by decide) (by decide)) (hr 21 (by decide) (by decide)))
end
section
/-! Stall. Printed by wip/whole/gen/spec7.py. -/
def askF (F : FF) (tr : Int32) (t : Nat) (pr : Int32) : FF :=
  if tr = 1 then up2 F 37 t (if F 37 t < pr then pr else F 37 t)
  else if tr = 0 ∧ (F 38 t = -1 ∨ pr < F 38 t) then up2 F 38 t pr else F
def up1 (D : Nat → Int32) (t : Nat) (v : Int32) : Nat → Int32 := fun j => if j = t then v else D j
def askD (D : Nat → Int32) (tr : Int32) (t : Nat) (pr : Int32) : Nat → Int32 := if tr = 1 then up1 D t (if D t < pr then pr else D t) else D
def askC (C : Nat → Int32) (tr : Int32) (t : Nat) (pr : Int32) : Nat → Int32 := if tr = 0 ∧ (C t = -1 ∨ pr < C t) then up1 C t pr else C
theorem askF_row {F : FF} {tr pr : Int32} {t a : Nat} (h1 : a ≠ 37) (h2 : a ≠ 38) : askF F tr t pr a = F a := by
  unfold askF; split <;> (try split) <;> first | rfl | (funext j; simp [up2, h1, h2])
theorem askF_37 {F : FF} {tr pr : Int32} {t : Nat} : askF F tr t pr 37 = askD (F 37) tr t pr := by
  unfold askF askD; split
  · rfl
  · split <;> rfl
theorem askF_38 {F : FF} {tr pr : Int32} {t : Nat} : askF F tr t pr 38 = askC (F 38) tr t pr := by
  unfold askF askC
  by_cases h : tr = 1
  · have h2 : ¬ (tr = 0 ∧ (F 38 t = -1 ∨ pr < F 38 t)) := by rw [h]; exact fun z => absurd z.1 (by decide)
    rw [if_pos h, if_neg h2]; rfl
  · rw [if_neg h]; split <;> rfl
def gMG (D C : Nat → Int32) (t : Nat) : Int32 := if ¬ C t = -1 ∧ C t < D t then D t - C t else 0
def mrg (D C : Nat → Int32) : Int32 := sumI (gMG D C) 4 0 0
def pfL (K T P X al : Nat → Int32) (due clr sp : Int32) : Nat → Nat → (Nat → Int32) → (Nat → Int32) → Int32
  | 0, _, D, C => mrg D C
  | k + 1, p, D, C => if awy sp (X p) < clr then 0
    else if awy sp (X p) = due ∧ ¬ al p = 0 then pfL K T P X al due clr sp k (p + 1) (askD D (K p) (T p).toNatClampNeg (P p)) (askC C (K p) (T p).toNatClampNeg (P p))
    else pfL K T P X al due clr sp k (p + 1) D C
def cPf (F : FF) (n : Nat) (al : Nat → Int32) (sp : Int32) : Int32 := pfL (F 11) (F 12) (F 13) (F 15) al (F 17 0 * F 17 0) (F 17 1 * F 17 1) sp n 0 (fun _ => -1) (fun _ => -1)
theorem askD_c {D D' : Nat → Int32} {tr pr : Int32} {t : Nat} (h : ∀ j, j < 4 → D j = D' j) : ∀ j, j < 4 → askD D tr t pr j = askD D' tr t pr j := by
  intro j hj
  unfold askD
  by_cases ht : tr = 1
  · rw [if_pos ht, if_pos ht]
    unfold up1
    by_cases hjt : j = t
    · subst hjt; simp [h j hj]
    · simp [hjt, h j hj]
  · rw [if_neg ht, if_neg ht]; exact h j hj
theorem askC_c {D D' : Nat → Int32} {tr pr : Int32} {t : Nat} (h : ∀ j, j < 4 → D j = D' j) : ∀ j, j < 4 → askC D tr t pr j = askC D' tr t pr j := by
  intro j hj
  unfold askC
  by_cases ht4 : t < 4
  · rw [h t ht4]
    split
    · unfold up1; by_cases hjt : j = t
      · simp [hjt]
      · simp [hjt, h j hj]
    · exact h j hj
  · have hne : j ≠ t := by omega
    split <;> split <;> simp [up1, hne, h j hj]
theorem pfL_c {K T P X al : Nat → Int32} {due clr sp : Int32} : ∀ (k p : Nat) (D D' C C' : Nat → Int32), (∀ j, j < 4 → D j = D' j) → (∀ j, j < 4 → C j = C' j) → pfL K T P X al due clr sp k p D C = pfL K T P X al due clr sp k p D' C'
  | 0, p, D, D', C, C', h1, h2 => by
    simp only [pfL, mrg, sumI, gMG]
    rw [h1 0 (by decide), h1 1 (by decide), h1 2 (by decide), h1 3 (by decide), h2 0 (by decide), h2 1 (by decide), h2 2 (by decide), h2 3 (by decide)]
  | k + 1, p, D, D', C, C', h1, h2 => by
    simp only [pfL]
    rw [pfL_c k (p + 1) _ _ _ _ (askD_c h1) (askC_c h2), pfL_c k (p + 1) D D' C C' h1 h2]
def ThOK (F : FF) (n : Nat) : Prop := ∀ p, p < n → ∃ t : Nat, t < 4 ∧ F 12 p = nI t
def alL (n : Nat) : Nat → Nat → FF → FF
  | 0, _, F => F
  | k + 1, p, F => alL n k (p + 1) (up2 F 36 p (if fnr (F 15) p p (-1) (F 17 1 * F 17 1) n 0 = -1 then 1 else 0))
def brL (g : Nat → Int32) : Nat → Nat → Int32 → Int32 → Int32 × Int32
  | 0, _, best, most => (best, most)
  | k + 1, w, best, most => if most < g w then brL g k (w + 1) (nI w) (g w) else brL g k (w + 1) best most
theorem b_X6_ask_0_2 : bl2 mX6_ask 0 [(.iload_n 1, 1, 1, 0, .null), (.iconst 1, 1, 0, 0, .int 1)] 2 (.if_icmp .ne 19) 3 = true := by decide +kernel
theorem b_X6_ask_21_22 : bl2 mX6_ask 21 [(.iload_n 1, 1, 1, 0, .null)] 22 (.ifCond .ne 30) 3 = true := by decide +kernel
theorem b_X6_ask_52_52 : bl2 mX6_ask 52 [] 52 (.return_) 1 = true := by decide +kernel
theorem b_X6_ask_25_30 : bl2 mX6_ask 25 [(.aload_n 0, 1, 0, 0, .null), (.getfield 19, 3, 6, 3, .null), (.iload_n 2, 1, 2, 0, .null)] 30 (.iaload) 1 = true := by decide +kernel
theorem b_X6_ask_31_32 : bl2 mX6_ask 31 [(.iconst (-1), 1, 0, 0, .int (-1))] 32 (.if_icmp .eq 13) 3 = true := by decide +kernel
theorem b_X6_ask_45_51 : bl2 mX6_ask 45 [(.aload_n 0, 1, 0, 0, .null), (.getfield 19, 3, 6, 3, .null), (.iload_n 2, 1, 2, 0, .null), (.iload_n 3, 1, 3, 0, .null)] 51 (.iastore) 1 = true := by decide +kernel
theorem b_X6_ask_35_41 : bl2 mX6_ask 35 [(.iload_n 3, 1, 3, 0, .null), (.aload_n 0, 1, 0, 0, .null), (.getfield 19, 3, 6, 3, .null), (.iload_n 2, 1, 2, 0, .null)] 41 (.iaload) 1 = true := by decide +kernel
theorem b_X6_ask_42_42 : bl2 mX6_ask 42 [] 42 (.if_icmp .ge 10) 3 = true := by decide +kernel
theorem b_X6_ask_5_15 : bl2 mX6_ask 5 [(.aload_n 0, 1, 0, 0, .null), (.getfield 15, 3, 6, 2, .null), (.iload_n 2, 1, 2, 0, .null), (.aload_n 0, 1, 0, 0, .null), (.getfield 15, 3, 6, 2, .null), (.iload_n 2, 1, 2, 0, .null)] 15 (.iaload) 1 = true := by decide +kernel
theorem b_X6_ask_16_17 : bl2 mX6_ask 16 [(.iload_n 3, 1, 3, 0, .null)] 17 (.invokestatic 85) 3 = true := by decide +kernel
theorem b_X6_ask_20_20 : bl2 mX6_ask 20 [] 20 (.iastore) 1 = true := by decide +kernel
set_option maxRecDepth 20000 in
set_option maxHeartbeats 1000000 in
theorem ev_ask (E : EE) (L : Nat) (F : FF) (tr pr : Int32) (t : Nat) (ht : t < 4) : Ev3 E L 2 mX6_ask [.ref 35, .int tr, .int (nI t), .int pr] F none (askF F tr t pr) := by
  refine Ev3.of okX6_ask.2.2.1 (Nat.le_of_ble_eq_true rfl) ?_
  show R2 E L mX6_ask 2 0 [some (.ref 35), some (.int tr), some (.int (nI t)), some (.int pr)] [] F _
  refine R2.B (ls2 := [some (.ref 35), some (.int tr), some (.int (nI t)), some (.int pr)]) (st2 := [.int 1, .int tr]) b_X6_ask_0_2 rfl (fun hd => ?_)
  refine R2.icmp_ne 21 hd (by decide) (fun c2 => ?_) (fun c2 => ?_)
  · refine R2.B (ls2 := [some (.ref 35), some (.int tr), some (.int (nI t)), some (.int pr)]) (st2 := [.int tr]) b_X6_ask_21_22 rfl (fun hd => ?_)
    refine R2.if_ne 52 hd (by decide) (fun c22 => ?_) (fun c22 => ?_)
    · refine R2.B (ls2 := [some (.ref 35), some (.int tr), some (.int (nI t)), some (.int pr)]) (st2 := []) b_X6_ask_52_52 rfl (fun hd => ?_)
      exact R2.ret3 (r := none) hd trivial rfl rfl (by clear hd; unfold askF; grind)
    · refine R2.B (ls2 := [some (.ref 35), some (.int tr), some (.int (nI t)), some (.int pr)]) (st2 := [.int (nI t), .ref 38]) b_X6_ask_25_30 rfl (fun hd => ?_)
      refine R2.iald t rfl hd rfl (fun _ => rfl) (by decide) (by omega) ?_
      refine R2.B (ls2 := [some (.ref 35), some (.int tr), some (.int (nI t)), some (.int pr)]) (st2 := [.int (-1), .int (F 38 t)]) b_X6_ask_31_32 rfl (fun hd => ?_)
      refine R2.icmp_eq 45 hd (by decide) (fun c32 => ?_) (fun c32 => ?_)
      · refine R2.B (ls2 := [some (.ref 35), some (.int tr), some (.int (nI t)), some (.int pr)]) (st2 := [.int pr, .int (nI t), .ref 38]) b_X6_ask_45_51 rfl (fun hd => ?_)
        refine R2.iast t rfl hd (by decide) rfl (fun _ => rfl) (by decide) (by omega) ?_
        refine R2.B (ls2 := [some (.ref 35), some (.int tr), some (.int (nI t)), some (.int pr)]) (st2 := []) b_X6_ask_52_52 rfl (fun hd => ?_)
        exact R2.ret3 (r := none) hd trivial rfl rfl (by clear hd; unfold askF; grind)
      · refine R2.B (ls2 := [some (.ref 35), some (.int tr), some (.int (nI t)), some (.int pr)]) (st2 := [.int (nI t), .ref 38, .int pr]) b_X6_ask_35_41 rfl (fun hd => ?_)
        refine R2.iald t rfl hd rfl (fun _ => rfl) (by decide) (by omega) ?_
        refine R2.B (ls2 := [some (.ref 35), some (.int tr), some (.int (nI t)), some (.int pr)]) (st2 := [.int (F 38 t), .int pr]) b_X6_ask_42_42 rfl (fun hd => ?_)
        refine R2.icmp_ge 52 hd (by decide) (fun c42 => ?_) (fun c42 => ?_)
        · refine R2.B (ls2 := [some (.ref 35), some (.int tr), some (.int (nI t)), some (.int pr)]) (st2 := []) b_X6_ask_52_52 rfl (fun hd => ?_)
          exact R2.ret3 (r := none) hd trivial rfl rfl (by clear hd; unfold askF; grind)
        · refine R2.B (ls2 := [some (.ref 35), some (.int tr), some (.int (nI t)), some (.int pr)]) (st2 := [.int pr, .int (nI t), .ref 38]) b_X6_ask_45_51 rfl (fun hd => ?_)
          refine R2.iast t rfl hd (by decide) rfl (fun _ => rfl) (by decide) (by omega) ?_
          refine R2.B (ls2 := [some (.ref 35), some (.int tr), some (.int (nI t)), some (.int pr)]) (st2 := []) b_X6_ask_52_52 rfl (fun hd => ?_)
          exact R2.ret3 (r := none) hd trivial rfl rfl (by clear hd; unfold askF; grind)
  · refine R2.B (ls2 := [some (.ref 35), some (.int tr), some (.int (nI t)), some (.int pr)]) (st2 := [.int (nI t), .ref 37, .int (nI t), .ref 37]) b_X6_ask_5_15 rfl (fun hd => ?_)
    refine R2.iald t rfl hd rfl (fun _ => rfl) (by decide) (by omega) ?_
    refine R2.B (ls2 := [some (.ref 35), some (.int tr), some (.int (nI t)), some (.int pr)]) (st2 := [.int pr, .int (F 37 t), .int (nI t), .ref 37]) b_X6_ask_16_17 rfl (fun hd => ?_)
    refine R2.mmax hd ma_6_85 (by decide) (Nat.le_of_ble_eq_true rfl) ?_
    refine R2.B (ls2 := [some (.ref 35), some (.int tr), some (.int (nI t)), some (.int pr)]) (st2 := [.int (if F 37 t < pr then pr else F 37 t), .int (nI t), .ref 37]) b_X6_ask_20_20 rfl (fun hd => ?_)
    refine R2.iast t rfl hd (by decide) rfl (fun _ => rfl) (by decide) (by omega) ?_
    refine R2.B (ls2 := [some (.ref 35), some (.int tr), some (.int (nI t)), some (.int pr)]) (st2 := [.int tr]) b_X6_ask_21_22 rfl (fun hd => ?_)
    refine R2.if_ne 52 hd (by decide) (fun c22 => ?_) (fun c22 => ?_)
    · refine R2.B (ls2 := [some (.ref 35), some (.int tr), some (.int (nI t)), some (.int pr)]) (st2 := []) b_X6_ask_52_52 rfl (fun hd => ?_)
      exact R2.ret3 (r := none) hd trivial rfl rfl (by clear hd; unfold askF; grind)
    · refine R2.B (ls2 := [some (.ref 35), some (.int tr), some (.int (nI t)), some (.int pr)]) (st2 := [.int (nI t), .ref 38]) b_X6_ask_25_30 rfl (fun hd => ?_)
      refine R2.iald t rfl hd rfl (fun _ => rfl) (by decide) (by omega) ?_
      refine R2.B (ls2 := [some (.ref 35), some (.int tr), some (.int (nI t)), some (.int pr)]) (st2 := [.int (-1), .int (F 38 t)]) b_X6_ask_31_32 rfl (fun hd => ?_)
      refine R2.icmp_eq 45 hd (by decide) (fun c32 => ?_) (fun c32 => ?_)
      · refine R2.B (ls2 := [some (.ref 35), some (.int tr), some (.int (nI t)), some (.int pr)]) (st2 := [.int pr, .int (nI t), .ref 38]) b_X6_ask_45_51 rfl (fun hd => ?_)
        refine R2.iast t rfl hd (by decide) rfl (fun _ => rfl) (by decide) (by omega) ?_
        refine R2.B (ls2 := [some (.ref 35), some (.int tr), some (.int (nI t)), some (.int pr)]) (st2 := []) b_X6_ask_52_52 rfl (fun hd => ?_)
        exact R2.ret3 (r := none) hd trivial rfl rfl (by clear hd; unfold askF; grind)
      · refine R2.B (ls2 := [some (.ref 35), some (.int tr), some (.int (nI t)), some (.int pr)]) (st2 := [.int (nI t), .ref 38, .int pr]) b_X6_ask_35_41 rfl (fun hd => ?_)
        refine R2.iald t rfl hd rfl (fun _ => rfl) (by decide) (by omega) ?_
        refine R2.B (ls2 := [some (.ref 35), some (.int tr), some (.int (nI t)), some (.int pr)]) (st2 := [.int (F 38 t), .int pr]) b_X6_ask_42_42 rfl (fun hd => ?_)
        refine R2.icmp_ge 52 hd (by decide) (fun c42 => ?_) (fun c42 => ?_)
        · refine R2.B (ls2 := [some (.ref 35), some (.int tr), some (.int (nI t)), some (.int pr)]) (st2 := []) b_X6_ask_52_52 rfl (fun hd => ?_)
          exact R2.ret3 (r := none) hd trivial rfl rfl (by clear hd; unfold askF; grind)
        · refine R2.B (ls2 := [some (.ref 35), some (.int tr), some (.int (nI t)), some (.int pr)]) (st2 := [.int pr, .int (nI t), .ref 38]) b_X6_ask_45_51 rfl (fun hd => ?_)
          refine R2.iast t rfl hd (by decide) rfl (fun _ => rfl) (by decide) (by omega) ?_
          refine R2.B (ls2 := [some (.ref 35), some (.int tr), some (.int (nI t)), some (.int pr)]) (st2 := []) b_X6_ask_52_52 rfl (fun hd => ?_)
          exact R2.ret3 (r := none) hd trivial rfl rfl (by clear hd; unfold askF; grind)
theorem b_X6_margins_4_6 : bl2 mX6_margins 4 [(.iload_n 2, 1, 2, 0, .null), (.iconst 4, 1, 0, 0, .int 4)] 6 (.if_icmp .ge 50) 3 = true := by decide +kernel
theorem b_X6_margins_56_57 : bl2 mX6_margins 56 [(.iload_n 1, 1, 1, 0, .null)] 57 (.ireturn) 1 = true := by decide +kernel
theorem b_X6_margins_9_14 : bl2 mX6_margins 9 [(.aload_n 0, 1, 0, 0, .null), (.getfield 19, 3, 6, 3, .null), (.iload_n 2, 1, 2, 0, .null)] 14 (.iaload) 1 = true := by decide +kernel
theorem b_X6_margins_15_16 : bl2 mX6_margins 15 [(.iconst (-1), 1, 0, 0, .int (-1))] 16 (.if_icmp .eq 34) 3 = true := by decide +kernel
theorem b_X6_margins_50_4 : bl2 mX6_margins 50 [(.iinc 2 1, 3, 2, 0, .int 1), (.goto (-49), 3, 4, 0, .null)] 4 (.iload_n 2) 1 = true := by decide +kernel
theorem b_X6_margins_19_24 : bl2 mX6_margins 19 [(.aload_n 0, 1, 0, 0, .null), (.getfield 15, 3, 6, 2, .null), (.iload_n 2, 1, 2, 0, .null)] 24 (.iaload) 1 = true := by decide +kernel
theorem b_X6_margins_25_30 : bl2 mX6_margins 25 [(.aload_n 0, 1, 0, 0, .null), (.getfield 19, 3, 6, 3, .null), (.iload_n 2, 1, 2, 0, .null)] 30 (.iaload) 1 = true := by decide +kernel
theorem b_X6_margins_31_31 : bl2 mX6_margins 31 [] 31 (.if_icmp .le 19) 3 = true := by decide +kernel
theorem b_X6_margins_34_40 : bl2 mX6_margins 34 [(.iload_n 1, 1, 1, 0, .null), (.aload_n 0, 1, 0, 0, .null), (.getfield 15, 3, 6, 2, .null), (.iload_n 2, 1, 2, 0, .null)] 40 (.iaload) 1 = true := by decide +kernel
theorem b_X6_margins_41_46 : bl2 mX6_margins 41 [(.aload_n 0, 1, 0, 0, .null), (.getfield 19, 3, 6, 3, .null), (.iload_n 2, 1, 2, 0, .null)] 46 (.iaload) 1 = true := by decide +kernel
theorem b_X6_margins_47_4 : bl2 mX6_margins 47 [(.isub, 1, 0, 0, .null), (.iadd, 1, 0, 0, .null), (.istore_n 1, 1, 1, 0, .null), (.iinc 2 1, 3, 2, 0, .int 1), (.goto (-49), 3, 4, 0, .null)] 4 (.iload_n 2) 1 = true := by decide +kernel
set_option maxRecDepth 20000 in
set_option maxHeartbeats 2000000 in
theorem lp_margins (E : EE) (L : Nat) (F : FF) : ∀ (k : Nat) (t : Nat) (acc : Int32), t + k = 4 → R2 E L mX6_margins 1 4 [some (.ref 35), some (.int acc), some (.int (nI t))] [] F (fun r' F' => r' = some (.int (sumI (gMG (F 37) (F 38)) k t acc)) ∧ F' = F) := by
  intro k
  induction k with
  | zero =>
    intro t acc hi
    refine R2.B (ls2 := [some (.ref 35), some (.int acc), some (.int (nI t))]) (st2 := [.int 4, .int (nI t)]) b_X6_margins_4_6 rfl (fun hd => ?_)
    refine R2.icmp_ge 56 hd (by decide) (fun c6 => ?_) (fun c6 => absurd (nI_le (a := 4) (by omega) (by omega)) c6)
    refine R2.B (ls2 := [some (.ref 35), some (.int acc), some (.int (nI t))]) (st2 := [.int acc]) b_X6_margins_56_57 rfl (fun hd => ?_)
    exact R2.ret3 (r := some (.int acc)) hd trivial rfl rfl rfl
  | succ k ih =>
    intro t acc hi
    refine R2.B (ls2 := [some (.ref 35), some (.int acc), some (.int (nI t))]) (st2 := [.int 4, .int (nI t)]) b_X6_margins_4_6 rfl (fun hd => ?_)
    refine R2.icmp_ge 56 hd (by decide) (fun c6 => absurd c6 (nI_ge (b := 4) (by omega) (by omega))) (fun c6 => ?_)
    refine R2.B (ls2 := [some (.ref 35), some (.int acc), some (.int (nI t))]) (st2 := [.int (nI t), .ref 38]) b_X6_margins_9_14 rfl (fun hd => ?_)
    refine R2.iald t rfl hd rfl (fun _ => rfl) (by decide) (by omega) ?_
    refine R2.B (ls2 := [some (.ref 35), some (.int acc), some (.int (nI t))]) (st2 := [.int (-1), .int (F 38 t)]) b_X6_margins_15_16 rfl (fun hd => ?_)
    refine R2.icmp_eq 50 hd (by decide) (fun c16 => ?_) (fun c16 => ?_)
    · refine R2.B (ls2 := [some (.ref 35), some (.int acc), some (.int ((nI t) + 1))]) (st2 := []) b_X6_margins_50_4 rfl (fun hd => ?_)
      rw [show ((nI t) + 1 : Int32) = nI (t + 1) from nI_add t 1]
      rw [show sumI (gMG (F 37) (F 38)) (k + 1) t acc = sumI (gMG (F 37) (F 38)) k (t + 1) acc from (by simp only [sumI, gMG]; rw [if_neg (by clear hd; grind), Int32.add_zero])]
      exact ih (t + 1) _ (by omega)
    · refine R2.B (ls2 := [some (.ref 35), some (.int acc), some (.int (nI t))]) (st2 := [.int (nI t), .ref 37]) b_X6_margins_19_24 rfl (fun hd => ?_)
      refine R2.iald t rfl hd rfl (fun _ => rfl) (by decide) (by omega) ?_
      refine R2.B (ls2 := [some (.ref 35), some (.int acc), some (.int (nI t))]) (st2 := [.int (nI t), .ref 38, .int (F 37 t)]) b_X6_margins_25_30 rfl (fun hd => ?_)
      refine R2.iald t rfl hd rfl (fun _ => rfl) (by decide) (by omega) ?_
      refine R2.B (ls2 := [some (.ref 35), some (.int acc), some (.int (nI t))]) (st2 := [.int (F 38 t), .int (F 37 t)]) b_X6_margins_31_31 rfl (fun hd => ?_)
      refine R2.icmp_le 50 hd (by decide) (fun c31 => ?_) (fun c31 => ?_)
      · refine R2.B (ls2 := [some (.ref 35), some (.int acc), some (.int ((nI t) + 1))]) (st2 := []) b_X6_margins_50_4 rfl (fun hd => ?_)
        rw [show ((nI t) + 1 : Int32) = nI (t + 1) from nI_add t 1]
        rw [show sumI (gMG (F 37) (F 38)) (k + 1) t acc = sumI (gMG (F 37) (F 38)) k (t + 1) acc from (by simp only [sumI, gMG]; rw [if_neg (by clear hd; grind), Int32.add_zero])]
        exact ih (t + 1) _ (by omega)
      · refine R2.B (ls2 := [some (.ref 35), some (.int acc), some (.int (nI t))]) (st2 := [.int (nI t), .ref 37, .int acc]) b_X6_margins_34_40 rfl (fun hd => ?_)
        refine R2.iald t rfl hd rfl (fun _ => rfl) (by decide) (by omega) ?_
        refine R2.B (ls2 := [some (.ref 35), some (.int acc), some (.int (nI t))]) (st2 := [.int (nI t), .ref 38, .int (F 37 t), .int acc]) b_X6_margins_41_46 rfl (fun hd => ?_)
        refine R2.iald t rfl hd rfl (fun _ => rfl) (by decide) (by omega) ?_
        refine R2.B (ls2 := [some (.ref 35), some (.int (acc + ((F 37 t) - (F 38 t)))), some (.int ((nI t) + 1))]) (st2 := []) b_X6_margins_47_4 rfl (fun hd => ?_)
        rw [show ((nI t) + 1 : Int32) = nI (t + 1) from nI_add t 1]
        rw [show sumI (gMG (F 37) (F 38)) (k + 1) t acc = sumI (gMG (F 37) (F 38)) k (t + 1) (acc + ((F 37 t) - (F 38 t))) from (by simp only [sumI, gMG]; rw [if_pos ⟨c16, Int32.not_le.mp c31⟩])]
        exact ih (t + 1) _ (by omega)
theorem b_X6_margins_0_4 : bl2 mX6_margins 0 [(.iconst 0, 1, 0, 0, .int 0), (.istore_n 1, 1, 1, 0, .null), (.iconst 0, 1, 0, 0, .int 0), (.istore_n 2, 1, 2, 0, .null)] 4 (.iload_n 2) 1 = true := by decide +kernel
set_option maxRecDepth 20000 in
set_option maxHeartbeats 1000000 in
theorem ev_margins (E : EE) (L : Nat) (F : FF) : Ev3 E L 1 mX6_margins [.ref 35] F (some (.int (mrg (F 37) (F 38)))) F := by
  refine Ev3.of okX6_margins.2.2.1 (Nat.le_of_ble_eq_true rfl) ?_
  show R2 E L mX6_margins 1 0 [some (.ref 35), none, none] [] F _
  refine R2.B (ls2 := [some (.ref 35), some (.int 0), some (.int 0)]) (st2 := []) b_X6_margins_0_4 rfl (fun hd => ?_)
  exact lp_margins E L F 4 0 0 (by omega)
theorem b_X6_profitOn_46_52 : bl2 mX6_profitOn 46 [(.iload 5, 2, 5, 0, .null), (.aload_n 2, 1, 2, 0, .null), (.getfield 39, 3, 0, 5, .null)] 52 (.if_icmp .ge 72) 3 = true := by decide +kernel
theorem b_X6_profitOn_124_125 : bl2 mX6_profitOn 124 [(.aload_n 0, 1, 0, 0, .null)] 125 (.invokevirtual 81) 3 = true := by decide +kernel
theorem b_X6_profitOn_128_128 : bl2 mX6_profitOn 128 [] 128 (.ireturn) 1 = true := by decide +kernel
theorem b_X6_profitOn_55_62 : bl2 mX6_profitOn 55 [(.iload_n 1, 1, 1, 0, .null), (.aload_n 2, 1, 2, 0, .null), (.getfield 44, 3, 0, 4, .null), (.iload 5, 2, 5, 0, .null)] 62 (.iaload) 1 = true := by decide +kernel
theorem b_X6_profitOn_63_63 : bl2 mX6_profitOn 63 [] 63 (.invokestatic 64) 3 = true := by decide +kernel
theorem b_X6_profitOn_66_72 : bl2 mX6_profitOn 66 [(.istore 6, 2, 6, 0, .null), (.iload 6, 2, 6, 0, .null), (.iload 4, 2, 4, 0, .null)] 72 (.if_icmp .ge 5) 3 = true := by decide +kernel
theorem b_X6_profitOn_77_80 : bl2 mX6_profitOn 77 [(.iload 6, 2, 6, 0, .null), (.iload_n 3, 1, 3, 0, .null)] 80 (.if_icmp .ne 38) 3 = true := by decide +kernel
theorem b_X6_profitOn_118_46 : bl2 mX6_profitOn 118 [(.iinc 5 1, 3, 5, 0, .int 1), (.goto (-75), 3, 46, 0, .null)] 46 (.iload 5) 2 = true := by decide +kernel
theorem b_X6_profitOn_83_89 : bl2 mX6_profitOn 83 [(.aload_n 0, 1, 0, 0, .null), (.getfield 9, 3, 6, 1, .null), (.iload 5, 2, 5, 0, .null)] 89 (.baload) 1 = true := by decide +kernel
theorem b_X6_profitOn_90_90 : bl2 mX6_profitOn 90 [] 90 (.ifCond .eq 28) 3 = true := by decide +kernel
theorem b_X6_profitOn_93_100 : bl2 mX6_profitOn 93 [(.aload_n 0, 1, 0, 0, .null), (.aload_n 2, 1, 2, 0, .null), (.getfield 68, 3, 0, 0, .null), (.iload 5, 2, 5, 0, .null)] 100 (.iaload) 1 = true := by decide +kernel
theorem b_X6_profitOn_101_107 : bl2 mX6_profitOn 101 [(.aload_n 2, 1, 2, 0, .null), (.getfield 71, 3, 0, 1, .null), (.iload 5, 2, 5, 0, .null)] 107 (.iaload) 1 = true := by decide +kernel
theorem b_X6_profitOn_108_114 : bl2 mX6_profitOn 108 [(.aload_n 2, 1, 2, 0, .null), (.getfield 74, 3, 0, 2, .null), (.iload 5, 2, 5, 0, .null)] 114 (.iaload) 1 = true := by decide +kernel
theorem b_X6_profitOn_115_115 : bl2 mX6_profitOn 115 [] 115 (.invokevirtual 77) 3 = true := by decide +kernel
theorem b_X6_profitOn_75_76 : bl2 mX6_profitOn 75 [(.iconst 0, 1, 0, 0, .int 0)] 76 (.ireturn) 1 = true := by decide +kernel
set_option maxRecDepth 20000 in
set_option maxHeartbeats 2000000 in
theorem lp_profit (E : EE) (L : Nat) (F0 : FF) (n : Nat) (hn : F0 10 5 = nI n) (hn10 : n ≤ 10) (hth : ThOK F0 n) (sp due clr : Int32) : ∀ (k : Nat) (p : Nat) (F : FF), p + k = n → (∀ a, a ≠ 37 → a ≠ 38 → F a = F0 a) → R2 E L mX6_profitOn 3 46 [some (.ref 35), some (.int sp), some (.ref 10), some (.int due), some (.int clr), some (.int (nI p)), none] [] F (fun r' F' => r' = some (.int (pfL (F0 11) (F0 12) (F0 13) (F0 15) (F0 36) due clr sp k p (F 37) (F 38))) ∧ ∀ a, a ≠ 37 → a ≠ 38 → F' a = F0 a) := by
  intro k
  induction k with
  | zero =>
    intro p F hi hs
    refine R2.B (ls2 := [some (.ref 35), some (.int sp), some (.ref 10), some (.int due), some (.int clr), some (.int (nI p)), none]) (st2 := [.int (F 10 5), .int (nI p)]) b_X6_profitOn_46_52 rfl (fun hd => ?_)
    rw [show (F 10 5 : Int32) = nI n from (by rw [hs 10 (by decide) (by decide)]; exact hn)]
    refine R2.icmp_ge 124 hd (by decide) (fun c52 => ?_) (fun c52 => absurd (nI_le (by omega) (by omega)) c52)
    refine R2.B (ls2 := [some (.ref 35), some (.int sp), some (.ref 10), some (.int due), some (.int clr), some (.int (nI p)), none]) (st2 := [.ref 35]) b_X6_profitOn_124_125 rfl (fun hd => ?_)
    refine R2.callV3 (M2 := mX6_margins) (As := []) (rest := []) hd lk_6_81 okX6_margins (by decide) rfl (ev_margins E L _) (by decide) rfl rfl (Nat.le_of_ble_eq_true rfl) ?_
    refine R2.B (ls2 := [some (.ref 35), some (.int sp), some (.ref 10), some (.int due), some (.int clr), some (.int (nI p)), none]) (st2 := [.int (mrg (F 37) (F 38))]) b_X6_profitOn_128_128 rfl (fun hd => ?_)
    exact R2.ret (r := some (.int (mrg (F 37) (F 38)))) hd trivial rfl ⟨rfl, hs⟩
  | succ k ih =>
    intro p F hi hs
    obtain ⟨t, ht, et⟩ := hth p (by omega)
    refine R2.B (ls2 := [some (.ref 35), some (.int sp), some (.ref 10), some (.int due), some (.int clr), some (.int (nI p)), none]) (st2 := [.int (F 10 5), .int (nI p)]) b_X6_profitOn_46_52 rfl (fun hd => ?_)
    rw [show (F 10 5 : Int32) = nI n from (by rw [hs 10 (by decide) (by decide)]; exact hn)]
    refine R2.icmp_ge 124 hd (by decide) (fun c52 => absurd c52 (nI_ge (by omega) (by omega))) (fun c52 => ?_)
    refine R2.B (ls2 := [some (.ref 35), some (.int sp), some (.ref 10), some (.int due), some (.int clr), some (.int (nI p)), none]) (st2 := [.int (nI p), .ref 15, .int sp]) b_X6_profitOn_55_62 rfl (fun hd => ?_)
    refine R2.iald p rfl hd rfl (fun _ => rfl) (by decide) (by omega) ?_
    refine R2.top (show (F 15 p : Int32) = F0 15 p from (by rw [hs 15 (by decide) (by decide)])) ?_
    refine R2.B (ls2 := [some (.ref 35), some (.int sp), some (.ref 10), some (.int due), some (.int clr), some (.int (nI p)), none]) (st2 := [.int (F0 15 p), .int sp]) b_X6_profitOn_63_63 rfl (fun hd => ?_)
    refine R2.callS3 (M2 := mX10_between) (As := [.int sp, .int (F0 15 p)]) (rest := []) hd lk_6_64 okX10_between (by decide) (ev_between E L F sp (F0 15 p)) (by decide) rfl rfl (Nat.le_of_ble_eq_true rfl) ?_
    refine R2.B (ls2 := [some (.ref 35), some (.int sp), some (.ref 10), some (.int due), some (.int clr), some (.int (nI p)), some (.int (awy sp (F0 15 p)))]) (st2 := [.int clr, .int (awy sp (F0 15 p))]) b_X6_profitOn_66_72 rfl (fun hd => ?_)
    refine R2.icmp_ge 77 hd (by decide) (fun c72 => ?_) (fun c72 => ?_)
    · refine R2.B (ls2 := [some (.ref 35), some (.int sp), some (.ref 10), some (.int due), some (.int clr), some (.int (nI p)), some (.int (awy sp (F0 15 p)))]) (st2 := [.int due, .int (awy sp (F0 15 p))]) b_X6_profitOn_77_80 rfl (fun hd => ?_)
      refine R2.icmp_ne 118 hd (by decide) (fun c80 => ?_) (fun c80 => ?_)
      · refine R2.B (ls2 := [some (.ref 35), some (.int sp), some (.ref 10), some (.int due), some (.int clr), some (.int ((nI p) + 1)), some (.int (awy sp (F0 15 p)))]) (st2 := []) b_X6_profitOn_118_46 rfl (fun hd => ?_)
        rw [show ((nI p) + 1 : Int32) = nI (p + 1) from nI_add p 1]
        rw [show pfL (F0 11) (F0 12) (F0 13) (F0 15) (F0 36) due clr sp (k + 1) p (F 37) (F 38) = pfL (F0 11) (F0 12) (F0 13) (F0 15) (F0 36) due clr sp k (p + 1) (F 37) (F 38) from (by simp only [pfL]; rw [if_neg (Int32.not_lt.mpr c72), if_neg (by clear hd; grind)])]
        refine R2.forget (ls2 := [some (.ref 35), some (.int sp), some (.ref 10), some (.int due), some (.int clr), some (.int (nI (p + 1))), none]) ⟨rfl, ⟨rfl, ⟨rfl, ⟨rfl, ⟨rfl, ⟨rfl, trivial⟩⟩⟩⟩⟩⟩ ?_
        exact ih (p + 1) F (by omega) hs
      · refine R2.B (ls2 := [some (.ref 35), some (.int sp), some (.ref 10), some (.int due), some (.int clr), some (.int (nI p)), some (.int (awy sp (F0 15 p)))]) (st2 := [.int (nI p), .ref 36]) b_X6_profitOn_83_89 rfl (fun hd => ?_)
        refine R2.zald p rfl hd rfl (fun _ => rfl) (by decide) (by omega) ?_
        refine R2.top (show (F 36 p : Int32) = F0 36 p from (by rw [hs 36 (by decide) (by decide)])) ?_
        refine R2.B (ls2 := [some (.ref 35), some (.int sp), some (.ref 10), some (.int due), some (.int clr), some (.int (nI p)), some (.int (awy sp (F0 15 p)))]) (st2 := [.int (F0 36 p)]) b_X6_profitOn_90_90 rfl (fun hd => ?_)
        refine R2.if_eq 118 hd (by decide) (fun c90 => ?_) (fun c90 => ?_)
        · refine R2.B (ls2 := [some (.ref 35), some (.int sp), some (.ref 10), some (.int due), some (.int clr), some (.int ((nI p) + 1)), some (.int (awy sp (F0 15 p)))]) (st2 := []) b_X6_profitOn_118_46 rfl (fun hd => ?_)
          rw [show ((nI p) + 1 : Int32) = nI (p + 1) from nI_add p 1]
          rw [show pfL (F0 11) (F0 12) (F0 13) (F0 15) (F0 36) due clr sp (k + 1) p (F 37) (F 38) = pfL (F0 11) (F0 12) (F0 13) (F0 15) (F0 36) due clr sp k (p + 1) (F 37) (F 38) from (by simp only [pfL]; rw [if_neg (Int32.not_lt.mpr c72), if_neg (by clear hd; grind)])]
          refine R2.forget (ls2 := [some (.ref 35), some (.int sp), some (.ref 10), some (.int due), some (.int clr), some (.int (nI (p + 1))), none]) ⟨rfl, ⟨rfl, ⟨rfl, ⟨rfl, ⟨rfl, ⟨rfl, trivial⟩⟩⟩⟩⟩⟩ ?_
          exact ih (p + 1) F (by omega) hs
        · refine R2.B (ls2 := [some (.ref 35), some (.int sp), some (.ref 10), some (.int due), some (.int clr), some (.int (nI p)), some (.int (awy sp (F0 15 p)))]) (st2 := [.int (nI p), .ref 11, .ref 35]) b_X6_profitOn_93_100 rfl (fun hd => ?_)
          refine R2.iald p rfl hd rfl (fun _ => rfl) (by decide) (by omega) ?_
          refine R2.top (show (F 11 p : Int32) = F0 11 p from (by rw [hs 11 (by decide) (by decide)])) ?_
          refine R2.B (ls2 := [some (.ref 35), some (.int sp), some (.ref 10), some (.int due), some (.int clr), some (.int (nI p)), some (.int (awy sp (F0 15 p)))]) (st2 := [.int (nI p), .ref 12, .int (F0 11 p), .ref 35]) b_X6_profitOn_101_107 rfl (fun hd => ?_)
          refine R2.iald p rfl hd rfl (fun _ => rfl) (by decide) (by omega) ?_
          refine R2.top (show (F 12 p : Int32) = nI t from (by rw [hs 12 (by decide) (by decide)]; exact et)) ?_
          refine R2.B (ls2 := [some (.ref 35), some (.int sp), some (.ref 10), some (.int due), some (.int clr), some (.int (nI p)), some (.int (awy sp (F0 15 p)))]) (st2 := [.int (nI p), .ref 13, .int (nI t), .int (F0 11 p), .ref 35]) b_X6_profitOn_108_114 rfl (fun hd => ?_)
          refine R2.iald p rfl hd rfl (fun _ => rfl) (by decide) (by omega) ?_
          refine R2.top (show (F 13 p : Int32) = F0 13 p from (by rw [hs 13 (by decide) (by decide)])) ?_
          refine R2.B (ls2 := [some (.ref 35), some (.int sp), some (.ref 10), some (.int due), some (.int clr), some (.int (nI p)), some (.int (awy sp (F0 15 p)))]) (st2 := [.int (F0 13 p), .int (nI t), .int (F0 11 p), .ref 35]) b_X6_profitOn_115_115 rfl (fun hd => ?_)
          refine R2.callV3 (M2 := mX6_ask) (As := [.int (F0 11 p), .int (nI t), .int (F0 13 p)]) (rest := []) hd lk_6_77 okX6_ask (by decide) rfl (ev_ask E L F (F0 11 p) (F0 13 p) t ht) (by decide) rfl rfl (Nat.le_of_ble_eq_true rfl) ?_
          refine R2.B (ls2 := [some (.ref 35), some (.int sp), some (.ref 10), some (.int due), some (.int clr), some (.int ((nI p) + 1)), some (.int (awy sp (F0 15 p)))]) (st2 := []) b_X6_profitOn_118_46 rfl (fun hd => ?_)
          rw [show ((nI p) + 1 : Int32) = nI (p + 1) from nI_add p 1]
          rw [show pfL (F0 11) (F0 12) (F0 13) (F0 15) (F0 36) due clr sp (k + 1) p (F 37) (F 38) = pfL (F0 11) (F0 12) (F0 13) (F0 15) (F0 36) due clr sp k (p + 1) (askF F (F0 11 p) t (F0 13 p) 37) (askF F (F0 11 p) t (F0 13 p) 38) from (by simp only [pfL]; rw [if_neg (Int32.not_lt.mpr c72), if_pos ⟨c80, c90⟩, askF_37, askF_38, et, nI_clamp (by omega)])]
          refine R2.forget (ls2 := [some (.ref 35), some (.int sp), some (.ref 10), some (.int due), some (.int clr), some (.int (nI (p + 1))), none]) ⟨rfl, ⟨rfl, ⟨rfl, ⟨rfl, ⟨rfl, ⟨rfl, trivial⟩⟩⟩⟩⟩⟩ ?_
          exact ih (p + 1) _ (by omega) (fun a h1 h2 => (askF_row h1 h2).trans (hs a h1 h2))
    · refine R2.B (ls2 := [some (.ref 35), some (.int sp), some (.ref 10), some (.int due), some (.int clr), some (.int (nI p)), some (.int (awy sp (F0 15 p)))]) (st2 := [.int 0]) b_X6_profitOn_75_76 rfl (fun hd => ?_)
      exact R2.ret (r := some (.int 0)) hd trivial rfl ⟨(congrArg (fun z => some (Value.int z)) (by simp only [pfL]; rw [if_pos (Int32.not_le.mp c72)])), hs⟩
theorem b_X6_profitOn_0_13 : bl2 mX6_profitOn 0 [(.aload_n 0, 1, 0, 0, .null), (.getfield 29, 3, 6, 0, .null), (.getfield 33, 3, 2, 0, .null), (.astore_n 2, 1, 2, 0, .null), (.aload_n 0, 1, 0, 0, .null), (.getfield 29, 3, 6, 0, .null), (.iconst 0, 1, 0, 0, .int 0)] 13 (.invokevirtual 55) 3 = true := by decide +kernel
theorem b_X6_profitOn_16_22 : bl2 mX6_profitOn 16 [(.istore_n 3, 1, 3, 0, .null), (.aload_n 0, 1, 0, 0, .null), (.getfield 29, 3, 6, 0, .null), (.iconst 1, 1, 0, 0, .int 1)] 22 (.invokevirtual 55) 3 = true := by decide +kernel
theorem b_X6_profitOn_25_32 : bl2 mX6_profitOn 25 [(.istore 4, 2, 4, 0, .null), (.aload_n 0, 1, 0, 0, .null), (.getfield 15, 3, 6, 2, .null), (.iconst (-1), 1, 0, 0, .int (-1))] 32 (.invokestatic 58) 3 = true := by decide +kernel
theorem b_X6_profitOn_35_40 : bl2 mX6_profitOn 35 [(.aload_n 0, 1, 0, 0, .null), (.getfield 19, 3, 6, 3, .null), (.iconst (-1), 1, 0, 0, .int (-1))] 40 (.invokestatic 58) 3 = true := by decide +kernel
theorem b_X6_profitOn_43_46 : bl2 mX6_profitOn 43 [(.iconst 0, 1, 0, 0, .int 0), (.istore 5, 2, 5, 0, .null)] 46 (.iload 5) 2 = true := by decide +kernel
set_option maxRecDepth 20000 in
set_option maxHeartbeats 1000000 in
theorem ev_profitOn (E : EE) (L : Nat) (F : FF) (n : Nat) (hn : F 10 5 = nI n) (hn10 : n ≤ 10) (hth : ThOK F n) (sp : Int32) : Ev2 E L 3 mX6_profitOn [.ref 35, .int sp] F (fun r' F' => r' = some (.int (pfL (F 11) (F 12) (F 13) (F 15) (F 36) (F 17 0 * F 17 0) (F 17 1 * F 17 1) sp n 0 (fillF (fillF F 37 4 (-1)) 38 4 (-1) 37) (fillF (fillF F 37 4 (-1)) 38 4 (-1) 38))) ∧ ∀ a, a ≠ 37 → a ≠ 38 → F' a = F a) := by
  refine Ev2.of okX6_profitOn.2.2.1 (Nat.le_of_ble_eq_true rfl) ?_
  show R2 E L mX6_profitOn 3 0 [some (.ref 35), some (.int sp), none, none, none, none, none] [] F _
  refine R2.B (ls2 := [some (.ref 35), some (.int sp), some (.ref 10), none, none, none, none]) (st2 := [.int 0, .ref 16]) b_X6_profitOn_0_13 rfl (fun hd => ?_)
  refine R2.callV3 (M2 := mX2_square) (As := [.int 0]) (rest := []) hd lk_6_55 okX2_square (by decide) rfl (ev_square E L F 0 (by decide)) (by decide) rfl rfl (Nat.le_of_ble_eq_true rfl) ?_
  refine R2.B (ls2 := [some (.ref 35), some (.int sp), some (.ref 10), some (.int ((F 17 0) * (F 17 0))), none, none, none]) (st2 := [.int 1, .ref 16]) b_X6_profitOn_16_22 rfl (fun hd => ?_)
  refine R2.callV3 (M2 := mX2_square) (As := [.int 1]) (rest := []) hd lk_6_55 okX2_square (by decide) rfl (ev_square E L F 1 (by decide)) (by decide) rfl rfl (Nat.le_of_ble_eq_true rfl) ?_
  refine R2.B (ls2 := [some (.ref 35), some (.int sp), some (.ref 10), some (.int ((F 17 0) * (F 17 0))), some (.int ((F 17 1) * (F 17 1))), none, none]) (st2 := [.int (-1), .ref 37]) b_X6_profitOn_25_32 rfl (fun hd => ?_)
  refine R2.callS3 (M2 := mJ7_fill_53178) (As := [.ref 37, .int (-1)]) (rest := []) hd lk_6_58 okJ7_fill_53178 (by decide) (ev_fill E L F 37 4 (-1) rfl (fun _ => rfl) (by decide) (by decide)) (by decide) rfl rfl (Nat.le_of_ble_eq_true rfl) ?_
  refine R2.B (ls2 := [some (.ref 35), some (.int sp), some (.ref 10), some (.int ((F 17 0) * (F 17 0))), some (.int ((F 17 1) * (F 17 1))), none, none]) (st2 := [.int (-1), .ref 38]) b_X6_profitOn_35_40 rfl (fun hd => ?_)
  refine R2.callS3 (M2 := mJ7_fill_53178) (As := [.ref 38, .int (-1)]) (rest := []) hd lk_6_58 okJ7_fill_53178 (by decide) (ev_fill E L (fillF F 37 4 (-1)) 38 4 (-1) rfl (fun _ => rfl) (by decide) (by decide)) (by decide) rfl rfl (Nat.le_of_ble_eq_true rfl) ?_
  refine R2.B (ls2 := [some (.ref 35), some (.int sp), some (.ref 10), some (.int ((F 17 0) * (F 17 0))), some (.int ((F 17 1) * (F 17 1))), some (.int 0), none]) (st2 := []) b_X6_profitOn_43_46 rfl (fun hd => ?_)
  exact lp_profit E L F n hn hn10 hth sp _ _ n 0 (fillF (fillF F 37 4 (-1)) 38 4 (-1)) (by omega) (fun a h1 h2 => by funext j; simp [fillF, h1, h2])
theorem ev_profit (E : EE) (L : Nat) (F : FF) (n : Nat) (hn : F 10 5 = nI n) (hn10 : n ≤ 10) (hth : ThOK F n) (sp : Int32) : Ev2 E L 3 mX6_profitOn [.ref 35, .int sp] F (fun r' F' => r' = some (.int (cPf F n (F 36) sp)) ∧ ∀ a, a ≠ 37 → a ≠ 38 → F' a = F a) := by
  refine (ev_profitOn E L F n hn hn10 hth sp).post (fun r F' h => ⟨?_, h.2⟩)
  rw [h.1]
  unfold cPf
  rw [pfL_c n 0 _ (fun _ => -1) _ (fun _ => -1) (fun j hj => by simp [fillF, hj]) (fun j hj => by simp [fillF, hj])]
theorem alL_row : ∀ (n k p : Nat) (F : FF) (a : Nat), a ≠ 36 → alL n k p F a = F a
  | _, 0, _, _, _, _ => rfl
  | n, k + 1, p, F, a, h1 => by
    rw [alL, alL_row n k (p + 1) _ a h1]
    funext j
    simp [up2, h1]
theorem b_X6_seek_2_13 : bl2 mX6_seek 2 [(.iload_n 1, 1, 1, 0, .null), (.aload_n 0, 1, 0, 0, .null), (.getfield 29, 3, 6, 0, .null), (.getfield 33, 3, 2, 0, .null), (.getfield 39, 3, 0, 5, .null)] 13 (.if_icmp .ge 44) 3 = true := by decide +kernel
theorem b_X6_seek_57_57 : bl2 mX6_seek 57 [] 57 (.aload_n 0) 1 = true := by decide +kernel
theorem b_X6_seek_16_38 : bl2 mX6_seek 16 [(.aload_n 0, 1, 0, 0, .null), (.getfield 9, 3, 6, 1, .null), (.iload_n 1, 1, 1, 0, .null), (.aload_n 0, 1, 0, 0, .null), (.getfield 29, 3, 6, 0, .null), (.aload_n 0, 1, 0, 0, .null), (.getfield 29, 3, 6, 0, .null), (.getfield 33, 3, 2, 0, .null), (.getfield 44, 3, 0, 4, .null), (.iload_n 1, 1, 1, 0, .null), (.iload_n 1, 1, 1, 0, .null), (.iconst (-1), 1, 0, 0, .int (-1))] 38 (.invokevirtual 47) 3 = true := by decide +kernel
theorem b_X6_seek_41_42 : bl2 mX6_seek 41 [(.iconst (-1), 1, 0, 0, .int (-1))] 42 (.if_icmp .ne 7) 3 = true := by decide +kernel
theorem b_X6_seek_49_50 : bl2 mX6_seek 49 [(.iconst 0, 1, 0, 0, .int 0)] 50 (.bastore) 1 = true := by decide +kernel
theorem b_X6_seek_51_2 : bl2 mX6_seek 51 [(.iinc 1 1, 3, 1, 0, .int 1), (.goto (-52), 3, 2, 0, .null)] 2 (.iload_n 1) 1 = true := by decide +kernel
theorem b_X6_seek_45_50 : bl2 mX6_seek 45 [(.iconst 1, 1, 0, 0, .int 1), (.goto 4, 3, 50, 0, .null)] 50 (.bastore) 1 = true := by decide +kernel
set_option maxRecDepth 20000 in
set_option maxHeartbeats 2000000 in
theorem lp_al (E : EE) (L : Nat) (n : Nat) (hn10 : n ≤ 10) (Q : Q2) : ∀ (k : Nat) (p : Nat) (F : FF), p + k = n → F 10 5 = nI n → R2 E L mX6_seek 4 57 [some (.ref 35), none, none] [] (alL n k p F) Q → R2 E L mX6_seek 4 2 [some (.ref 35), some (.int (nI p)), none] [] F Q := by
  intro k
  induction k with
  | zero =>
    intro p F hi h5 ex
    refine R2.B (ls2 := [some (.ref 35), some (.int (nI p)), none]) (st2 := [.int (F 10 5), .int (nI p)]) b_X6_seek_2_13 rfl (fun hd => ?_)
    rw [show (F 10 5 : Int32) = nI n from h5]
    refine R2.icmp_ge 57 hd (by decide) (fun c13 => ?_) (fun c13 => absurd (nI_le (by omega) (by omega)) c13)
    refine R2.B (ls2 := [some (.ref 35), some (.int (nI p)), none]) (st2 := []) b_X6_seek_57_57 rfl (fun hd => ?_)
    refine R2.forget (ls2 := [some (.ref 35), none, none]) ⟨rfl, trivial⟩ ?_
    exact ex
  | succ k ih =>
    intro p F hi h5 ex
    refine R2.B (ls2 := [some (.ref 35), some (.int (nI p)), none]) (st2 := [.int (F 10 5), .int (nI p)]) b_X6_seek_2_13 rfl (fun hd => ?_)
    rw [show (F 10 5 : Int32) = nI n from h5]
    refine R2.icmp_ge 57 hd (by decide) (fun c13 => absurd c13 (nI_ge (by omega) (by omega))) (fun c13 => ?_)
    refine R2.B (ls2 := [some (.ref 35), some (.int (nI p)), none]) (st2 := [.int (-1), .int (nI p), .int (nI p), .ref 15, .ref 16, .int (nI p), .ref 36]) b_X6_seek_16_38 rfl (fun hd => ?_)
    refine R2.callV3 (M2 := mX2_firstNearer) (As := [.ref 15, .int (nI p), .int (nI p), .int (-1)]) (rest := [.int (nI p), .ref 36]) hd lk_6_47 okX2_firstNearer (by decide) rfl (ev_firstNearer E L F n h5 hn10 15 rfl (fun _ => rfl) p p (-1) (by omega) (by omega)) (by decide) rfl rfl (Nat.le_of_ble_eq_true rfl) ?_
    refine R2.B (ls2 := [some (.ref 35), some (.int (nI p)), none]) (st2 := [.int (-1), .int (fnr (F 15) p p (-1) ((F 17 1) * (F 17 1)) n 0), .int (nI p), .ref 36]) b_X6_seek_41_42 rfl (fun hd => ?_)
    refine R2.icmp_ne 49 hd (by decide) (fun c42 => ?_) (fun c42 => ?_)
    · refine R2.B (ls2 := [some (.ref 35), some (.int (nI p)), none]) (st2 := [.int 0, .int (nI p), .ref 36]) b_X6_seek_49_50 rfl (fun hd => ?_)
      refine R2.zast p rfl hd (by decide) rfl (fun _ => rfl) (by decide) (by omega) (by decide) ?_
      refine R2.B (ls2 := [some (.ref 35), some (.int ((nI p) + 1)), none]) (st2 := []) b_X6_seek_51_2 rfl (fun hd => ?_)
      rw [show ((nI p) + 1 : Int32) = nI (p + 1) from nI_add p 1]
      refine ih (p + 1) _ (by omega) h5 ?_
      have e : alL n (k + 1) p F = alL n k (p + 1) (up2 F 36 p 0) := by
        simp only [alL]; rw [if_neg c42]
      rw [← e]
      exact ex
    · refine R2.B (ls2 := [some (.ref 35), some (.int (nI p)), none]) (st2 := [.int 1, .int (nI p), .ref 36]) b_X6_seek_45_50 rfl (fun hd => ?_)
      refine R2.zast p rfl hd (by decide) rfl (fun _ => rfl) (by decide) (by omega) (by decide) ?_
      refine R2.B (ls2 := [some (.ref 35), some (.int ((nI p) + 1)), none]) (st2 := []) b_X6_seek_51_2 rfl (fun hd => ?_)
      rw [show ((nI p) + 1 : Int32) = nI (p + 1) from nI_add p 1]
      refine ih (p + 1) _ (by omega) h5 ?_
      have e : alL n (k + 1) p F = alL n k (p + 1) (up2 F 36 p 1) := by
        simp only [alL]; rw [if_pos c42]
      rw [← e]
      exact ex
theorem b_X6_seek_69_73 : bl2 mX6_seek 69 [(.iload_n 1, 1, 1, 0, .null), (.sipush 1024, 3, 0, 0, .int 1024)] 73 (.if_icmp .ge 33) 3 = true := by decide +kernel
theorem b_X6_seek_106_106 : bl2 mX6_seek 106 [] 106 (.return_) 1 = true := by decide +kernel
theorem b_X6_seek_76_78 : bl2 mX6_seek 76 [(.aload_n 0, 1, 0, 0, .null), (.iload_n 1, 1, 1, 0, .null)] 78 (.invokevirtual 51) 3 = true := by decide +kernel
theorem b_X6_seek_81_87 : bl2 mX6_seek 81 [(.istore_n 2, 1, 2, 0, .null), (.iload_n 2, 1, 2, 0, .null), (.aload_n 0, 1, 0, 0, .null), (.getfield 26, 3, 6, 5, .null)] 87 (.if_icmp .le 13) 3 = true := by decide +kernel
theorem b_X6_seek_100_69 : bl2 mX6_seek 100 [(.iinc 1 1, 3, 1, 0, .int 1), (.goto (-34), 3, 69, 0, .null)] 69 (.iload_n 1) 1 = true := by decide +kernel
theorem b_X6_seek_90_92 : bl2 mX6_seek 90 [(.aload_n 0, 1, 0, 0, .null), (.iload_n 2, 1, 2, 0, .null)] 92 (.putfield 26) 3 = true := by decide +kernel
theorem b_X6_seek_95_97 : bl2 mX6_seek 95 [(.aload_n 0, 1, 0, 0, .null), (.iload_n 1, 1, 1, 0, .null)] 97 (.putfield 22) 3 = true := by decide +kernel
set_option maxRecDepth 20000 in
set_option maxHeartbeats 2000000 in
theorem lp_seek (E : EE) (L : Nat) (F0 : FF) (n : Nat) (hn : F0 10 5 = nI n) (hn10 : n ≤ 10) (hth : ThOK F0 n) : ∀ (k : Nat) (w : Nat) (F : FF) (best most : Int32), w + k = 1024 → (∀ a, a ≠ 35 → a ≠ 37 → a ≠ 38 → F a = F0 a) → F 35 4 = best → F 35 5 = most → R2 E L mX6_seek 4 69 [some (.ref 35), some (.int (nI w)), none] [] F (fun r' F' => r' = none ∧ F' 35 4 = (brL (fun w => cPf F0 n (F0 36) (nI w)) k w best most).1 ∧ F' 35 5 = (brL (fun w => cPf F0 n (F0 36) (nI w)) k w best most).2 ∧ ∀ a, a ≠ 35 → a ≠ 37 → a ≠ 38 → F' a = F0 a) := by
  intro k
  induction k with
  | zero =>
    intro w F best most hi hs hb hm
    refine R2.B (ls2 := [some (.ref 35), some (.int (nI w)), none]) (st2 := [.int 1024, .int (nI w)]) b_X6_seek_69_73 rfl (fun hd => ?_)
    refine R2.icmp_ge 106 hd (by decide) (fun c73 => ?_) (fun c73 => absurd (nI_le (a := 1024) (b := w) (by omega) (by omega)) c73)
    refine R2.B (ls2 := [some (.ref 35), some (.int (nI w)), none]) (st2 := []) b_X6_seek_106_106 rfl (fun hd => ?_)
    exact R2.ret (r := none) hd trivial rfl ⟨rfl, hb, hm, hs⟩
  | succ k ih =>
    intro w F best most hi hs hb hm
    refine R2.B (ls2 := [some (.ref 35), some (.int (nI w)), none]) (st2 := [.int 1024, .int (nI w)]) b_X6_seek_69_73 rfl (fun hd => ?_)
    refine R2.icmp_ge 106 hd (by decide) (fun c73 => absurd c73 (nI_ge (b := 1024) (by omega) (by omega))) (fun c73 => ?_)
    refine R2.B (ls2 := [some (.ref 35), some (.int (nI w)), none]) (st2 := [.int (nI w), .ref 35]) b_X6_seek_76_78 rfl (fun hd => ?_)
    refine R2.callV (M2 := mX6_profitOn) (As := [.int (nI w)]) (rest := []) hd lk_6_51 okX6_profitOn (by decide) rfl (ev_profit E L F n ((congrFun (hs 10 (by decide) (by decide) (by decide)) 5).trans hn) hn10 (fun p hp => by rw [hs 12 (by decide) (by decide) (by decide)]; exact hth p hp) (nI w)) (by decide) rfl rfl (Nat.le_of_ble_eq_true rfl) (fun r1 F1 h1 => ?_)
    obtain ⟨h1a, h1b⟩ := h1
    subst h1a
    refine R2.top (show cPf F n (F 36) (nI w) = cPf F0 n (F0 36) (nI w) from (by unfold cPf; rw [hs 11 (by decide) (by decide) (by decide), hs 12 (by decide) (by decide) (by decide), hs 13 (by decide) (by decide) (by decide), hs 15 (by decide) (by decide) (by decide), hs 17 (by decide) (by decide) (by decide), hs 36 (by decide) (by decide) (by decide)])) ?_
    refine R2.B (ls2 := [some (.ref 35), some (.int (nI w)), some (.int (cPf F0 n (F0 36) (nI w)))]) (st2 := [.int (F1 35 5), .int (cPf F0 n (F0 36) (nI w))]) b_X6_seek_81_87 rfl (fun hd => ?_)
    rw [show (F1 35 5 : Int32) = most from (by rw [h1b 35 (by decide) (by decide)]; exact hm)]
    refine R2.icmp_le 100 hd (by decide) (fun c87 => ?_) (fun c87 => ?_)
    · refine R2.B (ls2 := [some (.ref 35), some (.int ((nI w) + 1)), some (.int (cPf F0 n (F0 36) (nI w)))]) (st2 := []) b_X6_seek_100_69 rfl (fun hd => ?_)
      rw [show ((nI w) + 1 : Int32) = nI (w + 1) from nI_add w 1]
      rw [show brL (fun w => cPf F0 n (F0 36) (nI w)) (k + 1) w best most = brL (fun w => cPf F0 n (F0 36) (nI w)) k (w + 1) best most from (by simp only [brL]; rw [if_neg (Int32.not_lt.mpr c87)])]
      refine R2.forget (ls2 := [some (.ref 35), some (.int (nI (w + 1))), none]) ⟨rfl, ⟨rfl, trivial⟩⟩ ?_
      exact ih (w + 1) F1 best most (by omega) (fun a q1 q2 q3 => (h1b a q2 q3).trans (hs a q1 q2 q3)) (by rw [h1b 35 (by decide) (by decide)]; exact hb) (by rw [h1b 35 (by decide) (by decide)]; exact hm)
    · refine R2.B (ls2 := [some (.ref 35), some (.int (nI w)), some (.int (cPf F0 n (F0 36) (nI w)))]) (st2 := [.int (cPf F0 n (F0 36) (nI w)), .ref 35]) b_X6_seek_90_92 rfl (fun hd => ?_)
      refine R2.putf (a := 6) (b := 5) hd (by decide) (by decide) rfl rfl (fun _ => rfl) ?_
      refine R2.B (ls2 := [some (.ref 35), some (.int (nI w)), some (.int (cPf F0 n (F0 36) (nI w)))]) (st2 := [.int (nI w), .ref 35]) b_X6_seek_95_97 rfl (fun hd => ?_)
      refine R2.putf (a := 6) (b := 4) hd (by decide) (by decide) rfl rfl (fun _ => rfl) ?_
      refine R2.B (ls2 := [some (.ref 35), some (.int ((nI w) + 1)), some (.int (cPf F0 n (F0 36) (nI w)))]) (st2 := []) b_X6_seek_100_69 rfl (fun hd => ?_)
      rw [show ((nI w) + 1 : Int32) = nI (w + 1) from nI_add w 1]
      rw [show brL (fun w => cPf F0 n (F0 36) (nI w)) (k + 1) w best most = brL (fun w => cPf F0 n (F0 36) (nI w)) k (w + 1) (nI w) (cPf F0 n (F0 36) (nI w)) from (by simp only [brL]; rw [if_pos (Int32.not_le.mp c87)])]
      refine R2.forget (ls2 := [some (.ref 35), some (.int (nI (w + 1))), none]) ⟨rfl, ⟨rfl, trivial⟩⟩ ?_
      exact ih (w + 1) _ _ _ (by omega) (fun a q1 q2 q3 => by rw [← hs a q1 q2 q3, ← h1b a q2 q3]; funext j; simp [up2, q1]) rfl rfl
theorem b_X6_seek_0_2 : bl2 mX6_seek 0 [(.iconst 0, 1, 0, 0, .int 0), (.istore_n 1, 1, 1, 0, .null)] 2 (.iload_n 1) 1 = true := by decide +kernel
theorem b_X6_seek_57_59 : bl2 mX6_seek 57 [(.aload_n 0, 1, 0, 0, .null), (.iconst (-1), 1, 0, 0, .int (-1))] 59 (.putfield 22) 3 = true := by decide +kernel
theorem b_X6_seek_62_64 : bl2 mX6_seek 62 [(.aload_n 0, 1, 0, 0, .null), (.iconst 0, 1, 0, 0, .int 0)] 64 (.putfield 26) 3 = true := by decide +kernel
theorem b_X6_seek_67_69 : bl2 mX6_seek 67 [(.iconst 0, 1, 0, 0, .int 0), (.istore_n 1, 1, 1, 0, .null)] 69 (.iload_n 1) 1 = true := by decide +kernel
set_option maxRecDepth 20000 in
set_option maxHeartbeats 1000000 in
theorem ev_seek (E : EE) (L : Nat) (F : FF) (n : Nat) (hn : F 10 5 = nI n) (hn10 : n ≤ 10) (hth : ThOK F n) : Ev2 E L 4 mX6_seek [.ref 35] F (fun r' F' => r' = none ∧ F' 35 4 = (brL (fun w => cPf F n (alL n n 0 F 36) (nI w)) 1024 0 (-1) 0).1 ∧ F' 35 5 = (brL (fun w => cPf F n (alL n n 0 F 36) (nI w)) 1024 0 (-1) 0).2 ∧ ∀ a, a ≠ 35 → a ≠ 36 → a ≠ 37 → a ≠ 38 → F' a = F a) := by
  refine Ev2.of okX6_seek.2.2.1 (Nat.le_of_ble_eq_true rfl) ?_
  show R2 E L mX6_seek 4 0 [some (.ref 35), none, none] [] F _
  refine R2.B (ls2 := [some (.ref 35), some (.int 0), none]) (st2 := []) b_X6_seek_0_2 rfl (fun hd => ?_)
  refine lp_al E L n hn10 _ n 0 F (by omega) hn ?_
  refine R2.B (ls2 := [some (.ref 35), none, none]) (st2 := [.int (-1), .ref 35]) b_X6_seek_57_59 rfl (fun hd => ?_)
  refine R2.putf (a := 6) (b := 4) hd (by decide) (by decide) rfl rfl (fun _ => rfl) ?_
  refine R2.B (ls2 := [some (.ref 35), none, none]) (st2 := [.int 0, .ref 35]) b_X6_seek_62_64 rfl (fun hd => ?_)
  refine R2.putf (a := 6) (b := 5) hd (by decide) (by decide) rfl rfl (fun _ => rfl) ?_
  refine R2.B (ls2 := [some (.ref 35), some (.int 0), none]) (st2 := []) b_X6_seek_67_69 rfl (fun hd => ?_)
  have hr := alL_row n n 0 F
  refine Rn.post (lp_seek E L (alL n n 0 F) n ((congrFun (hr 10 (by decide)) 5).trans hn) hn10 (fun p hp => by rw [hr 12 (by decide)]; exact hth p hp) 1024 0 _ (-1) 0 (by omega) (fun a q1 q2 q3 => by funext j; simp [up2, q1]) rfl rfl) ?_
  rintro r1 sh1 G1 ⟨F1, e1, e2, h1, h2, h3, h4⟩
  have eg : (fun w => cPf (alL n n 0 F) n (alL n n 0 F 36) (nI w)) = (fun w => cPf F n (alL n n 0 F 36) (nI w)) := by unfold cPf; rw [hr 11 (by decide), hr 12 (by decide), hr 13 (by decide), hr 15 (by decide), hr 17 (by decide)]
  rw [eg] at h2 h3
  exact ⟨F1, e1, e2, h1, h2, h3, fun a q1 q2 q3 q4 => (h4 a q1 q3 q4).trans (hr a q2)⟩
end
section
/-! Match. Printed by wip/whole/gen/spec8.py. -/
def keepF (F : FF) (made gained : Int32) : FF := if F 25 4 < made ∨ (made = F 25 4 ∧ F 25 5 < gained) then cpyF (up2 (up2 F 25 4 made) 25 5 gained) 27 28 0 0 10 else F
def qfold (body : Nat → FF → FF) : Nat → Nat → FF → FF
  | 0, _, F => F
  | j + 1, q, F => qfold body j (q + 1) (body q F)
def chB (rc : Int32 → Int32 → Int32 → FF → FF) (p : Nat) (free made gained : Int32) (q : Nat) (F : FF) : FF :=
  if F 27 q = -1 ∧ ¬ F 26 (p * 10 + q) = 0 then
    up2 (up2 (rc (free - 2) (made + 1) (gained + gan (F 11) (F 13) p q) (up2 (up2 F 27 p (nI q)) 27 q (nI p))) 27 p (-1)) 27 q (-1)
  else F
def chF : Nat → Nat → Int32 → Int32 → Int32 → FF → FF
  | 0, _, free, made, gained, F => if made + free / 2 < F 25 4 then F else keepF F made gained
  | k + 1, p, free, made, gained, F =>
    if made + free / 2 < F 25 4 then F
    else if F 27 p = -1 then chF k (p + 1) (free - 1) made gained (qfold (chB (chF k (p + 1)) p free made gained) k (p + 1) F)
    else chF k (p + 1) free made gained F
def slI (n a : Nat) : Nat → Nat → FF → FF
  | 0, _, F => F
  | k + 1, b, F => slI n a k (b + 1) (up2 F 26 (a * 10 + b) (if cvd F (F 15) n (F 17 0) (-1) a b = 0 then 1 else 0))
def slO (n : Nat) : Nat → Nat → FF → FF
  | 0, _, F => F
  | k + 1, a, F => slO n k (a + 1) (slI n a (n - (a + 1)) (a + 1) (up2 F 27 a (-1)))
def solF (F : FF) (n : Nat) : FF := chF n 0 (nI n) 0 0 (up2 (up2 (slO n n 0 F) 25 4 (-1)) 25 5 (-1))
theorem keepF_row {F : FF} {x y : Int32} {a : Nat} (h1 : a ≠ 25) (h3 : a ≠ 28) : keepF F x y a = F a := by
  unfold keepF; split
  · funext j; simp [cpyF, up2, h1, h3]
  · rfl
theorem qfold_row {body : Nat → FF → FF} {a : Nat} (hb : ∀ q F, body q F a = F a) : ∀ (j q : Nat) (F : FF), qfold body j q F a = F a
  | 0, _, _ => rfl
  | j + 1, q, F => by rw [qfold, qfold_row hb j (q + 1), hb]
theorem chF_row {a : Nat} (h1 : a ≠ 25) (h2 : a ≠ 27) (h3 : a ≠ 28) : ∀ (k p : Nat) (free made gained : Int32) (F : FF), chF k p free made gained F a = F a
  | 0, _, free, made, gained, F => by
    simp only [chF]; split
    · rfl
    · exact keepF_row h1 h3
  | k + 1, p, free, made, gained, F => by
    simp only [chF]; split
    · rfl
    · split
      · rw [chF_row h1 h2 h3 k]
        refine qfold_row (fun q F => ?_) _ _ _
        unfold chB; split
        · funext j
          simp only [up2, h2, if_false]
          rw [chF_row h1 h2 h3 k]
          simp [up2, h2]
        · rfl
      · exact chF_row h1 h2 h3 k _ _ _ _ _
theorem slI_row {n a0 : Nat} {a : Nat} (h1 : a ≠ 26) : ∀ (k b : Nat) (F : FF), slI n a0 k b F a = F a
  | 0, _, _ => rfl
  | k + 1, b, F => by rw [slI, slI_row h1 k]; funext j; simp [up2, h1]
theorem slO_row {n : Nat} {a : Nat} (h1 : a ≠ 26) (h2 : a ≠ 27) : ∀ (k b : Nat) (F : FF), slO n k b F a = F a
  | 0, _, _ => rfl
  | k + 1, b, F => by rw [slO, slO_row h1 h2 k, slI_row h1]; funext j; simp [up2, h2]
theorem b_X3_keepIfBetter_0_5 : bl2 mX3_keepIfBetter 0 [(.iload_n 1, 1, 1, 0, .null), (.aload_n 0, 1, 0, 0, .null), (.getfield 22, 3, 3, 4, .null)] 5 (.if_icmp .gt 19) 3 = true := by decide +kernel
theorem b_X3_keepIfBetter_24_26 : bl2 mX3_keepIfBetter 24 [(.aload_n 0, 1, 0, 0, .null), (.iload_n 1, 1, 1, 0, .null)] 26 (.putfield 22) 3 = true := by decide +kernel
theorem b_X3_keepIfBetter_29_31 : bl2 mX3_keepIfBetter 29 [(.aload_n 0, 1, 0, 0, .null), (.iload_n 2, 1, 2, 0, .null)] 31 (.putfield 26) 3 = true := by decide +kernel
theorem b_X3_keepIfBetter_34_46 : bl2 mX3_keepIfBetter 34 [(.aload_n 0, 1, 0, 0, .null), (.getfield 15, 3, 3, 2, .null), (.iconst 0, 1, 0, 0, .int 0), (.aload_n 0, 1, 0, 0, .null), (.getfield 19, 3, 3, 3, .null), (.iconst 0, 1, 0, 0, .int 0), (.bipush 10, 2, 0, 0, .int 10)] 46 (.invokestatic 63) 3 = true := by decide +kernel
theorem b_X3_keepIfBetter_49_49 : bl2 mX3_keepIfBetter 49 [] 49 (.return_) 1 = true := by decide +kernel
theorem b_X3_keepIfBetter_8_13 : bl2 mX3_keepIfBetter 8 [(.iload_n 1, 1, 1, 0, .null), (.aload_n 0, 1, 0, 0, .null), (.getfield 22, 3, 3, 4, .null)] 13 (.if_icmp .ne 36) 3 = true := by decide +kernel
theorem b_X3_keepIfBetter_16_21 : bl2 mX3_keepIfBetter 16 [(.iload_n 2, 1, 2, 0, .null), (.aload_n 0, 1, 0, 0, .null), (.getfield 26, 3, 3, 5, .null)] 21 (.if_icmp .le 28) 3 = true := by decide +kernel
set_option maxRecDepth 20000 in
set_option maxHeartbeats 1000000 in
theorem ev_keepIfBetter (E : EE) (L : Nat) (F : FF) (x y : Int32) : Ev3 E L 2 mX3_keepIfBetter [.ref 25, .int x, .int y] F none (keepF F x y) := by
  refine Ev3.of okX3_keepIfBetter.2.2.1 (Nat.le_of_ble_eq_true rfl) ?_
  show R2 E L mX3_keepIfBetter 2 0 [some (.ref 25), some (.int x), some (.int y)] [] F _
  refine R2.B (ls2 := [some (.ref 25), some (.int x), some (.int y)]) (st2 := [.int (F 25 4), .int x]) b_X3_keepIfBetter_0_5 rfl (fun hd => ?_)
  refine R2.icmp_gt 24 hd (by decide) (fun c5 => ?_) (fun c5 => ?_)
  · refine R2.B (ls2 := [some (.ref 25), some (.int x), some (.int y)]) (st2 := [.int x, .ref 25]) b_X3_keepIfBetter_24_26 rfl (fun hd => ?_)
    refine R2.putf (a := 3) (b := 4) hd (by decide) (by decide) rfl rfl (fun _ => rfl) ?_
    refine R2.B (ls2 := [some (.ref 25), some (.int x), some (.int y)]) (st2 := [.int y, .ref 25]) b_X3_keepIfBetter_29_31 rfl (fun hd => ?_)
    refine R2.putf (a := 3) (b := 5) hd (by decide) (by decide) rfl rfl (fun _ => rfl) ?_
    refine R2.B (ls2 := [some (.ref 25), some (.int x), some (.int y)]) (st2 := [.int 10, .int 0, .ref 28, .int 0, .ref 27]) b_X3_keepIfBetter_34_46 rfl (fun hd => ?_)
    refine R2.acopy (sp := 0) (dp := 0) (n := 10) rfl rfl rfl hd ac_3_63 (by decide) (by decide) rfl rfl (fun _ => rfl) (fun _ => rfl) (by decide) (by decide) (by decide) (by decide) (by decide) (Nat.le_of_ble_eq_true rfl) ?_
    refine R2.B (ls2 := [some (.ref 25), some (.int x), some (.int y)]) (st2 := []) b_X3_keepIfBetter_49_49 rfl (fun hd => ?_)
    exact R2.ret3 (r := none) hd trivial rfl rfl (by clear hd; unfold keepF; grind)
  · refine R2.B (ls2 := [some (.ref 25), some (.int x), some (.int y)]) (st2 := [.int (F 25 4), .int x]) b_X3_keepIfBetter_8_13 rfl (fun hd => ?_)
    refine R2.icmp_ne 49 hd (by decide) (fun c13 => ?_) (fun c13 => ?_)
    · refine R2.B (ls2 := [some (.ref 25), some (.int x), some (.int y)]) (st2 := []) b_X3_keepIfBetter_49_49 rfl (fun hd => ?_)
      exact R2.ret3 (r := none) hd trivial rfl rfl (by clear hd; unfold keepF; grind)
    · refine R2.B (ls2 := [some (.ref 25), some (.int x), some (.int y)]) (st2 := [.int (F 25 5), .int y]) b_X3_keepIfBetter_16_21 rfl (fun hd => ?_)
      refine R2.icmp_le 49 hd (by decide) (fun c21 => ?_) (fun c21 => ?_)
      · refine R2.B (ls2 := [some (.ref 25), some (.int x), some (.int y)]) (st2 := []) b_X3_keepIfBetter_49_49 rfl (fun hd => ?_)
        exact R2.ret3 (r := none) hd trivial rfl rfl (by clear hd; unfold keepF; grind)
      · refine R2.B (ls2 := [some (.ref 25), some (.int x), some (.int y)]) (st2 := [.int x, .ref 25]) b_X3_keepIfBetter_24_26 rfl (fun hd => ?_)
        refine R2.putf (a := 3) (b := 4) hd (by decide) (by decide) rfl rfl (fun _ => rfl) ?_
        refine R2.B (ls2 := [some (.ref 25), some (.int x), some (.int y)]) (st2 := [.int y, .ref 25]) b_X3_keepIfBetter_29_31 rfl (fun hd => ?_)
        refine R2.putf (a := 3) (b := 5) hd (by decide) (by decide) rfl rfl (fun _ => rfl) ?_
        refine R2.B (ls2 := [some (.ref 25), some (.int x), some (.int y)]) (st2 := [.int 10, .int 0, .ref 28, .int 0, .ref 27]) b_X3_keepIfBetter_34_46 rfl (fun hd => ?_)
        refine R2.acopy (sp := 0) (dp := 0) (n := 10) rfl rfl rfl hd ac_3_63 (by decide) (by decide) rfl rfl (fun _ => rfl) (fun _ => rfl) (by decide) (by decide) (by decide) (by decide) (by decide) (Nat.le_of_ble_eq_true rfl) ?_
        refine R2.B (ls2 := [some (.ref 25), some (.int x), some (.int y)]) (st2 := []) b_X3_keepIfBetter_49_49 rfl (fun hd => ?_)
        exact R2.ret3 (r := none) hd trivial rfl rfl (by clear hd; unfold keepF; grind)
theorem b_X3_choose_0_3 : bl2 mX3_choose 0 [(.iload_n 3, 1, 3, 0, .null), (.iload_n 2, 1, 2, 0, .null), (.iconst 2, 1, 0, 0, .int 2)] 3 (.idiv) 1 = true := by decide +kernel
theorem b_X3_choose_4_9 : bl2 mX3_choose 4 [(.iadd, 1, 0, 0, .null), (.aload_n 0, 1, 0, 0, .null), (.getfield 22, 3, 3, 4, .null)] 9 (.if_icmp .ge 4) 3 = true := by decide +kernel
theorem b_X3_choose_13_28 : bl2 mX3_choose 13 [(.aload_n 0, 1, 0, 0, .null), (.getfield 29, 3, 3, 0, .null), (.getfield 33, 3, 2, 0, .null), (.getfield 39, 3, 0, 5, .null), (.istore 5, 2, 5, 0, .null), (.iload_n 1, 1, 1, 0, .null), (.iload 5, 2, 5, 0, .null)] 28 (.if_icmp .lt 11) 3 = true := by decide +kernel
theorem b_X3_choose_31_35 : bl2 mX3_choose 31 [(.aload_n 0, 1, 0, 0, .null), (.iload_n 3, 1, 3, 0, .null), (.iload 4, 2, 4, 0, .null)] 35 (.invokevirtual 55) 3 = true := by decide +kernel
theorem b_X3_choose_38_38 : bl2 mX3_choose 38 [] 38 (.return_) 1 = true := by decide +kernel
theorem b_X3_choose_12_12 : bl2 mX3_choose 12 [] 12 (.return_) 1 = true := by decide +kernel
theorem b_X3_choose_39_44 : bl2 mX3_choose 39 [(.aload_n 0, 1, 0, 0, .null), (.getfield 15, 3, 3, 2, .null), (.iload_n 1, 1, 1, 0, .null)] 44 (.iaload) 1 = true := by decide +kernel
theorem b_X3_choose_45_46 : bl2 mX3_choose 45 [(.iconst (-1), 1, 0, 0, .int (-1))] 46 (.if_icmp .eq 15) 3 = true := by decide +kernel
theorem b_X3_choose_61_66 : bl2 mX3_choose 61 [(.iload_n 1, 1, 1, 0, .null), (.iconst 1, 1, 0, 0, .int 1), (.iadd, 1, 0, 0, .null), (.istore 6, 2, 6, 0, .null)] 66 (.iload 6) 2 = true := by decide +kernel
theorem b_X3_choose_165_175 : bl2 mX3_choose 165 [(.aload_n 0, 1, 0, 0, .null), (.iload_n 1, 1, 1, 0, .null), (.iconst 1, 1, 0, 0, .int 1), (.iadd, 1, 0, 0, .null), (.iload_n 2, 1, 2, 0, .null), (.iconst 1, 1, 0, 0, .int 1), (.isub, 1, 0, 0, .null), (.iload_n 3, 1, 3, 0, .null), (.iload 4, 2, 4, 0, .null)] 175 (.invokevirtual 51) 3 = true := by decide +kernel
theorem b_X3_choose_178_178 : bl2 mX3_choose 178 [] 178 (.return_) 1 = true := by decide +kernel
theorem b_X3_choose_49_57 : bl2 mX3_choose 49 [(.aload_n 0, 1, 0, 0, .null), (.iload_n 1, 1, 1, 0, .null), (.iconst 1, 1, 0, 0, .int 1), (.iadd, 1, 0, 0, .null), (.iload_n 2, 1, 2, 0, .null), (.iload_n 3, 1, 3, 0, .null), (.iload 4, 2, 4, 0, .null)] 57 (.invokevirtual 51) 3 = true := by decide +kernel
theorem b_X3_choose_60_60 : bl2 mX3_choose 60 [] 60 (.return_) 1 = true := by decide +kernel
theorem b_X3_choose_66_70 : bl2 mX3_choose 66 [(.iload 6, 2, 6, 0, .null), (.iload 5, 2, 5, 0, .null)] 70 (.if_icmp .ge 95) 3 = true := by decide +kernel
theorem b_X3_choose_165_165 : bl2 mX3_choose 165 [] 165 (.aload_n 0) 1 = true := by decide +kernel
theorem b_X3_choose_73_79 : bl2 mX3_choose 73 [(.aload_n 0, 1, 0, 0, .null), (.getfield 15, 3, 3, 2, .null), (.iload 6, 2, 6, 0, .null)] 79 (.iaload) 1 = true := by decide +kernel
theorem b_X3_choose_80_81 : bl2 mX3_choose 80 [(.iconst (-1), 1, 0, 0, .int (-1))] 81 (.if_icmp .ne 78) 3 = true := by decide +kernel
theorem b_X3_choose_159_66 : bl2 mX3_choose 159 [(.iinc 6 1, 3, 6, 0, .int 1), (.goto (-96), 3, 66, 0, .null)] 66 (.iload 6) 2 = true := by decide +kernel
theorem b_X3_choose_84_95 : bl2 mX3_choose 84 [(.aload_n 0, 1, 0, 0, .null), (.getfield 9, 3, 3, 1, .null), (.iload_n 1, 1, 1, 0, .null), (.bipush 10, 2, 0, 0, .int 10), (.imul, 1, 0, 0, .null), (.iload 6, 2, 6, 0, .null), (.iadd, 1, 0, 0, .null)] 95 (.baload) 1 = true := by decide +kernel
theorem b_X3_choose_96_96 : bl2 mX3_choose 96 [] 96 (.ifCond .eq 63) 3 = true := by decide +kernel
theorem b_X3_choose_99_106 : bl2 mX3_choose 99 [(.aload_n 0, 1, 0, 0, .null), (.getfield 15, 3, 3, 2, .null), (.iload_n 1, 1, 1, 0, .null), (.iload 6, 2, 6, 0, .null)] 106 (.iastore) 1 = true := by decide +kernel
theorem b_X3_choose_107_114 : bl2 mX3_choose 107 [(.aload_n 0, 1, 0, 0, .null), (.getfield 15, 3, 3, 2, .null), (.iload 6, 2, 6, 0, .null), (.iload_n 1, 1, 1, 0, .null)] 114 (.iastore) 1 = true := by decide +kernel
theorem b_X3_choose_115_137 : bl2 mX3_choose 115 [(.aload_n 0, 1, 0, 0, .null), (.iload_n 1, 1, 1, 0, .null), (.iconst 1, 1, 0, 0, .int 1), (.iadd, 1, 0, 0, .null), (.iload_n 2, 1, 2, 0, .null), (.iconst 2, 1, 0, 0, .int 2), (.isub, 1, 0, 0, .null), (.iload_n 3, 1, 3, 0, .null), (.iconst 1, 1, 0, 0, .int 1), (.iadd, 1, 0, 0, .null), (.iload 4, 2, 4, 0, .null), (.aload_n 0, 1, 0, 0, .null), (.getfield 29, 3, 3, 0, .null), (.getfield 33, 3, 2, 0, .null), (.iload_n 1, 1, 1, 0, .null), (.iload 6, 2, 6, 0, .null)] 137 (.invokevirtual 59) 3 = true := by decide +kernel
theorem b_X3_choose_140_141 : bl2 mX3_choose 140 [(.iadd, 1, 0, 0, .null)] 141 (.invokevirtual 51) 3 = true := by decide +kernel
theorem b_X3_choose_144_150 : bl2 mX3_choose 144 [(.aload_n 0, 1, 0, 0, .null), (.getfield 15, 3, 3, 2, .null), (.iload_n 1, 1, 1, 0, .null), (.iconst (-1), 1, 0, 0, .int (-1))] 150 (.iastore) 1 = true := by decide +kernel
theorem b_X3_choose_151_158 : bl2 mX3_choose 151 [(.aload_n 0, 1, 0, 0, .null), (.getfield 15, 3, 3, 2, .null), (.iload 6, 2, 6, 0, .null), (.iconst (-1), 1, 0, 0, .int (-1))] 158 (.iastore) 1 = true := by decide +kernel
set_option maxRecDepth 20000 in
set_option maxHeartbeats 2000000 in
theorem ev_choose (E : EE) (L : Nat) (n : Nat) (hn10 : n ≤ 10) : ∀ (k p : Nat) (free made gained : Int32) (F : FF), p + k = n → F 10 5 = nI n → Ev3 E L (3 + k) mX3_choose [.ref 25, .int (nI p), .int free, .int made, .int gained] F none (chF k p free made gained F) := by
  intro k
  induction k with
  | zero =>
    intro p free made gained F hi h5
    refine Ev3.of okX3_choose.2.2.1 (Nat.le_of_ble_eq_true rfl) ?_
    show R2 E L mX3_choose (3 + 0) 0 [some (.ref 25), some (.int (nI p)), some (.int free), some (.int made), some (.int gained), none, none] [] F _
    refine R2.B (ls2 := [some (.ref 25), some (.int (nI p)), some (.int free), some (.int made), some (.int gained), none, none]) (st2 := [.int 2, .int free, .int made]) b_X3_choose_0_3 rfl (fun hd => ?_)
    refine R2.idiv hd (by decide) ?_
    refine R2.B (ls2 := [some (.ref 25), some (.int (nI p)), some (.int free), some (.int made), some (.int gained), none, none]) (st2 := [.int (F 25 4), .int (made + (free / 2))]) b_X3_choose_4_9 rfl (fun hd => ?_)
    refine R2.icmp_ge 13 hd (by decide) (fun c9 => ?_) (fun c9 => ?_)
    · refine R2.B (ls2 := [some (.ref 25), some (.int (nI p)), some (.int free), some (.int made), some (.int gained), some (.int (F 10 5)), none]) (st2 := [.int (F 10 5), .int (nI p)]) b_X3_choose_13_28 rfl (fun hd => ?_)
      rw [show (F 10 5 : Int32) = nI n from h5]
      refine R2.icmp_lt 39 hd (by decide) (fun c28 => absurd c28 (nI_nlt (by omega) (by omega))) (fun c28 => ?_)
      refine R2.B (ls2 := [some (.ref 25), some (.int (nI p)), some (.int free), some (.int made), some (.int gained), some (.int (nI n)), none]) (st2 := [.int gained, .int made, .ref 25]) b_X3_choose_31_35 rfl (fun hd => ?_)
      refine R2.callV3 (M2 := mX3_keepIfBetter) (As := [.int made, .int gained]) (rest := []) hd lk_3_55 okX3_keepIfBetter (by decide) rfl (ev_keepIfBetter E L F made gained) (by omega) rfl rfl (Nat.le_of_ble_eq_true rfl) ?_
      refine R2.B (ls2 := [some (.ref 25), some (.int (nI p)), some (.int free), some (.int made), some (.int gained), some (.int (nI n)), none]) (st2 := []) b_X3_choose_38_38 rfl (fun hd => ?_)
      exact R2.ret3 (r := none) hd trivial rfl rfl (by simp only [chF]; rw [if_neg (Int32.not_lt.mpr c9)])
    · refine R2.B (ls2 := [some (.ref 25), some (.int (nI p)), some (.int free), some (.int made), some (.int gained), none, none]) (st2 := []) b_X3_choose_12_12 rfl (fun hd => ?_)
      exact R2.ret3 (r := none) hd trivial rfl rfl (by simp only [chF]; rw [if_pos (Int32.not_le.mp c9)])
  | succ k ih =>
    intro p free made gained F hi h5
    have inner : ∀ (j q : Nat) (F : FF) (Q : Q2), q + j = n → p < q → F 10 5 = nI n → R2 E L mX3_choose (3 + (k + 1)) 165 [some (.ref 25), some (.int (nI p)), some (.int free), some (.int made), some (.int gained), some (.int (nI n)), none] [] (qfold (chB (chF k (p + 1)) p free made gained) j q F) Q → R2 E L mX3_choose (3 + (k + 1)) 66 [some (.ref 25), some (.int (nI p)), some (.int free), some (.int made), some (.int gained), some (.int (nI n)), some (.int (nI q))] [] F Q := by
      intro j
      induction j with
      | zero =>
        intro q F Q hi2 hpq h5 ex
        refine R2.B (ls2 := [some (.ref 25), some (.int (nI p)), some (.int free), some (.int made), some (.int gained), some (.int (nI n)), some (.int (nI q))]) (st2 := [.int (nI n), .int (nI q)]) b_X3_choose_66_70 rfl (fun hd => ?_)
        refine R2.icmp_ge 165 hd (by decide) (fun c70 => ?_) (fun c70 => absurd (nI_le (by omega) (by omega)) c70)
        refine R2.B (ls2 := [some (.ref 25), some (.int (nI p)), some (.int free), some (.int made), some (.int gained), some (.int (nI n)), some (.int (nI q))]) (st2 := []) b_X3_choose_165_165 rfl (fun hd => ?_)
        refine R2.forget (ls2 := [some (.ref 25), some (.int (nI p)), some (.int free), some (.int made), some (.int gained), some (.int (nI n)), none]) ⟨rfl, ⟨rfl, ⟨rfl, ⟨rfl, ⟨rfl, ⟨rfl, trivial⟩⟩⟩⟩⟩⟩ ?_
        exact ex
      | succ j jh =>
        intro q F Q hi2 hpq h5 ex
        refine R2.B (ls2 := [some (.ref 25), some (.int (nI p)), some (.int free), some (.int made), some (.int gained), some (.int (nI n)), some (.int (nI q))]) (st2 := [.int (nI n), .int (nI q)]) b_X3_choose_66_70 rfl (fun hd => ?_)
        refine R2.icmp_ge 165 hd (by decide) (fun c70 => absurd c70 (nI_ge (by omega) (by omega))) (fun c70 => ?_)
        refine R2.B (ls2 := [some (.ref 25), some (.int (nI p)), some (.int free), some (.int made), some (.int gained), some (.int (nI n)), some (.int (nI q))]) (st2 := [.int (nI q), .ref 27]) b_X3_choose_73_79 rfl (fun hd => ?_)
        refine R2.iald q rfl hd rfl (fun _ => rfl) (by decide) (by omega) ?_
        refine R2.B (ls2 := [some (.ref 25), some (.int (nI p)), some (.int free), some (.int made), some (.int gained), some (.int (nI n)), some (.int (nI q))]) (st2 := [.int (-1), .int (F 27 q)]) b_X3_choose_80_81 rfl (fun hd => ?_)
        refine R2.icmp_ne 159 hd (by decide) (fun c81 => ?_) (fun c81 => ?_)
        · refine R2.B (ls2 := [some (.ref 25), some (.int (nI p)), some (.int free), some (.int made), some (.int gained), some (.int (nI n)), some (.int ((nI q) + 1))]) (st2 := []) b_X3_choose_159_66 rfl (fun hd => ?_)
          rw [show ((nI q) + 1 : Int32) = nI (q + 1) from nI_add q 1]
          have e : qfold (chB (chF k (p + 1)) p free made gained) (j + 1) q F = qfold (chB (chF k (p + 1)) p free made gained) j (q + 1) F := by
            simp only [qfold, chB]; rw [if_neg (by clear hd; grind)]
          rw [e] at ex
          exact jh (q + 1) F Q (by omega) (by omega) h5 ex
        · refine R2.B (ls2 := [some (.ref 25), some (.int (nI p)), some (.int free), some (.int made), some (.int gained), some (.int (nI n)), some (.int (nI q))]) (st2 := [.int (((nI p) * 10) + (nI q)), .ref 26]) b_X3_choose_84_95 rfl (fun hd => ?_)
          refine R2.zald (p * 10 + q) (by rw [show (10 : Int32) = nI 10 from rfl, pk_mul, nI_add]) hd rfl (fun _ => rfl) (by decide) (by omega) ?_
          refine R2.B (ls2 := [some (.ref 25), some (.int (nI p)), some (.int free), some (.int made), some (.int gained), some (.int (nI n)), some (.int (nI q))]) (st2 := [.int (F 26 (p * 10 + q))]) b_X3_choose_96_96 rfl (fun hd => ?_)
          refine R2.if_eq 159 hd (by decide) (fun c96 => ?_) (fun c96 => ?_)
          · refine R2.B (ls2 := [some (.ref 25), some (.int (nI p)), some (.int free), some (.int made), some (.int gained), some (.int (nI n)), some (.int ((nI q) + 1))]) (st2 := []) b_X3_choose_159_66 rfl (fun hd => ?_)
            rw [show ((nI q) + 1 : Int32) = nI (q + 1) from nI_add q 1]
            have e : qfold (chB (chF k (p + 1)) p free made gained) (j + 1) q F = qfold (chB (chF k (p + 1)) p free made gained) j (q + 1) F := by
              simp only [qfold, chB]; rw [if_neg (by clear hd; grind)]
            rw [e] at ex
            exact jh (q + 1) F Q (by omega) (by omega) h5 ex
          · refine R2.B (ls2 := [some (.ref 25), some (.int (nI p)), some (.int free), some (.int made), some (.int gained), some (.int (nI n)), some (.int (nI q))]) (st2 := [.int (nI q), .int (nI p), .ref 27]) b_X3_choose_99_106 rfl (fun hd => ?_)
            refine R2.iast p rfl hd (by decide) rfl (fun _ => rfl) (by decide) (by omega) ?_
            refine R2.B (ls2 := [some (.ref 25), some (.int (nI p)), some (.int free), some (.int made), some (.int gained), some (.int (nI n)), some (.int (nI q))]) (st2 := [.int (nI p), .int (nI q), .ref 27]) b_X3_choose_107_114 rfl (fun hd => ?_)
            refine R2.iast q rfl hd (by decide) rfl (fun _ => rfl) (by decide) (by omega) ?_
            refine R2.B (ls2 := [some (.ref 25), some (.int (nI p)), some (.int free), some (.int made), some (.int gained), some (.int (nI n)), some (.int (nI q))]) (st2 := [.int (nI q), .int (nI p), .ref 10, .int gained, .int (made + 1), .int (free - 2), .int ((nI p) + 1), .ref 25]) b_X3_choose_115_137 rfl (fun hd => ?_)
            rw [show ((nI p) + 1 : Int32) = nI (p + 1) from nI_add p 1]
            refine R2.callV3 (M2 := mX0_gain) (As := [.int (nI p), .int (nI q)]) (rest := [.int gained, .int (made + 1), .int (free - 2), .int (nI (p + 1)), .ref 25]) hd lk_3_59 okX0_gain (by decide) rfl (ev_gain E L (up2 (up2 F 27 p (nI q)) 27 q (nI p)) p q (by omega) (by omega)) (by omega) rfl rfl (Nat.le_of_ble_eq_true rfl) ?_
            refine R2.B (ls2 := [some (.ref 25), some (.int (nI p)), some (.int free), some (.int made), some (.int gained), some (.int (nI n)), some (.int (nI q))]) (st2 := [.int (gained + (gan (F 11) (F 13) p q)), .int (made + 1), .int (free - 2), .int (nI (p + 1)), .ref 25]) b_X3_choose_140_141 rfl (fun hd => ?_)
            refine R2.callV3 (M2 := mX3_choose) (As := [.int (nI (p + 1)), .int (free - 2), .int (made + 1), .int (gained + (gan (F 11) (F 13) p q))]) (rest := []) hd lk_3_51 okX3_choose (by decide) rfl (ih (p + 1) (free - 2) (made + 1) _ _ (by omega) h5) (by omega) rfl rfl (Nat.le_of_ble_eq_true rfl) ?_
            refine R2.B (ls2 := [some (.ref 25), some (.int (nI p)), some (.int free), some (.int made), some (.int gained), some (.int (nI n)), some (.int (nI q))]) (st2 := [.int (-1), .int (nI p), .ref 27]) b_X3_choose_144_150 rfl (fun hd => ?_)
            refine R2.iast p rfl hd (by decide) rfl (fun _ => rfl) (by decide) (by omega) ?_
            refine R2.B (ls2 := [some (.ref 25), some (.int (nI p)), some (.int free), some (.int made), some (.int gained), some (.int (nI n)), some (.int (nI q))]) (st2 := [.int (-1), .int (nI q), .ref 27]) b_X3_choose_151_158 rfl (fun hd => ?_)
            refine R2.iast q rfl hd (by decide) rfl (fun _ => rfl) (by decide) (by omega) ?_
            refine R2.B (ls2 := [some (.ref 25), some (.int (nI p)), some (.int free), some (.int made), some (.int gained), some (.int (nI n)), some (.int ((nI q) + 1))]) (st2 := []) b_X3_choose_159_66 rfl (fun hd => ?_)
            rw [show ((nI q) + 1 : Int32) = nI (q + 1) from nI_add q 1]
            have e : qfold (chB (chF k (p + 1)) p free made gained) (j + 1) q F = qfold (chB (chF k (p + 1)) p free made gained) j (q + 1) (up2 (up2 (chF k (p + 1) (free - 2) (made + 1) (gained + gan (F 11) (F 13) p q) (up2 (up2 F 27 p (nI q)) 27 q (nI p))) 27 p (-1)) 27 q (-1)) := by
              simp only [qfold, chB]; rw [if_pos ⟨c81, c96⟩]
            rw [e] at ex
            refine jh (q + 1) _ Q (by omega) (by omega) ?_ ex
            show chF _ _ _ _ _ _ 10 5 = _
            rw [chF_row (by decide) (by decide) (by decide)]
            exact h5
    refine Ev3.of okX3_choose.2.2.1 (Nat.le_of_ble_eq_true rfl) ?_
    show R2 E L mX3_choose (3 + (k + 1)) 0 [some (.ref 25), some (.int (nI p)), some (.int free), some (.int made), some (.int gained), none, none] [] F _
    refine R2.B (ls2 := [some (.ref 25), some (.int (nI p)), some (.int free), some (.int made), some (.int gained), none, none]) (st2 := [.int 2, .int free, .int made]) b_X3_choose_0_3 rfl (fun hd => ?_)
    refine R2.idiv hd (by decide) ?_
    refine R2.B (ls2 := [some (.ref 25), some (.int (nI p)), some (.int free), some (.int made), some (.int gained), none, none]) (st2 := [.int (F 25 4), .int (made + (free / 2))]) b_X3_choose_4_9 rfl (fun hd => ?_)
    refine R2.icmp_ge 13 hd (by decide) (fun c9 => ?_) (fun c9 => ?_)
    · refine R2.B (ls2 := [some (.ref 25), some (.int (nI p)), some (.int free), some (.int made), some (.int gained), some (.int (F 10 5)), none]) (st2 := [.int (F 10 5), .int (nI p)]) b_X3_choose_13_28 rfl (fun hd => ?_)
      rw [show (F 10 5 : Int32) = nI n from h5]
      refine R2.icmp_lt 39 hd (by decide) (fun c28 => ?_) (fun c28 => absurd (nI_lt (by omega) (by omega)) c28)
      refine R2.B (ls2 := [some (.ref 25), some (.int (nI p)), some (.int free), some (.int made), some (.int gained), some (.int (nI n)), none]) (st2 := [.int (nI p), .ref 27]) b_X3_choose_39_44 rfl (fun hd => ?_)
      refine R2.iald p rfl hd rfl (fun _ => rfl) (by decide) (by omega) ?_
      refine R2.B (ls2 := [some (.ref 25), some (.int (nI p)), some (.int free), some (.int made), some (.int gained), some (.int (nI n)), none]) (st2 := [.int (-1), .int (F 27 p)]) b_X3_choose_45_46 rfl (fun hd => ?_)
      refine R2.icmp_eq 61 hd (by decide) (fun c46 => ?_) (fun c46 => ?_)
      · refine R2.B (ls2 := [some (.ref 25), some (.int (nI p)), some (.int free), some (.int made), some (.int gained), some (.int (nI n)), some (.int ((nI p) + 1))]) (st2 := []) b_X3_choose_61_66 rfl (fun hd => ?_)
        rw [show ((nI p) + 1 : Int32) = nI (p + 1) from nI_add p 1]
        have hF5 : (qfold (chB (chF k (p + 1)) p free made gained) k (p + 1) F) 10 5 = nI n := by
          rw [qfold_row (fun q F => ?_)]
          · exact h5
          · unfold chB; split
            · funext j
              simp only [up2]
              rw [chF_row (by decide) (by decide) (by decide)]
              simp [up2]
            · rfl
        refine inner k (p + 1) F _ (by omega) (by omega) h5 ?_
        refine R2.B (ls2 := [some (.ref 25), some (.int (nI p)), some (.int free), some (.int made), some (.int gained), some (.int (nI n)), none]) (st2 := [.int gained, .int made, .int (free - 1), .int ((nI p) + 1), .ref 25]) b_X3_choose_165_175 rfl (fun hd => ?_)
        rw [show ((nI p) + 1 : Int32) = nI (p + 1) from nI_add p 1]
        refine R2.callV3 (M2 := mX3_choose) (As := [.int (nI (p + 1)), .int (free - 1), .int made, .int gained]) (rest := []) hd lk_3_51 okX3_choose (by decide) rfl (ih (p + 1) (free - 1) made gained _ (by omega) hF5) (by omega) rfl rfl (Nat.le_of_ble_eq_true rfl) ?_
        refine R2.B (ls2 := [some (.ref 25), some (.int (nI p)), some (.int free), some (.int made), some (.int gained), some (.int (nI n)), none]) (st2 := []) b_X3_choose_178_178 rfl (fun hd => ?_)
        exact R2.ret3 (r := none) hd trivial rfl rfl (by simp only [chF]; rw [if_neg (Int32.not_lt.mpr c9), if_pos c46])
      · refine R2.B (ls2 := [some (.ref 25), some (.int (nI p)), some (.int free), some (.int made), some (.int gained), some (.int (nI n)), none]) (st2 := [.int gained, .int made, .int free, .int ((nI p) + 1), .ref 25]) b_X3_choose_49_57 rfl (fun hd => ?_)
        rw [show ((nI p) + 1 : Int32) = nI (p + 1) from nI_add p 1]
        refine R2.callV3 (M2 := mX3_choose) (As := [.int (nI (p + 1)), .int free, .int made, .int gained]) (rest := []) hd lk_3_51 okX3_choose (by decide) rfl (ih (p + 1) free made gained F (by omega) h5) (by omega) rfl rfl (Nat.le_of_ble_eq_true rfl) ?_
        refine R2.B (ls2 := [some (.ref 25), some (.int (nI p)), some (.int free), some (.int made), some (.int gained), some (.int (nI n)), none]) (st2 := []) b_X3_choose_60_60 rfl (fun hd => ?_)
        exact R2.ret3 (r := none) hd trivial rfl rfl (by simp only [chF]; rw [if_neg (Int32.not_lt.mpr c9), if_neg c46])
    · refine R2.B (ls2 := [some (.ref 25), some (.int (nI p)), some (.int free), some (.int made), some (.int gained), none, none]) (st2 := []) b_X3_choose_12_12 rfl (fun hd => ?_)
      exact R2.ret3 (r := none) hd trivial rfl rfl (by simp only [chF]; rw [if_pos (Int32.not_le.mp c9)])
theorem b_X3_solve_29_31 : bl2 mX3_solve 29 [(.iload_n 3, 1, 3, 0, .null), (.iload_n 1, 1, 1, 0, .null)] 31 (.if_icmp .ge 48) 3 = true := by decide +kernel
theorem b_X3_solve_79_79 : bl2 mX3_solve 79 [] 79 (.iinc 2 1) 3 = true := by decide +kernel
theorem b_X3_solve_34_61 : bl2 mX3_solve 34 [(.aload_n 0, 1, 0, 0, .null), (.getfield 9, 3, 3, 1, .null), (.iload_n 2, 1, 2, 0, .null), (.bipush 10, 2, 0, 0, .int 10), (.imul, 1, 0, 0, .null), (.iload_n 3, 1, 3, 0, .null), (.iadd, 1, 0, 0, .null), (.aload_n 0, 1, 0, 0, .null), (.getfield 29, 3, 3, 0, .null), (.aload_n 0, 1, 0, 0, .null), (.getfield 29, 3, 3, 0, .null), (.getfield 33, 3, 2, 0, .null), (.getfield 44, 3, 0, 4, .null), (.iload_n 2, 1, 2, 0, .null), (.iload_n 3, 1, 3, 0, .null), (.iconst (-1), 1, 0, 0, .int (-1))] 61 (.invokevirtual 47) 3 = true := by decide +kernel
theorem b_X3_solve_64_64 : bl2 mX3_solve 64 [] 64 (.ifCond .ne 7) 3 = true := by decide +kernel
theorem b_X3_solve_71_72 : bl2 mX3_solve 71 [(.iconst 0, 1, 0, 0, .int 0)] 72 (.bastore) 1 = true := by decide +kernel
theorem b_X3_solve_73_29 : bl2 mX3_solve 73 [(.iinc 3 1, 3, 3, 0, .int 1), (.goto (-47), 3, 29, 0, .null)] 29 (.iload_n 3) 1 = true := by decide +kernel
theorem b_X3_solve_67_72 : bl2 mX3_solve 67 [(.iconst 1, 1, 0, 0, .int 1), (.goto 4, 3, 72, 0, .null)] 72 (.bastore) 1 = true := by decide +kernel
set_option maxRecDepth 20000 in
set_option maxHeartbeats 2000000 in
theorem lp_slI (E : EE) (L : Nat) (n : Nat) (hn10 : n ≤ 10) (Q : Q2) (a : Nat) (ha : a < n) : ∀ (k : Nat) (b : Nat) (F : FF), b + k = n → F 10 5 = nI n → R2 E L mX3_solve 14 79 [some (.ref 25), some (.int (nI n)), some (.int (nI a)), none] [] (slI n a k b F) Q → R2 E L mX3_solve 14 29 [some (.ref 25), some (.int (nI n)), some (.int (nI a)), some (.int (nI b))] [] F Q := by
  intro k
  induction k with
  | zero =>
    intro b F hi h5 ex
    refine R2.B (ls2 := [some (.ref 25), some (.int (nI n)), some (.int (nI a)), some (.int (nI b))]) (st2 := [.int (nI n), .int (nI b)]) b_X3_solve_29_31 rfl (fun hd => ?_)
    refine R2.icmp_ge 79 hd (by decide) (fun c31 => ?_) (fun c31 => absurd (nI_le (by omega) (by omega)) c31)
    refine R2.B (ls2 := [some (.ref 25), some (.int (nI n)), some (.int (nI a)), some (.int (nI b))]) (st2 := []) b_X3_solve_79_79 rfl (fun hd => ?_)
    refine R2.forget (ls2 := [some (.ref 25), some (.int (nI n)), some (.int (nI a)), none]) ⟨rfl, ⟨rfl, ⟨rfl, trivial⟩⟩⟩ ?_
    exact ex
  | succ k ih =>
    intro b F hi h5 ex
    refine R2.B (ls2 := [some (.ref 25), some (.int (nI n)), some (.int (nI a)), some (.int (nI b))]) (st2 := [.int (nI n), .int (nI b)]) b_X3_solve_29_31 rfl (fun hd => ?_)
    refine R2.icmp_ge 79 hd (by decide) (fun c31 => absurd c31 (nI_ge (by omega) (by omega))) (fun c31 => ?_)
    refine R2.B (ls2 := [some (.ref 25), some (.int (nI n)), some (.int (nI a)), some (.int (nI b))]) (st2 := [.int (-1), .int (nI b), .int (nI a), .ref 15, .ref 16, .int (((nI a) * 10) + (nI b)), .ref 26]) b_X3_solve_34_61 rfl (fun hd => ?_)
    refine R2.callV3 (M2 := mX2_verdict) (As := [.ref 15, .int (nI a), .int (nI b), .int (-1)]) (rest := [.int (((nI a) * 10) + (nI b)), .ref 26]) hd lk_3_47 okX2_verdict (by decide) rfl (ev_verdict E L F n h5 hn10 15 rfl (fun _ => rfl) a b (-1) (by omega) (by omega)) (by decide) rfl rfl (Nat.le_of_ble_eq_true rfl) ?_
    refine R2.B (ls2 := [some (.ref 25), some (.int (nI n)), some (.int (nI a)), some (.int (nI b))]) (st2 := [.int (cvd F (F 15) n (F 17 0) (-1) a b), .int (((nI a) * 10) + (nI b)), .ref 26]) b_X3_solve_64_64 rfl (fun hd => ?_)
    refine R2.if_ne 71 hd (by decide) (fun c64 => ?_) (fun c64 => ?_)
    · refine R2.B (ls2 := [some (.ref 25), some (.int (nI n)), some (.int (nI a)), some (.int (nI b))]) (st2 := [.int 0, .int (((nI a) * 10) + (nI b)), .ref 26]) b_X3_solve_71_72 rfl (fun hd => ?_)
      refine R2.zast (a * 10 + b) (by rw [show (10 : Int32) = nI 10 from rfl, pk_mul, nI_add]) hd (by decide) rfl (fun _ => rfl) (by decide) (by omega) (by decide) ?_
      refine R2.B (ls2 := [some (.ref 25), some (.int (nI n)), some (.int (nI a)), some (.int ((nI b) + 1))]) (st2 := []) b_X3_solve_73_29 rfl (fun hd => ?_)
      rw [show ((nI b) + 1 : Int32) = nI (b + 1) from nI_add b 1]
      refine ih (b + 1) _ (by omega) h5 ?_
      have e : slI n a (k + 1) b F = slI n a k (b + 1) (up2 F 26 (a * 10 + b) 0) := by
        simp only [slI]; rw [if_neg c64]
      rw [← e]
      exact ex
    · refine R2.B (ls2 := [some (.ref 25), some (.int (nI n)), some (.int (nI a)), some (.int (nI b))]) (st2 := [.int 1, .int (((nI a) * 10) + (nI b)), .ref 26]) b_X3_solve_67_72 rfl (fun hd => ?_)
      refine R2.zast (a * 10 + b) (by rw [show (10 : Int32) = nI 10 from rfl, pk_mul, nI_add]) hd (by decide) rfl (fun _ => rfl) (by decide) (by omega) (by decide) ?_
      refine R2.B (ls2 := [some (.ref 25), some (.int (nI n)), some (.int (nI a)), some (.int ((nI b) + 1))]) (st2 := []) b_X3_solve_73_29 rfl (fun hd => ?_)
      rw [show ((nI b) + 1 : Int32) = nI (b + 1) from nI_add b 1]
      refine ih (b + 1) _ (by omega) h5 ?_
      have e : slI n a (k + 1) b F = slI n a k (b + 1) (up2 F 26 (a * 10 + b) 1) := by
        simp only [slI]; rw [if_pos c64]
      rw [← e]
      exact ex
theorem b_X3_solve_13_15 : bl2 mX3_solve 13 [(.iload_n 2, 1, 2, 0, .null), (.iload_n 1, 1, 1, 0, .null)] 15 (.if_icmp .ge 70) 3 = true := by decide +kernel
theorem b_X3_solve_85_85 : bl2 mX3_solve 85 [] 85 (.aload_n 0) 1 = true := by decide +kernel
theorem b_X3_solve_18_24 : bl2 mX3_solve 18 [(.aload_n 0, 1, 0, 0, .null), (.getfield 15, 3, 3, 2, .null), (.iload_n 2, 1, 2, 0, .null), (.iconst (-1), 1, 0, 0, .int (-1))] 24 (.iastore) 1 = true := by decide +kernel
theorem b_X3_solve_25_29 : bl2 mX3_solve 25 [(.iload_n 2, 1, 2, 0, .null), (.iconst 1, 1, 0, 0, .int 1), (.iadd, 1, 0, 0, .null), (.istore_n 3, 1, 3, 0, .null)] 29 (.iload_n 3) 1 = true := by decide +kernel
theorem b_X3_solve_79_13 : bl2 mX3_solve 79 [(.iinc 2 1, 3, 2, 0, .int 1), (.goto (-69), 3, 13, 0, .null)] 13 (.iload_n 2) 1 = true := by decide +kernel
set_option maxRecDepth 20000 in
set_option maxHeartbeats 2000000 in
theorem lp_slO (E : EE) (L : Nat) (n : Nat) (hn10 : n ≤ 10) (Q : Q2) : ∀ (k : Nat) (a : Nat) (F : FF), a + k = n → F 10 5 = nI n → R2 E L mX3_solve 14 85 [some (.ref 25), some (.int (nI n)), none, none] [] (slO n k a F) Q → R2 E L mX3_solve 14 13 [some (.ref 25), some (.int (nI n)), some (.int (nI a)), none] [] F Q := by
  intro k
  induction k with
  | zero =>
    intro a F hi h5 ex
    refine R2.B (ls2 := [some (.ref 25), some (.int (nI n)), some (.int (nI a)), none]) (st2 := [.int (nI n), .int (nI a)]) b_X3_solve_13_15 rfl (fun hd => ?_)
    refine R2.icmp_ge 85 hd (by decide) (fun c15 => ?_) (fun c15 => absurd (nI_le (by omega) (by omega)) c15)
    refine R2.B (ls2 := [some (.ref 25), some (.int (nI n)), some (.int (nI a)), none]) (st2 := []) b_X3_solve_85_85 rfl (fun hd => ?_)
    refine R2.forget (ls2 := [some (.ref 25), some (.int (nI n)), none, none]) ⟨rfl, ⟨rfl, trivial⟩⟩ ?_
    exact ex
  | succ k ih =>
    intro a F hi h5 ex
    refine R2.B (ls2 := [some (.ref 25), some (.int (nI n)), some (.int (nI a)), none]) (st2 := [.int (nI n), .int (nI a)]) b_X3_solve_13_15 rfl (fun hd => ?_)
    refine R2.icmp_ge 85 hd (by decide) (fun c15 => absurd c15 (nI_ge (by omega) (by omega))) (fun c15 => ?_)
    refine R2.B (ls2 := [some (.ref 25), some (.int (nI n)), some (.int (nI a)), none]) (st2 := [.int (-1), .int (nI a), .ref 27]) b_X3_solve_18_24 rfl (fun hd => ?_)
    refine R2.iast a rfl hd (by decide) rfl (fun _ => rfl) (by decide) (by omega) ?_
    refine R2.B (ls2 := [some (.ref 25), some (.int (nI n)), some (.int (nI a)), some (.int ((nI a) + 1))]) (st2 := []) b_X3_solve_25_29 rfl (fun hd => ?_)
    rw [show ((nI a) + 1 : Int32) = nI (a + 1) from nI_add a 1]
    refine lp_slI E L n hn10 Q a (by omega) (n - (a + 1)) (a + 1) _ (by omega) h5 ?_
    refine R2.B (ls2 := [some (.ref 25), some (.int (nI n)), some (.int ((nI a) + 1)), none]) (st2 := []) b_X3_solve_79_13 rfl (fun hd => ?_)
    rw [show ((nI a) + 1 : Int32) = nI (a + 1) from nI_add a 1]
    refine ih (a + 1) _ (by omega) ?_ ex
    rw [slI_row (by decide)]
    exact h5
theorem b_X3_solve_0_13 : bl2 mX3_solve 0 [(.aload_n 0, 1, 0, 0, .null), (.getfield 29, 3, 3, 0, .null), (.getfield 33, 3, 2, 0, .null), (.getfield 39, 3, 0, 5, .null), (.istore_n 1, 1, 1, 0, .null), (.iconst 0, 1, 0, 0, .int 0), (.istore_n 2, 1, 2, 0, .null)] 13 (.iload_n 2) 1 = true := by decide +kernel
theorem b_X3_solve_85_87 : bl2 mX3_solve 85 [(.aload_n 0, 1, 0, 0, .null), (.iconst (-1), 1, 0, 0, .int (-1))] 87 (.putfield 22) 3 = true := by decide +kernel
theorem b_X3_solve_90_92 : bl2 mX3_solve 90 [(.aload_n 0, 1, 0, 0, .null), (.iconst (-1), 1, 0, 0, .int (-1))] 92 (.putfield 26) 3 = true := by decide +kernel
theorem b_X3_solve_95_100 : bl2 mX3_solve 95 [(.aload_n 0, 1, 0, 0, .null), (.iconst 0, 1, 0, 0, .int 0), (.iload_n 1, 1, 1, 0, .null), (.iconst 0, 1, 0, 0, .int 0), (.iconst 0, 1, 0, 0, .int 0)] 100 (.invokevirtual 51) 3 = true := by decide +kernel
theorem b_X3_solve_103_103 : bl2 mX3_solve 103 [] 103 (.return_) 1 = true := by decide +kernel
set_option maxRecDepth 20000 in
set_option maxHeartbeats 1000000 in
theorem ev_solve (E : EE) (L : Nat) (F : FF) (n : Nat) (hn : F 10 5 = nI n) (hn10 : n ≤ 10) : Ev3 E L 14 mX3_solve [.ref 25] F none (solF F n) := by
  refine Ev3.of okX3_solve.2.2.1 (Nat.le_of_ble_eq_true rfl) ?_
  show R2 E L mX3_solve 14 0 [some (.ref 25), none, none, none] [] F _
  refine R2.B (ls2 := [some (.ref 25), some (.int (F 10 5)), some (.int 0), none]) (st2 := []) b_X3_solve_0_13 rfl (fun hd => ?_)
  rw [show (F 10 5 : Int32) = nI n from hn]
  refine lp_slO E L n hn10 _ n 0 F (by omega) hn ?_
  refine R2.B (ls2 := [some (.ref 25), some (.int (nI n)), none, none]) (st2 := [.int (-1), .ref 25]) b_X3_solve_85_87 rfl (fun hd => ?_)
  refine R2.putf (a := 3) (b := 4) hd (by decide) (by decide) rfl rfl (fun _ => rfl) ?_
  refine R2.B (ls2 := [some (.ref 25), some (.int (nI n)), none, none]) (st2 := [.int (-1), .ref 25]) b_X3_solve_90_92 rfl (fun hd => ?_)
  refine R2.putf (a := 3) (b := 5) hd (by decide) (by decide) rfl rfl (fun _ => rfl) ?_
  refine R2.B (ls2 := [some (.ref 25), some (.int (nI n)), none, none]) (st2 := [.int 0, .int 0, .int (nI n), .int 0, .ref 25]) b_X3_solve_95_100 rfl (fun hd => ?_)
  refine R2.callV3 (M2 := mX3_choose) (As := [.int 0, .int (nI n), .int 0, .int 0]) (rest := []) hd lk_3_51 okX3_choose (by decide) rfl (ev_choose E L n hn10 n 0 (nI n) 0 0 _ (by omega) (by show slO n n 0 F 10 5 = _; rw [slO_row (by decide) (by decide)]; exact hn)) (by omega) rfl rfl (Nat.le_of_ble_eq_true rfl) ?_
  refine R2.B (ls2 := [some (.ref 25), some (.int (nI n)), none, none]) (st2 := []) b_X3_solve_103_103 rfl (fun hd => ?_)
  exact R2.ret3 (r := none) hd trivial rfl rfl rfl
end
section
/-! Walk. Printed by wip/whole/gen/spec9.py. -/
theorem nbr_dec : ((List.range 1024).all fun w => (List.range 8).all fun d => decide (nbr (nI w) d = -1) || decide (nbr (nI w) d = nI (nbr (nI w) d).toNatClampNeg ∧ (nbr (nI w) d).toNatClampNeg < 1024)) = true := by decide +kernel
theorem nbr_cases {w d : Nat} (hw : w < 1024) (hd : d < 8) : nbr (nI w) d = -1 ∨ ∃ v, v < 1024 ∧ nbr (nI w) d = nI v := by
  have h := List.all_eq_true.mp (List.all_eq_true.mp nbr_dec w (List.mem_range.mpr hw)) d (List.mem_range.mpr hd)
  rcases (Bool.or_eq_true _ _).mp h with h | h
  · exact Or.inl (of_decide_eq_true h)
  · exact Or.inr ⟨_, (of_decide_eq_true h).2, (of_decide_eq_true h).1⟩
def zq (F : FF) : Nat := (F 29 4).toNatClampNeg
def WOK (F : FF) : Prop := ∃ z, z ≤ 1024 ∧ F 29 4 = nI z ∧ ∀ h, h < z → ∃ w, w < 1024 ∧ F 32 h = nI w
theorem WOK.of {F F' : FF} (h : WOK F) (e1 : F' 29 = F 29) (e2 : F' 32 = F 32) : WOK F' := by unfold WOK; rw [e1, e2]; exact h
theorem zq_eq {F : FF} {z : Nat} (h : F 29 4 = nI z) (hz : z ≤ 1024) : zq F = z := by unfold zq; rw [h]; exact nI_clamp (by omega)
def enqF (F : FF) (w : Nat) (dist : Int32) : FF := if zq F < 1024 then up2 (up2 (up2 F 31 w dist) 32 (zq F) (nI w)) 29 4 (nI (zq F + 1)) else F
theorem enqF_row {F : FF} {w : Nat} {x : Int32} {a : Nat} (h1 : a ≠ 29) (h2 : a ≠ 31) (h3 : a ≠ 32) : enqF F w x a = F a := by
  unfold enqF; split
  · funext j; simp [up2, h1, h2, h3]
  · rfl
theorem WOK.enq {F : FF} (h : WOK F) {w : Nat} (hw : w < 1024) (x : Int32) : WOK (enqF F w x) := by
  obtain ⟨z, hz, e, hq⟩ := h
  unfold enqF
  rw [zq_eq e hz]
  by_cases hl : z < 1024
  · rw [if_pos hl]
    refine ⟨z + 1, by omega, rfl, fun j hj => ?_⟩
    show ∃ w', w' < 1024 ∧ (if j = z then nI w else F 32 j) = nI w'
    by_cases hjz : j = z
    · rw [if_pos hjz]; exact ⟨w, hw, rfl⟩
    · rw [if_neg hjz]; exact hq j (by omega)
  · rw [if_neg hl]; exact ⟨z, hz, e, hq⟩
abbrev opnC (F : FF) (n a : Nat) (x st : Int32) : Prop := x = st ∨ mayS (F 30) a x (F 17 2 * F 17 2) n 0 = true
def qgS (n a b : Nat) (st : Int32) (F : FF) (w : Nat) : FF :=
  if cvd (up2 F 30 a (nI w)) (up2 F 30 a (nI w) 30) n (F 17 0) (-1) a b = 0 ∧ opnC (up2 F 30 a (nI w)) n a (nI w) st then enqF (up2 F 30 a (nI w)) w 0 else up2 F 30 a (nI w)
def qgL (n a b : Nat) (st : Int32) : Nat → Nat → FF → FF
  | 0, _, F => F
  | k + 1, w, F => qgL n a b st k (w + 1) (qgS n a b st F w)
def qnS (n a : Nat) (st : Int32) (w d : Nat) (F : FF) : FF :=
  if nbr (nI w) d = -1 ∨ ¬ F 31 (nbr (nI w) d).toNatClampNeg = -1 then F
  else if opnC F n a (nbr (nI w) d) st then enqF F (nbr (nI w) d).toNatClampNeg (F 31 w + 1)
  else up2 F 31 (nbr (nI w) d).toNatClampNeg (-2)
def qnL (n a : Nat) (st : Int32) (w : Nat) : Nat → Nat → FF → FF
  | 0, _, F => F
  | k + 1, d, F => qnL n a st w k (d + 1) (qnS n a st w d F)
def srL (n a : Nat) (s0 : Nat) : Nat → Nat → FF → FF
  | 0, _, F => F
  | k + 1, h, F => if h < zq F ∧ F 31 s0 = -1 then srL n a s0 k (h + 1) (qnL n a (nI s0) (F 32 h).toNatClampNeg 8 0 F) else F
def srch (F : FF) (n a b s0 : Nat) : FF := srL n a s0 1024 0 (qgL n a b (nI s0) 1024 0 (up2 (fillF (cpyF F 15 30 0 0 10) 31 1024 (-1)) 29 4 0))
def ldL (S : Nat → Int32) (w : Nat) : Nat → Nat → Int32
  | 0, _ => -1
  | k + 1, d => if ¬ nbr (nI w) d = -1 ∧ S (nbr (nI w) d).toNatClampNeg = S w - 1 then nI d else ldL S w k (d + 1)
def ldD (S : Nat → Int32) (w : Nat) : Int32 := if 0 < S w then ldL S w 8 0 else -1
def drL (S : Nat → Int32) (i : Nat) : Nat → Nat → Nat → Int32 → Int32
  | 0, _, _, last => last
  | k + 1, c, w, last => if i < c then last else if ldD S w = -1 then -1 else drL S i k (c + 1) (nbr (nI w) (ldD S w).toNatClampNeg).toNatClampNeg (ldD S w)
theorem b_X9_isOpen_0_2 : bl2 mX9_isOpen 0 [(.iload_n 2, 1, 2, 0, .null), (.iload_n 3, 1, 3, 0, .null)] 2 (.if_icmp .eq 19) 3 = true := by decide +kernel
theorem b_X9_isOpen_21_26 : bl2 mX9_isOpen 21 [(.iconst 1, 1, 0, 0, .int 1), (.goto 4, 3, 26, 0, .null)] 26 (.ireturn) 1 = true := by decide +kernel
theorem b_X9_isOpen_5_15 : bl2 mX9_isOpen 5 [(.aload_n 0, 1, 0, 0, .null), (.getfield 25, 3, 9, 0, .null), (.aload_n 0, 1, 0, 0, .null), (.getfield 9, 3, 9, 1, .null), (.iload_n 1, 1, 1, 0, .null), (.iload_n 2, 1, 2, 0, .null)] 15 (.invokevirtual 83) 3 = true := by decide +kernel
theorem b_X9_isOpen_18_18 : bl2 mX9_isOpen 18 [] 18 (.ifCond .eq 7) 3 = true := by decide +kernel
theorem b_X9_isOpen_25_26 : bl2 mX9_isOpen 25 [(.iconst 0, 1, 0, 0, .int 0)] 26 (.ireturn) 1 = true := by decide +kernel
set_option maxRecDepth 20000 in
set_option maxHeartbeats 1000000 in
theorem ev_isOpen (E : EE) (L : Nat) (F : FF) (n : Nat) (hn : F 10 5 = nI n) (hn10 : n ≤ 10) (a : Nat) (ha : a < 10) (x st : Int32) : Ev3 E L 3 mX9_isOpen [.ref 29, .int (nI a), .int x, .int st] F (some (.int (b2i (opnC F n a x st)))) F := by
  refine Ev3.of okX9_isOpen.2.2.1 (Nat.le_of_ble_eq_true rfl) ?_
  show R2 E L mX9_isOpen 3 0 [some (.ref 29), some (.int (nI a)), some (.int x), some (.int st)] [] F _
  refine R2.B (ls2 := [some (.ref 29), some (.int (nI a)), some (.int x), some (.int st)]) (st2 := [.int st, .int x]) b_X9_isOpen_0_2 rfl (fun hd => ?_)
  refine R2.icmp_eq 21 hd (by decide) (fun c2 => ?_) (fun c2 => ?_)
  · refine R2.B (ls2 := [some (.ref 29), some (.int (nI a)), some (.int x), some (.int st)]) (st2 := [.int 1]) b_X9_isOpen_21_26 rfl (fun hd => ?_)
    exact R2.ret3 (r := some (.int 1)) hd (Or.inr rfl) rfl (congrArg (fun z => some (Value.int z)) (b2i_t (by clear hd; grind))) rfl
  · refine R2.B (ls2 := [some (.ref 29), some (.int (nI a)), some (.int x), some (.int st)]) (st2 := [.int x, .int (nI a), .ref 30, .ref 16]) b_X9_isOpen_5_15 rfl (fun hd => ?_)
    refine R2.callV3 (M2 := mX2_mayStand) (As := [.ref 30, .int (nI a), .int x]) (rest := []) hd lk_9_83 okX2_mayStand (by decide) rfl (ev_mayStand E L F n hn hn10 30 rfl (fun _ => rfl) a x (by omega)) (by decide) rfl rfl (Nat.le_of_ble_eq_true rfl) ?_
    refine R2.B (ls2 := [some (.ref 29), some (.int (nI a)), some (.int x), some (.int st)]) (st2 := [.int (b2i (mayS (F 30) a x ((F 17 2) * (F 17 2)) n 0 = true))]) b_X9_isOpen_18_18 rfl (fun hd => ?_)
    refine R2.if_eq 25 hd (by decide) (fun c18 => ?_) (fun c18 => ?_)
    · have nc18 : ¬ (mayS (F 30) a x ((F 17 2) * (F 17 2)) n 0 = true) := b2i_zero.mp c18
      refine R2.B (ls2 := [some (.ref 29), some (.int (nI a)), some (.int x), some (.int st)]) (st2 := [.int 0]) b_X9_isOpen_25_26 rfl (fun hd => ?_)
      exact R2.ret3 (r := some (.int 0)) hd (Or.inl rfl) rfl (congrArg (fun z => some (Value.int z)) (b2i_f (by clear hd; grind))) rfl
    · have nc18 : mayS (F 30) a x ((F 17 2) * (F 17 2)) n 0 = true := b2i_nz.mp c18
      refine R2.B (ls2 := [some (.ref 29), some (.int (nI a)), some (.int x), some (.int st)]) (st2 := [.int 1]) b_X9_isOpen_21_26 rfl (fun hd => ?_)
      exact R2.ret3 (r := some (.int 1)) hd (Or.inr rfl) rfl (congrArg (fun z => some (Value.int z)) (b2i_t (by clear hd; grind))) rfl
theorem b_X9_enqueue_0_7 : bl2 mX9_enqueue 0 [(.aload_n 0, 1, 0, 0, .null), (.getfield 21, 3, 9, 4, .null), (.sipush 1024, 3, 0, 0, .int 1024)] 7 (.if_icmp .ge 30) 3 = true := by decide +kernel
theorem b_X9_enqueue_37_37 : bl2 mX9_enqueue 37 [] 37 (.return_) 1 = true := by decide +kernel
theorem b_X9_enqueue_10_16 : bl2 mX9_enqueue 10 [(.aload_n 0, 1, 0, 0, .null), (.getfield 15, 3, 9, 2, .null), (.iload_n 1, 1, 1, 0, .null), (.iload_n 2, 1, 2, 0, .null)] 16 (.iastore) 1 = true := by decide +kernel
theorem b_X9_enqueue_17_26 : bl2 mX9_enqueue 17 [(.aload_n 0, 1, 0, 0, .null), (.getfield 18, 3, 9, 3, .null), (.aload_n 0, 1, 0, 0, .null), (.getfield 21, 3, 9, 4, .null), (.iload_n 1, 1, 1, 0, .null)] 26 (.iastore) 1 = true := by decide +kernel
theorem b_X9_enqueue_27_34 : bl2 mX9_enqueue 27 [(.aload_n 0, 1, 0, 0, .null), (.dup, 1, 0, 0, .null), (.getfield 21, 3, 9, 4, .null), (.iconst 1, 1, 0, 0, .int 1), (.iadd, 1, 0, 0, .null)] 34 (.putfield 21) 3 = true := by decide +kernel
set_option maxRecDepth 20000 in
set_option maxHeartbeats 1000000 in
theorem ev_enqueue (E : EE) (L : Nat) (F : FF) (h : WOK F) (w : Nat) (hw : w < 1024) (x : Int32) : Ev3 E L 1 mX9_enqueue [.ref 29, .int (nI w), .int x] F none (enqF F w x) := by
  obtain ⟨z, hz, e0, -⟩ := h
  refine Ev3.of okX9_enqueue.2.2.1 (Nat.le_of_ble_eq_true rfl) ?_
  show R2 E L mX9_enqueue 1 0 [some (.ref 29), some (.int (nI w)), some (.int x)] [] F _
  refine R2.B (ls2 := [some (.ref 29), some (.int (nI w)), some (.int x)]) (st2 := [.int 1024, .int (F 29 4)]) b_X9_enqueue_0_7 rfl (fun hd => ?_)
  rw [show (F 29 4 : Int32) = nI z from e0]
  refine R2.icmp_ge 37 hd (by decide) (fun c7 => ?_) (fun c7 => ?_)
  · have nc7 : 1024 ≤ z := (nI_leI (a := 1024) (b := z) (by omega) (by omega)).mp c7
    refine R2.B (ls2 := [some (.ref 29), some (.int (nI w)), some (.int x)]) (st2 := []) b_X9_enqueue_37_37 rfl (fun hd => ?_)
    exact R2.ret3 (r := none) hd trivial rfl rfl (by unfold enqF; rw [zq_eq e0 hz]; first | rw [if_pos (show z < 1024 by omega), ← nI_1, ← e0] | rw [if_neg (show ¬ z < 1024 by omega)])
  · have nc7 : ¬ 1024 ≤ z := fun h9 => c7 ((nI_leI (a := 1024) (b := z) (by omega) (by omega)).mpr h9)
    refine R2.B (ls2 := [some (.ref 29), some (.int (nI w)), some (.int x)]) (st2 := [.int x, .int (nI w), .ref 31]) b_X9_enqueue_10_16 rfl (fun hd => ?_)
    refine R2.iast w rfl hd (by decide) rfl (fun _ => rfl) (by decide) (by omega) ?_
    refine R2.B (ls2 := [some (.ref 29), some (.int (nI w)), some (.int x)]) (st2 := [.int (nI w), .int (F 29 4), .ref 32]) b_X9_enqueue_17_26 rfl (fun hd => ?_)
    rw [show (F 29 4 : Int32) = nI z from e0]
    refine R2.iast z rfl hd (by decide) rfl (fun _ => rfl) (by decide) (by omega) ?_
    refine R2.B (ls2 := [some (.ref 29), some (.int (nI w)), some (.int x)]) (st2 := [.int ((F 29 4) + 1), .ref 29]) b_X9_enqueue_27_34 rfl (fun hd => ?_)
    refine R2.putf (a := 9) (b := 4) hd (by decide) (by decide) rfl rfl (fun _ => rfl) ?_
    refine R2.B (ls2 := [some (.ref 29), some (.int (nI w)), some (.int x)]) (st2 := []) b_X9_enqueue_37_37 rfl (fun hd => ?_)
    exact R2.ret3 (r := none) hd trivial rfl rfl (by unfold enqF; rw [zq_eq e0 hz]; first | rw [if_pos (show z < 1024 by omega), ← nI_1, ← e0] | rw [if_neg (show ¬ z < 1024 by omega)])
theorem b_X9_queueGoals_3_8 : bl2 mX9_queueGoals 3 [(.iload 4, 2, 4, 0, .null), (.sipush 1024, 3, 0, 0, .int 1024)] 8 (.if_icmp .ge 52) 3 = true := by decide +kernel
theorem b_X9_queueGoals_60_60 : bl2 mX9_queueGoals 60 [] 60 (.return_) 1 = true := by decide +kernel
theorem b_X9_queueGoals_11_18 : bl2 mX9_queueGoals 11 [(.aload_n 0, 1, 0, 0, .null), (.getfield 9, 3, 9, 1, .null), (.iload_n 1, 1, 1, 0, .null), (.iload 4, 2, 4, 0, .null)] 18 (.iastore) 1 = true := by decide +kernel
theorem b_X9_queueGoals_19_30 : bl2 mX9_queueGoals 19 [(.aload_n 0, 1, 0, 0, .null), (.getfield 25, 3, 9, 0, .null), (.aload_n 0, 1, 0, 0, .null), (.getfield 9, 3, 9, 1, .null), (.iload_n 1, 1, 1, 0, .null), (.iload_n 2, 1, 2, 0, .null), (.iconst (-1), 1, 0, 0, .int (-1))] 30 (.invokevirtual 71) 3 = true := by decide +kernel
theorem b_X9_queueGoals_33_33 : bl2 mX9_queueGoals 33 [] 33 (.ifCond .ne 21) 3 = true := by decide +kernel
theorem b_X9_queueGoals_54_3 : bl2 mX9_queueGoals 54 [(.iinc 4 1, 3, 4, 0, .int 1), (.goto (-54), 3, 3, 0, .null)] 3 (.iload 4) 2 = true := by decide +kernel
theorem b_X9_queueGoals_36_41 : bl2 mX9_queueGoals 36 [(.aload_n 0, 1, 0, 0, .null), (.iload_n 1, 1, 1, 0, .null), (.iload 4, 2, 4, 0, .null), (.iload_n 3, 1, 3, 0, .null)] 41 (.invokevirtual 75) 3 = true := by decide +kernel
theorem b_X9_queueGoals_44_44 : bl2 mX9_queueGoals 44 [] 44 (.ifCond .eq 10) 3 = true := by decide +kernel
theorem b_X9_queueGoals_47_51 : bl2 mX9_queueGoals 47 [(.aload_n 0, 1, 0, 0, .null), (.iload 4, 2, 4, 0, .null), (.iconst 0, 1, 0, 0, .int 0)] 51 (.invokevirtual 79) 3 = true := by decide +kernel
set_option maxRecDepth 20000 in
set_option maxHeartbeats 2000000 in
theorem lp_goals (E : EE) (L : Nat) (n a b : Nat) (st : Int32) (hn10 : n ≤ 10) (ha : a < 10) (hb : b < 10) : ∀ (k : Nat) (w : Nat) (F : FF), w + k = 1024 → F 10 5 = nI n → WOK F → R2 E L mX9_queueGoals 5 3 [some (.ref 29), some (.int (nI a)), some (.int (nI b)), some (.int st), some (.int (nI w))] [] F (fun r' F' => r' = none ∧ F' = qgL n a b st k w F) := by
  intro k
  induction k with
  | zero =>
    intro w F hi h5 hw
    refine R2.B (ls2 := [some (.ref 29), some (.int (nI a)), some (.int (nI b)), some (.int st), some (.int (nI w))]) (st2 := [.int 1024, .int (nI w)]) b_X9_queueGoals_3_8 rfl (fun hd => ?_)
    refine R2.icmp_ge 60 hd (by decide) (fun c8 => ?_) (fun c8 => absurd (nI_le (a := 1024) (b := w) (by omega) (by omega)) c8)
    refine R2.B (ls2 := [some (.ref 29), some (.int (nI a)), some (.int (nI b)), some (.int st), some (.int (nI w))]) (st2 := []) b_X9_queueGoals_60_60 rfl (fun hd => ?_)
    exact R2.ret3 (r := none) hd trivial rfl rfl rfl
  | succ k ih =>
    intro w F hi h5 hw
    refine R2.B (ls2 := [some (.ref 29), some (.int (nI a)), some (.int (nI b)), some (.int st), some (.int (nI w))]) (st2 := [.int 1024, .int (nI w)]) b_X9_queueGoals_3_8 rfl (fun hd => ?_)
    refine R2.icmp_ge 60 hd (by decide) (fun c8 => absurd c8 (nI_ge (b := 1024) (by omega) (by omega))) (fun c8 => ?_)
    refine R2.B (ls2 := [some (.ref 29), some (.int (nI a)), some (.int (nI b)), some (.int st), some (.int (nI w))]) (st2 := [.int (nI w), .int (nI a), .ref 30]) b_X9_queueGoals_11_18 rfl (fun hd => ?_)
    refine R2.iast a rfl hd (by decide) rfl (fun _ => rfl) (by decide) (by omega) ?_
    refine R2.B (ls2 := [some (.ref 29), some (.int (nI a)), some (.int (nI b)), some (.int st), some (.int (nI w))]) (st2 := [.int (-1), .int (nI b), .int (nI a), .ref 30, .ref 16]) b_X9_queueGoals_19_30 rfl (fun hd => ?_)
    refine R2.callV3 (M2 := mX2_verdict) (As := [.ref 30, .int (nI a), .int (nI b), .int (-1)]) (rest := []) hd lk_9_71 okX2_verdict (by decide) rfl (ev_verdict E L (up2 F 30 a (nI w)) n h5 hn10 30 rfl (fun _ => rfl) a b (-1) (by omega) (by omega)) (by decide) rfl rfl (Nat.le_of_ble_eq_true rfl) ?_
    refine R2.B (ls2 := [some (.ref 29), some (.int (nI a)), some (.int (nI b)), some (.int st), some (.int (nI w))]) (st2 := [.int (cvd F ((up2 F 30 a (nI w)) 30) n (F 17 0) (-1) a b)]) b_X9_queueGoals_33_33 rfl (fun hd => ?_)
    refine R2.if_ne 54 hd (by decide) (fun c33 => ?_) (fun c33 => ?_)
    · refine R2.B (ls2 := [some (.ref 29), some (.int (nI a)), some (.int (nI b)), some (.int st), some (.int ((nI w) + 1))]) (st2 := []) b_X9_queueGoals_54_3 rfl (fun hd => ?_)
      rw [show ((nI w) + 1 : Int32) = nI (w + 1) from nI_add w 1]
      have e : qgL n a b st (k + 1) w F = qgL n a b st k (w + 1) (up2 F 30 a (nI w)) := by
        simp only [qgL, qgS]; rw [if_neg (fun z => c33 z.1)]
      rw [e]
      exact ih (w + 1) _ (by omega) h5 hw
    · refine R2.B (ls2 := [some (.ref 29), some (.int (nI a)), some (.int (nI b)), some (.int st), some (.int (nI w))]) (st2 := [.int st, .int (nI w), .int (nI a), .ref 29]) b_X9_queueGoals_36_41 rfl (fun hd => ?_)
      refine R2.callV3 (M2 := mX9_isOpen) (As := [.int (nI a), .int (nI w), .int st]) (rest := []) hd lk_9_75 okX9_isOpen (by decide) rfl (ev_isOpen E L (up2 F 30 a (nI w)) n h5 hn10 a (by omega) (nI w) st) (by decide) rfl rfl (Nat.le_of_ble_eq_true rfl) ?_
      refine R2.B (ls2 := [some (.ref 29), some (.int (nI a)), some (.int (nI b)), some (.int st), some (.int (nI w))]) (st2 := [.int (b2i (opnC (up2 F 30 a (nI w)) n a (nI w) st))]) b_X9_queueGoals_44_44 rfl (fun hd => ?_)
      refine R2.if_eq 54 hd (by decide) (fun c44 => ?_) (fun c44 => ?_)
      · have nc44 : ¬ (opnC (up2 F 30 a (nI w)) n a (nI w) st) := b2i_zero.mp c44
        refine R2.B (ls2 := [some (.ref 29), some (.int (nI a)), some (.int (nI b)), some (.int st), some (.int ((nI w) + 1))]) (st2 := []) b_X9_queueGoals_54_3 rfl (fun hd => ?_)
        rw [show ((nI w) + 1 : Int32) = nI (w + 1) from nI_add w 1]
        have e : qgL n a b st (k + 1) w F = qgL n a b st k (w + 1) (up2 F 30 a (nI w)) := by
          simp only [qgL, qgS]; rw [if_neg (fun z => nc44 z.2)]
        rw [e]
        exact ih (w + 1) _ (by omega) h5 hw
      · have nc44 : opnC (up2 F 30 a (nI w)) n a (nI w) st := b2i_nz.mp c44
        refine R2.B (ls2 := [some (.ref 29), some (.int (nI a)), some (.int (nI b)), some (.int st), some (.int (nI w))]) (st2 := [.int 0, .int (nI w), .ref 29]) b_X9_queueGoals_47_51 rfl (fun hd => ?_)
        refine R2.callV3 (M2 := mX9_enqueue) (As := [.int (nI w), .int 0]) (rest := []) hd lk_9_79 okX9_enqueue (by decide) rfl (ev_enqueue E L (up2 F 30 a (nI w)) hw w (by omega) 0) (by decide) rfl rfl (Nat.le_of_ble_eq_true rfl) ?_
        refine R2.B (ls2 := [some (.ref 29), some (.int (nI a)), some (.int (nI b)), some (.int st), some (.int ((nI w) + 1))]) (st2 := []) b_X9_queueGoals_54_3 rfl (fun hd => ?_)
        rw [show ((nI w) + 1 : Int32) = nI (w + 1) from nI_add w 1]
        have e : qgL n a b st (k + 1) w F = qgL n a b st k (w + 1) (enqF (up2 F 30 a (nI w)) w 0) := by
          simp only [qgL, qgS]; rw [if_pos ⟨c33, nc44⟩]
        rw [e]
        exact ih (w + 1) _ (by omega) ((congrFun (enqF_row (by decide) (by decide) (by decide)) 5).trans h5) ((show WOK (up2 F 30 a (nI w)) from hw).enq (show w < 1024 by omega) 0)
theorem b_X9_queueGoals_0_3 : bl2 mX9_queueGoals 0 [(.iconst 0, 1, 0, 0, .int 0), (.istore 4, 2, 4, 0, .null)] 3 (.iload 4) 2 = true := by decide +kernel
set_option maxRecDepth 20000 in
set_option maxHeartbeats 1000000 in
theorem ev_queueGoals (E : EE) (L : Nat) (F : FF) (n : Nat) (hn : F 10 5 = nI n) (hn10 : n ≤ 10) (a b : Nat) (ha : a < 10) (hb : b < 10) (st : Int32) (hw : WOK F) : Ev3 E L 5 mX9_queueGoals [.ref 29, .int (nI a), .int (nI b), .int st] F none (qgL n a b st 1024 0 F) := by
  refine Ev3.of okX9_queueGoals.2.2.1 (Nat.le_of_ble_eq_true rfl) ?_
  show R2 E L mX9_queueGoals 5 0 [some (.ref 29), some (.int (nI a)), some (.int (nI b)), some (.int st), none] [] F _
  refine R2.B (ls2 := [some (.ref 29), some (.int (nI a)), some (.int (nI b)), some (.int st), some (.int 0)]) (st2 := []) b_X9_queueGoals_0_3 rfl (fun hd => ?_)
  exact lp_goals E L n a b st hn10 ha hb 1024 0 F (by omega) hn hw
theorem b_X9_queueNeighbours_3_7 : bl2 mX9_queueNeighbours 3 [(.iload 4, 2, 4, 0, .null), (.bipush 8, 2, 0, 0, .int 8)] 7 (.if_icmp .ge 74) 3 = true := by decide +kernel
theorem b_X9_queueNeighbours_81_81 : bl2 mX9_queueNeighbours 81 [] 81 (.return_) 1 = true := by decide +kernel
theorem b_X9_queueNeighbours_10_13 : bl2 mX9_queueNeighbours 10 [(.iload_n 2, 1, 2, 0, .null), (.iload 4, 2, 4, 0, .null)] 13 (.invokestatic 67) 3 = true := by decide +kernel
theorem b_X9_queueNeighbours_16_21 : bl2 mX9_queueNeighbours 16 [(.istore 5, 2, 5, 0, .null), (.iload 5, 2, 5, 0, .null), (.iconst (-1), 1, 0, 0, .int (-1))] 21 (.if_icmp .eq 54) 3 = true := by decide +kernel
theorem b_X9_queueNeighbours_75_3 : bl2 mX9_queueNeighbours 75 [(.iinc 4 1, 3, 4, 0, .int 1), (.goto (-75), 3, 3, 0, .null)] 3 (.iload 4) 2 = true := by decide +kernel
theorem b_X9_queueNeighbours_24_30 : bl2 mX9_queueNeighbours 24 [(.aload_n 0, 1, 0, 0, .null), (.getfield 15, 3, 9, 2, .null), (.iload 5, 2, 5, 0, .null)] 30 (.iaload) 1 = true := by decide +kernel
theorem b_X9_queueNeighbours_31_32 : bl2 mX9_queueNeighbours 31 [(.iconst (-1), 1, 0, 0, .int (-1))] 32 (.if_icmp .eq 6) 3 = true := by decide +kernel
theorem b_X9_queueNeighbours_38_43 : bl2 mX9_queueNeighbours 38 [(.aload_n 0, 1, 0, 0, .null), (.iload_n 1, 1, 1, 0, .null), (.iload 5, 2, 5, 0, .null), (.iload_n 3, 1, 3, 0, .null)] 43 (.invokevirtual 75) 3 = true := by decide +kernel
theorem b_X9_queueNeighbours_46_46 : bl2 mX9_queueNeighbours 46 [] 46 (.ifCond .eq 20) 3 = true := by decide +kernel
theorem b_X9_queueNeighbours_66_74 : bl2 mX9_queueNeighbours 66 [(.aload_n 0, 1, 0, 0, .null), (.getfield 15, 3, 9, 2, .null), (.iload 5, 2, 5, 0, .null), (.bipush (-2), 2, 0, 0, .int (-2))] 74 (.iastore) 1 = true := by decide +kernel
theorem b_X9_queueNeighbours_49_57 : bl2 mX9_queueNeighbours 49 [(.aload_n 0, 1, 0, 0, .null), (.iload 5, 2, 5, 0, .null), (.aload_n 0, 1, 0, 0, .null), (.getfield 15, 3, 9, 2, .null), (.iload_n 2, 1, 2, 0, .null)] 57 (.iaload) 1 = true := by decide +kernel
theorem b_X9_queueNeighbours_58_60 : bl2 mX9_queueNeighbours 58 [(.iconst 1, 1, 0, 0, .int 1), (.iadd, 1, 0, 0, .null)] 60 (.invokevirtual 79) 3 = true := by decide +kernel
theorem b_X9_queueNeighbours_63_3 : bl2 mX9_queueNeighbours 63 [(.goto 12, 3, 75, 0, .null), (.iinc 4 1, 3, 4, 0, .int 1), (.goto (-75), 3, 3, 0, .null)] 3 (.iload 4) 2 = true := by decide +kernel
theorem b_X9_queueNeighbours_35_3 : bl2 mX9_queueNeighbours 35 [(.goto 40, 3, 75, 0, .null), (.iinc 4 1, 3, 4, 0, .int 1), (.goto (-75), 3, 3, 0, .null)] 3 (.iload 4) 2 = true := by decide +kernel
set_option maxRecDepth 20000 in
set_option maxHeartbeats 2000000 in
theorem lp_nbrs (E : EE) (L : Nat) (n a w : Nat) (st : Int32) (hn10 : n ≤ 10) (ha : a < 10) (hw0 : w < 1024) : ∀ (k d : Nat) (F : FF), d + k = 8 → F 10 5 = nI n → WOK F → CST F → R2 E L mX9_queueNeighbours 4 3 [some (.ref 29), some (.int (nI a)), some (.int (nI w)), some (.int st), some (.int (nI d)), none] [] F (fun r' F' => r' = none ∧ F' = qnL n a st w k d F) := by
  intro k
  induction k with
  | zero =>
    intro d F hi h5 hw hc
    refine R2.B (ls2 := [some (.ref 29), some (.int (nI a)), some (.int (nI w)), some (.int st), some (.int (nI d)), none]) (st2 := [.int 8, .int (nI d)]) b_X9_queueNeighbours_3_7 rfl (fun hd => ?_)
    refine R2.icmp_ge 81 hd (by decide) (fun c7 => ?_) (fun c7 => absurd (nI_le (a := 8) (by omega) (by omega)) c7)
    refine R2.B (ls2 := [some (.ref 29), some (.int (nI a)), some (.int (nI w)), some (.int st), some (.int (nI d)), none]) (st2 := []) b_X9_queueNeighbours_81_81 rfl (fun hd => ?_)
    exact R2.ret3 (r := none) hd trivial rfl rfl rfl
  | succ k ih =>
    intro d F hi h5 hw hc
    rcases nbr_cases hw0 (show d < 8 by omega) with hv | ⟨v, hv8, hv⟩
    · refine R2.B (ls2 := [some (.ref 29), some (.int (nI a)), some (.int (nI w)), some (.int st), some (.int (nI d)), none]) (st2 := [.int 8, .int (nI d)]) b_X9_queueNeighbours_3_7 rfl (fun hd => ?_)
      refine R2.icmp_ge 81 hd (by decide) (fun c7 => absurd c7 (nI_ge (b := 8) (by omega) (by omega))) (fun c7 => ?_)
      refine R2.B (ls2 := [some (.ref 29), some (.int (nI a)), some (.int (nI w)), some (.int st), some (.int (nI d)), none]) (st2 := [.int (nI d), .int (nI w)]) b_X9_queueNeighbours_10_13 rfl (fun hd => ?_)
      refine R2.callS3 (M2 := mX10_neighbour) (As := [.int (nI w), .int (nI d)]) (rest := []) hd lk_9_67 okX10_neighbour (by decide) (ev_neighbour E L F hc (nI w) d (by omega)) (by decide) rfl rfl (Nat.le_of_ble_eq_true rfl) ?_
      refine R2.top (show (nbr (nI w) d : Int32) = (-1) from hv) ?_
      refine R2.B (ls2 := [some (.ref 29), some (.int (nI a)), some (.int (nI w)), some (.int st), some (.int (nI d)), some (.int (-1))]) (st2 := [.int (-1), .int (-1)]) b_X9_queueNeighbours_16_21 rfl (fun hd => ?_)
      refine R2.icmp_eq 75 hd (by decide) (fun c21 => ?_) (fun c21 => absurd (by decide) c21)
      refine R2.B (ls2 := [some (.ref 29), some (.int (nI a)), some (.int (nI w)), some (.int st), some (.int ((nI d) + 1)), some (.int (-1))]) (st2 := []) b_X9_queueNeighbours_75_3 rfl (fun hd => ?_)
      rw [show ((nI d) + 1 : Int32) = nI (d + 1) from nI_add d 1]
      have e : qnL n a st w (k + 1) d F = qnL n a st w k (d + 1) F := by
        simp only [qnL, qnS]; rw [if_pos (Or.inl hv)]
      rw [e]
      refine R2.forget (ls2 := [some (.ref 29), some (.int (nI a)), some (.int (nI w)), some (.int st), some (.int (nI (d + 1))), none]) ⟨rfl, ⟨rfl, ⟨rfl, ⟨rfl, ⟨rfl, trivial⟩⟩⟩⟩⟩ ?_
      exact ih (d + 1) _ (by omega) h5 hw hc
    · have hv1 : ¬ nI v = -1 := fun z => by have := nI_pos (n := v) (by omega); rw [z] at this; exact this (by decide)
      refine R2.B (ls2 := [some (.ref 29), some (.int (nI a)), some (.int (nI w)), some (.int st), some (.int (nI d)), none]) (st2 := [.int 8, .int (nI d)]) b_X9_queueNeighbours_3_7 rfl (fun hd => ?_)
      refine R2.icmp_ge 81 hd (by decide) (fun c7 => absurd c7 (nI_ge (b := 8) (by omega) (by omega))) (fun c7 => ?_)
      refine R2.B (ls2 := [some (.ref 29), some (.int (nI a)), some (.int (nI w)), some (.int st), some (.int (nI d)), none]) (st2 := [.int (nI d), .int (nI w)]) b_X9_queueNeighbours_10_13 rfl (fun hd => ?_)
      refine R2.callS3 (M2 := mX10_neighbour) (As := [.int (nI w), .int (nI d)]) (rest := []) hd lk_9_67 okX10_neighbour (by decide) (ev_neighbour E L F hc (nI w) d (by omega)) (by decide) rfl rfl (Nat.le_of_ble_eq_true rfl) ?_
      refine R2.top (show (nbr (nI w) d : Int32) = nI v from hv) ?_
      refine R2.B (ls2 := [some (.ref 29), some (.int (nI a)), some (.int (nI w)), some (.int st), some (.int (nI d)), some (.int (nI v))]) (st2 := [.int (-1), .int (nI v)]) b_X9_queueNeighbours_16_21 rfl (fun hd => ?_)
      refine R2.icmp_eq 75 hd (by decide) (fun c21 => absurd c21 (show ¬ nI v = -1 from hv1)) (fun c21 => ?_)
      refine R2.B (ls2 := [some (.ref 29), some (.int (nI a)), some (.int (nI w)), some (.int st), some (.int (nI d)), some (.int (nI v))]) (st2 := [.int (nI v), .ref 31]) b_X9_queueNeighbours_24_30 rfl (fun hd => ?_)
      refine R2.iald v rfl hd rfl (fun _ => rfl) (by decide) (by omega) ?_
      refine R2.B (ls2 := [some (.ref 29), some (.int (nI a)), some (.int (nI w)), some (.int st), some (.int (nI d)), some (.int (nI v))]) (st2 := [.int (-1), .int (F 31 v)]) b_X9_queueNeighbours_31_32 rfl (fun hd => ?_)
      refine R2.icmp_eq 38 hd (by decide) (fun c32 => ?_) (fun c32 => ?_)
      · refine R2.B (ls2 := [some (.ref 29), some (.int (nI a)), some (.int (nI w)), some (.int st), some (.int (nI d)), some (.int (nI v))]) (st2 := [.int st, .int (nI v), .int (nI a), .ref 29]) b_X9_queueNeighbours_38_43 rfl (fun hd => ?_)
        refine R2.callV3 (M2 := mX9_isOpen) (As := [.int (nI a), .int (nI v), .int st]) (rest := []) hd lk_9_75 okX9_isOpen (by decide) rfl (ev_isOpen E L F n h5 hn10 a (by omega) (nI v) st) (by decide) rfl rfl (Nat.le_of_ble_eq_true rfl) ?_
        refine R2.B (ls2 := [some (.ref 29), some (.int (nI a)), some (.int (nI w)), some (.int st), some (.int (nI d)), some (.int (nI v))]) (st2 := [.int (b2i (opnC F n a (nI v) st))]) b_X9_queueNeighbours_46_46 rfl (fun hd => ?_)
        refine R2.if_eq 66 hd (by decide) (fun c46 => ?_) (fun c46 => ?_)
        · have nc46 : ¬ (opnC F n a (nI v) st) := b2i_zero.mp c46
          refine R2.B (ls2 := [some (.ref 29), some (.int (nI a)), some (.int (nI w)), some (.int st), some (.int (nI d)), some (.int (nI v))]) (st2 := [.int (-2), .int (nI v), .ref 31]) b_X9_queueNeighbours_66_74 rfl (fun hd => ?_)
          refine R2.iast v rfl hd (by decide) rfl (fun _ => rfl) (by decide) (by omega) ?_
          refine R2.B (ls2 := [some (.ref 29), some (.int (nI a)), some (.int (nI w)), some (.int st), some (.int ((nI d) + 1)), some (.int (nI v))]) (st2 := []) b_X9_queueNeighbours_75_3 rfl (fun hd => ?_)
          rw [show ((nI d) + 1 : Int32) = nI (d + 1) from nI_add d 1]
          have e : qnL n a st w (k + 1) d F = qnL n a st w k (d + 1) (up2 F 31 v (-2)) := by
            simp only [qnL, qnS]; rw [hv, nI_clamp (by omega), if_neg (show ¬ (nI v = -1 ∨ ¬ F 31 v = -1) from fun z => z.elim hv1 (fun z => z c32)), if_neg nc46]
          rw [e]
          refine R2.forget (ls2 := [some (.ref 29), some (.int (nI a)), some (.int (nI w)), some (.int st), some (.int (nI (d + 1))), none]) ⟨rfl, ⟨rfl, ⟨rfl, ⟨rfl, ⟨rfl, trivial⟩⟩⟩⟩⟩ ?_
          exact ih (d + 1) _ (by omega) h5 hw hc
        · have nc46 : opnC F n a (nI v) st := b2i_nz.mp c46
          refine R2.B (ls2 := [some (.ref 29), some (.int (nI a)), some (.int (nI w)), some (.int st), some (.int (nI d)), some (.int (nI v))]) (st2 := [.int (nI w), .ref 31, .int (nI v), .ref 29]) b_X9_queueNeighbours_49_57 rfl (fun hd => ?_)
          refine R2.iald w rfl hd rfl (fun _ => rfl) (by decide) (by omega) ?_
          refine R2.B (ls2 := [some (.ref 29), some (.int (nI a)), some (.int (nI w)), some (.int st), some (.int (nI d)), some (.int (nI v))]) (st2 := [.int ((F 31 w) + 1), .int (nI v), .ref 29]) b_X9_queueNeighbours_58_60 rfl (fun hd => ?_)
          refine R2.callV3 (M2 := mX9_enqueue) (As := [.int (nI v), .int ((F 31 w) + 1)]) (rest := []) hd lk_9_79 okX9_enqueue (by decide) rfl (ev_enqueue E L F hw v (by omega) ((F 31 w) + 1)) (by decide) rfl rfl (Nat.le_of_ble_eq_true rfl) ?_
          refine R2.B (ls2 := [some (.ref 29), some (.int (nI a)), some (.int (nI w)), some (.int st), some (.int ((nI d) + 1)), some (.int (nI v))]) (st2 := []) b_X9_queueNeighbours_63_3 rfl (fun hd => ?_)
          rw [show ((nI d) + 1 : Int32) = nI (d + 1) from nI_add d 1]
          have e : qnL n a st w (k + 1) d F = qnL n a st w k (d + 1) (enqF F v ((F 31 w) + 1)) := by
            simp only [qnL, qnS]; rw [hv, nI_clamp (by omega), if_neg (show ¬ (nI v = -1 ∨ ¬ F 31 v = -1) from fun z => z.elim hv1 (fun z => z c32)), if_pos nc46]
          rw [e]
          refine R2.forget (ls2 := [some (.ref 29), some (.int (nI a)), some (.int (nI w)), some (.int st), some (.int (nI (d + 1))), none]) ⟨rfl, ⟨rfl, ⟨rfl, ⟨rfl, ⟨rfl, trivial⟩⟩⟩⟩⟩ ?_
          exact ih (d + 1) _ (by omega) ((congrFun (enqF_row (by decide) (by decide) (by decide)) 5).trans h5) (hw.enq (by omega) _) (hc.of (enqF_row (by decide) (by decide) (by decide)) (enqF_row (by decide) (by decide) (by decide)) (enqF_row (by decide) (by decide) (by decide)) (enqF_row (by decide) (by decide) (by decide)))
      · refine R2.B (ls2 := [some (.ref 29), some (.int (nI a)), some (.int (nI w)), some (.int st), some (.int ((nI d) + 1)), some (.int (nI v))]) (st2 := []) b_X9_queueNeighbours_35_3 rfl (fun hd => ?_)
        rw [show ((nI d) + 1 : Int32) = nI (d + 1) from nI_add d 1]
        have e : qnL n a st w (k + 1) d F = qnL n a st w k (d + 1) F := by
          simp only [qnL, qnS]; rw [hv, nI_clamp (by omega), if_pos (Or.inr c32)]
        rw [e]
        refine R2.forget (ls2 := [some (.ref 29), some (.int (nI a)), some (.int (nI w)), some (.int st), some (.int (nI (d + 1))), none]) ⟨rfl, ⟨rfl, ⟨rfl, ⟨rfl, ⟨rfl, trivial⟩⟩⟩⟩⟩ ?_
        exact ih (d + 1) _ (by omega) h5 hw hc
theorem b_X9_queueNeighbours_0_3 : bl2 mX9_queueNeighbours 0 [(.iconst 0, 1, 0, 0, .int 0), (.istore 4, 2, 4, 0, .null)] 3 (.iload 4) 2 = true := by decide +kernel
set_option maxRecDepth 20000 in
set_option maxHeartbeats 1000000 in
theorem ev_queueNeighbours (E : EE) (L : Nat) (F : FF) (hc : CST F) (n : Nat) (hn : F 10 5 = nI n) (hn10 : n ≤ 10) (a w : Nat) (ha : a < 10) (hw0 : w < 1024) (st : Int32) (hw : WOK F) : Ev3 E L 4 mX9_queueNeighbours [.ref 29, .int (nI a), .int (nI w), .int st] F none (qnL n a st w 8 0 F) := by
  refine Ev3.of okX9_queueNeighbours.2.2.1 (Nat.le_of_ble_eq_true rfl) ?_
  show R2 E L mX9_queueNeighbours 4 0 [some (.ref 29), some (.int (nI a)), some (.int (nI w)), some (.int st), none, none] [] F _
  refine R2.B (ls2 := [some (.ref 29), some (.int (nI a)), some (.int (nI w)), some (.int st), some (.int 0), none]) (st2 := []) b_X9_queueNeighbours_0_3 rfl (fun hd => ?_)
  exact lp_nbrs E L n a w st hn10 ha hw0 8 0 F (by omega) hn hw hc
end
section
/-! Walk: search, direction. Printed by wip/whole/gen/spec10.py. -/
theorem nI_m1 {v : Nat} (h : v < 2147483648) : ¬ nI v = -1 := fun z => by
  have := nI_pos (n := v) h
  rw [z] at this
  exact this (by decide)
theorem qnS_row {n a w d : Nat} {st : Int32} {F : FF} {x : Nat} (h1 : x ≠ 29) (h2 : x ≠ 31) (h3 : x ≠ 32) : qnS n a st w d F x = F x := by
  unfold qnS; split
  · rfl
  · split
    · exact enqF_row h1 h2 h3
    · funext j; simp [up2, h2]
theorem qnS_wok {n a w d : Nat} {st : Int32} {F : FF} (hw : w < 1024) (hd : d < 8) (h : WOK F) : WOK (qnS n a st w d F) := by
  unfold qnS; split
  · exact h
  · rename_i hx
    rcases nbr_cases hw hd with hv | ⟨v, hv8, hv⟩
    · exact absurd (Or.inl hv) hx
    · rw [hv, nI_clamp (by omega)]
      split
      · exact h.enq hv8 _
      · exact h.of rfl rfl
theorem qnL_row {n a w : Nat} {st : Int32} {x : Nat} (h1 : x ≠ 29) (h2 : x ≠ 31) (h3 : x ≠ 32) : ∀ (k d : Nat) (F : FF), qnL n a st w k d F x = F x
  | 0, _, _ => rfl
  | k + 1, d, F => by rw [qnL, qnL_row h1 h2 h3 k, qnS_row h1 h2 h3]
theorem qnL_wok {n a w : Nat} {st : Int32} (hw : w < 1024) : ∀ (k d : Nat) (F : FF), d + k = 8 → WOK F → WOK (qnL n a st w k d F)
  | 0, _, _, _, h => h
  | k + 1, d, F, hd, h => by rw [qnL]; exact qnL_wok hw k (d + 1) _ (by omega) (qnS_wok hw (by omega) h)
theorem qgS_row {n a b w : Nat} {st : Int32} {F : FF} {x : Nat} (h0 : x ≠ 30) (h1 : x ≠ 29) (h2 : x ≠ 31) (h3 : x ≠ 32) : qgS n a b st F w x = F x := by
  unfold qgS; split
  · rw [enqF_row h1 h2 h3]; funext j; simp [up2, h0]
  · funext j; simp [up2, h0]
theorem qgS_wok {n a b w : Nat} {st : Int32} {F : FF} (hw : w < 1024) (h : WOK F) : WOK (qgS n a b st F w) := by
  unfold qgS; split
  · exact (show WOK (up2 F 30 a (nI w)) from h).enq hw _
  · exact h
theorem qgL_row {n a b : Nat} {st : Int32} {x : Nat} (h0 : x ≠ 30) (h1 : x ≠ 29) (h2 : x ≠ 31) (h3 : x ≠ 32) : ∀ (k w : Nat) (F : FF), qgL n a b st k w F x = F x
  | 0, _, _ => rfl
  | k + 1, w, F => by rw [qgL, qgL_row h0 h1 h2 h3 k, qgS_row h0 h1 h2 h3]
theorem qgL_wok {n a b : Nat} {st : Int32} : ∀ (k w : Nat) (F : FF), w + k = 1024 → WOK F → WOK (qgL n a b st k w F)
  | 0, _, _, _, h => h
  | k + 1, w, F, hw, h => by rw [qgL]; exact qgL_wok k (w + 1) _ (by omega) (qgS_wok (by omega) h)
theorem b_X9_search_74_79 : bl2 mX9_search 74 [(.iload 4, 2, 4, 0, .null), (.sipush 1024, 3, 0, 0, .int 1024)] 79 (.if_icmp .ge 41) 3 = true := by decide +kernel
theorem b_X9_search_120_125 : bl2 mX9_search 120 [(.aload_n 0, 1, 0, 0, .null), (.getfield 15, 3, 9, 2, .null), (.iload_n 3, 1, 3, 0, .null)] 125 (.iaload) 1 = true := by decide +kernel
theorem b_X9_search_126_127 : bl2 mX9_search 126 [(.iconst (-1), 1, 0, 0, .int (-1))] 127 (.if_icmp .ne 7) 3 = true := by decide +kernel
theorem b_X9_search_134_139 : bl2 mX9_search 134 [(.aload_n 0, 1, 0, 0, .null), (.getfield 15, 3, 9, 2, .null), (.iload_n 3, 1, 3, 0, .null)] 139 (.iaload) 1 = true := by decide +kernel
theorem b_X9_search_140_140 : bl2 mX9_search 140 [] 140 (.ireturn) 1 = true := by decide +kernel
theorem b_X9_search_130_140 : bl2 mX9_search 130 [(.iconst (-1), 1, 0, 0, .int (-1)), (.goto 9, 3, 140, 0, .null)] 140 (.ireturn) 1 = true := by decide +kernel
theorem b_X9_search_82_88 : bl2 mX9_search 82 [(.iload 4, 2, 4, 0, .null), (.aload_n 0, 1, 0, 0, .null), (.getfield 21, 3, 9, 4, .null)] 88 (.if_icmp .ge 32) 3 = true := by decide +kernel
theorem b_X9_search_91_96 : bl2 mX9_search 91 [(.aload_n 0, 1, 0, 0, .null), (.getfield 15, 3, 9, 2, .null), (.iload_n 3, 1, 3, 0, .null)] 96 (.iaload) 1 = true := by decide +kernel
theorem b_X9_search_97_98 : bl2 mX9_search 97 [(.iconst (-1), 1, 0, 0, .int (-1))] 98 (.if_icmp .ne 22) 3 = true := by decide +kernel
theorem b_X9_search_101_109 : bl2 mX9_search 101 [(.aload_n 0, 1, 0, 0, .null), (.iload_n 1, 1, 1, 0, .null), (.aload_n 0, 1, 0, 0, .null), (.getfield 18, 3, 9, 3, .null), (.iload 4, 2, 4, 0, .null)] 109 (.iaload) 1 = true := by decide +kernel
theorem b_X9_search_110_111 : bl2 mX9_search 110 [(.iload_n 3, 1, 3, 0, .null)] 111 (.invokevirtual 60) 3 = true := by decide +kernel
theorem b_X9_search_114_74 : bl2 mX9_search 114 [(.iinc 4 1, 3, 4, 0, .int 1), (.goto (-43), 3, 74, 0, .null)] 74 (.iload 4) 2 = true := by decide +kernel
set_option maxRecDepth 20000 in
set_option maxHeartbeats 2000000 in
theorem lp_srch (E : EE) (L : Nat) (n a b s0 : Nat) (hn10 : n ≤ 10) (ha : a < 10) (hs0 : s0 < 1024) : ∀ (k : Nat) (h : Nat) (F : FF), h + k = 1024 → F 10 5 = nI n → WOK F → CST F → R2 E L mX9_search 6 74 [some (.ref 29), some (.int (nI a)), some (.int (nI b)), some (.int (nI s0)), some (.int (nI h))] [] F (fun r' F' => r' = some (.int (srL n a s0 k h F 31 s0)) ∧ F' = srL n a s0 k h F) := by
  intro k
  induction k with
  | zero =>
    intro h F hi h5 hw hc
    have hw1 := hw
    obtain ⟨z, hz, e0, hq⟩ := hw1
    refine R2.B (ls2 := [some (.ref 29), some (.int (nI a)), some (.int (nI b)), some (.int (nI s0)), some (.int (nI h))]) (st2 := [.int 1024, .int (nI h)]) b_X9_search_74_79 rfl (fun hd => ?_)
    refine R2.icmp_ge 120 hd (by decide) (fun c79 => ?_) (fun c79 => absurd (nI_le (a := 1024) (b := h) (by omega) (by omega)) c79)
    refine R2.B (ls2 := [some (.ref 29), some (.int (nI a)), some (.int (nI b)), some (.int (nI s0)), some (.int (nI h))]) (st2 := [.int (nI s0), .ref 31]) b_X9_search_120_125 rfl (fun hd => ?_)
    refine R2.iald s0 rfl hd rfl (fun _ => rfl) (by decide) (by omega) ?_
    refine R2.B (ls2 := [some (.ref 29), some (.int (nI a)), some (.int (nI b)), some (.int (nI s0)), some (.int (nI h))]) (st2 := [.int (-1), .int (F 31 s0)]) b_X9_search_126_127 rfl (fun hd => ?_)
    refine R2.icmp_ne 134 hd (by decide) (fun c127 => ?_) (fun c127 => ?_)
    · refine R2.B (ls2 := [some (.ref 29), some (.int (nI a)), some (.int (nI b)), some (.int (nI s0)), some (.int (nI h))]) (st2 := [.int (nI s0), .ref 31]) b_X9_search_134_139 rfl (fun hd => ?_)
      refine R2.iald s0 rfl hd rfl (fun _ => rfl) (by decide) (by omega) ?_
      refine R2.B (ls2 := [some (.ref 29), some (.int (nI a)), some (.int (nI b)), some (.int (nI s0)), some (.int (nI h))]) (st2 := [.int (F 31 s0)]) b_X9_search_140_140 rfl (fun hd => ?_)
      have e : srL n a s0 0 h F = F := rfl
      exact R2.ret3 (r := some (.int (F 31 s0))) hd trivial rfl (by first | (rw [e]; done) | rw [e, c127]) (by rw [e])
    · refine R2.B (ls2 := [some (.ref 29), some (.int (nI a)), some (.int (nI b)), some (.int (nI s0)), some (.int (nI h))]) (st2 := [.int (-1)]) b_X9_search_130_140 rfl (fun hd => ?_)
      have e : srL n a s0 0 h F = F := rfl
      exact R2.ret3 (r := some (.int (-1))) hd trivial rfl (by first | (rw [e]; done) | rw [e, c127]) (by rw [e])
  | succ k ih =>
    intro h F hi h5 hw hc
    have hw1 := hw
    obtain ⟨z, hz, e0, hq⟩ := hw1
    refine R2.B (ls2 := [some (.ref 29), some (.int (nI a)), some (.int (nI b)), some (.int (nI s0)), some (.int (nI h))]) (st2 := [.int 1024, .int (nI h)]) b_X9_search_74_79 rfl (fun hd => ?_)
    refine R2.icmp_ge 120 hd (by decide) (fun c79 => absurd c79 (nI_ge (b := 1024) (by omega) (by omega))) (fun c79 => ?_)
    refine R2.B (ls2 := [some (.ref 29), some (.int (nI a)), some (.int (nI b)), some (.int (nI s0)), some (.int (nI h))]) (st2 := [.int (F 29 4), .int (nI h)]) b_X9_search_82_88 rfl (fun hd => ?_)
    rw [show (F 29 4 : Int32) = nI z from e0]
    refine R2.icmp_ge 120 hd (by decide) (fun c88 => ?_) (fun c88 => ?_)
    · have nc88 : z ≤ h := (nI_leI (a := z) (b := h) (by omega) (by omega)).mp c88
      refine R2.B (ls2 := [some (.ref 29), some (.int (nI a)), some (.int (nI b)), some (.int (nI s0)), some (.int (nI h))]) (st2 := [.int (nI s0), .ref 31]) b_X9_search_120_125 rfl (fun hd => ?_)
      refine R2.iald s0 rfl hd rfl (fun _ => rfl) (by decide) (by omega) ?_
      refine R2.B (ls2 := [some (.ref 29), some (.int (nI a)), some (.int (nI b)), some (.int (nI s0)), some (.int (nI h))]) (st2 := [.int (-1), .int (F 31 s0)]) b_X9_search_126_127 rfl (fun hd => ?_)
      refine R2.icmp_ne 134 hd (by decide) (fun c127 => ?_) (fun c127 => ?_)
      · refine R2.B (ls2 := [some (.ref 29), some (.int (nI a)), some (.int (nI b)), some (.int (nI s0)), some (.int (nI h))]) (st2 := [.int (nI s0), .ref 31]) b_X9_search_134_139 rfl (fun hd => ?_)
        refine R2.iald s0 rfl hd rfl (fun _ => rfl) (by decide) (by omega) ?_
        refine R2.B (ls2 := [some (.ref 29), some (.int (nI a)), some (.int (nI b)), some (.int (nI s0)), some (.int (nI h))]) (st2 := [.int (F 31 s0)]) b_X9_search_140_140 rfl (fun hd => ?_)
        have e : srL n a s0 (k + 1) h F = F := by simp only [srL]; rw [if_neg (fun z9 => by rw [zq_eq e0 hz] at z9; omega)]
        exact R2.ret3 (r := some (.int (F 31 s0))) hd trivial rfl (by first | (rw [e]; done) | rw [e, c127]) (by rw [e])
      · refine R2.B (ls2 := [some (.ref 29), some (.int (nI a)), some (.int (nI b)), some (.int (nI s0)), some (.int (nI h))]) (st2 := [.int (-1)]) b_X9_search_130_140 rfl (fun hd => ?_)
        have e : srL n a s0 (k + 1) h F = F := by simp only [srL]; rw [if_neg (fun z9 => by rw [zq_eq e0 hz] at z9; omega)]
        exact R2.ret3 (r := some (.int (-1))) hd trivial rfl (by first | (rw [e]; done) | rw [e, c127]) (by rw [e])
    · have nc88 : ¬ z ≤ h := fun h9 => c88 ((nI_leI (a := z) (b := h) (by omega) (by omega)).mpr h9)
      refine R2.B (ls2 := [some (.ref 29), some (.int (nI a)), some (.int (nI b)), some (.int (nI s0)), some (.int (nI h))]) (st2 := [.int (nI s0), .ref 31]) b_X9_search_91_96 rfl (fun hd => ?_)
      refine R2.iald s0 rfl hd rfl (fun _ => rfl) (by decide) (by omega) ?_
      refine R2.B (ls2 := [some (.ref 29), some (.int (nI a)), some (.int (nI b)), some (.int (nI s0)), some (.int (nI h))]) (st2 := [.int (-1), .int (F 31 s0)]) b_X9_search_97_98 rfl (fun hd => ?_)
      refine R2.icmp_ne 120 hd (by decide) (fun c98 => ?_) (fun c98 => ?_)
      · refine R2.B (ls2 := [some (.ref 29), some (.int (nI a)), some (.int (nI b)), some (.int (nI s0)), some (.int (nI h))]) (st2 := [.int (nI s0), .ref 31]) b_X9_search_120_125 rfl (fun hd => ?_)
        refine R2.iald s0 rfl hd rfl (fun _ => rfl) (by decide) (by omega) ?_
        refine R2.B (ls2 := [some (.ref 29), some (.int (nI a)), some (.int (nI b)), some (.int (nI s0)), some (.int (nI h))]) (st2 := [.int (-1), .int (F 31 s0)]) b_X9_search_126_127 rfl (fun hd => ?_)
        refine R2.icmp_ne 134 hd (by decide) (fun c127 => ?_) (fun c127 => ?_)
        · refine R2.B (ls2 := [some (.ref 29), some (.int (nI a)), some (.int (nI b)), some (.int (nI s0)), some (.int (nI h))]) (st2 := [.int (nI s0), .ref 31]) b_X9_search_134_139 rfl (fun hd => ?_)
          refine R2.iald s0 rfl hd rfl (fun _ => rfl) (by decide) (by omega) ?_
          refine R2.B (ls2 := [some (.ref 29), some (.int (nI a)), some (.int (nI b)), some (.int (nI s0)), some (.int (nI h))]) (st2 := [.int (F 31 s0)]) b_X9_search_140_140 rfl (fun hd => ?_)
          have e : srL n a s0 (k + 1) h F = F := by simp only [srL]; rw [if_neg (fun z => c98 z.2)]
          exact R2.ret3 (r := some (.int (F 31 s0))) hd trivial rfl (by first | (rw [e]; done) | rw [e, c127]) (by rw [e])
        · refine R2.B (ls2 := [some (.ref 29), some (.int (nI a)), some (.int (nI b)), some (.int (nI s0)), some (.int (nI h))]) (st2 := [.int (-1)]) b_X9_search_130_140 rfl (fun hd => ?_)
          have e : srL n a s0 (k + 1) h F = F := by simp only [srL]; rw [if_neg (fun z => c98 z.2)]
          exact R2.ret3 (r := some (.int (-1))) hd trivial rfl (by first | (rw [e]; done) | rw [e, c127]) (by rw [e])
      · refine R2.B (ls2 := [some (.ref 29), some (.int (nI a)), some (.int (nI b)), some (.int (nI s0)), some (.int (nI h))]) (st2 := [.int (nI h), .ref 32, .int (nI a), .ref 29]) b_X9_search_101_109 rfl (fun hd => ?_)
        obtain ⟨w, hw0, ew⟩ := hq h (by omega)
        refine R2.iald h rfl hd rfl (fun _ => rfl) (by decide) (by omega) ?_
        refine R2.top (show (F 32 h : Int32) = nI w from ew) ?_
        refine R2.B (ls2 := [some (.ref 29), some (.int (nI a)), some (.int (nI b)), some (.int (nI s0)), some (.int (nI h))]) (st2 := [.int (nI s0), .int (nI w), .int (nI a), .ref 29]) b_X9_search_110_111 rfl (fun hd => ?_)
        refine R2.callV3 (M2 := mX9_queueNeighbours) (As := [.int (nI a), .int (nI w), .int (nI s0)]) (rest := []) hd lk_9_60 okX9_queueNeighbours (by decide) rfl (ev_queueNeighbours E L F hc n h5 hn10 a w ha hw0 (nI s0) hw) (by decide) rfl rfl (Nat.le_of_ble_eq_true rfl) ?_
        refine R2.B (ls2 := [some (.ref 29), some (.int (nI a)), some (.int (nI b)), some (.int (nI s0)), some (.int ((nI h) + 1))]) (st2 := []) b_X9_search_114_74 rfl (fun hd => ?_)
        rw [show ((nI h) + 1 : Int32) = nI (h + 1) from nI_add h 1]
        have e : srL n a s0 (k + 1) h F = srL n a s0 k (h + 1) (qnL n a (nI s0) w 8 0 F) := by
          simp only [srL]; rw [if_pos ⟨by rw [zq_eq e0 hz]; omega, c98⟩, ew, nI_clamp (by omega)]
        rw [e]
        have hr := fun x h1 h2 h3 => qnL_row (n := n) (a := a) (w := w) (st := nI s0) (x := x) h1 h2 h3 8 0 F
        exact ih (h + 1) _ (by omega) ((congrFun (hr 10 (by decide) (by decide) (by decide)) 5).trans h5) (qnL_wok hw0 8 0 F (by omega) hw) (hc.of (hr 1 (by decide) (by decide) (by decide)) (hr 2 (by decide) (by decide) (by decide)) (hr 3 (by decide) (by decide) (by decide)) (hr 4 (by decide) (by decide) (by decide)))
theorem b_X9_search_0_9 : bl2 mX9_search 0 [(.aload_n 0, 1, 0, 0, .null), (.getfield 25, 3, 9, 0, .null), (.getfield 29, 3, 2, 0, .null), (.iload_n 1, 1, 1, 0, .null), (.iload_n 2, 1, 2, 0, .null)] 9 (.invokevirtual 35) 3 = true := by decide +kernel
theorem b_X9_search_12_12 : bl2 mX9_search 12 [] 12 (.ifCond .ne 5) 3 = true := by decide +kernel
theorem b_X9_search_15_16 : bl2 mX9_search 15 [(.iconst (-1), 1, 0, 0, .int (-1))] 16 (.ireturn) 1 = true := by decide +kernel
set_option maxRecDepth 20000 in
set_option maxHeartbeats 1000000 in
theorem ev_search0 (E : EE) (L : Nat) (F : FF) (a b : Nat) (ha : a < 10) (hb : b < 10) (ht : ¬ trd (F 11) (F 12) (F 13) a b) : Ev3 E L 6 mX9_search [.ref 29, .int (nI a), .int (nI b)] F (some (.int (-1))) F := by
  refine Ev3.of okX9_search.2.2.1 (Nat.le_of_ble_eq_true rfl) ?_
  show R2 E L mX9_search 6 0 [some (.ref 29), some (.int (nI a)), some (.int (nI b)), none, none] [] F _
  refine R2.B (ls2 := [some (.ref 29), some (.int (nI a)), some (.int (nI b)), none, none]) (st2 := [.int (nI b), .int (nI a), .ref 10]) b_X9_search_0_9 rfl (fun hd => ?_)
  refine R2.callV3 (M2 := mX0_canTrade) (As := [.int (nI a), .int (nI b)]) (rest := []) hd lk_9_35 okX0_canTrade (by decide) rfl (ev_canTrade E L F a b (by omega) (by omega)) (by decide) rfl rfl (Nat.le_of_ble_eq_true rfl) ?_
  refine R2.B (ls2 := [some (.ref 29), some (.int (nI a)), some (.int (nI b)), none, none]) (st2 := [.int (b2i (trd (F 11) (F 12) (F 13) a b))]) b_X9_search_12_12 rfl (fun hd => ?_)
  refine R2.if_ne 17 hd (by decide) (fun c12 => absurd (b2i_zero.mpr ht) c12) (fun c12 => ?_)
  refine R2.B (ls2 := [some (.ref 29), some (.int (nI a)), some (.int (nI b)), none, none]) (st2 := [.int (-1)]) b_X9_search_15_16 rfl (fun hd => ?_)
  exact R2.ret3 (r := some (.int (-1))) hd trivial rfl rfl rfl
theorem b_X9_search_17_28 : bl2 mX9_search 17 [(.aload_n 0, 1, 0, 0, .null), (.getfield 25, 3, 9, 0, .null), (.getfield 29, 3, 2, 0, .null), (.getfield 41, 3, 0, 4, .null), (.iload_n 1, 1, 1, 0, .null)] 28 (.iaload) 1 = true := by decide +kernel
theorem b_X9_search_29_48 : bl2 mX9_search 29 [(.istore_n 3, 1, 3, 0, .null), (.aload_n 0, 1, 0, 0, .null), (.getfield 25, 3, 9, 0, .null), (.getfield 29, 3, 2, 0, .null), (.getfield 41, 3, 0, 4, .null), (.iconst 0, 1, 0, 0, .int 0), (.aload_n 0, 1, 0, 0, .null), (.getfield 9, 3, 9, 1, .null), (.iconst 0, 1, 0, 0, .int 0), (.bipush 10, 2, 0, 0, .int 10)] 48 (.invokestatic 44) 3 = true := by decide +kernel
theorem b_X9_search_51_56 : bl2 mX9_search 51 [(.aload_n 0, 1, 0, 0, .null), (.getfield 15, 3, 9, 2, .null), (.iconst (-1), 1, 0, 0, .int (-1))] 56 (.invokestatic 50) 3 = true := by decide +kernel
theorem b_X9_search_59_61 : bl2 mX9_search 59 [(.aload_n 0, 1, 0, 0, .null), (.iconst 0, 1, 0, 0, .int 0)] 61 (.putfield 21) 3 = true := by decide +kernel
theorem b_X9_search_64_68 : bl2 mX9_search 64 [(.aload_n 0, 1, 0, 0, .null), (.iload_n 1, 1, 1, 0, .null), (.iload_n 2, 1, 2, 0, .null), (.iload_n 3, 1, 3, 0, .null)] 68 (.invokevirtual 56) 3 = true := by decide +kernel
theorem b_X9_search_71_74 : bl2 mX9_search 71 [(.iconst 0, 1, 0, 0, .int 0), (.istore 4, 2, 4, 0, .null)] 74 (.iload 4) 2 = true := by decide +kernel
set_option maxRecDepth 20000 in
set_option maxHeartbeats 1000000 in
theorem ev_search1 (E : EE) (L : Nat) (F : FF) (hc : CST F) (n : Nat) (hn : F 10 5 = nI n) (hn10 : n ≤ 10) (a b s0 : Nat) (ha : a < 10) (hb : b < 10) (hs : F 15 a = nI s0) (hs0 : s0 < 1024) (ht : trd (F 11) (F 12) (F 13) a b) : Ev3 E L 6 mX9_search [.ref 29, .int (nI a), .int (nI b)] F (some (.int (srch F n a b s0 31 s0))) (srch F n a b s0) := by
  refine Ev3.of okX9_search.2.2.1 (Nat.le_of_ble_eq_true rfl) ?_
  show R2 E L mX9_search 6 0 [some (.ref 29), some (.int (nI a)), some (.int (nI b)), none, none] [] F _
  refine R2.B (ls2 := [some (.ref 29), some (.int (nI a)), some (.int (nI b)), none, none]) (st2 := [.int (nI b), .int (nI a), .ref 10]) b_X9_search_0_9 rfl (fun hd => ?_)
  refine R2.callV3 (M2 := mX0_canTrade) (As := [.int (nI a), .int (nI b)]) (rest := []) hd lk_9_35 okX0_canTrade (by decide) rfl (ev_canTrade E L F a b (by omega) (by omega)) (by decide) rfl rfl (Nat.le_of_ble_eq_true rfl) ?_
  refine R2.B (ls2 := [some (.ref 29), some (.int (nI a)), some (.int (nI b)), none, none]) (st2 := [.int (b2i (trd (F 11) (F 12) (F 13) a b))]) b_X9_search_12_12 rfl (fun hd => ?_)
  refine R2.if_ne 17 hd (by decide) (fun c12 => ?_) (fun c12 => absurd c12 (b2i_nz.mpr ht))
  refine R2.B (ls2 := [some (.ref 29), some (.int (nI a)), some (.int (nI b)), none, none]) (st2 := [.int (nI a), .ref 15]) b_X9_search_17_28 rfl (fun hd => ?_)
  refine R2.iald a rfl hd rfl (fun _ => rfl) (by decide) (by omega) ?_
  refine R2.top (show (F 15 a : Int32) = nI s0 from hs) ?_
  refine R2.B (ls2 := [some (.ref 29), some (.int (nI a)), some (.int (nI b)), some (.int (nI s0)), none]) (st2 := [.int 10, .int 0, .ref 30, .int 0, .ref 15]) b_X9_search_29_48 rfl (fun hd => ?_)
  refine R2.acopy (sp := 0) (dp := 0) (n := 10) rfl rfl rfl hd ac_9_44 (by decide) (by decide) rfl rfl (fun _ => rfl) (fun _ => rfl) (by decide) (by decide) (by decide) (by decide) (by decide) (Nat.le_of_ble_eq_true rfl) ?_
  refine R2.B (ls2 := [some (.ref 29), some (.int (nI a)), some (.int (nI b)), some (.int (nI s0)), none]) (st2 := [.int (-1), .ref 31]) b_X9_search_51_56 rfl (fun hd => ?_)
  refine R2.callS3 (M2 := mJ7_fill_53178) (As := [.ref 31, .int (-1)]) (rest := []) hd lk_9_50 okJ7_fill_53178 (by decide) (ev_fill E L (cpyF F 15 30 0 0 10) 31 1024 (-1) rfl (fun _ => rfl) (by decide) (by decide)) (by decide) rfl rfl (Nat.le_of_ble_eq_true rfl) ?_
  refine R2.B (ls2 := [some (.ref 29), some (.int (nI a)), some (.int (nI b)), some (.int (nI s0)), none]) (st2 := [.int 0, .ref 29]) b_X9_search_59_61 rfl (fun hd => ?_)
  refine R2.putf (a := 9) (b := 4) hd (by decide) (by decide) rfl rfl (fun _ => rfl) ?_
  refine R2.B (ls2 := [some (.ref 29), some (.int (nI a)), some (.int (nI b)), some (.int (nI s0)), none]) (st2 := [.int (nI s0), .int (nI b), .int (nI a), .ref 29]) b_X9_search_64_68 rfl (fun hd => ?_)
  refine R2.callV3 (M2 := mX9_queueGoals) (As := [.int (nI a), .int (nI b), .int (nI s0)]) (rest := []) hd lk_9_56 okX9_queueGoals (by decide) rfl (ev_queueGoals E L (up2 (fillF (cpyF F 15 30 0 0 10) 31 1024 (-1)) 29 4 0) n hn hn10 a b ha hb (nI s0) ⟨0, by omega, rfl, fun h hh => absurd hh (Nat.not_lt_zero _)⟩) (by decide) rfl rfl (Nat.le_of_ble_eq_true rfl) ?_
  refine R2.B (ls2 := [some (.ref 29), some (.int (nI a)), some (.int (nI b)), some (.int (nI s0)), some (.int 0)]) (st2 := []) b_X9_search_71_74 rfl (fun hd => ?_)
  have hr := fun x h0 h1 h2 h3 => qgL_row (n := n) (a := a) (b := b) (st := nI s0) (x := x) h0 h1 h2 h3 1024 0 (up2 (fillF (cpyF F 15 30 0 0 10) 31 1024 (-1)) 29 4 0)
  exact lp_srch E L n a b s0 hn10 ha hs0 1024 0 _ (by omega) ((congrFun (hr 10 (by decide) (by decide) (by decide) (by decide)) 5).trans hn) (qgL_wok 1024 0 _ (by omega) ⟨0, by omega, rfl, fun h hh => absurd hh (Nat.not_lt_zero _)⟩) (hc.of (hr 1 (by decide) (by decide) (by decide) (by decide)) (hr 2 (by decide) (by decide) (by decide) (by decide)) (hr 3 (by decide) (by decide) (by decide) (by decide)) (hr 4 (by decide) (by decide) (by decide) (by decide)))
theorem b_X9_leastDirection_13_16 : bl2 mX9_leastDirection 13 [(.iload_n 2, 1, 2, 0, .null), (.bipush 8, 2, 0, 0, .int 8)] 16 (.if_icmp .ge 39) 3 = true := by decide +kernel
theorem b_X9_leastDirection_55_56 : bl2 mX9_leastDirection 55 [(.iconst (-1), 1, 0, 0, .int (-1))] 56 (.ireturn) 1 = true := by decide +kernel
theorem b_X9_leastDirection_19_21 : bl2 mX9_leastDirection 19 [(.iload_n 1, 1, 1, 0, .null), (.iload_n 2, 1, 2, 0, .null)] 21 (.invokestatic 67) 3 = true := by decide +kernel
theorem b_X9_leastDirection_24_27 : bl2 mX9_leastDirection 24 [(.istore_n 3, 1, 3, 0, .null), (.iload_n 3, 1, 3, 0, .null), (.iconst (-1), 1, 0, 0, .int (-1))] 27 (.if_icmp .eq 22) 3 = true := by decide +kernel
theorem b_X9_leastDirection_49_13 : bl2 mX9_leastDirection 49 [(.iinc 2 1, 3, 2, 0, .int 1), (.goto (-39), 3, 13, 0, .null)] 13 (.iload_n 2) 1 = true := by decide +kernel
theorem b_X9_leastDirection_30_35 : bl2 mX9_leastDirection 30 [(.aload_n 0, 1, 0, 0, .null), (.getfield 15, 3, 9, 2, .null), (.iload_n 3, 1, 3, 0, .null)] 35 (.iaload) 1 = true := by decide +kernel
theorem b_X9_leastDirection_36_41 : bl2 mX9_leastDirection 36 [(.aload_n 0, 1, 0, 0, .null), (.getfield 15, 3, 9, 2, .null), (.iload_n 1, 1, 1, 0, .null)] 41 (.iaload) 1 = true := by decide +kernel
theorem b_X9_leastDirection_42_44 : bl2 mX9_leastDirection 42 [(.iconst 1, 1, 0, 0, .int 1), (.isub, 1, 0, 0, .null)] 44 (.if_icmp .ne 5) 3 = true := by decide +kernel
theorem b_X9_leastDirection_47_48 : bl2 mX9_leastDirection 47 [(.iload_n 2, 1, 2, 0, .null)] 48 (.ireturn) 1 = true := by decide +kernel
set_option maxRecDepth 20000 in
set_option maxHeartbeats 2000000 in
theorem lp_least (E : EE) (L : Nat) (F : FF) (hc : CST F) (w : Nat) (hw0 : w < 1024) : ∀ (k d : Nat), d + k = 8 → R2 E L mX9_leastDirection 2 13 [some (.ref 29), some (.int (nI w)), some (.int (nI d)), none] [] F (fun r' F' => r' = some (.int (ldL (F 31) w k d)) ∧ F' = F) := by
  intro k
  induction k with
  | zero =>
    intro d hi
    refine R2.B (ls2 := [some (.ref 29), some (.int (nI w)), some (.int (nI d)), none]) (st2 := [.int 8, .int (nI d)]) b_X9_leastDirection_13_16 rfl (fun hd => ?_)
    refine R2.icmp_ge 55 hd (by decide) (fun c16 => ?_) (fun c16 => absurd (nI_le (a := 8) (by omega) (by omega)) c16)
    refine R2.B (ls2 := [some (.ref 29), some (.int (nI w)), some (.int (nI d)), none]) (st2 := [.int (-1)]) b_X9_leastDirection_55_56 rfl (fun hd => ?_)
    exact R2.ret3 (r := some (.int (-1))) hd trivial rfl rfl rfl
  | succ k ih =>
    intro d hi
    rcases nbr_cases hw0 (show d < 8 by omega) with hv | ⟨v, hv8, hv⟩
    · refine R2.B (ls2 := [some (.ref 29), some (.int (nI w)), some (.int (nI d)), none]) (st2 := [.int 8, .int (nI d)]) b_X9_leastDirection_13_16 rfl (fun hd => ?_)
      refine R2.icmp_ge 55 hd (by decide) (fun c16 => absurd c16 (nI_ge (b := 8) (by omega) (by omega))) (fun c16 => ?_)
      refine R2.B (ls2 := [some (.ref 29), some (.int (nI w)), some (.int (nI d)), none]) (st2 := [.int (nI d), .int (nI w)]) b_X9_leastDirection_19_21 rfl (fun hd => ?_)
      refine R2.callS3 (M2 := mX10_neighbour) (As := [.int (nI w), .int (nI d)]) (rest := []) hd lk_9_67 okX10_neighbour (by decide) (ev_neighbour E L F hc (nI w) d (by omega)) (by decide) rfl rfl (Nat.le_of_ble_eq_true rfl) ?_
      refine R2.top (show (nbr (nI w) d : Int32) = (-1) from hv) ?_
      refine R2.B (ls2 := [some (.ref 29), some (.int (nI w)), some (.int (nI d)), some (.int (-1))]) (st2 := [.int (-1), .int (-1)]) b_X9_leastDirection_24_27 rfl (fun hd => ?_)
      refine R2.icmp_eq 49 hd (by decide) (fun c27 => ?_) (fun c27 => absurd (by decide) c27)
      refine R2.B (ls2 := [some (.ref 29), some (.int (nI w)), some (.int ((nI d) + 1)), some (.int (-1))]) (st2 := []) b_X9_leastDirection_49_13 rfl (fun hd => ?_)
      rw [show ((nI d) + 1 : Int32) = nI (d + 1) from nI_add d 1]
      rw [show ldL (F 31) w (k + 1) d = ldL (F 31) w k (d + 1) from (by simp only [ldL]; rw [if_neg (fun z => z.1 hv)])]
      refine R2.forget (ls2 := [some (.ref 29), some (.int (nI w)), some (.int (nI (d + 1))), none]) ⟨rfl, ⟨rfl, ⟨rfl, trivial⟩⟩⟩ ?_
      exact ih (d + 1) (by omega)
    · refine R2.B (ls2 := [some (.ref 29), some (.int (nI w)), some (.int (nI d)), none]) (st2 := [.int 8, .int (nI d)]) b_X9_leastDirection_13_16 rfl (fun hd => ?_)
      refine R2.icmp_ge 55 hd (by decide) (fun c16 => absurd c16 (nI_ge (b := 8) (by omega) (by omega))) (fun c16 => ?_)
      refine R2.B (ls2 := [some (.ref 29), some (.int (nI w)), some (.int (nI d)), none]) (st2 := [.int (nI d), .int (nI w)]) b_X9_leastDirection_19_21 rfl (fun hd => ?_)
      refine R2.callS3 (M2 := mX10_neighbour) (As := [.int (nI w), .int (nI d)]) (rest := []) hd lk_9_67 okX10_neighbour (by decide) (ev_neighbour E L F hc (nI w) d (by omega)) (by decide) rfl rfl (Nat.le_of_ble_eq_true rfl) ?_
      refine R2.top (show (nbr (nI w) d : Int32) = nI v from hv) ?_
      refine R2.B (ls2 := [some (.ref 29), some (.int (nI w)), some (.int (nI d)), some (.int (nI v))]) (st2 := [.int (-1), .int (nI v)]) b_X9_leastDirection_24_27 rfl (fun hd => ?_)
      refine R2.icmp_eq 49 hd (by decide) (fun c27 => absurd c27 (nI_m1 (by omega))) (fun c27 => ?_)
      refine R2.B (ls2 := [some (.ref 29), some (.int (nI w)), some (.int (nI d)), some (.int (nI v))]) (st2 := [.int (nI v), .ref 31]) b_X9_leastDirection_30_35 rfl (fun hd => ?_)
      refine R2.iald v rfl hd rfl (fun _ => rfl) (by decide) (by omega) ?_
      refine R2.B (ls2 := [some (.ref 29), some (.int (nI w)), some (.int (nI d)), some (.int (nI v))]) (st2 := [.int (nI w), .ref 31, .int (F 31 v)]) b_X9_leastDirection_36_41 rfl (fun hd => ?_)
      refine R2.iald w rfl hd rfl (fun _ => rfl) (by decide) (by omega) ?_
      refine R2.B (ls2 := [some (.ref 29), some (.int (nI w)), some (.int (nI d)), some (.int (nI v))]) (st2 := [.int ((F 31 w) - 1), .int (F 31 v)]) b_X9_leastDirection_42_44 rfl (fun hd => ?_)
      refine R2.icmp_ne 49 hd (by decide) (fun c44 => ?_) (fun c44 => ?_)
      · refine R2.B (ls2 := [some (.ref 29), some (.int (nI w)), some (.int ((nI d) + 1)), some (.int (nI v))]) (st2 := []) b_X9_leastDirection_49_13 rfl (fun hd => ?_)
        rw [show ((nI d) + 1 : Int32) = nI (d + 1) from nI_add d 1]
        rw [show ldL (F 31) w (k + 1) d = ldL (F 31) w k (d + 1) from (by simp only [ldL]; rw [hv, nI_clamp (by omega), if_neg (fun z => c44 z.2)])]
        refine R2.forget (ls2 := [some (.ref 29), some (.int (nI w)), some (.int (nI (d + 1))), none]) ⟨rfl, ⟨rfl, ⟨rfl, trivial⟩⟩⟩ ?_
        exact ih (d + 1) (by omega)
      · refine R2.B (ls2 := [some (.ref 29), some (.int (nI w)), some (.int (nI d)), some (.int (nI v))]) (st2 := [.int (nI d)]) b_X9_leastDirection_47_48 rfl (fun hd => ?_)
        exact R2.ret3 (r := some (.int (nI d))) hd trivial rfl (congrArg (fun z => some (Value.int z)) (by simp only [ldL]; rw [hv, nI_clamp (by omega), if_pos ⟨nI_m1 (by omega), c44⟩])) rfl
theorem b_X9_leastDirection_0_5 : bl2 mX9_leastDirection 0 [(.aload_n 0, 1, 0, 0, .null), (.getfield 15, 3, 9, 2, .null), (.iload_n 1, 1, 1, 0, .null)] 5 (.iaload) 1 = true := by decide +kernel
theorem b_X9_leastDirection_6_6 : bl2 mX9_leastDirection 6 [] 6 (.ifCond .gt 5) 3 = true := by decide +kernel
theorem b_X9_leastDirection_11_13 : bl2 mX9_leastDirection 11 [(.iconst 0, 1, 0, 0, .int 0), (.istore_n 2, 1, 2, 0, .null)] 13 (.iload_n 2) 1 = true := by decide +kernel
theorem b_X9_leastDirection_9_10 : bl2 mX9_leastDirection 9 [(.iconst (-1), 1, 0, 0, .int (-1))] 10 (.ireturn) 1 = true := by decide +kernel
set_option maxRecDepth 20000 in
set_option maxHeartbeats 1000000 in
theorem ev_leastDirection (E : EE) (L : Nat) (F : FF) (hc : CST F) (w : Nat) (hw0 : w < 1024) : Ev3 E L 2 mX9_leastDirection [.ref 29, .int (nI w)] F (some (.int (ldD (F 31) w))) F := by
  refine Ev3.of okX9_leastDirection.2.2.1 (Nat.le_of_ble_eq_true rfl) ?_
  show R2 E L mX9_leastDirection 2 0 [some (.ref 29), some (.int (nI w)), none, none] [] F _
  refine R2.B (ls2 := [some (.ref 29), some (.int (nI w)), none, none]) (st2 := [.int (nI w), .ref 31]) b_X9_leastDirection_0_5 rfl (fun hd => ?_)
  refine R2.iald w rfl hd rfl (fun _ => rfl) (by decide) (by omega) ?_
  refine R2.B (ls2 := [some (.ref 29), some (.int (nI w)), none, none]) (st2 := [.int (F 31 w)]) b_X9_leastDirection_6_6 rfl (fun hd => ?_)
  refine R2.if_gt 11 hd (by decide) (fun c6 => ?_) (fun c6 => ?_)
  · refine R2.B (ls2 := [some (.ref 29), some (.int (nI w)), some (.int 0), none]) (st2 := []) b_X9_leastDirection_11_13 rfl (fun hd => ?_)
    rw [show ldD (F 31) w = ldL (F 31) w 8 0 from (by unfold ldD; rw [if_pos c6])]
    exact lp_least E L F hc w hw0 8 0 (by omega)
  · refine R2.B (ls2 := [some (.ref 29), some (.int (nI w)), none, none]) (st2 := [.int (-1)]) b_X9_leastDirection_9_10 rfl (fun hd => ?_)
    exact R2.ret3 (r := some (.int (-1))) hd trivial rfl (congrArg (fun z => some (Value.int z)) (by unfold ldD; rw [if_neg c6])) rfl
theorem ldL_spec {S : Nat → Int32} {w : Nat} : ∀ (k d : Nat), d + k = 8 → ldL S w k d = -1 ∨ ∃ e, e < 8 ∧ ldL S w k d = nI e ∧ ¬ nbr (nI w) e = -1 ∧ S (nbr (nI w) e).toNatClampNeg = S w - 1
  | 0, _, _ => Or.inl rfl
  | k + 1, d, hd => by
    simp only [ldL]
    split
    · rename_i h
      exact Or.inr ⟨d, by omega, rfl, h.1, h.2⟩
    · exact ldL_spec k (d + 1) (by omega)
theorem ldD_spec {S : Nat → Int32} {w : Nat} : ldD S w = -1 ∨ (0 < S w ∧ ∃ e, e < 8 ∧ ldD S w = nI e ∧ ¬ nbr (nI w) e = -1 ∧ S (nbr (nI w) e).toNatClampNeg = S w - 1) := by
  unfold ldD
  by_cases h : 0 < S w
  · rw [if_pos h]
    rcases ldL_spec (S := S) (w := w) 8 0 rfl with h1 | h1
    · exact Or.inl h1
    · exact Or.inr ⟨h, h1⟩
  · rw [if_neg h]; exact Or.inl rfl
theorem b_X9_direction_8_11 : bl2 mX9_direction 8 [(.iload 5, 2, 5, 0, .null), (.iload_n 2, 1, 2, 0, .null)] 11 (.if_icmp .gt 39) 3 = true := by decide +kernel
theorem b_X9_direction_50_52 : bl2 mX9_direction 50 [(.iload 4, 2, 4, 0, .null)] 52 (.ireturn) 1 = true := by decide +kernel
theorem b_X9_direction_14_19 : bl2 mX9_direction 14 [(.iload 5, 2, 5, 0, .null), (.sipush 1024, 3, 0, 0, .int 1024)] 19 (.if_icmp .ge 31) 3 = true := by decide +kernel
theorem b_X9_direction_22_24 : bl2 mX9_direction 22 [(.aload_n 0, 1, 0, 0, .null), (.iload_n 3, 1, 3, 0, .null)] 24 (.invokevirtual 63) 3 = true := by decide +kernel
theorem b_X9_direction_27_32 : bl2 mX9_direction 27 [(.istore 4, 2, 4, 0, .null), (.iload 4, 2, 4, 0, .null), (.iconst (-1), 1, 0, 0, .int (-1))] 32 (.if_icmp .ne 5) 3 = true := by decide +kernel
theorem b_X9_direction_35_36 : bl2 mX9_direction 35 [(.iconst (-1), 1, 0, 0, .int (-1))] 36 (.ireturn) 1 = true := by decide +kernel
theorem b_X9_direction_37_40 : bl2 mX9_direction 37 [(.iload_n 3, 1, 3, 0, .null), (.iload 4, 2, 4, 0, .null)] 40 (.invokestatic 67) 3 = true := by decide +kernel
theorem b_X9_direction_43_8 : bl2 mX9_direction 43 [(.istore_n 3, 1, 3, 0, .null), (.iinc 5 1, 3, 5, 0, .int 1), (.goto (-39), 3, 8, 0, .null)] 8 (.iload 5) 2 = true := by decide +kernel
set_option maxRecDepth 20000 in
set_option maxHeartbeats 2000000 in
theorem lp_dir (E : EE) (L : Nat) (F : FF) (hc : CST F) (st : Int32) (iN : Nat) (hiN : iN < 2147483648) : ∀ (k c w : Nat) (last : Int32), c + k = 1024 → w < 1024 → R2 E L mX9_direction 3 8 [some (.ref 29), some (.int st), some (.int (nI iN)), some (.int (nI w)), some (.int last), some (.int (nI c))] [] F (fun r' F' => r' = some (.int (drL (F 31) iN k c w last)) ∧ F' = F) := by
  intro k
  induction k with
  | zero =>
    intro c w last hi hw0
    refine R2.B (ls2 := [some (.ref 29), some (.int st), some (.int (nI iN)), some (.int (nI w)), some (.int last), some (.int (nI c))]) (st2 := [.int (nI iN), .int (nI c)]) b_X9_direction_8_11 rfl (fun hd => ?_)
    refine R2.icmp_gt 50 hd (by decide) (fun c11 => ?_) (fun c11 => ?_)
    · have nc11 : iN < c := (nI_ltI (a := iN) (b := c) (by omega) (by omega)).mp c11
      refine R2.B (ls2 := [some (.ref 29), some (.int st), some (.int (nI iN)), some (.int (nI w)), some (.int last), some (.int (nI c))]) (st2 := [.int last]) b_X9_direction_50_52 rfl (fun hd => ?_)
      exact R2.ret3 (r := some (.int last)) hd trivial rfl rfl rfl
    · have nc11 : ¬ iN < c := fun h9 => c11 ((nI_ltI (a := iN) (b := c) (by omega) (by omega)).mpr h9)
      refine R2.B (ls2 := [some (.ref 29), some (.int st), some (.int (nI iN)), some (.int (nI w)), some (.int last), some (.int (nI c))]) (st2 := [.int 1024, .int (nI c)]) b_X9_direction_14_19 rfl (fun hd => ?_)
      refine R2.icmp_ge 50 hd (by decide) (fun c19 => ?_) (fun c19 => absurd (nI_le (a := 1024) (b := c) (by omega) (by omega)) c19)
      refine R2.B (ls2 := [some (.ref 29), some (.int st), some (.int (nI iN)), some (.int (nI w)), some (.int last), some (.int (nI c))]) (st2 := [.int last]) b_X9_direction_50_52 rfl (fun hd => ?_)
      exact R2.ret3 (r := some (.int last)) hd trivial rfl rfl rfl
  | succ k ih =>
    intro c w last hi hw0
    rcases ldD_spec (S := F 31) (w := w) with hl | ⟨-, e, he8, hl, hn1, -⟩
    · refine R2.B (ls2 := [some (.ref 29), some (.int st), some (.int (nI iN)), some (.int (nI w)), some (.int last), some (.int (nI c))]) (st2 := [.int (nI iN), .int (nI c)]) b_X9_direction_8_11 rfl (fun hd => ?_)
      refine R2.icmp_gt 50 hd (by decide) (fun c11 => ?_) (fun c11 => ?_)
      · have nc11 : iN < c := (nI_ltI (a := iN) (b := c) (by omega) (by omega)).mp c11
        refine R2.B (ls2 := [some (.ref 29), some (.int st), some (.int (nI iN)), some (.int (nI w)), some (.int last), some (.int (nI c))]) (st2 := [.int last]) b_X9_direction_50_52 rfl (fun hd => ?_)
        exact R2.ret3 (r := some (.int last)) hd trivial rfl (congrArg (fun z => some (Value.int z)) (by simp only [drL]; rw [if_pos nc11])) rfl
      · have nc11 : ¬ iN < c := fun h9 => c11 ((nI_ltI (a := iN) (b := c) (by omega) (by omega)).mpr h9)
        refine R2.B (ls2 := [some (.ref 29), some (.int st), some (.int (nI iN)), some (.int (nI w)), some (.int last), some (.int (nI c))]) (st2 := [.int 1024, .int (nI c)]) b_X9_direction_14_19 rfl (fun hd => ?_)
        refine R2.icmp_ge 50 hd (by decide) (fun c19 => absurd c19 (nI_ge (b := 1024) (by omega) (by omega))) (fun c19 => ?_)
        refine R2.B (ls2 := [some (.ref 29), some (.int st), some (.int (nI iN)), some (.int (nI w)), some (.int last), some (.int (nI c))]) (st2 := [.int (nI w), .ref 29]) b_X9_direction_22_24 rfl (fun hd => ?_)
        refine R2.callV3 (M2 := mX9_leastDirection) (As := [.int (nI w)]) (rest := []) hd lk_9_63 okX9_leastDirection (by decide) rfl (ev_leastDirection E L F hc w (by omega)) (by decide) rfl rfl (Nat.le_of_ble_eq_true rfl) ?_
        refine R2.top (show (ldD (F 31) w : Int32) = (-1) from hl) ?_
        refine R2.B (ls2 := [some (.ref 29), some (.int st), some (.int (nI iN)), some (.int (nI w)), some (.int (-1)), some (.int (nI c))]) (st2 := [.int (-1), .int (-1)]) b_X9_direction_27_32 rfl (fun hd => ?_)
        refine R2.icmp_ne 37 hd (by decide) (fun c32 => absurd (by decide) c32) (fun c32 => ?_)
        refine R2.B (ls2 := [some (.ref 29), some (.int st), some (.int (nI iN)), some (.int (nI w)), some (.int (-1)), some (.int (nI c))]) (st2 := [.int (-1)]) b_X9_direction_35_36 rfl (fun hd => ?_)
        exact R2.ret3 (r := some (.int (-1))) hd trivial rfl (congrArg (fun z => some (Value.int z)) (by simp only [drL]; rw [if_neg nc11, if_pos hl])) rfl
    · obtain ⟨v, hv8, hv⟩ : ∃ v, v < 1024 ∧ nbr (nI w) e = nI v := (nbr_cases hw0 he8).resolve_left hn1
      refine R2.B (ls2 := [some (.ref 29), some (.int st), some (.int (nI iN)), some (.int (nI w)), some (.int last), some (.int (nI c))]) (st2 := [.int (nI iN), .int (nI c)]) b_X9_direction_8_11 rfl (fun hd => ?_)
      refine R2.icmp_gt 50 hd (by decide) (fun c11 => ?_) (fun c11 => ?_)
      · have nc11 : iN < c := (nI_ltI (a := iN) (b := c) (by omega) (by omega)).mp c11
        refine R2.B (ls2 := [some (.ref 29), some (.int st), some (.int (nI iN)), some (.int (nI w)), some (.int last), some (.int (nI c))]) (st2 := [.int last]) b_X9_direction_50_52 rfl (fun hd => ?_)
        exact R2.ret3 (r := some (.int last)) hd trivial rfl (congrArg (fun z => some (Value.int z)) (by simp only [drL]; rw [if_pos nc11])) rfl
      · have nc11 : ¬ iN < c := fun h9 => c11 ((nI_ltI (a := iN) (b := c) (by omega) (by omega)).mpr h9)
        refine R2.B (ls2 := [some (.ref 29), some (.int st), some (.int (nI iN)), some (.int (nI w)), some (.int last), some (.int (nI c))]) (st2 := [.int 1024, .int (nI c)]) b_X9_direction_14_19 rfl (fun hd => ?_)
        refine R2.icmp_ge 50 hd (by decide) (fun c19 => absurd c19 (nI_ge (b := 1024) (by omega) (by omega))) (fun c19 => ?_)
        refine R2.B (ls2 := [some (.ref 29), some (.int st), some (.int (nI iN)), some (.int (nI w)), some (.int last), some (.int (nI c))]) (st2 := [.int (nI w), .ref 29]) b_X9_direction_22_24 rfl (fun hd => ?_)
        refine R2.callV3 (M2 := mX9_leastDirection) (As := [.int (nI w)]) (rest := []) hd lk_9_63 okX9_leastDirection (by decide) rfl (ev_leastDirection E L F hc w (by omega)) (by decide) rfl rfl (Nat.le_of_ble_eq_true rfl) ?_
        refine R2.top (show (ldD (F 31) w : Int32) = nI e from hl) ?_
        refine R2.B (ls2 := [some (.ref 29), some (.int st), some (.int (nI iN)), some (.int (nI w)), some (.int (nI e)), some (.int (nI c))]) (st2 := [.int (-1), .int (nI e)]) b_X9_direction_27_32 rfl (fun hd => ?_)
        refine R2.icmp_ne 37 hd (by decide) (fun c32 => ?_) (fun c32 => absurd c32 (nI_m1 (by omega)))
        refine R2.B (ls2 := [some (.ref 29), some (.int st), some (.int (nI iN)), some (.int (nI w)), some (.int (nI e)), some (.int (nI c))]) (st2 := [.int (nI e), .int (nI w)]) b_X9_direction_37_40 rfl (fun hd => ?_)
        refine R2.callS3 (M2 := mX10_neighbour) (As := [.int (nI w), .int (nI e)]) (rest := []) hd lk_9_67 okX10_neighbour (by decide) (ev_neighbour E L F hc (nI w) e (by omega)) (by decide) rfl rfl (Nat.le_of_ble_eq_true rfl) ?_
        refine R2.top (show (nbr (nI w) e : Int32) = nI v from hv) ?_
        refine R2.B (ls2 := [some (.ref 29), some (.int st), some (.int (nI iN)), some (.int (nI v)), some (.int (nI e)), some (.int ((nI c) + 1))]) (st2 := []) b_X9_direction_43_8 rfl (fun hd => ?_)
        rw [show ((nI c) + 1 : Int32) = nI (c + 1) from nI_add c 1]
        rw [show drL (F 31) iN (k + 1) c w last = drL (F 31) iN k (c + 1) v (nI e) from (by simp only [drL]; rw [if_neg nc11, hl, if_neg (nI_m1 (by omega)), nI_clamp (show e < 2147483648 by omega), hv, nI_clamp (show v < 2147483648 by omega)])]
        exact ih (c + 1) v (nI e) (by omega) hv8
theorem b_X9_direction_0_8 : bl2 mX9_direction 0 [(.iload_n 1, 1, 1, 0, .null), (.istore_n 3, 1, 3, 0, .null), (.iconst (-1), 1, 0, 0, .int (-1)), (.istore 4, 2, 4, 0, .null), (.iconst 0, 1, 0, 0, .int 0), (.istore 5, 2, 5, 0, .null)] 8 (.iload 5) 2 = true := by decide +kernel
set_option maxRecDepth 20000 in
set_option maxHeartbeats 1000000 in
theorem ev_direction (E : EE) (L : Nat) (F : FF) (hc : CST F) (w : Nat) (hw0 : w < 1024) (iN : Nat) (hiN : iN < 2147483648) : Ev3 E L 3 mX9_direction [.ref 29, .int (nI w), .int (nI iN)] F (some (.int (drL (F 31) iN 1024 0 w (-1)))) F := by
  refine Ev3.of okX9_direction.2.2.1 (Nat.le_of_ble_eq_true rfl) ?_
  show R2 E L mX9_direction 3 0 [some (.ref 29), some (.int (nI w)), some (.int (nI iN)), none, none, none] [] F _
  refine R2.B (ls2 := [some (.ref 29), some (.int (nI w)), some (.int (nI iN)), some (.int (nI w)), some (.int (-1)), some (.int 0)]) (st2 := []) b_X9_direction_0_8 rfl (fun hd => ?_)
  exact lp_dir E L F hc (nI w) iN hiN 1024 0 w (-1) (by omega) hw0
end
section
/-! The public methods. Printed by wip/whole/gen/spec11.py. -/
theorem plcF_row {F : FF} {l p a : Nat} (h1 : a ≠ 11) (h2 : a ≠ 12) (h3 : a ≠ 13) (h4 : a ≠ 14) (h5 : a ≠ 15) : plcF F l p a = F a := by unfold plcF; funext j; simp [up2, h1, h2, h3, h4, h5]
theorem plcL_row {l a : Nat} (h1 : a ≠ 11) (h2 : a ≠ 12) (h3 : a ≠ 13) (h4 : a ≠ 14) (h5 : a ≠ 15) : ∀ (k p : Nat) (F : FF), plcL l k p F a = F a
  | 0, _, _ => rfl
  | k + 1, p, F => by rw [plcL, plcL_row h1 h2 h3 h4 h5 k, plcF_row h1 h2 h3 h4 h5]
theorem tellF_row {F : FF} {l a : Nat} (h0 : a ≠ 10) (h1 : a ≠ 11) (h2 : a ≠ 12) (h3 : a ≠ 13) (h4 : a ≠ 14) (h5 : a ≠ 15) : tellF F l a = F a := by unfold tellF; rw [plcL_row h1 h2 h3 h4 h5]; funext j; simp [up2, h0]
theorem tellF_10 {F : FF} {l : Nat} : tellF F l 10 = up2 (up2 F 10 6 (cFlt l (F 7) l 0)) 10 5 (nI (cCnt l (F 7))) 10 := by unfold tellF; rw [plcL_row (by decide) (by decide) (by decide) (by decide) (by decide)]
theorem cCnt_le (l : Nat) (b : Nat → Int32) : cCnt l b ≤ 10 := by unfold cCnt; split <;> (try split) <;> omega
theorem b_X10_isPerson_0_1 : bl2 mX10_isPerson 0 [(.iload_n 1, 1, 1, 0, .null)] 1 (.ifCond .lt 18) 3 = true := by decide +kernel
theorem b_X10_isPerson_19_20 : bl2 mX10_isPerson 19 [(.iconst 0, 1, 0, 0, .int 0)] 20 (.ireturn) 1 = true := by decide +kernel
theorem b_X10_isPerson_4_12 : bl2 mX10_isPerson 4 [(.iload_n 1, 1, 1, 0, .null), (.aload_n 0, 1, 0, 0, .null), (.getfield 24, 3, 10, 2, .null), (.getfield 290, 3, 0, 5, .null)] 12 (.if_icmp .ge 7) 3 = true := by decide +kernel
theorem b_X10_isPerson_15_20 : bl2 mX10_isPerson 15 [(.iconst 1, 1, 0, 0, .int 1), (.goto 4, 3, 20, 0, .null)] 20 (.ireturn) 1 = true := by decide +kernel
set_option maxRecDepth 20000 in
set_option maxHeartbeats 1000000 in
theorem ev_isPerson (E : EE) (L : Nat) (F : FF) (p : Int32) : Ev3 E L 1 mX10_isPerson [.ref 5, .int p] F (some (.int (b2i (0 ≤ p ∧ p < F 10 5)))) F := by
  refine Ev3.of okX10_isPerson.2.2.1 (Nat.le_of_ble_eq_true rfl) ?_
  show R2 E L mX10_isPerson 1 0 [some (.ref 5), some (.int p)] [] F _
  refine R2.B (ls2 := [some (.ref 5), some (.int p)]) (st2 := [.int p]) b_X10_isPerson_0_1 rfl (fun hd => ?_)
  refine R2.if_lt 19 hd (by decide) (fun c1 => ?_) (fun c1 => ?_)
  · refine R2.B (ls2 := [some (.ref 5), some (.int p)]) (st2 := [.int 0]) b_X10_isPerson_19_20 rfl (fun hd => ?_)
    exact R2.ret3 (r := some (.int 0)) hd (Or.inl rfl) rfl (congrArg (fun z => some (Value.int z)) (b2i_f (by clear hd; grind))) rfl
  · refine R2.B (ls2 := [some (.ref 5), some (.int p)]) (st2 := [.int (F 10 5), .int p]) b_X10_isPerson_4_12 rfl (fun hd => ?_)
    refine R2.icmp_ge 19 hd (by decide) (fun c12 => ?_) (fun c12 => ?_)
    · refine R2.B (ls2 := [some (.ref 5), some (.int p)]) (st2 := [.int 0]) b_X10_isPerson_19_20 rfl (fun hd => ?_)
      exact R2.ret3 (r := some (.int 0)) hd (Or.inl rfl) rfl (congrArg (fun z => some (Value.int z)) (b2i_f (by clear hd; grind))) rfl
    · refine R2.B (ls2 := [some (.ref 5), some (.int p)]) (st2 := [.int 1]) b_X10_isPerson_15_20 rfl (fun hd => ?_)
      exact R2.ret3 (r := some (.int 1)) hd (Or.inr rfl) rfl (congrArg (fun z => some (Value.int z)) (b2i_t (by clear hd; grind))) rfl
theorem b_X10_areTwo_0_2 : bl2 mX10_areTwo 0 [(.aload_n 0, 1, 0, 0, .null), (.iload_n 1, 1, 1, 0, .null)] 2 (.invokevirtual 131) 3 = true := by decide +kernel
theorem b_X10_areTwo_5_5 : bl2 mX10_areTwo 5 [] 5 (.ifCond .eq 20) 3 = true := by decide +kernel
theorem b_X10_areTwo_25_26 : bl2 mX10_areTwo 25 [(.iconst 0, 1, 0, 0, .int 0)] 26 (.ireturn) 1 = true := by decide +kernel
theorem b_X10_areTwo_8_10 : bl2 mX10_areTwo 8 [(.aload_n 0, 1, 0, 0, .null), (.iload_n 2, 1, 2, 0, .null)] 10 (.invokevirtual 131) 3 = true := by decide +kernel
theorem b_X10_areTwo_13_13 : bl2 mX10_areTwo 13 [] 13 (.ifCond .eq 12) 3 = true := by decide +kernel
theorem b_X10_areTwo_16_18 : bl2 mX10_areTwo 16 [(.iload_n 1, 1, 1, 0, .null), (.iload_n 2, 1, 2, 0, .null)] 18 (.if_icmp .eq 7) 3 = true := by decide +kernel
theorem b_X10_areTwo_21_26 : bl2 mX10_areTwo 21 [(.iconst 1, 1, 0, 0, .int 1), (.goto 4, 3, 26, 0, .null)] 26 (.ireturn) 1 = true := by decide +kernel
set_option maxRecDepth 20000 in
set_option maxHeartbeats 1000000 in
theorem ev_areTwo (E : EE) (L : Nat) (F : FF) (a b : Int32) : Ev3 E L 2 mX10_areTwo [.ref 5, .int a, .int b] F (some (.int (b2i (0 ≤ a ∧ a < F 10 5 ∧ 0 ≤ b ∧ b < F 10 5 ∧ ¬ a = b)))) F := by
  refine Ev3.of okX10_areTwo.2.2.1 (Nat.le_of_ble_eq_true rfl) ?_
  show R2 E L mX10_areTwo 2 0 [some (.ref 5), some (.int a), some (.int b)] [] F _
  refine R2.B (ls2 := [some (.ref 5), some (.int a), some (.int b)]) (st2 := [.int a, .ref 5]) b_X10_areTwo_0_2 rfl (fun hd => ?_)
  refine R2.callV3 (M2 := mX10_isPerson) (As := [.int a]) (rest := []) hd lk_10_131 okX10_isPerson (by decide) rfl (ev_isPerson E L F a) (by decide) rfl rfl (Nat.le_of_ble_eq_true rfl) ?_
  refine R2.B (ls2 := [some (.ref 5), some (.int a), some (.int b)]) (st2 := [.int (b2i (0 ≤ a ∧ a < F 10 5))]) b_X10_areTwo_5_5 rfl (fun hd => ?_)
  refine R2.if_eq 25 hd (by decide) (fun c5 => ?_) (fun c5 => ?_)
  · have nc5 : ¬ (0 ≤ a ∧ a < F 10 5) := b2i_zero.mp c5
    refine R2.B (ls2 := [some (.ref 5), some (.int a), some (.int b)]) (st2 := [.int 0]) b_X10_areTwo_25_26 rfl (fun hd => ?_)
    exact R2.ret3 (r := some (.int 0)) hd (Or.inl rfl) rfl (congrArg (fun z => some (Value.int z)) (b2i_f (by clear hd; grind))) rfl
  · have nc5 : 0 ≤ a ∧ a < F 10 5 := b2i_nz.mp c5
    refine R2.B (ls2 := [some (.ref 5), some (.int a), some (.int b)]) (st2 := [.int b, .ref 5]) b_X10_areTwo_8_10 rfl (fun hd => ?_)
    refine R2.callV3 (M2 := mX10_isPerson) (As := [.int b]) (rest := []) hd lk_10_131 okX10_isPerson (by decide) rfl (ev_isPerson E L F b) (by decide) rfl rfl (Nat.le_of_ble_eq_true rfl) ?_
    refine R2.B (ls2 := [some (.ref 5), some (.int a), some (.int b)]) (st2 := [.int (b2i (0 ≤ b ∧ b < F 10 5))]) b_X10_areTwo_13_13 rfl (fun hd => ?_)
    refine R2.if_eq 25 hd (by decide) (fun c13 => ?_) (fun c13 => ?_)
    · have nc13 : ¬ (0 ≤ b ∧ b < F 10 5) := b2i_zero.mp c13
      refine R2.B (ls2 := [some (.ref 5), some (.int a), some (.int b)]) (st2 := [.int 0]) b_X10_areTwo_25_26 rfl (fun hd => ?_)
      exact R2.ret3 (r := some (.int 0)) hd (Or.inl rfl) rfl (congrArg (fun z => some (Value.int z)) (b2i_f (by clear hd; grind))) rfl
    · have nc13 : 0 ≤ b ∧ b < F 10 5 := b2i_nz.mp c13
      refine R2.B (ls2 := [some (.ref 5), some (.int a), some (.int b)]) (st2 := [.int b, .int a]) b_X10_areTwo_16_18 rfl (fun hd => ?_)
      refine R2.icmp_eq 25 hd (by decide) (fun c18 => ?_) (fun c18 => ?_)
      · refine R2.B (ls2 := [some (.ref 5), some (.int a), some (.int b)]) (st2 := [.int 0]) b_X10_areTwo_25_26 rfl (fun hd => ?_)
        exact R2.ret3 (r := some (.int 0)) hd (Or.inl rfl) rfl (congrArg (fun z => some (Value.int z)) (b2i_f (by clear hd; grind))) rfl
      · refine R2.B (ls2 := [some (.ref 5), some (.int a), some (.int b)]) (st2 := [.int 1]) b_X10_areTwo_21_26 rfl (fun hd => ?_)
        exact R2.ret3 (r := some (.int 1)) hd (Or.inr rfl) rfl (congrArg (fun z => some (Value.int z)) (b2i_t (by clear hd; grind))) rfl
theorem b_X10_found_0_2 : bl2 mX10_found 0 [(.aload_n 0, 1, 0, 0, .null), (.iload_n 1, 1, 1, 0, .null)] 2 (.putfield 88) 3 = true := by decide +kernel
theorem b_X10_found_5_9 : bl2 mX10_found 5 [(.bipush (-10), 2, 0, 0, .int (-10)), (.iload_n 1, 1, 1, 0, .null), (.isub, 1, 0, 0, .null)] 9 (.ireturn) 1 = true := by decide +kernel
set_option maxRecDepth 20000 in
set_option maxHeartbeats 1000000 in
theorem ev_found (E : EE) (L : Nat) (F : FF) (x : Int32) : Ev3 E L 1 mX10_found [.ref 5, .int x] F (some (.int (-10 - x))) (up2 F 5 11 x) := by
  refine Ev3.of okX10_found.2.2.1 (Nat.le_of_ble_eq_true rfl) ?_
  show R2 E L mX10_found 1 0 [some (.ref 5), some (.int x)] [] F _
  refine R2.B (ls2 := [some (.ref 5), some (.int x)]) (st2 := [.int x, .ref 5]) b_X10_found_0_2 rfl (fun hd => ?_)
  refine R2.putf (a := 10) (b := 11) hd (by decide) (by decide) rfl rfl (fun _ => rfl) ?_
  refine R2.B (ls2 := [some (.ref 5), some (.int x)]) (st2 := [.int ((-10) - x)]) b_X10_found_5_9 rfl (fun hd => ?_)
  exact R2.ret3 (r := some (.int ((-10) - x))) hd trivial rfl rfl rfl
theorem b_X10_textOf_0_1 : bl2 mX10_textOf 0 [(.iload_n 1, 1, 1, 0, .null)] 1 (.ifCond .ne 10) 3 = true := by decide +kernel
theorem b_X10_textOf_4_15 : bl2 mX10_textOf 4 [(.aload_n 0, 1, 0, 0, .null), (.getfield 14, 3, 10, 0, .null), (.goto 7, 3, 15, 0, .null)] 15 (.areturn) 1 = true := by decide +kernel
set_option maxRecDepth 20000 in
set_option maxHeartbeats 1000000 in
theorem ev_textOf0 (E : EE) (L : Nat) (F : FF) : Ev3 E L 1 mX10_textOf [.ref 5, .int 0] F (some (.ref 6)) F := by
  refine Ev3.of okX10_textOf.2.2.1 (Nat.le_of_ble_eq_true rfl) ?_
  show R2 E L mX10_textOf 1 0 [some (.ref 5), some (.int 0)] [] F _
  refine R2.B (ls2 := [some (.ref 5), some (.int 0)]) (st2 := [.int 0]) b_X10_textOf_0_1 rfl (fun hd => ?_)
  refine R2.if_ne 11 hd (by decide) (fun c1 => absurd (by decide) c1) (fun c1 => ?_)
  refine R2.B (ls2 := [some (.ref 5), some (.int 0)]) (st2 := [.ref 6]) b_X10_textOf_4_15 rfl (fun hd => ?_)
  exact R2.ret3 (r := some (.ref 6)) hd trivial rfl rfl rfl
theorem b_X10_textOf_11_15 : bl2 mX10_textOf 11 [(.aload_n 0, 1, 0, 0, .null), (.getfield 18, 3, 10, 1, .null)] 15 (.areturn) 1 = true := by decide +kernel
set_option maxRecDepth 20000 in
set_option maxHeartbeats 1000000 in
theorem ev_textOf1 (E : EE) (L : Nat) (F : FF) : Ev3 E L 1 mX10_textOf [.ref 5, .int 1] F (some (.ref 8)) F := by
  refine Ev3.of okX10_textOf.2.2.1 (Nat.le_of_ble_eq_true rfl) ?_
  show R2 E L mX10_textOf 1 0 [some (.ref 5), some (.int 1)] [] F _
  refine R2.B (ls2 := [some (.ref 5), some (.int 1)]) (st2 := [.int 1]) b_X10_textOf_0_1 rfl (fun hd => ?_)
  refine R2.if_ne 11 hd (by decide) (fun c1 => ?_) (fun c1 => absurd c1 (by decide))
  refine R2.B (ls2 := [some (.ref 5), some (.int 1)]) (st2 := [.ref 8]) b_X10_textOf_11_15 rfl (fun hd => ?_)
  exact R2.ret3 (r := some (.ref 8)) hd trivial rfl rfl rfl
theorem b_X10_takeIn_0_1 : bl2 mX10_takeIn 0 [(.iload_n 1, 1, 1, 0, .null)] 1 (.ifCond .ne 14) 3 = true := by decide +kernel
theorem b_X10_takeIn_4_12 : bl2 mX10_takeIn 4 [(.aload_n 0, 1, 0, 0, .null), (.getfield 24, 3, 10, 2, .null), (.aload_n 0, 1, 0, 0, .null), (.getfield 14, 3, 10, 0, .null)] 12 (.invokevirtual 318) 3 = true := by decide +kernel
theorem b_X10_takeIn_15_30 : bl2 mX10_takeIn 15 [(.aload_n 0, 1, 0, 0, .null), (.getfield 40, 3, 10, 4, .null), (.aload_n 0, 1, 0, 0, .null), (.getfield 18, 3, 10, 1, .null), (.aload_n 0, 1, 0, 0, .null), (.getfield 24, 3, 10, 2, .null), (.getfield 290, 3, 0, 5, .null)] 30 (.invokevirtual 322) 3 = true := by decide +kernel
theorem b_X10_takeIn_33_33 : bl2 mX10_takeIn 33 [] 33 (.return_) 1 = true := by decide +kernel
set_option maxRecDepth 20000 in
set_option maxHeartbeats 1000000 in
theorem ev_takeIn0 (E : EE) (L : Nat) (F : FF) (l0 l1 : Nat) (h6 : F 6 1 = nI l0) (hl0 : l0 ≤ 90) (h8 : F 8 1 = nI l1) (hl1 : l1 ≤ 60) : Ev3 E L 7 mX10_takeIn [.ref 5, .int 0] F none (tfF (tellF F l0) l1 (cCnt l0 (F 7))) := by
  refine Ev3.of okX10_takeIn.2.2.1 (Nat.le_of_ble_eq_true rfl) ?_
  show R2 E L mX10_takeIn 7 0 [some (.ref 5), some (.int 0)] [] F _
  refine R2.B (ls2 := [some (.ref 5), some (.int 0)]) (st2 := [.int 0]) b_X10_takeIn_0_1 rfl (fun hd => ?_)
  refine R2.if_ne 15 hd (by decide) (fun c1 => absurd (by decide) c1) (fun c1 => ?_)
  refine R2.B (ls2 := [some (.ref 5), some (.int 0)]) (st2 := [.ref 6, .ref 10]) b_X10_takeIn_4_12 rfl (fun hd => ?_)
  refine R2.callV3 (M2 := mX0_tell) (As := [.ref 6]) (rest := []) hd lk_10_318 okX0_tell (by decide) rfl (ev_tell E L F l0 h6 hl0) (by decide) rfl rfl (Nat.le_of_ble_eq_true rfl) ?_
  refine R2.B (ls2 := [some (.ref 5), some (.int 0)]) (st2 := [.int ((tellF F l0) 10 5), .ref 8, .ref 18]) b_X10_takeIn_15_30 rfl (fun hd => ?_)
  rw [show ((tellF F l0) 10 5 : Int32) = nI (cCnt l0 (F 7)) from (by rw [tellF_10]; rfl)]
  refine R2.callV3 (M2 := mX1_tell) (As := [.ref 8, .int (nI (cCnt l0 (F 7)))]) (rest := []) hd lk_10_322 okX1_tell (by decide) rfl (ev_fairTell E L (tellF F l0) l1 (cCnt l0 (F 7)) hl1 (cCnt_le _ _) (by rw [tellF_row (by decide) (by decide) (by decide) (by decide) (by decide) (by decide)]; exact h8)) (by decide) rfl rfl (Nat.le_of_ble_eq_true rfl) ?_
  refine R2.B (ls2 := [some (.ref 5), some (.int 0)]) (st2 := []) b_X10_takeIn_33_33 rfl (fun hd => ?_)
  exact R2.ret3 (r := none) hd trivial rfl rfl rfl
set_option maxRecDepth 20000 in
set_option maxHeartbeats 1000000 in
theorem ev_takeIn1 (E : EE) (L : Nat) (F : FF) (n : Nat) (hn : F 10 5 = nI n) (hn10 : n ≤ 10) (l1 : Nat) (h8 : F 8 1 = nI l1) (hl1 : l1 ≤ 60) : Ev3 E L 7 mX10_takeIn [.ref 5, .int 1] F none (tfF F l1 n) := by
  refine Ev3.of okX10_takeIn.2.2.1 (Nat.le_of_ble_eq_true rfl) ?_
  show R2 E L mX10_takeIn 7 0 [some (.ref 5), some (.int 1)] [] F _
  refine R2.B (ls2 := [some (.ref 5), some (.int 1)]) (st2 := [.int 1]) b_X10_takeIn_0_1 rfl (fun hd => ?_)
  refine R2.if_ne 15 hd (by decide) (fun c1 => ?_) (fun c1 => absurd c1 (by decide))
  refine R2.B (ls2 := [some (.ref 5), some (.int 1)]) (st2 := [.int (F 10 5), .ref 8, .ref 18]) b_X10_takeIn_15_30 rfl (fun hd => ?_)
  rw [show (F 10 5 : Int32) = nI n from hn]
  refine R2.callV3 (M2 := mX1_tell) (As := [.ref 8, .int (nI n)]) (rest := []) hd lk_10_322 okX1_tell (by decide) rfl (ev_fairTell E L F l1 n hl1 hn10 h8) (by decide) rfl rfl (Nat.le_of_ble_eq_true rfl) ?_
  refine R2.B (ls2 := [some (.ref 5), some (.int 1)]) (st2 := []) b_X10_takeIn_33_33 rfl (fun hd => ?_)
  exact R2.ret3 (r := none) hd trivial rfl rfl rfl
theorem b_X10_type_0_1 : bl2 mX10_type 0 [(.iload_n 1, 1, 1, 0, .null)] 1 (.invokestatic 92) 3 = true := by decide +kernel
theorem b_X10_type_4_4 : bl2 mX10_type 4 [] 4 (.ifCond .eq 14) 3 = true := by decide +kernel
theorem b_X10_type_18_20 : bl2 mX10_type 18 [(.bipush (-2), 2, 0, 0, .int (-2))] 20 (.ireturn) 1 = true := by decide +kernel
theorem b_X10_type_7_8 : bl2 mX10_type 7 [(.iload_n 2, 1, 2, 0, .null)] 8 (.ifCond .lt 10) 3 = true := by decide +kernel
theorem b_X10_type_11_15 : bl2 mX10_type 11 [(.iload_n 2, 1, 2, 0, .null), (.sipush 255, 3, 0, 0, .int 255)] 15 (.if_icmp .le 6) 3 = true := by decide +kernel
theorem b_X10_type_21_21 : bl2 mX10_type 21 [] 21 (.aload_n 0) 1 = true := by decide +kernel
set_option maxRecDepth 20000 in
set_option maxHeartbeats 1000000 in
theorem x_type_bad (E : EE) (L : Nat) (F : FF) (t b : Int32) (h : ¬ (t = 0 ∨ t = 1) ∨ b < 0 ∨ 255 < b) : Ev3 E L 8 mX10_type [.ref 5, .int t, .int b] F (some (.int (-2))) F := by
  refine Ev3.of okX10_type.2.2.1 (Nat.le_of_ble_eq_true rfl) ?_
  show R2 E L mX10_type 8 0 [some (.ref 5), some (.int t), some (.int b), none] [] F _
  refine R2.B (ls2 := [some (.ref 5), some (.int t), some (.int b), none]) (st2 := [.int t]) b_X10_type_0_1 rfl (fun hd => ?_)
  refine R2.callS3 (M2 := mX10_isText) (As := [.int t]) (rest := []) hd lk_10_92 okX10_isText (by decide) (ev_isText E L F t) (by decide) rfl rfl (Nat.le_of_ble_eq_true rfl) ?_
  refine R2.B (ls2 := [some (.ref 5), some (.int t), some (.int b), none]) (st2 := [.int (b2i (t = 0 ∨ t = 1))]) b_X10_type_4_4 rfl (fun hd => ?_)
  refine R2.if_eq 18 hd (by decide) (fun c4 => ?_) (fun c4 => ?_)
  · have nc4 : ¬ (t = 0 ∨ t = 1) := b2i_zero.mp c4
    refine R2.B (ls2 := [some (.ref 5), some (.int t), some (.int b), none]) (st2 := [.int (-2)]) b_X10_type_18_20 rfl (fun hd => ?_)
    exact R2.ret3 (r := some (.int (-2))) hd trivial rfl rfl rfl
  · have nc4 : t = 0 ∨ t = 1 := b2i_nz.mp c4
    refine R2.B (ls2 := [some (.ref 5), some (.int t), some (.int b), none]) (st2 := [.int b]) b_X10_type_7_8 rfl (fun hd => ?_)
    refine R2.if_lt 18 hd (by decide) (fun c8 => ?_) (fun c8 => ?_)
    · refine R2.B (ls2 := [some (.ref 5), some (.int t), some (.int b), none]) (st2 := [.int (-2)]) b_X10_type_18_20 rfl (fun hd => ?_)
      exact R2.ret3 (r := some (.int (-2))) hd trivial rfl rfl rfl
    · refine R2.B (ls2 := [some (.ref 5), some (.int t), some (.int b), none]) (st2 := [.int 255, .int b]) b_X10_type_11_15 rfl (fun hd => ?_)
      refine R2.icmp_le 21 hd (by decide) (fun c15 => ?_) (fun c15 => ?_)
      · refine R2.B (ls2 := [some (.ref 5), some (.int t), some (.int b), none]) (st2 := []) b_X10_type_21_21 rfl (fun hd => ?_)
        exact False.elim (by clear hd; grind)
      · refine R2.B (ls2 := [some (.ref 5), some (.int t), some (.int b), none]) (st2 := [.int (-2)]) b_X10_type_18_20 rfl (fun hd => ?_)
        exact R2.ret3 (r := some (.int (-2))) hd trivial rfl rfl rfl
theorem b_X10_type_21_23 : bl2 mX10_type 21 [(.aload_n 0, 1, 0, 0, .null), (.iload_n 1, 1, 1, 0, .null)] 23 (.invokevirtual 96) 3 = true := by decide +kernel
theorem b_X10_type_26_28 : bl2 mX10_type 26 [(.astore_n 3, 1, 3, 0, .null), (.aload_n 3, 1, 3, 0, .null)] 28 (.invokevirtual 100) 3 = true := by decide +kernel
theorem b_X10_type_31_31 : bl2 mX10_type 31 [] 31 (.ifCond .eq 6) 3 = true := by decide +kernel
theorem b_X10_type_34_36 : bl2 mX10_type 34 [(.bipush (-4), 2, 0, 0, .int (-4))] 36 (.ireturn) 1 = true := by decide +kernel
set_option maxRecDepth 20000 in
set_option maxHeartbeats 1000000 in
theorem x_type_full0 (E : EE) (L : Nat) (F : FF) (b : Int32) (hb : 0 ≤ b ∧ b ≤ 255) (hf : ¬ F 6 1 < 90) : Ev3 E L 8 mX10_type [.ref 5, .int 0, .int b] F (some (.int (-4))) F := by
  refine Ev3.of okX10_type.2.2.1 (Nat.le_of_ble_eq_true rfl) ?_
  show R2 E L mX10_type 8 0 [some (.ref 5), some (.int 0), some (.int b), none] [] F _
  refine R2.B (ls2 := [some (.ref 5), some (.int 0), some (.int b), none]) (st2 := [.int 0]) b_X10_type_0_1 rfl (fun hd => ?_)
  refine R2.callS3 (M2 := mX10_isText) (As := [.int 0]) (rest := []) hd lk_10_92 okX10_isText (by decide) (ev_isText E L F 0) (by decide) rfl rfl (Nat.le_of_ble_eq_true rfl) ?_
  refine R2.B (ls2 := [some (.ref 5), some (.int 0), some (.int b), none]) (st2 := [.int (b2i (0 = 0 ∨ 0 = 1))]) b_X10_type_4_4 rfl (fun hd => ?_)
  refine R2.if_eq 18 hd (by decide) (fun c4 => absurd c4 (by decide)) (fun c4 => ?_)
  refine R2.B (ls2 := [some (.ref 5), some (.int 0), some (.int b), none]) (st2 := [.int b]) b_X10_type_7_8 rfl (fun hd => ?_)
  refine R2.if_lt 18 hd (by decide) (fun c8 => ?_) (fun c8 => ?_)
  · refine R2.B (ls2 := [some (.ref 5), some (.int 0), some (.int b), none]) (st2 := [.int (-2)]) b_X10_type_18_20 rfl (fun hd => ?_)
    exact False.elim (by clear hd; grind)
  · refine R2.B (ls2 := [some (.ref 5), some (.int 0), some (.int b), none]) (st2 := [.int 255, .int b]) b_X10_type_11_15 rfl (fun hd => ?_)
    refine R2.icmp_le 21 hd (by decide) (fun c15 => ?_) (fun c15 => ?_)
    · refine R2.B (ls2 := [some (.ref 5), some (.int 0), some (.int b), none]) (st2 := [.int 0, .ref 5]) b_X10_type_21_23 rfl (fun hd => ?_)
      refine R2.callV3 (M2 := mX10_textOf) (As := [.int 0]) (rest := []) hd lk_10_96 okX10_textOf (by decide) rfl (ev_textOf0 E L F) (by decide) rfl rfl (Nat.le_of_ble_eq_true rfl) ?_
      refine R2.B (ls2 := [some (.ref 5), some (.int 0), some (.int b), some (.ref 6)]) (st2 := [.ref 6]) b_X10_type_26_28 rfl (fun hd => ?_)
      refine R2.callV3 (M2 := mX7_isFull) (As := []) (rest := []) hd lk_10_100 okX7_isFull (by decide) rfl (ev_isFull6 E L _) (by decide) rfl rfl (Nat.le_of_ble_eq_true rfl) ?_
      refine R2.B (ls2 := [some (.ref 5), some (.int 0), some (.int b), some (.ref 6)]) (st2 := [.int (b2i (¬ F 6 1 < 90))]) b_X10_type_31_31 rfl (fun hd => ?_)
      refine R2.if_eq 37 hd (by decide) (fun c31 => absurd c31 (b2i_nz.mpr hf)) (fun c31 => ?_)
      refine R2.B (ls2 := [some (.ref 5), some (.int 0), some (.int b), some (.ref 6)]) (st2 := [.int (-4)]) b_X10_type_34_36 rfl (fun hd => ?_)
      exact R2.ret3 (r := some (.int (-4))) hd trivial rfl rfl rfl
    · refine R2.B (ls2 := [some (.ref 5), some (.int 0), some (.int b), none]) (st2 := [.int (-2)]) b_X10_type_18_20 rfl (fun hd => ?_)
      exact False.elim (by clear hd; grind)
theorem b_X10_type_37_39 : bl2 mX10_type 37 [(.aload_n 3, 1, 3, 0, .null), (.iload_n 2, 1, 2, 0, .null)] 39 (.invokevirtual 104) 3 = true := by decide +kernel
theorem b_X10_type_42_44 : bl2 mX10_type 42 [(.aload_n 0, 1, 0, 0, .null), (.iload_n 1, 1, 1, 0, .null)] 44 (.invokevirtual 107) 3 = true := by decide +kernel
theorem b_X10_type_47_48 : bl2 mX10_type 47 [(.aload_n 3, 1, 3, 0, .null)] 48 (.invokevirtual 110) 3 = true := by decide +kernel
theorem b_X10_type_51_51 : bl2 mX10_type 51 [] 51 (.ireturn) 1 = true := by decide +kernel
set_option maxRecDepth 20000 in
set_option maxHeartbeats 1000000 in
theorem x_type_ok0 (E : EE) (L : Nat) (F : FF) (b : Int32) (hb : 0 ≤ b ∧ b ≤ 255) (l0 l1 : Nat) (h6 : F 6 1 = nI l0) (hl0 : l0 < 90) (h8 : F 8 1 = nI l1) (hl1 : l1 ≤ 60) : Ev3 E L 8 mX10_type [.ref 5, .int 0, .int b] F (some (.int ((tfF (tellF (up2 (up2 F 7 l0 b) 6 1 (nI (l0 + 1))) (l0 + 1)) l1 (cCnt (l0 + 1) ((up2 (up2 F 7 l0 b) 6 1 (nI (l0 + 1))) 7))) 6 1))) (tfF (tellF (up2 (up2 F 7 l0 b) 6 1 (nI (l0 + 1))) (l0 + 1)) l1 (cCnt (l0 + 1) ((up2 (up2 F 7 l0 b) 6 1 (nI (l0 + 1))) 7))) := by
  refine Ev3.of okX10_type.2.2.1 (Nat.le_of_ble_eq_true rfl) ?_
  show R2 E L mX10_type 8 0 [some (.ref 5), some (.int 0), some (.int b), none] [] F _
  refine R2.B (ls2 := [some (.ref 5), some (.int 0), some (.int b), none]) (st2 := [.int 0]) b_X10_type_0_1 rfl (fun hd => ?_)
  refine R2.callS3 (M2 := mX10_isText) (As := [.int 0]) (rest := []) hd lk_10_92 okX10_isText (by decide) (ev_isText E L F 0) (by decide) rfl rfl (Nat.le_of_ble_eq_true rfl) ?_
  refine R2.B (ls2 := [some (.ref 5), some (.int 0), some (.int b), none]) (st2 := [.int (b2i (0 = 0 ∨ 0 = 1))]) b_X10_type_4_4 rfl (fun hd => ?_)
  refine R2.if_eq 18 hd (by decide) (fun c4 => absurd c4 (by decide)) (fun c4 => ?_)
  refine R2.B (ls2 := [some (.ref 5), some (.int 0), some (.int b), none]) (st2 := [.int b]) b_X10_type_7_8 rfl (fun hd => ?_)
  refine R2.if_lt 18 hd (by decide) (fun c8 => ?_) (fun c8 => ?_)
  · refine R2.B (ls2 := [some (.ref 5), some (.int 0), some (.int b), none]) (st2 := [.int (-2)]) b_X10_type_18_20 rfl (fun hd => ?_)
    exact False.elim (by clear hd; grind)
  · refine R2.B (ls2 := [some (.ref 5), some (.int 0), some (.int b), none]) (st2 := [.int 255, .int b]) b_X10_type_11_15 rfl (fun hd => ?_)
    refine R2.icmp_le 21 hd (by decide) (fun c15 => ?_) (fun c15 => ?_)
    · refine R2.B (ls2 := [some (.ref 5), some (.int 0), some (.int b), none]) (st2 := [.int 0, .ref 5]) b_X10_type_21_23 rfl (fun hd => ?_)
      refine R2.callV3 (M2 := mX10_textOf) (As := [.int 0]) (rest := []) hd lk_10_96 okX10_textOf (by decide) rfl (ev_textOf0 E L F) (by decide) rfl rfl (Nat.le_of_ble_eq_true rfl) ?_
      refine R2.B (ls2 := [some (.ref 5), some (.int 0), some (.int b), some (.ref 6)]) (st2 := [.ref 6]) b_X10_type_26_28 rfl (fun hd => ?_)
      refine R2.callV3 (M2 := mX7_isFull) (As := []) (rest := []) hd lk_10_100 okX7_isFull (by decide) rfl (ev_isFull6 E L _) (by decide) rfl rfl (Nat.le_of_ble_eq_true rfl) ?_
      refine R2.B (ls2 := [some (.ref 5), some (.int 0), some (.int b), some (.ref 6)]) (st2 := [.int (b2i (¬ F 6 1 < 90))]) b_X10_type_31_31 rfl (fun hd => ?_)
      refine R2.if_eq 37 hd (by decide) (fun c31 => ?_) (fun c31 => absurd (b2i_zero.mpr (fun z => z (by rw [h6]; exact nI_lt (b := 90) (by omega) (by decide)))) c31)
      refine R2.B (ls2 := [some (.ref 5), some (.int 0), some (.int b), some (.ref 6)]) (st2 := [.int b, .ref 6]) b_X10_type_37_39 rfl (fun hd => ?_)
      refine R2.callV3 (M2 := mX7_add) (As := [.int b]) (rest := []) hd lk_10_104 okX7_add (by decide) rfl (ev_add6 E L F l0 b h6 (by omega)) (by decide) rfl rfl (Nat.le_of_ble_eq_true rfl) ?_
      refine R2.B (ls2 := [some (.ref 5), some (.int 0), some (.int b), some (.ref 6)]) (st2 := [.int 0, .ref 5]) b_X10_type_42_44 rfl (fun hd => ?_)
      refine R2.callV3 (M2 := mX10_takeIn) (As := [.int 0]) (rest := []) hd lk_10_107 okX10_takeIn (by decide) rfl (ev_takeIn0 E L (up2 (up2 F 7 l0 b) 6 1 (nI (l0 + 1))) (l0 + 1) l1 rfl (by omega) h8 hl1) (by decide) rfl rfl (Nat.le_of_ble_eq_true rfl) ?_
      refine R2.B (ls2 := [some (.ref 5), some (.int 0), some (.int b), some (.ref 6)]) (st2 := [.ref 6]) b_X10_type_47_48 rfl (fun hd => ?_)
      refine R2.callV3 (M2 := mX7_length) (As := []) (rest := []) hd lk_10_110 okX7_length (by decide) rfl (ev_length6 E L _) (by decide) rfl rfl (Nat.le_of_ble_eq_true rfl) ?_
      refine R2.B (ls2 := [some (.ref 5), some (.int 0), some (.int b), some (.ref 6)]) (st2 := [.int ((tfF (tellF (up2 (up2 F 7 l0 b) 6 1 (nI (l0 + 1))) (l0 + 1)) l1 (cCnt (l0 + 1) ((up2 (up2 F 7 l0 b) 6 1 (nI (l0 + 1))) 7))) 6 1)]) b_X10_type_51_51 rfl (fun hd => ?_)
      exact R2.ret3 (r := some (.int ((tfF (tellF (up2 (up2 F 7 l0 b) 6 1 (nI (l0 + 1))) (l0 + 1)) l1 (cCnt (l0 + 1) ((up2 (up2 F 7 l0 b) 6 1 (nI (l0 + 1))) 7))) 6 1))) hd trivial rfl rfl rfl
    · refine R2.B (ls2 := [some (.ref 5), some (.int 0), some (.int b), none]) (st2 := [.int (-2)]) b_X10_type_18_20 rfl (fun hd => ?_)
      exact False.elim (by clear hd; grind)
set_option maxRecDepth 20000 in
set_option maxHeartbeats 1000000 in
theorem x_type_full1 (E : EE) (L : Nat) (F : FF) (b : Int32) (hb : 0 ≤ b ∧ b ≤ 255) (hf : ¬ F 8 1 < 60) : Ev3 E L 8 mX10_type [.ref 5, .int 1, .int b] F (some (.int (-4))) F := by
  refine Ev3.of okX10_type.2.2.1 (Nat.le_of_ble_eq_true rfl) ?_
  show R2 E L mX10_type 8 0 [some (.ref 5), some (.int 1), some (.int b), none] [] F _
  refine R2.B (ls2 := [some (.ref 5), some (.int 1), some (.int b), none]) (st2 := [.int 1]) b_X10_type_0_1 rfl (fun hd => ?_)
  refine R2.callS3 (M2 := mX10_isText) (As := [.int 1]) (rest := []) hd lk_10_92 okX10_isText (by decide) (ev_isText E L F 1) (by decide) rfl rfl (Nat.le_of_ble_eq_true rfl) ?_
  refine R2.B (ls2 := [some (.ref 5), some (.int 1), some (.int b), none]) (st2 := [.int (b2i (1 = 0 ∨ 1 = 1))]) b_X10_type_4_4 rfl (fun hd => ?_)
  refine R2.if_eq 18 hd (by decide) (fun c4 => absurd c4 (by decide)) (fun c4 => ?_)
  refine R2.B (ls2 := [some (.ref 5), some (.int 1), some (.int b), none]) (st2 := [.int b]) b_X10_type_7_8 rfl (fun hd => ?_)
  refine R2.if_lt 18 hd (by decide) (fun c8 => ?_) (fun c8 => ?_)
  · refine R2.B (ls2 := [some (.ref 5), some (.int 1), some (.int b), none]) (st2 := [.int (-2)]) b_X10_type_18_20 rfl (fun hd => ?_)
    exact False.elim (by clear hd; grind)
  · refine R2.B (ls2 := [some (.ref 5), some (.int 1), some (.int b), none]) (st2 := [.int 255, .int b]) b_X10_type_11_15 rfl (fun hd => ?_)
    refine R2.icmp_le 21 hd (by decide) (fun c15 => ?_) (fun c15 => ?_)
    · refine R2.B (ls2 := [some (.ref 5), some (.int 1), some (.int b), none]) (st2 := [.int 1, .ref 5]) b_X10_type_21_23 rfl (fun hd => ?_)
      refine R2.callV3 (M2 := mX10_textOf) (As := [.int 1]) (rest := []) hd lk_10_96 okX10_textOf (by decide) rfl (ev_textOf1 E L F) (by decide) rfl rfl (Nat.le_of_ble_eq_true rfl) ?_
      refine R2.B (ls2 := [some (.ref 5), some (.int 1), some (.int b), some (.ref 8)]) (st2 := [.ref 8]) b_X10_type_26_28 rfl (fun hd => ?_)
      refine R2.callV3 (M2 := mX7_isFull) (As := []) (rest := []) hd lk_10_100 okX7_isFull (by decide) rfl (ev_isFull8 E L _) (by decide) rfl rfl (Nat.le_of_ble_eq_true rfl) ?_
      refine R2.B (ls2 := [some (.ref 5), some (.int 1), some (.int b), some (.ref 8)]) (st2 := [.int (b2i (¬ F 8 1 < 60))]) b_X10_type_31_31 rfl (fun hd => ?_)
      refine R2.if_eq 37 hd (by decide) (fun c31 => absurd c31 (b2i_nz.mpr hf)) (fun c31 => ?_)
      refine R2.B (ls2 := [some (.ref 5), some (.int 1), some (.int b), some (.ref 8)]) (st2 := [.int (-4)]) b_X10_type_34_36 rfl (fun hd => ?_)
      exact R2.ret3 (r := some (.int (-4))) hd trivial rfl rfl rfl
    · refine R2.B (ls2 := [some (.ref 5), some (.int 1), some (.int b), none]) (st2 := [.int (-2)]) b_X10_type_18_20 rfl (fun hd => ?_)
      exact False.elim (by clear hd; grind)
set_option maxRecDepth 20000 in
set_option maxHeartbeats 1000000 in
theorem x_type_ok1 (E : EE) (L : Nat) (F : FF) (b : Int32) (hb : 0 ≤ b ∧ b ≤ 255) (n : Nat) (hn : F 10 5 = nI n) (hn10 : n ≤ 10) (l1 : Nat) (h8 : F 8 1 = nI l1) (hl1 : l1 < 60) : Ev3 E L 8 mX10_type [.ref 5, .int 1, .int b] F (some (.int ((tfF (up2 (up2 F 9 l1 b) 8 1 (nI (l1 + 1))) (l1 + 1) n) 8 1))) (tfF (up2 (up2 F 9 l1 b) 8 1 (nI (l1 + 1))) (l1 + 1) n) := by
  refine Ev3.of okX10_type.2.2.1 (Nat.le_of_ble_eq_true rfl) ?_
  show R2 E L mX10_type 8 0 [some (.ref 5), some (.int 1), some (.int b), none] [] F _
  refine R2.B (ls2 := [some (.ref 5), some (.int 1), some (.int b), none]) (st2 := [.int 1]) b_X10_type_0_1 rfl (fun hd => ?_)
  refine R2.callS3 (M2 := mX10_isText) (As := [.int 1]) (rest := []) hd lk_10_92 okX10_isText (by decide) (ev_isText E L F 1) (by decide) rfl rfl (Nat.le_of_ble_eq_true rfl) ?_
  refine R2.B (ls2 := [some (.ref 5), some (.int 1), some (.int b), none]) (st2 := [.int (b2i (1 = 0 ∨ 1 = 1))]) b_X10_type_4_4 rfl (fun hd => ?_)
  refine R2.if_eq 18 hd (by decide) (fun c4 => absurd c4 (by decide)) (fun c4 => ?_)
  refine R2.B (ls2 := [some (.ref 5), some (.int 1), some (.int b), none]) (st2 := [.int b]) b_X10_type_7_8 rfl (fun hd => ?_)
  refine R2.if_lt 18 hd (by decide) (fun c8 => ?_) (fun c8 => ?_)
  · refine R2.B (ls2 := [some (.ref 5), some (.int 1), some (.int b), none]) (st2 := [.int (-2)]) b_X10_type_18_20 rfl (fun hd => ?_)
    exact False.elim (by clear hd; grind)
  · refine R2.B (ls2 := [some (.ref 5), some (.int 1), some (.int b), none]) (st2 := [.int 255, .int b]) b_X10_type_11_15 rfl (fun hd => ?_)
    refine R2.icmp_le 21 hd (by decide) (fun c15 => ?_) (fun c15 => ?_)
    · refine R2.B (ls2 := [some (.ref 5), some (.int 1), some (.int b), none]) (st2 := [.int 1, .ref 5]) b_X10_type_21_23 rfl (fun hd => ?_)
      refine R2.callV3 (M2 := mX10_textOf) (As := [.int 1]) (rest := []) hd lk_10_96 okX10_textOf (by decide) rfl (ev_textOf1 E L F) (by decide) rfl rfl (Nat.le_of_ble_eq_true rfl) ?_
      refine R2.B (ls2 := [some (.ref 5), some (.int 1), some (.int b), some (.ref 8)]) (st2 := [.ref 8]) b_X10_type_26_28 rfl (fun hd => ?_)
      refine R2.callV3 (M2 := mX7_isFull) (As := []) (rest := []) hd lk_10_100 okX7_isFull (by decide) rfl (ev_isFull8 E L _) (by decide) rfl rfl (Nat.le_of_ble_eq_true rfl) ?_
      refine R2.B (ls2 := [some (.ref 5), some (.int 1), some (.int b), some (.ref 8)]) (st2 := [.int (b2i (¬ F 8 1 < 60))]) b_X10_type_31_31 rfl (fun hd => ?_)
      refine R2.if_eq 37 hd (by decide) (fun c31 => ?_) (fun c31 => absurd (b2i_zero.mpr (fun z => z (by rw [h8]; exact nI_lt (b := 60) (by omega) (by decide)))) c31)
      refine R2.B (ls2 := [some (.ref 5), some (.int 1), some (.int b), some (.ref 8)]) (st2 := [.int b, .ref 8]) b_X10_type_37_39 rfl (fun hd => ?_)
      refine R2.callV3 (M2 := mX7_add) (As := [.int b]) (rest := []) hd lk_10_104 okX7_add (by decide) rfl (ev_add8 E L F l1 b h8 (by omega)) (by decide) rfl rfl (Nat.le_of_ble_eq_true rfl) ?_
      refine R2.B (ls2 := [some (.ref 5), some (.int 1), some (.int b), some (.ref 8)]) (st2 := [.int 1, .ref 5]) b_X10_type_42_44 rfl (fun hd => ?_)
      refine R2.callV3 (M2 := mX10_takeIn) (As := [.int 1]) (rest := []) hd lk_10_107 okX10_takeIn (by decide) rfl (ev_takeIn1 E L (up2 (up2 F 9 l1 b) 8 1 (nI (l1 + 1))) n hn hn10 (l1 + 1) rfl (by omega)) (by decide) rfl rfl (Nat.le_of_ble_eq_true rfl) ?_
      refine R2.B (ls2 := [some (.ref 5), some (.int 1), some (.int b), some (.ref 8)]) (st2 := [.ref 8]) b_X10_type_47_48 rfl (fun hd => ?_)
      refine R2.callV3 (M2 := mX7_length) (As := []) (rest := []) hd lk_10_110 okX7_length (by decide) rfl (ev_length8 E L _) (by decide) rfl rfl (Nat.le_of_ble_eq_true rfl) ?_
      refine R2.B (ls2 := [some (.ref 5), some (.int 1), some (.int b), some (.ref 8)]) (st2 := [.int ((tfF (up2 (up2 F 9 l1 b) 8 1 (nI (l1 + 1))) (l1 + 1) n) 8 1)]) b_X10_type_51_51 rfl (fun hd => ?_)
      exact R2.ret3 (r := some (.int ((tfF (up2 (up2 F 9 l1 b) 8 1 (nI (l1 + 1))) (l1 + 1) n) 8 1))) hd trivial rfl rfl rfl
    · refine R2.B (ls2 := [some (.ref 5), some (.int 1), some (.int b), none]) (st2 := [.int (-2)]) b_X10_type_18_20 rfl (fun hd => ?_)
      exact False.elim (by clear hd; grind)
theorem b_X10_wipe_0_1 : bl2 mX10_wipe 0 [(.iload_n 1, 1, 1, 0, .null)] 1 (.invokestatic 92) 3 = true := by decide +kernel
theorem b_X10_wipe_4_4 : bl2 mX10_wipe 4 [] 4 (.ifCond .ne 6) 3 = true := by decide +kernel
theorem b_X10_wipe_10_10 : bl2 mX10_wipe 10 [] 10 (.aload_n 0) 1 = true := by decide +kernel
theorem b_X10_wipe_7_9 : bl2 mX10_wipe 7 [(.bipush (-2), 2, 0, 0, .int (-2))] 9 (.ireturn) 1 = true := by decide +kernel
set_option maxRecDepth 20000 in
set_option maxHeartbeats 1000000 in
theorem x_wipe_bad (E : EE) (L : Nat) (F : FF) (t : Int32) (h : ¬ (t = 0 ∨ t = 1)) : Ev3 E L 8 mX10_wipe [.ref 5, .int t] F (some (.int (-2))) F := by
  refine Ev3.of okX10_wipe.2.2.1 (Nat.le_of_ble_eq_true rfl) ?_
  show R2 E L mX10_wipe 8 0 [some (.ref 5), some (.int t), none] [] F _
  refine R2.B (ls2 := [some (.ref 5), some (.int t), none]) (st2 := [.int t]) b_X10_wipe_0_1 rfl (fun hd => ?_)
  refine R2.callS3 (M2 := mX10_isText) (As := [.int t]) (rest := []) hd lk_10_92 okX10_isText (by decide) (ev_isText E L F t) (by decide) rfl rfl (Nat.le_of_ble_eq_true rfl) ?_
  refine R2.B (ls2 := [some (.ref 5), some (.int t), none]) (st2 := [.int (b2i (t = 0 ∨ t = 1))]) b_X10_wipe_4_4 rfl (fun hd => ?_)
  refine R2.if_ne 10 hd (by decide) (fun c4 => ?_) (fun c4 => ?_)
  · have nc4 : t = 0 ∨ t = 1 := b2i_nz.mp c4
    refine R2.B (ls2 := [some (.ref 5), some (.int t), none]) (st2 := []) b_X10_wipe_10_10 rfl (fun hd => ?_)
    exact False.elim (by clear hd; grind)
  · have nc4 : ¬ (t = 0 ∨ t = 1) := b2i_zero.mp c4
    refine R2.B (ls2 := [some (.ref 5), some (.int t), none]) (st2 := [.int (-2)]) b_X10_wipe_7_9 rfl (fun hd => ?_)
    exact R2.ret3 (r := some (.int (-2))) hd trivial rfl rfl rfl
theorem b_X10_wipe_10_12 : bl2 mX10_wipe 10 [(.aload_n 0, 1, 0, 0, .null), (.iload_n 1, 1, 1, 0, .null)] 12 (.invokevirtual 96) 3 = true := by decide +kernel
theorem b_X10_wipe_15_15 : bl2 mX10_wipe 15 [] 15 (.invokevirtual 114) 3 = true := by decide +kernel
theorem b_X10_wipe_18_21 : bl2 mX10_wipe 18 [(.istore_n 2, 1, 2, 0, .null), (.aload_n 0, 1, 0, 0, .null), (.iload_n 1, 1, 1, 0, .null)] 21 (.invokevirtual 107) 3 = true := by decide +kernel
theorem b_X10_wipe_24_25 : bl2 mX10_wipe 24 [(.iload_n 2, 1, 2, 0, .null)] 25 (.ireturn) 1 = true := by decide +kernel
set_option maxRecDepth 20000 in
set_option maxHeartbeats 1000000 in
theorem x_wipe_ok0 (E : EE) (L : Nat) (F : FF) (l1 : Nat) (h8 : F 8 1 = nI l1) (hl1 : l1 ≤ 60) : Ev3 E L 8 mX10_wipe [.ref 5, .int 0] F (some (.int (F 6 1))) (tfF (tellF (up2 F 6 1 0) 0) l1 (cCnt 0 ((up2 F 6 1 0) 7))) := by
  refine Ev3.of okX10_wipe.2.2.1 (Nat.le_of_ble_eq_true rfl) ?_
  show R2 E L mX10_wipe 8 0 [some (.ref 5), some (.int 0), none] [] F _
  refine R2.B (ls2 := [some (.ref 5), some (.int 0), none]) (st2 := [.int 0]) b_X10_wipe_0_1 rfl (fun hd => ?_)
  refine R2.callS3 (M2 := mX10_isText) (As := [.int 0]) (rest := []) hd lk_10_92 okX10_isText (by decide) (ev_isText E L F 0) (by decide) rfl rfl (Nat.le_of_ble_eq_true rfl) ?_
  refine R2.B (ls2 := [some (.ref 5), some (.int 0), none]) (st2 := [.int (b2i (0 = 0 ∨ 0 = 1))]) b_X10_wipe_4_4 rfl (fun hd => ?_)
  refine R2.if_ne 10 hd (by decide) (fun c4 => ?_) (fun c4 => absurd c4 (by decide))
  refine R2.B (ls2 := [some (.ref 5), some (.int 0), none]) (st2 := [.int 0, .ref 5]) b_X10_wipe_10_12 rfl (fun hd => ?_)
  refine R2.callV3 (M2 := mX10_textOf) (As := [.int 0]) (rest := []) hd lk_10_96 okX10_textOf (by decide) rfl (ev_textOf0 E L F) (by decide) rfl rfl (Nat.le_of_ble_eq_true rfl) ?_
  refine R2.B (ls2 := [some (.ref 5), some (.int 0), none]) (st2 := [.ref 6]) b_X10_wipe_15_15 rfl (fun hd => ?_)
  refine R2.callV3 (M2 := mX7_clear) (As := []) (rest := []) hd lk_10_114 okX7_clear (by decide) rfl (ev_clear6 E L _) (by decide) rfl rfl (Nat.le_of_ble_eq_true rfl) ?_
  refine R2.B (ls2 := [some (.ref 5), some (.int 0), some (.int (F 6 1))]) (st2 := [.int 0, .ref 5]) b_X10_wipe_18_21 rfl (fun hd => ?_)
  refine R2.callV3 (M2 := mX10_takeIn) (As := [.int 0]) (rest := []) hd lk_10_107 okX10_takeIn (by decide) rfl (ev_takeIn0 E L (up2 F 6 1 0) 0 l1 rfl (by omega) h8 hl1) (by decide) rfl rfl (Nat.le_of_ble_eq_true rfl) ?_
  refine R2.B (ls2 := [some (.ref 5), some (.int 0), some (.int (F 6 1))]) (st2 := [.int (F 6 1)]) b_X10_wipe_24_25 rfl (fun hd => ?_)
  exact R2.ret3 (r := some (.int (F 6 1))) hd trivial rfl rfl rfl
set_option maxRecDepth 20000 in
set_option maxHeartbeats 1000000 in
theorem x_wipe_ok1 (E : EE) (L : Nat) (F : FF) (n : Nat) (hn : F 10 5 = nI n) (hn10 : n ≤ 10) : Ev3 E L 8 mX10_wipe [.ref 5, .int 1] F (some (.int (F 8 1))) (tfF (up2 F 8 1 0) 0 n) := by
  refine Ev3.of okX10_wipe.2.2.1 (Nat.le_of_ble_eq_true rfl) ?_
  show R2 E L mX10_wipe 8 0 [some (.ref 5), some (.int 1), none] [] F _
  refine R2.B (ls2 := [some (.ref 5), some (.int 1), none]) (st2 := [.int 1]) b_X10_wipe_0_1 rfl (fun hd => ?_)
  refine R2.callS3 (M2 := mX10_isText) (As := [.int 1]) (rest := []) hd lk_10_92 okX10_isText (by decide) (ev_isText E L F 1) (by decide) rfl rfl (Nat.le_of_ble_eq_true rfl) ?_
  refine R2.B (ls2 := [some (.ref 5), some (.int 1), none]) (st2 := [.int (b2i (1 = 0 ∨ 1 = 1))]) b_X10_wipe_4_4 rfl (fun hd => ?_)
  refine R2.if_ne 10 hd (by decide) (fun c4 => ?_) (fun c4 => absurd c4 (by decide))
  refine R2.B (ls2 := [some (.ref 5), some (.int 1), none]) (st2 := [.int 1, .ref 5]) b_X10_wipe_10_12 rfl (fun hd => ?_)
  refine R2.callV3 (M2 := mX10_textOf) (As := [.int 1]) (rest := []) hd lk_10_96 okX10_textOf (by decide) rfl (ev_textOf1 E L F) (by decide) rfl rfl (Nat.le_of_ble_eq_true rfl) ?_
  refine R2.B (ls2 := [some (.ref 5), some (.int 1), none]) (st2 := [.ref 8]) b_X10_wipe_15_15 rfl (fun hd => ?_)
  refine R2.callV3 (M2 := mX7_clear) (As := []) (rest := []) hd lk_10_114 okX7_clear (by decide) rfl (ev_clear8 E L _) (by decide) rfl rfl (Nat.le_of_ble_eq_true rfl) ?_
  refine R2.B (ls2 := [some (.ref 5), some (.int 1), some (.int (F 8 1))]) (st2 := [.int 1, .ref 5]) b_X10_wipe_18_21 rfl (fun hd => ?_)
  refine R2.callV3 (M2 := mX10_takeIn) (As := [.int 1]) (rest := []) hd lk_10_107 okX10_takeIn (by decide) rfl (ev_takeIn1 E L (up2 F 8 1 0) n hn hn10 0 rfl (by omega)) (by decide) rfl rfl (Nat.le_of_ble_eq_true rfl) ?_
  refine R2.B (ls2 := [some (.ref 5), some (.int 1), some (.int (F 8 1))]) (st2 := [.int (F 8 1)]) b_X10_wipe_24_25 rfl (fun hd => ?_)
  exact R2.ret3 (r := some (.int (F 8 1))) hd trivial rfl rfl rfl
theorem b_X10_fault_0_1 : bl2 mX10_fault 0 [(.iload_n 1, 1, 1, 0, .null)] 1 (.invokestatic 92) 3 = true := by decide +kernel
theorem b_X10_fault_4_4 : bl2 mX10_fault 4 [] 4 (.ifCond .ne 6) 3 = true := by decide +kernel
theorem b_X10_fault_10_10 : bl2 mX10_fault 10 [] 10 (.iload_n 1) 1 = true := by decide +kernel
theorem b_X10_fault_7_9 : bl2 mX10_fault 7 [(.bipush (-2), 2, 0, 0, .int (-2))] 9 (.ireturn) 1 = true := by decide +kernel
set_option maxRecDepth 20000 in
set_option maxHeartbeats 1000000 in
theorem x_fault_bad (E : EE) (L : Nat) (F : FF) (t : Int32) (h : ¬ (t = 0 ∨ t = 1)) : Ev3 E L 8 mX10_fault [.ref 5, .int t] F (some (.int (-2))) F := by
  refine Ev3.of okX10_fault.2.2.1 (Nat.le_of_ble_eq_true rfl) ?_
  show R2 E L mX10_fault 8 0 [some (.ref 5), some (.int t)] [] F _
  refine R2.B (ls2 := [some (.ref 5), some (.int t)]) (st2 := [.int t]) b_X10_fault_0_1 rfl (fun hd => ?_)
  refine R2.callS3 (M2 := mX10_isText) (As := [.int t]) (rest := []) hd lk_10_92 okX10_isText (by decide) (ev_isText E L F t) (by decide) rfl rfl (Nat.le_of_ble_eq_true rfl) ?_
  refine R2.B (ls2 := [some (.ref 5), some (.int t)]) (st2 := [.int (b2i (t = 0 ∨ t = 1))]) b_X10_fault_4_4 rfl (fun hd => ?_)
  refine R2.if_ne 10 hd (by decide) (fun c4 => ?_) (fun c4 => ?_)
  · have nc4 : t = 0 ∨ t = 1 := b2i_nz.mp c4
    refine R2.B (ls2 := [some (.ref 5), some (.int t)]) (st2 := []) b_X10_fault_10_10 rfl (fun hd => ?_)
    exact False.elim (by clear hd; grind)
  · have nc4 : ¬ (t = 0 ∨ t = 1) := b2i_zero.mp c4
    refine R2.B (ls2 := [some (.ref 5), some (.int t)]) (st2 := [.int (-2)]) b_X10_fault_7_9 rfl (fun hd => ?_)
    exact R2.ret3 (r := some (.int (-2))) hd trivial rfl rfl rfl
theorem b_X10_fault_10_11 : bl2 mX10_fault 10 [(.iload_n 1, 1, 1, 0, .null)] 11 (.ifCond .ne 13) 3 = true := by decide +kernel
theorem b_X10_fault_14_31 : bl2 mX10_fault 14 [(.aload_n 0, 1, 0, 0, .null), (.getfield 24, 3, 10, 2, .null), (.getfield 117, 3, 0, 6, .null), (.goto 10, 3, 31, 0, .null)] 31 (.ireturn) 1 = true := by decide +kernel
set_option maxRecDepth 20000 in
set_option maxHeartbeats 1000000 in
theorem x_fault_ok0 (E : EE) (L : Nat) (F : FF) : Ev3 E L 8 mX10_fault [.ref 5, .int 0] F (some (.int (F 10 6))) F := by
  refine Ev3.of okX10_fault.2.2.1 (Nat.le_of_ble_eq_true rfl) ?_
  show R2 E L mX10_fault 8 0 [some (.ref 5), some (.int 0)] [] F _
  refine R2.B (ls2 := [some (.ref 5), some (.int 0)]) (st2 := [.int 0]) b_X10_fault_0_1 rfl (fun hd => ?_)
  refine R2.callS3 (M2 := mX10_isText) (As := [.int 0]) (rest := []) hd lk_10_92 okX10_isText (by decide) (ev_isText E L F 0) (by decide) rfl rfl (Nat.le_of_ble_eq_true rfl) ?_
  refine R2.B (ls2 := [some (.ref 5), some (.int 0)]) (st2 := [.int (b2i (0 = 0 ∨ 0 = 1))]) b_X10_fault_4_4 rfl (fun hd => ?_)
  refine R2.if_ne 10 hd (by decide) (fun c4 => ?_) (fun c4 => absurd c4 (by decide))
  refine R2.B (ls2 := [some (.ref 5), some (.int 0)]) (st2 := [.int 0]) b_X10_fault_10_11 rfl (fun hd => ?_)
  refine R2.if_ne 24 hd (by decide) (fun c11 => absurd (by decide) c11) (fun c11 => ?_)
  refine R2.B (ls2 := [some (.ref 5), some (.int 0)]) (st2 := [.int (F 10 6)]) b_X10_fault_14_31 rfl (fun hd => ?_)
  exact R2.ret3 (r := some (.int (F 10 6))) hd trivial rfl rfl rfl
theorem b_X10_fault_24_31 : bl2 mX10_fault 24 [(.aload_n 0, 1, 0, 0, .null), (.getfield 40, 3, 10, 4, .null), (.getfield 120, 3, 1, 4, .null)] 31 (.ireturn) 1 = true := by decide +kernel
set_option maxRecDepth 20000 in
set_option maxHeartbeats 1000000 in
theorem x_fault_ok1 (E : EE) (L : Nat) (F : FF) : Ev3 E L 8 mX10_fault [.ref 5, .int 1] F (some (.int (F 18 4))) F := by
  refine Ev3.of okX10_fault.2.2.1 (Nat.le_of_ble_eq_true rfl) ?_
  show R2 E L mX10_fault 8 0 [some (.ref 5), some (.int 1)] [] F _
  refine R2.B (ls2 := [some (.ref 5), some (.int 1)]) (st2 := [.int 1]) b_X10_fault_0_1 rfl (fun hd => ?_)
  refine R2.callS3 (M2 := mX10_isText) (As := [.int 1]) (rest := []) hd lk_10_92 okX10_isText (by decide) (ev_isText E L F 1) (by decide) rfl rfl (Nat.le_of_ble_eq_true rfl) ?_
  refine R2.B (ls2 := [some (.ref 5), some (.int 1)]) (st2 := [.int (b2i (1 = 0 ∨ 1 = 1))]) b_X10_fault_4_4 rfl (fun hd => ?_)
  refine R2.if_ne 10 hd (by decide) (fun c4 => ?_) (fun c4 => absurd c4 (by decide))
  refine R2.B (ls2 := [some (.ref 5), some (.int 1)]) (st2 := [.int 1]) b_X10_fault_10_11 rfl (fun hd => ?_)
  refine R2.if_ne 24 hd (by decide) (fun c11 => ?_) (fun c11 => absurd c11 (by decide))
  refine R2.B (ls2 := [some (.ref 5), some (.int 1)]) (st2 := [.int (F 18 4)]) b_X10_fault_24_31 rfl (fun hd => ?_)
  exact R2.ret3 (r := some (.int (F 18 4))) hd trivial rfl rfl rfl
theorem b_X10_set_0_1 : bl2 mX10_set 0 [(.iload_n 1, 1, 1, 0, .null)] 1 (.ifCond .lt 26) 3 = true := by decide +kernel
theorem b_X10_set_4_6 : bl2 mX10_set 4 [(.iload_n 1, 1, 1, 0, .null), (.iconst 2, 1, 0, 0, .int 2)] 6 (.if_icmp .gt 21) 3 = true := by decide +kernel
theorem b_X10_set_9_14 : bl2 mX10_set 9 [(.iload_n 2, 1, 2, 0, .null), (.getstatic 121, 3, 3, 0, .null), (.iload_n 1, 1, 1, 0, .null)] 14 (.iaload) 1 = true := by decide +kernel
theorem b_X10_set_15_15 : bl2 mX10_set 15 [] 15 (.if_icmp .lt 12) 3 = true := by decide +kernel
theorem b_X10_set_27_29 : bl2 mX10_set 27 [(.bipush (-2), 2, 0, 0, .int (-2))] 29 (.ireturn) 1 = true := by decide +kernel
theorem b_X10_set_18_23 : bl2 mX10_set 18 [(.iload_n 2, 1, 2, 0, .null), (.getstatic 125, 3, 4, 0, .null), (.iload_n 1, 1, 1, 0, .null)] 23 (.iaload) 1 = true := by decide +kernel
theorem b_X10_set_24_24 : bl2 mX10_set 24 [] 24 (.if_icmp .le 6) 3 = true := by decide +kernel
theorem b_X10_set_30_30 : bl2 mX10_set 30 [] 30 (.aload_n 0) 1 = true := by decide +kernel
set_option maxRecDepth 20000 in
set_option maxHeartbeats 1000000 in
theorem x_set_bad0 (E : EE) (L : Nat) (F : FF) (v : Int32) (h : v < F 3 0 ∨ F 4 0 < v) : Ev3 E L 8 mX10_set [.ref 5, .int 0, .int v] F (some (.int (-2))) F := by
  refine Ev3.of okX10_set.2.2.1 (Nat.le_of_ble_eq_true rfl) ?_
  show R2 E L mX10_set 8 0 [some (.ref 5), some (.int 0), some (.int v), none] [] F _
  refine R2.B (ls2 := [some (.ref 5), some (.int 0), some (.int v), none]) (st2 := [.int 0]) b_X10_set_0_1 rfl (fun hd => ?_)
  refine R2.if_lt 27 hd (by decide) (fun c1 => absurd c1 (by decide)) (fun c1 => ?_)
  refine R2.B (ls2 := [some (.ref 5), some (.int 0), some (.int v), none]) (st2 := [.int 2, .int 0]) b_X10_set_4_6 rfl (fun hd => ?_)
  refine R2.icmp_gt 27 hd (by decide) (fun c6 => absurd c6 (by decide)) (fun c6 => ?_)
  refine R2.B (ls2 := [some (.ref 5), some (.int 0), some (.int v), none]) (st2 := [.int 0, .ref 3, .int v]) b_X10_set_9_14 rfl (fun hd => ?_)
  refine R2.iald 0 rfl hd rfl (fun _ => rfl) (by decide) (by omega) ?_
  refine R2.B (ls2 := [some (.ref 5), some (.int 0), some (.int v), none]) (st2 := [.int (F 3 0), .int v]) b_X10_set_15_15 rfl (fun hd => ?_)
  refine R2.icmp_lt 27 hd (by decide) (fun c15 => ?_) (fun c15 => ?_)
  · refine R2.B (ls2 := [some (.ref 5), some (.int 0), some (.int v), none]) (st2 := [.int (-2)]) b_X10_set_27_29 rfl (fun hd => ?_)
    exact R2.ret3 (r := some (.int (-2))) hd trivial rfl rfl rfl
  · refine R2.B (ls2 := [some (.ref 5), some (.int 0), some (.int v), none]) (st2 := [.int 0, .ref 4, .int v]) b_X10_set_18_23 rfl (fun hd => ?_)
    refine R2.iald 0 rfl hd rfl (fun _ => rfl) (by decide) (by omega) ?_
    refine R2.B (ls2 := [some (.ref 5), some (.int 0), some (.int v), none]) (st2 := [.int (F 4 0), .int v]) b_X10_set_24_24 rfl (fun hd => ?_)
    refine R2.icmp_le 30 hd (by decide) (fun c24 => ?_) (fun c24 => ?_)
    · refine R2.B (ls2 := [some (.ref 5), some (.int 0), some (.int v), none]) (st2 := []) b_X10_set_30_30 rfl (fun hd => ?_)
      exact False.elim (by clear hd; grind)
    · refine R2.B (ls2 := [some (.ref 5), some (.int 0), some (.int v), none]) (st2 := [.int (-2)]) b_X10_set_27_29 rfl (fun hd => ?_)
      exact R2.ret3 (r := some (.int (-2))) hd trivial rfl rfl rfl
theorem b_X10_set_30_38 : bl2 mX10_set 30 [(.aload_n 0, 1, 0, 0, .null), (.getfield 33, 3, 10, 3, .null), (.getfield 128, 3, 2, 1, .null), (.iload_n 1, 1, 1, 0, .null)] 38 (.iaload) 1 = true := by decide +kernel
theorem b_X10_set_39_49 : bl2 mX10_set 39 [(.istore_n 3, 1, 3, 0, .null), (.aload_n 0, 1, 0, 0, .null), (.getfield 33, 3, 10, 3, .null), (.getfield 128, 3, 2, 1, .null), (.iload_n 1, 1, 1, 0, .null), (.iload_n 2, 1, 2, 0, .null)] 49 (.iastore) 1 = true := by decide +kernel
theorem b_X10_set_50_51 : bl2 mX10_set 50 [(.iload_n 3, 1, 3, 0, .null)] 51 (.ireturn) 1 = true := by decide +kernel
set_option maxRecDepth 20000 in
set_option maxHeartbeats 1000000 in
theorem x_set_ok0 (E : EE) (L : Nat) (F : FF) (v : Int32) (h : ¬ (v < F 3 0 ∨ F 4 0 < v)) : Ev3 E L 8 mX10_set [.ref 5, .int 0, .int v] F (some (.int (F 17 0))) (up2 F 17 0 v) := by
  refine Ev3.of okX10_set.2.2.1 (Nat.le_of_ble_eq_true rfl) ?_
  show R2 E L mX10_set 8 0 [some (.ref 5), some (.int 0), some (.int v), none] [] F _
  refine R2.B (ls2 := [some (.ref 5), some (.int 0), some (.int v), none]) (st2 := [.int 0]) b_X10_set_0_1 rfl (fun hd => ?_)
  refine R2.if_lt 27 hd (by decide) (fun c1 => absurd c1 (by decide)) (fun c1 => ?_)
  refine R2.B (ls2 := [some (.ref 5), some (.int 0), some (.int v), none]) (st2 := [.int 2, .int 0]) b_X10_set_4_6 rfl (fun hd => ?_)
  refine R2.icmp_gt 27 hd (by decide) (fun c6 => absurd c6 (by decide)) (fun c6 => ?_)
  refine R2.B (ls2 := [some (.ref 5), some (.int 0), some (.int v), none]) (st2 := [.int 0, .ref 3, .int v]) b_X10_set_9_14 rfl (fun hd => ?_)
  refine R2.iald 0 rfl hd rfl (fun _ => rfl) (by decide) (by omega) ?_
  refine R2.B (ls2 := [some (.ref 5), some (.int 0), some (.int v), none]) (st2 := [.int (F 3 0), .int v]) b_X10_set_15_15 rfl (fun hd => ?_)
  refine R2.icmp_lt 27 hd (by decide) (fun c15 => ?_) (fun c15 => ?_)
  · refine R2.B (ls2 := [some (.ref 5), some (.int 0), some (.int v), none]) (st2 := [.int (-2)]) b_X10_set_27_29 rfl (fun hd => ?_)
    exact False.elim (by clear hd; grind)
  · refine R2.B (ls2 := [some (.ref 5), some (.int 0), some (.int v), none]) (st2 := [.int 0, .ref 4, .int v]) b_X10_set_18_23 rfl (fun hd => ?_)
    refine R2.iald 0 rfl hd rfl (fun _ => rfl) (by decide) (by omega) ?_
    refine R2.B (ls2 := [some (.ref 5), some (.int 0), some (.int v), none]) (st2 := [.int (F 4 0), .int v]) b_X10_set_24_24 rfl (fun hd => ?_)
    refine R2.icmp_le 30 hd (by decide) (fun c24 => ?_) (fun c24 => ?_)
    · refine R2.B (ls2 := [some (.ref 5), some (.int 0), some (.int v), none]) (st2 := [.int 0, .ref 17]) b_X10_set_30_38 rfl (fun hd => ?_)
      refine R2.iald 0 rfl hd rfl (fun _ => rfl) (by decide) (by omega) ?_
      refine R2.B (ls2 := [some (.ref 5), some (.int 0), some (.int v), some (.int (F 17 0))]) (st2 := [.int v, .int 0, .ref 17]) b_X10_set_39_49 rfl (fun hd => ?_)
      refine R2.iast 0 rfl hd (by decide) rfl (fun _ => rfl) (by decide) (by omega) ?_
      refine R2.B (ls2 := [some (.ref 5), some (.int 0), some (.int v), some (.int (F 17 0))]) (st2 := [.int (F 17 0)]) b_X10_set_50_51 rfl (fun hd => ?_)
      exact R2.ret3 (r := some (.int (F 17 0))) hd trivial rfl rfl rfl
    · refine R2.B (ls2 := [some (.ref 5), some (.int 0), some (.int v), none]) (st2 := [.int (-2)]) b_X10_set_27_29 rfl (fun hd => ?_)
      exact False.elim (by clear hd; grind)
set_option maxRecDepth 20000 in
set_option maxHeartbeats 1000000 in
theorem x_set_bad1 (E : EE) (L : Nat) (F : FF) (v : Int32) (h : v < F 3 1 ∨ F 4 1 < v) : Ev3 E L 8 mX10_set [.ref 5, .int 1, .int v] F (some (.int (-2))) F := by
  refine Ev3.of okX10_set.2.2.1 (Nat.le_of_ble_eq_true rfl) ?_
  show R2 E L mX10_set 8 0 [some (.ref 5), some (.int 1), some (.int v), none] [] F _
  refine R2.B (ls2 := [some (.ref 5), some (.int 1), some (.int v), none]) (st2 := [.int 1]) b_X10_set_0_1 rfl (fun hd => ?_)
  refine R2.if_lt 27 hd (by decide) (fun c1 => absurd c1 (by decide)) (fun c1 => ?_)
  refine R2.B (ls2 := [some (.ref 5), some (.int 1), some (.int v), none]) (st2 := [.int 2, .int 1]) b_X10_set_4_6 rfl (fun hd => ?_)
  refine R2.icmp_gt 27 hd (by decide) (fun c6 => absurd c6 (by decide)) (fun c6 => ?_)
  refine R2.B (ls2 := [some (.ref 5), some (.int 1), some (.int v), none]) (st2 := [.int 1, .ref 3, .int v]) b_X10_set_9_14 rfl (fun hd => ?_)
  refine R2.iald 1 rfl hd rfl (fun _ => rfl) (by decide) (by omega) ?_
  refine R2.B (ls2 := [some (.ref 5), some (.int 1), some (.int v), none]) (st2 := [.int (F 3 1), .int v]) b_X10_set_15_15 rfl (fun hd => ?_)
  refine R2.icmp_lt 27 hd (by decide) (fun c15 => ?_) (fun c15 => ?_)
  · refine R2.B (ls2 := [some (.ref 5), some (.int 1), some (.int v), none]) (st2 := [.int (-2)]) b_X10_set_27_29 rfl (fun hd => ?_)
    exact R2.ret3 (r := some (.int (-2))) hd trivial rfl rfl rfl
  · refine R2.B (ls2 := [some (.ref 5), some (.int 1), some (.int v), none]) (st2 := [.int 1, .ref 4, .int v]) b_X10_set_18_23 rfl (fun hd => ?_)
    refine R2.iald 1 rfl hd rfl (fun _ => rfl) (by decide) (by omega) ?_
    refine R2.B (ls2 := [some (.ref 5), some (.int 1), some (.int v), none]) (st2 := [.int (F 4 1), .int v]) b_X10_set_24_24 rfl (fun hd => ?_)
    refine R2.icmp_le 30 hd (by decide) (fun c24 => ?_) (fun c24 => ?_)
    · refine R2.B (ls2 := [some (.ref 5), some (.int 1), some (.int v), none]) (st2 := []) b_X10_set_30_30 rfl (fun hd => ?_)
      exact False.elim (by clear hd; grind)
    · refine R2.B (ls2 := [some (.ref 5), some (.int 1), some (.int v), none]) (st2 := [.int (-2)]) b_X10_set_27_29 rfl (fun hd => ?_)
      exact R2.ret3 (r := some (.int (-2))) hd trivial rfl rfl rfl
set_option maxRecDepth 20000 in
set_option maxHeartbeats 1000000 in
theorem x_set_ok1 (E : EE) (L : Nat) (F : FF) (v : Int32) (h : ¬ (v < F 3 1 ∨ F 4 1 < v)) : Ev3 E L 8 mX10_set [.ref 5, .int 1, .int v] F (some (.int (F 17 1))) (up2 F 17 1 v) := by
  refine Ev3.of okX10_set.2.2.1 (Nat.le_of_ble_eq_true rfl) ?_
  show R2 E L mX10_set 8 0 [some (.ref 5), some (.int 1), some (.int v), none] [] F _
  refine R2.B (ls2 := [some (.ref 5), some (.int 1), some (.int v), none]) (st2 := [.int 1]) b_X10_set_0_1 rfl (fun hd => ?_)
  refine R2.if_lt 27 hd (by decide) (fun c1 => absurd c1 (by decide)) (fun c1 => ?_)
  refine R2.B (ls2 := [some (.ref 5), some (.int 1), some (.int v), none]) (st2 := [.int 2, .int 1]) b_X10_set_4_6 rfl (fun hd => ?_)
  refine R2.icmp_gt 27 hd (by decide) (fun c6 => absurd c6 (by decide)) (fun c6 => ?_)
  refine R2.B (ls2 := [some (.ref 5), some (.int 1), some (.int v), none]) (st2 := [.int 1, .ref 3, .int v]) b_X10_set_9_14 rfl (fun hd => ?_)
  refine R2.iald 1 rfl hd rfl (fun _ => rfl) (by decide) (by omega) ?_
  refine R2.B (ls2 := [some (.ref 5), some (.int 1), some (.int v), none]) (st2 := [.int (F 3 1), .int v]) b_X10_set_15_15 rfl (fun hd => ?_)
  refine R2.icmp_lt 27 hd (by decide) (fun c15 => ?_) (fun c15 => ?_)
  · refine R2.B (ls2 := [some (.ref 5), some (.int 1), some (.int v), none]) (st2 := [.int (-2)]) b_X10_set_27_29 rfl (fun hd => ?_)
    exact False.elim (by clear hd; grind)
  · refine R2.B (ls2 := [some (.ref 5), some (.int 1), some (.int v), none]) (st2 := [.int 1, .ref 4, .int v]) b_X10_set_18_23 rfl (fun hd => ?_)
    refine R2.iald 1 rfl hd rfl (fun _ => rfl) (by decide) (by omega) ?_
    refine R2.B (ls2 := [some (.ref 5), some (.int 1), some (.int v), none]) (st2 := [.int (F 4 1), .int v]) b_X10_set_24_24 rfl (fun hd => ?_)
    refine R2.icmp_le 30 hd (by decide) (fun c24 => ?_) (fun c24 => ?_)
    · refine R2.B (ls2 := [some (.ref 5), some (.int 1), some (.int v), none]) (st2 := [.int 1, .ref 17]) b_X10_set_30_38 rfl (fun hd => ?_)
      refine R2.iald 1 rfl hd rfl (fun _ => rfl) (by decide) (by omega) ?_
      refine R2.B (ls2 := [some (.ref 5), some (.int 1), some (.int v), some (.int (F 17 1))]) (st2 := [.int v, .int 1, .ref 17]) b_X10_set_39_49 rfl (fun hd => ?_)
      refine R2.iast 1 rfl hd (by decide) rfl (fun _ => rfl) (by decide) (by omega) ?_
      refine R2.B (ls2 := [some (.ref 5), some (.int 1), some (.int v), some (.int (F 17 1))]) (st2 := [.int (F 17 1)]) b_X10_set_50_51 rfl (fun hd => ?_)
      exact R2.ret3 (r := some (.int (F 17 1))) hd trivial rfl rfl rfl
    · refine R2.B (ls2 := [some (.ref 5), some (.int 1), some (.int v), none]) (st2 := [.int (-2)]) b_X10_set_27_29 rfl (fun hd => ?_)
      exact False.elim (by clear hd; grind)
set_option maxRecDepth 20000 in
set_option maxHeartbeats 1000000 in
theorem x_set_bad2 (E : EE) (L : Nat) (F : FF) (v : Int32) (h : v < F 3 2 ∨ F 4 2 < v) : Ev3 E L 8 mX10_set [.ref 5, .int 2, .int v] F (some (.int (-2))) F := by
  refine Ev3.of okX10_set.2.2.1 (Nat.le_of_ble_eq_true rfl) ?_
  show R2 E L mX10_set 8 0 [some (.ref 5), some (.int 2), some (.int v), none] [] F _
  refine R2.B (ls2 := [some (.ref 5), some (.int 2), some (.int v), none]) (st2 := [.int 2]) b_X10_set_0_1 rfl (fun hd => ?_)
  refine R2.if_lt 27 hd (by decide) (fun c1 => absurd c1 (by decide)) (fun c1 => ?_)
  refine R2.B (ls2 := [some (.ref 5), some (.int 2), some (.int v), none]) (st2 := [.int 2, .int 2]) b_X10_set_4_6 rfl (fun hd => ?_)
  refine R2.icmp_gt 27 hd (by decide) (fun c6 => absurd c6 (by decide)) (fun c6 => ?_)
  refine R2.B (ls2 := [some (.ref 5), some (.int 2), some (.int v), none]) (st2 := [.int 2, .ref 3, .int v]) b_X10_set_9_14 rfl (fun hd => ?_)
  refine R2.iald 2 rfl hd rfl (fun _ => rfl) (by decide) (by omega) ?_
  refine R2.B (ls2 := [some (.ref 5), some (.int 2), some (.int v), none]) (st2 := [.int (F 3 2), .int v]) b_X10_set_15_15 rfl (fun hd => ?_)
  refine R2.icmp_lt 27 hd (by decide) (fun c15 => ?_) (fun c15 => ?_)
  · refine R2.B (ls2 := [some (.ref 5), some (.int 2), some (.int v), none]) (st2 := [.int (-2)]) b_X10_set_27_29 rfl (fun hd => ?_)
    exact R2.ret3 (r := some (.int (-2))) hd trivial rfl rfl rfl
  · refine R2.B (ls2 := [some (.ref 5), some (.int 2), some (.int v), none]) (st2 := [.int 2, .ref 4, .int v]) b_X10_set_18_23 rfl (fun hd => ?_)
    refine R2.iald 2 rfl hd rfl (fun _ => rfl) (by decide) (by omega) ?_
    refine R2.B (ls2 := [some (.ref 5), some (.int 2), some (.int v), none]) (st2 := [.int (F 4 2), .int v]) b_X10_set_24_24 rfl (fun hd => ?_)
    refine R2.icmp_le 30 hd (by decide) (fun c24 => ?_) (fun c24 => ?_)
    · refine R2.B (ls2 := [some (.ref 5), some (.int 2), some (.int v), none]) (st2 := []) b_X10_set_30_30 rfl (fun hd => ?_)
      exact False.elim (by clear hd; grind)
    · refine R2.B (ls2 := [some (.ref 5), some (.int 2), some (.int v), none]) (st2 := [.int (-2)]) b_X10_set_27_29 rfl (fun hd => ?_)
      exact R2.ret3 (r := some (.int (-2))) hd trivial rfl rfl rfl
set_option maxRecDepth 20000 in
set_option maxHeartbeats 1000000 in
theorem x_set_ok2 (E : EE) (L : Nat) (F : FF) (v : Int32) (h : ¬ (v < F 3 2 ∨ F 4 2 < v)) : Ev3 E L 8 mX10_set [.ref 5, .int 2, .int v] F (some (.int (F 17 2))) (up2 F 17 2 v) := by
  refine Ev3.of okX10_set.2.2.1 (Nat.le_of_ble_eq_true rfl) ?_
  show R2 E L mX10_set 8 0 [some (.ref 5), some (.int 2), some (.int v), none] [] F _
  refine R2.B (ls2 := [some (.ref 5), some (.int 2), some (.int v), none]) (st2 := [.int 2]) b_X10_set_0_1 rfl (fun hd => ?_)
  refine R2.if_lt 27 hd (by decide) (fun c1 => absurd c1 (by decide)) (fun c1 => ?_)
  refine R2.B (ls2 := [some (.ref 5), some (.int 2), some (.int v), none]) (st2 := [.int 2, .int 2]) b_X10_set_4_6 rfl (fun hd => ?_)
  refine R2.icmp_gt 27 hd (by decide) (fun c6 => absurd c6 (by decide)) (fun c6 => ?_)
  refine R2.B (ls2 := [some (.ref 5), some (.int 2), some (.int v), none]) (st2 := [.int 2, .ref 3, .int v]) b_X10_set_9_14 rfl (fun hd => ?_)
  refine R2.iald 2 rfl hd rfl (fun _ => rfl) (by decide) (by omega) ?_
  refine R2.B (ls2 := [some (.ref 5), some (.int 2), some (.int v), none]) (st2 := [.int (F 3 2), .int v]) b_X10_set_15_15 rfl (fun hd => ?_)
  refine R2.icmp_lt 27 hd (by decide) (fun c15 => ?_) (fun c15 => ?_)
  · refine R2.B (ls2 := [some (.ref 5), some (.int 2), some (.int v), none]) (st2 := [.int (-2)]) b_X10_set_27_29 rfl (fun hd => ?_)
    exact False.elim (by clear hd; grind)
  · refine R2.B (ls2 := [some (.ref 5), some (.int 2), some (.int v), none]) (st2 := [.int 2, .ref 4, .int v]) b_X10_set_18_23 rfl (fun hd => ?_)
    refine R2.iald 2 rfl hd rfl (fun _ => rfl) (by decide) (by omega) ?_
    refine R2.B (ls2 := [some (.ref 5), some (.int 2), some (.int v), none]) (st2 := [.int (F 4 2), .int v]) b_X10_set_24_24 rfl (fun hd => ?_)
    refine R2.icmp_le 30 hd (by decide) (fun c24 => ?_) (fun c24 => ?_)
    · refine R2.B (ls2 := [some (.ref 5), some (.int 2), some (.int v), none]) (st2 := [.int 2, .ref 17]) b_X10_set_30_38 rfl (fun hd => ?_)
      refine R2.iald 2 rfl hd rfl (fun _ => rfl) (by decide) (by omega) ?_
      refine R2.B (ls2 := [some (.ref 5), some (.int 2), some (.int v), some (.int (F 17 2))]) (st2 := [.int v, .int 2, .ref 17]) b_X10_set_39_49 rfl (fun hd => ?_)
      refine R2.iast 2 rfl hd (by decide) rfl (fun _ => rfl) (by decide) (by omega) ?_
      refine R2.B (ls2 := [some (.ref 5), some (.int 2), some (.int v), some (.int (F 17 2))]) (st2 := [.int (F 17 2)]) b_X10_set_50_51 rfl (fun hd => ?_)
      exact R2.ret3 (r := some (.int (F 17 2))) hd trivial rfl rfl rfl
    · refine R2.B (ls2 := [some (.ref 5), some (.int 2), some (.int v), none]) (st2 := [.int (-2)]) b_X10_set_27_29 rfl (fun hd => ?_)
      exact False.elim (by clear hd; grind)
theorem b_X10_set_9_9 : bl2 mX10_set 9 [] 9 (.iload_n 2) 1 = true := by decide +kernel
set_option maxRecDepth 20000 in
set_option maxHeartbeats 1000000 in
theorem x_set_bad (E : EE) (L : Nat) (F : FF) (t v : Int32) (h : t < 0 ∨ 2 < t) : Ev3 E L 8 mX10_set [.ref 5, .int t, .int v] F (some (.int (-2))) F := by
  refine Ev3.of okX10_set.2.2.1 (Nat.le_of_ble_eq_true rfl) ?_
  show R2 E L mX10_set 8 0 [some (.ref 5), some (.int t), some (.int v), none] [] F _
  refine R2.B (ls2 := [some (.ref 5), some (.int t), some (.int v), none]) (st2 := [.int t]) b_X10_set_0_1 rfl (fun hd => ?_)
  refine R2.if_lt 27 hd (by decide) (fun c1 => ?_) (fun c1 => ?_)
  · refine R2.B (ls2 := [some (.ref 5), some (.int t), some (.int v), none]) (st2 := [.int (-2)]) b_X10_set_27_29 rfl (fun hd => ?_)
    exact R2.ret3 (r := some (.int (-2))) hd trivial rfl rfl rfl
  · refine R2.B (ls2 := [some (.ref 5), some (.int t), some (.int v), none]) (st2 := [.int 2, .int t]) b_X10_set_4_6 rfl (fun hd => ?_)
    refine R2.icmp_gt 27 hd (by decide) (fun c6 => ?_) (fun c6 => ?_)
    · refine R2.B (ls2 := [some (.ref 5), some (.int t), some (.int v), none]) (st2 := [.int (-2)]) b_X10_set_27_29 rfl (fun hd => ?_)
      exact R2.ret3 (r := some (.int (-2))) hd trivial rfl rfl rfl
    · refine R2.B (ls2 := [some (.ref 5), some (.int t), some (.int v), none]) (st2 := []) b_X10_set_9_9 rfl (fun hd => ?_)
      exact False.elim (by clear hd; grind)
theorem b_X10_person_0_2 : bl2 mX10_person 0 [(.aload_n 0, 1, 0, 0, .null), (.iload_n 1, 1, 1, 0, .null)] 2 (.invokevirtual 131) 3 = true := by decide +kernel
theorem b_X10_person_5_5 : bl2 mX10_person 5 [] 5 (.ifCond .ne 6) 3 = true := by decide +kernel
theorem b_X10_person_11_11 : bl2 mX10_person 11 [] 11 (.iload_n 2) 1 = true := by decide +kernel
theorem b_X10_person_8_10 : bl2 mX10_person 8 [(.bipush (-2), 2, 0, 0, .int (-2))] 10 (.ireturn) 1 = true := by decide +kernel
set_option maxRecDepth 20000 in
set_option maxHeartbeats 1000000 in
theorem x_person_bad (E : EE) (L : Nat) (F : FF) (p w : Int32) (h : ¬ (0 ≤ p ∧ p < F 10 5)) : Ev3 E L 8 mX10_person [.ref 5, .int p, .int w] F (some (.int (-2))) F := by
  refine Ev3.of okX10_person.2.2.1 (Nat.le_of_ble_eq_true rfl) ?_
  show R2 E L mX10_person 8 0 [some (.ref 5), some (.int p), some (.int w)] [] F _
  refine R2.B (ls2 := [some (.ref 5), some (.int p), some (.int w)]) (st2 := [.int p, .ref 5]) b_X10_person_0_2 rfl (fun hd => ?_)
  refine R2.callV3 (M2 := mX10_isPerson) (As := [.int p]) (rest := []) hd lk_10_131 okX10_isPerson (by decide) rfl (ev_isPerson E L F p) (by decide) rfl rfl (Nat.le_of_ble_eq_true rfl) ?_
  refine R2.B (ls2 := [some (.ref 5), some (.int p), some (.int w)]) (st2 := [.int (b2i (0 ≤ p ∧ p < F 10 5))]) b_X10_person_5_5 rfl (fun hd => ?_)
  refine R2.if_ne 11 hd (by decide) (fun c5 => ?_) (fun c5 => ?_)
  · have nc5 : 0 ≤ p ∧ p < F 10 5 := b2i_nz.mp c5
    refine R2.B (ls2 := [some (.ref 5), some (.int p), some (.int w)]) (st2 := []) b_X10_person_11_11 rfl (fun hd => ?_)
    exact False.elim (by clear hd; grind)
  · have nc5 : ¬ (0 ≤ p ∧ p < F 10 5) := b2i_zero.mp c5
    refine R2.B (ls2 := [some (.ref 5), some (.int p), some (.int w)]) (st2 := [.int (-2)]) b_X10_person_8_10 rfl (fun hd => ?_)
    exact R2.ret3 (r := some (.int (-2))) hd trivial rfl rfl rfl
theorem per_t {F : FF} {n a : Nat} (hn : F 10 5 = nI n) (hn10 : n ≤ 10) (ha : a < n) : 0 ≤ nI a ∧ nI a < F 10 5 := by rw [hn]; exact ⟨nI_pos' (by omega), nI_lt ha (by omega)⟩
theorem b_X10_person_11_12 : bl2 mX10_person 11 [(.iload_n 2, 1, 2, 0, .null)] 12 (.tableswitch 92 0 4 #[36, 46, 56, 66, 79]) 36 = true := by decide +kernel
theorem b_X10_person_48_56 : bl2 mX10_person 48 [(.aload_n 0, 1, 0, 0, .null), (.getfield 24, 3, 10, 2, .null), (.getfield 134, 3, 0, 0, .null), (.iload_n 1, 1, 1, 0, .null)] 56 (.iaload) 1 = true := by decide +kernel
theorem b_X10_person_57_57 : bl2 mX10_person 57 [] 57 (.ireturn) 1 = true := by decide +kernel
set_option maxRecDepth 20000 in
set_option maxHeartbeats 1000000 in
theorem x_person0 (E : EE) (L : Nat) (F : FF) (n : Nat) (hn : F 10 5 = nI n) (hn10 : n ≤ 10) (a : Nat) (ha : a < n) : Ev3 E L 8 mX10_person [.ref 5, .int (nI a), .int 0] F (some (.int (F 11 a))) F := by
  refine Ev3.of okX10_person.2.2.1 (Nat.le_of_ble_eq_true rfl) ?_
  show R2 E L mX10_person 8 0 [some (.ref 5), some (.int (nI a)), some (.int 0)] [] F _
  refine R2.B (ls2 := [some (.ref 5), some (.int (nI a)), some (.int 0)]) (st2 := [.int (nI a), .ref 5]) b_X10_person_0_2 rfl (fun hd => ?_)
  refine R2.callV3 (M2 := mX10_isPerson) (As := [.int (nI a)]) (rest := []) hd lk_10_131 okX10_isPerson (by decide) rfl (ev_isPerson E L F (nI a)) (by decide) rfl rfl (Nat.le_of_ble_eq_true rfl) ?_
  refine R2.B (ls2 := [some (.ref 5), some (.int (nI a)), some (.int 0)]) (st2 := [.int (b2i (0 ≤ (nI a) ∧ (nI a) < F 10 5))]) b_X10_person_5_5 rfl (fun hd => ?_)
  refine R2.if_ne 11 hd (by decide) (fun c5 => ?_) (fun c5 => absurd c5 (b2i_nz.mpr (per_t hn hn10 ha)))
  refine R2.B (ls2 := [some (.ref 5), some (.int (nI a)), some (.int 0)]) (st2 := [.int 0]) b_X10_person_11_12 rfl (fun hd => ?_)
  refine R2.tblIn (off := 36) 48 hd (by decide) (by decide) rfl (by decide) ?_
  refine R2.B (ls2 := [some (.ref 5), some (.int (nI a)), some (.int 0)]) (st2 := [.int (nI a), .ref 11]) b_X10_person_48_56 rfl (fun hd => ?_)
  refine R2.iald a rfl hd rfl (fun _ => rfl) (by decide) (by omega) ?_
  refine R2.B (ls2 := [some (.ref 5), some (.int (nI a)), some (.int 0)]) (st2 := [.int (F 11 a)]) b_X10_person_57_57 rfl (fun hd => ?_)
  exact R2.ret3 (r := some (.int (F 11 a))) hd trivial rfl rfl rfl
theorem b_X10_person_58_66 : bl2 mX10_person 58 [(.aload_n 0, 1, 0, 0, .null), (.getfield 24, 3, 10, 2, .null), (.getfield 137, 3, 0, 1, .null), (.iload_n 1, 1, 1, 0, .null)] 66 (.iaload) 1 = true := by decide +kernel
theorem b_X10_person_67_67 : bl2 mX10_person 67 [] 67 (.ireturn) 1 = true := by decide +kernel
set_option maxRecDepth 20000 in
set_option maxHeartbeats 1000000 in
theorem x_person1 (E : EE) (L : Nat) (F : FF) (n : Nat) (hn : F 10 5 = nI n) (hn10 : n ≤ 10) (a : Nat) (ha : a < n) : Ev3 E L 8 mX10_person [.ref 5, .int (nI a), .int 1] F (some (.int (F 12 a))) F := by
  refine Ev3.of okX10_person.2.2.1 (Nat.le_of_ble_eq_true rfl) ?_
  show R2 E L mX10_person 8 0 [some (.ref 5), some (.int (nI a)), some (.int 1)] [] F _
  refine R2.B (ls2 := [some (.ref 5), some (.int (nI a)), some (.int 1)]) (st2 := [.int (nI a), .ref 5]) b_X10_person_0_2 rfl (fun hd => ?_)
  refine R2.callV3 (M2 := mX10_isPerson) (As := [.int (nI a)]) (rest := []) hd lk_10_131 okX10_isPerson (by decide) rfl (ev_isPerson E L F (nI a)) (by decide) rfl rfl (Nat.le_of_ble_eq_true rfl) ?_
  refine R2.B (ls2 := [some (.ref 5), some (.int (nI a)), some (.int 1)]) (st2 := [.int (b2i (0 ≤ (nI a) ∧ (nI a) < F 10 5))]) b_X10_person_5_5 rfl (fun hd => ?_)
  refine R2.if_ne 11 hd (by decide) (fun c5 => ?_) (fun c5 => absurd c5 (b2i_nz.mpr (per_t hn hn10 ha)))
  refine R2.B (ls2 := [some (.ref 5), some (.int (nI a)), some (.int 1)]) (st2 := [.int 1]) b_X10_person_11_12 rfl (fun hd => ?_)
  refine R2.tblIn (off := 46) 58 hd (by decide) (by decide) rfl (by decide) ?_
  refine R2.B (ls2 := [some (.ref 5), some (.int (nI a)), some (.int 1)]) (st2 := [.int (nI a), .ref 12]) b_X10_person_58_66 rfl (fun hd => ?_)
  refine R2.iald a rfl hd rfl (fun _ => rfl) (by decide) (by omega) ?_
  refine R2.B (ls2 := [some (.ref 5), some (.int (nI a)), some (.int 1)]) (st2 := [.int (F 12 a)]) b_X10_person_67_67 rfl (fun hd => ?_)
  exact R2.ret3 (r := some (.int (F 12 a))) hd trivial rfl rfl rfl
theorem b_X10_person_68_76 : bl2 mX10_person 68 [(.aload_n 0, 1, 0, 0, .null), (.getfield 24, 3, 10, 2, .null), (.getfield 140, 3, 0, 2, .null), (.iload_n 1, 1, 1, 0, .null)] 76 (.iaload) 1 = true := by decide +kernel
theorem b_X10_person_77_77 : bl2 mX10_person 77 [] 77 (.ireturn) 1 = true := by decide +kernel
set_option maxRecDepth 20000 in
set_option maxHeartbeats 1000000 in
theorem x_person2 (E : EE) (L : Nat) (F : FF) (n : Nat) (hn : F 10 5 = nI n) (hn10 : n ≤ 10) (a : Nat) (ha : a < n) : Ev3 E L 8 mX10_person [.ref 5, .int (nI a), .int 2] F (some (.int (F 13 a))) F := by
  refine Ev3.of okX10_person.2.2.1 (Nat.le_of_ble_eq_true rfl) ?_
  show R2 E L mX10_person 8 0 [some (.ref 5), some (.int (nI a)), some (.int 2)] [] F _
  refine R2.B (ls2 := [some (.ref 5), some (.int (nI a)), some (.int 2)]) (st2 := [.int (nI a), .ref 5]) b_X10_person_0_2 rfl (fun hd => ?_)
  refine R2.callV3 (M2 := mX10_isPerson) (As := [.int (nI a)]) (rest := []) hd lk_10_131 okX10_isPerson (by decide) rfl (ev_isPerson E L F (nI a)) (by decide) rfl rfl (Nat.le_of_ble_eq_true rfl) ?_
  refine R2.B (ls2 := [some (.ref 5), some (.int (nI a)), some (.int 2)]) (st2 := [.int (b2i (0 ≤ (nI a) ∧ (nI a) < F 10 5))]) b_X10_person_5_5 rfl (fun hd => ?_)
  refine R2.if_ne 11 hd (by decide) (fun c5 => ?_) (fun c5 => absurd c5 (b2i_nz.mpr (per_t hn hn10 ha)))
  refine R2.B (ls2 := [some (.ref 5), some (.int (nI a)), some (.int 2)]) (st2 := [.int 2]) b_X10_person_11_12 rfl (fun hd => ?_)
  refine R2.tblIn (off := 56) 68 hd (by decide) (by decide) rfl (by decide) ?_
  refine R2.B (ls2 := [some (.ref 5), some (.int (nI a)), some (.int 2)]) (st2 := [.int (nI a), .ref 13]) b_X10_person_68_76 rfl (fun hd => ?_)
  refine R2.iald a rfl hd rfl (fun _ => rfl) (by decide) (by omega) ?_
  refine R2.B (ls2 := [some (.ref 5), some (.int (nI a)), some (.int 2)]) (st2 := [.int (F 13 a)]) b_X10_person_77_77 rfl (fun hd => ?_)
  exact R2.ret3 (r := some (.int (F 13 a))) hd trivial rfl rfl rfl
theorem b_X10_person_78_86 : bl2 mX10_person 78 [(.aload_n 0, 1, 0, 0, .null), (.getfield 24, 3, 10, 2, .null), (.getfield 143, 3, 0, 4, .null), (.iload_n 1, 1, 1, 0, .null)] 86 (.iaload) 1 = true := by decide +kernel
theorem b_X10_person_87_89 : bl2 mX10_person 87 [(.bipush 32, 2, 0, 0, .int 32)] 89 (.irem) 1 = true := by decide +kernel
theorem b_X10_person_90_90 : bl2 mX10_person 90 [] 90 (.ireturn) 1 = true := by decide +kernel
set_option maxRecDepth 20000 in
set_option maxHeartbeats 1000000 in
theorem x_person3 (E : EE) (L : Nat) (F : FF) (n : Nat) (hn : F 10 5 = nI n) (hn10 : n ≤ 10) (a : Nat) (ha : a < n) : Ev3 E L 8 mX10_person [.ref 5, .int (nI a), .int 3] F (some (.int (rem32 (F 15 a)))) F := by
  refine Ev3.of okX10_person.2.2.1 (Nat.le_of_ble_eq_true rfl) ?_
  show R2 E L mX10_person 8 0 [some (.ref 5), some (.int (nI a)), some (.int 3)] [] F _
  refine R2.B (ls2 := [some (.ref 5), some (.int (nI a)), some (.int 3)]) (st2 := [.int (nI a), .ref 5]) b_X10_person_0_2 rfl (fun hd => ?_)
  refine R2.callV3 (M2 := mX10_isPerson) (As := [.int (nI a)]) (rest := []) hd lk_10_131 okX10_isPerson (by decide) rfl (ev_isPerson E L F (nI a)) (by decide) rfl rfl (Nat.le_of_ble_eq_true rfl) ?_
  refine R2.B (ls2 := [some (.ref 5), some (.int (nI a)), some (.int 3)]) (st2 := [.int (b2i (0 ≤ (nI a) ∧ (nI a) < F 10 5))]) b_X10_person_5_5 rfl (fun hd => ?_)
  refine R2.if_ne 11 hd (by decide) (fun c5 => ?_) (fun c5 => absurd c5 (b2i_nz.mpr (per_t hn hn10 ha)))
  refine R2.B (ls2 := [some (.ref 5), some (.int (nI a)), some (.int 3)]) (st2 := [.int 3]) b_X10_person_11_12 rfl (fun hd => ?_)
  refine R2.tblIn (off := 66) 78 hd (by decide) (by decide) rfl (by decide) ?_
  refine R2.B (ls2 := [some (.ref 5), some (.int (nI a)), some (.int 3)]) (st2 := [.int (nI a), .ref 15]) b_X10_person_78_86 rfl (fun hd => ?_)
  refine R2.iald a rfl hd rfl (fun _ => rfl) (by decide) (by omega) ?_
  refine R2.B (ls2 := [some (.ref 5), some (.int (nI a)), some (.int 3)]) (st2 := [.int 32, .int (F 15 a)]) b_X10_person_87_89 rfl (fun hd => ?_)
  refine R2.irem hd (by decide) ?_
  refine R2.B (ls2 := [some (.ref 5), some (.int (nI a)), some (.int 3)]) (st2 := [.int ((F 15 a) - (F 15 a) / 32 * 32)]) b_X10_person_90_90 rfl (fun hd => ?_)
  exact R2.ret3 (r := some (.int ((F 15 a) - (F 15 a) / 32 * 32))) hd trivial rfl rfl rfl
theorem b_X10_person_91_99 : bl2 mX10_person 91 [(.aload_n 0, 1, 0, 0, .null), (.getfield 24, 3, 10, 2, .null), (.getfield 143, 3, 0, 4, .null), (.iload_n 1, 1, 1, 0, .null)] 99 (.iaload) 1 = true := by decide +kernel
theorem b_X10_person_100_102 : bl2 mX10_person 100 [(.bipush 32, 2, 0, 0, .int 32)] 102 (.idiv) 1 = true := by decide +kernel
theorem b_X10_person_103_103 : bl2 mX10_person 103 [] 103 (.ireturn) 1 = true := by decide +kernel
set_option maxRecDepth 20000 in
set_option maxHeartbeats 1000000 in
theorem x_person4 (E : EE) (L : Nat) (F : FF) (n : Nat) (hn : F 10 5 = nI n) (hn10 : n ≤ 10) (a : Nat) (ha : a < n) : Ev3 E L 8 mX10_person [.ref 5, .int (nI a), .int 4] F (some (.int (F 15 a / 32))) F := by
  refine Ev3.of okX10_person.2.2.1 (Nat.le_of_ble_eq_true rfl) ?_
  show R2 E L mX10_person 8 0 [some (.ref 5), some (.int (nI a)), some (.int 4)] [] F _
  refine R2.B (ls2 := [some (.ref 5), some (.int (nI a)), some (.int 4)]) (st2 := [.int (nI a), .ref 5]) b_X10_person_0_2 rfl (fun hd => ?_)
  refine R2.callV3 (M2 := mX10_isPerson) (As := [.int (nI a)]) (rest := []) hd lk_10_131 okX10_isPerson (by decide) rfl (ev_isPerson E L F (nI a)) (by decide) rfl rfl (Nat.le_of_ble_eq_true rfl) ?_
  refine R2.B (ls2 := [some (.ref 5), some (.int (nI a)), some (.int 4)]) (st2 := [.int (b2i (0 ≤ (nI a) ∧ (nI a) < F 10 5))]) b_X10_person_5_5 rfl (fun hd => ?_)
  refine R2.if_ne 11 hd (by decide) (fun c5 => ?_) (fun c5 => absurd c5 (b2i_nz.mpr (per_t hn hn10 ha)))
  refine R2.B (ls2 := [some (.ref 5), some (.int (nI a)), some (.int 4)]) (st2 := [.int 4]) b_X10_person_11_12 rfl (fun hd => ?_)
  refine R2.tblIn (off := 79) 91 hd (by decide) (by decide) rfl (by decide) ?_
  refine R2.B (ls2 := [some (.ref 5), some (.int (nI a)), some (.int 4)]) (st2 := [.int (nI a), .ref 15]) b_X10_person_91_99 rfl (fun hd => ?_)
  refine R2.iald a rfl hd rfl (fun _ => rfl) (by decide) (by omega) ?_
  refine R2.B (ls2 := [some (.ref 5), some (.int (nI a)), some (.int 4)]) (st2 := [.int 32, .int (F 15 a)]) b_X10_person_100_102 rfl (fun hd => ?_)
  refine R2.idiv hd (by decide) ?_
  refine R2.B (ls2 := [some (.ref 5), some (.int (nI a)), some (.int 4)]) (st2 := [.int ((F 15 a) / 32)]) b_X10_person_103_103 rfl (fun hd => ?_)
  exact R2.ret3 (r := some (.int ((F 15 a) / 32))) hd trivial rfl rfl rfl
theorem b_X10_person_104_106 : bl2 mX10_person 104 [(.bipush (-2), 2, 0, 0, .int (-2))] 106 (.ireturn) 1 = true := by decide +kernel
set_option maxRecDepth 20000 in
set_option maxHeartbeats 1000000 in
theorem x_person_out (E : EE) (L : Nat) (F : FF) (n : Nat) (hn : F 10 5 = nI n) (hn10 : n ≤ 10) (a : Nat) (ha : a < n) (w : Int32) (h : w.toInt < 0 ∨ 4 < w.toInt) : Ev3 E L 8 mX10_person [.ref 5, .int (nI a), .int w] F (some (.int (-2))) F := by
  refine Ev3.of okX10_person.2.2.1 (Nat.le_of_ble_eq_true rfl) ?_
  show R2 E L mX10_person 8 0 [some (.ref 5), some (.int (nI a)), some (.int w)] [] F _
  refine R2.B (ls2 := [some (.ref 5), some (.int (nI a)), some (.int w)]) (st2 := [.int (nI a), .ref 5]) b_X10_person_0_2 rfl (fun hd => ?_)
  refine R2.callV3 (M2 := mX10_isPerson) (As := [.int (nI a)]) (rest := []) hd lk_10_131 okX10_isPerson (by decide) rfl (ev_isPerson E L F (nI a)) (by decide) rfl rfl (Nat.le_of_ble_eq_true rfl) ?_
  refine R2.B (ls2 := [some (.ref 5), some (.int (nI a)), some (.int w)]) (st2 := [.int (b2i (0 ≤ (nI a) ∧ (nI a) < F 10 5))]) b_X10_person_5_5 rfl (fun hd => ?_)
  refine R2.if_ne 11 hd (by decide) (fun c5 => ?_) (fun c5 => absurd c5 (b2i_nz.mpr (per_t hn hn10 ha)))
  refine R2.B (ls2 := [some (.ref 5), some (.int (nI a)), some (.int w)]) (st2 := [.int w]) b_X10_person_11_12 rfl (fun hd => ?_)
  refine R2.tblOut 104 hd (h) (by decide) ?_
  refine R2.B (ls2 := [some (.ref 5), some (.int (nI a)), some (.int w)]) (st2 := [.int (-2)]) b_X10_person_104_106 rfl (fun hd => ?_)
  exact R2.ret3 (r := some (.int (-2))) hd trivial rfl rfl rfl
theorem b_X10_goes_0_13 : bl2 mX10_goes 0 [(.aload_n 0, 1, 0, 0, .null), (.getfield 33, 3, 10, 3, .null), (.aload_n 0, 1, 0, 0, .null), (.getfield 24, 3, 10, 2, .null), (.getfield 143, 3, 0, 4, .null), (.iload_n 1, 1, 1, 0, .null), (.iload_n 2, 1, 2, 0, .null)] 13 (.invokevirtual 325) 3 = true := by decide +kernel
theorem b_X10_goes_16_19 : bl2 mX10_goes 16 [(.istore_n 3, 1, 3, 0, .null), (.iload_n 3, 1, 3, 0, .null), (.iconst (-1), 1, 0, 0, .int (-1))] 19 (.if_icmp .ne 5) 3 = true := by decide +kernel
theorem b_X10_goes_22_23 : bl2 mX10_goes 22 [(.iconst 0, 1, 0, 0, .int 0)] 23 (.ireturn) 1 = true := by decide +kernel
set_option maxRecDepth 20000 in
set_option maxHeartbeats 1000000 in
theorem ev_goes0 (E : EE) (L : Nat) (F : FF) (hc : CST F) (n : Nat) (hn : F 10 5 = nI n) (hn10 : n ≤ 10) (a d : Nat) (ha : a < n) (hd8 : d < 8) (h : lawS (F 15) a d (F 17 2 * F 17 2) n = -1) : Ev3 E L 4 mX10_goes [.ref 5, .int (nI a), .int (nI d)] F (some (.int 0)) F := by
  refine Ev3.of okX10_goes.2.2.1 (Nat.le_of_ble_eq_true rfl) ?_
  show R2 E L mX10_goes 4 0 [some (.ref 5), some (.int (nI a)), some (.int (nI d)), none] [] F _
  refine R2.B (ls2 := [some (.ref 5), some (.int (nI a)), some (.int (nI d)), none]) (st2 := [.int (nI d), .int (nI a), .ref 15, .ref 16]) b_X10_goes_0_13 rfl (fun hd => ?_)
  refine R2.callV3 (M2 := mX2_lawfulStep) (As := [.ref 15, .int (nI a), .int (nI d)]) (rest := []) hd lk_10_325 okX2_lawfulStep (by decide) rfl (ev_lawfulStep E L F hc n hn hn10 15 rfl (fun _ => rfl) a d (by omega) (by omega)) (by decide) rfl rfl (Nat.le_of_ble_eq_true rfl) ?_
  refine R2.B (ls2 := [some (.ref 5), some (.int (nI a)), some (.int (nI d)), some (.int (lawS (F 15) a d ((F 17 2) * (F 17 2)) n))]) (st2 := [.int (-1), .int (lawS (F 15) a d ((F 17 2) * (F 17 2)) n)]) b_X10_goes_16_19 rfl (fun hd => ?_)
  refine R2.icmp_ne 24 hd (by decide) (fun c19 => absurd (h) c19) (fun c19 => ?_)
  refine R2.B (ls2 := [some (.ref 5), some (.int (nI a)), some (.int (nI d)), some (.int (lawS (F 15) a d ((F 17 2) * (F 17 2)) n))]) (st2 := [.int 0]) b_X10_goes_22_23 rfl (fun hd => ?_)
  exact R2.ret3 (r := some (.int 0)) hd (Or.inl rfl) rfl rfl rfl
theorem b_X10_goes_24_33 : bl2 mX10_goes 24 [(.aload_n 0, 1, 0, 0, .null), (.getfield 24, 3, 10, 2, .null), (.getfield 143, 3, 0, 4, .null), (.iload_n 1, 1, 1, 0, .null), (.iload_n 3, 1, 3, 0, .null)] 33 (.iastore) 1 = true := by decide +kernel
theorem b_X10_goes_34_35 : bl2 mX10_goes 34 [(.iconst 1, 1, 0, 0, .int 1)] 35 (.ireturn) 1 = true := by decide +kernel
set_option maxRecDepth 20000 in
set_option maxHeartbeats 1000000 in
theorem ev_goes1 (E : EE) (L : Nat) (F : FF) (hc : CST F) (n : Nat) (hn : F 10 5 = nI n) (hn10 : n ≤ 10) (a d : Nat) (ha : a < n) (hd8 : d < 8) (h : ¬ lawS (F 15) a d (F 17 2 * F 17 2) n = -1) : Ev3 E L 4 mX10_goes [.ref 5, .int (nI a), .int (nI d)] F (some (.int 1)) (up2 F 15 a (lawS (F 15) a d (F 17 2 * F 17 2) n)) := by
  refine Ev3.of okX10_goes.2.2.1 (Nat.le_of_ble_eq_true rfl) ?_
  show R2 E L mX10_goes 4 0 [some (.ref 5), some (.int (nI a)), some (.int (nI d)), none] [] F _
  refine R2.B (ls2 := [some (.ref 5), some (.int (nI a)), some (.int (nI d)), none]) (st2 := [.int (nI d), .int (nI a), .ref 15, .ref 16]) b_X10_goes_0_13 rfl (fun hd => ?_)
  refine R2.callV3 (M2 := mX2_lawfulStep) (As := [.ref 15, .int (nI a), .int (nI d)]) (rest := []) hd lk_10_325 okX2_lawfulStep (by decide) rfl (ev_lawfulStep E L F hc n hn hn10 15 rfl (fun _ => rfl) a d (by omega) (by omega)) (by decide) rfl rfl (Nat.le_of_ble_eq_true rfl) ?_
  refine R2.B (ls2 := [some (.ref 5), some (.int (nI a)), some (.int (nI d)), some (.int (lawS (F 15) a d ((F 17 2) * (F 17 2)) n))]) (st2 := [.int (-1), .int (lawS (F 15) a d ((F 17 2) * (F 17 2)) n)]) b_X10_goes_16_19 rfl (fun hd => ?_)
  refine R2.icmp_ne 24 hd (by decide) (fun c19 => ?_) (fun c19 => absurd c19 (h))
  refine R2.B (ls2 := [some (.ref 5), some (.int (nI a)), some (.int (nI d)), some (.int (lawS (F 15) a d ((F 17 2) * (F 17 2)) n))]) (st2 := [.int (lawS (F 15) a d ((F 17 2) * (F 17 2)) n), .int (nI a), .ref 15]) b_X10_goes_24_33 rfl (fun hd => ?_)
  refine R2.iast a rfl hd (by decide) rfl (fun _ => rfl) (by decide) (by omega) ?_
  refine R2.B (ls2 := [some (.ref 5), some (.int (nI a)), some (.int (nI d)), some (.int (lawS (F 15) a d ((F 17 2) * (F 17 2)) n))]) (st2 := [.int 1]) b_X10_goes_34_35 rfl (fun hd => ?_)
  exact R2.ret3 (r := some (.int 1)) hd (Or.inr rfl) rfl rfl rfl
theorem b_X10_step_0_2 : bl2 mX10_step 0 [(.aload_n 0, 1, 0, 0, .null), (.iload_n 1, 1, 1, 0, .null)] 2 (.invokevirtual 131) 3 = true := by decide +kernel
theorem b_X10_step_5_5 : bl2 mX10_step 5 [] 5 (.ifCond .eq 10) 3 = true := by decide +kernel
theorem b_X10_step_15_17 : bl2 mX10_step 15 [(.bipush (-2), 2, 0, 0, .int (-2))] 17 (.ireturn) 1 = true := by decide +kernel
theorem b_X10_step_8_9 : bl2 mX10_step 8 [(.iload_n 2, 1, 2, 0, .null)] 9 (.invokestatic 146) 3 = true := by decide +kernel
theorem b_X10_step_12_12 : bl2 mX10_step 12 [] 12 (.ifCond .ne 6) 3 = true := by decide +kernel
theorem b_X10_step_18_18 : bl2 mX10_step 18 [] 18 (.aload_n 0) 1 = true := by decide +kernel
set_option maxRecDepth 20000 in
set_option maxHeartbeats 1000000 in
theorem x_step_bad (E : EE) (L : Nat) (F : FF) (p d : Int32) (h : ¬ (0 ≤ p ∧ p < F 10 5) ∨ ¬ (0 ≤ d ∧ d < 8)) : Ev3 E L 8 mX10_step [.ref 5, .int p, .int d] F (some (.int (-2))) F := by
  refine Ev3.of okX10_step.2.2.1 (Nat.le_of_ble_eq_true rfl) ?_
  show R2 E L mX10_step 8 0 [some (.ref 5), some (.int p), some (.int d)] [] F _
  refine R2.B (ls2 := [some (.ref 5), some (.int p), some (.int d)]) (st2 := [.int p, .ref 5]) b_X10_step_0_2 rfl (fun hd => ?_)
  refine R2.callV3 (M2 := mX10_isPerson) (As := [.int p]) (rest := []) hd lk_10_131 okX10_isPerson (by decide) rfl (ev_isPerson E L F p) (by decide) rfl rfl (Nat.le_of_ble_eq_true rfl) ?_
  refine R2.B (ls2 := [some (.ref 5), some (.int p), some (.int d)]) (st2 := [.int (b2i (0 ≤ p ∧ p < F 10 5))]) b_X10_step_5_5 rfl (fun hd => ?_)
  refine R2.if_eq 15 hd (by decide) (fun c5 => ?_) (fun c5 => ?_)
  · have nc5 : ¬ (0 ≤ p ∧ p < F 10 5) := b2i_zero.mp c5
    refine R2.B (ls2 := [some (.ref 5), some (.int p), some (.int d)]) (st2 := [.int (-2)]) b_X10_step_15_17 rfl (fun hd => ?_)
    exact R2.ret3 (r := some (.int (-2))) hd trivial rfl rfl rfl
  · have nc5 : 0 ≤ p ∧ p < F 10 5 := b2i_nz.mp c5
    refine R2.B (ls2 := [some (.ref 5), some (.int p), some (.int d)]) (st2 := [.int d]) b_X10_step_8_9 rfl (fun hd => ?_)
    refine R2.callS3 (M2 := mX10_isDirection) (As := [.int d]) (rest := []) hd lk_10_146 okX10_isDirection (by decide) (ev_isDirection E L F d) (by decide) rfl rfl (Nat.le_of_ble_eq_true rfl) ?_
    refine R2.B (ls2 := [some (.ref 5), some (.int p), some (.int d)]) (st2 := [.int (b2i (0 ≤ d ∧ d < 8))]) b_X10_step_12_12 rfl (fun hd => ?_)
    refine R2.if_ne 18 hd (by decide) (fun c12 => ?_) (fun c12 => ?_)
    · have nc12 : 0 ≤ d ∧ d < 8 := b2i_nz.mp c12
      refine R2.B (ls2 := [some (.ref 5), some (.int p), some (.int d)]) (st2 := []) b_X10_step_18_18 rfl (fun hd => ?_)
      exact False.elim (by clear hd; grind)
    · have nc12 : ¬ (0 ≤ d ∧ d < 8) := b2i_zero.mp c12
      refine R2.B (ls2 := [some (.ref 5), some (.int p), some (.int d)]) (st2 := [.int (-2)]) b_X10_step_15_17 rfl (fun hd => ?_)
      exact R2.ret3 (r := some (.int (-2))) hd trivial rfl rfl rfl
theorem b_X10_step_18_21 : bl2 mX10_step 18 [(.aload_n 0, 1, 0, 0, .null), (.iload_n 1, 1, 1, 0, .null), (.iload_n 2, 1, 2, 0, .null)] 21 (.invokevirtual 149) 3 = true := by decide +kernel
theorem b_X10_step_24_24 : bl2 mX10_step 24 [] 24 (.ifCond .eq 7) 3 = true := by decide +kernel
theorem b_X10_step_31_33 : bl2 mX10_step 31 [(.bipush (-3), 2, 0, 0, .int (-3))] 33 (.ireturn) 1 = true := by decide +kernel
set_option maxRecDepth 20000 in
set_option maxHeartbeats 1000000 in
theorem x_step0 (E : EE) (L : Nat) (F : FF) (hc : CST F) (n : Nat) (hn : F 10 5 = nI n) (hn10 : n ≤ 10) (a d : Nat) (ha : a < n) (hd8 : d < 8) (h : lawS (F 15) a d (F 17 2 * F 17 2) n = -1) : Ev3 E L 8 mX10_step [.ref 5, .int (nI a), .int (nI d)] F (some (.int (-3))) F := by
  refine Ev3.of okX10_step.2.2.1 (Nat.le_of_ble_eq_true rfl) ?_
  show R2 E L mX10_step 8 0 [some (.ref 5), some (.int (nI a)), some (.int (nI d))] [] F _
  refine R2.B (ls2 := [some (.ref 5), some (.int (nI a)), some (.int (nI d))]) (st2 := [.int (nI a), .ref 5]) b_X10_step_0_2 rfl (fun hd => ?_)
  refine R2.callV3 (M2 := mX10_isPerson) (As := [.int (nI a)]) (rest := []) hd lk_10_131 okX10_isPerson (by decide) rfl (ev_isPerson E L F (nI a)) (by decide) rfl rfl (Nat.le_of_ble_eq_true rfl) ?_
  refine R2.B (ls2 := [some (.ref 5), some (.int (nI a)), some (.int (nI d))]) (st2 := [.int (b2i (0 ≤ (nI a) ∧ (nI a) < F 10 5))]) b_X10_step_5_5 rfl (fun hd => ?_)
  refine R2.if_eq 15 hd (by decide) (fun c5 => absurd c5 (b2i_nz.mpr (per_t hn hn10 ha))) (fun c5 => ?_)
  refine R2.B (ls2 := [some (.ref 5), some (.int (nI a)), some (.int (nI d))]) (st2 := [.int (nI d)]) b_X10_step_8_9 rfl (fun hd => ?_)
  refine R2.callS3 (M2 := mX10_isDirection) (As := [.int (nI d)]) (rest := []) hd lk_10_146 okX10_isDirection (by decide) (ev_isDirection E L F (nI d)) (by decide) rfl rfl (Nat.le_of_ble_eq_true rfl) ?_
  refine R2.B (ls2 := [some (.ref 5), some (.int (nI a)), some (.int (nI d))]) (st2 := [.int (b2i (0 ≤ (nI d) ∧ (nI d) < 8))]) b_X10_step_12_12 rfl (fun hd => ?_)
  refine R2.if_ne 18 hd (by decide) (fun c12 => ?_) (fun c12 => absurd c12 (b2i_nz.mpr ⟨nI_pos' (by omega), nI_lt (b := 8) hd8 (by decide)⟩))
  refine R2.B (ls2 := [some (.ref 5), some (.int (nI a)), some (.int (nI d))]) (st2 := [.int (nI d), .int (nI a), .ref 5]) b_X10_step_18_21 rfl (fun hd => ?_)
  refine R2.callV3 (M2 := mX10_goes) (As := [.int (nI a), .int (nI d)]) (rest := []) hd lk_10_149 okX10_goes (by decide) rfl (ev_goes0 E L F hc n hn hn10 a d ha hd8 h) (by decide) rfl rfl (Nat.le_of_ble_eq_true rfl) ?_
  refine R2.B (ls2 := [some (.ref 5), some (.int (nI a)), some (.int (nI d))]) (st2 := [.int 0]) b_X10_step_24_24 rfl (fun hd => ?_)
  refine R2.if_eq 31 hd (by decide) (fun c24 => ?_) (fun c24 => absurd (by decide) c24)
  refine R2.B (ls2 := [some (.ref 5), some (.int (nI a)), some (.int (nI d))]) (st2 := [.int (-3)]) b_X10_step_31_33 rfl (fun hd => ?_)
  exact R2.ret3 (r := some (.int (-3))) hd trivial rfl rfl rfl
theorem b_X10_step_27_33 : bl2 mX10_step 27 [(.iconst 1, 1, 0, 0, .int 1), (.goto 5, 3, 33, 0, .null)] 33 (.ireturn) 1 = true := by decide +kernel
set_option maxRecDepth 20000 in
set_option maxHeartbeats 1000000 in
theorem x_step1 (E : EE) (L : Nat) (F : FF) (hc : CST F) (n : Nat) (hn : F 10 5 = nI n) (hn10 : n ≤ 10) (a d : Nat) (ha : a < n) (hd8 : d < 8) (h : ¬ lawS (F 15) a d (F 17 2 * F 17 2) n = -1) : Ev3 E L 8 mX10_step [.ref 5, .int (nI a), .int (nI d)] F (some (.int 1)) (up2 F 15 a (lawS (F 15) a d (F 17 2 * F 17 2) n)) := by
  refine Ev3.of okX10_step.2.2.1 (Nat.le_of_ble_eq_true rfl) ?_
  show R2 E L mX10_step 8 0 [some (.ref 5), some (.int (nI a)), some (.int (nI d))] [] F _
  refine R2.B (ls2 := [some (.ref 5), some (.int (nI a)), some (.int (nI d))]) (st2 := [.int (nI a), .ref 5]) b_X10_step_0_2 rfl (fun hd => ?_)
  refine R2.callV3 (M2 := mX10_isPerson) (As := [.int (nI a)]) (rest := []) hd lk_10_131 okX10_isPerson (by decide) rfl (ev_isPerson E L F (nI a)) (by decide) rfl rfl (Nat.le_of_ble_eq_true rfl) ?_
  refine R2.B (ls2 := [some (.ref 5), some (.int (nI a)), some (.int (nI d))]) (st2 := [.int (b2i (0 ≤ (nI a) ∧ (nI a) < F 10 5))]) b_X10_step_5_5 rfl (fun hd => ?_)
  refine R2.if_eq 15 hd (by decide) (fun c5 => absurd c5 (b2i_nz.mpr (per_t hn hn10 ha))) (fun c5 => ?_)
  refine R2.B (ls2 := [some (.ref 5), some (.int (nI a)), some (.int (nI d))]) (st2 := [.int (nI d)]) b_X10_step_8_9 rfl (fun hd => ?_)
  refine R2.callS3 (M2 := mX10_isDirection) (As := [.int (nI d)]) (rest := []) hd lk_10_146 okX10_isDirection (by decide) (ev_isDirection E L F (nI d)) (by decide) rfl rfl (Nat.le_of_ble_eq_true rfl) ?_
  refine R2.B (ls2 := [some (.ref 5), some (.int (nI a)), some (.int (nI d))]) (st2 := [.int (b2i (0 ≤ (nI d) ∧ (nI d) < 8))]) b_X10_step_12_12 rfl (fun hd => ?_)
  refine R2.if_ne 18 hd (by decide) (fun c12 => ?_) (fun c12 => absurd c12 (b2i_nz.mpr ⟨nI_pos' (by omega), nI_lt (b := 8) hd8 (by decide)⟩))
  refine R2.B (ls2 := [some (.ref 5), some (.int (nI a)), some (.int (nI d))]) (st2 := [.int (nI d), .int (nI a), .ref 5]) b_X10_step_18_21 rfl (fun hd => ?_)
  refine R2.callV3 (M2 := mX10_goes) (As := [.int (nI a), .int (nI d)]) (rest := []) hd lk_10_149 okX10_goes (by decide) rfl (ev_goes1 E L F hc n hn hn10 a d ha hd8 h) (by decide) rfl rfl (Nat.le_of_ble_eq_true rfl) ?_
  refine R2.B (ls2 := [some (.ref 5), some (.int (nI a)), some (.int (nI d))]) (st2 := [.int 1]) b_X10_step_24_24 rfl (fun hd => ?_)
  refine R2.if_eq 31 hd (by decide) (fun c24 => absurd c24 (by decide)) (fun c24 => ?_)
  refine R2.B (ls2 := [some (.ref 5), some (.int (nI a)), some (.int (nI d))]) (st2 := [.int 1]) b_X10_step_27_33 rfl (fun hd => ?_)
  exact R2.ret3 (r := some (.int 1)) hd trivial rfl rfl rfl
end
