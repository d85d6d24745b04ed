section
-- ===== PART A: goes FIRST, ahead of the names: the tables' words, and 'selects' of the private methods out of them =====
/-- a private method of a class that the tables say can be made, by its rows of tables_1 -/
def lw_okq (q : MethodName × Nat) : Prop := (q.1.cls ≠ "java/lang/invoke/MethodHandle" ∧ q.1.cls ≠ "java/lang/invoke/VarHandle") ∧ Cond.instantiable q.1.cls q.2 ∈ tables_1 ∧ Cond.privateMethod q.1 ∈ tables_1 ∧ Cond.instanceMethod q.1 ∈ tables_1
theorem lw_p0 : lw_okq (⟨"ElevenPaces", "textOf", "(I)LElevenPaces$Text;"⟩, 12) := ⟨⟨by decide +kernel, by decide +kernel⟩, List.mem_of_getElem? (i := 17) (by decide +kernel), List.mem_of_getElem? (i := 320) (by decide +kernel), List.mem_of_getElem? (i := 321) (by decide +kernel)⟩
theorem lw_p1 : lw_okq (⟨"ElevenPaces", "takeIn", "(I)V"⟩, 12) := ⟨⟨by decide +kernel, by decide +kernel⟩, List.mem_of_getElem? (i := 17) (by decide +kernel), List.mem_of_getElem? (i := 333) (by decide +kernel), List.mem_of_getElem? (i := 334) (by decide +kernel)⟩
theorem lw_p2 : lw_okq (⟨"ElevenPaces$Crowd", "place", "(LElevenPaces$Text;I)V"⟩, 7) := ⟨⟨by decide +kernel, by decide +kernel⟩, List.mem_of_getElem? (i := 42) (by decide +kernel), List.mem_of_getElem? (i := 364) (by decide +kernel), List.mem_of_getElem? (i := 365) (by decide +kernel)⟩
theorem lw_p3 : lw_okq (⟨"ElevenPaces$Fair", "faultOf", "(LElevenPaces$Text;I)I"⟩, 5) := ⟨⟨by decide +kernel, by decide +kernel⟩, List.mem_of_getElem? (i := 106) (by decide +kernel), List.mem_of_getElem? (i := 373) (by decide +kernel), List.mem_of_getElem? (i := 374) (by decide +kernel)⟩
theorem lw_p4 : lw_okq (⟨"ElevenPaces", "isPerson", "(I)Z"⟩, 12) := ⟨⟨by decide +kernel, by decide +kernel⟩, List.mem_of_getElem? (i := 17) (by decide +kernel), List.mem_of_getElem? (i := 407) (by decide +kernel), List.mem_of_getElem? (i := 408) (by decide +kernel)⟩
theorem lw_p5 : lw_okq (⟨"ElevenPaces", "goes", "(II)Z"⟩, 12) := ⟨⟨by decide +kernel, by decide +kernel⟩, List.mem_of_getElem? (i := 17) (by decide +kernel), List.mem_of_getElem? (i := 416) (by decide +kernel), List.mem_of_getElem? (i := 417) (by decide +kernel)⟩
theorem lw_p6 : lw_okq (⟨"ElevenPaces", "found", "(I)I"⟩, 12) := ⟨⟨by decide +kernel, by decide +kernel⟩, List.mem_of_getElem? (i := 17) (by decide +kernel), List.mem_of_getElem? (i := 449) (by decide +kernel), List.mem_of_getElem? (i := 450) (by decide +kernel)⟩
theorem lw_p7 : lw_okq (⟨"ElevenPaces", "areTwo", "(II)Z"⟩, 12) := ⟨⟨by decide +kernel, by decide +kernel⟩, List.mem_of_getElem? (i := 17) (by decide +kernel), List.mem_of_getElem? (i := 470) (by decide +kernel), List.mem_of_getElem? (i := 471) (by decide +kernel)⟩
theorem lw_p8 : lw_okq (⟨"ElevenPaces$Market", "verdictBy", "(I[IIII)I"⟩, 2) := ⟨⟨by decide +kernel, by decide +kernel⟩, List.mem_of_getElem? (i := 88) (by decide +kernel), List.mem_of_getElem? (i := 482) (by decide +kernel), List.mem_of_getElem? (i := 483) (by decide +kernel)⟩
theorem lw_p9 : lw_okq (⟨"ElevenPaces$Crowd", "sellsTo", "(II)Z"⟩, 7) := ⟨⟨by decide +kernel, by decide +kernel⟩, List.mem_of_getElem? (i := 42) (by decide +kernel), List.mem_of_getElem? (i := 491) (by decide +kernel), List.mem_of_getElem? (i := 492) (by decide +kernel)⟩
theorem lw_p10 : lw_okq (⟨"ElevenPaces$Match", "choose", "(IIII)V"⟩, 6) := ⟨⟨by decide +kernel, by decide +kernel⟩, List.mem_of_getElem? (i := 161) (by decide +kernel), List.mem_of_getElem? (i := 516) (by decide +kernel), List.mem_of_getElem? (i := 517) (by decide +kernel)⟩
theorem lw_p11 : lw_okq (⟨"ElevenPaces$Match", "keepIfBetter", "(II)V"⟩, 6) := ⟨⟨by decide +kernel, by decide +kernel⟩, List.mem_of_getElem? (i := 161) (by decide +kernel), List.mem_of_getElem? (i := 520) (by decide +kernel), List.mem_of_getElem? (i := 521) (by decide +kernel)⟩
theorem lw_p12 : lw_okq (⟨"ElevenPaces$Trial", "strikes", "(II)Z"⟩, 6) := ⟨⟨by decide +kernel, by decide +kernel⟩, List.mem_of_getElem? (i := 135) (by decide +kernel), List.mem_of_getElem? (i := 540) (by decide +kernel), List.mem_of_getElem? (i := 541) (by decide +kernel)⟩
theorem lw_p13 : lw_okq (⟨"ElevenPaces$Trial", "moves", "(II)Z"⟩, 6) := ⟨⟨by decide +kernel, by decide +kernel⟩, List.mem_of_getElem? (i := 135) (by decide +kernel), List.mem_of_getElem? (i := 546) (by decide +kernel), List.mem_of_getElem? (i := 547) (by decide +kernel)⟩
theorem lw_p14 : lw_okq (⟨"ElevenPaces$Walk", "queueGoals", "(III)V"⟩, 5) := ⟨⟨by decide +kernel, by decide +kernel⟩, List.mem_of_getElem? (i := 189) (by decide +kernel), List.mem_of_getElem? (i := 572) (by decide +kernel), List.mem_of_getElem? (i := 573) (by decide +kernel)⟩
theorem lw_p15 : lw_okq (⟨"ElevenPaces$Walk", "isOpen", "(III)Z"⟩, 5) := ⟨⟨by decide +kernel, by decide +kernel⟩, List.mem_of_getElem? (i := 189) (by decide +kernel), List.mem_of_getElem? (i := 577) (by decide +kernel), List.mem_of_getElem? (i := 578) (by decide +kernel)⟩
def lw_privs_1 : List (MethodName × Nat) := [(⟨"ElevenPaces", "textOf", "(I)LElevenPaces$Text;"⟩, 12), (⟨"ElevenPaces", "takeIn", "(I)V"⟩, 12), (⟨"ElevenPaces$Crowd", "place", "(LElevenPaces$Text;I)V"⟩, 7), (⟨"ElevenPaces$Fair", "faultOf", "(LElevenPaces$Text;I)I"⟩, 5), (⟨"ElevenPaces", "isPerson", "(I)Z"⟩, 12), (⟨"ElevenPaces", "goes", "(II)Z"⟩, 12), (⟨"ElevenPaces", "found", "(I)I"⟩, 12), (⟨"ElevenPaces", "areTwo", "(II)Z"⟩, 12), (⟨"ElevenPaces$Market", "verdictBy", "(I[IIII)I"⟩, 2), (⟨"ElevenPaces$Crowd", "sellsTo", "(II)Z"⟩, 7), (⟨"ElevenPaces$Match", "choose", "(IIII)V"⟩, 6), (⟨"ElevenPaces$Match", "keepIfBetter", "(II)V"⟩, 6), (⟨"ElevenPaces$Trial", "strikes", "(II)Z"⟩, 6), (⟨"ElevenPaces$Trial", "moves", "(II)Z"⟩, 6), (⟨"ElevenPaces$Walk", "queueGoals", "(III)V"⟩, 5), (⟨"ElevenPaces$Walk", "isOpen", "(III)Z"⟩, 5)]
theorem lw_r1 : ∀ q ∈ lw_privs_1, lw_okq q := List.forall_mem_cons.mpr ⟨lw_p0, List.forall_mem_cons.mpr ⟨lw_p1, List.forall_mem_cons.mpr ⟨lw_p2, List.forall_mem_cons.mpr ⟨lw_p3, List.forall_mem_cons.mpr ⟨lw_p4, List.forall_mem_cons.mpr ⟨lw_p5, List.forall_mem_cons.mpr ⟨lw_p6, List.forall_mem_cons.mpr ⟨lw_p7, List.forall_mem_cons.mpr ⟨lw_p8, List.forall_mem_cons.mpr ⟨lw_p9, List.forall_mem_cons.mpr ⟨lw_p10, List.forall_mem_cons.mpr ⟨lw_p11, List.forall_mem_cons.mpr ⟨lw_p12, List.forall_mem_cons.mpr ⟨lw_p13, List.forall_mem_cons.mpr ⟨lw_p14, List.forall_mem_cons.mpr ⟨lw_p15, fun _ h => absurd h List.not_mem_nil⟩⟩⟩⟩⟩⟩⟩⟩⟩⟩⟩⟩⟩⟩⟩⟩
theorem lw_p16 : lw_okq (⟨"ElevenPaces$Walk", "enqueue", "(II)V"⟩, 5) := ⟨⟨by decide +kernel, by decide +kernel⟩, List.mem_of_getElem? (i := 189) (by decide +kernel), List.mem_of_getElem? (i := 582) (by decide +kernel), List.mem_of_getElem? (i := 583) (by decide +kernel)⟩
theorem lw_p17 : lw_okq (⟨"ElevenPaces$Walk", "queueNeighbours", "(III)V"⟩, 5) := ⟨⟨by decide +kernel, by decide +kernel⟩, List.mem_of_getElem? (i := 189) (by decide +kernel), List.mem_of_getElem? (i := 586) (by decide +kernel), List.mem_of_getElem? (i := 587) (by decide +kernel)⟩
theorem lw_p18 : lw_okq (⟨"ElevenPaces$Walk", "leastDirection", "(I)I"⟩, 5) := ⟨⟨by decide +kernel, by decide +kernel⟩, List.mem_of_getElem? (i := 189) (by decide +kernel), List.mem_of_getElem? (i := 599) (by decide +kernel), List.mem_of_getElem? (i := 600) (by decide +kernel)⟩
theorem lw_p19 : lw_okq (⟨"ElevenPaces$Market", "isHinderedBy", "(III)Z"⟩, 2) := ⟨⟨by decide +kernel, by decide +kernel⟩, List.mem_of_getElem? (i := 88) (by decide +kernel), List.mem_of_getElem? (i := 611) (by decide +kernel), List.mem_of_getElem? (i := 612) (by decide +kernel)⟩
theorem lw_p20 : lw_okq (⟨"ElevenPaces$Posts", "isCommon", "(IIII)Z"⟩, 2) := ⟨⟨by decide +kernel, by decide +kernel⟩, List.mem_of_getElem? (i := 211) (by decide +kernel), List.mem_of_getElem? (i := 676) (by decide +kernel), List.mem_of_getElem? (i := 677) (by decide +kernel)⟩
theorem lw_p21 : lw_okq (⟨"ElevenPaces$Stall", "profitOn", "(I)I"⟩, 6) := ⟨⟨by decide +kernel, by decide +kernel⟩, List.mem_of_getElem? (i := 225) (by decide +kernel), List.mem_of_getElem? (i := 693) (by decide +kernel), List.mem_of_getElem? (i := 694) (by decide +kernel)⟩
theorem lw_p22 : lw_okq (⟨"ElevenPaces$Stall", "ask", "(III)V"⟩, 6) := ⟨⟨by decide +kernel, by decide +kernel⟩, List.mem_of_getElem? (i := 225) (by decide +kernel), List.mem_of_getElem? (i := 700) (by decide +kernel), List.mem_of_getElem? (i := 701) (by decide +kernel)⟩
theorem lw_p23 : lw_okq (⟨"ElevenPaces$Stall", "margins", "()I"⟩, 6) := ⟨⟨by decide +kernel, by decide +kernel⟩, List.mem_of_getElem? (i := 225) (by decide +kernel), List.mem_of_getElem? (i := 705) (by decide +kernel), List.mem_of_getElem? (i := 706) (by decide +kernel)⟩
theorem lw_p24 : lw_okq (⟨"ElevenPaces", "mixedPerson", "(JI)J"⟩, 12) := ⟨⟨by decide +kernel, by decide +kernel⟩, List.mem_of_getElem? (i := 17) (by decide +kernel), List.mem_of_getElem? (i := 779) (by decide +kernel), List.mem_of_getElem? (i := 780) (by decide +kernel)⟩
theorem lw_p25 : lw_okq (⟨"ElevenPacesModel", "stands", "()V"⟩, 32) := ⟨⟨by decide +kernel, by decide +kernel⟩, List.mem_of_getElem? (i := 785) (by decide +kernel), List.mem_of_getElem? (i := 898) (by decide +kernel), List.mem_of_getElem? (i := 899) (by decide +kernel)⟩
theorem lw_p26 : lw_okq (⟨"ElevenPacesModel", "peopleFault", "()I"⟩, 32) := ⟨⟨by decide +kernel, by decide +kernel⟩, List.mem_of_getElem? (i := 785) (by decide +kernel), List.mem_of_getElem? (i := 902) (by decide +kernel), List.mem_of_getElem? (i := 903) (by decide +kernel)⟩
theorem lw_p27 : lw_okq (⟨"ElevenPacesModel", "reads", "()I"⟩, 32) := ⟨⟨by decide +kernel, by decide +kernel⟩, List.mem_of_getElem? (i := 785) (by decide +kernel), List.mem_of_getElem? (i := 906) (by decide +kernel), List.mem_of_getElem? (i := 907) (by decide +kernel)⟩
theorem lw_p28 : lw_okq (⟨"ElevenPacesModel", "byteAt", "(II)I"⟩, 32) := ⟨⟨by decide +kernel, by decide +kernel⟩, List.mem_of_getElem? (i := 785) (by decide +kernel), List.mem_of_getElem? (i := 910) (by decide +kernel), List.mem_of_getElem? (i := 911) (by decide +kernel)⟩
theorem lw_p29 : lw_okq (⟨"ElevenPacesModel", "pairAt", "(I)I"⟩, 32) := ⟨⟨by decide +kernel, by decide +kernel⟩, List.mem_of_getElem? (i := 785) (by decide +kernel), List.mem_of_getElem? (i := 914) (by decide +kernel), List.mem_of_getElem? (i := 915) (by decide +kernel)⟩
theorem lw_p30 : lw_okq (⟨"ElevenPacesModel", "isFigure", "(I)Z"⟩, 32) := ⟨⟨by decide +kernel, by decide +kernel⟩, List.mem_of_getElem? (i := 785) (by decide +kernel), List.mem_of_getElem? (i := 918) (by decide +kernel), List.mem_of_getElem? (i := 919) (by decide +kernel)⟩
theorem lw_p31 : lw_okq (⟨"ElevenPacesModel", "faultOf", "(I)I"⟩, 32) := ⟨⟨by decide +kernel, by decide +kernel⟩, List.mem_of_getElem? (i := 785) (by decide +kernel), List.mem_of_getElem? (i := 930) (by decide +kernel), List.mem_of_getElem? (i := 931) (by decide +kernel)⟩
def lw_privs_2 : List (MethodName × Nat) := [(⟨"ElevenPaces$Walk", "enqueue", "(II)V"⟩, 5), (⟨"ElevenPaces$Walk", "queueNeighbours", "(III)V"⟩, 5), (⟨"ElevenPaces$Walk", "leastDirection", "(I)I"⟩, 5), (⟨"ElevenPaces$Market", "isHinderedBy", "(III)Z"⟩, 2), (⟨"ElevenPaces$Posts", "isCommon", "(IIII)Z"⟩, 2), (⟨"ElevenPaces$Stall", "profitOn", "(I)I"⟩, 6), (⟨"ElevenPaces$Stall", "ask", "(III)V"⟩, 6), (⟨"ElevenPaces$Stall", "margins", "()I"⟩, 6), (⟨"ElevenPaces", "mixedPerson", "(JI)J"⟩, 12), (⟨"ElevenPacesModel", "stands", "()V"⟩, 32), (⟨"ElevenPacesModel", "peopleFault", "()I"⟩, 32), (⟨"ElevenPacesModel", "reads", "()I"⟩, 32), (⟨"ElevenPacesModel", "byteAt", "(II)I"⟩, 32), (⟨"ElevenPacesModel", "pairAt", "(I)I"⟩, 32), (⟨"ElevenPacesModel", "isFigure", "(I)Z"⟩, 32), (⟨"ElevenPacesModel", "faultOf", "(I)I"⟩, 32)]
theorem lw_r2 : ∀ q ∈ lw_privs_2, lw_okq q := List.forall_mem_cons.mpr ⟨lw_p16, List.forall_mem_cons.mpr ⟨lw_p17, List.forall_mem_cons.mpr ⟨lw_p18, List.forall_mem_cons.mpr ⟨lw_p19, List.forall_mem_cons.mpr ⟨lw_p20, List.forall_mem_cons.mpr ⟨lw_p21, List.forall_mem_cons.mpr ⟨lw_p22, List.forall_mem_cons.mpr ⟨lw_p23, List.forall_mem_cons.mpr ⟨lw_p24, List.forall_mem_cons.mpr ⟨lw_p25, List.forall_mem_cons.mpr ⟨lw_p26, List.forall_mem_cons.mpr ⟨lw_p27, List.forall_mem_cons.mpr ⟨lw_p28, List.forall_mem_cons.mpr ⟨lw_p29, List.forall_mem_cons.mpr ⟨lw_p30, List.forall_mem_cons.mpr ⟨lw_p31, fun _ h => absurd h List.not_mem_nil⟩⟩⟩⟩⟩⟩⟩⟩⟩⟩⟩⟩⟩⟩⟩⟩
theorem lw_p32 : lw_okq (⟨"ElevenPacesModel", "fairFault", "()I"⟩, 32) := ⟨⟨by decide +kernel, by decide +kernel⟩, List.mem_of_getElem? (i := 785) (by decide +kernel), List.mem_of_getElem? (i := 934) (by decide +kernel), List.mem_of_getElem? (i := 935) (by decide +kernel)⟩
theorem lw_p33 : lw_okq (⟨"ElevenPacesModel", "isPerson", "(I)Z"⟩, 32) := ⟨⟨by decide +kernel, by decide +kernel⟩, List.mem_of_getElem? (i := 785) (by decide +kernel), List.mem_of_getElem? (i := 946) (by decide +kernel), List.mem_of_getElem? (i := 947) (by decide +kernel)⟩
theorem lw_p34 : lw_okq (⟨"ElevenPacesModel", "peopleNow", "()I"⟩, 32) := ⟨⟨by decide +kernel, by decide +kernel⟩, List.mem_of_getElem? (i := 785) (by decide +kernel), List.mem_of_getElem? (i := 950) (by decide +kernel), List.mem_of_getElem? (i := 951) (by decide +kernel)⟩
theorem lw_p35 : lw_okq (⟨"ElevenPacesModel", "personOf", "(II)I"⟩, 32) := ⟨⟨by decide +kernel, by decide +kernel⟩, List.mem_of_getElem? (i := 785) (by decide +kernel), List.mem_of_getElem? (i := 954) (by decide +kernel), List.mem_of_getElem? (i := 955) (by decide +kernel)⟩
theorem lw_p36 : lw_okq (⟨"ElevenPacesModel", "steps", "(II)Z"⟩, 32) := ⟨⟨by decide +kernel, by decide +kernel⟩, List.mem_of_getElem? (i := 785) (by decide +kernel), List.mem_of_getElem? (i := 962) (by decide +kernel), List.mem_of_getElem? (i := 963) (by decide +kernel)⟩
theorem lw_p37 : lw_okq (⟨"ElevenPacesModel", "lays", "()V"⟩, 32) := ⟨⟨by decide +kernel, by decide +kernel⟩, List.mem_of_getElem? (i := 785) (by decide +kernel), List.mem_of_getElem? (i := 966) (by decide +kernel), List.mem_of_getElem? (i := 967) (by decide +kernel)⟩
theorem lw_p38 : lw_okq (⟨"ElevenPacesModel", "isFree", "(II)Z"⟩, 32) := ⟨⟨by decide +kernel, by decide +kernel⟩, List.mem_of_getElem? (i := 785) (by decide +kernel), List.mem_of_getElem? (i := 973) (by decide +kernel), List.mem_of_getElem? (i := 974) (by decide +kernel)⟩
theorem lw_p39 : lw_okq (⟨"ElevenPacesModel", "meets", "(I)I"⟩, 32) := ⟨⟨by decide +kernel, by decide +kernel⟩, List.mem_of_getElem? (i := 785) (by decide +kernel), List.mem_of_getElem? (i := 987) (by decide +kernel), List.mem_of_getElem? (i := 988) (by decide +kernel)⟩
theorem lw_p40 : lw_okq (⟨"ElevenPacesModel", "areTwo", "(II)Z"⟩, 32) := ⟨⟨by decide +kernel, by decide +kernel⟩, List.mem_of_getElem? (i := 785) (by decide +kernel), List.mem_of_getElem? (i := 1003) (by decide +kernel), List.mem_of_getElem? (i := 1004) (by decide +kernel)⟩
theorem lw_p41 : lw_okq (⟨"ElevenPacesModel", "bindsBy", "(IIII)I"⟩, 32) := ⟨⟨by decide +kernel, by decide +kernel⟩, List.mem_of_getElem? (i := 785) (by decide +kernel), List.mem_of_getElem? (i := 1007) (by decide +kernel), List.mem_of_getElem? (i := 1008) (by decide +kernel)⟩
theorem lw_p42 : lw_okq (⟨"ElevenPacesModel", "nearer", "(III)I"⟩, 32) := ⟨⟨by decide +kernel, by decide +kernel⟩, List.mem_of_getElem? (i := 785) (by decide +kernel), List.mem_of_getElem? (i := 1011) (by decide +kernel), List.mem_of_getElem? (i := 1012) (by decide +kernel)⟩
theorem lw_p43 : lw_okq (⟨"ElevenPacesModel", "worthOf", "(II)I"⟩, 32) := ⟨⟨by decide +kernel, by decide +kernel⟩, List.mem_of_getElem? (i := 785) (by decide +kernel), List.mem_of_getElem? (i := 1015) (by decide +kernel), List.mem_of_getElem? (i := 1016) (by decide +kernel)⟩
theorem lw_p44 : lw_okq (⟨"ElevenPacesModel", "buyer", "(II)I"⟩, 32) := ⟨⟨by decide +kernel, by decide +kernel⟩, List.mem_of_getElem? (i := 785) (by decide +kernel), List.mem_of_getElem? (i := 1019) (by decide +kernel), List.mem_of_getElem? (i := 1020) (by decide +kernel)⟩
theorem lw_p45 : lw_okq (⟨"ElevenPacesModel", "isBound", "(II)Z"⟩, 32) := ⟨⟨by decide +kernel, by decide +kernel⟩, List.mem_of_getElem? (i := 785) (by decide +kernel), List.mem_of_getElem? (i := 1023) (by decide +kernel), List.mem_of_getElem? (i := 1024) (by decide +kernel)⟩
theorem lw_p46 : lw_okq (⟨"ElevenPacesModel", "pairsNow", "()I"⟩, 32) := ⟨⟨by decide +kernel, by decide +kernel⟩, List.mem_of_getElem? (i := 785) (by decide +kernel), List.mem_of_getElem? (i := 1031) (by decide +kernel), List.mem_of_getElem? (i := 1032) (by decide +kernel)⟩
theorem lw_p47 : lw_okq (⟨"ElevenPacesModel", "pairsBy", "(I)I"⟩, 32) := ⟨⟨by decide +kernel, by decide +kernel⟩, List.mem_of_getElem? (i := 785) (by decide +kernel), List.mem_of_getElem? (i := 1035) (by decide +kernel), List.mem_of_getElem? (i := 1036) (by decide +kernel)⟩
def lw_privs_3 : List (MethodName × Nat) := [(⟨"ElevenPacesModel", "fairFault", "()I"⟩, 32), (⟨"ElevenPacesModel", "isPerson", "(I)Z"⟩, 32), (⟨"ElevenPacesModel", "peopleNow", "()I"⟩, 32), (⟨"ElevenPacesModel", "personOf", "(II)I"⟩, 32), (⟨"ElevenPacesModel", "steps", "(II)Z"⟩, 32), (⟨"ElevenPacesModel", "lays", "()V"⟩, 32), (⟨"ElevenPacesModel", "isFree", "(II)Z"⟩, 32), (⟨"ElevenPacesModel", "meets", "(I)I"⟩, 32), (⟨"ElevenPacesModel", "areTwo", "(II)Z"⟩, 32), (⟨"ElevenPacesModel", "bindsBy", "(IIII)I"⟩, 32), (⟨"ElevenPacesModel", "nearer", "(III)I"⟩, 32), (⟨"ElevenPacesModel", "worthOf", "(II)I"⟩, 32), (⟨"ElevenPacesModel", "buyer", "(II)I"⟩, 32), (⟨"ElevenPacesModel", "isBound", "(II)Z"⟩, 32), (⟨"ElevenPacesModel", "pairsNow", "()I"⟩, 32), (⟨"ElevenPacesModel", "pairsBy", "(I)I"⟩, 32)]
theorem lw_r3 : ∀ q ∈ lw_privs_3, lw_okq q := List.forall_mem_cons.mpr ⟨lw_p32, List.forall_mem_cons.mpr ⟨lw_p33, List.forall_mem_cons.mpr ⟨lw_p34, List.forall_mem_cons.mpr ⟨lw_p35, List.forall_mem_cons.mpr ⟨lw_p36, List.forall_mem_cons.mpr ⟨lw_p37, List.forall_mem_cons.mpr ⟨lw_p38, List.forall_mem_cons.mpr ⟨lw_p39, List.forall_mem_cons.mpr ⟨lw_p40, List.forall_mem_cons.mpr ⟨lw_p41, List.forall_mem_cons.mpr ⟨lw_p42, List.forall_mem_cons.mpr ⟨lw_p43, List.forall_mem_cons.mpr ⟨lw_p44, List.forall_mem_cons.mpr ⟨lw_p45, List.forall_mem_cons.mpr ⟨lw_p46, List.forall_mem_cons.mpr ⟨lw_p47, fun _ h => absurd h List.not_mem_nil⟩⟩⟩⟩⟩⟩⟩⟩⟩⟩⟩⟩⟩⟩⟩⟩
theorem lw_p48 : lw_okq (⟨"ElevenPacesModel", "onceOf", "(I)I"⟩, 32) := ⟨⟨by decide +kernel, by decide +kernel⟩, List.mem_of_getElem? (i := 785) (by decide +kernel), List.mem_of_getElem? (i := 1043) (by decide +kernel), List.mem_of_getElem? (i := 1044) (by decide +kernel)⟩
theorem lw_p49 : lw_okq (⟨"ElevenPacesModel", "laysOnce", "()V"⟩, 32) := ⟨⟨by decide +kernel, by decide +kernel⟩, List.mem_of_getElem? (i := 785) (by decide +kernel), List.mem_of_getElem? (i := 1047) (by decide +kernel), List.mem_of_getElem? (i := 1048) (by decide +kernel)⟩
theorem lw_p50 : lw_okq (⟨"ElevenPacesModel", "worthNow", "()I"⟩, 32) := ⟨⟨by decide +kernel, by decide +kernel⟩, List.mem_of_getElem? (i := 785) (by decide +kernel), List.mem_of_getElem? (i := 1059) (by decide +kernel), List.mem_of_getElem? (i := 1060) (by decide +kernel)⟩
theorem lw_p51 : lw_okq (⟨"ElevenPacesModel", "judgedOf", "(I)I"⟩, 32) := ⟨⟨by decide +kernel, by decide +kernel⟩, List.mem_of_getElem? (i := 785) (by decide +kernel), List.mem_of_getElem? (i := 1067) (by decide +kernel), List.mem_of_getElem? (i := 1068) (by decide +kernel)⟩
theorem lw_p52 : lw_okq (⟨"ElevenPacesModel", "judges", "()V"⟩, 32) := ⟨⟨by decide +kernel, by decide +kernel⟩, List.mem_of_getElem? (i := 785) (by decide +kernel), List.mem_of_getElem? (i := 1071) (by decide +kernel), List.mem_of_getElem? (i := 1072) (by decide +kernel)⟩
theorem lw_p53 : lw_okq (⟨"ElevenPacesModel", "endsOf", "(I)I"⟩, 32) := ⟨⟨by decide +kernel, by decide +kernel⟩, List.mem_of_getElem? (i := 785) (by decide +kernel), List.mem_of_getElem? (i := 1079) (by decide +kernel), List.mem_of_getElem? (i := 1080) (by decide +kernel)⟩
theorem lw_p54 : lw_okq (⟨"ElevenPacesModel", "comesOf", "(II)I"⟩, 32) := ⟨⟨by decide +kernel, by decide +kernel⟩, List.mem_of_getElem? (i := 785) (by decide +kernel), List.mem_of_getElem? (i := 1087) (by decide +kernel), List.mem_of_getElem? (i := 1088) (by decide +kernel)⟩
theorem lw_p55 : lw_okq (⟨"ElevenPacesModel", "laysFar", "(II)V"⟩, 32) := ⟨⟨by decide +kernel, by decide +kernel⟩, List.mem_of_getElem? (i := 785) (by decide +kernel), List.mem_of_getElem? (i := 1091) (by decide +kernel), List.mem_of_getElem? (i := 1092) (by decide +kernel)⟩
theorem lw_p56 : lw_okq (⟨"ElevenPacesModel", "hindersOf", "(II)I"⟩, 32) := ⟨⟨by decide +kernel, by decide +kernel⟩, List.mem_of_getElem? (i := 785) (by decide +kernel), List.mem_of_getElem? (i := 1103) (by decide +kernel), List.mem_of_getElem? (i := 1104) (by decide +kernel)⟩
theorem lw_p57 : lw_okq (⟨"ElevenPacesModel", "seesNow", "()I"⟩, 32) := ⟨⟨by decide +kernel, by decide +kernel⟩, List.mem_of_getElem? (i := 785) (by decide +kernel), List.mem_of_getElem? (i := 1119) (by decide +kernel), List.mem_of_getElem? (i := 1120) (by decide +kernel)⟩
theorem lw_p58 : lw_okq (⟨"ElevenPacesModel", "isDue", "(II)Z"⟩, 32) := ⟨⟨by decide +kernel, by decide +kernel⟩, List.mem_of_getElem? (i := 785) (by decide +kernel), List.mem_of_getElem? (i := 1123) (by decide +kernel), List.mem_of_getElem? (i := 1124) (by decide +kernel)⟩
theorem lw_p59 : lw_okq (⟨"ElevenPacesModel", "moreOf", "(I)I"⟩, 32) := ⟨⟨by decide +kernel, by decide +kernel⟩, List.mem_of_getElem? (i := 785) (by decide +kernel), List.mem_of_getElem? (i := 1131) (by decide +kernel), List.mem_of_getElem? (i := 1132) (by decide +kernel)⟩
theorem lw_p60 : lw_okq (⟨"ElevenPacesModel", "brokerOf", "(I)I"⟩, 32) := ⟨⟨by decide +kernel, by decide +kernel⟩, List.mem_of_getElem? (i := 785) (by decide +kernel), List.mem_of_getElem? (i := 1143) (by decide +kernel), List.mem_of_getElem? (i := 1144) (by decide +kernel)⟩
theorem lw_p61 : lw_okq (⟨"ElevenPacesModel", "brokes", "(I)I"⟩, 32) := ⟨⟨by decide +kernel, by decide +kernel⟩, List.mem_of_getElem? (i := 785) (by decide +kernel), List.mem_of_getElem? (i := 1147) (by decide +kernel), List.mem_of_getElem? (i := 1148) (by decide +kernel)⟩
theorem lw_p62 : lw_okq (⟨"ElevenPacesModel", "otherOf", "(III)I"⟩, 32) := ⟨⟨by decide +kernel, by decide +kernel⟩, List.mem_of_getElem? (i := 785) (by decide +kernel), List.mem_of_getElem? (i := 1155) (by decide +kernel), List.mem_of_getElem? (i := 1156) (by decide +kernel)⟩
theorem lw_p63 : lw_okq (⟨"ElevenPacesModel", "lacks", "(III)I"⟩, 32) := ⟨⟨by decide +kernel, by decide +kernel⟩, List.mem_of_getElem? (i := 785) (by decide +kernel), List.mem_of_getElem? (i := 1171) (by decide +kernel), List.mem_of_getElem? (i := 1172) (by decide +kernel)⟩
def lw_privs_4 : List (MethodName × Nat) := [(⟨"ElevenPacesModel", "onceOf", "(I)I"⟩, 32), (⟨"ElevenPacesModel", "laysOnce", "()V"⟩, 32), (⟨"ElevenPacesModel", "worthNow", "()I"⟩, 32), (⟨"ElevenPacesModel", "judgedOf", "(I)I"⟩, 32), (⟨"ElevenPacesModel", "judges", "()V"⟩, 32), (⟨"ElevenPacesModel", "endsOf", "(I)I"⟩, 32), (⟨"ElevenPacesModel", "comesOf", "(II)I"⟩, 32), (⟨"ElevenPacesModel", "laysFar", "(II)V"⟩, 32), (⟨"ElevenPacesModel", "hindersOf", "(II)I"⟩, 32), (⟨"ElevenPacesModel", "seesNow", "()I"⟩, 32), (⟨"ElevenPacesModel", "isDue", "(II)Z"⟩, 32), (⟨"ElevenPacesModel", "moreOf", "(I)I"⟩, 32), (⟨"ElevenPacesModel", "brokerOf", "(I)I"⟩, 32), (⟨"ElevenPacesModel", "brokes", "(I)I"⟩, 32), (⟨"ElevenPacesModel", "otherOf", "(III)I"⟩, 32), (⟨"ElevenPacesModel", "lacks", "(III)I"⟩, 32)]
theorem lw_r4 : ∀ q ∈ lw_privs_4, lw_okq q := List.forall_mem_cons.mpr ⟨lw_p48, List.forall_mem_cons.mpr ⟨lw_p49, List.forall_mem_cons.mpr ⟨lw_p50, List.forall_mem_cons.mpr ⟨lw_p51, List.forall_mem_cons.mpr ⟨lw_p52, List.forall_mem_cons.mpr ⟨lw_p53, List.forall_mem_cons.mpr ⟨lw_p54, List.forall_mem_cons.mpr ⟨lw_p55, List.forall_mem_cons.mpr ⟨lw_p56, List.forall_mem_cons.mpr ⟨lw_p57, List.forall_mem_cons.mpr ⟨lw_p58, List.forall_mem_cons.mpr ⟨lw_p59, List.forall_mem_cons.mpr ⟨lw_p60, List.forall_mem_cons.mpr ⟨lw_p61, List.forall_mem_cons.mpr ⟨lw_p62, List.forall_mem_cons.mpr ⟨lw_p63, fun _ h => absurd h List.not_mem_nil⟩⟩⟩⟩⟩⟩⟩⟩⟩⟩⟩⟩⟩⟩⟩⟩
theorem lw_p64 : lw_okq (⟨"ElevenPacesModel", "keep", "(III)V"⟩, 32) := ⟨⟨by decide +kernel, by decide +kernel⟩, List.mem_of_getElem? (i := 785) (by decide +kernel), List.mem_of_getElem? (i := 1175) (by decide +kernel), List.mem_of_getElem? (i := 1176) (by decide +kernel)⟩
theorem lw_p65 : lw_okq (⟨"ElevenPacesModel", "partsNow", "()I"⟩, 32) := ⟨⟨by decide +kernel, by decide +kernel⟩, List.mem_of_getElem? (i := 785) (by decide +kernel), List.mem_of_getElem? (i := 1196) (by decide +kernel), List.mem_of_getElem? (i := 1197) (by decide +kernel)⟩
def lw_privs_5 : List (MethodName × Nat) := [(⟨"ElevenPacesModel", "keep", "(III)V"⟩, 32), (⟨"ElevenPacesModel", "partsNow", "()I"⟩, 32)]
theorem lw_r5 : ∀ q ∈ lw_privs_5, lw_okq q := List.forall_mem_cons.mpr ⟨lw_p64, List.forall_mem_cons.mpr ⟨lw_p65, fun _ h => absurd h List.not_mem_nil⟩⟩
def lw_privs : List (MethodName × Nat) := lw_privs_1 ++ (lw_privs_2 ++ (lw_privs_3 ++ (lw_privs_4 ++ (lw_privs_5))))
def lw_tbl : List Cond := k2_sels lw_privs ++ tables_1
theorem lw_privs_ok : ∀ q ∈ lw_privs, lw_okq q := by
  show ∀ q ∈ lw_privs_1 ++ (lw_privs_2 ++ (lw_privs_3 ++ (lw_privs_4 ++ (lw_privs_5)))), lw_okq q
  exact List.forall_mem_append.mpr ⟨lw_r1, List.forall_mem_append.mpr ⟨lw_r2, List.forall_mem_append.mpr ⟨lw_r3, List.forall_mem_append.mpr ⟨lw_r4, lw_r5⟩⟩⟩⟩
end
section
/-! ===== BEGIN printed: names, fields, word lists, decode rows ===== -/
def RX0 : String := "ElevenPaces$Crowd"
def TX0 : u_T := fun k => match k with
  | 0 => ("ElevenPaces$Crowd", "trade", "[I", true)
  | 1 => ("ElevenPaces$Crowd", "thing", "[I", true)
  | 2 => ("ElevenPaces$Crowd", "price", "[I", true)
  | 3 => ("ElevenPaces$Crowd", "homeSpot", "[I", true)
  | 4 => ("ElevenPaces$Crowd", "spot", "[I", true)
  | 5 => ("ElevenPaces$Crowd", "size", "I", false)
  | _ => ("ElevenPaces$Crowd", "fault", "I", false)
def tyX0 : Nat → FieldType := fun k => match k with
  | 0 => .array .int
  | 1 => .array .int
  | 2 => .array .int
  | 3 => .array .int
  | 4 => .array .int
  | 5 => .int
  | _ => .int
abbrev wsX00 : List Cond := u_ws RX0 TX0 7
theorem nmX0 : ∀ a, a < 7 → ∀ b, b < 7 → a ≠ b → (TX0 a).2.1 ≠ (TX0 b).2.1 := by decide +kernel
theorem tyX0_ok : ∀ k, k < 7 → parseFieldDescriptor (TX0 k).2.2.1 = some (tyX0 k) := by decide +kernel
abbrev cX0_init : ByteArray := prog_2_method_1_code
def yX0_init : MethodName := ⟨RX0, "<init>", "()V"⟩
abbrev cX0_tell : ByteArray := prog_2_method_2_code
def yX0_tell : MethodName := ⟨RX0, "tell", "(LElevenPaces$Text;)V"⟩
abbrev cX0_goHome : ByteArray := prog_2_method_3_code
def yX0_goHome : MethodName := ⟨RX0, "goHome", "()I"⟩
abbrev cX0_canTrade : ByteArray := prog_2_method_4_code
def yX0_canTrade : MethodName := ⟨RX0, "canTrade", "(II)Z"⟩
abbrev cX0_gain : ByteArray := prog_2_method_5_code
def yX0_gain : MethodName := ⟨RX0, "gain", "(II)I"⟩
abbrev cX0_sellsTo : ByteArray := prog_2_method_6_code
def yX0_sellsTo : MethodName := ⟨RX0, "sellsTo", "(II)Z"⟩
abbrev cX0_place : ByteArray := prog_2_method_7_code
def yX0_place : MethodName := ⟨RX0, "place", "(LElevenPaces$Text;I)V"⟩
abbrev cX0_number : ByteArray := prog_2_method_8_code
def yX0_number : MethodName := ⟨RX0, "number", "(LElevenPaces$Text;I)I"⟩
abbrev cX0_faultOf : ByteArray := prog_2_method_9_code
def yX0_faultOf : MethodName := ⟨RX0, "faultOf", "(LElevenPaces$Text;)I"⟩
abbrev cX0_faultAt : ByteArray := prog_2_method_10_code
def yX0_faultAt : MethodName := ⟨RX0, "faultAt", "(LElevenPaces$Text;I)I"⟩
def RX1 : String := "ElevenPaces$Fair"
def TX1 : u_T := fun k => match k with
  | 0 => ("ElevenPaces$Fair", "isDone", "[Z", true)
  | 1 => ("ElevenPaces$Fair", "one", "[I", true)
  | 2 => ("ElevenPaces$Fair", "two", "[I", true)
  | 3 => ("ElevenPaces$Fair", "size", "I", false)
  | _ => ("ElevenPaces$Fair", "fault", "I", false)
def tyX1 : Nat → FieldType := fun k => match k with
  | 0 => .array .boolean
  | 1 => .array .int
  | 2 => .array .int
  | 3 => .int
  | _ => .int
abbrev wsX10 : List Cond := u_ws RX1 TX1 5
theorem nmX1 : ∀ a, a < 5 → ∀ b, b < 5 → a ≠ b → (TX1 a).2.1 ≠ (TX1 b).2.1 := by decide +kernel
theorem tyX1_ok : ∀ k, k < 5 → parseFieldDescriptor (TX1 k).2.2.1 = some (tyX1 k) := by decide +kernel
abbrev cX1_init : ByteArray := prog_3_method_1_code
def yX1_init : MethodName := ⟨RX1, "<init>", "()V"⟩
abbrev cX1_tell : ByteArray := prog_3_method_2_code
def yX1_tell : MethodName := ⟨RX1, "tell", "(LElevenPaces$Text;I)V"⟩
abbrev cX1_faultOf : ByteArray := prog_3_method_3_code
def yX1_faultOf : MethodName := ⟨RX1, "faultOf", "(LElevenPaces$Text;I)I"⟩
def RX2 : String := "ElevenPaces$Market"
def TX2 : u_T := fun k => match k with
  | 0 => ("ElevenPaces$Market", "crowd", "LElevenPaces$Crowd;", true)
  | _ => ("ElevenPaces$Market", "settings", "[I", true)
def tyX2 : Nat → FieldType := fun k => match k with
  | 0 => .object "ElevenPaces$Crowd"
  | _ => .array .int
abbrev wsX20 : List Cond := u_ws RX2 TX2 2
theorem nmX2 : ∀ a, a < 2 → ∀ b, b < 2 → a ≠ b → (TX2 a).2.1 ≠ (TX2 b).2.1 := by decide +kernel
theorem tyX2_ok : ∀ k, k < 2 → parseFieldDescriptor (TX2 k).2.2.1 = some (tyX2 k) := by decide +kernel
abbrev cX2_init : ByteArray := prog_4_method_1_code
def yX2_init : MethodName := ⟨RX2, "<init>", "(LElevenPaces$Crowd;)V"⟩
abbrev cX2_square : ByteArray := prog_4_method_2_code
def yX2_square : MethodName := ⟨RX2, "square", "(I)I"⟩
abbrev cX2_lawfulStep : ByteArray := prog_4_method_3_code
def yX2_lawfulStep : MethodName := ⟨RX2, "lawfulStep", "([III)I"⟩
abbrev cX2_mayStand : ByteArray := prog_4_method_4_code
def yX2_mayStand : MethodName := ⟨RX2, "mayStand", "([III)Z"⟩
abbrev cX2_firstNearer : ByteArray := prog_4_method_5_code
def yX2_firstNearer : MethodName := ⟨RX2, "firstNearer", "([IIII)I"⟩
abbrev cX2_verdict : ByteArray := prog_4_method_6_code
def yX2_verdict : MethodName := ⟨RX2, "verdict", "([IIII)I"⟩
abbrev cX2_bindingPairs : ByteArray := prog_4_method_7_code
def yX2_bindingPairs : MethodName := ⟨RX2, "bindingPairs", "(I)I"⟩
abbrev cX2_bestDue : ByteArray := prog_4_method_8_code
def yX2_bestDue : MethodName := ⟨RX2, "bestDue", "(II)I"⟩
abbrev cX2_hindered : ByteArray := prog_4_method_9_code
def yX2_hindered : MethodName := ⟨RX2, "hindered", "(IZ)I"⟩
abbrev cX2_isHinderedBy : ByteArray := prog_4_method_10_code
def yX2_isHinderedBy : MethodName := ⟨RX2, "isHinderedBy", "(III)Z"⟩
abbrev cX2_verdictBy : ByteArray := prog_4_method_11_code
def yX2_verdictBy : MethodName := ⟨RX2, "verdictBy", "(I[IIII)I"⟩
def RX3 : String := "ElevenPaces$Match"
def TX3 : u_T := fun k => match k with
  | 0 => ("ElevenPaces$Match", "market", "LElevenPaces$Market;", true)
  | 1 => ("ElevenPaces$Match", "canBind", "[Z", true)
  | 2 => ("ElevenPaces$Match", "mate", "[I", true)
  | 3 => ("ElevenPaces$Match", "bestMate", "[I", true)
  | 4 => ("ElevenPaces$Match", "mostPairs", "I", false)
  | _ => ("ElevenPaces$Match", "mostGain", "I", false)
def tyX3 : Nat → FieldType := fun k => match k with
  | 0 => .object "ElevenPaces$Market"
  | 1 => .array .boolean
  | 2 => .array .int
  | 3 => .array .int
  | 4 => .int
  | _ => .int
abbrev wsX30 : List Cond := u_ws RX3 TX3 6
theorem nmX3 : ∀ a, a < 6 → ∀ b, b < 6 → a ≠ b → (TX3 a).2.1 ≠ (TX3 b).2.1 := by decide +kernel
theorem tyX3_ok : ∀ k, k < 6 → parseFieldDescriptor (TX3 k).2.2.1 = some (tyX3 k) := by decide +kernel
abbrev cX3_init : ByteArray := prog_5_method_1_code
def yX3_init : MethodName := ⟨RX3, "<init>", "(LElevenPaces$Market;)V"⟩
abbrev cX3_solve : ByteArray := prog_5_method_2_code
def yX3_solve : MethodName := ⟨RX3, "solve", "()V"⟩
abbrev cX3_choose : ByteArray := prog_5_method_3_code
def yX3_choose : MethodName := ⟨RX3, "choose", "(IIII)V"⟩
abbrev cX3_keepIfBetter : ByteArray := prog_5_method_4_code
def yX3_keepIfBetter : MethodName := ⟨RX3, "keepIfBetter", "(II)V"⟩
def RX4 : String := "ElevenPaces$Posts"
def TX4 : u_T := fun k => match k with
  | 0 => ("ElevenPaces$Posts", "spot", "[I", true)
  | _ => ("ElevenPaces$Posts", "size", "I", false)
def tyX4 : Nat → FieldType := fun k => match k with
  | 0 => .array .int
  | _ => .int
abbrev wsX40 : List Cond := u_ws RX4 TX4 2
theorem nmX4 : ∀ a, a < 2 → ∀ b, b < 2 → a ≠ b → (TX4 a).2.1 ≠ (TX4 b).2.1 := by decide +kernel
theorem tyX4_ok : ∀ k, k < 2 → parseFieldDescriptor (TX4 k).2.2.1 = some (tyX4 k) := by decide +kernel
abbrev cX4_init : ByteArray := prog_6_method_1_code
def yX4_init : MethodName := ⟨RX4, "<init>", "()V"⟩
abbrev cX4_isFull : ByteArray := prog_6_method_2_code
def yX4_isFull : MethodName := ⟨RX4, "isFull", "()Z"⟩
abbrev cX4_has : ByteArray := prog_6_method_3_code
def yX4_has : MethodName := ⟨RX4, "has", "(I)Z"⟩
abbrev cX4_add : ByteArray := prog_6_method_4_code
def yX4_add : MethodName := ⟨RX4, "add", "(I)I"⟩
abbrev cX4_clear : ByteArray := prog_6_method_5_code
def yX4_clear : MethodName := ⟨RX4, "clear", "()I"⟩
abbrev cX4_pairsAt : ByteArray := prog_6_method_6_code
def yX4_pairsAt : MethodName := ⟨RX4, "pairsAt", "(I)I"⟩
abbrev cX4_seenFrom : ByteArray := prog_6_method_7_code
def yX4_seenFrom : MethodName := ⟨RX4, "seenFrom", "(II)I"⟩
abbrev cX4_bestSpot : ByteArray := prog_6_method_8_code
def yX4_bestSpot : MethodName := ⟨RX4, "bestSpot", "(I)I"⟩
abbrev cX4_commonSpots : ByteArray := prog_6_method_9_code
def yX4_commonSpots : MethodName := ⟨RX4, "commonSpots", "(III)I"⟩
abbrev cX4_commonSpot : ByteArray := prog_6_method_10_code
def yX4_commonSpot : MethodName := ⟨RX4, "commonSpot", "(IIII)I"⟩
abbrev cX4_isCommon : ByteArray := prog_6_method_11_code
def yX4_isCommon : MethodName := ⟨RX4, "isCommon", "(IIII)Z"⟩
def RX5 : String := "ElevenPaces$Sheet"
def TX5 : u_T := fun k => match k with
  | 0 => ("ElevenPaces$Sheet", "items", "[I", true)
  | 1 => ("ElevenPaces$Sheet", "lost", "Z", false)
  | 2 => ("ElevenPaces$Sheet", "form", "I", false)
  | _ => ("ElevenPaces$Sheet", "size", "I", false)
def tyX5 : Nat → FieldType := fun k => match k with
  | 0 => .array .int
  | 1 => .boolean
  | 2 => .int
  | _ => .int
abbrev wsX50 : List Cond := u_ws RX5 TX5 4
theorem nmX5 : ∀ a, a < 4 → ∀ b, b < 4 → a ≠ b → (TX5 a).2.1 ≠ (TX5 b).2.1 := by decide +kernel
theorem tyX5_ok : ∀ k, k < 4 → parseFieldDescriptor (TX5 k).2.2.1 = some (tyX5 k) := by decide +kernel
abbrev cX5_init : ByteArray := prog_7_method_1_code
def yX5_init : MethodName := ⟨RX5, "<init>", "()V"⟩
abbrev cX5_renew : ByteArray := prog_7_method_2_code
def yX5_renew : MethodName := ⟨RX5, "renew", "(II)V"⟩
abbrev cX5_findingAt : ByteArray := prog_7_method_3_code
def yX5_findingAt : MethodName := ⟨RX5, "findingAt", "(II)I"⟩
abbrev cX5_hasRange : ByteArray := prog_7_method_4_code
def yX5_hasRange : MethodName := ⟨RX5, "hasRange", "(II)Z"⟩
abbrev cX5_store : ByteArray := prog_7_method_5_code
def yX5_store : MethodName := ⟨RX5, "store", "(II)V"⟩
def RX6 : String := "ElevenPaces$Stall"
def TX6 : u_T := fun k => match k with
  | 0 => ("ElevenPaces$Stall", "market", "LElevenPaces$Market;", true)
  | 1 => ("ElevenPaces$Stall", "isAlone", "[Z", true)
  | 2 => ("ElevenPaces$Stall", "dearest", "[I", true)
  | 3 => ("ElevenPaces$Stall", "cheapest", "[I", true)
  | 4 => ("ElevenPaces$Stall", "bestSpot", "I", false)
  | _ => ("ElevenPaces$Stall", "mostProfit", "I", false)
def tyX6 : Nat → FieldType := fun k => match k with
  | 0 => .object "ElevenPaces$Market"
  | 1 => .array .boolean
  | 2 => .array .int
  | 3 => .array .int
  | 4 => .int
  | _ => .int
abbrev wsX60 : List Cond := u_ws RX6 TX6 6
theorem nmX6 : ∀ a, a < 6 → ∀ b, b < 6 → a ≠ b → (TX6 a).2.1 ≠ (TX6 b).2.1 := by decide +kernel
theorem tyX6_ok : ∀ k, k < 6 → parseFieldDescriptor (TX6 k).2.2.1 = some (tyX6 k) := by decide +kernel
abbrev cX6_init : ByteArray := prog_8_method_1_code
def yX6_init : MethodName := ⟨RX6, "<init>", "(LElevenPaces$Market;)V"⟩
abbrev cX6_seek : ByteArray := prog_8_method_2_code
def yX6_seek : MethodName := ⟨RX6, "seek", "()V"⟩
abbrev cX6_profitOn : ByteArray := prog_8_method_3_code
def yX6_profitOn : MethodName := ⟨RX6, "profitOn", "(I)I"⟩
abbrev cX6_ask : ByteArray := prog_8_method_4_code
def yX6_ask : MethodName := ⟨RX6, "ask", "(III)V"⟩
abbrev cX6_margins : ByteArray := prog_8_method_5_code
def yX6_margins : MethodName := ⟨RX6, "margins", "()I"⟩
def RX7 : String := "ElevenPaces$Text"
def TX7 : u_T := fun k => match k with
  | 0 => ("ElevenPaces$Text", "bytes", "[I", true)
  | _ => ("ElevenPaces$Text", "length", "I", false)
def tyX7 : Nat → FieldType := fun k => match k with
  | 0 => .array .int
  | _ => .int
abbrev wsX70 : List Cond := u_ws RX7 TX7 2
theorem nmX7 : ∀ a, a < 2 → ∀ b, b < 2 → a ≠ b → (TX7 a).2.1 ≠ (TX7 b).2.1 := by decide +kernel
theorem tyX7_ok : ∀ k, k < 2 → parseFieldDescriptor (TX7 k).2.2.1 = some (tyX7 k) := by decide +kernel
abbrev cX7_init : ByteArray := prog_9_method_1_code
def yX7_init : MethodName := ⟨RX7, "<init>", "(I)V"⟩
abbrev cX7_length : ByteArray := prog_9_method_2_code
def yX7_length : MethodName := ⟨RX7, "length", "()I"⟩
abbrev cX7_isFull : ByteArray := prog_9_method_3_code
def yX7_isFull : MethodName := ⟨RX7, "isFull", "()Z"⟩
abbrev cX7_add : ByteArray := prog_9_method_4_code
def yX7_add : MethodName := ⟨RX7, "add", "(I)V"⟩
abbrev cX7_clear : ByteArray := prog_9_method_5_code
def yX7_clear : MethodName := ⟨RX7, "clear", "()I"⟩
abbrev cX7_at : ByteArray := prog_9_method_6_code
def yX7_at : MethodName := ⟨RX7, "at", "(I)I"⟩
def RX8 : String := "ElevenPaces$Trial"
def TX8 : u_T := fun k => match k with
  | 0 => ("ElevenPaces$Trial", "market", "LElevenPaces$Market;", true)
  | 1 => ("ElevenPaces$Trial", "spot", "[I", true)
  | 2 => ("ElevenPaces$Trial", "hasDone", "[Z", true)
  | 3 => ("ElevenPaces$Trial", "failed", "I", false)
  | 4 => ("ElevenPaces$Trial", "bargains", "I", false)
  | _ => ("ElevenPaces$Trial", "gained", "I", false)
def tyX8 : Nat → FieldType := fun k => match k with
  | 0 => .object "ElevenPaces$Market"
  | 1 => .array .int
  | 2 => .array .boolean
  | 3 => .int
  | 4 => .int
  | _ => .int
abbrev wsX80 : List Cond := u_ws RX8 TX8 6
theorem nmX8 : ∀ a, a < 6 → ∀ b, b < 6 → a ≠ b → (TX8 a).2.1 ≠ (TX8 b).2.1 := by decide +kernel
theorem tyX8_ok : ∀ k, k < 6 → parseFieldDescriptor (TX8 k).2.2.1 = some (tyX8 k) := by decide +kernel
abbrev cX8_init : ByteArray := prog_10_method_1_code
def yX8_init : MethodName := ⟨RX8, "<init>", "(LElevenPaces$Market;)V"⟩
abbrev cX8_judge : ByteArray := prog_10_method_2_code
def yX8_judge : MethodName := ⟨RX8, "judge", "(LElevenPaces$Fair;)V"⟩
abbrev cX8_result : ByteArray := prog_10_method_3_code
def yX8_result : MethodName := ⟨RX8, "result", "(I)I"⟩
abbrev cX8_moves : ByteArray := prog_10_method_4_code
def yX8_moves : MethodName := ⟨RX8, "moves", "(II)Z"⟩
abbrev cX8_strikes : ByteArray := prog_10_method_5_code
def yX8_strikes : MethodName := ⟨RX8, "strikes", "(II)Z"⟩
def RX9 : String := "ElevenPaces$Walk"
def TX9 : u_T := fun k => match k with
  | 0 => ("ElevenPaces$Walk", "market", "LElevenPaces$Market;", true)
  | 1 => ("ElevenPaces$Walk", "spots", "[I", true)
  | 2 => ("ElevenPaces$Walk", "steps", "[I", true)
  | 3 => ("ElevenPaces$Walk", "queue", "[I", true)
  | _ => ("ElevenPaces$Walk", "queued", "I", false)
def tyX9 : Nat → FieldType := fun k => match k with
  | 0 => .object "ElevenPaces$Market"
  | 1 => .array .int
  | 2 => .array .int
  | 3 => .array .int
  | _ => .int
abbrev wsX90 : List Cond := u_ws RX9 TX9 5
theorem nmX9 : ∀ a, a < 5 → ∀ b, b < 5 → a ≠ b → (TX9 a).2.1 ≠ (TX9 b).2.1 := by decide +kernel
theorem tyX9_ok : ∀ k, k < 5 → parseFieldDescriptor (TX9 k).2.2.1 = some (tyX9 k) := by decide +kernel
abbrev cX9_init : ByteArray := prog_11_method_1_code
def yX9_init : MethodName := ⟨RX9, "<init>", "(LElevenPaces$Market;)V"⟩
abbrev cX9_search : ByteArray := prog_11_method_2_code
def yX9_search : MethodName := ⟨RX9, "search", "(II)I"⟩
abbrev cX9_direction : ByteArray := prog_11_method_3_code
def yX9_direction : MethodName := ⟨RX9, "direction", "(II)I"⟩
abbrev cX9_leastDirection : ByteArray := prog_11_method_4_code
def yX9_leastDirection : MethodName := ⟨RX9, "leastDirection", "(I)I"⟩
abbrev cX9_queueGoals : ByteArray := prog_11_method_5_code
def yX9_queueGoals : MethodName := ⟨RX9, "queueGoals", "(III)V"⟩
abbrev cX9_queueNeighbours : ByteArray := prog_11_method_6_code
def yX9_queueNeighbours : MethodName := ⟨RX9, "queueNeighbours", "(III)V"⟩
abbrev cX9_isOpen : ByteArray := prog_11_method_7_code
def yX9_isOpen : MethodName := ⟨RX9, "isOpen", "(III)Z"⟩
abbrev cX9_enqueue : ByteArray := prog_11_method_8_code
def yX9_enqueue : MethodName := ⟨RX9, "enqueue", "(II)V"⟩
def RX10 : String := "ElevenPaces"
def TX10 : u_T := fun k => match k with
  | 0 => ("ElevenPaces", "peopleText", "LElevenPaces$Text;", true)
  | 1 => ("ElevenPaces", "fairText", "LElevenPaces$Text;", true)
  | 2 => ("ElevenPaces", "crowd", "LElevenPaces$Crowd;", true)
  | 3 => ("ElevenPaces", "market", "LElevenPaces$Market;", true)
  | 4 => ("ElevenPaces", "fair", "LElevenPaces$Fair;", true)
  | 5 => ("ElevenPaces", "trial", "LElevenPaces$Trial;", true)
  | 6 => ("ElevenPaces", "match", "LElevenPaces$Match;", true)
  | 7 => ("ElevenPaces", "walk", "LElevenPaces$Walk;", true)
  | 8 => ("ElevenPaces", "posts", "LElevenPaces$Posts;", true)
  | 9 => ("ElevenPaces", "stall", "LElevenPaces$Stall;", true)
  | 10 => ("ElevenPaces", "sheets", "[LElevenPaces$Sheet;", true)
  | _ => ("ElevenPaces", "latestFinding", "I", false)
def tyX10 : Nat → FieldType := fun k => match k with
  | 0 => .object "ElevenPaces$Text"
  | 1 => .object "ElevenPaces$Text"
  | 2 => .object "ElevenPaces$Crowd"
  | 3 => .object "ElevenPaces$Market"
  | 4 => .object "ElevenPaces$Fair"
  | 5 => .object "ElevenPaces$Trial"
  | 6 => .object "ElevenPaces$Match"
  | 7 => .object "ElevenPaces$Walk"
  | 8 => .object "ElevenPaces$Posts"
  | 9 => .object "ElevenPaces$Stall"
  | 10 => .array (.object "ElevenPaces$Sheet")
  | _ => .int
abbrev wsX100 : List Cond := u_ws RX10 TX10 12
theorem nmX10 : ∀ a, a < 12 → ∀ b, b < 12 → a ≠ b → (TX10 a).2.1 ≠ (TX10 b).2.1 := by decide +kernel
theorem tyX10_ok : ∀ k, k < 12 → parseFieldDescriptor (TX10 k).2.2.1 = some (tyX10 k) := by decide +kernel
abbrev cX10_init : ByteArray := prog_1_method_1_code
def yX10_init : MethodName := ⟨RX10, "<init>", "()V"⟩
abbrev cX10_type : ByteArray := prog_1_method_2_code
def yX10_type : MethodName := ⟨RX10, "type", "(II)I"⟩
abbrev cX10_wipe : ByteArray := prog_1_method_3_code
def yX10_wipe : MethodName := ⟨RX10, "wipe", "(I)I"⟩
abbrev cX10_fault : ByteArray := prog_1_method_4_code
def yX10_fault : MethodName := ⟨RX10, "fault", "(I)I"⟩
abbrev cX10_set : ByteArray := prog_1_method_5_code
def yX10_set : MethodName := ⟨RX10, "set", "(II)I"⟩
abbrev cX10_person : ByteArray := prog_1_method_6_code
def yX10_person : MethodName := ⟨RX10, "person", "(II)I"⟩
abbrev cX10_step : ByteArray := prog_1_method_7_code
def yX10_step : MethodName := ⟨RX10, "step", "(II)I"⟩
abbrev cX10_read : ByteArray := prog_1_method_8_code
def yX10_read : MethodName := ⟨RX10, "read", "(II)I"⟩
abbrev cX10_home : ByteArray := prog_1_method_9_code
def yX10_home : MethodName := ⟨RX10, "home", "()I"⟩
abbrev cX10_away : ByteArray := prog_1_method_10_code
def yX10_away : MethodName := ⟨RX10, "away", "(II)I"⟩
abbrev cX10_binds : ByteArray := prog_1_method_11_code
def yX10_binds : MethodName := ⟨RX10, "binds", "(III)I"⟩
abbrev cX10_pairs : ByteArray := prog_1_method_12_code
def yX10_pairs : MethodName := ⟨RX10, "pairs", "()I"⟩
abbrev cX10_once : ByteArray := prog_1_method_13_code
def yX10_once : MethodName := ⟨RX10, "once", "(I)I"⟩
abbrev cX10_worth : ByteArray := prog_1_method_14_code
def yX10_worth : MethodName := ⟨RX10, "worth", "()I"⟩
abbrev cX10_judged : ByteArray := prog_1_method_15_code
def yX10_judged : MethodName := ⟨RX10, "judged", "(I)I"⟩
abbrev cX10_ends : ByteArray := prog_1_method_16_code
def yX10_ends : MethodName := ⟨RX10, "ends", "(I)I"⟩
abbrev cX10_comes : ByteArray := prog_1_method_17_code
def yX10_comes : MethodName := ⟨RX10, "comes", "(II)I"⟩
abbrev cX10_way : ByteArray := prog_1_method_18_code
def yX10_way : MethodName := ⟨RX10, "way", "(III)I"⟩
abbrev cX10_hinders : ByteArray := prog_1_method_19_code
def yX10_hinders : MethodName := ⟨RX10, "hinders", "(II)I"⟩
abbrev cX10_post : ByteArray := prog_1_method_20_code
def yX10_post : MethodName := ⟨RX10, "post", "(I)I"⟩
abbrev cX10_gone : ByteArray := prog_1_method_21_code
def yX10_gone : MethodName := ⟨RX10, "gone", "()I"⟩
abbrev cX10_sees : ByteArray := prog_1_method_22_code
def yX10_sees : MethodName := ⟨RX10, "sees", "()I"⟩
abbrev cX10_more : ByteArray := prog_1_method_23_code
def yX10_more : MethodName := ⟨RX10, "more", "(I)I"⟩
abbrev cX10_both : ByteArray := prog_1_method_24_code
def yX10_both : MethodName := ⟨RX10, "both", "(III)I"⟩
abbrev cX10_broker : ByteArray := prog_1_method_25_code
def yX10_broker : MethodName := ⟨RX10, "broker", "(I)I"⟩
abbrev cX10_other : ByteArray := prog_1_method_26_code
def yX10_other : MethodName := ⟨RX10, "other", "(III)I"⟩
abbrev cX10_sheet : ByteArray := prog_1_method_27_code
def yX10_sheet : MethodName := ⟨RX10, "sheet", "(III)I"⟩
abbrev cX10_lose : ByteArray := prog_1_method_28_code
def yX10_lose : MethodName := ⟨RX10, "lose", "(I)I"⟩
abbrev cX10_put : ByteArray := prog_1_method_29_code
def yX10_put : MethodName := ⟨RX10, "put", "(IIII)I"⟩
abbrev cX10_get : ByteArray := prog_1_method_30_code
def yX10_get : MethodName := ⟨RX10, "get", "(III)I"⟩
abbrev cX10_copy : ByteArray := prog_1_method_31_code
def yX10_copy : MethodName := ⟨RX10, "copy", "(IIIII)I"⟩
abbrev cX10_write : ByteArray := prog_1_method_32_code
def yX10_write : MethodName := ⟨RX10, "write", "(I)I"⟩
abbrev cX10_count : ByteArray := prog_1_method_33_code
def yX10_count : MethodName := ⟨RX10, "count", "(I)I"⟩
abbrev cX10_digest : ByteArray := prog_1_method_34_code
def yX10_digest : MethodName := ⟨RX10, "digest", "()J"⟩
abbrev cX10_mixedPerson : ByteArray := prog_1_method_35_code
def yX10_mixedPerson : MethodName := ⟨RX10, "mixedPerson", "(JI)J"⟩
abbrev cX10_mixed : ByteArray := prog_1_method_36_code
def yX10_mixed : MethodName := ⟨RX10, "mixed", "(JI)J"⟩
abbrev cX10_found : ByteArray := prog_1_method_37_code
def yX10_found : MethodName := ⟨RX10, "found", "(I)I"⟩
abbrev cX10_textOf : ByteArray := prog_1_method_38_code
def yX10_textOf : MethodName := ⟨RX10, "textOf", "(I)LElevenPaces$Text;"⟩
abbrev cX10_takeIn : ByteArray := prog_1_method_39_code
def yX10_takeIn : MethodName := ⟨RX10, "takeIn", "(I)V"⟩
abbrev cX10_goes : ByteArray := prog_1_method_40_code
def yX10_goes : MethodName := ⟨RX10, "goes", "(II)Z"⟩
abbrev cX10_isPerson : ByteArray := prog_1_method_41_code
def yX10_isPerson : MethodName := ⟨RX10, "isPerson", "(I)Z"⟩
abbrev cX10_areTwo : ByteArray := prog_1_method_42_code
def yX10_areTwo : MethodName := ⟨RX10, "areTwo", "(II)Z"⟩
abbrev cX10_isText : ByteArray := prog_1_method_43_code
def yX10_isText : MethodName := ⟨RX10, "isText", "(I)Z"⟩
abbrev cX10_isDirection : ByteArray := prog_1_method_44_code
def yX10_isDirection : MethodName := ⟨RX10, "isDirection", "(I)Z"⟩
abbrev cX10_isSpot : ByteArray := prog_1_method_45_code
def yX10_isSpot : MethodName := ⟨RX10, "isSpot", "(I)Z"⟩
abbrev cX10_isSheet : ByteArray := prog_1_method_46_code
def yX10_isSheet : MethodName := ⟨RX10, "isSheet", "(I)Z"⟩
abbrev cX10_isForm : ByteArray := prog_1_method_47_code
def yX10_isForm : MethodName := ⟨RX10, "isForm", "(I)Z"⟩
abbrev cX10_between : ByteArray := prog_1_method_48_code
def yX10_between : MethodName := ⟨RX10, "between", "(II)I"⟩
abbrev cX10_neighbour : ByteArray := prog_1_method_49_code
def yX10_neighbour : MethodName := ⟨RX10, "neighbour", "(II)I"⟩
abbrev cX10_figure : ByteArray := prog_1_method_50_code
def yX10_figure : MethodName := ⟨RX10, "figure", "(I)I"⟩
def RX11 : String := "ElevenPacesModel"
def TX11 : u_T := fun k => match k with
  | 0 => ("ElevenPacesModel", "typed", "[I", true)
  | 1 => ("ElevenPacesModel", "texts", "[I", true)
  | 2 => ("ElevenPacesModel", "setting", "[I", true)
  | 3 => ("ElevenPacesModel", "people", "I", false)
  | 4 => ("ElevenPacesModel", "kinds", "[I", true)
  | 5 => ("ElevenPacesModel", "things", "[I", true)
  | 6 => ("ElevenPacesModel", "prices", "[I", true)
  | 7 => ("ElevenPacesModel", "homes", "[I", true)
  | 8 => ("ElevenPacesModel", "spots", "[I", true)
  | 9 => ("ElevenPacesModel", "now", "[I", true)
  | 10 => ("ElevenPacesModel", "parts", "I", false)
  | 11 => ("ElevenPacesModel", "partOne", "[I", true)
  | 12 => ("ElevenPacesModel", "partTwo", "[I", true)
  | 13 => ("ElevenPacesModel", "partDone", "[I", true)
  | 14 => ("ElevenPacesModel", "good", "[I", true)
  | 15 => ("ElevenPacesModel", "with", "[I", true)
  | 16 => ("ElevenPacesModel", "judgedPart", "I", false)
  | 17 => ("ElevenPacesModel", "judgedDone", "I", false)
  | 18 => ("ElevenPacesModel", "judgedWorth", "I", false)
  | 19 => ("ElevenPacesModel", "far", "[I", true)
  | 20 => ("ElevenPacesModel", "queue", "[I", true)
  | 21 => ("ElevenPacesModel", "posts", "I", false)
  | 22 => ("ElevenPacesModel", "post", "[I", true)
  | 23 => ("ElevenPacesModel", "clearOnes", "[I", true)
  | 24 => ("ElevenPacesModel", "greatest", "[I", true)
  | 25 => ("ElevenPacesModel", "least", "[I", true)
  | 26 => ("ElevenPacesModel", "isThere", "[Z", true)
  | 27 => ("ElevenPacesModel", "forms", "[I", true)
  | 28 => ("ElevenPacesModel", "sizes", "[I", true)
  | 29 => ("ElevenPacesModel", "items", "[I", true)
  | 30 => ("ElevenPacesModel", "moved", "[I", true)
  | _ => ("ElevenPacesModel", "finding", "I", false)
def tyX11 : Nat → FieldType := fun k => match k with
  | 0 => .array .int
  | 1 => .array .int
  | 2 => .array .int
  | 3 => .int
  | 4 => .array .int
  | 5 => .array .int
  | 6 => .array .int
  | 7 => .array .int
  | 8 => .array .int
  | 9 => .array .int
  | 10 => .int
  | 11 => .array .int
  | 12 => .array .int
  | 13 => .array .int
  | 14 => .array .int
  | 15 => .array .int
  | 16 => .int
  | 17 => .int
  | 18 => .int
  | 19 => .array .int
  | 20 => .array .int
  | 21 => .int
  | 22 => .array .int
  | 23 => .array .int
  | 24 => .array .int
  | 25 => .array .int
  | 26 => .array .boolean
  | 27 => .array .int
  | 28 => .array .int
  | 29 => .array .int
  | 30 => .array .int
  | _ => .int
abbrev wsX110 : List Cond := u_ws RX11 TX11 32
theorem nmX11 : ∀ a, a < 32 → ∀ b, b < 32 → a ≠ b → (TX11 a).2.1 ≠ (TX11 b).2.1 := by decide +kernel
theorem tyX11_ok : ∀ k, k < 32 → parseFieldDescriptor (TX11 k).2.2.1 = some (tyX11 k) := by decide +kernel
abbrev cX11_init : ByteArray := prog_13_method_1_code
def yX11_init : MethodName := ⟨RX11, "<init>", "()V"⟩
abbrev cX11_in : ByteArray := prog_13_method_3_code
def yX11_in : MethodName := ⟨RX11, "in", "(III)Z"⟩
abbrev cX11_isIn : ByteArray := prog_13_method_4_code
def yX11_isIn : MethodName := ⟨RX11, "isIn", "(II)Z"⟩
abbrev cX11_limit : ByteArray := prog_13_method_5_code
def yX11_limit : MethodName := ⟨RX11, "limit", "(I)I"⟩
abbrev cX11_type : ByteArray := prog_13_method_6_code
def yX11_type : MethodName := ⟨RX11, "type", "(II)I"⟩
abbrev cX11_wipe : ByteArray := prog_13_method_7_code
def yX11_wipe : MethodName := ⟨RX11, "wipe", "(I)I"⟩
abbrev cX11_stands : ByteArray := prog_13_method_8_code
def yX11_stands : MethodName := ⟨RX11, "stands", "()V"⟩
abbrev cX11_byteAt : ByteArray := prog_13_method_9_code
def yX11_byteAt : MethodName := ⟨RX11, "byteAt", "(II)I"⟩
abbrev cX11_isFigure : ByteArray := prog_13_method_10_code
def yX11_isFigure : MethodName := ⟨RX11, "isFigure", "(I)Z"⟩
abbrev cX11_pairAt : ByteArray := prog_13_method_11_code
def yX11_pairAt : MethodName := ⟨RX11, "pairAt", "(I)I"⟩
abbrev cX11_reads : ByteArray := prog_13_method_12_code
def yX11_reads : MethodName := ⟨RX11, "reads", "()I"⟩
abbrev cX11_peopleFault : ByteArray := prog_13_method_13_code
def yX11_peopleFault : MethodName := ⟨RX11, "peopleFault", "()I"⟩
abbrev cX11_peopleNow : ByteArray := prog_13_method_14_code
def yX11_peopleNow : MethodName := ⟨RX11, "peopleNow", "()I"⟩
abbrev cX11_isPerson : ByteArray := prog_13_method_15_code
def yX11_isPerson : MethodName := ⟨RX11, "isPerson", "(I)Z"⟩
abbrev cX11_fairFault : ByteArray := prog_13_method_16_code
def yX11_fairFault : MethodName := ⟨RX11, "fairFault", "()I"⟩
abbrev cX11_faultOf : ByteArray := prog_13_method_17_code
def yX11_faultOf : MethodName := ⟨RX11, "faultOf", "(I)I"⟩
abbrev cX11_fault : ByteArray := prog_13_method_18_code
def yX11_fault : MethodName := ⟨RX11, "fault", "(I)I"⟩
abbrev cX11_set : ByteArray := prog_13_method_19_code
def yX11_set : MethodName := ⟨RX11, "set", "(II)I"⟩
abbrev cX11_personOf : ByteArray := prog_13_method_20_code
def yX11_personOf : MethodName := ⟨RX11, "personOf", "(II)I"⟩
abbrev cX11_person : ByteArray := prog_13_method_21_code
def yX11_person : MethodName := ⟨RX11, "person", "(II)I"⟩
abbrev cX11_awayBy : ByteArray := prog_13_method_22_code
def yX11_awayBy : MethodName := ⟨RX11, "awayBy", "(II)I"⟩
abbrev cX11_stepTo : ByteArray := prog_13_method_23_code
def yX11_stepTo : MethodName := ⟨RX11, "stepTo", "(II)I"⟩
abbrev cX11_isFree : ByteArray := prog_13_method_24_code
def yX11_isFree : MethodName := ⟨RX11, "isFree", "(II)Z"⟩
abbrev cX11_lays : ByteArray := prog_13_method_25_code
def yX11_lays : MethodName := ⟨RX11, "lays", "()V"⟩
abbrev cX11_steps : ByteArray := prog_13_method_26_code
def yX11_steps : MethodName := ⟨RX11, "steps", "(II)Z"⟩
abbrev cX11_step : ByteArray := prog_13_method_27_code
def yX11_step : MethodName := ⟨RX11, "step", "(II)I"⟩
abbrev cX11_read : ByteArray := prog_13_method_28_code
def yX11_read : MethodName := ⟨RX11, "read", "(II)I"⟩
abbrev cX11_home : ByteArray := prog_13_method_29_code
def yX11_home : MethodName := ⟨RX11, "home", "()I"⟩
abbrev cX11_away : ByteArray := prog_13_method_30_code
def yX11_away : MethodName := ⟨RX11, "away", "(II)I"⟩
abbrev cX11_nearer : ByteArray := prog_13_method_31_code
def yX11_nearer : MethodName := ⟨RX11, "nearer", "(III)I"⟩
abbrev cX11_buyer : ByteArray := prog_13_method_32_code
def yX11_buyer : MethodName := ⟨RX11, "buyer", "(II)I"⟩
abbrev cX11_worthOf : ByteArray := prog_13_method_33_code
def yX11_worthOf : MethodName := ⟨RX11, "worthOf", "(II)I"⟩
abbrev cX11_bindsBy : ByteArray := prog_13_method_34_code
def yX11_bindsBy : MethodName := ⟨RX11, "bindsBy", "(IIII)I"⟩
abbrev cX11_isBound : ByteArray := prog_13_method_35_code
def yX11_isBound : MethodName := ⟨RX11, "isBound", "(II)Z"⟩
abbrev cX11_areTwo : ByteArray := prog_13_method_36_code
def yX11_areTwo : MethodName := ⟨RX11, "areTwo", "(II)Z"⟩
abbrev cX11_binds : ByteArray := prog_13_method_37_code
def yX11_binds : MethodName := ⟨RX11, "binds", "(III)I"⟩
abbrev cX11_pairsBy : ByteArray := prog_13_method_38_code
def yX11_pairsBy : MethodName := ⟨RX11, "pairsBy", "(I)I"⟩
abbrev cX11_pairsNow : ByteArray := prog_13_method_39_code
def yX11_pairsNow : MethodName := ⟨RX11, "pairsNow", "()I"⟩
abbrev cX11_pairs : ByteArray := prog_13_method_40_code
def yX11_pairs : MethodName := ⟨RX11, "pairs", "()I"⟩
abbrev cX11_laysOnce : ByteArray := prog_13_method_41_code
def yX11_laysOnce : MethodName := ⟨RX11, "laysOnce", "()V"⟩
abbrev cX11_onceOf : ByteArray := prog_13_method_42_code
def yX11_onceOf : MethodName := ⟨RX11, "onceOf", "(I)I"⟩
abbrev cX11_once : ByteArray := prog_13_method_43_code
def yX11_once : MethodName := ⟨RX11, "once", "(I)I"⟩
abbrev cX11_worthNow : ByteArray := prog_13_method_44_code
def yX11_worthNow : MethodName := ⟨RX11, "worthNow", "()I"⟩
abbrev cX11_worth : ByteArray := prog_13_method_45_code
def yX11_worth : MethodName := ⟨RX11, "worth", "()I"⟩
abbrev cX11_judges : ByteArray := prog_13_method_46_code
def yX11_judges : MethodName := ⟨RX11, "judges", "()V"⟩
abbrev cX11_judgedOf : ByteArray := prog_13_method_47_code
def yX11_judgedOf : MethodName := ⟨RX11, "judgedOf", "(I)I"⟩
abbrev cX11_judged : ByteArray := prog_13_method_48_code
def yX11_judged : MethodName := ⟨RX11, "judged", "(I)I"⟩
abbrev cX11_endsOf : ByteArray := prog_13_method_49_code
def yX11_endsOf : MethodName := ⟨RX11, "endsOf", "(I)I"⟩
abbrev cX11_ends : ByteArray := prog_13_method_50_code
def yX11_ends : MethodName := ⟨RX11, "ends", "(I)I"⟩
abbrev cX11_laysFar : ByteArray := prog_13_method_51_code
def yX11_laysFar : MethodName := ⟨RX11, "laysFar", "(II)V"⟩
abbrev cX11_comesOf : ByteArray := prog_13_method_52_code
def yX11_comesOf : MethodName := ⟨RX11, "comesOf", "(II)I"⟩
abbrev cX11_comes : ByteArray := prog_13_method_53_code
def yX11_comes : MethodName := ⟨RX11, "comes", "(II)I"⟩
abbrev cX11_way : ByteArray := prog_13_method_54_code
def yX11_way : MethodName := ⟨RX11, "way", "(III)I"⟩
abbrev cX11_hindersOf : ByteArray := prog_13_method_55_code
def yX11_hindersOf : MethodName := ⟨RX11, "hindersOf", "(II)I"⟩
abbrev cX11_hinders : ByteArray := prog_13_method_56_code
def yX11_hinders : MethodName := ⟨RX11, "hinders", "(II)I"⟩
abbrev cX11_post : ByteArray := prog_13_method_57_code
def yX11_post : MethodName := ⟨RX11, "post", "(I)I"⟩
abbrev cX11_gone : ByteArray := prog_13_method_58_code
def yX11_gone : MethodName := ⟨RX11, "gone", "()I"⟩
abbrev cX11_isDue : ByteArray := prog_13_method_59_code
def yX11_isDue : MethodName := ⟨RX11, "isDue", "(II)Z"⟩
abbrev cX11_seesNow : ByteArray := prog_13_method_60_code
def yX11_seesNow : MethodName := ⟨RX11, "seesNow", "()I"⟩
abbrev cX11_sees : ByteArray := prog_13_method_61_code
def yX11_sees : MethodName := ⟨RX11, "sees", "()I"⟩
abbrev cX11_moreOf : ByteArray := prog_13_method_62_code
def yX11_moreOf : MethodName := ⟨RX11, "moreOf", "(I)I"⟩
abbrev cX11_more : ByteArray := prog_13_method_63_code
def yX11_more : MethodName := ⟨RX11, "more", "(I)I"⟩
abbrev cX11_both : ByteArray := prog_13_method_64_code
def yX11_both : MethodName := ⟨RX11, "both", "(III)I"⟩
abbrev cX11_brokes : ByteArray := prog_13_method_65_code
def yX11_brokes : MethodName := ⟨RX11, "brokes", "(I)I"⟩
abbrev cX11_brokerOf : ByteArray := prog_13_method_66_code
def yX11_brokerOf : MethodName := ⟨RX11, "brokerOf", "(I)I"⟩
abbrev cX11_broker : ByteArray := prog_13_method_67_code
def yX11_broker : MethodName := ⟨RX11, "broker", "(I)I"⟩
abbrev cX11_otherOf : ByteArray := prog_13_method_68_code
def yX11_otherOf : MethodName := ⟨RX11, "otherOf", "(III)I"⟩
abbrev cX11_other : ByteArray := prog_13_method_69_code
def yX11_other : MethodName := ⟨RX11, "other", "(III)I"⟩
abbrev cX11_meets : ByteArray := prog_13_method_70_code
def yX11_meets : MethodName := ⟨RX11, "meets", "(I)I"⟩
abbrev cX11_isSheet : ByteArray := prog_13_method_71_code
def yX11_isSheet : MethodName := ⟨RX11, "isSheet", "(I)Z"⟩
abbrev cX11_sheet : ByteArray := prog_13_method_72_code
def yX11_sheet : MethodName := ⟨RX11, "sheet", "(III)I"⟩
abbrev cX11_lose : ByteArray := prog_13_method_73_code
def yX11_lose : MethodName := ⟨RX11, "lose", "(I)I"⟩
abbrev cX11_lacks : ByteArray := prog_13_method_74_code
def yX11_lacks : MethodName := ⟨RX11, "lacks", "(III)I"⟩
abbrev cX11_keep : ByteArray := prog_13_method_75_code
def yX11_keep : MethodName := ⟨RX11, "keep", "(III)V"⟩
abbrev cX11_put : ByteArray := prog_13_method_76_code
def yX11_put : MethodName := ⟨RX11, "put", "(IIII)I"⟩
abbrev cX11_get : ByteArray := prog_13_method_77_code
def yX11_get : MethodName := ⟨RX11, "get", "(III)I"⟩
abbrev cX11_copy : ByteArray := prog_13_method_78_code
def yX11_copy : MethodName := ⟨RX11, "copy", "(IIIII)I"⟩
abbrev cX11_write : ByteArray := prog_13_method_79_code
def yX11_write : MethodName := ⟨RX11, "write", "(I)I"⟩
abbrev cX11_partsNow : ByteArray := prog_13_method_80_code
def yX11_partsNow : MethodName := ⟨RX11, "partsNow", "()I"⟩
abbrev cX11_count : ByteArray := prog_13_method_81_code
def yX11_count : MethodName := ⟨RX11, "count", "(I)I"⟩
abbrev cX11_digest : ByteArray := prog_13_method_82_code
def yX11_digest : MethodName := ⟨RX11, "digest", "()J"⟩
def RJ9 : String := "java/lang/Math"
def TJ9 : u_T := fun k => match k with
  | _ => ("", "", "", false)
def tyJ9 : Nat → FieldType := fun k => match k with
  | _ => .int
abbrev wsJ90 : List Cond := u_ws RJ9 TJ9 0
theorem nmJ9 : ∀ a, a < 0 → ∀ b, b < 0 → a ≠ b → (TJ9 a).2.1 ≠ (TJ9 b).2.1 := by decide +kernel
theorem tyJ9_ok : ∀ k, k < 0 → parseFieldDescriptor (TJ9 k).2.2.1 = some (tyJ9 k) := by decide +kernel
abbrev cJ9_max_7cf53 : ByteArray := prog_14_method_65_code
def yJ9_max_7cf53 : MethodName := ⟨RJ9, "max", "(II)I"⟩
abbrev cJ9_min_7cf53 : ByteArray := prog_14_method_69_code
def yJ9_min_7cf53 : MethodName := ⟨RJ9, "min", "(II)I"⟩
def RJ10 : String := "java/lang/System"
def TJ10 : u_T := fun k => match k with
  | _ => ("", "", "", false)
def tyJ10 : Nat → FieldType := fun k => match k with
  | _ => .int
abbrev wsJ100 : List Cond := u_ws RJ10 TJ10 0
theorem nmJ10 : ∀ a, a < 0 → ∀ b, b < 0 → a ≠ b → (TJ10 a).2.1 ≠ (TJ10 b).2.1 := by decide +kernel
theorem tyJ10_ok : ∀ k, k < 0 → parseFieldDescriptor (TJ10 k).2.2.1 = some (tyJ10 k) := by decide +kernel
def RJ7 : String := "java/util/Arrays"
def TJ7 : u_T := fun k => match k with
  | _ => ("", "", "", false)
def tyJ7 : Nat → FieldType := fun k => match k with
  | _ => .int
abbrev wsJ70 : List Cond := u_ws RJ7 TJ7 0
theorem nmJ7 : ∀ a, a < 0 → ∀ b, b < 0 → a ≠ b → (TJ7 a).2.1 ≠ (TJ7 b).2.1 := by decide +kernel
theorem tyJ7_ok : ∀ k, k < 0 → parseFieldDescriptor (TJ7 k).2.2.1 = some (tyJ7 k) := by decide +kernel
abbrev cJ7_fill_53178 : ByteArray := prog_16_method_103_code
def yJ7_fill_53178 : MethodName := ⟨RJ7, "fill", "([II)V"⟩
def RL : String := "ElevenPacesLaw"
abbrev cL_law : ByteArray := code
def yL_law : MethodName := ⟨RL, "law", "([I)Z"⟩
abbrev vwCl : List vw_C := [(RX0, TX0, 7), (RX1, TX1, 5), (RX2, TX2, 2), (RX3, TX3, 6), (RX4, TX4, 2), (RX5, TX5, 4), (RX6, TX6, 6), (RX7, TX7, 2), (RX8, TX8, 6), (RX9, TX9, 5), (RX10, TX10, 12), (RX11, TX11, 32)]
end
section
/-! The abstract machine: values, places, shapes; what relates them to the model's heap. -/
def lw_good : List Cond := lw_tbl.filter goodWord
def isNestW : Cond → Bool
  | .fieldLinkNest .. => true
  | .methodLinkNest .. => true
  | _ => false
def lw_nest : List Cond := lw_tbl.filter isNestW
theorem lw_good_in {w : Cond} (h : w ∈ lw_good) : w ∈ lw_tbl ∧ goodWord w = true := List.mem_filter.mp h
/-- class number, name, bytes, locals, result -/
abbrev MTy : Type := Nat × MethodName × ByteArray × Nat × Option FieldType
def WM (M : MTy) : List Cond := .code M.2.1 M.2.2.1 M.2.2.2.1 M.2.2.2.2 :: lw_good
abbrev EE : Type := Launch × va_G × Nat × (Nat → Nat) × (FieldType → ClassId)
abbrev Shp : Type := Nat ⊕ (FieldType × Nat)
abbrev GG : Type := Nat → Nat → Value
def ad (E : EE) (k : Nat) : Nat := if k < 5 then E.2.2.2.1 k else E.2.2.1 + (k - 5)
def rv (E : EE) : Value → Value
  | .ref k => .ref (ad E k)
  | v => v
theorem rv_cat (E : EE) (v : Value) : (rv E v).category = v.category := by cases v <;> rfl
theorem ad_hi (E : EE) {k : Nat} (h : 5 ≤ k) : ad E k = E.2.2.1 + (k - 5) := by unfold ad; rw [if_neg (by omega)]
theorem ad_inj (E : EE) {k j : Nat} (h : 5 ≤ k) (h2 : 5 ≤ j) (e : ad E k = ad E j) : k = j := by rw [ad_hi E h, ad_hi E h2] at e; omega
def fr (E : EE) : Nat → Prop := fun q => E.2.2.1 ≤ q
def tysE (E : EE) : List (ClassId × FieldType) := [(E.2.2.2.2 .int, .int), (E.2.2.2.2 .boolean, .boolean), (E.2.2.2.2 (.object RX5), .object RX5)]
def Env2 (E : EE) (U : State) : Prop := va_K E.2.1 vwCl (tysE E) U ∧ (∀ w ∈ lw_nest, va_Nw w U) ∧ va_AO RX5 U
def Rcls (n : Nat) : String := [RX0, RX1, RX2, RX3, RX4, RX5, RX6, RX7, RX8, RX9, RX10, RX11, RL, RJ9, RJ10, RJ7].getD n ""
def stn (k : Nat) : String := ["", "EAST", "SOUTH", "LEAST_SETTING", "MOST_SETTING"].getD k ""
def cellR (E : EE) (k : Nat) (x : Shp) (g : Nat → Value) (H : Heap) : Prop := match x with
  | .inl ci => ∃ r : vw_C, vwCl[ci]? = some r ∧ t_OB (ad E k) (E.2.1.1 ci) r.2.2 (E.2.1.2 ci) H (fun j => rv E (g j))
  | .inr a => H[ad E k]? = some (arrV (E.2.2.2.2 a.1) a.2 (fun j => rv E (g j)))
def HR (E : EE) (sh : List Shp) (G : GG) (U : State) (H : Heap) : Prop :=
  (5 ≤ sh.length ∧ H.size = E.2.2.1 + (sh.length - 5)) ∧
  (∀ (k : Nat) (x : Shp), 5 ≤ k → sh[k]? = some x → cellR E k x (G k) H) ∧
  (∀ k : Nat, k < 5 → ∃ n : Nat, sh[k]? = some (.inr (.int, n)) ∧ va_T .int (ad E k) n (fun j => rv E (G k j)) (fr E) U H) ∧
  (∀ k : Nat, 1 ≤ k → k < 5 → va_Z RX10 (stn k) "[I" (.ref (ad E k)) (fr E) U H)
theorem cellR.kept {E : EE} {k : Nat} {x : Shp} {g : Nat → Value} {H H1 : Heap} (h : cellR E k x g H) (hq : H1[ad E k]? = H[ad E k]?) : cellR E k x g H1 := by
  cases x with
  | inl ci =>
    obtain ⟨r, h1, h2⟩ := h
    exact ⟨r, h1, h2.kept hq⟩
  | inr a => exact hq.trans h
theorem cellR.lt {E : EE} {k : Nat} {x : Shp} {g : Nat → Value} {H : Heap} (h : cellR E k x g H) : ad E k < H.size := by
  cases x with
  | inl ci =>
    obtain ⟨r, h1, cell, h2, -⟩ := h
    exact (Array.getElem?_eq_some_iff.mp h2).1
  | inr a => exact (Array.getElem?_eq_some_iff.mp h).1
theorem HR.moved {E : EE} {sh : List Shp} {G : GG} {u U : State} {H : Heap} (hvm : u.vm.Alike U.vm) (h : HR E sh G u H) : HR E sh G U H := by
  obtain ⟨h1, h2, h3, h4⟩ := h
  refine ⟨h1, h2, fun k hk => ?_, fun k h5 h6 => (h4 k h5 h6).moved hvm⟩
  obtain ⟨n, a, b⟩ := h3 k hk
  exact ⟨n, a, b.moved hvm⟩
theorem Env2.warm {E : EE} {s U : State} (hW : s.WarmedH U.vm) (h : Env2 E s) : Env2 E U := by
  refine ⟨h.1.moved hW.alike, fun w hw => ?_, va_AO.moved hW.alike h.2.2⟩
  have h0 := h.2.1 w hw
  have hn := (List.mem_filter.mp hw).2
  cases w <;> first | (simp [isNestW] at hn; done) | exact va_Nw.warmF hW h0 | exact va_Nw.warmM hW h0
theorem Env2.same {E : EE} {s U : State} (hv : s.vm = U.vm) (h : Env2 E s) : Env2 E U := by
  have ha : s.vm.Alike U.vm := by rw [← hv]; exact Vm.Alike.refl _
  refine ⟨h.1.moved ha, fun w hw => ?_, va_AO.moved ha h.2.2⟩
  have h0 := h.2.1 w hw
  have hn := (List.mem_filter.mp hw).2
  cases w <;> first | (simp [isNestW] at hn; done) | exact va_Nw.same rfl hv h0
def up2 {α : Type} (G : Nat → Nat → α) (k j : Nat) (v : α) : Nat → Nat → α := fun a b => if a = k then (if b = j then v else G a b) else G a b
/-- one cell written anew, at a place of ours -/
theorem HR.put {E : EE} {sh : List Shp} {G G' : GG} {U : State} {H H1 : Heap} {k : Nat} (h : HR E sh G U H) (hk : 5 ≤ k) (hz : H1.size = H.size) (oq : ∀ q : Nat, q ≠ ad E k → H1[q]? = H[q]?)
    (hG : ∀ a, a ≠ k → G' a = G a) (hc : ∀ x, sh[k]? = some x → cellR E k x (G' k) H1) : HR E sh G' U H1 := by
  obtain ⟨h1, h2, h3, h4⟩ := h
  have hout : ∀ a : Nat, a < H.size → ¬ fr E a → H1[a]? = H[a]? := fun a _ hn => oq a (fun e => hn (by rw [e, ad_hi E hk]; exact Nat.le_add_right _ _))
  refine ⟨⟨h1.1, by rw [hz]; exact h1.2⟩, fun a x ha hx => ?_, fun a ha => ?_, fun a h5 h6 => (h4 a h5 h6).kept hout⟩
  · by_cases e : a = k
    · subst e
      exact hc x hx
    · rw [hG a e]
      exact (h2 a x ha hx).kept (oq _ (fun z => e (ad_inj E ha hk z)))
  · obtain ⟨n, a1, b1⟩ := h3 a ha
    refine ⟨n, a1, ?_⟩
    rw [hG a (by omega)]
    exact b1.kept hout
/-- one cell more -/
theorem HR.push {E : EE} {sh : List Shp} {G G' : GG} {U : State} {H H1 : Heap} {x : Shp} (h : HR E sh G U H) (hz : H1.size = H.size + 1) (oq : ∀ q : Nat, q < H.size → H1[q]? = H[q]?)
    (hG : ∀ a, a ≠ sh.length → G' a = G a) (hc : cellR E sh.length x (G' sh.length) H1) : HR E (sh ++ [x]) G' U H1 := by
  obtain ⟨h1, h2, h3, h4⟩ := h
  have hout : ∀ a : Nat, a < H.size → ¬ fr E a → H1[a]? = H[a]? := fun a ha _ => oq a ha
  refine ⟨⟨by simp; omega, by rw [hz, h1.2]; simp; omega⟩, fun a y ha hy => ?_, fun a ha => ?_, fun a h5 h6 => (h4 a h5 h6).kept hout⟩
  · by_cases e : a < sh.length
    · rw [List.getElem?_append_left e] at hy
      rw [hG a (by omega)]
      have hc2 := h2 a y ha hy
      exact hc2.kept (oq _ hc2.lt)
    · rw [List.getElem?_append_right (by omega)] at hy
      have hz2 : a - sh.length < 1 := (List.getElem?_eq_some_iff.mp hy).1
      have e2 : a = sh.length := by omega
      subst e2
      rw [Nat.sub_self] at hy
      cases hy
      exact hc
  · obtain ⟨n, a1, b1⟩ := h3 a ha
    have hl : a < sh.length := (List.getElem?_eq_some_iff.mp a1).1
    refine ⟨n, by rw [List.getElem?_append_left hl]; exact a1, ?_⟩
    rw [hG a (by omega)]
    exact b1.kept hout
/-! locals -/
def lget : List (Option Value) → Nat → Option Value
  | [], _ => none
  | o :: _, 0 => o
  | _ :: t, n + 1 => lget t n
def lset : List (Option Value) → Nat → Option Value → List (Option Value)
  | [], _, _ => []
  | _ :: t, 0, v => v :: t
  | h :: t, n + 1, v => h :: lset t n v
def kill2 (ls : List (Option Value)) (i : Nat) : List (Option Value) := match i with
  | 0 => ls
  | j + 1 => match lget ls j with
    | some v => if v.category = 2 then lset ls j none else ls
    | none => ls
def set1 (ls : List (Option Value)) (i : Nat) (v : Value) : List (Option Value) := lset (kill2 ls i) i (some v)
def set2 (ls : List (Option Value)) (i : Nat) (v : Value) : List (Option Value) := lset (lset (kill2 ls i) i (some v)) (i + 1) none
theorem lget_lset : ∀ (ls : List (Option Value)) (i j : Nat) (o : Option Value) (v : Value), lget (lset ls i o) j = some v → (j = i ∧ o = some v) ∨ (j ≠ i ∧ lget ls j = some v)
  | [], i, j, o, v, h => by simp [lset, lget] at h
  | a :: t, 0, 0, o, v, h => Or.inl ⟨rfl, h⟩
  | a :: t, 0, j + 1, o, v, h => Or.inr ⟨by omega, h⟩
  | a :: t, i + 1, 0, o, v, h => Or.inr ⟨by omega, h⟩
  | a :: t, i + 1, j + 1, o, v, h => by
    rcases lget_lset t i j o v h with ⟨h1, h2⟩ | ⟨h1, h2⟩
    · exact Or.inl ⟨by omega, h2⟩
    · exact Or.inr ⟨by omega, h2⟩
def lst (E : EE) : Nat → List (Option Value) → List (Nat × Value)
  | _, [] => []
  | i, none :: t => lst E (i + 1) t
  | i, some v :: t => (i, rv E v) :: lst E (i + 1) t
theorem lst_mem (E : EE) : ∀ (ls : List (Option Value)) (i : Nat) (q : Nat × Value), q ∈ lst E i ls ↔ ∃ j v, lget ls j = some v ∧ q = (i + j, rv E v)
  | [], i, q => by simp [lst, lget]
  | none :: t, i, q => by
    rw [show lst E i (none :: t) = lst E (i + 1) t from rfl, lst_mem E t (i + 1) q]
    constructor
    · rintro ⟨j, v, h1, h2⟩
      exact ⟨j + 1, v, h1, by rw [h2]; congr 1; omega⟩
    · rintro ⟨j, v, h1, h2⟩
      cases j with
      | zero => simp [lget] at h1
      | succ j => exact ⟨j, v, h1, by rw [h2]; congr 1; omega⟩
  | some w :: t, i, q => by
    rw [show lst E i (some w :: t) = (i, rv E w) :: lst E (i + 1) t from rfl, List.mem_cons, lst_mem E t (i + 1) q]
    constructor
    · rintro (h | ⟨j, v, h1, h2⟩)
      · exact ⟨0, w, rfl, h⟩
      · exact ⟨j + 1, v, h1, by rw [h2]; congr 1; omega⟩
    · rintro ⟨j, v, h1, h2⟩
      cases j with
      | zero => simp [lget] at h1; subst h1; exact Or.inl h2
      | succ j => exact Or.inr ⟨j, v, h1, by rw [h2]; congr 1; omega⟩
def lvr (E : EE) (n : Nat) (ls : List (Option Value)) (la : Array Slot) : Prop := lv_has la n (lst E 0 ls)
theorem lvr.at {E : EE} {n : Nat} {ls : List (Option Value)} {la : Array Slot} (h : lvr E n ls la) {i : Nat} {v : Value} (hv : lget ls i = some v) : la[i]? = some (.val (rv E v)) :=
  h.2.2 (i, rv E v) ((lst_mem E ls 0 _).mpr ⟨i, v, hv, by rw [Nat.zero_add]⟩)
theorem lvr.sub {E : EE} {n : Nat} {ls : List (Option Value)} {la : Array Slot} {l : List (Nat × Value)} (h : lv_has la n l) (hs : ∀ j v, lget ls j = some v → (j, rv E v) ∈ l) : lvr E n ls la := by
  refine ⟨h.1, h.2.1, fun q hq => ?_⟩
  obtain ⟨j, v, h1, rfl⟩ := (lst_mem E ls 0 q).mp hq
  rw [Nat.zero_add]
  exact h.2.2 _ (hs j v h1)
theorem kill2_get {ls : List (Option Value)} {i j : Nat} {v : Value} (h : lget (kill2 ls i) j = some v) : lget ls j = some v ∧ ¬ (j + 1 = i ∧ v.category = 2) := by
  unfold kill2 at h
  cases i with
  | zero => exact ⟨h, by omega⟩
  | succ k =>
    simp only at h
    split at h
    · rename_i w hw
      split at h
      · rename_i hc
        rcases lget_lset _ _ _ _ _ h with ⟨h1, h2⟩ | ⟨h1, h2⟩
        · cases h2
        · exact ⟨h2, by omega⟩
      · rename_i hc
        refine ⟨h, ?_⟩
        rintro ⟨e, e2⟩
        have : j = k := by omega
        subst this
        rw [hw] at h
        cases h
        exact hc e2
    · rename_i hw
      refine ⟨h, ?_⟩
      rintro ⟨e, e2⟩
      have : j = k := by omega
      subst this
      rw [hw] at h
      cases h
theorem set1_sub {E : EE} {ls : List (Option Value)} {i : Nat} {v : Value} : ∀ j w, lget (set1 ls i v) j = some w → (j, rv E w) ∈ ((i, rv E v) :: (lst E 0 ls).filter (fun q => !(q.1 == i) && !(q.1 + 1 == i && q.2.category == 2))) := by
  intro j w h
  rcases lget_lset _ _ _ _ _ h with ⟨h1, h2⟩ | ⟨h1, h2⟩
  · cases h2; subst h1; exact List.mem_cons_self
  · obtain ⟨h3, h4⟩ := kill2_get h2
    refine List.mem_cons_of_mem _ (List.mem_filter.mpr ⟨(lst_mem E ls 0 _).mpr ⟨j, w, h3, by rw [Nat.zero_add]⟩, ?_⟩)
    simp only [Bool.and_eq_true, Bool.not_eq_true', beq_eq_false_iff_ne, ne_eq, Bool.and_eq_false_iff, rv_cat]
    exact ⟨h1, by by_cases e : j + 1 = i; exact Or.inr (fun z => h4 ⟨e, z⟩); exact Or.inl e⟩
theorem set2_sub {E : EE} {ls : List (Option Value)} {i : Nat} {v : Value} : ∀ j w, lget (set2 ls i v) j = some w → (j, rv E w) ∈ ((i, rv E v) :: (lst E 0 ls).filter (fun q => !(q.1 == i) && (!(q.1 == i + 1) && !(q.1 + 1 == i && q.2.category == 2)))) := by
  intro j w h
  rcases lget_lset _ _ _ _ _ h with ⟨h1, h2⟩ | ⟨h0, h⟩
  · cases h2
  rcases lget_lset _ _ _ _ _ h with ⟨h1, h2⟩ | ⟨h1, h2⟩
  · cases h2; subst h1; exact List.mem_cons_self
  · obtain ⟨h3, h4⟩ := kill2_get h2
    refine List.mem_cons_of_mem _ (List.mem_filter.mpr ⟨(lst_mem E ls 0 _).mpr ⟨j, w, h3, by rw [Nat.zero_add]⟩, ?_⟩)
    simp only [Bool.and_eq_true, Bool.not_eq_true', beq_eq_false_iff_ne, ne_eq, Bool.and_eq_false_iff, rv_cat]
    exact ⟨h1, h0, by by_cases e : j + 1 = i; exact Or.inr (fun z => h4 ⟨e, z⟩); exact Or.inl e⟩
/-- locals at the entry -/
def entL : List Value → Nat → List (Option Value)
  | [], n => List.replicate n none
  | v :: t, n => if v.category = 2 then some v :: none :: entL t (n - 2) else some v :: entL t (n - 1)
end
