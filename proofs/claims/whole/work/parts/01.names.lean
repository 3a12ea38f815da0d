-- ===== PART A: goes FIRST, ahead of the names: the tables' words, and 'selects' of the private methods out of them =====
/-- a private method of a class that the tables say can be made, by its rows of tables_1 -/
def lw_okq (q : MethodName × Nat) : Prop := (q.1.cls ≠ "java/lang/invoke/MethodHandle" ∧ q.1.cls ≠ "java/lang/invoke/VarHandle") ∧ Cond.instantiable q.1.cls q.2 ∈ tables_1 ∧ Cond.privateMethod q.1 ∈ tables_1 ∧ Cond.instanceMethod q.1 ∈ tables_1
theorem lw_p0 : lw_okq (⟨"HandTown", "error", "(I)I"⟩, 8) := ⟨⟨by decide +kernel, by decide +kernel⟩, List.mem_of_getElem? (i := 18) (by decide +kernel), List.mem_of_getElem? (i := 263) (by decide +kernel), List.mem_of_getElem? (i := 264) (by decide +kernel)⟩
theorem lw_p1 : lw_okq (⟨"HandTown$Walk", "begin", "(I)V"⟩, 6) := ⟨⟨by decide +kernel, by decide +kernel⟩, List.mem_of_getElem? (i := 157) (by decide +kernel), List.mem_of_getElem? (i := 384) (by decide +kernel), List.mem_of_getElem? (i := 385) (by decide +kernel)⟩
theorem lw_p2 : lw_okq (⟨"HandTown$Walk", "spread", "(I)I"⟩, 6) := ⟨⟨by decide +kernel, by decide +kernel⟩, List.mem_of_getElem? (i := 157) (by decide +kernel), List.mem_of_getElem? (i := 393) (by decide +kernel), List.mem_of_getElem? (i := 394) (by decide +kernel)⟩
theorem lw_p3 : lw_okq (⟨"HandTown$Walk", "lookAt", "(II)V"⟩, 6) := ⟨⟨by decide +kernel, by decide +kernel⟩, List.mem_of_getElem? (i := 157) (by decide +kernel), List.mem_of_getElem? (i := 400) (by decide +kernel), List.mem_of_getElem? (i := 401) (by decide +kernel)⟩
theorem lw_p4 : lw_okq (⟨"HandTown$Walk", "step", "(I)I"⟩, 6) := ⟨⟨by decide +kernel, by decide +kernel⟩, List.mem_of_getElem? (i := 157) (by decide +kernel), List.mem_of_getElem? (i := 407) (by decide +kernel), List.mem_of_getElem? (i := 408) (by decide +kernel)⟩
theorem lw_p5 : lw_okq (⟨"HandTown$Walk", "waysFrom", "(I)I"⟩, 6) := ⟨⟨by decide +kernel, by decide +kernel⟩, List.mem_of_getElem? (i := 157) (by decide +kernel), List.mem_of_getElem? (i := 411) (by decide +kernel), List.mem_of_getElem? (i := 412) (by decide +kernel)⟩
theorem lw_p6 : lw_okq (⟨"HandTown$Reader", "readPart", "(II)Z"⟩, 5) := ⟨⟨by decide +kernel, by decide +kernel⟩, List.mem_of_getElem? (i := 132) (by decide +kernel), List.mem_of_getElem? (i := 466) (by decide +kernel), List.mem_of_getElem? (i := 467) (by decide +kernel)⟩
theorem lw_p7 : lw_okq (⟨"HandTown$Reader", "readSide", "(II)Z"⟩, 5) := ⟨⟨by decide +kernel, by decide +kernel⟩, List.mem_of_getElem? (i := 132) (by decide +kernel), List.mem_of_getElem? (i := 470) (by decide +kernel), List.mem_of_getElem? (i := 471) (by decide +kernel)⟩
theorem lw_p8 : lw_okq (⟨"HandTown$Reader", "readSingle", "(I)Z"⟩, 5) := ⟨⟨by decide +kernel, by decide +kernel⟩, List.mem_of_getElem? (i := 132) (by decide +kernel), List.mem_of_getElem? (i := 474) (by decide +kernel), List.mem_of_getElem? (i := 475) (by decide +kernel)⟩
theorem lw_p9 : lw_okq (⟨"HandTown$Reader", "next", "()I"⟩, 5) := ⟨⟨by decide +kernel, by decide +kernel⟩, List.mem_of_getElem? (i := 132) (by decide +kernel), List.mem_of_getElem? (i := 478) (by decide +kernel), List.mem_of_getElem? (i := 479) (by decide +kernel)⟩
theorem lw_p10 : lw_okq (⟨"HandTown$Reader", "readNumber", "()V"⟩, 5) := ⟨⟨by decide +kernel, by decide +kernel⟩, List.mem_of_getElem? (i := 132) (by decide +kernel), List.mem_of_getElem? (i := 485) (by decide +kernel), List.mem_of_getElem? (i := 486) (by decide +kernel)⟩
theorem lw_p11 : lw_okq (⟨"HandTown$Reader", "write", "(I)V"⟩, 5) := ⟨⟨by decide +kernel, by decide +kernel⟩, List.mem_of_getElem? (i := 132) (by decide +kernel), List.mem_of_getElem? (i := 489) (by decide +kernel), List.mem_of_getElem? (i := 490) (by decide +kernel)⟩
theorem lw_p12 : lw_okq (⟨"HandTown$Reader", "readNot", "(I)Z"⟩, 5) := ⟨⟨by decide +kernel, by decide +kernel⟩, List.mem_of_getElem? (i := 132) (by decide +kernel), List.mem_of_getElem? (i := 575) (by decide +kernel), List.mem_of_getElem? (i := 576) (by decide +kernel)⟩
theorem lw_p13 : lw_okq (⟨"HandTown$Reader", "readBracket", "(I)Z"⟩, 5) := ⟨⟨by decide +kernel, by decide +kernel⟩, List.mem_of_getElem? (i := 132) (by decide +kernel), List.mem_of_getElem? (i := 579) (by decide +kernel), List.mem_of_getElem? (i := 580) (by decide +kernel)⟩
theorem lw_p14 : lw_okq (⟨"HandTown$Walk", "keepsOut", "(IIII)Z"⟩, 6) := ⟨⟨by decide +kernel, by decide +kernel⟩, List.mem_of_getElem? (i := 157) (by decide +kernel), List.mem_of_getElem? (i := 668) (by decide +kernel), List.mem_of_getElem? (i := 669) (by decide +kernel)⟩
theorem lw_p15 : lw_okq (⟨"HandTown", "lackOf", "(I)I"⟩, 8) := ⟨⟨by decide +kernel, by decide +kernel⟩, List.mem_of_getElem? (i := 18) (by decide +kernel), List.mem_of_getElem? (i := 695) (by decide +kernel), List.mem_of_getElem? (i := 696) (by decide +kernel)⟩
def lw_privs_1 : List (MethodName × Nat) := [(⟨"HandTown", "error", "(I)I"⟩, 8), (⟨"HandTown$Walk", "begin", "(I)V"⟩, 6), (⟨"HandTown$Walk", "spread", "(I)I"⟩, 6), (⟨"HandTown$Walk", "lookAt", "(II)V"⟩, 6), (⟨"HandTown$Walk", "step", "(I)I"⟩, 6), (⟨"HandTown$Walk", "waysFrom", "(I)I"⟩, 6), (⟨"HandTown$Reader", "readPart", "(II)Z"⟩, 5), (⟨"HandTown$Reader", "readSide", "(II)Z"⟩, 5), (⟨"HandTown$Reader", "readSingle", "(I)Z"⟩, 5), (⟨"HandTown$Reader", "next", "()I"⟩, 5), (⟨"HandTown$Reader", "readNumber", "()V"⟩, 5), (⟨"HandTown$Reader", "write", "(I)V"⟩, 5), (⟨"HandTown$Reader", "readNot", "(I)Z"⟩, 5), (⟨"HandTown$Reader", "readBracket", "(I)Z"⟩, 5), (⟨"HandTown$Walk", "keepsOut", "(IIII)Z"⟩, 6), (⟨"HandTown", "lackOf", "(I)I"⟩, 8)]
theorem lw_r1 : ∀ q ∈ lw_privs_1, lw_okq q := List.forall_mem_cons.mpr ⟨lw_p0, List.forall_mem_cons.mpr ⟨lw_p1, List.forall_mem_cons.mpr ⟨lw_p2, List.forall_mem_cons.mpr ⟨lw_p3, List.forall_mem_cons.mpr ⟨lw_p4, List.forall_mem_cons.mpr ⟨lw_p5, List.forall_mem_cons.mpr ⟨lw_p6, List.forall_mem_cons.mpr ⟨lw_p7, List.forall_mem_cons.mpr ⟨lw_p8, List.forall_mem_cons.mpr ⟨lw_p9, List.forall_mem_cons.mpr ⟨lw_p10, List.forall_mem_cons.mpr ⟨lw_p11, List.forall_mem_cons.mpr ⟨lw_p12, List.forall_mem_cons.mpr ⟨lw_p13, List.forall_mem_cons.mpr ⟨lw_p14, List.forall_mem_cons.mpr ⟨lw_p15, fun _ h => absurd h List.not_mem_nil⟩⟩⟩⟩⟩⟩⟩⟩⟩⟩⟩⟩⟩⟩⟩⟩
theorem lw_p16 : lw_okq (⟨"HandTown$Voices", "call", "(IIII)I"⟩, 6) := ⟨⟨by decide +kernel, by decide +kernel⟩, List.mem_of_getElem? (i := 182) (by decide +kernel), List.mem_of_getElem? (i := 718) (by decide +kernel), List.mem_of_getElem? (i := 719) (by decide +kernel)⟩
theorem lw_p17 : lw_okq (⟨"HandTown$Voices", "work", "(III)I"⟩, 6) := ⟨⟨by decide +kernel, by decide +kernel⟩, List.mem_of_getElem? (i := 182) (by decide +kernel), List.mem_of_getElem? (i := 728) (by decide +kernel), List.mem_of_getElem? (i := 729) (by decide +kernel)⟩
theorem lw_p18 : lw_okq (⟨"HandTown$Voices", "part", "(I)I"⟩, 6) := ⟨⟨by decide +kernel, by decide +kernel⟩, List.mem_of_getElem? (i := 182) (by decide +kernel), List.mem_of_getElem? (i := 732) (by decide +kernel), List.mem_of_getElem? (i := 733) (by decide +kernel)⟩
theorem lw_p19 : lw_okq (⟨"HandTownModel", "error", "(I)I"⟩, 20) := ⟨⟨by decide +kernel, by decide +kernel⟩, List.mem_of_getElem? (i := 816) (by decide +kernel), List.mem_of_getElem? (i := 891) (by decide +kernel), List.mem_of_getElem? (i := 892) (by decide +kernel)⟩
theorem lw_p20 : lw_okq (⟨"HandTownModel", "isHand", "(I)Z"⟩, 20) := ⟨⟨by decide +kernel, by decide +kernel⟩, List.mem_of_getElem? (i := 816) (by decide +kernel), List.mem_of_getElem? (i := 901) (by decide +kernel), List.mem_of_getElem? (i := 902) (by decide +kernel)⟩
theorem lw_p21 : lw_okq (⟨"HandTownModel", "markOf", "(II)I"⟩, 20) := ⟨⟨by decide +kernel, by decide +kernel⟩, List.mem_of_getElem? (i := 816) (by decide +kernel), List.mem_of_getElem? (i := 905) (by decide +kernel), List.mem_of_getElem? (i := 906) (by decide +kernel)⟩
theorem lw_p22 : lw_okq (⟨"HandTownModel", "homesOn", "(I)I"⟩, 20) := ⟨⟨by decide +kernel, by decide +kernel⟩, List.mem_of_getElem? (i := 816) (by decide +kernel), List.mem_of_getElem? (i := 909) (by decide +kernel), List.mem_of_getElem? (i := 910) (by decide +kernel)⟩
theorem lw_p23 : lw_okq (⟨"HandTownModel", "isHome", "(I)Z"⟩, 20) := ⟨⟨by decide +kernel, by decide +kernel⟩, List.mem_of_getElem? (i := 816) (by decide +kernel), List.mem_of_getElem? (i := 925) (by decide +kernel), List.mem_of_getElem? (i := 926) (by decide +kernel)⟩
theorem lw_p24 : lw_okq (⟨"HandTownModel", "worthOf", "(II)I"⟩, 20) := ⟨⟨by decide +kernel, by decide +kernel⟩, List.mem_of_getElem? (i := 816) (by decide +kernel), List.mem_of_getElem? (i := 929) (by decide +kernel), List.mem_of_getElem? (i := 930) (by decide +kernel)⟩
theorem lw_p25 : lw_okq (⟨"HandTownModel", "gives", "(IIII)I"⟩, 20) := ⟨⟨by decide +kernel, by decide +kernel⟩, List.mem_of_getElem? (i := 816) (by decide +kernel), List.mem_of_getElem? (i := 933) (by decide +kernel), List.mem_of_getElem? (i := 934) (by decide +kernel)⟩
theorem lw_p26 : lw_okq (⟨"HandTownModel", "works", "(I)I"⟩, 20) := ⟨⟨by decide +kernel, by decide +kernel⟩, List.mem_of_getElem? (i := 816) (by decide +kernel), List.mem_of_getElem? (i := 937) (by decide +kernel), List.mem_of_getElem? (i := 938) (by decide +kernel)⟩
theorem lw_p27 : lw_okq (⟨"HandTownModel", "whoIn", "(I)I"⟩, 20) := ⟨⟨by decide +kernel, by decide +kernel⟩, List.mem_of_getElem? (i := 816) (by decide +kernel), List.mem_of_getElem? (i := 947) (by decide +kernel), List.mem_of_getElem? (i := 948) (by decide +kernel)⟩
theorem lw_p28 : lw_okq (⟨"HandTownModel", "of", "(II)I"⟩, 20) := ⟨⟨by decide +kernel, by decide +kernel⟩, List.mem_of_getElem? (i := 816) (by decide +kernel), List.mem_of_getElem? (i := 951) (by decide +kernel), List.mem_of_getElem? (i := 952) (by decide +kernel)⟩
theorem lw_p29 : lw_okq (⟨"HandTownModel", "isPerson", "(I)Z"⟩, 20) := ⟨⟨by decide +kernel, by decide +kernel⟩, List.mem_of_getElem? (i := 816) (by decide +kernel), List.mem_of_getElem? (i := 966) (by decide +kernel), List.mem_of_getElem? (i := 967) (by decide +kernel)⟩
theorem lw_p30 : lw_okq (⟨"HandTownModel", "leapsOf", "(II)I"⟩, 20) := ⟨⟨by decide +kernel, by decide +kernel⟩, List.mem_of_getElem? (i := 816) (by decide +kernel), List.mem_of_getElem? (i := 970) (by decide +kernel), List.mem_of_getElem? (i := 971) (by decide +kernel)⟩
theorem lw_p31 : lw_okq (⟨"HandTownModel", "spansOf", "(I)I"⟩, 20) := ⟨⟨by decide +kernel, by decide +kernel⟩, List.mem_of_getElem? (i := 816) (by decide +kernel), List.mem_of_getElem? (i := 974) (by decide +kernel), List.mem_of_getElem? (i := 975) (by decide +kernel)⟩
def lw_privs_2 : List (MethodName × Nat) := [(⟨"HandTown$Voices", "call", "(IIII)I"⟩, 6), (⟨"HandTown$Voices", "work", "(III)I"⟩, 6), (⟨"HandTown$Voices", "part", "(I)I"⟩, 6), (⟨"HandTownModel", "error", "(I)I"⟩, 20), (⟨"HandTownModel", "isHand", "(I)Z"⟩, 20), (⟨"HandTownModel", "markOf", "(II)I"⟩, 20), (⟨"HandTownModel", "homesOn", "(I)I"⟩, 20), (⟨"HandTownModel", "isHome", "(I)Z"⟩, 20), (⟨"HandTownModel", "worthOf", "(II)I"⟩, 20), (⟨"HandTownModel", "gives", "(IIII)I"⟩, 20), (⟨"HandTownModel", "works", "(I)I"⟩, 20), (⟨"HandTownModel", "whoIn", "(I)I"⟩, 20), (⟨"HandTownModel", "of", "(II)I"⟩, 20), (⟨"HandTownModel", "isPerson", "(I)Z"⟩, 20), (⟨"HandTownModel", "leapsOf", "(II)I"⟩, 20), (⟨"HandTownModel", "spansOf", "(I)I"⟩, 20)]
theorem lw_r2 : ∀ q ∈ lw_privs_2, lw_okq q := List.forall_mem_cons.mpr ⟨lw_p16, List.forall_mem_cons.mpr ⟨lw_p17, List.forall_mem_cons.mpr ⟨lw_p18, List.forall_mem_cons.mpr ⟨lw_p19, List.forall_mem_cons.mpr ⟨lw_p20, List.forall_mem_cons.mpr ⟨lw_p21, List.forall_mem_cons.mpr ⟨lw_p22, List.forall_mem_cons.mpr ⟨lw_p23, List.forall_mem_cons.mpr ⟨lw_p24, List.forall_mem_cons.mpr ⟨lw_p25, List.forall_mem_cons.mpr ⟨lw_p26, List.forall_mem_cons.mpr ⟨lw_p27, List.forall_mem_cons.mpr ⟨lw_p28, List.forall_mem_cons.mpr ⟨lw_p29, List.forall_mem_cons.mpr ⟨lw_p30, List.forall_mem_cons.mpr ⟨lw_p31, fun _ h => absurd h List.not_mem_nil⟩⟩⟩⟩⟩⟩⟩⟩⟩⟩⟩⟩⟩⟩⟩⟩
theorem lw_p32 : lw_okq (⟨"HandTownModel", "roomsBy", "(II)I"⟩, 20) := ⟨⟨by decide +kernel, by decide +kernel⟩, List.mem_of_getElem? (i := 816) (by decide +kernel), List.mem_of_getElem? (i := 978) (by decide +kernel), List.mem_of_getElem? (i := 979) (by decide +kernel)⟩
theorem lw_p33 : lw_okq (⟨"HandTownModel", "onward", "(III)I"⟩, 20) := ⟨⟨by decide +kernel, by decide +kernel⟩, List.mem_of_getElem? (i := 816) (by decide +kernel), List.mem_of_getElem? (i := 982) (by decide +kernel), List.mem_of_getElem? (i := 983) (by decide +kernel)⟩
theorem lw_p34 : lw_okq (⟨"HandTownModel", "isInReach", "(IIIII)Z"⟩, 20) := ⟨⟨by decide +kernel, by decide +kernel⟩, List.mem_of_getElem? (i := 816) (by decide +kernel), List.mem_of_getElem? (i := 986) (by decide +kernel), List.mem_of_getElem? (i := 987) (by decide +kernel)⟩
theorem lw_p35 : lw_okq (⟨"HandTownModel", "apart", "(III)I"⟩, 20) := ⟨⟨by decide +kernel, by decide +kernel⟩, List.mem_of_getElem? (i := 816) (by decide +kernel), List.mem_of_getElem? (i := 990) (by decide +kernel), List.mem_of_getElem? (i := 991) (by decide +kernel)⟩
theorem lw_p36 : lw_okq (⟨"HandTownModel", "becomes", "(II)I"⟩, 20) := ⟨⟨by decide +kernel, by decide +kernel⟩, List.mem_of_getElem? (i := 816) (by decide +kernel), List.mem_of_getElem? (i := 998) (by decide +kernel), List.mem_of_getElem? (i := 999) (by decide +kernel)⟩
theorem lw_p37 : lw_okq (⟨"HandTownModel", "doesGet", "(IIII)Z"⟩, 20) := ⟨⟨by decide +kernel, by decide +kernel⟩, List.mem_of_getElem? (i := 816) (by decide +kernel), List.mem_of_getElem? (i := 1011) (by decide +kernel), List.mem_of_getElem? (i := 1012) (by decide +kernel)⟩
theorem lw_p38 : lw_okq (⟨"HandTownModel", "any", "()V"⟩, 20) := ⟨⟨by decide +kernel, by decide +kernel⟩, List.mem_of_getElem? (i := 816) (by decide +kernel), List.mem_of_getElem? (i := 1025) (by decide +kernel), List.mem_of_getElem? (i := 1026) (by decide +kernel)⟩
theorem lw_p39 : lw_okq (⟨"HandTownModel", "all", "()V"⟩, 20) := ⟨⟨by decide +kernel, by decide +kernel⟩, List.mem_of_getElem? (i := 816) (by decide +kernel), List.mem_of_getElem? (i := 1029) (by decide +kernel), List.mem_of_getElem? (i := 1030) (by decide +kernel)⟩
theorem lw_p40 : lw_okq (⟨"HandTownModel", "compares", "()V"⟩, 20) := ⟨⟨by decide +kernel, by decide +kernel⟩, List.mem_of_getElem? (i := 816) (by decide +kernel), List.mem_of_getElem? (i := 1033) (by decide +kernel), List.mem_of_getElem? (i := 1034) (by decide +kernel)⟩
theorem lw_p41 : lw_okq (⟨"HandTownModel", "sum", "()V"⟩, 20) := ⟨⟨by decide +kernel, by decide +kernel⟩, List.mem_of_getElem? (i := 816) (by decide +kernel), List.mem_of_getElem? (i := 1037) (by decide +kernel), List.mem_of_getElem? (i := 1038) (by decide +kernel)⟩
theorem lw_p42 : lw_okq (⟨"HandTownModel", "times", "()V"⟩, 20) := ⟨⟨by decide +kernel, by decide +kernel⟩, List.mem_of_getElem? (i := 816) (by decide +kernel), List.mem_of_getElem? (i := 1041) (by decide +kernel), List.mem_of_getElem? (i := 1042) (by decide +kernel)⟩
theorem lw_p43 : lw_okq (⟨"HandTownModel", "one", "()V"⟩, 20) := ⟨⟨by decide +kernel, by decide +kernel⟩, List.mem_of_getElem? (i := 816) (by decide +kernel), List.mem_of_getElem? (i := 1045) (by decide +kernel), List.mem_of_getElem? (i := 1046) (by decide +kernel)⟩
theorem lw_p44 : lw_okq (⟨"HandTownModel", "look", "()I"⟩, 20) := ⟨⟨by decide +kernel, by decide +kernel⟩, List.mem_of_getElem? (i := 816) (by decide +kernel), List.mem_of_getElem? (i := 1049) (by decide +kernel), List.mem_of_getElem? (i := 1050) (by decide +kernel)⟩
theorem lw_p45 : lw_okq (⟨"HandTownModel", "nameOf", "(I)I"⟩, 20) := ⟨⟨by decide +kernel, by decide +kernel⟩, List.mem_of_getElem? (i := 816) (by decide +kernel), List.mem_of_getElem? (i := 1053) (by decide +kernel), List.mem_of_getElem? (i := 1054) (by decide +kernel)⟩
theorem lw_p46 : lw_okq (⟨"HandTownModel", "step", "(II)V"⟩, 20) := ⟨⟨by decide +kernel, by decide +kernel⟩, List.mem_of_getElem? (i := 816) (by decide +kernel), List.mem_of_getElem? (i := 1057) (by decide +kernel), List.mem_of_getElem? (i := 1058) (by decide +kernel)⟩
theorem lw_p47 : lw_okq (⟨"HandTownModel", "opens", "(I)V"⟩, 20) := ⟨⟨by decide +kernel, by decide +kernel⟩, List.mem_of_getElem? (i := 816) (by decide +kernel), List.mem_of_getElem? (i := 1061) (by decide +kernel), List.mem_of_getElem? (i := 1062) (by decide +kernel)⟩
def lw_privs_3 : List (MethodName × Nat) := [(⟨"HandTownModel", "roomsBy", "(II)I"⟩, 20), (⟨"HandTownModel", "onward", "(III)I"⟩, 20), (⟨"HandTownModel", "isInReach", "(IIIII)Z"⟩, 20), (⟨"HandTownModel", "apart", "(III)I"⟩, 20), (⟨"HandTownModel", "becomes", "(II)I"⟩, 20), (⟨"HandTownModel", "doesGet", "(IIII)Z"⟩, 20), (⟨"HandTownModel", "any", "()V"⟩, 20), (⟨"HandTownModel", "all", "()V"⟩, 20), (⟨"HandTownModel", "compares", "()V"⟩, 20), (⟨"HandTownModel", "sum", "()V"⟩, 20), (⟨"HandTownModel", "times", "()V"⟩, 20), (⟨"HandTownModel", "one", "()V"⟩, 20), (⟨"HandTownModel", "look", "()I"⟩, 20), (⟨"HandTownModel", "nameOf", "(I)I"⟩, 20), (⟨"HandTownModel", "step", "(II)V"⟩, 20), (⟨"HandTownModel", "opens", "(I)V"⟩, 20)]
theorem lw_r3 : ∀ q ∈ lw_privs_3, lw_okq q := List.forall_mem_cons.mpr ⟨lw_p32, List.forall_mem_cons.mpr ⟨lw_p33, List.forall_mem_cons.mpr ⟨lw_p34, List.forall_mem_cons.mpr ⟨lw_p35, List.forall_mem_cons.mpr ⟨lw_p36, List.forall_mem_cons.mpr ⟨lw_p37, List.forall_mem_cons.mpr ⟨lw_p38, List.forall_mem_cons.mpr ⟨lw_p39, List.forall_mem_cons.mpr ⟨lw_p40, List.forall_mem_cons.mpr ⟨lw_p41, List.forall_mem_cons.mpr ⟨lw_p42, List.forall_mem_cons.mpr ⟨lw_p43, List.forall_mem_cons.mpr ⟨lw_p44, List.forall_mem_cons.mpr ⟨lw_p45, List.forall_mem_cons.mpr ⟨lw_p46, List.forall_mem_cons.mpr ⟨lw_p47, fun _ h => absurd h List.not_mem_nil⟩⟩⟩⟩⟩⟩⟩⟩⟩⟩⟩⟩⟩⟩⟩⟩
theorem lw_p48 : lw_okq (⟨"HandTownModel", "number", "()V"⟩, 20) := ⟨⟨by decide +kernel, by decide +kernel⟩, List.mem_of_getElem? (i := 816) (by decide +kernel), List.mem_of_getElem? (i := 1065) (by decide +kernel), List.mem_of_getElem? (i := 1066) (by decide +kernel)⟩
theorem lw_p49 : lw_okq (⟨"HandTownModel", "drawn", "()I"⟩, 20) := ⟨⟨by decide +kernel, by decide +kernel⟩, List.mem_of_getElem? (i := 816) (by decide +kernel), List.mem_of_getElem? (i := 1085) (by decide +kernel), List.mem_of_getElem? (i := 1086) (by decide +kernel)⟩
theorem lw_p50 : lw_okq (⟨"HandTownModel", "draw", "()I"⟩, 20) := ⟨⟨by decide +kernel, by decide +kernel⟩, List.mem_of_getElem? (i := 816) (by decide +kernel), List.mem_of_getElem? (i := 1089) (by decide +kernel), List.mem_of_getElem? (i := 1090) (by decide +kernel)⟩
theorem lw_p51 : lw_okq (⟨"HandTownModel", "doAllMeet", "(I)Z"⟩, 20) := ⟨⟨by decide +kernel, by decide +kernel⟩, List.mem_of_getElem? (i := 816) (by decide +kernel), List.mem_of_getElem? (i := 1111) (by decide +kernel), List.mem_of_getElem? (i := 1112) (by decide +kernel)⟩
theorem lw_p52 : lw_okq (⟨"HandTownModel", "findReach", "(II)V"⟩, 20) := ⟨⟨by decide +kernel, by decide +kernel⟩, List.mem_of_getElem? (i := 816) (by decide +kernel), List.mem_of_getElem? (i := 1127) (by decide +kernel), List.mem_of_getElem? (i := 1128) (by decide +kernel)⟩
theorem lw_p53 : lw_okq (⟨"HandTownModel", "roomsBut", "(III)I"⟩, 20) := ⟨⟨by decide +kernel, by decide +kernel⟩, List.mem_of_getElem? (i := 816) (by decide +kernel), List.mem_of_getElem? (i := 1134) (by decide +kernel), List.mem_of_getElem? (i := 1135) (by decide +kernel)⟩
theorem lw_p54 : lw_okq (⟨"HandTownModel", "notThere", "(I)I"⟩, 20) := ⟨⟨by decide +kernel, by decide +kernel⟩, List.mem_of_getElem? (i := 816) (by decide +kernel), List.mem_of_getElem? (i := 1150) (by decide +kernel), List.mem_of_getElem? (i := 1151) (by decide +kernel)⟩
theorem lw_p55 : lw_okq (⟨"HandTownModel", "hails", "(II)I"⟩, 20) := ⟨⟨by decide +kernel, by decide +kernel⟩, List.mem_of_getElem? (i := 816) (by decide +kernel), List.mem_of_getElem? (i := 1161) (by decide +kernel), List.mem_of_getElem? (i := 1162) (by decide +kernel)⟩
theorem lw_p56 : lw_okq (⟨"HandTownModel", "jumperHails", "(II)I"⟩, 20) := ⟨⟨by decide +kernel, by decide +kernel⟩, List.mem_of_getElem? (i := 816) (by decide +kernel), List.mem_of_getElem? (i := 1165) (by decide +kernel), List.mem_of_getElem? (i := 1166) (by decide +kernel)⟩
theorem lw_p57 : lw_okq (⟨"HandTownModel", "begins", "(I)V"⟩, 20) := ⟨⟨by decide +kernel, by decide +kernel⟩, List.mem_of_getElem? (i := 816) (by decide +kernel), List.mem_of_getElem? (i := 1169) (by decide +kernel), List.mem_of_getElem? (i := 1170) (by decide +kernel)⟩
theorem lw_p58 : lw_okq (⟨"HandTownModel", "plainHails", "(II)I"⟩, 20) := ⟨⟨by decide +kernel, by decide +kernel⟩, List.mem_of_getElem? (i := 816) (by decide +kernel), List.mem_of_getElem? (i := 1173) (by decide +kernel), List.mem_of_getElem? (i := 1174) (by decide +kernel)⟩
theorem lw_p59 : lw_okq (⟨"HandTownModel", "bows", "(II)I"⟩, 20) := ⟨⟨by decide +kernel, by decide +kernel⟩, List.mem_of_getElem? (i := 816) (by decide +kernel), List.mem_of_getElem? (i := 1177) (by decide +kernel), List.mem_of_getElem? (i := 1178) (by decide +kernel)⟩
theorem lw_p60 : lw_okq (⟨"HandTownModel", "widowBows", "(II)I"⟩, 20) := ⟨⟨by decide +kernel, by decide +kernel⟩, List.mem_of_getElem? (i := 816) (by decide +kernel), List.mem_of_getElem? (i := 1181) (by decide +kernel), List.mem_of_getElem? (i := 1182) (by decide +kernel)⟩
theorem lw_p61 : lw_okq (⟨"HandTownModel", "plainBows", "(II)I"⟩, 20) := ⟨⟨by decide +kernel, by decide +kernel⟩, List.mem_of_getElem? (i := 816) (by decide +kernel), List.mem_of_getElem? (i := 1185) (by decide +kernel), List.mem_of_getElem? (i := 1186) (by decide +kernel)⟩
theorem lw_p62 : lw_okq (⟨"HandTownModel", "rings", "(II)I"⟩, 20) := ⟨⟨by decide +kernel, by decide +kernel⟩, List.mem_of_getElem? (i := 816) (by decide +kernel), List.mem_of_getElem? (i := 1189) (by decide +kernel), List.mem_of_getElem? (i := 1190) (by decide +kernel)⟩
theorem lw_p63 : lw_okq (⟨"HandTownModel", "plainRings", "(II)I"⟩, 20) := ⟨⟨by decide +kernel, by decide +kernel⟩, List.mem_of_getElem? (i := 816) (by decide +kernel), List.mem_of_getElem? (i := 1193) (by decide +kernel), List.mem_of_getElem? (i := 1194) (by decide +kernel)⟩
def lw_privs_4 : List (MethodName × Nat) := [(⟨"HandTownModel", "number", "()V"⟩, 20), (⟨"HandTownModel", "drawn", "()I"⟩, 20), (⟨"HandTownModel", "draw", "()I"⟩, 20), (⟨"HandTownModel", "doAllMeet", "(I)Z"⟩, 20), (⟨"HandTownModel", "findReach", "(II)V"⟩, 20), (⟨"HandTownModel", "roomsBut", "(III)I"⟩, 20), (⟨"HandTownModel", "notThere", "(I)I"⟩, 20), (⟨"HandTownModel", "hails", "(II)I"⟩, 20), (⟨"HandTownModel", "jumperHails", "(II)I"⟩, 20), (⟨"HandTownModel", "begins", "(I)V"⟩, 20), (⟨"HandTownModel", "plainHails", "(II)I"⟩, 20), (⟨"HandTownModel", "bows", "(II)I"⟩, 20), (⟨"HandTownModel", "widowBows", "(II)I"⟩, 20), (⟨"HandTownModel", "plainBows", "(II)I"⟩, 20), (⟨"HandTownModel", "rings", "(II)I"⟩, 20), (⟨"HandTownModel", "plainRings", "(II)I"⟩, 20)]
theorem lw_r4 : ∀ q ∈ lw_privs_4, lw_okq q := List.forall_mem_cons.mpr ⟨lw_p48, List.forall_mem_cons.mpr ⟨lw_p49, List.forall_mem_cons.mpr ⟨lw_p50, List.forall_mem_cons.mpr ⟨lw_p51, List.forall_mem_cons.mpr ⟨lw_p52, List.forall_mem_cons.mpr ⟨lw_p53, List.forall_mem_cons.mpr ⟨lw_p54, List.forall_mem_cons.mpr ⟨lw_p55, List.forall_mem_cons.mpr ⟨lw_p56, List.forall_mem_cons.mpr ⟨lw_p57, List.forall_mem_cons.mpr ⟨lw_p58, List.forall_mem_cons.mpr ⟨lw_p59, List.forall_mem_cons.mpr ⟨lw_p60, List.forall_mem_cons.mpr ⟨lw_p61, List.forall_mem_cons.mpr ⟨lw_p62, List.forall_mem_cons.mpr ⟨lw_p63, fun _ h => absurd h List.not_mem_nil⟩⟩⟩⟩⟩⟩⟩⟩⟩⟩⟩⟩⟩⟩⟩⟩
theorem lw_p64 : lw_okq (⟨"HandTownModel", "parts", "(II)I"⟩, 20) := ⟨⟨by decide +kernel, by decide +kernel⟩, List.mem_of_getElem? (i := 816) (by decide +kernel), List.mem_of_getElem? (i := 1197) (by decide +kernel), List.mem_of_getElem? (i := 1198) (by decide +kernel)⟩
theorem lw_p65 : lw_okq (⟨"HandTownModel", "plainParts", "(II)I"⟩, 20) := ⟨⟨by decide +kernel, by decide +kernel⟩, List.mem_of_getElem? (i := 816) (by decide +kernel), List.mem_of_getElem? (i := 1201) (by decide +kernel), List.mem_of_getElem? (i := 1202) (by decide +kernel)⟩
theorem lw_p66 : lw_okq (⟨"HandTownModel", "notMoved", "(IIIII)I"⟩, 20) := ⟨⟨by decide +kernel, by decide +kernel⟩, List.mem_of_getElem? (i := 816) (by decide +kernel), List.mem_of_getElem? (i := 1222) (by decide +kernel), List.mem_of_getElem? (i := 1223) (by decide +kernel)⟩
def lw_privs_5 : List (MethodName × Nat) := [(⟨"HandTownModel", "parts", "(II)I"⟩, 20), (⟨"HandTownModel", "plainParts", "(II)I"⟩, 20), (⟨"HandTownModel", "notMoved", "(IIIII)I"⟩, 20)]
theorem lw_r5 : ∀ q ∈ lw_privs_5, lw_okq q := List.forall_mem_cons.mpr ⟨lw_p64, List.forall_mem_cons.mpr ⟨lw_p65, List.forall_mem_cons.mpr ⟨lw_p66, fun _ h => absurd h List.not_mem_nil⟩⟩⟩
def lw_privs : List (MethodName × Nat) := lw_privs_1 ++ (lw_privs_2 ++ (lw_privs_3 ++ (lw_privs_4 ++ (lw_privs_5))))
def lw_tbl : List Cond := k2_sels lw_privs ++ tables_1
theorem lw_privs_ok : ∀ q ∈ lw_privs, lw_okq q := by
  show ∀ q ∈ lw_privs_1 ++ (lw_privs_2 ++ (lw_privs_3 ++ (lw_privs_4 ++ (lw_privs_5)))), lw_okq q
  exact List.forall_mem_append.mpr ⟨lw_r1, List.forall_mem_append.mpr ⟨lw_r2, List.forall_mem_append.mpr ⟨lw_r3, List.forall_mem_append.mpr ⟨lw_r4, lw_r5⟩⟩⟩⟩

/-! ===== BEGIN words of one list among another's, by their places ===== -/
theorem goodIn_r {big : List Cond} (ws : List Cond) (ps : List Nat) (hp : ws = ps.filterMap (fun i => big[i]?)) (h : ws.all goodWord = true) : GoodIn big ws := by
  intro w hw
  have h1 := List.all_eq_true.mp h w hw
  rw [hp] at hw
  obtain ⟨i, -, hi⟩ := List.mem_filterMap.mp hw
  have hm : w ∈ big := by first | exact List.mem_of_getElem? hi | exact List.getElem?_mem hi
  exact ⟨hm, good_of_word h1⟩
theorem goodIn_app {big a b : List Cond} (ha : GoodIn big a) (hb : GoodIn big b) : GoodIn big (a ++ b) := fun w h => (List.mem_append.mp h).elim (ha w) (hb w)
theorem goodIn_ca {big a b : List Cond} {c : Cond} (ha : GoodIn big (c :: a)) (hb : GoodIn big b) : GoodIn big (c :: (a ++ b)) := fun w h => (List.mem_cons.mp h).elim (fun e => ha w (List.mem_cons.mpr (Or.inl e))) (fun h => (List.mem_append.mp h).elim (fun h => ha w (List.mem_cons.mpr (Or.inr h))) (hb w))
theorem goodIn_sub {big ws : List Cond} (hm : ∀ w ∈ ws, w ∈ big) (h : ws.all goodWord = true) : GoodIn big ws := fun w hw => ⟨hm w hw, good_of_word (List.all_eq_true.mp h w hw)⟩
/-! ===== END ===== -/

/-! ===== BEGIN printed: names, fields, word lists, decode rows ===== -/
def RX0 : String := "HandTown$Law"
def TX0 : u_T := fun k => match k with
  | 0 => ("HandTown$Law", "code", "[I", true)
  | 1 => ("HandTown$Law", "stack", "[I", true)
  | _ => ("HandTown$Law", "words", "I", false)
def tyX0 : Nat → FieldType := fun k => match k with
  | 0 => .array .int
  | 1 => .array .int
  | _ => .int
abbrev wsX00 : List Cond := u_ws RX0 TX0 3
theorem nmX0 : ∀ a, a < 3 → ∀ b, b < 3 → a ≠ b → (TX0 a).2.1 ≠ (TX0 b).2.1 := by decide +kernel
theorem tyX0_ok : ∀ k, k < 3 → parseFieldDescriptor (TX0 k).2.2.1 = some (tyX0 k) := by decide +kernel
abbrev cX0_init : ByteArray := prog_2_method_1_code
def yX0_init : MethodName := ⟨RX0, "<init>", "()V"⟩
abbrev cX0_take : ByteArray := prog_2_method_2_code
def yX0_take : MethodName := ⟨RX0, "take", "([II)V"⟩
abbrev cX0_gives : ByteArray := prog_2_method_3_code
def yX0_gives : MethodName := ⟨RX0, "gives", "(III)I"⟩
abbrev cX0_join : ByteArray := prog_2_method_4_code
def yX0_join : MethodName := ⟨RX0, "join", "(III)I"⟩
def RX1 : String := "HandTown$Reader"
def TX1 : u_T := fun k => match k with
  | 0 => ("HandTown$Reader", "town", "LHandTown$Town;", true)
  | 1 => ("HandTown$Reader", "code", "[I", true)
  | 2 => ("HandTown$Reader", "words", "I", false)
  | 3 => ("HandTown$Reader", "place", "I", false)
  | _ => ("HandTown$Reader", "names", "Ljava/lang/String;", false)
def tyX1 : Nat → FieldType := fun k => match k with
  | 0 => .object "HandTown$Town"
  | 1 => .array .int
  | 2 => .int
  | 3 => .int
  | _ => .object "java/lang/String"
abbrev wsX10 : List Cond := u_ws RX1 TX1 5
theorem nmX1 : ∀ a, a < 5 → ∀ b, b < 5 → a ≠ b → (TX1 a).2.1 ≠ (TX1 b).2.1 := by decide +kernel
theorem tyX1_ok : ∀ k, k < 5 → parseFieldDescriptor (TX1 k).2.2.1 = some (tyX1 k) := by decide +kernel
abbrev cX1_init : ByteArray := prog_3_method_1_code
def yX1_init : MethodName := ⟨RX1, "<init>", "(LHandTown$Town;)V"⟩
abbrev cX1_readTape : ByteArray := prog_3_method_2_code
def yX1_readTape : MethodName := ⟨RX1, "readTape", "(I)I"⟩
abbrev cX1_next : ByteArray := prog_3_method_3_code
def yX1_next : MethodName := ⟨RX1, "next", "()I"⟩
abbrev cX1_write : ByteArray := prog_3_method_4_code
def yX1_write : MethodName := ⟨RX1, "write", "(I)V"⟩
abbrev cX1_readPart : ByteArray := prog_3_method_5_code
def yX1_readPart : MethodName := ⟨RX1, "readPart", "(II)Z"⟩
abbrev cX1_readSide : ByteArray := prog_3_method_6_code
def yX1_readSide : MethodName := ⟨RX1, "readSide", "(II)Z"⟩
abbrev cX1_readSingle : ByteArray := prog_3_method_7_code
def yX1_readSingle : MethodName := ⟨RX1, "readSingle", "(I)Z"⟩
abbrev cX1_readNot : ByteArray := prog_3_method_8_code
def yX1_readNot : MethodName := ⟨RX1, "readNot", "(I)Z"⟩
abbrev cX1_readBracket : ByteArray := prog_3_method_9_code
def yX1_readBracket : MethodName := ⟨RX1, "readBracket", "(I)Z"⟩
abbrev cX1_readNumber : ByteArray := prog_3_method_10_code
def yX1_readNumber : MethodName := ⟨RX1, "readNumber", "()V"⟩
abbrev cX1_isDigit : ByteArray := prog_3_method_11_code
def yX1_isDigit : MethodName := ⟨RX1, "isDigit", "(I)Z"⟩
abbrev cX1_rankOf : ByteArray := prog_3_method_12_code
def yX1_rankOf : MethodName := ⟨RX1, "rankOf", "(I)I"⟩
def RX2 : String := "HandTown$Sheet"
def TX2 : u_T := fun k => match k with
  | 0 => ("HandTown$Sheet", "bits", "I", false)
  | 1 => ("HandTown$Sheet", "length", "I", false)
  | _ => ("HandTown$Sheet", "numbers", "[I", true)
def tyX2 : Nat → FieldType := fun k => match k with
  | 0 => .int
  | 1 => .int
  | _ => .array .int
abbrev wsX20 : List Cond := u_ws RX2 TX2 3
theorem nmX2 : ∀ a, a < 3 → ∀ b, b < 3 → a ≠ b → (TX2 a).2.1 ≠ (TX2 b).2.1 := by decide +kernel
theorem tyX2_ok : ∀ k, k < 3 → parseFieldDescriptor (TX2 k).2.2.1 = some (tyX2 k) := by decide +kernel
abbrev cX2_init : ByteArray := prog_4_method_1_code
def yX2_init : MethodName := ⟨RX2, "<init>", "()V"⟩
abbrev cX2_isMissing : ByteArray := prog_4_method_2_code
def yX2_isMissing : MethodName := ⟨RX2, "isMissing", "()Z"⟩
abbrev cX2_lay : ByteArray := prog_4_method_3_code
def yX2_lay : MethodName := ⟨RX2, "lay", "(II)V"⟩
abbrev cX2_write : ByteArray := prog_4_method_4_code
def yX2_write : MethodName := ⟨RX2, "write", "(II)V"⟩
abbrev cX2_holds : ByteArray := prog_4_method_5_code
def yX2_holds : MethodName := ⟨RX2, "holds", "(II)Z"⟩
def RX3 : String := "HandTown$Town"
def TX3 : u_T := fun k => match k with
  | 0 => ("HandTown$Town", "hands", "I", false)
  | 1 => ("HandTown$Town", "turns", "[I", true)
  | 2 => ("HandTown$Town", "offset", "[I", true)
  | 3 => ("HandTown$Town", "homes", "I", false)
  | 4 => ("HandTown$Town", "handOf", "[I", true)
  | 5 => ("HandTown$Town", "far", "[I", true)
  | 6 => ("HandTown$Town", "people", "I", false)
  | 7 => ("HandTown$Town", "kind", "[I", true)
  | 8 => ("HandTown$Town", "number", "[I", true)
  | 9 => ("HandTown$Town", "room", "[I", true)
  | 10 => ("HandTown$Town", "minute", "I", false)
  | 11 => ("HandTown$Town", "z", "I", false)
  | 12 => ("HandTown$Town", "bytes", "I", false)
  | 13 => ("HandTown$Town", "tape", "[B", true)
  | 14 => ("HandTown$Town", "waiting", "I", false)
  | 15 => ("HandTown$Town", "waits", "[I", true)
  | _ => ("HandTown$Town", "laws", "[LHandTown$Law;", true)
def tyX3 : Nat → FieldType := fun k => match k with
  | 0 => .int
  | 1 => .array .int
  | 2 => .array .int
  | 3 => .int
  | 4 => .array .int
  | 5 => .array .int
  | 6 => .int
  | 7 => .array .int
  | 8 => .array .int
  | 9 => .array .int
  | 10 => .int
  | 11 => .int
  | 12 => .int
  | 13 => .array .byte
  | 14 => .int
  | 15 => .array .int
  | _ => .array (.object "HandTown$Law")
abbrev wsX30 : List Cond := u_ws RX3 TX3 17
theorem nmX3 : ∀ a, a < 17 → ∀ b, b < 17 → a ≠ b → (TX3 a).2.1 ≠ (TX3 b).2.1 := by decide +kernel
theorem tyX3_ok : ∀ k, k < 17 → parseFieldDescriptor (TX3 k).2.2.1 = some (tyX3 k) := by decide +kernel
abbrev cX3_init : ByteArray := prog_5_method_1_code
def yX3_init : MethodName := ⟨RX3, "<init>", "()V"⟩
abbrev cX3_take : ByteArray := prog_5_method_2_code
def yX3_take : MethodName := ⟨RX3, "take", "(LHandTown$Town;)V"⟩
abbrev cX3_hasHand : ByteArray := prog_5_method_3_code
def yX3_hasHand : MethodName := ⟨RX3, "hasHand", "(I)Z"⟩
abbrev cX3_hasHome : ByteArray := prog_5_method_4_code
def yX3_hasHome : MethodName := ⟨RX3, "hasHome", "(I)Z"⟩
abbrev cX3_hasPerson : ByteArray := prog_5_method_5_code
def yX3_hasPerson : MethodName := ⟨RX3, "hasPerson", "(I)Z"⟩
abbrev cX3_addHand : ByteArray := prog_5_method_6_code
def yX3_addHand : MethodName := ⟨RX3, "addHand", "(II)I"⟩
abbrev cX3_addHome : ByteArray := prog_5_method_7_code
def yX3_addHome : MethodName := ⟨RX3, "addHome", "(II)I"⟩
abbrev cX3_addPerson : ByteArray := prog_5_method_8_code
def yX3_addPerson : MethodName := ⟨RX3, "addPerson", "(II)I"⟩
abbrev cX3_setKind : ByteArray := prog_5_method_9_code
def yX3_setKind : MethodName := ⟨RX3, "setKind", "(II)V"⟩
abbrev cX3_addBytes : ByteArray := prog_5_method_10_code
def yX3_addBytes : MethodName := ⟨RX3, "addBytes", "(JI)V"⟩
abbrev cX3_homesOn : ByteArray := prog_5_method_11_code
def yX3_homesOn : MethodName := ⟨RX3, "homesOn", "(I)I"⟩
abbrev cX3_peopleIn : ByteArray := prog_5_method_12_code
def yX3_peopleIn : MethodName := ⟨RX3, "peopleIn", "(I)I"⟩
abbrev cX3_markOf : ByteArray := prog_5_method_13_code
def yX3_markOf : MethodName := ⟨RX3, "markOf", "(II)I"⟩
abbrev cX3_apart : ByteArray := prog_5_method_14_code
def yX3_apart : MethodName := ⟨RX3, "apart", "(III)I"⟩
abbrev cX3_allMeet : ByteArray := prog_5_method_15_code
def yX3_allMeet : MethodName := ⟨RX3, "allMeet", "(I)Z"⟩
abbrev cX3_leapLaw : ByteArray := prog_5_method_16_code
def yX3_leapLaw : MethodName := ⟨RX3, "leapLaw", "(III)I"⟩
abbrev cX3_worthLaw : ByteArray := prog_5_method_17_code
def yX3_worthLaw : MethodName := ⟨RX3, "worthLaw", "(III)I"⟩
abbrev cX3_worth : ByteArray := prog_5_method_18_code
def yX3_worth : MethodName := ⟨RX3, "worth", "(II)I"⟩
abbrev cX3_leaps : ByteArray := prog_5_method_19_code
def yX3_leaps : MethodName := ⟨RX3, "leaps", "(II)I"⟩
abbrev cX3_spans : ByteArray := prog_5_method_20_code
def yX3_spans : MethodName := ⟨RX3, "spans", "(I)I"⟩
abbrev cX3_gets : ByteArray := prog_5_method_21_code
def yX3_gets : MethodName := ⟨RX3, "gets", "(III)Z"⟩
abbrev cX3_worthiest : ByteArray := prog_5_method_22_code
def yX3_worthiest : MethodName := ⟨RX3, "worthiest", "(II)I"⟩
abbrev cX3_draw : ByteArray := prog_5_method_23_code
def yX3_draw : MethodName := ⟨RX3, "draw", "()I"⟩
abbrev cX3_jumpsByDraws : ByteArray := prog_5_method_24_code
def yX3_jumpsByDraws : MethodName := ⟨RX3, "jumpsByDraws", "()Z"⟩
abbrev cX3_marksAre : ByteArray := prog_5_method_25_code
def yX3_marksAre : MethodName := ⟨RX3, "marksAre", "(ILHandTown$Sheet;)Z"⟩
abbrev cX3_takeOffsets : ByteArray := prog_5_method_26_code
def yX3_takeOffsets : MethodName := ⟨RX3, "takeOffsets", "(LHandTown$Sheet;)I"⟩
abbrev cX3_rightRooms : ByteArray := prog_5_method_27_code
def yX3_rightRooms : MethodName := ⟨RX3, "rightRooms", "(LHandTown$Sheet;)I"⟩
abbrev cX3_firstWrongMark : ByteArray := prog_5_method_28_code
def yX3_firstWrongMark : MethodName := ⟨RX3, "firstWrongMark", "()I"⟩
def RX4 : String := "HandTown$Voices"
def TX4 : u_T := fun k => match k with
  | 0 => ("HandTown$Voices", "trace", "[I", true)
  | 1 => ("HandTown$Voices", "bodies", "I", false)
  | 2 => ("HandTown$Voices", "parted", "Z", false)
  | 3 => ("HandTown$Voices", "kind", "I", false)
  | 4 => ("HandTown$Voices", "m", "I", false)
  | _ => ("HandTown$Voices", "k", "I", false)
def tyX4 : Nat → FieldType := fun k => match k with
  | 0 => .array .int
  | 1 => .int
  | 2 => .boolean
  | 3 => .int
  | 4 => .int
  | _ => .int
abbrev wsX40 : List Cond := u_ws RX4 TX4 6
theorem nmX4 : ∀ a, a < 6 → ∀ b, b < 6 → a ≠ b → (TX4 a).2.1 ≠ (TX4 b).2.1 := by decide +kernel
theorem tyX4_ok : ∀ k, k < 6 → parseFieldDescriptor (TX4 k).2.2.1 = some (tyX4 k) := by decide +kernel
abbrev cX4_init : ByteArray := prog_6_method_1_code
def yX4_init : MethodName := ⟨RX4, "<init>", "()V"⟩
abbrev cX4_hear : ByteArray := prog_6_method_2_code
def yX4_hear : MethodName := ⟨RX4, "hear", "(LHandTown$Town;III)I"⟩
abbrev cX4_find : ByteArray := prog_6_method_3_code
def yX4_find : MethodName := ⟨RX4, "find", "(II)I"⟩
abbrev cX4_call : ByteArray := prog_6_method_4_code
def yX4_call : MethodName := ⟨RX4, "call", "(IIII)I"⟩
abbrev cX4_work : ByteArray := prog_6_method_5_code
def yX4_work : MethodName := ⟨RX4, "work", "(III)I"⟩
abbrev cX4_part : ByteArray := prog_6_method_6_code
def yX4_part : MethodName := ⟨RX4, "part", "(I)I"⟩
def RX5 : String := "HandTown$Walk"
def TX5 : u_T := fun k => match k with
  | 0 => ("HandTown$Walk", "town", "LHandTown$Town;", true)
  | 1 => ("HandTown$Walk", "marks", "[I", true)
  | 2 => ("HandTown$Walk", "riding", "[I", true)
  | 3 => ("HandTown$Walk", "near", "[I", true)
  | 4 => ("HandTown$Walk", "alike", "[I", true)
  | _ => ("HandTown$Walk", "ways", "[I", true)
def tyX5 : Nat → FieldType := fun k => match k with
  | 0 => .object "HandTown$Town"
  | 1 => .array .int
  | 2 => .array .int
  | 3 => .array .int
  | 4 => .array .int
  | _ => .array .int
abbrev wsX50 : List Cond := u_ws RX5 TX5 6
theorem nmX5 : ∀ a, a < 6 → ∀ b, b < 6 → a ≠ b → (TX5 a).2.1 ≠ (TX5 b).2.1 := by decide +kernel
theorem tyX5_ok : ∀ k, k < 6 → parseFieldDescriptor (TX5 k).2.2.1 = some (tyX5 k) := by decide +kernel
abbrev cX5_init : ByteArray := prog_7_method_1_code
def yX5_init : MethodName := ⟨RX5, "<init>", "(LHandTown$Town;)V"⟩
abbrev cX5_roomsBehind : ByteArray := prog_7_method_2_code
def yX5_roomsBehind : MethodName := ⟨RX5, "roomsBehind", "(II)I"⟩
abbrev cX5_firstIn : ByteArray := prog_7_method_3_code
def yX5_firstIn : MethodName := ⟨RX5, "firstIn", "(II)I"⟩
abbrev cX5_fewestShut : ByteArray := prog_7_method_4_code
def yX5_fewestShut : MethodName := ⟨RX5, "fewestShut", "(III)I"⟩
abbrev cX5_keepsOut : ByteArray := prog_7_method_5_code
def yX5_keepsOut : MethodName := ⟨RX5, "keepsOut", "(IIII)Z"⟩
abbrev cX5_begin : ByteArray := prog_7_method_6_code
def yX5_begin : MethodName := ⟨RX5, "begin", "(I)V"⟩
abbrev cX5_lookAt : ByteArray := prog_7_method_7_code
def yX5_lookAt : MethodName := ⟨RX5, "lookAt", "(II)V"⟩
abbrev cX5_waysFrom : ByteArray := prog_7_method_8_code
def yX5_waysFrom : MethodName := ⟨RX5, "waysFrom", "(I)I"⟩
abbrev cX5_step : ByteArray := prog_7_method_9_code
def yX5_step : MethodName := ⟨RX5, "step", "(I)I"⟩
abbrev cX5_spread : ByteArray := prog_7_method_10_code
def yX5_spread : MethodName := ⟨RX5, "spread", "(I)I"⟩
def RX6 : String := "HandTown"
def TX6 : u_T := fun k => match k with
  | 0 => ("HandTown", "town", "LHandTown$Town;", true)
  | 1 => ("HandTown", "kept", "LHandTown$Town;", true)
  | 2 => ("HandTown", "reader", "LHandTown$Reader;", true)
  | 3 => ("HandTown", "walk", "LHandTown$Walk;", true)
  | 4 => ("HandTown", "voices", "LHandTown$Voices;", true)
  | 5 => ("HandTown", "sheets", "[LHandTown$Sheet;", true)
  | 6 => ("HandTown", "errors", "[I", true)
  | _ => ("HandTown", "images", "I", false)
def tyX6 : Nat → FieldType := fun k => match k with
  | 0 => .object "HandTown$Town"
  | 1 => .object "HandTown$Town"
  | 2 => .object "HandTown$Reader"
  | 3 => .object "HandTown$Walk"
  | 4 => .object "HandTown$Voices"
  | 5 => .array (.object "HandTown$Sheet")
  | 6 => .array .int
  | _ => .int
abbrev wsX60 : List Cond := u_ws RX6 TX6 8
theorem nmX6 : ∀ a, a < 8 → ∀ b, b < 8 → a ≠ b → (TX6 a).2.1 ≠ (TX6 b).2.1 := by decide +kernel
theorem tyX6_ok : ∀ k, k < 8 → parseFieldDescriptor (TX6 k).2.2.1 = some (tyX6 k) := by decide +kernel
abbrev cX6_init : ByteArray := prog_1_method_1_code
def yX6_init : MethodName := ⟨RX6, "<init>", "()V"⟩
abbrev cX6_hand : ByteArray := prog_1_method_2_code
def yX6_hand : MethodName := ⟨RX6, "hand", "(II)I"⟩
abbrev cX6_handIs : ByteArray := prog_1_method_3_code
def yX6_handIs : MethodName := ⟨RX6, "handIs", "(II)I"⟩
abbrev cX6_frost : ByteArray := prog_1_method_4_code
def yX6_frost : MethodName := ⟨RX6, "frost", "(II)I"⟩
abbrev cX6_home : ByteArray := prog_1_method_5_code
def yX6_home : MethodName := ⟨RX6, "home", "(II)I"⟩
abbrev cX6_homeIs : ByteArray := prog_1_method_6_code
def yX6_homeIs : MethodName := ⟨RX6, "homeIs", "(II)I"⟩
abbrev cX6_person : ByteArray := prog_1_method_7_code
def yX6_person : MethodName := ⟨RX6, "person", "(II)I"⟩
abbrev cX6_personIs : ByteArray := prog_1_method_8_code
def yX6_personIs : MethodName := ⟨RX6, "personIs", "(II)I"⟩
abbrev cX6_become : ByteArray := prog_1_method_9_code
def yX6_become : MethodName := ⟨RX6, "become", "(II)I"⟩
abbrev cX6_as : ByteArray := prog_1_method_10_code
def yX6_as : MethodName := ⟨RX6, "as", "(II)I"⟩
abbrev cX6_jump : ByteArray := prog_1_method_11_code
def yX6_jump : MethodName := ⟨RX6, "jump", "(II)I"⟩
abbrev cX6_feed : ByteArray := prog_1_method_12_code
def yX6_feed : MethodName := ⟨RX6, "feed", "(JI)I"⟩
abbrev cX6_text : ByteArray := prog_1_method_13_code
def yX6_text : MethodName := ⟨RX6, "text", "(I)I"⟩
abbrev cX6_untell : ByteArray := prog_1_method_14_code
def yX6_untell : MethodName := ⟨RX6, "untell", "(I)I"⟩
abbrev cX6_law : ByteArray := prog_1_method_15_code
def yX6_law : MethodName := ⟨RX6, "law", "(IIII)I"⟩
abbrev cX6_minutes : ByteArray := prog_1_method_16_code
def yX6_minutes : MethodName := ⟨RX6, "minutes", "(I)I"⟩
abbrev cX6_loose : ByteArray := prog_1_method_17_code
def yX6_loose : MethodName := ⟨RX6, "loose", "(I)I"⟩
abbrev cX6_seed : ByteArray := prog_1_method_18_code
def yX6_seed : MethodName := ⟨RX6, "seed", "(I)I"⟩
abbrev cX6_markAt : ByteArray := prog_1_method_19_code
def yX6_markAt : MethodName := ⟨RX6, "markAt", "(II)I"⟩
abbrev cX6_meet : ByteArray := prog_1_method_20_code
def yX6_meet : MethodName := ⟨RX6, "meet", "(II)I"⟩
abbrev cX6_council : ByteArray := prog_1_method_21_code
def yX6_council : MethodName := ⟨RX6, "council", "()I"⟩
abbrev cX6_soonest : ByteArray := prog_1_method_22_code
def yX6_soonest : MethodName := ⟨RX6, "soonest", "(II)I"⟩
abbrev cX6_rooms : ByteArray := prog_1_method_23_code
def yX6_rooms : MethodName := ⟨RX6, "rooms", "(II)I"⟩
abbrev cX6_watch : ByteArray := prog_1_method_24_code
def yX6_watch : MethodName := ⟨RX6, "watch", "(IIII)I"⟩
abbrev cX6_best : ByteArray := prog_1_method_25_code
def yX6_best : MethodName := ⟨RX6, "best", "(III)I"⟩
abbrev cX6_odds : ByteArray := prog_1_method_26_code
def yX6_odds : MethodName := ⟨RX6, "odds", "(III)I"⟩
abbrev cX6_fits : ByteArray := prog_1_method_27_code
def yX6_fits : MethodName := ⟨RX6, "fits", "(I)I"⟩
abbrev cX6_voice : ByteArray := prog_1_method_28_code
def yX6_voice : MethodName := ⟨RX6, "voice", "(III)I"⟩
abbrev cX6_body : ByteArray := prog_1_method_29_code
def yX6_body : MethodName := ⟨RX6, "body", "(I)I"⟩
abbrev cX6_sheet : ByteArray := prog_1_method_30_code
def yX6_sheet : MethodName := ⟨RX6, "sheet", "(III)I"⟩
abbrev cX6_put : ByteArray := prog_1_method_31_code
def yX6_put : MethodName := ⟨RX6, "put", "(III)I"⟩
abbrev cX6_move : ByteArray := prog_1_method_32_code
def yX6_move : MethodName := ⟨RX6, "move", "(IIIII)I"⟩
abbrev cX6_offsets : ByteArray := prog_1_method_33_code
def yX6_offsets : MethodName := ⟨RX6, "offsets", "(I)I"⟩
abbrev cX6_judge : ByteArray := prog_1_method_34_code
def yX6_judge : MethodName := ⟨RX6, "judge", "(I)I"⟩
abbrev cX6_image : ByteArray := prog_1_method_35_code
def yX6_image : MethodName := ⟨RX6, "image", "()I"⟩
abbrev cX6_restore : ByteArray := prog_1_method_36_code
def yX6_restore : MethodName := ⟨RX6, "restore", "()I"⟩
abbrev cX6_tell : ByteArray := prog_1_method_37_code
def yX6_tell : MethodName := ⟨RX6, "tell", "(I)I"⟩
abbrev cX6_check : ByteArray := prog_1_method_38_code
def yX6_check : MethodName := ⟨RX6, "check", "()I"⟩
abbrev cX6_count : ByteArray := prog_1_method_39_code
def yX6_count : MethodName := ⟨RX6, "count", "(I)I"⟩
abbrev cX6_told : ByteArray := prog_1_method_40_code
def yX6_told : MethodName := ⟨RX6, "told", "(I)I"⟩
abbrev cX6_error : ByteArray := prog_1_method_41_code
def yX6_error : MethodName := ⟨RX6, "error", "(I)I"⟩
abbrev cX6_within : ByteArray := prog_1_method_42_code
def yX6_within : MethodName := ⟨RX6, "within", "(III)Z"⟩
abbrev cX6_isUse : ByteArray := prog_1_method_43_code
def yX6_isUse : MethodName := ⟨RX6, "isUse", "(I)Z"⟩
abbrev cX6_isSheet : ByteArray := prog_1_method_44_code
def yX6_isSheet : MethodName := ⟨RX6, "isSheet", "(I)Z"⟩
abbrev cX6_lackOf : ByteArray := prog_1_method_45_code
def yX6_lackOf : MethodName := ⟨RX6, "lackOf", "(I)I"⟩
abbrev cX6_isKindWithNumber : ByteArray := prog_1_method_46_code
def yX6_isKindWithNumber : MethodName := ⟨RX6, "isKindWithNumber", "(I)Z"⟩
abbrev cX6_isUnder : ByteArray := prog_1_method_47_code
def yX6_isUnder : MethodName := ⟨RX6, "isUnder", "(II)Z"⟩
abbrev cX6_rest : ByteArray := prog_1_method_48_code
def yX6_rest : MethodName := ⟨RX6, "rest", "(II)I"⟩
abbrev cX6_isIn : ByteArray := prog_1_method_49_code
def yX6_isIn : MethodName := ⟨RX6, "isIn", "(II)Z"⟩
abbrev cX6_hold : ByteArray := prog_1_method_50_code
def yX6_hold : MethodName := ⟨RX6, "hold", "(III)I"⟩
abbrev cX6_commonDivisor : ByteArray := prog_1_method_51_code
def yX6_commonDivisor : MethodName := ⟨RX6, "commonDivisor", "(II)I"⟩
def RX7 : String := "HandTownModel"
def TX7 : u_T := fun k => match k with
  | 0 => ("HandTownModel", "row", "[I", true)
  | 1 => ("HandTownModel", "kept", "[I", true)
  | 2 => ("HandTownModel", "images", "I", false)
  | 3 => ("HandTownModel", "errors", "[I", true)
  | 4 => ("HandTownModel", "bitsOf", "[I", true)
  | 5 => ("HandTownModel", "sizeOf", "[I", true)
  | 6 => ("HandTownModel", "cells", "[I", true)
  | 7 => ("HandTownModel", "reach", "[I", true)
  | 8 => ("HandTownModel", "act", "[I", true)
  | 9 => ("HandTownModel", "with", "[I", true)
  | 10 => ("HandTownModel", "facts", "[I", true)
  | 11 => ("HandTownModel", "pile", "[I", true)
  | 12 => ("HandTownModel", "laid", "I", false)
  | 13 => ("HandTownModel", "here", "I", false)
  | 14 => ("HandTownModel", "opened", "I", false)
  | 15 => ("HandTownModel", "bad", "Z", false)
  | 16 => ("HandTownModel", "using", "I", false)
  | 17 => ("HandTownModel", "trace", "[I", true)
  | 18 => ("HandTownModel", "traced", "I", false)
  | _ => ("HandTownModel", "isParted", "Z", false)
def tyX7 : Nat → FieldType := fun k => match k with
  | 0 => .array .int
  | 1 => .array .int
  | 2 => .int
  | 3 => .array .int
  | 4 => .array .int
  | 5 => .array .int
  | 6 => .array .int
  | 7 => .array .int
  | 8 => .array .int
  | 9 => .array .int
  | 10 => .array .int
  | 11 => .array .int
  | 12 => .int
  | 13 => .int
  | 14 => .int
  | 15 => .boolean
  | 16 => .int
  | 17 => .array .int
  | 18 => .int
  | _ => .boolean
abbrev wsX70 : List Cond := u_ws RX7 TX7 20
theorem nmX7 : ∀ a, a < 20 → ∀ b, b < 20 → a ≠ b → (TX7 a).2.1 ≠ (TX7 b).2.1 := by decide +kernel
theorem tyX7_ok : ∀ k, k < 20 → parseFieldDescriptor (TX7 k).2.2.1 = some (tyX7 k) := by decide +kernel
abbrev cX7_init : ByteArray := prog_9_method_1_code
def yX7_init : MethodName := ⟨RX7, "<init>", "()V"⟩
abbrev cX7_error : ByteArray := prog_9_method_2_code
def yX7_error : MethodName := ⟨RX7, "error", "(I)I"⟩
abbrev cX7_in : ByteArray := prog_9_method_3_code
def yX7_in : MethodName := ⟨RX7, "in", "(III)Z"⟩
abbrev cX7_held : ByteArray := prog_9_method_4_code
def yX7_held : MethodName := ⟨RX7, "held", "(III)I"⟩
abbrev cX7_copyAll : ByteArray := prog_9_method_5_code
def yX7_copyAll : MethodName := ⟨RX7, "copyAll", "([I[I)V"⟩
abbrev cX7_bits : ByteArray := prog_9_method_6_code
def yX7_bits : MethodName := ⟨RX7, "bits", "(I)I"⟩
abbrev cX7_isHand : ByteArray := prog_9_method_7_code
def yX7_isHand : MethodName := ⟨RX7, "isHand", "(I)Z"⟩
abbrev cX7_isHome : ByteArray := prog_9_method_8_code
def yX7_isHome : MethodName := ⟨RX7, "isHome", "(I)Z"⟩
abbrev cX7_isPerson : ByteArray := prog_9_method_9_code
def yX7_isPerson : MethodName := ⟨RX7, "isPerson", "(I)Z"⟩
abbrev cX7_becomes : ByteArray := prog_9_method_10_code
def yX7_becomes : MethodName := ⟨RX7, "becomes", "(II)I"⟩
abbrev cX7_of : ByteArray := prog_9_method_11_code
def yX7_of : MethodName := ⟨RX7, "of", "(II)I"⟩
abbrev cX7_markOf : ByteArray := prog_9_method_12_code
def yX7_markOf : MethodName := ⟨RX7, "markOf", "(II)I"⟩
abbrev cX7_apart : ByteArray := prog_9_method_13_code
def yX7_apart : MethodName := ⟨RX7, "apart", "(III)I"⟩
abbrev cX7_hand : ByteArray := prog_9_method_14_code
def yX7_hand : MethodName := ⟨RX7, "hand", "(II)I"⟩
abbrev cX7_homesOn : ByteArray := prog_9_method_15_code
def yX7_homesOn : MethodName := ⟨RX7, "homesOn", "(I)I"⟩
abbrev cX7_handIs : ByteArray := prog_9_method_16_code
def yX7_handIs : MethodName := ⟨RX7, "handIs", "(II)I"⟩
abbrev cX7_frost : ByteArray := prog_9_method_17_code
def yX7_frost : MethodName := ⟨RX7, "frost", "(II)I"⟩
abbrev cX7_home : ByteArray := prog_9_method_18_code
def yX7_home : MethodName := ⟨RX7, "home", "(II)I"⟩
abbrev cX7_worthOf : ByteArray := prog_9_method_19_code
def yX7_worthOf : MethodName := ⟨RX7, "worthOf", "(II)I"⟩
abbrev cX7_whoIn : ByteArray := prog_9_method_20_code
def yX7_whoIn : MethodName := ⟨RX7, "whoIn", "(I)I"⟩
abbrev cX7_homeIs : ByteArray := prog_9_method_21_code
def yX7_homeIs : MethodName := ⟨RX7, "homeIs", "(II)I"⟩
abbrev cX7_isKm : ByteArray := prog_9_method_22_code
def yX7_isKm : MethodName := ⟨RX7, "isKm", "(I)Z"⟩
abbrev cX7_person : ByteArray := prog_9_method_23_code
def yX7_person : MethodName := ⟨RX7, "person", "(II)I"⟩
abbrev cX7_leapsOf : ByteArray := prog_9_method_24_code
def yX7_leapsOf : MethodName := ⟨RX7, "leapsOf", "(II)I"⟩
abbrev cX7_spansOf : ByteArray := prog_9_method_25_code
def yX7_spansOf : MethodName := ⟨RX7, "spansOf", "(I)I"⟩
abbrev cX7_isInReach : ByteArray := prog_9_method_26_code
def yX7_isInReach : MethodName := ⟨RX7, "isInReach", "(IIIII)Z"⟩
abbrev cX7_doesGet : ByteArray := prog_9_method_27_code
def yX7_doesGet : MethodName := ⟨RX7, "doesGet", "(IIII)Z"⟩
abbrev cX7_onward : ByteArray := prog_9_method_28_code
def yX7_onward : MethodName := ⟨RX7, "onward", "(III)I"⟩
abbrev cX7_findReach : ByteArray := prog_9_method_29_code
def yX7_findReach : MethodName := ⟨RX7, "findReach", "(II)V"⟩
abbrev cX7_roomsBut : ByteArray := prog_9_method_30_code
def yX7_roomsBut : MethodName := ⟨RX7, "roomsBut", "(III)I"⟩
abbrev cX7_roomsBy : ByteArray := prog_9_method_31_code
def yX7_roomsBy : MethodName := ⟨RX7, "roomsBy", "(II)I"⟩
abbrev cX7_personIs : ByteArray := prog_9_method_32_code
def yX7_personIs : MethodName := ⟨RX7, "personIs", "(II)I"⟩
abbrev cX7_become : ByteArray := prog_9_method_33_code
def yX7_become : MethodName := ⟨RX7, "become", "(II)I"⟩
abbrev cX7_as : ByteArray := prog_9_method_34_code
def yX7_as : MethodName := ⟨RX7, "as", "(II)I"⟩
abbrev cX7_jump : ByteArray := prog_9_method_35_code
def yX7_jump : MethodName := ⟨RX7, "jump", "(II)I"⟩
abbrev cX7_feed : ByteArray := prog_9_method_36_code
def yX7_feed : MethodName := ⟨RX7, "feed", "(JI)I"⟩
abbrev cX7_look : ByteArray := prog_9_method_37_code
def yX7_look : MethodName := ⟨RX7, "look", "()I"⟩
abbrev cX7_step : ByteArray := prog_9_method_38_code
def yX7_step : MethodName := ⟨RX7, "step", "(II)V"⟩
abbrev cX7_nameOf : ByteArray := prog_9_method_39_code
def yX7_nameOf : MethodName := ⟨RX7, "nameOf", "(I)I"⟩
abbrev cX7_number : ByteArray := prog_9_method_40_code
def yX7_number : MethodName := ⟨RX7, "number", "()V"⟩
abbrev cX7_opens : ByteArray := prog_9_method_41_code
def yX7_opens : MethodName := ⟨RX7, "opens", "(I)V"⟩
abbrev cX7_one : ByteArray := prog_9_method_42_code
def yX7_one : MethodName := ⟨RX7, "one", "()V"⟩
abbrev cX7_times : ByteArray := prog_9_method_43_code
def yX7_times : MethodName := ⟨RX7, "times", "()V"⟩
abbrev cX7_sum : ByteArray := prog_9_method_44_code
def yX7_sum : MethodName := ⟨RX7, "sum", "()V"⟩
abbrev cX7_compares : ByteArray := prog_9_method_45_code
def yX7_compares : MethodName := ⟨RX7, "compares", "()V"⟩
abbrev cX7_all : ByteArray := prog_9_method_46_code
def yX7_all : MethodName := ⟨RX7, "all", "()V"⟩
abbrev cX7_any : ByteArray := prog_9_method_47_code
def yX7_any : MethodName := ⟨RX7, "any", "()V"⟩
abbrev cX7_text : ByteArray := prog_9_method_48_code
def yX7_text : MethodName := ⟨RX7, "text", "(I)I"⟩
abbrev cX7_untell : ByteArray := prog_9_method_49_code
def yX7_untell : MethodName := ⟨RX7, "untell", "(I)I"⟩
abbrev cX7_twoOf : ByteArray := prog_9_method_50_code
def yX7_twoOf : MethodName := ⟨RX7, "twoOf", "(III)I"⟩
abbrev cX7_works : ByteArray := prog_9_method_51_code
def yX7_works : MethodName := ⟨RX7, "works", "(I)I"⟩
abbrev cX7_gives : ByteArray := prog_9_method_52_code
def yX7_gives : MethodName := ⟨RX7, "gives", "(IIII)I"⟩
abbrev cX7_law : ByteArray := prog_9_method_53_code
def yX7_law : MethodName := ⟨RX7, "law", "(IIII)I"⟩
abbrev cX7_minutes : ByteArray := prog_9_method_54_code
def yX7_minutes : MethodName := ⟨RX7, "minutes", "(I)I"⟩
abbrev cX7_draw : ByteArray := prog_9_method_55_code
def yX7_draw : MethodName := ⟨RX7, "draw", "()I"⟩
abbrev cX7_drawn : ByteArray := prog_9_method_56_code
def yX7_drawn : MethodName := ⟨RX7, "drawn", "()I"⟩
abbrev cX7_loose : ByteArray := prog_9_method_57_code
def yX7_loose : MethodName := ⟨RX7, "loose", "(I)I"⟩
abbrev cX7_seed : ByteArray := prog_9_method_58_code
def yX7_seed : MethodName := ⟨RX7, "seed", "(I)I"⟩
abbrev cX7_markAt : ByteArray := prog_9_method_59_code
def yX7_markAt : MethodName := ⟨RX7, "markAt", "(II)I"⟩
abbrev cX7_meet : ByteArray := prog_9_method_60_code
def yX7_meet : MethodName := ⟨RX7, "meet", "(II)I"⟩
abbrev cX7_doAllMeet : ByteArray := prog_9_method_61_code
def yX7_doAllMeet : MethodName := ⟨RX7, "doAllMeet", "(I)Z"⟩
abbrev cX7_council : ByteArray := prog_9_method_62_code
def yX7_council : MethodName := ⟨RX7, "council", "()I"⟩
abbrev cX7_soonest : ByteArray := prog_9_method_63_code
def yX7_soonest : MethodName := ⟨RX7, "soonest", "(II)I"⟩
abbrev cX7_rooms : ByteArray := prog_9_method_64_code
def yX7_rooms : MethodName := ⟨RX7, "rooms", "(II)I"⟩
abbrev cX7_watch : ByteArray := prog_9_method_65_code
def yX7_watch : MethodName := ⟨RX7, "watch", "(IIII)I"⟩
abbrev cX7_best : ByteArray := prog_9_method_66_code
def yX7_best : MethodName := ⟨RX7, "best", "(III)I"⟩
abbrev cX7_odds : ByteArray := prog_9_method_67_code
def yX7_odds : MethodName := ⟨RX7, "odds", "(III)I"⟩
abbrev cX7_fits : ByteArray := prog_9_method_68_code
def yX7_fits : MethodName := ⟨RX7, "fits", "(I)I"⟩
abbrev cX7_begins : ByteArray := prog_9_method_69_code
def yX7_begins : MethodName := ⟨RX7, "begins", "(I)V"⟩
abbrev cX7_plainHails : ByteArray := prog_9_method_70_code
def yX7_plainHails : MethodName := ⟨RX7, "plainHails", "(II)I"⟩
abbrev cX7_jumperHails : ByteArray := prog_9_method_71_code
def yX7_jumperHails : MethodName := ⟨RX7, "jumperHails", "(II)I"⟩
abbrev cX7_hails : ByteArray := prog_9_method_72_code
def yX7_hails : MethodName := ⟨RX7, "hails", "(II)I"⟩
abbrev cX7_plainBows : ByteArray := prog_9_method_73_code
def yX7_plainBows : MethodName := ⟨RX7, "plainBows", "(II)I"⟩
abbrev cX7_widowBows : ByteArray := prog_9_method_74_code
def yX7_widowBows : MethodName := ⟨RX7, "widowBows", "(II)I"⟩
abbrev cX7_bows : ByteArray := prog_9_method_75_code
def yX7_bows : MethodName := ⟨RX7, "bows", "(II)I"⟩
abbrev cX7_plainRings : ByteArray := prog_9_method_76_code
def yX7_plainRings : MethodName := ⟨RX7, "plainRings", "(II)I"⟩
abbrev cX7_rings : ByteArray := prog_9_method_77_code
def yX7_rings : MethodName := ⟨RX7, "rings", "(II)I"⟩
abbrev cX7_plainParts : ByteArray := prog_9_method_78_code
def yX7_plainParts : MethodName := ⟨RX7, "plainParts", "(II)I"⟩
abbrev cX7_parts : ByteArray := prog_9_method_79_code
def yX7_parts : MethodName := ⟨RX7, "parts", "(II)I"⟩
abbrev cX7_voice : ByteArray := prog_9_method_80_code
def yX7_voice : MethodName := ⟨RX7, "voice", "(III)I"⟩
abbrev cX7_body : ByteArray := prog_9_method_81_code
def yX7_body : MethodName := ⟨RX7, "body", "(I)I"⟩
abbrev cX7_isSheet : ByteArray := prog_9_method_82_code
def yX7_isSheet : MethodName := ⟨RX7, "isSheet", "(I)Z"⟩
abbrev cX7_sheet : ByteArray := prog_9_method_83_code
def yX7_sheet : MethodName := ⟨RX7, "sheet", "(III)I"⟩
abbrev cX7_notThere : ByteArray := prog_9_method_84_code
def yX7_notThere : MethodName := ⟨RX7, "notThere", "(I)I"⟩
abbrev cX7_put : ByteArray := prog_9_method_85_code
def yX7_put : MethodName := ⟨RX7, "put", "(III)I"⟩
abbrev cX7_notMoved : ByteArray := prog_9_method_86_code
def yX7_notMoved : MethodName := ⟨RX7, "notMoved", "(IIIII)I"⟩
abbrev cX7_move : ByteArray := prog_9_method_87_code
def yX7_move : MethodName := ⟨RX7, "move", "(IIIII)I"⟩
abbrev cX7_offsets : ByteArray := prog_9_method_88_code
def yX7_offsets : MethodName := ⟨RX7, "offsets", "(I)I"⟩
abbrev cX7_judge : ByteArray := prog_9_method_89_code
def yX7_judge : MethodName := ⟨RX7, "judge", "(I)I"⟩
abbrev cX7_image : ByteArray := prog_9_method_90_code
def yX7_image : MethodName := ⟨RX7, "image", "()I"⟩
abbrev cX7_restore : ByteArray := prog_9_method_91_code
def yX7_restore : MethodName := ⟨RX7, "restore", "()I"⟩
abbrev cX7_tell : ByteArray := prog_9_method_92_code
def yX7_tell : MethodName := ⟨RX7, "tell", "(I)I"⟩
abbrev cX7_check : ByteArray := prog_9_method_93_code
def yX7_check : MethodName := ⟨RX7, "check", "()I"⟩
abbrev cX7_count : ByteArray := prog_9_method_94_code
def yX7_count : MethodName := ⟨RX7, "count", "(I)I"⟩
abbrev cX7_told : ByteArray := prog_9_method_95_code
def yX7_told : MethodName := ⟨RX7, "told", "(I)I"⟩
def RJ11 : String := "java/lang/Character"
def TJ11 : u_T := fun k => match k with
  | _ => ("", "", "", false)
def tyJ11 : Nat → FieldType := fun k => match k with
  | _ => .int
abbrev wsJ110 : List Cond := u_ws RJ11 TJ11 0
theorem nmJ11 : ∀ a, a < 0 → ∀ b, b < 0 → a ≠ b → (TJ11 a).2.1 ≠ (TJ11 b).2.1 := by decide +kernel
theorem tyJ11_ok : ∀ k, k < 0 → parseFieldDescriptor (TJ11 k).2.2.1 = some (tyJ11 k) := by decide +kernel
abbrev cJ11_isValidCodePoint_9a6ad : ByteArray := prog_10_method_11_code
def yJ11_isValidCodePoint_9a6ad : MethodName := ⟨RJ11, "isValidCodePoint", "(I)Z"⟩
abbrev cJ11_highSurrogate_5068e : ByteArray := prog_10_method_28_code
def yJ11_highSurrogate_5068e : MethodName := ⟨RJ11, "highSurrogate", "(I)C"⟩
abbrev cJ11_lowSurrogate_5068e : ByteArray := prog_10_method_29_code
def yJ11_lowSurrogate_5068e : MethodName := ⟨RJ11, "lowSurrogate", "(I)C"⟩
def RJ6 : String := "java/lang/Integer"
def TJ6 : u_T := fun k => match k with
  | _ => ("", "", "", false)
def tyJ6 : Nat → FieldType := fun k => match k with
  | _ => .int
abbrev wsJ60 : List Cond := u_ws RJ6 TJ6 0
theorem nmJ6 : ∀ a, a < 0 → ∀ b, b < 0 → a ≠ b → (TJ6 a).2.1 ≠ (TJ6 b).2.1 := by decide +kernel
theorem tyJ6_ok : ∀ k, k < 0 → parseFieldDescriptor (TJ6 k).2.2.1 = some (tyJ6 k) := by decide +kernel
abbrev cJ6_bitCount_0f7a4 : ByteArray := prog_11_method_49_code
def yJ6_bitCount_0f7a4 : MethodName := ⟨RJ6, "bitCount", "(I)I"⟩
def RJ9 : String := "java/lang/Math"
def TJ9 : u_T := fun k => match k with
  | _ => ("", "", "", false)
def tyJ9 : Nat → FieldType := fun k => match k with
  | _ => .int
abbrev wsJ90 : List Cond := u_ws RJ9 TJ9 0
theorem nmJ9 : ∀ a, a < 0 → ∀ b, b < 0 → a ≠ b → (TJ9 a).2.1 ≠ (TJ9 b).2.1 := by decide +kernel
theorem tyJ9_ok : ∀ k, k < 0 → parseFieldDescriptor (TJ9 k).2.2.1 = some (tyJ9 k) := by decide +kernel
abbrev cJ9_floorMod_7cf53 : ByteArray := prog_12_method_50_code
def yJ9_floorMod_7cf53 : MethodName := ⟨RJ9, "floorMod", "(II)I"⟩
abbrev cJ9_abs_0f7a4 : ByteArray := prog_12_method_59_code
def yJ9_abs_0f7a4 : MethodName := ⟨RJ9, "abs", "(I)I"⟩
abbrev cJ9_max_7cf53 : ByteArray := prog_12_method_65_code
def yJ9_max_7cf53 : MethodName := ⟨RJ9, "max", "(II)I"⟩
abbrev cJ9_min_7cf53 : ByteArray := prog_12_method_69_code
def yJ9_min_7cf53 : MethodName := ⟨RJ9, "min", "(II)I"⟩
def RJ0 : String := "java/lang/String"
def TJ0 : u_T := fun k => match k with
  | _ => ("", "", "", false)
def tyJ0 : Nat → FieldType := fun k => match k with
  | _ => .int
abbrev wsJ00 : List Cond := u_ws RJ0 TJ0 0
theorem nmJ0 : ∀ a, a < 0 → ∀ b, b < 0 → a ≠ b → (TJ0 a).2.1 ≠ (TJ0 b).2.1 := by decide +kernel
theorem tyJ0_ok : ∀ k, k < 0 → parseFieldDescriptor (TJ0 k).2.2.1 = some (tyJ0 k) := by decide +kernel
abbrev cJ0_length_8abf5 : ByteArray := prog_13_method_54_code
def yJ0_length_8abf5 : MethodName := ⟨RJ0, "length", "()I"⟩
abbrev cJ0_indexOf_0f7a4 : ByteArray := prog_13_method_79_code
def yJ0_indexOf_0f7a4 : MethodName := ⟨RJ0, "indexOf", "(I)I"⟩
abbrev cJ0_indexOf_7cf53 : ByteArray := prog_13_method_80_code
def yJ0_indexOf_7cf53 : MethodName := ⟨RJ0, "indexOf", "(II)I"⟩
abbrev cJ0_coder_7d493 : ByteArray := prog_13_method_152_code
def yJ0_coder_7d493 : MethodName := ⟨RJ0, "coder", "()B"⟩
abbrev cJ0_isLatin1_aae02 : ByteArray := prog_13_method_154_code
def yJ0_isLatin1_aae02 : MethodName := ⟨RJ0, "isLatin1", "()Z"⟩
abbrev cJ0_checkBoundsBeginEnd_23922 : ByteArray := prog_13_method_158_code
def yJ0_checkBoundsBeginEnd_23922 : MethodName := ⟨RJ0, "checkBoundsBeginEnd", "(III)V"⟩
def RJ1 : String := "java/lang/StringLatin1"
def TJ1 : u_T := fun k => match k with
  | _ => ("", "", "", false)
def tyJ1 : Nat → FieldType := fun k => match k with
  | _ => .int
abbrev wsJ10 : List Cond := u_ws RJ1 TJ1 0
theorem nmJ1 : ∀ a, a < 0 → ∀ b, b < 0 → a ≠ b → (TJ1 a).2.1 ≠ (TJ1 b).2.1 := by decide +kernel
theorem tyJ1_ok : ∀ k, k < 0 → parseFieldDescriptor (TJ1 k).2.2.1 = some (tyJ1 k) := by decide +kernel
abbrev cJ1_canEncode_9a6ad : ByteArray := prog_14_method_4_code
def yJ1_canEncode_9a6ad : MethodName := ⟨RJ1, "canEncode", "(I)Z"⟩
abbrev cJ1_indexOf_4cfef : ByteArray := prog_14_method_22_code
def yJ1_indexOf_4cfef : MethodName := ⟨RJ1, "indexOf", "([BIII)I"⟩
abbrev cJ1_indexOfChar_4cfef : ByteArray := prog_14_method_23_code
def yJ1_indexOfChar_4cfef : MethodName := ⟨RJ1, "indexOfChar", "([BIII)I"⟩
def RJ2 : String := "java/lang/StringUTF16"
def TJ2 : u_T := fun k => match k with
  | _ => ("", "", "", false)
def tyJ2 : Nat → FieldType := fun k => match k with
  | _ => .int
abbrev wsJ20 : List Cond := u_ws RJ2 TJ2 0
theorem nmJ2 : ∀ a, a < 0 → ∀ b, b < 0 → a ≠ b → (TJ2 a).2.1 ≠ (TJ2 b).2.1 := by decide +kernel
theorem tyJ2_ok : ∀ k, k < 0 → parseFieldDescriptor (TJ2 k).2.2.1 = some (tyJ2 k) := by decide +kernel
abbrev cJ2_getChar_3b067 : ByteArray := prog_15_method_5_code
def yJ2_getChar_3b067 : MethodName := ⟨RJ2, "getChar", "([BI)C"⟩
abbrev cJ2_length_9d52b : ByteArray := prog_15_method_6_code
def yJ2_length_9d52b : MethodName := ⟨RJ2, "length", "([B)I"⟩
abbrev cJ2_indexOf_4cfef : ByteArray := prog_15_method_40_code
def yJ2_indexOf_4cfef : MethodName := ⟨RJ2, "indexOf", "([BIII)I"⟩
abbrev cJ2_indexOfChar_4cfef : ByteArray := prog_15_method_47_code
def yJ2_indexOfChar_4cfef : MethodName := ⟨RJ2, "indexOfChar", "([BIII)I"⟩
abbrev cJ2_indexOfCharUnsafe_4cfef : ByteArray := prog_15_method_48_code
def yJ2_indexOfCharUnsafe_4cfef : MethodName := ⟨RJ2, "indexOfCharUnsafe", "([BIII)I"⟩
abbrev cJ2_indexOfSupplementary_4cfef : ByteArray := prog_15_method_49_code
def yJ2_indexOfSupplementary_4cfef : MethodName := ⟨RJ2, "indexOfSupplementary", "([BIII)I"⟩
abbrev cJ2_checkBoundsBeginEnd_d044e : ByteArray := prog_15_method_93_code
def yJ2_checkBoundsBeginEnd_d044e : MethodName := ⟨RJ2, "checkBoundsBeginEnd", "(II[B)V"⟩
def RJ10 : String := "java/lang/System"
def TJ10 : u_T := fun k => match k with
  | _ => ("", "", "", false)
def tyJ10 : Nat → FieldType := fun k => match k with
  | _ => .int
abbrev wsJ100 : List Cond := u_ws RJ10 TJ10 0
theorem nmJ10 : ∀ a, a < 0 → ∀ b, b < 0 → a ≠ b → (TJ10 a).2.1 ≠ (TJ10 b).2.1 := by decide +kernel
theorem tyJ10_ok : ∀ k, k < 0 → parseFieldDescriptor (TJ10 k).2.2.1 = some (tyJ10 k) := by decide +kernel
def RJ3 : String := "jdk/internal/util/Preconditions"
def TJ3 : u_T := fun k => match k with
  | _ => ("", "", "", false)
def tyJ3 : Nat → FieldType := fun k => match k with
  | _ => .int
abbrev wsJ30 : List Cond := u_ws RJ3 TJ3 0
theorem nmJ3 : ∀ a, a < 0 → ∀ b, b < 0 → a ≠ b → (TJ3 a).2.1 ≠ (TJ3 b).2.1 := by decide +kernel
theorem tyJ3_ok : ∀ k, k < 0 → parseFieldDescriptor (TJ3 k).2.2.1 = some (tyJ3 k) := by decide +kernel
abbrev cJ3_checkFromToIndex_8c36e : ByteArray := prog_17_method_12_code
def yJ3_checkFromToIndex_8c36e : MethodName := ⟨RJ3, "checkFromToIndex", "(IIILjava/util/function/BiFunction;)I"⟩
def RL : String := "HandTownLaw"
abbrev cL_law : ByteArray := code
def yL_law : MethodName := ⟨RL, "law", "([I)Z"⟩
abbrev vwCl : List vw_C := [(RX0, TX0, 3), (RX1, TX1, 5), (RX2, TX2, 3), (RX3, TX3, 17), (RX4, TX4, 6), (RX5, TX5, 6), (RX6, TX6, 8), (RX7, TX7, 20)]
