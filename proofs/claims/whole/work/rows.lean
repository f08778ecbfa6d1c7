section
-- ===== PART A: goes FIRST, ahead of the names: the tables' words, and 'selects' of the private methods out of them =====
/-- a private method of a class that the tables say can be made, by its rows of tables_1 -/
def lw_okq (q : MethodName × Nat) : Prop := (q.1.cls ≠ "java/lang/invoke/MethodHandle" ∧ q.1.cls ≠ "java/lang/invoke/VarHandle") ∧ Cond.instantiable q.1.cls q.2 ∈ tables_1 ∧ Cond.privateMethod q.1 ∈ tables_1 ∧ Cond.instanceMethod q.1 ∈ tables_1
theorem lw_p0 : lw_okq (⟨"PieceSwarm$Crowd", "loseParcelsOf", "(I)V"⟩, 8) := ⟨⟨by decide +kernel, by decide +kernel⟩, List.mem_of_getElem? (i := 23) (by decide +kernel), List.mem_of_getElem? (i := 439) (by decide +kernel), List.mem_of_getElem? (i := 440) (by decide +kernel)⟩
theorem lw_p1 : lw_okq (⟨"PieceSwarm$Arrival", "take", "(IIIII)V"⟩, 1) := ⟨⟨by decide +kernel, by decide +kernel⟩, List.mem_of_getElem? (i := 306) (by decide +kernel), List.mem_of_getElem? (i := 463) (by decide +kernel), List.mem_of_getElem? (i := 464) (by decide +kernel)⟩
theorem lw_p2 : lw_okq (⟨"PieceSwarm$Arrival", "isSpare", "(LPieceSwarm$Store;III)Z"⟩, 1) := ⟨⟨by decide +kernel, by decide +kernel⟩, List.mem_of_getElem? (i := 306) (by decide +kernel), List.mem_of_getElem? (i := 468) (by decide +kernel), List.mem_of_getElem? (i := 469) (by decide +kernel)⟩
theorem lw_p3 : lw_okq (⟨"PieceSwarm$Arrival", "complete", "(LPieceSwarm$Member;I)V"⟩, 1) := ⟨⟨by decide +kernel, by decide +kernel⟩, List.mem_of_getElem? (i := 306) (by decide +kernel), List.mem_of_getElem? (i := 500) (by decide +kernel), List.mem_of_getElem? (i := 501) (by decide +kernel)⟩
theorem lw_p4 : lw_okq (⟨"PieceSwarm$Arrival", "fail", "(II)V"⟩, 1) := ⟨⟨by decide +kernel, by decide +kernel⟩, List.mem_of_getElem? (i := 306) (by decide +kernel), List.mem_of_getElem? (i := 505) (by decide +kernel), List.mem_of_getElem? (i := 506) (by decide +kernel)⟩
theorem lw_p5 : lw_okq (⟨"PieceSwarm$Arrival", "ban", "(II)V"⟩, 1) := ⟨⟨by decide +kernel, by decide +kernel⟩, List.mem_of_getElem? (i := 306) (by decide +kernel), List.mem_of_getElem? (i := 509) (by decide +kernel), List.mem_of_getElem? (i := 510) (by decide +kernel)⟩
theorem lw_p6 : lw_okq (⟨"PieceSwarm$Opening", "openAnew", "(I)V"⟩, 1) := ⟨⟨by decide +kernel, by decide +kernel⟩, List.mem_of_getElem? (i := 316) (by decide +kernel), List.mem_of_getElem? (i := 523) (by decide +kernel), List.mem_of_getElem? (i := 524) (by decide +kernel)⟩
theorem lw_p7 : lw_okq (⟨"PieceSwarm$Opening", "latest", "(LPieceSwarm$Member;I)I"⟩, 1) := ⟨⟨by decide +kernel, by decide +kernel⟩, List.mem_of_getElem? (i := 316) (by decide +kernel), List.mem_of_getElem? (i := 545) (by decide +kernel), List.mem_of_getElem? (i := 546) (by decide +kernel)⟩
theorem lw_p8 : lw_okq (⟨"PieceSwarm$Opening", "nextByTurns", "(II)I"⟩, 1) := ⟨⟨by decide +kernel, by decide +kernel⟩, List.mem_of_getElem? (i := 316) (by decide +kernel), List.mem_of_getElem? (i := 560) (by decide +kernel), List.mem_of_getElem? (i := 561) (by decide +kernel)⟩
theorem lw_p9 : lw_okq (⟨"PieceSwarm$Asking", "dropStrandedOf", "(LPieceSwarm$Store;I)V"⟩, 1) := ⟨⟨by decide +kernel, by decide +kernel⟩, List.mem_of_getElem? (i := 326) (by decide +kernel), List.mem_of_getElem? (i := 574) (by decide +kernel), List.mem_of_getElem? (i := 575) (by decide +kernel)⟩
theorem lw_p10 : lw_okq (⟨"PieceSwarm$Asking", "askOne", "(I)Z"⟩, 1) := ⟨⟨by decide +kernel, by decide +kernel⟩, List.mem_of_getElem? (i := 326) (by decide +kernel), List.mem_of_getElem? (i := 584) (by decide +kernel), List.mem_of_getElem? (i := 585) (by decide +kernel)⟩
theorem lw_p11 : lw_okq (⟨"PieceSwarm$Asking", "giversTo", "(I)I"⟩, 1) := ⟨⟨by decide +kernel, by decide +kernel⟩, List.mem_of_getElem? (i := 326) (by decide +kernel), List.mem_of_getElem? (i := 593) (by decide +kernel), List.mem_of_getElem? (i := 594) (by decide +kernel)⟩
theorem lw_p12 : lw_okq (⟨"PieceSwarm$Asking", "pickPiece", "(II)I"⟩, 1) := ⟨⟨by decide +kernel, by decide +kernel⟩, List.mem_of_getElem? (i := 326) (by decide +kernel), List.mem_of_getElem? (i := 597) (by decide +kernel), List.mem_of_getElem? (i := 598) (by decide +kernel)⟩
theorem lw_p13 : lw_okq (⟨"PieceSwarm$Asking", "giversThatMayBe", "(III)I"⟩, 1) := ⟨⟨by decide +kernel, by decide +kernel⟩, List.mem_of_getElem? (i := 326) (by decide +kernel), List.mem_of_getElem? (i := 605) (by decide +kernel), List.mem_of_getElem? (i := 606) (by decide +kernel)⟩
theorem lw_p14 : lw_okq (⟨"PieceSwarm$Asking", "askAtEnd", "(II)Z"⟩, 1) := ⟨⟨by decide +kernel, by decide +kernel⟩, List.mem_of_getElem? (i := 326) (by decide +kernel), List.mem_of_getElem? (i := 631) (by decide +kernel), List.mem_of_getElem? (i := 632) (by decide +kernel)⟩
theorem lw_p15 : lw_okq (⟨"PieceSwarm$Asking", "readiest", "(I)I"⟩, 1) := ⟨⟨by decide +kernel, by decide +kernel⟩, List.mem_of_getElem? (i := 326) (by decide +kernel), List.mem_of_getElem? (i := 641) (by decide +kernel), List.mem_of_getElem? (i := 642) (by decide +kernel)⟩
def lw_privs_1 : List (MethodName × Nat) := [(⟨"PieceSwarm$Crowd", "loseParcelsOf", "(I)V"⟩, 8), (⟨"PieceSwarm$Arrival", "take", "(IIIII)V"⟩, 1), (⟨"PieceSwarm$Arrival", "isSpare", "(LPieceSwarm$Store;III)Z"⟩, 1), (⟨"PieceSwarm$Arrival", "complete", "(LPieceSwarm$Member;I)V"⟩, 1), (⟨"PieceSwarm$Arrival", "fail", "(II)V"⟩, 1), (⟨"PieceSwarm$Arrival", "ban", "(II)V"⟩, 1), (⟨"PieceSwarm$Opening", "openAnew", "(I)V"⟩, 1), (⟨"PieceSwarm$Opening", "latest", "(LPieceSwarm$Member;I)I"⟩, 1), (⟨"PieceSwarm$Opening", "nextByTurns", "(II)I"⟩, 1), (⟨"PieceSwarm$Asking", "dropStrandedOf", "(LPieceSwarm$Store;I)V"⟩, 1), (⟨"PieceSwarm$Asking", "askOne", "(I)Z"⟩, 1), (⟨"PieceSwarm$Asking", "giversTo", "(I)I"⟩, 1), (⟨"PieceSwarm$Asking", "pickPiece", "(II)I"⟩, 1), (⟨"PieceSwarm$Asking", "giversThatMayBe", "(III)I"⟩, 1), (⟨"PieceSwarm$Asking", "askAtEnd", "(II)Z"⟩, 1), (⟨"PieceSwarm$Asking", "readiest", "(I)I"⟩, 1)]
theorem lw_r1 : ∀ q ∈ lw_privs_1, lw_okq q := List.forall_mem_cons.mpr ⟨lw_p0, List.forall_mem_cons.mpr ⟨lw_p1, List.forall_mem_cons.mpr ⟨lw_p2, List.forall_mem_cons.mpr ⟨lw_p3, List.forall_mem_cons.mpr ⟨lw_p4, List.forall_mem_cons.mpr ⟨lw_p5, List.forall_mem_cons.mpr ⟨lw_p6, List.forall_mem_cons.mpr ⟨lw_p7, List.forall_mem_cons.mpr ⟨lw_p8, List.forall_mem_cons.mpr ⟨lw_p9, List.forall_mem_cons.mpr ⟨lw_p10, List.forall_mem_cons.mpr ⟨lw_p11, List.forall_mem_cons.mpr ⟨lw_p12, List.forall_mem_cons.mpr ⟨lw_p13, List.forall_mem_cons.mpr ⟨lw_p14, List.forall_mem_cons.mpr ⟨lw_p15, fun _ h => absurd h List.not_mem_nil⟩⟩⟩⟩⟩⟩⟩⟩⟩⟩⟩⟩⟩⟩⟩⟩
theorem lw_p16 : lw_okq (⟨"PieceSwarm$Asking", "send", "(IIII)Z"⟩, 1) := ⟨⟨by decide +kernel, by decide +kernel⟩, List.mem_of_getElem? (i := 326) (by decide +kernel), List.mem_of_getElem? (i := 645) (by decide +kernel), List.mem_of_getElem? (i := 646) (by decide +kernel)⟩
theorem lw_p17 : lw_okq (⟨"PieceSwarmModel", "isBlock", "(II)Z"⟩, 45) := ⟨⟨by decide +kernel, by decide +kernel⟩, List.mem_of_getElem? (i := 744) (by decide +kernel), List.mem_of_getElem? (i := 898) (by decide +kernel), List.mem_of_getElem? (i := 899) (by decide +kernel)⟩
theorem lw_p18 : lw_okq (⟨"PieceSwarmModel", "valueOf", "(II)I"⟩, 45) := ⟨⟨by decide +kernel, by decide +kernel⟩, List.mem_of_getElem? (i := 744) (by decide +kernel), List.mem_of_getElem? (i := 902) (by decide +kernel), List.mem_of_getElem? (i := 903) (by decide +kernel)⟩
theorem lw_p19 : lw_okq (⟨"PieceSwarmModel", "sumOf", "(I)I"⟩, 45) := ⟨⟨by decide +kernel, by decide +kernel⟩, List.mem_of_getElem? (i := 744) (by decide +kernel), List.mem_of_getElem? (i := 911) (by decide +kernel), List.mem_of_getElem? (i := 912) (by decide +kernel)⟩
theorem lw_p20 : lw_okq (⟨"PieceSwarmModel", "isPeer", "(I)Z"⟩, 45) := ⟨⟨by decide +kernel, by decide +kernel⟩, List.mem_of_getElem? (i := 744) (by decide +kernel), List.mem_of_getElem? (i := 927) (by decide +kernel), List.mem_of_getElem? (i := 928) (by decide +kernel)⟩
theorem lw_p21 : lw_okq (⟨"PieceSwarmModel", "isTwo", "(II)Z"⟩, 45) := ⟨⟨by decide +kernel, by decide +kernel⟩, List.mem_of_getElem? (i := 744) (by decide +kernel), List.mem_of_getElem? (i := 935) (by decide +kernel), List.mem_of_getElem? (i := 936) (by decide +kernel)⟩
theorem lw_p22 : lw_okq (⟨"PieceSwarmModel", "keep", "(II)V"⟩, 45) := ⟨⟨by decide +kernel, by decide +kernel⟩, List.mem_of_getElem? (i := 744) (by decide +kernel), List.mem_of_getElem? (i := 946) (by decide +kernel), List.mem_of_getElem? (i := 947) (by decide +kernel)⟩
theorem lw_p23 : lw_okq (⟨"PieceSwarmModel", "oneTick", "()V"⟩, 45) := ⟨⟨by decide +kernel, by decide +kernel⟩, List.mem_of_getElem? (i := 744) (by decide +kernel), List.mem_of_getElem? (i := 958) (by decide +kernel), List.mem_of_getElem? (i := 959) (by decide +kernel)⟩
theorem lw_p24 : lw_okq (⟨"PieceSwarmModel", "allCome", "(Z)V"⟩, 45) := ⟨⟨by decide +kernel, by decide +kernel⟩, List.mem_of_getElem? (i := 744) (by decide +kernel), List.mem_of_getElem? (i := 962) (by decide +kernel), List.mem_of_getElem? (i := 963) (by decide +kernel)⟩
theorem lw_p25 : lw_okq (⟨"PieceSwarmModel", "comes", "(I)V"⟩, 45) := ⟨⟨by decide +kernel, by decide +kernel⟩, List.mem_of_getElem? (i := 744) (by decide +kernel), List.mem_of_getElem? (i := 966) (by decide +kernel), List.mem_of_getElem? (i := 967) (by decide +kernel)⟩
theorem lw_p26 : lw_okq (⟨"PieceSwarmModel", "isSpare", "(IIII)Z"⟩, 45) := ⟨⟨by decide +kernel, by decide +kernel⟩, List.mem_of_getElem? (i := 744) (by decide +kernel), List.mem_of_getElem? (i := 970) (by decide +kernel), List.mem_of_getElem? (i := 971) (by decide +kernel)⟩
theorem lw_p27 : lw_okq (⟨"PieceSwarmModel", "heldMany", "(II)I"⟩, 45) := ⟨⟨by decide +kernel, by decide +kernel⟩, List.mem_of_getElem? (i := 744) (by decide +kernel), List.mem_of_getElem? (i := 974) (by decide +kernel), List.mem_of_getElem? (i := 975) (by decide +kernel)⟩
theorem lw_p28 : lw_okq (⟨"PieceSwarmModel", "fails", "(II)V"⟩, 45) := ⟨⟨by decide +kernel, by decide +kernel⟩, List.mem_of_getElem? (i := 744) (by decide +kernel), List.mem_of_getElem? (i := 978) (by decide +kernel), List.mem_of_getElem? (i := 979) (by decide +kernel)⟩
theorem lw_p29 : lw_okq (⟨"PieceSwarmModel", "dropPiece", "(II)V"⟩, 45) := ⟨⟨by decide +kernel, by decide +kernel⟩, List.mem_of_getElem? (i := 744) (by decide +kernel), List.mem_of_getElem? (i := 982) (by decide +kernel), List.mem_of_getElem? (i := 983) (by decide +kernel)⟩
theorem lw_p30 : lw_okq (⟨"PieceSwarmModel", "isDone", "(I)Z"⟩, 45) := ⟨⟨by decide +kernel, by decide +kernel⟩, List.mem_of_getElem? (i := 744) (by decide +kernel), List.mem_of_getElem? (i := 986) (by decide +kernel), List.mem_of_getElem? (i := 987) (by decide +kernel)⟩
theorem lw_p31 : lw_okq (⟨"PieceSwarmModel", "hasMany", "(I)I"⟩, 45) := ⟨⟨by decide +kernel, by decide +kernel⟩, List.mem_of_getElem? (i := 744) (by decide +kernel), List.mem_of_getElem? (i := 990) (by decide +kernel), List.mem_of_getElem? (i := 991) (by decide +kernel)⟩
def lw_privs_2 : List (MethodName × Nat) := [(⟨"PieceSwarm$Asking", "send", "(IIII)Z"⟩, 1), (⟨"PieceSwarmModel", "isBlock", "(II)Z"⟩, 45), (⟨"PieceSwarmModel", "valueOf", "(II)I"⟩, 45), (⟨"PieceSwarmModel", "sumOf", "(I)I"⟩, 45), (⟨"PieceSwarmModel", "isPeer", "(I)Z"⟩, 45), (⟨"PieceSwarmModel", "isTwo", "(II)Z"⟩, 45), (⟨"PieceSwarmModel", "keep", "(II)V"⟩, 45), (⟨"PieceSwarmModel", "oneTick", "()V"⟩, 45), (⟨"PieceSwarmModel", "allCome", "(Z)V"⟩, 45), (⟨"PieceSwarmModel", "comes", "(I)V"⟩, 45), (⟨"PieceSwarmModel", "isSpare", "(IIII)Z"⟩, 45), (⟨"PieceSwarmModel", "heldMany", "(II)I"⟩, 45), (⟨"PieceSwarmModel", "fails", "(II)V"⟩, 45), (⟨"PieceSwarmModel", "dropPiece", "(II)V"⟩, 45), (⟨"PieceSwarmModel", "isDone", "(I)Z"⟩, 45), (⟨"PieceSwarmModel", "hasMany", "(I)I"⟩, 45)]
theorem lw_r2 : ∀ q ∈ lw_privs_2, lw_okq q := List.forall_mem_cons.mpr ⟨lw_p16, List.forall_mem_cons.mpr ⟨lw_p17, List.forall_mem_cons.mpr ⟨lw_p18, List.forall_mem_cons.mpr ⟨lw_p19, List.forall_mem_cons.mpr ⟨lw_p20, List.forall_mem_cons.mpr ⟨lw_p21, List.forall_mem_cons.mpr ⟨lw_p22, List.forall_mem_cons.mpr ⟨lw_p23, List.forall_mem_cons.mpr ⟨lw_p24, List.forall_mem_cons.mpr ⟨lw_p25, List.forall_mem_cons.mpr ⟨lw_p26, List.forall_mem_cons.mpr ⟨lw_p27, List.forall_mem_cons.mpr ⟨lw_p28, List.forall_mem_cons.mpr ⟨lw_p29, List.forall_mem_cons.mpr ⟨lw_p30, List.forall_mem_cons.mpr ⟨lw_p31, fun _ h => absurd h List.not_mem_nil⟩⟩⟩⟩⟩⟩⟩⟩⟩⟩⟩⟩⟩⟩⟩⟩
theorem lw_p32 : lw_okq (⟨"PieceSwarmModel", "opens", "(I)V"⟩, 45) := ⟨⟨by decide +kernel, by decide +kernel⟩, List.mem_of_getElem? (i := 744) (by decide +kernel), List.mem_of_getElem? (i := 994) (by decide +kernel), List.mem_of_getElem? (i := 995) (by decide +kernel)⟩
theorem lw_p33 : lw_okq (⟨"PieceSwarmModel", "wants", "(II)Z"⟩, 45) := ⟨⟨by decide +kernel, by decide +kernel⟩, List.mem_of_getElem? (i := 744) (by decide +kernel), List.mem_of_getElem? (i := 998) (by decide +kernel), List.mem_of_getElem? (i := 999) (by decide +kernel)⟩
theorem lw_p34 : lw_okq (⟨"PieceSwarmModel", "isNear", "(II)Z"⟩, 45) := ⟨⟨by decide +kernel, by decide +kernel⟩, List.mem_of_getElem? (i := 744) (by decide +kernel), List.mem_of_getElem? (i := 1002) (by decide +kernel), List.mem_of_getElem? (i := 1003) (by decide +kernel)⟩
theorem lw_p35 : lw_okq (⟨"PieceSwarmModel", "tells", "(II)Z"⟩, 45) := ⟨⟨by decide +kernel, by decide +kernel⟩, List.mem_of_getElem? (i := 744) (by decide +kernel), List.mem_of_getElem? (i := 1006) (by decide +kernel), List.mem_of_getElem? (i := 1007) (by decide +kernel)⟩
theorem lw_p36 : lw_okq (⟨"PieceSwarmModel", "late", "(II)I"⟩, 45) := ⟨⟨by decide +kernel, by decide +kernel⟩, List.mem_of_getElem? (i := 744) (by decide +kernel), List.mem_of_getElem? (i := 1010) (by decide +kernel), List.mem_of_getElem? (i := 1011) (by decide +kernel)⟩
theorem lw_p37 : lw_okq (⟨"PieceSwarmModel", "forgets", "(I)V"⟩, 45) := ⟨⟨by decide +kernel, by decide +kernel⟩, List.mem_of_getElem? (i := 744) (by decide +kernel), List.mem_of_getElem? (i := 1014) (by decide +kernel), List.mem_of_getElem? (i := 1015) (by decide +kernel)⟩
theorem lw_p38 : lw_okq (⟨"PieceSwarmModel", "asks", "(I)Z"⟩, 45) := ⟨⟨by decide +kernel, by decide +kernel⟩, List.mem_of_getElem? (i := 744) (by decide +kernel), List.mem_of_getElem? (i := 1018) (by decide +kernel), List.mem_of_getElem? (i := 1019) (by decide +kernel)⟩
theorem lw_p39 : lw_okq (⟨"PieceSwarmModel", "nextBlock", "(II)I"⟩, 45) := ⟨⟨by decide +kernel, by decide +kernel⟩, List.mem_of_getElem? (i := 744) (by decide +kernel), List.mem_of_getElem? (i := 1022) (by decide +kernel), List.mem_of_getElem? (i := 1023) (by decide +kernel)⟩
theorem lw_p40 : lw_okq (⟨"PieceSwarmModel", "coming", "(III)I"⟩, 45) := ⟨⟨by decide +kernel, by decide +kernel⟩, List.mem_of_getElem? (i := 744) (by decide +kernel), List.mem_of_getElem? (i := 1026) (by decide +kernel), List.mem_of_getElem? (i := 1027) (by decide +kernel)⟩
theorem lw_p41 : lw_okq (⟨"PieceSwarmModel", "bound", "(IIZ)I"⟩, 45) := ⟨⟨by decide +kernel, by decide +kernel⟩, List.mem_of_getElem? (i := 744) (by decide +kernel), List.mem_of_getElem? (i := 1030) (by decide +kernel), List.mem_of_getElem? (i := 1031) (by decide +kernel)⟩
theorem lw_p42 : lw_okq (⟨"PieceSwarmModel", "giver", "(IIII)I"⟩, 45) := ⟨⟨by decide +kernel, by decide +kernel⟩, List.mem_of_getElem? (i := 744) (by decide +kernel), List.mem_of_getElem? (i := 1034) (by decide +kernel), List.mem_of_getElem? (i := 1035) (by decide +kernel)⟩
theorem lw_p43 : lw_okq (⟨"PieceSwarmModel", "isGiver", "(II)Z"⟩, 45) := ⟨⟨by decide +kernel, by decide +kernel⟩, List.mem_of_getElem? (i := 744) (by decide +kernel), List.mem_of_getElem? (i := 1038) (by decide +kernel), List.mem_of_getElem? (i := 1039) (by decide +kernel)⟩
theorem lw_p44 : lw_okq (⟨"PieceSwarmModel", "isBegun", "(II)Z"⟩, 45) := ⟨⟨by decide +kernel, by decide +kernel⟩, List.mem_of_getElem? (i := 744) (by decide +kernel), List.mem_of_getElem? (i := 1042) (by decide +kernel), List.mem_of_getElem? (i := 1043) (by decide +kernel)⟩
theorem lw_p45 : lw_okq (⟨"PieceSwarmModel", "tellers", "(II)I"⟩, 45) := ⟨⟨by decide +kernel, by decide +kernel⟩, List.mem_of_getElem? (i := 744) (by decide +kernel), List.mem_of_getElem? (i := 1046) (by decide +kernel), List.mem_of_getElem? (i := 1047) (by decide +kernel)⟩
theorem lw_p46 : lw_okq (⟨"PieceSwarmModel", "sends", "(IIII)V"⟩, 45) := ⟨⟨by decide +kernel, by decide +kernel⟩, List.mem_of_getElem? (i := 744) (by decide +kernel), List.mem_of_getElem? (i := 1050) (by decide +kernel), List.mem_of_getElem? (i := 1051) (by decide +kernel)⟩
theorem lw_p47 : lw_okq (⟨"PieceSwarmModel", "senderOf", "(III)I"⟩, 45) := ⟨⟨by decide +kernel, by decide +kernel⟩, List.mem_of_getElem? (i := 744) (by decide +kernel), List.mem_of_getElem? (i := 1054) (by decide +kernel), List.mem_of_getElem? (i := 1055) (by decide +kernel)⟩
def lw_privs_3 : List (MethodName × Nat) := [(⟨"PieceSwarmModel", "opens", "(I)V"⟩, 45), (⟨"PieceSwarmModel", "wants", "(II)Z"⟩, 45), (⟨"PieceSwarmModel", "isNear", "(II)Z"⟩, 45), (⟨"PieceSwarmModel", "tells", "(II)Z"⟩, 45), (⟨"PieceSwarmModel", "late", "(II)I"⟩, 45), (⟨"PieceSwarmModel", "forgets", "(I)V"⟩, 45), (⟨"PieceSwarmModel", "asks", "(I)Z"⟩, 45), (⟨"PieceSwarmModel", "nextBlock", "(II)I"⟩, 45), (⟨"PieceSwarmModel", "coming", "(III)I"⟩, 45), (⟨"PieceSwarmModel", "bound", "(IIZ)I"⟩, 45), (⟨"PieceSwarmModel", "giver", "(IIII)I"⟩, 45), (⟨"PieceSwarmModel", "isGiver", "(II)Z"⟩, 45), (⟨"PieceSwarmModel", "isBegun", "(II)Z"⟩, 45), (⟨"PieceSwarmModel", "tellers", "(II)I"⟩, 45), (⟨"PieceSwarmModel", "sends", "(IIII)V"⟩, 45), (⟨"PieceSwarmModel", "senderOf", "(III)I"⟩, 45)]
theorem lw_r3 : ∀ q ∈ lw_privs_3, lw_okq q := List.forall_mem_cons.mpr ⟨lw_p32, List.forall_mem_cons.mpr ⟨lw_p33, List.forall_mem_cons.mpr ⟨lw_p34, List.forall_mem_cons.mpr ⟨lw_p35, List.forall_mem_cons.mpr ⟨lw_p36, List.forall_mem_cons.mpr ⟨lw_p37, List.forall_mem_cons.mpr ⟨lw_p38, List.forall_mem_cons.mpr ⟨lw_p39, List.forall_mem_cons.mpr ⟨lw_p40, List.forall_mem_cons.mpr ⟨lw_p41, List.forall_mem_cons.mpr ⟨lw_p42, List.forall_mem_cons.mpr ⟨lw_p43, List.forall_mem_cons.mpr ⟨lw_p44, List.forall_mem_cons.mpr ⟨lw_p45, List.forall_mem_cons.mpr ⟨lw_p46, List.forall_mem_cons.mpr ⟨lw_p47, fun _ h => absurd h List.not_mem_nil⟩⟩⟩⟩⟩⟩⟩⟩⟩⟩⟩⟩⟩⟩⟩⟩
theorem lw_p48 : lw_okq (⟨"PieceSwarmModel", "holdsMany", "(I)I"⟩, 45) := ⟨⟨by decide +kernel, by decide +kernel⟩, List.mem_of_getElem? (i := 744) (by decide +kernel), List.mem_of_getElem? (i := 1062) (by decide +kernel), List.mem_of_getElem? (i := 1063) (by decide +kernel)⟩
theorem lw_p49 : lw_okq (⟨"PieceSwarmModel", "count", "([ZII)I"⟩, 45) := ⟨⟨by decide +kernel, by decide +kernel⟩, List.mem_of_getElem? (i := 744) (by decide +kernel), List.mem_of_getElem? (i := 1066) (by decide +kernel), List.mem_of_getElem? (i := 1067) (by decide +kernel)⟩
theorem lw_p50 : lw_okq (⟨"PieceSwarmModel", "comingTo", "(I)I"⟩, 45) := ⟨⟨by decide +kernel, by decide +kernel⟩, List.mem_of_getElem? (i := 744) (by decide +kernel), List.mem_of_getElem? (i := 1070) (by decide +kernel), List.mem_of_getElem? (i := 1071) (by decide +kernel)⟩
theorem lw_p51 : lw_okq (⟨"PieceSwarmModel", "openTo", "(I)I"⟩, 45) := ⟨⟨by decide +kernel, by decide +kernel⟩, List.mem_of_getElem? (i := 744) (by decide +kernel), List.mem_of_getElem? (i := 1074) (by decide +kernel), List.mem_of_getElem? (i := 1075) (by decide +kernel)⟩
theorem lw_p52 : lw_okq (⟨"PieceSwarmModel", "isOpenTo", "(II)Z"⟩, 45) := ⟨⟨by decide +kernel, by decide +kernel⟩, List.mem_of_getElem? (i := 744) (by decide +kernel), List.mem_of_getElem? (i := 1078) (by decide +kernel), List.mem_of_getElem? (i := 1079) (by decide +kernel)⟩
theorem lw_p53 : lw_okq (⟨"PieceSwarmModel", "owners", "(II)I"⟩, 45) := ⟨⟨by decide +kernel, by decide +kernel⟩, List.mem_of_getElem? (i := 744) (by decide +kernel), List.mem_of_getElem? (i := 1106) (by decide +kernel), List.mem_of_getElem? (i := 1107) (by decide +kernel)⟩
def lw_privs_4 : List (MethodName × Nat) := [(⟨"PieceSwarmModel", "holdsMany", "(I)I"⟩, 45), (⟨"PieceSwarmModel", "count", "([ZII)I"⟩, 45), (⟨"PieceSwarmModel", "comingTo", "(I)I"⟩, 45), (⟨"PieceSwarmModel", "openTo", "(I)I"⟩, 45), (⟨"PieceSwarmModel", "isOpenTo", "(II)Z"⟩, 45), (⟨"PieceSwarmModel", "owners", "(II)I"⟩, 45)]
theorem lw_r4 : ∀ q ∈ lw_privs_4, lw_okq q := List.forall_mem_cons.mpr ⟨lw_p48, List.forall_mem_cons.mpr ⟨lw_p49, List.forall_mem_cons.mpr ⟨lw_p50, List.forall_mem_cons.mpr ⟨lw_p51, List.forall_mem_cons.mpr ⟨lw_p52, List.forall_mem_cons.mpr ⟨lw_p53, fun _ h => absurd h List.not_mem_nil⟩⟩⟩⟩⟩⟩
def lw_privs : List (MethodName × Nat) := lw_privs_1 ++ (lw_privs_2 ++ (lw_privs_3 ++ (lw_privs_4)))
def lw_tbl : List Cond := k2_sels lw_privs ++ tables_1
theorem lw_privs_ok : ∀ q ∈ lw_privs, lw_okq q := by
  show ∀ q ∈ lw_privs_1 ++ (lw_privs_2 ++ (lw_privs_3 ++ (lw_privs_4))), lw_okq q
  exact List.forall_mem_append.mpr ⟨lw_r1, List.forall_mem_append.mpr ⟨lw_r2, List.forall_mem_append.mpr ⟨lw_r3, lw_r4⟩⟩⟩
-- ===== end of PART A; then your names; then what follows =====
end
section
/-! ===== BEGIN words of one list among another's, by their places ===== -/
theorem goodIn_r {big : List Cond} (ws : List Cond) (ps : List Nat) (hp : ws = ps.filterMap (fun i => big[i]?)) (h : ws.all goodWord = true) : GoodIn big ws := by
  intro w hw
  have h1 := List.all_eq_true.mp h w hw
  rw [hp] at hw
  obtain ⟨i, -, hi⟩ := List.mem_filterMap.mp hw
  have hm : w ∈ big := by first | exact List.mem_of_getElem? hi | exact List.getElem?_mem hi
  exact ⟨hm, good_of_word h1⟩
theorem goodIn_app {big a b : List Cond} (ha : GoodIn big a) (hb : GoodIn big b) : GoodIn big (a ++ b) := fun w h => (List.mem_append.mp h).elim (ha w) (hb w)
theorem goodIn_ca {big a b : List Cond} {c : Cond} (ha : GoodIn big (c :: a)) (hb : GoodIn big b) : GoodIn big (c :: (a ++ b)) := fun w h => (List.mem_cons.mp h).elim (fun e => ha w (List.mem_cons.mpr (Or.inl e))) (fun h => (List.mem_append.mp h).elim (fun h => ha w (List.mem_cons.mpr (Or.inr h))) (hb w))
theorem goodIn_sub {big ws : List Cond} (hm : ∀ w ∈ ws, w ∈ big) (h : ws.all goodWord = true) : GoodIn big ws := fun w hw => ⟨hm w hw, good_of_word (List.all_eq_true.mp h w hw)⟩
/-! ===== END ===== -/

/-! ===== BEGIN printed: names, fields, word lists, decode rows ===== -/
def RX0 : String := "PieceSwarm$Arrival"
def TX0 : u_T := fun k => match k with
  | _ => ("PieceSwarm$Arrival", "crowd", "LPieceSwarm$Crowd;", true)
def tyX0 : Nat → FieldType := fun k => match k with
  | _ => .object "PieceSwarm$Crowd"
abbrev wsX00 : List Cond := u_ws RX0 TX0 1
theorem nmX0 : ∀ a, a < 1 → ∀ b, b < 1 → a ≠ b → (TX0 a).2.1 ≠ (TX0 b).2.1 := by decide +kernel
theorem tyX0_ok : ∀ k, k < 1 → parseFieldDescriptor (TX0 k).2.2.1 = some (tyX0 k) := by decide +kernel
abbrev cX0_init : ByteArray := prog_2_method_1_code
def yX0_init : MethodName := ⟨RX0, "<init>", "(LPieceSwarm$Crowd;)V"⟩
abbrev cX0_takeDue : ByteArray := prog_2_method_2_code
def yX0_takeDue : MethodName := ⟨RX0, "takeDue", "()V"⟩
abbrev cX0_take : ByteArray := prog_2_method_3_code
def yX0_take : MethodName := ⟨RX0, "take", "(IIIII)V"⟩
abbrev cX0_isSpare : ByteArray := prog_2_method_4_code
def yX0_isSpare : MethodName := ⟨RX0, "isSpare", "(LPieceSwarm$Store;III)Z"⟩
abbrev cX0_complete : ByteArray := prog_2_method_5_code
def yX0_complete : MethodName := ⟨RX0, "complete", "(LPieceSwarm$Member;I)V"⟩
abbrev cX0_fail : ByteArray := prog_2_method_6_code
def yX0_fail : MethodName := ⟨RX0, "fail", "(II)V"⟩
abbrev cX0_ban : ByteArray := prog_2_method_7_code
def yX0_ban : MethodName := ⟨RX0, "ban", "(II)V"⟩
def RX1 : String := "PieceSwarm$Asking"
def TX1 : u_T := fun k => match k with
  | _ => ("PieceSwarm$Asking", "crowd", "LPieceSwarm$Crowd;", true)
def tyX1 : Nat → FieldType := fun k => match k with
  | _ => .object "PieceSwarm$Crowd"
abbrev wsX10 : List Cond := u_ws RX1 TX1 1
theorem nmX1 : ∀ a, a < 1 → ∀ b, b < 1 → a ≠ b → (TX1 a).2.1 ≠ (TX1 b).2.1 := by decide +kernel
theorem tyX1_ok : ∀ k, k < 1 → parseFieldDescriptor (TX1 k).2.2.1 = some (tyX1 k) := by decide +kernel
abbrev cX1_init : ByteArray := prog_3_method_1_code
def yX1_init : MethodName := ⟨RX1, "<init>", "(LPieceSwarm$Crowd;)V"⟩
abbrev cX1_dropStranded : ByteArray := prog_3_method_2_code
def yX1_dropStranded : MethodName := ⟨RX1, "dropStranded", "()V"⟩
abbrev cX1_dropStrandedOf : ByteArray := prog_3_method_3_code
def yX1_dropStrandedOf : MethodName := ⟨RX1, "dropStrandedOf", "(LPieceSwarm$Store;I)V"⟩
abbrev cX1_runRounds : ByteArray := prog_3_method_4_code
def yX1_runRounds : MethodName := ⟨RX1, "runRounds", "()V"⟩
abbrev cX1_askOne : ByteArray := prog_3_method_5_code
def yX1_askOne : MethodName := ⟨RX1, "askOne", "(I)Z"⟩
abbrev cX1_giversTo : ByteArray := prog_3_method_6_code
def yX1_giversTo : MethodName := ⟨RX1, "giversTo", "(I)I"⟩
abbrev cX1_pickPiece : ByteArray := prog_3_method_7_code
def yX1_pickPiece : MethodName := ⟨RX1, "pickPiece", "(II)I"⟩
abbrev cX1_giversThatMayBe : ByteArray := prog_3_method_8_code
def yX1_giversThatMayBe : MethodName := ⟨RX1, "giversThatMayBe", "(III)I"⟩
abbrev cX1_readiest : ByteArray := prog_3_method_9_code
def yX1_readiest : MethodName := ⟨RX1, "readiest", "(I)I"⟩
abbrev cX1_askAtEnd : ByteArray := prog_3_method_10_code
def yX1_askAtEnd : MethodName := ⟨RX1, "askAtEnd", "(II)Z"⟩
abbrev cX1_send : ByteArray := prog_3_method_11_code
def yX1_send : MethodName := ⟨RX1, "send", "(IIII)Z"⟩
def RX2 : String := "PieceSwarm$Crowd"
def TX2 : u_T := fun k => match k with
  | 0 => ("PieceSwarm$Crowd", "whole", "LPieceSwarm$Whole;", true)
  | 1 => ("PieceSwarm$Crowd", "members", "[LPieceSwarm$Member;", true)
  | 2 => ("PieceSwarm$Crowd", "road", "LPieceSwarm$Road;", true)
  | 3 => ("PieceSwarm$Crowd", "size", "I", false)
  | 4 => ("PieceSwarm$Crowd", "here", "I", false)
  | 5 => ("PieceSwarm$Crowd", "tickNumber", "I", false)
  | 6 => ("PieceSwarm$Crowd", "sentInAll", "I", false)
  | _ => ("PieceSwarm$Crowd", "lostInAll", "I", false)
def tyX2 : Nat → FieldType := fun k => match k with
  | 0 => .object "PieceSwarm$Whole"
  | 1 => .array (.object "PieceSwarm$Member")
  | 2 => .object "PieceSwarm$Road"
  | 3 => .int
  | 4 => .int
  | 5 => .int
  | 6 => .int
  | _ => .int
abbrev wsX20 : List Cond := u_ws RX2 TX2 8
theorem nmX2 : ∀ a, a < 8 → ∀ b, b < 8 → a ≠ b → (TX2 a).2.1 ≠ (TX2 b).2.1 := by decide +kernel
theorem tyX2_ok : ∀ k, k < 8 → parseFieldDescriptor (TX2 k).2.2.1 = some (tyX2 k) := by decide +kernel
abbrev cX2_init : ByteArray := prog_4_method_1_code
def yX2_init : MethodName := ⟨RX2, "<init>", "()V"⟩
abbrev cX2_isMember : ByteArray := prog_4_method_2_code
def yX2_isMember : MethodName := ⟨RX2, "isMember", "(I)Z"⟩
abbrev cX2_areTwo : ByteArray := prog_4_method_3_code
def yX2_areTwo : MethodName := ⟨RX2, "areTwo", "(II)Z"⟩
abbrev cX2_takeIn : ByteArray := prog_4_method_4_code
def yX2_takeIn : MethodName := ⟨RX2, "takeIn", "(III)I"⟩
abbrev cX2_nearTo : ByteArray := prog_4_method_5_code
def yX2_nearTo : MethodName := ⟨RX2, "nearTo", "(I)I"⟩
abbrev cX2_tellersAmong : ByteArray := prog_4_method_6_code
def yX2_tellersAmong : MethodName := ⟨RX2, "tellersAmong", "(II)I"⟩
abbrev cX2_wantersOf : ByteArray := prog_4_method_7_code
def yX2_wantersOf : MethodName := ⟨RX2, "wantersOf", "(I)I"⟩
abbrev cX2_hadByOthersThan : ByteArray := prog_4_method_8_code
def yX2_hadByOthersThan : MethodName := ⟨RX2, "hadByOthersThan", "(I)I"⟩
abbrev cX2_letGo : ByteArray := prog_4_method_9_code
def yX2_letGo : MethodName := ⟨RX2, "letGo", "(I)V"⟩
abbrev cX2_loseParcelsOf : ByteArray := prog_4_method_10_code
def yX2_loseParcelsOf : MethodName := ⟨RX2, "loseParcelsOf", "(I)V"⟩
abbrev cX2_doneAndHere : ByteArray := prog_4_method_11_code
def yX2_doneAndHere : MethodName := ⟨RX2, "doneAndHere", "()I"⟩
abbrev cX2_failedInAll : ByteArray := prog_4_method_12_code
def yX2_failedInAll : MethodName := ⟨RX2, "failedInAll", "()I"⟩
abbrev cX2_spareInAll : ByteArray := prog_4_method_13_code
def yX2_spareInAll : MethodName := ⟨RX2, "spareInAll", "()I"⟩
def RX3 : String := "PieceSwarm$Member"
def TX3 : u_T := fun k => match k with
  | 0 => ("PieceSwarm$Member", "store", "LPieceSwarm$Store;", true)
  | 1 => ("PieceSwarm$Member", "ties", "LPieceSwarm$Ties;", true)
  | 2 => ("PieceSwarm$Member", "kind", "I", false)
  | 3 => ("PieceSwarm$Member", "up", "I", false)
  | 4 => ("PieceSwarm$Member", "down", "I", false)
  | 5 => ("PieceSwarm$Member", "everyNth", "I", false)
  | 6 => ("PieceSwarm$Member", "doneTick", "I", false)
  | 7 => ("PieceSwarm$Member", "came", "I", false)
  | 8 => ("PieceSwarm$Member", "sent", "I", false)
  | 9 => ("PieceSwarm$Member", "spare", "I", false)
  | 10 => ("PieceSwarm$Member", "failed", "I", false)
  | 11 => ("PieceSwarm$Member", "maySend", "I", false)
  | _ => ("PieceSwarm$Member", "mayAsk", "I", false)
def tyX3 : Nat → FieldType := fun k => match k with
  | 0 => .object "PieceSwarm$Store"
  | 1 => .object "PieceSwarm$Ties"
  | 2 => .int
  | 3 => .int
  | 4 => .int
  | 5 => .int
  | 6 => .int
  | 7 => .int
  | 8 => .int
  | 9 => .int
  | 10 => .int
  | 11 => .int
  | _ => .int
abbrev wsX30 : List Cond := u_ws RX3 TX3 13
theorem nmX3 : ∀ a, a < 13 → ∀ b, b < 13 → a ≠ b → (TX3 a).2.1 ≠ (TX3 b).2.1 := by decide +kernel
theorem tyX3_ok : ∀ k, k < 13 → parseFieldDescriptor (TX3 k).2.2.1 = some (tyX3 k) := by decide +kernel
abbrev cX3_init : ByteArray := prog_5_method_1_code
def yX3_init : MethodName := ⟨RX3, "<init>", "()V"⟩
abbrev cX3_isDone : ByteArray := prog_5_method_2_code
def yX3_isDone : MethodName := ⟨RX3, "isDone", "()Z"⟩
abbrev cX3_opensToNobody : ByteArray := prog_5_method_3_code
def yX3_opensToNobody : MethodName := ⟨RX3, "opensToNobody", "()Z"⟩
abbrev cX3_toldPieces : ByteArray := prog_5_method_4_code
def yX3_toldPieces : MethodName := ⟨RX3, "toldPieces", "()I"⟩
abbrev cX3_lateNumberOf : ByteArray := prog_5_method_5_code
def yX3_lateNumberOf : MethodName := ⟨RX3, "lateNumberOf", "(I)I"⟩
abbrev cX3_nowSendsFalse : ByteArray := prog_5_method_6_code
def yX3_nowSendsFalse : MethodName := ⟨RX3, "nowSendsFalse", "()Z"⟩
def RX4 : String := "PieceSwarm$Opening"
def TX4 : u_T := fun k => match k with
  | _ => ("PieceSwarm$Opening", "crowd", "LPieceSwarm$Crowd;", true)
def tyX4 : Nat → FieldType := fun k => match k with
  | _ => .object "PieceSwarm$Crowd"
abbrev wsX40 : List Cond := u_ws RX4 TX4 1
theorem nmX4 : ∀ a, a < 1 → ∀ b, b < 1 → a ≠ b → (TX4 a).2.1 ≠ (TX4 b).2.1 := by decide +kernel
theorem tyX4_ok : ∀ k, k < 1 → parseFieldDescriptor (TX4 k).2.2.1 = some (tyX4 k) := by decide +kernel
abbrev cX4_init : ByteArray := prog_6_method_1_code
def yX4_init : MethodName := ⟨RX4, "<init>", "(LPieceSwarm$Crowd;)V"⟩
abbrev cX4_openAll : ByteArray := prog_6_method_2_code
def yX4_openAll : MethodName := ⟨RX4, "openAll", "()V"⟩
abbrev cX4_openAnew : ByteArray := prog_6_method_3_code
def yX4_openAnew : MethodName := ⟨RX4, "openAnew", "(I)V"⟩
abbrev cX4_setOf : ByteArray := prog_6_method_4_code
def yX4_setOf : MethodName := ⟨RX4, "setOf", "(I)I"⟩
abbrev cX4_latest : ByteArray := prog_6_method_5_code
def yX4_latest : MethodName := ⟨RX4, "latest", "(LPieceSwarm$Member;I)I"⟩
abbrev cX4_nextByTurns : ByteArray := prog_6_method_6_code
def yX4_nextByTurns : MethodName := ⟨RX4, "nextByTurns", "(II)I"⟩
def RX5 : String := "PieceSwarm$Road"
def TX5 : u_T := fun k => match k with
  | 0 => ("PieceSwarm$Road", "givers", "[I", true)
  | 1 => ("PieceSwarm$Road", "takers", "[I", true)
  | 2 => ("PieceSwarm$Road", "pieces", "[I", true)
  | 3 => ("PieceSwarm$Road", "blocks", "[I", true)
  | 4 => ("PieceSwarm$Road", "values", "[I", true)
  | 5 => ("PieceSwarm$Road", "dueTicks", "[I", true)
  | _ => ("PieceSwarm$Road", "length", "I", false)
def tyX5 : Nat → FieldType := fun k => match k with
  | 0 => .array .int
  | 1 => .array .int
  | 2 => .array .int
  | 3 => .array .int
  | 4 => .array .int
  | 5 => .array .int
  | _ => .int
abbrev wsX50 : List Cond := u_ws RX5 TX5 7
theorem nmX5 : ∀ a, a < 7 → ∀ b, b < 7 → a ≠ b → (TX5 a).2.1 ≠ (TX5 b).2.1 := by decide +kernel
theorem tyX5_ok : ∀ k, k < 7 → parseFieldDescriptor (TX5 k).2.2.1 = some (tyX5 k) := by decide +kernel
abbrev cX5_init : ByteArray := prog_7_method_1_code
def yX5_init : MethodName := ⟨RX5, "<init>", "()V"⟩
abbrev cX5_hasRoom : ByteArray := prog_7_method_2_code
def yX5_hasRoom : MethodName := ⟨RX5, "hasRoom", "()Z"⟩
abbrev cX5_add : ByteArray := prog_7_method_3_code
def yX5_add : MethodName := ⟨RX5, "add", "(IIIIII)V"⟩
abbrev cX5_move : ByteArray := prog_7_method_4_code
def yX5_move : MethodName := ⟨RX5, "move", "(II)V"⟩
abbrev cX5_firstGiver : ByteArray := prog_7_method_5_code
def yX5_firstGiver : MethodName := ⟨RX5, "firstGiver", "(II)I"⟩
abbrev cX5_firstGiverOf : ByteArray := prog_7_method_6_code
def yX5_firstGiverOf : MethodName := ⟨RX5, "firstGiverOf", "(III)I"⟩
def RX6 : String := "PieceSwarm$Store"
def TX6 : u_T := fun k => match k with
  | 0 => ("PieceSwarm$Store", "givers", "[I", true)
  | 1 => ("PieceSwarm$Store", "values", "[I", true)
  | 2 => ("PieceSwarm$Store", "coming", "[I", true)
  | 3 => ("PieceSwarm$Store", "has", "I", false)
  | 4 => ("PieceSwarm$Store", "marked", "I", false)
  | _ => ("PieceSwarm$Store", "comingInAll", "I", false)
def tyX6 : Nat → FieldType := fun k => match k with
  | 0 => .array .int
  | 1 => .array .int
  | 2 => .array .int
  | 3 => .int
  | 4 => .int
  | _ => .int
abbrev wsX60 : List Cond := u_ws RX6 TX6 6
theorem nmX6 : ∀ a, a < 6 → ∀ b, b < 6 → a ≠ b → (TX6 a).2.1 ≠ (TX6 b).2.1 := by decide +kernel
theorem tyX6_ok : ∀ k, k < 6 → parseFieldDescriptor (TX6 k).2.2.1 = some (tyX6 k) := by decide +kernel
abbrev cX6_init : ByteArray := prog_8_method_1_code
def yX6_init : MethodName := ⟨RX6, "<init>", "()V"⟩
abbrev cX6_fillFrom : ByteArray := prog_8_method_2_code
def yX6_fillFrom : MethodName := ⟨RX6, "fillFrom", "(LPieceSwarm$Whole;)V"⟩
abbrev cX6_holds : ByteArray := prog_8_method_3_code
def yX6_holds : MethodName := ⟨RX6, "holds", "(II)Z"⟩
abbrev cX6_heldOf : ByteArray := prog_8_method_4_code
def yX6_heldOf : MethodName := ⟨RX6, "heldOf", "(I)I"⟩
abbrev cX6_heldInAll : ByteArray := prog_8_method_5_code
def yX6_heldInAll : MethodName := ⟨RX6, "heldInAll", "()I"⟩
abbrev cX6_isBare : ByteArray := prog_8_method_6_code
def yX6_isBare : MethodName := ⟨RX6, "isBare", "()Z"⟩
abbrev cX6_firstGiver : ByteArray := prog_8_method_7_code
def yX6_firstGiver : MethodName := ⟨RX6, "firstGiver", "(I)I"⟩
abbrev cX6_giversOf : ByteArray := prog_8_method_8_code
def yX6_giversOf : MethodName := ⟨RX6, "giversOf", "(I)I"⟩
abbrev cX6_isBegun : ByteArray := prog_8_method_9_code
def yX6_isBegun : MethodName := ⟨RX6, "isBegun", "(I)Z"⟩
abbrev cX6_firstUnasked : ByteArray := prog_8_method_10_code
def yX6_firstUnasked : MethodName := ⟨RX6, "firstUnasked", "(II)I"⟩
abbrev cX6_expect : ByteArray := prog_8_method_11_code
def yX6_expect : MethodName := ⟨RX6, "expect", "(II)V"⟩
abbrev cX6_expectNoMore : ByteArray := prog_8_method_12_code
def yX6_expectNoMore : MethodName := ⟨RX6, "expectNoMore", "(II)V"⟩
abbrev cX6_put : ByteArray := prog_8_method_13_code
def yX6_put : MethodName := ⟨RX6, "put", "(IIII)V"⟩
abbrev cX6_drop : ByteArray := prog_8_method_14_code
def yX6_drop : MethodName := ⟨RX6, "drop", "(I)V"⟩
abbrev cX6_sumOf : ByteArray := prog_8_method_15_code
def yX6_sumOf : MethodName := ⟨RX6, "sumOf", "(II)I"⟩
def RX7 : String := "PieceSwarm$Ties"
def TX7 : u_T := fun k => match k with
  | 0 => ("PieceSwarm$Ties", "cameLate", "[I", true)
  | 1 => ("PieceSwarm$Ties", "sentLate", "[I", true)
  | 2 => ("PieceSwarm$Ties", "sent", "[I", true)
  | 3 => ("PieceSwarm$Ties", "doubts", "[I", true)
  | 4 => ("PieceSwarm$Ties", "neighbours", "I", false)
  | 5 => ("PieceSwarm$Ties", "banned", "I", false)
  | 6 => ("PieceSwarm$Ties", "bannedBy", "I", false)
  | 7 => ("PieceSwarm$Ties", "open", "I", false)
  | 8 => ("PieceSwarm$Ties", "latestByTurns", "I", false)
  | _ => ("PieceSwarm$Ties", "openedByTurns", "I", false)
def tyX7 : Nat → FieldType := fun k => match k with
  | 0 => .array .int
  | 1 => .array .int
  | 2 => .array .int
  | 3 => .array .int
  | 4 => .int
  | 5 => .int
  | 6 => .int
  | 7 => .int
  | 8 => .int
  | _ => .int
abbrev wsX70 : List Cond := u_ws RX7 TX7 10
theorem nmX7 : ∀ a, a < 10 → ∀ b, b < 10 → a ≠ b → (TX7 a).2.1 ≠ (TX7 b).2.1 := by decide +kernel
theorem tyX7_ok : ∀ k, k < 10 → parseFieldDescriptor (TX7 k).2.2.1 = some (tyX7 k) := by decide +kernel
abbrev cX7_init : ByteArray := prog_9_method_1_code
def yX7_init : MethodName := ⟨RX7, "<init>", "()V"⟩
abbrev cX7_forgetLate : ByteArray := prog_9_method_2_code
def yX7_forgetLate : MethodName := ⟨RX7, "forgetLate", "()V"⟩
def RX8 : String := "PieceSwarm$Whole"
def TX8 : u_T := fun k => match k with
  | 0 => ("PieceSwarm$Whole", "pieces", "I", false)
  | 1 => ("PieceSwarm$Whole", "blocks", "I", false)
  | _ => ("PieceSwarm$Whole", "seed", "I", false)
def tyX8 : Nat → FieldType := fun k => match k with
  | 0 => .int
  | 1 => .int
  | _ => .int
abbrev wsX80 : List Cond := u_ws RX8 TX8 3
theorem nmX8 : ∀ a, a < 3 → ∀ b, b < 3 → a ≠ b → (TX8 a).2.1 ≠ (TX8 b).2.1 := by decide +kernel
theorem tyX8_ok : ∀ k, k < 3 → parseFieldDescriptor (TX8 k).2.2.1 = some (tyX8 k) := by decide +kernel
abbrev cX8_init : ByteArray := prog_10_method_1_code
def yX8_init : MethodName := ⟨RX8, "<init>", "()V"⟩
abbrev cX8_become : ByteArray := prog_10_method_2_code
def yX8_become : MethodName := ⟨RX8, "become", "(III)V"⟩
abbrev cX8_isPiece : ByteArray := prog_10_method_3_code
def yX8_isPiece : MethodName := ⟨RX8, "isPiece", "(I)Z"⟩
abbrev cX8_isBlock : ByteArray := prog_10_method_4_code
def yX8_isBlock : MethodName := ⟨RX8, "isBlock", "(II)Z"⟩
abbrev cX8_allPieces : ByteArray := prog_10_method_5_code
def yX8_allPieces : MethodName := ⟨RX8, "allPieces", "()I"⟩
abbrev cX8_valueOf : ByteArray := prog_10_method_6_code
def yX8_valueOf : MethodName := ⟨RX8, "valueOf", "(II)I"⟩
abbrev cX8_sumOf : ByteArray := prog_10_method_7_code
def yX8_sumOf : MethodName := ⟨RX8, "sumOf", "(I)I"⟩
def RX9 : String := "PieceSwarm"
def TX9 : u_T := fun k => match k with
  | 0 => ("PieceSwarm", "crowd", "LPieceSwarm$Crowd;", true)
  | 1 => ("PieceSwarm", "arrival", "LPieceSwarm$Arrival;", true)
  | 2 => ("PieceSwarm", "opening", "LPieceSwarm$Opening;", true)
  | _ => ("PieceSwarm", "asking", "LPieceSwarm$Asking;", true)
def tyX9 : Nat → FieldType := fun k => match k with
  | 0 => .object "PieceSwarm$Crowd"
  | 1 => .object "PieceSwarm$Arrival"
  | 2 => .object "PieceSwarm$Opening"
  | _ => .object "PieceSwarm$Asking"
abbrev wsX90 : List Cond := u_ws RX9 TX9 4
theorem nmX9 : ∀ a, a < 4 → ∀ b, b < 4 → a ≠ b → (TX9 a).2.1 ≠ (TX9 b).2.1 := by decide +kernel
theorem tyX9_ok : ∀ k, k < 4 → parseFieldDescriptor (TX9 k).2.2.1 = some (tyX9 k) := by decide +kernel
abbrev cX9_init : ByteArray := prog_1_method_1_code
def yX9_init : MethodName := ⟨RX9, "<init>", "()V"⟩
abbrev cX9_file : ByteArray := prog_1_method_2_code
def yX9_file : MethodName := ⟨RX9, "file", "(III)Z"⟩
abbrev cX9_value : ByteArray := prog_1_method_3_code
def yX9_value : MethodName := ⟨RX9, "value", "(II)I"⟩
abbrev cX9_sum : ByteArray := prog_1_method_4_code
def yX9_sum : MethodName := ⟨RX9, "sum", "(I)I"⟩
abbrev cX9_peer : ByteArray := prog_1_method_5_code
def yX9_peer : MethodName := ⟨RX9, "peer", "(III)I"⟩
abbrev cX9_often : ByteArray := prog_1_method_6_code
def yX9_often : MethodName := ⟨RX9, "often", "(II)Z"⟩
abbrev cX9_meet : ByteArray := prog_1_method_7_code
def yX9_meet : MethodName := ⟨RX9, "meet", "(II)Z"⟩
abbrev cX9_leave : ByteArray := prog_1_method_8_code
def yX9_leave : MethodName := ⟨RX9, "leave", "(I)Z"⟩
abbrev cX9_join : ByteArray := prog_1_method_9_code
def yX9_join : MethodName := ⟨RX9, "join", "(I)Z"⟩
abbrev cX9_tick : ByteArray := prog_1_method_10_code
def yX9_tick : MethodName := ⟨RX9, "tick", "(I)I"⟩
abbrev cX9_about : ByteArray := prog_1_method_11_code
def yX9_about : MethodName := ⟨RX9, "about", "(II)I"⟩
abbrev cX9_held : ByteArray := prog_1_method_12_code
def yX9_held : MethodName := ⟨RX9, "held", "(II)I"⟩
abbrev cX9_from : ByteArray := prog_1_method_13_code
def yX9_from : MethodName := ⟨RX9, "from", "(III)I"⟩
abbrev cX9_got : ByteArray := prog_1_method_14_code
def yX9_got : MethodName := ⟨RX9, "got", "(III)I"⟩
abbrev cX9_rare : ByteArray := prog_1_method_15_code
def yX9_rare : MethodName := ⟨RX9, "rare", "(II)I"⟩
abbrev cX9_pair : ByteArray := prog_1_method_16_code
def yX9_pair : MethodName := ⟨RX9, "pair", "(III)I"⟩
abbrev cX9_alone : ByteArray := prog_1_method_17_code
def yX9_alone : MethodName := ⟨RX9, "alone", "(I)I"⟩
abbrev cX9_bound : ByteArray := prog_1_method_18_code
def yX9_bound : MethodName := ⟨RX9, "bound", "(I)I"⟩
abbrev cX9_count : ByteArray := prog_1_method_19_code
def yX9_count : MethodName := ⟨RX9, "count", "(I)I"⟩
abbrev cX9_isWithin : ByteArray := prog_1_method_20_code
def yX9_isWithin : MethodName := ⟨RX9, "isWithin", "(III)Z"⟩
abbrev cX9_isIn : ByteArray := prog_1_method_21_code
def yX9_isIn : MethodName := ⟨RX9, "isIn", "(II)Z"⟩
abbrev cX9_oneIf : ByteArray := prog_1_method_22_code
def yX9_oneIf : MethodName := ⟨RX9, "oneIf", "(Z)I"⟩
abbrev cX9_place : ByteArray := prog_1_method_23_code
def yX9_place : MethodName := ⟨RX9, "place", "(II)I"⟩
abbrev cX9_sumWith : ByteArray := prog_1_method_24_code
def yX9_sumWith : MethodName := ⟨RX9, "sumWith", "(II)I"⟩
abbrev cX9_cutUp : ByteArray := prog_1_method_25_code
def yX9_cutUp : MethodName := ⟨RX9, "cutUp", "(II)I"⟩
def RX10 : String := "PieceSwarmModel"
def TX10 : u_T := fun k => match k with
  | 0 => ("PieceSwarmModel", "thrown", "I", false)
  | 1 => ("PieceSwarmModel", "pieces", "I", false)
  | 2 => ("PieceSwarmModel", "blocks", "I", false)
  | 3 => ("PieceSwarmModel", "seed", "I", false)
  | 4 => ("PieceSwarmModel", "peers", "I", false)
  | 5 => ("PieceSwarmModel", "clock", "I", false)
  | 6 => ("PieceSwarmModel", "sentAll", "I", false)
  | 7 => ("PieceSwarmModel", "lost", "I", false)
  | 8 => ("PieceSwarmModel", "failedAll", "I", false)
  | 9 => ("PieceSwarmModel", "spareAll", "I", false)
  | 10 => ("PieceSwarmModel", "kind", "[I", true)
  | 11 => ("PieceSwarmModel", "up", "[I", true)
  | 12 => ("PieceSwarmModel", "down", "[I", true)
  | 13 => ("PieceSwarmModel", "isHere", "[Z", true)
  | 14 => ("PieceSwarmModel", "often", "[I", true)
  | 15 => ("PieceSwarmModel", "came", "[I", true)
  | 16 => ("PieceSwarmModel", "sent", "[I", true)
  | 17 => ("PieceSwarmModel", "spare", "[I", true)
  | 18 => ("PieceSwarmModel", "failed", "[I", true)
  | 19 => ("PieceSwarmModel", "doneAt", "[I", true)
  | 20 => ("PieceSwarmModel", "has", "[Z", true)
  | 21 => ("PieceSwarmModel", "isMarked", "[Z", true)
  | 22 => ("PieceSwarmModel", "holds", "[Z", true)
  | 23 => ("PieceSwarmModel", "got", "[I", true)
  | 24 => ("PieceSwarmModel", "from", "[I", true)
  | 25 => ("PieceSwarmModel", "met", "[Z", true)
  | 26 => ("PieceSwarmModel", "isOpen", "[Z", true)
  | 27 => ("PieceSwarmModel", "isBanned", "[Z", true)
  | 28 => ("PieceSwarmModel", "doubts", "[I", true)
  | 29 => ("PieceSwarmModel", "sentTo", "[I", true)
  | 30 => ("PieceSwarmModel", "lateSent", "[I", true)
  | 31 => ("PieceSwarmModel", "lateCame", "[I", true)
  | 32 => ("PieceSwarmModel", "chosen", "[I", true)
  | 33 => ("PieceSwarmModel", "turn", "[I", true)
  | 34 => ("PieceSwarmModel", "many", "I", false)
  | 35 => ("PieceSwarmModel", "wTo", "[I", true)
  | 36 => ("PieceSwarmModel", "wFrom", "[I", true)
  | 37 => ("PieceSwarmModel", "wPiece", "[I", true)
  | 38 => ("PieceSwarmModel", "wBlock", "[I", true)
  | 39 => ("PieceSwarmModel", "wValue", "[I", true)
  | 40 => ("PieceSwarmModel", "wDue", "[I", true)
  | 41 => ("PieceSwarmModel", "wAtOnce", "[Z", true)
  | 42 => ("PieceSwarmModel", "spareRow", "[Z", true)
  | 43 => ("PieceSwarmModel", "upLeft", "[I", true)
  | _ => ("PieceSwarmModel", "downLeft", "[I", true)
def tyX10 : Nat → FieldType := fun k => match k with
  | 0 => .int
  | 1 => .int
  | 2 => .int
  | 3 => .int
  | 4 => .int
  | 5 => .int
  | 6 => .int
  | 7 => .int
  | 8 => .int
  | 9 => .int
  | 10 => .array .int
  | 11 => .array .int
  | 12 => .array .int
  | 13 => .array .boolean
  | 14 => .array .int
  | 15 => .array .int
  | 16 => .array .int
  | 17 => .array .int
  | 18 => .array .int
  | 19 => .array .int
  | 20 => .array .boolean
  | 21 => .array .boolean
  | 22 => .array .boolean
  | 23 => .array .int
  | 24 => .array .int
  | 25 => .array .boolean
  | 26 => .array .boolean
  | 27 => .array .boolean
  | 28 => .array .int
  | 29 => .array .int
  | 30 => .array .int
  | 31 => .array .int
  | 32 => .array .int
  | 33 => .array .int
  | 34 => .int
  | 35 => .array .int
  | 36 => .array .int
  | 37 => .array .int
  | 38 => .array .int
  | 39 => .array .int
  | 40 => .array .int
  | 41 => .array .boolean
  | 42 => .array .boolean
  | 43 => .array .int
  | _ => .array .int
abbrev wsX100 : List Cond := u_ws RX10 TX10 45
theorem nmX10 : ∀ a, a < 45 → ∀ b, b < 45 → a ≠ b → (TX10 a).2.1 ≠ (TX10 b).2.1 := by decide +kernel
theorem tyX10_ok : ∀ k, k < 45 → parseFieldDescriptor (TX10 k).2.2.1 = some (tyX10 k) := by decide +kernel
abbrev cX10_init : ByteArray := prog_12_method_1_code
def yX10_init : MethodName := ⟨RX10, "<init>", "()V"⟩
abbrev cX10_in : ByteArray := prog_12_method_3_code
def yX10_in : MethodName := ⟨RX10, "in", "(III)Z"⟩
abbrev cX10_valueOf : ByteArray := prog_12_method_4_code
def yX10_valueOf : MethodName := ⟨RX10, "valueOf", "(II)I"⟩
abbrev cX10_sumOf : ByteArray := prog_12_method_5_code
def yX10_sumOf : MethodName := ⟨RX10, "sumOf", "(I)I"⟩
abbrev cX10_isBlock : ByteArray := prog_12_method_6_code
def yX10_isBlock : MethodName := ⟨RX10, "isBlock", "(II)Z"⟩
abbrev cX10_file : ByteArray := prog_12_method_7_code
def yX10_file : MethodName := ⟨RX10, "file", "(III)Z"⟩
abbrev cX10_value : ByteArray := prog_12_method_8_code
def yX10_value : MethodName := ⟨RX10, "value", "(II)I"⟩
abbrev cX10_sum : ByteArray := prog_12_method_9_code
def yX10_sum : MethodName := ⟨RX10, "sum", "(I)I"⟩
abbrev cX10_isPeer : ByteArray := prog_12_method_10_code
def yX10_isPeer : MethodName := ⟨RX10, "isPeer", "(I)Z"⟩
abbrev cX10_isTwo : ByteArray := prog_12_method_11_code
def yX10_isTwo : MethodName := ⟨RX10, "isTwo", "(II)Z"⟩
abbrev cX10_two : ByteArray := prog_12_method_12_code
def yX10_two : MethodName := ⟨RX10, "two", "(II)I"⟩
abbrev cX10_cell : ByteArray := prog_12_method_13_code
def yX10_cell : MethodName := ⟨RX10, "cell", "(III)I"⟩
abbrev cX10_isNear : ByteArray := prog_12_method_14_code
def yX10_isNear : MethodName := ⟨RX10, "isNear", "(II)Z"⟩
abbrev cX10_tells : ByteArray := prog_12_method_15_code
def yX10_tells : MethodName := ⟨RX10, "tells", "(II)Z"⟩
abbrev cX10_wants : ByteArray := prog_12_method_16_code
def yX10_wants : MethodName := ⟨RX10, "wants", "(II)Z"⟩
abbrev cX10_hasMany : ByteArray := prog_12_method_17_code
def yX10_hasMany : MethodName := ⟨RX10, "hasMany", "(I)I"⟩
abbrev cX10_isDone : ByteArray := prog_12_method_18_code
def yX10_isDone : MethodName := ⟨RX10, "isDone", "(I)Z"⟩
abbrev cX10_heldMany : ByteArray := prog_12_method_19_code
def yX10_heldMany : MethodName := ⟨RX10, "heldMany", "(II)I"⟩
abbrev cX10_peer : ByteArray := prog_12_method_20_code
def yX10_peer : MethodName := ⟨RX10, "peer", "(III)I"⟩
abbrev cX10_often : ByteArray := prog_12_method_21_code
def yX10_often : MethodName := ⟨RX10, "often", "(II)Z"⟩
abbrev cX10_meet : ByteArray := prog_12_method_22_code
def yX10_meet : MethodName := ⟨RX10, "meet", "(II)Z"⟩
abbrev cX10_keep : ByteArray := prog_12_method_23_code
def yX10_keep : MethodName := ⟨RX10, "keep", "(II)V"⟩
abbrev cX10_leave : ByteArray := prog_12_method_24_code
def yX10_leave : MethodName := ⟨RX10, "leave", "(I)Z"⟩
abbrev cX10_join : ByteArray := prog_12_method_25_code
def yX10_join : MethodName := ⟨RX10, "join", "(I)Z"⟩
abbrev cX10_dropPiece : ByteArray := prog_12_method_26_code
def yX10_dropPiece : MethodName := ⟨RX10, "dropPiece", "(II)V"⟩
abbrev cX10_fails : ByteArray := prog_12_method_27_code
def yX10_fails : MethodName := ⟨RX10, "fails", "(II)V"⟩
abbrev cX10_isSpare : ByteArray := prog_12_method_28_code
def yX10_isSpare : MethodName := ⟨RX10, "isSpare", "(IIII)Z"⟩
abbrev cX10_comes : ByteArray := prog_12_method_29_code
def yX10_comes : MethodName := ⟨RX10, "comes", "(I)V"⟩
abbrev cX10_allCome : ByteArray := prog_12_method_30_code
def yX10_allCome : MethodName := ⟨RX10, "allCome", "(Z)V"⟩
abbrev cX10_coming : ByteArray := prog_12_method_31_code
def yX10_coming : MethodName := ⟨RX10, "coming", "(III)I"⟩
abbrev cX10_late : ByteArray := prog_12_method_32_code
def yX10_late : MethodName := ⟨RX10, "late", "(II)I"⟩
abbrev cX10_opens : ByteArray := prog_12_method_33_code
def yX10_opens : MethodName := ⟨RX10, "opens", "(I)V"⟩
abbrev cX10_isGiver : ByteArray := prog_12_method_34_code
def yX10_isGiver : MethodName := ⟨RX10, "isGiver", "(II)Z"⟩
abbrev cX10_bound : ByteArray := prog_12_method_35_code
def yX10_bound : MethodName := ⟨RX10, "bound", "(IIZ)I"⟩
abbrev cX10_giver : ByteArray := prog_12_method_36_code
def yX10_giver : MethodName := ⟨RX10, "giver", "(IIII)I"⟩
abbrev cX10_nextBlock : ByteArray := prog_12_method_37_code
def yX10_nextBlock : MethodName := ⟨RX10, "nextBlock", "(II)I"⟩
abbrev cX10_isBegun : ByteArray := prog_12_method_38_code
def yX10_isBegun : MethodName := ⟨RX10, "isBegun", "(II)Z"⟩
abbrev cX10_tellers : ByteArray := prog_12_method_39_code
def yX10_tellers : MethodName := ⟨RX10, "tellers", "(II)I"⟩
abbrev cX10_sends : ByteArray := prog_12_method_40_code
def yX10_sends : MethodName := ⟨RX10, "sends", "(IIII)V"⟩
abbrev cX10_asks : ByteArray := prog_12_method_41_code
def yX10_asks : MethodName := ⟨RX10, "asks", "(I)Z"⟩
abbrev cX10_senderOf : ByteArray := prog_12_method_42_code
def yX10_senderOf : MethodName := ⟨RX10, "senderOf", "(III)I"⟩
abbrev cX10_forgets : ByteArray := prog_12_method_43_code
def yX10_forgets : MethodName := ⟨RX10, "forgets", "(I)V"⟩
abbrev cX10_oneTick : ByteArray := prog_12_method_44_code
def yX10_oneTick : MethodName := ⟨RX10, "oneTick", "()V"⟩
abbrev cX10_tick : ByteArray := prog_12_method_45_code
def yX10_tick : MethodName := ⟨RX10, "tick", "(I)I"⟩
abbrev cX10_holdsMany : ByteArray := prog_12_method_46_code
def yX10_holdsMany : MethodName := ⟨RX10, "holdsMany", "(I)I"⟩
abbrev cX10_count : ByteArray := prog_12_method_47_code
def yX10_count : MethodName := ⟨RX10, "count", "([ZII)I"⟩
abbrev cX10_comingTo : ByteArray := prog_12_method_48_code
def yX10_comingTo : MethodName := ⟨RX10, "comingTo", "(I)I"⟩
abbrev cX10_openTo : ByteArray := prog_12_method_49_code
def yX10_openTo : MethodName := ⟨RX10, "openTo", "(I)I"⟩
abbrev cX10_isOpenTo : ByteArray := prog_12_method_50_code
def yX10_isOpenTo : MethodName := ⟨RX10, "isOpenTo", "(II)Z"⟩
abbrev cX10_about : ByteArray := prog_12_method_51_code
def yX10_about : MethodName := ⟨RX10, "about", "(II)I"⟩
abbrev cX10_held : ByteArray := prog_12_method_52_code
def yX10_held : MethodName := ⟨RX10, "held", "(II)I"⟩
abbrev cX10_from : ByteArray := prog_12_method_53_code
def yX10_from : MethodName := ⟨RX10, "from", "(III)I"⟩
abbrev cX10_got : ByteArray := prog_12_method_54_code
def yX10_got : MethodName := ⟨RX10, "got", "(III)I"⟩
abbrev cX10_rare : ByteArray := prog_12_method_55_code
def yX10_rare : MethodName := ⟨RX10, "rare", "(II)I"⟩
abbrev cX10_pair : ByteArray := prog_12_method_56_code
def yX10_pair : MethodName := ⟨RX10, "pair", "(III)I"⟩
abbrev cX10_owners : ByteArray := prog_12_method_57_code
def yX10_owners : MethodName := ⟨RX10, "owners", "(II)I"⟩
abbrev cX10_alone : ByteArray := prog_12_method_58_code
def yX10_alone : MethodName := ⟨RX10, "alone", "(I)I"⟩
abbrev cX10_share : ByteArray := prog_12_method_59_code
def yX10_share : MethodName := ⟨RX10, "share", "(II)I"⟩
abbrev cX10_bound_ : ByteArray := prog_12_method_60_code
def yX10_bound_ : MethodName := ⟨RX10, "bound", "(I)I"⟩
abbrev cX10_count_ : ByteArray := prog_12_method_61_code
def yX10_count_ : MethodName := ⟨RX10, "count", "(I)I"⟩
def RJ6 : String := "java/lang/Integer"
def TJ6 : u_T := fun k => match k with
  | _ => ("", "", "", false)
def tyJ6 : Nat → FieldType := fun k => match k with
  | _ => .int
abbrev wsJ60 : List Cond := u_ws RJ6 TJ6 0
theorem nmJ6 : ∀ a, a < 0 → ∀ b, b < 0 → a ≠ b → (TJ6 a).2.1 ≠ (TJ6 b).2.1 := by decide +kernel
theorem tyJ6_ok : ∀ k, k < 0 → parseFieldDescriptor (TJ6 k).2.2.1 = some (tyJ6 k) := by decide +kernel
abbrev cJ6_bitCount_0f7a4 : ByteArray := prog_13_method_49_code
def yJ6_bitCount_0f7a4 : MethodName := ⟨RJ6, "bitCount", "(I)I"⟩
def RJ9 : String := "java/lang/Math"
def TJ9 : u_T := fun k => match k with
  | _ => ("", "", "", false)
def tyJ9 : Nat → FieldType := fun k => match k with
  | _ => .int
abbrev wsJ90 : List Cond := u_ws RJ9 TJ9 0
theorem nmJ9 : ∀ a, a < 0 → ∀ b, b < 0 → a ≠ b → (TJ9 a).2.1 ≠ (TJ9 b).2.1 := by decide +kernel
theorem tyJ9_ok : ∀ k, k < 0 → parseFieldDescriptor (TJ9 k).2.2.1 = some (tyJ9 k) := by decide +kernel
abbrev cJ9_max_7cf53 : ByteArray := prog_14_method_65_code
def yJ9_max_7cf53 : MethodName := ⟨RJ9, "max", "(II)I"⟩
def RL : String := "PieceSwarmLaw"
abbrev cL_law : ByteArray := code
def yL_law : MethodName := ⟨RL, "law", "([I)Z"⟩
def wsX0_init : List Cond := .code yX0_init cX0_init 2 none :: ([.methodLink RX0 1 objectInit, .instanceMethod objectInit, .code objectInit ⟨#[0xb1]⟩ 1 none, .fieldLink RX0 7 "PieceSwarm$Arrival" "crowd" "LPieceSwarm$Crowd;"] ++ wsX00)
def wsX9_place : List Cond := .code yX9_place cX9_place 2 (some .int) :: ([])
def wsX6_expectNoMore : List Cond := .code yX6_expectNoMore cX6_expectNoMore 3 none :: ([.fieldLink RX6 18 "PieceSwarm$Store" "coming" "[I", .fieldLink RX6 59 "PieceSwarm$Store" "comingInAll" "I", .static yX9_place, .initialized RX9, .code yX9_place cX9_place 2 (some .int)] ++ wsX60)
def wsX9_isIn : List Cond := .code yX9_isIn cX9_isIn 2 (some .boolean) :: ([])
def wsX6_holds : List Cond := .code yX6_holds cX6_holds 3 (some .boolean) :: ([.fieldLink RX6 41 "PieceSwarm$Store" "has" "I", .fieldLink RX6 9 "PieceSwarm$Store" "givers" "[I", .static yX9_isIn, .initialized RX9, .code yX9_isIn cX9_isIn 2 (some .boolean), .static yX9_place, .code yX9_place cX9_place 2 (some .int)] ++ wsX60)
def wsX6_giversOf : List Cond := .code yX6_giversOf cX6_giversOf 5 (some .int) :: ([.fieldLink RX6 9 "PieceSwarm$Store" "givers" "[I", .static yX9_place, .initialized RX9, .code yX9_place cX9_place 2 (some .int)] ++ wsX60)
def wsX0_isSpare : List Cond := .code yX0_isSpare cX0_isSpare 5 (some .boolean) :: ([.fieldLink RX0 118 "PieceSwarm$Store" "has" "I", .fieldLink RX0 130 "PieceSwarm$Store" "marked" "I", .static yX9_isIn, .initialized RX9, .code yX9_isIn cX9_isIn 2 (some .boolean), .methodLink RX0 127 yX6_holds, .instanceMethod yX6_holds, .selects RX6 yX6_holds yX6_holds, .initialized RX6, .code yX6_holds cX6_holds 3 (some .boolean), .fieldLink RX6 41 "PieceSwarm$Store" "has" "I", .fieldLink RX6 9 "PieceSwarm$Store" "givers" "[I", .static yX9_place, .code yX9_place cX9_place 2 (some .int), .methodLink RX0 133 yX6_giversOf, .instanceMethod yX6_giversOf, .selects RX6 yX6_giversOf yX6_giversOf, .code yX6_giversOf cX6_giversOf 5 (some .int)] ++ wsX60)
def wsX6_put : List Cond := .code yX6_put cX6_put 5 none :: ([.fieldLink RX6 9 "PieceSwarm$Store" "givers" "[I", .fieldLink RX6 15 "PieceSwarm$Store" "values" "[I", .static yX9_place, .initialized RX9, .code yX9_place cX9_place 2 (some .int)] ++ wsX60)
def wsX9_oneIf : List Cond := .code yX9_oneIf cX9_oneIf 1 (some .int) :: ([])
def wsX6_heldOf : List Cond := .code yX6_heldOf cX6_heldOf 4 (some .int) :: ([.methodLink RX6 48 yX6_holds, .instanceMethod yX6_holds, .selects RX6 yX6_holds yX6_holds, .initialized RX6, .code yX6_holds cX6_holds 3 (some .boolean), .fieldLink RX6 41 "PieceSwarm$Store" "has" "I", .fieldLink RX6 9 "PieceSwarm$Store" "givers" "[I", .static yX9_isIn, .initialized RX9, .code yX9_isIn cX9_isIn 2 (some .boolean), .static yX9_place, .code yX9_place cX9_place 2 (some .int), .static yX9_oneIf, .code yX9_oneIf cX9_oneIf 1 (some .int)] ++ wsX60)
def wsX9_sumWith : List Cond := .code yX9_sumWith cX9_sumWith 2 (some .int) :: ([.constant RX9 271 (69069)])
def wsX6_sumOf : List Cond := .code yX6_sumOf cX6_sumOf 5 (some .int) :: ([.fieldLink RX6 15 "PieceSwarm$Store" "values" "[I", .static yX9_place, .initialized RX9, .code yX9_place cX9_place 2 (some .int), .static yX9_sumWith, .code yX9_sumWith cX9_sumWith 2 (some .int), .constant RX9 271 (69069)] ++ wsX60)
def wsX8_valueOf : List Cond := .code yX8_valueOf cX8_valueOf 4 (some .int) :: ([.fieldLink RX8 16 "PieceSwarm$Whole" "seed" "I", .constant RX8 23 (1103515245)] ++ wsX80)
def wsX8_sumOf : List Cond := .code yX8_sumOf cX8_sumOf 4 (some .int) :: ([.fieldLink RX8 13 "PieceSwarm$Whole" "blocks" "I", .methodLink RX8 24 yX8_valueOf, .instanceMethod yX8_valueOf, .selects RX8 yX8_valueOf yX8_valueOf, .initialized RX8, .code yX8_valueOf cX8_valueOf 4 (some .int), .fieldLink RX8 16 "PieceSwarm$Whole" "seed" "I", .constant RX8 23 (1103515245), .static yX9_sumWith, .initialized RX9, .code yX9_sumWith cX9_sumWith 2 (some .int), .constant RX9 271 (69069)] ++ wsX80)
def wsX8_allPieces : List Cond := .code yX8_allPieces cX8_allPieces 1 (some .int) :: ([.fieldLink RX8 7 "PieceSwarm$Whole" "pieces" "I"] ++ wsX80)
def wsX0_complete : List Cond := .code yX0_complete cX0_complete 3 none :: ([.fieldLink RX0 59 "PieceSwarm$Member" "store" "LPieceSwarm$Store;", .fieldLink RX0 118 "PieceSwarm$Store" "has" "I", .fieldLink RX0 7 "PieceSwarm$Arrival" "crowd" "LPieceSwarm$Crowd;", .fieldLink RX0 97 "PieceSwarm$Crowd" "whole" "LPieceSwarm$Whole;", .fieldLink RX0 29 "PieceSwarm$Crowd" "tickNumber" "I", .fieldLink RX0 140 "PieceSwarm$Member" "doneTick" "I", .methodLink RX0 136 yX8_allPieces, .instanceMethod yX8_allPieces, .selects RX8 yX8_allPieces yX8_allPieces, .initialized RX8, .code yX8_allPieces cX8_allPieces 1 (some .int), .fieldLink RX8 7 "PieceSwarm$Whole" "pieces" "I"] ++ wsX30 ++ wsX60 ++ wsX00 ++ wsX20 ++ wsX80)
def wsX0_ban : List Cond := .code yX0_ban cX0_ban 5 none :: ([.fieldLink RX0 7 "PieceSwarm$Arrival" "crowd" "LPieceSwarm$Crowd;", .fieldLink RX0 55 "PieceSwarm$Crowd" "members" "[LPieceSwarm$Member;", .fieldLink RX0 73 "PieceSwarm$Member" "ties" "LPieceSwarm$Ties;", .fieldLink RX0 159 "PieceSwarm$Ties" "banned" "I", .fieldLink RX0 162 "PieceSwarm$Ties" "bannedBy" "I", .fieldLink RX0 165 "PieceSwarm$Ties" "open" "I"] ++ wsX00 ++ wsX20 ++ wsX30 ++ wsX70)
def wsX6_drop : List Cond := .code yX6_drop cX6_drop 3 none :: ([.fieldLink RX6 9 "PieceSwarm$Store" "givers" "[I", .static yX9_place, .initialized RX9, .code yX9_place cX9_place 2 (some .int)] ++ wsX60)
def wsX0_fail_r1 : List Cond := [Cond.fieldLink RX0 7 "PieceSwarm$Arrival" "crowd" "LPieceSwarm$Crowd;", Cond.fieldLink RX0 55 "PieceSwarm$Crowd" "members" "[LPieceSwarm$Member;", Cond.fieldLink RX0 59 "PieceSwarm$Member" "store" "LPieceSwarm$Store;", Cond.fieldLink RX0 143 "PieceSwarm$Crowd" "size" "I", Cond.fieldLink RX0 73 "PieceSwarm$Member" "ties" "LPieceSwarm$Ties;", Cond.fieldLink RX0 146 "PieceSwarm$Ties" "doubts" "[I", Cond.fieldLink RX0 130 "PieceSwarm$Store" "marked" "I", Cond.fieldLink RX0 156 "PieceSwarm$Member" "failed" "I", Cond.methodLink RX0 133 yX6_giversOf, Cond.instanceMethod yX6_giversOf, Cond.selects RX6 yX6_giversOf yX6_giversOf, Cond.initialized RX6, Cond.code yX6_giversOf cX6_giversOf 5 (some .int), Cond.fieldLink RX6 9 "PieceSwarm$Store" "givers" "[I", Cond.static yX9_place, Cond.initialized RX9, Cond.code yX9_place cX9_place 2 (some .int), Cond.static yX9_isIn, Cond.code yX9_isIn cX9_isIn 2 (some .boolean), Cond.methodLink RX0 149 yX0_ban, Cond.instanceMethod yX0_ban, Cond.selects RX0 yX0_ban yX0_ban, Cond.initialized RX0, Cond.code yX0_ban cX0_ban 5 none]
def wsX0_fail_r2 : List Cond := [Cond.fieldLink RX0 159 "PieceSwarm$Ties" "banned" "I", Cond.fieldLink RX0 162 "PieceSwarm$Ties" "bannedBy" "I", Cond.fieldLink RX0 165 "PieceSwarm$Ties" "open" "I", Cond.methodLink RX0 152 yX6_drop, Cond.instanceMethod yX6_drop, Cond.selects RX6 yX6_drop yX6_drop, Cond.code yX6_drop cX6_drop 3 none]
def wsX0_fail : List Cond := .code yX0_fail cX0_fail 6 none :: ((wsX0_fail_r1 ++ wsX0_fail_r2) ++ wsX00 ++ wsX20 ++ wsX30 ++ wsX70 ++ wsX60)
def wsX0_take_r1 : List Cond := [Cond.fieldLink RX0 7 "PieceSwarm$Arrival" "crowd" "LPieceSwarm$Crowd;", Cond.fieldLink RX0 55 "PieceSwarm$Crowd" "members" "[LPieceSwarm$Member;", Cond.fieldLink RX0 59 "PieceSwarm$Member" "store" "LPieceSwarm$Store;", Cond.fieldLink RX0 70 "PieceSwarm$Member" "came" "I", Cond.fieldLink RX0 73 "PieceSwarm$Member" "ties" "LPieceSwarm$Ties;", Cond.fieldLink RX0 77 "PieceSwarm$Ties" "cameLate" "[I", Cond.fieldLink RX0 86 "PieceSwarm$Member" "spare" "I", Cond.fieldLink RX0 97 "PieceSwarm$Crowd" "whole" "LPieceSwarm$Whole;", Cond.fieldLink RX0 101 "PieceSwarm$Whole" "blocks" "I", Cond.methodLink RX0 65 yX6_expectNoMore, Cond.instanceMethod yX6_expectNoMore, Cond.selects RX6 yX6_expectNoMore yX6_expectNoMore, Cond.initialized RX6, Cond.code yX6_expectNoMore cX6_expectNoMore 3 none, Cond.fieldLink RX6 18 "PieceSwarm$Store" "coming" "[I", Cond.fieldLink RX6 59 "PieceSwarm$Store" "comingInAll" "I", Cond.static yX9_place, Cond.initialized RX9, Cond.code yX9_place cX9_place 2 (some .int), Cond.methodLink RX0 82 yX0_isSpare, Cond.instanceMethod yX0_isSpare, Cond.selects RX0 yX0_isSpare yX0_isSpare, Cond.initialized RX0, Cond.code yX0_isSpare cX0_isSpare 5 (some .boolean)]
def wsX0_take_r2 : List Cond := [Cond.fieldLink RX0 118 "PieceSwarm$Store" "has" "I", Cond.fieldLink RX0 130 "PieceSwarm$Store" "marked" "I", Cond.static yX9_isIn, Cond.code yX9_isIn cX9_isIn 2 (some .boolean), Cond.methodLink RX0 127 yX6_holds, Cond.instanceMethod yX6_holds, Cond.selects RX6 yX6_holds yX6_holds, Cond.code yX6_holds cX6_holds 3 (some .boolean), Cond.fieldLink RX6 41 "PieceSwarm$Store" "has" "I", Cond.fieldLink RX6 9 "PieceSwarm$Store" "givers" "[I", Cond.methodLink RX0 133 yX6_giversOf, Cond.instanceMethod yX6_giversOf, Cond.selects RX6 yX6_giversOf yX6_giversOf, Cond.code yX6_giversOf cX6_giversOf 5 (some .int), Cond.methodLink RX0 89 yX6_put, Cond.instanceMethod yX6_put, Cond.selects RX6 yX6_put yX6_put, Cond.code yX6_put cX6_put 5 none, Cond.fieldLink RX6 15 "PieceSwarm$Store" "values" "[I", Cond.methodLink RX0 93 yX6_heldOf, Cond.instanceMethod yX6_heldOf, Cond.selects RX6 yX6_heldOf yX6_heldOf, Cond.code yX6_heldOf cX6_heldOf 4 (some .int), Cond.methodLink RX6 48 yX6_holds]
def wsX0_take_r3 : List Cond := [Cond.static yX9_oneIf, Cond.code yX9_oneIf cX9_oneIf 1 (some .int), Cond.methodLink RX0 105 yX6_sumOf, Cond.instanceMethod yX6_sumOf, Cond.selects RX6 yX6_sumOf yX6_sumOf, Cond.code yX6_sumOf cX6_sumOf 5 (some .int), Cond.static yX9_sumWith, Cond.code yX9_sumWith cX9_sumWith 2 (some .int), Cond.constant RX9 271 (69069), Cond.methodLink RX0 109 yX8_sumOf, Cond.instanceMethod yX8_sumOf, Cond.selects RX8 yX8_sumOf yX8_sumOf, Cond.initialized RX8, Cond.code yX8_sumOf cX8_sumOf 4 (some .int), Cond.fieldLink RX8 13 "PieceSwarm$Whole" "blocks" "I", Cond.methodLink RX8 24 yX8_valueOf, Cond.instanceMethod yX8_valueOf, Cond.selects RX8 yX8_valueOf yX8_valueOf, Cond.code yX8_valueOf cX8_valueOf 4 (some .int), Cond.fieldLink RX8 16 "PieceSwarm$Whole" "seed" "I", Cond.constant RX8 23 (1103515245), Cond.methodLink RX0 111 yX0_complete, Cond.instanceMethod yX0_complete, Cond.selects RX0 yX0_complete yX0_complete]
def wsX0_take_r4 : List Cond := [Cond.code yX0_complete cX0_complete 3 none, Cond.fieldLink RX0 29 "PieceSwarm$Crowd" "tickNumber" "I", Cond.fieldLink RX0 140 "PieceSwarm$Member" "doneTick" "I", Cond.methodLink RX0 136 yX8_allPieces, Cond.instanceMethod yX8_allPieces, Cond.selects RX8 yX8_allPieces yX8_allPieces, Cond.code yX8_allPieces cX8_allPieces 1 (some .int), Cond.fieldLink RX8 7 "PieceSwarm$Whole" "pieces" "I", Cond.methodLink RX0 115 yX0_fail, Cond.instanceMethod yX0_fail, Cond.selects RX0 yX0_fail yX0_fail, Cond.code yX0_fail cX0_fail 6 none, Cond.fieldLink RX0 143 "PieceSwarm$Crowd" "size" "I", Cond.fieldLink RX0 146 "PieceSwarm$Ties" "doubts" "[I", Cond.fieldLink RX0 156 "PieceSwarm$Member" "failed" "I", Cond.methodLink RX0 149 yX0_ban, Cond.instanceMethod yX0_ban, Cond.selects RX0 yX0_ban yX0_ban, Cond.code yX0_ban cX0_ban 5 none, Cond.fieldLink RX0 159 "PieceSwarm$Ties" "banned" "I", Cond.fieldLink RX0 162 "PieceSwarm$Ties" "bannedBy" "I", Cond.fieldLink RX0 165 "PieceSwarm$Ties" "open" "I", Cond.methodLink RX0 152 yX6_drop, Cond.instanceMethod yX6_drop]
def wsX0_take_r5 : List Cond := [Cond.selects RX6 yX6_drop yX6_drop, Cond.code yX6_drop cX6_drop 3 none]
def wsX0_take : List Cond := .code yX0_take cX0_take 8 none :: ((wsX0_take_r1 ++ (wsX0_take_r2 ++ (wsX0_take_r3 ++ (wsX0_take_r4 ++ wsX0_take_r5)))) ++ wsX00 ++ wsX20 ++ wsX30 ++ wsX70 ++ wsX80 ++ wsX60)
def wsX5_move : List Cond := .code yX5_move cX5_move 3 none :: ([.fieldLink RX5 11 "PieceSwarm$Road" "givers" "[I", .fieldLink RX5 15 "PieceSwarm$Road" "takers" "[I", .fieldLink RX5 18 "PieceSwarm$Road" "pieces" "[I", .fieldLink RX5 21 "PieceSwarm$Road" "blocks" "[I", .fieldLink RX5 24 "PieceSwarm$Road" "values" "[I", .fieldLink RX5 27 "PieceSwarm$Road" "dueTicks" "[I"] ++ wsX50)
def wsX0_takeDue_r1 : List Cond := [Cond.fieldLink RX0 7 "PieceSwarm$Arrival" "crowd" "LPieceSwarm$Crowd;", Cond.fieldLink RX0 13 "PieceSwarm$Crowd" "road" "LPieceSwarm$Road;", Cond.fieldLink RX0 19 "PieceSwarm$Road" "length" "I", Cond.fieldLink RX0 25 "PieceSwarm$Road" "dueTicks" "[I", Cond.fieldLink RX0 29 "PieceSwarm$Crowd" "tickNumber" "I", Cond.fieldLink RX0 32 "PieceSwarm$Road" "takers" "[I", Cond.fieldLink RX0 35 "PieceSwarm$Road" "givers" "[I", Cond.fieldLink RX0 38 "PieceSwarm$Road" "pieces" "[I", Cond.fieldLink RX0 41 "PieceSwarm$Road" "blocks" "[I", Cond.fieldLink RX0 44 "PieceSwarm$Road" "values" "[I", Cond.methodLink RX0 47 yX0_take, Cond.instanceMethod yX0_take, Cond.selects RX0 yX0_take yX0_take, Cond.initialized RX0, Cond.code yX0_take cX0_take 8 none, Cond.fieldLink RX0 55 "PieceSwarm$Crowd" "members" "[LPieceSwarm$Member;", Cond.fieldLink RX0 59 "PieceSwarm$Member" "store" "LPieceSwarm$Store;", Cond.fieldLink RX0 70 "PieceSwarm$Member" "came" "I", Cond.fieldLink RX0 73 "PieceSwarm$Member" "ties" "LPieceSwarm$Ties;", Cond.fieldLink RX0 77 "PieceSwarm$Ties" "cameLate" "[I", Cond.fieldLink RX0 86 "PieceSwarm$Member" "spare" "I", Cond.fieldLink RX0 97 "PieceSwarm$Crowd" "whole" "LPieceSwarm$Whole;", Cond.fieldLink RX0 101 "PieceSwarm$Whole" "blocks" "I", Cond.methodLink RX0 65 yX6_expectNoMore]
def wsX0_takeDue_r2 : List Cond := [Cond.instanceMethod yX6_expectNoMore, Cond.selects RX6 yX6_expectNoMore yX6_expectNoMore, Cond.initialized RX6, Cond.code yX6_expectNoMore cX6_expectNoMore 3 none, Cond.fieldLink RX6 18 "PieceSwarm$Store" "coming" "[I", Cond.fieldLink RX6 59 "PieceSwarm$Store" "comingInAll" "I", Cond.static yX9_place, Cond.initialized RX9, Cond.code yX9_place cX9_place 2 (some .int), Cond.methodLink RX0 82 yX0_isSpare, Cond.instanceMethod yX0_isSpare, Cond.selects RX0 yX0_isSpare yX0_isSpare, Cond.code yX0_isSpare cX0_isSpare 5 (some .boolean), Cond.fieldLink RX0 118 "PieceSwarm$Store" "has" "I", Cond.fieldLink RX0 130 "PieceSwarm$Store" "marked" "I", Cond.static yX9_isIn, Cond.code yX9_isIn cX9_isIn 2 (some .boolean), Cond.methodLink RX0 127 yX6_holds, Cond.instanceMethod yX6_holds, Cond.selects RX6 yX6_holds yX6_holds, Cond.code yX6_holds cX6_holds 3 (some .boolean), Cond.fieldLink RX6 41 "PieceSwarm$Store" "has" "I", Cond.fieldLink RX6 9 "PieceSwarm$Store" "givers" "[I", Cond.methodLink RX0 133 yX6_giversOf]
def wsX0_takeDue_r3 : List Cond := [Cond.instanceMethod yX6_giversOf, Cond.selects RX6 yX6_giversOf yX6_giversOf, Cond.code yX6_giversOf cX6_giversOf 5 (some .int), Cond.methodLink RX0 89 yX6_put, Cond.instanceMethod yX6_put, Cond.selects RX6 yX6_put yX6_put, Cond.code yX6_put cX6_put 5 none, Cond.fieldLink RX6 15 "PieceSwarm$Store" "values" "[I", Cond.methodLink RX0 93 yX6_heldOf, Cond.instanceMethod yX6_heldOf, Cond.selects RX6 yX6_heldOf yX6_heldOf, Cond.code yX6_heldOf cX6_heldOf 4 (some .int), Cond.methodLink RX6 48 yX6_holds, Cond.static yX9_oneIf, Cond.code yX9_oneIf cX9_oneIf 1 (some .int), Cond.methodLink RX0 105 yX6_sumOf, Cond.instanceMethod yX6_sumOf, Cond.selects RX6 yX6_sumOf yX6_sumOf, Cond.code yX6_sumOf cX6_sumOf 5 (some .int), Cond.static yX9_sumWith, Cond.code yX9_sumWith cX9_sumWith 2 (some .int), Cond.constant RX9 271 (69069), Cond.methodLink RX0 109 yX8_sumOf, Cond.instanceMethod yX8_sumOf]
def wsX0_takeDue_r4 : List Cond := [Cond.selects RX8 yX8_sumOf yX8_sumOf, Cond.initialized RX8, Cond.code yX8_sumOf cX8_sumOf 4 (some .int), Cond.fieldLink RX8 13 "PieceSwarm$Whole" "blocks" "I", Cond.methodLink RX8 24 yX8_valueOf, Cond.instanceMethod yX8_valueOf, Cond.selects RX8 yX8_valueOf yX8_valueOf, Cond.code yX8_valueOf cX8_valueOf 4 (some .int), Cond.fieldLink RX8 16 "PieceSwarm$Whole" "seed" "I", Cond.constant RX8 23 (1103515245), Cond.methodLink RX0 111 yX0_complete, Cond.instanceMethod yX0_complete, Cond.selects RX0 yX0_complete yX0_complete, Cond.code yX0_complete cX0_complete 3 none, Cond.fieldLink RX0 140 "PieceSwarm$Member" "doneTick" "I", Cond.methodLink RX0 136 yX8_allPieces, Cond.instanceMethod yX8_allPieces, Cond.selects RX8 yX8_allPieces yX8_allPieces, Cond.code yX8_allPieces cX8_allPieces 1 (some .int), Cond.fieldLink RX8 7 "PieceSwarm$Whole" "pieces" "I", Cond.methodLink RX0 115 yX0_fail, Cond.instanceMethod yX0_fail, Cond.selects RX0 yX0_fail yX0_fail, Cond.code yX0_fail cX0_fail 6 none]
def wsX0_takeDue_r5 : List Cond := [Cond.fieldLink RX0 143 "PieceSwarm$Crowd" "size" "I", Cond.fieldLink RX0 146 "PieceSwarm$Ties" "doubts" "[I", Cond.fieldLink RX0 156 "PieceSwarm$Member" "failed" "I", Cond.methodLink RX0 149 yX0_ban, Cond.instanceMethod yX0_ban, Cond.selects RX0 yX0_ban yX0_ban, Cond.code yX0_ban cX0_ban 5 none, Cond.fieldLink RX0 159 "PieceSwarm$Ties" "banned" "I", Cond.fieldLink RX0 162 "PieceSwarm$Ties" "bannedBy" "I", Cond.fieldLink RX0 165 "PieceSwarm$Ties" "open" "I", Cond.methodLink RX0 152 yX6_drop, Cond.instanceMethod yX6_drop, Cond.selects RX6 yX6_drop yX6_drop, Cond.code yX6_drop cX6_drop 3 none, Cond.methodLink RX0 51 yX5_move, Cond.instanceMethod yX5_move, Cond.selects RX5 yX5_move yX5_move, Cond.initialized RX5, Cond.code yX5_move cX5_move 3 none, Cond.fieldLink RX5 11 "PieceSwarm$Road" "givers" "[I", Cond.fieldLink RX5 15 "PieceSwarm$Road" "takers" "[I", Cond.fieldLink RX5 18 "PieceSwarm$Road" "pieces" "[I", Cond.fieldLink RX5 21 "PieceSwarm$Road" "blocks" "[I", Cond.fieldLink RX5 24 "PieceSwarm$Road" "values" "[I"]
def wsX0_takeDue_r6 : List Cond := [Cond.fieldLink RX5 27 "PieceSwarm$Road" "dueTicks" "[I"]
def wsX0_takeDue : List Cond := .code yX0_takeDue cX0_takeDue 4 none :: ((wsX0_takeDue_r1 ++ (wsX0_takeDue_r2 ++ (wsX0_takeDue_r3 ++ (wsX0_takeDue_r4 ++ (wsX0_takeDue_r5 ++ wsX0_takeDue_r6))))) ++ wsX00 ++ wsX20 ++ wsX50 ++ wsX30 ++ wsX70 ++ wsX80 ++ wsX60)
def wsX1_init : List Cond := .code yX1_init cX1_init 2 none :: ([.methodLink RX1 3 objectInit, .instanceMethod objectInit, .code objectInit ⟨#[0xb1]⟩ 1 none, .fieldLink RX1 9 "PieceSwarm$Asking" "crowd" "LPieceSwarm$Crowd;"] ++ wsX10)
def wsX2_nearTo : List Cond := .code yX2_nearTo cX2_nearTo 3 (some .int) :: ([.fieldLink RX2 27 "PieceSwarm$Crowd" "members" "[LPieceSwarm$Member;", .fieldLink RX2 65 "PieceSwarm$Member" "ties" "LPieceSwarm$Ties;", .fieldLink RX2 62 "PieceSwarm$Crowd" "here" "I", .fieldLink RX2 73 "PieceSwarm$Ties" "neighbours" "I", .fieldLink RX2 78 "PieceSwarm$Ties" "banned" "I", .fieldLink RX2 81 "PieceSwarm$Ties" "bannedBy" "I", .static yX9_isIn, .initialized RX9, .code yX9_isIn cX9_isIn 2 (some .boolean)] ++ wsX20 ++ wsX30 ++ wsX70)
def wsX1_dropStrandedOf : List Cond := .code yX1_dropStrandedOf cX1_dropStrandedOf 5 none :: ([.fieldLink RX1 46 "PieceSwarm$Store" "marked" "I", .fieldLink RX1 51 "PieceSwarm$Store" "has" "I", .fieldLink RX1 9 "PieceSwarm$Asking" "crowd" "LPieceSwarm$Crowd;", .fieldLink RX1 54 "PieceSwarm$Crowd" "whole" "LPieceSwarm$Whole;", .fieldLink RX1 58 "PieceSwarm$Whole" "pieces" "I", .static yX9_isIn, .initialized RX9, .code yX9_isIn cX9_isIn 2 (some .boolean), .methodLink RX1 63 yX6_giversOf, .instanceMethod yX6_giversOf, .selects RX6 yX6_giversOf yX6_giversOf, .initialized RX6, .code yX6_giversOf cX6_giversOf 5 (some .int), .fieldLink RX6 9 "PieceSwarm$Store" "givers" "[I", .static yX9_place, .code yX9_place cX9_place 2 (some .int), .methodLink RX1 66 yX6_drop, .instanceMethod yX6_drop, .selects RX6 yX6_drop yX6_drop, .code yX6_drop cX6_drop 3 none] ++ wsX60 ++ wsX10 ++ wsX20 ++ wsX80)
def wsX1_dropStranded_r1 : List Cond := [Cond.fieldLink RX1 9 "PieceSwarm$Asking" "crowd" "LPieceSwarm$Crowd;", Cond.fieldLink RX1 15 "PieceSwarm$Crowd" "size" "I", Cond.fieldLink RX1 21 "PieceSwarm$Crowd" "here" "I", Cond.fieldLink RX1 28 "PieceSwarm$Crowd" "members" "[LPieceSwarm$Member;", Cond.fieldLink RX1 32 "PieceSwarm$Member" "store" "LPieceSwarm$Store;", Cond.static yX9_isIn, Cond.initialized RX9, Cond.code yX9_isIn cX9_isIn 2 (some .boolean), Cond.methodLink RX1 38 yX2_nearTo, Cond.instanceMethod yX2_nearTo, Cond.selects RX2 yX2_nearTo yX2_nearTo, Cond.initialized RX2, Cond.code yX2_nearTo cX2_nearTo 3 (some .int), Cond.fieldLink RX2 27 "PieceSwarm$Crowd" "members" "[LPieceSwarm$Member;", Cond.fieldLink RX2 65 "PieceSwarm$Member" "ties" "LPieceSwarm$Ties;", Cond.fieldLink RX2 62 "PieceSwarm$Crowd" "here" "I", Cond.fieldLink RX2 73 "PieceSwarm$Ties" "neighbours" "I", Cond.fieldLink RX2 78 "PieceSwarm$Ties" "banned" "I", Cond.fieldLink RX2 81 "PieceSwarm$Ties" "bannedBy" "I", Cond.methodLink RX1 42 yX1_dropStrandedOf, Cond.instanceMethod yX1_dropStrandedOf, Cond.selects RX1 yX1_dropStrandedOf yX1_dropStrandedOf, Cond.initialized RX1, Cond.code yX1_dropStrandedOf cX1_dropStrandedOf 5 none]
def wsX1_dropStranded_r2 : List Cond := [Cond.fieldLink RX1 46 "PieceSwarm$Store" "marked" "I", Cond.fieldLink RX1 51 "PieceSwarm$Store" "has" "I", Cond.fieldLink RX1 54 "PieceSwarm$Crowd" "whole" "LPieceSwarm$Whole;", Cond.fieldLink RX1 58 "PieceSwarm$Whole" "pieces" "I", Cond.methodLink RX1 63 yX6_giversOf, Cond.instanceMethod yX6_giversOf, Cond.selects RX6 yX6_giversOf yX6_giversOf, Cond.initialized RX6, Cond.code yX6_giversOf cX6_giversOf 5 (some .int), Cond.fieldLink RX6 9 "PieceSwarm$Store" "givers" "[I", Cond.static yX9_place, Cond.code yX9_place cX9_place 2 (some .int), Cond.methodLink RX1 66 yX6_drop, Cond.instanceMethod yX6_drop, Cond.selects RX6 yX6_drop yX6_drop, Cond.code yX6_drop cX6_drop 3 none]
def wsX1_dropStranded : List Cond := .code yX1_dropStranded cX1_dropStranded 2 none :: ((wsX1_dropStranded_r1 ++ wsX1_dropStranded_r2) ++ wsX10 ++ wsX20 ++ wsX30 ++ wsX70 ++ wsX60 ++ wsX80)
def wsX3_isDone : List Cond := .code yX3_isDone cX3_isDone 1 (some .boolean) :: ([.fieldLink RX3 29 "PieceSwarm$Member" "doneTick" "I"] ++ wsX30)
def wsX5_hasRoom : List Cond := .code yX5_hasRoom cX5_hasRoom 1 (some .boolean) :: ([.fieldLink RX5 30 "PieceSwarm$Road" "length" "I"] ++ wsX50)
def wsX1_giversTo : List Cond := .code yX1_giversTo cX1_giversTo 6 (some .int) :: ([.fieldLink RX1 9 "PieceSwarm$Asking" "crowd" "LPieceSwarm$Crowd;", .fieldLink RX1 15 "PieceSwarm$Crowd" "size" "I", .fieldLink RX1 28 "PieceSwarm$Crowd" "members" "[LPieceSwarm$Member;", .fieldLink RX1 126 "PieceSwarm$Member" "ties" "LPieceSwarm$Ties;", .fieldLink RX1 130 "PieceSwarm$Ties" "open" "I", .fieldLink RX1 73 "PieceSwarm$Member" "maySend" "I", .methodLink RX1 38 yX2_nearTo, .instanceMethod yX2_nearTo, .selects RX2 yX2_nearTo yX2_nearTo, .initialized RX2, .code yX2_nearTo cX2_nearTo 3 (some .int), .fieldLink RX2 27 "PieceSwarm$Crowd" "members" "[LPieceSwarm$Member;", .fieldLink RX2 65 "PieceSwarm$Member" "ties" "LPieceSwarm$Ties;", .fieldLink RX2 62 "PieceSwarm$Crowd" "here" "I", .fieldLink RX2 73 "PieceSwarm$Ties" "neighbours" "I", .fieldLink RX2 78 "PieceSwarm$Ties" "banned" "I", .fieldLink RX2 81 "PieceSwarm$Ties" "bannedBy" "I", .static yX9_isIn, .initialized RX9, .code yX9_isIn cX9_isIn 2 (some .boolean)] ++ wsX10 ++ wsX20 ++ wsX30 ++ wsX70)
def wsX6_firstUnasked : List Cond := .code yX6_firstUnasked cX6_firstUnasked 4 (some .int) :: ([.fieldLink RX6 18 "PieceSwarm$Store" "coming" "[I", .methodLink RX6 48 yX6_holds, .instanceMethod yX6_holds, .selects RX6 yX6_holds yX6_holds, .initialized RX6, .code yX6_holds cX6_holds 3 (some .boolean), .fieldLink RX6 41 "PieceSwarm$Store" "has" "I", .fieldLink RX6 9 "PieceSwarm$Store" "givers" "[I", .static yX9_isIn, .initialized RX9, .code yX9_isIn cX9_isIn 2 (some .boolean), .static yX9_place, .code yX9_place cX9_place 2 (some .int)] ++ wsX60)
def wsX3_toldPieces : List Cond := .code yX3_toldPieces cX3_toldPieces 1 (some .int) :: ([.fieldLink RX3 32 "PieceSwarm$Member" "kind" "I", .fieldLink RX3 12 "PieceSwarm$Member" "store" "LPieceSwarm$Store;", .fieldLink RX3 35 "PieceSwarm$Store" "has" "I", .constant RX3 38 (5592405)] ++ wsX30 ++ wsX60)
def wsX2_tellersAmong : List Cond := .code yX2_tellersAmong cX2_tellersAmong 5 (some .int) :: ([.fieldLink RX2 32 "PieceSwarm$Crowd" "size" "I", .fieldLink RX2 27 "PieceSwarm$Crowd" "members" "[LPieceSwarm$Member;", .static yX9_isIn, .initialized RX9, .code yX9_isIn cX9_isIn 2 (some .boolean), .methodLink RX2 84 yX3_toldPieces, .instanceMethod yX3_toldPieces, .selects RX3 yX3_toldPieces yX3_toldPieces, .initialized RX3, .code yX3_toldPieces cX3_toldPieces 1 (some .int), .fieldLink RX3 32 "PieceSwarm$Member" "kind" "I", .fieldLink RX3 12 "PieceSwarm$Member" "store" "LPieceSwarm$Store;", .fieldLink RX3 35 "PieceSwarm$Store" "has" "I", .constant RX3 38 (5592405)] ++ wsX20 ++ wsX30 ++ wsX60)
def wsX6_firstGiver : List Cond := .code yX6_firstGiver cX6_firstGiver 4 (some .int) :: ([.fieldLink RX6 9 "PieceSwarm$Store" "givers" "[I", .static yX9_place, .initialized RX9, .code yX9_place cX9_place 2 (some .int)] ++ wsX60)
def wsX5_firstGiver : List Cond := .code yX5_firstGiver cX5_firstGiver 4 (some .int) :: ([.fieldLink RX5 30 "PieceSwarm$Road" "length" "I", .fieldLink RX5 15 "PieceSwarm$Road" "takers" "[I", .fieldLink RX5 18 "PieceSwarm$Road" "pieces" "[I", .fieldLink RX5 11 "PieceSwarm$Road" "givers" "[I"] ++ wsX50)
def wsX1_giversThatMayBe_r1 : List Cond := [Cond.fieldLink RX1 9 "PieceSwarm$Asking" "crowd" "LPieceSwarm$Crowd;", Cond.fieldLink RX1 28 "PieceSwarm$Crowd" "members" "[LPieceSwarm$Member;", Cond.fieldLink RX1 32 "PieceSwarm$Member" "store" "LPieceSwarm$Store;", Cond.fieldLink RX1 46 "PieceSwarm$Store" "marked" "I", Cond.fieldLink RX1 90 "PieceSwarm$Crowd" "road" "LPieceSwarm$Road;", Cond.methodLink RX1 135 yX2_tellersAmong, Cond.instanceMethod yX2_tellersAmong, Cond.selects RX2 yX2_tellersAmong yX2_tellersAmong, Cond.initialized RX2, Cond.code yX2_tellersAmong cX2_tellersAmong 5 (some .int), Cond.fieldLink RX2 32 "PieceSwarm$Crowd" "size" "I", Cond.fieldLink RX2 27 "PieceSwarm$Crowd" "members" "[LPieceSwarm$Member;", Cond.static yX9_isIn, Cond.initialized RX9, Cond.code yX9_isIn cX9_isIn 2 (some .boolean), Cond.methodLink RX2 84 yX3_toldPieces, Cond.instanceMethod yX3_toldPieces, Cond.selects RX3 yX3_toldPieces yX3_toldPieces, Cond.initialized RX3, Cond.code yX3_toldPieces cX3_toldPieces 1 (some .int), Cond.fieldLink RX3 32 "PieceSwarm$Member" "kind" "I", Cond.fieldLink RX3 12 "PieceSwarm$Member" "store" "LPieceSwarm$Store;", Cond.fieldLink RX3 35 "PieceSwarm$Store" "has" "I", Cond.constant RX3 38 (5592405)]
def wsX1_giversThatMayBe_r2 : List Cond := [Cond.methodLink RX1 146 yX6_firstGiver, Cond.instanceMethod yX6_firstGiver, Cond.selects RX6 yX6_firstGiver yX6_firstGiver, Cond.initialized RX6, Cond.code yX6_firstGiver cX6_firstGiver 4 (some .int), Cond.fieldLink RX6 9 "PieceSwarm$Store" "givers" "[I", Cond.static yX9_place, Cond.code yX9_place cX9_place 2 (some .int), Cond.methodLink RX1 149 yX5_firstGiver, Cond.instanceMethod yX5_firstGiver, Cond.selects RX5 yX5_firstGiver yX5_firstGiver, Cond.initialized RX5, Cond.code yX5_firstGiver cX5_firstGiver 4 (some .int), Cond.fieldLink RX5 30 "PieceSwarm$Road" "length" "I", Cond.fieldLink RX5 15 "PieceSwarm$Road" "takers" "[I", Cond.fieldLink RX5 18 "PieceSwarm$Road" "pieces" "[I", Cond.fieldLink RX5 11 "PieceSwarm$Road" "givers" "[I"]
def wsX1_giversThatMayBe : List Cond := .code yX1_giversThatMayBe cX1_giversThatMayBe 7 (some .int) :: ((wsX1_giversThatMayBe_r1 ++ wsX1_giversThatMayBe_r2) ++ wsX10 ++ wsX20 ++ wsX30 ++ wsX60 ++ wsX50)
def wsJ6_bitCount_0f7a4 : List Cond := .code yJ6_bitCount_0f7a4 cJ6_bitCount_0f7a4 1 (some .int) :: ([.constant RJ6 265 (1431655765), .constant RJ6 266 (858993459), .constant RJ6 267 (252645135)])
def wsX6_isBegun : List Cond := .code yX6_isBegun cX6_isBegun 3 (some .boolean) :: ([.fieldLink RX6 18 "PieceSwarm$Store" "coming" "[I", .methodLink RX6 48 yX6_holds, .instanceMethod yX6_holds, .selects RX6 yX6_holds yX6_holds, .initialized RX6, .code yX6_holds cX6_holds 3 (some .boolean), .fieldLink RX6 41 "PieceSwarm$Store" "has" "I", .fieldLink RX6 9 "PieceSwarm$Store" "givers" "[I", .static yX9_isIn, .initialized RX9, .code yX9_isIn cX9_isIn 2 (some .boolean), .static yX9_place, .code yX9_place cX9_place 2 (some .int)] ++ wsX60)
def wsX1_pickPiece_r1 : List Cond := [Cond.fieldLink RX1 9 "PieceSwarm$Asking" "crowd" "LPieceSwarm$Crowd;", Cond.fieldLink RX1 28 "PieceSwarm$Crowd" "members" "[LPieceSwarm$Member;", Cond.fieldLink RX1 32 "PieceSwarm$Member" "store" "LPieceSwarm$Store;", Cond.fieldLink RX1 54 "PieceSwarm$Crowd" "whole" "LPieceSwarm$Whole;", Cond.fieldLink RX1 58 "PieceSwarm$Whole" "pieces" "I", Cond.fieldLink RX1 51 "PieceSwarm$Store" "has" "I", Cond.fieldLink RX1 109 "PieceSwarm$Whole" "blocks" "I", Cond.methodLink RX1 38 yX2_nearTo, Cond.instanceMethod yX2_nearTo, Cond.selects RX2 yX2_nearTo yX2_nearTo, Cond.initialized RX2, Cond.code yX2_nearTo cX2_nearTo 3 (some .int), Cond.fieldLink RX2 27 "PieceSwarm$Crowd" "members" "[LPieceSwarm$Member;", Cond.fieldLink RX2 65 "PieceSwarm$Member" "ties" "LPieceSwarm$Ties;", Cond.fieldLink RX2 62 "PieceSwarm$Crowd" "here" "I", Cond.fieldLink RX2 73 "PieceSwarm$Ties" "neighbours" "I", Cond.fieldLink RX2 78 "PieceSwarm$Ties" "banned" "I", Cond.fieldLink RX2 81 "PieceSwarm$Ties" "bannedBy" "I", Cond.static yX9_isIn, Cond.initialized RX9, Cond.code yX9_isIn cX9_isIn 2 (some .boolean), Cond.methodLink RX1 112 yX6_firstUnasked, Cond.instanceMethod yX6_firstUnasked, Cond.selects RX6 yX6_firstUnasked yX6_firstUnasked]
def wsX1_pickPiece_r2 : List Cond := [Cond.initialized RX6, Cond.code yX6_firstUnasked cX6_firstUnasked 4 (some .int), Cond.fieldLink RX6 18 "PieceSwarm$Store" "coming" "[I", Cond.methodLink RX6 48 yX6_holds, Cond.instanceMethod yX6_holds, Cond.selects RX6 yX6_holds yX6_holds, Cond.code yX6_holds cX6_holds 3 (some .boolean), Cond.fieldLink RX6 41 "PieceSwarm$Store" "has" "I", Cond.fieldLink RX6 9 "PieceSwarm$Store" "givers" "[I", Cond.static yX9_place, Cond.code yX9_place cX9_place 2 (some .int), Cond.methodLink RX1 115 yX1_giversThatMayBe, Cond.instanceMethod yX1_giversThatMayBe, Cond.selects RX1 yX1_giversThatMayBe yX1_giversThatMayBe, Cond.initialized RX1, Cond.code yX1_giversThatMayBe cX1_giversThatMayBe 7 (some .int), Cond.fieldLink RX1 46 "PieceSwarm$Store" "marked" "I", Cond.fieldLink RX1 90 "PieceSwarm$Crowd" "road" "LPieceSwarm$Road;", Cond.methodLink RX1 135 yX2_tellersAmong, Cond.instanceMethod yX2_tellersAmong, Cond.selects RX2 yX2_tellersAmong yX2_tellersAmong, Cond.code yX2_tellersAmong cX2_tellersAmong 5 (some .int), Cond.fieldLink RX2 32 "PieceSwarm$Crowd" "size" "I", Cond.methodLink RX2 84 yX3_toldPieces]
def wsX1_pickPiece_r3 : List Cond := [Cond.instanceMethod yX3_toldPieces, Cond.selects RX3 yX3_toldPieces yX3_toldPieces, Cond.initialized RX3, Cond.code yX3_toldPieces cX3_toldPieces 1 (some .int), Cond.fieldLink RX3 32 "PieceSwarm$Member" "kind" "I", Cond.fieldLink RX3 12 "PieceSwarm$Member" "store" "LPieceSwarm$Store;", Cond.fieldLink RX3 35 "PieceSwarm$Store" "has" "I", Cond.constant RX3 38 (5592405), Cond.methodLink RX1 146 yX6_firstGiver, Cond.instanceMethod yX6_firstGiver, Cond.selects RX6 yX6_firstGiver yX6_firstGiver, Cond.code yX6_firstGiver cX6_firstGiver 4 (some .int), Cond.methodLink RX1 149 yX5_firstGiver, Cond.instanceMethod yX5_firstGiver, Cond.selects RX5 yX5_firstGiver yX5_firstGiver, Cond.initialized RX5, Cond.code yX5_firstGiver cX5_firstGiver 4 (some .int), Cond.fieldLink RX5 30 "PieceSwarm$Road" "length" "I", Cond.fieldLink RX5 15 "PieceSwarm$Road" "takers" "[I", Cond.fieldLink RX5 18 "PieceSwarm$Road" "pieces" "[I", Cond.fieldLink RX5 11 "PieceSwarm$Road" "givers" "[I", Cond.methodLink RX1 138 yJ6_bitCount_0f7a4, Cond.static yJ6_bitCount_0f7a4, Cond.initialized RJ6]
def wsX1_pickPiece_r4 : List Cond := [Cond.code yJ6_bitCount_0f7a4 cJ6_bitCount_0f7a4 1 (some .int), Cond.constant RJ6 265 (1431655765), Cond.constant RJ6 266 (858993459), Cond.constant RJ6 267 (252645135), Cond.methodLink RX1 143 yX6_isBegun, Cond.instanceMethod yX6_isBegun, Cond.selects RX6 yX6_isBegun yX6_isBegun, Cond.code yX6_isBegun cX6_isBegun 3 (some .boolean)]
def wsX1_pickPiece : List Cond := .code yX1_pickPiece cX1_pickPiece 10 (some .int) :: ((wsX1_pickPiece_r1 ++ (wsX1_pickPiece_r2 ++ (wsX1_pickPiece_r3 ++ wsX1_pickPiece_r4))) ++ wsX10 ++ wsX20 ++ wsX30 ++ wsX80 ++ wsX60 ++ wsX70 ++ wsX50)
def wsX5_firstGiverOf : List Cond := .code yX5_firstGiverOf cX5_firstGiverOf 5 (some .int) :: ([.fieldLink RX5 30 "PieceSwarm$Road" "length" "I", .fieldLink RX5 15 "PieceSwarm$Road" "takers" "[I", .fieldLink RX5 18 "PieceSwarm$Road" "pieces" "[I", .fieldLink RX5 21 "PieceSwarm$Road" "blocks" "[I", .fieldLink RX5 11 "PieceSwarm$Road" "givers" "[I"] ++ wsX50)
def wsX1_readiest : List Cond := .code yX1_readiest cX1_readiest 4 (some .int) :: ([.fieldLink RX1 9 "PieceSwarm$Asking" "crowd" "LPieceSwarm$Crowd;", .fieldLink RX1 15 "PieceSwarm$Crowd" "size" "I", .fieldLink RX1 28 "PieceSwarm$Crowd" "members" "[LPieceSwarm$Member;", .fieldLink RX1 73 "PieceSwarm$Member" "maySend" "I", .static yX9_isIn, .initialized RX9, .code yX9_isIn cX9_isIn 2 (some .boolean)] ++ wsX10 ++ wsX20 ++ wsX30)
def wsX6_expect : List Cond := .code yX6_expect cX6_expect 3 none :: ([.fieldLink RX6 18 "PieceSwarm$Store" "coming" "[I", .fieldLink RX6 59 "PieceSwarm$Store" "comingInAll" "I", .static yX9_place, .initialized RX9, .code yX9_place cX9_place 2 (some .int)] ++ wsX60)
def wsX3_nowSendsFalse : List Cond := .code yX3_nowSendsFalse cX3_nowSendsFalse 1 (some .boolean) :: ([.fieldLink RX3 32 "PieceSwarm$Member" "kind" "I", .fieldLink RX3 25 "PieceSwarm$Member" "everyNth" "I", .fieldLink RX3 50 "PieceSwarm$Member" "sent" "I"] ++ wsX30)
def wsX5_add : List Cond := .code yX5_add cX5_add 7 none :: ([.fieldLink RX5 11 "PieceSwarm$Road" "givers" "[I", .fieldLink RX5 30 "PieceSwarm$Road" "length" "I", .fieldLink RX5 15 "PieceSwarm$Road" "takers" "[I", .fieldLink RX5 18 "PieceSwarm$Road" "pieces" "[I", .fieldLink RX5 21 "PieceSwarm$Road" "blocks" "[I", .fieldLink RX5 24 "PieceSwarm$Road" "values" "[I", .fieldLink RX5 27 "PieceSwarm$Road" "dueTicks" "[I", .methodLink RX5 34 yX5_hasRoom, .instanceMethod yX5_hasRoom, .selects RX5 yX5_hasRoom yX5_hasRoom, .initialized RX5, .code yX5_hasRoom cX5_hasRoom 1 (some .boolean)] ++ wsX50)
def wsX1_send_r1 : List Cond := [Cond.fieldLink RX1 9 "PieceSwarm$Asking" "crowd" "LPieceSwarm$Crowd;", Cond.fieldLink RX1 28 "PieceSwarm$Crowd" "members" "[LPieceSwarm$Member;", Cond.fieldLink RX1 73 "PieceSwarm$Member" "maySend" "I", Cond.fieldLink RX1 164 "PieceSwarm$Member" "sent" "I", Cond.fieldLink RX1 126 "PieceSwarm$Member" "ties" "LPieceSwarm$Ties;", Cond.fieldLink RX1 167 "PieceSwarm$Ties" "sent" "[I", Cond.fieldLink RX1 169 "PieceSwarm$Ties" "sentLate" "[I", Cond.fieldLink RX1 79 "PieceSwarm$Member" "mayAsk" "I", Cond.fieldLink RX1 32 "PieceSwarm$Member" "store" "LPieceSwarm$Store;", Cond.fieldLink RX1 176 "PieceSwarm$Crowd" "sentInAll" "I", Cond.fieldLink RX1 54 "PieceSwarm$Crowd" "whole" "LPieceSwarm$Whole;", Cond.fieldLink RX1 182 "PieceSwarm$Crowd" "tickNumber" "I", Cond.fieldLink RX1 185 "PieceSwarm$Member" "kind" "I", Cond.fieldLink RX1 90 "PieceSwarm$Crowd" "road" "LPieceSwarm$Road;", Cond.methodLink RX1 172 yX6_expect, Cond.instanceMethod yX6_expect, Cond.selects RX6 yX6_expect yX6_expect, Cond.initialized RX6, Cond.code yX6_expect cX6_expect 3 none, Cond.fieldLink RX6 18 "PieceSwarm$Store" "coming" "[I", Cond.fieldLink RX6 59 "PieceSwarm$Store" "comingInAll" "I", Cond.static yX9_place, Cond.initialized RX9, Cond.code yX9_place cX9_place 2 (some .int)]
def wsX1_send_r2 : List Cond := [Cond.methodLink RX1 179 yX8_valueOf, Cond.instanceMethod yX8_valueOf, Cond.selects RX8 yX8_valueOf yX8_valueOf, Cond.initialized RX8, Cond.code yX8_valueOf cX8_valueOf 4 (some .int), Cond.fieldLink RX8 16 "PieceSwarm$Whole" "seed" "I", Cond.constant RX8 23 (1103515245), Cond.methodLink RX1 188 yX3_nowSendsFalse, Cond.instanceMethod yX3_nowSendsFalse, Cond.selects RX3 yX3_nowSendsFalse yX3_nowSendsFalse, Cond.initialized RX3, Cond.code yX3_nowSendsFalse cX3_nowSendsFalse 1 (some .boolean), Cond.fieldLink RX3 32 "PieceSwarm$Member" "kind" "I", Cond.fieldLink RX3 25 "PieceSwarm$Member" "everyNth" "I", Cond.fieldLink RX3 50 "PieceSwarm$Member" "sent" "I", Cond.methodLink RX1 191 yX5_add, Cond.instanceMethod yX5_add, Cond.selects RX5 yX5_add yX5_add, Cond.initialized RX5, Cond.code yX5_add cX5_add 7 none, Cond.fieldLink RX5 11 "PieceSwarm$Road" "givers" "[I", Cond.fieldLink RX5 30 "PieceSwarm$Road" "length" "I", Cond.fieldLink RX5 15 "PieceSwarm$Road" "takers" "[I", Cond.fieldLink RX5 18 "PieceSwarm$Road" "pieces" "[I"]
def wsX1_send_r3 : List Cond := [Cond.fieldLink RX5 21 "PieceSwarm$Road" "blocks" "[I", Cond.fieldLink RX5 24 "PieceSwarm$Road" "values" "[I", Cond.fieldLink RX5 27 "PieceSwarm$Road" "dueTicks" "[I", Cond.methodLink RX5 34 yX5_hasRoom, Cond.instanceMethod yX5_hasRoom, Cond.selects RX5 yX5_hasRoom yX5_hasRoom, Cond.code yX5_hasRoom cX5_hasRoom 1 (some .boolean)]
def wsX1_send : List Cond := .code yX1_send cX1_send 9 (some .boolean) :: ((wsX1_send_r1 ++ (wsX1_send_r2 ++ wsX1_send_r3)) ++ wsX10 ++ wsX20 ++ wsX30 ++ wsX70 ++ wsX60 ++ wsX80 ++ wsX50)
def wsX1_askAtEnd_r1 : List Cond := [Cond.fieldLink RX1 9 "PieceSwarm$Asking" "crowd" "LPieceSwarm$Crowd;", Cond.fieldLink RX1 28 "PieceSwarm$Crowd" "members" "[LPieceSwarm$Member;", Cond.fieldLink RX1 32 "PieceSwarm$Member" "store" "LPieceSwarm$Store;", Cond.fieldLink RX1 51 "PieceSwarm$Store" "has" "I", Cond.fieldLink RX1 46 "PieceSwarm$Store" "marked" "I", Cond.fieldLink RX1 54 "PieceSwarm$Crowd" "whole" "LPieceSwarm$Whole;", Cond.fieldLink RX1 58 "PieceSwarm$Whole" "pieces" "I", Cond.fieldLink RX1 109 "PieceSwarm$Whole" "blocks" "I", Cond.fieldLink RX1 154 "PieceSwarm$Store" "coming" "[I", Cond.fieldLink RX1 90 "PieceSwarm$Crowd" "road" "LPieceSwarm$Road;", Cond.static yX9_isIn, Cond.initialized RX9, Cond.code yX9_isIn cX9_isIn 2 (some .boolean), Cond.methodLink RX1 135 yX2_tellersAmong, Cond.instanceMethod yX2_tellersAmong, Cond.selects RX2 yX2_tellersAmong yX2_tellersAmong, Cond.initialized RX2, Cond.code yX2_tellersAmong cX2_tellersAmong 5 (some .int), Cond.fieldLink RX2 32 "PieceSwarm$Crowd" "size" "I", Cond.fieldLink RX2 27 "PieceSwarm$Crowd" "members" "[LPieceSwarm$Member;", Cond.methodLink RX2 84 yX3_toldPieces, Cond.instanceMethod yX3_toldPieces, Cond.selects RX3 yX3_toldPieces yX3_toldPieces, Cond.initialized RX3]
def wsX1_askAtEnd_r2 : List Cond := [Cond.code yX3_toldPieces cX3_toldPieces 1 (some .int), Cond.fieldLink RX3 32 "PieceSwarm$Member" "kind" "I", Cond.fieldLink RX3 12 "PieceSwarm$Member" "store" "LPieceSwarm$Store;", Cond.fieldLink RX3 35 "PieceSwarm$Store" "has" "I", Cond.constant RX3 38 (5592405), Cond.methodLink RX1 151 yX6_holds, Cond.instanceMethod yX6_holds, Cond.selects RX6 yX6_holds yX6_holds, Cond.initialized RX6, Cond.code yX6_holds cX6_holds 3 (some .boolean), Cond.fieldLink RX6 41 "PieceSwarm$Store" "has" "I", Cond.fieldLink RX6 9 "PieceSwarm$Store" "givers" "[I", Cond.static yX9_place, Cond.code yX9_place cX9_place 2 (some .int), Cond.methodLink RX1 161 yX5_firstGiverOf, Cond.instanceMethod yX5_firstGiverOf, Cond.selects RX5 yX5_firstGiverOf yX5_firstGiverOf, Cond.initialized RX5, Cond.code yX5_firstGiverOf cX5_firstGiverOf 5 (some .int), Cond.fieldLink RX5 30 "PieceSwarm$Road" "length" "I", Cond.fieldLink RX5 15 "PieceSwarm$Road" "takers" "[I", Cond.fieldLink RX5 18 "PieceSwarm$Road" "pieces" "[I", Cond.fieldLink RX5 21 "PieceSwarm$Road" "blocks" "[I", Cond.fieldLink RX5 11 "PieceSwarm$Road" "givers" "[I"]
def wsX1_askAtEnd_r3 : List Cond := [Cond.methodLink RX1 119 yX1_readiest, Cond.instanceMethod yX1_readiest, Cond.selects RX1 yX1_readiest yX1_readiest, Cond.initialized RX1, Cond.code yX1_readiest cX1_readiest 4 (some .int), Cond.fieldLink RX1 15 "PieceSwarm$Crowd" "size" "I", Cond.fieldLink RX1 73 "PieceSwarm$Member" "maySend" "I", Cond.methodLink RX1 122 yX1_send, Cond.instanceMethod yX1_send, Cond.selects RX1 yX1_send yX1_send, Cond.code yX1_send cX1_send 9 (some .boolean), Cond.fieldLink RX1 164 "PieceSwarm$Member" "sent" "I", Cond.fieldLink RX1 126 "PieceSwarm$Member" "ties" "LPieceSwarm$Ties;", Cond.fieldLink RX1 167 "PieceSwarm$Ties" "sent" "[I", Cond.fieldLink RX1 169 "PieceSwarm$Ties" "sentLate" "[I", Cond.fieldLink RX1 79 "PieceSwarm$Member" "mayAsk" "I", Cond.fieldLink RX1 176 "PieceSwarm$Crowd" "sentInAll" "I", Cond.fieldLink RX1 182 "PieceSwarm$Crowd" "tickNumber" "I", Cond.fieldLink RX1 185 "PieceSwarm$Member" "kind" "I", Cond.methodLink RX1 172 yX6_expect, Cond.instanceMethod yX6_expect, Cond.selects RX6 yX6_expect yX6_expect, Cond.code yX6_expect cX6_expect 3 none, Cond.fieldLink RX6 18 "PieceSwarm$Store" "coming" "[I"]
def wsX1_askAtEnd_r4 : List Cond := [Cond.fieldLink RX6 59 "PieceSwarm$Store" "comingInAll" "I", Cond.methodLink RX1 179 yX8_valueOf, Cond.instanceMethod yX8_valueOf, Cond.selects RX8 yX8_valueOf yX8_valueOf, Cond.initialized RX8, Cond.code yX8_valueOf cX8_valueOf 4 (some .int), Cond.fieldLink RX8 16 "PieceSwarm$Whole" "seed" "I", Cond.constant RX8 23 (1103515245), Cond.methodLink RX1 188 yX3_nowSendsFalse, Cond.instanceMethod yX3_nowSendsFalse, Cond.selects RX3 yX3_nowSendsFalse yX3_nowSendsFalse, Cond.code yX3_nowSendsFalse cX3_nowSendsFalse 1 (some .boolean), Cond.fieldLink RX3 25 "PieceSwarm$Member" "everyNth" "I", Cond.fieldLink RX3 50 "PieceSwarm$Member" "sent" "I", Cond.methodLink RX1 191 yX5_add, Cond.instanceMethod yX5_add, Cond.selects RX5 yX5_add yX5_add, Cond.code yX5_add cX5_add 7 none, Cond.fieldLink RX5 24 "PieceSwarm$Road" "values" "[I", Cond.fieldLink RX5 27 "PieceSwarm$Road" "dueTicks" "[I", Cond.methodLink RX5 34 yX5_hasRoom, Cond.instanceMethod yX5_hasRoom, Cond.selects RX5 yX5_hasRoom yX5_hasRoom, Cond.code yX5_hasRoom cX5_hasRoom 1 (some .boolean)]
def wsX1_askAtEnd : List Cond := .code yX1_askAtEnd cX1_askAtEnd 10 (some .boolean) :: ((wsX1_askAtEnd_r1 ++ (wsX1_askAtEnd_r2 ++ (wsX1_askAtEnd_r3 ++ wsX1_askAtEnd_r4))) ++ wsX10 ++ wsX20 ++ wsX30 ++ wsX60 ++ wsX80 ++ wsX50 ++ wsX70)
def wsX1_askOne_r1 : List Cond := [Cond.fieldLink RX1 9 "PieceSwarm$Asking" "crowd" "LPieceSwarm$Crowd;", Cond.fieldLink RX1 28 "PieceSwarm$Crowd" "members" "[LPieceSwarm$Member;", Cond.fieldLink RX1 79 "PieceSwarm$Member" "mayAsk" "I", Cond.fieldLink RX1 90 "PieceSwarm$Crowd" "road" "LPieceSwarm$Road;", Cond.fieldLink RX1 32 "PieceSwarm$Member" "store" "LPieceSwarm$Store;", Cond.fieldLink RX1 54 "PieceSwarm$Crowd" "whole" "LPieceSwarm$Whole;", Cond.fieldLink RX1 109 "PieceSwarm$Whole" "blocks" "I", Cond.methodLink RX1 86 yX3_isDone, Cond.instanceMethod yX3_isDone, Cond.selects RX3 yX3_isDone yX3_isDone, Cond.initialized RX3, Cond.code yX3_isDone cX3_isDone 1 (some .boolean), Cond.fieldLink RX3 29 "PieceSwarm$Member" "doneTick" "I", Cond.methodLink RX1 94 yX5_hasRoom, Cond.instanceMethod yX5_hasRoom, Cond.selects RX5 yX5_hasRoom yX5_hasRoom, Cond.initialized RX5, Cond.code yX5_hasRoom cX5_hasRoom 1 (some .boolean), Cond.fieldLink RX5 30 "PieceSwarm$Road" "length" "I", Cond.methodLink RX1 99 yX1_giversTo, Cond.instanceMethod yX1_giversTo, Cond.selects RX1 yX1_giversTo yX1_giversTo, Cond.initialized RX1, Cond.code yX1_giversTo cX1_giversTo 6 (some .int)]
def wsX1_askOne_r2 : List Cond := [Cond.fieldLink RX1 15 "PieceSwarm$Crowd" "size" "I", Cond.fieldLink RX1 126 "PieceSwarm$Member" "ties" "LPieceSwarm$Ties;", Cond.fieldLink RX1 130 "PieceSwarm$Ties" "open" "I", Cond.fieldLink RX1 73 "PieceSwarm$Member" "maySend" "I", Cond.methodLink RX1 38 yX2_nearTo, Cond.instanceMethod yX2_nearTo, Cond.selects RX2 yX2_nearTo yX2_nearTo, Cond.initialized RX2, Cond.code yX2_nearTo cX2_nearTo 3 (some .int), Cond.fieldLink RX2 27 "PieceSwarm$Crowd" "members" "[LPieceSwarm$Member;", Cond.fieldLink RX2 65 "PieceSwarm$Member" "ties" "LPieceSwarm$Ties;", Cond.fieldLink RX2 62 "PieceSwarm$Crowd" "here" "I", Cond.fieldLink RX2 73 "PieceSwarm$Ties" "neighbours" "I", Cond.fieldLink RX2 78 "PieceSwarm$Ties" "banned" "I", Cond.fieldLink RX2 81 "PieceSwarm$Ties" "bannedBy" "I", Cond.static yX9_isIn, Cond.initialized RX9, Cond.code yX9_isIn cX9_isIn 2 (some .boolean), Cond.methodLink RX1 102 yX1_pickPiece, Cond.instanceMethod yX1_pickPiece, Cond.selects RX1 yX1_pickPiece yX1_pickPiece, Cond.code yX1_pickPiece cX1_pickPiece 10 (some .int), Cond.fieldLink RX1 58 "PieceSwarm$Whole" "pieces" "I", Cond.fieldLink RX1 51 "PieceSwarm$Store" "has" "I"]
def wsX1_askOne_r3 : List Cond := [Cond.methodLink RX1 112 yX6_firstUnasked, Cond.instanceMethod yX6_firstUnasked, Cond.selects RX6 yX6_firstUnasked yX6_firstUnasked, Cond.initialized RX6, Cond.code yX6_firstUnasked cX6_firstUnasked 4 (some .int), Cond.fieldLink RX6 18 "PieceSwarm$Store" "coming" "[I", Cond.methodLink RX6 48 yX6_holds, Cond.instanceMethod yX6_holds, Cond.selects RX6 yX6_holds yX6_holds, Cond.code yX6_holds cX6_holds 3 (some .boolean), Cond.fieldLink RX6 41 "PieceSwarm$Store" "has" "I", Cond.fieldLink RX6 9 "PieceSwarm$Store" "givers" "[I", Cond.static yX9_place, Cond.code yX9_place cX9_place 2 (some .int), Cond.methodLink RX1 115 yX1_giversThatMayBe, Cond.instanceMethod yX1_giversThatMayBe, Cond.selects RX1 yX1_giversThatMayBe yX1_giversThatMayBe, Cond.code yX1_giversThatMayBe cX1_giversThatMayBe 7 (some .int), Cond.fieldLink RX1 46 "PieceSwarm$Store" "marked" "I", Cond.methodLink RX1 135 yX2_tellersAmong, Cond.instanceMethod yX2_tellersAmong, Cond.selects RX2 yX2_tellersAmong yX2_tellersAmong, Cond.code yX2_tellersAmong cX2_tellersAmong 5 (some .int), Cond.fieldLink RX2 32 "PieceSwarm$Crowd" "size" "I"]
def wsX1_askOne_r4 : List Cond := [Cond.methodLink RX2 84 yX3_toldPieces, Cond.instanceMethod yX3_toldPieces, Cond.selects RX3 yX3_toldPieces yX3_toldPieces, Cond.code yX3_toldPieces cX3_toldPieces 1 (some .int), Cond.fieldLink RX3 32 "PieceSwarm$Member" "kind" "I", Cond.fieldLink RX3 12 "PieceSwarm$Member" "store" "LPieceSwarm$Store;", Cond.fieldLink RX3 35 "PieceSwarm$Store" "has" "I", Cond.constant RX3 38 (5592405), Cond.methodLink RX1 146 yX6_firstGiver, Cond.instanceMethod yX6_firstGiver, Cond.selects RX6 yX6_firstGiver yX6_firstGiver, Cond.code yX6_firstGiver cX6_firstGiver 4 (some .int), Cond.methodLink RX1 149 yX5_firstGiver, Cond.instanceMethod yX5_firstGiver, Cond.selects RX5 yX5_firstGiver yX5_firstGiver, Cond.code yX5_firstGiver cX5_firstGiver 4 (some .int), Cond.fieldLink RX5 15 "PieceSwarm$Road" "takers" "[I", Cond.fieldLink RX5 18 "PieceSwarm$Road" "pieces" "[I", Cond.fieldLink RX5 11 "PieceSwarm$Road" "givers" "[I", Cond.methodLink RX1 138 yJ6_bitCount_0f7a4, Cond.static yJ6_bitCount_0f7a4, Cond.initialized RJ6, Cond.code yJ6_bitCount_0f7a4 cJ6_bitCount_0f7a4 1 (some .int), Cond.constant RJ6 265 (1431655765)]
def wsX1_askOne_r5 : List Cond := [Cond.constant RJ6 266 (858993459), Cond.constant RJ6 267 (252645135), Cond.methodLink RX1 143 yX6_isBegun, Cond.instanceMethod yX6_isBegun, Cond.selects RX6 yX6_isBegun yX6_isBegun, Cond.code yX6_isBegun cX6_isBegun 3 (some .boolean), Cond.methodLink RX1 106 yX1_askAtEnd, Cond.instanceMethod yX1_askAtEnd, Cond.selects RX1 yX1_askAtEnd yX1_askAtEnd, Cond.code yX1_askAtEnd cX1_askAtEnd 10 (some .boolean), Cond.fieldLink RX1 154 "PieceSwarm$Store" "coming" "[I", Cond.methodLink RX1 151 yX6_holds, Cond.methodLink RX1 161 yX5_firstGiverOf, Cond.instanceMethod yX5_firstGiverOf, Cond.selects RX5 yX5_firstGiverOf yX5_firstGiverOf, Cond.code yX5_firstGiverOf cX5_firstGiverOf 5 (some .int), Cond.fieldLink RX5 21 "PieceSwarm$Road" "blocks" "[I", Cond.methodLink RX1 119 yX1_readiest, Cond.instanceMethod yX1_readiest, Cond.selects RX1 yX1_readiest yX1_readiest, Cond.code yX1_readiest cX1_readiest 4 (some .int), Cond.methodLink RX1 122 yX1_send, Cond.instanceMethod yX1_send, Cond.selects RX1 yX1_send yX1_send]
def wsX1_askOne_r6 : List Cond := [Cond.code yX1_send cX1_send 9 (some .boolean), Cond.fieldLink RX1 164 "PieceSwarm$Member" "sent" "I", Cond.fieldLink RX1 167 "PieceSwarm$Ties" "sent" "[I", Cond.fieldLink RX1 169 "PieceSwarm$Ties" "sentLate" "[I", Cond.fieldLink RX1 176 "PieceSwarm$Crowd" "sentInAll" "I", Cond.fieldLink RX1 182 "PieceSwarm$Crowd" "tickNumber" "I", Cond.fieldLink RX1 185 "PieceSwarm$Member" "kind" "I", Cond.methodLink RX1 172 yX6_expect, Cond.instanceMethod yX6_expect, Cond.selects RX6 yX6_expect yX6_expect, Cond.code yX6_expect cX6_expect 3 none, Cond.fieldLink RX6 59 "PieceSwarm$Store" "comingInAll" "I", Cond.methodLink RX1 179 yX8_valueOf, Cond.instanceMethod yX8_valueOf, Cond.selects RX8 yX8_valueOf yX8_valueOf, Cond.initialized RX8, Cond.code yX8_valueOf cX8_valueOf 4 (some .int), Cond.fieldLink RX8 16 "PieceSwarm$Whole" "seed" "I", Cond.constant RX8 23 (1103515245), Cond.methodLink RX1 188 yX3_nowSendsFalse, Cond.instanceMethod yX3_nowSendsFalse, Cond.selects RX3 yX3_nowSendsFalse yX3_nowSendsFalse, Cond.code yX3_nowSendsFalse cX3_nowSendsFalse 1 (some .boolean), Cond.fieldLink RX3 25 "PieceSwarm$Member" "everyNth" "I"]
def wsX1_askOne_r7 : List Cond := [Cond.fieldLink RX3 50 "PieceSwarm$Member" "sent" "I", Cond.methodLink RX1 191 yX5_add, Cond.instanceMethod yX5_add, Cond.selects RX5 yX5_add yX5_add, Cond.code yX5_add cX5_add 7 none, Cond.fieldLink RX5 24 "PieceSwarm$Road" "values" "[I", Cond.fieldLink RX5 27 "PieceSwarm$Road" "dueTicks" "[I", Cond.methodLink RX5 34 yX5_hasRoom]
def wsX1_askOne : List Cond := .code yX1_askOne cX1_askOne 6 (some .boolean) :: ((wsX1_askOne_r1 ++ (wsX1_askOne_r2 ++ (wsX1_askOne_r3 ++ (wsX1_askOne_r4 ++ (wsX1_askOne_r5 ++ (wsX1_askOne_r6 ++ wsX1_askOne_r7)))))) ++ wsX10 ++ wsX20 ++ wsX30 ++ wsX80 ++ wsX50 ++ wsX70 ++ wsX60)
def wsX1_runRounds_r1 : List Cond := [Cond.fieldLink RX1 9 "PieceSwarm$Asking" "crowd" "LPieceSwarm$Crowd;", Cond.fieldLink RX1 15 "PieceSwarm$Crowd" "size" "I", Cond.fieldLink RX1 28 "PieceSwarm$Crowd" "members" "[LPieceSwarm$Member;", Cond.fieldLink RX1 70 "PieceSwarm$Member" "up" "I", Cond.fieldLink RX1 73 "PieceSwarm$Member" "maySend" "I", Cond.fieldLink RX1 76 "PieceSwarm$Member" "down" "I", Cond.fieldLink RX1 79 "PieceSwarm$Member" "mayAsk" "I", Cond.fieldLink RX1 21 "PieceSwarm$Crowd" "here" "I", Cond.static yX9_isIn, Cond.initialized RX9, Cond.code yX9_isIn cX9_isIn 2 (some .boolean), Cond.methodLink RX1 82 yX1_askOne, Cond.instanceMethod yX1_askOne, Cond.selects RX1 yX1_askOne yX1_askOne, Cond.initialized RX1, Cond.code yX1_askOne cX1_askOne 6 (some .boolean), Cond.fieldLink RX1 90 "PieceSwarm$Crowd" "road" "LPieceSwarm$Road;", Cond.fieldLink RX1 32 "PieceSwarm$Member" "store" "LPieceSwarm$Store;", Cond.fieldLink RX1 54 "PieceSwarm$Crowd" "whole" "LPieceSwarm$Whole;", Cond.fieldLink RX1 109 "PieceSwarm$Whole" "blocks" "I", Cond.methodLink RX1 86 yX3_isDone, Cond.instanceMethod yX3_isDone, Cond.selects RX3 yX3_isDone yX3_isDone, Cond.initialized RX3]
def wsX1_runRounds_r2 : List Cond := [Cond.code yX3_isDone cX3_isDone 1 (some .boolean), Cond.fieldLink RX3 29 "PieceSwarm$Member" "doneTick" "I", Cond.methodLink RX1 94 yX5_hasRoom, Cond.instanceMethod yX5_hasRoom, Cond.selects RX5 yX5_hasRoom yX5_hasRoom, Cond.initialized RX5, Cond.code yX5_hasRoom cX5_hasRoom 1 (some .boolean), Cond.fieldLink RX5 30 "PieceSwarm$Road" "length" "I", Cond.methodLink RX1 99 yX1_giversTo, Cond.instanceMethod yX1_giversTo, Cond.selects RX1 yX1_giversTo yX1_giversTo, Cond.code yX1_giversTo cX1_giversTo 6 (some .int), Cond.fieldLink RX1 126 "PieceSwarm$Member" "ties" "LPieceSwarm$Ties;", Cond.fieldLink RX1 130 "PieceSwarm$Ties" "open" "I", Cond.methodLink RX1 38 yX2_nearTo, Cond.instanceMethod yX2_nearTo, Cond.selects RX2 yX2_nearTo yX2_nearTo, Cond.initialized RX2, Cond.code yX2_nearTo cX2_nearTo 3 (some .int), Cond.fieldLink RX2 27 "PieceSwarm$Crowd" "members" "[LPieceSwarm$Member;", Cond.fieldLink RX2 65 "PieceSwarm$Member" "ties" "LPieceSwarm$Ties;", Cond.fieldLink RX2 62 "PieceSwarm$Crowd" "here" "I", Cond.fieldLink RX2 73 "PieceSwarm$Ties" "neighbours" "I", Cond.fieldLink RX2 78 "PieceSwarm$Ties" "banned" "I"]
def wsX1_runRounds_r3 : List Cond := [Cond.fieldLink RX2 81 "PieceSwarm$Ties" "bannedBy" "I", Cond.methodLink RX1 102 yX1_pickPiece, Cond.instanceMethod yX1_pickPiece, Cond.selects RX1 yX1_pickPiece yX1_pickPiece, Cond.code yX1_pickPiece cX1_pickPiece 10 (some .int), Cond.fieldLink RX1 58 "PieceSwarm$Whole" "pieces" "I", Cond.fieldLink RX1 51 "PieceSwarm$Store" "has" "I", Cond.methodLink RX1 112 yX6_firstUnasked, Cond.instanceMethod yX6_firstUnasked, Cond.selects RX6 yX6_firstUnasked yX6_firstUnasked, Cond.initialized RX6, Cond.code yX6_firstUnasked cX6_firstUnasked 4 (some .int), Cond.fieldLink RX6 18 "PieceSwarm$Store" "coming" "[I", Cond.methodLink RX6 48 yX6_holds, Cond.instanceMethod yX6_holds, Cond.selects RX6 yX6_holds yX6_holds, Cond.code yX6_holds cX6_holds 3 (some .boolean), Cond.fieldLink RX6 41 "PieceSwarm$Store" "has" "I", Cond.fieldLink RX6 9 "PieceSwarm$Store" "givers" "[I", Cond.static yX9_place, Cond.code yX9_place cX9_place 2 (some .int), Cond.methodLink RX1 115 yX1_giversThatMayBe, Cond.instanceMethod yX1_giversThatMayBe, Cond.selects RX1 yX1_giversThatMayBe yX1_giversThatMayBe]
def wsX1_runRounds_r4 : List Cond := [Cond.code yX1_giversThatMayBe cX1_giversThatMayBe 7 (some .int), Cond.fieldLink RX1 46 "PieceSwarm$Store" "marked" "I", Cond.methodLink RX1 135 yX2_tellersAmong, Cond.instanceMethod yX2_tellersAmong, Cond.selects RX2 yX2_tellersAmong yX2_tellersAmong, Cond.code yX2_tellersAmong cX2_tellersAmong 5 (some .int), Cond.fieldLink RX2 32 "PieceSwarm$Crowd" "size" "I", Cond.methodLink RX2 84 yX3_toldPieces, Cond.instanceMethod yX3_toldPieces, Cond.selects RX3 yX3_toldPieces yX3_toldPieces, Cond.code yX3_toldPieces cX3_toldPieces 1 (some .int), Cond.fieldLink RX3 32 "PieceSwarm$Member" "kind" "I", Cond.fieldLink RX3 12 "PieceSwarm$Member" "store" "LPieceSwarm$Store;", Cond.fieldLink RX3 35 "PieceSwarm$Store" "has" "I", Cond.constant RX3 38 (5592405), Cond.methodLink RX1 146 yX6_firstGiver, Cond.instanceMethod yX6_firstGiver, Cond.selects RX6 yX6_firstGiver yX6_firstGiver, Cond.code yX6_firstGiver cX6_firstGiver 4 (some .int), Cond.methodLink RX1 149 yX5_firstGiver, Cond.instanceMethod yX5_firstGiver, Cond.selects RX5 yX5_firstGiver yX5_firstGiver, Cond.code yX5_firstGiver cX5_firstGiver 4 (some .int), Cond.fieldLink RX5 15 "PieceSwarm$Road" "takers" "[I"]
def wsX1_runRounds_r5 : List Cond := [Cond.fieldLink RX5 18 "PieceSwarm$Road" "pieces" "[I", Cond.fieldLink RX5 11 "PieceSwarm$Road" "givers" "[I", Cond.methodLink RX1 138 yJ6_bitCount_0f7a4, Cond.static yJ6_bitCount_0f7a4, Cond.initialized RJ6, Cond.code yJ6_bitCount_0f7a4 cJ6_bitCount_0f7a4 1 (some .int), Cond.constant RJ6 265 (1431655765), Cond.constant RJ6 266 (858993459), Cond.constant RJ6 267 (252645135), Cond.methodLink RX1 143 yX6_isBegun, Cond.instanceMethod yX6_isBegun, Cond.selects RX6 yX6_isBegun yX6_isBegun, Cond.code yX6_isBegun cX6_isBegun 3 (some .boolean), Cond.methodLink RX1 106 yX1_askAtEnd, Cond.instanceMethod yX1_askAtEnd, Cond.selects RX1 yX1_askAtEnd yX1_askAtEnd, Cond.code yX1_askAtEnd cX1_askAtEnd 10 (some .boolean), Cond.fieldLink RX1 154 "PieceSwarm$Store" "coming" "[I", Cond.methodLink RX1 151 yX6_holds, Cond.methodLink RX1 161 yX5_firstGiverOf, Cond.instanceMethod yX5_firstGiverOf, Cond.selects RX5 yX5_firstGiverOf yX5_firstGiverOf, Cond.code yX5_firstGiverOf cX5_firstGiverOf 5 (some .int), Cond.fieldLink RX5 21 "PieceSwarm$Road" "blocks" "[I"]
def wsX1_runRounds_r6 : List Cond := [Cond.methodLink RX1 119 yX1_readiest, Cond.instanceMethod yX1_readiest, Cond.selects RX1 yX1_readiest yX1_readiest, Cond.code yX1_readiest cX1_readiest 4 (some .int), Cond.methodLink RX1 122 yX1_send, Cond.instanceMethod yX1_send, Cond.selects RX1 yX1_send yX1_send, Cond.code yX1_send cX1_send 9 (some .boolean), Cond.fieldLink RX1 164 "PieceSwarm$Member" "sent" "I", Cond.fieldLink RX1 167 "PieceSwarm$Ties" "sent" "[I", Cond.fieldLink RX1 169 "PieceSwarm$Ties" "sentLate" "[I", Cond.fieldLink RX1 176 "PieceSwarm$Crowd" "sentInAll" "I", Cond.fieldLink RX1 182 "PieceSwarm$Crowd" "tickNumber" "I", Cond.fieldLink RX1 185 "PieceSwarm$Member" "kind" "I", Cond.methodLink RX1 172 yX6_expect, Cond.instanceMethod yX6_expect, Cond.selects RX6 yX6_expect yX6_expect, Cond.code yX6_expect cX6_expect 3 none, Cond.fieldLink RX6 59 "PieceSwarm$Store" "comingInAll" "I", Cond.methodLink RX1 179 yX8_valueOf, Cond.instanceMethod yX8_valueOf, Cond.selects RX8 yX8_valueOf yX8_valueOf, Cond.initialized RX8, Cond.code yX8_valueOf cX8_valueOf 4 (some .int)]
def wsX1_runRounds_r7 : List Cond := [Cond.fieldLink RX8 16 "PieceSwarm$Whole" "seed" "I", Cond.constant RX8 23 (1103515245), Cond.methodLink RX1 188 yX3_nowSendsFalse, Cond.instanceMethod yX3_nowSendsFalse, Cond.selects RX3 yX3_nowSendsFalse yX3_nowSendsFalse, Cond.code yX3_nowSendsFalse cX3_nowSendsFalse 1 (some .boolean), Cond.fieldLink RX3 25 "PieceSwarm$Member" "everyNth" "I", Cond.fieldLink RX3 50 "PieceSwarm$Member" "sent" "I", Cond.methodLink RX1 191 yX5_add, Cond.instanceMethod yX5_add, Cond.selects RX5 yX5_add yX5_add, Cond.code yX5_add cX5_add 7 none, Cond.fieldLink RX5 24 "PieceSwarm$Road" "values" "[I", Cond.fieldLink RX5 27 "PieceSwarm$Road" "dueTicks" "[I", Cond.methodLink RX5 34 yX5_hasRoom]
def wsX1_runRounds : List Cond := .code yX1_runRounds cX1_runRounds 4 none :: ((wsX1_runRounds_r1 ++ (wsX1_runRounds_r2 ++ (wsX1_runRounds_r3 ++ (wsX1_runRounds_r4 ++ (wsX1_runRounds_r5 ++ (wsX1_runRounds_r6 ++ wsX1_runRounds_r7)))))) ++ wsX10 ++ wsX20 ++ wsX30 ++ wsX80 ++ wsX50 ++ wsX70 ++ wsX60)
def wsX8_init : List Cond := .code yX8_init cX8_init 1 none :: ([.methodLink RX8 1 objectInit, .instanceMethod objectInit, .code objectInit ⟨#[0xb1]⟩ 1 none, .fieldLink RX8 7 "PieceSwarm$Whole" "pieces" "I", .fieldLink RX8 13 "PieceSwarm$Whole" "blocks" "I", .fieldLink RX8 16 "PieceSwarm$Whole" "seed" "I"] ++ wsX80)
def wsX5_init : List Cond := .code yX5_init cX5_init 1 none :: ([.methodLink RX5 3 objectInit, .instanceMethod objectInit, .code objectInit ⟨#[0xb1]⟩ 1 none, .arrayClass .int, .fieldLink RX5 11 "PieceSwarm$Road" "givers" "[I", .fieldLink RX5 15 "PieceSwarm$Road" "takers" "[I", .fieldLink RX5 18 "PieceSwarm$Road" "pieces" "[I", .fieldLink RX5 21 "PieceSwarm$Road" "blocks" "[I", .fieldLink RX5 24 "PieceSwarm$Road" "values" "[I", .fieldLink RX5 27 "PieceSwarm$Road" "dueTicks" "[I"] ++ wsX50)
def wsX6_init : List Cond := .code yX6_init cX6_init 2 none :: ([.methodLink RX6 3 objectInit, .instanceMethod objectInit, .code objectInit ⟨#[0xb1]⟩ 1 none, .arrayClass .int, .fieldLink RX6 9 "PieceSwarm$Store" "givers" "[I", .fieldLink RX6 15 "PieceSwarm$Store" "values" "[I", .fieldLink RX6 18 "PieceSwarm$Store" "coming" "[I"] ++ wsX60)
def wsX7_init : List Cond := .code yX7_init cX7_init 1 none :: ([.methodLink RX7 3 objectInit, .instanceMethod objectInit, .code objectInit ⟨#[0xb1]⟩ 1 none, .arrayClass .int, .fieldLink RX7 9 "PieceSwarm$Ties" "cameLate" "[I", .fieldLink RX7 15 "PieceSwarm$Ties" "sentLate" "[I", .fieldLink RX7 18 "PieceSwarm$Ties" "sent" "[I", .fieldLink RX7 21 "PieceSwarm$Ties" "doubts" "[I", .fieldLink RX7 24 "PieceSwarm$Ties" "latestByTurns" "I", .fieldLink RX7 28 "PieceSwarm$Ties" "openedByTurns" "I"] ++ wsX70)
def wsX3_init_r1 : List Cond := [Cond.methodLink RX3 3 objectInit, Cond.instanceMethod objectInit, Cond.code objectInit ⟨#[0xb1]⟩ 1 none, Cond.classLink RX3 9 RX6, Cond.instantiable RX6 6, Cond.initialized RX6, Cond.fieldLink RX3 12 "PieceSwarm$Member" "store" "LPieceSwarm$Store;", Cond.classLink RX3 18 RX7, Cond.instantiable RX7 10, Cond.initialized RX7, Cond.fieldLink RX3 21 "PieceSwarm$Member" "ties" "LPieceSwarm$Ties;", Cond.fieldLink RX3 25 "PieceSwarm$Member" "everyNth" "I", Cond.fieldLink RX3 29 "PieceSwarm$Member" "doneTick" "I", Cond.methodLink RX3 11 yX6_init, Cond.instanceMethod yX6_init, Cond.code yX6_init cX6_init 2 none, Cond.methodLink RX6 3 objectInit, Cond.arrayClass .int, Cond.fieldLink RX6 9 "PieceSwarm$Store" "givers" "[I", Cond.fieldLink RX6 15 "PieceSwarm$Store" "values" "[I", Cond.fieldLink RX6 18 "PieceSwarm$Store" "coming" "[I", Cond.methodLink RX3 20 yX7_init, Cond.instanceMethod yX7_init, Cond.code yX7_init cX7_init 1 none]
def wsX3_init_r2 : List Cond := [Cond.methodLink RX7 3 objectInit, Cond.fieldLink RX7 9 "PieceSwarm$Ties" "cameLate" "[I", Cond.fieldLink RX7 15 "PieceSwarm$Ties" "sentLate" "[I", Cond.fieldLink RX7 18 "PieceSwarm$Ties" "sent" "[I", Cond.fieldLink RX7 21 "PieceSwarm$Ties" "doubts" "[I", Cond.fieldLink RX7 24 "PieceSwarm$Ties" "latestByTurns" "I", Cond.fieldLink RX7 28 "PieceSwarm$Ties" "openedByTurns" "I"]
def wsX3_init : List Cond := .code yX3_init cX3_init 1 none :: ((wsX3_init_r1 ++ wsX3_init_r2) ++ wsX60 ++ wsX30 ++ wsX70)
def wsX2_init_r1 : List Cond := [Cond.methodLink RX2 3 objectInit, Cond.instanceMethod objectInit, Cond.code objectInit ⟨#[0xb1]⟩ 1 none, Cond.classLink RX2 9 RX8, Cond.instantiable RX8 3, Cond.initialized RX8, Cond.fieldLink RX2 12 "PieceSwarm$Crowd" "whole" "LPieceSwarm$Whole;", Cond.classLink RX2 18 RX5, Cond.instantiable RX5 7, Cond.initialized RX5, Cond.fieldLink RX2 21 "PieceSwarm$Crowd" "road" "LPieceSwarm$Road;", Cond.classLink RX2 25 RX3, Cond.fieldLink RX2 27 "PieceSwarm$Crowd" "members" "[LPieceSwarm$Member;", Cond.instantiable RX3 13, Cond.initialized RX3, Cond.methodLink RX2 11 yX8_init, Cond.instanceMethod yX8_init, Cond.code yX8_init cX8_init 1 none, Cond.methodLink RX8 1 objectInit, Cond.fieldLink RX8 7 "PieceSwarm$Whole" "pieces" "I", Cond.fieldLink RX8 13 "PieceSwarm$Whole" "blocks" "I", Cond.fieldLink RX8 16 "PieceSwarm$Whole" "seed" "I", Cond.methodLink RX2 20 yX5_init, Cond.instanceMethod yX5_init]
def wsX2_init_r2 : List Cond := [Cond.code yX5_init cX5_init 1 none, Cond.methodLink RX5 3 objectInit, Cond.arrayClass .int, Cond.fieldLink RX5 11 "PieceSwarm$Road" "givers" "[I", Cond.fieldLink RX5 15 "PieceSwarm$Road" "takers" "[I", Cond.fieldLink RX5 18 "PieceSwarm$Road" "pieces" "[I", Cond.fieldLink RX5 21 "PieceSwarm$Road" "blocks" "[I", Cond.fieldLink RX5 24 "PieceSwarm$Road" "values" "[I", Cond.fieldLink RX5 27 "PieceSwarm$Road" "dueTicks" "[I", Cond.methodLink RX2 31 yX3_init, Cond.instanceMethod yX3_init, Cond.code yX3_init cX3_init 1 none, Cond.methodLink RX3 3 objectInit, Cond.classLink RX3 9 RX6, Cond.instantiable RX6 6, Cond.initialized RX6, Cond.fieldLink RX3 12 "PieceSwarm$Member" "store" "LPieceSwarm$Store;", Cond.classLink RX3 18 RX7, Cond.instantiable RX7 10, Cond.initialized RX7, Cond.fieldLink RX3 21 "PieceSwarm$Member" "ties" "LPieceSwarm$Ties;", Cond.fieldLink RX3 25 "PieceSwarm$Member" "everyNth" "I", Cond.fieldLink RX3 29 "PieceSwarm$Member" "doneTick" "I", Cond.methodLink RX3 11 yX6_init]
def wsX2_init_r3 : List Cond := [Cond.instanceMethod yX6_init, Cond.code yX6_init cX6_init 2 none, Cond.methodLink RX6 3 objectInit, Cond.fieldLink RX6 9 "PieceSwarm$Store" "givers" "[I", Cond.fieldLink RX6 15 "PieceSwarm$Store" "values" "[I", Cond.fieldLink RX6 18 "PieceSwarm$Store" "coming" "[I", Cond.methodLink RX3 20 yX7_init, Cond.instanceMethod yX7_init, Cond.code yX7_init cX7_init 1 none, Cond.methodLink RX7 3 objectInit, Cond.fieldLink RX7 9 "PieceSwarm$Ties" "cameLate" "[I", Cond.fieldLink RX7 15 "PieceSwarm$Ties" "sentLate" "[I", Cond.fieldLink RX7 18 "PieceSwarm$Ties" "sent" "[I", Cond.fieldLink RX7 21 "PieceSwarm$Ties" "doubts" "[I", Cond.fieldLink RX7 24 "PieceSwarm$Ties" "latestByTurns" "I", Cond.fieldLink RX7 28 "PieceSwarm$Ties" "openedByTurns" "I"]
def wsX2_init : List Cond := .code yX2_init cX2_init 2 none :: ((wsX2_init_r1 ++ (wsX2_init_r2 ++ wsX2_init_r3)) ++ wsX80 ++ wsX20 ++ wsX50 ++ wsX30 ++ wsX60 ++ wsX70)
def wsX2_isMember : List Cond := .code yX2_isMember cX2_isMember 2 (some .boolean) :: ([.fieldLink RX2 32 "PieceSwarm$Crowd" "size" "I"] ++ wsX20)
def wsX2_areTwo : List Cond := .code yX2_areTwo cX2_areTwo 3 (some .boolean) :: ([.methodLink RX2 36 yX2_isMember, .instanceMethod yX2_isMember, .selects RX2 yX2_isMember yX2_isMember, .initialized RX2, .code yX2_isMember cX2_isMember 2 (some .boolean), .fieldLink RX2 32 "PieceSwarm$Crowd" "size" "I"] ++ wsX20)
def wsX6_fillFrom : List Cond := .code yX6_fillFrom cX6_fillFrom 4 none :: ([.fieldLink RX6 21 "PieceSwarm$Whole" "pieces" "I", .fieldLink RX6 27 "PieceSwarm$Whole" "blocks" "I", .fieldLink RX6 15 "PieceSwarm$Store" "values" "[I", .fieldLink RX6 41 "PieceSwarm$Store" "has" "I", .static yX9_place, .initialized RX9, .code yX9_place cX9_place 2 (some .int), .methodLink RX6 34 yX8_valueOf, .instanceMethod yX8_valueOf, .selects RX8 yX8_valueOf yX8_valueOf, .initialized RX8, .code yX8_valueOf cX8_valueOf 4 (some .int), .fieldLink RX8 16 "PieceSwarm$Whole" "seed" "I", .constant RX8 23 (1103515245), .methodLink RX6 37 yX8_allPieces, .instanceMethod yX8_allPieces, .selects RX8 yX8_allPieces yX8_allPieces, .code yX8_allPieces cX8_allPieces 1 (some .int), .fieldLink RX8 7 "PieceSwarm$Whole" "pieces" "I"] ++ wsX80 ++ wsX60)
def wsX2_takeIn_r1 : List Cond := [Cond.fieldLink RX2 32 "PieceSwarm$Crowd" "size" "I", Cond.fieldLink RX2 27 "PieceSwarm$Crowd" "members" "[LPieceSwarm$Member;", Cond.fieldLink RX2 40 "PieceSwarm$Member" "kind" "I", Cond.fieldLink RX2 43 "PieceSwarm$Member" "up" "I", Cond.fieldLink RX2 46 "PieceSwarm$Member" "down" "I", Cond.fieldLink RX2 49 "PieceSwarm$Member" "store" "LPieceSwarm$Store;", Cond.fieldLink RX2 12 "PieceSwarm$Crowd" "whole" "LPieceSwarm$Whole;", Cond.fieldLink RX2 59 "PieceSwarm$Member" "doneTick" "I", Cond.fieldLink RX2 62 "PieceSwarm$Crowd" "here" "I", Cond.methodLink RX2 53 yX6_fillFrom, Cond.instanceMethod yX6_fillFrom, Cond.selects RX6 yX6_fillFrom yX6_fillFrom, Cond.initialized RX6, Cond.code yX6_fillFrom cX6_fillFrom 4 none, Cond.fieldLink RX6 21 "PieceSwarm$Whole" "pieces" "I", Cond.fieldLink RX6 27 "PieceSwarm$Whole" "blocks" "I", Cond.fieldLink RX6 15 "PieceSwarm$Store" "values" "[I", Cond.fieldLink RX6 41 "PieceSwarm$Store" "has" "I", Cond.static yX9_place, Cond.initialized RX9, Cond.code yX9_place cX9_place 2 (some .int), Cond.methodLink RX6 34 yX8_valueOf, Cond.instanceMethod yX8_valueOf, Cond.selects RX8 yX8_valueOf yX8_valueOf]
def wsX2_takeIn_r2 : List Cond := [Cond.initialized RX8, Cond.code yX8_valueOf cX8_valueOf 4 (some .int), Cond.fieldLink RX8 16 "PieceSwarm$Whole" "seed" "I", Cond.constant RX8 23 (1103515245), Cond.methodLink RX6 37 yX8_allPieces, Cond.instanceMethod yX8_allPieces, Cond.selects RX8 yX8_allPieces yX8_allPieces, Cond.code yX8_allPieces cX8_allPieces 1 (some .int), Cond.fieldLink RX8 7 "PieceSwarm$Whole" "pieces" "I"]
def wsX2_takeIn : List Cond := .code yX2_takeIn cX2_takeIn 6 (some .int) :: ((wsX2_takeIn_r1 ++ wsX2_takeIn_r2) ++ wsX20 ++ wsX30 ++ wsX80 ++ wsX60)
def wsX2_wantersOf_r1 : List Cond := [Cond.fieldLink RX2 27 "PieceSwarm$Crowd" "members" "[LPieceSwarm$Member;", Cond.fieldLink RX2 32 "PieceSwarm$Crowd" "size" "I", Cond.fieldLink RX2 49 "PieceSwarm$Member" "store" "LPieceSwarm$Store;", Cond.fieldLink RX2 92 "PieceSwarm$Store" "has" "I", Cond.methodLink RX2 84 yX3_toldPieces, Cond.instanceMethod yX3_toldPieces, Cond.selects RX3 yX3_toldPieces yX3_toldPieces, Cond.initialized RX3, Cond.code yX3_toldPieces cX3_toldPieces 1 (some .int), Cond.fieldLink RX3 32 "PieceSwarm$Member" "kind" "I", Cond.fieldLink RX3 12 "PieceSwarm$Member" "store" "LPieceSwarm$Store;", Cond.fieldLink RX3 35 "PieceSwarm$Store" "has" "I", Cond.constant RX3 38 (5592405), Cond.methodLink RX2 88 yX2_nearTo, Cond.instanceMethod yX2_nearTo, Cond.selects RX2 yX2_nearTo yX2_nearTo, Cond.initialized RX2, Cond.code yX2_nearTo cX2_nearTo 3 (some .int), Cond.fieldLink RX2 65 "PieceSwarm$Member" "ties" "LPieceSwarm$Ties;", Cond.fieldLink RX2 62 "PieceSwarm$Crowd" "here" "I", Cond.fieldLink RX2 73 "PieceSwarm$Ties" "neighbours" "I", Cond.fieldLink RX2 78 "PieceSwarm$Ties" "banned" "I", Cond.fieldLink RX2 81 "PieceSwarm$Ties" "bannedBy" "I", Cond.static yX9_isIn]
def wsX2_wantersOf_r2 : List Cond := [Cond.initialized RX9, Cond.code yX9_isIn cX9_isIn 2 (some .boolean)]
def wsX2_wantersOf : List Cond := .code yX2_wantersOf cX2_wantersOf 6 (some .int) :: ((wsX2_wantersOf_r1 ++ wsX2_wantersOf_r2) ++ wsX20 ++ wsX30 ++ wsX60 ++ wsX70)
def wsX2_hadByOthersThan : List Cond := .code yX2_hadByOthersThan cX2_hadByOthersThan 4 (some .int) :: ([.fieldLink RX2 32 "PieceSwarm$Crowd" "size" "I", .fieldLink RX2 62 "PieceSwarm$Crowd" "here" "I", .fieldLink RX2 27 "PieceSwarm$Crowd" "members" "[LPieceSwarm$Member;", .fieldLink RX2 49 "PieceSwarm$Member" "store" "LPieceSwarm$Store;", .fieldLink RX2 92 "PieceSwarm$Store" "has" "I", .static yX9_isIn, .initialized RX9, .code yX9_isIn cX9_isIn 2 (some .boolean)] ++ wsX20 ++ wsX30 ++ wsX60)
def wsX2_loseParcelsOf_r1 : List Cond := [Cond.fieldLink RX2 21 "PieceSwarm$Crowd" "road" "LPieceSwarm$Road;", Cond.fieldLink RX2 102 "PieceSwarm$Road" "length" "I", Cond.fieldLink RX2 105 "PieceSwarm$Road" "takers" "[I", Cond.fieldLink RX2 109 "PieceSwarm$Road" "givers" "[I", Cond.fieldLink RX2 27 "PieceSwarm$Crowd" "members" "[LPieceSwarm$Member;", Cond.fieldLink RX2 49 "PieceSwarm$Member" "store" "LPieceSwarm$Store;", Cond.fieldLink RX2 112 "PieceSwarm$Road" "pieces" "[I", Cond.fieldLink RX2 115 "PieceSwarm$Road" "blocks" "[I", Cond.fieldLink RX2 122 "PieceSwarm$Crowd" "lostInAll" "I", Cond.methodLink RX2 118 yX6_expectNoMore, Cond.instanceMethod yX6_expectNoMore, Cond.selects RX6 yX6_expectNoMore yX6_expectNoMore, Cond.initialized RX6, Cond.code yX6_expectNoMore cX6_expectNoMore 3 none, Cond.fieldLink RX6 18 "PieceSwarm$Store" "coming" "[I", Cond.fieldLink RX6 59 "PieceSwarm$Store" "comingInAll" "I", Cond.static yX9_place, Cond.initialized RX9, Cond.code yX9_place cX9_place 2 (some .int), Cond.methodLink RX2 125 yX5_move, Cond.instanceMethod yX5_move, Cond.selects RX5 yX5_move yX5_move, Cond.initialized RX5, Cond.code yX5_move cX5_move 3 none]
def wsX2_loseParcelsOf_r2 : List Cond := [Cond.fieldLink RX5 11 "PieceSwarm$Road" "givers" "[I", Cond.fieldLink RX5 15 "PieceSwarm$Road" "takers" "[I", Cond.fieldLink RX5 18 "PieceSwarm$Road" "pieces" "[I", Cond.fieldLink RX5 21 "PieceSwarm$Road" "blocks" "[I", Cond.fieldLink RX5 24 "PieceSwarm$Road" "values" "[I", Cond.fieldLink RX5 27 "PieceSwarm$Road" "dueTicks" "[I"]
def wsX2_loseParcelsOf : List Cond := .code yX2_loseParcelsOf cX2_loseParcelsOf 4 none :: ((wsX2_loseParcelsOf_r1 ++ wsX2_loseParcelsOf_r2) ++ wsX20 ++ wsX50 ++ wsX30 ++ wsX60)
def wsX2_letGo_r1 : List Cond := [Cond.fieldLink RX2 62 "PieceSwarm$Crowd" "here" "I", Cond.fieldLink RX2 27 "PieceSwarm$Crowd" "members" "[LPieceSwarm$Member;", Cond.fieldLink RX2 65 "PieceSwarm$Member" "ties" "LPieceSwarm$Ties;", Cond.fieldLink RX2 95 "PieceSwarm$Ties" "open" "I", Cond.fieldLink RX2 32 "PieceSwarm$Crowd" "size" "I", Cond.methodLink RX2 98 yX2_loseParcelsOf, Cond.instanceMethod yX2_loseParcelsOf, Cond.selects RX2 yX2_loseParcelsOf yX2_loseParcelsOf, Cond.initialized RX2, Cond.code yX2_loseParcelsOf cX2_loseParcelsOf 4 none, Cond.fieldLink RX2 21 "PieceSwarm$Crowd" "road" "LPieceSwarm$Road;", Cond.fieldLink RX2 102 "PieceSwarm$Road" "length" "I", Cond.fieldLink RX2 105 "PieceSwarm$Road" "takers" "[I", Cond.fieldLink RX2 109 "PieceSwarm$Road" "givers" "[I", Cond.fieldLink RX2 49 "PieceSwarm$Member" "store" "LPieceSwarm$Store;", Cond.fieldLink RX2 112 "PieceSwarm$Road" "pieces" "[I", Cond.fieldLink RX2 115 "PieceSwarm$Road" "blocks" "[I", Cond.fieldLink RX2 122 "PieceSwarm$Crowd" "lostInAll" "I", Cond.methodLink RX2 118 yX6_expectNoMore, Cond.instanceMethod yX6_expectNoMore, Cond.selects RX6 yX6_expectNoMore yX6_expectNoMore, Cond.initialized RX6, Cond.code yX6_expectNoMore cX6_expectNoMore 3 none, Cond.fieldLink RX6 18 "PieceSwarm$Store" "coming" "[I"]
def wsX2_letGo_r2 : List Cond := [Cond.fieldLink RX6 59 "PieceSwarm$Store" "comingInAll" "I", Cond.static yX9_place, Cond.initialized RX9, Cond.code yX9_place cX9_place 2 (some .int), Cond.methodLink RX2 125 yX5_move, Cond.instanceMethod yX5_move, Cond.selects RX5 yX5_move yX5_move, Cond.initialized RX5, Cond.code yX5_move cX5_move 3 none, Cond.fieldLink RX5 11 "PieceSwarm$Road" "givers" "[I", Cond.fieldLink RX5 15 "PieceSwarm$Road" "takers" "[I", Cond.fieldLink RX5 18 "PieceSwarm$Road" "pieces" "[I", Cond.fieldLink RX5 21 "PieceSwarm$Road" "blocks" "[I", Cond.fieldLink RX5 24 "PieceSwarm$Road" "values" "[I", Cond.fieldLink RX5 27 "PieceSwarm$Road" "dueTicks" "[I"]
def wsX2_letGo : List Cond := .code yX2_letGo cX2_letGo 3 none :: ((wsX2_letGo_r1 ++ wsX2_letGo_r2) ++ wsX20 ++ wsX30 ++ wsX70 ++ wsX50 ++ wsX60)
def wsX2_doneAndHere : List Cond := .code yX2_doneAndHere cX2_doneAndHere 3 (some .int) :: ([.fieldLink RX2 32 "PieceSwarm$Crowd" "size" "I", .fieldLink RX2 62 "PieceSwarm$Crowd" "here" "I", .fieldLink RX2 27 "PieceSwarm$Crowd" "members" "[LPieceSwarm$Member;", .static yX9_isIn, .initialized RX9, .code yX9_isIn cX9_isIn 2 (some .boolean), .methodLink RX2 128 yX3_isDone, .instanceMethod yX3_isDone, .selects RX3 yX3_isDone yX3_isDone, .initialized RX3, .code yX3_isDone cX3_isDone 1 (some .boolean), .fieldLink RX3 29 "PieceSwarm$Member" "doneTick" "I", .static yX9_oneIf, .code yX9_oneIf cX9_oneIf 1 (some .int)] ++ wsX20 ++ wsX30)
def wsX2_failedInAll : List Cond := .code yX2_failedInAll cX2_failedInAll 3 (some .int) :: ([.fieldLink RX2 32 "PieceSwarm$Crowd" "size" "I", .fieldLink RX2 27 "PieceSwarm$Crowd" "members" "[LPieceSwarm$Member;", .fieldLink RX2 136 "PieceSwarm$Member" "failed" "I"] ++ wsX20 ++ wsX30)
def wsX2_spareInAll : List Cond := .code yX2_spareInAll cX2_spareInAll 3 (some .int) :: ([.fieldLink RX2 32 "PieceSwarm$Crowd" "size" "I", .fieldLink RX2 27 "PieceSwarm$Crowd" "members" "[LPieceSwarm$Member;", .fieldLink RX2 139 "PieceSwarm$Member" "spare" "I"] ++ wsX20 ++ wsX30)
def wsX3_opensToNobody : List Cond := .code yX3_opensToNobody cX3_opensToNobody 1 (some .boolean) :: ([.fieldLink RX3 32 "PieceSwarm$Member" "kind" "I"] ++ wsX30)
def wsX3_lateNumberOf : List Cond := .code yX3_lateNumberOf cX3_lateNumberOf 2 (some .int) :: ([.fieldLink RX3 21 "PieceSwarm$Member" "ties" "LPieceSwarm$Ties;", .fieldLink RX3 43 "PieceSwarm$Ties" "sentLate" "[I", .fieldLink RX3 47 "PieceSwarm$Ties" "cameLate" "[I", .methodLink RX3 39 yX3_isDone, .instanceMethod yX3_isDone, .selects RX3 yX3_isDone yX3_isDone, .initialized RX3, .code yX3_isDone cX3_isDone 1 (some .boolean), .fieldLink RX3 29 "PieceSwarm$Member" "doneTick" "I"] ++ wsX30 ++ wsX70)
def wsX4_init : List Cond := .code yX4_init cX4_init 2 none :: ([.methodLink RX4 3 objectInit, .instanceMethod objectInit, .code objectInit ⟨#[0xb1]⟩ 1 none, .fieldLink RX4 9 "PieceSwarm$Opening" "crowd" "LPieceSwarm$Crowd;"] ++ wsX40)
def wsX4_latest : List Cond := .code yX4_latest cX4_latest 5 (some .int) :: ([.fieldLink RX4 9 "PieceSwarm$Opening" "crowd" "LPieceSwarm$Crowd;", .fieldLink RX4 15 "PieceSwarm$Crowd" "size" "I", .static yX9_isIn, .initialized RX9, .code yX9_isIn cX9_isIn 2 (some .boolean), .methodLink RX4 75 yX3_lateNumberOf, .instanceMethod yX3_lateNumberOf, .selects RX3 yX3_lateNumberOf yX3_lateNumberOf, .initialized RX3, .code yX3_lateNumberOf cX3_lateNumberOf 2 (some .int), .fieldLink RX3 21 "PieceSwarm$Member" "ties" "LPieceSwarm$Ties;", .fieldLink RX3 43 "PieceSwarm$Ties" "sentLate" "[I", .fieldLink RX3 47 "PieceSwarm$Ties" "cameLate" "[I", .methodLink RX3 39 yX3_isDone, .instanceMethod yX3_isDone, .selects RX3 yX3_isDone yX3_isDone, .code yX3_isDone cX3_isDone 1 (some .boolean), .fieldLink RX3 29 "PieceSwarm$Member" "doneTick" "I"] ++ wsX40 ++ wsX20 ++ wsX30 ++ wsX70)
def wsX4_setOf : List Cond := .code yX4_setOf cX4_setOf 1 (some .int) :: ([])
def wsX4_nextByTurns : List Cond := .code yX4_nextByTurns cX4_nextByTurns 5 (some .int) :: ([.fieldLink RX4 9 "PieceSwarm$Opening" "crowd" "LPieceSwarm$Crowd;", .fieldLink RX4 15 "PieceSwarm$Crowd" "size" "I", .static yX9_isIn, .initialized RX9, .code yX9_isIn cX9_isIn 2 (some .boolean)] ++ wsX40 ++ wsX20)
def wsX7_forgetLate : List Cond := .code yX7_forgetLate cX7_forgetLate 2 none :: ([.fieldLink RX7 9 "PieceSwarm$Ties" "cameLate" "[I", .fieldLink RX7 15 "PieceSwarm$Ties" "sentLate" "[I"] ++ wsX70)
def wsX4_openAnew_r1 : List Cond := [Cond.fieldLink RX4 9 "PieceSwarm$Opening" "crowd" "LPieceSwarm$Crowd;", Cond.fieldLink RX4 32 "PieceSwarm$Crowd" "members" "[LPieceSwarm$Member;", Cond.fieldLink RX4 36 "PieceSwarm$Member" "ties" "LPieceSwarm$Ties;", Cond.fieldLink RX4 57 "PieceSwarm$Ties" "latestByTurns" "I", Cond.fieldLink RX4 66 "PieceSwarm$Ties" "openedByTurns" "I", Cond.fieldLink RX4 69 "PieceSwarm$Ties" "open" "I", Cond.methodLink RX4 42 yX3_opensToNobody, Cond.instanceMethod yX3_opensToNobody, Cond.selects RX3 yX3_opensToNobody yX3_opensToNobody, Cond.initialized RX3, Cond.code yX3_opensToNobody cX3_opensToNobody 1 (some .boolean), Cond.fieldLink RX3 32 "PieceSwarm$Member" "kind" "I", Cond.methodLink RX4 46 yX2_wantersOf, Cond.instanceMethod yX2_wantersOf, Cond.selects RX2 yX2_wantersOf yX2_wantersOf, Cond.initialized RX2, Cond.code yX2_wantersOf cX2_wantersOf 6 (some .int), Cond.fieldLink RX2 27 "PieceSwarm$Crowd" "members" "[LPieceSwarm$Member;", Cond.fieldLink RX2 32 "PieceSwarm$Crowd" "size" "I", Cond.fieldLink RX2 49 "PieceSwarm$Member" "store" "LPieceSwarm$Store;", Cond.fieldLink RX2 92 "PieceSwarm$Store" "has" "I", Cond.methodLink RX2 84 yX3_toldPieces, Cond.instanceMethod yX3_toldPieces, Cond.selects RX3 yX3_toldPieces yX3_toldPieces]
def wsX4_openAnew_r2 : List Cond := [Cond.code yX3_toldPieces cX3_toldPieces 1 (some .int), Cond.fieldLink RX3 12 "PieceSwarm$Member" "store" "LPieceSwarm$Store;", Cond.fieldLink RX3 35 "PieceSwarm$Store" "has" "I", Cond.constant RX3 38 (5592405), Cond.methodLink RX2 88 yX2_nearTo, Cond.instanceMethod yX2_nearTo, Cond.selects RX2 yX2_nearTo yX2_nearTo, Cond.code yX2_nearTo cX2_nearTo 3 (some .int), Cond.fieldLink RX2 65 "PieceSwarm$Member" "ties" "LPieceSwarm$Ties;", Cond.fieldLink RX2 62 "PieceSwarm$Crowd" "here" "I", Cond.fieldLink RX2 73 "PieceSwarm$Ties" "neighbours" "I", Cond.fieldLink RX2 78 "PieceSwarm$Ties" "banned" "I", Cond.fieldLink RX2 81 "PieceSwarm$Ties" "bannedBy" "I", Cond.static yX9_isIn, Cond.initialized RX9, Cond.code yX9_isIn cX9_isIn 2 (some .boolean), Cond.methodLink RX4 50 yX4_latest, Cond.instanceMethod yX4_latest, Cond.selects RX4 yX4_latest yX4_latest, Cond.initialized RX4, Cond.code yX4_latest cX4_latest 5 (some .int), Cond.fieldLink RX4 15 "PieceSwarm$Crowd" "size" "I", Cond.methodLink RX4 75 yX3_lateNumberOf, Cond.instanceMethod yX3_lateNumberOf]
def wsX4_openAnew_r3 : List Cond := [Cond.selects RX3 yX3_lateNumberOf yX3_lateNumberOf, Cond.code yX3_lateNumberOf cX3_lateNumberOf 2 (some .int), Cond.fieldLink RX3 21 "PieceSwarm$Member" "ties" "LPieceSwarm$Ties;", Cond.fieldLink RX3 43 "PieceSwarm$Ties" "sentLate" "[I", Cond.fieldLink RX3 47 "PieceSwarm$Ties" "cameLate" "[I", Cond.methodLink RX3 39 yX3_isDone, Cond.instanceMethod yX3_isDone, Cond.selects RX3 yX3_isDone yX3_isDone, Cond.code yX3_isDone cX3_isDone 1 (some .boolean), Cond.fieldLink RX3 29 "PieceSwarm$Member" "doneTick" "I", Cond.methodLink RX4 54 yX4_setOf, Cond.static yX4_setOf, Cond.code yX4_setOf cX4_setOf 1 (some .int), Cond.methodLink RX4 62 yX4_nextByTurns, Cond.instanceMethod yX4_nextByTurns, Cond.selects RX4 yX4_nextByTurns yX4_nextByTurns, Cond.code yX4_nextByTurns cX4_nextByTurns 5 (some .int), Cond.methodLink RX4 72 yX7_forgetLate, Cond.instanceMethod yX7_forgetLate, Cond.selects RX7 yX7_forgetLate yX7_forgetLate, Cond.initialized RX7, Cond.code yX7_forgetLate cX7_forgetLate 2 none, Cond.fieldLink RX7 9 "PieceSwarm$Ties" "cameLate" "[I", Cond.fieldLink RX7 15 "PieceSwarm$Ties" "sentLate" "[I"]
def wsX4_openAnew : List Cond := .code yX4_openAnew cX4_openAnew 7 none :: ((wsX4_openAnew_r1 ++ (wsX4_openAnew_r2 ++ wsX4_openAnew_r3)) ++ wsX40 ++ wsX20 ++ wsX30 ++ wsX70 ++ wsX60)
def wsX4_openAll_r1 : List Cond := [Cond.fieldLink RX4 9 "PieceSwarm$Opening" "crowd" "LPieceSwarm$Crowd;", Cond.fieldLink RX4 15 "PieceSwarm$Crowd" "size" "I", Cond.fieldLink RX4 21 "PieceSwarm$Crowd" "here" "I", Cond.static yX9_isIn, Cond.initialized RX9, Cond.code yX9_isIn cX9_isIn 2 (some .boolean), Cond.methodLink RX4 28 yX4_openAnew, Cond.instanceMethod yX4_openAnew, Cond.selects RX4 yX4_openAnew yX4_openAnew, Cond.initialized RX4, Cond.code yX4_openAnew cX4_openAnew 7 none, Cond.fieldLink RX4 32 "PieceSwarm$Crowd" "members" "[LPieceSwarm$Member;", Cond.fieldLink RX4 36 "PieceSwarm$Member" "ties" "LPieceSwarm$Ties;", Cond.fieldLink RX4 57 "PieceSwarm$Ties" "latestByTurns" "I", Cond.fieldLink RX4 66 "PieceSwarm$Ties" "openedByTurns" "I", Cond.fieldLink RX4 69 "PieceSwarm$Ties" "open" "I", Cond.methodLink RX4 42 yX3_opensToNobody, Cond.instanceMethod yX3_opensToNobody, Cond.selects RX3 yX3_opensToNobody yX3_opensToNobody, Cond.initialized RX3, Cond.code yX3_opensToNobody cX3_opensToNobody 1 (some .boolean), Cond.fieldLink RX3 32 "PieceSwarm$Member" "kind" "I", Cond.methodLink RX4 46 yX2_wantersOf, Cond.instanceMethod yX2_wantersOf]
def wsX4_openAll_r2 : List Cond := [Cond.selects RX2 yX2_wantersOf yX2_wantersOf, Cond.initialized RX2, Cond.code yX2_wantersOf cX2_wantersOf 6 (some .int), Cond.fieldLink RX2 27 "PieceSwarm$Crowd" "members" "[LPieceSwarm$Member;", Cond.fieldLink RX2 32 "PieceSwarm$Crowd" "size" "I", Cond.fieldLink RX2 49 "PieceSwarm$Member" "store" "LPieceSwarm$Store;", Cond.fieldLink RX2 92 "PieceSwarm$Store" "has" "I", Cond.methodLink RX2 84 yX3_toldPieces, Cond.instanceMethod yX3_toldPieces, Cond.selects RX3 yX3_toldPieces yX3_toldPieces, Cond.code yX3_toldPieces cX3_toldPieces 1 (some .int), Cond.fieldLink RX3 12 "PieceSwarm$Member" "store" "LPieceSwarm$Store;", Cond.fieldLink RX3 35 "PieceSwarm$Store" "has" "I", Cond.constant RX3 38 (5592405), Cond.methodLink RX2 88 yX2_nearTo, Cond.instanceMethod yX2_nearTo, Cond.selects RX2 yX2_nearTo yX2_nearTo, Cond.code yX2_nearTo cX2_nearTo 3 (some .int), Cond.fieldLink RX2 65 "PieceSwarm$Member" "ties" "LPieceSwarm$Ties;", Cond.fieldLink RX2 62 "PieceSwarm$Crowd" "here" "I", Cond.fieldLink RX2 73 "PieceSwarm$Ties" "neighbours" "I", Cond.fieldLink RX2 78 "PieceSwarm$Ties" "banned" "I", Cond.fieldLink RX2 81 "PieceSwarm$Ties" "bannedBy" "I", Cond.methodLink RX4 50 yX4_latest]
def wsX4_openAll_r3 : List Cond := [Cond.instanceMethod yX4_latest, Cond.selects RX4 yX4_latest yX4_latest, Cond.code yX4_latest cX4_latest 5 (some .int), Cond.methodLink RX4 75 yX3_lateNumberOf, Cond.instanceMethod yX3_lateNumberOf, Cond.selects RX3 yX3_lateNumberOf yX3_lateNumberOf, Cond.code yX3_lateNumberOf cX3_lateNumberOf 2 (some .int), Cond.fieldLink RX3 21 "PieceSwarm$Member" "ties" "LPieceSwarm$Ties;", Cond.fieldLink RX3 43 "PieceSwarm$Ties" "sentLate" "[I", Cond.fieldLink RX3 47 "PieceSwarm$Ties" "cameLate" "[I", Cond.methodLink RX3 39 yX3_isDone, Cond.instanceMethod yX3_isDone, Cond.selects RX3 yX3_isDone yX3_isDone, Cond.code yX3_isDone cX3_isDone 1 (some .boolean), Cond.fieldLink RX3 29 "PieceSwarm$Member" "doneTick" "I", Cond.methodLink RX4 54 yX4_setOf, Cond.static yX4_setOf, Cond.code yX4_setOf cX4_setOf 1 (some .int), Cond.methodLink RX4 62 yX4_nextByTurns, Cond.instanceMethod yX4_nextByTurns, Cond.selects RX4 yX4_nextByTurns yX4_nextByTurns, Cond.code yX4_nextByTurns cX4_nextByTurns 5 (some .int), Cond.methodLink RX4 72 yX7_forgetLate, Cond.instanceMethod yX7_forgetLate]
def wsX4_openAll_r4 : List Cond := [Cond.selects RX7 yX7_forgetLate yX7_forgetLate, Cond.initialized RX7, Cond.code yX7_forgetLate cX7_forgetLate 2 none, Cond.fieldLink RX7 9 "PieceSwarm$Ties" "cameLate" "[I", Cond.fieldLink RX7 15 "PieceSwarm$Ties" "sentLate" "[I"]
def wsX4_openAll : List Cond := .code yX4_openAll cX4_openAll 2 none :: ((wsX4_openAll_r1 ++ (wsX4_openAll_r2 ++ (wsX4_openAll_r3 ++ wsX4_openAll_r4))) ++ wsX40 ++ wsX20 ++ wsX30 ++ wsX70 ++ wsX60)
def wsX6_heldInAll : List Cond := .code yX6_heldInAll cX6_heldInAll 3 (some .int) :: ([.methodLink RX6 55 yX6_heldOf, .instanceMethod yX6_heldOf, .selects RX6 yX6_heldOf yX6_heldOf, .initialized RX6, .code yX6_heldOf cX6_heldOf 4 (some .int), .methodLink RX6 48 yX6_holds, .instanceMethod yX6_holds, .selects RX6 yX6_holds yX6_holds, .code yX6_holds cX6_holds 3 (some .boolean), .fieldLink RX6 41 "PieceSwarm$Store" "has" "I", .fieldLink RX6 9 "PieceSwarm$Store" "givers" "[I", .static yX9_isIn, .initialized RX9, .code yX9_isIn cX9_isIn 2 (some .boolean), .static yX9_place, .code yX9_place cX9_place 2 (some .int), .static yX9_oneIf, .code yX9_oneIf cX9_oneIf 1 (some .int)] ++ wsX60)
def wsX6_isBare : List Cond := .code yX6_isBare cX6_isBare 1 (some .boolean) :: ([.fieldLink RX6 41 "PieceSwarm$Store" "has" "I", .fieldLink RX6 59 "PieceSwarm$Store" "comingInAll" "I", .methodLink RX6 62 yX6_heldInAll, .instanceMethod yX6_heldInAll, .selects RX6 yX6_heldInAll yX6_heldInAll, .initialized RX6, .code yX6_heldInAll cX6_heldInAll 3 (some .int), .methodLink RX6 55 yX6_heldOf, .instanceMethod yX6_heldOf, .selects RX6 yX6_heldOf yX6_heldOf, .code yX6_heldOf cX6_heldOf 4 (some .int), .methodLink RX6 48 yX6_holds, .instanceMethod yX6_holds, .selects RX6 yX6_holds yX6_holds, .code yX6_holds cX6_holds 3 (some .boolean), .fieldLink RX6 9 "PieceSwarm$Store" "givers" "[I", .static yX9_isIn, .initialized RX9, .code yX9_isIn cX9_isIn 2 (some .boolean), .static yX9_place, .code yX9_place cX9_place 2 (some .int), .static yX9_oneIf, .code yX9_oneIf cX9_oneIf 1 (some .int)] ++ wsX60)
def wsX8_become : List Cond := .code yX8_become cX8_become 4 none :: ([.fieldLink RX8 7 "PieceSwarm$Whole" "pieces" "I", .fieldLink RX8 13 "PieceSwarm$Whole" "blocks" "I", .fieldLink RX8 16 "PieceSwarm$Whole" "seed" "I"] ++ wsX80)
def wsX8_isPiece : List Cond := .code yX8_isPiece cX8_isPiece 2 (some .boolean) :: ([.fieldLink RX8 7 "PieceSwarm$Whole" "pieces" "I"] ++ wsX80)
def wsX8_isBlock : List Cond := .code yX8_isBlock cX8_isBlock 3 (some .boolean) :: ([.fieldLink RX8 13 "PieceSwarm$Whole" "blocks" "I", .methodLink RX8 19 yX8_isPiece, .instanceMethod yX8_isPiece, .selects RX8 yX8_isPiece yX8_isPiece, .initialized RX8, .code yX8_isPiece cX8_isPiece 2 (some .boolean), .fieldLink RX8 7 "PieceSwarm$Whole" "pieces" "I"] ++ wsX80)
def wsX9_init_r1 : List Cond := [Cond.methodLink RX9 1 objectInit, Cond.instanceMethod objectInit, Cond.code objectInit ⟨#[0xb1]⟩ 1 none, Cond.classLink RX9 7 RX2, Cond.instantiable RX2 8, Cond.initialized RX2, Cond.fieldLink RX9 10 "PieceSwarm" "crowd" "LPieceSwarm$Crowd;", Cond.classLink RX9 16 RX0, Cond.instantiable RX0 1, Cond.initialized RX0, Cond.fieldLink RX9 21 "PieceSwarm" "arrival" "LPieceSwarm$Arrival;", Cond.classLink RX9 25 RX4, Cond.instantiable RX4 1, Cond.initialized RX4, Cond.fieldLink RX9 28 "PieceSwarm" "opening" "LPieceSwarm$Opening;", Cond.classLink RX9 32 RX1, Cond.instantiable RX1 1, Cond.initialized RX1, Cond.fieldLink RX9 35 "PieceSwarm" "asking" "LPieceSwarm$Asking;", Cond.methodLink RX9 9 yX2_init, Cond.instanceMethod yX2_init, Cond.code yX2_init cX2_init 2 none, Cond.methodLink RX2 3 objectInit, Cond.classLink RX2 9 RX8]
def wsX9_init_r2 : List Cond := [Cond.instantiable RX8 3, Cond.initialized RX8, Cond.fieldLink RX2 12 "PieceSwarm$Crowd" "whole" "LPieceSwarm$Whole;", Cond.classLink RX2 18 RX5, Cond.instantiable RX5 7, Cond.initialized RX5, Cond.fieldLink RX2 21 "PieceSwarm$Crowd" "road" "LPieceSwarm$Road;", Cond.classLink RX2 25 RX3, Cond.fieldLink RX2 27 "PieceSwarm$Crowd" "members" "[LPieceSwarm$Member;", Cond.instantiable RX3 13, Cond.initialized RX3, Cond.methodLink RX2 11 yX8_init, Cond.instanceMethod yX8_init, Cond.code yX8_init cX8_init 1 none, Cond.methodLink RX8 1 objectInit, Cond.fieldLink RX8 7 "PieceSwarm$Whole" "pieces" "I", Cond.fieldLink RX8 13 "PieceSwarm$Whole" "blocks" "I", Cond.fieldLink RX8 16 "PieceSwarm$Whole" "seed" "I", Cond.methodLink RX2 20 yX5_init, Cond.instanceMethod yX5_init, Cond.code yX5_init cX5_init 1 none, Cond.methodLink RX5 3 objectInit, Cond.arrayClass .int, Cond.fieldLink RX5 11 "PieceSwarm$Road" "givers" "[I"]
def wsX9_init_r3 : List Cond := [Cond.fieldLink RX5 15 "PieceSwarm$Road" "takers" "[I", Cond.fieldLink RX5 18 "PieceSwarm$Road" "pieces" "[I", Cond.fieldLink RX5 21 "PieceSwarm$Road" "blocks" "[I", Cond.fieldLink RX5 24 "PieceSwarm$Road" "values" "[I", Cond.fieldLink RX5 27 "PieceSwarm$Road" "dueTicks" "[I", Cond.methodLink RX2 31 yX3_init, Cond.instanceMethod yX3_init, Cond.code yX3_init cX3_init 1 none, Cond.methodLink RX3 3 objectInit, Cond.classLink RX3 9 RX6, Cond.instantiable RX6 6, Cond.initialized RX6, Cond.fieldLink RX3 12 "PieceSwarm$Member" "store" "LPieceSwarm$Store;", Cond.classLink RX3 18 RX7, Cond.instantiable RX7 10, Cond.initialized RX7, Cond.fieldLink RX3 21 "PieceSwarm$Member" "ties" "LPieceSwarm$Ties;", Cond.fieldLink RX3 25 "PieceSwarm$Member" "everyNth" "I", Cond.fieldLink RX3 29 "PieceSwarm$Member" "doneTick" "I", Cond.methodLink RX3 11 yX6_init, Cond.instanceMethod yX6_init, Cond.code yX6_init cX6_init 2 none, Cond.methodLink RX6 3 objectInit, Cond.fieldLink RX6 9 "PieceSwarm$Store" "givers" "[I"]
def wsX9_init_r4 : List Cond := [Cond.fieldLink RX6 15 "PieceSwarm$Store" "values" "[I", Cond.fieldLink RX6 18 "PieceSwarm$Store" "coming" "[I", Cond.methodLink RX3 20 yX7_init, Cond.instanceMethod yX7_init, Cond.code yX7_init cX7_init 1 none, Cond.methodLink RX7 3 objectInit, Cond.fieldLink RX7 9 "PieceSwarm$Ties" "cameLate" "[I", Cond.fieldLink RX7 15 "PieceSwarm$Ties" "sentLate" "[I", Cond.fieldLink RX7 18 "PieceSwarm$Ties" "sent" "[I", Cond.fieldLink RX7 21 "PieceSwarm$Ties" "doubts" "[I", Cond.fieldLink RX7 24 "PieceSwarm$Ties" "latestByTurns" "I", Cond.fieldLink RX7 28 "PieceSwarm$Ties" "openedByTurns" "I", Cond.methodLink RX9 18 yX0_init, Cond.instanceMethod yX0_init, Cond.code yX0_init cX0_init 2 none, Cond.methodLink RX0 1 objectInit, Cond.fieldLink RX0 7 "PieceSwarm$Arrival" "crowd" "LPieceSwarm$Crowd;", Cond.methodLink RX9 27 yX4_init, Cond.instanceMethod yX4_init, Cond.code yX4_init cX4_init 2 none, Cond.methodLink RX4 3 objectInit, Cond.fieldLink RX4 9 "PieceSwarm$Opening" "crowd" "LPieceSwarm$Crowd;", Cond.methodLink RX9 34 yX1_init, Cond.instanceMethod yX1_init]
def wsX9_init_r5 : List Cond := [Cond.code yX1_init cX1_init 2 none, Cond.methodLink RX1 3 objectInit, Cond.fieldLink RX1 9 "PieceSwarm$Asking" "crowd" "LPieceSwarm$Crowd;"]
def wsX9_init : List Cond := .code yX9_init cX9_init 1 none :: ((wsX9_init_r1 ++ (wsX9_init_r2 ++ (wsX9_init_r3 ++ (wsX9_init_r4 ++ wsX9_init_r5)))) ++ wsX20 ++ wsX90 ++ wsX00 ++ wsX40 ++ wsX10 ++ wsX80 ++ wsX50 ++ wsX30 ++ wsX60 ++ wsX70)
def wsX9_isWithin : List Cond := .code yX9_isWithin cX9_isWithin 3 (some .boolean) :: ([])
def wsX9_file : List Cond := .code yX9_file cX9_file 4 (some .boolean) :: ([.fieldLink RX9 10 "PieceSwarm" "crowd" "LPieceSwarm$Crowd;", .fieldLink RX9 39 "PieceSwarm$Crowd" "size" "I", .fieldLink RX9 47 "PieceSwarm$Crowd" "whole" "LPieceSwarm$Whole;", .methodLink RX9 43 yX9_isWithin, .static yX9_isWithin, .initialized RX9, .code yX9_isWithin cX9_isWithin 3 (some .boolean), .methodLink RX9 51 yX8_become, .instanceMethod yX8_become, .selects RX8 yX8_become yX8_become, .initialized RX8, .code yX8_become cX8_become 4 none, .fieldLink RX8 7 "PieceSwarm$Whole" "pieces" "I", .fieldLink RX8 13 "PieceSwarm$Whole" "blocks" "I", .fieldLink RX8 16 "PieceSwarm$Whole" "seed" "I"] ++ wsX90 ++ wsX20 ++ wsX80)
def wsX9_value : List Cond := .code yX9_value cX9_value 3 (some .int) :: ([.fieldLink RX9 10 "PieceSwarm" "crowd" "LPieceSwarm$Crowd;", .fieldLink RX9 47 "PieceSwarm$Crowd" "whole" "LPieceSwarm$Whole;", .methodLink RX9 57 yX8_isBlock, .instanceMethod yX8_isBlock, .selects RX8 yX8_isBlock yX8_isBlock, .initialized RX8, .code yX8_isBlock cX8_isBlock 3 (some .boolean), .fieldLink RX8 13 "PieceSwarm$Whole" "blocks" "I", .methodLink RX8 19 yX8_isPiece, .instanceMethod yX8_isPiece, .selects RX8 yX8_isPiece yX8_isPiece, .code yX8_isPiece cX8_isPiece 2 (some .boolean), .fieldLink RX8 7 "PieceSwarm$Whole" "pieces" "I", .methodLink RX9 61 yX8_valueOf, .instanceMethod yX8_valueOf, .selects RX8 yX8_valueOf yX8_valueOf, .code yX8_valueOf cX8_valueOf 4 (some .int), .fieldLink RX8 16 "PieceSwarm$Whole" "seed" "I", .constant RX8 23 (1103515245)] ++ wsX90 ++ wsX20 ++ wsX80)
def wsX9_sum : List Cond := .code yX9_sum cX9_sum 2 (some .int) :: ([.fieldLink RX9 10 "PieceSwarm" "crowd" "LPieceSwarm$Crowd;", .fieldLink RX9 47 "PieceSwarm$Crowd" "whole" "LPieceSwarm$Whole;", .methodLink RX9 65 yX8_isPiece, .instanceMethod yX8_isPiece, .selects RX8 yX8_isPiece yX8_isPiece, .initialized RX8, .code yX8_isPiece cX8_isPiece 2 (some .boolean), .fieldLink RX8 7 "PieceSwarm$Whole" "pieces" "I", .methodLink RX9 69 yX8_sumOf, .instanceMethod yX8_sumOf, .selects RX8 yX8_sumOf yX8_sumOf, .code yX8_sumOf cX8_sumOf 4 (some .int), .fieldLink RX8 13 "PieceSwarm$Whole" "blocks" "I", .methodLink RX8 24 yX8_valueOf, .instanceMethod yX8_valueOf, .selects RX8 yX8_valueOf yX8_valueOf, .code yX8_valueOf cX8_valueOf 4 (some .int), .fieldLink RX8 16 "PieceSwarm$Whole" "seed" "I", .constant RX8 23 (1103515245), .static yX9_sumWith, .initialized RX9, .code yX9_sumWith cX9_sumWith 2 (some .int), .constant RX9 271 (69069)] ++ wsX90 ++ wsX20 ++ wsX80)
def wsX9_peer_r1 : List Cond := [Cond.fieldLink RX9 10 "PieceSwarm" "crowd" "LPieceSwarm$Crowd;", Cond.fieldLink RX9 39 "PieceSwarm$Crowd" "size" "I", Cond.methodLink RX9 43 yX9_isWithin, Cond.static yX9_isWithin, Cond.initialized RX9, Cond.code yX9_isWithin cX9_isWithin 3 (some .boolean), Cond.methodLink RX9 73 yX2_takeIn, Cond.instanceMethod yX2_takeIn, Cond.selects RX2 yX2_takeIn yX2_takeIn, Cond.initialized RX2, Cond.code yX2_takeIn cX2_takeIn 6 (some .int), Cond.fieldLink RX2 32 "PieceSwarm$Crowd" "size" "I", Cond.fieldLink RX2 27 "PieceSwarm$Crowd" "members" "[LPieceSwarm$Member;", Cond.fieldLink RX2 40 "PieceSwarm$Member" "kind" "I", Cond.fieldLink RX2 43 "PieceSwarm$Member" "up" "I", Cond.fieldLink RX2 46 "PieceSwarm$Member" "down" "I", Cond.fieldLink RX2 49 "PieceSwarm$Member" "store" "LPieceSwarm$Store;", Cond.fieldLink RX2 12 "PieceSwarm$Crowd" "whole" "LPieceSwarm$Whole;", Cond.fieldLink RX2 59 "PieceSwarm$Member" "doneTick" "I", Cond.fieldLink RX2 62 "PieceSwarm$Crowd" "here" "I", Cond.methodLink RX2 53 yX6_fillFrom, Cond.instanceMethod yX6_fillFrom, Cond.selects RX6 yX6_fillFrom yX6_fillFrom, Cond.initialized RX6]
def wsX9_peer_r2 : List Cond := [Cond.code yX6_fillFrom cX6_fillFrom 4 none, Cond.fieldLink RX6 21 "PieceSwarm$Whole" "pieces" "I", Cond.fieldLink RX6 27 "PieceSwarm$Whole" "blocks" "I", Cond.fieldLink RX6 15 "PieceSwarm$Store" "values" "[I", Cond.fieldLink RX6 41 "PieceSwarm$Store" "has" "I", Cond.static yX9_place, Cond.code yX9_place cX9_place 2 (some .int), Cond.methodLink RX6 34 yX8_valueOf, Cond.instanceMethod yX8_valueOf, Cond.selects RX8 yX8_valueOf yX8_valueOf, Cond.initialized RX8, Cond.code yX8_valueOf cX8_valueOf 4 (some .int), Cond.fieldLink RX8 16 "PieceSwarm$Whole" "seed" "I", Cond.constant RX8 23 (1103515245), Cond.methodLink RX6 37 yX8_allPieces, Cond.instanceMethod yX8_allPieces, Cond.selects RX8 yX8_allPieces yX8_allPieces, Cond.code yX8_allPieces cX8_allPieces 1 (some .int), Cond.fieldLink RX8 7 "PieceSwarm$Whole" "pieces" "I"]
def wsX9_peer : List Cond := .code yX9_peer cX9_peer 5 (some .int) :: ((wsX9_peer_r1 ++ wsX9_peer_r2) ++ wsX90 ++ wsX20 ++ wsX30 ++ wsX80 ++ wsX60)
def wsX9_often : List Cond := .code yX9_often cX9_often 3 (some .boolean) :: ([.fieldLink RX9 10 "PieceSwarm" "crowd" "LPieceSwarm$Crowd;", .fieldLink RX9 80 "PieceSwarm$Crowd" "members" "[LPieceSwarm$Member;", .fieldLink RX9 84 "PieceSwarm$Member" "kind" "I", .fieldLink RX9 89 "PieceSwarm$Member" "everyNth" "I", .methodLink RX9 77 yX2_isMember, .instanceMethod yX2_isMember, .selects RX2 yX2_isMember yX2_isMember, .initialized RX2, .code yX2_isMember cX2_isMember 2 (some .boolean), .fieldLink RX2 32 "PieceSwarm$Crowd" "size" "I", .methodLink RX9 43 yX9_isWithin, .static yX9_isWithin, .initialized RX9, .code yX9_isWithin cX9_isWithin 3 (some .boolean)] ++ wsX90 ++ wsX20 ++ wsX30)
def wsX9_meet : List Cond := .code yX9_meet cX9_meet 3 (some .boolean) :: ([.fieldLink RX9 10 "PieceSwarm" "crowd" "LPieceSwarm$Crowd;", .fieldLink RX9 80 "PieceSwarm$Crowd" "members" "[LPieceSwarm$Member;", .fieldLink RX9 95 "PieceSwarm$Member" "ties" "LPieceSwarm$Ties;", .fieldLink RX9 99 "PieceSwarm$Ties" "neighbours" "I", .methodLink RX9 92 yX2_areTwo, .instanceMethod yX2_areTwo, .selects RX2 yX2_areTwo yX2_areTwo, .initialized RX2, .code yX2_areTwo cX2_areTwo 3 (some .boolean), .methodLink RX2 36 yX2_isMember, .instanceMethod yX2_isMember, .selects RX2 yX2_isMember yX2_isMember, .code yX2_isMember cX2_isMember 2 (some .boolean), .fieldLink RX2 32 "PieceSwarm$Crowd" "size" "I", .methodLink RX9 104 yX9_isIn, .static yX9_isIn, .initialized RX9, .code yX9_isIn cX9_isIn 2 (some .boolean)] ++ wsX90 ++ wsX20 ++ wsX30 ++ wsX70)
def wsX9_leave_r1 : List Cond := [Cond.fieldLink RX9 10 "PieceSwarm" "crowd" "LPieceSwarm$Crowd;", Cond.fieldLink RX9 107 "PieceSwarm$Crowd" "here" "I", Cond.methodLink RX9 77 yX2_isMember, Cond.instanceMethod yX2_isMember, Cond.selects RX2 yX2_isMember yX2_isMember, Cond.initialized RX2, Cond.code yX2_isMember cX2_isMember 2 (some .boolean), Cond.fieldLink RX2 32 "PieceSwarm$Crowd" "size" "I", Cond.methodLink RX9 104 yX9_isIn, Cond.static yX9_isIn, Cond.initialized RX9, Cond.code yX9_isIn cX9_isIn 2 (some .boolean), Cond.methodLink RX9 110 yX2_letGo, Cond.instanceMethod yX2_letGo, Cond.selects RX2 yX2_letGo yX2_letGo, Cond.code yX2_letGo cX2_letGo 3 none, Cond.fieldLink RX2 62 "PieceSwarm$Crowd" "here" "I", Cond.fieldLink RX2 27 "PieceSwarm$Crowd" "members" "[LPieceSwarm$Member;", Cond.fieldLink RX2 65 "PieceSwarm$Member" "ties" "LPieceSwarm$Ties;", Cond.fieldLink RX2 95 "PieceSwarm$Ties" "open" "I", Cond.methodLink RX2 98 yX2_loseParcelsOf, Cond.instanceMethod yX2_loseParcelsOf, Cond.selects RX2 yX2_loseParcelsOf yX2_loseParcelsOf, Cond.code yX2_loseParcelsOf cX2_loseParcelsOf 4 none]
def wsX9_leave_r2 : List Cond := [Cond.fieldLink RX2 21 "PieceSwarm$Crowd" "road" "LPieceSwarm$Road;", Cond.fieldLink RX2 102 "PieceSwarm$Road" "length" "I", Cond.fieldLink RX2 105 "PieceSwarm$Road" "takers" "[I", Cond.fieldLink RX2 109 "PieceSwarm$Road" "givers" "[I", Cond.fieldLink RX2 49 "PieceSwarm$Member" "store" "LPieceSwarm$Store;", Cond.fieldLink RX2 112 "PieceSwarm$Road" "pieces" "[I", Cond.fieldLink RX2 115 "PieceSwarm$Road" "blocks" "[I", Cond.fieldLink RX2 122 "PieceSwarm$Crowd" "lostInAll" "I", Cond.methodLink RX2 118 yX6_expectNoMore, Cond.instanceMethod yX6_expectNoMore, Cond.selects RX6 yX6_expectNoMore yX6_expectNoMore, Cond.initialized RX6, Cond.code yX6_expectNoMore cX6_expectNoMore 3 none, Cond.fieldLink RX6 18 "PieceSwarm$Store" "coming" "[I", Cond.fieldLink RX6 59 "PieceSwarm$Store" "comingInAll" "I", Cond.static yX9_place, Cond.code yX9_place cX9_place 2 (some .int), Cond.methodLink RX2 125 yX5_move, Cond.instanceMethod yX5_move, Cond.selects RX5 yX5_move yX5_move, Cond.initialized RX5, Cond.code yX5_move cX5_move 3 none, Cond.fieldLink RX5 11 "PieceSwarm$Road" "givers" "[I", Cond.fieldLink RX5 15 "PieceSwarm$Road" "takers" "[I"]
def wsX9_leave_r3 : List Cond := [Cond.fieldLink RX5 18 "PieceSwarm$Road" "pieces" "[I", Cond.fieldLink RX5 21 "PieceSwarm$Road" "blocks" "[I", Cond.fieldLink RX5 24 "PieceSwarm$Road" "values" "[I", Cond.fieldLink RX5 27 "PieceSwarm$Road" "dueTicks" "[I"]
def wsX9_leave : List Cond := .code yX9_leave cX9_leave 2 (some .boolean) :: ((wsX9_leave_r1 ++ (wsX9_leave_r2 ++ wsX9_leave_r3)) ++ wsX90 ++ wsX20 ++ wsX30 ++ wsX70 ++ wsX50 ++ wsX60)
def wsX9_join : List Cond := .code yX9_join cX9_join 2 (some .boolean) :: ([.fieldLink RX9 10 "PieceSwarm" "crowd" "LPieceSwarm$Crowd;", .fieldLink RX9 107 "PieceSwarm$Crowd" "here" "I", .methodLink RX9 77 yX2_isMember, .instanceMethod yX2_isMember, .selects RX2 yX2_isMember yX2_isMember, .initialized RX2, .code yX2_isMember cX2_isMember 2 (some .boolean), .fieldLink RX2 32 "PieceSwarm$Crowd" "size" "I", .methodLink RX9 104 yX9_isIn, .static yX9_isIn, .initialized RX9, .code yX9_isIn cX9_isIn 2 (some .boolean)] ++ wsX90 ++ wsX20)
def wsX9_tick_r1 : List Cond := [Cond.fieldLink RX9 10 "PieceSwarm" "crowd" "LPieceSwarm$Crowd;", Cond.fieldLink RX9 114 "PieceSwarm$Crowd" "sentInAll" "I", Cond.fieldLink RX9 117 "PieceSwarm$Crowd" "tickNumber" "I", Cond.fieldLink RX9 21 "PieceSwarm" "arrival" "LPieceSwarm$Arrival;", Cond.fieldLink RX9 28 "PieceSwarm" "opening" "LPieceSwarm$Opening;", Cond.fieldLink RX9 35 "PieceSwarm" "asking" "LPieceSwarm$Asking;", Cond.methodLink RX9 43 yX9_isWithin, Cond.static yX9_isWithin, Cond.initialized RX9, Cond.code yX9_isWithin cX9_isWithin 3 (some .boolean), Cond.methodLink RX9 120 yX0_takeDue, Cond.instanceMethod yX0_takeDue, Cond.selects RX0 yX0_takeDue yX0_takeDue, Cond.initialized RX0, Cond.code yX0_takeDue cX0_takeDue 4 none, Cond.fieldLink RX0 7 "PieceSwarm$Arrival" "crowd" "LPieceSwarm$Crowd;", Cond.fieldLink RX0 13 "PieceSwarm$Crowd" "road" "LPieceSwarm$Road;", Cond.fieldLink RX0 19 "PieceSwarm$Road" "length" "I", Cond.fieldLink RX0 25 "PieceSwarm$Road" "dueTicks" "[I", Cond.fieldLink RX0 29 "PieceSwarm$Crowd" "tickNumber" "I", Cond.fieldLink RX0 32 "PieceSwarm$Road" "takers" "[I", Cond.fieldLink RX0 35 "PieceSwarm$Road" "givers" "[I", Cond.fieldLink RX0 38 "PieceSwarm$Road" "pieces" "[I", Cond.fieldLink RX0 41 "PieceSwarm$Road" "blocks" "[I"]
def wsX9_tick_r2 : List Cond := [Cond.fieldLink RX0 44 "PieceSwarm$Road" "values" "[I", Cond.methodLink RX0 47 yX0_take, Cond.instanceMethod yX0_take, Cond.selects RX0 yX0_take yX0_take, Cond.code yX0_take cX0_take 8 none, Cond.fieldLink RX0 55 "PieceSwarm$Crowd" "members" "[LPieceSwarm$Member;", Cond.fieldLink RX0 59 "PieceSwarm$Member" "store" "LPieceSwarm$Store;", Cond.fieldLink RX0 70 "PieceSwarm$Member" "came" "I", Cond.fieldLink RX0 73 "PieceSwarm$Member" "ties" "LPieceSwarm$Ties;", Cond.fieldLink RX0 77 "PieceSwarm$Ties" "cameLate" "[I", Cond.fieldLink RX0 86 "PieceSwarm$Member" "spare" "I", Cond.fieldLink RX0 97 "PieceSwarm$Crowd" "whole" "LPieceSwarm$Whole;", Cond.fieldLink RX0 101 "PieceSwarm$Whole" "blocks" "I", Cond.methodLink RX0 65 yX6_expectNoMore, Cond.instanceMethod yX6_expectNoMore, Cond.selects RX6 yX6_expectNoMore yX6_expectNoMore, Cond.initialized RX6, Cond.code yX6_expectNoMore cX6_expectNoMore 3 none, Cond.fieldLink RX6 18 "PieceSwarm$Store" "coming" "[I", Cond.fieldLink RX6 59 "PieceSwarm$Store" "comingInAll" "I", Cond.static yX9_place, Cond.code yX9_place cX9_place 2 (some .int), Cond.methodLink RX0 82 yX0_isSpare, Cond.instanceMethod yX0_isSpare]
def wsX9_tick_r3 : List Cond := [Cond.selects RX0 yX0_isSpare yX0_isSpare, Cond.code yX0_isSpare cX0_isSpare 5 (some .boolean), Cond.fieldLink RX0 118 "PieceSwarm$Store" "has" "I", Cond.fieldLink RX0 130 "PieceSwarm$Store" "marked" "I", Cond.static yX9_isIn, Cond.code yX9_isIn cX9_isIn 2 (some .boolean), Cond.methodLink RX0 127 yX6_holds, Cond.instanceMethod yX6_holds, Cond.selects RX6 yX6_holds yX6_holds, Cond.code yX6_holds cX6_holds 3 (some .boolean), Cond.fieldLink RX6 41 "PieceSwarm$Store" "has" "I", Cond.fieldLink RX6 9 "PieceSwarm$Store" "givers" "[I", Cond.methodLink RX0 133 yX6_giversOf, Cond.instanceMethod yX6_giversOf, Cond.selects RX6 yX6_giversOf yX6_giversOf, Cond.code yX6_giversOf cX6_giversOf 5 (some .int), Cond.methodLink RX0 89 yX6_put, Cond.instanceMethod yX6_put, Cond.selects RX6 yX6_put yX6_put, Cond.code yX6_put cX6_put 5 none, Cond.fieldLink RX6 15 "PieceSwarm$Store" "values" "[I", Cond.methodLink RX0 93 yX6_heldOf, Cond.instanceMethod yX6_heldOf, Cond.selects RX6 yX6_heldOf yX6_heldOf]
def wsX9_tick_r4 : List Cond := [Cond.code yX6_heldOf cX6_heldOf 4 (some .int), Cond.methodLink RX6 48 yX6_holds, Cond.static yX9_oneIf, Cond.code yX9_oneIf cX9_oneIf 1 (some .int), Cond.methodLink RX0 105 yX6_sumOf, Cond.instanceMethod yX6_sumOf, Cond.selects RX6 yX6_sumOf yX6_sumOf, Cond.code yX6_sumOf cX6_sumOf 5 (some .int), Cond.static yX9_sumWith, Cond.code yX9_sumWith cX9_sumWith 2 (some .int), Cond.constant RX9 271 (69069), Cond.methodLink RX0 109 yX8_sumOf, Cond.instanceMethod yX8_sumOf, Cond.selects RX8 yX8_sumOf yX8_sumOf, Cond.initialized RX8, Cond.code yX8_sumOf cX8_sumOf 4 (some .int), Cond.fieldLink RX8 13 "PieceSwarm$Whole" "blocks" "I", Cond.methodLink RX8 24 yX8_valueOf, Cond.instanceMethod yX8_valueOf, Cond.selects RX8 yX8_valueOf yX8_valueOf, Cond.code yX8_valueOf cX8_valueOf 4 (some .int), Cond.fieldLink RX8 16 "PieceSwarm$Whole" "seed" "I", Cond.constant RX8 23 (1103515245), Cond.methodLink RX0 111 yX0_complete]
def wsX9_tick_r5 : List Cond := [Cond.instanceMethod yX0_complete, Cond.selects RX0 yX0_complete yX0_complete, Cond.code yX0_complete cX0_complete 3 none, Cond.fieldLink RX0 140 "PieceSwarm$Member" "doneTick" "I", Cond.methodLink RX0 136 yX8_allPieces, Cond.instanceMethod yX8_allPieces, Cond.selects RX8 yX8_allPieces yX8_allPieces, Cond.code yX8_allPieces cX8_allPieces 1 (some .int), Cond.fieldLink RX8 7 "PieceSwarm$Whole" "pieces" "I", Cond.methodLink RX0 115 yX0_fail, Cond.instanceMethod yX0_fail, Cond.selects RX0 yX0_fail yX0_fail, Cond.code yX0_fail cX0_fail 6 none, Cond.fieldLink RX0 143 "PieceSwarm$Crowd" "size" "I", Cond.fieldLink RX0 146 "PieceSwarm$Ties" "doubts" "[I", Cond.fieldLink RX0 156 "PieceSwarm$Member" "failed" "I", Cond.methodLink RX0 149 yX0_ban, Cond.instanceMethod yX0_ban, Cond.selects RX0 yX0_ban yX0_ban, Cond.code yX0_ban cX0_ban 5 none, Cond.fieldLink RX0 159 "PieceSwarm$Ties" "banned" "I", Cond.fieldLink RX0 162 "PieceSwarm$Ties" "bannedBy" "I", Cond.fieldLink RX0 165 "PieceSwarm$Ties" "open" "I", Cond.methodLink RX0 152 yX6_drop]
def wsX9_tick_r6 : List Cond := [Cond.instanceMethod yX6_drop, Cond.selects RX6 yX6_drop yX6_drop, Cond.code yX6_drop cX6_drop 3 none, Cond.methodLink RX0 51 yX5_move, Cond.instanceMethod yX5_move, Cond.selects RX5 yX5_move yX5_move, Cond.initialized RX5, Cond.code yX5_move cX5_move 3 none, Cond.fieldLink RX5 11 "PieceSwarm$Road" "givers" "[I", Cond.fieldLink RX5 15 "PieceSwarm$Road" "takers" "[I", Cond.fieldLink RX5 18 "PieceSwarm$Road" "pieces" "[I", Cond.fieldLink RX5 21 "PieceSwarm$Road" "blocks" "[I", Cond.fieldLink RX5 24 "PieceSwarm$Road" "values" "[I", Cond.fieldLink RX5 27 "PieceSwarm$Road" "dueTicks" "[I", Cond.methodLink RX9 123 yX4_openAll, Cond.instanceMethod yX4_openAll, Cond.selects RX4 yX4_openAll yX4_openAll, Cond.initialized RX4, Cond.code yX4_openAll cX4_openAll 2 none, Cond.fieldLink RX4 9 "PieceSwarm$Opening" "crowd" "LPieceSwarm$Crowd;", Cond.fieldLink RX4 15 "PieceSwarm$Crowd" "size" "I", Cond.fieldLink RX4 21 "PieceSwarm$Crowd" "here" "I", Cond.methodLink RX4 28 yX4_openAnew, Cond.instanceMethod yX4_openAnew]
def wsX9_tick_r7 : List Cond := [Cond.selects RX4 yX4_openAnew yX4_openAnew, Cond.code yX4_openAnew cX4_openAnew 7 none, Cond.fieldLink RX4 32 "PieceSwarm$Crowd" "members" "[LPieceSwarm$Member;", Cond.fieldLink RX4 36 "PieceSwarm$Member" "ties" "LPieceSwarm$Ties;", Cond.fieldLink RX4 57 "PieceSwarm$Ties" "latestByTurns" "I", Cond.fieldLink RX4 66 "PieceSwarm$Ties" "openedByTurns" "I", Cond.fieldLink RX4 69 "PieceSwarm$Ties" "open" "I", Cond.methodLink RX4 42 yX3_opensToNobody, Cond.instanceMethod yX3_opensToNobody, Cond.selects RX3 yX3_opensToNobody yX3_opensToNobody, Cond.initialized RX3, Cond.code yX3_opensToNobody cX3_opensToNobody 1 (some .boolean), Cond.fieldLink RX3 32 "PieceSwarm$Member" "kind" "I", Cond.methodLink RX4 46 yX2_wantersOf, Cond.instanceMethod yX2_wantersOf, Cond.selects RX2 yX2_wantersOf yX2_wantersOf, Cond.initialized RX2, Cond.code yX2_wantersOf cX2_wantersOf 6 (some .int), Cond.fieldLink RX2 27 "PieceSwarm$Crowd" "members" "[LPieceSwarm$Member;", Cond.fieldLink RX2 32 "PieceSwarm$Crowd" "size" "I", Cond.fieldLink RX2 49 "PieceSwarm$Member" "store" "LPieceSwarm$Store;", Cond.fieldLink RX2 92 "PieceSwarm$Store" "has" "I", Cond.methodLink RX2 84 yX3_toldPieces, Cond.instanceMethod yX3_toldPieces]
def wsX9_tick_r8 : List Cond := [Cond.selects RX3 yX3_toldPieces yX3_toldPieces, Cond.code yX3_toldPieces cX3_toldPieces 1 (some .int), Cond.fieldLink RX3 12 "PieceSwarm$Member" "store" "LPieceSwarm$Store;", Cond.fieldLink RX3 35 "PieceSwarm$Store" "has" "I", Cond.constant RX3 38 (5592405), Cond.methodLink RX2 88 yX2_nearTo, Cond.instanceMethod yX2_nearTo, Cond.selects RX2 yX2_nearTo yX2_nearTo, Cond.code yX2_nearTo cX2_nearTo 3 (some .int), Cond.fieldLink RX2 65 "PieceSwarm$Member" "ties" "LPieceSwarm$Ties;", Cond.fieldLink RX2 62 "PieceSwarm$Crowd" "here" "I", Cond.fieldLink RX2 73 "PieceSwarm$Ties" "neighbours" "I", Cond.fieldLink RX2 78 "PieceSwarm$Ties" "banned" "I", Cond.fieldLink RX2 81 "PieceSwarm$Ties" "bannedBy" "I", Cond.methodLink RX4 50 yX4_latest, Cond.instanceMethod yX4_latest, Cond.selects RX4 yX4_latest yX4_latest, Cond.code yX4_latest cX4_latest 5 (some .int), Cond.methodLink RX4 75 yX3_lateNumberOf, Cond.instanceMethod yX3_lateNumberOf, Cond.selects RX3 yX3_lateNumberOf yX3_lateNumberOf, Cond.code yX3_lateNumberOf cX3_lateNumberOf 2 (some .int), Cond.fieldLink RX3 21 "PieceSwarm$Member" "ties" "LPieceSwarm$Ties;", Cond.fieldLink RX3 43 "PieceSwarm$Ties" "sentLate" "[I"]
def wsX9_tick_r9 : List Cond := [Cond.fieldLink RX3 47 "PieceSwarm$Ties" "cameLate" "[I", Cond.methodLink RX3 39 yX3_isDone, Cond.instanceMethod yX3_isDone, Cond.selects RX3 yX3_isDone yX3_isDone, Cond.code yX3_isDone cX3_isDone 1 (some .boolean), Cond.fieldLink RX3 29 "PieceSwarm$Member" "doneTick" "I", Cond.methodLink RX4 54 yX4_setOf, Cond.static yX4_setOf, Cond.code yX4_setOf cX4_setOf 1 (some .int), Cond.methodLink RX4 62 yX4_nextByTurns, Cond.instanceMethod yX4_nextByTurns, Cond.selects RX4 yX4_nextByTurns yX4_nextByTurns, Cond.code yX4_nextByTurns cX4_nextByTurns 5 (some .int), Cond.methodLink RX4 72 yX7_forgetLate, Cond.instanceMethod yX7_forgetLate, Cond.selects RX7 yX7_forgetLate yX7_forgetLate, Cond.initialized RX7, Cond.code yX7_forgetLate cX7_forgetLate 2 none, Cond.fieldLink RX7 9 "PieceSwarm$Ties" "cameLate" "[I", Cond.fieldLink RX7 15 "PieceSwarm$Ties" "sentLate" "[I", Cond.methodLink RX9 126 yX1_dropStranded, Cond.instanceMethod yX1_dropStranded, Cond.selects RX1 yX1_dropStranded yX1_dropStranded, Cond.initialized RX1]
def wsX9_tick_r10 : List Cond := [Cond.code yX1_dropStranded cX1_dropStranded 2 none, Cond.fieldLink RX1 9 "PieceSwarm$Asking" "crowd" "LPieceSwarm$Crowd;", Cond.fieldLink RX1 15 "PieceSwarm$Crowd" "size" "I", Cond.fieldLink RX1 21 "PieceSwarm$Crowd" "here" "I", Cond.fieldLink RX1 28 "PieceSwarm$Crowd" "members" "[LPieceSwarm$Member;", Cond.fieldLink RX1 32 "PieceSwarm$Member" "store" "LPieceSwarm$Store;", Cond.methodLink RX1 38 yX2_nearTo, Cond.methodLink RX1 42 yX1_dropStrandedOf, Cond.instanceMethod yX1_dropStrandedOf, Cond.selects RX1 yX1_dropStrandedOf yX1_dropStrandedOf, Cond.code yX1_dropStrandedOf cX1_dropStrandedOf 5 none, Cond.fieldLink RX1 46 "PieceSwarm$Store" "marked" "I", Cond.fieldLink RX1 51 "PieceSwarm$Store" "has" "I", Cond.fieldLink RX1 54 "PieceSwarm$Crowd" "whole" "LPieceSwarm$Whole;", Cond.fieldLink RX1 58 "PieceSwarm$Whole" "pieces" "I", Cond.methodLink RX1 63 yX6_giversOf, Cond.methodLink RX1 66 yX6_drop, Cond.methodLink RX9 129 yX1_runRounds, Cond.instanceMethod yX1_runRounds, Cond.selects RX1 yX1_runRounds yX1_runRounds, Cond.code yX1_runRounds cX1_runRounds 4 none, Cond.fieldLink RX1 70 "PieceSwarm$Member" "up" "I", Cond.fieldLink RX1 73 "PieceSwarm$Member" "maySend" "I", Cond.fieldLink RX1 76 "PieceSwarm$Member" "down" "I"]
def wsX9_tick_r11 : List Cond := [Cond.fieldLink RX1 79 "PieceSwarm$Member" "mayAsk" "I", Cond.methodLink RX1 82 yX1_askOne, Cond.instanceMethod yX1_askOne, Cond.selects RX1 yX1_askOne yX1_askOne, Cond.code yX1_askOne cX1_askOne 6 (some .boolean), Cond.fieldLink RX1 90 "PieceSwarm$Crowd" "road" "LPieceSwarm$Road;", Cond.fieldLink RX1 109 "PieceSwarm$Whole" "blocks" "I", Cond.methodLink RX1 86 yX3_isDone, Cond.methodLink RX1 94 yX5_hasRoom, Cond.instanceMethod yX5_hasRoom, Cond.selects RX5 yX5_hasRoom yX5_hasRoom, Cond.code yX5_hasRoom cX5_hasRoom 1 (some .boolean), Cond.fieldLink RX5 30 "PieceSwarm$Road" "length" "I", Cond.methodLink RX1 99 yX1_giversTo, Cond.instanceMethod yX1_giversTo, Cond.selects RX1 yX1_giversTo yX1_giversTo, Cond.code yX1_giversTo cX1_giversTo 6 (some .int), Cond.fieldLink RX1 126 "PieceSwarm$Member" "ties" "LPieceSwarm$Ties;", Cond.fieldLink RX1 130 "PieceSwarm$Ties" "open" "I", Cond.methodLink RX1 102 yX1_pickPiece, Cond.instanceMethod yX1_pickPiece, Cond.selects RX1 yX1_pickPiece yX1_pickPiece, Cond.code yX1_pickPiece cX1_pickPiece 10 (some .int), Cond.methodLink RX1 112 yX6_firstUnasked]
def wsX9_tick_r12 : List Cond := [Cond.instanceMethod yX6_firstUnasked, Cond.selects RX6 yX6_firstUnasked yX6_firstUnasked, Cond.code yX6_firstUnasked cX6_firstUnasked 4 (some .int), Cond.methodLink RX1 115 yX1_giversThatMayBe, Cond.instanceMethod yX1_giversThatMayBe, Cond.selects RX1 yX1_giversThatMayBe yX1_giversThatMayBe, Cond.code yX1_giversThatMayBe cX1_giversThatMayBe 7 (some .int), Cond.methodLink RX1 135 yX2_tellersAmong, Cond.instanceMethod yX2_tellersAmong, Cond.selects RX2 yX2_tellersAmong yX2_tellersAmong, Cond.code yX2_tellersAmong cX2_tellersAmong 5 (some .int), Cond.methodLink RX1 146 yX6_firstGiver, Cond.instanceMethod yX6_firstGiver, Cond.selects RX6 yX6_firstGiver yX6_firstGiver, Cond.code yX6_firstGiver cX6_firstGiver 4 (some .int), Cond.methodLink RX1 149 yX5_firstGiver, Cond.instanceMethod yX5_firstGiver, Cond.selects RX5 yX5_firstGiver yX5_firstGiver, Cond.code yX5_firstGiver cX5_firstGiver 4 (some .int), Cond.methodLink RX1 138 yJ6_bitCount_0f7a4, Cond.static yJ6_bitCount_0f7a4, Cond.initialized RJ6, Cond.code yJ6_bitCount_0f7a4 cJ6_bitCount_0f7a4 1 (some .int), Cond.constant RJ6 265 (1431655765)]
def wsX9_tick_r13 : List Cond := [Cond.constant RJ6 266 (858993459), Cond.constant RJ6 267 (252645135), Cond.methodLink RX1 143 yX6_isBegun, Cond.instanceMethod yX6_isBegun, Cond.selects RX6 yX6_isBegun yX6_isBegun, Cond.code yX6_isBegun cX6_isBegun 3 (some .boolean), Cond.methodLink RX1 106 yX1_askAtEnd, Cond.instanceMethod yX1_askAtEnd, Cond.selects RX1 yX1_askAtEnd yX1_askAtEnd, Cond.code yX1_askAtEnd cX1_askAtEnd 10 (some .boolean), Cond.fieldLink RX1 154 "PieceSwarm$Store" "coming" "[I", Cond.methodLink RX1 151 yX6_holds, Cond.methodLink RX1 161 yX5_firstGiverOf, Cond.instanceMethod yX5_firstGiverOf, Cond.selects RX5 yX5_firstGiverOf yX5_firstGiverOf, Cond.code yX5_firstGiverOf cX5_firstGiverOf 5 (some .int), Cond.methodLink RX1 119 yX1_readiest, Cond.instanceMethod yX1_readiest, Cond.selects RX1 yX1_readiest yX1_readiest, Cond.code yX1_readiest cX1_readiest 4 (some .int), Cond.methodLink RX1 122 yX1_send, Cond.instanceMethod yX1_send, Cond.selects RX1 yX1_send yX1_send, Cond.code yX1_send cX1_send 9 (some .boolean)]
def wsX9_tick_r14 : List Cond := [Cond.fieldLink RX1 164 "PieceSwarm$Member" "sent" "I", Cond.fieldLink RX1 167 "PieceSwarm$Ties" "sent" "[I", Cond.fieldLink RX1 169 "PieceSwarm$Ties" "sentLate" "[I", Cond.fieldLink RX1 176 "PieceSwarm$Crowd" "sentInAll" "I", Cond.fieldLink RX1 182 "PieceSwarm$Crowd" "tickNumber" "I", Cond.fieldLink RX1 185 "PieceSwarm$Member" "kind" "I", Cond.methodLink RX1 172 yX6_expect, Cond.instanceMethod yX6_expect, Cond.selects RX6 yX6_expect yX6_expect, Cond.code yX6_expect cX6_expect 3 none, Cond.methodLink RX1 179 yX8_valueOf, Cond.methodLink RX1 188 yX3_nowSendsFalse, Cond.instanceMethod yX3_nowSendsFalse, Cond.selects RX3 yX3_nowSendsFalse yX3_nowSendsFalse, Cond.code yX3_nowSendsFalse cX3_nowSendsFalse 1 (some .boolean), Cond.fieldLink RX3 25 "PieceSwarm$Member" "everyNth" "I", Cond.fieldLink RX3 50 "PieceSwarm$Member" "sent" "I", Cond.methodLink RX1 191 yX5_add, Cond.instanceMethod yX5_add, Cond.selects RX5 yX5_add yX5_add, Cond.code yX5_add cX5_add 7 none, Cond.methodLink RX5 34 yX5_hasRoom]
def wsX9_tick : List Cond := .code yX9_tick cX9_tick 4 (some .int) :: ((wsX9_tick_r1 ++ (wsX9_tick_r2 ++ (wsX9_tick_r3 ++ (wsX9_tick_r4 ++ (wsX9_tick_r5 ++ (wsX9_tick_r6 ++ (wsX9_tick_r7 ++ (wsX9_tick_r8 ++ (wsX9_tick_r9 ++ (wsX9_tick_r10 ++ (wsX9_tick_r11 ++ (wsX9_tick_r12 ++ (wsX9_tick_r13 ++ wsX9_tick_r14))))))))))))) ++ wsX90 ++ wsX20 ++ wsX00 ++ wsX50 ++ wsX30 ++ wsX70 ++ wsX80 ++ wsX60 ++ wsX40 ++ wsX10)
def wsX9_about_r1 : List Cond := [Cond.fieldLink RX9 10 "PieceSwarm" "crowd" "LPieceSwarm$Crowd;", Cond.fieldLink RX9 80 "PieceSwarm$Crowd" "members" "[LPieceSwarm$Member;", Cond.fieldLink RX9 84 "PieceSwarm$Member" "kind" "I", Cond.fieldLink RX9 107 "PieceSwarm$Crowd" "here" "I", Cond.fieldLink RX9 136 "PieceSwarm$Member" "store" "LPieceSwarm$Store;", Cond.fieldLink RX9 140 "PieceSwarm$Store" "has" "I", Cond.fieldLink RX9 154 "PieceSwarm$Member" "came" "I", Cond.fieldLink RX9 157 "PieceSwarm$Member" "sent" "I", Cond.fieldLink RX9 160 "PieceSwarm$Member" "spare" "I", Cond.fieldLink RX9 163 "PieceSwarm$Member" "failed" "I", Cond.fieldLink RX9 166 "PieceSwarm$Store" "marked" "I", Cond.fieldLink RX9 169 "PieceSwarm$Member" "doneTick" "I", Cond.fieldLink RX9 172 "PieceSwarm$Store" "comingInAll" "I", Cond.fieldLink RX9 95 "PieceSwarm$Member" "ties" "LPieceSwarm$Ties;", Cond.fieldLink RX9 175 "PieceSwarm$Ties" "banned" "I", Cond.fieldLink RX9 178 "PieceSwarm$Ties" "open" "I", Cond.fieldLink RX9 99 "PieceSwarm$Ties" "neighbours" "I", Cond.methodLink RX9 77 yX2_isMember, Cond.instanceMethod yX2_isMember, Cond.selects RX2 yX2_isMember yX2_isMember, Cond.initialized RX2, Cond.code yX2_isMember cX2_isMember 2 (some .boolean), Cond.fieldLink RX2 32 "PieceSwarm$Crowd" "size" "I", Cond.methodLink RX9 104 yX9_isIn]
def wsX9_about_r2 : List Cond := [Cond.static yX9_isIn, Cond.initialized RX9, Cond.code yX9_isIn cX9_isIn 2 (some .boolean), Cond.methodLink RX9 132 yX9_oneIf, Cond.static yX9_oneIf, Cond.code yX9_oneIf cX9_oneIf 1 (some .int), Cond.methodLink RX9 145 yJ6_bitCount_0f7a4, Cond.static yJ6_bitCount_0f7a4, Cond.initialized RJ6, Cond.code yJ6_bitCount_0f7a4 cJ6_bitCount_0f7a4 1 (some .int), Cond.constant RJ6 265 (1431655765), Cond.constant RJ6 266 (858993459), Cond.constant RJ6 267 (252645135), Cond.methodLink RX9 150 yX6_heldInAll, Cond.instanceMethod yX6_heldInAll, Cond.selects RX6 yX6_heldInAll yX6_heldInAll, Cond.initialized RX6, Cond.code yX6_heldInAll cX6_heldInAll 3 (some .int), Cond.methodLink RX6 55 yX6_heldOf, Cond.instanceMethod yX6_heldOf, Cond.selects RX6 yX6_heldOf yX6_heldOf, Cond.code yX6_heldOf cX6_heldOf 4 (some .int), Cond.methodLink RX6 48 yX6_holds, Cond.instanceMethod yX6_holds]
def wsX9_about_r3 : List Cond := [Cond.selects RX6 yX6_holds yX6_holds, Cond.code yX6_holds cX6_holds 3 (some .boolean), Cond.fieldLink RX6 41 "PieceSwarm$Store" "has" "I", Cond.fieldLink RX6 9 "PieceSwarm$Store" "givers" "[I", Cond.static yX9_place, Cond.code yX9_place cX9_place 2 (some .int)]
def wsX9_about : List Cond := .code yX9_about cX9_about 4 (some .int) :: ((wsX9_about_r1 ++ (wsX9_about_r2 ++ wsX9_about_r3)) ++ wsX90 ++ wsX20 ++ wsX30 ++ wsX60 ++ wsX70)
def wsX9_held_r1 : List Cond := [Cond.fieldLink RX9 10 "PieceSwarm" "crowd" "LPieceSwarm$Crowd;", Cond.fieldLink RX9 47 "PieceSwarm$Crowd" "whole" "LPieceSwarm$Whole;", Cond.fieldLink RX9 80 "PieceSwarm$Crowd" "members" "[LPieceSwarm$Member;", Cond.fieldLink RX9 136 "PieceSwarm$Member" "store" "LPieceSwarm$Store;", Cond.fieldLink RX9 140 "PieceSwarm$Store" "has" "I", Cond.fieldLink RX9 181 "PieceSwarm$Whole" "blocks" "I", Cond.methodLink RX9 77 yX2_isMember, Cond.instanceMethod yX2_isMember, Cond.selects RX2 yX2_isMember yX2_isMember, Cond.initialized RX2, Cond.code yX2_isMember cX2_isMember 2 (some .boolean), Cond.fieldLink RX2 32 "PieceSwarm$Crowd" "size" "I", Cond.methodLink RX9 65 yX8_isPiece, Cond.instanceMethod yX8_isPiece, Cond.selects RX8 yX8_isPiece yX8_isPiece, Cond.initialized RX8, Cond.code yX8_isPiece cX8_isPiece 2 (some .boolean), Cond.fieldLink RX8 7 "PieceSwarm$Whole" "pieces" "I", Cond.methodLink RX9 104 yX9_isIn, Cond.static yX9_isIn, Cond.initialized RX9, Cond.code yX9_isIn cX9_isIn 2 (some .boolean), Cond.methodLink RX9 184 yX6_heldOf, Cond.instanceMethod yX6_heldOf]
def wsX9_held_r2 : List Cond := [Cond.selects RX6 yX6_heldOf yX6_heldOf, Cond.initialized RX6, Cond.code yX6_heldOf cX6_heldOf 4 (some .int), Cond.methodLink RX6 48 yX6_holds, Cond.instanceMethod yX6_holds, Cond.selects RX6 yX6_holds yX6_holds, Cond.code yX6_holds cX6_holds 3 (some .boolean), Cond.fieldLink RX6 41 "PieceSwarm$Store" "has" "I", Cond.fieldLink RX6 9 "PieceSwarm$Store" "givers" "[I", Cond.static yX9_place, Cond.code yX9_place cX9_place 2 (some .int), Cond.static yX9_oneIf, Cond.code yX9_oneIf cX9_oneIf 1 (some .int)]
def wsX9_held : List Cond := .code yX9_held cX9_held 4 (some .int) :: ((wsX9_held_r1 ++ wsX9_held_r2) ++ wsX90 ++ wsX20 ++ wsX30 ++ wsX60 ++ wsX80)
def wsX9_from_r1 : List Cond := [Cond.fieldLink RX9 10 "PieceSwarm" "crowd" "LPieceSwarm$Crowd;", Cond.fieldLink RX9 47 "PieceSwarm$Crowd" "whole" "LPieceSwarm$Whole;", Cond.fieldLink RX9 80 "PieceSwarm$Crowd" "members" "[LPieceSwarm$Member;", Cond.fieldLink RX9 136 "PieceSwarm$Member" "store" "LPieceSwarm$Store;", Cond.fieldLink RX9 187 "PieceSwarm$Store" "givers" "[I", Cond.methodLink RX9 77 yX2_isMember, Cond.instanceMethod yX2_isMember, Cond.selects RX2 yX2_isMember yX2_isMember, Cond.initialized RX2, Cond.code yX2_isMember cX2_isMember 2 (some .boolean), Cond.fieldLink RX2 32 "PieceSwarm$Crowd" "size" "I", Cond.methodLink RX9 57 yX8_isBlock, Cond.instanceMethod yX8_isBlock, Cond.selects RX8 yX8_isBlock yX8_isBlock, Cond.initialized RX8, Cond.code yX8_isBlock cX8_isBlock 3 (some .boolean), Cond.fieldLink RX8 13 "PieceSwarm$Whole" "blocks" "I", Cond.methodLink RX8 19 yX8_isPiece, Cond.instanceMethod yX8_isPiece, Cond.selects RX8 yX8_isPiece yX8_isPiece, Cond.code yX8_isPiece cX8_isPiece 2 (some .boolean), Cond.fieldLink RX8 7 "PieceSwarm$Whole" "pieces" "I", Cond.methodLink RX9 191 yX9_place, Cond.static yX9_place]
def wsX9_from_r2 : List Cond := [Cond.initialized RX9, Cond.code yX9_place cX9_place 2 (some .int)]
def wsX9_from : List Cond := .code yX9_from cX9_from 4 (some .int) :: ((wsX9_from_r1 ++ wsX9_from_r2) ++ wsX90 ++ wsX20 ++ wsX30 ++ wsX60 ++ wsX80)
def wsX9_got_r1 : List Cond := [Cond.fieldLink RX9 10 "PieceSwarm" "crowd" "LPieceSwarm$Crowd;", Cond.fieldLink RX9 47 "PieceSwarm$Crowd" "whole" "LPieceSwarm$Whole;", Cond.fieldLink RX9 80 "PieceSwarm$Crowd" "members" "[LPieceSwarm$Member;", Cond.fieldLink RX9 136 "PieceSwarm$Member" "store" "LPieceSwarm$Store;", Cond.fieldLink RX9 140 "PieceSwarm$Store" "has" "I", Cond.fieldLink RX9 197 "PieceSwarm$Store" "values" "[I", Cond.methodLink RX9 77 yX2_isMember, Cond.instanceMethod yX2_isMember, Cond.selects RX2 yX2_isMember yX2_isMember, Cond.initialized RX2, Cond.code yX2_isMember cX2_isMember 2 (some .boolean), Cond.fieldLink RX2 32 "PieceSwarm$Crowd" "size" "I", Cond.methodLink RX9 57 yX8_isBlock, Cond.instanceMethod yX8_isBlock, Cond.selects RX8 yX8_isBlock yX8_isBlock, Cond.initialized RX8, Cond.code yX8_isBlock cX8_isBlock 3 (some .boolean), Cond.fieldLink RX8 13 "PieceSwarm$Whole" "blocks" "I", Cond.methodLink RX8 19 yX8_isPiece, Cond.instanceMethod yX8_isPiece, Cond.selects RX8 yX8_isPiece yX8_isPiece, Cond.code yX8_isPiece cX8_isPiece 2 (some .boolean), Cond.fieldLink RX8 7 "PieceSwarm$Whole" "pieces" "I", Cond.methodLink RX9 104 yX9_isIn]
def wsX9_got_r2 : List Cond := [Cond.static yX9_isIn, Cond.initialized RX9, Cond.code yX9_isIn cX9_isIn 2 (some .boolean), Cond.methodLink RX9 194 yX6_holds, Cond.instanceMethod yX6_holds, Cond.selects RX6 yX6_holds yX6_holds, Cond.initialized RX6, Cond.code yX6_holds cX6_holds 3 (some .boolean), Cond.fieldLink RX6 41 "PieceSwarm$Store" "has" "I", Cond.fieldLink RX6 9 "PieceSwarm$Store" "givers" "[I", Cond.static yX9_place, Cond.code yX9_place cX9_place 2 (some .int), Cond.methodLink RX9 191 yX9_place]
def wsX9_got : List Cond := .code yX9_got cX9_got 6 (some .int) :: ((wsX9_got_r1 ++ wsX9_got_r2) ++ wsX90 ++ wsX20 ++ wsX30 ++ wsX60 ++ wsX80)
def wsX9_rare_r1 : List Cond := [Cond.fieldLink RX9 10 "PieceSwarm" "crowd" "LPieceSwarm$Crowd;", Cond.fieldLink RX9 47 "PieceSwarm$Crowd" "whole" "LPieceSwarm$Whole;", Cond.methodLink RX9 77 yX2_isMember, Cond.instanceMethod yX2_isMember, Cond.selects RX2 yX2_isMember yX2_isMember, Cond.initialized RX2, Cond.code yX2_isMember cX2_isMember 2 (some .boolean), Cond.fieldLink RX2 32 "PieceSwarm$Crowd" "size" "I", Cond.methodLink RX9 65 yX8_isPiece, Cond.instanceMethod yX8_isPiece, Cond.selects RX8 yX8_isPiece yX8_isPiece, Cond.initialized RX8, Cond.code yX8_isPiece cX8_isPiece 2 (some .boolean), Cond.fieldLink RX8 7 "PieceSwarm$Whole" "pieces" "I", Cond.methodLink RX9 200 yX2_nearTo, Cond.instanceMethod yX2_nearTo, Cond.selects RX2 yX2_nearTo yX2_nearTo, Cond.code yX2_nearTo cX2_nearTo 3 (some .int), Cond.fieldLink RX2 27 "PieceSwarm$Crowd" "members" "[LPieceSwarm$Member;", Cond.fieldLink RX2 65 "PieceSwarm$Member" "ties" "LPieceSwarm$Ties;", Cond.fieldLink RX2 62 "PieceSwarm$Crowd" "here" "I", Cond.fieldLink RX2 73 "PieceSwarm$Ties" "neighbours" "I", Cond.fieldLink RX2 78 "PieceSwarm$Ties" "banned" "I", Cond.fieldLink RX2 81 "PieceSwarm$Ties" "bannedBy" "I"]
def wsX9_rare_r2 : List Cond := [Cond.static yX9_isIn, Cond.initialized RX9, Cond.code yX9_isIn cX9_isIn 2 (some .boolean), Cond.methodLink RX9 203 yX2_tellersAmong, Cond.instanceMethod yX2_tellersAmong, Cond.selects RX2 yX2_tellersAmong yX2_tellersAmong, Cond.code yX2_tellersAmong cX2_tellersAmong 5 (some .int), Cond.methodLink RX2 84 yX3_toldPieces, Cond.instanceMethod yX3_toldPieces, Cond.selects RX3 yX3_toldPieces yX3_toldPieces, Cond.initialized RX3, Cond.code yX3_toldPieces cX3_toldPieces 1 (some .int), Cond.fieldLink RX3 32 "PieceSwarm$Member" "kind" "I", Cond.fieldLink RX3 12 "PieceSwarm$Member" "store" "LPieceSwarm$Store;", Cond.fieldLink RX3 35 "PieceSwarm$Store" "has" "I", Cond.constant RX3 38 (5592405), Cond.methodLink RX9 145 yJ6_bitCount_0f7a4, Cond.static yJ6_bitCount_0f7a4, Cond.initialized RJ6, Cond.code yJ6_bitCount_0f7a4 cJ6_bitCount_0f7a4 1 (some .int), Cond.constant RJ6 265 (1431655765), Cond.constant RJ6 266 (858993459), Cond.constant RJ6 267 (252645135)]
def wsX9_rare : List Cond := .code yX9_rare cX9_rare 3 (some .int) :: ((wsX9_rare_r1 ++ wsX9_rare_r2) ++ wsX90 ++ wsX20 ++ wsX80 ++ wsX30 ++ wsX70 ++ wsX60)
def wsX9_pair_r1 : List Cond := [Cond.fieldLink RX9 10 "PieceSwarm" "crowd" "LPieceSwarm$Crowd;", Cond.fieldLink RX9 80 "PieceSwarm$Crowd" "members" "[LPieceSwarm$Member;", Cond.fieldLink RX9 95 "PieceSwarm$Member" "ties" "LPieceSwarm$Ties;", Cond.fieldLink RX9 99 "PieceSwarm$Ties" "neighbours" "I", Cond.fieldLink RX9 178 "PieceSwarm$Ties" "open" "I", Cond.fieldLink RX9 212 "PieceSwarm$Ties" "sent" "[I", Cond.fieldLink RX9 214 "PieceSwarm$Ties" "doubts" "[I", Cond.fieldLink RX9 175 "PieceSwarm$Ties" "banned" "I", Cond.fieldLink RX9 217 "PieceSwarm$Ties" "openedByTurns" "I", Cond.methodLink RX9 92 yX2_areTwo, Cond.instanceMethod yX2_areTwo, Cond.selects RX2 yX2_areTwo yX2_areTwo, Cond.initialized RX2, Cond.code yX2_areTwo cX2_areTwo 3 (some .boolean), Cond.methodLink RX2 36 yX2_isMember, Cond.instanceMethod yX2_isMember, Cond.selects RX2 yX2_isMember yX2_isMember, Cond.code yX2_isMember cX2_isMember 2 (some .boolean), Cond.fieldLink RX2 32 "PieceSwarm$Crowd" "size" "I", Cond.methodLink RX9 104 yX9_isIn, Cond.static yX9_isIn, Cond.initialized RX9, Cond.code yX9_isIn cX9_isIn 2 (some .boolean), Cond.methodLink RX9 132 yX9_oneIf]
def wsX9_pair_r2 : List Cond := [Cond.static yX9_oneIf, Cond.code yX9_oneIf cX9_oneIf 1 (some .int), Cond.methodLink RX9 200 yX2_nearTo, Cond.instanceMethod yX2_nearTo, Cond.selects RX2 yX2_nearTo yX2_nearTo, Cond.code yX2_nearTo cX2_nearTo 3 (some .int), Cond.fieldLink RX2 27 "PieceSwarm$Crowd" "members" "[LPieceSwarm$Member;", Cond.fieldLink RX2 65 "PieceSwarm$Member" "ties" "LPieceSwarm$Ties;", Cond.fieldLink RX2 62 "PieceSwarm$Crowd" "here" "I", Cond.fieldLink RX2 73 "PieceSwarm$Ties" "neighbours" "I", Cond.fieldLink RX2 78 "PieceSwarm$Ties" "banned" "I", Cond.fieldLink RX2 81 "PieceSwarm$Ties" "bannedBy" "I", Cond.methodLink RX9 206 yX2_wantersOf, Cond.instanceMethod yX2_wantersOf, Cond.selects RX2 yX2_wantersOf yX2_wantersOf, Cond.code yX2_wantersOf cX2_wantersOf 6 (some .int), Cond.fieldLink RX2 49 "PieceSwarm$Member" "store" "LPieceSwarm$Store;", Cond.fieldLink RX2 92 "PieceSwarm$Store" "has" "I", Cond.methodLink RX2 84 yX3_toldPieces, Cond.instanceMethod yX3_toldPieces, Cond.selects RX3 yX3_toldPieces yX3_toldPieces, Cond.initialized RX3, Cond.code yX3_toldPieces cX3_toldPieces 1 (some .int), Cond.fieldLink RX3 32 "PieceSwarm$Member" "kind" "I"]
def wsX9_pair_r3 : List Cond := [Cond.fieldLink RX3 12 "PieceSwarm$Member" "store" "LPieceSwarm$Store;", Cond.fieldLink RX3 35 "PieceSwarm$Store" "has" "I", Cond.constant RX3 38 (5592405), Cond.methodLink RX2 88 yX2_nearTo, Cond.methodLink RX9 209 yX3_lateNumberOf, Cond.instanceMethod yX3_lateNumberOf, Cond.selects RX3 yX3_lateNumberOf yX3_lateNumberOf, Cond.code yX3_lateNumberOf cX3_lateNumberOf 2 (some .int), Cond.fieldLink RX3 21 "PieceSwarm$Member" "ties" "LPieceSwarm$Ties;", Cond.fieldLink RX3 43 "PieceSwarm$Ties" "sentLate" "[I", Cond.fieldLink RX3 47 "PieceSwarm$Ties" "cameLate" "[I", Cond.methodLink RX3 39 yX3_isDone, Cond.instanceMethod yX3_isDone, Cond.selects RX3 yX3_isDone yX3_isDone, Cond.code yX3_isDone cX3_isDone 1 (some .boolean), Cond.fieldLink RX3 29 "PieceSwarm$Member" "doneTick" "I"]
def wsX9_pair : List Cond := .code yX9_pair cX9_pair 5 (some .int) :: ((wsX9_pair_r1 ++ (wsX9_pair_r2 ++ wsX9_pair_r3)) ++ wsX90 ++ wsX20 ++ wsX30 ++ wsX70 ++ wsX60)
def wsX9_alone_r1 : List Cond := [Cond.fieldLink RX9 10 "PieceSwarm" "crowd" "LPieceSwarm$Crowd;", Cond.fieldLink RX9 47 "PieceSwarm$Crowd" "whole" "LPieceSwarm$Whole;", Cond.fieldLink RX9 80 "PieceSwarm$Crowd" "members" "[LPieceSwarm$Member;", Cond.fieldLink RX9 136 "PieceSwarm$Member" "store" "LPieceSwarm$Store;", Cond.fieldLink RX9 140 "PieceSwarm$Store" "has" "I", Cond.methodLink RX9 220 yX8_allPieces, Cond.instanceMethod yX8_allPieces, Cond.selects RX8 yX8_allPieces yX8_allPieces, Cond.initialized RX8, Cond.code yX8_allPieces cX8_allPieces 1 (some .int), Cond.fieldLink RX8 7 "PieceSwarm$Whole" "pieces" "I", Cond.methodLink RX9 223 yX2_hadByOthersThan, Cond.instanceMethod yX2_hadByOthersThan, Cond.selects RX2 yX2_hadByOthersThan yX2_hadByOthersThan, Cond.initialized RX2, Cond.code yX2_hadByOthersThan cX2_hadByOthersThan 4 (some .int), Cond.fieldLink RX2 32 "PieceSwarm$Crowd" "size" "I", Cond.fieldLink RX2 62 "PieceSwarm$Crowd" "here" "I", Cond.fieldLink RX2 27 "PieceSwarm$Crowd" "members" "[LPieceSwarm$Member;", Cond.fieldLink RX2 49 "PieceSwarm$Member" "store" "LPieceSwarm$Store;", Cond.fieldLink RX2 92 "PieceSwarm$Store" "has" "I", Cond.static yX9_isIn, Cond.initialized RX9, Cond.code yX9_isIn cX9_isIn 2 (some .boolean)]
def wsX9_alone_r2 : List Cond := [Cond.methodLink RX9 145 yJ6_bitCount_0f7a4, Cond.static yJ6_bitCount_0f7a4, Cond.initialized RJ6, Cond.code yJ6_bitCount_0f7a4 cJ6_bitCount_0f7a4 1 (some .int), Cond.constant RJ6 265 (1431655765), Cond.constant RJ6 266 (858993459), Cond.constant RJ6 267 (252645135), Cond.methodLink RX9 77 yX2_isMember, Cond.instanceMethod yX2_isMember, Cond.selects RX2 yX2_isMember yX2_isMember, Cond.code yX2_isMember cX2_isMember 2 (some .boolean)]
def wsX9_alone : List Cond := .code yX9_alone cX9_alone 2 (some .int) :: ((wsX9_alone_r1 ++ wsX9_alone_r2) ++ wsX90 ++ wsX20 ++ wsX30 ++ wsX60 ++ wsX80)
def wsX9_cutUp : List Cond := .code yX9_cutUp cX9_cutUp 2 (some .int) :: ([])
def wsX9_bound_r1 : List Cond := [Cond.fieldLink RX9 10 "PieceSwarm" "crowd" "LPieceSwarm$Crowd;", Cond.fieldLink RX9 107 "PieceSwarm$Crowd" "here" "I", Cond.fieldLink RX9 80 "PieceSwarm$Crowd" "members" "[LPieceSwarm$Member;", Cond.fieldLink RX9 47 "PieceSwarm$Crowd" "whole" "LPieceSwarm$Whole;", Cond.fieldLink RX9 230 "PieceSwarm$Whole" "pieces" "I", Cond.fieldLink RX9 181 "PieceSwarm$Whole" "blocks" "I", Cond.fieldLink RX9 233 "PieceSwarm$Member" "up" "I", Cond.fieldLink RX9 39 "PieceSwarm$Crowd" "size" "I", Cond.fieldLink RX9 136 "PieceSwarm$Member" "store" "LPieceSwarm$Store;", Cond.fieldLink RX9 242 "PieceSwarm$Member" "down" "I", Cond.methodLink RX9 245 Lib.Math.max.name, Cond.static Lib.Math.max.name, Cond.initialized "java/lang/Math", Cond.code Lib.Math.max.name Lib.Math.max.code 2 (some .int), Cond.methodLink RX9 77 yX2_isMember, Cond.instanceMethod yX2_isMember, Cond.selects RX2 yX2_isMember yX2_isMember, Cond.initialized RX2, Cond.code yX2_isMember cX2_isMember 2 (some .boolean), Cond.fieldLink RX2 32 "PieceSwarm$Crowd" "size" "I", Cond.methodLink RX9 104 yX9_isIn, Cond.static yX9_isIn, Cond.initialized RX9, Cond.code yX9_isIn cX9_isIn 2 (some .boolean)]
def wsX9_bound_r2 : List Cond := [Cond.methodLink RX9 226 yX3_isDone, Cond.instanceMethod yX3_isDone, Cond.selects RX3 yX3_isDone yX3_isDone, Cond.initialized RX3, Cond.code yX3_isDone cX3_isDone 1 (some .boolean), Cond.fieldLink RX3 29 "PieceSwarm$Member" "doneTick" "I", Cond.methodLink RX9 236 yX9_cutUp, Cond.static yX9_cutUp, Cond.code yX9_cutUp cX9_cutUp 2 (some .int), Cond.methodLink RX9 239 yX6_isBare, Cond.instanceMethod yX6_isBare, Cond.selects RX6 yX6_isBare yX6_isBare, Cond.initialized RX6, Cond.code yX6_isBare cX6_isBare 1 (some .boolean), Cond.fieldLink RX6 41 "PieceSwarm$Store" "has" "I", Cond.fieldLink RX6 59 "PieceSwarm$Store" "comingInAll" "I", Cond.methodLink RX6 62 yX6_heldInAll, Cond.instanceMethod yX6_heldInAll, Cond.selects RX6 yX6_heldInAll yX6_heldInAll, Cond.code yX6_heldInAll cX6_heldInAll 3 (some .int), Cond.methodLink RX6 55 yX6_heldOf, Cond.instanceMethod yX6_heldOf, Cond.selects RX6 yX6_heldOf yX6_heldOf, Cond.code yX6_heldOf cX6_heldOf 4 (some .int)]
def wsX9_bound_r3 : List Cond := [Cond.methodLink RX6 48 yX6_holds, Cond.instanceMethod yX6_holds, Cond.selects RX6 yX6_holds yX6_holds, Cond.code yX6_holds cX6_holds 3 (some .boolean), Cond.fieldLink RX6 9 "PieceSwarm$Store" "givers" "[I", Cond.static yX9_place, Cond.code yX9_place cX9_place 2 (some .int), Cond.static yX9_oneIf, Cond.code yX9_oneIf cX9_oneIf 1 (some .int)]
def wsX9_bound : List Cond := .code yX9_bound cX9_bound 8 (some .int) :: ((wsX9_bound_r1 ++ (wsX9_bound_r2 ++ wsX9_bound_r3)) ++ wsX90 ++ wsX20 ++ wsX80 ++ wsX30 ++ wsX60)
def wsX9_count_r1 : List Cond := [Cond.fieldLink RX9 10 "PieceSwarm" "crowd" "LPieceSwarm$Crowd;", Cond.fieldLink RX9 117 "PieceSwarm$Crowd" "tickNumber" "I", Cond.fieldLink RX9 39 "PieceSwarm$Crowd" "size" "I", Cond.fieldLink RX9 107 "PieceSwarm$Crowd" "here" "I", Cond.fieldLink RX9 47 "PieceSwarm$Crowd" "whole" "LPieceSwarm$Whole;", Cond.fieldLink RX9 230 "PieceSwarm$Whole" "pieces" "I", Cond.fieldLink RX9 181 "PieceSwarm$Whole" "blocks" "I", Cond.fieldLink RX9 114 "PieceSwarm$Crowd" "sentInAll" "I", Cond.fieldLink RX9 253 "PieceSwarm$Crowd" "road" "LPieceSwarm$Road;", Cond.fieldLink RX9 257 "PieceSwarm$Road" "length" "I", Cond.fieldLink RX9 262 "PieceSwarm$Crowd" "lostInAll" "I", Cond.methodLink RX9 145 yJ6_bitCount_0f7a4, Cond.static yJ6_bitCount_0f7a4, Cond.initialized RJ6, Cond.code yJ6_bitCount_0f7a4 cJ6_bitCount_0f7a4 1 (some .int), Cond.constant RJ6 265 (1431655765), Cond.constant RJ6 266 (858993459), Cond.constant RJ6 267 (252645135), Cond.methodLink RX9 250 yX2_doneAndHere, Cond.instanceMethod yX2_doneAndHere, Cond.selects RX2 yX2_doneAndHere yX2_doneAndHere, Cond.initialized RX2, Cond.code yX2_doneAndHere cX2_doneAndHere 3 (some .int), Cond.fieldLink RX2 32 "PieceSwarm$Crowd" "size" "I"]
def wsX9_count_r2 : List Cond := [Cond.fieldLink RX2 62 "PieceSwarm$Crowd" "here" "I", Cond.fieldLink RX2 27 "PieceSwarm$Crowd" "members" "[LPieceSwarm$Member;", Cond.static yX9_isIn, Cond.initialized RX9, Cond.code yX9_isIn cX9_isIn 2 (some .boolean), Cond.methodLink RX2 128 yX3_isDone, Cond.instanceMethod yX3_isDone, Cond.selects RX3 yX3_isDone yX3_isDone, Cond.initialized RX3, Cond.code yX3_isDone cX3_isDone 1 (some .boolean), Cond.fieldLink RX3 29 "PieceSwarm$Member" "doneTick" "I", Cond.static yX9_oneIf, Cond.code yX9_oneIf cX9_oneIf 1 (some .int), Cond.methodLink RX9 265 yX2_failedInAll, Cond.instanceMethod yX2_failedInAll, Cond.selects RX2 yX2_failedInAll yX2_failedInAll, Cond.code yX2_failedInAll cX2_failedInAll 3 (some .int), Cond.fieldLink RX2 136 "PieceSwarm$Member" "failed" "I", Cond.methodLink RX9 268 yX2_spareInAll, Cond.instanceMethod yX2_spareInAll, Cond.selects RX2 yX2_spareInAll yX2_spareInAll, Cond.code yX2_spareInAll cX2_spareInAll 3 (some .int), Cond.fieldLink RX2 139 "PieceSwarm$Member" "spare" "I"]
def wsX9_count : List Cond := .code yX9_count cX9_count 2 (some .int) :: ((wsX9_count_r1 ++ wsX9_count_r2) ++ wsX90 ++ wsX20 ++ wsX80 ++ wsX50 ++ wsX30)
def wsX10_init_r1 : List Cond := [Cond.methodLink RX10 1 objectInit, Cond.instanceMethod objectInit, Cond.code objectInit ⟨#[0xb1]⟩ 1 none, Cond.fieldLink RX10 7 "PieceSwarmModel" "pieces" "I", Cond.fieldLink RX10 13 "PieceSwarmModel" "blocks" "I", Cond.arrayClass .int, Cond.fieldLink RX10 16 "PieceSwarmModel" "kind" "[I", Cond.fieldLink RX10 20 "PieceSwarmModel" "up" "[I", Cond.fieldLink RX10 23 "PieceSwarmModel" "down" "[I", Cond.arrayClass .boolean, Cond.fieldLink RX10 26 "PieceSwarmModel" "isHere" "[Z", Cond.fieldLink RX10 30 "PieceSwarmModel" "often" "[I", Cond.fieldLink RX10 33 "PieceSwarmModel" "came" "[I", Cond.fieldLink RX10 36 "PieceSwarmModel" "sent" "[I", Cond.fieldLink RX10 39 "PieceSwarmModel" "spare" "[I", Cond.fieldLink RX10 42 "PieceSwarmModel" "failed" "[I", Cond.fieldLink RX10 45 "PieceSwarmModel" "doneAt" "[I", Cond.fieldLink RX10 48 "PieceSwarmModel" "has" "[Z", Cond.fieldLink RX10 51 "PieceSwarmModel" "isMarked" "[Z", Cond.fieldLink RX10 54 "PieceSwarmModel" "holds" "[Z", Cond.fieldLink RX10 57 "PieceSwarmModel" "got" "[I", Cond.fieldLink RX10 60 "PieceSwarmModel" "from" "[I", Cond.fieldLink RX10 63 "PieceSwarmModel" "met" "[Z", Cond.fieldLink RX10 66 "PieceSwarmModel" "isOpen" "[Z"]
def wsX10_init_r2 : List Cond := [Cond.fieldLink RX10 69 "PieceSwarmModel" "isBanned" "[Z", Cond.fieldLink RX10 72 "PieceSwarmModel" "doubts" "[I", Cond.fieldLink RX10 75 "PieceSwarmModel" "sentTo" "[I", Cond.fieldLink RX10 78 "PieceSwarmModel" "lateSent" "[I", Cond.fieldLink RX10 81 "PieceSwarmModel" "lateCame" "[I", Cond.fieldLink RX10 84 "PieceSwarmModel" "chosen" "[I", Cond.fieldLink RX10 87 "PieceSwarmModel" "turn" "[I", Cond.fieldLink RX10 90 "PieceSwarmModel" "wTo" "[I", Cond.fieldLink RX10 93 "PieceSwarmModel" "wFrom" "[I", Cond.fieldLink RX10 96 "PieceSwarmModel" "wPiece" "[I", Cond.fieldLink RX10 99 "PieceSwarmModel" "wBlock" "[I", Cond.fieldLink RX10 102 "PieceSwarmModel" "wValue" "[I", Cond.fieldLink RX10 105 "PieceSwarmModel" "wDue" "[I", Cond.fieldLink RX10 108 "PieceSwarmModel" "wAtOnce" "[Z", Cond.fieldLink RX10 111 "PieceSwarmModel" "spareRow" "[Z", Cond.fieldLink RX10 114 "PieceSwarmModel" "upLeft" "[I", Cond.fieldLink RX10 117 "PieceSwarmModel" "downLeft" "[I"]
def wsX10_init : List Cond := .code yX10_init cX10_init 1 none :: ((wsX10_init_r1 ++ wsX10_init_r2) ++ wsX100)
def wsX10_in : List Cond := .code yX10_in cX10_in 3 (some .boolean) :: ([])
def wsX10_valueOf : List Cond := .code yX10_valueOf cX10_valueOf 4 (some .int) :: ([.fieldLink RX10 123 "PieceSwarmModel" "seed" "I", .constant RX10 126 (1103515245)] ++ wsX100)
def wsX10_sumOf : List Cond := .code yX10_sumOf cX10_sumOf 4 (some .int) :: ([.fieldLink RX10 13 "PieceSwarmModel" "blocks" "I", .constant RX10 127 (69069), .methodLink RX10 128 yX10_valueOf, .instanceMethod yX10_valueOf, .selects RX10 yX10_valueOf yX10_valueOf, .initialized RX10, .code yX10_valueOf cX10_valueOf 4 (some .int), .fieldLink RX10 123 "PieceSwarmModel" "seed" "I", .constant RX10 126 (1103515245)] ++ wsX100)
def wsX10_isBlock : List Cond := .code yX10_isBlock cX10_isBlock 3 (some .boolean) :: ([.fieldLink RX10 7 "PieceSwarmModel" "pieces" "I", .fieldLink RX10 13 "PieceSwarmModel" "blocks" "I", .methodLink RX10 132 yX10_in, .static yX10_in, .initialized RX10, .code yX10_in cX10_in 3 (some .boolean)] ++ wsX100)
def wsX10_file : List Cond := .code yX10_file cX10_file 4 (some .boolean) :: ([.fieldLink RX10 120 "PieceSwarmModel" "thrown" "I", .fieldLink RX10 136 "PieceSwarmModel" "peers" "I", .fieldLink RX10 7 "PieceSwarmModel" "pieces" "I", .fieldLink RX10 13 "PieceSwarmModel" "blocks" "I", .fieldLink RX10 123 "PieceSwarmModel" "seed" "I", .methodLink RX10 132 yX10_in, .static yX10_in, .initialized RX10, .code yX10_in cX10_in 3 (some .boolean)] ++ wsX100)
def wsX10_value : List Cond := .code yX10_value cX10_value 3 (some .int) :: ([.fieldLink RX10 120 "PieceSwarmModel" "thrown" "I", .methodLink RX10 139 yX10_isBlock, .instanceMethod yX10_isBlock, .selects RX10 yX10_isBlock yX10_isBlock, .initialized RX10, .code yX10_isBlock cX10_isBlock 3 (some .boolean), .fieldLink RX10 7 "PieceSwarmModel" "pieces" "I", .fieldLink RX10 13 "PieceSwarmModel" "blocks" "I", .methodLink RX10 132 yX10_in, .static yX10_in, .code yX10_in cX10_in 3 (some .boolean), .methodLink RX10 128 yX10_valueOf, .instanceMethod yX10_valueOf, .selects RX10 yX10_valueOf yX10_valueOf, .code yX10_valueOf cX10_valueOf 4 (some .int), .fieldLink RX10 123 "PieceSwarmModel" "seed" "I", .constant RX10 126 (1103515245)] ++ wsX100)
def wsX10_sum : List Cond := .code yX10_sum cX10_sum 2 (some .int) :: ([.fieldLink RX10 120 "PieceSwarmModel" "thrown" "I", .methodLink RX10 139 yX10_isBlock, .instanceMethod yX10_isBlock, .selects RX10 yX10_isBlock yX10_isBlock, .initialized RX10, .code yX10_isBlock cX10_isBlock 3 (some .boolean), .fieldLink RX10 7 "PieceSwarmModel" "pieces" "I", .fieldLink RX10 13 "PieceSwarmModel" "blocks" "I", .methodLink RX10 132 yX10_in, .static yX10_in, .code yX10_in cX10_in 3 (some .boolean), .methodLink RX10 143 yX10_sumOf, .instanceMethod yX10_sumOf, .selects RX10 yX10_sumOf yX10_sumOf, .code yX10_sumOf cX10_sumOf 4 (some .int), .constant RX10 127 (69069), .methodLink RX10 128 yX10_valueOf, .instanceMethod yX10_valueOf, .selects RX10 yX10_valueOf yX10_valueOf, .code yX10_valueOf cX10_valueOf 4 (some .int), .fieldLink RX10 123 "PieceSwarmModel" "seed" "I", .constant RX10 126 (1103515245)] ++ wsX100)
def wsX10_isPeer : List Cond := .code yX10_isPeer cX10_isPeer 2 (some .boolean) :: ([.fieldLink RX10 136 "PieceSwarmModel" "peers" "I", .methodLink RX10 132 yX10_in, .static yX10_in, .initialized RX10, .code yX10_in cX10_in 3 (some .boolean)] ++ wsX100)
def wsX10_isTwo : List Cond := .code yX10_isTwo cX10_isTwo 3 (some .boolean) :: ([.methodLink RX10 147 yX10_isPeer, .instanceMethod yX10_isPeer, .selects RX10 yX10_isPeer yX10_isPeer, .initialized RX10, .code yX10_isPeer cX10_isPeer 2 (some .boolean), .fieldLink RX10 136 "PieceSwarmModel" "peers" "I", .methodLink RX10 132 yX10_in, .static yX10_in, .code yX10_in cX10_in 3 (some .boolean)] ++ wsX100)
def wsX10_two : List Cond := .code yX10_two cX10_two 2 (some .int) :: ([])
def wsX10_cell : List Cond := .code yX10_cell cX10_cell 3 (some .int) :: ([])
def wsX10_isNear : List Cond := .code yX10_isNear cX10_isNear 3 (some .boolean) :: ([.fieldLink RX10 63 "PieceSwarmModel" "met" "[Z", .fieldLink RX10 26 "PieceSwarmModel" "isHere" "[Z", .fieldLink RX10 69 "PieceSwarmModel" "isBanned" "[Z", .methodLink RX10 151 yX10_two, .static yX10_two, .initialized RX10, .code yX10_two cX10_two 2 (some .int)] ++ wsX100)
def wsX10_tells : List Cond := .code yX10_tells cX10_tells 3 (some .boolean) :: ([.fieldLink RX10 48 "PieceSwarmModel" "has" "[Z", .fieldLink RX10 16 "PieceSwarmModel" "kind" "[I"] ++ wsX100)
def wsX10_wants : List Cond := .code yX10_wants cX10_wants 4 (some .boolean) :: ([.fieldLink RX10 7 "PieceSwarmModel" "pieces" "I", .fieldLink RX10 48 "PieceSwarmModel" "has" "[Z", .methodLink RX10 154 yX10_isNear, .instanceMethod yX10_isNear, .selects RX10 yX10_isNear yX10_isNear, .initialized RX10, .code yX10_isNear cX10_isNear 3 (some .boolean), .fieldLink RX10 63 "PieceSwarmModel" "met" "[Z", .fieldLink RX10 26 "PieceSwarmModel" "isHere" "[Z", .fieldLink RX10 69 "PieceSwarmModel" "isBanned" "[Z", .methodLink RX10 151 yX10_two, .static yX10_two, .code yX10_two cX10_two 2 (some .int), .methodLink RX10 157 yX10_tells, .instanceMethod yX10_tells, .selects RX10 yX10_tells yX10_tells, .code yX10_tells cX10_tells 3 (some .boolean), .fieldLink RX10 16 "PieceSwarmModel" "kind" "[I"] ++ wsX100)
def wsX10_hasMany : List Cond := .code yX10_hasMany cX10_hasMany 4 (some .int) :: ([.fieldLink RX10 7 "PieceSwarmModel" "pieces" "I", .fieldLink RX10 48 "PieceSwarmModel" "has" "[Z"] ++ wsX100)
def wsX10_isDone : List Cond := .code yX10_isDone cX10_isDone 2 (some .boolean) :: ([.fieldLink RX10 7 "PieceSwarmModel" "pieces" "I", .methodLink RX10 160 yX10_hasMany, .instanceMethod yX10_hasMany, .selects RX10 yX10_hasMany yX10_hasMany, .initialized RX10, .code yX10_hasMany cX10_hasMany 4 (some .int), .fieldLink RX10 48 "PieceSwarmModel" "has" "[Z"] ++ wsX100)
def wsX10_heldMany : List Cond := .code yX10_heldMany cX10_heldMany 5 (some .int) :: ([.fieldLink RX10 13 "PieceSwarmModel" "blocks" "I", .fieldLink RX10 54 "PieceSwarmModel" "holds" "[Z", .methodLink RX10 163 yX10_cell, .static yX10_cell, .initialized RX10, .code yX10_cell cX10_cell 3 (some .int)] ++ wsX100)
def wsX10_peer_r1 : List Cond := [Cond.fieldLink RX10 120 "PieceSwarmModel" "thrown" "I", Cond.fieldLink RX10 136 "PieceSwarmModel" "peers" "I", Cond.fieldLink RX10 16 "PieceSwarmModel" "kind" "[I", Cond.fieldLink RX10 20 "PieceSwarmModel" "up" "[I", Cond.fieldLink RX10 23 "PieceSwarmModel" "down" "[I", Cond.fieldLink RX10 26 "PieceSwarmModel" "isHere" "[Z", Cond.fieldLink RX10 30 "PieceSwarmModel" "often" "[I", Cond.fieldLink RX10 45 "PieceSwarmModel" "doneAt" "[I", Cond.fieldLink RX10 84 "PieceSwarmModel" "chosen" "[I", Cond.fieldLink RX10 87 "PieceSwarmModel" "turn" "[I", Cond.fieldLink RX10 7 "PieceSwarmModel" "pieces" "I", Cond.fieldLink RX10 48 "PieceSwarmModel" "has" "[Z", Cond.fieldLink RX10 13 "PieceSwarmModel" "blocks" "I", Cond.fieldLink RX10 54 "PieceSwarmModel" "holds" "[Z", Cond.fieldLink RX10 57 "PieceSwarmModel" "got" "[I", Cond.fieldLink RX10 60 "PieceSwarmModel" "from" "[I", Cond.methodLink RX10 132 yX10_in, Cond.static yX10_in, Cond.initialized RX10, Cond.code yX10_in cX10_in 3 (some .boolean), Cond.methodLink RX10 163 yX10_cell, Cond.static yX10_cell, Cond.code yX10_cell cX10_cell 3 (some .int), Cond.methodLink RX10 128 yX10_valueOf]
def wsX10_peer_r2 : List Cond := [Cond.instanceMethod yX10_valueOf, Cond.selects RX10 yX10_valueOf yX10_valueOf, Cond.code yX10_valueOf cX10_valueOf 4 (some .int), Cond.fieldLink RX10 123 "PieceSwarmModel" "seed" "I", Cond.constant RX10 126 (1103515245)]
def wsX10_peer : List Cond := .code yX10_peer cX10_peer 7 (some .int) :: ((wsX10_peer_r1 ++ wsX10_peer_r2) ++ wsX100)
def wsX10_often : List Cond := .code yX10_often cX10_often 3 (some .boolean) :: ([.fieldLink RX10 120 "PieceSwarmModel" "thrown" "I", .fieldLink RX10 16 "PieceSwarmModel" "kind" "[I", .fieldLink RX10 30 "PieceSwarmModel" "often" "[I", .methodLink RX10 147 yX10_isPeer, .instanceMethod yX10_isPeer, .selects RX10 yX10_isPeer yX10_isPeer, .initialized RX10, .code yX10_isPeer cX10_isPeer 2 (some .boolean), .fieldLink RX10 136 "PieceSwarmModel" "peers" "I", .methodLink RX10 132 yX10_in, .static yX10_in, .code yX10_in cX10_in 3 (some .boolean)] ++ wsX100)
def wsX10_meet : List Cond := .code yX10_meet cX10_meet 3 (some .boolean) :: ([.fieldLink RX10 120 "PieceSwarmModel" "thrown" "I", .fieldLink RX10 63 "PieceSwarmModel" "met" "[Z", .methodLink RX10 167 yX10_isTwo, .instanceMethod yX10_isTwo, .selects RX10 yX10_isTwo yX10_isTwo, .initialized RX10, .code yX10_isTwo cX10_isTwo 3 (some .boolean), .methodLink RX10 147 yX10_isPeer, .instanceMethod yX10_isPeer, .selects RX10 yX10_isPeer yX10_isPeer, .code yX10_isPeer cX10_isPeer 2 (some .boolean), .fieldLink RX10 136 "PieceSwarmModel" "peers" "I", .methodLink RX10 132 yX10_in, .static yX10_in, .code yX10_in cX10_in 3 (some .boolean), .methodLink RX10 151 yX10_two, .static yX10_two, .code yX10_two cX10_two 2 (some .int)] ++ wsX100)
def wsX10_keep : List Cond := .code yX10_keep cX10_keep 3 none :: ([.fieldLink RX10 90 "PieceSwarmModel" "wTo" "[I", .fieldLink RX10 93 "PieceSwarmModel" "wFrom" "[I", .fieldLink RX10 96 "PieceSwarmModel" "wPiece" "[I", .fieldLink RX10 99 "PieceSwarmModel" "wBlock" "[I", .fieldLink RX10 102 "PieceSwarmModel" "wValue" "[I", .fieldLink RX10 105 "PieceSwarmModel" "wDue" "[I", .fieldLink RX10 108 "PieceSwarmModel" "wAtOnce" "[Z"] ++ wsX100)
def wsX10_leave_r1 : List Cond := [Cond.fieldLink RX10 120 "PieceSwarmModel" "thrown" "I", Cond.fieldLink RX10 26 "PieceSwarmModel" "isHere" "[Z", Cond.fieldLink RX10 170 "PieceSwarmModel" "many" "I", Cond.fieldLink RX10 90 "PieceSwarmModel" "wTo" "[I", Cond.fieldLink RX10 93 "PieceSwarmModel" "wFrom" "[I", Cond.fieldLink RX10 177 "PieceSwarmModel" "lost" "I", Cond.fieldLink RX10 136 "PieceSwarmModel" "peers" "I", Cond.fieldLink RX10 66 "PieceSwarmModel" "isOpen" "[Z", Cond.methodLink RX10 147 yX10_isPeer, Cond.instanceMethod yX10_isPeer, Cond.selects RX10 yX10_isPeer yX10_isPeer, Cond.initialized RX10, Cond.code yX10_isPeer cX10_isPeer 2 (some .boolean), Cond.methodLink RX10 132 yX10_in, Cond.static yX10_in, Cond.code yX10_in cX10_in 3 (some .boolean), Cond.methodLink RX10 173 yX10_keep, Cond.instanceMethod yX10_keep, Cond.selects RX10 yX10_keep yX10_keep, Cond.code yX10_keep cX10_keep 3 none, Cond.fieldLink RX10 96 "PieceSwarmModel" "wPiece" "[I", Cond.fieldLink RX10 99 "PieceSwarmModel" "wBlock" "[I", Cond.fieldLink RX10 102 "PieceSwarmModel" "wValue" "[I", Cond.fieldLink RX10 105 "PieceSwarmModel" "wDue" "[I"]
def wsX10_leave_r2 : List Cond := [Cond.fieldLink RX10 108 "PieceSwarmModel" "wAtOnce" "[Z", Cond.methodLink RX10 151 yX10_two, Cond.static yX10_two, Cond.code yX10_two cX10_two 2 (some .int)]
def wsX10_leave : List Cond := .code yX10_leave cX10_leave 4 (some .boolean) :: ((wsX10_leave_r1 ++ wsX10_leave_r2) ++ wsX100)
def wsX10_join : List Cond := .code yX10_join cX10_join 2 (some .boolean) :: ([.fieldLink RX10 120 "PieceSwarmModel" "thrown" "I", .fieldLink RX10 26 "PieceSwarmModel" "isHere" "[Z", .methodLink RX10 147 yX10_isPeer, .instanceMethod yX10_isPeer, .selects RX10 yX10_isPeer yX10_isPeer, .initialized RX10, .code yX10_isPeer cX10_isPeer 2 (some .boolean), .fieldLink RX10 136 "PieceSwarmModel" "peers" "I", .methodLink RX10 132 yX10_in, .static yX10_in, .code yX10_in cX10_in 3 (some .boolean)] ++ wsX100)
def wsX10_dropPiece : List Cond := .code yX10_dropPiece cX10_dropPiece 4 none :: ([.fieldLink RX10 13 "PieceSwarmModel" "blocks" "I", .fieldLink RX10 54 "PieceSwarmModel" "holds" "[Z", .methodLink RX10 163 yX10_cell, .static yX10_cell, .initialized RX10, .code yX10_cell cX10_cell 3 (some .int)] ++ wsX100)
def wsX10_fails : List Cond := .code yX10_fails cX10_fails 7 none :: ([.fieldLink RX10 42 "PieceSwarmModel" "failed" "[I", .fieldLink RX10 180 "PieceSwarmModel" "failedAll" "I", .fieldLink RX10 13 "PieceSwarmModel" "blocks" "I", .fieldLink RX10 60 "PieceSwarmModel" "from" "[I", .fieldLink RX10 136 "PieceSwarmModel" "peers" "I", .fieldLink RX10 72 "PieceSwarmModel" "doubts" "[I", .fieldLink RX10 69 "PieceSwarmModel" "isBanned" "[Z", .fieldLink RX10 51 "PieceSwarmModel" "isMarked" "[Z", .methodLink RX10 163 yX10_cell, .static yX10_cell, .initialized RX10, .code yX10_cell cX10_cell 3 (some .int), .methodLink RX10 151 yX10_two, .static yX10_two, .code yX10_two cX10_two 2 (some .int), .methodLink RX10 183 yX10_dropPiece, .instanceMethod yX10_dropPiece, .selects RX10 yX10_dropPiece yX10_dropPiece, .code yX10_dropPiece cX10_dropPiece 4 none, .fieldLink RX10 54 "PieceSwarmModel" "holds" "[Z"] ++ wsX100)
def wsX10_isSpare : List Cond := .code yX10_isSpare cX10_isSpare 6 (some .boolean) :: ([.fieldLink RX10 48 "PieceSwarmModel" "has" "[Z", .fieldLink RX10 54 "PieceSwarmModel" "holds" "[Z", .fieldLink RX10 13 "PieceSwarmModel" "blocks" "I", .fieldLink RX10 51 "PieceSwarmModel" "isMarked" "[Z", .fieldLink RX10 60 "PieceSwarmModel" "from" "[I", .methodLink RX10 163 yX10_cell, .static yX10_cell, .initialized RX10, .code yX10_cell cX10_cell 3 (some .int)] ++ wsX100)
def wsX10_comes_r1 : List Cond := [Cond.fieldLink RX10 90 "PieceSwarmModel" "wTo" "[I", Cond.fieldLink RX10 93 "PieceSwarmModel" "wFrom" "[I", Cond.fieldLink RX10 96 "PieceSwarmModel" "wPiece" "[I", Cond.fieldLink RX10 99 "PieceSwarmModel" "wBlock" "[I", Cond.fieldLink RX10 33 "PieceSwarmModel" "came" "[I", Cond.fieldLink RX10 81 "PieceSwarmModel" "lateCame" "[I", Cond.fieldLink RX10 39 "PieceSwarmModel" "spare" "[I", Cond.fieldLink RX10 190 "PieceSwarmModel" "spareAll" "I", Cond.fieldLink RX10 54 "PieceSwarmModel" "holds" "[Z", Cond.fieldLink RX10 57 "PieceSwarmModel" "got" "[I", Cond.fieldLink RX10 102 "PieceSwarmModel" "wValue" "[I", Cond.fieldLink RX10 60 "PieceSwarmModel" "from" "[I", Cond.fieldLink RX10 13 "PieceSwarmModel" "blocks" "I", Cond.constant RX10 127 (69069), Cond.fieldLink RX10 48 "PieceSwarmModel" "has" "[Z", Cond.fieldLink RX10 45 "PieceSwarmModel" "doneAt" "[I", Cond.fieldLink RX10 202 "PieceSwarmModel" "clock" "I", Cond.methodLink RX10 151 yX10_two, Cond.static yX10_two, Cond.initialized RX10, Cond.code yX10_two cX10_two 2 (some .int), Cond.methodLink RX10 186 yX10_isSpare, Cond.instanceMethod yX10_isSpare, Cond.selects RX10 yX10_isSpare yX10_isSpare]
def wsX10_comes_r2 : List Cond := [Cond.code yX10_isSpare cX10_isSpare 6 (some .boolean), Cond.fieldLink RX10 51 "PieceSwarmModel" "isMarked" "[Z", Cond.methodLink RX10 163 yX10_cell, Cond.static yX10_cell, Cond.code yX10_cell cX10_cell 3 (some .int), Cond.methodLink RX10 193 yX10_heldMany, Cond.instanceMethod yX10_heldMany, Cond.selects RX10 yX10_heldMany yX10_heldMany, Cond.code yX10_heldMany cX10_heldMany 5 (some .int), Cond.methodLink RX10 143 yX10_sumOf, Cond.instanceMethod yX10_sumOf, Cond.selects RX10 yX10_sumOf yX10_sumOf, Cond.code yX10_sumOf cX10_sumOf 4 (some .int), Cond.methodLink RX10 128 yX10_valueOf, Cond.instanceMethod yX10_valueOf, Cond.selects RX10 yX10_valueOf yX10_valueOf, Cond.code yX10_valueOf cX10_valueOf 4 (some .int), Cond.fieldLink RX10 123 "PieceSwarmModel" "seed" "I", Cond.constant RX10 126 (1103515245), Cond.methodLink RX10 196 yX10_fails, Cond.instanceMethod yX10_fails, Cond.selects RX10 yX10_fails yX10_fails, Cond.code yX10_fails cX10_fails 7 none, Cond.fieldLink RX10 42 "PieceSwarmModel" "failed" "[I"]
def wsX10_comes_r3 : List Cond := [Cond.fieldLink RX10 180 "PieceSwarmModel" "failedAll" "I", Cond.fieldLink RX10 136 "PieceSwarmModel" "peers" "I", Cond.fieldLink RX10 72 "PieceSwarmModel" "doubts" "[I", Cond.fieldLink RX10 69 "PieceSwarmModel" "isBanned" "[Z", Cond.methodLink RX10 183 yX10_dropPiece, Cond.instanceMethod yX10_dropPiece, Cond.selects RX10 yX10_dropPiece yX10_dropPiece, Cond.code yX10_dropPiece cX10_dropPiece 4 none, Cond.methodLink RX10 199 yX10_isDone, Cond.instanceMethod yX10_isDone, Cond.selects RX10 yX10_isDone yX10_isDone, Cond.code yX10_isDone cX10_isDone 2 (some .boolean), Cond.fieldLink RX10 7 "PieceSwarmModel" "pieces" "I", Cond.methodLink RX10 160 yX10_hasMany, Cond.instanceMethod yX10_hasMany, Cond.selects RX10 yX10_hasMany yX10_hasMany, Cond.code yX10_hasMany cX10_hasMany 4 (some .int)]
def wsX10_comes : List Cond := .code yX10_comes cX10_comes 8 none :: ((wsX10_comes_r1 ++ (wsX10_comes_r2 ++ wsX10_comes_r3)) ++ wsX100)
def wsX10_allCome_r1 : List Cond := [Cond.fieldLink RX10 170 "PieceSwarmModel" "many" "I", Cond.fieldLink RX10 105 "PieceSwarmModel" "wDue" "[I", Cond.fieldLink RX10 202 "PieceSwarmModel" "clock" "I", Cond.fieldLink RX10 108 "PieceSwarmModel" "wAtOnce" "[Z", Cond.methodLink RX10 205 yX10_comes, Cond.instanceMethod yX10_comes, Cond.selects RX10 yX10_comes yX10_comes, Cond.initialized RX10, Cond.code yX10_comes cX10_comes 8 none, Cond.fieldLink RX10 90 "PieceSwarmModel" "wTo" "[I", Cond.fieldLink RX10 93 "PieceSwarmModel" "wFrom" "[I", Cond.fieldLink RX10 96 "PieceSwarmModel" "wPiece" "[I", Cond.fieldLink RX10 99 "PieceSwarmModel" "wBlock" "[I", Cond.fieldLink RX10 33 "PieceSwarmModel" "came" "[I", Cond.fieldLink RX10 81 "PieceSwarmModel" "lateCame" "[I", Cond.fieldLink RX10 39 "PieceSwarmModel" "spare" "[I", Cond.fieldLink RX10 190 "PieceSwarmModel" "spareAll" "I", Cond.fieldLink RX10 54 "PieceSwarmModel" "holds" "[Z", Cond.fieldLink RX10 57 "PieceSwarmModel" "got" "[I", Cond.fieldLink RX10 102 "PieceSwarmModel" "wValue" "[I", Cond.fieldLink RX10 60 "PieceSwarmModel" "from" "[I", Cond.fieldLink RX10 13 "PieceSwarmModel" "blocks" "I", Cond.constant RX10 127 (69069), Cond.fieldLink RX10 48 "PieceSwarmModel" "has" "[Z"]
def wsX10_allCome_r2 : List Cond := [Cond.fieldLink RX10 45 "PieceSwarmModel" "doneAt" "[I", Cond.methodLink RX10 151 yX10_two, Cond.static yX10_two, Cond.code yX10_two cX10_two 2 (some .int), Cond.methodLink RX10 186 yX10_isSpare, Cond.instanceMethod yX10_isSpare, Cond.selects RX10 yX10_isSpare yX10_isSpare, Cond.code yX10_isSpare cX10_isSpare 6 (some .boolean), Cond.fieldLink RX10 51 "PieceSwarmModel" "isMarked" "[Z", Cond.methodLink RX10 163 yX10_cell, Cond.static yX10_cell, Cond.code yX10_cell cX10_cell 3 (some .int), Cond.methodLink RX10 193 yX10_heldMany, Cond.instanceMethod yX10_heldMany, Cond.selects RX10 yX10_heldMany yX10_heldMany, Cond.code yX10_heldMany cX10_heldMany 5 (some .int), Cond.methodLink RX10 143 yX10_sumOf, Cond.instanceMethod yX10_sumOf, Cond.selects RX10 yX10_sumOf yX10_sumOf, Cond.code yX10_sumOf cX10_sumOf 4 (some .int), Cond.methodLink RX10 128 yX10_valueOf, Cond.instanceMethod yX10_valueOf, Cond.selects RX10 yX10_valueOf yX10_valueOf, Cond.code yX10_valueOf cX10_valueOf 4 (some .int)]
def wsX10_allCome_r3 : List Cond := [Cond.fieldLink RX10 123 "PieceSwarmModel" "seed" "I", Cond.constant RX10 126 (1103515245), Cond.methodLink RX10 196 yX10_fails, Cond.instanceMethod yX10_fails, Cond.selects RX10 yX10_fails yX10_fails, Cond.code yX10_fails cX10_fails 7 none, Cond.fieldLink RX10 42 "PieceSwarmModel" "failed" "[I", Cond.fieldLink RX10 180 "PieceSwarmModel" "failedAll" "I", Cond.fieldLink RX10 136 "PieceSwarmModel" "peers" "I", Cond.fieldLink RX10 72 "PieceSwarmModel" "doubts" "[I", Cond.fieldLink RX10 69 "PieceSwarmModel" "isBanned" "[Z", Cond.methodLink RX10 183 yX10_dropPiece, Cond.instanceMethod yX10_dropPiece, Cond.selects RX10 yX10_dropPiece yX10_dropPiece, Cond.code yX10_dropPiece cX10_dropPiece 4 none, Cond.methodLink RX10 199 yX10_isDone, Cond.instanceMethod yX10_isDone, Cond.selects RX10 yX10_isDone yX10_isDone, Cond.code yX10_isDone cX10_isDone 2 (some .boolean), Cond.fieldLink RX10 7 "PieceSwarmModel" "pieces" "I", Cond.methodLink RX10 160 yX10_hasMany, Cond.instanceMethod yX10_hasMany, Cond.selects RX10 yX10_hasMany yX10_hasMany, Cond.code yX10_hasMany cX10_hasMany 4 (some .int)]
def wsX10_allCome_r4 : List Cond := [Cond.methodLink RX10 173 yX10_keep, Cond.instanceMethod yX10_keep, Cond.selects RX10 yX10_keep yX10_keep, Cond.code yX10_keep cX10_keep 3 none]
def wsX10_allCome : List Cond := .code yX10_allCome cX10_allCome 4 none :: ((wsX10_allCome_r1 ++ (wsX10_allCome_r2 ++ (wsX10_allCome_r3 ++ wsX10_allCome_r4))) ++ wsX100)
def wsX10_coming : List Cond := .code yX10_coming cX10_coming 6 (some .int) :: ([.fieldLink RX10 170 "PieceSwarmModel" "many" "I", .fieldLink RX10 90 "PieceSwarmModel" "wTo" "[I", .fieldLink RX10 96 "PieceSwarmModel" "wPiece" "[I", .fieldLink RX10 99 "PieceSwarmModel" "wBlock" "[I"] ++ wsX100)
def wsX10_late : List Cond := .code yX10_late cX10_late 3 (some .int) :: ([.fieldLink RX10 78 "PieceSwarmModel" "lateSent" "[I", .fieldLink RX10 81 "PieceSwarmModel" "lateCame" "[I", .methodLink RX10 199 yX10_isDone, .instanceMethod yX10_isDone, .selects RX10 yX10_isDone yX10_isDone, .initialized RX10, .code yX10_isDone cX10_isDone 2 (some .boolean), .fieldLink RX10 7 "PieceSwarmModel" "pieces" "I", .methodLink RX10 160 yX10_hasMany, .instanceMethod yX10_hasMany, .selects RX10 yX10_hasMany yX10_hasMany, .code yX10_hasMany cX10_hasMany 4 (some .int), .fieldLink RX10 48 "PieceSwarmModel" "has" "[Z", .methodLink RX10 151 yX10_two, .static yX10_two, .code yX10_two cX10_two 2 (some .int)] ++ wsX100)
def wsX10_opens_r1 : List Cond := [Cond.fieldLink RX10 111 "PieceSwarmModel" "spareRow" "[Z", Cond.fieldLink RX10 136 "PieceSwarmModel" "peers" "I", Cond.fieldLink RX10 66 "PieceSwarmModel" "isOpen" "[Z", Cond.fieldLink RX10 16 "PieceSwarmModel" "kind" "[I", Cond.fieldLink RX10 84 "PieceSwarmModel" "chosen" "[I", Cond.fieldLink RX10 87 "PieceSwarmModel" "turn" "[I", Cond.fieldLink RX10 78 "PieceSwarmModel" "lateSent" "[I", Cond.fieldLink RX10 81 "PieceSwarmModel" "lateCame" "[I", Cond.methodLink RX10 151 yX10_two, Cond.static yX10_two, Cond.initialized RX10, Cond.code yX10_two cX10_two 2 (some .int), Cond.methodLink RX10 209 yX10_wants, Cond.instanceMethod yX10_wants, Cond.selects RX10 yX10_wants yX10_wants, Cond.code yX10_wants cX10_wants 4 (some .boolean), Cond.fieldLink RX10 7 "PieceSwarmModel" "pieces" "I", Cond.fieldLink RX10 48 "PieceSwarmModel" "has" "[Z", Cond.methodLink RX10 154 yX10_isNear, Cond.instanceMethod yX10_isNear, Cond.selects RX10 yX10_isNear yX10_isNear, Cond.code yX10_isNear cX10_isNear 3 (some .boolean), Cond.fieldLink RX10 63 "PieceSwarmModel" "met" "[Z", Cond.fieldLink RX10 26 "PieceSwarmModel" "isHere" "[Z"]
def wsX10_opens_r2 : List Cond := [Cond.fieldLink RX10 69 "PieceSwarmModel" "isBanned" "[Z", Cond.methodLink RX10 157 yX10_tells, Cond.instanceMethod yX10_tells, Cond.selects RX10 yX10_tells yX10_tells, Cond.code yX10_tells cX10_tells 3 (some .boolean), Cond.methodLink RX10 212 yX10_late, Cond.instanceMethod yX10_late, Cond.selects RX10 yX10_late yX10_late, Cond.code yX10_late cX10_late 3 (some .int), Cond.methodLink RX10 199 yX10_isDone, Cond.instanceMethod yX10_isDone, Cond.selects RX10 yX10_isDone yX10_isDone, Cond.code yX10_isDone cX10_isDone 2 (some .boolean), Cond.methodLink RX10 160 yX10_hasMany, Cond.instanceMethod yX10_hasMany, Cond.selects RX10 yX10_hasMany yX10_hasMany, Cond.code yX10_hasMany cX10_hasMany 4 (some .int)]
def wsX10_opens : List Cond := .code yX10_opens cX10_opens 6 none :: ((wsX10_opens_r1 ++ wsX10_opens_r2) ++ wsX100)
def wsX10_isGiver : List Cond := .code yX10_isGiver cX10_isGiver 3 (some .boolean) :: ([.fieldLink RX10 66 "PieceSwarmModel" "isOpen" "[Z", .fieldLink RX10 114 "PieceSwarmModel" "upLeft" "[I", .methodLink RX10 154 yX10_isNear, .instanceMethod yX10_isNear, .selects RX10 yX10_isNear yX10_isNear, .initialized RX10, .code yX10_isNear cX10_isNear 3 (some .boolean), .fieldLink RX10 63 "PieceSwarmModel" "met" "[Z", .fieldLink RX10 26 "PieceSwarmModel" "isHere" "[Z", .fieldLink RX10 69 "PieceSwarmModel" "isBanned" "[Z", .methodLink RX10 151 yX10_two, .static yX10_two, .code yX10_two cX10_two 2 (some .int)] ++ wsX100)
def wsX10_bound : List Cond := .code yX10_bound cX10_bound 5 (some .int) :: ([.fieldLink RX10 51 "PieceSwarmModel" "isMarked" "[Z", .fieldLink RX10 13 "PieceSwarmModel" "blocks" "I", .fieldLink RX10 54 "PieceSwarmModel" "holds" "[Z", .fieldLink RX10 60 "PieceSwarmModel" "from" "[I", .fieldLink RX10 170 "PieceSwarmModel" "many" "I", .fieldLink RX10 90 "PieceSwarmModel" "wTo" "[I", .fieldLink RX10 96 "PieceSwarmModel" "wPiece" "[I", .fieldLink RX10 93 "PieceSwarmModel" "wFrom" "[I", .methodLink RX10 163 yX10_cell, .static yX10_cell, .initialized RX10, .code yX10_cell cX10_cell 3 (some .int)] ++ wsX100)
def wsX10_giver : List Cond := .code yX10_giver cX10_giver 7 (some .int) :: ([.fieldLink RX10 136 "PieceSwarmModel" "peers" "I", .fieldLink RX10 114 "PieceSwarmModel" "upLeft" "[I", .methodLink RX10 215 yX10_isGiver, .instanceMethod yX10_isGiver, .selects RX10 yX10_isGiver yX10_isGiver, .initialized RX10, .code yX10_isGiver cX10_isGiver 3 (some .boolean), .fieldLink RX10 66 "PieceSwarmModel" "isOpen" "[Z", .methodLink RX10 154 yX10_isNear, .instanceMethod yX10_isNear, .selects RX10 yX10_isNear yX10_isNear, .code yX10_isNear cX10_isNear 3 (some .boolean), .fieldLink RX10 63 "PieceSwarmModel" "met" "[Z", .fieldLink RX10 26 "PieceSwarmModel" "isHere" "[Z", .fieldLink RX10 69 "PieceSwarmModel" "isBanned" "[Z", .methodLink RX10 151 yX10_two, .static yX10_two, .code yX10_two cX10_two 2 (some .int), .methodLink RX10 157 yX10_tells, .instanceMethod yX10_tells, .selects RX10 yX10_tells yX10_tells, .code yX10_tells cX10_tells 3 (some .boolean), .fieldLink RX10 48 "PieceSwarmModel" "has" "[Z", .fieldLink RX10 16 "PieceSwarmModel" "kind" "[I"] ++ wsX100)
def wsX10_nextBlock : List Cond := .code yX10_nextBlock cX10_nextBlock 4 (some .int) :: ([.fieldLink RX10 13 "PieceSwarmModel" "blocks" "I", .fieldLink RX10 54 "PieceSwarmModel" "holds" "[Z", .methodLink RX10 163 yX10_cell, .static yX10_cell, .initialized RX10, .code yX10_cell cX10_cell 3 (some .int), .methodLink RX10 218 yX10_coming, .instanceMethod yX10_coming, .selects RX10 yX10_coming yX10_coming, .code yX10_coming cX10_coming 6 (some .int), .fieldLink RX10 170 "PieceSwarmModel" "many" "I", .fieldLink RX10 90 "PieceSwarmModel" "wTo" "[I", .fieldLink RX10 96 "PieceSwarmModel" "wPiece" "[I", .fieldLink RX10 99 "PieceSwarmModel" "wBlock" "[I"] ++ wsX100)
def wsX10_isBegun : List Cond := .code yX10_isBegun cX10_isBegun 5 (some .boolean) :: ([.fieldLink RX10 13 "PieceSwarmModel" "blocks" "I", .methodLink RX10 193 yX10_heldMany, .instanceMethod yX10_heldMany, .selects RX10 yX10_heldMany yX10_heldMany, .initialized RX10, .code yX10_heldMany cX10_heldMany 5 (some .int), .fieldLink RX10 54 "PieceSwarmModel" "holds" "[Z", .methodLink RX10 163 yX10_cell, .static yX10_cell, .code yX10_cell cX10_cell 3 (some .int), .methodLink RX10 218 yX10_coming, .instanceMethod yX10_coming, .selects RX10 yX10_coming yX10_coming, .code yX10_coming cX10_coming 6 (some .int), .fieldLink RX10 170 "PieceSwarmModel" "many" "I", .fieldLink RX10 90 "PieceSwarmModel" "wTo" "[I", .fieldLink RX10 96 "PieceSwarmModel" "wPiece" "[I", .fieldLink RX10 99 "PieceSwarmModel" "wBlock" "[I"] ++ wsX100)
def wsX10_tellers : List Cond := .code yX10_tellers cX10_tellers 5 (some .int) :: ([.fieldLink RX10 136 "PieceSwarmModel" "peers" "I", .methodLink RX10 154 yX10_isNear, .instanceMethod yX10_isNear, .selects RX10 yX10_isNear yX10_isNear, .initialized RX10, .code yX10_isNear cX10_isNear 3 (some .boolean), .fieldLink RX10 63 "PieceSwarmModel" "met" "[Z", .fieldLink RX10 26 "PieceSwarmModel" "isHere" "[Z", .fieldLink RX10 69 "PieceSwarmModel" "isBanned" "[Z", .methodLink RX10 151 yX10_two, .static yX10_two, .code yX10_two cX10_two 2 (some .int), .methodLink RX10 157 yX10_tells, .instanceMethod yX10_tells, .selects RX10 yX10_tells yX10_tells, .code yX10_tells cX10_tells 3 (some .boolean), .fieldLink RX10 48 "PieceSwarmModel" "has" "[Z", .fieldLink RX10 16 "PieceSwarmModel" "kind" "[I"] ++ wsX100)
def wsX10_sends_r1 : List Cond := [Cond.fieldLink RX10 114 "PieceSwarmModel" "upLeft" "[I", Cond.fieldLink RX10 117 "PieceSwarmModel" "downLeft" "[I", Cond.fieldLink RX10 36 "PieceSwarmModel" "sent" "[I", Cond.fieldLink RX10 221 "PieceSwarmModel" "sentAll" "I", Cond.fieldLink RX10 75 "PieceSwarmModel" "sentTo" "[I", Cond.fieldLink RX10 78 "PieceSwarmModel" "lateSent" "[I", Cond.fieldLink RX10 90 "PieceSwarmModel" "wTo" "[I", Cond.fieldLink RX10 170 "PieceSwarmModel" "many" "I", Cond.fieldLink RX10 93 "PieceSwarmModel" "wFrom" "[I", Cond.fieldLink RX10 96 "PieceSwarmModel" "wPiece" "[I", Cond.fieldLink RX10 99 "PieceSwarmModel" "wBlock" "[I", Cond.fieldLink RX10 102 "PieceSwarmModel" "wValue" "[I", Cond.fieldLink RX10 16 "PieceSwarmModel" "kind" "[I", Cond.fieldLink RX10 30 "PieceSwarmModel" "often" "[I", Cond.fieldLink RX10 105 "PieceSwarmModel" "wDue" "[I", Cond.fieldLink RX10 202 "PieceSwarmModel" "clock" "I", Cond.fieldLink RX10 108 "PieceSwarmModel" "wAtOnce" "[Z", Cond.methodLink RX10 151 yX10_two, Cond.static yX10_two, Cond.initialized RX10, Cond.code yX10_two cX10_two 2 (some .int), Cond.methodLink RX10 128 yX10_valueOf, Cond.instanceMethod yX10_valueOf, Cond.selects RX10 yX10_valueOf yX10_valueOf]
def wsX10_sends_r2 : List Cond := [Cond.code yX10_valueOf cX10_valueOf 4 (some .int), Cond.fieldLink RX10 123 "PieceSwarmModel" "seed" "I", Cond.constant RX10 126 (1103515245)]
def wsX10_sends : List Cond := .code yX10_sends cX10_sends 5 none :: ((wsX10_sends_r1 ++ wsX10_sends_r2) ++ wsX100)
def wsX10_senderOf : List Cond := .code yX10_senderOf cX10_senderOf 5 (some .int) :: ([.fieldLink RX10 90 "PieceSwarmModel" "wTo" "[I", .fieldLink RX10 96 "PieceSwarmModel" "wPiece" "[I", .fieldLink RX10 99 "PieceSwarmModel" "wBlock" "[I", .fieldLink RX10 93 "PieceSwarmModel" "wFrom" "[I"] ++ wsX100)
def wsX10_asks_r1 : List Cond := [Cond.fieldLink RX10 7 "PieceSwarmModel" "pieces" "I", Cond.fieldLink RX10 48 "PieceSwarmModel" "has" "[Z", Cond.fieldLink RX10 13 "PieceSwarmModel" "blocks" "I", Cond.fieldLink RX10 51 "PieceSwarmModel" "isMarked" "[Z", Cond.fieldLink RX10 54 "PieceSwarmModel" "holds" "[Z", Cond.methodLink RX10 224 yX10_nextBlock, Cond.instanceMethod yX10_nextBlock, Cond.selects RX10 yX10_nextBlock yX10_nextBlock, Cond.initialized RX10, Cond.code yX10_nextBlock cX10_nextBlock 4 (some .int), Cond.methodLink RX10 163 yX10_cell, Cond.static yX10_cell, Cond.code yX10_cell cX10_cell 3 (some .int), Cond.methodLink RX10 218 yX10_coming, Cond.instanceMethod yX10_coming, Cond.selects RX10 yX10_coming yX10_coming, Cond.code yX10_coming cX10_coming 6 (some .int), Cond.fieldLink RX10 170 "PieceSwarmModel" "many" "I", Cond.fieldLink RX10 90 "PieceSwarmModel" "wTo" "[I", Cond.fieldLink RX10 96 "PieceSwarmModel" "wPiece" "[I", Cond.fieldLink RX10 99 "PieceSwarmModel" "wBlock" "[I", Cond.methodLink RX10 227 yX10_bound, Cond.instanceMethod yX10_bound, Cond.selects RX10 yX10_bound yX10_bound]
def wsX10_asks_r2 : List Cond := [Cond.code yX10_bound cX10_bound 5 (some .int), Cond.fieldLink RX10 60 "PieceSwarmModel" "from" "[I", Cond.fieldLink RX10 93 "PieceSwarmModel" "wFrom" "[I", Cond.methodLink RX10 231 yX10_giver, Cond.instanceMethod yX10_giver, Cond.selects RX10 yX10_giver yX10_giver, Cond.code yX10_giver cX10_giver 7 (some .int), Cond.fieldLink RX10 136 "PieceSwarmModel" "peers" "I", Cond.fieldLink RX10 114 "PieceSwarmModel" "upLeft" "[I", Cond.methodLink RX10 215 yX10_isGiver, Cond.instanceMethod yX10_isGiver, Cond.selects RX10 yX10_isGiver yX10_isGiver, Cond.code yX10_isGiver cX10_isGiver 3 (some .boolean), Cond.fieldLink RX10 66 "PieceSwarmModel" "isOpen" "[Z", Cond.methodLink RX10 154 yX10_isNear, Cond.instanceMethod yX10_isNear, Cond.selects RX10 yX10_isNear yX10_isNear, Cond.code yX10_isNear cX10_isNear 3 (some .boolean), Cond.fieldLink RX10 63 "PieceSwarmModel" "met" "[Z", Cond.fieldLink RX10 26 "PieceSwarmModel" "isHere" "[Z", Cond.fieldLink RX10 69 "PieceSwarmModel" "isBanned" "[Z", Cond.methodLink RX10 151 yX10_two, Cond.static yX10_two, Cond.code yX10_two cX10_two 2 (some .int)]
def wsX10_asks_r3 : List Cond := [Cond.methodLink RX10 157 yX10_tells, Cond.instanceMethod yX10_tells, Cond.selects RX10 yX10_tells yX10_tells, Cond.code yX10_tells cX10_tells 3 (some .boolean), Cond.fieldLink RX10 16 "PieceSwarmModel" "kind" "[I", Cond.methodLink RX10 235 yX10_isBegun, Cond.instanceMethod yX10_isBegun, Cond.selects RX10 yX10_isBegun yX10_isBegun, Cond.code yX10_isBegun cX10_isBegun 5 (some .boolean), Cond.methodLink RX10 193 yX10_heldMany, Cond.instanceMethod yX10_heldMany, Cond.selects RX10 yX10_heldMany yX10_heldMany, Cond.code yX10_heldMany cX10_heldMany 5 (some .int), Cond.methodLink RX10 238 yX10_tellers, Cond.instanceMethod yX10_tellers, Cond.selects RX10 yX10_tellers yX10_tellers, Cond.code yX10_tellers cX10_tellers 5 (some .int), Cond.methodLink RX10 241 yX10_sends, Cond.instanceMethod yX10_sends, Cond.selects RX10 yX10_sends yX10_sends, Cond.code yX10_sends cX10_sends 5 none, Cond.fieldLink RX10 117 "PieceSwarmModel" "downLeft" "[I", Cond.fieldLink RX10 36 "PieceSwarmModel" "sent" "[I", Cond.fieldLink RX10 221 "PieceSwarmModel" "sentAll" "I"]
def wsX10_asks_r4 : List Cond := [Cond.fieldLink RX10 75 "PieceSwarmModel" "sentTo" "[I", Cond.fieldLink RX10 78 "PieceSwarmModel" "lateSent" "[I", Cond.fieldLink RX10 102 "PieceSwarmModel" "wValue" "[I", Cond.fieldLink RX10 30 "PieceSwarmModel" "often" "[I", Cond.fieldLink RX10 105 "PieceSwarmModel" "wDue" "[I", Cond.fieldLink RX10 202 "PieceSwarmModel" "clock" "I", Cond.fieldLink RX10 108 "PieceSwarmModel" "wAtOnce" "[Z", Cond.methodLink RX10 128 yX10_valueOf, Cond.instanceMethod yX10_valueOf, Cond.selects RX10 yX10_valueOf yX10_valueOf, Cond.code yX10_valueOf cX10_valueOf 4 (some .int), Cond.fieldLink RX10 123 "PieceSwarmModel" "seed" "I", Cond.constant RX10 126 (1103515245), Cond.methodLink RX10 245 yX10_senderOf, Cond.instanceMethod yX10_senderOf, Cond.selects RX10 yX10_senderOf yX10_senderOf, Cond.code yX10_senderOf cX10_senderOf 5 (some .int)]
def wsX10_asks : List Cond := .code yX10_asks cX10_asks 8 (some .boolean) :: ((wsX10_asks_r1 ++ (wsX10_asks_r2 ++ (wsX10_asks_r3 ++ wsX10_asks_r4))) ++ wsX100)
def wsX10_forgets : List Cond := .code yX10_forgets cX10_forgets 5 none :: ([.fieldLink RX10 7 "PieceSwarmModel" "pieces" "I", .fieldLink RX10 48 "PieceSwarmModel" "has" "[Z", .fieldLink RX10 51 "PieceSwarmModel" "isMarked" "[Z", .fieldLink RX10 13 "PieceSwarmModel" "blocks" "I", .fieldLink RX10 54 "PieceSwarmModel" "holds" "[Z", .fieldLink RX10 60 "PieceSwarmModel" "from" "[I", .methodLink RX10 163 yX10_cell, .static yX10_cell, .initialized RX10, .code yX10_cell cX10_cell 3 (some .int), .methodLink RX10 154 yX10_isNear, .instanceMethod yX10_isNear, .selects RX10 yX10_isNear yX10_isNear, .code yX10_isNear cX10_isNear 3 (some .boolean), .fieldLink RX10 63 "PieceSwarmModel" "met" "[Z", .fieldLink RX10 26 "PieceSwarmModel" "isHere" "[Z", .fieldLink RX10 69 "PieceSwarmModel" "isBanned" "[Z", .methodLink RX10 151 yX10_two, .static yX10_two, .code yX10_two cX10_two 2 (some .int), .methodLink RX10 183 yX10_dropPiece, .instanceMethod yX10_dropPiece, .selects RX10 yX10_dropPiece yX10_dropPiece, .code yX10_dropPiece cX10_dropPiece 4 none] ++ wsX100)
def wsX10_oneTick_r1 : List Cond := [Cond.fieldLink RX10 202 "PieceSwarmModel" "clock" "I", Cond.fieldLink RX10 136 "PieceSwarmModel" "peers" "I", Cond.fieldLink RX10 26 "PieceSwarmModel" "isHere" "[Z", Cond.fieldLink RX10 114 "PieceSwarmModel" "upLeft" "[I", Cond.fieldLink RX10 20 "PieceSwarmModel" "up" "[I", Cond.fieldLink RX10 117 "PieceSwarmModel" "downLeft" "[I", Cond.fieldLink RX10 23 "PieceSwarmModel" "down" "[I", Cond.methodLink RX10 248 yX10_allCome, Cond.instanceMethod yX10_allCome, Cond.selects RX10 yX10_allCome yX10_allCome, Cond.initialized RX10, Cond.code yX10_allCome cX10_allCome 4 none, Cond.fieldLink RX10 170 "PieceSwarmModel" "many" "I", Cond.fieldLink RX10 105 "PieceSwarmModel" "wDue" "[I", Cond.fieldLink RX10 108 "PieceSwarmModel" "wAtOnce" "[Z", Cond.methodLink RX10 205 yX10_comes, Cond.instanceMethod yX10_comes, Cond.selects RX10 yX10_comes yX10_comes, Cond.code yX10_comes cX10_comes 8 none, Cond.fieldLink RX10 90 "PieceSwarmModel" "wTo" "[I", Cond.fieldLink RX10 93 "PieceSwarmModel" "wFrom" "[I", Cond.fieldLink RX10 96 "PieceSwarmModel" "wPiece" "[I", Cond.fieldLink RX10 99 "PieceSwarmModel" "wBlock" "[I", Cond.fieldLink RX10 33 "PieceSwarmModel" "came" "[I"]
def wsX10_oneTick_r2 : List Cond := [Cond.fieldLink RX10 81 "PieceSwarmModel" "lateCame" "[I", Cond.fieldLink RX10 39 "PieceSwarmModel" "spare" "[I", Cond.fieldLink RX10 190 "PieceSwarmModel" "spareAll" "I", Cond.fieldLink RX10 54 "PieceSwarmModel" "holds" "[Z", Cond.fieldLink RX10 57 "PieceSwarmModel" "got" "[I", Cond.fieldLink RX10 102 "PieceSwarmModel" "wValue" "[I", Cond.fieldLink RX10 60 "PieceSwarmModel" "from" "[I", Cond.fieldLink RX10 13 "PieceSwarmModel" "blocks" "I", Cond.constant RX10 127 (69069), Cond.fieldLink RX10 48 "PieceSwarmModel" "has" "[Z", Cond.fieldLink RX10 45 "PieceSwarmModel" "doneAt" "[I", Cond.methodLink RX10 151 yX10_two, Cond.static yX10_two, Cond.code yX10_two cX10_two 2 (some .int), Cond.methodLink RX10 186 yX10_isSpare, Cond.instanceMethod yX10_isSpare, Cond.selects RX10 yX10_isSpare yX10_isSpare, Cond.code yX10_isSpare cX10_isSpare 6 (some .boolean), Cond.fieldLink RX10 51 "PieceSwarmModel" "isMarked" "[Z", Cond.methodLink RX10 163 yX10_cell, Cond.static yX10_cell, Cond.code yX10_cell cX10_cell 3 (some .int), Cond.methodLink RX10 193 yX10_heldMany, Cond.instanceMethod yX10_heldMany]
def wsX10_oneTick_r3 : List Cond := [Cond.selects RX10 yX10_heldMany yX10_heldMany, Cond.code yX10_heldMany cX10_heldMany 5 (some .int), Cond.methodLink RX10 143 yX10_sumOf, Cond.instanceMethod yX10_sumOf, Cond.selects RX10 yX10_sumOf yX10_sumOf, Cond.code yX10_sumOf cX10_sumOf 4 (some .int), Cond.methodLink RX10 128 yX10_valueOf, Cond.instanceMethod yX10_valueOf, Cond.selects RX10 yX10_valueOf yX10_valueOf, Cond.code yX10_valueOf cX10_valueOf 4 (some .int), Cond.fieldLink RX10 123 "PieceSwarmModel" "seed" "I", Cond.constant RX10 126 (1103515245), Cond.methodLink RX10 196 yX10_fails, Cond.instanceMethod yX10_fails, Cond.selects RX10 yX10_fails yX10_fails, Cond.code yX10_fails cX10_fails 7 none, Cond.fieldLink RX10 42 "PieceSwarmModel" "failed" "[I", Cond.fieldLink RX10 180 "PieceSwarmModel" "failedAll" "I", Cond.fieldLink RX10 72 "PieceSwarmModel" "doubts" "[I", Cond.fieldLink RX10 69 "PieceSwarmModel" "isBanned" "[Z", Cond.methodLink RX10 183 yX10_dropPiece, Cond.instanceMethod yX10_dropPiece, Cond.selects RX10 yX10_dropPiece yX10_dropPiece, Cond.code yX10_dropPiece cX10_dropPiece 4 none]
def wsX10_oneTick_r4 : List Cond := [Cond.methodLink RX10 199 yX10_isDone, Cond.instanceMethod yX10_isDone, Cond.selects RX10 yX10_isDone yX10_isDone, Cond.code yX10_isDone cX10_isDone 2 (some .boolean), Cond.fieldLink RX10 7 "PieceSwarmModel" "pieces" "I", Cond.methodLink RX10 160 yX10_hasMany, Cond.instanceMethod yX10_hasMany, Cond.selects RX10 yX10_hasMany yX10_hasMany, Cond.code yX10_hasMany cX10_hasMany 4 (some .int), Cond.methodLink RX10 173 yX10_keep, Cond.instanceMethod yX10_keep, Cond.selects RX10 yX10_keep yX10_keep, Cond.code yX10_keep cX10_keep 3 none, Cond.methodLink RX10 252 yX10_opens, Cond.instanceMethod yX10_opens, Cond.selects RX10 yX10_opens yX10_opens, Cond.code yX10_opens cX10_opens 6 none, Cond.fieldLink RX10 111 "PieceSwarmModel" "spareRow" "[Z", Cond.fieldLink RX10 66 "PieceSwarmModel" "isOpen" "[Z", Cond.fieldLink RX10 16 "PieceSwarmModel" "kind" "[I", Cond.fieldLink RX10 84 "PieceSwarmModel" "chosen" "[I", Cond.fieldLink RX10 87 "PieceSwarmModel" "turn" "[I", Cond.fieldLink RX10 78 "PieceSwarmModel" "lateSent" "[I", Cond.methodLink RX10 209 yX10_wants]
def wsX10_oneTick_r5 : List Cond := [Cond.instanceMethod yX10_wants, Cond.selects RX10 yX10_wants yX10_wants, Cond.code yX10_wants cX10_wants 4 (some .boolean), Cond.methodLink RX10 154 yX10_isNear, Cond.instanceMethod yX10_isNear, Cond.selects RX10 yX10_isNear yX10_isNear, Cond.code yX10_isNear cX10_isNear 3 (some .boolean), Cond.fieldLink RX10 63 "PieceSwarmModel" "met" "[Z", Cond.methodLink RX10 157 yX10_tells, Cond.instanceMethod yX10_tells, Cond.selects RX10 yX10_tells yX10_tells, Cond.code yX10_tells cX10_tells 3 (some .boolean), Cond.methodLink RX10 212 yX10_late, Cond.instanceMethod yX10_late, Cond.selects RX10 yX10_late yX10_late, Cond.code yX10_late cX10_late 3 (some .int), Cond.methodLink RX10 255 yX10_forgets, Cond.instanceMethod yX10_forgets, Cond.selects RX10 yX10_forgets yX10_forgets, Cond.code yX10_forgets cX10_forgets 5 none, Cond.methodLink RX10 258 yX10_asks, Cond.instanceMethod yX10_asks, Cond.selects RX10 yX10_asks yX10_asks, Cond.code yX10_asks cX10_asks 8 (some .boolean)]
def wsX10_oneTick_r6 : List Cond := [Cond.methodLink RX10 224 yX10_nextBlock, Cond.instanceMethod yX10_nextBlock, Cond.selects RX10 yX10_nextBlock yX10_nextBlock, Cond.code yX10_nextBlock cX10_nextBlock 4 (some .int), Cond.methodLink RX10 218 yX10_coming, Cond.instanceMethod yX10_coming, Cond.selects RX10 yX10_coming yX10_coming, Cond.code yX10_coming cX10_coming 6 (some .int), Cond.methodLink RX10 227 yX10_bound, Cond.instanceMethod yX10_bound, Cond.selects RX10 yX10_bound yX10_bound, Cond.code yX10_bound cX10_bound 5 (some .int), Cond.methodLink RX10 231 yX10_giver, Cond.instanceMethod yX10_giver, Cond.selects RX10 yX10_giver yX10_giver, Cond.code yX10_giver cX10_giver 7 (some .int), Cond.methodLink RX10 215 yX10_isGiver, Cond.instanceMethod yX10_isGiver, Cond.selects RX10 yX10_isGiver yX10_isGiver, Cond.code yX10_isGiver cX10_isGiver 3 (some .boolean), Cond.methodLink RX10 235 yX10_isBegun, Cond.instanceMethod yX10_isBegun, Cond.selects RX10 yX10_isBegun yX10_isBegun, Cond.code yX10_isBegun cX10_isBegun 5 (some .boolean)]
def wsX10_oneTick_r7 : List Cond := [Cond.methodLink RX10 238 yX10_tellers, Cond.instanceMethod yX10_tellers, Cond.selects RX10 yX10_tellers yX10_tellers, Cond.code yX10_tellers cX10_tellers 5 (some .int), Cond.methodLink RX10 241 yX10_sends, Cond.instanceMethod yX10_sends, Cond.selects RX10 yX10_sends yX10_sends, Cond.code yX10_sends cX10_sends 5 none, Cond.fieldLink RX10 36 "PieceSwarmModel" "sent" "[I", Cond.fieldLink RX10 221 "PieceSwarmModel" "sentAll" "I", Cond.fieldLink RX10 75 "PieceSwarmModel" "sentTo" "[I", Cond.fieldLink RX10 30 "PieceSwarmModel" "often" "[I", Cond.methodLink RX10 245 yX10_senderOf, Cond.instanceMethod yX10_senderOf, Cond.selects RX10 yX10_senderOf yX10_senderOf, Cond.code yX10_senderOf cX10_senderOf 5 (some .int)]
def wsX10_oneTick : List Cond := .code yX10_oneTick cX10_oneTick 3 none :: ((wsX10_oneTick_r1 ++ (wsX10_oneTick_r2 ++ (wsX10_oneTick_r3 ++ (wsX10_oneTick_r4 ++ (wsX10_oneTick_r5 ++ (wsX10_oneTick_r6 ++ wsX10_oneTick_r7)))))) ++ wsX100)
def wsX10_tick_r1 : List Cond := [Cond.fieldLink RX10 120 "PieceSwarmModel" "thrown" "I", Cond.fieldLink RX10 221 "PieceSwarmModel" "sentAll" "I", Cond.methodLink RX10 132 yX10_in, Cond.static yX10_in, Cond.initialized RX10, Cond.code yX10_in cX10_in 3 (some .boolean), Cond.methodLink RX10 261 yX10_oneTick, Cond.instanceMethod yX10_oneTick, Cond.selects RX10 yX10_oneTick yX10_oneTick, Cond.code yX10_oneTick cX10_oneTick 3 none, Cond.fieldLink RX10 202 "PieceSwarmModel" "clock" "I", Cond.fieldLink RX10 136 "PieceSwarmModel" "peers" "I", Cond.fieldLink RX10 26 "PieceSwarmModel" "isHere" "[Z", Cond.fieldLink RX10 114 "PieceSwarmModel" "upLeft" "[I", Cond.fieldLink RX10 20 "PieceSwarmModel" "up" "[I", Cond.fieldLink RX10 117 "PieceSwarmModel" "downLeft" "[I", Cond.fieldLink RX10 23 "PieceSwarmModel" "down" "[I", Cond.methodLink RX10 248 yX10_allCome, Cond.instanceMethod yX10_allCome, Cond.selects RX10 yX10_allCome yX10_allCome, Cond.code yX10_allCome cX10_allCome 4 none, Cond.fieldLink RX10 170 "PieceSwarmModel" "many" "I", Cond.fieldLink RX10 105 "PieceSwarmModel" "wDue" "[I", Cond.fieldLink RX10 108 "PieceSwarmModel" "wAtOnce" "[Z"]
def wsX10_tick_r2 : List Cond := [Cond.methodLink RX10 205 yX10_comes, Cond.instanceMethod yX10_comes, Cond.selects RX10 yX10_comes yX10_comes, Cond.code yX10_comes cX10_comes 8 none, Cond.fieldLink RX10 90 "PieceSwarmModel" "wTo" "[I", Cond.fieldLink RX10 93 "PieceSwarmModel" "wFrom" "[I", Cond.fieldLink RX10 96 "PieceSwarmModel" "wPiece" "[I", Cond.fieldLink RX10 99 "PieceSwarmModel" "wBlock" "[I", Cond.fieldLink RX10 33 "PieceSwarmModel" "came" "[I", Cond.fieldLink RX10 81 "PieceSwarmModel" "lateCame" "[I", Cond.fieldLink RX10 39 "PieceSwarmModel" "spare" "[I", Cond.fieldLink RX10 190 "PieceSwarmModel" "spareAll" "I", Cond.fieldLink RX10 54 "PieceSwarmModel" "holds" "[Z", Cond.fieldLink RX10 57 "PieceSwarmModel" "got" "[I", Cond.fieldLink RX10 102 "PieceSwarmModel" "wValue" "[I", Cond.fieldLink RX10 60 "PieceSwarmModel" "from" "[I", Cond.fieldLink RX10 13 "PieceSwarmModel" "blocks" "I", Cond.constant RX10 127 (69069), Cond.fieldLink RX10 48 "PieceSwarmModel" "has" "[Z", Cond.fieldLink RX10 45 "PieceSwarmModel" "doneAt" "[I", Cond.methodLink RX10 151 yX10_two, Cond.static yX10_two, Cond.code yX10_two cX10_two 2 (some .int), Cond.methodLink RX10 186 yX10_isSpare]
def wsX10_tick_r3 : List Cond := [Cond.instanceMethod yX10_isSpare, Cond.selects RX10 yX10_isSpare yX10_isSpare, Cond.code yX10_isSpare cX10_isSpare 6 (some .boolean), Cond.fieldLink RX10 51 "PieceSwarmModel" "isMarked" "[Z", Cond.methodLink RX10 163 yX10_cell, Cond.static yX10_cell, Cond.code yX10_cell cX10_cell 3 (some .int), Cond.methodLink RX10 193 yX10_heldMany, Cond.instanceMethod yX10_heldMany, Cond.selects RX10 yX10_heldMany yX10_heldMany, Cond.code yX10_heldMany cX10_heldMany 5 (some .int), Cond.methodLink RX10 143 yX10_sumOf, Cond.instanceMethod yX10_sumOf, Cond.selects RX10 yX10_sumOf yX10_sumOf, Cond.code yX10_sumOf cX10_sumOf 4 (some .int), Cond.methodLink RX10 128 yX10_valueOf, Cond.instanceMethod yX10_valueOf, Cond.selects RX10 yX10_valueOf yX10_valueOf, Cond.code yX10_valueOf cX10_valueOf 4 (some .int), Cond.fieldLink RX10 123 "PieceSwarmModel" "seed" "I", Cond.constant RX10 126 (1103515245), Cond.methodLink RX10 196 yX10_fails, Cond.instanceMethod yX10_fails, Cond.selects RX10 yX10_fails yX10_fails]
def wsX10_tick_r4 : List Cond := [Cond.code yX10_fails cX10_fails 7 none, Cond.fieldLink RX10 42 "PieceSwarmModel" "failed" "[I", Cond.fieldLink RX10 180 "PieceSwarmModel" "failedAll" "I", Cond.fieldLink RX10 72 "PieceSwarmModel" "doubts" "[I", Cond.fieldLink RX10 69 "PieceSwarmModel" "isBanned" "[Z", Cond.methodLink RX10 183 yX10_dropPiece, Cond.instanceMethod yX10_dropPiece, Cond.selects RX10 yX10_dropPiece yX10_dropPiece, Cond.code yX10_dropPiece cX10_dropPiece 4 none, Cond.methodLink RX10 199 yX10_isDone, Cond.instanceMethod yX10_isDone, Cond.selects RX10 yX10_isDone yX10_isDone, Cond.code yX10_isDone cX10_isDone 2 (some .boolean), Cond.fieldLink RX10 7 "PieceSwarmModel" "pieces" "I", Cond.methodLink RX10 160 yX10_hasMany, Cond.instanceMethod yX10_hasMany, Cond.selects RX10 yX10_hasMany yX10_hasMany, Cond.code yX10_hasMany cX10_hasMany 4 (some .int), Cond.methodLink RX10 173 yX10_keep, Cond.instanceMethod yX10_keep, Cond.selects RX10 yX10_keep yX10_keep, Cond.code yX10_keep cX10_keep 3 none, Cond.methodLink RX10 252 yX10_opens, Cond.instanceMethod yX10_opens]
def wsX10_tick_r5 : List Cond := [Cond.selects RX10 yX10_opens yX10_opens, Cond.code yX10_opens cX10_opens 6 none, Cond.fieldLink RX10 111 "PieceSwarmModel" "spareRow" "[Z", Cond.fieldLink RX10 66 "PieceSwarmModel" "isOpen" "[Z", Cond.fieldLink RX10 16 "PieceSwarmModel" "kind" "[I", Cond.fieldLink RX10 84 "PieceSwarmModel" "chosen" "[I", Cond.fieldLink RX10 87 "PieceSwarmModel" "turn" "[I", Cond.fieldLink RX10 78 "PieceSwarmModel" "lateSent" "[I", Cond.methodLink RX10 209 yX10_wants, Cond.instanceMethod yX10_wants, Cond.selects RX10 yX10_wants yX10_wants, Cond.code yX10_wants cX10_wants 4 (some .boolean), Cond.methodLink RX10 154 yX10_isNear, Cond.instanceMethod yX10_isNear, Cond.selects RX10 yX10_isNear yX10_isNear, Cond.code yX10_isNear cX10_isNear 3 (some .boolean), Cond.fieldLink RX10 63 "PieceSwarmModel" "met" "[Z", Cond.methodLink RX10 157 yX10_tells, Cond.instanceMethod yX10_tells, Cond.selects RX10 yX10_tells yX10_tells, Cond.code yX10_tells cX10_tells 3 (some .boolean), Cond.methodLink RX10 212 yX10_late, Cond.instanceMethod yX10_late, Cond.selects RX10 yX10_late yX10_late]
def wsX10_tick_r6 : List Cond := [Cond.code yX10_late cX10_late 3 (some .int), Cond.methodLink RX10 255 yX10_forgets, Cond.instanceMethod yX10_forgets, Cond.selects RX10 yX10_forgets yX10_forgets, Cond.code yX10_forgets cX10_forgets 5 none, Cond.methodLink RX10 258 yX10_asks, Cond.instanceMethod yX10_asks, Cond.selects RX10 yX10_asks yX10_asks, Cond.code yX10_asks cX10_asks 8 (some .boolean), Cond.methodLink RX10 224 yX10_nextBlock, Cond.instanceMethod yX10_nextBlock, Cond.selects RX10 yX10_nextBlock yX10_nextBlock, Cond.code yX10_nextBlock cX10_nextBlock 4 (some .int), Cond.methodLink RX10 218 yX10_coming, Cond.instanceMethod yX10_coming, Cond.selects RX10 yX10_coming yX10_coming, Cond.code yX10_coming cX10_coming 6 (some .int), Cond.methodLink RX10 227 yX10_bound, Cond.instanceMethod yX10_bound, Cond.selects RX10 yX10_bound yX10_bound, Cond.code yX10_bound cX10_bound 5 (some .int), Cond.methodLink RX10 231 yX10_giver, Cond.instanceMethod yX10_giver, Cond.selects RX10 yX10_giver yX10_giver]
def wsX10_tick_r7 : List Cond := [Cond.code yX10_giver cX10_giver 7 (some .int), Cond.methodLink RX10 215 yX10_isGiver, Cond.instanceMethod yX10_isGiver, Cond.selects RX10 yX10_isGiver yX10_isGiver, Cond.code yX10_isGiver cX10_isGiver 3 (some .boolean), Cond.methodLink RX10 235 yX10_isBegun, Cond.instanceMethod yX10_isBegun, Cond.selects RX10 yX10_isBegun yX10_isBegun, Cond.code yX10_isBegun cX10_isBegun 5 (some .boolean), Cond.methodLink RX10 238 yX10_tellers, Cond.instanceMethod yX10_tellers, Cond.selects RX10 yX10_tellers yX10_tellers, Cond.code yX10_tellers cX10_tellers 5 (some .int), Cond.methodLink RX10 241 yX10_sends, Cond.instanceMethod yX10_sends, Cond.selects RX10 yX10_sends yX10_sends, Cond.code yX10_sends cX10_sends 5 none, Cond.fieldLink RX10 36 "PieceSwarmModel" "sent" "[I", Cond.fieldLink RX10 75 "PieceSwarmModel" "sentTo" "[I", Cond.fieldLink RX10 30 "PieceSwarmModel" "often" "[I", Cond.methodLink RX10 245 yX10_senderOf, Cond.instanceMethod yX10_senderOf, Cond.selects RX10 yX10_senderOf yX10_senderOf, Cond.code yX10_senderOf cX10_senderOf 5 (some .int)]
def wsX10_tick : List Cond := .code yX10_tick cX10_tick 4 (some .int) :: ((wsX10_tick_r1 ++ (wsX10_tick_r2 ++ (wsX10_tick_r3 ++ (wsX10_tick_r4 ++ (wsX10_tick_r5 ++ (wsX10_tick_r6 ++ wsX10_tick_r7)))))) ++ wsX100)
def wsX10_holdsMany : List Cond := .code yX10_holdsMany cX10_holdsMany 4 (some .int) :: ([.fieldLink RX10 7 "PieceSwarmModel" "pieces" "I", .fieldLink RX10 48 "PieceSwarmModel" "has" "[Z", .methodLink RX10 193 yX10_heldMany, .instanceMethod yX10_heldMany, .selects RX10 yX10_heldMany yX10_heldMany, .initialized RX10, .code yX10_heldMany cX10_heldMany 5 (some .int), .fieldLink RX10 13 "PieceSwarmModel" "blocks" "I", .fieldLink RX10 54 "PieceSwarmModel" "holds" "[Z", .methodLink RX10 163 yX10_cell, .static yX10_cell, .code yX10_cell cX10_cell 3 (some .int)] ++ wsX100)
def wsX10_count : List Cond := .code yX10_count cX10_count 6 (some .int) :: ([])
def wsX10_comingTo : List Cond := .code yX10_comingTo cX10_comingTo 4 (some .int) :: ([.fieldLink RX10 170 "PieceSwarmModel" "many" "I", .fieldLink RX10 90 "PieceSwarmModel" "wTo" "[I"] ++ wsX100)
def wsX10_isOpenTo : List Cond := .code yX10_isOpenTo cX10_isOpenTo 3 (some .boolean) :: ([.fieldLink RX10 66 "PieceSwarmModel" "isOpen" "[Z", .methodLink RX10 151 yX10_two, .static yX10_two, .initialized RX10, .code yX10_two cX10_two 2 (some .int), .methodLink RX10 154 yX10_isNear, .instanceMethod yX10_isNear, .selects RX10 yX10_isNear yX10_isNear, .code yX10_isNear cX10_isNear 3 (some .boolean), .fieldLink RX10 63 "PieceSwarmModel" "met" "[Z", .fieldLink RX10 26 "PieceSwarmModel" "isHere" "[Z", .fieldLink RX10 69 "PieceSwarmModel" "isBanned" "[Z"] ++ wsX100)
def wsX10_openTo : List Cond := .code yX10_openTo cX10_openTo 4 (some .int) :: ([.fieldLink RX10 136 "PieceSwarmModel" "peers" "I", .methodLink RX10 264 yX10_isOpenTo, .instanceMethod yX10_isOpenTo, .selects RX10 yX10_isOpenTo yX10_isOpenTo, .initialized RX10, .code yX10_isOpenTo cX10_isOpenTo 3 (some .boolean), .fieldLink RX10 66 "PieceSwarmModel" "isOpen" "[Z", .methodLink RX10 151 yX10_two, .static yX10_two, .code yX10_two cX10_two 2 (some .int), .methodLink RX10 154 yX10_isNear, .instanceMethod yX10_isNear, .selects RX10 yX10_isNear yX10_isNear, .code yX10_isNear cX10_isNear 3 (some .boolean), .fieldLink RX10 63 "PieceSwarmModel" "met" "[Z", .fieldLink RX10 26 "PieceSwarmModel" "isHere" "[Z", .fieldLink RX10 69 "PieceSwarmModel" "isBanned" "[Z"] ++ wsX100)
def wsX10_about_r1 : List Cond := [Cond.fieldLink RX10 120 "PieceSwarmModel" "thrown" "I", Cond.fieldLink RX10 16 "PieceSwarmModel" "kind" "[I", Cond.fieldLink RX10 26 "PieceSwarmModel" "isHere" "[Z", Cond.fieldLink RX10 33 "PieceSwarmModel" "came" "[I", Cond.fieldLink RX10 36 "PieceSwarmModel" "sent" "[I", Cond.fieldLink RX10 39 "PieceSwarmModel" "spare" "[I", Cond.fieldLink RX10 42 "PieceSwarmModel" "failed" "[I", Cond.fieldLink RX10 51 "PieceSwarmModel" "isMarked" "[Z", Cond.fieldLink RX10 7 "PieceSwarmModel" "pieces" "I", Cond.fieldLink RX10 45 "PieceSwarmModel" "doneAt" "[I", Cond.fieldLink RX10 69 "PieceSwarmModel" "isBanned" "[Z", Cond.fieldLink RX10 136 "PieceSwarmModel" "peers" "I", Cond.fieldLink RX10 63 "PieceSwarmModel" "met" "[Z", Cond.methodLink RX10 147 yX10_isPeer, Cond.instanceMethod yX10_isPeer, Cond.selects RX10 yX10_isPeer yX10_isPeer, Cond.initialized RX10, Cond.code yX10_isPeer cX10_isPeer 2 (some .boolean), Cond.methodLink RX10 132 yX10_in, Cond.static yX10_in, Cond.code yX10_in cX10_in 3 (some .boolean), Cond.methodLink RX10 160 yX10_hasMany, Cond.instanceMethod yX10_hasMany, Cond.selects RX10 yX10_hasMany yX10_hasMany]
def wsX10_about_r2 : List Cond := [Cond.code yX10_hasMany cX10_hasMany 4 (some .int), Cond.fieldLink RX10 48 "PieceSwarmModel" "has" "[Z", Cond.methodLink RX10 267 yX10_holdsMany, Cond.instanceMethod yX10_holdsMany, Cond.selects RX10 yX10_holdsMany yX10_holdsMany, Cond.code yX10_holdsMany cX10_holdsMany 4 (some .int), Cond.methodLink RX10 193 yX10_heldMany, Cond.instanceMethod yX10_heldMany, Cond.selects RX10 yX10_heldMany yX10_heldMany, Cond.code yX10_heldMany cX10_heldMany 5 (some .int), Cond.fieldLink RX10 13 "PieceSwarmModel" "blocks" "I", Cond.fieldLink RX10 54 "PieceSwarmModel" "holds" "[Z", Cond.methodLink RX10 163 yX10_cell, Cond.static yX10_cell, Cond.code yX10_cell cX10_cell 3 (some .int), Cond.methodLink RX10 270 yX10_count, Cond.instanceMethod yX10_count, Cond.selects RX10 yX10_count yX10_count, Cond.code yX10_count cX10_count 6 (some .int), Cond.methodLink RX10 274 yX10_comingTo, Cond.instanceMethod yX10_comingTo, Cond.selects RX10 yX10_comingTo yX10_comingTo, Cond.code yX10_comingTo cX10_comingTo 4 (some .int), Cond.fieldLink RX10 170 "PieceSwarmModel" "many" "I"]
def wsX10_about_r3 : List Cond := [Cond.fieldLink RX10 90 "PieceSwarmModel" "wTo" "[I", Cond.methodLink RX10 277 yX10_openTo, Cond.instanceMethod yX10_openTo, Cond.selects RX10 yX10_openTo yX10_openTo, Cond.code yX10_openTo cX10_openTo 4 (some .int), Cond.methodLink RX10 264 yX10_isOpenTo, Cond.instanceMethod yX10_isOpenTo, Cond.selects RX10 yX10_isOpenTo yX10_isOpenTo, Cond.code yX10_isOpenTo cX10_isOpenTo 3 (some .boolean), Cond.fieldLink RX10 66 "PieceSwarmModel" "isOpen" "[Z", Cond.methodLink RX10 151 yX10_two, Cond.static yX10_two, Cond.code yX10_two cX10_two 2 (some .int), Cond.methodLink RX10 154 yX10_isNear, Cond.instanceMethod yX10_isNear, Cond.selects RX10 yX10_isNear yX10_isNear, Cond.code yX10_isNear cX10_isNear 3 (some .boolean)]
def wsX10_about : List Cond := .code yX10_about cX10_about 3 (some .int) :: ((wsX10_about_r1 ++ (wsX10_about_r2 ++ wsX10_about_r3)) ++ wsX100)
def wsX10_held : List Cond := .code yX10_held cX10_held 3 (some .int) :: ([.fieldLink RX10 120 "PieceSwarmModel" "thrown" "I", .methodLink RX10 147 yX10_isPeer, .instanceMethod yX10_isPeer, .selects RX10 yX10_isPeer yX10_isPeer, .initialized RX10, .code yX10_isPeer cX10_isPeer 2 (some .boolean), .fieldLink RX10 136 "PieceSwarmModel" "peers" "I", .methodLink RX10 132 yX10_in, .static yX10_in, .code yX10_in cX10_in 3 (some .boolean), .methodLink RX10 139 yX10_isBlock, .instanceMethod yX10_isBlock, .selects RX10 yX10_isBlock yX10_isBlock, .code yX10_isBlock cX10_isBlock 3 (some .boolean), .fieldLink RX10 7 "PieceSwarmModel" "pieces" "I", .fieldLink RX10 13 "PieceSwarmModel" "blocks" "I", .methodLink RX10 193 yX10_heldMany, .instanceMethod yX10_heldMany, .selects RX10 yX10_heldMany yX10_heldMany, .code yX10_heldMany cX10_heldMany 5 (some .int), .fieldLink RX10 54 "PieceSwarmModel" "holds" "[Z", .methodLink RX10 163 yX10_cell, .static yX10_cell, .code yX10_cell cX10_cell 3 (some .int)] ++ wsX100)
def wsX10_from : List Cond := .code yX10_from cX10_from 4 (some .int) :: ([.fieldLink RX10 120 "PieceSwarmModel" "thrown" "I", .fieldLink RX10 54 "PieceSwarmModel" "holds" "[Z", .fieldLink RX10 60 "PieceSwarmModel" "from" "[I", .methodLink RX10 147 yX10_isPeer, .instanceMethod yX10_isPeer, .selects RX10 yX10_isPeer yX10_isPeer, .initialized RX10, .code yX10_isPeer cX10_isPeer 2 (some .boolean), .fieldLink RX10 136 "PieceSwarmModel" "peers" "I", .methodLink RX10 132 yX10_in, .static yX10_in, .code yX10_in cX10_in 3 (some .boolean), .methodLink RX10 139 yX10_isBlock, .instanceMethod yX10_isBlock, .selects RX10 yX10_isBlock yX10_isBlock, .code yX10_isBlock cX10_isBlock 3 (some .boolean), .fieldLink RX10 7 "PieceSwarmModel" "pieces" "I", .fieldLink RX10 13 "PieceSwarmModel" "blocks" "I", .methodLink RX10 163 yX10_cell, .static yX10_cell, .code yX10_cell cX10_cell 3 (some .int)] ++ wsX100)
def wsX10_got : List Cond := .code yX10_got cX10_got 4 (some .int) :: ([.fieldLink RX10 120 "PieceSwarmModel" "thrown" "I", .fieldLink RX10 54 "PieceSwarmModel" "holds" "[Z", .fieldLink RX10 57 "PieceSwarmModel" "got" "[I", .methodLink RX10 147 yX10_isPeer, .instanceMethod yX10_isPeer, .selects RX10 yX10_isPeer yX10_isPeer, .initialized RX10, .code yX10_isPeer cX10_isPeer 2 (some .boolean), .fieldLink RX10 136 "PieceSwarmModel" "peers" "I", .methodLink RX10 132 yX10_in, .static yX10_in, .code yX10_in cX10_in 3 (some .boolean), .methodLink RX10 139 yX10_isBlock, .instanceMethod yX10_isBlock, .selects RX10 yX10_isBlock yX10_isBlock, .code yX10_isBlock cX10_isBlock 3 (some .boolean), .fieldLink RX10 7 "PieceSwarmModel" "pieces" "I", .fieldLink RX10 13 "PieceSwarmModel" "blocks" "I", .methodLink RX10 163 yX10_cell, .static yX10_cell, .code yX10_cell cX10_cell 3 (some .int)] ++ wsX100)
def wsX10_rare_r1 : List Cond := [Cond.fieldLink RX10 120 "PieceSwarmModel" "thrown" "I", Cond.methodLink RX10 147 yX10_isPeer, Cond.instanceMethod yX10_isPeer, Cond.selects RX10 yX10_isPeer yX10_isPeer, Cond.initialized RX10, Cond.code yX10_isPeer cX10_isPeer 2 (some .boolean), Cond.fieldLink RX10 136 "PieceSwarmModel" "peers" "I", Cond.methodLink RX10 132 yX10_in, Cond.static yX10_in, Cond.code yX10_in cX10_in 3 (some .boolean), Cond.methodLink RX10 139 yX10_isBlock, Cond.instanceMethod yX10_isBlock, Cond.selects RX10 yX10_isBlock yX10_isBlock, Cond.code yX10_isBlock cX10_isBlock 3 (some .boolean), Cond.fieldLink RX10 7 "PieceSwarmModel" "pieces" "I", Cond.fieldLink RX10 13 "PieceSwarmModel" "blocks" "I", Cond.methodLink RX10 238 yX10_tellers, Cond.instanceMethod yX10_tellers, Cond.selects RX10 yX10_tellers yX10_tellers, Cond.code yX10_tellers cX10_tellers 5 (some .int), Cond.methodLink RX10 154 yX10_isNear, Cond.instanceMethod yX10_isNear, Cond.selects RX10 yX10_isNear yX10_isNear, Cond.code yX10_isNear cX10_isNear 3 (some .boolean)]
def wsX10_rare_r2 : List Cond := [Cond.fieldLink RX10 63 "PieceSwarmModel" "met" "[Z", Cond.fieldLink RX10 26 "PieceSwarmModel" "isHere" "[Z", Cond.fieldLink RX10 69 "PieceSwarmModel" "isBanned" "[Z", Cond.methodLink RX10 151 yX10_two, Cond.static yX10_two, Cond.code yX10_two cX10_two 2 (some .int), Cond.methodLink RX10 157 yX10_tells, Cond.instanceMethod yX10_tells, Cond.selects RX10 yX10_tells yX10_tells, Cond.code yX10_tells cX10_tells 3 (some .boolean), Cond.fieldLink RX10 48 "PieceSwarmModel" "has" "[Z", Cond.fieldLink RX10 16 "PieceSwarmModel" "kind" "[I"]
def wsX10_rare : List Cond := .code yX10_rare cX10_rare 3 (some .int) :: ((wsX10_rare_r1 ++ wsX10_rare_r2) ++ wsX100)
def wsX10_pair_r1 : List Cond := [Cond.fieldLink RX10 120 "PieceSwarmModel" "thrown" "I", Cond.fieldLink RX10 63 "PieceSwarmModel" "met" "[Z", Cond.fieldLink RX10 75 "PieceSwarmModel" "sentTo" "[I", Cond.fieldLink RX10 72 "PieceSwarmModel" "doubts" "[I", Cond.fieldLink RX10 69 "PieceSwarmModel" "isBanned" "[Z", Cond.fieldLink RX10 84 "PieceSwarmModel" "chosen" "[I", Cond.methodLink RX10 167 yX10_isTwo, Cond.instanceMethod yX10_isTwo, Cond.selects RX10 yX10_isTwo yX10_isTwo, Cond.initialized RX10, Cond.code yX10_isTwo cX10_isTwo 3 (some .boolean), Cond.methodLink RX10 147 yX10_isPeer, Cond.instanceMethod yX10_isPeer, Cond.selects RX10 yX10_isPeer yX10_isPeer, Cond.code yX10_isPeer cX10_isPeer 2 (some .boolean), Cond.fieldLink RX10 136 "PieceSwarmModel" "peers" "I", Cond.methodLink RX10 132 yX10_in, Cond.static yX10_in, Cond.code yX10_in cX10_in 3 (some .boolean), Cond.methodLink RX10 151 yX10_two, Cond.static yX10_two, Cond.code yX10_two cX10_two 2 (some .int), Cond.methodLink RX10 154 yX10_isNear, Cond.instanceMethod yX10_isNear]
def wsX10_pair_r2 : List Cond := [Cond.selects RX10 yX10_isNear yX10_isNear, Cond.code yX10_isNear cX10_isNear 3 (some .boolean), Cond.fieldLink RX10 26 "PieceSwarmModel" "isHere" "[Z", Cond.methodLink RX10 209 yX10_wants, Cond.instanceMethod yX10_wants, Cond.selects RX10 yX10_wants yX10_wants, Cond.code yX10_wants cX10_wants 4 (some .boolean), Cond.fieldLink RX10 7 "PieceSwarmModel" "pieces" "I", Cond.fieldLink RX10 48 "PieceSwarmModel" "has" "[Z", Cond.methodLink RX10 157 yX10_tells, Cond.instanceMethod yX10_tells, Cond.selects RX10 yX10_tells yX10_tells, Cond.code yX10_tells cX10_tells 3 (some .boolean), Cond.fieldLink RX10 16 "PieceSwarmModel" "kind" "[I", Cond.methodLink RX10 264 yX10_isOpenTo, Cond.instanceMethod yX10_isOpenTo, Cond.selects RX10 yX10_isOpenTo yX10_isOpenTo, Cond.code yX10_isOpenTo cX10_isOpenTo 3 (some .boolean), Cond.fieldLink RX10 66 "PieceSwarmModel" "isOpen" "[Z", Cond.methodLink RX10 212 yX10_late, Cond.instanceMethod yX10_late, Cond.selects RX10 yX10_late yX10_late, Cond.code yX10_late cX10_late 3 (some .int), Cond.fieldLink RX10 78 "PieceSwarmModel" "lateSent" "[I"]
def wsX10_pair_r3 : List Cond := [Cond.fieldLink RX10 81 "PieceSwarmModel" "lateCame" "[I", Cond.methodLink RX10 199 yX10_isDone, Cond.instanceMethod yX10_isDone, Cond.selects RX10 yX10_isDone yX10_isDone, Cond.code yX10_isDone cX10_isDone 2 (some .boolean), Cond.methodLink RX10 160 yX10_hasMany, Cond.instanceMethod yX10_hasMany, Cond.selects RX10 yX10_hasMany yX10_hasMany, Cond.code yX10_hasMany cX10_hasMany 4 (some .int)]
def wsX10_pair : List Cond := .code yX10_pair cX10_pair 4 (some .int) :: ((wsX10_pair_r1 ++ (wsX10_pair_r2 ++ wsX10_pair_r3)) ++ wsX100)
def wsX10_owners : List Cond := .code yX10_owners cX10_owners 5 (some .int) :: ([.fieldLink RX10 136 "PieceSwarmModel" "peers" "I", .fieldLink RX10 26 "PieceSwarmModel" "isHere" "[Z", .fieldLink RX10 48 "PieceSwarmModel" "has" "[Z"] ++ wsX100)
def wsX10_alone : List Cond := .code yX10_alone cX10_alone 4 (some .int) :: ([.fieldLink RX10 120 "PieceSwarmModel" "thrown" "I", .fieldLink RX10 7 "PieceSwarmModel" "pieces" "I", .fieldLink RX10 48 "PieceSwarmModel" "has" "[Z", .methodLink RX10 147 yX10_isPeer, .instanceMethod yX10_isPeer, .selects RX10 yX10_isPeer yX10_isPeer, .initialized RX10, .code yX10_isPeer cX10_isPeer 2 (some .boolean), .fieldLink RX10 136 "PieceSwarmModel" "peers" "I", .methodLink RX10 132 yX10_in, .static yX10_in, .code yX10_in cX10_in 3 (some .boolean), .methodLink RX10 280 yX10_owners, .instanceMethod yX10_owners, .selects RX10 yX10_owners yX10_owners, .code yX10_owners cX10_owners 5 (some .int), .fieldLink RX10 26 "PieceSwarmModel" "isHere" "[Z"] ++ wsX100)
def wsX10_share : List Cond := .code yX10_share cX10_share 2 (some .int) :: ([])
def wsX10_bound__r1 : List Cond := [Cond.fieldLink RX10 120 "PieceSwarmModel" "thrown" "I", Cond.fieldLink RX10 26 "PieceSwarmModel" "isHere" "[Z", Cond.fieldLink RX10 7 "PieceSwarmModel" "pieces" "I", Cond.fieldLink RX10 13 "PieceSwarmModel" "blocks" "I", Cond.fieldLink RX10 20 "PieceSwarmModel" "up" "[I", Cond.fieldLink RX10 136 "PieceSwarmModel" "peers" "I", Cond.fieldLink RX10 23 "PieceSwarmModel" "down" "[I", Cond.methodLink RX10 147 yX10_isPeer, Cond.instanceMethod yX10_isPeer, Cond.selects RX10 yX10_isPeer yX10_isPeer, Cond.initialized RX10, Cond.code yX10_isPeer cX10_isPeer 2 (some .boolean), Cond.methodLink RX10 132 yX10_in, Cond.static yX10_in, Cond.code yX10_in cX10_in 3 (some .boolean), Cond.methodLink RX10 199 yX10_isDone, Cond.instanceMethod yX10_isDone, Cond.selects RX10 yX10_isDone yX10_isDone, Cond.code yX10_isDone cX10_isDone 2 (some .boolean), Cond.methodLink RX10 160 yX10_hasMany, Cond.instanceMethod yX10_hasMany, Cond.selects RX10 yX10_hasMany yX10_hasMany, Cond.code yX10_hasMany cX10_hasMany 4 (some .int), Cond.fieldLink RX10 48 "PieceSwarmModel" "has" "[Z"]
def wsX10_bound__r2 : List Cond := [Cond.methodLink RX10 283 yX10_share, Cond.static yX10_share, Cond.code yX10_share cX10_share 2 (some .int), Cond.methodLink RX10 267 yX10_holdsMany, Cond.instanceMethod yX10_holdsMany, Cond.selects RX10 yX10_holdsMany yX10_holdsMany, Cond.code yX10_holdsMany cX10_holdsMany 4 (some .int), Cond.methodLink RX10 193 yX10_heldMany, Cond.instanceMethod yX10_heldMany, Cond.selects RX10 yX10_heldMany yX10_heldMany, Cond.code yX10_heldMany cX10_heldMany 5 (some .int), Cond.fieldLink RX10 54 "PieceSwarmModel" "holds" "[Z", Cond.methodLink RX10 163 yX10_cell, Cond.static yX10_cell, Cond.code yX10_cell cX10_cell 3 (some .int), Cond.methodLink RX10 274 yX10_comingTo, Cond.instanceMethod yX10_comingTo, Cond.selects RX10 yX10_comingTo yX10_comingTo, Cond.code yX10_comingTo cX10_comingTo 4 (some .int), Cond.fieldLink RX10 170 "PieceSwarmModel" "many" "I", Cond.fieldLink RX10 90 "PieceSwarmModel" "wTo" "[I"]
def wsX10_bound_ : List Cond := .code yX10_bound_ cX10_bound_ 7 (some .int) :: ((wsX10_bound__r1 ++ wsX10_bound__r2) ++ wsX100)
def wsX10_count__r1 : List Cond := [Cond.fieldLink RX10 120 "PieceSwarmModel" "thrown" "I", Cond.fieldLink RX10 202 "PieceSwarmModel" "clock" "I", Cond.fieldLink RX10 136 "PieceSwarmModel" "peers" "I", Cond.fieldLink RX10 26 "PieceSwarmModel" "isHere" "[Z", Cond.fieldLink RX10 7 "PieceSwarmModel" "pieces" "I", Cond.fieldLink RX10 13 "PieceSwarmModel" "blocks" "I", Cond.fieldLink RX10 221 "PieceSwarmModel" "sentAll" "I", Cond.fieldLink RX10 170 "PieceSwarmModel" "many" "I", Cond.fieldLink RX10 177 "PieceSwarmModel" "lost" "I", Cond.fieldLink RX10 180 "PieceSwarmModel" "failedAll" "I", Cond.fieldLink RX10 190 "PieceSwarmModel" "spareAll" "I", Cond.methodLink RX10 270 yX10_count, Cond.instanceMethod yX10_count, Cond.selects RX10 yX10_count yX10_count, Cond.initialized RX10, Cond.code yX10_count cX10_count 6 (some .int), Cond.methodLink RX10 199 yX10_isDone, Cond.instanceMethod yX10_isDone, Cond.selects RX10 yX10_isDone yX10_isDone, Cond.code yX10_isDone cX10_isDone 2 (some .boolean), Cond.methodLink RX10 160 yX10_hasMany, Cond.instanceMethod yX10_hasMany, Cond.selects RX10 yX10_hasMany yX10_hasMany, Cond.code yX10_hasMany cX10_hasMany 4 (some .int)]
def wsX10_count__r2 : List Cond := [Cond.fieldLink RX10 48 "PieceSwarmModel" "has" "[Z"]
def wsX10_count_ : List Cond := .code yX10_count_ cX10_count_ 4 (some .int) :: ((wsX10_count__r1 ++ wsX10_count__r2) ++ wsX100)
def wsJ9_max_7cf53 : List Cond := .code yJ9_max_7cf53 cJ9_max_7cf53 2 (some .int) :: ([])
def wsL_law_r1 : List Cond := [Cond.classLink RL 7 RX9, Cond.instantiable RX9 4, Cond.initialized RX9, Cond.classLink RL 10 RX10, Cond.instantiable RX10 45, Cond.initialized RX10, Cond.methodLink RL 9 yX9_init, Cond.instanceMethod yX9_init, Cond.code yX9_init cX9_init 1 none, Cond.methodLink RX9 1 objectInit, Cond.instanceMethod objectInit, Cond.code objectInit ⟨#[0xb1]⟩ 1 none, Cond.classLink RX9 7 RX2, Cond.instantiable RX2 8, Cond.initialized RX2, Cond.fieldLink RX9 10 "PieceSwarm" "crowd" "LPieceSwarm$Crowd;", Cond.classLink RX9 16 RX0, Cond.instantiable RX0 1, Cond.initialized RX0, Cond.fieldLink RX9 21 "PieceSwarm" "arrival" "LPieceSwarm$Arrival;", Cond.classLink RX9 25 RX4, Cond.instantiable RX4 1, Cond.initialized RX4, Cond.fieldLink RX9 28 "PieceSwarm" "opening" "LPieceSwarm$Opening;"]
def wsL_law_r2 : List Cond := [Cond.classLink RX9 32 RX1, Cond.instantiable RX1 1, Cond.initialized RX1, Cond.fieldLink RX9 35 "PieceSwarm" "asking" "LPieceSwarm$Asking;", Cond.methodLink RX9 9 yX2_init, Cond.instanceMethod yX2_init, Cond.code yX2_init cX2_init 2 none, Cond.methodLink RX2 3 objectInit, Cond.classLink RX2 9 RX8, Cond.instantiable RX8 3, Cond.initialized RX8, Cond.fieldLink RX2 12 "PieceSwarm$Crowd" "whole" "LPieceSwarm$Whole;", Cond.classLink RX2 18 RX5, Cond.instantiable RX5 7, Cond.initialized RX5, Cond.fieldLink RX2 21 "PieceSwarm$Crowd" "road" "LPieceSwarm$Road;", Cond.classLink RX2 25 RX3, Cond.fieldLink RX2 27 "PieceSwarm$Crowd" "members" "[LPieceSwarm$Member;", Cond.instantiable RX3 13, Cond.initialized RX3, Cond.methodLink RX2 11 yX8_init, Cond.instanceMethod yX8_init, Cond.code yX8_init cX8_init 1 none, Cond.methodLink RX8 1 objectInit]
def wsL_law_r3 : List Cond := [Cond.fieldLink RX8 7 "PieceSwarm$Whole" "pieces" "I", Cond.fieldLink RX8 13 "PieceSwarm$Whole" "blocks" "I", Cond.fieldLink RX8 16 "PieceSwarm$Whole" "seed" "I", Cond.methodLink RX2 20 yX5_init, Cond.instanceMethod yX5_init, Cond.code yX5_init cX5_init 1 none, Cond.methodLink RX5 3 objectInit, Cond.arrayClass .int, Cond.fieldLink RX5 11 "PieceSwarm$Road" "givers" "[I", Cond.fieldLink RX5 15 "PieceSwarm$Road" "takers" "[I", Cond.fieldLink RX5 18 "PieceSwarm$Road" "pieces" "[I", Cond.fieldLink RX5 21 "PieceSwarm$Road" "blocks" "[I", Cond.fieldLink RX5 24 "PieceSwarm$Road" "values" "[I", Cond.fieldLink RX5 27 "PieceSwarm$Road" "dueTicks" "[I", Cond.methodLink RX2 31 yX3_init, Cond.instanceMethod yX3_init, Cond.code yX3_init cX3_init 1 none, Cond.methodLink RX3 3 objectInit, Cond.classLink RX3 9 RX6, Cond.instantiable RX6 6, Cond.initialized RX6, Cond.fieldLink RX3 12 "PieceSwarm$Member" "store" "LPieceSwarm$Store;", Cond.classLink RX3 18 RX7, Cond.instantiable RX7 10]
def wsL_law_r4 : List Cond := [Cond.initialized RX7, Cond.fieldLink RX3 21 "PieceSwarm$Member" "ties" "LPieceSwarm$Ties;", Cond.fieldLink RX3 25 "PieceSwarm$Member" "everyNth" "I", Cond.fieldLink RX3 29 "PieceSwarm$Member" "doneTick" "I", Cond.methodLink RX3 11 yX6_init, Cond.instanceMethod yX6_init, Cond.code yX6_init cX6_init 2 none, Cond.methodLink RX6 3 objectInit, Cond.fieldLink RX6 9 "PieceSwarm$Store" "givers" "[I", Cond.fieldLink RX6 15 "PieceSwarm$Store" "values" "[I", Cond.fieldLink RX6 18 "PieceSwarm$Store" "coming" "[I", Cond.methodLink RX3 20 yX7_init, Cond.instanceMethod yX7_init, Cond.code yX7_init cX7_init 1 none, Cond.methodLink RX7 3 objectInit, Cond.fieldLink RX7 9 "PieceSwarm$Ties" "cameLate" "[I", Cond.fieldLink RX7 15 "PieceSwarm$Ties" "sentLate" "[I", Cond.fieldLink RX7 18 "PieceSwarm$Ties" "sent" "[I", Cond.fieldLink RX7 21 "PieceSwarm$Ties" "doubts" "[I", Cond.fieldLink RX7 24 "PieceSwarm$Ties" "latestByTurns" "I", Cond.fieldLink RX7 28 "PieceSwarm$Ties" "openedByTurns" "I", Cond.methodLink RX9 18 yX0_init, Cond.instanceMethod yX0_init, Cond.code yX0_init cX0_init 2 none]
def wsL_law_r5 : List Cond := [Cond.methodLink RX0 1 objectInit, Cond.fieldLink RX0 7 "PieceSwarm$Arrival" "crowd" "LPieceSwarm$Crowd;", Cond.methodLink RX9 27 yX4_init, Cond.instanceMethod yX4_init, Cond.code yX4_init cX4_init 2 none, Cond.methodLink RX4 3 objectInit, Cond.fieldLink RX4 9 "PieceSwarm$Opening" "crowd" "LPieceSwarm$Crowd;", Cond.methodLink RX9 34 yX1_init, Cond.instanceMethod yX1_init, Cond.code yX1_init cX1_init 2 none, Cond.methodLink RX1 3 objectInit, Cond.fieldLink RX1 9 "PieceSwarm$Asking" "crowd" "LPieceSwarm$Crowd;", Cond.methodLink RL 12 yX10_init, Cond.instanceMethod yX10_init, Cond.code yX10_init cX10_init 1 none, Cond.methodLink RX10 1 objectInit, Cond.fieldLink RX10 7 "PieceSwarmModel" "pieces" "I", Cond.fieldLink RX10 13 "PieceSwarmModel" "blocks" "I", Cond.fieldLink RX10 16 "PieceSwarmModel" "kind" "[I", Cond.fieldLink RX10 20 "PieceSwarmModel" "up" "[I", Cond.fieldLink RX10 23 "PieceSwarmModel" "down" "[I", Cond.arrayClass .boolean, Cond.fieldLink RX10 26 "PieceSwarmModel" "isHere" "[Z", Cond.fieldLink RX10 30 "PieceSwarmModel" "often" "[I"]
def wsL_law_r6 : List Cond := [Cond.fieldLink RX10 33 "PieceSwarmModel" "came" "[I", Cond.fieldLink RX10 36 "PieceSwarmModel" "sent" "[I", Cond.fieldLink RX10 39 "PieceSwarmModel" "spare" "[I", Cond.fieldLink RX10 42 "PieceSwarmModel" "failed" "[I", Cond.fieldLink RX10 45 "PieceSwarmModel" "doneAt" "[I", Cond.fieldLink RX10 48 "PieceSwarmModel" "has" "[Z", Cond.fieldLink RX10 51 "PieceSwarmModel" "isMarked" "[Z", Cond.fieldLink RX10 54 "PieceSwarmModel" "holds" "[Z", Cond.fieldLink RX10 57 "PieceSwarmModel" "got" "[I", Cond.fieldLink RX10 60 "PieceSwarmModel" "from" "[I", Cond.fieldLink RX10 63 "PieceSwarmModel" "met" "[Z", Cond.fieldLink RX10 66 "PieceSwarmModel" "isOpen" "[Z", Cond.fieldLink RX10 69 "PieceSwarmModel" "isBanned" "[Z", Cond.fieldLink RX10 72 "PieceSwarmModel" "doubts" "[I", Cond.fieldLink RX10 75 "PieceSwarmModel" "sentTo" "[I", Cond.fieldLink RX10 78 "PieceSwarmModel" "lateSent" "[I", Cond.fieldLink RX10 81 "PieceSwarmModel" "lateCame" "[I", Cond.fieldLink RX10 84 "PieceSwarmModel" "chosen" "[I", Cond.fieldLink RX10 87 "PieceSwarmModel" "turn" "[I", Cond.fieldLink RX10 90 "PieceSwarmModel" "wTo" "[I", Cond.fieldLink RX10 93 "PieceSwarmModel" "wFrom" "[I", Cond.fieldLink RX10 96 "PieceSwarmModel" "wPiece" "[I", Cond.fieldLink RX10 99 "PieceSwarmModel" "wBlock" "[I", Cond.fieldLink RX10 102 "PieceSwarmModel" "wValue" "[I"]
def wsL_law_r7 : List Cond := [Cond.fieldLink RX10 105 "PieceSwarmModel" "wDue" "[I", Cond.fieldLink RX10 108 "PieceSwarmModel" "wAtOnce" "[Z", Cond.fieldLink RX10 111 "PieceSwarmModel" "spareRow" "[Z", Cond.fieldLink RX10 114 "PieceSwarmModel" "upLeft" "[I", Cond.fieldLink RX10 117 "PieceSwarmModel" "downLeft" "[I", Cond.methodLink RL 13 yX9_file, Cond.instanceMethod yX9_file, Cond.selects RX9 yX9_file yX9_file, Cond.code yX9_file cX9_file 4 (some .boolean), Cond.fieldLink RX9 39 "PieceSwarm$Crowd" "size" "I", Cond.fieldLink RX9 47 "PieceSwarm$Crowd" "whole" "LPieceSwarm$Whole;", Cond.methodLink RX9 43 yX9_isWithin, Cond.static yX9_isWithin, Cond.code yX9_isWithin cX9_isWithin 3 (some .boolean), Cond.methodLink RX9 51 yX8_become, Cond.instanceMethod yX8_become, Cond.selects RX8 yX8_become yX8_become, Cond.code yX8_become cX8_become 4 none, Cond.methodLink RL 17 yX10_file, Cond.instanceMethod yX10_file, Cond.selects RX10 yX10_file yX10_file, Cond.code yX10_file cX10_file 4 (some .boolean), Cond.fieldLink RX10 120 "PieceSwarmModel" "thrown" "I", Cond.fieldLink RX10 136 "PieceSwarmModel" "peers" "I"]
def wsL_law_r8 : List Cond := [Cond.fieldLink RX10 123 "PieceSwarmModel" "seed" "I", Cond.methodLink RX10 132 yX10_in, Cond.static yX10_in, Cond.code yX10_in cX10_in 3 (some .boolean), Cond.methodLink RL 18 yX9_value, Cond.instanceMethod yX9_value, Cond.selects RX9 yX9_value yX9_value, Cond.code yX9_value cX9_value 3 (some .int), Cond.methodLink RX9 57 yX8_isBlock, Cond.instanceMethod yX8_isBlock, Cond.selects RX8 yX8_isBlock yX8_isBlock, Cond.code yX8_isBlock cX8_isBlock 3 (some .boolean), Cond.methodLink RX8 19 yX8_isPiece, Cond.instanceMethod yX8_isPiece, Cond.selects RX8 yX8_isPiece yX8_isPiece, Cond.code yX8_isPiece cX8_isPiece 2 (some .boolean), Cond.methodLink RX9 61 yX8_valueOf, Cond.instanceMethod yX8_valueOf, Cond.selects RX8 yX8_valueOf yX8_valueOf, Cond.code yX8_valueOf cX8_valueOf 4 (some .int), Cond.constant RX8 23 (1103515245), Cond.methodLink RL 22 yX10_value, Cond.instanceMethod yX10_value, Cond.selects RX10 yX10_value yX10_value]
def wsL_law_r9 : List Cond := [Cond.code yX10_value cX10_value 3 (some .int), Cond.methodLink RX10 139 yX10_isBlock, Cond.instanceMethod yX10_isBlock, Cond.selects RX10 yX10_isBlock yX10_isBlock, Cond.code yX10_isBlock cX10_isBlock 3 (some .boolean), Cond.methodLink RX10 128 yX10_valueOf, Cond.instanceMethod yX10_valueOf, Cond.selects RX10 yX10_valueOf yX10_valueOf, Cond.code yX10_valueOf cX10_valueOf 4 (some .int), Cond.constant RX10 126 (1103515245), Cond.methodLink RL 23 yX9_sum, Cond.instanceMethod yX9_sum, Cond.selects RX9 yX9_sum yX9_sum, Cond.code yX9_sum cX9_sum 2 (some .int), Cond.methodLink RX9 65 yX8_isPiece, Cond.methodLink RX9 69 yX8_sumOf, Cond.instanceMethod yX8_sumOf, Cond.selects RX8 yX8_sumOf yX8_sumOf, Cond.code yX8_sumOf cX8_sumOf 4 (some .int), Cond.methodLink RX8 24 yX8_valueOf, Cond.static yX9_sumWith, Cond.code yX9_sumWith cX9_sumWith 2 (some .int), Cond.constant RX9 271 (69069), Cond.methodLink RL 27 yX10_sum]
def wsL_law_r10 : List Cond := [Cond.instanceMethod yX10_sum, Cond.selects RX10 yX10_sum yX10_sum, Cond.code yX10_sum cX10_sum 2 (some .int), Cond.methodLink RX10 143 yX10_sumOf, Cond.instanceMethod yX10_sumOf, Cond.selects RX10 yX10_sumOf yX10_sumOf, Cond.code yX10_sumOf cX10_sumOf 4 (some .int), Cond.constant RX10 127 (69069), Cond.methodLink RL 28 yX9_peer, Cond.instanceMethod yX9_peer, Cond.selects RX9 yX9_peer yX9_peer, Cond.code yX9_peer cX9_peer 5 (some .int), Cond.methodLink RX9 73 yX2_takeIn, Cond.instanceMethod yX2_takeIn, Cond.selects RX2 yX2_takeIn yX2_takeIn, Cond.code yX2_takeIn cX2_takeIn 6 (some .int), Cond.fieldLink RX2 32 "PieceSwarm$Crowd" "size" "I", Cond.fieldLink RX2 40 "PieceSwarm$Member" "kind" "I", Cond.fieldLink RX2 43 "PieceSwarm$Member" "up" "I", Cond.fieldLink RX2 46 "PieceSwarm$Member" "down" "I", Cond.fieldLink RX2 49 "PieceSwarm$Member" "store" "LPieceSwarm$Store;", Cond.fieldLink RX2 59 "PieceSwarm$Member" "doneTick" "I", Cond.fieldLink RX2 62 "PieceSwarm$Crowd" "here" "I", Cond.methodLink RX2 53 yX6_fillFrom]
def wsL_law_r11 : List Cond := [Cond.instanceMethod yX6_fillFrom, Cond.selects RX6 yX6_fillFrom yX6_fillFrom, Cond.code yX6_fillFrom cX6_fillFrom 4 none, Cond.fieldLink RX6 21 "PieceSwarm$Whole" "pieces" "I", Cond.fieldLink RX6 27 "PieceSwarm$Whole" "blocks" "I", Cond.fieldLink RX6 41 "PieceSwarm$Store" "has" "I", Cond.static yX9_place, Cond.code yX9_place cX9_place 2 (some .int), Cond.methodLink RX6 34 yX8_valueOf, Cond.methodLink RX6 37 yX8_allPieces, Cond.instanceMethod yX8_allPieces, Cond.selects RX8 yX8_allPieces yX8_allPieces, Cond.code yX8_allPieces cX8_allPieces 1 (some .int), Cond.methodLink RL 32 yX10_peer, Cond.instanceMethod yX10_peer, Cond.selects RX10 yX10_peer yX10_peer, Cond.code yX10_peer cX10_peer 7 (some .int), Cond.methodLink RX10 163 yX10_cell, Cond.static yX10_cell, Cond.code yX10_cell cX10_cell 3 (some .int), Cond.methodLink RL 33 yX9_often, Cond.instanceMethod yX9_often, Cond.selects RX9 yX9_often yX9_often, Cond.code yX9_often cX9_often 3 (some .boolean)]
def wsL_law_r12 : List Cond := [Cond.fieldLink RX9 80 "PieceSwarm$Crowd" "members" "[LPieceSwarm$Member;", Cond.fieldLink RX9 84 "PieceSwarm$Member" "kind" "I", Cond.fieldLink RX9 89 "PieceSwarm$Member" "everyNth" "I", Cond.methodLink RX9 77 yX2_isMember, Cond.instanceMethod yX2_isMember, Cond.selects RX2 yX2_isMember yX2_isMember, Cond.code yX2_isMember cX2_isMember 2 (some .boolean), Cond.methodLink RL 37 yX10_often, Cond.instanceMethod yX10_often, Cond.selects RX10 yX10_often yX10_often, Cond.code yX10_often cX10_often 3 (some .boolean), Cond.methodLink RX10 147 yX10_isPeer, Cond.instanceMethod yX10_isPeer, Cond.selects RX10 yX10_isPeer yX10_isPeer, Cond.code yX10_isPeer cX10_isPeer 2 (some .boolean), Cond.methodLink RL 38 yX9_meet, Cond.instanceMethod yX9_meet, Cond.selects RX9 yX9_meet yX9_meet, Cond.code yX9_meet cX9_meet 3 (some .boolean), Cond.fieldLink RX9 95 "PieceSwarm$Member" "ties" "LPieceSwarm$Ties;", Cond.fieldLink RX9 99 "PieceSwarm$Ties" "neighbours" "I", Cond.methodLink RX9 92 yX2_areTwo, Cond.instanceMethod yX2_areTwo, Cond.selects RX2 yX2_areTwo yX2_areTwo]
def wsL_law_r13 : List Cond := [Cond.code yX2_areTwo cX2_areTwo 3 (some .boolean), Cond.methodLink RX2 36 yX2_isMember, Cond.methodLink RX9 104 yX9_isIn, Cond.static yX9_isIn, Cond.code yX9_isIn cX9_isIn 2 (some .boolean), Cond.methodLink RL 41 yX10_meet, Cond.instanceMethod yX10_meet, Cond.selects RX10 yX10_meet yX10_meet, Cond.code yX10_meet cX10_meet 3 (some .boolean), Cond.methodLink RX10 167 yX10_isTwo, Cond.instanceMethod yX10_isTwo, Cond.selects RX10 yX10_isTwo yX10_isTwo, Cond.code yX10_isTwo cX10_isTwo 3 (some .boolean), Cond.methodLink RX10 151 yX10_two, Cond.static yX10_two, Cond.code yX10_two cX10_two 2 (some .int), Cond.methodLink RL 42 yX9_leave, Cond.instanceMethod yX9_leave, Cond.selects RX9 yX9_leave yX9_leave, Cond.code yX9_leave cX9_leave 2 (some .boolean), Cond.fieldLink RX9 107 "PieceSwarm$Crowd" "here" "I", Cond.methodLink RX9 110 yX2_letGo, Cond.instanceMethod yX2_letGo, Cond.selects RX2 yX2_letGo yX2_letGo]
def wsL_law_r14 : List Cond := [Cond.code yX2_letGo cX2_letGo 3 none, Cond.fieldLink RX2 65 "PieceSwarm$Member" "ties" "LPieceSwarm$Ties;", Cond.fieldLink RX2 95 "PieceSwarm$Ties" "open" "I", Cond.methodLink RX2 98 yX2_loseParcelsOf, Cond.instanceMethod yX2_loseParcelsOf, Cond.selects RX2 yX2_loseParcelsOf yX2_loseParcelsOf, Cond.code yX2_loseParcelsOf cX2_loseParcelsOf 4 none, Cond.fieldLink RX2 102 "PieceSwarm$Road" "length" "I", Cond.fieldLink RX2 105 "PieceSwarm$Road" "takers" "[I", Cond.fieldLink RX2 109 "PieceSwarm$Road" "givers" "[I", Cond.fieldLink RX2 112 "PieceSwarm$Road" "pieces" "[I", Cond.fieldLink RX2 115 "PieceSwarm$Road" "blocks" "[I", Cond.fieldLink RX2 122 "PieceSwarm$Crowd" "lostInAll" "I", Cond.methodLink RX2 118 yX6_expectNoMore, Cond.instanceMethod yX6_expectNoMore, Cond.selects RX6 yX6_expectNoMore yX6_expectNoMore, Cond.code yX6_expectNoMore cX6_expectNoMore 3 none, Cond.fieldLink RX6 59 "PieceSwarm$Store" "comingInAll" "I", Cond.methodLink RX2 125 yX5_move, Cond.instanceMethod yX5_move, Cond.selects RX5 yX5_move yX5_move, Cond.code yX5_move cX5_move 3 none, Cond.methodLink RL 46 yX10_leave, Cond.instanceMethod yX10_leave]
def wsL_law_r15 : List Cond := [Cond.selects RX10 yX10_leave yX10_leave, Cond.code yX10_leave cX10_leave 4 (some .boolean), Cond.fieldLink RX10 170 "PieceSwarmModel" "many" "I", Cond.fieldLink RX10 177 "PieceSwarmModel" "lost" "I", Cond.methodLink RX10 173 yX10_keep, Cond.instanceMethod yX10_keep, Cond.selects RX10 yX10_keep yX10_keep, Cond.code yX10_keep cX10_keep 3 none, Cond.methodLink RL 47 yX9_join, Cond.instanceMethod yX9_join, Cond.selects RX9 yX9_join yX9_join, Cond.code yX9_join cX9_join 2 (some .boolean), Cond.methodLink RL 50 yX10_join, Cond.instanceMethod yX10_join, Cond.selects RX10 yX10_join yX10_join, Cond.code yX10_join cX10_join 2 (some .boolean), Cond.methodLink RL 51 yX9_tick, Cond.instanceMethod yX9_tick, Cond.selects RX9 yX9_tick yX9_tick, Cond.code yX9_tick cX9_tick 4 (some .int), Cond.fieldLink RX9 114 "PieceSwarm$Crowd" "sentInAll" "I", Cond.fieldLink RX9 117 "PieceSwarm$Crowd" "tickNumber" "I", Cond.methodLink RX9 120 yX0_takeDue, Cond.instanceMethod yX0_takeDue]
def wsL_law_r16 : List Cond := [Cond.selects RX0 yX0_takeDue yX0_takeDue, Cond.code yX0_takeDue cX0_takeDue 4 none, Cond.fieldLink RX0 13 "PieceSwarm$Crowd" "road" "LPieceSwarm$Road;", Cond.fieldLink RX0 19 "PieceSwarm$Road" "length" "I", Cond.fieldLink RX0 25 "PieceSwarm$Road" "dueTicks" "[I", Cond.fieldLink RX0 29 "PieceSwarm$Crowd" "tickNumber" "I", Cond.fieldLink RX0 32 "PieceSwarm$Road" "takers" "[I", Cond.fieldLink RX0 35 "PieceSwarm$Road" "givers" "[I", Cond.fieldLink RX0 38 "PieceSwarm$Road" "pieces" "[I", Cond.fieldLink RX0 41 "PieceSwarm$Road" "blocks" "[I", Cond.fieldLink RX0 44 "PieceSwarm$Road" "values" "[I", Cond.methodLink RX0 47 yX0_take, Cond.instanceMethod yX0_take, Cond.selects RX0 yX0_take yX0_take, Cond.code yX0_take cX0_take 8 none, Cond.fieldLink RX0 55 "PieceSwarm$Crowd" "members" "[LPieceSwarm$Member;", Cond.fieldLink RX0 59 "PieceSwarm$Member" "store" "LPieceSwarm$Store;", Cond.fieldLink RX0 70 "PieceSwarm$Member" "came" "I", Cond.fieldLink RX0 73 "PieceSwarm$Member" "ties" "LPieceSwarm$Ties;", Cond.fieldLink RX0 77 "PieceSwarm$Ties" "cameLate" "[I", Cond.fieldLink RX0 86 "PieceSwarm$Member" "spare" "I", Cond.fieldLink RX0 97 "PieceSwarm$Crowd" "whole" "LPieceSwarm$Whole;", Cond.fieldLink RX0 101 "PieceSwarm$Whole" "blocks" "I", Cond.methodLink RX0 65 yX6_expectNoMore]
def wsL_law_r17 : List Cond := [Cond.methodLink RX0 82 yX0_isSpare, Cond.instanceMethod yX0_isSpare, Cond.selects RX0 yX0_isSpare yX0_isSpare, Cond.code yX0_isSpare cX0_isSpare 5 (some .boolean), Cond.fieldLink RX0 118 "PieceSwarm$Store" "has" "I", Cond.fieldLink RX0 130 "PieceSwarm$Store" "marked" "I", Cond.methodLink RX0 127 yX6_holds, Cond.instanceMethod yX6_holds, Cond.selects RX6 yX6_holds yX6_holds, Cond.code yX6_holds cX6_holds 3 (some .boolean), Cond.methodLink RX0 133 yX6_giversOf, Cond.instanceMethod yX6_giversOf, Cond.selects RX6 yX6_giversOf yX6_giversOf, Cond.code yX6_giversOf cX6_giversOf 5 (some .int), Cond.methodLink RX0 89 yX6_put, Cond.instanceMethod yX6_put, Cond.selects RX6 yX6_put yX6_put, Cond.code yX6_put cX6_put 5 none, Cond.methodLink RX0 93 yX6_heldOf, Cond.instanceMethod yX6_heldOf, Cond.selects RX6 yX6_heldOf yX6_heldOf, Cond.code yX6_heldOf cX6_heldOf 4 (some .int), Cond.methodLink RX6 48 yX6_holds, Cond.static yX9_oneIf]
def wsL_law_r18 : List Cond := [Cond.code yX9_oneIf cX9_oneIf 1 (some .int), Cond.methodLink RX0 105 yX6_sumOf, Cond.instanceMethod yX6_sumOf, Cond.selects RX6 yX6_sumOf yX6_sumOf, Cond.code yX6_sumOf cX6_sumOf 5 (some .int), Cond.methodLink RX0 109 yX8_sumOf, Cond.methodLink RX0 111 yX0_complete, Cond.instanceMethod yX0_complete, Cond.selects RX0 yX0_complete yX0_complete, Cond.code yX0_complete cX0_complete 3 none, Cond.fieldLink RX0 140 "PieceSwarm$Member" "doneTick" "I", Cond.methodLink RX0 136 yX8_allPieces, Cond.methodLink RX0 115 yX0_fail, Cond.instanceMethod yX0_fail, Cond.selects RX0 yX0_fail yX0_fail, Cond.code yX0_fail cX0_fail 6 none, Cond.fieldLink RX0 143 "PieceSwarm$Crowd" "size" "I", Cond.fieldLink RX0 146 "PieceSwarm$Ties" "doubts" "[I", Cond.fieldLink RX0 156 "PieceSwarm$Member" "failed" "I", Cond.methodLink RX0 149 yX0_ban, Cond.instanceMethod yX0_ban, Cond.selects RX0 yX0_ban yX0_ban, Cond.code yX0_ban cX0_ban 5 none, Cond.fieldLink RX0 159 "PieceSwarm$Ties" "banned" "I"]
def wsL_law_r19 : List Cond := [Cond.fieldLink RX0 162 "PieceSwarm$Ties" "bannedBy" "I", Cond.fieldLink RX0 165 "PieceSwarm$Ties" "open" "I", Cond.methodLink RX0 152 yX6_drop, Cond.instanceMethod yX6_drop, Cond.selects RX6 yX6_drop yX6_drop, Cond.code yX6_drop cX6_drop 3 none, Cond.methodLink RX0 51 yX5_move, Cond.methodLink RX9 123 yX4_openAll, Cond.instanceMethod yX4_openAll, Cond.selects RX4 yX4_openAll yX4_openAll, Cond.code yX4_openAll cX4_openAll 2 none, Cond.fieldLink RX4 15 "PieceSwarm$Crowd" "size" "I", Cond.fieldLink RX4 21 "PieceSwarm$Crowd" "here" "I", Cond.methodLink RX4 28 yX4_openAnew, Cond.instanceMethod yX4_openAnew, Cond.selects RX4 yX4_openAnew yX4_openAnew, Cond.code yX4_openAnew cX4_openAnew 7 none, Cond.fieldLink RX4 32 "PieceSwarm$Crowd" "members" "[LPieceSwarm$Member;", Cond.fieldLink RX4 36 "PieceSwarm$Member" "ties" "LPieceSwarm$Ties;", Cond.fieldLink RX4 57 "PieceSwarm$Ties" "latestByTurns" "I", Cond.fieldLink RX4 66 "PieceSwarm$Ties" "openedByTurns" "I", Cond.fieldLink RX4 69 "PieceSwarm$Ties" "open" "I", Cond.methodLink RX4 42 yX3_opensToNobody, Cond.instanceMethod yX3_opensToNobody]
def wsL_law_r20 : List Cond := [Cond.selects RX3 yX3_opensToNobody yX3_opensToNobody, Cond.code yX3_opensToNobody cX3_opensToNobody 1 (some .boolean), Cond.fieldLink RX3 32 "PieceSwarm$Member" "kind" "I", Cond.methodLink RX4 46 yX2_wantersOf, Cond.instanceMethod yX2_wantersOf, Cond.selects RX2 yX2_wantersOf yX2_wantersOf, Cond.code yX2_wantersOf cX2_wantersOf 6 (some .int), Cond.fieldLink RX2 92 "PieceSwarm$Store" "has" "I", Cond.methodLink RX2 84 yX3_toldPieces, Cond.instanceMethod yX3_toldPieces, Cond.selects RX3 yX3_toldPieces yX3_toldPieces, Cond.code yX3_toldPieces cX3_toldPieces 1 (some .int), Cond.fieldLink RX3 35 "PieceSwarm$Store" "has" "I", Cond.constant RX3 38 (5592405), Cond.methodLink RX2 88 yX2_nearTo, Cond.instanceMethod yX2_nearTo, Cond.selects RX2 yX2_nearTo yX2_nearTo, Cond.code yX2_nearTo cX2_nearTo 3 (some .int), Cond.fieldLink RX2 73 "PieceSwarm$Ties" "neighbours" "I", Cond.fieldLink RX2 78 "PieceSwarm$Ties" "banned" "I", Cond.fieldLink RX2 81 "PieceSwarm$Ties" "bannedBy" "I", Cond.methodLink RX4 50 yX4_latest, Cond.instanceMethod yX4_latest, Cond.selects RX4 yX4_latest yX4_latest]
def wsL_law_r21 : List Cond := [Cond.code yX4_latest cX4_latest 5 (some .int), Cond.methodLink RX4 75 yX3_lateNumberOf, Cond.instanceMethod yX3_lateNumberOf, Cond.selects RX3 yX3_lateNumberOf yX3_lateNumberOf, Cond.code yX3_lateNumberOf cX3_lateNumberOf 2 (some .int), Cond.fieldLink RX3 43 "PieceSwarm$Ties" "sentLate" "[I", Cond.fieldLink RX3 47 "PieceSwarm$Ties" "cameLate" "[I", Cond.methodLink RX3 39 yX3_isDone, Cond.instanceMethod yX3_isDone, Cond.selects RX3 yX3_isDone yX3_isDone, Cond.code yX3_isDone cX3_isDone 1 (some .boolean), Cond.methodLink RX4 54 yX4_setOf, Cond.static yX4_setOf, Cond.code yX4_setOf cX4_setOf 1 (some .int), Cond.methodLink RX4 62 yX4_nextByTurns, Cond.instanceMethod yX4_nextByTurns, Cond.selects RX4 yX4_nextByTurns yX4_nextByTurns, Cond.code yX4_nextByTurns cX4_nextByTurns 5 (some .int), Cond.methodLink RX4 72 yX7_forgetLate, Cond.instanceMethod yX7_forgetLate, Cond.selects RX7 yX7_forgetLate yX7_forgetLate, Cond.code yX7_forgetLate cX7_forgetLate 2 none, Cond.methodLink RX9 126 yX1_dropStranded, Cond.instanceMethod yX1_dropStranded]
def wsL_law_r22 : List Cond := [Cond.selects RX1 yX1_dropStranded yX1_dropStranded, Cond.code yX1_dropStranded cX1_dropStranded 2 none, Cond.fieldLink RX1 15 "PieceSwarm$Crowd" "size" "I", Cond.fieldLink RX1 21 "PieceSwarm$Crowd" "here" "I", Cond.fieldLink RX1 28 "PieceSwarm$Crowd" "members" "[LPieceSwarm$Member;", Cond.fieldLink RX1 32 "PieceSwarm$Member" "store" "LPieceSwarm$Store;", Cond.methodLink RX1 38 yX2_nearTo, Cond.methodLink RX1 42 yX1_dropStrandedOf, Cond.instanceMethod yX1_dropStrandedOf, Cond.selects RX1 yX1_dropStrandedOf yX1_dropStrandedOf, Cond.code yX1_dropStrandedOf cX1_dropStrandedOf 5 none, Cond.fieldLink RX1 46 "PieceSwarm$Store" "marked" "I", Cond.fieldLink RX1 51 "PieceSwarm$Store" "has" "I", Cond.fieldLink RX1 54 "PieceSwarm$Crowd" "whole" "LPieceSwarm$Whole;", Cond.fieldLink RX1 58 "PieceSwarm$Whole" "pieces" "I", Cond.methodLink RX1 63 yX6_giversOf, Cond.methodLink RX1 66 yX6_drop, Cond.methodLink RX9 129 yX1_runRounds, Cond.instanceMethod yX1_runRounds, Cond.selects RX1 yX1_runRounds yX1_runRounds, Cond.code yX1_runRounds cX1_runRounds 4 none, Cond.fieldLink RX1 70 "PieceSwarm$Member" "up" "I", Cond.fieldLink RX1 73 "PieceSwarm$Member" "maySend" "I", Cond.fieldLink RX1 76 "PieceSwarm$Member" "down" "I"]
def wsL_law_r23 : List Cond := [Cond.fieldLink RX1 79 "PieceSwarm$Member" "mayAsk" "I", Cond.methodLink RX1 82 yX1_askOne, Cond.instanceMethod yX1_askOne, Cond.selects RX1 yX1_askOne yX1_askOne, Cond.code yX1_askOne cX1_askOne 6 (some .boolean), Cond.fieldLink RX1 90 "PieceSwarm$Crowd" "road" "LPieceSwarm$Road;", Cond.fieldLink RX1 109 "PieceSwarm$Whole" "blocks" "I", Cond.methodLink RX1 86 yX3_isDone, Cond.methodLink RX1 94 yX5_hasRoom, Cond.instanceMethod yX5_hasRoom, Cond.selects RX5 yX5_hasRoom yX5_hasRoom, Cond.code yX5_hasRoom cX5_hasRoom 1 (some .boolean), Cond.fieldLink RX5 30 "PieceSwarm$Road" "length" "I", Cond.methodLink RX1 99 yX1_giversTo, Cond.instanceMethod yX1_giversTo, Cond.selects RX1 yX1_giversTo yX1_giversTo, Cond.code yX1_giversTo cX1_giversTo 6 (some .int), Cond.fieldLink RX1 126 "PieceSwarm$Member" "ties" "LPieceSwarm$Ties;", Cond.fieldLink RX1 130 "PieceSwarm$Ties" "open" "I", Cond.methodLink RX1 102 yX1_pickPiece, Cond.instanceMethod yX1_pickPiece, Cond.selects RX1 yX1_pickPiece yX1_pickPiece, Cond.code yX1_pickPiece cX1_pickPiece 10 (some .int), Cond.methodLink RX1 112 yX6_firstUnasked]
def wsL_law_r24 : List Cond := [Cond.instanceMethod yX6_firstUnasked, Cond.selects RX6 yX6_firstUnasked yX6_firstUnasked, Cond.code yX6_firstUnasked cX6_firstUnasked 4 (some .int), Cond.methodLink RX1 115 yX1_giversThatMayBe, Cond.instanceMethod yX1_giversThatMayBe, Cond.selects RX1 yX1_giversThatMayBe yX1_giversThatMayBe, Cond.code yX1_giversThatMayBe cX1_giversThatMayBe 7 (some .int), Cond.methodLink RX1 135 yX2_tellersAmong, Cond.instanceMethod yX2_tellersAmong, Cond.selects RX2 yX2_tellersAmong yX2_tellersAmong, Cond.code yX2_tellersAmong cX2_tellersAmong 5 (some .int), Cond.methodLink RX1 146 yX6_firstGiver, Cond.instanceMethod yX6_firstGiver, Cond.selects RX6 yX6_firstGiver yX6_firstGiver, Cond.code yX6_firstGiver cX6_firstGiver 4 (some .int), Cond.methodLink RX1 149 yX5_firstGiver, Cond.instanceMethod yX5_firstGiver, Cond.selects RX5 yX5_firstGiver yX5_firstGiver, Cond.code yX5_firstGiver cX5_firstGiver 4 (some .int), Cond.methodLink RX1 138 yJ6_bitCount_0f7a4, Cond.static yJ6_bitCount_0f7a4, Cond.initialized RJ6, Cond.code yJ6_bitCount_0f7a4 cJ6_bitCount_0f7a4 1 (some .int), Cond.constant RJ6 265 (1431655765)]
def wsL_law_r25 : List Cond := [Cond.constant RJ6 266 (858993459), Cond.constant RJ6 267 (252645135), Cond.methodLink RX1 143 yX6_isBegun, Cond.instanceMethod yX6_isBegun, Cond.selects RX6 yX6_isBegun yX6_isBegun, Cond.code yX6_isBegun cX6_isBegun 3 (some .boolean), Cond.methodLink RX1 106 yX1_askAtEnd, Cond.instanceMethod yX1_askAtEnd, Cond.selects RX1 yX1_askAtEnd yX1_askAtEnd, Cond.code yX1_askAtEnd cX1_askAtEnd 10 (some .boolean), Cond.fieldLink RX1 154 "PieceSwarm$Store" "coming" "[I", Cond.methodLink RX1 151 yX6_holds, Cond.methodLink RX1 161 yX5_firstGiverOf, Cond.instanceMethod yX5_firstGiverOf, Cond.selects RX5 yX5_firstGiverOf yX5_firstGiverOf, Cond.code yX5_firstGiverOf cX5_firstGiverOf 5 (some .int), Cond.methodLink RX1 119 yX1_readiest, Cond.instanceMethod yX1_readiest, Cond.selects RX1 yX1_readiest yX1_readiest, Cond.code yX1_readiest cX1_readiest 4 (some .int), Cond.methodLink RX1 122 yX1_send, Cond.instanceMethod yX1_send, Cond.selects RX1 yX1_send yX1_send, Cond.code yX1_send cX1_send 9 (some .boolean)]
def wsL_law_r26 : List Cond := [Cond.fieldLink RX1 164 "PieceSwarm$Member" "sent" "I", Cond.fieldLink RX1 167 "PieceSwarm$Ties" "sent" "[I", Cond.fieldLink RX1 169 "PieceSwarm$Ties" "sentLate" "[I", Cond.fieldLink RX1 176 "PieceSwarm$Crowd" "sentInAll" "I", Cond.fieldLink RX1 182 "PieceSwarm$Crowd" "tickNumber" "I", Cond.fieldLink RX1 185 "PieceSwarm$Member" "kind" "I", Cond.methodLink RX1 172 yX6_expect, Cond.instanceMethod yX6_expect, Cond.selects RX6 yX6_expect yX6_expect, Cond.code yX6_expect cX6_expect 3 none, Cond.methodLink RX1 179 yX8_valueOf, Cond.methodLink RX1 188 yX3_nowSendsFalse, Cond.instanceMethod yX3_nowSendsFalse, Cond.selects RX3 yX3_nowSendsFalse yX3_nowSendsFalse, Cond.code yX3_nowSendsFalse cX3_nowSendsFalse 1 (some .boolean), Cond.fieldLink RX3 50 "PieceSwarm$Member" "sent" "I", Cond.methodLink RX1 191 yX5_add, Cond.instanceMethod yX5_add, Cond.selects RX5 yX5_add yX5_add, Cond.code yX5_add cX5_add 7 none, Cond.methodLink RX5 34 yX5_hasRoom, Cond.methodLink RL 54 yX10_tick, Cond.instanceMethod yX10_tick, Cond.selects RX10 yX10_tick yX10_tick]
def wsL_law_r27 : List Cond := [Cond.code yX10_tick cX10_tick 4 (some .int), Cond.fieldLink RX10 221 "PieceSwarmModel" "sentAll" "I", Cond.methodLink RX10 261 yX10_oneTick, Cond.instanceMethod yX10_oneTick, Cond.selects RX10 yX10_oneTick yX10_oneTick, Cond.code yX10_oneTick cX10_oneTick 3 none, Cond.fieldLink RX10 202 "PieceSwarmModel" "clock" "I", Cond.methodLink RX10 248 yX10_allCome, Cond.instanceMethod yX10_allCome, Cond.selects RX10 yX10_allCome yX10_allCome, Cond.code yX10_allCome cX10_allCome 4 none, Cond.methodLink RX10 205 yX10_comes, Cond.instanceMethod yX10_comes, Cond.selects RX10 yX10_comes yX10_comes, Cond.code yX10_comes cX10_comes 8 none, Cond.fieldLink RX10 190 "PieceSwarmModel" "spareAll" "I", Cond.methodLink RX10 186 yX10_isSpare, Cond.instanceMethod yX10_isSpare, Cond.selects RX10 yX10_isSpare yX10_isSpare, Cond.code yX10_isSpare cX10_isSpare 6 (some .boolean), Cond.methodLink RX10 193 yX10_heldMany, Cond.instanceMethod yX10_heldMany, Cond.selects RX10 yX10_heldMany yX10_heldMany, Cond.code yX10_heldMany cX10_heldMany 5 (some .int)]
def wsL_law_r28 : List Cond := [Cond.methodLink RX10 196 yX10_fails, Cond.instanceMethod yX10_fails, Cond.selects RX10 yX10_fails yX10_fails, Cond.code yX10_fails cX10_fails 7 none, Cond.fieldLink RX10 180 "PieceSwarmModel" "failedAll" "I", Cond.methodLink RX10 183 yX10_dropPiece, Cond.instanceMethod yX10_dropPiece, Cond.selects RX10 yX10_dropPiece yX10_dropPiece, Cond.code yX10_dropPiece cX10_dropPiece 4 none, Cond.methodLink RX10 199 yX10_isDone, Cond.instanceMethod yX10_isDone, Cond.selects RX10 yX10_isDone yX10_isDone, Cond.code yX10_isDone cX10_isDone 2 (some .boolean), Cond.methodLink RX10 160 yX10_hasMany, Cond.instanceMethod yX10_hasMany, Cond.selects RX10 yX10_hasMany yX10_hasMany, Cond.code yX10_hasMany cX10_hasMany 4 (some .int), Cond.methodLink RX10 252 yX10_opens, Cond.instanceMethod yX10_opens, Cond.selects RX10 yX10_opens yX10_opens, Cond.code yX10_opens cX10_opens 6 none, Cond.methodLink RX10 209 yX10_wants, Cond.instanceMethod yX10_wants, Cond.selects RX10 yX10_wants yX10_wants]
def wsL_law_r29 : List Cond := [Cond.code yX10_wants cX10_wants 4 (some .boolean), Cond.methodLink RX10 154 yX10_isNear, Cond.instanceMethod yX10_isNear, Cond.selects RX10 yX10_isNear yX10_isNear, Cond.code yX10_isNear cX10_isNear 3 (some .boolean), Cond.methodLink RX10 157 yX10_tells, Cond.instanceMethod yX10_tells, Cond.selects RX10 yX10_tells yX10_tells, Cond.code yX10_tells cX10_tells 3 (some .boolean), Cond.methodLink RX10 212 yX10_late, Cond.instanceMethod yX10_late, Cond.selects RX10 yX10_late yX10_late, Cond.code yX10_late cX10_late 3 (some .int), Cond.methodLink RX10 255 yX10_forgets, Cond.instanceMethod yX10_forgets, Cond.selects RX10 yX10_forgets yX10_forgets, Cond.code yX10_forgets cX10_forgets 5 none, Cond.methodLink RX10 258 yX10_asks, Cond.instanceMethod yX10_asks, Cond.selects RX10 yX10_asks yX10_asks, Cond.code yX10_asks cX10_asks 8 (some .boolean), Cond.methodLink RX10 224 yX10_nextBlock, Cond.instanceMethod yX10_nextBlock, Cond.selects RX10 yX10_nextBlock yX10_nextBlock]
def wsL_law_r30 : List Cond := [Cond.code yX10_nextBlock cX10_nextBlock 4 (some .int), Cond.methodLink RX10 218 yX10_coming, Cond.instanceMethod yX10_coming, Cond.selects RX10 yX10_coming yX10_coming, Cond.code yX10_coming cX10_coming 6 (some .int), Cond.methodLink RX10 227 yX10_bound, Cond.instanceMethod yX10_bound, Cond.selects RX10 yX10_bound yX10_bound, Cond.code yX10_bound cX10_bound 5 (some .int), Cond.methodLink RX10 231 yX10_giver, Cond.instanceMethod yX10_giver, Cond.selects RX10 yX10_giver yX10_giver, Cond.code yX10_giver cX10_giver 7 (some .int), Cond.methodLink RX10 215 yX10_isGiver, Cond.instanceMethod yX10_isGiver, Cond.selects RX10 yX10_isGiver yX10_isGiver, Cond.code yX10_isGiver cX10_isGiver 3 (some .boolean), Cond.methodLink RX10 235 yX10_isBegun, Cond.instanceMethod yX10_isBegun, Cond.selects RX10 yX10_isBegun yX10_isBegun, Cond.code yX10_isBegun cX10_isBegun 5 (some .boolean), Cond.methodLink RX10 238 yX10_tellers, Cond.instanceMethod yX10_tellers, Cond.selects RX10 yX10_tellers yX10_tellers]
def wsL_law_r31 : List Cond := [Cond.code yX10_tellers cX10_tellers 5 (some .int), Cond.methodLink RX10 241 yX10_sends, Cond.instanceMethod yX10_sends, Cond.selects RX10 yX10_sends yX10_sends, Cond.code yX10_sends cX10_sends 5 none, Cond.methodLink RX10 245 yX10_senderOf, Cond.instanceMethod yX10_senderOf, Cond.selects RX10 yX10_senderOf yX10_senderOf, Cond.code yX10_senderOf cX10_senderOf 5 (some .int), Cond.methodLink RL 55 yX9_about, Cond.instanceMethod yX9_about, Cond.selects RX9 yX9_about yX9_about, Cond.code yX9_about cX9_about 4 (some .int), Cond.fieldLink RX9 136 "PieceSwarm$Member" "store" "LPieceSwarm$Store;", Cond.fieldLink RX9 140 "PieceSwarm$Store" "has" "I", Cond.fieldLink RX9 154 "PieceSwarm$Member" "came" "I", Cond.fieldLink RX9 157 "PieceSwarm$Member" "sent" "I", Cond.fieldLink RX9 160 "PieceSwarm$Member" "spare" "I", Cond.fieldLink RX9 163 "PieceSwarm$Member" "failed" "I", Cond.fieldLink RX9 166 "PieceSwarm$Store" "marked" "I", Cond.fieldLink RX9 169 "PieceSwarm$Member" "doneTick" "I", Cond.fieldLink RX9 172 "PieceSwarm$Store" "comingInAll" "I", Cond.fieldLink RX9 175 "PieceSwarm$Ties" "banned" "I", Cond.fieldLink RX9 178 "PieceSwarm$Ties" "open" "I"]
def wsL_law_r32 : List Cond := [Cond.methodLink RX9 132 yX9_oneIf, Cond.methodLink RX9 145 yJ6_bitCount_0f7a4, Cond.methodLink RX9 150 yX6_heldInAll, Cond.instanceMethod yX6_heldInAll, Cond.selects RX6 yX6_heldInAll yX6_heldInAll, Cond.code yX6_heldInAll cX6_heldInAll 3 (some .int), Cond.methodLink RX6 55 yX6_heldOf, Cond.methodLink RL 58 yX10_about, Cond.instanceMethod yX10_about, Cond.selects RX10 yX10_about yX10_about, Cond.code yX10_about cX10_about 3 (some .int), Cond.methodLink RX10 267 yX10_holdsMany, Cond.instanceMethod yX10_holdsMany, Cond.selects RX10 yX10_holdsMany yX10_holdsMany, Cond.code yX10_holdsMany cX10_holdsMany 4 (some .int), Cond.methodLink RX10 270 yX10_count, Cond.instanceMethod yX10_count, Cond.selects RX10 yX10_count yX10_count, Cond.code yX10_count cX10_count 6 (some .int), Cond.methodLink RX10 274 yX10_comingTo, Cond.instanceMethod yX10_comingTo, Cond.selects RX10 yX10_comingTo yX10_comingTo, Cond.code yX10_comingTo cX10_comingTo 4 (some .int), Cond.methodLink RX10 277 yX10_openTo]
def wsL_law_r33 : List Cond := [Cond.instanceMethod yX10_openTo, Cond.selects RX10 yX10_openTo yX10_openTo, Cond.code yX10_openTo cX10_openTo 4 (some .int), Cond.methodLink RX10 264 yX10_isOpenTo, Cond.instanceMethod yX10_isOpenTo, Cond.selects RX10 yX10_isOpenTo yX10_isOpenTo, Cond.code yX10_isOpenTo cX10_isOpenTo 3 (some .boolean), Cond.methodLink RL 59 yX9_held, Cond.instanceMethod yX9_held, Cond.selects RX9 yX9_held yX9_held, Cond.code yX9_held cX9_held 4 (some .int), Cond.fieldLink RX9 181 "PieceSwarm$Whole" "blocks" "I", Cond.methodLink RX9 184 yX6_heldOf, Cond.methodLink RL 62 yX10_held, Cond.instanceMethod yX10_held, Cond.selects RX10 yX10_held yX10_held, Cond.code yX10_held cX10_held 3 (some .int), Cond.methodLink RL 63 yX9_from, Cond.instanceMethod yX9_from, Cond.selects RX9 yX9_from yX9_from, Cond.code yX9_from cX9_from 4 (some .int), Cond.fieldLink RX9 187 "PieceSwarm$Store" "givers" "[I", Cond.methodLink RX9 191 yX9_place, Cond.methodLink RL 66 yX10_from]
def wsL_law_r34 : List Cond := [Cond.instanceMethod yX10_from, Cond.selects RX10 yX10_from yX10_from, Cond.code yX10_from cX10_from 4 (some .int), Cond.methodLink RL 67 yX9_got, Cond.instanceMethod yX9_got, Cond.selects RX9 yX9_got yX9_got, Cond.code yX9_got cX9_got 6 (some .int), Cond.fieldLink RX9 197 "PieceSwarm$Store" "values" "[I", Cond.methodLink RX9 194 yX6_holds, Cond.methodLink RL 70 yX10_got, Cond.instanceMethod yX10_got, Cond.selects RX10 yX10_got yX10_got, Cond.code yX10_got cX10_got 4 (some .int), Cond.methodLink RL 71 yX9_rare, Cond.instanceMethod yX9_rare, Cond.selects RX9 yX9_rare yX9_rare, Cond.code yX9_rare cX9_rare 3 (some .int), Cond.methodLink RX9 200 yX2_nearTo, Cond.methodLink RX9 203 yX2_tellersAmong, Cond.methodLink RL 74 yX10_rare, Cond.instanceMethod yX10_rare, Cond.selects RX10 yX10_rare yX10_rare, Cond.code yX10_rare cX10_rare 3 (some .int), Cond.methodLink RL 75 yX9_pair]
def wsL_law_r35 : List Cond := [Cond.instanceMethod yX9_pair, Cond.selects RX9 yX9_pair yX9_pair, Cond.code yX9_pair cX9_pair 5 (some .int), Cond.fieldLink RX9 212 "PieceSwarm$Ties" "sent" "[I", Cond.fieldLink RX9 214 "PieceSwarm$Ties" "doubts" "[I", Cond.fieldLink RX9 217 "PieceSwarm$Ties" "openedByTurns" "I", Cond.methodLink RX9 206 yX2_wantersOf, Cond.methodLink RX9 209 yX3_lateNumberOf, Cond.methodLink RL 78 yX10_pair, Cond.instanceMethod yX10_pair, Cond.selects RX10 yX10_pair yX10_pair, Cond.code yX10_pair cX10_pair 4 (some .int), Cond.methodLink RL 79 yX9_alone, Cond.instanceMethod yX9_alone, Cond.selects RX9 yX9_alone yX9_alone, Cond.code yX9_alone cX9_alone 2 (some .int), Cond.methodLink RX9 220 yX8_allPieces, Cond.methodLink RX9 223 yX2_hadByOthersThan, Cond.instanceMethod yX2_hadByOthersThan, Cond.selects RX2 yX2_hadByOthersThan yX2_hadByOthersThan, Cond.code yX2_hadByOthersThan cX2_hadByOthersThan 4 (some .int), Cond.methodLink RL 82 yX10_alone, Cond.instanceMethod yX10_alone, Cond.selects RX10 yX10_alone yX10_alone]
def wsL_law_r36 : List Cond := [Cond.code yX10_alone cX10_alone 4 (some .int), Cond.methodLink RX10 280 yX10_owners, Cond.instanceMethod yX10_owners, Cond.selects RX10 yX10_owners yX10_owners, Cond.code yX10_owners cX10_owners 5 (some .int), Cond.methodLink RL 83 yX9_bound, Cond.instanceMethod yX9_bound, Cond.selects RX9 yX9_bound yX9_bound, Cond.code yX9_bound cX9_bound 8 (some .int), Cond.fieldLink RX9 230 "PieceSwarm$Whole" "pieces" "I", Cond.fieldLink RX9 233 "PieceSwarm$Member" "up" "I", Cond.fieldLink RX9 242 "PieceSwarm$Member" "down" "I", Cond.methodLink RX9 245 Lib.Math.max.name, Cond.static Lib.Math.max.name, Cond.initialized "java/lang/Math", Cond.code Lib.Math.max.name Lib.Math.max.code 2 (some .int), Cond.methodLink RX9 226 yX3_isDone, Cond.methodLink RX9 236 yX9_cutUp, Cond.static yX9_cutUp, Cond.code yX9_cutUp cX9_cutUp 2 (some .int), Cond.methodLink RX9 239 yX6_isBare, Cond.instanceMethod yX6_isBare, Cond.selects RX6 yX6_isBare yX6_isBare, Cond.code yX6_isBare cX6_isBare 1 (some .boolean)]
def wsL_law_r37 : List Cond := [Cond.methodLink RX6 62 yX6_heldInAll, Cond.methodLink RL 86 yX10_bound_, Cond.instanceMethod yX10_bound_, Cond.selects RX10 yX10_bound_ yX10_bound_, Cond.code yX10_bound_ cX10_bound_ 7 (some .int), Cond.methodLink RX10 283 yX10_share, Cond.static yX10_share, Cond.code yX10_share cX10_share 2 (some .int), Cond.methodLink RL 87 yX9_count, Cond.instanceMethod yX9_count, Cond.selects RX9 yX9_count yX9_count, Cond.code yX9_count cX9_count 2 (some .int), Cond.fieldLink RX9 253 "PieceSwarm$Crowd" "road" "LPieceSwarm$Road;", Cond.fieldLink RX9 257 "PieceSwarm$Road" "length" "I", Cond.fieldLink RX9 262 "PieceSwarm$Crowd" "lostInAll" "I", Cond.methodLink RX9 250 yX2_doneAndHere, Cond.instanceMethod yX2_doneAndHere, Cond.selects RX2 yX2_doneAndHere yX2_doneAndHere, Cond.code yX2_doneAndHere cX2_doneAndHere 3 (some .int), Cond.methodLink RX2 128 yX3_isDone, Cond.methodLink RX9 265 yX2_failedInAll, Cond.instanceMethod yX2_failedInAll, Cond.selects RX2 yX2_failedInAll yX2_failedInAll, Cond.code yX2_failedInAll cX2_failedInAll 3 (some .int)]
def wsL_law_r38 : List Cond := [Cond.fieldLink RX2 136 "PieceSwarm$Member" "failed" "I", Cond.methodLink RX9 268 yX2_spareInAll, Cond.instanceMethod yX2_spareInAll, Cond.selects RX2 yX2_spareInAll yX2_spareInAll, Cond.code yX2_spareInAll cX2_spareInAll 3 (some .int), Cond.fieldLink RX2 139 "PieceSwarm$Member" "spare" "I", Cond.methodLink RL 90 yX10_count_, Cond.instanceMethod yX10_count_, Cond.selects RX10 yX10_count_ yX10_count_, Cond.code yX10_count_ cX10_count_ 4 (some .int)]
def wsL_law : List Cond := (wsL_law_r1 ++ (wsL_law_r2 ++ (wsL_law_r3 ++ (wsL_law_r4 ++ (wsL_law_r5 ++ (wsL_law_r6 ++ (wsL_law_r7 ++ (wsL_law_r8 ++ (wsL_law_r9 ++ (wsL_law_r10 ++ (wsL_law_r11 ++ (wsL_law_r12 ++ (wsL_law_r13 ++ (wsL_law_r14 ++ (wsL_law_r15 ++ (wsL_law_r16 ++ (wsL_law_r17 ++ (wsL_law_r18 ++ (wsL_law_r19 ++ (wsL_law_r20 ++ (wsL_law_r21 ++ (wsL_law_r22 ++ (wsL_law_r23 ++ (wsL_law_r24 ++ (wsL_law_r25 ++ (wsL_law_r26 ++ (wsL_law_r27 ++ (wsL_law_r28 ++ (wsL_law_r29 ++ (wsL_law_r30 ++ (wsL_law_r31 ++ (wsL_law_r32 ++ (wsL_law_r33 ++ (wsL_law_r34 ++ (wsL_law_r35 ++ (wsL_law_r36 ++ (wsL_law_r37 ++ wsL_law_r38))))))))))))))))))))))))))))))))))))) ++ wsX90 ++ wsX100 ++ wsX20 ++ wsX00 ++ wsX40 ++ wsX10 ++ wsX80 ++ wsX50 ++ wsX30 ++ wsX60 ++ wsX70 ++ ([] : List Cond)
end
section
theorem dX0_init_0 : decode cX0_init 0 = .ok (.aload_n 0, 1) := by decide +kernel
theorem dX0_init_1 : decode cX0_init 1 = .ok (.invokespecial 1, 3) := by decide +kernel
theorem dX0_init_4 : decode cX0_init 4 = .ok (.aload_n 0, 1) := by decide +kernel
theorem dX0_init_5 : decode cX0_init 5 = .ok (.aload_n 1, 1) := by decide +kernel
theorem dX0_init_6 : decode cX0_init 6 = .ok (.putfield 7, 3) := by decide +kernel
theorem dX0_init_9 : decode cX0_init 9 = .ok (.return_, 1) := by decide +kernel
set_option maxRecDepth 20000 in
theorem ggX0_takeDue_X0_take : GoodIn wsX0_takeDue wsX0_take := goodIn_r _ [15, 1, 16, 17, 18, 19, 20, 21, 22, 23, 24, 25, 26, 27, 28, 29, 30, 31, 32, 33, 34, 35, 36, 14, 37, 38, 39, 40, 41, 42, 43, 44, 45, 46, 47, 48, 49, 50, 51, 52, 53, 54, 55, 56, 57, 58, 59, 60, 61, 62, 63, 64, 65, 66, 67, 68, 69, 70, 71, 72, 73, 74, 75, 76, 77, 78, 79, 80, 81, 82, 83, 84, 85, 86, 5, 87, 88, 89, 90, 91, 92, 93, 94, 95, 96, 97, 98, 99, 100, 101, 102, 103, 104, 105, 106, 107, 108, 109, 110, 122, 123, 124, 125, 126, 127, 128, 129, 130, 138, 139, 140, 141, 142, 143, 144, 145, 146, 147, 148, 149, 150, 151, 152, 153, 154, 155, 156, 157, 158, 159, 160, 161, 162, 163, 164, 165, 166, 167, 168, 169] (by decide +kernel) (by decide +kernel)
set_option maxRecDepth 20000 in
theorem gX0_takeDue_X0_take : GoodIn wsX0_takeDue (wsV RX0 47 RX0 yX0_take wsX0_take) := goodIn_app (goodIn_of _ (by decide +kernel)) ggX0_takeDue_X0_take
set_option maxRecDepth 20000 in
theorem ggX0_takeDue_X5_move : GoodIn wsX0_takeDue wsX5_move := goodIn_r _ [115, 116, 117, 118, 119, 120, 121, 131, 132, 133, 134, 135, 136, 137] (by decide +kernel) (by decide +kernel)
set_option maxRecDepth 20000 in
theorem gX0_takeDue_X5_move : GoodIn wsX0_takeDue (wsV RX0 51 RX5 yX5_move wsX5_move) := goodIn_app (goodIn_of _ (by decide +kernel)) ggX0_takeDue_X5_move
theorem dX0_takeDue_0 : decode cX0_takeDue 0 = .ok (.aload_n 0, 1) := by decide +kernel
theorem dX0_takeDue_1 : decode cX0_takeDue 1 = .ok (.getfield 7, 3) := by decide +kernel
theorem dX0_takeDue_4 : decode cX0_takeDue 4 = .ok (.getfield 13, 3) := by decide +kernel
theorem dX0_takeDue_7 : decode cX0_takeDue 7 = .ok (.astore_n 1, 1) := by decide +kernel
theorem dX0_takeDue_8 : decode cX0_takeDue 8 = .ok (.iconst 0, 1) := by decide +kernel
theorem dX0_takeDue_9 : decode cX0_takeDue 9 = .ok (.istore_n 2, 1) := by decide +kernel
theorem dX0_takeDue_10 : decode cX0_takeDue 10 = .ok (.iconst 0, 1) := by decide +kernel
theorem dX0_takeDue_11 : decode cX0_takeDue 11 = .ok (.istore_n 3, 1) := by decide +kernel
theorem dX0_takeDue_12 : decode cX0_takeDue 12 = .ok (.iload_n 3, 1) := by decide +kernel
theorem dX0_takeDue_13 : decode cX0_takeDue 13 = .ok (.aload_n 1, 1) := by decide +kernel
theorem dX0_takeDue_14 : decode cX0_takeDue 14 = .ok (.getfield 19, 3) := by decide +kernel
theorem dX0_takeDue_17 : decode cX0_takeDue 17 = .ok (.if_icmp .ge 71, 3) := by decide +kernel
theorem dX0_takeDue_20 : decode cX0_takeDue 20 = .ok (.aload_n 1, 1) := by decide +kernel
theorem dX0_takeDue_21 : decode cX0_takeDue 21 = .ok (.getfield 25, 3) := by decide +kernel
theorem dX0_takeDue_24 : decode cX0_takeDue 24 = .ok (.iload_n 3, 1) := by decide +kernel
theorem dX0_takeDue_25 : decode cX0_takeDue 25 = .ok (.iaload, 1) := by decide +kernel
theorem dX0_takeDue_26 : decode cX0_takeDue 26 = .ok (.aload_n 0, 1) := by decide +kernel
theorem dX0_takeDue_27 : decode cX0_takeDue 27 = .ok (.getfield 7, 3) := by decide +kernel
theorem dX0_takeDue_30 : decode cX0_takeDue 30 = .ok (.getfield 29, 3) := by decide +kernel
theorem dX0_takeDue_33 : decode cX0_takeDue 33 = .ok (.if_icmp .gt 40, 3) := by decide +kernel
theorem dX0_takeDue_36 : decode cX0_takeDue 36 = .ok (.aload_n 0, 1) := by decide +kernel
theorem dX0_takeDue_37 : decode cX0_takeDue 37 = .ok (.aload_n 1, 1) := by decide +kernel
theorem dX0_takeDue_38 : decode cX0_takeDue 38 = .ok (.getfield 32, 3) := by decide +kernel
theorem dX0_takeDue_41 : decode cX0_takeDue 41 = .ok (.iload_n 3, 1) := by decide +kernel
theorem dX0_takeDue_42 : decode cX0_takeDue 42 = .ok (.iaload, 1) := by decide +kernel
theorem dX0_takeDue_43 : decode cX0_takeDue 43 = .ok (.aload_n 1, 1) := by decide +kernel
theorem dX0_takeDue_44 : decode cX0_takeDue 44 = .ok (.getfield 35, 3) := by decide +kernel
theorem dX0_takeDue_47 : decode cX0_takeDue 47 = .ok (.iload_n 3, 1) := by decide +kernel
theorem dX0_takeDue_48 : decode cX0_takeDue 48 = .ok (.iaload, 1) := by decide +kernel
theorem dX0_takeDue_49 : decode cX0_takeDue 49 = .ok (.aload_n 1, 1) := by decide +kernel
theorem dX0_takeDue_50 : decode cX0_takeDue 50 = .ok (.getfield 38, 3) := by decide +kernel
theorem dX0_takeDue_53 : decode cX0_takeDue 53 = .ok (.iload_n 3, 1) := by decide +kernel
theorem dX0_takeDue_54 : decode cX0_takeDue 54 = .ok (.iaload, 1) := by decide +kernel
theorem dX0_takeDue_55 : decode cX0_takeDue 55 = .ok (.aload_n 1, 1) := by decide +kernel
theorem dX0_takeDue_56 : decode cX0_takeDue 56 = .ok (.getfield 41, 3) := by decide +kernel
theorem dX0_takeDue_59 : decode cX0_takeDue 59 = .ok (.iload_n 3, 1) := by decide +kernel
theorem dX0_takeDue_60 : decode cX0_takeDue 60 = .ok (.iaload, 1) := by decide +kernel
theorem dX0_takeDue_61 : decode cX0_takeDue 61 = .ok (.aload_n 1, 1) := by decide +kernel
theorem dX0_takeDue_62 : decode cX0_takeDue 62 = .ok (.getfield 44, 3) := by decide +kernel
theorem dX0_takeDue_65 : decode cX0_takeDue 65 = .ok (.iload_n 3, 1) := by decide +kernel
theorem dX0_takeDue_66 : decode cX0_takeDue 66 = .ok (.iaload, 1) := by decide +kernel
theorem dX0_takeDue_67 : decode cX0_takeDue 67 = .ok (.invokevirtual 47, 3) := by decide +kernel
theorem dX0_takeDue_70 : decode cX0_takeDue 70 = .ok (.goto 12, 3) := by decide +kernel
theorem dX0_takeDue_73 : decode cX0_takeDue 73 = .ok (.aload_n 1, 1) := by decide +kernel
theorem dX0_takeDue_74 : decode cX0_takeDue 74 = .ok (.iload_n 3, 1) := by decide +kernel
theorem dX0_takeDue_75 : decode cX0_takeDue 75 = .ok (.iload_n 2, 1) := by decide +kernel
theorem dX0_takeDue_76 : decode cX0_takeDue 76 = .ok (.invokevirtual 51, 3) := by decide +kernel
theorem dX0_takeDue_79 : decode cX0_takeDue 79 = .ok (.iinc 2 1, 3) := by decide +kernel
theorem dX0_takeDue_82 : decode cX0_takeDue 82 = .ok (.iinc 3 1, 3) := by decide +kernel
theorem dX0_takeDue_85 : decode cX0_takeDue 85 = .ok (.goto (-73), 3) := by decide +kernel
theorem dX0_takeDue_88 : decode cX0_takeDue 88 = .ok (.aload_n 1, 1) := by decide +kernel
theorem dX0_takeDue_89 : decode cX0_takeDue 89 = .ok (.iload_n 2, 1) := by decide +kernel
theorem dX0_takeDue_90 : decode cX0_takeDue 90 = .ok (.putfield 19, 3) := by decide +kernel
theorem dX0_takeDue_93 : decode cX0_takeDue 93 = .ok (.return_, 1) := by decide +kernel
set_option maxRecDepth 20000 in
theorem ggX0_take_X6_expectNoMore : GoodIn wsX0_take wsX6_expectNoMore := goodIn_r _ [14, 15, 16, 17, 18, 19, 134, 135, 136, 137, 138, 139] (by decide +kernel) (by decide +kernel)
set_option maxRecDepth 20000 in
theorem gX0_take_X6_expectNoMore : GoodIn wsX0_take (wsV RX0 65 RX6 yX6_expectNoMore wsX6_expectNoMore) := goodIn_app (goodIn_of _ (by decide +kernel)) ggX0_take_X6_expectNoMore
set_option maxRecDepth 20000 in
theorem ggX0_take_X0_isSpare : GoodIn wsX0_take wsX0_isSpare := goodIn_r _ [24, 25, 26, 27, 18, 28, 29, 30, 31, 13, 32, 33, 34, 17, 19, 35, 36, 37, 38, 134, 135, 136, 137, 138, 139] (by decide +kernel) (by decide +kernel)
set_option maxRecDepth 20000 in
theorem gX0_take_X0_isSpare : GoodIn wsX0_take (wsV RX0 82 RX0 yX0_isSpare wsX0_isSpare) := goodIn_app (goodIn_of _ (by decide +kernel)) ggX0_take_X0_isSpare
set_option maxRecDepth 20000 in
theorem ggX0_take_X6_put : GoodIn wsX0_take wsX6_put := goodIn_r _ [42, 34, 43, 17, 18, 19, 134, 135, 136, 137, 138, 139] (by decide +kernel) (by decide +kernel)
set_option maxRecDepth 20000 in
theorem gX0_take_X6_put : GoodIn wsX0_take (wsV RX0 89 RX6 yX6_put wsX6_put) := goodIn_app (goodIn_of _ (by decide +kernel)) ggX0_take_X6_put
set_option maxRecDepth 20000 in
theorem ggX0_take_X6_heldOf : GoodIn wsX0_take wsX6_heldOf := goodIn_r _ [47, 48, 30, 31, 13, 32, 33, 34, 27, 18, 28, 17, 19, 49, 50, 134, 135, 136, 137, 138, 139] (by decide +kernel) (by decide +kernel)
set_option maxRecDepth 20000 in
theorem gX0_take_X6_heldOf : GoodIn wsX0_take (wsV RX0 93 RX6 yX6_heldOf wsX6_heldOf) := goodIn_app (goodIn_of _ (by decide +kernel)) ggX0_take_X6_heldOf
set_option maxRecDepth 20000 in
theorem ggX0_take_X6_sumOf : GoodIn wsX0_take wsX6_sumOf := goodIn_r _ [54, 43, 17, 18, 19, 55, 56, 57, 134, 135, 136, 137, 138, 139] (by decide +kernel) (by decide +kernel)
set_option maxRecDepth 20000 in
theorem gX0_take_X6_sumOf : GoodIn wsX0_take (wsV RX0 105 RX6 yX6_sumOf wsX6_sumOf) := goodIn_app (goodIn_of _ (by decide +kernel)) ggX0_take_X6_sumOf
set_option maxRecDepth 20000 in
theorem ggX0_take_X8_sumOf : GoodIn wsX0_take wsX8_sumOf := goodIn_r _ [62, 63, 64, 65, 66, 61, 67, 68, 69, 55, 18, 56, 57, 131, 132, 133] (by decide +kernel) (by decide +kernel)
set_option maxRecDepth 20000 in
theorem gX0_take_X8_sumOf : GoodIn wsX0_take (wsV RX0 109 RX8 yX8_sumOf wsX8_sumOf) := goodIn_app (goodIn_of _ (by decide +kernel)) ggX0_take_X8_sumOf
set_option maxRecDepth 20000 in
theorem ggX0_take_X0_complete : GoodIn wsX0_take wsX0_complete := goodIn_r _ [73, 3, 25, 1, 8, 74, 75, 76, 77, 78, 61, 79, 80, 108, 109, 110, 111, 112, 113, 114, 115, 116, 117, 118, 119, 120, 134, 135, 136, 137, 138, 139, 99, 100, 101, 102, 103, 104, 105, 106, 107, 131, 132, 133] (by decide +kernel) (by decide +kernel)
set_option maxRecDepth 20000 in
theorem gX0_take_X0_complete : GoodIn wsX0_take (wsV RX0 111 RX0 yX0_complete wsX0_complete) := goodIn_app (goodIn_of _ (by decide +kernel)) ggX0_take_X0_complete
set_option maxRecDepth 20000 in
theorem ggX0_take_X0_fail : GoodIn wsX0_take wsX0_fail := goodIn_r _ [84, 1, 2, 3, 85, 5, 86, 26, 87, 35, 36, 37, 13, 38, 34, 17, 18, 19, 27, 28, 88, 89, 90, 23, 91, 92, 93, 94, 95, 96, 97, 98, 99, 100, 101, 102, 103, 104, 105, 106, 107, 108, 109, 110, 111, 112, 113, 114, 115, 116, 117, 118, 119, 120, 121, 122, 123, 124, 125, 126, 127, 128, 129, 130, 134, 135, 136, 137, 138, 139] (by decide +kernel) (by decide +kernel)
set_option maxRecDepth 20000 in
theorem gX0_take_X0_fail : GoodIn wsX0_take (wsV RX0 115 RX0 yX0_fail wsX0_fail) := goodIn_app (goodIn_of _ (by decide +kernel)) ggX0_take_X0_fail
theorem dX0_take_0 : decode cX0_take 0 = .ok (.aload_n 0, 1) := by decide +kernel
theorem dX0_take_1 : decode cX0_take 1 = .ok (.getfield 7, 3) := by decide +kernel
theorem dX0_take_4 : decode cX0_take 4 = .ok (.getfield 55, 3) := by decide +kernel
theorem dX0_take_7 : decode cX0_take 7 = .ok (.iload_n 1, 1) := by decide +kernel
theorem dX0_take_8 : decode cX0_take 8 = .ok (.aaload, 1) := by decide +kernel
theorem dX0_take_9 : decode cX0_take 9 = .ok (.astore 6, 2) := by decide +kernel
theorem dX0_take_11 : decode cX0_take 11 = .ok (.aload 6, 2) := by decide +kernel
theorem dX0_take_13 : decode cX0_take 13 = .ok (.getfield 59, 3) := by decide +kernel
theorem dX0_take_16 : decode cX0_take 16 = .ok (.astore 7, 2) := by decide +kernel
theorem dX0_take_18 : decode cX0_take 18 = .ok (.aload 7, 2) := by decide +kernel
theorem dX0_take_20 : decode cX0_take 20 = .ok (.iload_n 3, 1) := by decide +kernel
theorem dX0_take_21 : decode cX0_take 21 = .ok (.iload 4, 2) := by decide +kernel
theorem dX0_take_23 : decode cX0_take 23 = .ok (.invokevirtual 65, 3) := by decide +kernel
theorem dX0_take_26 : decode cX0_take 26 = .ok (.aload 6, 2) := by decide +kernel
theorem dX0_take_28 : decode cX0_take 28 = .ok (.dup, 1) := by decide +kernel
theorem dX0_take_29 : decode cX0_take 29 = .ok (.getfield 70, 3) := by decide +kernel
theorem dX0_take_32 : decode cX0_take 32 = .ok (.iconst 1, 1) := by decide +kernel
theorem dX0_take_33 : decode cX0_take 33 = .ok (.iadd, 1) := by decide +kernel
theorem dX0_take_34 : decode cX0_take 34 = .ok (.putfield 70, 3) := by decide +kernel
theorem dX0_take_37 : decode cX0_take 37 = .ok (.aload 6, 2) := by decide +kernel
theorem dX0_take_39 : decode cX0_take 39 = .ok (.getfield 73, 3) := by decide +kernel
theorem dX0_take_42 : decode cX0_take 42 = .ok (.getfield 77, 3) := by decide +kernel
theorem dX0_take_45 : decode cX0_take 45 = .ok (.iload_n 2, 1) := by decide +kernel
theorem dX0_take_46 : decode cX0_take 46 = .ok (.dup2, 1) := by decide +kernel
theorem dX0_take_47 : decode cX0_take 47 = .ok (.iaload, 1) := by decide +kernel
theorem dX0_take_48 : decode cX0_take 48 = .ok (.iconst 1, 1) := by decide +kernel
theorem dX0_take_49 : decode cX0_take 49 = .ok (.iadd, 1) := by decide +kernel
theorem dX0_take_50 : decode cX0_take 50 = .ok (.iastore, 1) := by decide +kernel
theorem dX0_take_51 : decode cX0_take 51 = .ok (.aload_n 0, 1) := by decide +kernel
theorem dX0_take_52 : decode cX0_take 52 = .ok (.aload 7, 2) := by decide +kernel
theorem dX0_take_54 : decode cX0_take 54 = .ok (.iload_n 2, 1) := by decide +kernel
theorem dX0_take_55 : decode cX0_take 55 = .ok (.iload_n 3, 1) := by decide +kernel
theorem dX0_take_56 : decode cX0_take 56 = .ok (.iload 4, 2) := by decide +kernel
theorem dX0_take_58 : decode cX0_take 58 = .ok (.invokevirtual 82, 3) := by decide +kernel
theorem dX0_take_61 : decode cX0_take 61 = .ok (.ifCond .eq 15, 3) := by decide +kernel
theorem dX0_take_64 : decode cX0_take 64 = .ok (.aload 6, 2) := by decide +kernel
theorem dX0_take_66 : decode cX0_take 66 = .ok (.dup, 1) := by decide +kernel
theorem dX0_take_67 : decode cX0_take 67 = .ok (.getfield 86, 3) := by decide +kernel
theorem dX0_take_70 : decode cX0_take 70 = .ok (.iconst 1, 1) := by decide +kernel
theorem dX0_take_71 : decode cX0_take 71 = .ok (.iadd, 1) := by decide +kernel
theorem dX0_take_72 : decode cX0_take 72 = .ok (.putfield 86, 3) := by decide +kernel
theorem dX0_take_75 : decode cX0_take 75 = .ok (.return_, 1) := by decide +kernel
theorem dX0_take_76 : decode cX0_take 76 = .ok (.aload 7, 2) := by decide +kernel
theorem dX0_take_78 : decode cX0_take 78 = .ok (.iload_n 3, 1) := by decide +kernel
theorem dX0_take_79 : decode cX0_take 79 = .ok (.iload 4, 2) := by decide +kernel
theorem dX0_take_81 : decode cX0_take 81 = .ok (.iload_n 2, 1) := by decide +kernel
theorem dX0_take_82 : decode cX0_take 82 = .ok (.iload 5, 2) := by decide +kernel
theorem dX0_take_84 : decode cX0_take 84 = .ok (.invokevirtual 89, 3) := by decide +kernel
theorem dX0_take_87 : decode cX0_take 87 = .ok (.aload 7, 2) := by decide +kernel
theorem dX0_take_89 : decode cX0_take 89 = .ok (.iload_n 3, 1) := by decide +kernel
theorem dX0_take_90 : decode cX0_take 90 = .ok (.invokevirtual 93, 3) := by decide +kernel
theorem dX0_take_93 : decode cX0_take 93 = .ok (.aload_n 0, 1) := by decide +kernel
theorem dX0_take_94 : decode cX0_take 94 = .ok (.getfield 7, 3) := by decide +kernel
theorem dX0_take_97 : decode cX0_take 97 = .ok (.getfield 97, 3) := by decide +kernel
theorem dX0_take_100 : decode cX0_take 100 = .ok (.getfield 101, 3) := by decide +kernel
theorem dX0_take_103 : decode cX0_take 103 = .ok (.if_icmp .ge 4, 3) := by decide +kernel
theorem dX0_take_106 : decode cX0_take 106 = .ok (.return_, 1) := by decide +kernel
theorem dX0_take_107 : decode cX0_take 107 = .ok (.aload 7, 2) := by decide +kernel
theorem dX0_take_109 : decode cX0_take 109 = .ok (.iload_n 3, 1) := by decide +kernel
theorem dX0_take_110 : decode cX0_take 110 = .ok (.aload_n 0, 1) := by decide +kernel
theorem dX0_take_111 : decode cX0_take 111 = .ok (.getfield 7, 3) := by decide +kernel
theorem dX0_take_114 : decode cX0_take 114 = .ok (.getfield 97, 3) := by decide +kernel
theorem dX0_take_117 : decode cX0_take 117 = .ok (.getfield 101, 3) := by decide +kernel
theorem dX0_take_120 : decode cX0_take 120 = .ok (.invokevirtual 105, 3) := by decide +kernel
theorem dX0_take_123 : decode cX0_take 123 = .ok (.aload_n 0, 1) := by decide +kernel
theorem dX0_take_124 : decode cX0_take 124 = .ok (.getfield 7, 3) := by decide +kernel
theorem dX0_take_127 : decode cX0_take 127 = .ok (.getfield 97, 3) := by decide +kernel
theorem dX0_take_130 : decode cX0_take 130 = .ok (.iload_n 3, 1) := by decide +kernel
theorem dX0_take_131 : decode cX0_take 131 = .ok (.invokevirtual 109, 3) := by decide +kernel
theorem dX0_take_134 : decode cX0_take 134 = .ok (.if_icmp .ne 13, 3) := by decide +kernel
theorem dX0_take_137 : decode cX0_take 137 = .ok (.aload_n 0, 1) := by decide +kernel
theorem dX0_take_138 : decode cX0_take 138 = .ok (.aload 6, 2) := by decide +kernel
theorem dX0_take_140 : decode cX0_take 140 = .ok (.iload_n 3, 1) := by decide +kernel
theorem dX0_take_141 : decode cX0_take 141 = .ok (.invokevirtual 111, 3) := by decide +kernel
theorem dX0_take_144 : decode cX0_take 144 = .ok (.goto 9, 3) := by decide +kernel
theorem dX0_take_147 : decode cX0_take 147 = .ok (.aload_n 0, 1) := by decide +kernel
theorem dX0_take_148 : decode cX0_take 148 = .ok (.iload_n 1, 1) := by decide +kernel
theorem dX0_take_149 : decode cX0_take 149 = .ok (.iload_n 3, 1) := by decide +kernel
theorem dX0_take_150 : decode cX0_take 150 = .ok (.invokevirtual 115, 3) := by decide +kernel
theorem dX0_take_153 : decode cX0_take 153 = .ok (.return_, 1) := by decide +kernel
set_option maxRecDepth 20000 in
theorem ggX0_isSpare_X9_isIn : GoodIn wsX0_isSpare wsX9_isIn := goodIn_r _ [5] (by decide +kernel) (by decide +kernel)
set_option maxRecDepth 20000 in
theorem gX0_isSpare_X9_isIn_n121 : GoodIn wsX0_isSpare (wsX9_isIn) := ggX0_isSpare_X9_isIn
set_option maxRecDepth 20000 in
theorem ggX0_isSpare_X6_holds : GoodIn wsX0_isSpare wsX6_holds := goodIn_r _ [10, 11, 12, 3, 4, 5, 13, 14, 19, 20, 21, 22, 23, 24] (by decide +kernel) (by decide +kernel)
set_option maxRecDepth 20000 in
theorem gX0_isSpare_X6_holds : GoodIn wsX0_isSpare (wsV RX0 127 RX6 yX6_holds wsX6_holds) := goodIn_app (goodIn_of _ (by decide +kernel)) ggX0_isSpare_X6_holds
set_option maxRecDepth 20000 in
theorem ggX0_isSpare_X6_giversOf : GoodIn wsX0_isSpare wsX6_giversOf := goodIn_r _ [18, 12, 13, 4, 14, 19, 20, 21, 22, 23, 24] (by decide +kernel) (by decide +kernel)
set_option maxRecDepth 20000 in
theorem gX0_isSpare_X6_giversOf : GoodIn wsX0_isSpare (wsV RX0 133 RX6 yX6_giversOf wsX6_giversOf) := goodIn_app (goodIn_of _ (by decide +kernel)) ggX0_isSpare_X6_giversOf
theorem dX0_isSpare_0 : decode cX0_isSpare 0 = .ok (.aload_n 1, 1) := by decide +kernel
theorem dX0_isSpare_1 : decode cX0_isSpare 1 = .ok (.getfield 118, 3) := by decide +kernel
theorem dX0_isSpare_4 : decode cX0_isSpare 4 = .ok (.iload_n 3, 1) := by decide +kernel
theorem dX0_isSpare_5 : decode cX0_isSpare 5 = .ok (.invokestatic 121, 3) := by decide +kernel
theorem dX0_isSpare_8 : decode cX0_isSpare 8 = .ok (.ifCond .ne 13, 3) := by decide +kernel
theorem dX0_isSpare_11 : decode cX0_isSpare 11 = .ok (.aload_n 1, 1) := by decide +kernel
theorem dX0_isSpare_12 : decode cX0_isSpare 12 = .ok (.iload_n 3, 1) := by decide +kernel
theorem dX0_isSpare_13 : decode cX0_isSpare 13 = .ok (.iload 4, 2) := by decide +kernel
theorem dX0_isSpare_15 : decode cX0_isSpare 15 = .ok (.invokevirtual 127, 3) := by decide +kernel
theorem dX0_isSpare_18 : decode cX0_isSpare 18 = .ok (.ifCond .eq 5, 3) := by decide +kernel
theorem dX0_isSpare_21 : decode cX0_isSpare 21 = .ok (.iconst 1, 1) := by decide +kernel
theorem dX0_isSpare_22 : decode cX0_isSpare 22 = .ok (.ireturn, 1) := by decide +kernel
theorem dX0_isSpare_23 : decode cX0_isSpare 23 = .ok (.aload_n 1, 1) := by decide +kernel
theorem dX0_isSpare_24 : decode cX0_isSpare 24 = .ok (.getfield 130, 3) := by decide +kernel
theorem dX0_isSpare_27 : decode cX0_isSpare 27 = .ok (.iload_n 3, 1) := by decide +kernel
theorem dX0_isSpare_28 : decode cX0_isSpare 28 = .ok (.invokestatic 121, 3) := by decide +kernel
theorem dX0_isSpare_31 : decode cX0_isSpare 31 = .ok (.ifCond .eq 21, 3) := by decide +kernel
theorem dX0_isSpare_34 : decode cX0_isSpare 34 = .ok (.aload_n 1, 1) := by decide +kernel
theorem dX0_isSpare_35 : decode cX0_isSpare 35 = .ok (.iload_n 3, 1) := by decide +kernel
theorem dX0_isSpare_36 : decode cX0_isSpare 36 = .ok (.invokevirtual 133, 3) := by decide +kernel
theorem dX0_isSpare_39 : decode cX0_isSpare 39 = .ok (.iconst 1, 1) := by decide +kernel
theorem dX0_isSpare_40 : decode cX0_isSpare 40 = .ok (.iload_n 2, 1) := by decide +kernel
theorem dX0_isSpare_41 : decode cX0_isSpare 41 = .ok (.ishl, 1) := by decide +kernel
theorem dX0_isSpare_42 : decode cX0_isSpare 42 = .ok (.iconst (-1), 1) := by decide +kernel
theorem dX0_isSpare_43 : decode cX0_isSpare 43 = .ok (.ixor, 1) := by decide +kernel
theorem dX0_isSpare_44 : decode cX0_isSpare 44 = .ok (.iand, 1) := by decide +kernel
theorem dX0_isSpare_45 : decode cX0_isSpare 45 = .ok (.ifCond .eq 7, 3) := by decide +kernel
theorem dX0_isSpare_48 : decode cX0_isSpare 48 = .ok (.iconst 1, 1) := by decide +kernel
theorem dX0_isSpare_49 : decode cX0_isSpare 49 = .ok (.goto 4, 3) := by decide +kernel
theorem dX0_isSpare_52 : decode cX0_isSpare 52 = .ok (.iconst 0, 1) := by decide +kernel
theorem dX0_isSpare_53 : decode cX0_isSpare 53 = .ok (.ireturn, 1) := by decide +kernel
set_option maxRecDepth 20000 in
theorem ggX0_complete_X8_allPieces : GoodIn wsX0_complete wsX8_allPieces := goodIn_r _ [11, 12, 41, 42, 43] (by decide +kernel) (by decide +kernel)
set_option maxRecDepth 20000 in
theorem gX0_complete_X8_allPieces : GoodIn wsX0_complete (wsV RX0 136 RX8 yX8_allPieces wsX8_allPieces) := goodIn_app (goodIn_of _ (by decide +kernel)) ggX0_complete_X8_allPieces
theorem dX0_complete_0 : decode cX0_complete 0 = .ok (.aload_n 1, 1) := by decide +kernel
theorem dX0_complete_1 : decode cX0_complete 1 = .ok (.getfield 59, 3) := by decide +kernel
theorem dX0_complete_4 : decode cX0_complete 4 = .ok (.dup, 1) := by decide +kernel
theorem dX0_complete_5 : decode cX0_complete 5 = .ok (.getfield 118, 3) := by decide +kernel
theorem dX0_complete_8 : decode cX0_complete 8 = .ok (.iconst 1, 1) := by decide +kernel
theorem dX0_complete_9 : decode cX0_complete 9 = .ok (.iload_n 2, 1) := by decide +kernel
theorem dX0_complete_10 : decode cX0_complete 10 = .ok (.ishl, 1) := by decide +kernel
theorem dX0_complete_11 : decode cX0_complete 11 = .ok (.ior, 1) := by decide +kernel
theorem dX0_complete_12 : decode cX0_complete 12 = .ok (.putfield 118, 3) := by decide +kernel
theorem dX0_complete_15 : decode cX0_complete 15 = .ok (.aload_n 1, 1) := by decide +kernel
theorem dX0_complete_16 : decode cX0_complete 16 = .ok (.getfield 59, 3) := by decide +kernel
theorem dX0_complete_19 : decode cX0_complete 19 = .ok (.getfield 118, 3) := by decide +kernel
theorem dX0_complete_22 : decode cX0_complete 22 = .ok (.aload_n 0, 1) := by decide +kernel
theorem dX0_complete_23 : decode cX0_complete 23 = .ok (.getfield 7, 3) := by decide +kernel
theorem dX0_complete_26 : decode cX0_complete 26 = .ok (.getfield 97, 3) := by decide +kernel
theorem dX0_complete_29 : decode cX0_complete 29 = .ok (.invokevirtual 136, 3) := by decide +kernel
theorem dX0_complete_32 : decode cX0_complete 32 = .ok (.if_icmp .ne 14, 3) := by decide +kernel
theorem dX0_complete_35 : decode cX0_complete 35 = .ok (.aload_n 1, 1) := by decide +kernel
theorem dX0_complete_36 : decode cX0_complete 36 = .ok (.aload_n 0, 1) := by decide +kernel
theorem dX0_complete_37 : decode cX0_complete 37 = .ok (.getfield 7, 3) := by decide +kernel
theorem dX0_complete_40 : decode cX0_complete 40 = .ok (.getfield 29, 3) := by decide +kernel
theorem dX0_complete_43 : decode cX0_complete 43 = .ok (.putfield 140, 3) := by decide +kernel
theorem dX0_complete_46 : decode cX0_complete 46 = .ok (.return_, 1) := by decide +kernel
set_option maxRecDepth 20000 in
theorem ggX0_fail_X6_giversOf : GoodIn wsX0_fail wsX6_giversOf := goodIn_r _ [13, 14, 15, 16, 17, 64, 65, 66, 67, 68, 69] (by decide +kernel) (by decide +kernel)
set_option maxRecDepth 20000 in
theorem gX0_fail_X6_giversOf : GoodIn wsX0_fail (wsV RX0 133 RX6 yX6_giversOf wsX6_giversOf) := goodIn_app (goodIn_of _ (by decide +kernel)) ggX0_fail_X6_giversOf
set_option maxRecDepth 20000 in
theorem ggX0_fail_X9_isIn : GoodIn wsX0_fail wsX9_isIn := goodIn_r _ [19] (by decide +kernel) (by decide +kernel)
set_option maxRecDepth 20000 in
theorem gX0_fail_X9_isIn_n121 : GoodIn wsX0_fail (wsX9_isIn) := ggX0_fail_X9_isIn
set_option maxRecDepth 20000 in
theorem ggX0_fail_X0_ban : GoodIn wsX0_fail wsX0_ban := goodIn_r _ [24, 1, 2, 5, 25, 26, 27, 32, 33, 34, 35, 36, 37, 38, 39, 40, 41, 42, 43, 44, 45, 46, 47, 48, 49, 50, 51, 52, 53, 54, 55, 56, 57, 58, 59, 60, 61, 62, 63] (by decide +kernel) (by decide +kernel)
set_option maxRecDepth 20000 in
theorem gX0_fail_X0_ban : GoodIn wsX0_fail (wsV RX0 149 RX0 yX0_ban wsX0_ban) := goodIn_app (goodIn_of _ (by decide +kernel)) ggX0_fail_X0_ban
set_option maxRecDepth 20000 in
theorem ggX0_fail_X6_drop : GoodIn wsX0_fail wsX6_drop := goodIn_r _ [31, 14, 15, 16, 17, 64, 65, 66, 67, 68, 69] (by decide +kernel) (by decide +kernel)
set_option maxRecDepth 20000 in
theorem gX0_fail_X6_drop : GoodIn wsX0_fail (wsV RX0 152 RX6 yX6_drop wsX6_drop) := goodIn_app (goodIn_of _ (by decide +kernel)) ggX0_fail_X6_drop
theorem dX0_fail_0 : decode cX0_fail 0 = .ok (.aload_n 0, 1) := by decide +kernel
theorem dX0_fail_1 : decode cX0_fail 1 = .ok (.getfield 7, 3) := by decide +kernel
theorem dX0_fail_4 : decode cX0_fail 4 = .ok (.getfield 55, 3) := by decide +kernel
theorem dX0_fail_7 : decode cX0_fail 7 = .ok (.iload_n 1, 1) := by decide +kernel
theorem dX0_fail_8 : decode cX0_fail 8 = .ok (.aaload, 1) := by decide +kernel
theorem dX0_fail_9 : decode cX0_fail 9 = .ok (.astore_n 3, 1) := by decide +kernel
theorem dX0_fail_10 : decode cX0_fail 10 = .ok (.aload_n 3, 1) := by decide +kernel
theorem dX0_fail_11 : decode cX0_fail 11 = .ok (.getfield 59, 3) := by decide +kernel
theorem dX0_fail_14 : decode cX0_fail 14 = .ok (.iload_n 2, 1) := by decide +kernel
theorem dX0_fail_15 : decode cX0_fail 15 = .ok (.invokevirtual 133, 3) := by decide +kernel
theorem dX0_fail_18 : decode cX0_fail 18 = .ok (.istore 4, 2) := by decide +kernel
theorem dX0_fail_20 : decode cX0_fail 20 = .ok (.iconst 0, 1) := by decide +kernel
theorem dX0_fail_21 : decode cX0_fail 21 = .ok (.istore 5, 2) := by decide +kernel
theorem dX0_fail_23 : decode cX0_fail 23 = .ok (.iload 5, 2) := by decide +kernel
theorem dX0_fail_25 : decode cX0_fail 25 = .ok (.aload_n 0, 1) := by decide +kernel
theorem dX0_fail_26 : decode cX0_fail 26 = .ok (.getfield 7, 3) := by decide +kernel
theorem dX0_fail_29 : decode cX0_fail 29 = .ok (.getfield 143, 3) := by decide +kernel
theorem dX0_fail_32 : decode cX0_fail 32 = .ok (.if_icmp .ge 49, 3) := by decide +kernel
theorem dX0_fail_35 : decode cX0_fail 35 = .ok (.iload 4, 2) := by decide +kernel
theorem dX0_fail_37 : decode cX0_fail 37 = .ok (.iload 5, 2) := by decide +kernel
theorem dX0_fail_39 : decode cX0_fail 39 = .ok (.invokestatic 121, 3) := by decide +kernel
theorem dX0_fail_42 : decode cX0_fail 42 = .ok (.ifCond .eq 33, 3) := by decide +kernel
theorem dX0_fail_45 : decode cX0_fail 45 = .ok (.aload_n 3, 1) := by decide +kernel
theorem dX0_fail_46 : decode cX0_fail 46 = .ok (.getfield 73, 3) := by decide +kernel
theorem dX0_fail_49 : decode cX0_fail 49 = .ok (.getfield 146, 3) := by decide +kernel
theorem dX0_fail_52 : decode cX0_fail 52 = .ok (.iload 5, 2) := by decide +kernel
theorem dX0_fail_54 : decode cX0_fail 54 = .ok (.dup2, 1) := by decide +kernel
theorem dX0_fail_55 : decode cX0_fail 55 = .ok (.iaload, 1) := by decide +kernel
theorem dX0_fail_56 : decode cX0_fail 56 = .ok (.iconst 1, 1) := by decide +kernel
theorem dX0_fail_57 : decode cX0_fail 57 = .ok (.iadd, 1) := by decide +kernel
theorem dX0_fail_58 : decode cX0_fail 58 = .ok (.iastore, 1) := by decide +kernel
theorem dX0_fail_59 : decode cX0_fail 59 = .ok (.iload 4, 2) := by decide +kernel
theorem dX0_fail_61 : decode cX0_fail 61 = .ok (.iconst 1, 1) := by decide +kernel
theorem dX0_fail_62 : decode cX0_fail 62 = .ok (.iload 5, 2) := by decide +kernel
theorem dX0_fail_64 : decode cX0_fail 64 = .ok (.ishl, 1) := by decide +kernel
theorem dX0_fail_65 : decode cX0_fail 65 = .ok (.if_icmp .ne 10, 3) := by decide +kernel
theorem dX0_fail_68 : decode cX0_fail 68 = .ok (.aload_n 0, 1) := by decide +kernel
theorem dX0_fail_69 : decode cX0_fail 69 = .ok (.iload_n 1, 1) := by decide +kernel
theorem dX0_fail_70 : decode cX0_fail 70 = .ok (.iload 5, 2) := by decide +kernel
theorem dX0_fail_72 : decode cX0_fail 72 = .ok (.invokevirtual 149, 3) := by decide +kernel
theorem dX0_fail_75 : decode cX0_fail 75 = .ok (.iinc 5 1, 3) := by decide +kernel
theorem dX0_fail_78 : decode cX0_fail 78 = .ok (.goto (-55), 3) := by decide +kernel
theorem dX0_fail_81 : decode cX0_fail 81 = .ok (.aload_n 3, 1) := by decide +kernel
theorem dX0_fail_82 : decode cX0_fail 82 = .ok (.getfield 59, 3) := by decide +kernel
theorem dX0_fail_85 : decode cX0_fail 85 = .ok (.iload_n 2, 1) := by decide +kernel
theorem dX0_fail_86 : decode cX0_fail 86 = .ok (.invokevirtual 152, 3) := by decide +kernel
theorem dX0_fail_89 : decode cX0_fail 89 = .ok (.aload_n 3, 1) := by decide +kernel
theorem dX0_fail_90 : decode cX0_fail 90 = .ok (.getfield 59, 3) := by decide +kernel
theorem dX0_fail_93 : decode cX0_fail 93 = .ok (.dup, 1) := by decide +kernel
theorem dX0_fail_94 : decode cX0_fail 94 = .ok (.getfield 130, 3) := by decide +kernel
theorem dX0_fail_97 : decode cX0_fail 97 = .ok (.iconst 1, 1) := by decide +kernel
theorem dX0_fail_98 : decode cX0_fail 98 = .ok (.iload_n 2, 1) := by decide +kernel
theorem dX0_fail_99 : decode cX0_fail 99 = .ok (.ishl, 1) := by decide +kernel
theorem dX0_fail_100 : decode cX0_fail 100 = .ok (.ior, 1) := by decide +kernel
theorem dX0_fail_101 : decode cX0_fail 101 = .ok (.putfield 130, 3) := by decide +kernel
theorem dX0_fail_104 : decode cX0_fail 104 = .ok (.aload_n 3, 1) := by decide +kernel
theorem dX0_fail_105 : decode cX0_fail 105 = .ok (.dup, 1) := by decide +kernel
theorem dX0_fail_106 : decode cX0_fail 106 = .ok (.getfield 156, 3) := by decide +kernel
theorem dX0_fail_109 : decode cX0_fail 109 = .ok (.iconst 1, 1) := by decide +kernel
theorem dX0_fail_110 : decode cX0_fail 110 = .ok (.iadd, 1) := by decide +kernel
theorem dX0_fail_111 : decode cX0_fail 111 = .ok (.putfield 156, 3) := by decide +kernel
theorem dX0_fail_114 : decode cX0_fail 114 = .ok (.return_, 1) := by decide +kernel
theorem dX0_ban_0 : decode cX0_ban 0 = .ok (.aload_n 0, 1) := by decide +kernel
theorem dX0_ban_1 : decode cX0_ban 1 = .ok (.getfield 7, 3) := by decide +kernel
theorem dX0_ban_4 : decode cX0_ban 4 = .ok (.getfield 55, 3) := by decide +kernel
theorem dX0_ban_7 : decode cX0_ban 7 = .ok (.iload_n 1, 1) := by decide +kernel
theorem dX0_ban_8 : decode cX0_ban 8 = .ok (.aaload, 1) := by decide +kernel
theorem dX0_ban_9 : decode cX0_ban 9 = .ok (.getfield 73, 3) := by decide +kernel
theorem dX0_ban_12 : decode cX0_ban 12 = .ok (.astore_n 3, 1) := by decide +kernel
theorem dX0_ban_13 : decode cX0_ban 13 = .ok (.aload_n 0, 1) := by decide +kernel
theorem dX0_ban_14 : decode cX0_ban 14 = .ok (.getfield 7, 3) := by decide +kernel
theorem dX0_ban_17 : decode cX0_ban 17 = .ok (.getfield 55, 3) := by decide +kernel
theorem dX0_ban_20 : decode cX0_ban 20 = .ok (.iload_n 2, 1) := by decide +kernel
theorem dX0_ban_21 : decode cX0_ban 21 = .ok (.aaload, 1) := by decide +kernel
theorem dX0_ban_22 : decode cX0_ban 22 = .ok (.getfield 73, 3) := by decide +kernel
theorem dX0_ban_25 : decode cX0_ban 25 = .ok (.astore 4, 2) := by decide +kernel
theorem dX0_ban_27 : decode cX0_ban 27 = .ok (.aload_n 3, 1) := by decide +kernel
theorem dX0_ban_28 : decode cX0_ban 28 = .ok (.dup, 1) := by decide +kernel
theorem dX0_ban_29 : decode cX0_ban 29 = .ok (.getfield 159, 3) := by decide +kernel
theorem dX0_ban_32 : decode cX0_ban 32 = .ok (.iconst 1, 1) := by decide +kernel
theorem dX0_ban_33 : decode cX0_ban 33 = .ok (.iload_n 2, 1) := by decide +kernel
theorem dX0_ban_34 : decode cX0_ban 34 = .ok (.ishl, 1) := by decide +kernel
theorem dX0_ban_35 : decode cX0_ban 35 = .ok (.ior, 1) := by decide +kernel
theorem dX0_ban_36 : decode cX0_ban 36 = .ok (.putfield 159, 3) := by decide +kernel
theorem dX0_ban_39 : decode cX0_ban 39 = .ok (.aload 4, 2) := by decide +kernel
theorem dX0_ban_41 : decode cX0_ban 41 = .ok (.dup, 1) := by decide +kernel
theorem dX0_ban_42 : decode cX0_ban 42 = .ok (.getfield 162, 3) := by decide +kernel
theorem dX0_ban_45 : decode cX0_ban 45 = .ok (.iconst 1, 1) := by decide +kernel
theorem dX0_ban_46 : decode cX0_ban 46 = .ok (.iload_n 1, 1) := by decide +kernel
theorem dX0_ban_47 : decode cX0_ban 47 = .ok (.ishl, 1) := by decide +kernel
theorem dX0_ban_48 : decode cX0_ban 48 = .ok (.ior, 1) := by decide +kernel
theorem dX0_ban_49 : decode cX0_ban 49 = .ok (.putfield 162, 3) := by decide +kernel
theorem dX0_ban_52 : decode cX0_ban 52 = .ok (.aload_n 3, 1) := by decide +kernel
theorem dX0_ban_53 : decode cX0_ban 53 = .ok (.dup, 1) := by decide +kernel
theorem dX0_ban_54 : decode cX0_ban 54 = .ok (.getfield 165, 3) := by decide +kernel
theorem dX0_ban_57 : decode cX0_ban 57 = .ok (.iconst 1, 1) := by decide +kernel
theorem dX0_ban_58 : decode cX0_ban 58 = .ok (.iload_n 2, 1) := by decide +kernel
theorem dX0_ban_59 : decode cX0_ban 59 = .ok (.ishl, 1) := by decide +kernel
theorem dX0_ban_60 : decode cX0_ban 60 = .ok (.iconst (-1), 1) := by decide +kernel
theorem dX0_ban_61 : decode cX0_ban 61 = .ok (.ixor, 1) := by decide +kernel
theorem dX0_ban_62 : decode cX0_ban 62 = .ok (.iand, 1) := by decide +kernel
theorem dX0_ban_63 : decode cX0_ban 63 = .ok (.putfield 165, 3) := by decide +kernel
theorem dX0_ban_66 : decode cX0_ban 66 = .ok (.aload 4, 2) := by decide +kernel
theorem dX0_ban_68 : decode cX0_ban 68 = .ok (.dup, 1) := by decide +kernel
theorem dX0_ban_69 : decode cX0_ban 69 = .ok (.getfield 165, 3) := by decide +kernel
theorem dX0_ban_72 : decode cX0_ban 72 = .ok (.iconst 1, 1) := by decide +kernel
theorem dX0_ban_73 : decode cX0_ban 73 = .ok (.iload_n 1, 1) := by decide +kernel
theorem dX0_ban_74 : decode cX0_ban 74 = .ok (.ishl, 1) := by decide +kernel
theorem dX0_ban_75 : decode cX0_ban 75 = .ok (.iconst (-1), 1) := by decide +kernel
theorem dX0_ban_76 : decode cX0_ban 76 = .ok (.ixor, 1) := by decide +kernel
theorem dX0_ban_77 : decode cX0_ban 77 = .ok (.iand, 1) := by decide +kernel
theorem dX0_ban_78 : decode cX0_ban 78 = .ok (.putfield 165, 3) := by decide +kernel
theorem dX0_ban_81 : decode cX0_ban 81 = .ok (.return_, 1) := by decide +kernel
theorem dX1_init_0 : decode cX1_init 0 = .ok (.aload_n 0, 1) := by decide +kernel
theorem dX1_init_1 : decode cX1_init 1 = .ok (.invokespecial 3, 3) := by decide +kernel
theorem dX1_init_4 : decode cX1_init 4 = .ok (.aload_n 0, 1) := by decide +kernel
theorem dX1_init_5 : decode cX1_init 5 = .ok (.aload_n 1, 1) := by decide +kernel
theorem dX1_init_6 : decode cX1_init 6 = .ok (.putfield 9, 3) := by decide +kernel
theorem dX1_init_9 : decode cX1_init 9 = .ok (.return_, 1) := by decide +kernel
set_option maxRecDepth 20000 in
theorem ggX1_dropStranded_X9_isIn : GoodIn wsX1_dropStranded wsX9_isIn := goodIn_r _ [8] (by decide +kernel) (by decide +kernel)
set_option maxRecDepth 20000 in
theorem gX1_dropStranded_X9_isIn_n24 : GoodIn wsX1_dropStranded (wsX9_isIn) := ggX1_dropStranded_X9_isIn
set_option maxRecDepth 20000 in
theorem ggX1_dropStranded_X2_nearTo : GoodIn wsX1_dropStranded wsX2_nearTo := goodIn_r _ [13, 14, 15, 16, 17, 18, 19, 6, 7, 8, 42, 43, 44, 45, 46, 47, 48, 49, 50, 51, 52, 53, 54, 55, 56, 57, 58, 59, 60, 61, 62, 63, 64, 65, 66, 67, 68, 69, 70, 71, 72] (by decide +kernel) (by decide +kernel)
set_option maxRecDepth 20000 in
theorem gX1_dropStranded_X2_nearTo : GoodIn wsX1_dropStranded (wsV RX1 38 RX2 yX2_nearTo wsX2_nearTo) := goodIn_app (goodIn_of _ (by decide +kernel)) ggX1_dropStranded_X2_nearTo
set_option maxRecDepth 20000 in
theorem ggX1_dropStranded_X1_dropStrandedOf : GoodIn wsX1_dropStranded wsX1_dropStrandedOf := goodIn_r _ [24, 25, 26, 1, 27, 28, 6, 7, 8, 29, 30, 31, 32, 33, 34, 35, 36, 37, 38, 39, 40, 73, 74, 75, 76, 77, 78, 41, 42, 43, 44, 45, 46, 47, 48, 49, 79, 80, 81] (by decide +kernel) (by decide +kernel)
set_option maxRecDepth 20000 in
theorem gX1_dropStranded_X1_dropStrandedOf : GoodIn wsX1_dropStranded (wsV RX1 42 RX1 yX1_dropStrandedOf wsX1_dropStrandedOf) := goodIn_app (goodIn_of _ (by decide +kernel)) ggX1_dropStranded_X1_dropStrandedOf
theorem dX1_dropStranded_0 : decode cX1_dropStranded 0 = .ok (.iconst 0, 1) := by decide +kernel
theorem dX1_dropStranded_1 : decode cX1_dropStranded 1 = .ok (.istore_n 1, 1) := by decide +kernel
theorem dX1_dropStranded_2 : decode cX1_dropStranded 2 = .ok (.iload_n 1, 1) := by decide +kernel
theorem dX1_dropStranded_3 : decode cX1_dropStranded 3 = .ok (.aload_n 0, 1) := by decide +kernel
theorem dX1_dropStranded_4 : decode cX1_dropStranded 4 = .ok (.getfield 9, 3) := by decide +kernel
theorem dX1_dropStranded_7 : decode cX1_dropStranded 7 = .ok (.getfield 15, 3) := by decide +kernel
theorem dX1_dropStranded_10 : decode cX1_dropStranded 10 = .ok (.if_icmp .ge 47, 3) := by decide +kernel
theorem dX1_dropStranded_13 : decode cX1_dropStranded 13 = .ok (.aload_n 0, 1) := by decide +kernel
theorem dX1_dropStranded_14 : decode cX1_dropStranded 14 = .ok (.getfield 9, 3) := by decide +kernel
theorem dX1_dropStranded_17 : decode cX1_dropStranded 17 = .ok (.getfield 21, 3) := by decide +kernel
theorem dX1_dropStranded_20 : decode cX1_dropStranded 20 = .ok (.iload_n 1, 1) := by decide +kernel
theorem dX1_dropStranded_21 : decode cX1_dropStranded 21 = .ok (.invokestatic 24, 3) := by decide +kernel
theorem dX1_dropStranded_24 : decode cX1_dropStranded 24 = .ok (.ifCond .eq 27, 3) := by decide +kernel
theorem dX1_dropStranded_27 : decode cX1_dropStranded 27 = .ok (.aload_n 0, 1) := by decide +kernel
theorem dX1_dropStranded_28 : decode cX1_dropStranded 28 = .ok (.aload_n 0, 1) := by decide +kernel
theorem dX1_dropStranded_29 : decode cX1_dropStranded 29 = .ok (.getfield 9, 3) := by decide +kernel
theorem dX1_dropStranded_32 : decode cX1_dropStranded 32 = .ok (.getfield 28, 3) := by decide +kernel
theorem dX1_dropStranded_35 : decode cX1_dropStranded 35 = .ok (.iload_n 1, 1) := by decide +kernel
theorem dX1_dropStranded_36 : decode cX1_dropStranded 36 = .ok (.aaload, 1) := by decide +kernel
theorem dX1_dropStranded_37 : decode cX1_dropStranded 37 = .ok (.getfield 32, 3) := by decide +kernel
theorem dX1_dropStranded_40 : decode cX1_dropStranded 40 = .ok (.aload_n 0, 1) := by decide +kernel
theorem dX1_dropStranded_41 : decode cX1_dropStranded 41 = .ok (.getfield 9, 3) := by decide +kernel
theorem dX1_dropStranded_44 : decode cX1_dropStranded 44 = .ok (.iload_n 1, 1) := by decide +kernel
theorem dX1_dropStranded_45 : decode cX1_dropStranded 45 = .ok (.invokevirtual 38, 3) := by decide +kernel
theorem dX1_dropStranded_48 : decode cX1_dropStranded 48 = .ok (.invokevirtual 42, 3) := by decide +kernel
theorem dX1_dropStranded_51 : decode cX1_dropStranded 51 = .ok (.iinc 1 1, 3) := by decide +kernel
theorem dX1_dropStranded_54 : decode cX1_dropStranded 54 = .ok (.goto (-52), 3) := by decide +kernel
theorem dX1_dropStranded_57 : decode cX1_dropStranded 57 = .ok (.return_, 1) := by decide +kernel
set_option maxRecDepth 20000 in
theorem ggX1_dropStrandedOf_X9_isIn : GoodIn wsX1_dropStrandedOf wsX9_isIn := goodIn_r _ [8] (by decide +kernel) (by decide +kernel)
set_option maxRecDepth 20000 in
theorem gX1_dropStrandedOf_X9_isIn_n24 : GoodIn wsX1_dropStrandedOf (wsX9_isIn) := ggX1_dropStrandedOf_X9_isIn
set_option maxRecDepth 20000 in
theorem ggX1_dropStrandedOf_X6_giversOf : GoodIn wsX1_dropStrandedOf wsX6_giversOf := goodIn_r _ [13, 14, 15, 7, 16, 21, 22, 23, 24, 25, 26] (by decide +kernel) (by decide +kernel)
set_option maxRecDepth 20000 in
theorem gX1_dropStrandedOf_X6_giversOf : GoodIn wsX1_dropStrandedOf (wsV RX1 63 RX6 yX6_giversOf wsX6_giversOf) := goodIn_app (goodIn_of _ (by decide +kernel)) ggX1_dropStrandedOf_X6_giversOf
set_option maxRecDepth 20000 in
theorem ggX1_dropStrandedOf_X6_drop : GoodIn wsX1_dropStrandedOf wsX6_drop := goodIn_r _ [20, 14, 15, 7, 16, 21, 22, 23, 24, 25, 26] (by decide +kernel) (by decide +kernel)
set_option maxRecDepth 20000 in
theorem gX1_dropStrandedOf_X6_drop : GoodIn wsX1_dropStrandedOf (wsV RX1 66 RX6 yX6_drop wsX6_drop) := goodIn_app (goodIn_of _ (by decide +kernel)) ggX1_dropStrandedOf_X6_drop
theorem dX1_dropStrandedOf_0 : decode cX1_dropStrandedOf 0 = .ok (.aload_n 1, 1) := by decide +kernel
theorem dX1_dropStrandedOf_1 : decode cX1_dropStrandedOf 1 = .ok (.getfield 46, 3) := by decide +kernel
theorem dX1_dropStrandedOf_4 : decode cX1_dropStrandedOf 4 = .ok (.aload_n 1, 1) := by decide +kernel
theorem dX1_dropStrandedOf_5 : decode cX1_dropStrandedOf 5 = .ok (.getfield 51, 3) := by decide +kernel
theorem dX1_dropStrandedOf_8 : decode cX1_dropStrandedOf 8 = .ok (.iconst (-1), 1) := by decide +kernel
theorem dX1_dropStrandedOf_9 : decode cX1_dropStrandedOf 9 = .ok (.ixor, 1) := by decide +kernel
theorem dX1_dropStrandedOf_10 : decode cX1_dropStrandedOf 10 = .ok (.iand, 1) := by decide +kernel
theorem dX1_dropStrandedOf_11 : decode cX1_dropStrandedOf 11 = .ok (.istore_n 3, 1) := by decide +kernel
theorem dX1_dropStrandedOf_12 : decode cX1_dropStrandedOf 12 = .ok (.iconst 0, 1) := by decide +kernel
theorem dX1_dropStrandedOf_13 : decode cX1_dropStrandedOf 13 = .ok (.istore 4, 2) := by decide +kernel
theorem dX1_dropStrandedOf_15 : decode cX1_dropStrandedOf 15 = .ok (.iload 4, 2) := by decide +kernel
theorem dX1_dropStrandedOf_17 : decode cX1_dropStrandedOf 17 = .ok (.aload_n 0, 1) := by decide +kernel
theorem dX1_dropStrandedOf_18 : decode cX1_dropStrandedOf 18 = .ok (.getfield 9, 3) := by decide +kernel
theorem dX1_dropStrandedOf_21 : decode cX1_dropStrandedOf 21 = .ok (.getfield 54, 3) := by decide +kernel
theorem dX1_dropStrandedOf_24 : decode cX1_dropStrandedOf 24 = .ok (.getfield 58, 3) := by decide +kernel
theorem dX1_dropStrandedOf_27 : decode cX1_dropStrandedOf 27 = .ok (.if_icmp .ge 37, 3) := by decide +kernel
theorem dX1_dropStrandedOf_30 : decode cX1_dropStrandedOf 30 = .ok (.iload_n 3, 1) := by decide +kernel
theorem dX1_dropStrandedOf_31 : decode cX1_dropStrandedOf 31 = .ok (.iload 4, 2) := by decide +kernel
theorem dX1_dropStrandedOf_33 : decode cX1_dropStrandedOf 33 = .ok (.invokestatic 24, 3) := by decide +kernel
theorem dX1_dropStrandedOf_36 : decode cX1_dropStrandedOf 36 = .ok (.ifCond .eq 22, 3) := by decide +kernel
theorem dX1_dropStrandedOf_39 : decode cX1_dropStrandedOf 39 = .ok (.aload_n 1, 1) := by decide +kernel
theorem dX1_dropStrandedOf_40 : decode cX1_dropStrandedOf 40 = .ok (.iload 4, 2) := by decide +kernel
theorem dX1_dropStrandedOf_42 : decode cX1_dropStrandedOf 42 = .ok (.invokevirtual 63, 3) := by decide +kernel
theorem dX1_dropStrandedOf_45 : decode cX1_dropStrandedOf 45 = .ok (.iload_n 2, 1) := by decide +kernel
theorem dX1_dropStrandedOf_46 : decode cX1_dropStrandedOf 46 = .ok (.iconst (-1), 1) := by decide +kernel
theorem dX1_dropStrandedOf_47 : decode cX1_dropStrandedOf 47 = .ok (.ixor, 1) := by decide +kernel
theorem dX1_dropStrandedOf_48 : decode cX1_dropStrandedOf 48 = .ok (.iand, 1) := by decide +kernel
theorem dX1_dropStrandedOf_49 : decode cX1_dropStrandedOf 49 = .ok (.ifCond .eq 9, 3) := by decide +kernel
theorem dX1_dropStrandedOf_52 : decode cX1_dropStrandedOf 52 = .ok (.aload_n 1, 1) := by decide +kernel
theorem dX1_dropStrandedOf_53 : decode cX1_dropStrandedOf 53 = .ok (.iload 4, 2) := by decide +kernel
theorem dX1_dropStrandedOf_55 : decode cX1_dropStrandedOf 55 = .ok (.invokevirtual 66, 3) := by decide +kernel
theorem dX1_dropStrandedOf_58 : decode cX1_dropStrandedOf 58 = .ok (.iinc 4 1, 3) := by decide +kernel
theorem dX1_dropStrandedOf_61 : decode cX1_dropStrandedOf 61 = .ok (.goto (-46), 3) := by decide +kernel
theorem dX1_dropStrandedOf_64 : decode cX1_dropStrandedOf 64 = .ok (.return_, 1) := by decide +kernel
set_option maxRecDepth 20000 in
theorem ggX1_runRounds_X9_isIn : GoodIn wsX1_runRounds wsX9_isIn := goodIn_r _ [11] (by decide +kernel) (by decide +kernel)
set_option maxRecDepth 20000 in
theorem gX1_runRounds_X9_isIn_n24 : GoodIn wsX1_runRounds (wsX9_isIn) := ggX1_runRounds_X9_isIn
set_option maxRecDepth 20000 in
theorem ggX1_runRounds_X1_askOne : GoodIn wsX1_runRounds wsX1_askOne := goodIn_r _ [16, 1, 3, 7, 17, 18, 19, 20, 21, 22, 23, 24, 25, 26, 27, 28, 29, 30, 31, 32, 33, 34, 35, 15, 36, 2, 37, 38, 5, 39, 40, 41, 42, 43, 44, 45, 46, 47, 48, 49, 9, 10, 11, 50, 51, 52, 53, 54, 55, 56, 57, 58, 59, 60, 61, 62, 63, 64, 65, 66, 67, 68, 69, 70, 71, 72, 73, 74, 75, 76, 77, 78, 79, 80, 81, 82, 83, 84, 85, 86, 87, 88, 89, 90, 91, 92, 93, 94, 95, 96, 97, 98, 99, 100, 101, 102, 103, 104, 105, 106, 107, 108, 109, 110, 111, 112, 113, 114, 115, 116, 117, 118, 119, 120, 121, 122, 123, 124, 125, 126, 127, 128, 129, 130, 131, 132, 133, 134, 135, 136, 137, 138, 139, 140, 141, 142, 143, 144, 145, 146, 147, 148, 149, 150, 151, 152, 153, 154, 155, 156, 157, 158, 159, 160, 161, 162, 163, 164, 165, 166, 167, 168, 169, 170, 171, 172, 173, 174, 175, 176, 177, 178, 179, 180, 181, 182, 183, 184, 185, 186, 187, 188, 189, 190, 191, 192, 193, 194, 195, 196, 197, 198, 199, 200, 201, 202, 203, 204, 205, 206, 207] (by decide +kernel) (by decide +kernel)
set_option maxRecDepth 20000 in
theorem gX1_runRounds_X1_askOne : GoodIn wsX1_runRounds (wsV RX1 82 RX1 yX1_askOne wsX1_askOne) := goodIn_app (goodIn_of _ (by decide +kernel)) ggX1_runRounds_X1_askOne
theorem dX1_runRounds_0 : decode cX1_runRounds 0 = .ok (.iconst 0, 1) := by decide +kernel
theorem dX1_runRounds_1 : decode cX1_runRounds 1 = .ok (.istore_n 1, 1) := by decide +kernel
theorem dX1_runRounds_2 : decode cX1_runRounds 2 = .ok (.iload_n 1, 1) := by decide +kernel
theorem dX1_runRounds_3 : decode cX1_runRounds 3 = .ok (.aload_n 0, 1) := by decide +kernel
theorem dX1_runRounds_4 : decode cX1_runRounds 4 = .ok (.getfield 9, 3) := by decide +kernel
theorem dX1_runRounds_7 : decode cX1_runRounds 7 = .ok (.getfield 15, 3) := by decide +kernel
theorem dX1_runRounds_10 : decode cX1_runRounds 10 = .ok (.if_icmp .ge 57, 3) := by decide +kernel
theorem dX1_runRounds_13 : decode cX1_runRounds 13 = .ok (.aload_n 0, 1) := by decide +kernel
theorem dX1_runRounds_14 : decode cX1_runRounds 14 = .ok (.getfield 9, 3) := by decide +kernel
theorem dX1_runRounds_17 : decode cX1_runRounds 17 = .ok (.getfield 28, 3) := by decide +kernel
theorem dX1_runRounds_20 : decode cX1_runRounds 20 = .ok (.iload_n 1, 1) := by decide +kernel
theorem dX1_runRounds_21 : decode cX1_runRounds 21 = .ok (.aaload, 1) := by decide +kernel
theorem dX1_runRounds_22 : decode cX1_runRounds 22 = .ok (.aload_n 0, 1) := by decide +kernel
theorem dX1_runRounds_23 : decode cX1_runRounds 23 = .ok (.getfield 9, 3) := by decide +kernel
theorem dX1_runRounds_26 : decode cX1_runRounds 26 = .ok (.getfield 28, 3) := by decide +kernel
theorem dX1_runRounds_29 : decode cX1_runRounds 29 = .ok (.iload_n 1, 1) := by decide +kernel
theorem dX1_runRounds_30 : decode cX1_runRounds 30 = .ok (.aaload, 1) := by decide +kernel
theorem dX1_runRounds_31 : decode cX1_runRounds 31 = .ok (.getfield 70, 3) := by decide +kernel
theorem dX1_runRounds_34 : decode cX1_runRounds 34 = .ok (.putfield 73, 3) := by decide +kernel
theorem dX1_runRounds_37 : decode cX1_runRounds 37 = .ok (.aload_n 0, 1) := by decide +kernel
theorem dX1_runRounds_38 : decode cX1_runRounds 38 = .ok (.getfield 9, 3) := by decide +kernel
theorem dX1_runRounds_41 : decode cX1_runRounds 41 = .ok (.getfield 28, 3) := by decide +kernel
theorem dX1_runRounds_44 : decode cX1_runRounds 44 = .ok (.iload_n 1, 1) := by decide +kernel
theorem dX1_runRounds_45 : decode cX1_runRounds 45 = .ok (.aaload, 1) := by decide +kernel
theorem dX1_runRounds_46 : decode cX1_runRounds 46 = .ok (.aload_n 0, 1) := by decide +kernel
theorem dX1_runRounds_47 : decode cX1_runRounds 47 = .ok (.getfield 9, 3) := by decide +kernel
theorem dX1_runRounds_50 : decode cX1_runRounds 50 = .ok (.getfield 28, 3) := by decide +kernel
theorem dX1_runRounds_53 : decode cX1_runRounds 53 = .ok (.iload_n 1, 1) := by decide +kernel
theorem dX1_runRounds_54 : decode cX1_runRounds 54 = .ok (.aaload, 1) := by decide +kernel
theorem dX1_runRounds_55 : decode cX1_runRounds 55 = .ok (.getfield 76, 3) := by decide +kernel
theorem dX1_runRounds_58 : decode cX1_runRounds 58 = .ok (.putfield 79, 3) := by decide +kernel
theorem dX1_runRounds_61 : decode cX1_runRounds 61 = .ok (.iinc 1 1, 3) := by decide +kernel
theorem dX1_runRounds_64 : decode cX1_runRounds 64 = .ok (.goto (-62), 3) := by decide +kernel
theorem dX1_runRounds_67 : decode cX1_runRounds 67 = .ok (.iconst 1, 1) := by decide +kernel
theorem dX1_runRounds_68 : decode cX1_runRounds 68 = .ok (.istore_n 1, 1) := by decide +kernel
theorem dX1_runRounds_69 : decode cX1_runRounds 69 = .ok (.iconst 0, 1) := by decide +kernel
theorem dX1_runRounds_70 : decode cX1_runRounds 70 = .ok (.istore_n 2, 1) := by decide +kernel
theorem dX1_runRounds_71 : decode cX1_runRounds 71 = .ok (.iload_n 1, 1) := by decide +kernel
theorem dX1_runRounds_72 : decode cX1_runRounds 72 = .ok (.ifCond .eq 60, 3) := by decide +kernel
theorem dX1_runRounds_75 : decode cX1_runRounds 75 = .ok (.iload_n 2, 1) := by decide +kernel
theorem dX1_runRounds_76 : decode cX1_runRounds 76 = .ok (.bipush 96, 2) := by decide +kernel
theorem dX1_runRounds_78 : decode cX1_runRounds 78 = .ok (.if_icmp .gt 54, 3) := by decide +kernel
theorem dX1_runRounds_81 : decode cX1_runRounds 81 = .ok (.iconst 0, 1) := by decide +kernel
theorem dX1_runRounds_82 : decode cX1_runRounds 82 = .ok (.istore_n 1, 1) := by decide +kernel
theorem dX1_runRounds_83 : decode cX1_runRounds 83 = .ok (.iconst 0, 1) := by decide +kernel
theorem dX1_runRounds_84 : decode cX1_runRounds 84 = .ok (.istore_n 3, 1) := by decide +kernel
theorem dX1_runRounds_85 : decode cX1_runRounds 85 = .ok (.iload_n 3, 1) := by decide +kernel
theorem dX1_runRounds_86 : decode cX1_runRounds 86 = .ok (.aload_n 0, 1) := by decide +kernel
theorem dX1_runRounds_87 : decode cX1_runRounds 87 = .ok (.getfield 9, 3) := by decide +kernel
theorem dX1_runRounds_90 : decode cX1_runRounds 90 = .ok (.getfield 15, 3) := by decide +kernel
theorem dX1_runRounds_93 : decode cX1_runRounds 93 = .ok (.if_icmp .ge 33, 3) := by decide +kernel
theorem dX1_runRounds_96 : decode cX1_runRounds 96 = .ok (.aload_n 0, 1) := by decide +kernel
theorem dX1_runRounds_97 : decode cX1_runRounds 97 = .ok (.getfield 9, 3) := by decide +kernel
theorem dX1_runRounds_100 : decode cX1_runRounds 100 = .ok (.getfield 21, 3) := by decide +kernel
theorem dX1_runRounds_103 : decode cX1_runRounds 103 = .ok (.iload_n 3, 1) := by decide +kernel
theorem dX1_runRounds_104 : decode cX1_runRounds 104 = .ok (.invokestatic 24, 3) := by decide +kernel
theorem dX1_runRounds_107 : decode cX1_runRounds 107 = .ok (.ifCond .eq 13, 3) := by decide +kernel
theorem dX1_runRounds_110 : decode cX1_runRounds 110 = .ok (.aload_n 0, 1) := by decide +kernel
theorem dX1_runRounds_111 : decode cX1_runRounds 111 = .ok (.iload_n 3, 1) := by decide +kernel
theorem dX1_runRounds_112 : decode cX1_runRounds 112 = .ok (.invokevirtual 82, 3) := by decide +kernel
theorem dX1_runRounds_115 : decode cX1_runRounds 115 = .ok (.ifCond .eq 5, 3) := by decide +kernel
theorem dX1_runRounds_118 : decode cX1_runRounds 118 = .ok (.iconst 1, 1) := by decide +kernel
theorem dX1_runRounds_119 : decode cX1_runRounds 119 = .ok (.istore_n 1, 1) := by decide +kernel
theorem dX1_runRounds_120 : decode cX1_runRounds 120 = .ok (.iinc 3 1, 3) := by decide +kernel
theorem dX1_runRounds_123 : decode cX1_runRounds 123 = .ok (.goto (-38), 3) := by decide +kernel
theorem dX1_runRounds_126 : decode cX1_runRounds 126 = .ok (.iinc 2 1, 3) := by decide +kernel
theorem dX1_runRounds_129 : decode cX1_runRounds 129 = .ok (.goto (-58), 3) := by decide +kernel
theorem dX1_runRounds_132 : decode cX1_runRounds 132 = .ok (.return_, 1) := by decide +kernel
set_option maxRecDepth 20000 in
theorem ggX1_askOne_X3_isDone : GoodIn wsX1_askOne wsX3_isDone := goodIn_r _ [12, 13, 162, 163, 164, 165, 166, 167, 168, 169, 170, 171, 172, 173, 174] (by decide +kernel) (by decide +kernel)
set_option maxRecDepth 20000 in
theorem gX1_askOne_X3_isDone : GoodIn wsX1_askOne (wsV RX1 86 RX3 yX3_isDone wsX3_isDone) := goodIn_app (goodIn_of _ (by decide +kernel)) ggX1_askOne_X3_isDone
set_option maxRecDepth 20000 in
theorem ggX1_askOne_X5_hasRoom : GoodIn wsX1_askOne wsX5_hasRoom := goodIn_r _ [18, 19, 178, 179, 180, 181, 182, 183, 184] (by decide +kernel) (by decide +kernel)
set_option maxRecDepth 20000 in
theorem gX1_askOne_X5_hasRoom : GoodIn wsX1_askOne (wsV RX1 94 RX5 yX5_hasRoom wsX5_hasRoom) := goodIn_app (goodIn_of _ (by decide +kernel)) ggX1_askOne_X5_hasRoom
set_option maxRecDepth 20000 in
theorem ggX1_askOne_X1_giversTo : GoodIn wsX1_askOne wsX1_giversTo := goodIn_r _ [24, 1, 25, 2, 26, 27, 28, 29, 30, 31, 32, 33, 34, 35, 36, 37, 38, 39, 40, 41, 42, 153, 154, 155, 156, 157, 158, 159, 160, 161, 162, 163, 164, 165, 166, 167, 168, 169, 170, 171, 172, 173, 174, 185, 186, 187, 188, 189, 190, 191, 192, 193, 194] (by decide +kernel) (by decide +kernel)
set_option maxRecDepth 20000 in
theorem gX1_askOne_X1_giversTo : GoodIn wsX1_askOne (wsV RX1 99 RX1 yX1_giversTo wsX1_giversTo) := goodIn_app (goodIn_of _ (by decide +kernel)) ggX1_askOne_X1_giversTo
set_option maxRecDepth 20000 in
theorem ggX1_askOne_X1_pickPiece : GoodIn wsX1_askOne wsX1_pickPiece := goodIn_r _ [46, 1, 2, 5, 6, 47, 48, 7, 29, 30, 31, 32, 33, 34, 35, 36, 37, 38, 39, 40, 41, 42, 49, 50, 51, 52, 53, 54, 55, 56, 57, 58, 59, 60, 61, 62, 63, 64, 65, 23, 66, 67, 4, 68, 69, 70, 71, 72, 73, 74, 75, 11, 76, 77, 78, 79, 80, 81, 82, 83, 84, 85, 86, 87, 17, 88, 19, 89, 90, 91, 92, 93, 94, 95, 96, 97, 98, 99, 100, 101, 102, 153, 154, 155, 156, 157, 158, 159, 160, 161, 162, 163, 164, 165, 166, 167, 168, 169, 170, 171, 172, 173, 174, 175, 176, 177, 195, 196, 197, 198, 199, 200, 185, 186, 187, 188, 189, 190, 191, 192, 193, 194, 178, 179, 180, 181, 182, 183, 184] (by decide +kernel) (by decide +kernel)
set_option maxRecDepth 20000 in
theorem gX1_askOne_X1_pickPiece : GoodIn wsX1_askOne (wsV RX1 102 RX1 yX1_pickPiece wsX1_pickPiece) := goodIn_app (goodIn_of _ (by decide +kernel)) ggX1_askOne_X1_pickPiece
set_option maxRecDepth 20000 in
theorem ggX1_askOne_X1_askAtEnd : GoodIn wsX1_askOne wsX1_askAtEnd := goodIn_r _ [106, 1, 2, 5, 48, 67, 6, 47, 7, 107, 4, 40, 41, 42, 68, 69, 70, 32, 71, 72, 34, 73, 74, 75, 11, 76, 77, 78, 79, 80, 108, 56, 57, 52, 58, 59, 60, 61, 62, 109, 110, 111, 17, 112, 19, 89, 90, 113, 91, 114, 115, 116, 23, 117, 25, 28, 118, 119, 120, 121, 122, 26, 123, 124, 3, 125, 126, 127, 128, 129, 130, 131, 54, 132, 133, 134, 135, 136, 137, 138, 139, 140, 141, 142, 143, 144, 145, 146, 147, 148, 149, 150, 151, 152, 15, 16, 18, 153, 154, 155, 156, 157, 158, 159, 160, 161, 162, 163, 164, 165, 166, 167, 168, 169, 170, 171, 172, 173, 174, 195, 196, 197, 198, 199, 200, 175, 176, 177, 178, 179, 180, 181, 182, 183, 184, 185, 186, 187, 188, 189, 190, 191, 192, 193, 194] (by decide +kernel) (by decide +kernel)
set_option maxRecDepth 20000 in
theorem gX1_askOne_X1_askAtEnd : GoodIn wsX1_askOne (wsV RX1 106 RX1 yX1_askAtEnd wsX1_askAtEnd) := goodIn_app (goodIn_of _ (by decide +kernel)) ggX1_askOne_X1_askAtEnd
set_option maxRecDepth 20000 in
theorem ggX1_askOne_X6_firstUnasked : GoodIn wsX1_askOne wsX6_firstUnasked := goodIn_r _ [53, 54, 55, 56, 57, 52, 58, 59, 60, 40, 41, 42, 61, 62, 195, 196, 197, 198, 199, 200] (by decide +kernel) (by decide +kernel)
set_option maxRecDepth 20000 in
theorem gX1_askOne_X6_firstUnasked : GoodIn wsX1_askOne (wsV RX1 112 RX6 yX6_firstUnasked wsX6_firstUnasked) := goodIn_app (goodIn_of _ (by decide +kernel)) ggX1_askOne_X6_firstUnasked
set_option maxRecDepth 20000 in
theorem ggX1_askOne_X1_giversThatMayBe : GoodIn wsX1_askOne wsX1_giversThatMayBe := goodIn_r _ [66, 1, 2, 5, 67, 4, 68, 69, 70, 32, 71, 72, 34, 40, 41, 42, 73, 74, 75, 11, 76, 77, 78, 79, 80, 81, 82, 83, 52, 84, 60, 61, 62, 85, 86, 87, 17, 88, 19, 89, 90, 91, 153, 154, 155, 156, 157, 158, 159, 160, 161, 162, 163, 164, 165, 166, 167, 168, 169, 170, 171, 172, 173, 174, 195, 196, 197, 198, 199, 200, 178, 179, 180, 181, 182, 183, 184] (by decide +kernel) (by decide +kernel)
set_option maxRecDepth 20000 in
theorem gX1_askOne_X1_giversThatMayBe : GoodIn wsX1_askOne (wsV RX1 115 RX1 yX1_giversThatMayBe wsX1_giversThatMayBe) := goodIn_app (goodIn_of _ (by decide +kernel)) ggX1_askOne_X1_giversThatMayBe
set_option maxRecDepth 20000 in
theorem ggX1_askOne_X1_readiest : GoodIn wsX1_askOne wsX1_readiest := goodIn_r _ [117, 1, 25, 2, 28, 40, 41, 42, 153, 154, 155, 156, 157, 158, 159, 160, 161, 162, 163, 164, 165, 166, 167, 168, 169, 170, 171, 172, 173, 174] (by decide +kernel) (by decide +kernel)
set_option maxRecDepth 20000 in
theorem gX1_askOne_X1_readiest : GoodIn wsX1_askOne (wsV RX1 119 RX1 yX1_readiest wsX1_readiest) := goodIn_app (goodIn_of _ (by decide +kernel)) ggX1_askOne_X1_readiest
set_option maxRecDepth 20000 in
theorem ggX1_askOne_X1_send : GoodIn wsX1_askOne wsX1_send := goodIn_r _ [121, 1, 2, 28, 122, 26, 123, 124, 3, 5, 125, 6, 126, 127, 4, 128, 129, 130, 52, 131, 54, 132, 61, 41, 62, 133, 134, 135, 136, 137, 138, 139, 140, 141, 142, 11, 143, 77, 144, 145, 146, 147, 148, 17, 149, 91, 19, 89, 90, 113, 150, 151, 152, 15, 16, 18, 153, 154, 155, 156, 157, 158, 159, 160, 161, 162, 163, 164, 165, 166, 167, 168, 169, 170, 171, 172, 173, 174, 185, 186, 187, 188, 189, 190, 191, 192, 193, 194, 195, 196, 197, 198, 199, 200, 175, 176, 177, 178, 179, 180, 181, 182, 183, 184] (by decide +kernel) (by decide +kernel)
set_option maxRecDepth 20000 in
theorem gX1_askOne_X1_send : GoodIn wsX1_askOne (wsV RX1 122 RX1 yX1_send wsX1_send) := goodIn_app (goodIn_of _ (by decide +kernel)) ggX1_askOne_X1_send
theorem dX1_askOne_0 : decode cX1_askOne 0 = .ok (.aload_n 0, 1) := by decide +kernel
theorem dX1_askOne_1 : decode cX1_askOne 1 = .ok (.getfield 9, 3) := by decide +kernel
theorem dX1_askOne_4 : decode cX1_askOne 4 = .ok (.getfield 28, 3) := by decide +kernel
theorem dX1_askOne_7 : decode cX1_askOne 7 = .ok (.iload_n 1, 1) := by decide +kernel
theorem dX1_askOne_8 : decode cX1_askOne 8 = .ok (.aaload, 1) := by decide +kernel
theorem dX1_askOne_9 : decode cX1_askOne 9 = .ok (.astore_n 2, 1) := by decide +kernel
theorem dX1_askOne_10 : decode cX1_askOne 10 = .ok (.aload_n 2, 1) := by decide +kernel
theorem dX1_askOne_11 : decode cX1_askOne 11 = .ok (.getfield 79, 3) := by decide +kernel
theorem dX1_askOne_14 : decode cX1_askOne 14 = .ok (.ifCond .le 23, 3) := by decide +kernel
theorem dX1_askOne_17 : decode cX1_askOne 17 = .ok (.aload_n 2, 1) := by decide +kernel
theorem dX1_askOne_18 : decode cX1_askOne 18 = .ok (.invokevirtual 86, 3) := by decide +kernel
theorem dX1_askOne_21 : decode cX1_askOne 21 = .ok (.ifCond .ne 16, 3) := by decide +kernel
theorem dX1_askOne_24 : decode cX1_askOne 24 = .ok (.aload_n 0, 1) := by decide +kernel
theorem dX1_askOne_25 : decode cX1_askOne 25 = .ok (.getfield 9, 3) := by decide +kernel
theorem dX1_askOne_28 : decode cX1_askOne 28 = .ok (.getfield 90, 3) := by decide +kernel
theorem dX1_askOne_31 : decode cX1_askOne 31 = .ok (.invokevirtual 94, 3) := by decide +kernel
theorem dX1_askOne_34 : decode cX1_askOne 34 = .ok (.ifCond .ne 5, 3) := by decide +kernel
theorem dX1_askOne_37 : decode cX1_askOne 37 = .ok (.iconst 0, 1) := by decide +kernel
theorem dX1_askOne_38 : decode cX1_askOne 38 = .ok (.ireturn, 1) := by decide +kernel
theorem dX1_askOne_39 : decode cX1_askOne 39 = .ok (.aload_n 0, 1) := by decide +kernel
theorem dX1_askOne_40 : decode cX1_askOne 40 = .ok (.iload_n 1, 1) := by decide +kernel
theorem dX1_askOne_41 : decode cX1_askOne 41 = .ok (.invokevirtual 99, 3) := by decide +kernel
theorem dX1_askOne_44 : decode cX1_askOne 44 = .ok (.istore_n 3, 1) := by decide +kernel
theorem dX1_askOne_45 : decode cX1_askOne 45 = .ok (.iload_n 3, 1) := by decide +kernel
theorem dX1_askOne_46 : decode cX1_askOne 46 = .ok (.ifCond .ne 5, 3) := by decide +kernel
theorem dX1_askOne_49 : decode cX1_askOne 49 = .ok (.iconst 0, 1) := by decide +kernel
theorem dX1_askOne_50 : decode cX1_askOne 50 = .ok (.ireturn, 1) := by decide +kernel
theorem dX1_askOne_51 : decode cX1_askOne 51 = .ok (.aload_n 0, 1) := by decide +kernel
theorem dX1_askOne_52 : decode cX1_askOne 52 = .ok (.iload_n 1, 1) := by decide +kernel
theorem dX1_askOne_53 : decode cX1_askOne 53 = .ok (.iload_n 3, 1) := by decide +kernel
theorem dX1_askOne_54 : decode cX1_askOne 54 = .ok (.invokevirtual 102, 3) := by decide +kernel
theorem dX1_askOne_57 : decode cX1_askOne 57 = .ok (.istore 4, 2) := by decide +kernel
theorem dX1_askOne_59 : decode cX1_askOne 59 = .ok (.iload 4, 2) := by decide +kernel
theorem dX1_askOne_61 : decode cX1_askOne 61 = .ok (.iconst (-1), 1) := by decide +kernel
theorem dX1_askOne_62 : decode cX1_askOne 62 = .ok (.if_icmp .ne 10, 3) := by decide +kernel
theorem dX1_askOne_65 : decode cX1_askOne 65 = .ok (.aload_n 0, 1) := by decide +kernel
theorem dX1_askOne_66 : decode cX1_askOne 66 = .ok (.iload_n 1, 1) := by decide +kernel
theorem dX1_askOne_67 : decode cX1_askOne 67 = .ok (.iload_n 3, 1) := by decide +kernel
theorem dX1_askOne_68 : decode cX1_askOne 68 = .ok (.invokevirtual 106, 3) := by decide +kernel
theorem dX1_askOne_71 : decode cX1_askOne 71 = .ok (.ireturn, 1) := by decide +kernel
theorem dX1_askOne_72 : decode cX1_askOne 72 = .ok (.aload_n 2, 1) := by decide +kernel
theorem dX1_askOne_73 : decode cX1_askOne 73 = .ok (.getfield 32, 3) := by decide +kernel
theorem dX1_askOne_76 : decode cX1_askOne 76 = .ok (.iload 4, 2) := by decide +kernel
theorem dX1_askOne_78 : decode cX1_askOne 78 = .ok (.aload_n 0, 1) := by decide +kernel
theorem dX1_askOne_79 : decode cX1_askOne 79 = .ok (.getfield 9, 3) := by decide +kernel
theorem dX1_askOne_82 : decode cX1_askOne 82 = .ok (.getfield 54, 3) := by decide +kernel
theorem dX1_askOne_85 : decode cX1_askOne 85 = .ok (.getfield 109, 3) := by decide +kernel
theorem dX1_askOne_88 : decode cX1_askOne 88 = .ok (.invokevirtual 112, 3) := by decide +kernel
theorem dX1_askOne_91 : decode cX1_askOne 91 = .ok (.istore 5, 2) := by decide +kernel
theorem dX1_askOne_93 : decode cX1_askOne 93 = .ok (.aload_n 0, 1) := by decide +kernel
theorem dX1_askOne_94 : decode cX1_askOne 94 = .ok (.aload_n 0, 1) := by decide +kernel
theorem dX1_askOne_95 : decode cX1_askOne 95 = .ok (.aload_n 0, 1) := by decide +kernel
theorem dX1_askOne_96 : decode cX1_askOne 96 = .ok (.iload_n 1, 1) := by decide +kernel
theorem dX1_askOne_97 : decode cX1_askOne 97 = .ok (.iload 4, 2) := by decide +kernel
theorem dX1_askOne_99 : decode cX1_askOne 99 = .ok (.iload_n 3, 1) := by decide +kernel
theorem dX1_askOne_100 : decode cX1_askOne 100 = .ok (.invokevirtual 115, 3) := by decide +kernel
theorem dX1_askOne_103 : decode cX1_askOne 103 = .ok (.invokevirtual 119, 3) := by decide +kernel
theorem dX1_askOne_106 : decode cX1_askOne 106 = .ok (.iload_n 1, 1) := by decide +kernel
theorem dX1_askOne_107 : decode cX1_askOne 107 = .ok (.iload 4, 2) := by decide +kernel
theorem dX1_askOne_109 : decode cX1_askOne 109 = .ok (.iload 5, 2) := by decide +kernel
theorem dX1_askOne_111 : decode cX1_askOne 111 = .ok (.invokevirtual 122, 3) := by decide +kernel
theorem dX1_askOne_114 : decode cX1_askOne 114 = .ok (.ireturn, 1) := by decide +kernel
set_option maxRecDepth 20000 in
theorem ggX1_giversTo_X2_nearTo : GoodIn wsX1_giversTo wsX2_nearTo := goodIn_r _ [11, 12, 13, 14, 15, 16, 17, 18, 19, 20, 22, 23, 24, 25, 26, 27, 28, 29, 30, 31, 32, 33, 34, 35, 36, 37, 38, 39, 40, 41, 42, 43, 44, 45, 46, 47, 48, 49, 50, 51, 52] (by decide +kernel) (by decide +kernel)
set_option maxRecDepth 20000 in
theorem gX1_giversTo_X2_nearTo : GoodIn wsX1_giversTo (wsV RX1 38 RX2 yX2_nearTo wsX2_nearTo) := goodIn_app (goodIn_of _ (by decide +kernel)) ggX1_giversTo_X2_nearTo
set_option maxRecDepth 20000 in
theorem ggX1_giversTo_X9_isIn : GoodIn wsX1_giversTo wsX9_isIn := goodIn_r _ [20] (by decide +kernel) (by decide +kernel)
set_option maxRecDepth 20000 in
theorem gX1_giversTo_X9_isIn_n24 : GoodIn wsX1_giversTo (wsX9_isIn) := ggX1_giversTo_X9_isIn
theorem dX1_giversTo_0 : decode cX1_giversTo 0 = .ok (.aload_n 0, 1) := by decide +kernel
theorem dX1_giversTo_1 : decode cX1_giversTo 1 = .ok (.getfield 9, 3) := by decide +kernel
theorem dX1_giversTo_4 : decode cX1_giversTo 4 = .ok (.iload_n 1, 1) := by decide +kernel
theorem dX1_giversTo_5 : decode cX1_giversTo 5 = .ok (.invokevirtual 38, 3) := by decide +kernel
theorem dX1_giversTo_8 : decode cX1_giversTo 8 = .ok (.istore_n 2, 1) := by decide +kernel
theorem dX1_giversTo_9 : decode cX1_giversTo 9 = .ok (.iconst 0, 1) := by decide +kernel
theorem dX1_giversTo_10 : decode cX1_giversTo 10 = .ok (.istore_n 3, 1) := by decide +kernel
theorem dX1_giversTo_11 : decode cX1_giversTo 11 = .ok (.iconst 0, 1) := by decide +kernel
theorem dX1_giversTo_12 : decode cX1_giversTo 12 = .ok (.istore 4, 2) := by decide +kernel
theorem dX1_giversTo_14 : decode cX1_giversTo 14 = .ok (.iload_n 2, 1) := by decide +kernel
theorem dX1_giversTo_15 : decode cX1_giversTo 15 = .ok (.ifCond .eq 72, 3) := by decide +kernel
theorem dX1_giversTo_18 : decode cX1_giversTo 18 = .ok (.iload 4, 2) := by decide +kernel
theorem dX1_giversTo_20 : decode cX1_giversTo 20 = .ok (.aload_n 0, 1) := by decide +kernel
theorem dX1_giversTo_21 : decode cX1_giversTo 21 = .ok (.getfield 9, 3) := by decide +kernel
theorem dX1_giversTo_24 : decode cX1_giversTo 24 = .ok (.getfield 15, 3) := by decide +kernel
theorem dX1_giversTo_27 : decode cX1_giversTo 27 = .ok (.if_icmp .ge 60, 3) := by decide +kernel
theorem dX1_giversTo_30 : decode cX1_giversTo 30 = .ok (.aload_n 0, 1) := by decide +kernel
theorem dX1_giversTo_31 : decode cX1_giversTo 31 = .ok (.getfield 9, 3) := by decide +kernel
theorem dX1_giversTo_34 : decode cX1_giversTo 34 = .ok (.getfield 28, 3) := by decide +kernel
theorem dX1_giversTo_37 : decode cX1_giversTo 37 = .ok (.iload 4, 2) := by decide +kernel
theorem dX1_giversTo_39 : decode cX1_giversTo 39 = .ok (.aaload, 1) := by decide +kernel
theorem dX1_giversTo_40 : decode cX1_giversTo 40 = .ok (.astore 5, 2) := by decide +kernel
theorem dX1_giversTo_42 : decode cX1_giversTo 42 = .ok (.iload_n 2, 1) := by decide +kernel
theorem dX1_giversTo_43 : decode cX1_giversTo 43 = .ok (.iload 4, 2) := by decide +kernel
theorem dX1_giversTo_45 : decode cX1_giversTo 45 = .ok (.invokestatic 24, 3) := by decide +kernel
theorem dX1_giversTo_48 : decode cX1_giversTo 48 = .ok (.ifCond .eq 33, 3) := by decide +kernel
theorem dX1_giversTo_51 : decode cX1_giversTo 51 = .ok (.aload 5, 2) := by decide +kernel
theorem dX1_giversTo_53 : decode cX1_giversTo 53 = .ok (.getfield 126, 3) := by decide +kernel
theorem dX1_giversTo_56 : decode cX1_giversTo 56 = .ok (.getfield 130, 3) := by decide +kernel
theorem dX1_giversTo_59 : decode cX1_giversTo 59 = .ok (.iload_n 1, 1) := by decide +kernel
theorem dX1_giversTo_60 : decode cX1_giversTo 60 = .ok (.invokestatic 24, 3) := by decide +kernel
theorem dX1_giversTo_63 : decode cX1_giversTo 63 = .ok (.ifCond .eq 18, 3) := by decide +kernel
theorem dX1_giversTo_66 : decode cX1_giversTo 66 = .ok (.aload 5, 2) := by decide +kernel
theorem dX1_giversTo_68 : decode cX1_giversTo 68 = .ok (.getfield 73, 3) := by decide +kernel
theorem dX1_giversTo_71 : decode cX1_giversTo 71 = .ok (.ifCond .le 10, 3) := by decide +kernel
theorem dX1_giversTo_74 : decode cX1_giversTo 74 = .ok (.iload_n 3, 1) := by decide +kernel
theorem dX1_giversTo_75 : decode cX1_giversTo 75 = .ok (.iconst 1, 1) := by decide +kernel
theorem dX1_giversTo_76 : decode cX1_giversTo 76 = .ok (.iload 4, 2) := by decide +kernel
theorem dX1_giversTo_78 : decode cX1_giversTo 78 = .ok (.ishl, 1) := by decide +kernel
theorem dX1_giversTo_79 : decode cX1_giversTo 79 = .ok (.ior, 1) := by decide +kernel
theorem dX1_giversTo_80 : decode cX1_giversTo 80 = .ok (.istore_n 3, 1) := by decide +kernel
theorem dX1_giversTo_81 : decode cX1_giversTo 81 = .ok (.iinc 4 1, 3) := by decide +kernel
theorem dX1_giversTo_84 : decode cX1_giversTo 84 = .ok (.goto (-70), 3) := by decide +kernel
theorem dX1_giversTo_87 : decode cX1_giversTo 87 = .ok (.iload_n 3, 1) := by decide +kernel
theorem dX1_giversTo_88 : decode cX1_giversTo 88 = .ok (.ireturn, 1) := by decide +kernel
set_option maxRecDepth 20000 in
theorem ggX1_pickPiece_X2_nearTo : GoodIn wsX1_pickPiece wsX2_nearTo := goodIn_r _ [12, 13, 14, 15, 16, 17, 18, 19, 20, 21, 82, 83, 84, 85, 86, 87, 88, 89, 90, 91, 92, 93, 94, 95, 96, 97, 98, 99, 100, 101, 102, 112, 113, 114, 115, 116, 117, 118, 119, 120, 121] (by decide +kernel) (by decide +kernel)
set_option maxRecDepth 20000 in
theorem gX1_pickPiece_X2_nearTo : GoodIn wsX1_pickPiece (wsV RX1 38 RX2 yX2_nearTo wsX2_nearTo) := goodIn_app (goodIn_of _ (by decide +kernel)) ggX1_pickPiece_X2_nearTo
set_option maxRecDepth 20000 in
theorem ggX1_pickPiece_X9_isIn : GoodIn wsX1_pickPiece wsX9_isIn := goodIn_r _ [21] (by decide +kernel) (by decide +kernel)
set_option maxRecDepth 20000 in
theorem gX1_pickPiece_X9_isIn_n24 : GoodIn wsX1_pickPiece (wsX9_isIn) := ggX1_pickPiece_X9_isIn
set_option maxRecDepth 20000 in
theorem ggX1_pickPiece_X6_firstUnasked : GoodIn wsX1_pickPiece wsX6_firstUnasked := goodIn_r _ [26, 27, 28, 29, 30, 25, 31, 32, 33, 19, 20, 21, 34, 35, 106, 107, 108, 109, 110, 111] (by decide +kernel) (by decide +kernel)
set_option maxRecDepth 20000 in
theorem gX1_pickPiece_X6_firstUnasked : GoodIn wsX1_pickPiece (wsV RX1 112 RX6 yX6_firstUnasked wsX6_firstUnasked) := goodIn_app (goodIn_of _ (by decide +kernel)) ggX1_pickPiece_X6_firstUnasked
set_option maxRecDepth 20000 in
theorem ggX1_pickPiece_X1_giversThatMayBe : GoodIn wsX1_pickPiece wsX1_giversThatMayBe := goodIn_r _ [40, 1, 2, 3, 41, 42, 43, 44, 45, 11, 46, 47, 13, 19, 20, 21, 48, 49, 50, 51, 52, 53, 54, 55, 56, 57, 58, 59, 25, 60, 33, 34, 35, 61, 62, 63, 64, 65, 66, 67, 68, 69, 81, 82, 83, 84, 85, 86, 87, 88, 89, 90, 91, 92, 93, 94, 95, 96, 97, 98, 99, 100, 101, 102, 106, 107, 108, 109, 110, 111, 122, 123, 124, 125, 126, 127, 128] (by decide +kernel) (by decide +kernel)
set_option maxRecDepth 20000 in
theorem gX1_pickPiece_X1_giversThatMayBe : GoodIn wsX1_pickPiece (wsV RX1 115 RX1 yX1_giversThatMayBe wsX1_giversThatMayBe) := goodIn_app (goodIn_of _ (by decide +kernel)) ggX1_pickPiece_X1_giversThatMayBe
set_option maxRecDepth 20000 in
theorem ggX1_pickPiece_X2_tellersAmong : GoodIn wsX1_pickPiece wsX2_tellersAmong := goodIn_r _ [46, 47, 13, 19, 20, 21, 48, 49, 50, 51, 52, 53, 54, 55, 56, 82, 83, 84, 85, 86, 87, 88, 89, 90, 91, 92, 93, 94, 95, 96, 97, 98, 99, 100, 101, 102, 106, 107, 108, 109, 110, 111] (by decide +kernel) (by decide +kernel)
set_option maxRecDepth 20000 in
theorem gX1_pickPiece_X2_tellersAmong : GoodIn wsX1_pickPiece (wsV RX1 135 RX2 yX2_tellersAmong wsX2_tellersAmong) := goodIn_app (goodIn_of _ (by decide +kernel)) ggX1_pickPiece_X2_tellersAmong
set_option maxRecDepth 20000 in
theorem ggX1_pickPiece_J6_bitCount_0f7a4 : GoodIn wsX1_pickPiece wsJ6_bitCount_0f7a4 := goodIn_r _ [73, 74, 75, 76] (by decide +kernel) (by decide +kernel)
set_option maxRecDepth 20000 in
theorem gX1_pickPiece_J6_bitCount_0f7a4 : GoodIn wsX1_pickPiece (va_wsS RX1 138 yJ6_bitCount_0f7a4 wsJ6_bitCount_0f7a4) := goodIn_app (goodIn_of _ (by decide +kernel)) ggX1_pickPiece_J6_bitCount_0f7a4
set_option maxRecDepth 20000 in
theorem ggX1_pickPiece_X6_isBegun : GoodIn wsX1_pickPiece wsX6_isBegun := goodIn_r _ [80, 27, 28, 29, 30, 25, 31, 32, 33, 19, 20, 21, 34, 35, 106, 107, 108, 109, 110, 111] (by decide +kernel) (by decide +kernel)
set_option maxRecDepth 20000 in
theorem gX1_pickPiece_X6_isBegun : GoodIn wsX1_pickPiece (wsV RX1 143 RX6 yX6_isBegun wsX6_isBegun) := goodIn_app (goodIn_of _ (by decide +kernel)) ggX1_pickPiece_X6_isBegun
theorem dX1_pickPiece_0 : decode cX1_pickPiece 0 = .ok (.aload_n 0, 1) := by decide +kernel
theorem dX1_pickPiece_1 : decode cX1_pickPiece 1 = .ok (.getfield 9, 3) := by decide +kernel
theorem dX1_pickPiece_4 : decode cX1_pickPiece 4 = .ok (.getfield 28, 3) := by decide +kernel
theorem dX1_pickPiece_7 : decode cX1_pickPiece 7 = .ok (.iload_n 1, 1) := by decide +kernel
theorem dX1_pickPiece_8 : decode cX1_pickPiece 8 = .ok (.aaload, 1) := by decide +kernel
theorem dX1_pickPiece_9 : decode cX1_pickPiece 9 = .ok (.getfield 32, 3) := by decide +kernel
theorem dX1_pickPiece_12 : decode cX1_pickPiece 12 = .ok (.astore_n 3, 1) := by decide +kernel
theorem dX1_pickPiece_13 : decode cX1_pickPiece 13 = .ok (.aload_n 0, 1) := by decide +kernel
theorem dX1_pickPiece_14 : decode cX1_pickPiece 14 = .ok (.getfield 9, 3) := by decide +kernel
theorem dX1_pickPiece_17 : decode cX1_pickPiece 17 = .ok (.iload_n 1, 1) := by decide +kernel
theorem dX1_pickPiece_18 : decode cX1_pickPiece 18 = .ok (.invokevirtual 38, 3) := by decide +kernel
theorem dX1_pickPiece_21 : decode cX1_pickPiece 21 = .ok (.istore 4, 2) := by decide +kernel
theorem dX1_pickPiece_23 : decode cX1_pickPiece 23 = .ok (.iconst (-1), 1) := by decide +kernel
theorem dX1_pickPiece_24 : decode cX1_pickPiece 24 = .ok (.istore 5, 2) := by decide +kernel
theorem dX1_pickPiece_26 : decode cX1_pickPiece 26 = .ok (.iconst 0, 1) := by decide +kernel
theorem dX1_pickPiece_27 : decode cX1_pickPiece 27 = .ok (.istore 6, 2) := by decide +kernel
theorem dX1_pickPiece_29 : decode cX1_pickPiece 29 = .ok (.iconst 0, 1) := by decide +kernel
theorem dX1_pickPiece_30 : decode cX1_pickPiece 30 = .ok (.istore 7, 2) := by decide +kernel
theorem dX1_pickPiece_32 : decode cX1_pickPiece 32 = .ok (.iload 7, 2) := by decide +kernel
theorem dX1_pickPiece_34 : decode cX1_pickPiece 34 = .ok (.aload_n 0, 1) := by decide +kernel
theorem dX1_pickPiece_35 : decode cX1_pickPiece 35 = .ok (.getfield 9, 3) := by decide +kernel
theorem dX1_pickPiece_38 : decode cX1_pickPiece 38 = .ok (.getfield 54, 3) := by decide +kernel
theorem dX1_pickPiece_41 : decode cX1_pickPiece 41 = .ok (.getfield 58, 3) := by decide +kernel
theorem dX1_pickPiece_44 : decode cX1_pickPiece 44 = .ok (.if_icmp .ge 113, 3) := by decide +kernel
theorem dX1_pickPiece_47 : decode cX1_pickPiece 47 = .ok (.aload_n 3, 1) := by decide +kernel
theorem dX1_pickPiece_48 : decode cX1_pickPiece 48 = .ok (.getfield 51, 3) := by decide +kernel
theorem dX1_pickPiece_51 : decode cX1_pickPiece 51 = .ok (.iload 7, 2) := by decide +kernel
theorem dX1_pickPiece_53 : decode cX1_pickPiece 53 = .ok (.invokestatic 24, 3) := by decide +kernel
theorem dX1_pickPiece_56 : decode cX1_pickPiece 56 = .ok (.ifCond .ne 95, 3) := by decide +kernel
theorem dX1_pickPiece_59 : decode cX1_pickPiece 59 = .ok (.aload_n 3, 1) := by decide +kernel
theorem dX1_pickPiece_60 : decode cX1_pickPiece 60 = .ok (.iload 7, 2) := by decide +kernel
theorem dX1_pickPiece_62 : decode cX1_pickPiece 62 = .ok (.aload_n 0, 1) := by decide +kernel
theorem dX1_pickPiece_63 : decode cX1_pickPiece 63 = .ok (.getfield 9, 3) := by decide +kernel
theorem dX1_pickPiece_66 : decode cX1_pickPiece 66 = .ok (.getfield 54, 3) := by decide +kernel
theorem dX1_pickPiece_69 : decode cX1_pickPiece 69 = .ok (.getfield 109, 3) := by decide +kernel
theorem dX1_pickPiece_72 : decode cX1_pickPiece 72 = .ok (.invokevirtual 112, 3) := by decide +kernel
theorem dX1_pickPiece_75 : decode cX1_pickPiece 75 = .ok (.iconst (-1), 1) := by decide +kernel
theorem dX1_pickPiece_76 : decode cX1_pickPiece 76 = .ok (.if_icmp .eq 75, 3) := by decide +kernel
theorem dX1_pickPiece_79 : decode cX1_pickPiece 79 = .ok (.aload_n 0, 1) := by decide +kernel
theorem dX1_pickPiece_80 : decode cX1_pickPiece 80 = .ok (.iload_n 1, 1) := by decide +kernel
theorem dX1_pickPiece_81 : decode cX1_pickPiece 81 = .ok (.iload 7, 2) := by decide +kernel
theorem dX1_pickPiece_83 : decode cX1_pickPiece 83 = .ok (.iload_n 2, 1) := by decide +kernel
theorem dX1_pickPiece_84 : decode cX1_pickPiece 84 = .ok (.invokevirtual 115, 3) := by decide +kernel
theorem dX1_pickPiece_87 : decode cX1_pickPiece 87 = .ok (.ifCond .ne 6, 3) := by decide +kernel
theorem dX1_pickPiece_90 : decode cX1_pickPiece 90 = .ok (.goto 61, 3) := by decide +kernel
theorem dX1_pickPiece_93 : decode cX1_pickPiece 93 = .ok (.aload_n 0, 1) := by decide +kernel
theorem dX1_pickPiece_94 : decode cX1_pickPiece 94 = .ok (.getfield 9, 3) := by decide +kernel
theorem dX1_pickPiece_97 : decode cX1_pickPiece 97 = .ok (.iload 4, 2) := by decide +kernel
theorem dX1_pickPiece_99 : decode cX1_pickPiece 99 = .ok (.iload 7, 2) := by decide +kernel
theorem dX1_pickPiece_101 : decode cX1_pickPiece 101 = .ok (.invokevirtual 135, 3) := by decide +kernel
theorem dX1_pickPiece_104 : decode cX1_pickPiece 104 = .ok (.invokestatic 138, 3) := by decide +kernel
theorem dX1_pickPiece_107 : decode cX1_pickPiece 107 = .ok (.istore 8, 2) := by decide +kernel
theorem dX1_pickPiece_109 : decode cX1_pickPiece 109 = .ok (.aload_n 3, 1) := by decide +kernel
theorem dX1_pickPiece_110 : decode cX1_pickPiece 110 = .ok (.iload 7, 2) := by decide +kernel
theorem dX1_pickPiece_112 : decode cX1_pickPiece 112 = .ok (.invokevirtual 143, 3) := by decide +kernel
theorem dX1_pickPiece_115 : decode cX1_pickPiece 115 = .ok (.ifCond .eq 8, 3) := by decide +kernel
theorem dX1_pickPiece_118 : decode cX1_pickPiece 118 = .ok (.iload 8, 2) := by decide +kernel
theorem dX1_pickPiece_120 : decode cX1_pickPiece 120 = .ok (.goto 8, 3) := by decide +kernel
theorem dX1_pickPiece_123 : decode cX1_pickPiece 123 = .ok (.iload 8, 2) := by decide +kernel
theorem dX1_pickPiece_125 : decode cX1_pickPiece 125 = .ok (.bipush 13, 2) := by decide +kernel
theorem dX1_pickPiece_127 : decode cX1_pickPiece 127 = .ok (.iadd, 1) := by decide +kernel
theorem dX1_pickPiece_128 : decode cX1_pickPiece 128 = .ok (.istore 9, 2) := by decide +kernel
theorem dX1_pickPiece_130 : decode cX1_pickPiece 130 = .ok (.iload 5, 2) := by decide +kernel
theorem dX1_pickPiece_132 : decode cX1_pickPiece 132 = .ok (.iconst (-1), 1) := by decide +kernel
theorem dX1_pickPiece_133 : decode cX1_pickPiece 133 = .ok (.if_icmp .eq 10, 3) := by decide +kernel
theorem dX1_pickPiece_136 : decode cX1_pickPiece 136 = .ok (.iload 9, 2) := by decide +kernel
theorem dX1_pickPiece_138 : decode cX1_pickPiece 138 = .ok (.iload 6, 2) := by decide +kernel
theorem dX1_pickPiece_140 : decode cX1_pickPiece 140 = .ok (.if_icmp .ge 11, 3) := by decide +kernel
theorem dX1_pickPiece_143 : decode cX1_pickPiece 143 = .ok (.iload 7, 2) := by decide +kernel
theorem dX1_pickPiece_145 : decode cX1_pickPiece 145 = .ok (.istore 5, 2) := by decide +kernel
theorem dX1_pickPiece_147 : decode cX1_pickPiece 147 = .ok (.iload 9, 2) := by decide +kernel
theorem dX1_pickPiece_149 : decode cX1_pickPiece 149 = .ok (.istore 6, 2) := by decide +kernel
theorem dX1_pickPiece_151 : decode cX1_pickPiece 151 = .ok (.iinc 7 1, 3) := by decide +kernel
theorem dX1_pickPiece_154 : decode cX1_pickPiece 154 = .ok (.goto (-122), 3) := by decide +kernel
theorem dX1_pickPiece_157 : decode cX1_pickPiece 157 = .ok (.iload 5, 2) := by decide +kernel
theorem dX1_pickPiece_159 : decode cX1_pickPiece 159 = .ok (.ireturn, 1) := by decide +kernel
set_option maxRecDepth 20000 in
theorem ggX1_giversThatMayBe_X2_tellersAmong : GoodIn wsX1_giversThatMayBe wsX2_tellersAmong := goodIn_r _ [10, 11, 12, 13, 14, 15, 16, 17, 18, 19, 20, 21, 22, 23, 24, 43, 44, 45, 46, 47, 48, 49, 50, 51, 52, 53, 54, 55, 56, 57, 58, 59, 60, 61, 62, 63, 64, 65, 66, 67, 68, 69] (by decide +kernel) (by decide +kernel)
set_option maxRecDepth 20000 in
theorem gX1_giversThatMayBe_X2_tellersAmong : GoodIn wsX1_giversThatMayBe (wsV RX1 135 RX2 yX2_tellersAmong wsX2_tellersAmong) := goodIn_app (goodIn_of _ (by decide +kernel)) ggX1_giversThatMayBe_X2_tellersAmong
set_option maxRecDepth 20000 in
theorem ggX1_giversThatMayBe_X9_isIn : GoodIn wsX1_giversThatMayBe wsX9_isIn := goodIn_r _ [15] (by decide +kernel) (by decide +kernel)
set_option maxRecDepth 20000 in
theorem gX1_giversThatMayBe_X9_isIn_n24 : GoodIn wsX1_giversThatMayBe (wsX9_isIn) := ggX1_giversThatMayBe_X9_isIn
set_option maxRecDepth 20000 in
theorem ggX1_giversThatMayBe_X6_firstGiver : GoodIn wsX1_giversThatMayBe wsX6_firstGiver := goodIn_r _ [29, 30, 31, 14, 32, 64, 65, 66, 67, 68, 69] (by decide +kernel) (by decide +kernel)
set_option maxRecDepth 20000 in
theorem gX1_giversThatMayBe_X6_firstGiver : GoodIn wsX1_giversThatMayBe (wsV RX1 146 RX6 yX6_firstGiver wsX6_firstGiver) := goodIn_app (goodIn_of _ (by decide +kernel)) ggX1_giversThatMayBe_X6_firstGiver
set_option maxRecDepth 20000 in
theorem ggX1_giversThatMayBe_X5_firstGiver : GoodIn wsX1_giversThatMayBe wsX5_firstGiver := goodIn_r _ [37, 38, 39, 40, 41, 70, 71, 72, 73, 74, 75, 76] (by decide +kernel) (by decide +kernel)
set_option maxRecDepth 20000 in
theorem gX1_giversThatMayBe_X5_firstGiver : GoodIn wsX1_giversThatMayBe (wsV RX1 149 RX5 yX5_firstGiver wsX5_firstGiver) := goodIn_app (goodIn_of _ (by decide +kernel)) ggX1_giversThatMayBe_X5_firstGiver
theorem dX1_giversThatMayBe_0 : decode cX1_giversThatMayBe 0 = .ok (.aload_n 0, 1) := by decide +kernel
theorem dX1_giversThatMayBe_1 : decode cX1_giversThatMayBe 1 = .ok (.getfield 9, 3) := by decide +kernel
theorem dX1_giversThatMayBe_4 : decode cX1_giversThatMayBe 4 = .ok (.iload_n 3, 1) := by decide +kernel
theorem dX1_giversThatMayBe_5 : decode cX1_giversThatMayBe 5 = .ok (.iload_n 2, 1) := by decide +kernel
theorem dX1_giversThatMayBe_6 : decode cX1_giversThatMayBe 6 = .ok (.invokevirtual 135, 3) := by decide +kernel
theorem dX1_giversThatMayBe_9 : decode cX1_giversThatMayBe 9 = .ok (.istore 4, 2) := by decide +kernel
theorem dX1_giversThatMayBe_11 : decode cX1_giversThatMayBe 11 = .ok (.aload_n 0, 1) := by decide +kernel
theorem dX1_giversThatMayBe_12 : decode cX1_giversThatMayBe 12 = .ok (.getfield 9, 3) := by decide +kernel
theorem dX1_giversThatMayBe_15 : decode cX1_giversThatMayBe 15 = .ok (.getfield 28, 3) := by decide +kernel
theorem dX1_giversThatMayBe_18 : decode cX1_giversThatMayBe 18 = .ok (.iload_n 1, 1) := by decide +kernel
theorem dX1_giversThatMayBe_19 : decode cX1_giversThatMayBe 19 = .ok (.aaload, 1) := by decide +kernel
theorem dX1_giversThatMayBe_20 : decode cX1_giversThatMayBe 20 = .ok (.getfield 32, 3) := by decide +kernel
theorem dX1_giversThatMayBe_23 : decode cX1_giversThatMayBe 23 = .ok (.astore 5, 2) := by decide +kernel
theorem dX1_giversThatMayBe_25 : decode cX1_giversThatMayBe 25 = .ok (.aload 5, 2) := by decide +kernel
theorem dX1_giversThatMayBe_27 : decode cX1_giversThatMayBe 27 = .ok (.getfield 46, 3) := by decide +kernel
theorem dX1_giversThatMayBe_30 : decode cX1_giversThatMayBe 30 = .ok (.iload_n 2, 1) := by decide +kernel
theorem dX1_giversThatMayBe_31 : decode cX1_giversThatMayBe 31 = .ok (.invokestatic 24, 3) := by decide +kernel
theorem dX1_giversThatMayBe_34 : decode cX1_giversThatMayBe 34 = .ok (.ifCond .ne 6, 3) := by decide +kernel
theorem dX1_giversThatMayBe_37 : decode cX1_giversThatMayBe 37 = .ok (.iload 4, 2) := by decide +kernel
theorem dX1_giversThatMayBe_39 : decode cX1_giversThatMayBe 39 = .ok (.ireturn, 1) := by decide +kernel
theorem dX1_giversThatMayBe_40 : decode cX1_giversThatMayBe 40 = .ok (.aload 5, 2) := by decide +kernel
theorem dX1_giversThatMayBe_42 : decode cX1_giversThatMayBe 42 = .ok (.iload_n 2, 1) := by decide +kernel
theorem dX1_giversThatMayBe_43 : decode cX1_giversThatMayBe 43 = .ok (.invokevirtual 146, 3) := by decide +kernel
theorem dX1_giversThatMayBe_46 : decode cX1_giversThatMayBe 46 = .ok (.istore 6, 2) := by decide +kernel
theorem dX1_giversThatMayBe_48 : decode cX1_giversThatMayBe 48 = .ok (.iload 6, 2) := by decide +kernel
theorem dX1_giversThatMayBe_50 : decode cX1_giversThatMayBe 50 = .ok (.iconst (-1), 1) := by decide +kernel
theorem dX1_giversThatMayBe_51 : decode cX1_giversThatMayBe 51 = .ok (.if_icmp .ne 17, 3) := by decide +kernel
theorem dX1_giversThatMayBe_54 : decode cX1_giversThatMayBe 54 = .ok (.aload_n 0, 1) := by decide +kernel
theorem dX1_giversThatMayBe_55 : decode cX1_giversThatMayBe 55 = .ok (.getfield 9, 3) := by decide +kernel
theorem dX1_giversThatMayBe_58 : decode cX1_giversThatMayBe 58 = .ok (.getfield 90, 3) := by decide +kernel
theorem dX1_giversThatMayBe_61 : decode cX1_giversThatMayBe 61 = .ok (.iload_n 1, 1) := by decide +kernel
theorem dX1_giversThatMayBe_62 : decode cX1_giversThatMayBe 62 = .ok (.iload_n 2, 1) := by decide +kernel
theorem dX1_giversThatMayBe_63 : decode cX1_giversThatMayBe 63 = .ok (.invokevirtual 149, 3) := by decide +kernel
theorem dX1_giversThatMayBe_66 : decode cX1_giversThatMayBe 66 = .ok (.istore 6, 2) := by decide +kernel
theorem dX1_giversThatMayBe_68 : decode cX1_giversThatMayBe 68 = .ok (.iload 6, 2) := by decide +kernel
theorem dX1_giversThatMayBe_70 : decode cX1_giversThatMayBe 70 = .ok (.iconst (-1), 1) := by decide +kernel
theorem dX1_giversThatMayBe_71 : decode cX1_giversThatMayBe 71 = .ok (.if_icmp .ne 8, 3) := by decide +kernel
theorem dX1_giversThatMayBe_74 : decode cX1_giversThatMayBe 74 = .ok (.iload 4, 2) := by decide +kernel
theorem dX1_giversThatMayBe_76 : decode cX1_giversThatMayBe 76 = .ok (.goto 10, 3) := by decide +kernel
theorem dX1_giversThatMayBe_79 : decode cX1_giversThatMayBe 79 = .ok (.iload 4, 2) := by decide +kernel
theorem dX1_giversThatMayBe_81 : decode cX1_giversThatMayBe 81 = .ok (.iconst 1, 1) := by decide +kernel
theorem dX1_giversThatMayBe_82 : decode cX1_giversThatMayBe 82 = .ok (.iload 6, 2) := by decide +kernel
theorem dX1_giversThatMayBe_84 : decode cX1_giversThatMayBe 84 = .ok (.ishl, 1) := by decide +kernel
theorem dX1_giversThatMayBe_85 : decode cX1_giversThatMayBe 85 = .ok (.iand, 1) := by decide +kernel
theorem dX1_giversThatMayBe_86 : decode cX1_giversThatMayBe 86 = .ok (.ireturn, 1) := by decide +kernel
set_option maxRecDepth 20000 in
theorem ggX1_readiest_X9_isIn : GoodIn wsX1_readiest wsX9_isIn := goodIn_r _ [7] (by decide +kernel) (by decide +kernel)
set_option maxRecDepth 20000 in
theorem gX1_readiest_X9_isIn_n24 : GoodIn wsX1_readiest (wsX9_isIn) := ggX1_readiest_X9_isIn
theorem dX1_readiest_0 : decode cX1_readiest 0 = .ok (.iconst (-1), 1) := by decide +kernel
theorem dX1_readiest_1 : decode cX1_readiest 1 = .ok (.istore_n 2, 1) := by decide +kernel
theorem dX1_readiest_2 : decode cX1_readiest 2 = .ok (.iconst 0, 1) := by decide +kernel
theorem dX1_readiest_3 : decode cX1_readiest 3 = .ok (.istore_n 3, 1) := by decide +kernel
theorem dX1_readiest_4 : decode cX1_readiest 4 = .ok (.iload_n 3, 1) := by decide +kernel
theorem dX1_readiest_5 : decode cX1_readiest 5 = .ok (.aload_n 0, 1) := by decide +kernel
theorem dX1_readiest_6 : decode cX1_readiest 6 = .ok (.getfield 9, 3) := by decide +kernel
theorem dX1_readiest_9 : decode cX1_readiest 9 = .ok (.getfield 15, 3) := by decide +kernel
theorem dX1_readiest_12 : decode cX1_readiest 12 = .ok (.if_icmp .ge 51, 3) := by decide +kernel
theorem dX1_readiest_15 : decode cX1_readiest 15 = .ok (.iload_n 1, 1) := by decide +kernel
theorem dX1_readiest_16 : decode cX1_readiest 16 = .ok (.iload_n 3, 1) := by decide +kernel
theorem dX1_readiest_17 : decode cX1_readiest 17 = .ok (.invokestatic 24, 3) := by decide +kernel
theorem dX1_readiest_20 : decode cX1_readiest 20 = .ok (.ifCond .eq 37, 3) := by decide +kernel
theorem dX1_readiest_23 : decode cX1_readiest 23 = .ok (.iload_n 2, 1) := by decide +kernel
theorem dX1_readiest_24 : decode cX1_readiest 24 = .ok (.iconst (-1), 1) := by decide +kernel
theorem dX1_readiest_25 : decode cX1_readiest 25 = .ok (.if_icmp .eq 30, 3) := by decide +kernel
theorem dX1_readiest_28 : decode cX1_readiest 28 = .ok (.aload_n 0, 1) := by decide +kernel
theorem dX1_readiest_29 : decode cX1_readiest 29 = .ok (.getfield 9, 3) := by decide +kernel
theorem dX1_readiest_32 : decode cX1_readiest 32 = .ok (.getfield 28, 3) := by decide +kernel
theorem dX1_readiest_35 : decode cX1_readiest 35 = .ok (.iload_n 3, 1) := by decide +kernel
theorem dX1_readiest_36 : decode cX1_readiest 36 = .ok (.aaload, 1) := by decide +kernel
theorem dX1_readiest_37 : decode cX1_readiest 37 = .ok (.getfield 73, 3) := by decide +kernel
theorem dX1_readiest_40 : decode cX1_readiest 40 = .ok (.aload_n 0, 1) := by decide +kernel
theorem dX1_readiest_41 : decode cX1_readiest 41 = .ok (.getfield 9, 3) := by decide +kernel
theorem dX1_readiest_44 : decode cX1_readiest 44 = .ok (.getfield 28, 3) := by decide +kernel
theorem dX1_readiest_47 : decode cX1_readiest 47 = .ok (.iload_n 2, 1) := by decide +kernel
theorem dX1_readiest_48 : decode cX1_readiest 48 = .ok (.aaload, 1) := by decide +kernel
theorem dX1_readiest_49 : decode cX1_readiest 49 = .ok (.getfield 73, 3) := by decide +kernel
theorem dX1_readiest_52 : decode cX1_readiest 52 = .ok (.if_icmp .le 5, 3) := by decide +kernel
theorem dX1_readiest_55 : decode cX1_readiest 55 = .ok (.iload_n 3, 1) := by decide +kernel
theorem dX1_readiest_56 : decode cX1_readiest 56 = .ok (.istore_n 2, 1) := by decide +kernel
theorem dX1_readiest_57 : decode cX1_readiest 57 = .ok (.iinc 3 1, 3) := by decide +kernel
theorem dX1_readiest_60 : decode cX1_readiest 60 = .ok (.goto (-56), 3) := by decide +kernel
theorem dX1_readiest_63 : decode cX1_readiest 63 = .ok (.iload_n 2, 1) := by decide +kernel
theorem dX1_readiest_64 : decode cX1_readiest 64 = .ok (.ireturn, 1) := by decide +kernel
set_option maxRecDepth 20000 in
theorem ggX1_askAtEnd_X9_isIn : GoodIn wsX1_askAtEnd wsX9_isIn := goodIn_r _ [13] (by decide +kernel) (by decide +kernel)
set_option maxRecDepth 20000 in
theorem gX1_askAtEnd_X9_isIn_n24 : GoodIn wsX1_askAtEnd (wsX9_isIn) := ggX1_askAtEnd_X9_isIn
set_option maxRecDepth 20000 in
theorem ggX1_askAtEnd_X2_tellersAmong : GoodIn wsX1_askAtEnd wsX2_tellersAmong := goodIn_r _ [18, 19, 20, 11, 12, 13, 21, 22, 23, 24, 25, 26, 27, 28, 29, 98, 99, 100, 101, 102, 103, 104, 105, 106, 107, 108, 109, 110, 111, 112, 113, 114, 115, 116, 117, 118, 119, 120, 121, 122, 123, 124] (by decide +kernel) (by decide +kernel)
set_option maxRecDepth 20000 in
theorem gX1_askAtEnd_X2_tellersAmong : GoodIn wsX1_askAtEnd (wsV RX1 135 RX2 yX2_tellersAmong wsX2_tellersAmong) := goodIn_app (goodIn_of _ (by decide +kernel)) ggX1_askAtEnd_X2_tellersAmong
set_option maxRecDepth 20000 in
theorem ggX1_askAtEnd_X6_holds : GoodIn wsX1_askAtEnd wsX6_holds := goodIn_r _ [34, 35, 36, 11, 12, 13, 37, 38, 119, 120, 121, 122, 123, 124] (by decide +kernel) (by decide +kernel)
set_option maxRecDepth 20000 in
theorem gX1_askAtEnd_X6_holds : GoodIn wsX1_askAtEnd (wsV RX1 151 RX6 yX6_holds wsX6_holds) := goodIn_app (goodIn_of _ (by decide +kernel)) ggX1_askAtEnd_X6_holds
set_option maxRecDepth 20000 in
theorem ggX1_askAtEnd_X9_place : GoodIn wsX1_askAtEnd wsX9_place := goodIn_r _ [38] (by decide +kernel) (by decide +kernel)
set_option maxRecDepth 20000 in
theorem gX1_askAtEnd_X9_place_n158 : GoodIn wsX1_askAtEnd (wsX9_place) := ggX1_askAtEnd_X9_place
set_option maxRecDepth 20000 in
theorem ggX1_askAtEnd_X5_firstGiverOf : GoodIn wsX1_askAtEnd wsX5_firstGiverOf := goodIn_r _ [43, 44, 45, 46, 47, 48, 128, 129, 130, 131, 132, 133, 134] (by decide +kernel) (by decide +kernel)
set_option maxRecDepth 20000 in
theorem gX1_askAtEnd_X5_firstGiverOf : GoodIn wsX1_askAtEnd (wsV RX1 161 RX5 yX5_firstGiverOf wsX5_firstGiverOf) := goodIn_app (goodIn_of _ (by decide +kernel)) ggX1_askAtEnd_X5_firstGiverOf
set_option maxRecDepth 20000 in
theorem ggX1_askAtEnd_X1_readiest : GoodIn wsX1_askAtEnd wsX1_readiest := goodIn_r _ [53, 1, 54, 2, 55, 11, 12, 13, 97, 98, 99, 100, 101, 102, 103, 104, 105, 106, 107, 108, 109, 110, 111, 112, 113, 114, 115, 116, 117, 118] (by decide +kernel) (by decide +kernel)
set_option maxRecDepth 20000 in
theorem gX1_askAtEnd_X1_readiest : GoodIn wsX1_askAtEnd (wsV RX1 119 RX1 yX1_readiest wsX1_readiest) := goodIn_app (goodIn_of _ (by decide +kernel)) ggX1_askAtEnd_X1_readiest
set_option maxRecDepth 20000 in
theorem ggX1_askAtEnd_X1_send : GoodIn wsX1_askAtEnd wsX1_send := goodIn_r _ [59, 1, 2, 55, 60, 61, 62, 63, 64, 3, 65, 6, 66, 67, 10, 68, 69, 70, 33, 71, 72, 73, 37, 12, 38, 74, 75, 76, 77, 78, 79, 80, 81, 82, 83, 24, 84, 26, 85, 86, 87, 88, 89, 42, 90, 48, 44, 45, 46, 47, 91, 92, 93, 94, 95, 96, 97, 98, 99, 100, 101, 102, 103, 104, 105, 106, 107, 108, 109, 110, 111, 112, 113, 114, 115, 116, 117, 118, 135, 136, 137, 138, 139, 140, 141, 142, 143, 144, 119, 120, 121, 122, 123, 124, 125, 126, 127, 128, 129, 130, 131, 132, 133, 134] (by decide +kernel) (by decide +kernel)
set_option maxRecDepth 20000 in
theorem gX1_askAtEnd_X1_send : GoodIn wsX1_askAtEnd (wsV RX1 122 RX1 yX1_send wsX1_send) := goodIn_app (goodIn_of _ (by decide +kernel)) ggX1_askAtEnd_X1_send
theorem dX1_askAtEnd_0 : decode cX1_askAtEnd 0 = .ok (.aload_n 0, 1) := by decide +kernel
theorem dX1_askAtEnd_1 : decode cX1_askAtEnd 1 = .ok (.getfield 9, 3) := by decide +kernel
theorem dX1_askAtEnd_4 : decode cX1_askAtEnd 4 = .ok (.getfield 28, 3) := by decide +kernel
theorem dX1_askAtEnd_7 : decode cX1_askAtEnd 7 = .ok (.iload_n 1, 1) := by decide +kernel
theorem dX1_askAtEnd_8 : decode cX1_askAtEnd 8 = .ok (.aaload, 1) := by decide +kernel
theorem dX1_askAtEnd_9 : decode cX1_askAtEnd 9 = .ok (.getfield 32, 3) := by decide +kernel
theorem dX1_askAtEnd_12 : decode cX1_askAtEnd 12 = .ok (.astore_n 3, 1) := by decide +kernel
theorem dX1_askAtEnd_13 : decode cX1_askAtEnd 13 = .ok (.aload_n 3, 1) := by decide +kernel
theorem dX1_askAtEnd_14 : decode cX1_askAtEnd 14 = .ok (.getfield 51, 3) := by decide +kernel
theorem dX1_askAtEnd_17 : decode cX1_askAtEnd 17 = .ok (.aload_n 3, 1) := by decide +kernel
theorem dX1_askAtEnd_18 : decode cX1_askAtEnd 18 = .ok (.getfield 46, 3) := by decide +kernel
theorem dX1_askAtEnd_21 : decode cX1_askAtEnd 21 = .ok (.ior, 1) := by decide +kernel
theorem dX1_askAtEnd_22 : decode cX1_askAtEnd 22 = .ok (.istore 4, 2) := by decide +kernel
theorem dX1_askAtEnd_24 : decode cX1_askAtEnd 24 = .ok (.iconst 0, 1) := by decide +kernel
theorem dX1_askAtEnd_25 : decode cX1_askAtEnd 25 = .ok (.istore 5, 2) := by decide +kernel
theorem dX1_askAtEnd_27 : decode cX1_askAtEnd 27 = .ok (.iload 5, 2) := by decide +kernel
theorem dX1_askAtEnd_29 : decode cX1_askAtEnd 29 = .ok (.aload_n 0, 1) := by decide +kernel
theorem dX1_askAtEnd_30 : decode cX1_askAtEnd 30 = .ok (.getfield 9, 3) := by decide +kernel
theorem dX1_askAtEnd_33 : decode cX1_askAtEnd 33 = .ok (.getfield 54, 3) := by decide +kernel
theorem dX1_askAtEnd_36 : decode cX1_askAtEnd 36 = .ok (.getfield 58, 3) := by decide +kernel
theorem dX1_askAtEnd_39 : decode cX1_askAtEnd 39 = .ok (.if_icmp .ge 154, 3) := by decide +kernel
theorem dX1_askAtEnd_42 : decode cX1_askAtEnd 42 = .ok (.iload 4, 2) := by decide +kernel
theorem dX1_askAtEnd_44 : decode cX1_askAtEnd 44 = .ok (.iload 5, 2) := by decide +kernel
theorem dX1_askAtEnd_46 : decode cX1_askAtEnd 46 = .ok (.invokestatic 24, 3) := by decide +kernel
theorem dX1_askAtEnd_49 : decode cX1_askAtEnd 49 = .ok (.ifCond .eq 7, 3) := by decide +kernel
theorem dX1_askAtEnd_52 : decode cX1_askAtEnd 52 = .ok (.iconst 0, 1) := by decide +kernel
theorem dX1_askAtEnd_53 : decode cX1_askAtEnd 53 = .ok (.goto 13, 3) := by decide +kernel
theorem dX1_askAtEnd_56 : decode cX1_askAtEnd 56 = .ok (.aload_n 0, 1) := by decide +kernel
theorem dX1_askAtEnd_57 : decode cX1_askAtEnd 57 = .ok (.getfield 9, 3) := by decide +kernel
theorem dX1_askAtEnd_60 : decode cX1_askAtEnd 60 = .ok (.iload_n 2, 1) := by decide +kernel
theorem dX1_askAtEnd_61 : decode cX1_askAtEnd 61 = .ok (.iload 5, 2) := by decide +kernel
theorem dX1_askAtEnd_63 : decode cX1_askAtEnd 63 = .ok (.invokevirtual 135, 3) := by decide +kernel
theorem dX1_askAtEnd_66 : decode cX1_askAtEnd 66 = .ok (.istore 6, 2) := by decide +kernel
theorem dX1_askAtEnd_68 : decode cX1_askAtEnd 68 = .ok (.iconst 0, 1) := by decide +kernel
theorem dX1_askAtEnd_69 : decode cX1_askAtEnd 69 = .ok (.istore 7, 2) := by decide +kernel
theorem dX1_askAtEnd_71 : decode cX1_askAtEnd 71 = .ok (.iload 6, 2) := by decide +kernel
theorem dX1_askAtEnd_73 : decode cX1_askAtEnd 73 = .ok (.ifCond .eq 114, 3) := by decide +kernel
theorem dX1_askAtEnd_76 : decode cX1_askAtEnd 76 = .ok (.iload 7, 2) := by decide +kernel
theorem dX1_askAtEnd_78 : decode cX1_askAtEnd 78 = .ok (.aload_n 0, 1) := by decide +kernel
theorem dX1_askAtEnd_79 : decode cX1_askAtEnd 79 = .ok (.getfield 9, 3) := by decide +kernel
theorem dX1_askAtEnd_82 : decode cX1_askAtEnd 82 = .ok (.getfield 54, 3) := by decide +kernel
theorem dX1_askAtEnd_85 : decode cX1_askAtEnd 85 = .ok (.getfield 109, 3) := by decide +kernel
theorem dX1_askAtEnd_88 : decode cX1_askAtEnd 88 = .ok (.if_icmp .ge 99, 3) := by decide +kernel
theorem dX1_askAtEnd_91 : decode cX1_askAtEnd 91 = .ok (.aload_n 3, 1) := by decide +kernel
theorem dX1_askAtEnd_92 : decode cX1_askAtEnd 92 = .ok (.iload 5, 2) := by decide +kernel
theorem dX1_askAtEnd_94 : decode cX1_askAtEnd 94 = .ok (.iload 7, 2) := by decide +kernel
theorem dX1_askAtEnd_96 : decode cX1_askAtEnd 96 = .ok (.invokevirtual 151, 3) := by decide +kernel
theorem dX1_askAtEnd_99 : decode cX1_askAtEnd 99 = .ok (.ifCond .ne 82, 3) := by decide +kernel
theorem dX1_askAtEnd_102 : decode cX1_askAtEnd 102 = .ok (.aload_n 3, 1) := by decide +kernel
theorem dX1_askAtEnd_103 : decode cX1_askAtEnd 103 = .ok (.getfield 154, 3) := by decide +kernel
theorem dX1_askAtEnd_106 : decode cX1_askAtEnd 106 = .ok (.iload 5, 2) := by decide +kernel
theorem dX1_askAtEnd_108 : decode cX1_askAtEnd 108 = .ok (.iload 7, 2) := by decide +kernel
theorem dX1_askAtEnd_110 : decode cX1_askAtEnd 110 = .ok (.invokestatic 158, 3) := by decide +kernel
theorem dX1_askAtEnd_113 : decode cX1_askAtEnd 113 = .ok (.iaload, 1) := by decide +kernel
theorem dX1_askAtEnd_114 : decode cX1_askAtEnd 114 = .ok (.iconst 1, 1) := by decide +kernel
theorem dX1_askAtEnd_115 : decode cX1_askAtEnd 115 = .ok (.if_icmp .eq 6, 3) := by decide +kernel
theorem dX1_askAtEnd_118 : decode cX1_askAtEnd 118 = .ok (.goto 63, 3) := by decide +kernel
theorem dX1_askAtEnd_121 : decode cX1_askAtEnd 121 = .ok (.aload_n 0, 1) := by decide +kernel
theorem dX1_askAtEnd_122 : decode cX1_askAtEnd 122 = .ok (.getfield 9, 3) := by decide +kernel
theorem dX1_askAtEnd_125 : decode cX1_askAtEnd 125 = .ok (.getfield 90, 3) := by decide +kernel
theorem dX1_askAtEnd_128 : decode cX1_askAtEnd 128 = .ok (.iload_n 1, 1) := by decide +kernel
theorem dX1_askAtEnd_129 : decode cX1_askAtEnd 129 = .ok (.iload 5, 2) := by decide +kernel
theorem dX1_askAtEnd_131 : decode cX1_askAtEnd 131 = .ok (.iload 7, 2) := by decide +kernel
theorem dX1_askAtEnd_133 : decode cX1_askAtEnd 133 = .ok (.invokevirtual 161, 3) := by decide +kernel
theorem dX1_askAtEnd_136 : decode cX1_askAtEnd 136 = .ok (.istore 8, 2) := by decide +kernel
theorem dX1_askAtEnd_138 : decode cX1_askAtEnd 138 = .ok (.iload 8, 2) := by decide +kernel
theorem dX1_askAtEnd_140 : decode cX1_askAtEnd 140 = .ok (.iconst (-1), 1) := by decide +kernel
theorem dX1_askAtEnd_141 : decode cX1_askAtEnd 141 = .ok (.if_icmp .ne 8, 3) := by decide +kernel
theorem dX1_askAtEnd_144 : decode cX1_askAtEnd 144 = .ok (.iload 6, 2) := by decide +kernel
theorem dX1_askAtEnd_146 : decode cX1_askAtEnd 146 = .ok (.goto 12, 3) := by decide +kernel
theorem dX1_askAtEnd_149 : decode cX1_askAtEnd 149 = .ok (.iload 6, 2) := by decide +kernel
theorem dX1_askAtEnd_151 : decode cX1_askAtEnd 151 = .ok (.iconst 1, 1) := by decide +kernel
theorem dX1_askAtEnd_152 : decode cX1_askAtEnd 152 = .ok (.iload 8, 2) := by decide +kernel
theorem dX1_askAtEnd_154 : decode cX1_askAtEnd 154 = .ok (.ishl, 1) := by decide +kernel
theorem dX1_askAtEnd_155 : decode cX1_askAtEnd 155 = .ok (.iconst (-1), 1) := by decide +kernel
theorem dX1_askAtEnd_156 : decode cX1_askAtEnd 156 = .ok (.ixor, 1) := by decide +kernel
theorem dX1_askAtEnd_157 : decode cX1_askAtEnd 157 = .ok (.iand, 1) := by decide +kernel
theorem dX1_askAtEnd_158 : decode cX1_askAtEnd 158 = .ok (.istore 9, 2) := by decide +kernel
theorem dX1_askAtEnd_160 : decode cX1_askAtEnd 160 = .ok (.iload 9, 2) := by decide +kernel
theorem dX1_askAtEnd_162 : decode cX1_askAtEnd 162 = .ok (.ifCond .eq 19, 3) := by decide +kernel
theorem dX1_askAtEnd_165 : decode cX1_askAtEnd 165 = .ok (.aload_n 0, 1) := by decide +kernel
theorem dX1_askAtEnd_166 : decode cX1_askAtEnd 166 = .ok (.aload_n 0, 1) := by decide +kernel
theorem dX1_askAtEnd_167 : decode cX1_askAtEnd 167 = .ok (.iload 9, 2) := by decide +kernel
theorem dX1_askAtEnd_169 : decode cX1_askAtEnd 169 = .ok (.invokevirtual 119, 3) := by decide +kernel
theorem dX1_askAtEnd_172 : decode cX1_askAtEnd 172 = .ok (.iload_n 1, 1) := by decide +kernel
theorem dX1_askAtEnd_173 : decode cX1_askAtEnd 173 = .ok (.iload 5, 2) := by decide +kernel
theorem dX1_askAtEnd_175 : decode cX1_askAtEnd 175 = .ok (.iload 7, 2) := by decide +kernel
theorem dX1_askAtEnd_177 : decode cX1_askAtEnd 177 = .ok (.invokevirtual 122, 3) := by decide +kernel
theorem dX1_askAtEnd_180 : decode cX1_askAtEnd 180 = .ok (.ireturn, 1) := by decide +kernel
theorem dX1_askAtEnd_181 : decode cX1_askAtEnd 181 = .ok (.iinc 7 1, 3) := by decide +kernel
theorem dX1_askAtEnd_184 : decode cX1_askAtEnd 184 = .ok (.goto (-113), 3) := by decide +kernel
theorem dX1_askAtEnd_187 : decode cX1_askAtEnd 187 = .ok (.iinc 5 1, 3) := by decide +kernel
theorem dX1_askAtEnd_190 : decode cX1_askAtEnd 190 = .ok (.goto (-163), 3) := by decide +kernel
theorem dX1_askAtEnd_193 : decode cX1_askAtEnd 193 = .ok (.iconst 0, 1) := by decide +kernel
theorem dX1_askAtEnd_194 : decode cX1_askAtEnd 194 = .ok (.ireturn, 1) := by decide +kernel
set_option maxRecDepth 20000 in
theorem ggX1_send_X6_expect : GoodIn wsX1_send wsX6_expect := goodIn_r _ [19, 20, 21, 22, 23, 24, 88, 89, 90, 91, 92, 93] (by decide +kernel) (by decide +kernel)
set_option maxRecDepth 20000 in
theorem gX1_send_X6_expect : GoodIn wsX1_send (wsV RX1 172 RX6 yX6_expect wsX6_expect) := goodIn_app (goodIn_of _ (by decide +kernel)) ggX1_send_X6_expect
set_option maxRecDepth 20000 in
theorem ggX1_send_X8_valueOf : GoodIn wsX1_send wsX8_valueOf := goodIn_r _ [29, 30, 31, 94, 95, 96] (by decide +kernel) (by decide +kernel)
set_option maxRecDepth 20000 in
theorem gX1_send_X8_valueOf : GoodIn wsX1_send (wsV RX1 179 RX8 yX8_valueOf wsX8_valueOf) := goodIn_app (goodIn_of _ (by decide +kernel)) ggX1_send_X8_valueOf
set_option maxRecDepth 20000 in
theorem ggX1_send_X3_nowSendsFalse : GoodIn wsX1_send wsX3_nowSendsFalse := goodIn_r _ [36, 37, 38, 39, 65, 66, 67, 68, 69, 70, 71, 72, 73, 74, 75, 76, 77] (by decide +kernel) (by decide +kernel)
set_option maxRecDepth 20000 in
theorem gX1_send_X3_nowSendsFalse : GoodIn wsX1_send (wsV RX1 188 RX3 yX3_nowSendsFalse wsX3_nowSendsFalse) := goodIn_app (goodIn_of _ (by decide +kernel)) ggX1_send_X3_nowSendsFalse
set_option maxRecDepth 20000 in
theorem ggX1_send_X5_add : GoodIn wsX1_send wsX5_add := goodIn_r _ [44, 45, 46, 47, 48, 49, 50, 51, 52, 53, 54, 43, 55, 97, 98, 99, 100, 101, 102, 103] (by decide +kernel) (by decide +kernel)
set_option maxRecDepth 20000 in
theorem gX1_send_X5_add : GoodIn wsX1_send (wsV RX1 191 RX5 yX5_add wsX5_add) := goodIn_app (goodIn_of _ (by decide +kernel)) ggX1_send_X5_add
theorem dX1_send_0 : decode cX1_send 0 = .ok (.iload_n 1, 1) := by decide +kernel
theorem dX1_send_1 : decode cX1_send 1 = .ok (.iconst (-1), 1) := by decide +kernel
theorem dX1_send_2 : decode cX1_send 2 = .ok (.if_icmp .eq 9, 3) := by decide +kernel
theorem dX1_send_5 : decode cX1_send 5 = .ok (.iload 4, 2) := by decide +kernel
theorem dX1_send_7 : decode cX1_send 7 = .ok (.iconst (-1), 1) := by decide +kernel
theorem dX1_send_8 : decode cX1_send 8 = .ok (.if_icmp .ne 5, 3) := by decide +kernel
theorem dX1_send_11 : decode cX1_send 11 = .ok (.iconst 0, 1) := by decide +kernel
theorem dX1_send_12 : decode cX1_send 12 = .ok (.ireturn, 1) := by decide +kernel
theorem dX1_send_13 : decode cX1_send 13 = .ok (.aload_n 0, 1) := by decide +kernel
theorem dX1_send_14 : decode cX1_send 14 = .ok (.getfield 9, 3) := by decide +kernel
theorem dX1_send_17 : decode cX1_send 17 = .ok (.getfield 28, 3) := by decide +kernel
theorem dX1_send_20 : decode cX1_send 20 = .ok (.iload_n 1, 1) := by decide +kernel
theorem dX1_send_21 : decode cX1_send 21 = .ok (.aaload, 1) := by decide +kernel
theorem dX1_send_22 : decode cX1_send 22 = .ok (.astore 5, 2) := by decide +kernel
theorem dX1_send_24 : decode cX1_send 24 = .ok (.aload_n 0, 1) := by decide +kernel
theorem dX1_send_25 : decode cX1_send 25 = .ok (.getfield 9, 3) := by decide +kernel
theorem dX1_send_28 : decode cX1_send 28 = .ok (.getfield 28, 3) := by decide +kernel
theorem dX1_send_31 : decode cX1_send 31 = .ok (.iload_n 2, 1) := by decide +kernel
theorem dX1_send_32 : decode cX1_send 32 = .ok (.aaload, 1) := by decide +kernel
theorem dX1_send_33 : decode cX1_send 33 = .ok (.astore 6, 2) := by decide +kernel
theorem dX1_send_35 : decode cX1_send 35 = .ok (.aload 5, 2) := by decide +kernel
theorem dX1_send_37 : decode cX1_send 37 = .ok (.dup, 1) := by decide +kernel
theorem dX1_send_38 : decode cX1_send 38 = .ok (.getfield 73, 3) := by decide +kernel
theorem dX1_send_41 : decode cX1_send 41 = .ok (.iconst 1, 1) := by decide +kernel
theorem dX1_send_42 : decode cX1_send 42 = .ok (.isub, 1) := by decide +kernel
theorem dX1_send_43 : decode cX1_send 43 = .ok (.putfield 73, 3) := by decide +kernel
theorem dX1_send_46 : decode cX1_send 46 = .ok (.aload 5, 2) := by decide +kernel
theorem dX1_send_48 : decode cX1_send 48 = .ok (.dup, 1) := by decide +kernel
theorem dX1_send_49 : decode cX1_send 49 = .ok (.getfield 164, 3) := by decide +kernel
theorem dX1_send_52 : decode cX1_send 52 = .ok (.iconst 1, 1) := by decide +kernel
theorem dX1_send_53 : decode cX1_send 53 = .ok (.iadd, 1) := by decide +kernel
theorem dX1_send_54 : decode cX1_send 54 = .ok (.putfield 164, 3) := by decide +kernel
theorem dX1_send_57 : decode cX1_send 57 = .ok (.aload 5, 2) := by decide +kernel
theorem dX1_send_59 : decode cX1_send 59 = .ok (.getfield 126, 3) := by decide +kernel
theorem dX1_send_62 : decode cX1_send 62 = .ok (.getfield 167, 3) := by decide +kernel
theorem dX1_send_65 : decode cX1_send 65 = .ok (.iload_n 2, 1) := by decide +kernel
theorem dX1_send_66 : decode cX1_send 66 = .ok (.dup2, 1) := by decide +kernel
theorem dX1_send_67 : decode cX1_send 67 = .ok (.iaload, 1) := by decide +kernel
theorem dX1_send_68 : decode cX1_send 68 = .ok (.iconst 1, 1) := by decide +kernel
theorem dX1_send_69 : decode cX1_send 69 = .ok (.iadd, 1) := by decide +kernel
theorem dX1_send_70 : decode cX1_send 70 = .ok (.iastore, 1) := by decide +kernel
theorem dX1_send_71 : decode cX1_send 71 = .ok (.aload 5, 2) := by decide +kernel
theorem dX1_send_73 : decode cX1_send 73 = .ok (.getfield 126, 3) := by decide +kernel
theorem dX1_send_76 : decode cX1_send 76 = .ok (.getfield 169, 3) := by decide +kernel
theorem dX1_send_79 : decode cX1_send 79 = .ok (.iload_n 2, 1) := by decide +kernel
theorem dX1_send_80 : decode cX1_send 80 = .ok (.dup2, 1) := by decide +kernel
theorem dX1_send_81 : decode cX1_send 81 = .ok (.iaload, 1) := by decide +kernel
theorem dX1_send_82 : decode cX1_send 82 = .ok (.iconst 1, 1) := by decide +kernel
theorem dX1_send_83 : decode cX1_send 83 = .ok (.iadd, 1) := by decide +kernel
theorem dX1_send_84 : decode cX1_send 84 = .ok (.iastore, 1) := by decide +kernel
theorem dX1_send_85 : decode cX1_send 85 = .ok (.aload 6, 2) := by decide +kernel
theorem dX1_send_87 : decode cX1_send 87 = .ok (.dup, 1) := by decide +kernel
theorem dX1_send_88 : decode cX1_send 88 = .ok (.getfield 79, 3) := by decide +kernel
theorem dX1_send_91 : decode cX1_send 91 = .ok (.iconst 1, 1) := by decide +kernel
theorem dX1_send_92 : decode cX1_send 92 = .ok (.isub, 1) := by decide +kernel
theorem dX1_send_93 : decode cX1_send 93 = .ok (.putfield 79, 3) := by decide +kernel
theorem dX1_send_96 : decode cX1_send 96 = .ok (.aload 6, 2) := by decide +kernel
theorem dX1_send_98 : decode cX1_send 98 = .ok (.getfield 32, 3) := by decide +kernel
theorem dX1_send_101 : decode cX1_send 101 = .ok (.iload_n 3, 1) := by decide +kernel
end
section
theorem dX1_send_102 : decode cX1_send 102 = .ok (.iload 4, 2) := by decide +kernel
theorem dX1_send_104 : decode cX1_send 104 = .ok (.invokevirtual 172, 3) := by decide +kernel
theorem dX1_send_107 : decode cX1_send 107 = .ok (.aload_n 0, 1) := by decide +kernel
theorem dX1_send_108 : decode cX1_send 108 = .ok (.getfield 9, 3) := by decide +kernel
theorem dX1_send_111 : decode cX1_send 111 = .ok (.dup, 1) := by decide +kernel
theorem dX1_send_112 : decode cX1_send 112 = .ok (.getfield 176, 3) := by decide +kernel
theorem dX1_send_115 : decode cX1_send 115 = .ok (.iconst 1, 1) := by decide +kernel
theorem dX1_send_116 : decode cX1_send 116 = .ok (.iadd, 1) := by decide +kernel
theorem dX1_send_117 : decode cX1_send 117 = .ok (.putfield 176, 3) := by decide +kernel
theorem dX1_send_120 : decode cX1_send 120 = .ok (.aload_n 0, 1) := by decide +kernel
theorem dX1_send_121 : decode cX1_send 121 = .ok (.getfield 9, 3) := by decide +kernel
theorem dX1_send_124 : decode cX1_send 124 = .ok (.getfield 54, 3) := by decide +kernel
theorem dX1_send_127 : decode cX1_send 127 = .ok (.iload_n 3, 1) := by decide +kernel
theorem dX1_send_128 : decode cX1_send 128 = .ok (.iload 4, 2) := by decide +kernel
theorem dX1_send_130 : decode cX1_send 130 = .ok (.invokevirtual 179, 3) := by decide +kernel
theorem dX1_send_133 : decode cX1_send 133 = .ok (.istore 7, 2) := by decide +kernel
theorem dX1_send_135 : decode cX1_send 135 = .ok (.aload_n 0, 1) := by decide +kernel
theorem dX1_send_136 : decode cX1_send 136 = .ok (.getfield 9, 3) := by decide +kernel
theorem dX1_send_139 : decode cX1_send 139 = .ok (.getfield 182, 3) := by decide +kernel
theorem dX1_send_142 : decode cX1_send 142 = .ok (.aload 5, 2) := by decide +kernel
theorem dX1_send_144 : decode cX1_send 144 = .ok (.getfield 185, 3) := by decide +kernel
theorem dX1_send_147 : decode cX1_send 147 = .ok (.iconst 4, 1) := by decide +kernel
theorem dX1_send_148 : decode cX1_send 148 = .ok (.if_icmp .ne 7, 3) := by decide +kernel
theorem dX1_send_151 : decode cX1_send 151 = .ok (.iconst 2, 1) := by decide +kernel
theorem dX1_send_152 : decode cX1_send 152 = .ok (.goto 4, 3) := by decide +kernel
theorem dX1_send_155 : decode cX1_send 155 = .ok (.iconst 0, 1) := by decide +kernel
theorem dX1_send_156 : decode cX1_send 156 = .ok (.iadd, 1) := by decide +kernel
theorem dX1_send_157 : decode cX1_send 157 = .ok (.istore 8, 2) := by decide +kernel
theorem dX1_send_159 : decode cX1_send 159 = .ok (.aload_n 0, 1) := by decide +kernel
theorem dX1_send_160 : decode cX1_send 160 = .ok (.getfield 9, 3) := by decide +kernel
theorem dX1_send_163 : decode cX1_send 163 = .ok (.getfield 90, 3) := by decide +kernel
theorem dX1_send_166 : decode cX1_send 166 = .ok (.iload_n 1, 1) := by decide +kernel
theorem dX1_send_167 : decode cX1_send 167 = .ok (.iload_n 2, 1) := by decide +kernel
theorem dX1_send_168 : decode cX1_send 168 = .ok (.iload_n 3, 1) := by decide +kernel
theorem dX1_send_169 : decode cX1_send 169 = .ok (.iload 4, 2) := by decide +kernel
theorem dX1_send_171 : decode cX1_send 171 = .ok (.aload 5, 2) := by decide +kernel
theorem dX1_send_173 : decode cX1_send 173 = .ok (.invokevirtual 188, 3) := by decide +kernel
theorem dX1_send_176 : decode cX1_send 176 = .ok (.ifCond .eq 10, 3) := by decide +kernel
theorem dX1_send_179 : decode cX1_send 179 = .ok (.iload 7, 2) := by decide +kernel
theorem dX1_send_181 : decode cX1_send 181 = .ok (.iconst 1, 1) := by decide +kernel
theorem dX1_send_182 : decode cX1_send 182 = .ok (.ixor, 1) := by decide +kernel
theorem dX1_send_183 : decode cX1_send 183 = .ok (.goto 5, 3) := by decide +kernel
theorem dX1_send_186 : decode cX1_send 186 = .ok (.iload 7, 2) := by decide +kernel
theorem dX1_send_188 : decode cX1_send 188 = .ok (.iload 8, 2) := by decide +kernel
theorem dX1_send_190 : decode cX1_send 190 = .ok (.invokevirtual 191, 3) := by decide +kernel
theorem dX1_send_193 : decode cX1_send 193 = .ok (.iconst 1, 1) := by decide +kernel
theorem dX1_send_194 : decode cX1_send 194 = .ok (.ireturn, 1) := by decide +kernel
set_option maxRecDepth 20000 in
theorem ggX2_init_X8_init : GoodIn wsX2_init wsX8_init := goodIn_r _ [18, 19, 2, 3, 20, 21, 22, 65, 66, 67] (by decide +kernel) (by decide +kernel)
set_option maxRecDepth 20000 in
theorem gX2_init_X8_init : GoodIn wsX2_init (wsX8_init) := ggX2_init_X8_init
set_option maxRecDepth 20000 in
theorem ggX2_init_X5_init : GoodIn wsX2_init wsX5_init := goodIn_r _ [25, 26, 2, 3, 27, 28, 29, 30, 31, 32, 33, 76, 77, 78, 79, 80, 81, 82] (by decide +kernel) (by decide +kernel)
set_option maxRecDepth 20000 in
theorem gX2_init_X5_init : GoodIn wsX2_init (wsX5_init) := ggX2_init_X5_init
set_option maxRecDepth 20000 in
theorem ggX2_init_X3_init : GoodIn wsX2_init wsX3_init := goodIn_r _ [36, 37, 2, 3, 38, 39, 40, 41, 42, 43, 44, 45, 46, 47, 48, 49, 50, 51, 27, 52, 53, 54, 55, 56, 57, 58, 59, 60, 61, 62, 63, 64, 96, 97, 98, 99, 100, 101, 83, 84, 85, 86, 87, 88, 89, 90, 91, 92, 93, 94, 95, 102, 103, 104, 105, 106, 107, 108, 109, 110, 111] (by decide +kernel) (by decide +kernel)
set_option maxRecDepth 20000 in
theorem gX2_init_X3_init : GoodIn wsX2_init (wsX3_init) := ggX2_init_X3_init
theorem dX2_init_0 : decode cX2_init 0 = .ok (.aload_n 0, 1) := by decide +kernel
theorem dX2_init_1 : decode cX2_init 1 = .ok (.invokespecial 3, 3) := by decide +kernel
theorem dX2_init_4 : decode cX2_init 4 = .ok (.aload_n 0, 1) := by decide +kernel
theorem dX2_init_5 : decode cX2_init 5 = .ok (.new 9, 3) := by decide +kernel
theorem dX2_init_8 : decode cX2_init 8 = .ok (.dup, 1) := by decide +kernel
theorem dX2_init_9 : decode cX2_init 9 = .ok (.invokespecial 11, 3) := by decide +kernel
theorem dX2_init_12 : decode cX2_init 12 = .ok (.putfield 12, 3) := by decide +kernel
theorem dX2_init_15 : decode cX2_init 15 = .ok (.aload_n 0, 1) := by decide +kernel
theorem dX2_init_16 : decode cX2_init 16 = .ok (.new 18, 3) := by decide +kernel
theorem dX2_init_19 : decode cX2_init 19 = .ok (.dup, 1) := by decide +kernel
theorem dX2_init_20 : decode cX2_init 20 = .ok (.invokespecial 20, 3) := by decide +kernel
theorem dX2_init_23 : decode cX2_init 23 = .ok (.putfield 21, 3) := by decide +kernel
theorem dX2_init_26 : decode cX2_init 26 = .ok (.aload_n 0, 1) := by decide +kernel
theorem dX2_init_27 : decode cX2_init 27 = .ok (.bipush 12, 2) := by decide +kernel
theorem dX2_init_29 : decode cX2_init 29 = .ok (.anewarray 25, 3) := by decide +kernel
theorem dX2_init_32 : decode cX2_init 32 = .ok (.putfield 27, 3) := by decide +kernel
theorem dX2_init_35 : decode cX2_init 35 = .ok (.iconst 0, 1) := by decide +kernel
theorem dX2_init_36 : decode cX2_init 36 = .ok (.istore_n 1, 1) := by decide +kernel
theorem dX2_init_37 : decode cX2_init 37 = .ok (.iload_n 1, 1) := by decide +kernel
theorem dX2_init_38 : decode cX2_init 38 = .ok (.bipush 12, 2) := by decide +kernel
theorem dX2_init_40 : decode cX2_init 40 = .ok (.if_icmp .ge 22, 3) := by decide +kernel
theorem dX2_init_43 : decode cX2_init 43 = .ok (.aload_n 0, 1) := by decide +kernel
theorem dX2_init_44 : decode cX2_init 44 = .ok (.getfield 27, 3) := by decide +kernel
theorem dX2_init_47 : decode cX2_init 47 = .ok (.iload_n 1, 1) := by decide +kernel
theorem dX2_init_48 : decode cX2_init 48 = .ok (.new 25, 3) := by decide +kernel
theorem dX2_init_51 : decode cX2_init 51 = .ok (.dup, 1) := by decide +kernel
theorem dX2_init_52 : decode cX2_init 52 = .ok (.invokespecial 31, 3) := by decide +kernel
theorem dX2_init_55 : decode cX2_init 55 = .ok (.aastore, 1) := by decide +kernel
theorem dX2_init_56 : decode cX2_init 56 = .ok (.iinc 1 1, 3) := by decide +kernel
theorem dX2_init_59 : decode cX2_init 59 = .ok (.goto (-22), 3) := by decide +kernel
theorem dX2_init_62 : decode cX2_init 62 = .ok (.return_, 1) := by decide +kernel
theorem dX2_isMember_0 : decode cX2_isMember 0 = .ok (.iload_n 1, 1) := by decide +kernel
theorem dX2_isMember_1 : decode cX2_isMember 1 = .ok (.ifCond .lt 15, 3) := by decide +kernel
theorem dX2_isMember_4 : decode cX2_isMember 4 = .ok (.iload_n 1, 1) := by decide +kernel
theorem dX2_isMember_5 : decode cX2_isMember 5 = .ok (.aload_n 0, 1) := by decide +kernel
theorem dX2_isMember_6 : decode cX2_isMember 6 = .ok (.getfield 32, 3) := by decide +kernel
theorem dX2_isMember_9 : decode cX2_isMember 9 = .ok (.if_icmp .ge 7, 3) := by decide +kernel
theorem dX2_isMember_12 : decode cX2_isMember 12 = .ok (.iconst 1, 1) := by decide +kernel
theorem dX2_isMember_13 : decode cX2_isMember 13 = .ok (.goto 4, 3) := by decide +kernel
theorem dX2_isMember_16 : decode cX2_isMember 16 = .ok (.iconst 0, 1) := by decide +kernel
theorem dX2_isMember_17 : decode cX2_isMember 17 = .ok (.ireturn, 1) := by decide +kernel
set_option maxRecDepth 20000 in
theorem ggX2_areTwo_X2_isMember : GoodIn wsX2_areTwo wsX2_isMember := goodIn_r _ [5, 6, 7, 8, 9, 10, 11, 12, 13, 14] (by decide +kernel) (by decide +kernel)
set_option maxRecDepth 20000 in
theorem gX2_areTwo_X2_isMember : GoodIn wsX2_areTwo (wsV RX2 36 RX2 yX2_isMember wsX2_isMember) := goodIn_app (goodIn_of _ (by decide +kernel)) ggX2_areTwo_X2_isMember
theorem dX2_areTwo_0 : decode cX2_areTwo 0 = .ok (.aload_n 0, 1) := by decide +kernel
theorem dX2_areTwo_1 : decode cX2_areTwo 1 = .ok (.iload_n 1, 1) := by decide +kernel
theorem dX2_areTwo_2 : decode cX2_areTwo 2 = .ok (.invokevirtual 36, 3) := by decide +kernel
theorem dX2_areTwo_5 : decode cX2_areTwo 5 = .ok (.ifCond .eq 20, 3) := by decide +kernel
theorem dX2_areTwo_8 : decode cX2_areTwo 8 = .ok (.aload_n 0, 1) := by decide +kernel
theorem dX2_areTwo_9 : decode cX2_areTwo 9 = .ok (.iload_n 2, 1) := by decide +kernel
theorem dX2_areTwo_10 : decode cX2_areTwo 10 = .ok (.invokevirtual 36, 3) := by decide +kernel
theorem dX2_areTwo_13 : decode cX2_areTwo 13 = .ok (.ifCond .eq 12, 3) := by decide +kernel
theorem dX2_areTwo_16 : decode cX2_areTwo 16 = .ok (.iload_n 1, 1) := by decide +kernel
theorem dX2_areTwo_17 : decode cX2_areTwo 17 = .ok (.iload_n 2, 1) := by decide +kernel
theorem dX2_areTwo_18 : decode cX2_areTwo 18 = .ok (.if_icmp .eq 7, 3) := by decide +kernel
theorem dX2_areTwo_21 : decode cX2_areTwo 21 = .ok (.iconst 1, 1) := by decide +kernel
theorem dX2_areTwo_22 : decode cX2_areTwo 22 = .ok (.goto 4, 3) := by decide +kernel
theorem dX2_areTwo_25 : decode cX2_areTwo 25 = .ok (.iconst 0, 1) := by decide +kernel
theorem dX2_areTwo_26 : decode cX2_areTwo 26 = .ok (.ireturn, 1) := by decide +kernel
set_option maxRecDepth 20000 in
theorem ggX2_takeIn_X6_fillFrom : GoodIn wsX2_takeIn wsX6_fillFrom := goodIn_r _ [14, 15, 16, 17, 18, 19, 20, 21, 22, 23, 24, 25, 26, 27, 28, 29, 30, 31, 32, 33, 55, 56, 57, 58, 59, 60, 61, 62, 63] (by decide +kernel) (by decide +kernel)
set_option maxRecDepth 20000 in
theorem gX2_takeIn_X6_fillFrom : GoodIn wsX2_takeIn (wsV RX2 53 RX6 yX6_fillFrom wsX6_fillFrom) := goodIn_app (goodIn_of _ (by decide +kernel)) ggX2_takeIn_X6_fillFrom
theorem dX2_takeIn_0 : decode cX2_takeIn 0 = .ok (.aload_n 0, 1) := by decide +kernel
theorem dX2_takeIn_1 : decode cX2_takeIn 1 = .ok (.getfield 32, 3) := by decide +kernel
theorem dX2_takeIn_4 : decode cX2_takeIn 4 = .ok (.istore 4, 2) := by decide +kernel
theorem dX2_takeIn_6 : decode cX2_takeIn 6 = .ok (.aload_n 0, 1) := by decide +kernel
theorem dX2_takeIn_7 : decode cX2_takeIn 7 = .ok (.getfield 27, 3) := by decide +kernel
theorem dX2_takeIn_10 : decode cX2_takeIn 10 = .ok (.iload 4, 2) := by decide +kernel
theorem dX2_takeIn_12 : decode cX2_takeIn 12 = .ok (.aaload, 1) := by decide +kernel
theorem dX2_takeIn_13 : decode cX2_takeIn 13 = .ok (.astore 5, 2) := by decide +kernel
theorem dX2_takeIn_15 : decode cX2_takeIn 15 = .ok (.aload 5, 2) := by decide +kernel
theorem dX2_takeIn_17 : decode cX2_takeIn 17 = .ok (.iload_n 1, 1) := by decide +kernel
theorem dX2_takeIn_18 : decode cX2_takeIn 18 = .ok (.putfield 40, 3) := by decide +kernel
theorem dX2_takeIn_21 : decode cX2_takeIn 21 = .ok (.aload 5, 2) := by decide +kernel
theorem dX2_takeIn_23 : decode cX2_takeIn 23 = .ok (.iload_n 2, 1) := by decide +kernel
theorem dX2_takeIn_24 : decode cX2_takeIn 24 = .ok (.putfield 43, 3) := by decide +kernel
theorem dX2_takeIn_27 : decode cX2_takeIn 27 = .ok (.aload 5, 2) := by decide +kernel
theorem dX2_takeIn_29 : decode cX2_takeIn 29 = .ok (.iload_n 3, 1) := by decide +kernel
theorem dX2_takeIn_30 : decode cX2_takeIn 30 = .ok (.putfield 46, 3) := by decide +kernel
theorem dX2_takeIn_33 : decode cX2_takeIn 33 = .ok (.iload_n 1, 1) := by decide +kernel
theorem dX2_takeIn_34 : decode cX2_takeIn 34 = .ok (.iconst 1, 1) := by decide +kernel
theorem dX2_takeIn_35 : decode cX2_takeIn 35 = .ok (.if_icmp .ne 21, 3) := by decide +kernel
theorem dX2_takeIn_38 : decode cX2_takeIn 38 = .ok (.aload 5, 2) := by decide +kernel
theorem dX2_takeIn_40 : decode cX2_takeIn 40 = .ok (.getfield 49, 3) := by decide +kernel
theorem dX2_takeIn_43 : decode cX2_takeIn 43 = .ok (.aload_n 0, 1) := by decide +kernel
theorem dX2_takeIn_44 : decode cX2_takeIn 44 = .ok (.getfield 12, 3) := by decide +kernel
theorem dX2_takeIn_47 : decode cX2_takeIn 47 = .ok (.invokevirtual 53, 3) := by decide +kernel
theorem dX2_takeIn_50 : decode cX2_takeIn 50 = .ok (.aload 5, 2) := by decide +kernel
theorem dX2_takeIn_52 : decode cX2_takeIn 52 = .ok (.iconst 0, 1) := by decide +kernel
theorem dX2_takeIn_53 : decode cX2_takeIn 53 = .ok (.putfield 59, 3) := by decide +kernel
theorem dX2_takeIn_56 : decode cX2_takeIn 56 = .ok (.aload_n 0, 1) := by decide +kernel
theorem dX2_takeIn_57 : decode cX2_takeIn 57 = .ok (.dup, 1) := by decide +kernel
theorem dX2_takeIn_58 : decode cX2_takeIn 58 = .ok (.getfield 62, 3) := by decide +kernel
theorem dX2_takeIn_61 : decode cX2_takeIn 61 = .ok (.iconst 1, 1) := by decide +kernel
theorem dX2_takeIn_62 : decode cX2_takeIn 62 = .ok (.iload 4, 2) := by decide +kernel
theorem dX2_takeIn_64 : decode cX2_takeIn 64 = .ok (.ishl, 1) := by decide +kernel
theorem dX2_takeIn_65 : decode cX2_takeIn 65 = .ok (.ior, 1) := by decide +kernel
theorem dX2_takeIn_66 : decode cX2_takeIn 66 = .ok (.putfield 62, 3) := by decide +kernel
theorem dX2_takeIn_69 : decode cX2_takeIn 69 = .ok (.aload_n 0, 1) := by decide +kernel
theorem dX2_takeIn_70 : decode cX2_takeIn 70 = .ok (.dup, 1) := by decide +kernel
theorem dX2_takeIn_71 : decode cX2_takeIn 71 = .ok (.getfield 32, 3) := by decide +kernel
theorem dX2_takeIn_74 : decode cX2_takeIn 74 = .ok (.iconst 1, 1) := by decide +kernel
theorem dX2_takeIn_75 : decode cX2_takeIn 75 = .ok (.iadd, 1) := by decide +kernel
theorem dX2_takeIn_76 : decode cX2_takeIn 76 = .ok (.putfield 32, 3) := by decide +kernel
theorem dX2_takeIn_79 : decode cX2_takeIn 79 = .ok (.iload 4, 2) := by decide +kernel
theorem dX2_takeIn_81 : decode cX2_takeIn 81 = .ok (.ireturn, 1) := by decide +kernel
set_option maxRecDepth 20000 in
theorem ggX2_nearTo_X9_isIn : GoodIn wsX2_nearTo wsX9_isIn := goodIn_r _ [9] (by decide +kernel) (by decide +kernel)
set_option maxRecDepth 20000 in
theorem gX2_nearTo_X9_isIn_n69 : GoodIn wsX2_nearTo (wsX9_isIn) := ggX2_nearTo_X9_isIn
theorem dX2_nearTo_0 : decode cX2_nearTo 0 = .ok (.aload_n 0, 1) := by decide +kernel
theorem dX2_nearTo_1 : decode cX2_nearTo 1 = .ok (.getfield 27, 3) := by decide +kernel
theorem dX2_nearTo_4 : decode cX2_nearTo 4 = .ok (.iload_n 1, 1) := by decide +kernel
theorem dX2_nearTo_5 : decode cX2_nearTo 5 = .ok (.aaload, 1) := by decide +kernel
theorem dX2_nearTo_6 : decode cX2_nearTo 6 = .ok (.getfield 65, 3) := by decide +kernel
theorem dX2_nearTo_9 : decode cX2_nearTo 9 = .ok (.astore_n 2, 1) := by decide +kernel
theorem dX2_nearTo_10 : decode cX2_nearTo 10 = .ok (.aload_n 0, 1) := by decide +kernel
theorem dX2_nearTo_11 : decode cX2_nearTo 11 = .ok (.getfield 62, 3) := by decide +kernel
theorem dX2_nearTo_14 : decode cX2_nearTo 14 = .ok (.iload_n 1, 1) := by decide +kernel
theorem dX2_nearTo_15 : decode cX2_nearTo 15 = .ok (.invokestatic 69, 3) := by decide +kernel
theorem dX2_nearTo_18 : decode cX2_nearTo 18 = .ok (.ifCond .eq 29, 3) := by decide +kernel
theorem dX2_nearTo_21 : decode cX2_nearTo 21 = .ok (.aload_n 0, 1) := by decide +kernel
theorem dX2_nearTo_22 : decode cX2_nearTo 22 = .ok (.getfield 62, 3) := by decide +kernel
theorem dX2_nearTo_25 : decode cX2_nearTo 25 = .ok (.aload_n 2, 1) := by decide +kernel
theorem dX2_nearTo_26 : decode cX2_nearTo 26 = .ok (.getfield 73, 3) := by decide +kernel
theorem dX2_nearTo_29 : decode cX2_nearTo 29 = .ok (.iand, 1) := by decide +kernel
theorem dX2_nearTo_30 : decode cX2_nearTo 30 = .ok (.aload_n 2, 1) := by decide +kernel
theorem dX2_nearTo_31 : decode cX2_nearTo 31 = .ok (.getfield 78, 3) := by decide +kernel
theorem dX2_nearTo_34 : decode cX2_nearTo 34 = .ok (.iconst (-1), 1) := by decide +kernel
theorem dX2_nearTo_35 : decode cX2_nearTo 35 = .ok (.ixor, 1) := by decide +kernel
theorem dX2_nearTo_36 : decode cX2_nearTo 36 = .ok (.iand, 1) := by decide +kernel
theorem dX2_nearTo_37 : decode cX2_nearTo 37 = .ok (.aload_n 2, 1) := by decide +kernel
theorem dX2_nearTo_38 : decode cX2_nearTo 38 = .ok (.getfield 81, 3) := by decide +kernel
theorem dX2_nearTo_41 : decode cX2_nearTo 41 = .ok (.iconst (-1), 1) := by decide +kernel
theorem dX2_nearTo_42 : decode cX2_nearTo 42 = .ok (.ixor, 1) := by decide +kernel
theorem dX2_nearTo_43 : decode cX2_nearTo 43 = .ok (.iand, 1) := by decide +kernel
theorem dX2_nearTo_44 : decode cX2_nearTo 44 = .ok (.goto 4, 3) := by decide +kernel
theorem dX2_nearTo_47 : decode cX2_nearTo 47 = .ok (.iconst 0, 1) := by decide +kernel
theorem dX2_nearTo_48 : decode cX2_nearTo 48 = .ok (.ireturn, 1) := by decide +kernel
set_option maxRecDepth 20000 in
theorem ggX2_tellersAmong_X9_isIn : GoodIn wsX2_tellersAmong wsX9_isIn := goodIn_r _ [5] (by decide +kernel) (by decide +kernel)
set_option maxRecDepth 20000 in
theorem gX2_tellersAmong_X9_isIn_n69 : GoodIn wsX2_tellersAmong (wsX9_isIn) := ggX2_tellersAmong_X9_isIn
set_option maxRecDepth 20000 in
theorem ggX2_tellersAmong_X3_toldPieces : GoodIn wsX2_tellersAmong wsX3_toldPieces := goodIn_r _ [10, 11, 12, 13, 14, 23, 24, 25, 26, 27, 28, 29, 30, 31, 32, 33, 34, 35, 36, 37, 38, 39, 40, 41] (by decide +kernel) (by decide +kernel)
set_option maxRecDepth 20000 in
theorem gX2_tellersAmong_X3_toldPieces : GoodIn wsX2_tellersAmong (wsV RX2 84 RX3 yX3_toldPieces wsX3_toldPieces) := goodIn_app (goodIn_of _ (by decide +kernel)) ggX2_tellersAmong_X3_toldPieces
theorem dX2_tellersAmong_0 : decode cX2_tellersAmong 0 = .ok (.iconst 0, 1) := by decide +kernel
theorem dX2_tellersAmong_1 : decode cX2_tellersAmong 1 = .ok (.istore_n 3, 1) := by decide +kernel
theorem dX2_tellersAmong_2 : decode cX2_tellersAmong 2 = .ok (.iconst 0, 1) := by decide +kernel
theorem dX2_tellersAmong_3 : decode cX2_tellersAmong 3 = .ok (.istore 4, 2) := by decide +kernel
theorem dX2_tellersAmong_5 : decode cX2_tellersAmong 5 = .ok (.iload 4, 2) := by decide +kernel
theorem dX2_tellersAmong_7 : decode cX2_tellersAmong 7 = .ok (.aload_n 0, 1) := by decide +kernel
theorem dX2_tellersAmong_8 : decode cX2_tellersAmong 8 = .ok (.getfield 32, 3) := by decide +kernel
theorem dX2_tellersAmong_11 : decode cX2_tellersAmong 11 = .ok (.if_icmp .ge 42, 3) := by decide +kernel
theorem dX2_tellersAmong_14 : decode cX2_tellersAmong 14 = .ok (.iload_n 1, 1) := by decide +kernel
theorem dX2_tellersAmong_15 : decode cX2_tellersAmong 15 = .ok (.iload 4, 2) := by decide +kernel
theorem dX2_tellersAmong_17 : decode cX2_tellersAmong 17 = .ok (.invokestatic 69, 3) := by decide +kernel
theorem dX2_tellersAmong_20 : decode cX2_tellersAmong 20 = .ok (.ifCond .eq 27, 3) := by decide +kernel
theorem dX2_tellersAmong_23 : decode cX2_tellersAmong 23 = .ok (.aload_n 0, 1) := by decide +kernel
theorem dX2_tellersAmong_24 : decode cX2_tellersAmong 24 = .ok (.getfield 27, 3) := by decide +kernel
theorem dX2_tellersAmong_27 : decode cX2_tellersAmong 27 = .ok (.iload 4, 2) := by decide +kernel
theorem dX2_tellersAmong_29 : decode cX2_tellersAmong 29 = .ok (.aaload, 1) := by decide +kernel
theorem dX2_tellersAmong_30 : decode cX2_tellersAmong 30 = .ok (.invokevirtual 84, 3) := by decide +kernel
theorem dX2_tellersAmong_33 : decode cX2_tellersAmong 33 = .ok (.iload_n 2, 1) := by decide +kernel
theorem dX2_tellersAmong_34 : decode cX2_tellersAmong 34 = .ok (.invokestatic 69, 3) := by decide +kernel
theorem dX2_tellersAmong_37 : decode cX2_tellersAmong 37 = .ok (.ifCond .eq 10, 3) := by decide +kernel
theorem dX2_tellersAmong_40 : decode cX2_tellersAmong 40 = .ok (.iload_n 3, 1) := by decide +kernel
theorem dX2_tellersAmong_41 : decode cX2_tellersAmong 41 = .ok (.iconst 1, 1) := by decide +kernel
theorem dX2_tellersAmong_42 : decode cX2_tellersAmong 42 = .ok (.iload 4, 2) := by decide +kernel
theorem dX2_tellersAmong_44 : decode cX2_tellersAmong 44 = .ok (.ishl, 1) := by decide +kernel
theorem dX2_tellersAmong_45 : decode cX2_tellersAmong 45 = .ok (.ior, 1) := by decide +kernel
theorem dX2_tellersAmong_46 : decode cX2_tellersAmong 46 = .ok (.istore_n 3, 1) := by decide +kernel
theorem dX2_tellersAmong_47 : decode cX2_tellersAmong 47 = .ok (.iinc 4 1, 3) := by decide +kernel
theorem dX2_tellersAmong_50 : decode cX2_tellersAmong 50 = .ok (.goto (-45), 3) := by decide +kernel
theorem dX2_tellersAmong_53 : decode cX2_tellersAmong 53 = .ok (.iload_n 3, 1) := by decide +kernel
theorem dX2_tellersAmong_54 : decode cX2_tellersAmong 54 = .ok (.ireturn, 1) := by decide +kernel
set_option maxRecDepth 20000 in
theorem ggX2_wantersOf_X3_toldPieces : GoodIn wsX2_wantersOf wsX3_toldPieces := goodIn_r _ [9, 10, 11, 12, 13, 35, 36, 37, 38, 39, 40, 41, 42, 43, 44, 45, 46, 47, 48, 49, 50, 51, 52, 53] (by decide +kernel) (by decide +kernel)
set_option maxRecDepth 20000 in
theorem gX2_wantersOf_X3_toldPieces : GoodIn wsX2_wantersOf (wsV RX2 84 RX3 yX3_toldPieces wsX3_toldPieces) := goodIn_app (goodIn_of _ (by decide +kernel)) ggX2_wantersOf_X3_toldPieces
set_option maxRecDepth 20000 in
theorem ggX2_wantersOf_X2_nearTo : GoodIn wsX2_wantersOf wsX2_nearTo := goodIn_r _ [18, 1, 19, 20, 21, 22, 23, 24, 25, 26, 27, 28, 29, 30, 31, 32, 33, 34, 35, 36, 37, 38, 39, 40, 41, 42, 43, 44, 45, 46, 47, 54, 55, 56, 57, 58, 59, 60, 61, 62, 63] (by decide +kernel) (by decide +kernel)
set_option maxRecDepth 20000 in
theorem gX2_wantersOf_X2_nearTo : GoodIn wsX2_wantersOf (wsV RX2 88 RX2 yX2_nearTo wsX2_nearTo) := goodIn_app (goodIn_of _ (by decide +kernel)) ggX2_wantersOf_X2_nearTo
set_option maxRecDepth 20000 in
theorem ggX2_wantersOf_X9_isIn : GoodIn wsX2_wantersOf wsX9_isIn := goodIn_r _ [26] (by decide +kernel) (by decide +kernel)
set_option maxRecDepth 20000 in
theorem gX2_wantersOf_X9_isIn_n69 : GoodIn wsX2_wantersOf (wsX9_isIn) := ggX2_wantersOf_X9_isIn
theorem dX2_wantersOf_0 : decode cX2_wantersOf 0 = .ok (.aload_n 0, 1) := by decide +kernel
theorem dX2_wantersOf_1 : decode cX2_wantersOf 1 = .ok (.getfield 27, 3) := by decide +kernel
theorem dX2_wantersOf_4 : decode cX2_wantersOf 4 = .ok (.iload_n 1, 1) := by decide +kernel
theorem dX2_wantersOf_5 : decode cX2_wantersOf 5 = .ok (.aaload, 1) := by decide +kernel
theorem dX2_wantersOf_6 : decode cX2_wantersOf 6 = .ok (.invokevirtual 84, 3) := by decide +kernel
theorem dX2_wantersOf_9 : decode cX2_wantersOf 9 = .ok (.istore_n 2, 1) := by decide +kernel
theorem dX2_wantersOf_10 : decode cX2_wantersOf 10 = .ok (.aload_n 0, 1) := by decide +kernel
theorem dX2_wantersOf_11 : decode cX2_wantersOf 11 = .ok (.iload_n 1, 1) := by decide +kernel
theorem dX2_wantersOf_12 : decode cX2_wantersOf 12 = .ok (.invokevirtual 88, 3) := by decide +kernel
theorem dX2_wantersOf_15 : decode cX2_wantersOf 15 = .ok (.istore_n 3, 1) := by decide +kernel
theorem dX2_wantersOf_16 : decode cX2_wantersOf 16 = .ok (.iconst 0, 1) := by decide +kernel
theorem dX2_wantersOf_17 : decode cX2_wantersOf 17 = .ok (.istore 4, 2) := by decide +kernel
theorem dX2_wantersOf_19 : decode cX2_wantersOf 19 = .ok (.iconst 0, 1) := by decide +kernel
theorem dX2_wantersOf_20 : decode cX2_wantersOf 20 = .ok (.istore 5, 2) := by decide +kernel
theorem dX2_wantersOf_22 : decode cX2_wantersOf 22 = .ok (.iload 5, 2) := by decide +kernel
theorem dX2_wantersOf_24 : decode cX2_wantersOf 24 = .ok (.aload_n 0, 1) := by decide +kernel
theorem dX2_wantersOf_25 : decode cX2_wantersOf 25 = .ok (.getfield 32, 3) := by decide +kernel
theorem dX2_wantersOf_28 : decode cX2_wantersOf 28 = .ok (.if_icmp .ge 47, 3) := by decide +kernel
theorem dX2_wantersOf_31 : decode cX2_wantersOf 31 = .ok (.iload_n 3, 1) := by decide +kernel
theorem dX2_wantersOf_32 : decode cX2_wantersOf 32 = .ok (.iload 5, 2) := by decide +kernel
theorem dX2_wantersOf_34 : decode cX2_wantersOf 34 = .ok (.invokestatic 69, 3) := by decide +kernel
theorem dX2_wantersOf_37 : decode cX2_wantersOf 37 = .ok (.ifCond .eq 32, 3) := by decide +kernel
theorem dX2_wantersOf_40 : decode cX2_wantersOf 40 = .ok (.iload_n 2, 1) := by decide +kernel
theorem dX2_wantersOf_41 : decode cX2_wantersOf 41 = .ok (.aload_n 0, 1) := by decide +kernel
theorem dX2_wantersOf_42 : decode cX2_wantersOf 42 = .ok (.getfield 27, 3) := by decide +kernel
theorem dX2_wantersOf_45 : decode cX2_wantersOf 45 = .ok (.iload 5, 2) := by decide +kernel
theorem dX2_wantersOf_47 : decode cX2_wantersOf 47 = .ok (.aaload, 1) := by decide +kernel
theorem dX2_wantersOf_48 : decode cX2_wantersOf 48 = .ok (.getfield 49, 3) := by decide +kernel
theorem dX2_wantersOf_51 : decode cX2_wantersOf 51 = .ok (.getfield 92, 3) := by decide +kernel
theorem dX2_wantersOf_54 : decode cX2_wantersOf 54 = .ok (.iconst (-1), 1) := by decide +kernel
theorem dX2_wantersOf_55 : decode cX2_wantersOf 55 = .ok (.ixor, 1) := by decide +kernel
theorem dX2_wantersOf_56 : decode cX2_wantersOf 56 = .ok (.iand, 1) := by decide +kernel
theorem dX2_wantersOf_57 : decode cX2_wantersOf 57 = .ok (.ifCond .eq 12, 3) := by decide +kernel
theorem dX2_wantersOf_60 : decode cX2_wantersOf 60 = .ok (.iload 4, 2) := by decide +kernel
theorem dX2_wantersOf_62 : decode cX2_wantersOf 62 = .ok (.iconst 1, 1) := by decide +kernel
theorem dX2_wantersOf_63 : decode cX2_wantersOf 63 = .ok (.iload 5, 2) := by decide +kernel
theorem dX2_wantersOf_65 : decode cX2_wantersOf 65 = .ok (.ishl, 1) := by decide +kernel
theorem dX2_wantersOf_66 : decode cX2_wantersOf 66 = .ok (.ior, 1) := by decide +kernel
theorem dX2_wantersOf_67 : decode cX2_wantersOf 67 = .ok (.istore 4, 2) := by decide +kernel
theorem dX2_wantersOf_69 : decode cX2_wantersOf 69 = .ok (.iinc 5 1, 3) := by decide +kernel
theorem dX2_wantersOf_72 : decode cX2_wantersOf 72 = .ok (.goto (-50), 3) := by decide +kernel
theorem dX2_wantersOf_75 : decode cX2_wantersOf 75 = .ok (.iload 4, 2) := by decide +kernel
theorem dX2_wantersOf_77 : decode cX2_wantersOf 77 = .ok (.ireturn, 1) := by decide +kernel
set_option maxRecDepth 20000 in
theorem ggX2_hadByOthersThan_X9_isIn : GoodIn wsX2_hadByOthersThan wsX9_isIn := goodIn_r _ [8] (by decide +kernel) (by decide +kernel)
set_option maxRecDepth 20000 in
theorem gX2_hadByOthersThan_X9_isIn_n69 : GoodIn wsX2_hadByOthersThan (wsX9_isIn) := ggX2_hadByOthersThan_X9_isIn
theorem dX2_hadByOthersThan_0 : decode cX2_hadByOthersThan 0 = .ok (.iconst 0, 1) := by decide +kernel
theorem dX2_hadByOthersThan_1 : decode cX2_hadByOthersThan 1 = .ok (.istore_n 2, 1) := by decide +kernel
theorem dX2_hadByOthersThan_2 : decode cX2_hadByOthersThan 2 = .ok (.iconst 0, 1) := by decide +kernel
theorem dX2_hadByOthersThan_3 : decode cX2_hadByOthersThan 3 = .ok (.istore_n 3, 1) := by decide +kernel
theorem dX2_hadByOthersThan_4 : decode cX2_hadByOthersThan 4 = .ok (.iload_n 3, 1) := by decide +kernel
theorem dX2_hadByOthersThan_5 : decode cX2_hadByOthersThan 5 = .ok (.aload_n 0, 1) := by decide +kernel
theorem dX2_hadByOthersThan_6 : decode cX2_hadByOthersThan 6 = .ok (.getfield 32, 3) := by decide +kernel
theorem dX2_hadByOthersThan_9 : decode cX2_hadByOthersThan 9 = .ok (.if_icmp .ge 40, 3) := by decide +kernel
theorem dX2_hadByOthersThan_12 : decode cX2_hadByOthersThan 12 = .ok (.iload_n 3, 1) := by decide +kernel
theorem dX2_hadByOthersThan_13 : decode cX2_hadByOthersThan 13 = .ok (.iload_n 1, 1) := by decide +kernel
theorem dX2_hadByOthersThan_14 : decode cX2_hadByOthersThan 14 = .ok (.if_icmp .eq 29, 3) := by decide +kernel
theorem dX2_hadByOthersThan_17 : decode cX2_hadByOthersThan 17 = .ok (.aload_n 0, 1) := by decide +kernel
theorem dX2_hadByOthersThan_18 : decode cX2_hadByOthersThan 18 = .ok (.getfield 62, 3) := by decide +kernel
theorem dX2_hadByOthersThan_21 : decode cX2_hadByOthersThan 21 = .ok (.iload_n 3, 1) := by decide +kernel
theorem dX2_hadByOthersThan_22 : decode cX2_hadByOthersThan 22 = .ok (.invokestatic 69, 3) := by decide +kernel
theorem dX2_hadByOthersThan_25 : decode cX2_hadByOthersThan 25 = .ok (.ifCond .eq 18, 3) := by decide +kernel
theorem dX2_hadByOthersThan_28 : decode cX2_hadByOthersThan 28 = .ok (.iload_n 2, 1) := by decide +kernel
theorem dX2_hadByOthersThan_29 : decode cX2_hadByOthersThan 29 = .ok (.aload_n 0, 1) := by decide +kernel
theorem dX2_hadByOthersThan_30 : decode cX2_hadByOthersThan 30 = .ok (.getfield 27, 3) := by decide +kernel
theorem dX2_hadByOthersThan_33 : decode cX2_hadByOthersThan 33 = .ok (.iload_n 3, 1) := by decide +kernel
theorem dX2_hadByOthersThan_34 : decode cX2_hadByOthersThan 34 = .ok (.aaload, 1) := by decide +kernel
theorem dX2_hadByOthersThan_35 : decode cX2_hadByOthersThan 35 = .ok (.getfield 49, 3) := by decide +kernel
theorem dX2_hadByOthersThan_38 : decode cX2_hadByOthersThan 38 = .ok (.getfield 92, 3) := by decide +kernel
theorem dX2_hadByOthersThan_41 : decode cX2_hadByOthersThan 41 = .ok (.ior, 1) := by decide +kernel
theorem dX2_hadByOthersThan_42 : decode cX2_hadByOthersThan 42 = .ok (.istore_n 2, 1) := by decide +kernel
theorem dX2_hadByOthersThan_43 : decode cX2_hadByOthersThan 43 = .ok (.iinc 3 1, 3) := by decide +kernel
theorem dX2_hadByOthersThan_46 : decode cX2_hadByOthersThan 46 = .ok (.goto (-42), 3) := by decide +kernel
theorem dX2_hadByOthersThan_49 : decode cX2_hadByOthersThan 49 = .ok (.iload_n 2, 1) := by decide +kernel
theorem dX2_hadByOthersThan_50 : decode cX2_hadByOthersThan 50 = .ok (.ireturn, 1) := by decide +kernel
set_option maxRecDepth 20000 in
theorem ggX2_letGo_X2_loseParcelsOf : GoodIn wsX2_letGo wsX2_loseParcelsOf := goodIn_r _ [10, 11, 12, 13, 14, 2, 15, 16, 17, 18, 19, 20, 21, 22, 23, 24, 25, 26, 27, 28, 29, 30, 31, 32, 33, 34, 35, 36, 37, 38, 39, 40, 41, 42, 43, 44, 45, 46, 47, 71, 72, 73, 74, 75, 76, 77, 48, 49, 50, 51, 52, 53, 54, 55, 56, 57, 58, 59, 60, 78, 79, 80, 81, 82, 83] (by decide +kernel) (by decide +kernel)
set_option maxRecDepth 20000 in
theorem gX2_letGo_X2_loseParcelsOf : GoodIn wsX2_letGo (wsV RX2 98 RX2 yX2_loseParcelsOf wsX2_loseParcelsOf) := goodIn_app (goodIn_of _ (by decide +kernel)) ggX2_letGo_X2_loseParcelsOf
theorem dX2_letGo_0 : decode cX2_letGo 0 = .ok (.aload_n 0, 1) := by decide +kernel
theorem dX2_letGo_1 : decode cX2_letGo 1 = .ok (.dup, 1) := by decide +kernel
theorem dX2_letGo_2 : decode cX2_letGo 2 = .ok (.getfield 62, 3) := by decide +kernel
theorem dX2_letGo_5 : decode cX2_letGo 5 = .ok (.iconst 1, 1) := by decide +kernel
theorem dX2_letGo_6 : decode cX2_letGo 6 = .ok (.iload_n 1, 1) := by decide +kernel
theorem dX2_letGo_7 : decode cX2_letGo 7 = .ok (.ishl, 1) := by decide +kernel
theorem dX2_letGo_8 : decode cX2_letGo 8 = .ok (.iconst (-1), 1) := by decide +kernel
theorem dX2_letGo_9 : decode cX2_letGo 9 = .ok (.ixor, 1) := by decide +kernel
theorem dX2_letGo_10 : decode cX2_letGo 10 = .ok (.iand, 1) := by decide +kernel
theorem dX2_letGo_11 : decode cX2_letGo 11 = .ok (.putfield 62, 3) := by decide +kernel
theorem dX2_letGo_14 : decode cX2_letGo 14 = .ok (.aload_n 0, 1) := by decide +kernel
theorem dX2_letGo_15 : decode cX2_letGo 15 = .ok (.getfield 27, 3) := by decide +kernel
theorem dX2_letGo_18 : decode cX2_letGo 18 = .ok (.iload_n 1, 1) := by decide +kernel
theorem dX2_letGo_19 : decode cX2_letGo 19 = .ok (.aaload, 1) := by decide +kernel
theorem dX2_letGo_20 : decode cX2_letGo 20 = .ok (.getfield 65, 3) := by decide +kernel
theorem dX2_letGo_23 : decode cX2_letGo 23 = .ok (.iconst 0, 1) := by decide +kernel
theorem dX2_letGo_24 : decode cX2_letGo 24 = .ok (.putfield 95, 3) := by decide +kernel
theorem dX2_letGo_27 : decode cX2_letGo 27 = .ok (.iconst 0, 1) := by decide +kernel
theorem dX2_letGo_28 : decode cX2_letGo 28 = .ok (.istore_n 2, 1) := by decide +kernel
theorem dX2_letGo_29 : decode cX2_letGo 29 = .ok (.iload_n 2, 1) := by decide +kernel
theorem dX2_letGo_30 : decode cX2_letGo 30 = .ok (.aload_n 0, 1) := by decide +kernel
theorem dX2_letGo_31 : decode cX2_letGo 31 = .ok (.getfield 32, 3) := by decide +kernel
theorem dX2_letGo_34 : decode cX2_letGo 34 = .ok (.if_icmp .ge 31, 3) := by decide +kernel
theorem dX2_letGo_37 : decode cX2_letGo 37 = .ok (.aload_n 0, 1) := by decide +kernel
theorem dX2_letGo_38 : decode cX2_letGo 38 = .ok (.getfield 27, 3) := by decide +kernel
theorem dX2_letGo_41 : decode cX2_letGo 41 = .ok (.iload_n 2, 1) := by decide +kernel
theorem dX2_letGo_42 : decode cX2_letGo 42 = .ok (.aaload, 1) := by decide +kernel
theorem dX2_letGo_43 : decode cX2_letGo 43 = .ok (.getfield 65, 3) := by decide +kernel
theorem dX2_letGo_46 : decode cX2_letGo 46 = .ok (.dup, 1) := by decide +kernel
theorem dX2_letGo_47 : decode cX2_letGo 47 = .ok (.getfield 95, 3) := by decide +kernel
theorem dX2_letGo_50 : decode cX2_letGo 50 = .ok (.iconst 1, 1) := by decide +kernel
theorem dX2_letGo_51 : decode cX2_letGo 51 = .ok (.iload_n 1, 1) := by decide +kernel
theorem dX2_letGo_52 : decode cX2_letGo 52 = .ok (.ishl, 1) := by decide +kernel
theorem dX2_letGo_53 : decode cX2_letGo 53 = .ok (.iconst (-1), 1) := by decide +kernel
theorem dX2_letGo_54 : decode cX2_letGo 54 = .ok (.ixor, 1) := by decide +kernel
theorem dX2_letGo_55 : decode cX2_letGo 55 = .ok (.iand, 1) := by decide +kernel
theorem dX2_letGo_56 : decode cX2_letGo 56 = .ok (.putfield 95, 3) := by decide +kernel
theorem dX2_letGo_59 : decode cX2_letGo 59 = .ok (.iinc 2 1, 3) := by decide +kernel
theorem dX2_letGo_62 : decode cX2_letGo 62 = .ok (.goto (-33), 3) := by decide +kernel
theorem dX2_letGo_65 : decode cX2_letGo 65 = .ok (.aload_n 0, 1) := by decide +kernel
theorem dX2_letGo_66 : decode cX2_letGo 66 = .ok (.iload_n 1, 1) := by decide +kernel
theorem dX2_letGo_67 : decode cX2_letGo 67 = .ok (.invokevirtual 98, 3) := by decide +kernel
theorem dX2_letGo_70 : decode cX2_letGo 70 = .ok (.return_, 1) := by decide +kernel
set_option maxRecDepth 20000 in
theorem ggX2_loseParcelsOf_X6_expectNoMore : GoodIn wsX2_loseParcelsOf wsX6_expectNoMore := goodIn_r _ [14, 15, 16, 17, 18, 19, 59, 60, 61, 62, 63, 64] (by decide +kernel) (by decide +kernel)
set_option maxRecDepth 20000 in
theorem gX2_loseParcelsOf_X6_expectNoMore : GoodIn wsX2_loseParcelsOf (wsV RX2 118 RX6 yX6_expectNoMore wsX6_expectNoMore) := goodIn_app (goodIn_of _ (by decide +kernel)) ggX2_loseParcelsOf_X6_expectNoMore
set_option maxRecDepth 20000 in
theorem ggX2_loseParcelsOf_X5_move : GoodIn wsX2_loseParcelsOf wsX5_move := goodIn_r _ [24, 25, 26, 27, 28, 29, 30, 39, 40, 41, 42, 43, 44, 45] (by decide +kernel) (by decide +kernel)
set_option maxRecDepth 20000 in
theorem gX2_loseParcelsOf_X5_move : GoodIn wsX2_loseParcelsOf (wsV RX2 125 RX5 yX5_move wsX5_move) := goodIn_app (goodIn_of _ (by decide +kernel)) ggX2_loseParcelsOf_X5_move
theorem dX2_loseParcelsOf_0 : decode cX2_loseParcelsOf 0 = .ok (.iconst 0, 1) := by decide +kernel
theorem dX2_loseParcelsOf_1 : decode cX2_loseParcelsOf 1 = .ok (.istore_n 2, 1) := by decide +kernel
theorem dX2_loseParcelsOf_2 : decode cX2_loseParcelsOf 2 = .ok (.iconst 0, 1) := by decide +kernel
theorem dX2_loseParcelsOf_3 : decode cX2_loseParcelsOf 3 = .ok (.istore_n 3, 1) := by decide +kernel
theorem dX2_loseParcelsOf_4 : decode cX2_loseParcelsOf 4 = .ok (.iload_n 3, 1) := by decide +kernel
theorem dX2_loseParcelsOf_5 : decode cX2_loseParcelsOf 5 = .ok (.aload_n 0, 1) := by decide +kernel
theorem dX2_loseParcelsOf_6 : decode cX2_loseParcelsOf 6 = .ok (.getfield 21, 3) := by decide +kernel
theorem dX2_loseParcelsOf_9 : decode cX2_loseParcelsOf 9 = .ok (.getfield 102, 3) := by decide +kernel
theorem dX2_loseParcelsOf_12 : decode cX2_loseParcelsOf 12 = .ok (.if_icmp .ge 98, 3) := by decide +kernel
theorem dX2_loseParcelsOf_15 : decode cX2_loseParcelsOf 15 = .ok (.aload_n 0, 1) := by decide +kernel
theorem dX2_loseParcelsOf_16 : decode cX2_loseParcelsOf 16 = .ok (.getfield 21, 3) := by decide +kernel
theorem dX2_loseParcelsOf_19 : decode cX2_loseParcelsOf 19 = .ok (.getfield 105, 3) := by decide +kernel
theorem dX2_loseParcelsOf_22 : decode cX2_loseParcelsOf 22 = .ok (.iload_n 3, 1) := by decide +kernel
theorem dX2_loseParcelsOf_23 : decode cX2_loseParcelsOf 23 = .ok (.iaload, 1) := by decide +kernel
theorem dX2_loseParcelsOf_24 : decode cX2_loseParcelsOf 24 = .ok (.iload_n 1, 1) := by decide +kernel
theorem dX2_loseParcelsOf_25 : decode cX2_loseParcelsOf 25 = .ok (.if_icmp .eq 16, 3) := by decide +kernel
theorem dX2_loseParcelsOf_28 : decode cX2_loseParcelsOf 28 = .ok (.aload_n 0, 1) := by decide +kernel
theorem dX2_loseParcelsOf_29 : decode cX2_loseParcelsOf 29 = .ok (.getfield 21, 3) := by decide +kernel
theorem dX2_loseParcelsOf_32 : decode cX2_loseParcelsOf 32 = .ok (.getfield 109, 3) := by decide +kernel
theorem dX2_loseParcelsOf_35 : decode cX2_loseParcelsOf 35 = .ok (.iload_n 3, 1) := by decide +kernel
theorem dX2_loseParcelsOf_36 : decode cX2_loseParcelsOf 36 = .ok (.iaload, 1) := by decide +kernel
theorem dX2_loseParcelsOf_37 : decode cX2_loseParcelsOf 37 = .ok (.iload_n 1, 1) := by decide +kernel
theorem dX2_loseParcelsOf_38 : decode cX2_loseParcelsOf 38 = .ok (.if_icmp .ne 54, 3) := by decide +kernel
theorem dX2_loseParcelsOf_41 : decode cX2_loseParcelsOf 41 = .ok (.aload_n 0, 1) := by decide +kernel
theorem dX2_loseParcelsOf_42 : decode cX2_loseParcelsOf 42 = .ok (.getfield 27, 3) := by decide +kernel
theorem dX2_loseParcelsOf_45 : decode cX2_loseParcelsOf 45 = .ok (.aload_n 0, 1) := by decide +kernel
theorem dX2_loseParcelsOf_46 : decode cX2_loseParcelsOf 46 = .ok (.getfield 21, 3) := by decide +kernel
theorem dX2_loseParcelsOf_49 : decode cX2_loseParcelsOf 49 = .ok (.getfield 105, 3) := by decide +kernel
theorem dX2_loseParcelsOf_52 : decode cX2_loseParcelsOf 52 = .ok (.iload_n 3, 1) := by decide +kernel
theorem dX2_loseParcelsOf_53 : decode cX2_loseParcelsOf 53 = .ok (.iaload, 1) := by decide +kernel
theorem dX2_loseParcelsOf_54 : decode cX2_loseParcelsOf 54 = .ok (.aaload, 1) := by decide +kernel
theorem dX2_loseParcelsOf_55 : decode cX2_loseParcelsOf 55 = .ok (.getfield 49, 3) := by decide +kernel
theorem dX2_loseParcelsOf_58 : decode cX2_loseParcelsOf 58 = .ok (.aload_n 0, 1) := by decide +kernel
theorem dX2_loseParcelsOf_59 : decode cX2_loseParcelsOf 59 = .ok (.getfield 21, 3) := by decide +kernel
theorem dX2_loseParcelsOf_62 : decode cX2_loseParcelsOf 62 = .ok (.getfield 112, 3) := by decide +kernel
theorem dX2_loseParcelsOf_65 : decode cX2_loseParcelsOf 65 = .ok (.iload_n 3, 1) := by decide +kernel
theorem dX2_loseParcelsOf_66 : decode cX2_loseParcelsOf 66 = .ok (.iaload, 1) := by decide +kernel
theorem dX2_loseParcelsOf_67 : decode cX2_loseParcelsOf 67 = .ok (.aload_n 0, 1) := by decide +kernel
theorem dX2_loseParcelsOf_68 : decode cX2_loseParcelsOf 68 = .ok (.getfield 21, 3) := by decide +kernel
theorem dX2_loseParcelsOf_71 : decode cX2_loseParcelsOf 71 = .ok (.getfield 115, 3) := by decide +kernel
theorem dX2_loseParcelsOf_74 : decode cX2_loseParcelsOf 74 = .ok (.iload_n 3, 1) := by decide +kernel
theorem dX2_loseParcelsOf_75 : decode cX2_loseParcelsOf 75 = .ok (.iaload, 1) := by decide +kernel
theorem dX2_loseParcelsOf_76 : decode cX2_loseParcelsOf 76 = .ok (.invokevirtual 118, 3) := by decide +kernel
theorem dX2_loseParcelsOf_79 : decode cX2_loseParcelsOf 79 = .ok (.aload_n 0, 1) := by decide +kernel
theorem dX2_loseParcelsOf_80 : decode cX2_loseParcelsOf 80 = .ok (.dup, 1) := by decide +kernel
theorem dX2_loseParcelsOf_81 : decode cX2_loseParcelsOf 81 = .ok (.getfield 122, 3) := by decide +kernel
theorem dX2_loseParcelsOf_84 : decode cX2_loseParcelsOf 84 = .ok (.iconst 1, 1) := by decide +kernel
theorem dX2_loseParcelsOf_85 : decode cX2_loseParcelsOf 85 = .ok (.iadd, 1) := by decide +kernel
theorem dX2_loseParcelsOf_86 : decode cX2_loseParcelsOf 86 = .ok (.putfield 122, 3) := by decide +kernel
theorem dX2_loseParcelsOf_89 : decode cX2_loseParcelsOf 89 = .ok (.goto 15, 3) := by decide +kernel
theorem dX2_loseParcelsOf_92 : decode cX2_loseParcelsOf 92 = .ok (.aload_n 0, 1) := by decide +kernel
theorem dX2_loseParcelsOf_93 : decode cX2_loseParcelsOf 93 = .ok (.getfield 21, 3) := by decide +kernel
theorem dX2_loseParcelsOf_96 : decode cX2_loseParcelsOf 96 = .ok (.iload_n 3, 1) := by decide +kernel
theorem dX2_loseParcelsOf_97 : decode cX2_loseParcelsOf 97 = .ok (.iload_n 2, 1) := by decide +kernel
theorem dX2_loseParcelsOf_98 : decode cX2_loseParcelsOf 98 = .ok (.invokevirtual 125, 3) := by decide +kernel
theorem dX2_loseParcelsOf_101 : decode cX2_loseParcelsOf 101 = .ok (.iinc 2 1, 3) := by decide +kernel
theorem dX2_loseParcelsOf_104 : decode cX2_loseParcelsOf 104 = .ok (.iinc 3 1, 3) := by decide +kernel
theorem dX2_loseParcelsOf_107 : decode cX2_loseParcelsOf 107 = .ok (.goto (-103), 3) := by decide +kernel
theorem dX2_loseParcelsOf_110 : decode cX2_loseParcelsOf 110 = .ok (.aload_n 0, 1) := by decide +kernel
theorem dX2_loseParcelsOf_111 : decode cX2_loseParcelsOf 111 = .ok (.getfield 21, 3) := by decide +kernel
theorem dX2_loseParcelsOf_114 : decode cX2_loseParcelsOf 114 = .ok (.iload_n 2, 1) := by decide +kernel
theorem dX2_loseParcelsOf_115 : decode cX2_loseParcelsOf 115 = .ok (.putfield 102, 3) := by decide +kernel
theorem dX2_loseParcelsOf_118 : decode cX2_loseParcelsOf 118 = .ok (.return_, 1) := by decide +kernel
set_option maxRecDepth 20000 in
theorem ggX2_doneAndHere_X9_isIn : GoodIn wsX2_doneAndHere wsX9_isIn := goodIn_r _ [6] (by decide +kernel) (by decide +kernel)
set_option maxRecDepth 20000 in
theorem gX2_doneAndHere_X9_isIn_n69 : GoodIn wsX2_doneAndHere (wsX9_isIn) := ggX2_doneAndHere_X9_isIn
set_option maxRecDepth 20000 in
theorem ggX2_doneAndHere_X3_isDone : GoodIn wsX2_doneAndHere wsX3_isDone := goodIn_r _ [11, 12, 23, 24, 25, 26, 27, 28, 29, 30, 31, 32, 33, 34, 35] (by decide +kernel) (by decide +kernel)
set_option maxRecDepth 20000 in
theorem gX2_doneAndHere_X3_isDone : GoodIn wsX2_doneAndHere (wsV RX2 128 RX3 yX3_isDone wsX3_isDone) := goodIn_app (goodIn_of _ (by decide +kernel)) ggX2_doneAndHere_X3_isDone
set_option maxRecDepth 20000 in
theorem ggX2_doneAndHere_X9_oneIf : GoodIn wsX2_doneAndHere wsX9_oneIf := goodIn_r _ [14] (by decide +kernel) (by decide +kernel)
set_option maxRecDepth 20000 in
theorem gX2_doneAndHere_X9_oneIf_n132 : GoodIn wsX2_doneAndHere (wsX9_oneIf) := ggX2_doneAndHere_X9_oneIf
theorem dX2_doneAndHere_0 : decode cX2_doneAndHere 0 = .ok (.iconst 0, 1) := by decide +kernel
theorem dX2_doneAndHere_1 : decode cX2_doneAndHere 1 = .ok (.istore_n 1, 1) := by decide +kernel
theorem dX2_doneAndHere_2 : decode cX2_doneAndHere 2 = .ok (.iconst 0, 1) := by decide +kernel
theorem dX2_doneAndHere_3 : decode cX2_doneAndHere 3 = .ok (.istore_n 2, 1) := by decide +kernel
theorem dX2_doneAndHere_4 : decode cX2_doneAndHere 4 = .ok (.iload_n 2, 1) := by decide +kernel
theorem dX2_doneAndHere_5 : decode cX2_doneAndHere 5 = .ok (.aload_n 0, 1) := by decide +kernel
theorem dX2_doneAndHere_6 : decode cX2_doneAndHere 6 = .ok (.getfield 32, 3) := by decide +kernel
theorem dX2_doneAndHere_9 : decode cX2_doneAndHere 9 = .ok (.if_icmp .ge 43, 3) := by decide +kernel
theorem dX2_doneAndHere_12 : decode cX2_doneAndHere 12 = .ok (.iload_n 1, 1) := by decide +kernel
theorem dX2_doneAndHere_13 : decode cX2_doneAndHere 13 = .ok (.aload_n 0, 1) := by decide +kernel
theorem dX2_doneAndHere_14 : decode cX2_doneAndHere 14 = .ok (.getfield 62, 3) := by decide +kernel
theorem dX2_doneAndHere_17 : decode cX2_doneAndHere 17 = .ok (.iload_n 2, 1) := by decide +kernel
theorem dX2_doneAndHere_18 : decode cX2_doneAndHere 18 = .ok (.invokestatic 69, 3) := by decide +kernel
theorem dX2_doneAndHere_21 : decode cX2_doneAndHere 21 = .ok (.ifCond .eq 19, 3) := by decide +kernel
theorem dX2_doneAndHere_24 : decode cX2_doneAndHere 24 = .ok (.aload_n 0, 1) := by decide +kernel
theorem dX2_doneAndHere_25 : decode cX2_doneAndHere 25 = .ok (.getfield 27, 3) := by decide +kernel
theorem dX2_doneAndHere_28 : decode cX2_doneAndHere 28 = .ok (.iload_n 2, 1) := by decide +kernel
theorem dX2_doneAndHere_29 : decode cX2_doneAndHere 29 = .ok (.aaload, 1) := by decide +kernel
theorem dX2_doneAndHere_30 : decode cX2_doneAndHere 30 = .ok (.invokevirtual 128, 3) := by decide +kernel
theorem dX2_doneAndHere_33 : decode cX2_doneAndHere 33 = .ok (.ifCond .eq 7, 3) := by decide +kernel
theorem dX2_doneAndHere_36 : decode cX2_doneAndHere 36 = .ok (.iconst 1, 1) := by decide +kernel
theorem dX2_doneAndHere_37 : decode cX2_doneAndHere 37 = .ok (.goto 4, 3) := by decide +kernel
theorem dX2_doneAndHere_40 : decode cX2_doneAndHere 40 = .ok (.iconst 0, 1) := by decide +kernel
theorem dX2_doneAndHere_41 : decode cX2_doneAndHere 41 = .ok (.invokestatic 132, 3) := by decide +kernel
theorem dX2_doneAndHere_44 : decode cX2_doneAndHere 44 = .ok (.iadd, 1) := by decide +kernel
theorem dX2_doneAndHere_45 : decode cX2_doneAndHere 45 = .ok (.istore_n 1, 1) := by decide +kernel
theorem dX2_doneAndHere_46 : decode cX2_doneAndHere 46 = .ok (.iinc 2 1, 3) := by decide +kernel
theorem dX2_doneAndHere_49 : decode cX2_doneAndHere 49 = .ok (.goto (-45), 3) := by decide +kernel
theorem dX2_doneAndHere_52 : decode cX2_doneAndHere 52 = .ok (.iload_n 1, 1) := by decide +kernel
theorem dX2_doneAndHere_53 : decode cX2_doneAndHere 53 = .ok (.ireturn, 1) := by decide +kernel
theorem dX2_failedInAll_0 : decode cX2_failedInAll 0 = .ok (.iconst 0, 1) := by decide +kernel
theorem dX2_failedInAll_1 : decode cX2_failedInAll 1 = .ok (.istore_n 1, 1) := by decide +kernel
theorem dX2_failedInAll_2 : decode cX2_failedInAll 2 = .ok (.iconst 0, 1) := by decide +kernel
theorem dX2_failedInAll_3 : decode cX2_failedInAll 3 = .ok (.istore_n 2, 1) := by decide +kernel
theorem dX2_failedInAll_4 : decode cX2_failedInAll 4 = .ok (.iload_n 2, 1) := by decide +kernel
theorem dX2_failedInAll_5 : decode cX2_failedInAll 5 = .ok (.aload_n 0, 1) := by decide +kernel
theorem dX2_failedInAll_6 : decode cX2_failedInAll 6 = .ok (.getfield 32, 3) := by decide +kernel
theorem dX2_failedInAll_9 : decode cX2_failedInAll 9 = .ok (.if_icmp .ge 21, 3) := by decide +kernel
theorem dX2_failedInAll_12 : decode cX2_failedInAll 12 = .ok (.iload_n 1, 1) := by decide +kernel
theorem dX2_failedInAll_13 : decode cX2_failedInAll 13 = .ok (.aload_n 0, 1) := by decide +kernel
theorem dX2_failedInAll_14 : decode cX2_failedInAll 14 = .ok (.getfield 27, 3) := by decide +kernel
theorem dX2_failedInAll_17 : decode cX2_failedInAll 17 = .ok (.iload_n 2, 1) := by decide +kernel
theorem dX2_failedInAll_18 : decode cX2_failedInAll 18 = .ok (.aaload, 1) := by decide +kernel
theorem dX2_failedInAll_19 : decode cX2_failedInAll 19 = .ok (.getfield 136, 3) := by decide +kernel
theorem dX2_failedInAll_22 : decode cX2_failedInAll 22 = .ok (.iadd, 1) := by decide +kernel
theorem dX2_failedInAll_23 : decode cX2_failedInAll 23 = .ok (.istore_n 1, 1) := by decide +kernel
theorem dX2_failedInAll_24 : decode cX2_failedInAll 24 = .ok (.iinc 2 1, 3) := by decide +kernel
theorem dX2_failedInAll_27 : decode cX2_failedInAll 27 = .ok (.goto (-23), 3) := by decide +kernel
theorem dX2_failedInAll_30 : decode cX2_failedInAll 30 = .ok (.iload_n 1, 1) := by decide +kernel
theorem dX2_failedInAll_31 : decode cX2_failedInAll 31 = .ok (.ireturn, 1) := by decide +kernel
theorem dX2_spareInAll_0 : decode cX2_spareInAll 0 = .ok (.iconst 0, 1) := by decide +kernel
theorem dX2_spareInAll_1 : decode cX2_spareInAll 1 = .ok (.istore_n 1, 1) := by decide +kernel
theorem dX2_spareInAll_2 : decode cX2_spareInAll 2 = .ok (.iconst 0, 1) := by decide +kernel
theorem dX2_spareInAll_3 : decode cX2_spareInAll 3 = .ok (.istore_n 2, 1) := by decide +kernel
theorem dX2_spareInAll_4 : decode cX2_spareInAll 4 = .ok (.iload_n 2, 1) := by decide +kernel
theorem dX2_spareInAll_5 : decode cX2_spareInAll 5 = .ok (.aload_n 0, 1) := by decide +kernel
theorem dX2_spareInAll_6 : decode cX2_spareInAll 6 = .ok (.getfield 32, 3) := by decide +kernel
theorem dX2_spareInAll_9 : decode cX2_spareInAll 9 = .ok (.if_icmp .ge 21, 3) := by decide +kernel
theorem dX2_spareInAll_12 : decode cX2_spareInAll 12 = .ok (.iload_n 1, 1) := by decide +kernel
theorem dX2_spareInAll_13 : decode cX2_spareInAll 13 = .ok (.aload_n 0, 1) := by decide +kernel
theorem dX2_spareInAll_14 : decode cX2_spareInAll 14 = .ok (.getfield 27, 3) := by decide +kernel
theorem dX2_spareInAll_17 : decode cX2_spareInAll 17 = .ok (.iload_n 2, 1) := by decide +kernel
theorem dX2_spareInAll_18 : decode cX2_spareInAll 18 = .ok (.aaload, 1) := by decide +kernel
theorem dX2_spareInAll_19 : decode cX2_spareInAll 19 = .ok (.getfield 139, 3) := by decide +kernel
theorem dX2_spareInAll_22 : decode cX2_spareInAll 22 = .ok (.iadd, 1) := by decide +kernel
theorem dX2_spareInAll_23 : decode cX2_spareInAll 23 = .ok (.istore_n 1, 1) := by decide +kernel
theorem dX2_spareInAll_24 : decode cX2_spareInAll 24 = .ok (.iinc 2 1, 3) := by decide +kernel
theorem dX2_spareInAll_27 : decode cX2_spareInAll 27 = .ok (.goto (-23), 3) := by decide +kernel
theorem dX2_spareInAll_30 : decode cX2_spareInAll 30 = .ok (.iload_n 1, 1) := by decide +kernel
theorem dX2_spareInAll_31 : decode cX2_spareInAll 31 = .ok (.ireturn, 1) := by decide +kernel
set_option maxRecDepth 20000 in
theorem ggX3_init_X6_init : GoodIn wsX3_init wsX6_init := goodIn_r _ [16, 17, 2, 3, 18, 19, 20, 21, 32, 33, 34, 35, 36, 37] (by decide +kernel) (by decide +kernel)
set_option maxRecDepth 20000 in
theorem gX3_init_X6_init : GoodIn wsX3_init (wsX6_init) := ggX3_init_X6_init
set_option maxRecDepth 20000 in
theorem ggX3_init_X7_init : GoodIn wsX3_init wsX7_init := goodIn_r _ [24, 25, 2, 3, 18, 26, 27, 28, 29, 30, 31, 51, 52, 53, 54, 55, 56, 57, 58, 59, 60] (by decide +kernel) (by decide +kernel)
set_option maxRecDepth 20000 in
theorem gX3_init_X7_init : GoodIn wsX3_init (wsX7_init) := ggX3_init_X7_init
theorem dX3_init_0 : decode cX3_init 0 = .ok (.aload_n 0, 1) := by decide +kernel
theorem dX3_init_1 : decode cX3_init 1 = .ok (.invokespecial 3, 3) := by decide +kernel
theorem dX3_init_4 : decode cX3_init 4 = .ok (.aload_n 0, 1) := by decide +kernel
theorem dX3_init_5 : decode cX3_init 5 = .ok (.new 9, 3) := by decide +kernel
theorem dX3_init_8 : decode cX3_init 8 = .ok (.dup, 1) := by decide +kernel
theorem dX3_init_9 : decode cX3_init 9 = .ok (.invokespecial 11, 3) := by decide +kernel
theorem dX3_init_12 : decode cX3_init 12 = .ok (.putfield 12, 3) := by decide +kernel
theorem dX3_init_15 : decode cX3_init 15 = .ok (.aload_n 0, 1) := by decide +kernel
theorem dX3_init_16 : decode cX3_init 16 = .ok (.new 18, 3) := by decide +kernel
theorem dX3_init_19 : decode cX3_init 19 = .ok (.dup, 1) := by decide +kernel
theorem dX3_init_20 : decode cX3_init 20 = .ok (.invokespecial 20, 3) := by decide +kernel
theorem dX3_init_23 : decode cX3_init 23 = .ok (.putfield 21, 3) := by decide +kernel
theorem dX3_init_26 : decode cX3_init 26 = .ok (.aload_n 0, 1) := by decide +kernel
theorem dX3_init_27 : decode cX3_init 27 = .ok (.iconst 2, 1) := by decide +kernel
theorem dX3_init_28 : decode cX3_init 28 = .ok (.putfield 25, 3) := by decide +kernel
theorem dX3_init_31 : decode cX3_init 31 = .ok (.aload_n 0, 1) := by decide +kernel
theorem dX3_init_32 : decode cX3_init 32 = .ok (.iconst (-1), 1) := by decide +kernel
theorem dX3_init_33 : decode cX3_init 33 = .ok (.putfield 29, 3) := by decide +kernel
theorem dX3_init_36 : decode cX3_init 36 = .ok (.return_, 1) := by decide +kernel
theorem dX3_isDone_0 : decode cX3_isDone 0 = .ok (.aload_n 0, 1) := by decide +kernel
theorem dX3_isDone_1 : decode cX3_isDone 1 = .ok (.getfield 29, 3) := by decide +kernel
theorem dX3_isDone_4 : decode cX3_isDone 4 = .ok (.iconst (-1), 1) := by decide +kernel
theorem dX3_isDone_5 : decode cX3_isDone 5 = .ok (.if_icmp .eq 7, 3) := by decide +kernel
theorem dX3_isDone_8 : decode cX3_isDone 8 = .ok (.iconst 1, 1) := by decide +kernel
theorem dX3_isDone_9 : decode cX3_isDone 9 = .ok (.goto 4, 3) := by decide +kernel
theorem dX3_isDone_12 : decode cX3_isDone 12 = .ok (.iconst 0, 1) := by decide +kernel
theorem dX3_isDone_13 : decode cX3_isDone 13 = .ok (.ireturn, 1) := by decide +kernel
theorem dX3_opensToNobody_0 : decode cX3_opensToNobody 0 = .ok (.aload_n 0, 1) := by decide +kernel
theorem dX3_opensToNobody_1 : decode cX3_opensToNobody 1 = .ok (.getfield 32, 3) := by decide +kernel
theorem dX3_opensToNobody_4 : decode cX3_opensToNobody 4 = .ok (.iconst 2, 1) := by decide +kernel
theorem dX3_opensToNobody_5 : decode cX3_opensToNobody 5 = .ok (.if_icmp .eq 11, 3) := by decide +kernel
theorem dX3_opensToNobody_8 : decode cX3_opensToNobody 8 = .ok (.aload_n 0, 1) := by decide +kernel
theorem dX3_opensToNobody_9 : decode cX3_opensToNobody 9 = .ok (.getfield 32, 3) := by decide +kernel
theorem dX3_opensToNobody_12 : decode cX3_opensToNobody 12 = .ok (.iconst 5, 1) := by decide +kernel
theorem dX3_opensToNobody_13 : decode cX3_opensToNobody 13 = .ok (.if_icmp .ne 7, 3) := by decide +kernel
theorem dX3_opensToNobody_16 : decode cX3_opensToNobody 16 = .ok (.iconst 1, 1) := by decide +kernel
theorem dX3_opensToNobody_17 : decode cX3_opensToNobody 17 = .ok (.goto 4, 3) := by decide +kernel
theorem dX3_opensToNobody_20 : decode cX3_opensToNobody 20 = .ok (.iconst 0, 1) := by decide +kernel
theorem dX3_opensToNobody_21 : decode cX3_opensToNobody 21 = .ok (.ireturn, 1) := by decide +kernel
theorem dX3_toldPieces_0 : decode cX3_toldPieces 0 = .ok (.aload_n 0, 1) := by decide +kernel
theorem dX3_toldPieces_1 : decode cX3_toldPieces 1 = .ok (.getfield 32, 3) := by decide +kernel
theorem dX3_toldPieces_4 : decode cX3_toldPieces 4 = .ok (.iconst 5, 1) := by decide +kernel
theorem dX3_toldPieces_5 : decode cX3_toldPieces 5 = .ok (.if_icmp .ne 16, 3) := by decide +kernel
theorem dX3_toldPieces_8 : decode cX3_toldPieces 8 = .ok (.aload_n 0, 1) := by decide +kernel
theorem dX3_toldPieces_9 : decode cX3_toldPieces 9 = .ok (.getfield 12, 3) := by decide +kernel
theorem dX3_toldPieces_12 : decode cX3_toldPieces 12 = .ok (.getfield 35, 3) := by decide +kernel
theorem dX3_toldPieces_15 : decode cX3_toldPieces 15 = .ok (.ldc 38, 2) := by decide +kernel
theorem dX3_toldPieces_17 : decode cX3_toldPieces 17 = .ok (.iand, 1) := by decide +kernel
theorem dX3_toldPieces_18 : decode cX3_toldPieces 18 = .ok (.goto 10, 3) := by decide +kernel
theorem dX3_toldPieces_21 : decode cX3_toldPieces 21 = .ok (.aload_n 0, 1) := by decide +kernel
theorem dX3_toldPieces_22 : decode cX3_toldPieces 22 = .ok (.getfield 12, 3) := by decide +kernel
theorem dX3_toldPieces_25 : decode cX3_toldPieces 25 = .ok (.getfield 35, 3) := by decide +kernel
theorem dX3_toldPieces_28 : decode cX3_toldPieces 28 = .ok (.ireturn, 1) := by decide +kernel
set_option maxRecDepth 20000 in
theorem ggX3_lateNumberOf_X3_isDone : GoodIn wsX3_lateNumberOf wsX3_isDone := goodIn_r _ [8, 9, 10, 11, 12, 13, 14, 15, 16, 17, 18, 19, 20, 21, 22] (by decide +kernel) (by decide +kernel)
set_option maxRecDepth 20000 in
theorem gX3_lateNumberOf_X3_isDone : GoodIn wsX3_lateNumberOf (wsV RX3 39 RX3 yX3_isDone wsX3_isDone) := goodIn_app (goodIn_of _ (by decide +kernel)) ggX3_lateNumberOf_X3_isDone
theorem dX3_lateNumberOf_0 : decode cX3_lateNumberOf 0 = .ok (.aload_n 0, 1) := by decide +kernel
theorem dX3_lateNumberOf_1 : decode cX3_lateNumberOf 1 = .ok (.invokevirtual 39, 3) := by decide +kernel
theorem dX3_lateNumberOf_4 : decode cX3_lateNumberOf 4 = .ok (.ifCond .eq 15, 3) := by decide +kernel
theorem dX3_lateNumberOf_7 : decode cX3_lateNumberOf 7 = .ok (.aload_n 0, 1) := by decide +kernel
theorem dX3_lateNumberOf_8 : decode cX3_lateNumberOf 8 = .ok (.getfield 21, 3) := by decide +kernel
theorem dX3_lateNumberOf_11 : decode cX3_lateNumberOf 11 = .ok (.getfield 43, 3) := by decide +kernel
theorem dX3_lateNumberOf_14 : decode cX3_lateNumberOf 14 = .ok (.iload_n 1, 1) := by decide +kernel
theorem dX3_lateNumberOf_15 : decode cX3_lateNumberOf 15 = .ok (.iaload, 1) := by decide +kernel
theorem dX3_lateNumberOf_16 : decode cX3_lateNumberOf 16 = .ok (.goto 12, 3) := by decide +kernel
theorem dX3_lateNumberOf_19 : decode cX3_lateNumberOf 19 = .ok (.aload_n 0, 1) := by decide +kernel
theorem dX3_lateNumberOf_20 : decode cX3_lateNumberOf 20 = .ok (.getfield 21, 3) := by decide +kernel
theorem dX3_lateNumberOf_23 : decode cX3_lateNumberOf 23 = .ok (.getfield 47, 3) := by decide +kernel
theorem dX3_lateNumberOf_26 : decode cX3_lateNumberOf 26 = .ok (.iload_n 1, 1) := by decide +kernel
theorem dX3_lateNumberOf_27 : decode cX3_lateNumberOf 27 = .ok (.iaload, 1) := by decide +kernel
theorem dX3_lateNumberOf_28 : decode cX3_lateNumberOf 28 = .ok (.ireturn, 1) := by decide +kernel
theorem dX3_nowSendsFalse_0 : decode cX3_nowSendsFalse 0 = .ok (.aload_n 0, 1) := by decide +kernel
theorem dX3_nowSendsFalse_1 : decode cX3_nowSendsFalse 1 = .ok (.getfield 32, 3) := by decide +kernel
theorem dX3_nowSendsFalse_4 : decode cX3_nowSendsFalse 4 = .ok (.iconst 3, 1) := by decide +kernel
theorem dX3_nowSendsFalse_5 : decode cX3_nowSendsFalse 5 = .ok (.if_icmp .ne 26, 3) := by decide +kernel
theorem dX3_nowSendsFalse_8 : decode cX3_nowSendsFalse 8 = .ok (.aload_n 0, 1) := by decide +kernel
theorem dX3_nowSendsFalse_9 : decode cX3_nowSendsFalse 9 = .ok (.getfield 25, 3) := by decide +kernel
theorem dX3_nowSendsFalse_12 : decode cX3_nowSendsFalse 12 = .ok (.ifCond .le 19, 3) := by decide +kernel
theorem dX3_nowSendsFalse_15 : decode cX3_nowSendsFalse 15 = .ok (.aload_n 0, 1) := by decide +kernel
theorem dX3_nowSendsFalse_16 : decode cX3_nowSendsFalse 16 = .ok (.getfield 50, 3) := by decide +kernel
theorem dX3_nowSendsFalse_19 : decode cX3_nowSendsFalse 19 = .ok (.aload_n 0, 1) := by decide +kernel
theorem dX3_nowSendsFalse_20 : decode cX3_nowSendsFalse 20 = .ok (.getfield 25, 3) := by decide +kernel
theorem dX3_nowSendsFalse_23 : decode cX3_nowSendsFalse 23 = .ok (.irem, 1) := by decide +kernel
theorem dX3_nowSendsFalse_24 : decode cX3_nowSendsFalse 24 = .ok (.ifCond .ne 7, 3) := by decide +kernel
theorem dX3_nowSendsFalse_27 : decode cX3_nowSendsFalse 27 = .ok (.iconst 1, 1) := by decide +kernel
theorem dX3_nowSendsFalse_28 : decode cX3_nowSendsFalse 28 = .ok (.goto 4, 3) := by decide +kernel
theorem dX3_nowSendsFalse_31 : decode cX3_nowSendsFalse 31 = .ok (.iconst 0, 1) := by decide +kernel
theorem dX3_nowSendsFalse_32 : decode cX3_nowSendsFalse 32 = .ok (.ireturn, 1) := by decide +kernel
theorem dX4_init_0 : decode cX4_init 0 = .ok (.aload_n 0, 1) := by decide +kernel
theorem dX4_init_1 : decode cX4_init 1 = .ok (.invokespecial 3, 3) := by decide +kernel
theorem dX4_init_4 : decode cX4_init 4 = .ok (.aload_n 0, 1) := by decide +kernel
theorem dX4_init_5 : decode cX4_init 5 = .ok (.aload_n 1, 1) := by decide +kernel
theorem dX4_init_6 : decode cX4_init 6 = .ok (.putfield 9, 3) := by decide +kernel
theorem dX4_init_9 : decode cX4_init 9 = .ok (.return_, 1) := by decide +kernel
set_option maxRecDepth 20000 in
theorem ggX4_openAll_X9_isIn : GoodIn wsX4_openAll wsX9_isIn := goodIn_r _ [6] (by decide +kernel) (by decide +kernel)
set_option maxRecDepth 20000 in
theorem gX4_openAll_X9_isIn_n24 : GoodIn wsX4_openAll (wsX9_isIn) := ggX4_openAll_X9_isIn
set_option maxRecDepth 20000 in
theorem ggX4_openAll_X4_openAnew : GoodIn wsX4_openAll wsX4_openAnew := goodIn_r _ [11, 1, 12, 13, 14, 15, 16, 17, 18, 19, 20, 21, 22, 23, 24, 25, 26, 27, 28, 29, 30, 31, 32, 33, 34, 35, 36, 37, 38, 39, 40, 41, 42, 43, 44, 45, 46, 47, 4, 5, 6, 48, 49, 50, 10, 51, 2, 52, 53, 54, 55, 56, 57, 58, 59, 60, 61, 62, 63, 64, 65, 66, 67, 68, 69, 70, 71, 72, 73, 74, 75, 76, 77, 78, 79, 80, 81, 82, 83, 84, 85, 86, 87, 88, 89, 90, 91, 92, 93, 94, 95, 96, 97, 98, 99, 100, 101, 102, 103, 104, 105, 106, 107, 108, 109, 110, 111, 112, 113, 114, 115] (by decide +kernel) (by decide +kernel)
set_option maxRecDepth 20000 in
theorem gX4_openAll_X4_openAnew : GoodIn wsX4_openAll (wsV RX4 28 RX4 yX4_openAnew wsX4_openAnew) := goodIn_app (goodIn_of _ (by decide +kernel)) ggX4_openAll_X4_openAnew
theorem dX4_openAll_0 : decode cX4_openAll 0 = .ok (.iconst 0, 1) := by decide +kernel
theorem dX4_openAll_1 : decode cX4_openAll 1 = .ok (.istore_n 1, 1) := by decide +kernel
theorem dX4_openAll_2 : decode cX4_openAll 2 = .ok (.iload_n 1, 1) := by decide +kernel
theorem dX4_openAll_3 : decode cX4_openAll 3 = .ok (.aload_n 0, 1) := by decide +kernel
theorem dX4_openAll_4 : decode cX4_openAll 4 = .ok (.getfield 9, 3) := by decide +kernel
theorem dX4_openAll_7 : decode cX4_openAll 7 = .ok (.getfield 15, 3) := by decide +kernel
theorem dX4_openAll_10 : decode cX4_openAll 10 = .ok (.if_icmp .ge 28, 3) := by decide +kernel
theorem dX4_openAll_13 : decode cX4_openAll 13 = .ok (.aload_n 0, 1) := by decide +kernel
theorem dX4_openAll_14 : decode cX4_openAll 14 = .ok (.getfield 9, 3) := by decide +kernel
theorem dX4_openAll_17 : decode cX4_openAll 17 = .ok (.getfield 21, 3) := by decide +kernel
theorem dX4_openAll_20 : decode cX4_openAll 20 = .ok (.iload_n 1, 1) := by decide +kernel
theorem dX4_openAll_21 : decode cX4_openAll 21 = .ok (.invokestatic 24, 3) := by decide +kernel
theorem dX4_openAll_24 : decode cX4_openAll 24 = .ok (.ifCond .eq 8, 3) := by decide +kernel
theorem dX4_openAll_27 : decode cX4_openAll 27 = .ok (.aload_n 0, 1) := by decide +kernel
theorem dX4_openAll_28 : decode cX4_openAll 28 = .ok (.iload_n 1, 1) := by decide +kernel
theorem dX4_openAll_29 : decode cX4_openAll 29 = .ok (.invokevirtual 28, 3) := by decide +kernel
theorem dX4_openAll_32 : decode cX4_openAll 32 = .ok (.iinc 1 1, 3) := by decide +kernel
theorem dX4_openAll_35 : decode cX4_openAll 35 = .ok (.goto (-33), 3) := by decide +kernel
theorem dX4_openAll_38 : decode cX4_openAll 38 = .ok (.return_, 1) := by decide +kernel
set_option maxRecDepth 20000 in
theorem ggX4_openAnew_X3_opensToNobody : GoodIn wsX4_openAnew wsX3_opensToNobody := goodIn_r _ [11, 12, 82, 83, 84, 85, 86, 87, 88, 89, 90, 91, 92, 93, 94] (by decide +kernel) (by decide +kernel)
set_option maxRecDepth 20000 in
theorem gX4_openAnew_X3_opensToNobody : GoodIn wsX4_openAnew (wsV RX4 42 RX3 yX3_opensToNobody wsX3_opensToNobody) := goodIn_app (goodIn_of _ (by decide +kernel)) ggX4_openAnew_X3_opensToNobody
set_option maxRecDepth 20000 in
theorem ggX4_openAnew_X2_wantersOf : GoodIn wsX4_openAnew wsX2_wantersOf := goodIn_r _ [17, 18, 19, 20, 21, 22, 23, 24, 10, 25, 12, 26, 27, 28, 29, 30, 31, 16, 32, 33, 34, 35, 36, 37, 38, 39, 40, 74, 75, 76, 77, 78, 79, 80, 81, 82, 83, 84, 85, 86, 87, 88, 89, 90, 91, 92, 93, 94, 105, 106, 107, 108, 109, 110, 95, 96, 97, 98, 99, 100, 101, 102, 103, 104] (by decide +kernel) (by decide +kernel)
set_option maxRecDepth 20000 in
theorem gX4_openAnew_X2_wantersOf : GoodIn wsX4_openAnew (wsV RX4 46 RX2 yX2_wantersOf wsX2_wantersOf) := goodIn_app (goodIn_of _ (by decide +kernel)) ggX4_openAnew_X2_wantersOf
set_option maxRecDepth 20000 in
theorem ggX4_openAnew_X4_latest : GoodIn wsX4_openAnew wsX4_latest := goodIn_r _ [45, 1, 46, 38, 39, 40, 47, 48, 49, 10, 50, 51, 52, 53, 54, 55, 56, 57, 58, 73, 74, 75, 76, 77, 78, 79, 80, 81, 82, 83, 84, 85, 86, 87, 88, 89, 90, 91, 92, 93, 94, 95, 96, 97, 98, 99, 100, 101, 102, 103, 104] (by decide +kernel) (by decide +kernel)
set_option maxRecDepth 20000 in
theorem gX4_openAnew_X4_latest : GoodIn wsX4_openAnew (wsV RX4 50 RX4 yX4_latest wsX4_latest) := goodIn_app (goodIn_of _ (by decide +kernel)) ggX4_openAnew_X4_latest
set_option maxRecDepth 20000 in
theorem ggX4_openAnew_X4_setOf : GoodIn wsX4_openAnew wsX4_setOf := goodIn_r _ [61] (by decide +kernel) (by decide +kernel)
set_option maxRecDepth 20000 in
theorem gX4_openAnew_X4_setOf : GoodIn wsX4_openAnew (va_wsS RX4 54 yX4_setOf wsX4_setOf) := goodIn_app (goodIn_of _ (by decide +kernel)) ggX4_openAnew_X4_setOf
set_option maxRecDepth 20000 in
theorem ggX4_openAnew_X4_nextByTurns : GoodIn wsX4_openAnew wsX4_nextByTurns := goodIn_r _ [65, 1, 46, 38, 39, 40, 73, 74, 75, 76, 77, 78, 79, 80, 81] (by decide +kernel) (by decide +kernel)
set_option maxRecDepth 20000 in
theorem gX4_openAnew_X4_nextByTurns : GoodIn wsX4_openAnew (wsV RX4 62 RX4 yX4_nextByTurns wsX4_nextByTurns) := goodIn_app (goodIn_of _ (by decide +kernel)) ggX4_openAnew_X4_nextByTurns
set_option maxRecDepth 20000 in
theorem ggX4_openAnew_X7_forgetLate : GoodIn wsX4_openAnew wsX7_forgetLate := goodIn_r _ [70, 71, 72, 95, 96, 97, 98, 99, 100, 101, 102, 103, 104] (by decide +kernel) (by decide +kernel)
set_option maxRecDepth 20000 in
theorem gX4_openAnew_X7_forgetLate : GoodIn wsX4_openAnew (wsV RX4 72 RX7 yX7_forgetLate wsX7_forgetLate) := goodIn_app (goodIn_of _ (by decide +kernel)) ggX4_openAnew_X7_forgetLate
theorem dX4_openAnew_0 : decode cX4_openAnew 0 = .ok (.aload_n 0, 1) := by decide +kernel
theorem dX4_openAnew_1 : decode cX4_openAnew 1 = .ok (.getfield 9, 3) := by decide +kernel
theorem dX4_openAnew_4 : decode cX4_openAnew 4 = .ok (.getfield 32, 3) := by decide +kernel
theorem dX4_openAnew_7 : decode cX4_openAnew 7 = .ok (.iload_n 1, 1) := by decide +kernel
theorem dX4_openAnew_8 : decode cX4_openAnew 8 = .ok (.aaload, 1) := by decide +kernel
theorem dX4_openAnew_9 : decode cX4_openAnew 9 = .ok (.astore_n 2, 1) := by decide +kernel
theorem dX4_openAnew_10 : decode cX4_openAnew 10 = .ok (.aload_n 2, 1) := by decide +kernel
theorem dX4_openAnew_11 : decode cX4_openAnew 11 = .ok (.getfield 36, 3) := by decide +kernel
theorem dX4_openAnew_14 : decode cX4_openAnew 14 = .ok (.astore_n 3, 1) := by decide +kernel
theorem dX4_openAnew_15 : decode cX4_openAnew 15 = .ok (.aload_n 2, 1) := by decide +kernel
theorem dX4_openAnew_16 : decode cX4_openAnew 16 = .ok (.invokevirtual 42, 3) := by decide +kernel
theorem dX4_openAnew_19 : decode cX4_openAnew 19 = .ok (.ifCond .eq 7, 3) := by decide +kernel
theorem dX4_openAnew_22 : decode cX4_openAnew 22 = .ok (.iconst 0, 1) := by decide +kernel
theorem dX4_openAnew_23 : decode cX4_openAnew 23 = .ok (.goto 11, 3) := by decide +kernel
theorem dX4_openAnew_26 : decode cX4_openAnew 26 = .ok (.aload_n 0, 1) := by decide +kernel
theorem dX4_openAnew_27 : decode cX4_openAnew 27 = .ok (.getfield 9, 3) := by decide +kernel
theorem dX4_openAnew_30 : decode cX4_openAnew 30 = .ok (.iload_n 1, 1) := by decide +kernel
theorem dX4_openAnew_31 : decode cX4_openAnew 31 = .ok (.invokevirtual 46, 3) := by decide +kernel
theorem dX4_openAnew_34 : decode cX4_openAnew 34 = .ok (.istore 4, 2) := by decide +kernel
theorem dX4_openAnew_36 : decode cX4_openAnew 36 = .ok (.iconst 0, 1) := by decide +kernel
theorem dX4_openAnew_37 : decode cX4_openAnew 37 = .ok (.istore 5, 2) := by decide +kernel
theorem dX4_openAnew_39 : decode cX4_openAnew 39 = .ok (.iconst 0, 1) := by decide +kernel
theorem dX4_openAnew_40 : decode cX4_openAnew 40 = .ok (.istore 6, 2) := by decide +kernel
theorem dX4_openAnew_42 : decode cX4_openAnew 42 = .ok (.iload 6, 2) := by decide +kernel
theorem dX4_openAnew_44 : decode cX4_openAnew 44 = .ok (.iconst 3, 1) := by decide +kernel
theorem dX4_openAnew_45 : decode cX4_openAnew 45 = .ok (.if_icmp .ge 29, 3) := by decide +kernel
theorem dX4_openAnew_48 : decode cX4_openAnew 48 = .ok (.iload 5, 2) := by decide +kernel
theorem dX4_openAnew_50 : decode cX4_openAnew 50 = .ok (.aload_n 0, 1) := by decide +kernel
theorem dX4_openAnew_51 : decode cX4_openAnew 51 = .ok (.aload_n 2, 1) := by decide +kernel
theorem dX4_openAnew_52 : decode cX4_openAnew 52 = .ok (.iload 4, 2) := by decide +kernel
theorem dX4_openAnew_54 : decode cX4_openAnew 54 = .ok (.iload 5, 2) := by decide +kernel
theorem dX4_openAnew_56 : decode cX4_openAnew 56 = .ok (.iconst (-1), 1) := by decide +kernel
theorem dX4_openAnew_57 : decode cX4_openAnew 57 = .ok (.ixor, 1) := by decide +kernel
theorem dX4_openAnew_58 : decode cX4_openAnew 58 = .ok (.iand, 1) := by decide +kernel
theorem dX4_openAnew_59 : decode cX4_openAnew 59 = .ok (.invokevirtual 50, 3) := by decide +kernel
theorem dX4_openAnew_62 : decode cX4_openAnew 62 = .ok (.invokestatic 54, 3) := by decide +kernel
theorem dX4_openAnew_65 : decode cX4_openAnew 65 = .ok (.ior, 1) := by decide +kernel
theorem dX4_openAnew_66 : decode cX4_openAnew 66 = .ok (.istore 5, 2) := by decide +kernel
theorem dX4_openAnew_68 : decode cX4_openAnew 68 = .ok (.iinc 6 1, 3) := by decide +kernel
theorem dX4_openAnew_71 : decode cX4_openAnew 71 = .ok (.goto (-29), 3) := by decide +kernel
theorem dX4_openAnew_74 : decode cX4_openAnew 74 = .ok (.aload_n 0, 1) := by decide +kernel
theorem dX4_openAnew_75 : decode cX4_openAnew 75 = .ok (.aload_n 3, 1) := by decide +kernel
theorem dX4_openAnew_76 : decode cX4_openAnew 76 = .ok (.getfield 57, 3) := by decide +kernel
theorem dX4_openAnew_79 : decode cX4_openAnew 79 = .ok (.iload 4, 2) := by decide +kernel
theorem dX4_openAnew_81 : decode cX4_openAnew 81 = .ok (.iload 5, 2) := by decide +kernel
theorem dX4_openAnew_83 : decode cX4_openAnew 83 = .ok (.iconst (-1), 1) := by decide +kernel
theorem dX4_openAnew_84 : decode cX4_openAnew 84 = .ok (.ixor, 1) := by decide +kernel
theorem dX4_openAnew_85 : decode cX4_openAnew 85 = .ok (.iand, 1) := by decide +kernel
theorem dX4_openAnew_86 : decode cX4_openAnew 86 = .ok (.invokevirtual 62, 3) := by decide +kernel
theorem dX4_openAnew_89 : decode cX4_openAnew 89 = .ok (.istore 6, 2) := by decide +kernel
theorem dX4_openAnew_91 : decode cX4_openAnew 91 = .ok (.iload 6, 2) := by decide +kernel
theorem dX4_openAnew_93 : decode cX4_openAnew 93 = .ok (.iconst (-1), 1) := by decide +kernel
theorem dX4_openAnew_94 : decode cX4_openAnew 94 = .ok (.if_icmp .eq 9, 3) := by decide +kernel
theorem dX4_openAnew_97 : decode cX4_openAnew 97 = .ok (.aload_n 3, 1) := by decide +kernel
theorem dX4_openAnew_98 : decode cX4_openAnew 98 = .ok (.iload 6, 2) := by decide +kernel
theorem dX4_openAnew_100 : decode cX4_openAnew 100 = .ok (.putfield 57, 3) := by decide +kernel
theorem dX4_openAnew_103 : decode cX4_openAnew 103 = .ok (.aload_n 3, 1) := by decide +kernel
theorem dX4_openAnew_104 : decode cX4_openAnew 104 = .ok (.iload 6, 2) := by decide +kernel
theorem dX4_openAnew_106 : decode cX4_openAnew 106 = .ok (.putfield 66, 3) := by decide +kernel
theorem dX4_openAnew_109 : decode cX4_openAnew 109 = .ok (.aload_n 3, 1) := by decide +kernel
theorem dX4_openAnew_110 : decode cX4_openAnew 110 = .ok (.iload 5, 2) := by decide +kernel
theorem dX4_openAnew_112 : decode cX4_openAnew 112 = .ok (.iload 6, 2) := by decide +kernel
theorem dX4_openAnew_114 : decode cX4_openAnew 114 = .ok (.invokestatic 54, 3) := by decide +kernel
theorem dX4_openAnew_117 : decode cX4_openAnew 117 = .ok (.ior, 1) := by decide +kernel
theorem dX4_openAnew_118 : decode cX4_openAnew 118 = .ok (.putfield 69, 3) := by decide +kernel
theorem dX4_openAnew_121 : decode cX4_openAnew 121 = .ok (.aload_n 3, 1) := by decide +kernel
theorem dX4_openAnew_122 : decode cX4_openAnew 122 = .ok (.invokevirtual 72, 3) := by decide +kernel
theorem dX4_openAnew_125 : decode cX4_openAnew 125 = .ok (.return_, 1) := by decide +kernel
theorem dX4_setOf_0 : decode cX4_setOf 0 = .ok (.iload_n 0, 1) := by decide +kernel
theorem dX4_setOf_1 : decode cX4_setOf 1 = .ok (.iconst (-1), 1) := by decide +kernel
theorem dX4_setOf_2 : decode cX4_setOf 2 = .ok (.if_icmp .ne 7, 3) := by decide +kernel
theorem dX4_setOf_5 : decode cX4_setOf 5 = .ok (.iconst 0, 1) := by decide +kernel
theorem dX4_setOf_6 : decode cX4_setOf 6 = .ok (.goto 6, 3) := by decide +kernel
theorem dX4_setOf_9 : decode cX4_setOf 9 = .ok (.iconst 1, 1) := by decide +kernel
theorem dX4_setOf_10 : decode cX4_setOf 10 = .ok (.iload_n 0, 1) := by decide +kernel
theorem dX4_setOf_11 : decode cX4_setOf 11 = .ok (.ishl, 1) := by decide +kernel
theorem dX4_setOf_12 : decode cX4_setOf 12 = .ok (.ireturn, 1) := by decide +kernel
set_option maxRecDepth 20000 in
theorem ggX4_latest_X9_isIn : GoodIn wsX4_latest wsX9_isIn := goodIn_r _ [5] (by decide +kernel) (by decide +kernel)
set_option maxRecDepth 20000 in
theorem gX4_latest_X9_isIn_n24 : GoodIn wsX4_latest (wsX9_isIn) := ggX4_latest_X9_isIn
set_option maxRecDepth 20000 in
theorem ggX4_latest_X3_lateNumberOf : GoodIn wsX4_latest wsX3_lateNumberOf := goodIn_r _ [10, 11, 12, 13, 14, 15, 16, 9, 17, 18, 28, 29, 30, 31, 32, 33, 34, 35, 36, 37, 38, 39, 40, 41, 42, 43, 44, 45, 46, 47, 48, 49, 50] (by decide +kernel) (by decide +kernel)
set_option maxRecDepth 20000 in
theorem gX4_latest_X3_lateNumberOf : GoodIn wsX4_latest (wsV RX4 75 RX3 yX3_lateNumberOf wsX3_lateNumberOf) := goodIn_app (goodIn_of _ (by decide +kernel)) ggX4_latest_X3_lateNumberOf
theorem dX4_latest_0 : decode cX4_latest 0 = .ok (.iconst (-1), 1) := by decide +kernel
theorem dX4_latest_1 : decode cX4_latest 1 = .ok (.istore_n 3, 1) := by decide +kernel
theorem dX4_latest_2 : decode cX4_latest 2 = .ok (.iconst 0, 1) := by decide +kernel
theorem dX4_latest_3 : decode cX4_latest 3 = .ok (.istore 4, 2) := by decide +kernel
theorem dX4_latest_5 : decode cX4_latest 5 = .ok (.iload 4, 2) := by decide +kernel
theorem dX4_latest_7 : decode cX4_latest 7 = .ok (.aload_n 0, 1) := by decide +kernel
theorem dX4_latest_8 : decode cX4_latest 8 = .ok (.getfield 9, 3) := by decide +kernel
theorem dX4_latest_11 : decode cX4_latest 11 = .ok (.getfield 15, 3) := by decide +kernel
theorem dX4_latest_14 : decode cX4_latest 14 = .ok (.if_icmp .ge 40, 3) := by decide +kernel
theorem dX4_latest_17 : decode cX4_latest 17 = .ok (.iload_n 2, 1) := by decide +kernel
theorem dX4_latest_18 : decode cX4_latest 18 = .ok (.iload 4, 2) := by decide +kernel
theorem dX4_latest_20 : decode cX4_latest 20 = .ok (.invokestatic 24, 3) := by decide +kernel
theorem dX4_latest_23 : decode cX4_latest 23 = .ok (.ifCond .eq 25, 3) := by decide +kernel
theorem dX4_latest_26 : decode cX4_latest 26 = .ok (.iload_n 3, 1) := by decide +kernel
theorem dX4_latest_27 : decode cX4_latest 27 = .ok (.iconst (-1), 1) := by decide +kernel
theorem dX4_latest_28 : decode cX4_latest 28 = .ok (.if_icmp .eq 17, 3) := by decide +kernel
theorem dX4_latest_31 : decode cX4_latest 31 = .ok (.aload_n 1, 1) := by decide +kernel
theorem dX4_latest_32 : decode cX4_latest 32 = .ok (.iload 4, 2) := by decide +kernel
theorem dX4_latest_34 : decode cX4_latest 34 = .ok (.invokevirtual 75, 3) := by decide +kernel
theorem dX4_latest_37 : decode cX4_latest 37 = .ok (.aload_n 1, 1) := by decide +kernel
theorem dX4_latest_38 : decode cX4_latest 38 = .ok (.iload_n 3, 1) := by decide +kernel
theorem dX4_latest_39 : decode cX4_latest 39 = .ok (.invokevirtual 75, 3) := by decide +kernel
theorem dX4_latest_42 : decode cX4_latest 42 = .ok (.if_icmp .le 6, 3) := by decide +kernel
theorem dX4_latest_45 : decode cX4_latest 45 = .ok (.iload 4, 2) := by decide +kernel
theorem dX4_latest_47 : decode cX4_latest 47 = .ok (.istore_n 3, 1) := by decide +kernel
theorem dX4_latest_48 : decode cX4_latest 48 = .ok (.iinc 4 1, 3) := by decide +kernel
theorem dX4_latest_51 : decode cX4_latest 51 = .ok (.goto (-46), 3) := by decide +kernel
theorem dX4_latest_54 : decode cX4_latest 54 = .ok (.iload_n 3, 1) := by decide +kernel
theorem dX4_latest_55 : decode cX4_latest 55 = .ok (.ireturn, 1) := by decide +kernel
set_option maxRecDepth 20000 in
theorem ggX4_nextByTurns_X9_isIn : GoodIn wsX4_nextByTurns wsX9_isIn := goodIn_r _ [5] (by decide +kernel) (by decide +kernel)
set_option maxRecDepth 20000 in
theorem gX4_nextByTurns_X9_isIn_n24 : GoodIn wsX4_nextByTurns (wsX9_isIn) := ggX4_nextByTurns_X9_isIn
theorem dX4_nextByTurns_0 : decode cX4_nextByTurns 0 = .ok (.iconst (-1), 1) := by decide +kernel
theorem dX4_nextByTurns_1 : decode cX4_nextByTurns 1 = .ok (.istore_n 3, 1) := by decide +kernel
theorem dX4_nextByTurns_2 : decode cX4_nextByTurns 2 = .ok (.iconst 0, 1) := by decide +kernel
theorem dX4_nextByTurns_3 : decode cX4_nextByTurns 3 = .ok (.istore 4, 2) := by decide +kernel
theorem dX4_nextByTurns_5 : decode cX4_nextByTurns 5 = .ok (.iload 4, 2) := by decide +kernel
theorem dX4_nextByTurns_7 : decode cX4_nextByTurns 7 = .ok (.aload_n 0, 1) := by decide +kernel
theorem dX4_nextByTurns_8 : decode cX4_nextByTurns 8 = .ok (.getfield 9, 3) := by decide +kernel
theorem dX4_nextByTurns_11 : decode cX4_nextByTurns 11 = .ok (.getfield 15, 3) := by decide +kernel
theorem dX4_nextByTurns_14 : decode cX4_nextByTurns 14 = .ok (.if_icmp .ge 38, 3) := by decide +kernel
theorem dX4_nextByTurns_17 : decode cX4_nextByTurns 17 = .ok (.iload_n 2, 1) := by decide +kernel
theorem dX4_nextByTurns_18 : decode cX4_nextByTurns 18 = .ok (.iload 4, 2) := by decide +kernel
theorem dX4_nextByTurns_20 : decode cX4_nextByTurns 20 = .ok (.invokestatic 24, 3) := by decide +kernel
theorem dX4_nextByTurns_23 : decode cX4_nextByTurns 23 = .ok (.ifCond .ne 6, 3) := by decide +kernel
theorem dX4_nextByTurns_26 : decode cX4_nextByTurns 26 = .ok (.goto 20, 3) := by decide +kernel
theorem dX4_nextByTurns_29 : decode cX4_nextByTurns 29 = .ok (.iload 4, 2) := by decide +kernel
theorem dX4_nextByTurns_31 : decode cX4_nextByTurns 31 = .ok (.iload_n 1, 1) := by decide +kernel
theorem dX4_nextByTurns_32 : decode cX4_nextByTurns 32 = .ok (.if_icmp .le 6, 3) := by decide +kernel
theorem dX4_nextByTurns_35 : decode cX4_nextByTurns 35 = .ok (.iload 4, 2) := by decide +kernel
theorem dX4_nextByTurns_37 : decode cX4_nextByTurns 37 = .ok (.ireturn, 1) := by decide +kernel
theorem dX4_nextByTurns_38 : decode cX4_nextByTurns 38 = .ok (.iload_n 3, 1) := by decide +kernel
theorem dX4_nextByTurns_39 : decode cX4_nextByTurns 39 = .ok (.iconst (-1), 1) := by decide +kernel
theorem dX4_nextByTurns_40 : decode cX4_nextByTurns 40 = .ok (.if_icmp .ne 6, 3) := by decide +kernel
theorem dX4_nextByTurns_43 : decode cX4_nextByTurns 43 = .ok (.iload 4, 2) := by decide +kernel
theorem dX4_nextByTurns_45 : decode cX4_nextByTurns 45 = .ok (.istore_n 3, 1) := by decide +kernel
theorem dX4_nextByTurns_46 : decode cX4_nextByTurns 46 = .ok (.iinc 4 1, 3) := by decide +kernel
theorem dX4_nextByTurns_49 : decode cX4_nextByTurns 49 = .ok (.goto (-44), 3) := by decide +kernel
theorem dX4_nextByTurns_52 : decode cX4_nextByTurns 52 = .ok (.iload_n 3, 1) := by decide +kernel
theorem dX4_nextByTurns_53 : decode cX4_nextByTurns 53 = .ok (.ireturn, 1) := by decide +kernel
theorem dX5_init_0 : decode cX5_init 0 = .ok (.aload_n 0, 1) := by decide +kernel
theorem dX5_init_1 : decode cX5_init 1 = .ok (.invokespecial 3, 3) := by decide +kernel
theorem dX5_init_4 : decode cX5_init 4 = .ok (.aload_n 0, 1) := by decide +kernel
theorem dX5_init_5 : decode cX5_init 5 = .ok (.sipush 192, 3) := by decide +kernel
theorem dX5_init_8 : decode cX5_init 8 = .ok (.newarray .int, 2) := by decide +kernel
theorem dX5_init_10 : decode cX5_init 10 = .ok (.putfield 11, 3) := by decide +kernel
theorem dX5_init_13 : decode cX5_init 13 = .ok (.aload_n 0, 1) := by decide +kernel
theorem dX5_init_14 : decode cX5_init 14 = .ok (.sipush 192, 3) := by decide +kernel
theorem dX5_init_17 : decode cX5_init 17 = .ok (.newarray .int, 2) := by decide +kernel
theorem dX5_init_19 : decode cX5_init 19 = .ok (.putfield 15, 3) := by decide +kernel
theorem dX5_init_22 : decode cX5_init 22 = .ok (.aload_n 0, 1) := by decide +kernel
theorem dX5_init_23 : decode cX5_init 23 = .ok (.sipush 192, 3) := by decide +kernel
theorem dX5_init_26 : decode cX5_init 26 = .ok (.newarray .int, 2) := by decide +kernel
theorem dX5_init_28 : decode cX5_init 28 = .ok (.putfield 18, 3) := by decide +kernel
theorem dX5_init_31 : decode cX5_init 31 = .ok (.aload_n 0, 1) := by decide +kernel
theorem dX5_init_32 : decode cX5_init 32 = .ok (.sipush 192, 3) := by decide +kernel
theorem dX5_init_35 : decode cX5_init 35 = .ok (.newarray .int, 2) := by decide +kernel
theorem dX5_init_37 : decode cX5_init 37 = .ok (.putfield 21, 3) := by decide +kernel
theorem dX5_init_40 : decode cX5_init 40 = .ok (.aload_n 0, 1) := by decide +kernel
theorem dX5_init_41 : decode cX5_init 41 = .ok (.sipush 192, 3) := by decide +kernel
theorem dX5_init_44 : decode cX5_init 44 = .ok (.newarray .int, 2) := by decide +kernel
theorem dX5_init_46 : decode cX5_init 46 = .ok (.putfield 24, 3) := by decide +kernel
theorem dX5_init_49 : decode cX5_init 49 = .ok (.aload_n 0, 1) := by decide +kernel
theorem dX5_init_50 : decode cX5_init 50 = .ok (.sipush 192, 3) := by decide +kernel
theorem dX5_init_53 : decode cX5_init 53 = .ok (.newarray .int, 2) := by decide +kernel
theorem dX5_init_55 : decode cX5_init 55 = .ok (.putfield 27, 3) := by decide +kernel
theorem dX5_init_58 : decode cX5_init 58 = .ok (.return_, 1) := by decide +kernel
theorem dX5_hasRoom_0 : decode cX5_hasRoom 0 = .ok (.aload_n 0, 1) := by decide +kernel
theorem dX5_hasRoom_1 : decode cX5_hasRoom 1 = .ok (.getfield 30, 3) := by decide +kernel
theorem dX5_hasRoom_4 : decode cX5_hasRoom 4 = .ok (.sipush 192, 3) := by decide +kernel
theorem dX5_hasRoom_7 : decode cX5_hasRoom 7 = .ok (.if_icmp .ge 7, 3) := by decide +kernel
theorem dX5_hasRoom_10 : decode cX5_hasRoom 10 = .ok (.iconst 1, 1) := by decide +kernel
theorem dX5_hasRoom_11 : decode cX5_hasRoom 11 = .ok (.goto 4, 3) := by decide +kernel
theorem dX5_hasRoom_14 : decode cX5_hasRoom 14 = .ok (.iconst 0, 1) := by decide +kernel
theorem dX5_hasRoom_15 : decode cX5_hasRoom 15 = .ok (.ireturn, 1) := by decide +kernel
set_option maxRecDepth 20000 in
theorem ggX5_add_X5_hasRoom : GoodIn wsX5_add wsX5_hasRoom := goodIn_r _ [12, 2, 13, 14, 15, 16, 17, 18, 19] (by decide +kernel) (by decide +kernel)
set_option maxRecDepth 20000 in
theorem gX5_add_X5_hasRoom : GoodIn wsX5_add (wsV RX5 34 RX5 yX5_hasRoom wsX5_hasRoom) := goodIn_app (goodIn_of _ (by decide +kernel)) ggX5_add_X5_hasRoom
theorem dX5_add_0 : decode cX5_add 0 = .ok (.aload_n 0, 1) := by decide +kernel
theorem dX5_add_1 : decode cX5_add 1 = .ok (.invokevirtual 34, 3) := by decide +kernel
theorem dX5_add_4 : decode cX5_add 4 = .ok (.ifCond .ne 4, 3) := by decide +kernel
theorem dX5_add_7 : decode cX5_add 7 = .ok (.return_, 1) := by decide +kernel
theorem dX5_add_8 : decode cX5_add 8 = .ok (.aload_n 0, 1) := by decide +kernel
theorem dX5_add_9 : decode cX5_add 9 = .ok (.getfield 11, 3) := by decide +kernel
theorem dX5_add_12 : decode cX5_add 12 = .ok (.aload_n 0, 1) := by decide +kernel
theorem dX5_add_13 : decode cX5_add 13 = .ok (.getfield 30, 3) := by decide +kernel
theorem dX5_add_16 : decode cX5_add 16 = .ok (.iload_n 1, 1) := by decide +kernel
theorem dX5_add_17 : decode cX5_add 17 = .ok (.iastore, 1) := by decide +kernel
theorem dX5_add_18 : decode cX5_add 18 = .ok (.aload_n 0, 1) := by decide +kernel
theorem dX5_add_19 : decode cX5_add 19 = .ok (.getfield 15, 3) := by decide +kernel
theorem dX5_add_22 : decode cX5_add 22 = .ok (.aload_n 0, 1) := by decide +kernel
theorem dX5_add_23 : decode cX5_add 23 = .ok (.getfield 30, 3) := by decide +kernel
theorem dX5_add_26 : decode cX5_add 26 = .ok (.iload_n 2, 1) := by decide +kernel
theorem dX5_add_27 : decode cX5_add 27 = .ok (.iastore, 1) := by decide +kernel
theorem dX5_add_28 : decode cX5_add 28 = .ok (.aload_n 0, 1) := by decide +kernel
theorem dX5_add_29 : decode cX5_add 29 = .ok (.getfield 18, 3) := by decide +kernel
theorem dX5_add_32 : decode cX5_add 32 = .ok (.aload_n 0, 1) := by decide +kernel
theorem dX5_add_33 : decode cX5_add 33 = .ok (.getfield 30, 3) := by decide +kernel
theorem dX5_add_36 : decode cX5_add 36 = .ok (.iload_n 3, 1) := by decide +kernel
theorem dX5_add_37 : decode cX5_add 37 = .ok (.iastore, 1) := by decide +kernel
theorem dX5_add_38 : decode cX5_add 38 = .ok (.aload_n 0, 1) := by decide +kernel
theorem dX5_add_39 : decode cX5_add 39 = .ok (.getfield 21, 3) := by decide +kernel
theorem dX5_add_42 : decode cX5_add 42 = .ok (.aload_n 0, 1) := by decide +kernel
theorem dX5_add_43 : decode cX5_add 43 = .ok (.getfield 30, 3) := by decide +kernel
theorem dX5_add_46 : decode cX5_add 46 = .ok (.iload 4, 2) := by decide +kernel
theorem dX5_add_48 : decode cX5_add 48 = .ok (.iastore, 1) := by decide +kernel
theorem dX5_add_49 : decode cX5_add 49 = .ok (.aload_n 0, 1) := by decide +kernel
theorem dX5_add_50 : decode cX5_add 50 = .ok (.getfield 24, 3) := by decide +kernel
theorem dX5_add_53 : decode cX5_add 53 = .ok (.aload_n 0, 1) := by decide +kernel
theorem dX5_add_54 : decode cX5_add 54 = .ok (.getfield 30, 3) := by decide +kernel
theorem dX5_add_57 : decode cX5_add 57 = .ok (.iload 5, 2) := by decide +kernel
theorem dX5_add_59 : decode cX5_add 59 = .ok (.iastore, 1) := by decide +kernel
theorem dX5_add_60 : decode cX5_add 60 = .ok (.aload_n 0, 1) := by decide +kernel
theorem dX5_add_61 : decode cX5_add 61 = .ok (.getfield 27, 3) := by decide +kernel
theorem dX5_add_64 : decode cX5_add 64 = .ok (.aload_n 0, 1) := by decide +kernel
theorem dX5_add_65 : decode cX5_add 65 = .ok (.getfield 30, 3) := by decide +kernel
theorem dX5_add_68 : decode cX5_add 68 = .ok (.iload 6, 2) := by decide +kernel
theorem dX5_add_70 : decode cX5_add 70 = .ok (.iastore, 1) := by decide +kernel
theorem dX5_add_71 : decode cX5_add 71 = .ok (.aload_n 0, 1) := by decide +kernel
theorem dX5_add_72 : decode cX5_add 72 = .ok (.dup, 1) := by decide +kernel
theorem dX5_add_73 : decode cX5_add 73 = .ok (.getfield 30, 3) := by decide +kernel
theorem dX5_add_76 : decode cX5_add 76 = .ok (.iconst 1, 1) := by decide +kernel
theorem dX5_add_77 : decode cX5_add 77 = .ok (.iadd, 1) := by decide +kernel
theorem dX5_add_78 : decode cX5_add 78 = .ok (.putfield 30, 3) := by decide +kernel
theorem dX5_add_81 : decode cX5_add 81 = .ok (.return_, 1) := by decide +kernel
theorem dX5_move_0 : decode cX5_move 0 = .ok (.aload_n 0, 1) := by decide +kernel
theorem dX5_move_1 : decode cX5_move 1 = .ok (.getfield 11, 3) := by decide +kernel
theorem dX5_move_4 : decode cX5_move 4 = .ok (.iload_n 2, 1) := by decide +kernel
theorem dX5_move_5 : decode cX5_move 5 = .ok (.aload_n 0, 1) := by decide +kernel
theorem dX5_move_6 : decode cX5_move 6 = .ok (.getfield 11, 3) := by decide +kernel
theorem dX5_move_9 : decode cX5_move 9 = .ok (.iload_n 1, 1) := by decide +kernel
theorem dX5_move_10 : decode cX5_move 10 = .ok (.iaload, 1) := by decide +kernel
theorem dX5_move_11 : decode cX5_move 11 = .ok (.iastore, 1) := by decide +kernel
theorem dX5_move_12 : decode cX5_move 12 = .ok (.aload_n 0, 1) := by decide +kernel
theorem dX5_move_13 : decode cX5_move 13 = .ok (.getfield 15, 3) := by decide +kernel
theorem dX5_move_16 : decode cX5_move 16 = .ok (.iload_n 2, 1) := by decide +kernel
theorem dX5_move_17 : decode cX5_move 17 = .ok (.aload_n 0, 1) := by decide +kernel
theorem dX5_move_18 : decode cX5_move 18 = .ok (.getfield 15, 3) := by decide +kernel
theorem dX5_move_21 : decode cX5_move 21 = .ok (.iload_n 1, 1) := by decide +kernel
theorem dX5_move_22 : decode cX5_move 22 = .ok (.iaload, 1) := by decide +kernel
theorem dX5_move_23 : decode cX5_move 23 = .ok (.iastore, 1) := by decide +kernel
theorem dX5_move_24 : decode cX5_move 24 = .ok (.aload_n 0, 1) := by decide +kernel
theorem dX5_move_25 : decode cX5_move 25 = .ok (.getfield 18, 3) := by decide +kernel
theorem dX5_move_28 : decode cX5_move 28 = .ok (.iload_n 2, 1) := by decide +kernel
theorem dX5_move_29 : decode cX5_move 29 = .ok (.aload_n 0, 1) := by decide +kernel
theorem dX5_move_30 : decode cX5_move 30 = .ok (.getfield 18, 3) := by decide +kernel
theorem dX5_move_33 : decode cX5_move 33 = .ok (.iload_n 1, 1) := by decide +kernel
theorem dX5_move_34 : decode cX5_move 34 = .ok (.iaload, 1) := by decide +kernel
theorem dX5_move_35 : decode cX5_move 35 = .ok (.iastore, 1) := by decide +kernel
theorem dX5_move_36 : decode cX5_move 36 = .ok (.aload_n 0, 1) := by decide +kernel
theorem dX5_move_37 : decode cX5_move 37 = .ok (.getfield 21, 3) := by decide +kernel
theorem dX5_move_40 : decode cX5_move 40 = .ok (.iload_n 2, 1) := by decide +kernel
theorem dX5_move_41 : decode cX5_move 41 = .ok (.aload_n 0, 1) := by decide +kernel
theorem dX5_move_42 : decode cX5_move 42 = .ok (.getfield 21, 3) := by decide +kernel
theorem dX5_move_45 : decode cX5_move 45 = .ok (.iload_n 1, 1) := by decide +kernel
theorem dX5_move_46 : decode cX5_move 46 = .ok (.iaload, 1) := by decide +kernel
theorem dX5_move_47 : decode cX5_move 47 = .ok (.iastore, 1) := by decide +kernel
theorem dX5_move_48 : decode cX5_move 48 = .ok (.aload_n 0, 1) := by decide +kernel
theorem dX5_move_49 : decode cX5_move 49 = .ok (.getfield 24, 3) := by decide +kernel
theorem dX5_move_52 : decode cX5_move 52 = .ok (.iload_n 2, 1) := by decide +kernel
theorem dX5_move_53 : decode cX5_move 53 = .ok (.aload_n 0, 1) := by decide +kernel
theorem dX5_move_54 : decode cX5_move 54 = .ok (.getfield 24, 3) := by decide +kernel
theorem dX5_move_57 : decode cX5_move 57 = .ok (.iload_n 1, 1) := by decide +kernel
theorem dX5_move_58 : decode cX5_move 58 = .ok (.iaload, 1) := by decide +kernel
theorem dX5_move_59 : decode cX5_move 59 = .ok (.iastore, 1) := by decide +kernel
theorem dX5_move_60 : decode cX5_move 60 = .ok (.aload_n 0, 1) := by decide +kernel
theorem dX5_move_61 : decode cX5_move 61 = .ok (.getfield 27, 3) := by decide +kernel
theorem dX5_move_64 : decode cX5_move 64 = .ok (.iload_n 2, 1) := by decide +kernel
theorem dX5_move_65 : decode cX5_move 65 = .ok (.aload_n 0, 1) := by decide +kernel
theorem dX5_move_66 : decode cX5_move 66 = .ok (.getfield 27, 3) := by decide +kernel
theorem dX5_move_69 : decode cX5_move 69 = .ok (.iload_n 1, 1) := by decide +kernel
theorem dX5_move_70 : decode cX5_move 70 = .ok (.iaload, 1) := by decide +kernel
theorem dX5_move_71 : decode cX5_move 71 = .ok (.iastore, 1) := by decide +kernel
theorem dX5_move_72 : decode cX5_move 72 = .ok (.return_, 1) := by decide +kernel
theorem dX5_firstGiver_0 : decode cX5_firstGiver 0 = .ok (.iconst 0, 1) := by decide +kernel
theorem dX5_firstGiver_1 : decode cX5_firstGiver 1 = .ok (.istore_n 3, 1) := by decide +kernel
theorem dX5_firstGiver_2 : decode cX5_firstGiver 2 = .ok (.iload_n 3, 1) := by decide +kernel
theorem dX5_firstGiver_3 : decode cX5_firstGiver 3 = .ok (.aload_n 0, 1) := by decide +kernel
theorem dX5_firstGiver_4 : decode cX5_firstGiver 4 = .ok (.getfield 30, 3) := by decide +kernel
theorem dX5_firstGiver_7 : decode cX5_firstGiver 7 = .ok (.if_icmp .ge 36, 3) := by decide +kernel
theorem dX5_firstGiver_10 : decode cX5_firstGiver 10 = .ok (.aload_n 0, 1) := by decide +kernel
theorem dX5_firstGiver_11 : decode cX5_firstGiver 11 = .ok (.getfield 15, 3) := by decide +kernel
theorem dX5_firstGiver_14 : decode cX5_firstGiver 14 = .ok (.iload_n 3, 1) := by decide +kernel
theorem dX5_firstGiver_15 : decode cX5_firstGiver 15 = .ok (.iaload, 1) := by decide +kernel
theorem dX5_firstGiver_16 : decode cX5_firstGiver 16 = .ok (.iload_n 1, 1) := by decide +kernel
theorem dX5_firstGiver_17 : decode cX5_firstGiver 17 = .ok (.if_icmp .ne 20, 3) := by decide +kernel
theorem dX5_firstGiver_20 : decode cX5_firstGiver 20 = .ok (.aload_n 0, 1) := by decide +kernel
theorem dX5_firstGiver_21 : decode cX5_firstGiver 21 = .ok (.getfield 18, 3) := by decide +kernel
theorem dX5_firstGiver_24 : decode cX5_firstGiver 24 = .ok (.iload_n 3, 1) := by decide +kernel
theorem dX5_firstGiver_25 : decode cX5_firstGiver 25 = .ok (.iaload, 1) := by decide +kernel
theorem dX5_firstGiver_26 : decode cX5_firstGiver 26 = .ok (.iload_n 2, 1) := by decide +kernel
theorem dX5_firstGiver_27 : decode cX5_firstGiver 27 = .ok (.if_icmp .ne 10, 3) := by decide +kernel
theorem dX5_firstGiver_30 : decode cX5_firstGiver 30 = .ok (.aload_n 0, 1) := by decide +kernel
theorem dX5_firstGiver_31 : decode cX5_firstGiver 31 = .ok (.getfield 11, 3) := by decide +kernel
theorem dX5_firstGiver_34 : decode cX5_firstGiver 34 = .ok (.iload_n 3, 1) := by decide +kernel
theorem dX5_firstGiver_35 : decode cX5_firstGiver 35 = .ok (.iaload, 1) := by decide +kernel
theorem dX5_firstGiver_36 : decode cX5_firstGiver 36 = .ok (.ireturn, 1) := by decide +kernel
theorem dX5_firstGiver_37 : decode cX5_firstGiver 37 = .ok (.iinc 3 1, 3) := by decide +kernel
theorem dX5_firstGiver_40 : decode cX5_firstGiver 40 = .ok (.goto (-38), 3) := by decide +kernel
theorem dX5_firstGiver_43 : decode cX5_firstGiver 43 = .ok (.iconst (-1), 1) := by decide +kernel
theorem dX5_firstGiver_44 : decode cX5_firstGiver 44 = .ok (.ireturn, 1) := by decide +kernel
theorem dX5_firstGiverOf_0 : decode cX5_firstGiverOf 0 = .ok (.iconst 0, 1) := by decide +kernel
theorem dX5_firstGiverOf_1 : decode cX5_firstGiverOf 1 = .ok (.istore 4, 2) := by decide +kernel
theorem dX5_firstGiverOf_3 : decode cX5_firstGiverOf 3 = .ok (.iload 4, 2) := by decide +kernel
theorem dX5_firstGiverOf_5 : decode cX5_firstGiverOf 5 = .ok (.aload_n 0, 1) := by decide +kernel
theorem dX5_firstGiverOf_6 : decode cX5_firstGiverOf 6 = .ok (.getfield 30, 3) := by decide +kernel
theorem dX5_firstGiverOf_9 : decode cX5_firstGiverOf 9 = .ok (.if_icmp .ge 50, 3) := by decide +kernel
theorem dX5_firstGiverOf_12 : decode cX5_firstGiverOf 12 = .ok (.aload_n 0, 1) := by decide +kernel
theorem dX5_firstGiverOf_13 : decode cX5_firstGiverOf 13 = .ok (.getfield 15, 3) := by decide +kernel
theorem dX5_firstGiverOf_16 : decode cX5_firstGiverOf 16 = .ok (.iload 4, 2) := by decide +kernel
theorem dX5_firstGiverOf_18 : decode cX5_firstGiverOf 18 = .ok (.iaload, 1) := by decide +kernel
theorem dX5_firstGiverOf_19 : decode cX5_firstGiverOf 19 = .ok (.iload_n 1, 1) := by decide +kernel
theorem dX5_firstGiverOf_20 : decode cX5_firstGiverOf 20 = .ok (.if_icmp .ne 33, 3) := by decide +kernel
theorem dX5_firstGiverOf_23 : decode cX5_firstGiverOf 23 = .ok (.aload_n 0, 1) := by decide +kernel
theorem dX5_firstGiverOf_24 : decode cX5_firstGiverOf 24 = .ok (.getfield 18, 3) := by decide +kernel
theorem dX5_firstGiverOf_27 : decode cX5_firstGiverOf 27 = .ok (.iload 4, 2) := by decide +kernel
theorem dX5_firstGiverOf_29 : decode cX5_firstGiverOf 29 = .ok (.iaload, 1) := by decide +kernel
theorem dX5_firstGiverOf_30 : decode cX5_firstGiverOf 30 = .ok (.iload_n 2, 1) := by decide +kernel
theorem dX5_firstGiverOf_31 : decode cX5_firstGiverOf 31 = .ok (.if_icmp .ne 22, 3) := by decide +kernel
theorem dX5_firstGiverOf_34 : decode cX5_firstGiverOf 34 = .ok (.aload_n 0, 1) := by decide +kernel
theorem dX5_firstGiverOf_35 : decode cX5_firstGiverOf 35 = .ok (.getfield 21, 3) := by decide +kernel
theorem dX5_firstGiverOf_38 : decode cX5_firstGiverOf 38 = .ok (.iload 4, 2) := by decide +kernel
theorem dX5_firstGiverOf_40 : decode cX5_firstGiverOf 40 = .ok (.iaload, 1) := by decide +kernel
theorem dX5_firstGiverOf_41 : decode cX5_firstGiverOf 41 = .ok (.iload_n 3, 1) := by decide +kernel
theorem dX5_firstGiverOf_42 : decode cX5_firstGiverOf 42 = .ok (.if_icmp .ne 11, 3) := by decide +kernel
theorem dX5_firstGiverOf_45 : decode cX5_firstGiverOf 45 = .ok (.aload_n 0, 1) := by decide +kernel
theorem dX5_firstGiverOf_46 : decode cX5_firstGiverOf 46 = .ok (.getfield 11, 3) := by decide +kernel
theorem dX5_firstGiverOf_49 : decode cX5_firstGiverOf 49 = .ok (.iload 4, 2) := by decide +kernel
theorem dX5_firstGiverOf_51 : decode cX5_firstGiverOf 51 = .ok (.iaload, 1) := by decide +kernel
theorem dX5_firstGiverOf_52 : decode cX5_firstGiverOf 52 = .ok (.ireturn, 1) := by decide +kernel
theorem dX5_firstGiverOf_53 : decode cX5_firstGiverOf 53 = .ok (.iinc 4 1, 3) := by decide +kernel
theorem dX5_firstGiverOf_56 : decode cX5_firstGiverOf 56 = .ok (.goto (-53), 3) := by decide +kernel
theorem dX5_firstGiverOf_59 : decode cX5_firstGiverOf 59 = .ok (.iconst (-1), 1) := by decide +kernel
theorem dX5_firstGiverOf_60 : decode cX5_firstGiverOf 60 = .ok (.ireturn, 1) := by decide +kernel
theorem dX6_init_0 : decode cX6_init 0 = .ok (.aload_n 0, 1) := by decide +kernel
theorem dX6_init_1 : decode cX6_init 1 = .ok (.invokespecial 3, 3) := by decide +kernel
theorem dX6_init_4 : decode cX6_init 4 = .ok (.aload_n 0, 1) := by decide +kernel
theorem dX6_init_5 : decode cX6_init 5 = .ok (.bipush 96, 2) := by decide +kernel
theorem dX6_init_7 : decode cX6_init 7 = .ok (.newarray .int, 2) := by decide +kernel
theorem dX6_init_9 : decode cX6_init 9 = .ok (.putfield 9, 3) := by decide +kernel
theorem dX6_init_12 : decode cX6_init 12 = .ok (.aload_n 0, 1) := by decide +kernel
theorem dX6_init_13 : decode cX6_init 13 = .ok (.bipush 96, 2) := by decide +kernel
theorem dX6_init_15 : decode cX6_init 15 = .ok (.newarray .int, 2) := by decide +kernel
theorem dX6_init_17 : decode cX6_init 17 = .ok (.putfield 15, 3) := by decide +kernel
theorem dX6_init_20 : decode cX6_init 20 = .ok (.aload_n 0, 1) := by decide +kernel
theorem dX6_init_21 : decode cX6_init 21 = .ok (.bipush 96, 2) := by decide +kernel
theorem dX6_init_23 : decode cX6_init 23 = .ok (.newarray .int, 2) := by decide +kernel
theorem dX6_init_25 : decode cX6_init 25 = .ok (.putfield 18, 3) := by decide +kernel
theorem dX6_init_28 : decode cX6_init 28 = .ok (.iconst 0, 1) := by decide +kernel
theorem dX6_init_29 : decode cX6_init 29 = .ok (.istore_n 1, 1) := by decide +kernel
theorem dX6_init_30 : decode cX6_init 30 = .ok (.iload_n 1, 1) := by decide +kernel
theorem dX6_init_31 : decode cX6_init 31 = .ok (.aload_n 0, 1) := by decide +kernel
theorem dX6_init_32 : decode cX6_init 32 = .ok (.getfield 9, 3) := by decide +kernel
theorem dX6_init_35 : decode cX6_init 35 = .ok (.arraylength, 1) := by decide +kernel
theorem dX6_init_36 : decode cX6_init 36 = .ok (.if_icmp .ge 16, 3) := by decide +kernel
theorem dX6_init_39 : decode cX6_init 39 = .ok (.aload_n 0, 1) := by decide +kernel
theorem dX6_init_40 : decode cX6_init 40 = .ok (.getfield 9, 3) := by decide +kernel
theorem dX6_init_43 : decode cX6_init 43 = .ok (.iload_n 1, 1) := by decide +kernel
theorem dX6_init_44 : decode cX6_init 44 = .ok (.iconst (-1), 1) := by decide +kernel
theorem dX6_init_45 : decode cX6_init 45 = .ok (.iastore, 1) := by decide +kernel
theorem dX6_init_46 : decode cX6_init 46 = .ok (.iinc 1 1, 3) := by decide +kernel
theorem dX6_init_49 : decode cX6_init 49 = .ok (.goto (-19), 3) := by decide +kernel
theorem dX6_init_52 : decode cX6_init 52 = .ok (.return_, 1) := by decide +kernel
set_option maxRecDepth 20000 in
theorem ggX6_fillFrom_X9_place : GoodIn wsX6_fillFrom wsX9_place := goodIn_r _ [7] (by decide +kernel) (by decide +kernel)
set_option maxRecDepth 20000 in
theorem gX6_fillFrom_X9_place_n30 : GoodIn wsX6_fillFrom (wsX9_place) := ggX6_fillFrom_X9_place
set_option maxRecDepth 20000 in
theorem ggX6_fillFrom_X8_valueOf : GoodIn wsX6_fillFrom wsX8_valueOf := goodIn_r _ [12, 13, 14, 20, 21, 22] (by decide +kernel) (by decide +kernel)
set_option maxRecDepth 20000 in
theorem gX6_fillFrom_X8_valueOf : GoodIn wsX6_fillFrom (wsV RX6 34 RX8 yX8_valueOf wsX8_valueOf) := goodIn_app (goodIn_of _ (by decide +kernel)) ggX6_fillFrom_X8_valueOf
set_option maxRecDepth 20000 in
theorem ggX6_fillFrom_X8_allPieces : GoodIn wsX6_fillFrom wsX8_allPieces := goodIn_r _ [18, 19, 20, 21, 22] (by decide +kernel) (by decide +kernel)
set_option maxRecDepth 20000 in
theorem gX6_fillFrom_X8_allPieces : GoodIn wsX6_fillFrom (wsV RX6 37 RX8 yX8_allPieces wsX8_allPieces) := goodIn_app (goodIn_of _ (by decide +kernel)) ggX6_fillFrom_X8_allPieces
theorem dX6_fillFrom_0 : decode cX6_fillFrom 0 = .ok (.iconst 0, 1) := by decide +kernel
theorem dX6_fillFrom_1 : decode cX6_fillFrom 1 = .ok (.istore_n 2, 1) := by decide +kernel
theorem dX6_fillFrom_2 : decode cX6_fillFrom 2 = .ok (.iload_n 2, 1) := by decide +kernel
theorem dX6_fillFrom_3 : decode cX6_fillFrom 3 = .ok (.aload_n 1, 1) := by decide +kernel
theorem dX6_fillFrom_4 : decode cX6_fillFrom 4 = .ok (.getfield 21, 3) := by decide +kernel
theorem dX6_fillFrom_7 : decode cX6_fillFrom 7 = .ok (.if_icmp .ge 41, 3) := by decide +kernel
theorem dX6_fillFrom_10 : decode cX6_fillFrom 10 = .ok (.iconst 0, 1) := by decide +kernel
theorem dX6_fillFrom_11 : decode cX6_fillFrom 11 = .ok (.istore_n 3, 1) := by decide +kernel
theorem dX6_fillFrom_12 : decode cX6_fillFrom 12 = .ok (.iload_n 3, 1) := by decide +kernel
theorem dX6_fillFrom_13 : decode cX6_fillFrom 13 = .ok (.aload_n 1, 1) := by decide +kernel
theorem dX6_fillFrom_14 : decode cX6_fillFrom 14 = .ok (.getfield 27, 3) := by decide +kernel
theorem dX6_fillFrom_17 : decode cX6_fillFrom 17 = .ok (.if_icmp .ge 25, 3) := by decide +kernel
theorem dX6_fillFrom_20 : decode cX6_fillFrom 20 = .ok (.aload_n 0, 1) := by decide +kernel
theorem dX6_fillFrom_21 : decode cX6_fillFrom 21 = .ok (.getfield 15, 3) := by decide +kernel
theorem dX6_fillFrom_24 : decode cX6_fillFrom 24 = .ok (.iload_n 2, 1) := by decide +kernel
theorem dX6_fillFrom_25 : decode cX6_fillFrom 25 = .ok (.iload_n 3, 1) := by decide +kernel
theorem dX6_fillFrom_26 : decode cX6_fillFrom 26 = .ok (.invokestatic 30, 3) := by decide +kernel
theorem dX6_fillFrom_29 : decode cX6_fillFrom 29 = .ok (.aload_n 1, 1) := by decide +kernel
theorem dX6_fillFrom_30 : decode cX6_fillFrom 30 = .ok (.iload_n 2, 1) := by decide +kernel
theorem dX6_fillFrom_31 : decode cX6_fillFrom 31 = .ok (.iload_n 3, 1) := by decide +kernel
theorem dX6_fillFrom_32 : decode cX6_fillFrom 32 = .ok (.invokevirtual 34, 3) := by decide +kernel
theorem dX6_fillFrom_35 : decode cX6_fillFrom 35 = .ok (.iastore, 1) := by decide +kernel
theorem dX6_fillFrom_36 : decode cX6_fillFrom 36 = .ok (.iinc 3 1, 3) := by decide +kernel
theorem dX6_fillFrom_39 : decode cX6_fillFrom 39 = .ok (.goto (-27), 3) := by decide +kernel
theorem dX6_fillFrom_42 : decode cX6_fillFrom 42 = .ok (.iinc 2 1, 3) := by decide +kernel
theorem dX6_fillFrom_45 : decode cX6_fillFrom 45 = .ok (.goto (-43), 3) := by decide +kernel
theorem dX6_fillFrom_48 : decode cX6_fillFrom 48 = .ok (.aload_n 0, 1) := by decide +kernel
theorem dX6_fillFrom_49 : decode cX6_fillFrom 49 = .ok (.aload_n 1, 1) := by decide +kernel
theorem dX6_fillFrom_50 : decode cX6_fillFrom 50 = .ok (.invokevirtual 37, 3) := by decide +kernel
theorem dX6_fillFrom_53 : decode cX6_fillFrom 53 = .ok (.putfield 41, 3) := by decide +kernel
theorem dX6_fillFrom_56 : decode cX6_fillFrom 56 = .ok (.return_, 1) := by decide +kernel
set_option maxRecDepth 20000 in
theorem ggX6_holds_X9_isIn : GoodIn wsX6_holds wsX9_isIn := goodIn_r _ [5] (by decide +kernel) (by decide +kernel)
set_option maxRecDepth 20000 in
theorem gX6_holds_X9_isIn_n44 : GoodIn wsX6_holds (wsX9_isIn) := ggX6_holds_X9_isIn
set_option maxRecDepth 20000 in
theorem ggX6_holds_X9_place : GoodIn wsX6_holds wsX9_place := goodIn_r _ [7] (by decide +kernel) (by decide +kernel)
set_option maxRecDepth 20000 in
theorem gX6_holds_X9_place_n30 : GoodIn wsX6_holds (wsX9_place) := ggX6_holds_X9_place
end
section
theorem dX6_holds_0 : decode cX6_holds 0 = .ok (.aload_n 0, 1) := by decide +kernel
theorem dX6_holds_1 : decode cX6_holds 1 = .ok (.getfield 41, 3) := by decide +kernel
theorem dX6_holds_4 : decode cX6_holds 4 = .ok (.iload_n 1, 1) := by decide +kernel
theorem dX6_holds_5 : decode cX6_holds 5 = .ok (.invokestatic 44, 3) := by decide +kernel
theorem dX6_holds_8 : decode cX6_holds 8 = .ok (.ifCond .ne 21, 3) := by decide +kernel
theorem dX6_holds_11 : decode cX6_holds 11 = .ok (.aload_n 0, 1) := by decide +kernel
theorem dX6_holds_12 : decode cX6_holds 12 = .ok (.getfield 9, 3) := by decide +kernel
theorem dX6_holds_15 : decode cX6_holds 15 = .ok (.iload_n 1, 1) := by decide +kernel
theorem dX6_holds_16 : decode cX6_holds 16 = .ok (.iload_n 2, 1) := by decide +kernel
theorem dX6_holds_17 : decode cX6_holds 17 = .ok (.invokestatic 30, 3) := by decide +kernel
theorem dX6_holds_20 : decode cX6_holds 20 = .ok (.iaload, 1) := by decide +kernel
theorem dX6_holds_21 : decode cX6_holds 21 = .ok (.iconst (-1), 1) := by decide +kernel
theorem dX6_holds_22 : decode cX6_holds 22 = .ok (.if_icmp .eq 7, 3) := by decide +kernel
theorem dX6_holds_25 : decode cX6_holds 25 = .ok (.iconst 1, 1) := by decide +kernel
theorem dX6_holds_26 : decode cX6_holds 26 = .ok (.goto 4, 3) := by decide +kernel
theorem dX6_holds_29 : decode cX6_holds 29 = .ok (.iconst 0, 1) := by decide +kernel
theorem dX6_holds_30 : decode cX6_holds 30 = .ok (.ireturn, 1) := by decide +kernel
set_option maxRecDepth 20000 in
theorem ggX6_heldOf_X6_holds : GoodIn wsX6_heldOf wsX6_holds := goodIn_r _ [5, 6, 7, 8, 9, 10, 11, 12, 15, 16, 17, 18, 19, 20] (by decide +kernel) (by decide +kernel)
set_option maxRecDepth 20000 in
theorem gX6_heldOf_X6_holds : GoodIn wsX6_heldOf (wsV RX6 48 RX6 yX6_holds wsX6_holds) := goodIn_app (goodIn_of _ (by decide +kernel)) ggX6_heldOf_X6_holds
set_option maxRecDepth 20000 in
theorem ggX6_heldOf_X9_oneIf : GoodIn wsX6_heldOf wsX9_oneIf := goodIn_r _ [14] (by decide +kernel) (by decide +kernel)
set_option maxRecDepth 20000 in
theorem gX6_heldOf_X9_oneIf_n51 : GoodIn wsX6_heldOf (wsX9_oneIf) := ggX6_heldOf_X9_oneIf
theorem dX6_heldOf_0 : decode cX6_heldOf 0 = .ok (.iconst 0, 1) := by decide +kernel
theorem dX6_heldOf_1 : decode cX6_heldOf 1 = .ok (.istore_n 2, 1) := by decide +kernel
theorem dX6_heldOf_2 : decode cX6_heldOf 2 = .ok (.iconst 0, 1) := by decide +kernel
theorem dX6_heldOf_3 : decode cX6_heldOf 3 = .ok (.istore_n 3, 1) := by decide +kernel
theorem dX6_heldOf_4 : decode cX6_heldOf 4 = .ok (.iload_n 3, 1) := by decide +kernel
theorem dX6_heldOf_5 : decode cX6_heldOf 5 = .ok (.iconst 4, 1) := by decide +kernel
theorem dX6_heldOf_6 : decode cX6_heldOf 6 = .ok (.if_icmp .ge 21, 3) := by decide +kernel
theorem dX6_heldOf_9 : decode cX6_heldOf 9 = .ok (.iload_n 2, 1) := by decide +kernel
theorem dX6_heldOf_10 : decode cX6_heldOf 10 = .ok (.aload_n 0, 1) := by decide +kernel
theorem dX6_heldOf_11 : decode cX6_heldOf 11 = .ok (.iload_n 1, 1) := by decide +kernel
theorem dX6_heldOf_12 : decode cX6_heldOf 12 = .ok (.iload_n 3, 1) := by decide +kernel
theorem dX6_heldOf_13 : decode cX6_heldOf 13 = .ok (.invokevirtual 48, 3) := by decide +kernel
theorem dX6_heldOf_16 : decode cX6_heldOf 16 = .ok (.invokestatic 51, 3) := by decide +kernel
theorem dX6_heldOf_19 : decode cX6_heldOf 19 = .ok (.iadd, 1) := by decide +kernel
theorem dX6_heldOf_20 : decode cX6_heldOf 20 = .ok (.istore_n 2, 1) := by decide +kernel
theorem dX6_heldOf_21 : decode cX6_heldOf 21 = .ok (.iinc 3 1, 3) := by decide +kernel
theorem dX6_heldOf_24 : decode cX6_heldOf 24 = .ok (.goto (-20), 3) := by decide +kernel
theorem dX6_heldOf_27 : decode cX6_heldOf 27 = .ok (.iload_n 2, 1) := by decide +kernel
theorem dX6_heldOf_28 : decode cX6_heldOf 28 = .ok (.ireturn, 1) := by decide +kernel
set_option maxRecDepth 20000 in
theorem ggX6_heldInAll_X6_heldOf : GoodIn wsX6_heldInAll wsX6_heldOf := goodIn_r _ [5, 6, 7, 8, 4, 9, 10, 11, 12, 13, 14, 15, 16, 17, 18, 19, 20, 21, 22, 23, 24] (by decide +kernel) (by decide +kernel)
set_option maxRecDepth 20000 in
theorem gX6_heldInAll_X6_heldOf : GoodIn wsX6_heldInAll (wsV RX6 55 RX6 yX6_heldOf wsX6_heldOf) := goodIn_app (goodIn_of _ (by decide +kernel)) ggX6_heldInAll_X6_heldOf
theorem dX6_heldInAll_0 : decode cX6_heldInAll 0 = .ok (.iconst 0, 1) := by decide +kernel
theorem dX6_heldInAll_1 : decode cX6_heldInAll 1 = .ok (.istore_n 1, 1) := by decide +kernel
theorem dX6_heldInAll_2 : decode cX6_heldInAll 2 = .ok (.iconst 0, 1) := by decide +kernel
theorem dX6_heldInAll_3 : decode cX6_heldInAll 3 = .ok (.istore_n 2, 1) := by decide +kernel
theorem dX6_heldInAll_4 : decode cX6_heldInAll 4 = .ok (.iload_n 2, 1) := by decide +kernel
theorem dX6_heldInAll_5 : decode cX6_heldInAll 5 = .ok (.bipush 24, 2) := by decide +kernel
theorem dX6_heldInAll_7 : decode cX6_heldInAll 7 = .ok (.if_icmp .ge 17, 3) := by decide +kernel
theorem dX6_heldInAll_10 : decode cX6_heldInAll 10 = .ok (.iload_n 1, 1) := by decide +kernel
theorem dX6_heldInAll_11 : decode cX6_heldInAll 11 = .ok (.aload_n 0, 1) := by decide +kernel
theorem dX6_heldInAll_12 : decode cX6_heldInAll 12 = .ok (.iload_n 2, 1) := by decide +kernel
theorem dX6_heldInAll_13 : decode cX6_heldInAll 13 = .ok (.invokevirtual 55, 3) := by decide +kernel
theorem dX6_heldInAll_16 : decode cX6_heldInAll 16 = .ok (.iadd, 1) := by decide +kernel
theorem dX6_heldInAll_17 : decode cX6_heldInAll 17 = .ok (.istore_n 1, 1) := by decide +kernel
theorem dX6_heldInAll_18 : decode cX6_heldInAll 18 = .ok (.iinc 2 1, 3) := by decide +kernel
theorem dX6_heldInAll_21 : decode cX6_heldInAll 21 = .ok (.goto (-17), 3) := by decide +kernel
theorem dX6_heldInAll_24 : decode cX6_heldInAll 24 = .ok (.iload_n 1, 1) := by decide +kernel
theorem dX6_heldInAll_25 : decode cX6_heldInAll 25 = .ok (.ireturn, 1) := by decide +kernel
set_option maxRecDepth 20000 in
theorem ggX6_isBare_X6_heldInAll : GoodIn wsX6_isBare wsX6_heldInAll := goodIn_r _ [7, 8, 9, 10, 6, 11, 12, 13, 14, 15, 1, 16, 17, 18, 19, 20, 21, 22, 23, 24, 25, 26, 27, 28, 29] (by decide +kernel) (by decide +kernel)
set_option maxRecDepth 20000 in
theorem gX6_isBare_X6_heldInAll : GoodIn wsX6_isBare (wsV RX6 62 RX6 yX6_heldInAll wsX6_heldInAll) := goodIn_app (goodIn_of _ (by decide +kernel)) ggX6_isBare_X6_heldInAll
theorem dX6_isBare_0 : decode cX6_isBare 0 = .ok (.aload_n 0, 1) := by decide +kernel
theorem dX6_isBare_1 : decode cX6_isBare 1 = .ok (.getfield 41, 3) := by decide +kernel
theorem dX6_isBare_4 : decode cX6_isBare 4 = .ok (.ifCond .ne 21, 3) := by decide +kernel
theorem dX6_isBare_7 : decode cX6_isBare 7 = .ok (.aload_n 0, 1) := by decide +kernel
theorem dX6_isBare_8 : decode cX6_isBare 8 = .ok (.getfield 59, 3) := by decide +kernel
theorem dX6_isBare_11 : decode cX6_isBare 11 = .ok (.ifCond .ne 14, 3) := by decide +kernel
theorem dX6_isBare_14 : decode cX6_isBare 14 = .ok (.aload_n 0, 1) := by decide +kernel
theorem dX6_isBare_15 : decode cX6_isBare 15 = .ok (.invokevirtual 62, 3) := by decide +kernel
theorem dX6_isBare_18 : decode cX6_isBare 18 = .ok (.ifCond .ne 7, 3) := by decide +kernel
theorem dX6_isBare_21 : decode cX6_isBare 21 = .ok (.iconst 1, 1) := by decide +kernel
theorem dX6_isBare_22 : decode cX6_isBare 22 = .ok (.goto 4, 3) := by decide +kernel
theorem dX6_isBare_25 : decode cX6_isBare 25 = .ok (.iconst 0, 1) := by decide +kernel
theorem dX6_isBare_26 : decode cX6_isBare 26 = .ok (.ireturn, 1) := by decide +kernel
set_option maxRecDepth 20000 in
theorem ggX6_firstGiver_X9_place : GoodIn wsX6_firstGiver wsX9_place := goodIn_r _ [4] (by decide +kernel) (by decide +kernel)
set_option maxRecDepth 20000 in
theorem gX6_firstGiver_X9_place_n30 : GoodIn wsX6_firstGiver (wsX9_place) := ggX6_firstGiver_X9_place
theorem dX6_firstGiver_0 : decode cX6_firstGiver 0 = .ok (.iconst 0, 1) := by decide +kernel
theorem dX6_firstGiver_1 : decode cX6_firstGiver 1 = .ok (.istore_n 2, 1) := by decide +kernel
theorem dX6_firstGiver_2 : decode cX6_firstGiver 2 = .ok (.iload_n 2, 1) := by decide +kernel
theorem dX6_firstGiver_3 : decode cX6_firstGiver 3 = .ok (.iconst 4, 1) := by decide +kernel
theorem dX6_firstGiver_4 : decode cX6_firstGiver 4 = .ok (.if_icmp .ge 27, 3) := by decide +kernel
theorem dX6_firstGiver_7 : decode cX6_firstGiver 7 = .ok (.aload_n 0, 1) := by decide +kernel
theorem dX6_firstGiver_8 : decode cX6_firstGiver 8 = .ok (.getfield 9, 3) := by decide +kernel
theorem dX6_firstGiver_11 : decode cX6_firstGiver 11 = .ok (.iload_n 1, 1) := by decide +kernel
theorem dX6_firstGiver_12 : decode cX6_firstGiver 12 = .ok (.iload_n 2, 1) := by decide +kernel
theorem dX6_firstGiver_13 : decode cX6_firstGiver 13 = .ok (.invokestatic 30, 3) := by decide +kernel
theorem dX6_firstGiver_16 : decode cX6_firstGiver 16 = .ok (.iaload, 1) := by decide +kernel
theorem dX6_firstGiver_17 : decode cX6_firstGiver 17 = .ok (.istore_n 3, 1) := by decide +kernel
theorem dX6_firstGiver_18 : decode cX6_firstGiver 18 = .ok (.iload_n 3, 1) := by decide +kernel
theorem dX6_firstGiver_19 : decode cX6_firstGiver 19 = .ok (.iconst (-1), 1) := by decide +kernel
theorem dX6_firstGiver_20 : decode cX6_firstGiver 20 = .ok (.if_icmp .eq 5, 3) := by decide +kernel
theorem dX6_firstGiver_23 : decode cX6_firstGiver 23 = .ok (.iload_n 3, 1) := by decide +kernel
theorem dX6_firstGiver_24 : decode cX6_firstGiver 24 = .ok (.ireturn, 1) := by decide +kernel
theorem dX6_firstGiver_25 : decode cX6_firstGiver 25 = .ok (.iinc 2 1, 3) := by decide +kernel
theorem dX6_firstGiver_28 : decode cX6_firstGiver 28 = .ok (.goto (-26), 3) := by decide +kernel
theorem dX6_firstGiver_31 : decode cX6_firstGiver 31 = .ok (.iconst (-1), 1) := by decide +kernel
theorem dX6_firstGiver_32 : decode cX6_firstGiver 32 = .ok (.ireturn, 1) := by decide +kernel
set_option maxRecDepth 20000 in
theorem ggX6_giversOf_X9_place : GoodIn wsX6_giversOf wsX9_place := goodIn_r _ [4] (by decide +kernel) (by decide +kernel)
set_option maxRecDepth 20000 in
theorem gX6_giversOf_X9_place_n30 : GoodIn wsX6_giversOf (wsX9_place) := ggX6_giversOf_X9_place
theorem dX6_giversOf_0 : decode cX6_giversOf 0 = .ok (.iconst 0, 1) := by decide +kernel
theorem dX6_giversOf_1 : decode cX6_giversOf 1 = .ok (.istore_n 2, 1) := by decide +kernel
theorem dX6_giversOf_2 : decode cX6_giversOf 2 = .ok (.iconst 0, 1) := by decide +kernel
theorem dX6_giversOf_3 : decode cX6_giversOf 3 = .ok (.istore_n 3, 1) := by decide +kernel
theorem dX6_giversOf_4 : decode cX6_giversOf 4 = .ok (.iload_n 3, 1) := by decide +kernel
theorem dX6_giversOf_5 : decode cX6_giversOf 5 = .ok (.iconst 4, 1) := by decide +kernel
theorem dX6_giversOf_6 : decode cX6_giversOf 6 = .ok (.if_icmp .ge 34, 3) := by decide +kernel
theorem dX6_giversOf_9 : decode cX6_giversOf 9 = .ok (.aload_n 0, 1) := by decide +kernel
theorem dX6_giversOf_10 : decode cX6_giversOf 10 = .ok (.getfield 9, 3) := by decide +kernel
theorem dX6_giversOf_13 : decode cX6_giversOf 13 = .ok (.iload_n 1, 1) := by decide +kernel
theorem dX6_giversOf_14 : decode cX6_giversOf 14 = .ok (.iload_n 3, 1) := by decide +kernel
theorem dX6_giversOf_15 : decode cX6_giversOf 15 = .ok (.invokestatic 30, 3) := by decide +kernel
theorem dX6_giversOf_18 : decode cX6_giversOf 18 = .ok (.iaload, 1) := by decide +kernel
theorem dX6_giversOf_19 : decode cX6_giversOf 19 = .ok (.istore 4, 2) := by decide +kernel
theorem dX6_giversOf_21 : decode cX6_giversOf 21 = .ok (.iload 4, 2) := by decide +kernel
theorem dX6_giversOf_23 : decode cX6_giversOf 23 = .ok (.iconst (-1), 1) := by decide +kernel
theorem dX6_giversOf_24 : decode cX6_giversOf 24 = .ok (.if_icmp .eq 10, 3) := by decide +kernel
theorem dX6_giversOf_27 : decode cX6_giversOf 27 = .ok (.iload_n 2, 1) := by decide +kernel
theorem dX6_giversOf_28 : decode cX6_giversOf 28 = .ok (.iconst 1, 1) := by decide +kernel
theorem dX6_giversOf_29 : decode cX6_giversOf 29 = .ok (.iload 4, 2) := by decide +kernel
theorem dX6_giversOf_31 : decode cX6_giversOf 31 = .ok (.ishl, 1) := by decide +kernel
theorem dX6_giversOf_32 : decode cX6_giversOf 32 = .ok (.ior, 1) := by decide +kernel
theorem dX6_giversOf_33 : decode cX6_giversOf 33 = .ok (.istore_n 2, 1) := by decide +kernel
theorem dX6_giversOf_34 : decode cX6_giversOf 34 = .ok (.iinc 3 1, 3) := by decide +kernel
theorem dX6_giversOf_37 : decode cX6_giversOf 37 = .ok (.goto (-33), 3) := by decide +kernel
theorem dX6_giversOf_40 : decode cX6_giversOf 40 = .ok (.iload_n 2, 1) := by decide +kernel
theorem dX6_giversOf_41 : decode cX6_giversOf 41 = .ok (.ireturn, 1) := by decide +kernel
set_option maxRecDepth 20000 in
theorem ggX6_isBegun_X6_holds : GoodIn wsX6_isBegun wsX6_holds := goodIn_r _ [6, 7, 8, 9, 10, 11, 12, 13, 14, 15, 16, 17, 18, 19] (by decide +kernel) (by decide +kernel)
set_option maxRecDepth 20000 in
theorem gX6_isBegun_X6_holds : GoodIn wsX6_isBegun (wsV RX6 48 RX6 yX6_holds wsX6_holds) := goodIn_app (goodIn_of _ (by decide +kernel)) ggX6_isBegun_X6_holds
set_option maxRecDepth 20000 in
theorem ggX6_isBegun_X9_place : GoodIn wsX6_isBegun wsX9_place := goodIn_r _ [13] (by decide +kernel) (by decide +kernel)
set_option maxRecDepth 20000 in
theorem gX6_isBegun_X9_place_n30 : GoodIn wsX6_isBegun (wsX9_place) := ggX6_isBegun_X9_place
theorem dX6_isBegun_0 : decode cX6_isBegun 0 = .ok (.iconst 0, 1) := by decide +kernel
theorem dX6_isBegun_1 : decode cX6_isBegun 1 = .ok (.istore_n 2, 1) := by decide +kernel
theorem dX6_isBegun_2 : decode cX6_isBegun 2 = .ok (.iload_n 2, 1) := by decide +kernel
theorem dX6_isBegun_3 : decode cX6_isBegun 3 = .ok (.iconst 4, 1) := by decide +kernel
theorem dX6_isBegun_4 : decode cX6_isBegun 4 = .ok (.if_icmp .ge 33, 3) := by decide +kernel
theorem dX6_isBegun_7 : decode cX6_isBegun 7 = .ok (.aload_n 0, 1) := by decide +kernel
theorem dX6_isBegun_8 : decode cX6_isBegun 8 = .ok (.iload_n 1, 1) := by decide +kernel
theorem dX6_isBegun_9 : decode cX6_isBegun 9 = .ok (.iload_n 2, 1) := by decide +kernel
theorem dX6_isBegun_10 : decode cX6_isBegun 10 = .ok (.invokevirtual 48, 3) := by decide +kernel
theorem dX6_isBegun_13 : decode cX6_isBegun 13 = .ok (.ifCond .ne 16, 3) := by decide +kernel
theorem dX6_isBegun_16 : decode cX6_isBegun 16 = .ok (.aload_n 0, 1) := by decide +kernel
theorem dX6_isBegun_17 : decode cX6_isBegun 17 = .ok (.getfield 18, 3) := by decide +kernel
theorem dX6_isBegun_20 : decode cX6_isBegun 20 = .ok (.iload_n 1, 1) := by decide +kernel
theorem dX6_isBegun_21 : decode cX6_isBegun 21 = .ok (.iload_n 2, 1) := by decide +kernel
theorem dX6_isBegun_22 : decode cX6_isBegun 22 = .ok (.invokestatic 30, 3) := by decide +kernel
theorem dX6_isBegun_25 : decode cX6_isBegun 25 = .ok (.iaload, 1) := by decide +kernel
theorem dX6_isBegun_26 : decode cX6_isBegun 26 = .ok (.ifCond .le 5, 3) := by decide +kernel
theorem dX6_isBegun_29 : decode cX6_isBegun 29 = .ok (.iconst 1, 1) := by decide +kernel
theorem dX6_isBegun_30 : decode cX6_isBegun 30 = .ok (.ireturn, 1) := by decide +kernel
theorem dX6_isBegun_31 : decode cX6_isBegun 31 = .ok (.iinc 2 1, 3) := by decide +kernel
theorem dX6_isBegun_34 : decode cX6_isBegun 34 = .ok (.goto (-32), 3) := by decide +kernel
theorem dX6_isBegun_37 : decode cX6_isBegun 37 = .ok (.iconst 0, 1) := by decide +kernel
theorem dX6_isBegun_38 : decode cX6_isBegun 38 = .ok (.ireturn, 1) := by decide +kernel
set_option maxRecDepth 20000 in
theorem ggX6_firstUnasked_X6_holds : GoodIn wsX6_firstUnasked wsX6_holds := goodIn_r _ [6, 7, 8, 9, 10, 11, 12, 13, 14, 15, 16, 17, 18, 19] (by decide +kernel) (by decide +kernel)
set_option maxRecDepth 20000 in
theorem gX6_firstUnasked_X6_holds : GoodIn wsX6_firstUnasked (wsV RX6 48 RX6 yX6_holds wsX6_holds) := goodIn_app (goodIn_of _ (by decide +kernel)) ggX6_firstUnasked_X6_holds
set_option maxRecDepth 20000 in
theorem ggX6_firstUnasked_X9_place : GoodIn wsX6_firstUnasked wsX9_place := goodIn_r _ [13] (by decide +kernel) (by decide +kernel)
set_option maxRecDepth 20000 in
theorem gX6_firstUnasked_X9_place_n30 : GoodIn wsX6_firstUnasked (wsX9_place) := ggX6_firstUnasked_X9_place
theorem dX6_firstUnasked_0 : decode cX6_firstUnasked 0 = .ok (.iconst 0, 1) := by decide +kernel
theorem dX6_firstUnasked_1 : decode cX6_firstUnasked 1 = .ok (.istore_n 3, 1) := by decide +kernel
theorem dX6_firstUnasked_2 : decode cX6_firstUnasked 2 = .ok (.iload_n 3, 1) := by decide +kernel
theorem dX6_firstUnasked_3 : decode cX6_firstUnasked 3 = .ok (.iload_n 2, 1) := by decide +kernel
theorem dX6_firstUnasked_4 : decode cX6_firstUnasked 4 = .ok (.if_icmp .ge 33, 3) := by decide +kernel
theorem dX6_firstUnasked_7 : decode cX6_firstUnasked 7 = .ok (.aload_n 0, 1) := by decide +kernel
theorem dX6_firstUnasked_8 : decode cX6_firstUnasked 8 = .ok (.iload_n 1, 1) := by decide +kernel
theorem dX6_firstUnasked_9 : decode cX6_firstUnasked 9 = .ok (.iload_n 3, 1) := by decide +kernel
theorem dX6_firstUnasked_10 : decode cX6_firstUnasked 10 = .ok (.invokevirtual 48, 3) := by decide +kernel
theorem dX6_firstUnasked_13 : decode cX6_firstUnasked 13 = .ok (.ifCond .ne 18, 3) := by decide +kernel
theorem dX6_firstUnasked_16 : decode cX6_firstUnasked 16 = .ok (.aload_n 0, 1) := by decide +kernel
theorem dX6_firstUnasked_17 : decode cX6_firstUnasked 17 = .ok (.getfield 18, 3) := by decide +kernel
theorem dX6_firstUnasked_20 : decode cX6_firstUnasked 20 = .ok (.iload_n 1, 1) := by decide +kernel
theorem dX6_firstUnasked_21 : decode cX6_firstUnasked 21 = .ok (.iload_n 3, 1) := by decide +kernel
theorem dX6_firstUnasked_22 : decode cX6_firstUnasked 22 = .ok (.invokestatic 30, 3) := by decide +kernel
theorem dX6_firstUnasked_25 : decode cX6_firstUnasked 25 = .ok (.iaload, 1) := by decide +kernel
theorem dX6_firstUnasked_26 : decode cX6_firstUnasked 26 = .ok (.ifCond .ne 5, 3) := by decide +kernel
theorem dX6_firstUnasked_29 : decode cX6_firstUnasked 29 = .ok (.iload_n 3, 1) := by decide +kernel
theorem dX6_firstUnasked_30 : decode cX6_firstUnasked 30 = .ok (.ireturn, 1) := by decide +kernel
theorem dX6_firstUnasked_31 : decode cX6_firstUnasked 31 = .ok (.iinc 3 1, 3) := by decide +kernel
theorem dX6_firstUnasked_34 : decode cX6_firstUnasked 34 = .ok (.goto (-32), 3) := by decide +kernel
theorem dX6_firstUnasked_37 : decode cX6_firstUnasked 37 = .ok (.iconst (-1), 1) := by decide +kernel
theorem dX6_firstUnasked_38 : decode cX6_firstUnasked 38 = .ok (.ireturn, 1) := by decide +kernel
set_option maxRecDepth 20000 in
theorem ggX6_expect_X9_place : GoodIn wsX6_expect wsX9_place := goodIn_r _ [5] (by decide +kernel) (by decide +kernel)
set_option maxRecDepth 20000 in
theorem gX6_expect_X9_place_n30 : GoodIn wsX6_expect (wsX9_place) := ggX6_expect_X9_place
theorem dX6_expect_0 : decode cX6_expect 0 = .ok (.aload_n 0, 1) := by decide +kernel
theorem dX6_expect_1 : decode cX6_expect 1 = .ok (.getfield 18, 3) := by decide +kernel
theorem dX6_expect_4 : decode cX6_expect 4 = .ok (.iload_n 1, 1) := by decide +kernel
theorem dX6_expect_5 : decode cX6_expect 5 = .ok (.iload_n 2, 1) := by decide +kernel
theorem dX6_expect_6 : decode cX6_expect 6 = .ok (.invokestatic 30, 3) := by decide +kernel
theorem dX6_expect_9 : decode cX6_expect 9 = .ok (.dup2, 1) := by decide +kernel
theorem dX6_expect_10 : decode cX6_expect 10 = .ok (.iaload, 1) := by decide +kernel
theorem dX6_expect_11 : decode cX6_expect 11 = .ok (.iconst 1, 1) := by decide +kernel
theorem dX6_expect_12 : decode cX6_expect 12 = .ok (.iadd, 1) := by decide +kernel
theorem dX6_expect_13 : decode cX6_expect 13 = .ok (.iastore, 1) := by decide +kernel
theorem dX6_expect_14 : decode cX6_expect 14 = .ok (.aload_n 0, 1) := by decide +kernel
theorem dX6_expect_15 : decode cX6_expect 15 = .ok (.dup, 1) := by decide +kernel
theorem dX6_expect_16 : decode cX6_expect 16 = .ok (.getfield 59, 3) := by decide +kernel
theorem dX6_expect_19 : decode cX6_expect 19 = .ok (.iconst 1, 1) := by decide +kernel
theorem dX6_expect_20 : decode cX6_expect 20 = .ok (.iadd, 1) := by decide +kernel
theorem dX6_expect_21 : decode cX6_expect 21 = .ok (.putfield 59, 3) := by decide +kernel
theorem dX6_expect_24 : decode cX6_expect 24 = .ok (.return_, 1) := by decide +kernel
set_option maxRecDepth 20000 in
theorem ggX6_expectNoMore_X9_place : GoodIn wsX6_expectNoMore wsX9_place := goodIn_r _ [5] (by decide +kernel) (by decide +kernel)
set_option maxRecDepth 20000 in
theorem gX6_expectNoMore_X9_place_n30 : GoodIn wsX6_expectNoMore (wsX9_place) := ggX6_expectNoMore_X9_place
theorem dX6_expectNoMore_0 : decode cX6_expectNoMore 0 = .ok (.aload_n 0, 1) := by decide +kernel
theorem dX6_expectNoMore_1 : decode cX6_expectNoMore 1 = .ok (.getfield 18, 3) := by decide +kernel
theorem dX6_expectNoMore_4 : decode cX6_expectNoMore 4 = .ok (.iload_n 1, 1) := by decide +kernel
theorem dX6_expectNoMore_5 : decode cX6_expectNoMore 5 = .ok (.iload_n 2, 1) := by decide +kernel
theorem dX6_expectNoMore_6 : decode cX6_expectNoMore 6 = .ok (.invokestatic 30, 3) := by decide +kernel
theorem dX6_expectNoMore_9 : decode cX6_expectNoMore 9 = .ok (.dup2, 1) := by decide +kernel
theorem dX6_expectNoMore_10 : decode cX6_expectNoMore 10 = .ok (.iaload, 1) := by decide +kernel
theorem dX6_expectNoMore_11 : decode cX6_expectNoMore 11 = .ok (.iconst 1, 1) := by decide +kernel
theorem dX6_expectNoMore_12 : decode cX6_expectNoMore 12 = .ok (.isub, 1) := by decide +kernel
theorem dX6_expectNoMore_13 : decode cX6_expectNoMore 13 = .ok (.iastore, 1) := by decide +kernel
theorem dX6_expectNoMore_14 : decode cX6_expectNoMore 14 = .ok (.aload_n 0, 1) := by decide +kernel
theorem dX6_expectNoMore_15 : decode cX6_expectNoMore 15 = .ok (.dup, 1) := by decide +kernel
theorem dX6_expectNoMore_16 : decode cX6_expectNoMore 16 = .ok (.getfield 59, 3) := by decide +kernel
theorem dX6_expectNoMore_19 : decode cX6_expectNoMore 19 = .ok (.iconst 1, 1) := by decide +kernel
theorem dX6_expectNoMore_20 : decode cX6_expectNoMore 20 = .ok (.isub, 1) := by decide +kernel
theorem dX6_expectNoMore_21 : decode cX6_expectNoMore 21 = .ok (.putfield 59, 3) := by decide +kernel
theorem dX6_expectNoMore_24 : decode cX6_expectNoMore 24 = .ok (.return_, 1) := by decide +kernel
set_option maxRecDepth 20000 in
theorem ggX6_put_X9_place : GoodIn wsX6_put wsX9_place := goodIn_r _ [5] (by decide +kernel) (by decide +kernel)
set_option maxRecDepth 20000 in
theorem gX6_put_X9_place_n30 : GoodIn wsX6_put (wsX9_place) := ggX6_put_X9_place
theorem dX6_put_0 : decode cX6_put 0 = .ok (.aload_n 0, 1) := by decide +kernel
theorem dX6_put_1 : decode cX6_put 1 = .ok (.getfield 9, 3) := by decide +kernel
theorem dX6_put_4 : decode cX6_put 4 = .ok (.iload_n 1, 1) := by decide +kernel
theorem dX6_put_5 : decode cX6_put 5 = .ok (.iload_n 2, 1) := by decide +kernel
theorem dX6_put_6 : decode cX6_put 6 = .ok (.invokestatic 30, 3) := by decide +kernel
theorem dX6_put_9 : decode cX6_put 9 = .ok (.iload_n 3, 1) := by decide +kernel
theorem dX6_put_10 : decode cX6_put 10 = .ok (.iastore, 1) := by decide +kernel
theorem dX6_put_11 : decode cX6_put 11 = .ok (.aload_n 0, 1) := by decide +kernel
theorem dX6_put_12 : decode cX6_put 12 = .ok (.getfield 15, 3) := by decide +kernel
theorem dX6_put_15 : decode cX6_put 15 = .ok (.iload_n 1, 1) := by decide +kernel
theorem dX6_put_16 : decode cX6_put 16 = .ok (.iload_n 2, 1) := by decide +kernel
theorem dX6_put_17 : decode cX6_put 17 = .ok (.invokestatic 30, 3) := by decide +kernel
theorem dX6_put_20 : decode cX6_put 20 = .ok (.iload 4, 2) := by decide +kernel
theorem dX6_put_22 : decode cX6_put 22 = .ok (.iastore, 1) := by decide +kernel
theorem dX6_put_23 : decode cX6_put 23 = .ok (.return_, 1) := by decide +kernel
set_option maxRecDepth 20000 in
theorem ggX6_drop_X9_place : GoodIn wsX6_drop wsX9_place := goodIn_r _ [4] (by decide +kernel) (by decide +kernel)
set_option maxRecDepth 20000 in
theorem gX6_drop_X9_place_n30 : GoodIn wsX6_drop (wsX9_place) := ggX6_drop_X9_place
theorem dX6_drop_0 : decode cX6_drop 0 = .ok (.iconst 0, 1) := by decide +kernel
theorem dX6_drop_1 : decode cX6_drop 1 = .ok (.istore_n 2, 1) := by decide +kernel
theorem dX6_drop_2 : decode cX6_drop 2 = .ok (.iload_n 2, 1) := by decide +kernel
theorem dX6_drop_3 : decode cX6_drop 3 = .ok (.iconst 4, 1) := by decide +kernel
theorem dX6_drop_4 : decode cX6_drop 4 = .ok (.if_icmp .ge 20, 3) := by decide +kernel
theorem dX6_drop_7 : decode cX6_drop 7 = .ok (.aload_n 0, 1) := by decide +kernel
theorem dX6_drop_8 : decode cX6_drop 8 = .ok (.getfield 9, 3) := by decide +kernel
theorem dX6_drop_11 : decode cX6_drop 11 = .ok (.iload_n 1, 1) := by decide +kernel
theorem dX6_drop_12 : decode cX6_drop 12 = .ok (.iload_n 2, 1) := by decide +kernel
theorem dX6_drop_13 : decode cX6_drop 13 = .ok (.invokestatic 30, 3) := by decide +kernel
theorem dX6_drop_16 : decode cX6_drop 16 = .ok (.iconst (-1), 1) := by decide +kernel
theorem dX6_drop_17 : decode cX6_drop 17 = .ok (.iastore, 1) := by decide +kernel
theorem dX6_drop_18 : decode cX6_drop 18 = .ok (.iinc 2 1, 3) := by decide +kernel
theorem dX6_drop_21 : decode cX6_drop 21 = .ok (.goto (-19), 3) := by decide +kernel
theorem dX6_drop_24 : decode cX6_drop 24 = .ok (.return_, 1) := by decide +kernel
set_option maxRecDepth 20000 in
theorem ggX6_sumOf_X9_place : GoodIn wsX6_sumOf wsX9_place := goodIn_r _ [4] (by decide +kernel) (by decide +kernel)
set_option maxRecDepth 20000 in
theorem gX6_sumOf_X9_place_n30 : GoodIn wsX6_sumOf (wsX9_place) := ggX6_sumOf_X9_place
set_option maxRecDepth 20000 in
theorem ggX6_sumOf_X9_sumWith : GoodIn wsX6_sumOf wsX9_sumWith := goodIn_r _ [6, 7] (by decide +kernel) (by decide +kernel)
set_option maxRecDepth 20000 in
theorem gX6_sumOf_X9_sumWith_n65 : GoodIn wsX6_sumOf (wsX9_sumWith) := ggX6_sumOf_X9_sumWith
theorem dX6_sumOf_0 : decode cX6_sumOf 0 = .ok (.iconst 0, 1) := by decide +kernel
theorem dX6_sumOf_1 : decode cX6_sumOf 1 = .ok (.istore_n 3, 1) := by decide +kernel
theorem dX6_sumOf_2 : decode cX6_sumOf 2 = .ok (.iconst 0, 1) := by decide +kernel
theorem dX6_sumOf_3 : decode cX6_sumOf 3 = .ok (.istore 4, 2) := by decide +kernel
theorem dX6_sumOf_5 : decode cX6_sumOf 5 = .ok (.iload 4, 2) := by decide +kernel
theorem dX6_sumOf_7 : decode cX6_sumOf 7 = .ok (.iload_n 2, 1) := by decide +kernel
theorem dX6_sumOf_8 : decode cX6_sumOf 8 = .ok (.if_icmp .ge 25, 3) := by decide +kernel
theorem dX6_sumOf_11 : decode cX6_sumOf 11 = .ok (.iload_n 3, 1) := by decide +kernel
theorem dX6_sumOf_12 : decode cX6_sumOf 12 = .ok (.aload_n 0, 1) := by decide +kernel
theorem dX6_sumOf_13 : decode cX6_sumOf 13 = .ok (.getfield 15, 3) := by decide +kernel
theorem dX6_sumOf_16 : decode cX6_sumOf 16 = .ok (.iload_n 1, 1) := by decide +kernel
theorem dX6_sumOf_17 : decode cX6_sumOf 17 = .ok (.iload 4, 2) := by decide +kernel
theorem dX6_sumOf_19 : decode cX6_sumOf 19 = .ok (.invokestatic 30, 3) := by decide +kernel
theorem dX6_sumOf_22 : decode cX6_sumOf 22 = .ok (.iaload, 1) := by decide +kernel
theorem dX6_sumOf_23 : decode cX6_sumOf 23 = .ok (.invokestatic 65, 3) := by decide +kernel
theorem dX6_sumOf_26 : decode cX6_sumOf 26 = .ok (.istore_n 3, 1) := by decide +kernel
theorem dX6_sumOf_27 : decode cX6_sumOf 27 = .ok (.iinc 4 1, 3) := by decide +kernel
theorem dX6_sumOf_30 : decode cX6_sumOf 30 = .ok (.goto (-25), 3) := by decide +kernel
theorem dX6_sumOf_33 : decode cX6_sumOf 33 = .ok (.iload_n 3, 1) := by decide +kernel
theorem dX6_sumOf_34 : decode cX6_sumOf 34 = .ok (.ireturn, 1) := by decide +kernel
theorem dX7_init_0 : decode cX7_init 0 = .ok (.aload_n 0, 1) := by decide +kernel
theorem dX7_init_1 : decode cX7_init 1 = .ok (.invokespecial 3, 3) := by decide +kernel
theorem dX7_init_4 : decode cX7_init 4 = .ok (.aload_n 0, 1) := by decide +kernel
theorem dX7_init_5 : decode cX7_init 5 = .ok (.bipush 12, 2) := by decide +kernel
theorem dX7_init_7 : decode cX7_init 7 = .ok (.newarray .int, 2) := by decide +kernel
theorem dX7_init_9 : decode cX7_init 9 = .ok (.putfield 9, 3) := by decide +kernel
theorem dX7_init_12 : decode cX7_init 12 = .ok (.aload_n 0, 1) := by decide +kernel
theorem dX7_init_13 : decode cX7_init 13 = .ok (.bipush 12, 2) := by decide +kernel
theorem dX7_init_15 : decode cX7_init 15 = .ok (.newarray .int, 2) := by decide +kernel
theorem dX7_init_17 : decode cX7_init 17 = .ok (.putfield 15, 3) := by decide +kernel
theorem dX7_init_20 : decode cX7_init 20 = .ok (.aload_n 0, 1) := by decide +kernel
theorem dX7_init_21 : decode cX7_init 21 = .ok (.bipush 12, 2) := by decide +kernel
theorem dX7_init_23 : decode cX7_init 23 = .ok (.newarray .int, 2) := by decide +kernel
theorem dX7_init_25 : decode cX7_init 25 = .ok (.putfield 18, 3) := by decide +kernel
theorem dX7_init_28 : decode cX7_init 28 = .ok (.aload_n 0, 1) := by decide +kernel
theorem dX7_init_29 : decode cX7_init 29 = .ok (.bipush 12, 2) := by decide +kernel
theorem dX7_init_31 : decode cX7_init 31 = .ok (.newarray .int, 2) := by decide +kernel
theorem dX7_init_33 : decode cX7_init 33 = .ok (.putfield 21, 3) := by decide +kernel
theorem dX7_init_36 : decode cX7_init 36 = .ok (.aload_n 0, 1) := by decide +kernel
theorem dX7_init_37 : decode cX7_init 37 = .ok (.iconst (-1), 1) := by decide +kernel
theorem dX7_init_38 : decode cX7_init 38 = .ok (.putfield 24, 3) := by decide +kernel
theorem dX7_init_41 : decode cX7_init 41 = .ok (.aload_n 0, 1) := by decide +kernel
theorem dX7_init_42 : decode cX7_init 42 = .ok (.iconst (-1), 1) := by decide +kernel
theorem dX7_init_43 : decode cX7_init 43 = .ok (.putfield 28, 3) := by decide +kernel
theorem dX7_init_46 : decode cX7_init 46 = .ok (.return_, 1) := by decide +kernel
theorem dX7_forgetLate_0 : decode cX7_forgetLate 0 = .ok (.iconst 0, 1) := by decide +kernel
theorem dX7_forgetLate_1 : decode cX7_forgetLate 1 = .ok (.istore_n 1, 1) := by decide +kernel
theorem dX7_forgetLate_2 : decode cX7_forgetLate 2 = .ok (.iload_n 1, 1) := by decide +kernel
theorem dX7_forgetLate_3 : decode cX7_forgetLate 3 = .ok (.bipush 12, 2) := by decide +kernel
theorem dX7_forgetLate_5 : decode cX7_forgetLate 5 = .ok (.if_icmp .ge 23, 3) := by decide +kernel
theorem dX7_forgetLate_8 : decode cX7_forgetLate 8 = .ok (.aload_n 0, 1) := by decide +kernel
theorem dX7_forgetLate_9 : decode cX7_forgetLate 9 = .ok (.getfield 9, 3) := by decide +kernel
theorem dX7_forgetLate_12 : decode cX7_forgetLate 12 = .ok (.iload_n 1, 1) := by decide +kernel
theorem dX7_forgetLate_13 : decode cX7_forgetLate 13 = .ok (.iconst 0, 1) := by decide +kernel
theorem dX7_forgetLate_14 : decode cX7_forgetLate 14 = .ok (.iastore, 1) := by decide +kernel
theorem dX7_forgetLate_15 : decode cX7_forgetLate 15 = .ok (.aload_n 0, 1) := by decide +kernel
theorem dX7_forgetLate_16 : decode cX7_forgetLate 16 = .ok (.getfield 15, 3) := by decide +kernel
theorem dX7_forgetLate_19 : decode cX7_forgetLate 19 = .ok (.iload_n 1, 1) := by decide +kernel
theorem dX7_forgetLate_20 : decode cX7_forgetLate 20 = .ok (.iconst 0, 1) := by decide +kernel
theorem dX7_forgetLate_21 : decode cX7_forgetLate 21 = .ok (.iastore, 1) := by decide +kernel
theorem dX7_forgetLate_22 : decode cX7_forgetLate 22 = .ok (.iinc 1 1, 3) := by decide +kernel
theorem dX7_forgetLate_25 : decode cX7_forgetLate 25 = .ok (.goto (-23), 3) := by decide +kernel
theorem dX7_forgetLate_28 : decode cX7_forgetLate 28 = .ok (.return_, 1) := by decide +kernel
theorem dX8_init_0 : decode cX8_init 0 = .ok (.aload_n 0, 1) := by decide +kernel
theorem dX8_init_1 : decode cX8_init 1 = .ok (.invokespecial 1, 3) := by decide +kernel
theorem dX8_init_4 : decode cX8_init 4 = .ok (.aload_n 0, 1) := by decide +kernel
theorem dX8_init_5 : decode cX8_init 5 = .ok (.iconst 1, 1) := by decide +kernel
theorem dX8_init_6 : decode cX8_init 6 = .ok (.putfield 7, 3) := by decide +kernel
theorem dX8_init_9 : decode cX8_init 9 = .ok (.aload_n 0, 1) := by decide +kernel
theorem dX8_init_10 : decode cX8_init 10 = .ok (.iconst 1, 1) := by decide +kernel
theorem dX8_init_11 : decode cX8_init 11 = .ok (.putfield 13, 3) := by decide +kernel
theorem dX8_init_14 : decode cX8_init 14 = .ok (.aload_n 0, 1) := by decide +kernel
theorem dX8_init_15 : decode cX8_init 15 = .ok (.iconst 0, 1) := by decide +kernel
theorem dX8_init_16 : decode cX8_init 16 = .ok (.putfield 16, 3) := by decide +kernel
theorem dX8_init_19 : decode cX8_init 19 = .ok (.return_, 1) := by decide +kernel
theorem dX8_become_0 : decode cX8_become 0 = .ok (.aload_n 0, 1) := by decide +kernel
theorem dX8_become_1 : decode cX8_become 1 = .ok (.iload_n 1, 1) := by decide +kernel
theorem dX8_become_2 : decode cX8_become 2 = .ok (.putfield 7, 3) := by decide +kernel
theorem dX8_become_5 : decode cX8_become 5 = .ok (.aload_n 0, 1) := by decide +kernel
theorem dX8_become_6 : decode cX8_become 6 = .ok (.iload_n 2, 1) := by decide +kernel
theorem dX8_become_7 : decode cX8_become 7 = .ok (.putfield 13, 3) := by decide +kernel
theorem dX8_become_10 : decode cX8_become 10 = .ok (.aload_n 0, 1) := by decide +kernel
theorem dX8_become_11 : decode cX8_become 11 = .ok (.iload_n 3, 1) := by decide +kernel
theorem dX8_become_12 : decode cX8_become 12 = .ok (.putfield 16, 3) := by decide +kernel
theorem dX8_become_15 : decode cX8_become 15 = .ok (.return_, 1) := by decide +kernel
theorem dX8_isPiece_0 : decode cX8_isPiece 0 = .ok (.iload_n 1, 1) := by decide +kernel
theorem dX8_isPiece_1 : decode cX8_isPiece 1 = .ok (.ifCond .lt 15, 3) := by decide +kernel
theorem dX8_isPiece_4 : decode cX8_isPiece 4 = .ok (.iload_n 1, 1) := by decide +kernel
theorem dX8_isPiece_5 : decode cX8_isPiece 5 = .ok (.aload_n 0, 1) := by decide +kernel
theorem dX8_isPiece_6 : decode cX8_isPiece 6 = .ok (.getfield 7, 3) := by decide +kernel
theorem dX8_isPiece_9 : decode cX8_isPiece 9 = .ok (.if_icmp .ge 7, 3) := by decide +kernel
theorem dX8_isPiece_12 : decode cX8_isPiece 12 = .ok (.iconst 1, 1) := by decide +kernel
theorem dX8_isPiece_13 : decode cX8_isPiece 13 = .ok (.goto 4, 3) := by decide +kernel
theorem dX8_isPiece_16 : decode cX8_isPiece 16 = .ok (.iconst 0, 1) := by decide +kernel
theorem dX8_isPiece_17 : decode cX8_isPiece 17 = .ok (.ireturn, 1) := by decide +kernel
set_option maxRecDepth 20000 in
theorem ggX8_isBlock_X8_isPiece : GoodIn wsX8_isBlock wsX8_isPiece := goodIn_r _ [6, 7, 8, 9, 10] (by decide +kernel) (by decide +kernel)
set_option maxRecDepth 20000 in
theorem gX8_isBlock_X8_isPiece : GoodIn wsX8_isBlock (wsV RX8 19 RX8 yX8_isPiece wsX8_isPiece) := goodIn_app (goodIn_of _ (by decide +kernel)) ggX8_isBlock_X8_isPiece
theorem dX8_isBlock_0 : decode cX8_isBlock 0 = .ok (.aload_n 0, 1) := by decide +kernel
theorem dX8_isBlock_1 : decode cX8_isBlock 1 = .ok (.iload_n 1, 1) := by decide +kernel
theorem dX8_isBlock_2 : decode cX8_isBlock 2 = .ok (.invokevirtual 19, 3) := by decide +kernel
theorem dX8_isBlock_5 : decode cX8_isBlock 5 = .ok (.ifCond .eq 19, 3) := by decide +kernel
theorem dX8_isBlock_8 : decode cX8_isBlock 8 = .ok (.iload_n 2, 1) := by decide +kernel
theorem dX8_isBlock_9 : decode cX8_isBlock 9 = .ok (.ifCond .lt 15, 3) := by decide +kernel
theorem dX8_isBlock_12 : decode cX8_isBlock 12 = .ok (.iload_n 2, 1) := by decide +kernel
theorem dX8_isBlock_13 : decode cX8_isBlock 13 = .ok (.aload_n 0, 1) := by decide +kernel
theorem dX8_isBlock_14 : decode cX8_isBlock 14 = .ok (.getfield 13, 3) := by decide +kernel
theorem dX8_isBlock_17 : decode cX8_isBlock 17 = .ok (.if_icmp .ge 7, 3) := by decide +kernel
theorem dX8_isBlock_20 : decode cX8_isBlock 20 = .ok (.iconst 1, 1) := by decide +kernel
theorem dX8_isBlock_21 : decode cX8_isBlock 21 = .ok (.goto 4, 3) := by decide +kernel
theorem dX8_isBlock_24 : decode cX8_isBlock 24 = .ok (.iconst 0, 1) := by decide +kernel
theorem dX8_isBlock_25 : decode cX8_isBlock 25 = .ok (.ireturn, 1) := by decide +kernel
theorem dX8_allPieces_0 : decode cX8_allPieces 0 = .ok (.iconst 1, 1) := by decide +kernel
theorem dX8_allPieces_1 : decode cX8_allPieces 1 = .ok (.aload_n 0, 1) := by decide +kernel
theorem dX8_allPieces_2 : decode cX8_allPieces 2 = .ok (.getfield 7, 3) := by decide +kernel
theorem dX8_allPieces_5 : decode cX8_allPieces 5 = .ok (.ishl, 1) := by decide +kernel
theorem dX8_allPieces_6 : decode cX8_allPieces 6 = .ok (.iconst 1, 1) := by decide +kernel
theorem dX8_allPieces_7 : decode cX8_allPieces 7 = .ok (.isub, 1) := by decide +kernel
theorem dX8_allPieces_8 : decode cX8_allPieces 8 = .ok (.ireturn, 1) := by decide +kernel
theorem dX8_valueOf_0 : decode cX8_valueOf 0 = .ok (.aload_n 0, 1) := by decide +kernel
theorem dX8_valueOf_1 : decode cX8_valueOf 1 = .ok (.getfield 16, 3) := by decide +kernel
theorem dX8_valueOf_4 : decode cX8_valueOf 4 = .ok (.iconst 4, 1) := by decide +kernel
theorem dX8_valueOf_5 : decode cX8_valueOf 5 = .ok (.iload_n 1, 1) := by decide +kernel
theorem dX8_valueOf_6 : decode cX8_valueOf 6 = .ok (.imul, 1) := by decide +kernel
theorem dX8_valueOf_7 : decode cX8_valueOf 7 = .ok (.iadd, 1) := by decide +kernel
theorem dX8_valueOf_8 : decode cX8_valueOf 8 = .ok (.iload_n 2, 1) := by decide +kernel
theorem dX8_valueOf_9 : decode cX8_valueOf 9 = .ok (.iadd, 1) := by decide +kernel
theorem dX8_valueOf_10 : decode cX8_valueOf 10 = .ok (.istore_n 3, 1) := by decide +kernel
theorem dX8_valueOf_11 : decode cX8_valueOf 11 = .ok (.iload_n 3, 1) := by decide +kernel
theorem dX8_valueOf_12 : decode cX8_valueOf 12 = .ok (.ldc 23, 2) := by decide +kernel
theorem dX8_valueOf_14 : decode cX8_valueOf 14 = .ok (.imul, 1) := by decide +kernel
theorem dX8_valueOf_15 : decode cX8_valueOf 15 = .ok (.sipush 12345, 3) := by decide +kernel
theorem dX8_valueOf_18 : decode cX8_valueOf 18 = .ok (.iadd, 1) := by decide +kernel
theorem dX8_valueOf_19 : decode cX8_valueOf 19 = .ok (.istore_n 3, 1) := by decide +kernel
theorem dX8_valueOf_20 : decode cX8_valueOf 20 = .ok (.iload_n 3, 1) := by decide +kernel
theorem dX8_valueOf_21 : decode cX8_valueOf 21 = .ok (.iload_n 3, 1) := by decide +kernel
theorem dX8_valueOf_22 : decode cX8_valueOf 22 = .ok (.bipush 15, 2) := by decide +kernel
theorem dX8_valueOf_24 : decode cX8_valueOf 24 = .ok (.iushr, 1) := by decide +kernel
theorem dX8_valueOf_25 : decode cX8_valueOf 25 = .ok (.ixor, 1) := by decide +kernel
theorem dX8_valueOf_26 : decode cX8_valueOf 26 = .ok (.ireturn, 1) := by decide +kernel
set_option maxRecDepth 20000 in
theorem ggX8_sumOf_X8_valueOf : GoodIn wsX8_sumOf wsX8_valueOf := goodIn_r _ [6, 7, 8, 13, 14, 15] (by decide +kernel) (by decide +kernel)
set_option maxRecDepth 20000 in
theorem gX8_sumOf_X8_valueOf : GoodIn wsX8_sumOf (wsV RX8 24 RX8 yX8_valueOf wsX8_valueOf) := goodIn_app (goodIn_of _ (by decide +kernel)) ggX8_sumOf_X8_valueOf
set_option maxRecDepth 20000 in
theorem ggX8_sumOf_X9_sumWith : GoodIn wsX8_sumOf wsX9_sumWith := goodIn_r _ [11, 12] (by decide +kernel) (by decide +kernel)
set_option maxRecDepth 20000 in
theorem gX8_sumOf_X9_sumWith_n28 : GoodIn wsX8_sumOf (wsX9_sumWith) := ggX8_sumOf_X9_sumWith
theorem dX8_sumOf_0 : decode cX8_sumOf 0 = .ok (.iconst 0, 1) := by decide +kernel
theorem dX8_sumOf_1 : decode cX8_sumOf 1 = .ok (.istore_n 2, 1) := by decide +kernel
theorem dX8_sumOf_2 : decode cX8_sumOf 2 = .ok (.iconst 0, 1) := by decide +kernel
theorem dX8_sumOf_3 : decode cX8_sumOf 3 = .ok (.istore_n 3, 1) := by decide +kernel
theorem dX8_sumOf_4 : decode cX8_sumOf 4 = .ok (.iload_n 3, 1) := by decide +kernel
theorem dX8_sumOf_5 : decode cX8_sumOf 5 = .ok (.aload_n 0, 1) := by decide +kernel
theorem dX8_sumOf_6 : decode cX8_sumOf 6 = .ok (.getfield 13, 3) := by decide +kernel
theorem dX8_sumOf_9 : decode cX8_sumOf 9 = .ok (.if_icmp .ge 20, 3) := by decide +kernel
theorem dX8_sumOf_12 : decode cX8_sumOf 12 = .ok (.iload_n 2, 1) := by decide +kernel
theorem dX8_sumOf_13 : decode cX8_sumOf 13 = .ok (.aload_n 0, 1) := by decide +kernel
theorem dX8_sumOf_14 : decode cX8_sumOf 14 = .ok (.iload_n 1, 1) := by decide +kernel
theorem dX8_sumOf_15 : decode cX8_sumOf 15 = .ok (.iload_n 3, 1) := by decide +kernel
theorem dX8_sumOf_16 : decode cX8_sumOf 16 = .ok (.invokevirtual 24, 3) := by decide +kernel
theorem dX8_sumOf_19 : decode cX8_sumOf 19 = .ok (.invokestatic 28, 3) := by decide +kernel
theorem dX8_sumOf_22 : decode cX8_sumOf 22 = .ok (.istore_n 2, 1) := by decide +kernel
theorem dX8_sumOf_23 : decode cX8_sumOf 23 = .ok (.iinc 3 1, 3) := by decide +kernel
theorem dX8_sumOf_26 : decode cX8_sumOf 26 = .ok (.goto (-22), 3) := by decide +kernel
theorem dX8_sumOf_29 : decode cX8_sumOf 29 = .ok (.iload_n 2, 1) := by decide +kernel
theorem dX8_sumOf_30 : decode cX8_sumOf 30 = .ok (.ireturn, 1) := by decide +kernel
set_option maxRecDepth 20000 in
theorem ggX9_init_X2_init : GoodIn wsX9_init wsX2_init := goodIn_r _ [22, 23, 2, 3, 24, 25, 26, 27, 28, 29, 30, 31, 32, 33, 34, 35, 36, 37, 38, 39, 40, 41, 42, 43, 44, 45, 46, 47, 48, 49, 50, 51, 52, 53, 54, 55, 56, 57, 58, 59, 60, 61, 62, 63, 64, 65, 66, 67, 68, 69, 70, 71, 72, 73, 74, 75, 76, 77, 78, 79, 80, 81, 82, 83, 84, 115, 116, 117, 100, 101, 102, 103, 104, 105, 106, 107, 118, 119, 120, 121, 122, 123, 124, 125, 126, 127, 128, 129, 130, 131, 132, 133, 134, 135, 136, 137, 138, 139, 140, 141, 142, 143, 144, 145, 146, 147, 148, 149, 150, 151, 152, 153] (by decide +kernel) (by decide +kernel)
set_option maxRecDepth 20000 in
theorem gX9_init_X2_init : GoodIn wsX9_init (wsX2_init) := ggX9_init_X2_init
set_option maxRecDepth 20000 in
theorem ggX9_init_X0_init : GoodIn wsX9_init wsX0_init := goodIn_r _ [87, 88, 2, 3, 89, 112] (by decide +kernel) (by decide +kernel)
set_option maxRecDepth 20000 in
theorem gX9_init_X0_init : GoodIn wsX9_init (wsX0_init) := ggX9_init_X0_init
set_option maxRecDepth 20000 in
theorem ggX9_init_X4_init : GoodIn wsX9_init wsX4_init := goodIn_r _ [92, 93, 2, 3, 94, 113] (by decide +kernel) (by decide +kernel)
set_option maxRecDepth 20000 in
theorem gX9_init_X4_init : GoodIn wsX9_init (wsX4_init) := ggX9_init_X4_init
set_option maxRecDepth 20000 in
theorem ggX9_init_X1_init : GoodIn wsX9_init wsX1_init := goodIn_r _ [97, 98, 2, 3, 99, 114] (by decide +kernel) (by decide +kernel)
set_option maxRecDepth 20000 in
theorem gX9_init_X1_init : GoodIn wsX9_init (wsX1_init) := ggX9_init_X1_init
theorem dX9_init_0 : decode cX9_init 0 = .ok (.aload_n 0, 1) := by decide +kernel
theorem dX9_init_1 : decode cX9_init 1 = .ok (.invokespecial 1, 3) := by decide +kernel
theorem dX9_init_4 : decode cX9_init 4 = .ok (.aload_n 0, 1) := by decide +kernel
theorem dX9_init_5 : decode cX9_init 5 = .ok (.new 7, 3) := by decide +kernel
theorem dX9_init_8 : decode cX9_init 8 = .ok (.dup, 1) := by decide +kernel
theorem dX9_init_9 : decode cX9_init 9 = .ok (.invokespecial 9, 3) := by decide +kernel
theorem dX9_init_12 : decode cX9_init 12 = .ok (.putfield 10, 3) := by decide +kernel
theorem dX9_init_15 : decode cX9_init 15 = .ok (.aload_n 0, 1) := by decide +kernel
theorem dX9_init_16 : decode cX9_init 16 = .ok (.new 16, 3) := by decide +kernel
theorem dX9_init_19 : decode cX9_init 19 = .ok (.dup, 1) := by decide +kernel
theorem dX9_init_20 : decode cX9_init 20 = .ok (.aload_n 0, 1) := by decide +kernel
theorem dX9_init_21 : decode cX9_init 21 = .ok (.getfield 10, 3) := by decide +kernel
theorem dX9_init_24 : decode cX9_init 24 = .ok (.invokespecial 18, 3) := by decide +kernel
theorem dX9_init_27 : decode cX9_init 27 = .ok (.putfield 21, 3) := by decide +kernel
theorem dX9_init_30 : decode cX9_init 30 = .ok (.aload_n 0, 1) := by decide +kernel
theorem dX9_init_31 : decode cX9_init 31 = .ok (.new 25, 3) := by decide +kernel
theorem dX9_init_34 : decode cX9_init 34 = .ok (.dup, 1) := by decide +kernel
theorem dX9_init_35 : decode cX9_init 35 = .ok (.aload_n 0, 1) := by decide +kernel
theorem dX9_init_36 : decode cX9_init 36 = .ok (.getfield 10, 3) := by decide +kernel
theorem dX9_init_39 : decode cX9_init 39 = .ok (.invokespecial 27, 3) := by decide +kernel
theorem dX9_init_42 : decode cX9_init 42 = .ok (.putfield 28, 3) := by decide +kernel
theorem dX9_init_45 : decode cX9_init 45 = .ok (.aload_n 0, 1) := by decide +kernel
theorem dX9_init_46 : decode cX9_init 46 = .ok (.new 32, 3) := by decide +kernel
theorem dX9_init_49 : decode cX9_init 49 = .ok (.dup, 1) := by decide +kernel
theorem dX9_init_50 : decode cX9_init 50 = .ok (.aload_n 0, 1) := by decide +kernel
theorem dX9_init_51 : decode cX9_init 51 = .ok (.getfield 10, 3) := by decide +kernel
theorem dX9_init_54 : decode cX9_init 54 = .ok (.invokespecial 34, 3) := by decide +kernel
theorem dX9_init_57 : decode cX9_init 57 = .ok (.putfield 35, 3) := by decide +kernel
theorem dX9_init_60 : decode cX9_init 60 = .ok (.return_, 1) := by decide +kernel
set_option maxRecDepth 20000 in
theorem ggX9_file_X9_isWithin : GoodIn wsX9_file wsX9_isWithin := goodIn_r _ [7] (by decide +kernel) (by decide +kernel)
set_option maxRecDepth 20000 in
theorem gX9_file_X9_isWithin : GoodIn wsX9_file (va_wsS RX9 43 yX9_isWithin wsX9_isWithin) := goodIn_app (goodIn_of _ (by decide +kernel)) ggX9_file_X9_isWithin
set_option maxRecDepth 20000 in
theorem ggX9_file_X8_become : GoodIn wsX9_file wsX8_become := goodIn_r _ [12, 13, 14, 15, 28, 29, 30] (by decide +kernel) (by decide +kernel)
set_option maxRecDepth 20000 in
theorem gX9_file_X8_become : GoodIn wsX9_file (wsV RX9 51 RX8 yX8_become wsX8_become) := goodIn_app (goodIn_of _ (by decide +kernel)) ggX9_file_X8_become
theorem dX9_file_0 : decode cX9_file 0 = .ok (.aload_n 0, 1) := by decide +kernel
theorem dX9_file_1 : decode cX9_file 1 = .ok (.getfield 10, 3) := by decide +kernel
theorem dX9_file_4 : decode cX9_file 4 = .ok (.getfield 39, 3) := by decide +kernel
theorem dX9_file_7 : decode cX9_file 7 = .ok (.ifCond .gt 22, 3) := by decide +kernel
theorem dX9_file_10 : decode cX9_file 10 = .ok (.iload_n 1, 1) := by decide +kernel
theorem dX9_file_11 : decode cX9_file 11 = .ok (.iconst 1, 1) := by decide +kernel
theorem dX9_file_12 : decode cX9_file 12 = .ok (.bipush 24, 2) := by decide +kernel
theorem dX9_file_14 : decode cX9_file 14 = .ok (.invokestatic 43, 3) := by decide +kernel
theorem dX9_file_17 : decode cX9_file 17 = .ok (.ifCond .eq 12, 3) := by decide +kernel
theorem dX9_file_20 : decode cX9_file 20 = .ok (.iload_n 2, 1) := by decide +kernel
theorem dX9_file_21 : decode cX9_file 21 = .ok (.iconst 1, 1) := by decide +kernel
theorem dX9_file_22 : decode cX9_file 22 = .ok (.iconst 4, 1) := by decide +kernel
theorem dX9_file_23 : decode cX9_file 23 = .ok (.invokestatic 43, 3) := by decide +kernel
theorem dX9_file_26 : decode cX9_file 26 = .ok (.ifCond .ne 5, 3) := by decide +kernel
theorem dX9_file_29 : decode cX9_file 29 = .ok (.iconst 0, 1) := by decide +kernel
theorem dX9_file_30 : decode cX9_file 30 = .ok (.ireturn, 1) := by decide +kernel
theorem dX9_file_31 : decode cX9_file 31 = .ok (.aload_n 0, 1) := by decide +kernel
theorem dX9_file_32 : decode cX9_file 32 = .ok (.getfield 10, 3) := by decide +kernel
theorem dX9_file_35 : decode cX9_file 35 = .ok (.getfield 47, 3) := by decide +kernel
theorem dX9_file_38 : decode cX9_file 38 = .ok (.iload_n 1, 1) := by decide +kernel
theorem dX9_file_39 : decode cX9_file 39 = .ok (.iload_n 2, 1) := by decide +kernel
theorem dX9_file_40 : decode cX9_file 40 = .ok (.iload_n 3, 1) := by decide +kernel
theorem dX9_file_41 : decode cX9_file 41 = .ok (.invokevirtual 51, 3) := by decide +kernel
theorem dX9_file_44 : decode cX9_file 44 = .ok (.iconst 1, 1) := by decide +kernel
theorem dX9_file_45 : decode cX9_file 45 = .ok (.ireturn, 1) := by decide +kernel
set_option maxRecDepth 20000 in
theorem ggX9_value_X8_isBlock : GoodIn wsX9_value wsX8_isBlock := goodIn_r _ [7, 8, 9, 10, 11, 6, 12, 13, 32, 33, 34] (by decide +kernel) (by decide +kernel)
set_option maxRecDepth 20000 in
theorem gX9_value_X8_isBlock : GoodIn wsX9_value (wsV RX9 57 RX8 yX8_isBlock wsX8_isBlock) := goodIn_app (goodIn_of _ (by decide +kernel)) ggX9_value_X8_isBlock
set_option maxRecDepth 20000 in
theorem ggX9_value_X8_valueOf : GoodIn wsX9_value wsX8_valueOf := goodIn_r _ [17, 18, 19, 32, 33, 34] (by decide +kernel) (by decide +kernel)
set_option maxRecDepth 20000 in
theorem gX9_value_X8_valueOf : GoodIn wsX9_value (wsV RX9 61 RX8 yX8_valueOf wsX8_valueOf) := goodIn_app (goodIn_of _ (by decide +kernel)) ggX9_value_X8_valueOf
theorem dX9_value_0 : decode cX9_value 0 = .ok (.aload_n 0, 1) := by decide +kernel
theorem dX9_value_1 : decode cX9_value 1 = .ok (.getfield 10, 3) := by decide +kernel
theorem dX9_value_4 : decode cX9_value 4 = .ok (.getfield 47, 3) := by decide +kernel
theorem dX9_value_7 : decode cX9_value 7 = .ok (.iload_n 1, 1) := by decide +kernel
theorem dX9_value_8 : decode cX9_value 8 = .ok (.iload_n 2, 1) := by decide +kernel
theorem dX9_value_9 : decode cX9_value 9 = .ok (.invokevirtual 57, 3) := by decide +kernel
theorem dX9_value_12 : decode cX9_value 12 = .ok (.ifCond .eq 18, 3) := by decide +kernel
theorem dX9_value_15 : decode cX9_value 15 = .ok (.aload_n 0, 1) := by decide +kernel
theorem dX9_value_16 : decode cX9_value 16 = .ok (.getfield 10, 3) := by decide +kernel
theorem dX9_value_19 : decode cX9_value 19 = .ok (.getfield 47, 3) := by decide +kernel
theorem dX9_value_22 : decode cX9_value 22 = .ok (.iload_n 1, 1) := by decide +kernel
theorem dX9_value_23 : decode cX9_value 23 = .ok (.iload_n 2, 1) := by decide +kernel
theorem dX9_value_24 : decode cX9_value 24 = .ok (.invokevirtual 61, 3) := by decide +kernel
theorem dX9_value_27 : decode cX9_value 27 = .ok (.goto 4, 3) := by decide +kernel
theorem dX9_value_30 : decode cX9_value 30 = .ok (.iconst 0, 1) := by decide +kernel
theorem dX9_value_31 : decode cX9_value 31 = .ok (.ireturn, 1) := by decide +kernel
set_option maxRecDepth 20000 in
theorem ggX9_sum_X8_isPiece : GoodIn wsX9_sum wsX8_isPiece := goodIn_r _ [7, 8, 36, 37, 38] (by decide +kernel) (by decide +kernel)
set_option maxRecDepth 20000 in
theorem gX9_sum_X8_isPiece : GoodIn wsX9_sum (wsV RX9 65 RX8 yX8_isPiece wsX8_isPiece) := goodIn_app (goodIn_of _ (by decide +kernel)) ggX9_sum_X8_isPiece
set_option maxRecDepth 20000 in
theorem ggX9_sum_X8_sumOf : GoodIn wsX9_sum wsX8_sumOf := goodIn_r _ [12, 13, 14, 15, 16, 6, 17, 18, 19, 20, 21, 22, 23, 36, 37, 38] (by decide +kernel) (by decide +kernel)
set_option maxRecDepth 20000 in
theorem gX9_sum_X8_sumOf : GoodIn wsX9_sum (wsV RX9 69 RX8 yX8_sumOf wsX8_sumOf) := goodIn_app (goodIn_of _ (by decide +kernel)) ggX9_sum_X8_sumOf
theorem dX9_sum_0 : decode cX9_sum 0 = .ok (.aload_n 0, 1) := by decide +kernel
theorem dX9_sum_1 : decode cX9_sum 1 = .ok (.getfield 10, 3) := by decide +kernel
theorem dX9_sum_4 : decode cX9_sum 4 = .ok (.getfield 47, 3) := by decide +kernel
theorem dX9_sum_7 : decode cX9_sum 7 = .ok (.iload_n 1, 1) := by decide +kernel
theorem dX9_sum_8 : decode cX9_sum 8 = .ok (.invokevirtual 65, 3) := by decide +kernel
theorem dX9_sum_11 : decode cX9_sum 11 = .ok (.ifCond .eq 17, 3) := by decide +kernel
theorem dX9_sum_14 : decode cX9_sum 14 = .ok (.aload_n 0, 1) := by decide +kernel
theorem dX9_sum_15 : decode cX9_sum 15 = .ok (.getfield 10, 3) := by decide +kernel
theorem dX9_sum_18 : decode cX9_sum 18 = .ok (.getfield 47, 3) := by decide +kernel
theorem dX9_sum_21 : decode cX9_sum 21 = .ok (.iload_n 1, 1) := by decide +kernel
theorem dX9_sum_22 : decode cX9_sum 22 = .ok (.invokevirtual 69, 3) := by decide +kernel
theorem dX9_sum_25 : decode cX9_sum 25 = .ok (.goto 4, 3) := by decide +kernel
theorem dX9_sum_28 : decode cX9_sum 28 = .ok (.iconst 0, 1) := by decide +kernel
theorem dX9_sum_29 : decode cX9_sum 29 = .ok (.ireturn, 1) := by decide +kernel
set_option maxRecDepth 20000 in
theorem ggX9_peer_X9_isWithin : GoodIn wsX9_peer wsX9_isWithin := goodIn_r _ [6] (by decide +kernel) (by decide +kernel)
set_option maxRecDepth 20000 in
theorem gX9_peer_X9_isWithin : GoodIn wsX9_peer (va_wsS RX9 43 yX9_isWithin wsX9_isWithin) := goodIn_app (goodIn_of _ (by decide +kernel)) ggX9_peer_X9_isWithin
set_option maxRecDepth 20000 in
theorem ggX9_peer_X2_takeIn : GoodIn wsX9_peer wsX2_takeIn := goodIn_r _ [11, 12, 13, 14, 15, 16, 17, 18, 19, 20, 21, 22, 23, 24, 25, 26, 27, 28, 29, 30, 5, 31, 32, 33, 34, 35, 36, 37, 38, 39, 40, 41, 42, 43, 48, 49, 50, 51, 52, 53, 54, 55, 56, 57, 58, 59, 60, 61, 62, 63, 64, 65, 66, 67, 68, 69, 70, 71, 72, 73, 74, 75, 76, 77] (by decide +kernel) (by decide +kernel)
set_option maxRecDepth 20000 in
theorem gX9_peer_X2_takeIn : GoodIn wsX9_peer (wsV RX9 73 RX2 yX2_takeIn wsX2_takeIn) := goodIn_app (goodIn_of _ (by decide +kernel)) ggX9_peer_X2_takeIn
theorem dX9_peer_0 : decode cX9_peer 0 = .ok (.iload_n 1, 1) := by decide +kernel
theorem dX9_peer_1 : decode cX9_peer 1 = .ok (.iconst 0, 1) := by decide +kernel
theorem dX9_peer_2 : decode cX9_peer 2 = .ok (.iconst 5, 1) := by decide +kernel
theorem dX9_peer_3 : decode cX9_peer 3 = .ok (.invokestatic 43, 3) := by decide +kernel
theorem dX9_peer_6 : decode cX9_peer 6 = .ok (.ifCond .eq 27, 3) := by decide +kernel
theorem dX9_peer_9 : decode cX9_peer 9 = .ok (.iload_n 2, 1) := by decide +kernel
theorem dX9_peer_10 : decode cX9_peer 10 = .ok (.iconst 1, 1) := by decide +kernel
theorem dX9_peer_11 : decode cX9_peer 11 = .ok (.bipush 8, 2) := by decide +kernel
theorem dX9_peer_13 : decode cX9_peer 13 = .ok (.invokestatic 43, 3) := by decide +kernel
theorem dX9_peer_16 : decode cX9_peer 16 = .ok (.ifCond .eq 17, 3) := by decide +kernel
theorem dX9_peer_19 : decode cX9_peer 19 = .ok (.iload_n 3, 1) := by decide +kernel
theorem dX9_peer_20 : decode cX9_peer 20 = .ok (.iconst 1, 1) := by decide +kernel
theorem dX9_peer_21 : decode cX9_peer 21 = .ok (.bipush 8, 2) := by decide +kernel
theorem dX9_peer_23 : decode cX9_peer 23 = .ok (.invokestatic 43, 3) := by decide +kernel
theorem dX9_peer_26 : decode cX9_peer 26 = .ok (.ifCond .eq 7, 3) := by decide +kernel
theorem dX9_peer_29 : decode cX9_peer 29 = .ok (.iconst 1, 1) := by decide +kernel
theorem dX9_peer_30 : decode cX9_peer 30 = .ok (.goto 4, 3) := by decide +kernel
theorem dX9_peer_33 : decode cX9_peer 33 = .ok (.iconst 0, 1) := by decide +kernel
theorem dX9_peer_34 : decode cX9_peer 34 = .ok (.istore 4, 2) := by decide +kernel
theorem dX9_peer_36 : decode cX9_peer 36 = .ok (.iload 4, 2) := by decide +kernel
theorem dX9_peer_38 : decode cX9_peer 38 = .ok (.ifCond .eq 15, 3) := by decide +kernel
theorem dX9_peer_41 : decode cX9_peer 41 = .ok (.aload_n 0, 1) := by decide +kernel
theorem dX9_peer_42 : decode cX9_peer 42 = .ok (.getfield 10, 3) := by decide +kernel
theorem dX9_peer_45 : decode cX9_peer 45 = .ok (.getfield 39, 3) := by decide +kernel
theorem dX9_peer_48 : decode cX9_peer 48 = .ok (.bipush 12, 2) := by decide +kernel
theorem dX9_peer_50 : decode cX9_peer 50 = .ok (.if_icmp .lt 5, 3) := by decide +kernel
theorem dX9_peer_53 : decode cX9_peer 53 = .ok (.iconst (-1), 1) := by decide +kernel
theorem dX9_peer_54 : decode cX9_peer 54 = .ok (.ireturn, 1) := by decide +kernel
theorem dX9_peer_55 : decode cX9_peer 55 = .ok (.aload_n 0, 1) := by decide +kernel
theorem dX9_peer_56 : decode cX9_peer 56 = .ok (.getfield 10, 3) := by decide +kernel
theorem dX9_peer_59 : decode cX9_peer 59 = .ok (.iload_n 1, 1) := by decide +kernel
theorem dX9_peer_60 : decode cX9_peer 60 = .ok (.iload_n 2, 1) := by decide +kernel
theorem dX9_peer_61 : decode cX9_peer 61 = .ok (.iload_n 3, 1) := by decide +kernel
theorem dX9_peer_62 : decode cX9_peer 62 = .ok (.invokevirtual 73, 3) := by decide +kernel
theorem dX9_peer_65 : decode cX9_peer 65 = .ok (.ireturn, 1) := by decide +kernel
set_option maxRecDepth 20000 in
theorem ggX9_often_X2_isMember : GoodIn wsX9_often wsX2_isMember := goodIn_r _ [9, 10, 19, 20, 21, 22, 23, 24, 25, 26] (by decide +kernel) (by decide +kernel)
set_option maxRecDepth 20000 in
theorem gX9_often_X2_isMember : GoodIn wsX9_often (wsV RX9 77 RX2 yX2_isMember wsX2_isMember) := goodIn_app (goodIn_of _ (by decide +kernel)) ggX9_often_X2_isMember
set_option maxRecDepth 20000 in
theorem ggX9_often_X9_isWithin : GoodIn wsX9_often wsX9_isWithin := goodIn_r _ [14] (by decide +kernel) (by decide +kernel)
set_option maxRecDepth 20000 in
theorem gX9_often_X9_isWithin : GoodIn wsX9_often (va_wsS RX9 43 yX9_isWithin wsX9_isWithin) := goodIn_app (goodIn_of _ (by decide +kernel)) ggX9_often_X9_isWithin
theorem dX9_often_0 : decode cX9_often 0 = .ok (.aload_n 0, 1) := by decide +kernel
theorem dX9_often_1 : decode cX9_often 1 = .ok (.getfield 10, 3) := by decide +kernel
theorem dX9_often_4 : decode cX9_often 4 = .ok (.iload_n 1, 1) := by decide +kernel
theorem dX9_often_5 : decode cX9_often 5 = .ok (.invokevirtual 77, 3) := by decide +kernel
theorem dX9_often_8 : decode cX9_often 8 = .ok (.ifCond .eq 29, 3) := by decide +kernel
theorem dX9_often_11 : decode cX9_often 11 = .ok (.iload_n 2, 1) := by decide +kernel
theorem dX9_often_12 : decode cX9_often 12 = .ok (.iconst 1, 1) := by decide +kernel
theorem dX9_often_13 : decode cX9_often 13 = .ok (.bipush 100, 2) := by decide +kernel
theorem dX9_often_15 : decode cX9_often 15 = .ok (.invokestatic 43, 3) := by decide +kernel
theorem dX9_often_18 : decode cX9_often 18 = .ok (.ifCond .eq 19, 3) := by decide +kernel
theorem dX9_often_21 : decode cX9_often 21 = .ok (.aload_n 0, 1) := by decide +kernel
theorem dX9_often_22 : decode cX9_often 22 = .ok (.getfield 10, 3) := by decide +kernel
theorem dX9_often_25 : decode cX9_often 25 = .ok (.getfield 80, 3) := by decide +kernel
theorem dX9_often_28 : decode cX9_often 28 = .ok (.iload_n 1, 1) := by decide +kernel
theorem dX9_often_29 : decode cX9_often 29 = .ok (.aaload, 1) := by decide +kernel
theorem dX9_often_30 : decode cX9_often 30 = .ok (.getfield 84, 3) := by decide +kernel
theorem dX9_often_33 : decode cX9_often 33 = .ok (.iconst 3, 1) := by decide +kernel
theorem dX9_often_34 : decode cX9_often 34 = .ok (.if_icmp .eq 5, 3) := by decide +kernel
theorem dX9_often_37 : decode cX9_often 37 = .ok (.iconst 0, 1) := by decide +kernel
theorem dX9_often_38 : decode cX9_often 38 = .ok (.ireturn, 1) := by decide +kernel
theorem dX9_often_39 : decode cX9_often 39 = .ok (.aload_n 0, 1) := by decide +kernel
theorem dX9_often_40 : decode cX9_often 40 = .ok (.getfield 10, 3) := by decide +kernel
theorem dX9_often_43 : decode cX9_often 43 = .ok (.getfield 80, 3) := by decide +kernel
theorem dX9_often_46 : decode cX9_often 46 = .ok (.iload_n 1, 1) := by decide +kernel
theorem dX9_often_47 : decode cX9_often 47 = .ok (.aaload, 1) := by decide +kernel
theorem dX9_often_48 : decode cX9_often 48 = .ok (.iload_n 2, 1) := by decide +kernel
theorem dX9_often_49 : decode cX9_often 49 = .ok (.putfield 89, 3) := by decide +kernel
theorem dX9_often_52 : decode cX9_often 52 = .ok (.iconst 1, 1) := by decide +kernel
theorem dX9_often_53 : decode cX9_often 53 = .ok (.ireturn, 1) := by decide +kernel
set_option maxRecDepth 20000 in
theorem ggX9_meet_X2_areTwo : GoodIn wsX9_meet wsX2_areTwo := goodIn_r _ [9, 10, 11, 12, 8, 13, 14, 23, 24, 25, 26, 27, 28, 29, 30] (by decide +kernel) (by decide +kernel)
set_option maxRecDepth 20000 in
theorem gX9_meet_X2_areTwo : GoodIn wsX9_meet (wsV RX9 92 RX2 yX2_areTwo wsX2_areTwo) := goodIn_app (goodIn_of _ (by decide +kernel)) ggX9_meet_X2_areTwo
set_option maxRecDepth 20000 in
theorem ggX9_meet_X9_isIn : GoodIn wsX9_meet wsX9_isIn := goodIn_r _ [18] (by decide +kernel) (by decide +kernel)
set_option maxRecDepth 20000 in
theorem gX9_meet_X9_isIn : GoodIn wsX9_meet (va_wsS RX9 104 yX9_isIn wsX9_isIn) := goodIn_app (goodIn_of _ (by decide +kernel)) ggX9_meet_X9_isIn
theorem dX9_meet_0 : decode cX9_meet 0 = .ok (.aload_n 0, 1) := by decide +kernel
theorem dX9_meet_1 : decode cX9_meet 1 = .ok (.getfield 10, 3) := by decide +kernel
theorem dX9_meet_4 : decode cX9_meet 4 = .ok (.iload_n 1, 1) := by decide +kernel
theorem dX9_meet_5 : decode cX9_meet 5 = .ok (.iload_n 2, 1) := by decide +kernel
theorem dX9_meet_6 : decode cX9_meet 6 = .ok (.invokevirtual 92, 3) := by decide +kernel
theorem dX9_meet_9 : decode cX9_meet 9 = .ok (.ifCond .eq 25, 3) := by decide +kernel
theorem dX9_meet_12 : decode cX9_meet 12 = .ok (.aload_n 0, 1) := by decide +kernel
theorem dX9_meet_13 : decode cX9_meet 13 = .ok (.getfield 10, 3) := by decide +kernel
theorem dX9_meet_16 : decode cX9_meet 16 = .ok (.getfield 80, 3) := by decide +kernel
theorem dX9_meet_19 : decode cX9_meet 19 = .ok (.iload_n 1, 1) := by decide +kernel
theorem dX9_meet_20 : decode cX9_meet 20 = .ok (.aaload, 1) := by decide +kernel
theorem dX9_meet_21 : decode cX9_meet 21 = .ok (.getfield 95, 3) := by decide +kernel
theorem dX9_meet_24 : decode cX9_meet 24 = .ok (.getfield 99, 3) := by decide +kernel
theorem dX9_meet_27 : decode cX9_meet 27 = .ok (.iload_n 2, 1) := by decide +kernel
theorem dX9_meet_28 : decode cX9_meet 28 = .ok (.invokestatic 104, 3) := by decide +kernel
theorem dX9_meet_31 : decode cX9_meet 31 = .ok (.ifCond .eq 5, 3) := by decide +kernel
theorem dX9_meet_34 : decode cX9_meet 34 = .ok (.iconst 0, 1) := by decide +kernel
theorem dX9_meet_35 : decode cX9_meet 35 = .ok (.ireturn, 1) := by decide +kernel
theorem dX9_meet_36 : decode cX9_meet 36 = .ok (.aload_n 0, 1) := by decide +kernel
theorem dX9_meet_37 : decode cX9_meet 37 = .ok (.getfield 10, 3) := by decide +kernel
theorem dX9_meet_40 : decode cX9_meet 40 = .ok (.getfield 80, 3) := by decide +kernel
theorem dX9_meet_43 : decode cX9_meet 43 = .ok (.iload_n 1, 1) := by decide +kernel
theorem dX9_meet_44 : decode cX9_meet 44 = .ok (.aaload, 1) := by decide +kernel
theorem dX9_meet_45 : decode cX9_meet 45 = .ok (.getfield 95, 3) := by decide +kernel
theorem dX9_meet_48 : decode cX9_meet 48 = .ok (.dup, 1) := by decide +kernel
theorem dX9_meet_49 : decode cX9_meet 49 = .ok (.getfield 99, 3) := by decide +kernel
theorem dX9_meet_52 : decode cX9_meet 52 = .ok (.iconst 1, 1) := by decide +kernel
theorem dX9_meet_53 : decode cX9_meet 53 = .ok (.iload_n 2, 1) := by decide +kernel
theorem dX9_meet_54 : decode cX9_meet 54 = .ok (.ishl, 1) := by decide +kernel
theorem dX9_meet_55 : decode cX9_meet 55 = .ok (.ior, 1) := by decide +kernel
theorem dX9_meet_56 : decode cX9_meet 56 = .ok (.putfield 99, 3) := by decide +kernel
theorem dX9_meet_59 : decode cX9_meet 59 = .ok (.aload_n 0, 1) := by decide +kernel
theorem dX9_meet_60 : decode cX9_meet 60 = .ok (.getfield 10, 3) := by decide +kernel
theorem dX9_meet_63 : decode cX9_meet 63 = .ok (.getfield 80, 3) := by decide +kernel
theorem dX9_meet_66 : decode cX9_meet 66 = .ok (.iload_n 2, 1) := by decide +kernel
theorem dX9_meet_67 : decode cX9_meet 67 = .ok (.aaload, 1) := by decide +kernel
theorem dX9_meet_68 : decode cX9_meet 68 = .ok (.getfield 95, 3) := by decide +kernel
theorem dX9_meet_71 : decode cX9_meet 71 = .ok (.dup, 1) := by decide +kernel
theorem dX9_meet_72 : decode cX9_meet 72 = .ok (.getfield 99, 3) := by decide +kernel
theorem dX9_meet_75 : decode cX9_meet 75 = .ok (.iconst 1, 1) := by decide +kernel
theorem dX9_meet_76 : decode cX9_meet 76 = .ok (.iload_n 1, 1) := by decide +kernel
theorem dX9_meet_77 : decode cX9_meet 77 = .ok (.ishl, 1) := by decide +kernel
theorem dX9_meet_78 : decode cX9_meet 78 = .ok (.ior, 1) := by decide +kernel
theorem dX9_meet_79 : decode cX9_meet 79 = .ok (.putfield 99, 3) := by decide +kernel
theorem dX9_meet_82 : decode cX9_meet 82 = .ok (.iconst 1, 1) := by decide +kernel
theorem dX9_meet_83 : decode cX9_meet 83 = .ok (.ireturn, 1) := by decide +kernel
set_option maxRecDepth 20000 in
theorem ggX9_leave_X2_isMember : GoodIn wsX9_leave wsX2_isMember := goodIn_r _ [7, 8, 57, 58, 59, 60, 61, 62, 63, 64] (by decide +kernel) (by decide +kernel)
set_option maxRecDepth 20000 in
theorem gX9_leave_X2_isMember : GoodIn wsX9_leave (wsV RX9 77 RX2 yX2_isMember wsX2_isMember) := goodIn_app (goodIn_of _ (by decide +kernel)) ggX9_leave_X2_isMember
set_option maxRecDepth 20000 in
theorem ggX9_leave_X9_isIn : GoodIn wsX9_leave wsX9_isIn := goodIn_r _ [12] (by decide +kernel) (by decide +kernel)
set_option maxRecDepth 20000 in
theorem gX9_leave_X9_isIn : GoodIn wsX9_leave (va_wsS RX9 104 yX9_isIn wsX9_isIn) := goodIn_app (goodIn_of _ (by decide +kernel)) ggX9_leave_X9_isIn
set_option maxRecDepth 20000 in
theorem ggX9_leave_X2_letGo : GoodIn wsX9_leave wsX2_letGo := goodIn_r _ [16, 17, 18, 19, 20, 8, 21, 22, 23, 6, 24, 25, 26, 27, 28, 29, 30, 31, 32, 33, 34, 35, 36, 37, 38, 39, 40, 11, 41, 42, 43, 44, 45, 46, 47, 48, 49, 50, 51, 52, 57, 58, 59, 60, 61, 62, 63, 64, 65, 66, 67, 68, 69, 70, 71, 72, 73, 74, 75, 76, 77, 78, 79, 80, 81, 82, 83, 84, 85, 86, 87, 88, 89, 90, 91, 92, 93, 94, 95, 96, 97, 98, 99, 100] (by decide +kernel) (by decide +kernel)
set_option maxRecDepth 20000 in
theorem gX9_leave_X2_letGo : GoodIn wsX9_leave (wsV RX9 110 RX2 yX2_letGo wsX2_letGo) := goodIn_app (goodIn_of _ (by decide +kernel)) ggX9_leave_X2_letGo
theorem dX9_leave_0 : decode cX9_leave 0 = .ok (.aload_n 0, 1) := by decide +kernel
theorem dX9_leave_1 : decode cX9_leave 1 = .ok (.getfield 10, 3) := by decide +kernel
theorem dX9_leave_4 : decode cX9_leave 4 = .ok (.iload_n 1, 1) := by decide +kernel
theorem dX9_leave_5 : decode cX9_leave 5 = .ok (.invokevirtual 77, 3) := by decide +kernel
theorem dX9_leave_8 : decode cX9_leave 8 = .ok (.ifCond .eq 17, 3) := by decide +kernel
theorem dX9_leave_11 : decode cX9_leave 11 = .ok (.aload_n 0, 1) := by decide +kernel
theorem dX9_leave_12 : decode cX9_leave 12 = .ok (.getfield 10, 3) := by decide +kernel
theorem dX9_leave_15 : decode cX9_leave 15 = .ok (.getfield 107, 3) := by decide +kernel
theorem dX9_leave_18 : decode cX9_leave 18 = .ok (.iload_n 1, 1) := by decide +kernel
theorem dX9_leave_19 : decode cX9_leave 19 = .ok (.invokestatic 104, 3) := by decide +kernel
theorem dX9_leave_22 : decode cX9_leave 22 = .ok (.ifCond .ne 5, 3) := by decide +kernel
theorem dX9_leave_25 : decode cX9_leave 25 = .ok (.iconst 0, 1) := by decide +kernel
theorem dX9_leave_26 : decode cX9_leave 26 = .ok (.ireturn, 1) := by decide +kernel
theorem dX9_leave_27 : decode cX9_leave 27 = .ok (.aload_n 0, 1) := by decide +kernel
theorem dX9_leave_28 : decode cX9_leave 28 = .ok (.getfield 10, 3) := by decide +kernel
theorem dX9_leave_31 : decode cX9_leave 31 = .ok (.iload_n 1, 1) := by decide +kernel
theorem dX9_leave_32 : decode cX9_leave 32 = .ok (.invokevirtual 110, 3) := by decide +kernel
theorem dX9_leave_35 : decode cX9_leave 35 = .ok (.iconst 1, 1) := by decide +kernel
theorem dX9_leave_36 : decode cX9_leave 36 = .ok (.ireturn, 1) := by decide +kernel
set_option maxRecDepth 20000 in
theorem ggX9_join_X2_isMember : GoodIn wsX9_join wsX2_isMember := goodIn_r _ [7, 8, 17, 18, 19, 20, 21, 22, 23, 24] (by decide +kernel) (by decide +kernel)
set_option maxRecDepth 20000 in
theorem gX9_join_X2_isMember : GoodIn wsX9_join (wsV RX9 77 RX2 yX2_isMember wsX2_isMember) := goodIn_app (goodIn_of _ (by decide +kernel)) ggX9_join_X2_isMember
set_option maxRecDepth 20000 in
theorem ggX9_join_X9_isIn : GoodIn wsX9_join wsX9_isIn := goodIn_r _ [12] (by decide +kernel) (by decide +kernel)
set_option maxRecDepth 20000 in
theorem gX9_join_X9_isIn : GoodIn wsX9_join (va_wsS RX9 104 yX9_isIn wsX9_isIn) := goodIn_app (goodIn_of _ (by decide +kernel)) ggX9_join_X9_isIn
theorem dX9_join_0 : decode cX9_join 0 = .ok (.aload_n 0, 1) := by decide +kernel
theorem dX9_join_1 : decode cX9_join 1 = .ok (.getfield 10, 3) := by decide +kernel
theorem dX9_join_4 : decode cX9_join 4 = .ok (.iload_n 1, 1) := by decide +kernel
theorem dX9_join_5 : decode cX9_join 5 = .ok (.invokevirtual 77, 3) := by decide +kernel
theorem dX9_join_8 : decode cX9_join 8 = .ok (.ifCond .eq 17, 3) := by decide +kernel
theorem dX9_join_11 : decode cX9_join 11 = .ok (.aload_n 0, 1) := by decide +kernel
theorem dX9_join_12 : decode cX9_join 12 = .ok (.getfield 10, 3) := by decide +kernel
theorem dX9_join_15 : decode cX9_join 15 = .ok (.getfield 107, 3) := by decide +kernel
theorem dX9_join_18 : decode cX9_join 18 = .ok (.iload_n 1, 1) := by decide +kernel
theorem dX9_join_19 : decode cX9_join 19 = .ok (.invokestatic 104, 3) := by decide +kernel
theorem dX9_join_22 : decode cX9_join 22 = .ok (.ifCond .eq 5, 3) := by decide +kernel
theorem dX9_join_25 : decode cX9_join 25 = .ok (.iconst 0, 1) := by decide +kernel
theorem dX9_join_26 : decode cX9_join 26 = .ok (.ireturn, 1) := by decide +kernel
theorem dX9_join_27 : decode cX9_join 27 = .ok (.aload_n 0, 1) := by decide +kernel
theorem dX9_join_28 : decode cX9_join 28 = .ok (.getfield 10, 3) := by decide +kernel
theorem dX9_join_31 : decode cX9_join 31 = .ok (.dup, 1) := by decide +kernel
theorem dX9_join_32 : decode cX9_join 32 = .ok (.getfield 107, 3) := by decide +kernel
theorem dX9_join_35 : decode cX9_join 35 = .ok (.iconst 1, 1) := by decide +kernel
theorem dX9_join_36 : decode cX9_join 36 = .ok (.iload_n 1, 1) := by decide +kernel
theorem dX9_join_37 : decode cX9_join 37 = .ok (.ishl, 1) := by decide +kernel
theorem dX9_join_38 : decode cX9_join 38 = .ok (.ior, 1) := by decide +kernel
theorem dX9_join_39 : decode cX9_join 39 = .ok (.putfield 107, 3) := by decide +kernel
theorem dX9_join_42 : decode cX9_join 42 = .ok (.iconst 1, 1) := by decide +kernel
theorem dX9_join_43 : decode cX9_join 43 = .ok (.ireturn, 1) := by decide +kernel
set_option maxRecDepth 20000 in
theorem ggX9_tick_X9_isWithin : GoodIn wsX9_tick wsX9_isWithin := goodIn_r _ [10] (by decide +kernel) (by decide +kernel)
set_option maxRecDepth 20000 in
theorem gX9_tick_X9_isWithin : GoodIn wsX9_tick (va_wsS RX9 43 yX9_isWithin wsX9_isWithin) := goodIn_app (goodIn_of _ (by decide +kernel)) ggX9_tick_X9_isWithin
set_option maxRecDepth 20000 in
theorem ggX9_tick_X0_takeDue : GoodIn wsX9_tick wsX0_takeDue := goodIn_r _ [15, 16, 17, 18, 19, 20, 21, 22, 23, 24, 25, 26, 27, 28, 14, 29, 30, 31, 32, 33, 34, 35, 36, 37, 38, 39, 40, 41, 42, 43, 44, 45, 9, 46, 47, 48, 49, 50, 51, 52, 53, 54, 55, 56, 57, 58, 59, 60, 61, 62, 63, 64, 65, 66, 67, 68, 69, 70, 71, 72, 73, 74, 75, 76, 77, 78, 79, 80, 81, 82, 83, 84, 85, 86, 87, 88, 89, 90, 91, 92, 93, 94, 95, 96, 97, 98, 99, 100, 101, 102, 103, 104, 105, 106, 107, 108, 109, 110, 111, 112, 113, 114, 115, 116, 117, 118, 119, 120, 121, 122, 123, 124, 125, 126, 127, 128, 129, 130, 131, 132, 133, 134, 347, 339, 340, 341, 342, 343, 344, 345, 346, 348, 349, 350, 351, 352, 353, 354, 355, 356, 357, 358, 359, 360, 361, 362, 363, 364, 365, 366, 367, 368, 369, 370, 371, 372, 373, 374, 375, 376, 377, 378, 379, 380, 381, 382, 383, 384, 385, 386] (by decide +kernel) (by decide +kernel)
set_option maxRecDepth 20000 in
theorem gX9_tick_X0_takeDue : GoodIn wsX9_tick (wsV RX9 120 RX0 yX0_takeDue wsX0_takeDue) := goodIn_app (goodIn_of _ (by decide +kernel)) ggX9_tick_X0_takeDue
set_option maxRecDepth 20000 in
theorem ggX9_tick_X4_openAll : GoodIn wsX9_tick wsX4_openAll := goodIn_r _ [139, 140, 141, 142, 53, 9, 54, 143, 144, 145, 138, 146, 147, 148, 149, 150, 151, 152, 153, 154, 155, 156, 157, 158, 159, 160, 161, 162, 163, 164, 165, 166, 167, 168, 169, 170, 171, 172, 173, 174, 175, 176, 177, 178, 179, 180, 181, 182, 183, 184, 185, 186, 187, 188, 189, 190, 191, 192, 193, 194, 195, 196, 197, 198, 199, 200, 201, 202, 203, 204, 205, 206, 207, 208, 209, 210, 211, 212, 387, 339, 340, 341, 342, 343, 344, 345, 346, 355, 356, 357, 358, 359, 360, 361, 362, 363, 364, 365, 366, 367, 368, 369, 370, 371, 372, 373, 374, 375, 376, 377, 381, 382, 383, 384, 385, 386] (by decide +kernel) (by decide +kernel)
set_option maxRecDepth 20000 in
theorem gX9_tick_X4_openAll : GoodIn wsX9_tick (wsV RX9 123 RX4 yX4_openAll wsX4_openAll) := goodIn_app (goodIn_of _ (by decide +kernel)) ggX9_tick_X4_openAll
set_option maxRecDepth 20000 in
theorem ggX9_tick_X1_dropStranded : GoodIn wsX9_tick wsX1_dropStranded := goodIn_r _ [217, 218, 219, 220, 221, 222, 53, 9, 54, 223, 175, 176, 161, 177, 163, 178, 179, 180, 181, 182, 224, 225, 226, 216, 227, 228, 229, 230, 231, 232, 62, 63, 41, 64, 60, 45, 46, 233, 121, 122, 123, 388, 339, 340, 341, 342, 343, 344, 345, 346, 355, 356, 357, 358, 359, 360, 361, 362, 363, 364, 365, 366, 367, 368, 369, 370, 371, 372, 373, 374, 375, 376, 377, 381, 382, 383, 384, 385, 386, 378, 379, 380] (by decide +kernel) (by decide +kernel)
set_option maxRecDepth 20000 in
theorem gX9_tick_X1_dropStranded : GoodIn wsX9_tick (wsV RX9 126 RX1 yX1_dropStranded wsX1_dropStranded) := goodIn_app (goodIn_of _ (by decide +kernel)) ggX9_tick_X1_dropStranded
set_option maxRecDepth 20000 in
theorem ggX9_tick_X1_runRounds : GoodIn wsX9_tick wsX1_runRounds := goodIn_r _ [237, 218, 219, 221, 238, 239, 240, 241, 220, 53, 9, 54, 242, 243, 244, 216, 245, 246, 222, 230, 247, 248, 195, 196, 155, 197, 198, 249, 250, 251, 127, 252, 253, 254, 255, 256, 257, 258, 259, 223, 175, 176, 161, 177, 163, 178, 179, 180, 181, 182, 260, 261, 262, 263, 231, 229, 264, 265, 266, 41, 267, 43, 74, 56, 57, 58, 59, 60, 45, 46, 268, 269, 270, 271, 228, 272, 273, 274, 275, 164, 167, 168, 169, 170, 157, 171, 172, 173, 276, 277, 278, 279, 280, 281, 282, 283, 130, 131, 129, 284, 285, 286, 287, 288, 289, 290, 291, 292, 293, 294, 295, 296, 297, 298, 299, 300, 301, 302, 303, 304, 132, 305, 306, 307, 308, 309, 310, 311, 312, 313, 314, 315, 316, 317, 318, 319, 320, 321, 322, 44, 323, 91, 92, 87, 93, 94, 95, 324, 325, 326, 327, 328, 329, 330, 331, 332, 333, 133, 134, 334, 388, 339, 340, 341, 342, 343, 344, 345, 346, 355, 356, 357, 358, 359, 360, 361, 362, 363, 364, 365, 366, 367, 378, 379, 380, 348, 349, 350, 351, 352, 353, 354, 368, 369, 370, 371, 372, 373, 374, 375, 376, 377, 381, 382, 383, 384, 385, 386] (by decide +kernel) (by decide +kernel)
set_option maxRecDepth 20000 in
theorem gX9_tick_X1_runRounds : GoodIn wsX9_tick (wsV RX9 129 RX1 yX1_runRounds wsX1_runRounds) := goodIn_app (goodIn_of _ (by decide +kernel)) ggX9_tick_X1_runRounds
theorem dX9_tick_0 : decode cX9_tick 0 = .ok (.iload_n 1, 1) := by decide +kernel
theorem dX9_tick_1 : decode cX9_tick 1 = .ok (.iconst 0, 1) := by decide +kernel
theorem dX9_tick_2 : decode cX9_tick 2 = .ok (.bipush 50, 2) := by decide +kernel
theorem dX9_tick_4 : decode cX9_tick 4 = .ok (.invokestatic 43, 3) := by decide +kernel
theorem dX9_tick_7 : decode cX9_tick 7 = .ok (.ifCond .ne 5, 3) := by decide +kernel
theorem dX9_tick_10 : decode cX9_tick 10 = .ok (.iconst (-1), 1) := by decide +kernel
theorem dX9_tick_11 : decode cX9_tick 11 = .ok (.ireturn, 1) := by decide +kernel
theorem dX9_tick_12 : decode cX9_tick 12 = .ok (.aload_n 0, 1) := by decide +kernel
theorem dX9_tick_13 : decode cX9_tick 13 = .ok (.getfield 10, 3) := by decide +kernel
theorem dX9_tick_16 : decode cX9_tick 16 = .ok (.getfield 114, 3) := by decide +kernel
theorem dX9_tick_19 : decode cX9_tick 19 = .ok (.istore_n 2, 1) := by decide +kernel
theorem dX9_tick_20 : decode cX9_tick 20 = .ok (.iconst 0, 1) := by decide +kernel
theorem dX9_tick_21 : decode cX9_tick 21 = .ok (.istore_n 3, 1) := by decide +kernel
theorem dX9_tick_22 : decode cX9_tick 22 = .ok (.iload_n 3, 1) := by decide +kernel
theorem dX9_tick_23 : decode cX9_tick 23 = .ok (.iload_n 1, 1) := by decide +kernel
theorem dX9_tick_24 : decode cX9_tick 24 = .ok (.if_icmp .ge 70, 3) := by decide +kernel
theorem dX9_tick_27 : decode cX9_tick 27 = .ok (.aload_n 0, 1) := by decide +kernel
theorem dX9_tick_28 : decode cX9_tick 28 = .ok (.getfield 10, 3) := by decide +kernel
theorem dX9_tick_31 : decode cX9_tick 31 = .ok (.dup, 1) := by decide +kernel
theorem dX9_tick_32 : decode cX9_tick 32 = .ok (.getfield 117, 3) := by decide +kernel
theorem dX9_tick_35 : decode cX9_tick 35 = .ok (.iconst 1, 1) := by decide +kernel
theorem dX9_tick_36 : decode cX9_tick 36 = .ok (.iadd, 1) := by decide +kernel
theorem dX9_tick_37 : decode cX9_tick 37 = .ok (.putfield 117, 3) := by decide +kernel
theorem dX9_tick_40 : decode cX9_tick 40 = .ok (.aload_n 0, 1) := by decide +kernel
theorem dX9_tick_41 : decode cX9_tick 41 = .ok (.getfield 21, 3) := by decide +kernel
theorem dX9_tick_44 : decode cX9_tick 44 = .ok (.invokevirtual 120, 3) := by decide +kernel
theorem dX9_tick_47 : decode cX9_tick 47 = .ok (.aload_n 0, 1) := by decide +kernel
theorem dX9_tick_48 : decode cX9_tick 48 = .ok (.getfield 10, 3) := by decide +kernel
theorem dX9_tick_51 : decode cX9_tick 51 = .ok (.getfield 117, 3) := by decide +kernel
theorem dX9_tick_54 : decode cX9_tick 54 = .ok (.iconst 4, 1) := by decide +kernel
theorem dX9_tick_55 : decode cX9_tick 55 = .ok (.irem, 1) := by decide +kernel
theorem dX9_tick_56 : decode cX9_tick 56 = .ok (.iconst 1, 1) := by decide +kernel
theorem dX9_tick_57 : decode cX9_tick 57 = .ok (.if_icmp .ne 10, 3) := by decide +kernel
theorem dX9_tick_60 : decode cX9_tick 60 = .ok (.aload_n 0, 1) := by decide +kernel
theorem dX9_tick_61 : decode cX9_tick 61 = .ok (.getfield 28, 3) := by decide +kernel
theorem dX9_tick_64 : decode cX9_tick 64 = .ok (.invokevirtual 123, 3) := by decide +kernel
theorem dX9_tick_67 : decode cX9_tick 67 = .ok (.aload_n 0, 1) := by decide +kernel
theorem dX9_tick_68 : decode cX9_tick 68 = .ok (.getfield 35, 3) := by decide +kernel
theorem dX9_tick_71 : decode cX9_tick 71 = .ok (.invokevirtual 126, 3) := by decide +kernel
theorem dX9_tick_74 : decode cX9_tick 74 = .ok (.aload_n 0, 1) := by decide +kernel
theorem dX9_tick_75 : decode cX9_tick 75 = .ok (.getfield 35, 3) := by decide +kernel
theorem dX9_tick_78 : decode cX9_tick 78 = .ok (.invokevirtual 129, 3) := by decide +kernel
theorem dX9_tick_81 : decode cX9_tick 81 = .ok (.aload_n 0, 1) := by decide +kernel
theorem dX9_tick_82 : decode cX9_tick 82 = .ok (.getfield 21, 3) := by decide +kernel
theorem dX9_tick_85 : decode cX9_tick 85 = .ok (.invokevirtual 120, 3) := by decide +kernel
theorem dX9_tick_88 : decode cX9_tick 88 = .ok (.iinc 3 1, 3) := by decide +kernel
theorem dX9_tick_91 : decode cX9_tick 91 = .ok (.goto (-69), 3) := by decide +kernel
theorem dX9_tick_94 : decode cX9_tick 94 = .ok (.aload_n 0, 1) := by decide +kernel
theorem dX9_tick_95 : decode cX9_tick 95 = .ok (.getfield 10, 3) := by decide +kernel
theorem dX9_tick_98 : decode cX9_tick 98 = .ok (.getfield 114, 3) := by decide +kernel
theorem dX9_tick_101 : decode cX9_tick 101 = .ok (.iload_n 2, 1) := by decide +kernel
theorem dX9_tick_102 : decode cX9_tick 102 = .ok (.isub, 1) := by decide +kernel
theorem dX9_tick_103 : decode cX9_tick 103 = .ok (.ireturn, 1) := by decide +kernel
set_option maxRecDepth 20000 in
theorem ggX9_about_X2_isMember : GoodIn wsX9_about wsX2_isMember := goodIn_r _ [22, 23, 59, 60, 61, 62, 63, 64, 65, 66] (by decide +kernel) (by decide +kernel)
set_option maxRecDepth 20000 in
theorem gX9_about_X2_isMember : GoodIn wsX9_about (wsV RX9 77 RX2 yX2_isMember wsX2_isMember) := goodIn_app (goodIn_of _ (by decide +kernel)) ggX9_about_X2_isMember
set_option maxRecDepth 20000 in
theorem ggX9_about_X9_isIn : GoodIn wsX9_about wsX9_isIn := goodIn_r _ [27] (by decide +kernel) (by decide +kernel)
set_option maxRecDepth 20000 in
theorem gX9_about_X9_isIn : GoodIn wsX9_about (va_wsS RX9 104 yX9_isIn wsX9_isIn) := goodIn_app (goodIn_of _ (by decide +kernel)) ggX9_about_X9_isIn
set_option maxRecDepth 20000 in
theorem ggX9_about_X9_oneIf : GoodIn wsX9_about wsX9_oneIf := goodIn_r _ [30] (by decide +kernel) (by decide +kernel)
set_option maxRecDepth 20000 in
theorem gX9_about_X9_oneIf : GoodIn wsX9_about (va_wsS RX9 132 yX9_oneIf wsX9_oneIf) := goodIn_app (goodIn_of _ (by decide +kernel)) ggX9_about_X9_oneIf
set_option maxRecDepth 20000 in
theorem ggX9_about_J6_bitCount_0f7a4 : GoodIn wsX9_about wsJ6_bitCount_0f7a4 := goodIn_r _ [34, 35, 36, 37] (by decide +kernel) (by decide +kernel)
set_option maxRecDepth 20000 in
theorem gX9_about_J6_bitCount_0f7a4 : GoodIn wsX9_about (va_wsS RX9 145 yJ6_bitCount_0f7a4 wsJ6_bitCount_0f7a4) := goodIn_app (goodIn_of _ (by decide +kernel)) ggX9_about_J6_bitCount_0f7a4
set_option maxRecDepth 20000 in
theorem ggX9_about_X6_heldInAll : GoodIn wsX9_about wsX6_heldInAll := goodIn_r _ [42, 43, 44, 45, 41, 46, 47, 48, 49, 50, 51, 52, 25, 26, 27, 53, 54, 29, 30, 80, 81, 82, 83, 84, 85] (by decide +kernel) (by decide +kernel)
set_option maxRecDepth 20000 in
theorem gX9_about_X6_heldInAll : GoodIn wsX9_about (wsV RX9 150 RX6 yX6_heldInAll wsX6_heldInAll) := goodIn_app (goodIn_of _ (by decide +kernel)) ggX9_about_X6_heldInAll
theorem dX9_about_0 : decode cX9_about 0 = .ok (.aload_n 0, 1) := by decide +kernel
theorem dX9_about_1 : decode cX9_about 1 = .ok (.getfield 10, 3) := by decide +kernel
theorem dX9_about_4 : decode cX9_about 4 = .ok (.iload_n 1, 1) := by decide +kernel
theorem dX9_about_5 : decode cX9_about 5 = .ok (.invokevirtual 77, 3) := by decide +kernel
theorem dX9_about_8 : decode cX9_about 8 = .ok (.ifCond .ne 5, 3) := by decide +kernel
theorem dX9_about_11 : decode cX9_about 11 = .ok (.iconst (-1), 1) := by decide +kernel
theorem dX9_about_12 : decode cX9_about 12 = .ok (.ireturn, 1) := by decide +kernel
theorem dX9_about_13 : decode cX9_about 13 = .ok (.aload_n 0, 1) := by decide +kernel
theorem dX9_about_14 : decode cX9_about 14 = .ok (.getfield 10, 3) := by decide +kernel
theorem dX9_about_17 : decode cX9_about 17 = .ok (.getfield 80, 3) := by decide +kernel
theorem dX9_about_20 : decode cX9_about 20 = .ok (.iload_n 1, 1) := by decide +kernel
theorem dX9_about_21 : decode cX9_about 21 = .ok (.aaload, 1) := by decide +kernel
theorem dX9_about_22 : decode cX9_about 22 = .ok (.astore_n 3, 1) := by decide +kernel
theorem dX9_about_23 : decode cX9_about 23 = .ok (.iload_n 2, 1) := by decide +kernel
theorem dX9_about_24 : decode cX9_about 24 = .ok (.tableswitch 188 0 13 #[72, 77, 92, 103, 111, 116, 121, 126, 131, 142, 147, 155, 166, 177], 72) := by decide +kernel
theorem dX9_about_96 : decode cX9_about 96 = .ok (.aload_n 3, 1) := by decide +kernel
theorem dX9_about_97 : decode cX9_about 97 = .ok (.getfield 84, 3) := by decide +kernel
theorem dX9_about_100 : decode cX9_about 100 = .ok (.ireturn, 1) := by decide +kernel
theorem dX9_about_101 : decode cX9_about 101 = .ok (.aload_n 0, 1) := by decide +kernel
theorem dX9_about_102 : decode cX9_about 102 = .ok (.getfield 10, 3) := by decide +kernel
theorem dX9_about_105 : decode cX9_about 105 = .ok (.getfield 107, 3) := by decide +kernel
theorem dX9_about_108 : decode cX9_about 108 = .ok (.iload_n 1, 1) := by decide +kernel
theorem dX9_about_109 : decode cX9_about 109 = .ok (.invokestatic 104, 3) := by decide +kernel
theorem dX9_about_112 : decode cX9_about 112 = .ok (.invokestatic 132, 3) := by decide +kernel
theorem dX9_about_115 : decode cX9_about 115 = .ok (.ireturn, 1) := by decide +kernel
theorem dX9_about_116 : decode cX9_about 116 = .ok (.aload_n 3, 1) := by decide +kernel
theorem dX9_about_117 : decode cX9_about 117 = .ok (.getfield 136, 3) := by decide +kernel
theorem dX9_about_120 : decode cX9_about 120 = .ok (.getfield 140, 3) := by decide +kernel
theorem dX9_about_123 : decode cX9_about 123 = .ok (.invokestatic 145, 3) := by decide +kernel
theorem dX9_about_126 : decode cX9_about 126 = .ok (.ireturn, 1) := by decide +kernel
theorem dX9_about_127 : decode cX9_about 127 = .ok (.aload_n 3, 1) := by decide +kernel
theorem dX9_about_128 : decode cX9_about 128 = .ok (.getfield 136, 3) := by decide +kernel
theorem dX9_about_131 : decode cX9_about 131 = .ok (.invokevirtual 150, 3) := by decide +kernel
theorem dX9_about_134 : decode cX9_about 134 = .ok (.ireturn, 1) := by decide +kernel
theorem dX9_about_135 : decode cX9_about 135 = .ok (.aload_n 3, 1) := by decide +kernel
theorem dX9_about_136 : decode cX9_about 136 = .ok (.getfield 154, 3) := by decide +kernel
theorem dX9_about_139 : decode cX9_about 139 = .ok (.ireturn, 1) := by decide +kernel
theorem dX9_about_140 : decode cX9_about 140 = .ok (.aload_n 3, 1) := by decide +kernel
theorem dX9_about_141 : decode cX9_about 141 = .ok (.getfield 157, 3) := by decide +kernel
theorem dX9_about_144 : decode cX9_about 144 = .ok (.ireturn, 1) := by decide +kernel
theorem dX9_about_145 : decode cX9_about 145 = .ok (.aload_n 3, 1) := by decide +kernel
theorem dX9_about_146 : decode cX9_about 146 = .ok (.getfield 160, 3) := by decide +kernel
theorem dX9_about_149 : decode cX9_about 149 = .ok (.ireturn, 1) := by decide +kernel
theorem dX9_about_150 : decode cX9_about 150 = .ok (.aload_n 3, 1) := by decide +kernel
theorem dX9_about_151 : decode cX9_about 151 = .ok (.getfield 163, 3) := by decide +kernel
theorem dX9_about_154 : decode cX9_about 154 = .ok (.ireturn, 1) := by decide +kernel
theorem dX9_about_155 : decode cX9_about 155 = .ok (.aload_n 3, 1) := by decide +kernel
theorem dX9_about_156 : decode cX9_about 156 = .ok (.getfield 136, 3) := by decide +kernel
theorem dX9_about_159 : decode cX9_about 159 = .ok (.getfield 166, 3) := by decide +kernel
theorem dX9_about_162 : decode cX9_about 162 = .ok (.invokestatic 145, 3) := by decide +kernel
theorem dX9_about_165 : decode cX9_about 165 = .ok (.ireturn, 1) := by decide +kernel
theorem dX9_about_166 : decode cX9_about 166 = .ok (.aload_n 3, 1) := by decide +kernel
theorem dX9_about_167 : decode cX9_about 167 = .ok (.getfield 169, 3) := by decide +kernel
theorem dX9_about_170 : decode cX9_about 170 = .ok (.ireturn, 1) := by decide +kernel
theorem dX9_about_171 : decode cX9_about 171 = .ok (.aload_n 3, 1) := by decide +kernel
theorem dX9_about_172 : decode cX9_about 172 = .ok (.getfield 136, 3) := by decide +kernel
theorem dX9_about_175 : decode cX9_about 175 = .ok (.getfield 172, 3) := by decide +kernel
theorem dX9_about_178 : decode cX9_about 178 = .ok (.ireturn, 1) := by decide +kernel
theorem dX9_about_179 : decode cX9_about 179 = .ok (.aload_n 3, 1) := by decide +kernel
theorem dX9_about_180 : decode cX9_about 180 = .ok (.getfield 95, 3) := by decide +kernel
theorem dX9_about_183 : decode cX9_about 183 = .ok (.getfield 175, 3) := by decide +kernel
theorem dX9_about_186 : decode cX9_about 186 = .ok (.invokestatic 145, 3) := by decide +kernel
theorem dX9_about_189 : decode cX9_about 189 = .ok (.ireturn, 1) := by decide +kernel
theorem dX9_about_190 : decode cX9_about 190 = .ok (.aload_n 3, 1) := by decide +kernel
theorem dX9_about_191 : decode cX9_about 191 = .ok (.getfield 95, 3) := by decide +kernel
theorem dX9_about_194 : decode cX9_about 194 = .ok (.getfield 178, 3) := by decide +kernel
theorem dX9_about_197 : decode cX9_about 197 = .ok (.invokestatic 145, 3) := by decide +kernel
theorem dX9_about_200 : decode cX9_about 200 = .ok (.ireturn, 1) := by decide +kernel
theorem dX9_about_201 : decode cX9_about 201 = .ok (.aload_n 3, 1) := by decide +kernel
theorem dX9_about_202 : decode cX9_about 202 = .ok (.getfield 95, 3) := by decide +kernel
theorem dX9_about_205 : decode cX9_about 205 = .ok (.getfield 99, 3) := by decide +kernel
theorem dX9_about_208 : decode cX9_about 208 = .ok (.invokestatic 145, 3) := by decide +kernel
theorem dX9_about_211 : decode cX9_about 211 = .ok (.ireturn, 1) := by decide +kernel
theorem dX9_about_212 : decode cX9_about 212 = .ok (.iconst (-1), 1) := by decide +kernel
theorem dX9_about_213 : decode cX9_about 213 = .ok (.ireturn, 1) := by decide +kernel
set_option maxRecDepth 20000 in
theorem ggX9_held_X2_isMember : GoodIn wsX9_held wsX2_isMember := goodIn_r _ [11, 12, 42, 43, 44, 45, 46, 47, 48, 49] (by decide +kernel) (by decide +kernel)
set_option maxRecDepth 20000 in
theorem gX9_held_X2_isMember : GoodIn wsX9_held (wsV RX9 77 RX2 yX2_isMember wsX2_isMember) := goodIn_app (goodIn_of _ (by decide +kernel)) ggX9_held_X2_isMember
set_option maxRecDepth 20000 in
theorem ggX9_held_X8_isPiece : GoodIn wsX9_held wsX8_isPiece := goodIn_r _ [17, 18, 69, 70, 71] (by decide +kernel) (by decide +kernel)
set_option maxRecDepth 20000 in
theorem gX9_held_X8_isPiece : GoodIn wsX9_held (wsV RX9 65 RX8 yX8_isPiece wsX8_isPiece) := goodIn_app (goodIn_of _ (by decide +kernel)) ggX9_held_X8_isPiece
set_option maxRecDepth 20000 in
theorem ggX9_held_X9_isIn : GoodIn wsX9_held wsX9_isIn := goodIn_r _ [22] (by decide +kernel) (by decide +kernel)
set_option maxRecDepth 20000 in
theorem gX9_held_X9_isIn : GoodIn wsX9_held (va_wsS RX9 104 yX9_isIn wsX9_isIn) := goodIn_app (goodIn_of _ (by decide +kernel)) ggX9_held_X9_isIn
set_option maxRecDepth 20000 in
theorem ggX9_held_X6_heldOf : GoodIn wsX9_held wsX6_heldOf := goodIn_r _ [27, 28, 29, 30, 26, 31, 32, 33, 20, 21, 22, 34, 35, 36, 37, 63, 64, 65, 66, 67, 68] (by decide +kernel) (by decide +kernel)
set_option maxRecDepth 20000 in
theorem gX9_held_X6_heldOf : GoodIn wsX9_held (wsV RX9 184 RX6 yX6_heldOf wsX6_heldOf) := goodIn_app (goodIn_of _ (by decide +kernel)) ggX9_held_X6_heldOf
theorem dX9_held_0 : decode cX9_held 0 = .ok (.aload_n 0, 1) := by decide +kernel
theorem dX9_held_1 : decode cX9_held 1 = .ok (.getfield 10, 3) := by decide +kernel
theorem dX9_held_4 : decode cX9_held 4 = .ok (.iload_n 1, 1) := by decide +kernel
theorem dX9_held_5 : decode cX9_held 5 = .ok (.invokevirtual 77, 3) := by decide +kernel
theorem dX9_held_8 : decode cX9_held 8 = .ok (.ifCond .eq 17, 3) := by decide +kernel
theorem dX9_held_11 : decode cX9_held 11 = .ok (.aload_n 0, 1) := by decide +kernel
theorem dX9_held_12 : decode cX9_held 12 = .ok (.getfield 10, 3) := by decide +kernel
theorem dX9_held_15 : decode cX9_held 15 = .ok (.getfield 47, 3) := by decide +kernel
theorem dX9_held_18 : decode cX9_held 18 = .ok (.iload_n 2, 1) := by decide +kernel
theorem dX9_held_19 : decode cX9_held 19 = .ok (.invokevirtual 65, 3) := by decide +kernel
theorem dX9_held_22 : decode cX9_held 22 = .ok (.ifCond .ne 5, 3) := by decide +kernel
theorem dX9_held_25 : decode cX9_held 25 = .ok (.iconst (-1), 1) := by decide +kernel
theorem dX9_held_26 : decode cX9_held 26 = .ok (.ireturn, 1) := by decide +kernel
theorem dX9_held_27 : decode cX9_held 27 = .ok (.aload_n 0, 1) := by decide +kernel
theorem dX9_held_28 : decode cX9_held 28 = .ok (.getfield 10, 3) := by decide +kernel
theorem dX9_held_31 : decode cX9_held 31 = .ok (.getfield 80, 3) := by decide +kernel
theorem dX9_held_34 : decode cX9_held 34 = .ok (.iload_n 1, 1) := by decide +kernel
theorem dX9_held_35 : decode cX9_held 35 = .ok (.aaload, 1) := by decide +kernel
theorem dX9_held_36 : decode cX9_held 36 = .ok (.getfield 136, 3) := by decide +kernel
theorem dX9_held_39 : decode cX9_held 39 = .ok (.astore_n 3, 1) := by decide +kernel
theorem dX9_held_40 : decode cX9_held 40 = .ok (.aload_n 3, 1) := by decide +kernel
theorem dX9_held_41 : decode cX9_held 41 = .ok (.getfield 140, 3) := by decide +kernel
theorem dX9_held_44 : decode cX9_held 44 = .ok (.iload_n 2, 1) := by decide +kernel
theorem dX9_held_45 : decode cX9_held 45 = .ok (.invokestatic 104, 3) := by decide +kernel
theorem dX9_held_48 : decode cX9_held 48 = .ok (.ifCond .eq 16, 3) := by decide +kernel
theorem dX9_held_51 : decode cX9_held 51 = .ok (.aload_n 0, 1) := by decide +kernel
theorem dX9_held_52 : decode cX9_held 52 = .ok (.getfield 10, 3) := by decide +kernel
theorem dX9_held_55 : decode cX9_held 55 = .ok (.getfield 47, 3) := by decide +kernel
theorem dX9_held_58 : decode cX9_held 58 = .ok (.getfield 181, 3) := by decide +kernel
theorem dX9_held_61 : decode cX9_held 61 = .ok (.goto 8, 3) := by decide +kernel
theorem dX9_held_64 : decode cX9_held 64 = .ok (.aload_n 3, 1) := by decide +kernel
theorem dX9_held_65 : decode cX9_held 65 = .ok (.iload_n 2, 1) := by decide +kernel
theorem dX9_held_66 : decode cX9_held 66 = .ok (.invokevirtual 184, 3) := by decide +kernel
theorem dX9_held_69 : decode cX9_held 69 = .ok (.ireturn, 1) := by decide +kernel
set_option maxRecDepth 20000 in
theorem ggX9_from_X2_isMember : GoodIn wsX9_from wsX2_isMember := goodIn_r _ [10, 11, 31, 32, 33, 34, 35, 36, 37, 38] (by decide +kernel) (by decide +kernel)
set_option maxRecDepth 20000 in
theorem gX9_from_X2_isMember : GoodIn wsX9_from (wsV RX9 77 RX2 yX2_isMember wsX2_isMember) := goodIn_app (goodIn_of _ (by decide +kernel)) ggX9_from_X2_isMember
set_option maxRecDepth 20000 in
theorem ggX9_from_X8_isBlock : GoodIn wsX9_from wsX8_isBlock := goodIn_r _ [16, 17, 18, 19, 20, 15, 21, 22, 58, 59, 60] (by decide +kernel) (by decide +kernel)
set_option maxRecDepth 20000 in
theorem gX9_from_X8_isBlock : GoodIn wsX9_from (wsV RX9 57 RX8 yX8_isBlock wsX8_isBlock) := goodIn_app (goodIn_of _ (by decide +kernel)) ggX9_from_X8_isBlock
set_option maxRecDepth 20000 in
theorem ggX9_from_X9_place : GoodIn wsX9_from wsX9_place := goodIn_r _ [26] (by decide +kernel) (by decide +kernel)
set_option maxRecDepth 20000 in
theorem gX9_from_X9_place : GoodIn wsX9_from (va_wsS RX9 191 yX9_place wsX9_place) := goodIn_app (goodIn_of _ (by decide +kernel)) ggX9_from_X9_place
theorem dX9_from_0 : decode cX9_from 0 = .ok (.aload_n 0, 1) := by decide +kernel
theorem dX9_from_1 : decode cX9_from 1 = .ok (.getfield 10, 3) := by decide +kernel
theorem dX9_from_4 : decode cX9_from 4 = .ok (.iload_n 1, 1) := by decide +kernel
theorem dX9_from_5 : decode cX9_from 5 = .ok (.invokevirtual 77, 3) := by decide +kernel
theorem dX9_from_8 : decode cX9_from 8 = .ok (.ifCond .eq 18, 3) := by decide +kernel
theorem dX9_from_11 : decode cX9_from 11 = .ok (.aload_n 0, 1) := by decide +kernel
theorem dX9_from_12 : decode cX9_from 12 = .ok (.getfield 10, 3) := by decide +kernel
theorem dX9_from_15 : decode cX9_from 15 = .ok (.getfield 47, 3) := by decide +kernel
theorem dX9_from_18 : decode cX9_from 18 = .ok (.iload_n 2, 1) := by decide +kernel
theorem dX9_from_19 : decode cX9_from 19 = .ok (.iload_n 3, 1) := by decide +kernel
theorem dX9_from_20 : decode cX9_from 20 = .ok (.invokevirtual 57, 3) := by decide +kernel
theorem dX9_from_23 : decode cX9_from 23 = .ok (.ifCond .ne 5, 3) := by decide +kernel
theorem dX9_from_26 : decode cX9_from 26 = .ok (.iconst (-1), 1) := by decide +kernel
theorem dX9_from_27 : decode cX9_from 27 = .ok (.ireturn, 1) := by decide +kernel
theorem dX9_from_28 : decode cX9_from 28 = .ok (.aload_n 0, 1) := by decide +kernel
theorem dX9_from_29 : decode cX9_from 29 = .ok (.getfield 10, 3) := by decide +kernel
theorem dX9_from_32 : decode cX9_from 32 = .ok (.getfield 80, 3) := by decide +kernel
theorem dX9_from_35 : decode cX9_from 35 = .ok (.iload_n 1, 1) := by decide +kernel
theorem dX9_from_36 : decode cX9_from 36 = .ok (.aaload, 1) := by decide +kernel
theorem dX9_from_37 : decode cX9_from 37 = .ok (.getfield 136, 3) := by decide +kernel
theorem dX9_from_40 : decode cX9_from 40 = .ok (.getfield 187, 3) := by decide +kernel
theorem dX9_from_43 : decode cX9_from 43 = .ok (.iload_n 2, 1) := by decide +kernel
theorem dX9_from_44 : decode cX9_from 44 = .ok (.iload_n 3, 1) := by decide +kernel
theorem dX9_from_45 : decode cX9_from 45 = .ok (.invokestatic 191, 3) := by decide +kernel
theorem dX9_from_48 : decode cX9_from 48 = .ok (.iaload, 1) := by decide +kernel
theorem dX9_from_49 : decode cX9_from 49 = .ok (.ireturn, 1) := by decide +kernel
set_option maxRecDepth 20000 in
theorem ggX9_got_X2_isMember : GoodIn wsX9_got wsX2_isMember := goodIn_r _ [11, 12, 42, 43, 44, 45, 46, 47, 48, 49] (by decide +kernel) (by decide +kernel)
set_option maxRecDepth 20000 in
theorem gX9_got_X2_isMember : GoodIn wsX9_got (wsV RX9 77 RX2 yX2_isMember wsX2_isMember) := goodIn_app (goodIn_of _ (by decide +kernel)) ggX9_got_X2_isMember
set_option maxRecDepth 20000 in
theorem ggX9_got_X8_isBlock : GoodIn wsX9_got wsX8_isBlock := goodIn_r _ [17, 18, 19, 20, 21, 16, 22, 23, 69, 70, 71] (by decide +kernel) (by decide +kernel)
set_option maxRecDepth 20000 in
theorem gX9_got_X8_isBlock : GoodIn wsX9_got (wsV RX9 57 RX8 yX8_isBlock wsX8_isBlock) := goodIn_app (goodIn_of _ (by decide +kernel)) ggX9_got_X8_isBlock
set_option maxRecDepth 20000 in
theorem ggX9_got_X9_isIn : GoodIn wsX9_got wsX9_isIn := goodIn_r _ [27] (by decide +kernel) (by decide +kernel)
set_option maxRecDepth 20000 in
theorem gX9_got_X9_isIn : GoodIn wsX9_got (va_wsS RX9 104 yX9_isIn wsX9_isIn) := goodIn_app (goodIn_of _ (by decide +kernel)) ggX9_got_X9_isIn
set_option maxRecDepth 20000 in
theorem ggX9_got_X6_holds : GoodIn wsX9_got wsX6_holds := goodIn_r _ [32, 33, 34, 25, 26, 27, 35, 36, 63, 64, 65, 66, 67, 68] (by decide +kernel) (by decide +kernel)
set_option maxRecDepth 20000 in
theorem gX9_got_X6_holds : GoodIn wsX9_got (wsV RX9 194 RX6 yX6_holds wsX6_holds) := goodIn_app (goodIn_of _ (by decide +kernel)) ggX9_got_X6_holds
set_option maxRecDepth 20000 in
theorem ggX9_got_X9_place : GoodIn wsX9_got wsX9_place := goodIn_r _ [36] (by decide +kernel) (by decide +kernel)
set_option maxRecDepth 20000 in
theorem gX9_got_X9_place : GoodIn wsX9_got (va_wsS RX9 191 yX9_place wsX9_place) := goodIn_app (goodIn_of _ (by decide +kernel)) ggX9_got_X9_place
theorem dX9_got_0 : decode cX9_got 0 = .ok (.aload_n 0, 1) := by decide +kernel
theorem dX9_got_1 : decode cX9_got 1 = .ok (.getfield 10, 3) := by decide +kernel
theorem dX9_got_4 : decode cX9_got 4 = .ok (.iload_n 1, 1) := by decide +kernel
theorem dX9_got_5 : decode cX9_got 5 = .ok (.invokevirtual 77, 3) := by decide +kernel
theorem dX9_got_8 : decode cX9_got 8 = .ok (.ifCond .eq 18, 3) := by decide +kernel
theorem dX9_got_11 : decode cX9_got 11 = .ok (.aload_n 0, 1) := by decide +kernel
theorem dX9_got_12 : decode cX9_got 12 = .ok (.getfield 10, 3) := by decide +kernel
theorem dX9_got_15 : decode cX9_got 15 = .ok (.getfield 47, 3) := by decide +kernel
theorem dX9_got_18 : decode cX9_got 18 = .ok (.iload_n 2, 1) := by decide +kernel
theorem dX9_got_19 : decode cX9_got 19 = .ok (.iload_n 3, 1) := by decide +kernel
theorem dX9_got_20 : decode cX9_got 20 = .ok (.invokevirtual 57, 3) := by decide +kernel
theorem dX9_got_23 : decode cX9_got 23 = .ok (.ifCond .ne 5, 3) := by decide +kernel
theorem dX9_got_26 : decode cX9_got 26 = .ok (.iconst 0, 1) := by decide +kernel
theorem dX9_got_27 : decode cX9_got 27 = .ok (.ireturn, 1) := by decide +kernel
theorem dX9_got_28 : decode cX9_got 28 = .ok (.aload_n 0, 1) := by decide +kernel
theorem dX9_got_29 : decode cX9_got 29 = .ok (.getfield 10, 3) := by decide +kernel
theorem dX9_got_32 : decode cX9_got 32 = .ok (.getfield 80, 3) := by decide +kernel
theorem dX9_got_35 : decode cX9_got 35 = .ok (.iload_n 1, 1) := by decide +kernel
theorem dX9_got_36 : decode cX9_got 36 = .ok (.aaload, 1) := by decide +kernel
theorem dX9_got_37 : decode cX9_got 37 = .ok (.getfield 136, 3) := by decide +kernel
theorem dX9_got_40 : decode cX9_got 40 = .ok (.astore 4, 2) := by decide +kernel
theorem dX9_got_42 : decode cX9_got 42 = .ok (.aload 4, 2) := by decide +kernel
theorem dX9_got_44 : decode cX9_got 44 = .ok (.getfield 140, 3) := by decide +kernel
theorem dX9_got_47 : decode cX9_got 47 = .ok (.iload_n 2, 1) := by decide +kernel
theorem dX9_got_48 : decode cX9_got 48 = .ok (.invokestatic 104, 3) := by decide +kernel
theorem dX9_got_51 : decode cX9_got 51 = .ok (.ifCond .ne 13, 3) := by decide +kernel
theorem dX9_got_54 : decode cX9_got 54 = .ok (.aload 4, 2) := by decide +kernel
theorem dX9_got_56 : decode cX9_got 56 = .ok (.iload_n 2, 1) := by decide +kernel
theorem dX9_got_57 : decode cX9_got 57 = .ok (.iload_n 3, 1) := by decide +kernel
theorem dX9_got_58 : decode cX9_got 58 = .ok (.invokevirtual 194, 3) := by decide +kernel
theorem dX9_got_61 : decode cX9_got 61 = .ok (.ifCond .eq 7, 3) := by decide +kernel
theorem dX9_got_64 : decode cX9_got 64 = .ok (.iconst 1, 1) := by decide +kernel
theorem dX9_got_65 : decode cX9_got 65 = .ok (.goto 4, 3) := by decide +kernel
theorem dX9_got_68 : decode cX9_got 68 = .ok (.iconst 0, 1) := by decide +kernel
theorem dX9_got_69 : decode cX9_got 69 = .ok (.istore 5, 2) := by decide +kernel
theorem dX9_got_71 : decode cX9_got 71 = .ok (.iload 5, 2) := by decide +kernel
theorem dX9_got_73 : decode cX9_got 73 = .ok (.ifCond .eq 17, 3) := by decide +kernel
theorem dX9_got_76 : decode cX9_got 76 = .ok (.aload 4, 2) := by decide +kernel
theorem dX9_got_78 : decode cX9_got 78 = .ok (.getfield 197, 3) := by decide +kernel
theorem dX9_got_81 : decode cX9_got 81 = .ok (.iload_n 2, 1) := by decide +kernel
theorem dX9_got_82 : decode cX9_got 82 = .ok (.iload_n 3, 1) := by decide +kernel
theorem dX9_got_83 : decode cX9_got 83 = .ok (.invokestatic 191, 3) := by decide +kernel
theorem dX9_got_86 : decode cX9_got 86 = .ok (.iaload, 1) := by decide +kernel
theorem dX9_got_87 : decode cX9_got 87 = .ok (.goto 4, 3) := by decide +kernel
theorem dX9_got_90 : decode cX9_got 90 = .ok (.iconst 0, 1) := by decide +kernel
theorem dX9_got_91 : decode cX9_got 91 = .ok (.ireturn, 1) := by decide +kernel
set_option maxRecDepth 20000 in
theorem ggX9_rare_X2_isMember : GoodIn wsX9_rare wsX2_isMember := goodIn_r _ [7, 8, 52, 53, 54, 55, 56, 57, 58, 59] (by decide +kernel) (by decide +kernel)
end
section
set_option maxRecDepth 20000 in
theorem gX9_rare_X2_isMember : GoodIn wsX9_rare (wsV RX9 77 RX2 yX2_isMember wsX2_isMember) := goodIn_app (goodIn_of _ (by decide +kernel)) ggX9_rare_X2_isMember
set_option maxRecDepth 20000 in
theorem ggX9_rare_X8_isPiece : GoodIn wsX9_rare wsX8_isPiece := goodIn_r _ [13, 14, 60, 61, 62] (by decide +kernel) (by decide +kernel)
set_option maxRecDepth 20000 in
theorem gX9_rare_X8_isPiece : GoodIn wsX9_rare (wsV RX9 65 RX8 yX8_isPiece wsX8_isPiece) := goodIn_app (goodIn_of _ (by decide +kernel)) ggX9_rare_X8_isPiece
set_option maxRecDepth 20000 in
theorem ggX9_rare_X2_nearTo : GoodIn wsX9_rare wsX2_nearTo := goodIn_r _ [18, 19, 20, 21, 22, 23, 24, 25, 26, 27, 52, 53, 54, 55, 56, 57, 58, 59, 63, 64, 65, 66, 67, 68, 69, 70, 71, 72, 73, 74, 75, 76, 77, 78, 79, 80, 81, 82, 83, 84, 85] (by decide +kernel) (by decide +kernel)
set_option maxRecDepth 20000 in
theorem gX9_rare_X2_nearTo : GoodIn wsX9_rare (wsV RX9 200 RX2 yX2_nearTo wsX2_nearTo) := goodIn_app (goodIn_of _ (by decide +kernel)) ggX9_rare_X2_nearTo
set_option maxRecDepth 20000 in
theorem ggX9_rare_X2_tellersAmong : GoodIn wsX9_rare wsX2_tellersAmong := goodIn_r _ [31, 8, 19, 25, 26, 27, 32, 33, 34, 35, 36, 37, 38, 39, 40, 52, 53, 54, 55, 56, 57, 58, 59, 63, 64, 65, 66, 67, 68, 69, 70, 71, 72, 73, 74, 75, 86, 87, 88, 89, 90, 91] (by decide +kernel) (by decide +kernel)
set_option maxRecDepth 20000 in
theorem gX9_rare_X2_tellersAmong : GoodIn wsX9_rare (wsV RX9 203 RX2 yX2_tellersAmong wsX2_tellersAmong) := goodIn_app (goodIn_of _ (by decide +kernel)) ggX9_rare_X2_tellersAmong
set_option maxRecDepth 20000 in
theorem ggX9_rare_J6_bitCount_0f7a4 : GoodIn wsX9_rare wsJ6_bitCount_0f7a4 := goodIn_r _ [44, 45, 46, 47] (by decide +kernel) (by decide +kernel)
set_option maxRecDepth 20000 in
theorem gX9_rare_J6_bitCount_0f7a4 : GoodIn wsX9_rare (va_wsS RX9 145 yJ6_bitCount_0f7a4 wsJ6_bitCount_0f7a4) := goodIn_app (goodIn_of _ (by decide +kernel)) ggX9_rare_J6_bitCount_0f7a4
theorem dX9_rare_0 : decode cX9_rare 0 = .ok (.aload_n 0, 1) := by decide +kernel
theorem dX9_rare_1 : decode cX9_rare 1 = .ok (.getfield 10, 3) := by decide +kernel
theorem dX9_rare_4 : decode cX9_rare 4 = .ok (.iload_n 1, 1) := by decide +kernel
theorem dX9_rare_5 : decode cX9_rare 5 = .ok (.invokevirtual 77, 3) := by decide +kernel
theorem dX9_rare_8 : decode cX9_rare 8 = .ok (.ifCond .eq 17, 3) := by decide +kernel
theorem dX9_rare_11 : decode cX9_rare 11 = .ok (.aload_n 0, 1) := by decide +kernel
theorem dX9_rare_12 : decode cX9_rare 12 = .ok (.getfield 10, 3) := by decide +kernel
theorem dX9_rare_15 : decode cX9_rare 15 = .ok (.getfield 47, 3) := by decide +kernel
theorem dX9_rare_18 : decode cX9_rare 18 = .ok (.iload_n 2, 1) := by decide +kernel
theorem dX9_rare_19 : decode cX9_rare 19 = .ok (.invokevirtual 65, 3) := by decide +kernel
theorem dX9_rare_22 : decode cX9_rare 22 = .ok (.ifCond .ne 5, 3) := by decide +kernel
theorem dX9_rare_25 : decode cX9_rare 25 = .ok (.iconst (-1), 1) := by decide +kernel
theorem dX9_rare_26 : decode cX9_rare 26 = .ok (.ireturn, 1) := by decide +kernel
theorem dX9_rare_27 : decode cX9_rare 27 = .ok (.aload_n 0, 1) := by decide +kernel
theorem dX9_rare_28 : decode cX9_rare 28 = .ok (.getfield 10, 3) := by decide +kernel
theorem dX9_rare_31 : decode cX9_rare 31 = .ok (.aload_n 0, 1) := by decide +kernel
theorem dX9_rare_32 : decode cX9_rare 32 = .ok (.getfield 10, 3) := by decide +kernel
theorem dX9_rare_35 : decode cX9_rare 35 = .ok (.iload_n 1, 1) := by decide +kernel
theorem dX9_rare_36 : decode cX9_rare 36 = .ok (.invokevirtual 200, 3) := by decide +kernel
theorem dX9_rare_39 : decode cX9_rare 39 = .ok (.iload_n 2, 1) := by decide +kernel
theorem dX9_rare_40 : decode cX9_rare 40 = .ok (.invokevirtual 203, 3) := by decide +kernel
theorem dX9_rare_43 : decode cX9_rare 43 = .ok (.invokestatic 145, 3) := by decide +kernel
theorem dX9_rare_46 : decode cX9_rare 46 = .ok (.ireturn, 1) := by decide +kernel
set_option maxRecDepth 20000 in
theorem ggX9_pair_X2_areTwo : GoodIn wsX9_pair wsX2_areTwo := goodIn_r _ [14, 15, 16, 17, 13, 18, 19, 69, 70, 71, 72, 73, 74, 75, 76] (by decide +kernel) (by decide +kernel)
set_option maxRecDepth 20000 in
theorem gX9_pair_X2_areTwo : GoodIn wsX9_pair (wsV RX9 92 RX2 yX2_areTwo wsX2_areTwo) := goodIn_app (goodIn_of _ (by decide +kernel)) ggX9_pair_X2_areTwo
set_option maxRecDepth 20000 in
theorem ggX9_pair_X9_isIn : GoodIn wsX9_pair wsX9_isIn := goodIn_r _ [23] (by decide +kernel) (by decide +kernel)
set_option maxRecDepth 20000 in
theorem gX9_pair_X9_isIn : GoodIn wsX9_pair (va_wsS RX9 104 yX9_isIn wsX9_isIn) := goodIn_app (goodIn_of _ (by decide +kernel)) ggX9_pair_X9_isIn
set_option maxRecDepth 20000 in
theorem ggX9_pair_X9_oneIf : GoodIn wsX9_pair wsX9_oneIf := goodIn_r _ [26] (by decide +kernel) (by decide +kernel)
set_option maxRecDepth 20000 in
theorem gX9_pair_X9_oneIf : GoodIn wsX9_pair (va_wsS RX9 132 yX9_oneIf wsX9_oneIf) := goodIn_app (goodIn_of _ (by decide +kernel)) ggX9_pair_X9_oneIf
set_option maxRecDepth 20000 in
theorem ggX9_pair_X2_nearTo : GoodIn wsX9_pair wsX2_nearTo := goodIn_r _ [30, 31, 32, 33, 34, 35, 36, 21, 22, 23, 69, 70, 71, 72, 73, 74, 75, 76, 77, 78, 79, 80, 81, 82, 83, 84, 85, 86, 87, 88, 89, 90, 91, 92, 93, 94, 95, 96, 97, 98, 99] (by decide +kernel) (by decide +kernel)
set_option maxRecDepth 20000 in
theorem gX9_pair_X2_nearTo : GoodIn wsX9_pair (wsV RX9 200 RX2 yX2_nearTo wsX2_nearTo) := goodIn_app (goodIn_of _ (by decide +kernel)) ggX9_pair_X2_nearTo
set_option maxRecDepth 20000 in
theorem ggX9_pair_X2_wantersOf : GoodIn wsX9_pair wsX2_wantersOf := goodIn_r _ [40, 31, 19, 41, 42, 43, 44, 45, 46, 47, 48, 49, 50, 51, 52, 28, 29, 13, 30, 32, 33, 34, 35, 36, 21, 22, 23, 69, 70, 71, 72, 73, 74, 75, 76, 77, 78, 79, 80, 81, 82, 83, 84, 85, 86, 87, 88, 89, 100, 101, 102, 103, 104, 105, 90, 91, 92, 93, 94, 95, 96, 97, 98, 99] (by decide +kernel) (by decide +kernel)
set_option maxRecDepth 20000 in
theorem gX9_pair_X2_wantersOf : GoodIn wsX9_pair (wsV RX9 206 RX2 yX2_wantersOf wsX2_wantersOf) := goodIn_app (goodIn_of _ (by decide +kernel)) ggX9_pair_X2_wantersOf
set_option maxRecDepth 20000 in
theorem ggX9_pair_X3_lateNumberOf : GoodIn wsX9_pair wsX3_lateNumberOf := goodIn_r _ [56, 57, 58, 59, 60, 61, 62, 46, 63, 64, 77, 78, 79, 80, 81, 82, 83, 84, 85, 86, 87, 88, 89, 90, 91, 92, 93, 94, 95, 96, 97, 98, 99] (by decide +kernel) (by decide +kernel)
set_option maxRecDepth 20000 in
theorem gX9_pair_X3_lateNumberOf : GoodIn wsX9_pair (wsV RX9 209 RX3 yX3_lateNumberOf wsX3_lateNumberOf) := goodIn_app (goodIn_of _ (by decide +kernel)) ggX9_pair_X3_lateNumberOf
theorem dX9_pair_0 : decode cX9_pair 0 = .ok (.aload_n 0, 1) := by decide +kernel
theorem dX9_pair_1 : decode cX9_pair 1 = .ok (.getfield 10, 3) := by decide +kernel
theorem dX9_pair_4 : decode cX9_pair 4 = .ok (.iload_n 1, 1) := by decide +kernel
theorem dX9_pair_5 : decode cX9_pair 5 = .ok (.iload_n 2, 1) := by decide +kernel
theorem dX9_pair_6 : decode cX9_pair 6 = .ok (.invokevirtual 92, 3) := by decide +kernel
theorem dX9_pair_9 : decode cX9_pair 9 = .ok (.ifCond .ne 5, 3) := by decide +kernel
theorem dX9_pair_12 : decode cX9_pair 12 = .ok (.iconst (-1), 1) := by decide +kernel
theorem dX9_pair_13 : decode cX9_pair 13 = .ok (.ireturn, 1) := by decide +kernel
theorem dX9_pair_14 : decode cX9_pair 14 = .ok (.aload_n 0, 1) := by decide +kernel
theorem dX9_pair_15 : decode cX9_pair 15 = .ok (.getfield 10, 3) := by decide +kernel
theorem dX9_pair_18 : decode cX9_pair 18 = .ok (.getfield 80, 3) := by decide +kernel
theorem dX9_pair_21 : decode cX9_pair 21 = .ok (.iload_n 1, 1) := by decide +kernel
theorem dX9_pair_22 : decode cX9_pair 22 = .ok (.aaload, 1) := by decide +kernel
theorem dX9_pair_23 : decode cX9_pair 23 = .ok (.getfield 95, 3) := by decide +kernel
theorem dX9_pair_26 : decode cX9_pair 26 = .ok (.astore 4, 2) := by decide +kernel
theorem dX9_pair_28 : decode cX9_pair 28 = .ok (.iload_n 3, 1) := by decide +kernel
theorem dX9_pair_29 : decode cX9_pair 29 = .ok (.tableswitch 182 0 8 #[51, 64, 80, 96, 109, 123, 131, 139, 152], 51) := by decide +kernel
theorem dX9_pair_80 : decode cX9_pair 80 = .ok (.aload 4, 2) := by decide +kernel
theorem dX9_pair_82 : decode cX9_pair 82 = .ok (.getfield 99, 3) := by decide +kernel
theorem dX9_pair_85 : decode cX9_pair 85 = .ok (.iload_n 2, 1) := by decide +kernel
theorem dX9_pair_86 : decode cX9_pair 86 = .ok (.invokestatic 104, 3) := by decide +kernel
theorem dX9_pair_89 : decode cX9_pair 89 = .ok (.invokestatic 132, 3) := by decide +kernel
theorem dX9_pair_92 : decode cX9_pair 92 = .ok (.ireturn, 1) := by decide +kernel
theorem dX9_pair_93 : decode cX9_pair 93 = .ok (.aload_n 0, 1) := by decide +kernel
theorem dX9_pair_94 : decode cX9_pair 94 = .ok (.getfield 10, 3) := by decide +kernel
theorem dX9_pair_97 : decode cX9_pair 97 = .ok (.iload_n 1, 1) := by decide +kernel
theorem dX9_pair_98 : decode cX9_pair 98 = .ok (.invokevirtual 200, 3) := by decide +kernel
theorem dX9_pair_101 : decode cX9_pair 101 = .ok (.iload_n 2, 1) := by decide +kernel
theorem dX9_pair_102 : decode cX9_pair 102 = .ok (.invokestatic 104, 3) := by decide +kernel
theorem dX9_pair_105 : decode cX9_pair 105 = .ok (.invokestatic 132, 3) := by decide +kernel
theorem dX9_pair_108 : decode cX9_pair 108 = .ok (.ireturn, 1) := by decide +kernel
theorem dX9_pair_109 : decode cX9_pair 109 = .ok (.aload_n 0, 1) := by decide +kernel
theorem dX9_pair_110 : decode cX9_pair 110 = .ok (.getfield 10, 3) := by decide +kernel
theorem dX9_pair_113 : decode cX9_pair 113 = .ok (.iload_n 1, 1) := by decide +kernel
theorem dX9_pair_114 : decode cX9_pair 114 = .ok (.invokevirtual 206, 3) := by decide +kernel
theorem dX9_pair_117 : decode cX9_pair 117 = .ok (.iload_n 2, 1) := by decide +kernel
theorem dX9_pair_118 : decode cX9_pair 118 = .ok (.invokestatic 104, 3) := by decide +kernel
theorem dX9_pair_121 : decode cX9_pair 121 = .ok (.invokestatic 132, 3) := by decide +kernel
theorem dX9_pair_124 : decode cX9_pair 124 = .ok (.ireturn, 1) := by decide +kernel
theorem dX9_pair_125 : decode cX9_pair 125 = .ok (.aload 4, 2) := by decide +kernel
theorem dX9_pair_127 : decode cX9_pair 127 = .ok (.getfield 178, 3) := by decide +kernel
theorem dX9_pair_130 : decode cX9_pair 130 = .ok (.iload_n 2, 1) := by decide +kernel
theorem dX9_pair_131 : decode cX9_pair 131 = .ok (.invokestatic 104, 3) := by decide +kernel
theorem dX9_pair_134 : decode cX9_pair 134 = .ok (.invokestatic 132, 3) := by decide +kernel
theorem dX9_pair_137 : decode cX9_pair 137 = .ok (.ireturn, 1) := by decide +kernel
theorem dX9_pair_138 : decode cX9_pair 138 = .ok (.aload_n 0, 1) := by decide +kernel
theorem dX9_pair_139 : decode cX9_pair 139 = .ok (.getfield 10, 3) := by decide +kernel
theorem dX9_pair_142 : decode cX9_pair 142 = .ok (.getfield 80, 3) := by decide +kernel
theorem dX9_pair_145 : decode cX9_pair 145 = .ok (.iload_n 1, 1) := by decide +kernel
theorem dX9_pair_146 : decode cX9_pair 146 = .ok (.aaload, 1) := by decide +kernel
theorem dX9_pair_147 : decode cX9_pair 147 = .ok (.iload_n 2, 1) := by decide +kernel
theorem dX9_pair_148 : decode cX9_pair 148 = .ok (.invokevirtual 209, 3) := by decide +kernel
theorem dX9_pair_151 : decode cX9_pair 151 = .ok (.ireturn, 1) := by decide +kernel
theorem dX9_pair_152 : decode cX9_pair 152 = .ok (.aload 4, 2) := by decide +kernel
theorem dX9_pair_154 : decode cX9_pair 154 = .ok (.getfield 212, 3) := by decide +kernel
theorem dX9_pair_157 : decode cX9_pair 157 = .ok (.iload_n 2, 1) := by decide +kernel
theorem dX9_pair_158 : decode cX9_pair 158 = .ok (.iaload, 1) := by decide +kernel
theorem dX9_pair_159 : decode cX9_pair 159 = .ok (.ireturn, 1) := by decide +kernel
theorem dX9_pair_160 : decode cX9_pair 160 = .ok (.aload 4, 2) := by decide +kernel
theorem dX9_pair_162 : decode cX9_pair 162 = .ok (.getfield 214, 3) := by decide +kernel
theorem dX9_pair_165 : decode cX9_pair 165 = .ok (.iload_n 2, 1) := by decide +kernel
theorem dX9_pair_166 : decode cX9_pair 166 = .ok (.iaload, 1) := by decide +kernel
theorem dX9_pair_167 : decode cX9_pair 167 = .ok (.ireturn, 1) := by decide +kernel
theorem dX9_pair_168 : decode cX9_pair 168 = .ok (.aload 4, 2) := by decide +kernel
theorem dX9_pair_170 : decode cX9_pair 170 = .ok (.getfield 175, 3) := by decide +kernel
theorem dX9_pair_173 : decode cX9_pair 173 = .ok (.iload_n 2, 1) := by decide +kernel
theorem dX9_pair_174 : decode cX9_pair 174 = .ok (.invokestatic 104, 3) := by decide +kernel
theorem dX9_pair_177 : decode cX9_pair 177 = .ok (.invokestatic 132, 3) := by decide +kernel
theorem dX9_pair_180 : decode cX9_pair 180 = .ok (.ireturn, 1) := by decide +kernel
theorem dX9_pair_181 : decode cX9_pair 181 = .ok (.aload 4, 2) := by decide +kernel
theorem dX9_pair_183 : decode cX9_pair 183 = .ok (.getfield 217, 3) := by decide +kernel
theorem dX9_pair_186 : decode cX9_pair 186 = .ok (.iload_n 2, 1) := by decide +kernel
theorem dX9_pair_187 : decode cX9_pair 187 = .ok (.if_icmp .ne 19, 3) := by decide +kernel
theorem dX9_pair_190 : decode cX9_pair 190 = .ok (.aload 4, 2) := by decide +kernel
theorem dX9_pair_192 : decode cX9_pair 192 = .ok (.getfield 178, 3) := by decide +kernel
theorem dX9_pair_195 : decode cX9_pair 195 = .ok (.iload_n 2, 1) := by decide +kernel
theorem dX9_pair_196 : decode cX9_pair 196 = .ok (.invokestatic 104, 3) := by decide +kernel
theorem dX9_pair_199 : decode cX9_pair 199 = .ok (.ifCond .eq 7, 3) := by decide +kernel
theorem dX9_pair_202 : decode cX9_pair 202 = .ok (.iconst 1, 1) := by decide +kernel
theorem dX9_pair_203 : decode cX9_pair 203 = .ok (.goto 4, 3) := by decide +kernel
theorem dX9_pair_206 : decode cX9_pair 206 = .ok (.iconst 0, 1) := by decide +kernel
theorem dX9_pair_207 : decode cX9_pair 207 = .ok (.invokestatic 132, 3) := by decide +kernel
theorem dX9_pair_210 : decode cX9_pair 210 = .ok (.ireturn, 1) := by decide +kernel
theorem dX9_pair_211 : decode cX9_pair 211 = .ok (.iconst (-1), 1) := by decide +kernel
theorem dX9_pair_212 : decode cX9_pair 212 = .ok (.ireturn, 1) := by decide +kernel
set_option maxRecDepth 20000 in
theorem ggX9_alone_X8_allPieces : GoodIn wsX9_alone wsX8_allPieces := goodIn_r _ [10, 11, 67, 68, 69] (by decide +kernel) (by decide +kernel)
set_option maxRecDepth 20000 in
theorem gX9_alone_X8_allPieces : GoodIn wsX9_alone (wsV RX9 220 RX8 yX8_allPieces wsX8_allPieces) := goodIn_app (goodIn_of _ (by decide +kernel)) ggX9_alone_X8_allPieces
set_option maxRecDepth 20000 in
theorem ggX9_alone_X2_hadByOthersThan : GoodIn wsX9_alone wsX2_hadByOthersThan := goodIn_r _ [16, 17, 18, 19, 20, 21, 22, 23, 24, 40, 41, 42, 43, 44, 45, 46, 47, 48, 49, 50, 51, 52, 53, 54, 55, 56, 57, 58, 59, 60, 61, 62, 63, 64, 65, 66] (by decide +kernel) (by decide +kernel)
set_option maxRecDepth 20000 in
theorem gX9_alone_X2_hadByOthersThan : GoodIn wsX9_alone (wsV RX9 223 RX2 yX2_hadByOthersThan wsX2_hadByOthersThan) := goodIn_app (goodIn_of _ (by decide +kernel)) ggX9_alone_X2_hadByOthersThan
set_option maxRecDepth 20000 in
theorem ggX9_alone_J6_bitCount_0f7a4 : GoodIn wsX9_alone wsJ6_bitCount_0f7a4 := goodIn_r _ [28, 29, 30, 31] (by decide +kernel) (by decide +kernel)
set_option maxRecDepth 20000 in
theorem gX9_alone_J6_bitCount_0f7a4 : GoodIn wsX9_alone (va_wsS RX9 145 yJ6_bitCount_0f7a4 wsJ6_bitCount_0f7a4) := goodIn_app (goodIn_of _ (by decide +kernel)) ggX9_alone_J6_bitCount_0f7a4
set_option maxRecDepth 20000 in
theorem ggX9_alone_X2_isMember : GoodIn wsX9_alone wsX2_isMember := goodIn_r _ [35, 17, 40, 41, 42, 43, 44, 45, 46, 47] (by decide +kernel) (by decide +kernel)
set_option maxRecDepth 20000 in
theorem gX9_alone_X2_isMember : GoodIn wsX9_alone (wsV RX9 77 RX2 yX2_isMember wsX2_isMember) := goodIn_app (goodIn_of _ (by decide +kernel)) ggX9_alone_X2_isMember
theorem dX9_alone_0 : decode cX9_alone 0 = .ok (.iload_n 1, 1) := by decide +kernel
theorem dX9_alone_1 : decode cX9_alone 1 = .ok (.iconst (-1), 1) := by decide +kernel
theorem dX9_alone_2 : decode cX9_alone 2 = .ok (.if_icmp .ne 28, 3) := by decide +kernel
theorem dX9_alone_5 : decode cX9_alone 5 = .ok (.aload_n 0, 1) := by decide +kernel
theorem dX9_alone_6 : decode cX9_alone 6 = .ok (.getfield 10, 3) := by decide +kernel
theorem dX9_alone_9 : decode cX9_alone 9 = .ok (.getfield 47, 3) := by decide +kernel
theorem dX9_alone_12 : decode cX9_alone 12 = .ok (.invokevirtual 220, 3) := by decide +kernel
theorem dX9_alone_15 : decode cX9_alone 15 = .ok (.aload_n 0, 1) := by decide +kernel
theorem dX9_alone_16 : decode cX9_alone 16 = .ok (.getfield 10, 3) := by decide +kernel
theorem dX9_alone_19 : decode cX9_alone 19 = .ok (.iconst (-1), 1) := by decide +kernel
theorem dX9_alone_20 : decode cX9_alone 20 = .ok (.invokevirtual 223, 3) := by decide +kernel
theorem dX9_alone_23 : decode cX9_alone 23 = .ok (.iconst (-1), 1) := by decide +kernel
theorem dX9_alone_24 : decode cX9_alone 24 = .ok (.ixor, 1) := by decide +kernel
theorem dX9_alone_25 : decode cX9_alone 25 = .ok (.iand, 1) := by decide +kernel
theorem dX9_alone_26 : decode cX9_alone 26 = .ok (.invokestatic 145, 3) := by decide +kernel
theorem dX9_alone_29 : decode cX9_alone 29 = .ok (.ireturn, 1) := by decide +kernel
theorem dX9_alone_30 : decode cX9_alone 30 = .ok (.aload_n 0, 1) := by decide +kernel
theorem dX9_alone_31 : decode cX9_alone 31 = .ok (.getfield 10, 3) := by decide +kernel
theorem dX9_alone_34 : decode cX9_alone 34 = .ok (.iload_n 1, 1) := by decide +kernel
theorem dX9_alone_35 : decode cX9_alone 35 = .ok (.invokevirtual 77, 3) := by decide +kernel
theorem dX9_alone_38 : decode cX9_alone 38 = .ok (.ifCond .ne 5, 3) := by decide +kernel
theorem dX9_alone_41 : decode cX9_alone 41 = .ok (.iconst (-1), 1) := by decide +kernel
theorem dX9_alone_42 : decode cX9_alone 42 = .ok (.ireturn, 1) := by decide +kernel
theorem dX9_alone_43 : decode cX9_alone 43 = .ok (.aload_n 0, 1) := by decide +kernel
theorem dX9_alone_44 : decode cX9_alone 44 = .ok (.getfield 10, 3) := by decide +kernel
theorem dX9_alone_47 : decode cX9_alone 47 = .ok (.getfield 80, 3) := by decide +kernel
theorem dX9_alone_50 : decode cX9_alone 50 = .ok (.iload_n 1, 1) := by decide +kernel
theorem dX9_alone_51 : decode cX9_alone 51 = .ok (.aaload, 1) := by decide +kernel
theorem dX9_alone_52 : decode cX9_alone 52 = .ok (.getfield 136, 3) := by decide +kernel
theorem dX9_alone_55 : decode cX9_alone 55 = .ok (.getfield 140, 3) := by decide +kernel
theorem dX9_alone_58 : decode cX9_alone 58 = .ok (.aload_n 0, 1) := by decide +kernel
theorem dX9_alone_59 : decode cX9_alone 59 = .ok (.getfield 10, 3) := by decide +kernel
theorem dX9_alone_62 : decode cX9_alone 62 = .ok (.iload_n 1, 1) := by decide +kernel
theorem dX9_alone_63 : decode cX9_alone 63 = .ok (.invokevirtual 223, 3) := by decide +kernel
theorem dX9_alone_66 : decode cX9_alone 66 = .ok (.iconst (-1), 1) := by decide +kernel
theorem dX9_alone_67 : decode cX9_alone 67 = .ok (.ixor, 1) := by decide +kernel
theorem dX9_alone_68 : decode cX9_alone 68 = .ok (.iand, 1) := by decide +kernel
theorem dX9_alone_69 : decode cX9_alone 69 = .ok (.invokestatic 145, 3) := by decide +kernel
theorem dX9_alone_72 : decode cX9_alone 72 = .ok (.ireturn, 1) := by decide +kernel
set_option maxRecDepth 20000 in
theorem ggX9_bound_X2_isMember : GoodIn wsX9_bound wsX2_isMember := goodIn_r _ [19, 20, 62, 63, 64, 65, 66, 67, 68, 69] (by decide +kernel) (by decide +kernel)
set_option maxRecDepth 20000 in
theorem gX9_bound_X2_isMember : GoodIn wsX9_bound (wsV RX9 77 RX2 yX2_isMember wsX2_isMember) := goodIn_app (goodIn_of _ (by decide +kernel)) ggX9_bound_X2_isMember
set_option maxRecDepth 20000 in
theorem ggX9_bound_X9_isIn : GoodIn wsX9_bound wsX9_isIn := goodIn_r _ [24] (by decide +kernel) (by decide +kernel)
set_option maxRecDepth 20000 in
theorem gX9_bound_X9_isIn : GoodIn wsX9_bound (va_wsS RX9 104 yX9_isIn wsX9_isIn) := goodIn_app (goodIn_of _ (by decide +kernel)) ggX9_bound_X9_isIn
set_option maxRecDepth 20000 in
theorem ggX9_bound_X3_isDone : GoodIn wsX9_bound wsX3_isDone := goodIn_r _ [29, 30, 73, 74, 75, 76, 77, 78, 79, 80, 81, 82, 83, 84, 85] (by decide +kernel) (by decide +kernel)
set_option maxRecDepth 20000 in
theorem gX9_bound_X3_isDone : GoodIn wsX9_bound (wsV RX9 226 RX3 yX3_isDone wsX3_isDone) := goodIn_app (goodIn_of _ (by decide +kernel)) ggX9_bound_X3_isDone
set_option maxRecDepth 20000 in
theorem ggX9_bound_X9_cutUp : GoodIn wsX9_bound wsX9_cutUp := goodIn_r _ [33] (by decide +kernel) (by decide +kernel)
set_option maxRecDepth 20000 in
theorem gX9_bound_X9_cutUp : GoodIn wsX9_bound (va_wsS RX9 236 yX9_cutUp wsX9_cutUp) := goodIn_app (goodIn_of _ (by decide +kernel)) ggX9_bound_X9_cutUp
set_option maxRecDepth 20000 in
theorem ggX9_bound_X6_isBare : GoodIn wsX9_bound wsX6_isBare := goodIn_r _ [38, 39, 40, 41, 42, 43, 37, 44, 45, 46, 47, 48, 49, 50, 51, 52, 53, 22, 23, 24, 54, 55, 56, 57, 86, 87, 88, 89, 90, 91] (by decide +kernel) (by decide +kernel)
set_option maxRecDepth 20000 in
theorem gX9_bound_X6_isBare : GoodIn wsX9_bound (wsV RX9 239 RX6 yX6_isBare wsX6_isBare) := goodIn_app (goodIn_of _ (by decide +kernel)) ggX9_bound_X6_isBare
theorem dX9_bound_0 : decode cX9_bound 0 = .ok (.aload_n 0, 1) := by decide +kernel
theorem dX9_bound_1 : decode cX9_bound 1 = .ok (.getfield 10, 3) := by decide +kernel
theorem dX9_bound_4 : decode cX9_bound 4 = .ok (.iload_n 1, 1) := by decide +kernel
theorem dX9_bound_5 : decode cX9_bound 5 = .ok (.invokevirtual 77, 3) := by decide +kernel
theorem dX9_bound_8 : decode cX9_bound 8 = .ok (.ifCond .eq 32, 3) := by decide +kernel
theorem dX9_bound_11 : decode cX9_bound 11 = .ok (.aload_n 0, 1) := by decide +kernel
theorem dX9_bound_12 : decode cX9_bound 12 = .ok (.getfield 10, 3) := by decide +kernel
theorem dX9_bound_15 : decode cX9_bound 15 = .ok (.getfield 107, 3) := by decide +kernel
theorem dX9_bound_18 : decode cX9_bound 18 = .ok (.iload_n 1, 1) := by decide +kernel
theorem dX9_bound_19 : decode cX9_bound 19 = .ok (.invokestatic 104, 3) := by decide +kernel
theorem dX9_bound_22 : decode cX9_bound 22 = .ok (.ifCond .eq 18, 3) := by decide +kernel
theorem dX9_bound_25 : decode cX9_bound 25 = .ok (.aload_n 0, 1) := by decide +kernel
theorem dX9_bound_26 : decode cX9_bound 26 = .ok (.getfield 10, 3) := by decide +kernel
theorem dX9_bound_29 : decode cX9_bound 29 = .ok (.getfield 80, 3) := by decide +kernel
theorem dX9_bound_32 : decode cX9_bound 32 = .ok (.iload_n 1, 1) := by decide +kernel
theorem dX9_bound_33 : decode cX9_bound 33 = .ok (.aaload, 1) := by decide +kernel
theorem dX9_bound_34 : decode cX9_bound 34 = .ok (.invokevirtual 226, 3) := by decide +kernel
theorem dX9_bound_37 : decode cX9_bound 37 = .ok (.ifCond .ne 5, 3) := by decide +kernel
theorem dX9_bound_40 : decode cX9_bound 40 = .ok (.iconst (-1), 1) := by decide +kernel
theorem dX9_bound_41 : decode cX9_bound 41 = .ok (.ireturn, 1) := by decide +kernel
theorem dX9_bound_42 : decode cX9_bound 42 = .ok (.aload_n 0, 1) := by decide +kernel
theorem dX9_bound_43 : decode cX9_bound 43 = .ok (.getfield 10, 3) := by decide +kernel
theorem dX9_bound_46 : decode cX9_bound 46 = .ok (.getfield 47, 3) := by decide +kernel
theorem dX9_bound_49 : decode cX9_bound 49 = .ok (.getfield 230, 3) := by decide +kernel
theorem dX9_bound_52 : decode cX9_bound 52 = .ok (.aload_n 0, 1) := by decide +kernel
theorem dX9_bound_53 : decode cX9_bound 53 = .ok (.getfield 10, 3) := by decide +kernel
theorem dX9_bound_56 : decode cX9_bound 56 = .ok (.getfield 47, 3) := by decide +kernel
theorem dX9_bound_59 : decode cX9_bound 59 = .ok (.getfield 181, 3) := by decide +kernel
theorem dX9_bound_62 : decode cX9_bound 62 = .ok (.imul, 1) := by decide +kernel
theorem dX9_bound_63 : decode cX9_bound 63 = .ok (.istore_n 2, 1) := by decide +kernel
theorem dX9_bound_64 : decode cX9_bound 64 = .ok (.iconst 0, 1) := by decide +kernel
theorem dX9_bound_65 : decode cX9_bound 65 = .ok (.istore_n 3, 1) := by decide +kernel
theorem dX9_bound_66 : decode cX9_bound 66 = .ok (.aload_n 0, 1) := by decide +kernel
theorem dX9_bound_67 : decode cX9_bound 67 = .ok (.getfield 10, 3) := by decide +kernel
theorem dX9_bound_70 : decode cX9_bound 70 = .ok (.getfield 80, 3) := by decide +kernel
theorem dX9_bound_73 : decode cX9_bound 73 = .ok (.iload_n 1, 1) := by decide +kernel
theorem dX9_bound_74 : decode cX9_bound 74 = .ok (.aaload, 1) := by decide +kernel
theorem dX9_bound_75 : decode cX9_bound 75 = .ok (.getfield 233, 3) := by decide +kernel
theorem dX9_bound_78 : decode cX9_bound 78 = .ok (.istore 4, 2) := by decide +kernel
theorem dX9_bound_80 : decode cX9_bound 80 = .ok (.iload_n 2, 1) := by decide +kernel
theorem dX9_bound_81 : decode cX9_bound 81 = .ok (.aload_n 0, 1) := by decide +kernel
theorem dX9_bound_82 : decode cX9_bound 82 = .ok (.getfield 10, 3) := by decide +kernel
theorem dX9_bound_85 : decode cX9_bound 85 = .ok (.getfield 80, 3) := by decide +kernel
theorem dX9_bound_88 : decode cX9_bound 88 = .ok (.iload_n 1, 1) := by decide +kernel
theorem dX9_bound_89 : decode cX9_bound 89 = .ok (.aaload, 1) := by decide +kernel
theorem dX9_bound_90 : decode cX9_bound 90 = .ok (.getfield 233, 3) := by decide +kernel
theorem dX9_bound_93 : decode cX9_bound 93 = .ok (.invokestatic 236, 3) := by decide +kernel
theorem dX9_bound_96 : decode cX9_bound 96 = .ok (.istore 5, 2) := by decide +kernel
theorem dX9_bound_98 : decode cX9_bound 98 = .ok (.iconst 0, 1) := by decide +kernel
theorem dX9_bound_99 : decode cX9_bound 99 = .ok (.istore 6, 2) := by decide +kernel
theorem dX9_bound_101 : decode cX9_bound 101 = .ok (.iload 6, 2) := by decide +kernel
theorem dX9_bound_103 : decode cX9_bound 103 = .ok (.aload_n 0, 1) := by decide +kernel
theorem dX9_bound_104 : decode cX9_bound 104 = .ok (.getfield 10, 3) := by decide +kernel
theorem dX9_bound_107 : decode cX9_bound 107 = .ok (.getfield 39, 3) := by decide +kernel
theorem dX9_bound_110 : decode cX9_bound 110 = .ok (.if_icmp .ge 87, 3) := by decide +kernel
theorem dX9_bound_113 : decode cX9_bound 113 = .ok (.iload 6, 2) := by decide +kernel
theorem dX9_bound_115 : decode cX9_bound 115 = .ok (.iload_n 1, 1) := by decide +kernel
theorem dX9_bound_116 : decode cX9_bound 116 = .ok (.if_icmp .eq 75, 3) := by decide +kernel
theorem dX9_bound_119 : decode cX9_bound 119 = .ok (.aload_n 0, 1) := by decide +kernel
theorem dX9_bound_120 : decode cX9_bound 120 = .ok (.getfield 10, 3) := by decide +kernel
theorem dX9_bound_123 : decode cX9_bound 123 = .ok (.getfield 107, 3) := by decide +kernel
theorem dX9_bound_126 : decode cX9_bound 126 = .ok (.iload 6, 2) := by decide +kernel
theorem dX9_bound_128 : decode cX9_bound 128 = .ok (.invokestatic 104, 3) := by decide +kernel
theorem dX9_bound_131 : decode cX9_bound 131 = .ok (.ifCond .ne 6, 3) := by decide +kernel
theorem dX9_bound_134 : decode cX9_bound 134 = .ok (.goto 57, 3) := by decide +kernel
theorem dX9_bound_137 : decode cX9_bound 137 = .ok (.aload_n 0, 1) := by decide +kernel
theorem dX9_bound_138 : decode cX9_bound 138 = .ok (.getfield 10, 3) := by decide +kernel
theorem dX9_bound_141 : decode cX9_bound 141 = .ok (.getfield 80, 3) := by decide +kernel
theorem dX9_bound_144 : decode cX9_bound 144 = .ok (.iload 6, 2) := by decide +kernel
theorem dX9_bound_146 : decode cX9_bound 146 = .ok (.aaload, 1) := by decide +kernel
theorem dX9_bound_147 : decode cX9_bound 147 = .ok (.astore 7, 2) := by decide +kernel
theorem dX9_bound_149 : decode cX9_bound 149 = .ok (.aload 7, 2) := by decide +kernel
theorem dX9_bound_151 : decode cX9_bound 151 = .ok (.getfield 136, 3) := by decide +kernel
theorem dX9_bound_154 : decode cX9_bound 154 = .ok (.invokevirtual 239, 3) := by decide +kernel
theorem dX9_bound_157 : decode cX9_bound 157 = .ok (.ifCond .ne 5, 3) := by decide +kernel
theorem dX9_bound_160 : decode cX9_bound 160 = .ok (.iconst (-1), 1) := by decide +kernel
theorem dX9_bound_161 : decode cX9_bound 161 = .ok (.ireturn, 1) := by decide +kernel
theorem dX9_bound_162 : decode cX9_bound 162 = .ok (.iinc 3 1, 3) := by decide +kernel
theorem dX9_bound_165 : decode cX9_bound 165 = .ok (.iload 4, 2) := by decide +kernel
theorem dX9_bound_167 : decode cX9_bound 167 = .ok (.aload 7, 2) := by decide +kernel
theorem dX9_bound_169 : decode cX9_bound 169 = .ok (.getfield 233, 3) := by decide +kernel
theorem dX9_bound_172 : decode cX9_bound 172 = .ok (.iadd, 1) := by decide +kernel
theorem dX9_bound_173 : decode cX9_bound 173 = .ok (.istore 4, 2) := by decide +kernel
theorem dX9_bound_175 : decode cX9_bound 175 = .ok (.iload 5, 2) := by decide +kernel
theorem dX9_bound_177 : decode cX9_bound 177 = .ok (.iload_n 2, 1) := by decide +kernel
theorem dX9_bound_178 : decode cX9_bound 178 = .ok (.aload 7, 2) := by decide +kernel
theorem dX9_bound_180 : decode cX9_bound 180 = .ok (.getfield 242, 3) := by decide +kernel
theorem dX9_bound_183 : decode cX9_bound 183 = .ok (.invokestatic 236, 3) := by decide +kernel
theorem dX9_bound_186 : decode cX9_bound 186 = .ok (.invokestatic 245, 3) := by decide +kernel
theorem dX9_bound_189 : decode cX9_bound 189 = .ok (.istore 5, 2) := by decide +kernel
theorem dX9_bound_191 : decode cX9_bound 191 = .ok (.iinc 6 1, 3) := by decide +kernel
theorem dX9_bound_194 : decode cX9_bound 194 = .ok (.goto (-93), 3) := by decide +kernel
theorem dX9_bound_197 : decode cX9_bound 197 = .ok (.iload_n 3, 1) := by decide +kernel
theorem dX9_bound_198 : decode cX9_bound 198 = .ok (.ifCond .ne 7, 3) := by decide +kernel
theorem dX9_bound_201 : decode cX9_bound 201 = .ok (.iconst (-1), 1) := by decide +kernel
theorem dX9_bound_202 : decode cX9_bound 202 = .ok (.goto 16, 3) := by decide +kernel
theorem dX9_bound_205 : decode cX9_bound 205 = .ok (.iload 5, 2) := by decide +kernel
theorem dX9_bound_207 : decode cX9_bound 207 = .ok (.iload_n 2, 1) := by decide +kernel
theorem dX9_bound_208 : decode cX9_bound 208 = .ok (.iload_n 3, 1) := by decide +kernel
theorem dX9_bound_209 : decode cX9_bound 209 = .ok (.imul, 1) := by decide +kernel
theorem dX9_bound_210 : decode cX9_bound 210 = .ok (.iload 4, 2) := by decide +kernel
theorem dX9_bound_212 : decode cX9_bound 212 = .ok (.invokestatic 236, 3) := by decide +kernel
theorem dX9_bound_215 : decode cX9_bound 215 = .ok (.invokestatic 245, 3) := by decide +kernel
theorem dX9_bound_218 : decode cX9_bound 218 = .ok (.ireturn, 1) := by decide +kernel
set_option maxRecDepth 20000 in
theorem ggX9_count_J6_bitCount_0f7a4 : GoodIn wsX9_count wsJ6_bitCount_0f7a4 := goodIn_r _ [15, 16, 17, 18] (by decide +kernel) (by decide +kernel)
set_option maxRecDepth 20000 in
theorem gX9_count_J6_bitCount_0f7a4 : GoodIn wsX9_count (va_wsS RX9 145 yJ6_bitCount_0f7a4 wsJ6_bitCount_0f7a4) := goodIn_app (goodIn_of _ (by decide +kernel)) ggX9_count_J6_bitCount_0f7a4
set_option maxRecDepth 20000 in
theorem ggX9_count_X2_doneAndHere : GoodIn wsX9_count wsX2_doneAndHere := goodIn_r _ [23, 24, 25, 26, 27, 28, 29, 30, 31, 32, 33, 34, 35, 36, 37, 52, 53, 54, 55, 56, 57, 58, 59, 70, 71, 72, 73, 74, 75, 76, 77, 78, 79, 80, 81, 82] (by decide +kernel) (by decide +kernel)
set_option maxRecDepth 20000 in
theorem gX9_count_X2_doneAndHere : GoodIn wsX9_count (wsV RX9 250 RX2 yX2_doneAndHere wsX2_doneAndHere) := goodIn_app (goodIn_of _ (by decide +kernel)) ggX9_count_X2_doneAndHere
set_option maxRecDepth 20000 in
theorem ggX9_count_X2_failedInAll : GoodIn wsX9_count wsX2_failedInAll := goodIn_r _ [41, 24, 26, 42, 52, 53, 54, 55, 56, 57, 58, 59, 70, 71, 72, 73, 74, 75, 76, 77, 78, 79, 80, 81, 82] (by decide +kernel) (by decide +kernel)
set_option maxRecDepth 20000 in
theorem gX9_count_X2_failedInAll : GoodIn wsX9_count (wsV RX9 265 RX2 yX2_failedInAll wsX2_failedInAll) := goodIn_app (goodIn_of _ (by decide +kernel)) ggX9_count_X2_failedInAll
set_option maxRecDepth 20000 in
theorem ggX9_count_X2_spareInAll : GoodIn wsX9_count wsX2_spareInAll := goodIn_r _ [46, 24, 26, 47, 52, 53, 54, 55, 56, 57, 58, 59, 70, 71, 72, 73, 74, 75, 76, 77, 78, 79, 80, 81, 82] (by decide +kernel) (by decide +kernel)
set_option maxRecDepth 20000 in
theorem gX9_count_X2_spareInAll : GoodIn wsX9_count (wsV RX9 268 RX2 yX2_spareInAll wsX2_spareInAll) := goodIn_app (goodIn_of _ (by decide +kernel)) ggX9_count_X2_spareInAll
theorem dX9_count_0 : decode cX9_count 0 = .ok (.iload_n 1, 1) := by decide +kernel
theorem dX9_count_1 : decode cX9_count 1 = .ok (.tableswitch 159 0 10 #[59, 67, 75, 86, 94, 105, 116, 124, 135, 143, 151], 59) := by decide +kernel
theorem dX9_count_60 : decode cX9_count 60 = .ok (.aload_n 0, 1) := by decide +kernel
theorem dX9_count_61 : decode cX9_count 61 = .ok (.getfield 10, 3) := by decide +kernel
theorem dX9_count_64 : decode cX9_count 64 = .ok (.getfield 117, 3) := by decide +kernel
theorem dX9_count_67 : decode cX9_count 67 = .ok (.ireturn, 1) := by decide +kernel
theorem dX9_count_68 : decode cX9_count 68 = .ok (.aload_n 0, 1) := by decide +kernel
theorem dX9_count_69 : decode cX9_count 69 = .ok (.getfield 10, 3) := by decide +kernel
theorem dX9_count_72 : decode cX9_count 72 = .ok (.getfield 39, 3) := by decide +kernel
theorem dX9_count_75 : decode cX9_count 75 = .ok (.ireturn, 1) := by decide +kernel
theorem dX9_count_76 : decode cX9_count 76 = .ok (.aload_n 0, 1) := by decide +kernel
theorem dX9_count_77 : decode cX9_count 77 = .ok (.getfield 10, 3) := by decide +kernel
theorem dX9_count_80 : decode cX9_count 80 = .ok (.getfield 107, 3) := by decide +kernel
theorem dX9_count_83 : decode cX9_count 83 = .ok (.invokestatic 145, 3) := by decide +kernel
theorem dX9_count_86 : decode cX9_count 86 = .ok (.ireturn, 1) := by decide +kernel
theorem dX9_count_87 : decode cX9_count 87 = .ok (.aload_n 0, 1) := by decide +kernel
theorem dX9_count_88 : decode cX9_count 88 = .ok (.getfield 10, 3) := by decide +kernel
theorem dX9_count_91 : decode cX9_count 91 = .ok (.invokevirtual 250, 3) := by decide +kernel
theorem dX9_count_94 : decode cX9_count 94 = .ok (.ireturn, 1) := by decide +kernel
theorem dX9_count_95 : decode cX9_count 95 = .ok (.aload_n 0, 1) := by decide +kernel
theorem dX9_count_96 : decode cX9_count 96 = .ok (.getfield 10, 3) := by decide +kernel
theorem dX9_count_99 : decode cX9_count 99 = .ok (.getfield 47, 3) := by decide +kernel
theorem dX9_count_102 : decode cX9_count 102 = .ok (.getfield 230, 3) := by decide +kernel
theorem dX9_count_105 : decode cX9_count 105 = .ok (.ireturn, 1) := by decide +kernel
theorem dX9_count_106 : decode cX9_count 106 = .ok (.aload_n 0, 1) := by decide +kernel
theorem dX9_count_107 : decode cX9_count 107 = .ok (.getfield 10, 3) := by decide +kernel
theorem dX9_count_110 : decode cX9_count 110 = .ok (.getfield 47, 3) := by decide +kernel
theorem dX9_count_113 : decode cX9_count 113 = .ok (.getfield 181, 3) := by decide +kernel
theorem dX9_count_116 : decode cX9_count 116 = .ok (.ireturn, 1) := by decide +kernel
theorem dX9_count_117 : decode cX9_count 117 = .ok (.aload_n 0, 1) := by decide +kernel
theorem dX9_count_118 : decode cX9_count 118 = .ok (.getfield 10, 3) := by decide +kernel
theorem dX9_count_121 : decode cX9_count 121 = .ok (.getfield 114, 3) := by decide +kernel
theorem dX9_count_124 : decode cX9_count 124 = .ok (.ireturn, 1) := by decide +kernel
theorem dX9_count_125 : decode cX9_count 125 = .ok (.aload_n 0, 1) := by decide +kernel
theorem dX9_count_126 : decode cX9_count 126 = .ok (.getfield 10, 3) := by decide +kernel
theorem dX9_count_129 : decode cX9_count 129 = .ok (.getfield 253, 3) := by decide +kernel
theorem dX9_count_132 : decode cX9_count 132 = .ok (.getfield 257, 3) := by decide +kernel
theorem dX9_count_135 : decode cX9_count 135 = .ok (.ireturn, 1) := by decide +kernel
theorem dX9_count_136 : decode cX9_count 136 = .ok (.aload_n 0, 1) := by decide +kernel
theorem dX9_count_137 : decode cX9_count 137 = .ok (.getfield 10, 3) := by decide +kernel
theorem dX9_count_140 : decode cX9_count 140 = .ok (.getfield 262, 3) := by decide +kernel
theorem dX9_count_143 : decode cX9_count 143 = .ok (.ireturn, 1) := by decide +kernel
theorem dX9_count_144 : decode cX9_count 144 = .ok (.aload_n 0, 1) := by decide +kernel
theorem dX9_count_145 : decode cX9_count 145 = .ok (.getfield 10, 3) := by decide +kernel
theorem dX9_count_148 : decode cX9_count 148 = .ok (.invokevirtual 265, 3) := by decide +kernel
theorem dX9_count_151 : decode cX9_count 151 = .ok (.ireturn, 1) := by decide +kernel
theorem dX9_count_152 : decode cX9_count 152 = .ok (.aload_n 0, 1) := by decide +kernel
theorem dX9_count_153 : decode cX9_count 153 = .ok (.getfield 10, 3) := by decide +kernel
theorem dX9_count_156 : decode cX9_count 156 = .ok (.invokevirtual 268, 3) := by decide +kernel
theorem dX9_count_159 : decode cX9_count 159 = .ok (.ireturn, 1) := by decide +kernel
theorem dX9_count_160 : decode cX9_count 160 = .ok (.iconst (-1), 1) := by decide +kernel
theorem dX9_count_161 : decode cX9_count 161 = .ok (.ireturn, 1) := by decide +kernel
theorem dX9_isWithin_0 : decode cX9_isWithin 0 = .ok (.iload_n 0, 1) := by decide +kernel
theorem dX9_isWithin_1 : decode cX9_isWithin 1 = .ok (.iload_n 1, 1) := by decide +kernel
theorem dX9_isWithin_2 : decode cX9_isWithin 2 = .ok (.if_icmp .lt 12, 3) := by decide +kernel
theorem dX9_isWithin_5 : decode cX9_isWithin 5 = .ok (.iload_n 0, 1) := by decide +kernel
theorem dX9_isWithin_6 : decode cX9_isWithin 6 = .ok (.iload_n 2, 1) := by decide +kernel
theorem dX9_isWithin_7 : decode cX9_isWithin 7 = .ok (.if_icmp .gt 7, 3) := by decide +kernel
theorem dX9_isWithin_10 : decode cX9_isWithin 10 = .ok (.iconst 1, 1) := by decide +kernel
theorem dX9_isWithin_11 : decode cX9_isWithin 11 = .ok (.goto 4, 3) := by decide +kernel
theorem dX9_isWithin_14 : decode cX9_isWithin 14 = .ok (.iconst 0, 1) := by decide +kernel
theorem dX9_isWithin_15 : decode cX9_isWithin 15 = .ok (.ireturn, 1) := by decide +kernel
theorem dX9_isIn_0 : decode cX9_isIn 0 = .ok (.iload_n 0, 1) := by decide +kernel
theorem dX9_isIn_1 : decode cX9_isIn 1 = .ok (.iload_n 1, 1) := by decide +kernel
theorem dX9_isIn_2 : decode cX9_isIn 2 = .ok (.iushr, 1) := by decide +kernel
theorem dX9_isIn_3 : decode cX9_isIn 3 = .ok (.iconst 1, 1) := by decide +kernel
theorem dX9_isIn_4 : decode cX9_isIn 4 = .ok (.iand, 1) := by decide +kernel
theorem dX9_isIn_5 : decode cX9_isIn 5 = .ok (.iconst 1, 1) := by decide +kernel
theorem dX9_isIn_6 : decode cX9_isIn 6 = .ok (.if_icmp .ne 7, 3) := by decide +kernel
theorem dX9_isIn_9 : decode cX9_isIn 9 = .ok (.iconst 1, 1) := by decide +kernel
theorem dX9_isIn_10 : decode cX9_isIn 10 = .ok (.goto 4, 3) := by decide +kernel
theorem dX9_isIn_13 : decode cX9_isIn 13 = .ok (.iconst 0, 1) := by decide +kernel
theorem dX9_isIn_14 : decode cX9_isIn 14 = .ok (.ireturn, 1) := by decide +kernel
theorem dX9_oneIf_0 : decode cX9_oneIf 0 = .ok (.iload_n 0, 1) := by decide +kernel
theorem dX9_oneIf_1 : decode cX9_oneIf 1 = .ok (.ifCond .eq 7, 3) := by decide +kernel
theorem dX9_oneIf_4 : decode cX9_oneIf 4 = .ok (.iconst 1, 1) := by decide +kernel
theorem dX9_oneIf_5 : decode cX9_oneIf 5 = .ok (.goto 4, 3) := by decide +kernel
theorem dX9_oneIf_8 : decode cX9_oneIf 8 = .ok (.iconst 0, 1) := by decide +kernel
theorem dX9_oneIf_9 : decode cX9_oneIf 9 = .ok (.ireturn, 1) := by decide +kernel
theorem dX9_place_0 : decode cX9_place 0 = .ok (.iload_n 0, 1) := by decide +kernel
theorem dX9_place_1 : decode cX9_place 1 = .ok (.iconst 4, 1) := by decide +kernel
theorem dX9_place_2 : decode cX9_place 2 = .ok (.imul, 1) := by decide +kernel
theorem dX9_place_3 : decode cX9_place 3 = .ok (.iload_n 1, 1) := by decide +kernel
theorem dX9_place_4 : decode cX9_place 4 = .ok (.iadd, 1) := by decide +kernel
theorem dX9_place_5 : decode cX9_place 5 = .ok (.ireturn, 1) := by decide +kernel
theorem dX9_sumWith_0 : decode cX9_sumWith 0 = .ok (.iload_n 0, 1) := by decide +kernel
theorem dX9_sumWith_1 : decode cX9_sumWith 1 = .ok (.ldc_w 271, 3) := by decide +kernel
theorem dX9_sumWith_4 : decode cX9_sumWith 4 = .ok (.imul, 1) := by decide +kernel
theorem dX9_sumWith_5 : decode cX9_sumWith 5 = .ok (.iload_n 1, 1) := by decide +kernel
theorem dX9_sumWith_6 : decode cX9_sumWith 6 = .ok (.iadd, 1) := by decide +kernel
theorem dX9_sumWith_7 : decode cX9_sumWith 7 = .ok (.ireturn, 1) := by decide +kernel
theorem dX9_cutUp_0 : decode cX9_cutUp 0 = .ok (.iload_n 1, 1) := by decide +kernel
theorem dX9_cutUp_1 : decode cX9_cutUp 1 = .ok (.ifCond .gt 7, 3) := by decide +kernel
theorem dX9_cutUp_4 : decode cX9_cutUp 4 = .ok (.iconst 0, 1) := by decide +kernel
theorem dX9_cutUp_5 : decode cX9_cutUp 5 = .ok (.goto 10, 3) := by decide +kernel
theorem dX9_cutUp_8 : decode cX9_cutUp 8 = .ok (.iload_n 0, 1) := by decide +kernel
theorem dX9_cutUp_9 : decode cX9_cutUp 9 = .ok (.iload_n 1, 1) := by decide +kernel
theorem dX9_cutUp_10 : decode cX9_cutUp 10 = .ok (.iadd, 1) := by decide +kernel
theorem dX9_cutUp_11 : decode cX9_cutUp 11 = .ok (.iconst 1, 1) := by decide +kernel
theorem dX9_cutUp_12 : decode cX9_cutUp 12 = .ok (.isub, 1) := by decide +kernel
theorem dX9_cutUp_13 : decode cX9_cutUp 13 = .ok (.iload_n 1, 1) := by decide +kernel
theorem dX9_cutUp_14 : decode cX9_cutUp 14 = .ok (.idiv, 1) := by decide +kernel
theorem dX9_cutUp_15 : decode cX9_cutUp 15 = .ok (.ireturn, 1) := by decide +kernel
theorem dX10_init_0 : decode cX10_init 0 = .ok (.aload_n 0, 1) := by decide +kernel
theorem dX10_init_1 : decode cX10_init 1 = .ok (.invokespecial 1, 3) := by decide +kernel
theorem dX10_init_4 : decode cX10_init 4 = .ok (.aload_n 0, 1) := by decide +kernel
theorem dX10_init_5 : decode cX10_init 5 = .ok (.iconst 1, 1) := by decide +kernel
theorem dX10_init_6 : decode cX10_init 6 = .ok (.putfield 7, 3) := by decide +kernel
theorem dX10_init_9 : decode cX10_init 9 = .ok (.aload_n 0, 1) := by decide +kernel
theorem dX10_init_10 : decode cX10_init 10 = .ok (.iconst 1, 1) := by decide +kernel
theorem dX10_init_11 : decode cX10_init 11 = .ok (.putfield 13, 3) := by decide +kernel
theorem dX10_init_14 : decode cX10_init 14 = .ok (.aload_n 0, 1) := by decide +kernel
theorem dX10_init_15 : decode cX10_init 15 = .ok (.bipush 12, 2) := by decide +kernel
theorem dX10_init_17 : decode cX10_init 17 = .ok (.newarray .int, 2) := by decide +kernel
theorem dX10_init_19 : decode cX10_init 19 = .ok (.putfield 16, 3) := by decide +kernel
theorem dX10_init_22 : decode cX10_init 22 = .ok (.aload_n 0, 1) := by decide +kernel
theorem dX10_init_23 : decode cX10_init 23 = .ok (.bipush 12, 2) := by decide +kernel
theorem dX10_init_25 : decode cX10_init 25 = .ok (.newarray .int, 2) := by decide +kernel
theorem dX10_init_27 : decode cX10_init 27 = .ok (.putfield 20, 3) := by decide +kernel
theorem dX10_init_30 : decode cX10_init 30 = .ok (.aload_n 0, 1) := by decide +kernel
theorem dX10_init_31 : decode cX10_init 31 = .ok (.bipush 12, 2) := by decide +kernel
theorem dX10_init_33 : decode cX10_init 33 = .ok (.newarray .int, 2) := by decide +kernel
theorem dX10_init_35 : decode cX10_init 35 = .ok (.putfield 23, 3) := by decide +kernel
theorem dX10_init_38 : decode cX10_init 38 = .ok (.aload_n 0, 1) := by decide +kernel
theorem dX10_init_39 : decode cX10_init 39 = .ok (.bipush 12, 2) := by decide +kernel
theorem dX10_init_41 : decode cX10_init 41 = .ok (.newarray .boolean, 2) := by decide +kernel
theorem dX10_init_43 : decode cX10_init 43 = .ok (.putfield 26, 3) := by decide +kernel
theorem dX10_init_46 : decode cX10_init 46 = .ok (.aload_n 0, 1) := by decide +kernel
theorem dX10_init_47 : decode cX10_init 47 = .ok (.bipush 12, 2) := by decide +kernel
theorem dX10_init_49 : decode cX10_init 49 = .ok (.newarray .int, 2) := by decide +kernel
theorem dX10_init_51 : decode cX10_init 51 = .ok (.putfield 30, 3) := by decide +kernel
theorem dX10_init_54 : decode cX10_init 54 = .ok (.aload_n 0, 1) := by decide +kernel
theorem dX10_init_55 : decode cX10_init 55 = .ok (.bipush 12, 2) := by decide +kernel
theorem dX10_init_57 : decode cX10_init 57 = .ok (.newarray .int, 2) := by decide +kernel
theorem dX10_init_59 : decode cX10_init 59 = .ok (.putfield 33, 3) := by decide +kernel
theorem dX10_init_62 : decode cX10_init 62 = .ok (.aload_n 0, 1) := by decide +kernel
theorem dX10_init_63 : decode cX10_init 63 = .ok (.bipush 12, 2) := by decide +kernel
theorem dX10_init_65 : decode cX10_init 65 = .ok (.newarray .int, 2) := by decide +kernel
theorem dX10_init_67 : decode cX10_init 67 = .ok (.putfield 36, 3) := by decide +kernel
theorem dX10_init_70 : decode cX10_init 70 = .ok (.aload_n 0, 1) := by decide +kernel
theorem dX10_init_71 : decode cX10_init 71 = .ok (.bipush 12, 2) := by decide +kernel
theorem dX10_init_73 : decode cX10_init 73 = .ok (.newarray .int, 2) := by decide +kernel
theorem dX10_init_75 : decode cX10_init 75 = .ok (.putfield 39, 3) := by decide +kernel
theorem dX10_init_78 : decode cX10_init 78 = .ok (.aload_n 0, 1) := by decide +kernel
theorem dX10_init_79 : decode cX10_init 79 = .ok (.bipush 12, 2) := by decide +kernel
theorem dX10_init_81 : decode cX10_init 81 = .ok (.newarray .int, 2) := by decide +kernel
theorem dX10_init_83 : decode cX10_init 83 = .ok (.putfield 42, 3) := by decide +kernel
theorem dX10_init_86 : decode cX10_init 86 = .ok (.aload_n 0, 1) := by decide +kernel
theorem dX10_init_87 : decode cX10_init 87 = .ok (.bipush 12, 2) := by decide +kernel
theorem dX10_init_89 : decode cX10_init 89 = .ok (.newarray .int, 2) := by decide +kernel
theorem dX10_init_91 : decode cX10_init 91 = .ok (.putfield 45, 3) := by decide +kernel
theorem dX10_init_94 : decode cX10_init 94 = .ok (.aload_n 0, 1) := by decide +kernel
theorem dX10_init_95 : decode cX10_init 95 = .ok (.sipush 288, 3) := by decide +kernel
theorem dX10_init_98 : decode cX10_init 98 = .ok (.newarray .boolean, 2) := by decide +kernel
theorem dX10_init_100 : decode cX10_init 100 = .ok (.putfield 48, 3) := by decide +kernel
theorem dX10_init_103 : decode cX10_init 103 = .ok (.aload_n 0, 1) := by decide +kernel
theorem dX10_init_104 : decode cX10_init 104 = .ok (.sipush 288, 3) := by decide +kernel
theorem dX10_init_107 : decode cX10_init 107 = .ok (.newarray .boolean, 2) := by decide +kernel
theorem dX10_init_109 : decode cX10_init 109 = .ok (.putfield 51, 3) := by decide +kernel
theorem dX10_init_112 : decode cX10_init 112 = .ok (.aload_n 0, 1) := by decide +kernel
theorem dX10_init_113 : decode cX10_init 113 = .ok (.sipush 1152, 3) := by decide +kernel
theorem dX10_init_116 : decode cX10_init 116 = .ok (.newarray .boolean, 2) := by decide +kernel
theorem dX10_init_118 : decode cX10_init 118 = .ok (.putfield 54, 3) := by decide +kernel
theorem dX10_init_121 : decode cX10_init 121 = .ok (.aload_n 0, 1) := by decide +kernel
theorem dX10_init_122 : decode cX10_init 122 = .ok (.sipush 1152, 3) := by decide +kernel
theorem dX10_init_125 : decode cX10_init 125 = .ok (.newarray .int, 2) := by decide +kernel
theorem dX10_init_127 : decode cX10_init 127 = .ok (.putfield 57, 3) := by decide +kernel
theorem dX10_init_130 : decode cX10_init 130 = .ok (.aload_n 0, 1) := by decide +kernel
theorem dX10_init_131 : decode cX10_init 131 = .ok (.sipush 1152, 3) := by decide +kernel
theorem dX10_init_134 : decode cX10_init 134 = .ok (.newarray .int, 2) := by decide +kernel
theorem dX10_init_136 : decode cX10_init 136 = .ok (.putfield 60, 3) := by decide +kernel
theorem dX10_init_139 : decode cX10_init 139 = .ok (.aload_n 0, 1) := by decide +kernel
theorem dX10_init_140 : decode cX10_init 140 = .ok (.sipush 144, 3) := by decide +kernel
theorem dX10_init_143 : decode cX10_init 143 = .ok (.newarray .boolean, 2) := by decide +kernel
theorem dX10_init_145 : decode cX10_init 145 = .ok (.putfield 63, 3) := by decide +kernel
theorem dX10_init_148 : decode cX10_init 148 = .ok (.aload_n 0, 1) := by decide +kernel
theorem dX10_init_149 : decode cX10_init 149 = .ok (.sipush 144, 3) := by decide +kernel
theorem dX10_init_152 : decode cX10_init 152 = .ok (.newarray .boolean, 2) := by decide +kernel
theorem dX10_init_154 : decode cX10_init 154 = .ok (.putfield 66, 3) := by decide +kernel
theorem dX10_init_157 : decode cX10_init 157 = .ok (.aload_n 0, 1) := by decide +kernel
theorem dX10_init_158 : decode cX10_init 158 = .ok (.sipush 144, 3) := by decide +kernel
theorem dX10_init_161 : decode cX10_init 161 = .ok (.newarray .boolean, 2) := by decide +kernel
theorem dX10_init_163 : decode cX10_init 163 = .ok (.putfield 69, 3) := by decide +kernel
theorem dX10_init_166 : decode cX10_init 166 = .ok (.aload_n 0, 1) := by decide +kernel
theorem dX10_init_167 : decode cX10_init 167 = .ok (.sipush 144, 3) := by decide +kernel
theorem dX10_init_170 : decode cX10_init 170 = .ok (.newarray .int, 2) := by decide +kernel
theorem dX10_init_172 : decode cX10_init 172 = .ok (.putfield 72, 3) := by decide +kernel
theorem dX10_init_175 : decode cX10_init 175 = .ok (.aload_n 0, 1) := by decide +kernel
theorem dX10_init_176 : decode cX10_init 176 = .ok (.sipush 144, 3) := by decide +kernel
theorem dX10_init_179 : decode cX10_init 179 = .ok (.newarray .int, 2) := by decide +kernel
theorem dX10_init_181 : decode cX10_init 181 = .ok (.putfield 75, 3) := by decide +kernel
theorem dX10_init_184 : decode cX10_init 184 = .ok (.aload_n 0, 1) := by decide +kernel
theorem dX10_init_185 : decode cX10_init 185 = .ok (.sipush 144, 3) := by decide +kernel
theorem dX10_init_188 : decode cX10_init 188 = .ok (.newarray .int, 2) := by decide +kernel
theorem dX10_init_190 : decode cX10_init 190 = .ok (.putfield 78, 3) := by decide +kernel
theorem dX10_init_193 : decode cX10_init 193 = .ok (.aload_n 0, 1) := by decide +kernel
theorem dX10_init_194 : decode cX10_init 194 = .ok (.sipush 144, 3) := by decide +kernel
theorem dX10_init_197 : decode cX10_init 197 = .ok (.newarray .int, 2) := by decide +kernel
theorem dX10_init_199 : decode cX10_init 199 = .ok (.putfield 81, 3) := by decide +kernel
theorem dX10_init_202 : decode cX10_init 202 = .ok (.aload_n 0, 1) := by decide +kernel
theorem dX10_init_203 : decode cX10_init 203 = .ok (.bipush 12, 2) := by decide +kernel
theorem dX10_init_205 : decode cX10_init 205 = .ok (.newarray .int, 2) := by decide +kernel
theorem dX10_init_207 : decode cX10_init 207 = .ok (.putfield 84, 3) := by decide +kernel
theorem dX10_init_210 : decode cX10_init 210 = .ok (.aload_n 0, 1) := by decide +kernel
theorem dX10_init_211 : decode cX10_init 211 = .ok (.bipush 12, 2) := by decide +kernel
theorem dX10_init_213 : decode cX10_init 213 = .ok (.newarray .int, 2) := by decide +kernel
theorem dX10_init_215 : decode cX10_init 215 = .ok (.putfield 87, 3) := by decide +kernel
theorem dX10_init_218 : decode cX10_init 218 = .ok (.aload_n 0, 1) := by decide +kernel
theorem dX10_init_219 : decode cX10_init 219 = .ok (.sipush 400, 3) := by decide +kernel
theorem dX10_init_222 : decode cX10_init 222 = .ok (.newarray .int, 2) := by decide +kernel
theorem dX10_init_224 : decode cX10_init 224 = .ok (.putfield 90, 3) := by decide +kernel
theorem dX10_init_227 : decode cX10_init 227 = .ok (.aload_n 0, 1) := by decide +kernel
theorem dX10_init_228 : decode cX10_init 228 = .ok (.sipush 400, 3) := by decide +kernel
theorem dX10_init_231 : decode cX10_init 231 = .ok (.newarray .int, 2) := by decide +kernel
theorem dX10_init_233 : decode cX10_init 233 = .ok (.putfield 93, 3) := by decide +kernel
theorem dX10_init_236 : decode cX10_init 236 = .ok (.aload_n 0, 1) := by decide +kernel
theorem dX10_init_237 : decode cX10_init 237 = .ok (.sipush 400, 3) := by decide +kernel
theorem dX10_init_240 : decode cX10_init 240 = .ok (.newarray .int, 2) := by decide +kernel
theorem dX10_init_242 : decode cX10_init 242 = .ok (.putfield 96, 3) := by decide +kernel
theorem dX10_init_245 : decode cX10_init 245 = .ok (.aload_n 0, 1) := by decide +kernel
theorem dX10_init_246 : decode cX10_init 246 = .ok (.sipush 400, 3) := by decide +kernel
theorem dX10_init_249 : decode cX10_init 249 = .ok (.newarray .int, 2) := by decide +kernel
theorem dX10_init_251 : decode cX10_init 251 = .ok (.putfield 99, 3) := by decide +kernel
theorem dX10_init_254 : decode cX10_init 254 = .ok (.aload_n 0, 1) := by decide +kernel
theorem dX10_init_255 : decode cX10_init 255 = .ok (.sipush 400, 3) := by decide +kernel
theorem dX10_init_258 : decode cX10_init 258 = .ok (.newarray .int, 2) := by decide +kernel
theorem dX10_init_260 : decode cX10_init 260 = .ok (.putfield 102, 3) := by decide +kernel
theorem dX10_init_263 : decode cX10_init 263 = .ok (.aload_n 0, 1) := by decide +kernel
theorem dX10_init_264 : decode cX10_init 264 = .ok (.sipush 400, 3) := by decide +kernel
theorem dX10_init_267 : decode cX10_init 267 = .ok (.newarray .int, 2) := by decide +kernel
theorem dX10_init_269 : decode cX10_init 269 = .ok (.putfield 105, 3) := by decide +kernel
theorem dX10_init_272 : decode cX10_init 272 = .ok (.aload_n 0, 1) := by decide +kernel
theorem dX10_init_273 : decode cX10_init 273 = .ok (.sipush 400, 3) := by decide +kernel
theorem dX10_init_276 : decode cX10_init 276 = .ok (.newarray .boolean, 2) := by decide +kernel
theorem dX10_init_278 : decode cX10_init 278 = .ok (.putfield 108, 3) := by decide +kernel
theorem dX10_init_281 : decode cX10_init 281 = .ok (.aload_n 0, 1) := by decide +kernel
theorem dX10_init_282 : decode cX10_init 282 = .ok (.bipush 12, 2) := by decide +kernel
theorem dX10_init_284 : decode cX10_init 284 = .ok (.newarray .boolean, 2) := by decide +kernel
theorem dX10_init_286 : decode cX10_init 286 = .ok (.putfield 111, 3) := by decide +kernel
theorem dX10_init_289 : decode cX10_init 289 = .ok (.aload_n 0, 1) := by decide +kernel
theorem dX10_init_290 : decode cX10_init 290 = .ok (.bipush 12, 2) := by decide +kernel
theorem dX10_init_292 : decode cX10_init 292 = .ok (.newarray .int, 2) := by decide +kernel
theorem dX10_init_294 : decode cX10_init 294 = .ok (.putfield 114, 3) := by decide +kernel
theorem dX10_init_297 : decode cX10_init 297 = .ok (.aload_n 0, 1) := by decide +kernel
theorem dX10_init_298 : decode cX10_init 298 = .ok (.bipush 12, 2) := by decide +kernel
theorem dX10_init_300 : decode cX10_init 300 = .ok (.newarray .int, 2) := by decide +kernel
theorem dX10_init_302 : decode cX10_init 302 = .ok (.putfield 117, 3) := by decide +kernel
theorem dX10_init_305 : decode cX10_init 305 = .ok (.return_, 1) := by decide +kernel
theorem dX10_in_0 : decode cX10_in 0 = .ok (.iload_n 0, 1) := by decide +kernel
theorem dX10_in_1 : decode cX10_in 1 = .ok (.iload_n 1, 1) := by decide +kernel
theorem dX10_in_2 : decode cX10_in 2 = .ok (.if_icmp .lt 12, 3) := by decide +kernel
theorem dX10_in_5 : decode cX10_in 5 = .ok (.iload_n 0, 1) := by decide +kernel
theorem dX10_in_6 : decode cX10_in 6 = .ok (.iload_n 2, 1) := by decide +kernel
theorem dX10_in_7 : decode cX10_in 7 = .ok (.if_icmp .gt 7, 3) := by decide +kernel
theorem dX10_in_10 : decode cX10_in 10 = .ok (.iconst 1, 1) := by decide +kernel
theorem dX10_in_11 : decode cX10_in 11 = .ok (.goto 4, 3) := by decide +kernel
theorem dX10_in_14 : decode cX10_in 14 = .ok (.iconst 0, 1) := by decide +kernel
theorem dX10_in_15 : decode cX10_in 15 = .ok (.ireturn, 1) := by decide +kernel
theorem dX10_valueOf_0 : decode cX10_valueOf 0 = .ok (.aload_n 0, 1) := by decide +kernel
theorem dX10_valueOf_1 : decode cX10_valueOf 1 = .ok (.getfield 123, 3) := by decide +kernel
theorem dX10_valueOf_4 : decode cX10_valueOf 4 = .ok (.iconst 4, 1) := by decide +kernel
theorem dX10_valueOf_5 : decode cX10_valueOf 5 = .ok (.iload_n 1, 1) := by decide +kernel
theorem dX10_valueOf_6 : decode cX10_valueOf 6 = .ok (.imul, 1) := by decide +kernel
theorem dX10_valueOf_7 : decode cX10_valueOf 7 = .ok (.iadd, 1) := by decide +kernel
theorem dX10_valueOf_8 : decode cX10_valueOf 8 = .ok (.iload_n 2, 1) := by decide +kernel
theorem dX10_valueOf_9 : decode cX10_valueOf 9 = .ok (.iadd, 1) := by decide +kernel
theorem dX10_valueOf_10 : decode cX10_valueOf 10 = .ok (.ldc 126, 2) := by decide +kernel
theorem dX10_valueOf_12 : decode cX10_valueOf 12 = .ok (.imul, 1) := by decide +kernel
theorem dX10_valueOf_13 : decode cX10_valueOf 13 = .ok (.sipush 12345, 3) := by decide +kernel
theorem dX10_valueOf_16 : decode cX10_valueOf 16 = .ok (.iadd, 1) := by decide +kernel
theorem dX10_valueOf_17 : decode cX10_valueOf 17 = .ok (.istore_n 3, 1) := by decide +kernel
theorem dX10_valueOf_18 : decode cX10_valueOf 18 = .ok (.iload_n 3, 1) := by decide +kernel
theorem dX10_valueOf_19 : decode cX10_valueOf 19 = .ok (.iload_n 3, 1) := by decide +kernel
theorem dX10_valueOf_20 : decode cX10_valueOf 20 = .ok (.bipush 15, 2) := by decide +kernel
theorem dX10_valueOf_22 : decode cX10_valueOf 22 = .ok (.iushr, 1) := by decide +kernel
theorem dX10_valueOf_23 : decode cX10_valueOf 23 = .ok (.ixor, 1) := by decide +kernel
theorem dX10_valueOf_24 : decode cX10_valueOf 24 = .ok (.ireturn, 1) := by decide +kernel
set_option maxRecDepth 20000 in
theorem ggX10_sumOf_X10_valueOf : GoodIn wsX10_sumOf wsX10_valueOf := goodIn_r _ [7, 8, 9, 10, 11, 12, 13, 14, 15, 16, 17, 18, 19, 20, 21, 22, 23, 24, 25, 26, 27, 28, 29, 30, 31, 32, 33, 34, 35, 36, 37, 38, 39, 40, 41, 42, 43, 44, 45, 46, 47, 48, 49, 50, 51, 52, 53, 54] (by decide +kernel) (by decide +kernel)
set_option maxRecDepth 20000 in
theorem gX10_sumOf_X10_valueOf : GoodIn wsX10_sumOf (wsV RX10 128 RX10 yX10_valueOf wsX10_valueOf) := goodIn_app (goodIn_of _ (by decide +kernel)) ggX10_sumOf_X10_valueOf
theorem dX10_sumOf_0 : decode cX10_sumOf 0 = .ok (.iconst 0, 1) := by decide +kernel
theorem dX10_sumOf_1 : decode cX10_sumOf 1 = .ok (.istore_n 2, 1) := by decide +kernel
theorem dX10_sumOf_2 : decode cX10_sumOf 2 = .ok (.iconst 0, 1) := by decide +kernel
theorem dX10_sumOf_3 : decode cX10_sumOf 3 = .ok (.istore_n 3, 1) := by decide +kernel
theorem dX10_sumOf_4 : decode cX10_sumOf 4 = .ok (.iload_n 3, 1) := by decide +kernel
theorem dX10_sumOf_5 : decode cX10_sumOf 5 = .ok (.aload_n 0, 1) := by decide +kernel
theorem dX10_sumOf_6 : decode cX10_sumOf 6 = .ok (.getfield 13, 3) := by decide +kernel
theorem dX10_sumOf_9 : decode cX10_sumOf 9 = .ok (.if_icmp .ge 21, 3) := by decide +kernel
theorem dX10_sumOf_12 : decode cX10_sumOf 12 = .ok (.iload_n 2, 1) := by decide +kernel
theorem dX10_sumOf_13 : decode cX10_sumOf 13 = .ok (.ldc 127, 2) := by decide +kernel
theorem dX10_sumOf_15 : decode cX10_sumOf 15 = .ok (.imul, 1) := by decide +kernel
theorem dX10_sumOf_16 : decode cX10_sumOf 16 = .ok (.aload_n 0, 1) := by decide +kernel
theorem dX10_sumOf_17 : decode cX10_sumOf 17 = .ok (.iload_n 1, 1) := by decide +kernel
theorem dX10_sumOf_18 : decode cX10_sumOf 18 = .ok (.iload_n 3, 1) := by decide +kernel
theorem dX10_sumOf_19 : decode cX10_sumOf 19 = .ok (.invokevirtual 128, 3) := by decide +kernel
theorem dX10_sumOf_22 : decode cX10_sumOf 22 = .ok (.iadd, 1) := by decide +kernel
theorem dX10_sumOf_23 : decode cX10_sumOf 23 = .ok (.istore_n 2, 1) := by decide +kernel
theorem dX10_sumOf_24 : decode cX10_sumOf 24 = .ok (.iinc 3 1, 3) := by decide +kernel
theorem dX10_sumOf_27 : decode cX10_sumOf 27 = .ok (.goto (-23), 3) := by decide +kernel
theorem dX10_sumOf_30 : decode cX10_sumOf 30 = .ok (.iload_n 2, 1) := by decide +kernel
theorem dX10_sumOf_31 : decode cX10_sumOf 31 = .ok (.ireturn, 1) := by decide +kernel
set_option maxRecDepth 20000 in
theorem ggX10_isBlock_X10_in : GoodIn wsX10_isBlock wsX10_in := goodIn_r _ [6] (by decide +kernel) (by decide +kernel)
set_option maxRecDepth 20000 in
theorem gX10_isBlock_X10_in : GoodIn wsX10_isBlock (va_wsS RX10 132 yX10_in wsX10_in) := goodIn_app (goodIn_of _ (by decide +kernel)) ggX10_isBlock_X10_in
theorem dX10_isBlock_0 : decode cX10_isBlock 0 = .ok (.iload_n 1, 1) := by decide +kernel
theorem dX10_isBlock_1 : decode cX10_isBlock 1 = .ok (.iconst 0, 1) := by decide +kernel
theorem dX10_isBlock_2 : decode cX10_isBlock 2 = .ok (.aload_n 0, 1) := by decide +kernel
theorem dX10_isBlock_3 : decode cX10_isBlock 3 = .ok (.getfield 7, 3) := by decide +kernel
theorem dX10_isBlock_6 : decode cX10_isBlock 6 = .ok (.iconst 1, 1) := by decide +kernel
theorem dX10_isBlock_7 : decode cX10_isBlock 7 = .ok (.isub, 1) := by decide +kernel
theorem dX10_isBlock_8 : decode cX10_isBlock 8 = .ok (.invokestatic 132, 3) := by decide +kernel
theorem dX10_isBlock_11 : decode cX10_isBlock 11 = .ok (.ifCond .eq 21, 3) := by decide +kernel
theorem dX10_isBlock_14 : decode cX10_isBlock 14 = .ok (.iload_n 2, 1) := by decide +kernel
theorem dX10_isBlock_15 : decode cX10_isBlock 15 = .ok (.iconst 0, 1) := by decide +kernel
theorem dX10_isBlock_16 : decode cX10_isBlock 16 = .ok (.aload_n 0, 1) := by decide +kernel
theorem dX10_isBlock_17 : decode cX10_isBlock 17 = .ok (.getfield 13, 3) := by decide +kernel
theorem dX10_isBlock_20 : decode cX10_isBlock 20 = .ok (.iconst 1, 1) := by decide +kernel
theorem dX10_isBlock_21 : decode cX10_isBlock 21 = .ok (.isub, 1) := by decide +kernel
theorem dX10_isBlock_22 : decode cX10_isBlock 22 = .ok (.invokestatic 132, 3) := by decide +kernel
theorem dX10_isBlock_25 : decode cX10_isBlock 25 = .ok (.ifCond .eq 7, 3) := by decide +kernel
theorem dX10_isBlock_28 : decode cX10_isBlock 28 = .ok (.iconst 1, 1) := by decide +kernel
theorem dX10_isBlock_29 : decode cX10_isBlock 29 = .ok (.goto 4, 3) := by decide +kernel
theorem dX10_isBlock_32 : decode cX10_isBlock 32 = .ok (.iconst 0, 1) := by decide +kernel
theorem dX10_isBlock_33 : decode cX10_isBlock 33 = .ok (.ireturn, 1) := by decide +kernel
set_option maxRecDepth 20000 in
theorem ggX10_file_X10_in : GoodIn wsX10_file wsX10_in := goodIn_r _ [9] (by decide +kernel) (by decide +kernel)
set_option maxRecDepth 20000 in
theorem gX10_file_X10_in : GoodIn wsX10_file (va_wsS RX10 132 yX10_in wsX10_in) := goodIn_app (goodIn_of _ (by decide +kernel)) ggX10_file_X10_in
theorem dX10_file_0 : decode cX10_file 0 = .ok (.aload_n 0, 1) := by decide +kernel
theorem dX10_file_1 : decode cX10_file 1 = .ok (.iconst 0, 1) := by decide +kernel
theorem dX10_file_2 : decode cX10_file 2 = .ok (.putfield 120, 3) := by decide +kernel
theorem dX10_file_5 : decode cX10_file 5 = .ok (.iload_n 1, 1) := by decide +kernel
theorem dX10_file_6 : decode cX10_file 6 = .ok (.iconst 1, 1) := by decide +kernel
theorem dX10_file_7 : decode cX10_file 7 = .ok (.bipush 24, 2) := by decide +kernel
theorem dX10_file_9 : decode cX10_file 9 = .ok (.invokestatic 132, 3) := by decide +kernel
theorem dX10_file_12 : decode cX10_file 12 = .ok (.ifCond .eq 19, 3) := by decide +kernel
theorem dX10_file_15 : decode cX10_file 15 = .ok (.iload_n 2, 1) := by decide +kernel
theorem dX10_file_16 : decode cX10_file 16 = .ok (.iconst 1, 1) := by decide +kernel
theorem dX10_file_17 : decode cX10_file 17 = .ok (.iconst 4, 1) := by decide +kernel
theorem dX10_file_18 : decode cX10_file 18 = .ok (.invokestatic 132, 3) := by decide +kernel
theorem dX10_file_21 : decode cX10_file 21 = .ok (.ifCond .eq 10, 3) := by decide +kernel
theorem dX10_file_24 : decode cX10_file 24 = .ok (.aload_n 0, 1) := by decide +kernel
theorem dX10_file_25 : decode cX10_file 25 = .ok (.getfield 136, 3) := by decide +kernel
theorem dX10_file_28 : decode cX10_file 28 = .ok (.ifCond .le 5, 3) := by decide +kernel
theorem dX10_file_31 : decode cX10_file 31 = .ok (.iconst 0, 1) := by decide +kernel
theorem dX10_file_32 : decode cX10_file 32 = .ok (.ireturn, 1) := by decide +kernel
theorem dX10_file_33 : decode cX10_file 33 = .ok (.aload_n 0, 1) := by decide +kernel
theorem dX10_file_34 : decode cX10_file 34 = .ok (.iload_n 1, 1) := by decide +kernel
theorem dX10_file_35 : decode cX10_file 35 = .ok (.putfield 7, 3) := by decide +kernel
theorem dX10_file_38 : decode cX10_file 38 = .ok (.aload_n 0, 1) := by decide +kernel
theorem dX10_file_39 : decode cX10_file 39 = .ok (.iload_n 2, 1) := by decide +kernel
theorem dX10_file_40 : decode cX10_file 40 = .ok (.putfield 13, 3) := by decide +kernel
theorem dX10_file_43 : decode cX10_file 43 = .ok (.aload_n 0, 1) := by decide +kernel
theorem dX10_file_44 : decode cX10_file 44 = .ok (.iload_n 3, 1) := by decide +kernel
theorem dX10_file_45 : decode cX10_file 45 = .ok (.putfield 123, 3) := by decide +kernel
theorem dX10_file_48 : decode cX10_file 48 = .ok (.iconst 1, 1) := by decide +kernel
theorem dX10_file_49 : decode cX10_file 49 = .ok (.ireturn, 1) := by decide +kernel
set_option maxRecDepth 20000 in
theorem ggX10_value_X10_isBlock : GoodIn wsX10_value wsX10_isBlock := goodIn_r _ [6, 7, 8, 9, 10, 5, 11, 18, 19, 20, 21, 22, 23, 24, 25, 26, 27, 28, 29, 30, 31, 32, 33, 34, 35, 36, 37, 38, 39, 40, 41, 42, 43, 44, 45, 46, 47, 48, 49, 50, 51, 52, 53, 54, 55, 56, 57, 58, 59, 60, 61, 62] (by decide +kernel) (by decide +kernel)
set_option maxRecDepth 20000 in
theorem gX10_value_X10_isBlock : GoodIn wsX10_value (wsV RX10 139 RX10 yX10_isBlock wsX10_isBlock) := goodIn_app (goodIn_of _ (by decide +kernel)) ggX10_value_X10_isBlock
set_option maxRecDepth 20000 in
theorem ggX10_value_X10_valueOf : GoodIn wsX10_value wsX10_valueOf := goodIn_r _ [15, 16, 17, 18, 19, 20, 21, 22, 23, 24, 25, 26, 27, 28, 29, 30, 31, 32, 33, 34, 35, 36, 37, 38, 39, 40, 41, 42, 43, 44, 45, 46, 47, 48, 49, 50, 51, 52, 53, 54, 55, 56, 57, 58, 59, 60, 61, 62] (by decide +kernel) (by decide +kernel)
set_option maxRecDepth 20000 in
theorem gX10_value_X10_valueOf : GoodIn wsX10_value (wsV RX10 128 RX10 yX10_valueOf wsX10_valueOf) := goodIn_app (goodIn_of _ (by decide +kernel)) ggX10_value_X10_valueOf
theorem dX10_value_0 : decode cX10_value 0 = .ok (.aload_n 0, 1) := by decide +kernel
theorem dX10_value_1 : decode cX10_value 1 = .ok (.iconst 0, 1) := by decide +kernel
theorem dX10_value_2 : decode cX10_value 2 = .ok (.putfield 120, 3) := by decide +kernel
theorem dX10_value_5 : decode cX10_value 5 = .ok (.aload_n 0, 1) := by decide +kernel
theorem dX10_value_6 : decode cX10_value 6 = .ok (.iload_n 1, 1) := by decide +kernel
theorem dX10_value_7 : decode cX10_value 7 = .ok (.iload_n 2, 1) := by decide +kernel
theorem dX10_value_8 : decode cX10_value 8 = .ok (.invokevirtual 139, 3) := by decide +kernel
theorem dX10_value_11 : decode cX10_value 11 = .ok (.ifCond .eq 12, 3) := by decide +kernel
theorem dX10_value_14 : decode cX10_value 14 = .ok (.aload_n 0, 1) := by decide +kernel
theorem dX10_value_15 : decode cX10_value 15 = .ok (.iload_n 1, 1) := by decide +kernel
theorem dX10_value_16 : decode cX10_value 16 = .ok (.iload_n 2, 1) := by decide +kernel
theorem dX10_value_17 : decode cX10_value 17 = .ok (.invokevirtual 128, 3) := by decide +kernel
theorem dX10_value_20 : decode cX10_value 20 = .ok (.goto 4, 3) := by decide +kernel
theorem dX10_value_23 : decode cX10_value 23 = .ok (.iconst 0, 1) := by decide +kernel
theorem dX10_value_24 : decode cX10_value 24 = .ok (.ireturn, 1) := by decide +kernel
set_option maxRecDepth 20000 in
theorem ggX10_sum_X10_isBlock : GoodIn wsX10_sum wsX10_isBlock := goodIn_r _ [6, 7, 8, 9, 10, 5, 11, 23, 24, 25, 26, 27, 28, 29, 30, 31, 32, 33, 34, 35, 36, 37, 38, 39, 40, 41, 42, 43, 44, 45, 46, 47, 48, 49, 50, 51, 52, 53, 54, 55, 56, 57, 58, 59, 60, 61, 62, 63, 64, 65, 66, 67] (by decide +kernel) (by decide +kernel)
set_option maxRecDepth 20000 in
theorem gX10_sum_X10_isBlock : GoodIn wsX10_sum (wsV RX10 139 RX10 yX10_isBlock wsX10_isBlock) := goodIn_app (goodIn_of _ (by decide +kernel)) ggX10_sum_X10_isBlock
set_option maxRecDepth 20000 in
theorem ggX10_sum_X10_sumOf : GoodIn wsX10_sum wsX10_sumOf := goodIn_r _ [15, 8, 16, 17, 18, 19, 5, 20, 21, 22, 23, 24, 25, 26, 27, 28, 29, 30, 31, 32, 33, 34, 35, 36, 37, 38, 39, 40, 41, 42, 43, 44, 45, 46, 47, 48, 49, 50, 51, 52, 53, 54, 55, 56, 57, 58, 59, 60, 61, 62, 63, 64, 65, 66, 67] (by decide +kernel) (by decide +kernel)
set_option maxRecDepth 20000 in
theorem gX10_sum_X10_sumOf : GoodIn wsX10_sum (wsV RX10 143 RX10 yX10_sumOf wsX10_sumOf) := goodIn_app (goodIn_of _ (by decide +kernel)) ggX10_sum_X10_sumOf
theorem dX10_sum_0 : decode cX10_sum 0 = .ok (.aload_n 0, 1) := by decide +kernel
theorem dX10_sum_1 : decode cX10_sum 1 = .ok (.iconst 0, 1) := by decide +kernel
theorem dX10_sum_2 : decode cX10_sum 2 = .ok (.putfield 120, 3) := by decide +kernel
theorem dX10_sum_5 : decode cX10_sum 5 = .ok (.aload_n 0, 1) := by decide +kernel
theorem dX10_sum_6 : decode cX10_sum 6 = .ok (.iload_n 1, 1) := by decide +kernel
theorem dX10_sum_7 : decode cX10_sum 7 = .ok (.iconst 0, 1) := by decide +kernel
theorem dX10_sum_8 : decode cX10_sum 8 = .ok (.invokevirtual 139, 3) := by decide +kernel
theorem dX10_sum_11 : decode cX10_sum 11 = .ok (.ifCond .eq 11, 3) := by decide +kernel
theorem dX10_sum_14 : decode cX10_sum 14 = .ok (.aload_n 0, 1) := by decide +kernel
theorem dX10_sum_15 : decode cX10_sum 15 = .ok (.iload_n 1, 1) := by decide +kernel
theorem dX10_sum_16 : decode cX10_sum 16 = .ok (.invokevirtual 143, 3) := by decide +kernel
theorem dX10_sum_19 : decode cX10_sum 19 = .ok (.goto 4, 3) := by decide +kernel
theorem dX10_sum_22 : decode cX10_sum 22 = .ok (.iconst 0, 1) := by decide +kernel
theorem dX10_sum_23 : decode cX10_sum 23 = .ok (.ireturn, 1) := by decide +kernel
set_option maxRecDepth 20000 in
theorem ggX10_isPeer_X10_in : GoodIn wsX10_isPeer wsX10_in := goodIn_r _ [5] (by decide +kernel) (by decide +kernel)
set_option maxRecDepth 20000 in
theorem gX10_isPeer_X10_in : GoodIn wsX10_isPeer (va_wsS RX10 132 yX10_in wsX10_in) := goodIn_app (goodIn_of _ (by decide +kernel)) ggX10_isPeer_X10_in
theorem dX10_isPeer_0 : decode cX10_isPeer 0 = .ok (.iload_n 1, 1) := by decide +kernel
theorem dX10_isPeer_1 : decode cX10_isPeer 1 = .ok (.iconst 0, 1) := by decide +kernel
theorem dX10_isPeer_2 : decode cX10_isPeer 2 = .ok (.aload_n 0, 1) := by decide +kernel
theorem dX10_isPeer_3 : decode cX10_isPeer 3 = .ok (.getfield 136, 3) := by decide +kernel
theorem dX10_isPeer_6 : decode cX10_isPeer 6 = .ok (.iconst 1, 1) := by decide +kernel
theorem dX10_isPeer_7 : decode cX10_isPeer 7 = .ok (.isub, 1) := by decide +kernel
theorem dX10_isPeer_8 : decode cX10_isPeer 8 = .ok (.invokestatic 132, 3) := by decide +kernel
theorem dX10_isPeer_11 : decode cX10_isPeer 11 = .ok (.ireturn, 1) := by decide +kernel
set_option maxRecDepth 20000 in
theorem ggX10_isTwo_X10_isPeer : GoodIn wsX10_isTwo wsX10_isPeer := goodIn_r _ [5, 6, 7, 8, 4, 9, 10, 11, 12, 13, 14, 15, 16, 17, 18, 19, 20, 21, 22, 23, 24, 25, 26, 27, 28, 29, 30, 31, 32, 33, 34, 35, 36, 37, 38, 39, 40, 41, 42, 43, 44, 45, 46, 47, 48, 49, 50, 51, 52, 53, 54] (by decide +kernel) (by decide +kernel)
set_option maxRecDepth 20000 in
theorem gX10_isTwo_X10_isPeer : GoodIn wsX10_isTwo (wsV RX10 147 RX10 yX10_isPeer wsX10_isPeer) := goodIn_app (goodIn_of _ (by decide +kernel)) ggX10_isTwo_X10_isPeer
theorem dX10_isTwo_0 : decode cX10_isTwo 0 = .ok (.aload_n 0, 1) := by decide +kernel
theorem dX10_isTwo_1 : decode cX10_isTwo 1 = .ok (.iload_n 1, 1) := by decide +kernel
theorem dX10_isTwo_2 : decode cX10_isTwo 2 = .ok (.invokevirtual 147, 3) := by decide +kernel
theorem dX10_isTwo_5 : decode cX10_isTwo 5 = .ok (.ifCond .eq 20, 3) := by decide +kernel
theorem dX10_isTwo_8 : decode cX10_isTwo 8 = .ok (.aload_n 0, 1) := by decide +kernel
theorem dX10_isTwo_9 : decode cX10_isTwo 9 = .ok (.iload_n 2, 1) := by decide +kernel
theorem dX10_isTwo_10 : decode cX10_isTwo 10 = .ok (.invokevirtual 147, 3) := by decide +kernel
theorem dX10_isTwo_13 : decode cX10_isTwo 13 = .ok (.ifCond .eq 12, 3) := by decide +kernel
theorem dX10_isTwo_16 : decode cX10_isTwo 16 = .ok (.iload_n 1, 1) := by decide +kernel
theorem dX10_isTwo_17 : decode cX10_isTwo 17 = .ok (.iload_n 2, 1) := by decide +kernel
theorem dX10_isTwo_18 : decode cX10_isTwo 18 = .ok (.if_icmp .eq 7, 3) := by decide +kernel
theorem dX10_isTwo_21 : decode cX10_isTwo 21 = .ok (.iconst 1, 1) := by decide +kernel
theorem dX10_isTwo_22 : decode cX10_isTwo 22 = .ok (.goto 4, 3) := by decide +kernel
theorem dX10_isTwo_25 : decode cX10_isTwo 25 = .ok (.iconst 0, 1) := by decide +kernel
theorem dX10_isTwo_26 : decode cX10_isTwo 26 = .ok (.ireturn, 1) := by decide +kernel
theorem dX10_two_0 : decode cX10_two 0 = .ok (.bipush 12, 2) := by decide +kernel
theorem dX10_two_2 : decode cX10_two 2 = .ok (.iload_n 0, 1) := by decide +kernel
theorem dX10_two_3 : decode cX10_two 3 = .ok (.imul, 1) := by decide +kernel
theorem dX10_two_4 : decode cX10_two 4 = .ok (.iload_n 1, 1) := by decide +kernel
theorem dX10_two_5 : decode cX10_two 5 = .ok (.iadd, 1) := by decide +kernel
theorem dX10_two_6 : decode cX10_two 6 = .ok (.ireturn, 1) := by decide +kernel
theorem dX10_cell_0 : decode cX10_cell 0 = .ok (.bipush 96, 2) := by decide +kernel
theorem dX10_cell_2 : decode cX10_cell 2 = .ok (.iload_n 0, 1) := by decide +kernel
theorem dX10_cell_3 : decode cX10_cell 3 = .ok (.imul, 1) := by decide +kernel
theorem dX10_cell_4 : decode cX10_cell 4 = .ok (.iconst 4, 1) := by decide +kernel
theorem dX10_cell_5 : decode cX10_cell 5 = .ok (.iload_n 1, 1) := by decide +kernel
theorem dX10_cell_6 : decode cX10_cell 6 = .ok (.imul, 1) := by decide +kernel
theorem dX10_cell_7 : decode cX10_cell 7 = .ok (.iadd, 1) := by decide +kernel
theorem dX10_cell_8 : decode cX10_cell 8 = .ok (.iload_n 2, 1) := by decide +kernel
theorem dX10_cell_9 : decode cX10_cell 9 = .ok (.iadd, 1) := by decide +kernel
theorem dX10_cell_10 : decode cX10_cell 10 = .ok (.ireturn, 1) := by decide +kernel
set_option maxRecDepth 20000 in
theorem ggX10_isNear_X10_two : GoodIn wsX10_isNear wsX10_two := goodIn_r _ [7] (by decide +kernel) (by decide +kernel)
set_option maxRecDepth 20000 in
theorem gX10_isNear_X10_two : GoodIn wsX10_isNear (va_wsS RX10 151 yX10_two wsX10_two) := goodIn_app (goodIn_of _ (by decide +kernel)) ggX10_isNear_X10_two
theorem dX10_isNear_0 : decode cX10_isNear 0 = .ok (.aload_n 0, 1) := by decide +kernel
theorem dX10_isNear_1 : decode cX10_isNear 1 = .ok (.getfield 63, 3) := by decide +kernel
theorem dX10_isNear_4 : decode cX10_isNear 4 = .ok (.iload_n 1, 1) := by decide +kernel
theorem dX10_isNear_5 : decode cX10_isNear 5 = .ok (.iload_n 2, 1) := by decide +kernel
theorem dX10_isNear_6 : decode cX10_isNear 6 = .ok (.invokestatic 151, 3) := by decide +kernel
theorem dX10_isNear_9 : decode cX10_isNear 9 = .ok (.baload, 1) := by decide +kernel
theorem dX10_isNear_10 : decode cX10_isNear 10 = .ok (.ifCond .eq 51, 3) := by decide +kernel
theorem dX10_isNear_13 : decode cX10_isNear 13 = .ok (.aload_n 0, 1) := by decide +kernel
theorem dX10_isNear_14 : decode cX10_isNear 14 = .ok (.getfield 26, 3) := by decide +kernel
theorem dX10_isNear_17 : decode cX10_isNear 17 = .ok (.iload_n 1, 1) := by decide +kernel
theorem dX10_isNear_18 : decode cX10_isNear 18 = .ok (.baload, 1) := by decide +kernel
theorem dX10_isNear_19 : decode cX10_isNear 19 = .ok (.ifCond .eq 42, 3) := by decide +kernel
theorem dX10_isNear_22 : decode cX10_isNear 22 = .ok (.aload_n 0, 1) := by decide +kernel
theorem dX10_isNear_23 : decode cX10_isNear 23 = .ok (.getfield 26, 3) := by decide +kernel
theorem dX10_isNear_26 : decode cX10_isNear 26 = .ok (.iload_n 2, 1) := by decide +kernel
theorem dX10_isNear_27 : decode cX10_isNear 27 = .ok (.baload, 1) := by decide +kernel
theorem dX10_isNear_28 : decode cX10_isNear 28 = .ok (.ifCond .eq 33, 3) := by decide +kernel
theorem dX10_isNear_31 : decode cX10_isNear 31 = .ok (.aload_n 0, 1) := by decide +kernel
theorem dX10_isNear_32 : decode cX10_isNear 32 = .ok (.getfield 69, 3) := by decide +kernel
theorem dX10_isNear_35 : decode cX10_isNear 35 = .ok (.iload_n 1, 1) := by decide +kernel
theorem dX10_isNear_36 : decode cX10_isNear 36 = .ok (.iload_n 2, 1) := by decide +kernel
theorem dX10_isNear_37 : decode cX10_isNear 37 = .ok (.invokestatic 151, 3) := by decide +kernel
theorem dX10_isNear_40 : decode cX10_isNear 40 = .ok (.baload, 1) := by decide +kernel
theorem dX10_isNear_41 : decode cX10_isNear 41 = .ok (.ifCond .ne 20, 3) := by decide +kernel
theorem dX10_isNear_44 : decode cX10_isNear 44 = .ok (.aload_n 0, 1) := by decide +kernel
theorem dX10_isNear_45 : decode cX10_isNear 45 = .ok (.getfield 69, 3) := by decide +kernel
theorem dX10_isNear_48 : decode cX10_isNear 48 = .ok (.iload_n 2, 1) := by decide +kernel
theorem dX10_isNear_49 : decode cX10_isNear 49 = .ok (.iload_n 1, 1) := by decide +kernel
theorem dX10_isNear_50 : decode cX10_isNear 50 = .ok (.invokestatic 151, 3) := by decide +kernel
theorem dX10_isNear_53 : decode cX10_isNear 53 = .ok (.baload, 1) := by decide +kernel
theorem dX10_isNear_54 : decode cX10_isNear 54 = .ok (.ifCond .ne 7, 3) := by decide +kernel
theorem dX10_isNear_57 : decode cX10_isNear 57 = .ok (.iconst 1, 1) := by decide +kernel
theorem dX10_isNear_58 : decode cX10_isNear 58 = .ok (.goto 4, 3) := by decide +kernel
theorem dX10_isNear_61 : decode cX10_isNear 61 = .ok (.iconst 0, 1) := by decide +kernel
theorem dX10_isNear_62 : decode cX10_isNear 62 = .ok (.ireturn, 1) := by decide +kernel
theorem dX10_tells_0 : decode cX10_tells 0 = .ok (.aload_n 0, 1) := by decide +kernel
theorem dX10_tells_1 : decode cX10_tells 1 = .ok (.getfield 48, 3) := by decide +kernel
theorem dX10_tells_4 : decode cX10_tells 4 = .ok (.bipush 24, 2) := by decide +kernel
theorem dX10_tells_6 : decode cX10_tells 6 = .ok (.iload_n 1, 1) := by decide +kernel
theorem dX10_tells_7 : decode cX10_tells 7 = .ok (.imul, 1) := by decide +kernel
theorem dX10_tells_8 : decode cX10_tells 8 = .ok (.iload_n 2, 1) := by decide +kernel
theorem dX10_tells_9 : decode cX10_tells 9 = .ok (.iadd, 1) := by decide +kernel
theorem dX10_tells_10 : decode cX10_tells 10 = .ok (.baload, 1) := by decide +kernel
theorem dX10_tells_11 : decode cX10_tells 11 = .ok (.ifCond .eq 23, 3) := by decide +kernel
theorem dX10_tells_14 : decode cX10_tells 14 = .ok (.aload_n 0, 1) := by decide +kernel
theorem dX10_tells_15 : decode cX10_tells 15 = .ok (.getfield 16, 3) := by decide +kernel
theorem dX10_tells_18 : decode cX10_tells 18 = .ok (.iload_n 1, 1) := by decide +kernel
theorem dX10_tells_19 : decode cX10_tells 19 = .ok (.iaload, 1) := by decide +kernel
theorem dX10_tells_20 : decode cX10_tells 20 = .ok (.iconst 5, 1) := by decide +kernel
theorem dX10_tells_21 : decode cX10_tells 21 = .ok (.if_icmp .ne 9, 3) := by decide +kernel
theorem dX10_tells_24 : decode cX10_tells 24 = .ok (.iload_n 2, 1) := by decide +kernel
theorem dX10_tells_25 : decode cX10_tells 25 = .ok (.iconst 2, 1) := by decide +kernel
theorem dX10_tells_26 : decode cX10_tells 26 = .ok (.irem, 1) := by decide +kernel
theorem dX10_tells_27 : decode cX10_tells 27 = .ok (.ifCond .ne 7, 3) := by decide +kernel
theorem dX10_tells_30 : decode cX10_tells 30 = .ok (.iconst 1, 1) := by decide +kernel
theorem dX10_tells_31 : decode cX10_tells 31 = .ok (.goto 4, 3) := by decide +kernel
theorem dX10_tells_34 : decode cX10_tells 34 = .ok (.iconst 0, 1) := by decide +kernel
theorem dX10_tells_35 : decode cX10_tells 35 = .ok (.ireturn, 1) := by decide +kernel
set_option maxRecDepth 20000 in
theorem ggX10_wants_X10_isNear : GoodIn wsX10_wants wsX10_isNear := goodIn_r _ [7, 8, 9, 10, 11, 12, 6, 13, 19, 20, 21, 22, 23, 24, 25, 26, 27, 28, 29, 30, 31, 32, 33, 34, 35, 36, 37, 38, 39, 40, 41, 42, 43, 44, 45, 46, 47, 48, 49, 50, 51, 52, 53, 54, 55, 56, 57, 58, 59, 60, 61, 62, 63] (by decide +kernel) (by decide +kernel)
set_option maxRecDepth 20000 in
theorem gX10_wants_X10_isNear : GoodIn wsX10_wants (wsV RX10 154 RX10 yX10_isNear wsX10_isNear) := goodIn_app (goodIn_of _ (by decide +kernel)) ggX10_wants_X10_isNear
set_option maxRecDepth 20000 in
theorem ggX10_wants_X10_tells : GoodIn wsX10_wants wsX10_tells := goodIn_r _ [17, 2, 18, 19, 20, 21, 22, 23, 24, 25, 26, 27, 28, 29, 30, 31, 32, 33, 34, 35, 36, 37, 38, 39, 40, 41, 42, 43, 44, 45, 46, 47, 48, 49, 50, 51, 52, 53, 54, 55, 56, 57, 58, 59, 60, 61, 62, 63] (by decide +kernel) (by decide +kernel)
set_option maxRecDepth 20000 in
theorem gX10_wants_X10_tells : GoodIn wsX10_wants (wsV RX10 157 RX10 yX10_tells wsX10_tells) := goodIn_app (goodIn_of _ (by decide +kernel)) ggX10_wants_X10_tells
theorem dX10_wants_0 : decode cX10_wants 0 = .ok (.aload_n 0, 1) := by decide +kernel
theorem dX10_wants_1 : decode cX10_wants 1 = .ok (.iload_n 2, 1) := by decide +kernel
theorem dX10_wants_2 : decode cX10_wants 2 = .ok (.iload_n 1, 1) := by decide +kernel
theorem dX10_wants_3 : decode cX10_wants 3 = .ok (.invokevirtual 154, 3) := by decide +kernel
theorem dX10_wants_6 : decode cX10_wants 6 = .ok (.ifCond .ne 5, 3) := by decide +kernel
theorem dX10_wants_9 : decode cX10_wants 9 = .ok (.iconst 0, 1) := by decide +kernel
theorem dX10_wants_10 : decode cX10_wants 10 = .ok (.ireturn, 1) := by decide +kernel
theorem dX10_wants_11 : decode cX10_wants 11 = .ok (.iconst 0, 1) := by decide +kernel
theorem dX10_wants_12 : decode cX10_wants 12 = .ok (.istore_n 3, 1) := by decide +kernel
theorem dX10_wants_13 : decode cX10_wants 13 = .ok (.iload_n 3, 1) := by decide +kernel
theorem dX10_wants_14 : decode cX10_wants 14 = .ok (.aload_n 0, 1) := by decide +kernel
theorem dX10_wants_15 : decode cX10_wants 15 = .ok (.getfield 7, 3) := by decide +kernel
theorem dX10_wants_18 : decode cX10_wants 18 = .ok (.if_icmp .ge 34, 3) := by decide +kernel
theorem dX10_wants_21 : decode cX10_wants 21 = .ok (.aload_n 0, 1) := by decide +kernel
theorem dX10_wants_22 : decode cX10_wants 22 = .ok (.iload_n 2, 1) := by decide +kernel
theorem dX10_wants_23 : decode cX10_wants 23 = .ok (.iload_n 3, 1) := by decide +kernel
theorem dX10_wants_24 : decode cX10_wants 24 = .ok (.invokevirtual 157, 3) := by decide +kernel
theorem dX10_wants_27 : decode cX10_wants 27 = .ok (.ifCond .eq 19, 3) := by decide +kernel
theorem dX10_wants_30 : decode cX10_wants 30 = .ok (.aload_n 0, 1) := by decide +kernel
theorem dX10_wants_31 : decode cX10_wants 31 = .ok (.getfield 48, 3) := by decide +kernel
theorem dX10_wants_34 : decode cX10_wants 34 = .ok (.bipush 24, 2) := by decide +kernel
theorem dX10_wants_36 : decode cX10_wants 36 = .ok (.iload_n 1, 1) := by decide +kernel
theorem dX10_wants_37 : decode cX10_wants 37 = .ok (.imul, 1) := by decide +kernel
theorem dX10_wants_38 : decode cX10_wants 38 = .ok (.iload_n 3, 1) := by decide +kernel
theorem dX10_wants_39 : decode cX10_wants 39 = .ok (.iadd, 1) := by decide +kernel
theorem dX10_wants_40 : decode cX10_wants 40 = .ok (.baload, 1) := by decide +kernel
theorem dX10_wants_41 : decode cX10_wants 41 = .ok (.ifCond .ne 5, 3) := by decide +kernel
theorem dX10_wants_44 : decode cX10_wants 44 = .ok (.iconst 1, 1) := by decide +kernel
theorem dX10_wants_45 : decode cX10_wants 45 = .ok (.ireturn, 1) := by decide +kernel
theorem dX10_wants_46 : decode cX10_wants 46 = .ok (.iinc 3 1, 3) := by decide +kernel
theorem dX10_wants_49 : decode cX10_wants 49 = .ok (.goto (-36), 3) := by decide +kernel
theorem dX10_wants_52 : decode cX10_wants 52 = .ok (.iconst 0, 1) := by decide +kernel
theorem dX10_wants_53 : decode cX10_wants 53 = .ok (.ireturn, 1) := by decide +kernel
theorem dX10_hasMany_0 : decode cX10_hasMany 0 = .ok (.iconst 0, 1) := by decide +kernel
theorem dX10_hasMany_1 : decode cX10_hasMany 1 = .ok (.istore_n 2, 1) := by decide +kernel
theorem dX10_hasMany_2 : decode cX10_hasMany 2 = .ok (.iconst 0, 1) := by decide +kernel
theorem dX10_hasMany_3 : decode cX10_hasMany 3 = .ok (.istore_n 3, 1) := by decide +kernel
theorem dX10_hasMany_4 : decode cX10_hasMany 4 = .ok (.iload_n 3, 1) := by decide +kernel
theorem dX10_hasMany_5 : decode cX10_hasMany 5 = .ok (.aload_n 0, 1) := by decide +kernel
theorem dX10_hasMany_6 : decode cX10_hasMany 6 = .ok (.getfield 7, 3) := by decide +kernel
theorem dX10_hasMany_9 : decode cX10_hasMany 9 = .ok (.if_icmp .ge 31, 3) := by decide +kernel
theorem dX10_hasMany_12 : decode cX10_hasMany 12 = .ok (.iload_n 2, 1) := by decide +kernel
theorem dX10_hasMany_13 : decode cX10_hasMany 13 = .ok (.aload_n 0, 1) := by decide +kernel
theorem dX10_hasMany_14 : decode cX10_hasMany 14 = .ok (.getfield 48, 3) := by decide +kernel
theorem dX10_hasMany_17 : decode cX10_hasMany 17 = .ok (.bipush 24, 2) := by decide +kernel
theorem dX10_hasMany_19 : decode cX10_hasMany 19 = .ok (.iload_n 1, 1) := by decide +kernel
theorem dX10_hasMany_20 : decode cX10_hasMany 20 = .ok (.imul, 1) := by decide +kernel
theorem dX10_hasMany_21 : decode cX10_hasMany 21 = .ok (.iload_n 3, 1) := by decide +kernel
theorem dX10_hasMany_22 : decode cX10_hasMany 22 = .ok (.iadd, 1) := by decide +kernel
theorem dX10_hasMany_23 : decode cX10_hasMany 23 = .ok (.baload, 1) := by decide +kernel
theorem dX10_hasMany_24 : decode cX10_hasMany 24 = .ok (.ifCond .eq 7, 3) := by decide +kernel
theorem dX10_hasMany_27 : decode cX10_hasMany 27 = .ok (.iconst 1, 1) := by decide +kernel
theorem dX10_hasMany_28 : decode cX10_hasMany 28 = .ok (.goto 4, 3) := by decide +kernel
theorem dX10_hasMany_31 : decode cX10_hasMany 31 = .ok (.iconst 0, 1) := by decide +kernel
theorem dX10_hasMany_32 : decode cX10_hasMany 32 = .ok (.iadd, 1) := by decide +kernel
theorem dX10_hasMany_33 : decode cX10_hasMany 33 = .ok (.istore_n 2, 1) := by decide +kernel
theorem dX10_hasMany_34 : decode cX10_hasMany 34 = .ok (.iinc 3 1, 3) := by decide +kernel
theorem dX10_hasMany_37 : decode cX10_hasMany 37 = .ok (.goto (-33), 3) := by decide +kernel
theorem dX10_hasMany_40 : decode cX10_hasMany 40 = .ok (.iload_n 2, 1) := by decide +kernel
theorem dX10_hasMany_41 : decode cX10_hasMany 41 = .ok (.ireturn, 1) := by decide +kernel
set_option maxRecDepth 20000 in
theorem ggX10_isDone_X10_hasMany : GoodIn wsX10_isDone wsX10_hasMany := goodIn_r _ [6, 1, 7, 8, 9, 10, 11, 12, 13, 14, 15, 16, 17, 18, 19, 20, 21, 22, 23, 24, 25, 26, 27, 28, 29, 30, 31, 32, 33, 34, 35, 36, 37, 38, 39, 40, 41, 42, 43, 44, 45, 46, 47, 48, 49, 50, 51, 52] (by decide +kernel) (by decide +kernel)
set_option maxRecDepth 20000 in
theorem gX10_isDone_X10_hasMany : GoodIn wsX10_isDone (wsV RX10 160 RX10 yX10_hasMany wsX10_hasMany) := goodIn_app (goodIn_of _ (by decide +kernel)) ggX10_isDone_X10_hasMany
theorem dX10_isDone_0 : decode cX10_isDone 0 = .ok (.aload_n 0, 1) := by decide +kernel
theorem dX10_isDone_1 : decode cX10_isDone 1 = .ok (.iload_n 1, 1) := by decide +kernel
theorem dX10_isDone_2 : decode cX10_isDone 2 = .ok (.invokevirtual 160, 3) := by decide +kernel
theorem dX10_isDone_5 : decode cX10_isDone 5 = .ok (.aload_n 0, 1) := by decide +kernel
theorem dX10_isDone_6 : decode cX10_isDone 6 = .ok (.getfield 7, 3) := by decide +kernel
theorem dX10_isDone_9 : decode cX10_isDone 9 = .ok (.if_icmp .ne 7, 3) := by decide +kernel
theorem dX10_isDone_12 : decode cX10_isDone 12 = .ok (.iconst 1, 1) := by decide +kernel
theorem dX10_isDone_13 : decode cX10_isDone 13 = .ok (.goto 4, 3) := by decide +kernel
theorem dX10_isDone_16 : decode cX10_isDone 16 = .ok (.iconst 0, 1) := by decide +kernel
theorem dX10_isDone_17 : decode cX10_isDone 17 = .ok (.ireturn, 1) := by decide +kernel
set_option maxRecDepth 20000 in
theorem ggX10_heldMany_X10_cell : GoodIn wsX10_heldMany wsX10_cell := goodIn_r _ [6] (by decide +kernel) (by decide +kernel)
set_option maxRecDepth 20000 in
theorem gX10_heldMany_X10_cell : GoodIn wsX10_heldMany (va_wsS RX10 163 yX10_cell wsX10_cell) := goodIn_app (goodIn_of _ (by decide +kernel)) ggX10_heldMany_X10_cell
theorem dX10_heldMany_0 : decode cX10_heldMany 0 = .ok (.iconst 0, 1) := by decide +kernel
theorem dX10_heldMany_1 : decode cX10_heldMany 1 = .ok (.istore_n 3, 1) := by decide +kernel
theorem dX10_heldMany_2 : decode cX10_heldMany 2 = .ok (.iconst 0, 1) := by decide +kernel
theorem dX10_heldMany_3 : decode cX10_heldMany 3 = .ok (.istore 4, 2) := by decide +kernel
theorem dX10_heldMany_5 : decode cX10_heldMany 5 = .ok (.iload 4, 2) := by decide +kernel
theorem dX10_heldMany_7 : decode cX10_heldMany 7 = .ok (.aload_n 0, 1) := by decide +kernel
theorem dX10_heldMany_8 : decode cX10_heldMany 8 = .ok (.getfield 13, 3) := by decide +kernel
theorem dX10_heldMany_11 : decode cX10_heldMany 11 = .ok (.if_icmp .ge 32, 3) := by decide +kernel
theorem dX10_heldMany_14 : decode cX10_heldMany 14 = .ok (.iload_n 3, 1) := by decide +kernel
theorem dX10_heldMany_15 : decode cX10_heldMany 15 = .ok (.aload_n 0, 1) := by decide +kernel
theorem dX10_heldMany_16 : decode cX10_heldMany 16 = .ok (.getfield 54, 3) := by decide +kernel
theorem dX10_heldMany_19 : decode cX10_heldMany 19 = .ok (.iload_n 1, 1) := by decide +kernel
theorem dX10_heldMany_20 : decode cX10_heldMany 20 = .ok (.iload_n 2, 1) := by decide +kernel
theorem dX10_heldMany_21 : decode cX10_heldMany 21 = .ok (.iload 4, 2) := by decide +kernel
theorem dX10_heldMany_23 : decode cX10_heldMany 23 = .ok (.invokestatic 163, 3) := by decide +kernel
theorem dX10_heldMany_26 : decode cX10_heldMany 26 = .ok (.baload, 1) := by decide +kernel
theorem dX10_heldMany_27 : decode cX10_heldMany 27 = .ok (.ifCond .eq 7, 3) := by decide +kernel
theorem dX10_heldMany_30 : decode cX10_heldMany 30 = .ok (.iconst 1, 1) := by decide +kernel
theorem dX10_heldMany_31 : decode cX10_heldMany 31 = .ok (.goto 4, 3) := by decide +kernel
theorem dX10_heldMany_34 : decode cX10_heldMany 34 = .ok (.iconst 0, 1) := by decide +kernel
theorem dX10_heldMany_35 : decode cX10_heldMany 35 = .ok (.iadd, 1) := by decide +kernel
theorem dX10_heldMany_36 : decode cX10_heldMany 36 = .ok (.istore_n 3, 1) := by decide +kernel
theorem dX10_heldMany_37 : decode cX10_heldMany 37 = .ok (.iinc 4 1, 3) := by decide +kernel
theorem dX10_heldMany_40 : decode cX10_heldMany 40 = .ok (.goto (-35), 3) := by decide +kernel
theorem dX10_heldMany_43 : decode cX10_heldMany 43 = .ok (.iload_n 3, 1) := by decide +kernel
theorem dX10_heldMany_44 : decode cX10_heldMany 44 = .ok (.ireturn, 1) := by decide +kernel
set_option maxRecDepth 20000 in
theorem ggX10_peer_X10_in : GoodIn wsX10_peer wsX10_in := goodIn_r _ [20] (by decide +kernel) (by decide +kernel)
set_option maxRecDepth 20000 in
theorem gX10_peer_X10_in : GoodIn wsX10_peer (va_wsS RX10 132 yX10_in wsX10_in) := goodIn_app (goodIn_of _ (by decide +kernel)) ggX10_peer_X10_in
set_option maxRecDepth 20000 in
theorem ggX10_peer_X10_cell : GoodIn wsX10_peer wsX10_cell := goodIn_r _ [23] (by decide +kernel) (by decide +kernel)
set_option maxRecDepth 20000 in
theorem gX10_peer_X10_cell : GoodIn wsX10_peer (va_wsS RX10 163 yX10_cell wsX10_cell) := goodIn_app (goodIn_of _ (by decide +kernel)) ggX10_peer_X10_cell
set_option maxRecDepth 20000 in
theorem ggX10_peer_X10_valueOf : GoodIn wsX10_peer wsX10_valueOf := goodIn_r _ [27, 28, 29, 30, 31, 32, 33, 34, 35, 36, 37, 38, 39, 40, 41, 42, 43, 44, 45, 46, 47, 48, 49, 50, 51, 52, 53, 54, 55, 56, 57, 58, 59, 60, 61, 62, 63, 64, 65, 66, 67, 68, 69, 70, 71, 72, 73, 74] (by decide +kernel) (by decide +kernel)
set_option maxRecDepth 20000 in
theorem gX10_peer_X10_valueOf : GoodIn wsX10_peer (wsV RX10 128 RX10 yX10_valueOf wsX10_valueOf) := goodIn_app (goodIn_of _ (by decide +kernel)) ggX10_peer_X10_valueOf
theorem dX10_peer_0 : decode cX10_peer 0 = .ok (.aload_n 0, 1) := by decide +kernel
theorem dX10_peer_1 : decode cX10_peer 1 = .ok (.iconst 0, 1) := by decide +kernel
theorem dX10_peer_2 : decode cX10_peer 2 = .ok (.putfield 120, 3) := by decide +kernel
theorem dX10_peer_5 : decode cX10_peer 5 = .ok (.aload_n 0, 1) := by decide +kernel
theorem dX10_peer_6 : decode cX10_peer 6 = .ok (.getfield 136, 3) := by decide +kernel
theorem dX10_peer_9 : decode cX10_peer 9 = .ok (.bipush 12, 2) := by decide +kernel
theorem dX10_peer_11 : decode cX10_peer 11 = .ok (.if_icmp .eq 32, 3) := by decide +kernel
theorem dX10_peer_14 : decode cX10_peer 14 = .ok (.iload_n 1, 1) := by decide +kernel
theorem dX10_peer_15 : decode cX10_peer 15 = .ok (.iconst 0, 1) := by decide +kernel
theorem dX10_peer_16 : decode cX10_peer 16 = .ok (.iconst 5, 1) := by decide +kernel
theorem dX10_peer_17 : decode cX10_peer 17 = .ok (.invokestatic 132, 3) := by decide +kernel
theorem dX10_peer_20 : decode cX10_peer 20 = .ok (.ifCond .eq 23, 3) := by decide +kernel
theorem dX10_peer_23 : decode cX10_peer 23 = .ok (.iload_n 2, 1) := by decide +kernel
theorem dX10_peer_24 : decode cX10_peer 24 = .ok (.iconst 1, 1) := by decide +kernel
theorem dX10_peer_25 : decode cX10_peer 25 = .ok (.bipush 8, 2) := by decide +kernel
theorem dX10_peer_27 : decode cX10_peer 27 = .ok (.invokestatic 132, 3) := by decide +kernel
theorem dX10_peer_30 : decode cX10_peer 30 = .ok (.ifCond .eq 13, 3) := by decide +kernel
theorem dX10_peer_33 : decode cX10_peer 33 = .ok (.iload_n 3, 1) := by decide +kernel
theorem dX10_peer_34 : decode cX10_peer 34 = .ok (.iconst 1, 1) := by decide +kernel
theorem dX10_peer_35 : decode cX10_peer 35 = .ok (.bipush 8, 2) := by decide +kernel
theorem dX10_peer_37 : decode cX10_peer 37 = .ok (.invokestatic 132, 3) := by decide +kernel
theorem dX10_peer_40 : decode cX10_peer 40 = .ok (.ifCond .ne 5, 3) := by decide +kernel
theorem dX10_peer_43 : decode cX10_peer 43 = .ok (.iconst (-1), 1) := by decide +kernel
theorem dX10_peer_44 : decode cX10_peer 44 = .ok (.ireturn, 1) := by decide +kernel
theorem dX10_peer_45 : decode cX10_peer 45 = .ok (.aload_n 0, 1) := by decide +kernel
theorem dX10_peer_46 : decode cX10_peer 46 = .ok (.getfield 136, 3) := by decide +kernel
theorem dX10_peer_49 : decode cX10_peer 49 = .ok (.istore 4, 2) := by decide +kernel
theorem dX10_peer_51 : decode cX10_peer 51 = .ok (.aload_n 0, 1) := by decide +kernel
theorem dX10_peer_52 : decode cX10_peer 52 = .ok (.dup, 1) := by decide +kernel
theorem dX10_peer_53 : decode cX10_peer 53 = .ok (.getfield 136, 3) := by decide +kernel
theorem dX10_peer_56 : decode cX10_peer 56 = .ok (.iconst 1, 1) := by decide +kernel
theorem dX10_peer_57 : decode cX10_peer 57 = .ok (.iadd, 1) := by decide +kernel
theorem dX10_peer_58 : decode cX10_peer 58 = .ok (.putfield 136, 3) := by decide +kernel
theorem dX10_peer_61 : decode cX10_peer 61 = .ok (.aload_n 0, 1) := by decide +kernel
theorem dX10_peer_62 : decode cX10_peer 62 = .ok (.getfield 16, 3) := by decide +kernel
theorem dX10_peer_65 : decode cX10_peer 65 = .ok (.iload 4, 2) := by decide +kernel
theorem dX10_peer_67 : decode cX10_peer 67 = .ok (.iload_n 1, 1) := by decide +kernel
theorem dX10_peer_68 : decode cX10_peer 68 = .ok (.iastore, 1) := by decide +kernel
theorem dX10_peer_69 : decode cX10_peer 69 = .ok (.aload_n 0, 1) := by decide +kernel
theorem dX10_peer_70 : decode cX10_peer 70 = .ok (.getfield 20, 3) := by decide +kernel
theorem dX10_peer_73 : decode cX10_peer 73 = .ok (.iload 4, 2) := by decide +kernel
theorem dX10_peer_75 : decode cX10_peer 75 = .ok (.iload_n 2, 1) := by decide +kernel
theorem dX10_peer_76 : decode cX10_peer 76 = .ok (.iastore, 1) := by decide +kernel
theorem dX10_peer_77 : decode cX10_peer 77 = .ok (.aload_n 0, 1) := by decide +kernel
theorem dX10_peer_78 : decode cX10_peer 78 = .ok (.getfield 23, 3) := by decide +kernel
theorem dX10_peer_81 : decode cX10_peer 81 = .ok (.iload 4, 2) := by decide +kernel
theorem dX10_peer_83 : decode cX10_peer 83 = .ok (.iload_n 3, 1) := by decide +kernel
theorem dX10_peer_84 : decode cX10_peer 84 = .ok (.iastore, 1) := by decide +kernel
theorem dX10_peer_85 : decode cX10_peer 85 = .ok (.aload_n 0, 1) := by decide +kernel
theorem dX10_peer_86 : decode cX10_peer 86 = .ok (.getfield 26, 3) := by decide +kernel
theorem dX10_peer_89 : decode cX10_peer 89 = .ok (.iload 4, 2) := by decide +kernel
theorem dX10_peer_91 : decode cX10_peer 91 = .ok (.iconst 1, 1) := by decide +kernel
theorem dX10_peer_92 : decode cX10_peer 92 = .ok (.bastore, 1) := by decide +kernel
theorem dX10_peer_93 : decode cX10_peer 93 = .ok (.aload_n 0, 1) := by decide +kernel
theorem dX10_peer_94 : decode cX10_peer 94 = .ok (.getfield 30, 3) := by decide +kernel
theorem dX10_peer_97 : decode cX10_peer 97 = .ok (.iload 4, 2) := by decide +kernel
theorem dX10_peer_99 : decode cX10_peer 99 = .ok (.iconst 2, 1) := by decide +kernel
theorem dX10_peer_100 : decode cX10_peer 100 = .ok (.iastore, 1) := by decide +kernel
theorem dX10_peer_101 : decode cX10_peer 101 = .ok (.aload_n 0, 1) := by decide +kernel
theorem dX10_peer_102 : decode cX10_peer 102 = .ok (.getfield 45, 3) := by decide +kernel
theorem dX10_peer_105 : decode cX10_peer 105 = .ok (.iload 4, 2) := by decide +kernel
theorem dX10_peer_107 : decode cX10_peer 107 = .ok (.iload_n 1, 1) := by decide +kernel
theorem dX10_peer_108 : decode cX10_peer 108 = .ok (.iconst 1, 1) := by decide +kernel
theorem dX10_peer_109 : decode cX10_peer 109 = .ok (.if_icmp .ne 7, 3) := by decide +kernel
theorem dX10_peer_112 : decode cX10_peer 112 = .ok (.iconst 0, 1) := by decide +kernel
theorem dX10_peer_113 : decode cX10_peer 113 = .ok (.goto 4, 3) := by decide +kernel
theorem dX10_peer_116 : decode cX10_peer 116 = .ok (.iconst (-1), 1) := by decide +kernel
theorem dX10_peer_117 : decode cX10_peer 117 = .ok (.iastore, 1) := by decide +kernel
theorem dX10_peer_118 : decode cX10_peer 118 = .ok (.aload_n 0, 1) := by decide +kernel
theorem dX10_peer_119 : decode cX10_peer 119 = .ok (.getfield 84, 3) := by decide +kernel
theorem dX10_peer_122 : decode cX10_peer 122 = .ok (.iload 4, 2) := by decide +kernel
theorem dX10_peer_124 : decode cX10_peer 124 = .ok (.iconst (-1), 1) := by decide +kernel
theorem dX10_peer_125 : decode cX10_peer 125 = .ok (.iastore, 1) := by decide +kernel
theorem dX10_peer_126 : decode cX10_peer 126 = .ok (.aload_n 0, 1) := by decide +kernel
theorem dX10_peer_127 : decode cX10_peer 127 = .ok (.getfield 87, 3) := by decide +kernel
theorem dX10_peer_130 : decode cX10_peer 130 = .ok (.iload 4, 2) := by decide +kernel
theorem dX10_peer_132 : decode cX10_peer 132 = .ok (.iconst (-1), 1) := by decide +kernel
theorem dX10_peer_133 : decode cX10_peer 133 = .ok (.iastore, 1) := by decide +kernel
theorem dX10_peer_134 : decode cX10_peer 134 = .ok (.iconst 0, 1) := by decide +kernel
theorem dX10_peer_135 : decode cX10_peer 135 = .ok (.istore 5, 2) := by decide +kernel
theorem dX10_peer_137 : decode cX10_peer 137 = .ok (.iload 5, 2) := by decide +kernel
theorem dX10_peer_139 : decode cX10_peer 139 = .ok (.aload_n 0, 1) := by decide +kernel
theorem dX10_peer_140 : decode cX10_peer 140 = .ok (.getfield 7, 3) := by decide +kernel
theorem dX10_peer_143 : decode cX10_peer 143 = .ok (.if_icmp .ge 98, 3) := by decide +kernel
theorem dX10_peer_146 : decode cX10_peer 146 = .ok (.iload_n 1, 1) := by decide +kernel
theorem dX10_peer_147 : decode cX10_peer 147 = .ok (.iconst 1, 1) := by decide +kernel
theorem dX10_peer_148 : decode cX10_peer 148 = .ok (.if_icmp .ne 93, 3) := by decide +kernel
theorem dX10_peer_151 : decode cX10_peer 151 = .ok (.aload_n 0, 1) := by decide +kernel
theorem dX10_peer_152 : decode cX10_peer 152 = .ok (.getfield 48, 3) := by decide +kernel
theorem dX10_peer_155 : decode cX10_peer 155 = .ok (.bipush 24, 2) := by decide +kernel
theorem dX10_peer_157 : decode cX10_peer 157 = .ok (.iload 4, 2) := by decide +kernel
theorem dX10_peer_159 : decode cX10_peer 159 = .ok (.imul, 1) := by decide +kernel
theorem dX10_peer_160 : decode cX10_peer 160 = .ok (.iload 5, 2) := by decide +kernel
theorem dX10_peer_162 : decode cX10_peer 162 = .ok (.iadd, 1) := by decide +kernel
theorem dX10_peer_163 : decode cX10_peer 163 = .ok (.iconst 1, 1) := by decide +kernel
theorem dX10_peer_164 : decode cX10_peer 164 = .ok (.bastore, 1) := by decide +kernel
theorem dX10_peer_165 : decode cX10_peer 165 = .ok (.iconst 0, 1) := by decide +kernel
theorem dX10_peer_166 : decode cX10_peer 166 = .ok (.istore 6, 2) := by decide +kernel
theorem dX10_peer_168 : decode cX10_peer 168 = .ok (.iload 6, 2) := by decide +kernel
theorem dX10_peer_170 : decode cX10_peer 170 = .ok (.aload_n 0, 1) := by decide +kernel
theorem dX10_peer_171 : decode cX10_peer 171 = .ok (.getfield 13, 3) := by decide +kernel
theorem dX10_peer_174 : decode cX10_peer 174 = .ok (.if_icmp .ge 61, 3) := by decide +kernel
theorem dX10_peer_177 : decode cX10_peer 177 = .ok (.aload_n 0, 1) := by decide +kernel
theorem dX10_peer_178 : decode cX10_peer 178 = .ok (.getfield 54, 3) := by decide +kernel
theorem dX10_peer_181 : decode cX10_peer 181 = .ok (.iload 4, 2) := by decide +kernel
theorem dX10_peer_183 : decode cX10_peer 183 = .ok (.iload 5, 2) := by decide +kernel
theorem dX10_peer_185 : decode cX10_peer 185 = .ok (.iload 6, 2) := by decide +kernel
theorem dX10_peer_187 : decode cX10_peer 187 = .ok (.invokestatic 163, 3) := by decide +kernel
theorem dX10_peer_190 : decode cX10_peer 190 = .ok (.iconst 1, 1) := by decide +kernel
theorem dX10_peer_191 : decode cX10_peer 191 = .ok (.bastore, 1) := by decide +kernel
theorem dX10_peer_192 : decode cX10_peer 192 = .ok (.aload_n 0, 1) := by decide +kernel
theorem dX10_peer_193 : decode cX10_peer 193 = .ok (.getfield 57, 3) := by decide +kernel
theorem dX10_peer_196 : decode cX10_peer 196 = .ok (.iload 4, 2) := by decide +kernel
theorem dX10_peer_198 : decode cX10_peer 198 = .ok (.iload 5, 2) := by decide +kernel
theorem dX10_peer_200 : decode cX10_peer 200 = .ok (.iload 6, 2) := by decide +kernel
theorem dX10_peer_202 : decode cX10_peer 202 = .ok (.invokestatic 163, 3) := by decide +kernel
theorem dX10_peer_205 : decode cX10_peer 205 = .ok (.aload_n 0, 1) := by decide +kernel
theorem dX10_peer_206 : decode cX10_peer 206 = .ok (.iload 5, 2) := by decide +kernel
end
section
theorem dX10_peer_208 : decode cX10_peer 208 = .ok (.iload 6, 2) := by decide +kernel
theorem dX10_peer_210 : decode cX10_peer 210 = .ok (.invokevirtual 128, 3) := by decide +kernel
theorem dX10_peer_213 : decode cX10_peer 213 = .ok (.iastore, 1) := by decide +kernel
theorem dX10_peer_214 : decode cX10_peer 214 = .ok (.aload_n 0, 1) := by decide +kernel
theorem dX10_peer_215 : decode cX10_peer 215 = .ok (.getfield 60, 3) := by decide +kernel
theorem dX10_peer_218 : decode cX10_peer 218 = .ok (.iload 4, 2) := by decide +kernel
theorem dX10_peer_220 : decode cX10_peer 220 = .ok (.iload 5, 2) := by decide +kernel
theorem dX10_peer_222 : decode cX10_peer 222 = .ok (.iload 6, 2) := by decide +kernel
theorem dX10_peer_224 : decode cX10_peer 224 = .ok (.invokestatic 163, 3) := by decide +kernel
theorem dX10_peer_227 : decode cX10_peer 227 = .ok (.iconst (-1), 1) := by decide +kernel
theorem dX10_peer_228 : decode cX10_peer 228 = .ok (.iastore, 1) := by decide +kernel
theorem dX10_peer_229 : decode cX10_peer 229 = .ok (.iinc 6 1, 3) := by decide +kernel
theorem dX10_peer_232 : decode cX10_peer 232 = .ok (.goto (-64), 3) := by decide +kernel
theorem dX10_peer_235 : decode cX10_peer 235 = .ok (.iinc 5 1, 3) := by decide +kernel
theorem dX10_peer_238 : decode cX10_peer 238 = .ok (.goto (-101), 3) := by decide +kernel
theorem dX10_peer_241 : decode cX10_peer 241 = .ok (.iload 4, 2) := by decide +kernel
theorem dX10_peer_243 : decode cX10_peer 243 = .ok (.ireturn, 1) := by decide +kernel
set_option maxRecDepth 20000 in
theorem ggX10_often_X10_isPeer : GoodIn wsX10_often wsX10_isPeer := goodIn_r _ [8, 9, 10, 11, 7, 12, 13, 14, 15, 16, 17, 18, 19, 20, 21, 22, 23, 24, 25, 26, 27, 28, 29, 30, 31, 32, 33, 34, 35, 36, 37, 38, 39, 40, 41, 42, 43, 44, 45, 46, 47, 48, 49, 50, 51, 52, 53, 54, 55, 56, 57] (by decide +kernel) (by decide +kernel)
set_option maxRecDepth 20000 in
theorem gX10_often_X10_isPeer : GoodIn wsX10_often (wsV RX10 147 RX10 yX10_isPeer wsX10_isPeer) := goodIn_app (goodIn_of _ (by decide +kernel)) ggX10_often_X10_isPeer
set_option maxRecDepth 20000 in
theorem ggX10_often_X10_in : GoodIn wsX10_often wsX10_in := goodIn_r _ [12] (by decide +kernel) (by decide +kernel)
set_option maxRecDepth 20000 in
theorem gX10_often_X10_in : GoodIn wsX10_often (va_wsS RX10 132 yX10_in wsX10_in) := goodIn_app (goodIn_of _ (by decide +kernel)) ggX10_often_X10_in
theorem dX10_often_0 : decode cX10_often 0 = .ok (.aload_n 0, 1) := by decide +kernel
theorem dX10_often_1 : decode cX10_often 1 = .ok (.iconst 0, 1) := by decide +kernel
theorem dX10_often_2 : decode cX10_often 2 = .ok (.putfield 120, 3) := by decide +kernel
theorem dX10_often_5 : decode cX10_often 5 = .ok (.aload_n 0, 1) := by decide +kernel
theorem dX10_often_6 : decode cX10_often 6 = .ok (.iload_n 1, 1) := by decide +kernel
theorem dX10_often_7 : decode cX10_often 7 = .ok (.invokevirtual 147, 3) := by decide +kernel
theorem dX10_often_10 : decode cX10_often 10 = .ok (.ifCond .eq 23, 3) := by decide +kernel
theorem dX10_often_13 : decode cX10_often 13 = .ok (.aload_n 0, 1) := by decide +kernel
theorem dX10_often_14 : decode cX10_often 14 = .ok (.getfield 16, 3) := by decide +kernel
theorem dX10_often_17 : decode cX10_often 17 = .ok (.iload_n 1, 1) := by decide +kernel
theorem dX10_often_18 : decode cX10_often 18 = .ok (.iaload, 1) := by decide +kernel
theorem dX10_often_19 : decode cX10_often 19 = .ok (.iconst 3, 1) := by decide +kernel
theorem dX10_often_20 : decode cX10_often 20 = .ok (.if_icmp .ne 13, 3) := by decide +kernel
theorem dX10_often_23 : decode cX10_often 23 = .ok (.iload_n 2, 1) := by decide +kernel
theorem dX10_often_24 : decode cX10_often 24 = .ok (.iconst 1, 1) := by decide +kernel
theorem dX10_often_25 : decode cX10_often 25 = .ok (.bipush 100, 2) := by decide +kernel
theorem dX10_often_27 : decode cX10_often 27 = .ok (.invokestatic 132, 3) := by decide +kernel
theorem dX10_often_30 : decode cX10_often 30 = .ok (.ifCond .ne 5, 3) := by decide +kernel
theorem dX10_often_33 : decode cX10_often 33 = .ok (.iconst 0, 1) := by decide +kernel
theorem dX10_often_34 : decode cX10_often 34 = .ok (.ireturn, 1) := by decide +kernel
theorem dX10_often_35 : decode cX10_often 35 = .ok (.aload_n 0, 1) := by decide +kernel
theorem dX10_often_36 : decode cX10_often 36 = .ok (.getfield 30, 3) := by decide +kernel
theorem dX10_often_39 : decode cX10_often 39 = .ok (.iload_n 1, 1) := by decide +kernel
theorem dX10_often_40 : decode cX10_often 40 = .ok (.iload_n 2, 1) := by decide +kernel
theorem dX10_often_41 : decode cX10_often 41 = .ok (.iastore, 1) := by decide +kernel
theorem dX10_often_42 : decode cX10_often 42 = .ok (.iconst 1, 1) := by decide +kernel
theorem dX10_often_43 : decode cX10_often 43 = .ok (.ireturn, 1) := by decide +kernel
set_option maxRecDepth 20000 in
theorem ggX10_meet_X10_isTwo : GoodIn wsX10_meet wsX10_isTwo := goodIn_r _ [7, 8, 9, 10, 6, 11, 12, 13, 14, 15, 19, 20, 21, 22, 23, 24, 25, 26, 27, 28, 29, 30, 31, 32, 33, 34, 35, 36, 37, 38, 39, 40, 41, 42, 43, 44, 45, 46, 47, 48, 49, 50, 51, 52, 53, 54, 55, 56, 57, 58, 59, 60, 61, 62, 63] (by decide +kernel) (by decide +kernel)
set_option maxRecDepth 20000 in
theorem gX10_meet_X10_isTwo : GoodIn wsX10_meet (wsV RX10 167 RX10 yX10_isTwo wsX10_isTwo) := goodIn_app (goodIn_of _ (by decide +kernel)) ggX10_meet_X10_isTwo
set_option maxRecDepth 20000 in
theorem ggX10_meet_X10_two : GoodIn wsX10_meet wsX10_two := goodIn_r _ [18] (by decide +kernel) (by decide +kernel)
set_option maxRecDepth 20000 in
theorem gX10_meet_X10_two : GoodIn wsX10_meet (va_wsS RX10 151 yX10_two wsX10_two) := goodIn_app (goodIn_of _ (by decide +kernel)) ggX10_meet_X10_two
theorem dX10_meet_0 : decode cX10_meet 0 = .ok (.aload_n 0, 1) := by decide +kernel
theorem dX10_meet_1 : decode cX10_meet 1 = .ok (.iconst 0, 1) := by decide +kernel
theorem dX10_meet_2 : decode cX10_meet 2 = .ok (.putfield 120, 3) := by decide +kernel
theorem dX10_meet_5 : decode cX10_meet 5 = .ok (.aload_n 0, 1) := by decide +kernel
theorem dX10_meet_6 : decode cX10_meet 6 = .ok (.iload_n 1, 1) := by decide +kernel
theorem dX10_meet_7 : decode cX10_meet 7 = .ok (.iload_n 2, 1) := by decide +kernel
theorem dX10_meet_8 : decode cX10_meet 8 = .ok (.invokevirtual 167, 3) := by decide +kernel
theorem dX10_meet_11 : decode cX10_meet 11 = .ok (.ifCond .eq 16, 3) := by decide +kernel
theorem dX10_meet_14 : decode cX10_meet 14 = .ok (.aload_n 0, 1) := by decide +kernel
theorem dX10_meet_15 : decode cX10_meet 15 = .ok (.getfield 63, 3) := by decide +kernel
theorem dX10_meet_18 : decode cX10_meet 18 = .ok (.iload_n 1, 1) := by decide +kernel
theorem dX10_meet_19 : decode cX10_meet 19 = .ok (.iload_n 2, 1) := by decide +kernel
theorem dX10_meet_20 : decode cX10_meet 20 = .ok (.invokestatic 151, 3) := by decide +kernel
theorem dX10_meet_23 : decode cX10_meet 23 = .ok (.baload, 1) := by decide +kernel
theorem dX10_meet_24 : decode cX10_meet 24 = .ok (.ifCond .eq 5, 3) := by decide +kernel
theorem dX10_meet_27 : decode cX10_meet 27 = .ok (.iconst 0, 1) := by decide +kernel
theorem dX10_meet_28 : decode cX10_meet 28 = .ok (.ireturn, 1) := by decide +kernel
theorem dX10_meet_29 : decode cX10_meet 29 = .ok (.aload_n 0, 1) := by decide +kernel
theorem dX10_meet_30 : decode cX10_meet 30 = .ok (.getfield 63, 3) := by decide +kernel
theorem dX10_meet_33 : decode cX10_meet 33 = .ok (.iload_n 1, 1) := by decide +kernel
theorem dX10_meet_34 : decode cX10_meet 34 = .ok (.iload_n 2, 1) := by decide +kernel
theorem dX10_meet_35 : decode cX10_meet 35 = .ok (.invokestatic 151, 3) := by decide +kernel
theorem dX10_meet_38 : decode cX10_meet 38 = .ok (.iconst 1, 1) := by decide +kernel
theorem dX10_meet_39 : decode cX10_meet 39 = .ok (.bastore, 1) := by decide +kernel
theorem dX10_meet_40 : decode cX10_meet 40 = .ok (.aload_n 0, 1) := by decide +kernel
theorem dX10_meet_41 : decode cX10_meet 41 = .ok (.getfield 63, 3) := by decide +kernel
theorem dX10_meet_44 : decode cX10_meet 44 = .ok (.iload_n 2, 1) := by decide +kernel
theorem dX10_meet_45 : decode cX10_meet 45 = .ok (.iload_n 1, 1) := by decide +kernel
theorem dX10_meet_46 : decode cX10_meet 46 = .ok (.invokestatic 151, 3) := by decide +kernel
theorem dX10_meet_49 : decode cX10_meet 49 = .ok (.iconst 1, 1) := by decide +kernel
theorem dX10_meet_50 : decode cX10_meet 50 = .ok (.bastore, 1) := by decide +kernel
theorem dX10_meet_51 : decode cX10_meet 51 = .ok (.iconst 1, 1) := by decide +kernel
theorem dX10_meet_52 : decode cX10_meet 52 = .ok (.ireturn, 1) := by decide +kernel
theorem dX10_keep_0 : decode cX10_keep 0 = .ok (.aload_n 0, 1) := by decide +kernel
theorem dX10_keep_1 : decode cX10_keep 1 = .ok (.getfield 90, 3) := by decide +kernel
theorem dX10_keep_4 : decode cX10_keep 4 = .ok (.iload_n 1, 1) := by decide +kernel
theorem dX10_keep_5 : decode cX10_keep 5 = .ok (.aload_n 0, 1) := by decide +kernel
theorem dX10_keep_6 : decode cX10_keep 6 = .ok (.getfield 90, 3) := by decide +kernel
theorem dX10_keep_9 : decode cX10_keep 9 = .ok (.iload_n 2, 1) := by decide +kernel
theorem dX10_keep_10 : decode cX10_keep 10 = .ok (.iaload, 1) := by decide +kernel
theorem dX10_keep_11 : decode cX10_keep 11 = .ok (.iastore, 1) := by decide +kernel
theorem dX10_keep_12 : decode cX10_keep 12 = .ok (.aload_n 0, 1) := by decide +kernel
theorem dX10_keep_13 : decode cX10_keep 13 = .ok (.getfield 93, 3) := by decide +kernel
theorem dX10_keep_16 : decode cX10_keep 16 = .ok (.iload_n 1, 1) := by decide +kernel
theorem dX10_keep_17 : decode cX10_keep 17 = .ok (.aload_n 0, 1) := by decide +kernel
theorem dX10_keep_18 : decode cX10_keep 18 = .ok (.getfield 93, 3) := by decide +kernel
theorem dX10_keep_21 : decode cX10_keep 21 = .ok (.iload_n 2, 1) := by decide +kernel
theorem dX10_keep_22 : decode cX10_keep 22 = .ok (.iaload, 1) := by decide +kernel
theorem dX10_keep_23 : decode cX10_keep 23 = .ok (.iastore, 1) := by decide +kernel
theorem dX10_keep_24 : decode cX10_keep 24 = .ok (.aload_n 0, 1) := by decide +kernel
theorem dX10_keep_25 : decode cX10_keep 25 = .ok (.getfield 96, 3) := by decide +kernel
theorem dX10_keep_28 : decode cX10_keep 28 = .ok (.iload_n 1, 1) := by decide +kernel
theorem dX10_keep_29 : decode cX10_keep 29 = .ok (.aload_n 0, 1) := by decide +kernel
theorem dX10_keep_30 : decode cX10_keep 30 = .ok (.getfield 96, 3) := by decide +kernel
theorem dX10_keep_33 : decode cX10_keep 33 = .ok (.iload_n 2, 1) := by decide +kernel
theorem dX10_keep_34 : decode cX10_keep 34 = .ok (.iaload, 1) := by decide +kernel
theorem dX10_keep_35 : decode cX10_keep 35 = .ok (.iastore, 1) := by decide +kernel
theorem dX10_keep_36 : decode cX10_keep 36 = .ok (.aload_n 0, 1) := by decide +kernel
theorem dX10_keep_37 : decode cX10_keep 37 = .ok (.getfield 99, 3) := by decide +kernel
theorem dX10_keep_40 : decode cX10_keep 40 = .ok (.iload_n 1, 1) := by decide +kernel
theorem dX10_keep_41 : decode cX10_keep 41 = .ok (.aload_n 0, 1) := by decide +kernel
theorem dX10_keep_42 : decode cX10_keep 42 = .ok (.getfield 99, 3) := by decide +kernel
theorem dX10_keep_45 : decode cX10_keep 45 = .ok (.iload_n 2, 1) := by decide +kernel
theorem dX10_keep_46 : decode cX10_keep 46 = .ok (.iaload, 1) := by decide +kernel
theorem dX10_keep_47 : decode cX10_keep 47 = .ok (.iastore, 1) := by decide +kernel
theorem dX10_keep_48 : decode cX10_keep 48 = .ok (.aload_n 0, 1) := by decide +kernel
theorem dX10_keep_49 : decode cX10_keep 49 = .ok (.getfield 102, 3) := by decide +kernel
theorem dX10_keep_52 : decode cX10_keep 52 = .ok (.iload_n 1, 1) := by decide +kernel
theorem dX10_keep_53 : decode cX10_keep 53 = .ok (.aload_n 0, 1) := by decide +kernel
theorem dX10_keep_54 : decode cX10_keep 54 = .ok (.getfield 102, 3) := by decide +kernel
theorem dX10_keep_57 : decode cX10_keep 57 = .ok (.iload_n 2, 1) := by decide +kernel
theorem dX10_keep_58 : decode cX10_keep 58 = .ok (.iaload, 1) := by decide +kernel
theorem dX10_keep_59 : decode cX10_keep 59 = .ok (.iastore, 1) := by decide +kernel
theorem dX10_keep_60 : decode cX10_keep 60 = .ok (.aload_n 0, 1) := by decide +kernel
theorem dX10_keep_61 : decode cX10_keep 61 = .ok (.getfield 105, 3) := by decide +kernel
theorem dX10_keep_64 : decode cX10_keep 64 = .ok (.iload_n 1, 1) := by decide +kernel
theorem dX10_keep_65 : decode cX10_keep 65 = .ok (.aload_n 0, 1) := by decide +kernel
theorem dX10_keep_66 : decode cX10_keep 66 = .ok (.getfield 105, 3) := by decide +kernel
theorem dX10_keep_69 : decode cX10_keep 69 = .ok (.iload_n 2, 1) := by decide +kernel
theorem dX10_keep_70 : decode cX10_keep 70 = .ok (.iaload, 1) := by decide +kernel
theorem dX10_keep_71 : decode cX10_keep 71 = .ok (.iastore, 1) := by decide +kernel
theorem dX10_keep_72 : decode cX10_keep 72 = .ok (.aload_n 0, 1) := by decide +kernel
theorem dX10_keep_73 : decode cX10_keep 73 = .ok (.getfield 108, 3) := by decide +kernel
theorem dX10_keep_76 : decode cX10_keep 76 = .ok (.iload_n 1, 1) := by decide +kernel
theorem dX10_keep_77 : decode cX10_keep 77 = .ok (.aload_n 0, 1) := by decide +kernel
theorem dX10_keep_78 : decode cX10_keep 78 = .ok (.getfield 108, 3) := by decide +kernel
theorem dX10_keep_81 : decode cX10_keep 81 = .ok (.iload_n 2, 1) := by decide +kernel
theorem dX10_keep_82 : decode cX10_keep 82 = .ok (.baload, 1) := by decide +kernel
theorem dX10_keep_83 : decode cX10_keep 83 = .ok (.bastore, 1) := by decide +kernel
theorem dX10_keep_84 : decode cX10_keep 84 = .ok (.return_, 1) := by decide +kernel
set_option maxRecDepth 20000 in
theorem ggX10_leave_X10_isPeer : GoodIn wsX10_leave wsX10_isPeer := goodIn_r _ [13, 7, 14, 15, 12, 16, 29, 30, 31, 32, 33, 34, 35, 36, 37, 38, 39, 40, 41, 42, 43, 44, 45, 46, 47, 48, 49, 50, 51, 52, 53, 54, 55, 56, 57, 58, 59, 60, 61, 62, 63, 64, 65, 66, 67, 68, 69, 70, 71, 72, 73] (by decide +kernel) (by decide +kernel)
set_option maxRecDepth 20000 in
theorem gX10_leave_X10_isPeer : GoodIn wsX10_leave (wsV RX10 147 RX10 yX10_isPeer wsX10_isPeer) := goodIn_app (goodIn_of _ (by decide +kernel)) ggX10_leave_X10_isPeer
set_option maxRecDepth 20000 in
theorem ggX10_leave_X10_keep : GoodIn wsX10_leave wsX10_keep := goodIn_r _ [20, 4, 5, 21, 22, 23, 24, 25, 29, 30, 31, 32, 33, 34, 35, 36, 37, 38, 39, 40, 41, 42, 43, 44, 45, 46, 47, 48, 49, 50, 51, 52, 53, 54, 55, 56, 57, 58, 59, 60, 61, 62, 63, 64, 65, 66, 67, 68, 69, 70, 71, 72, 73] (by decide +kernel) (by decide +kernel)
set_option maxRecDepth 20000 in
theorem gX10_leave_X10_keep : GoodIn wsX10_leave (wsV RX10 173 RX10 yX10_keep wsX10_keep) := goodIn_app (goodIn_of _ (by decide +kernel)) ggX10_leave_X10_keep
set_option maxRecDepth 20000 in
theorem ggX10_leave_X10_two : GoodIn wsX10_leave wsX10_two := goodIn_r _ [28] (by decide +kernel) (by decide +kernel)
set_option maxRecDepth 20000 in
theorem gX10_leave_X10_two : GoodIn wsX10_leave (va_wsS RX10 151 yX10_two wsX10_two) := goodIn_app (goodIn_of _ (by decide +kernel)) ggX10_leave_X10_two
theorem dX10_leave_0 : decode cX10_leave 0 = .ok (.aload_n 0, 1) := by decide +kernel
theorem dX10_leave_1 : decode cX10_leave 1 = .ok (.iconst 0, 1) := by decide +kernel
theorem dX10_leave_2 : decode cX10_leave 2 = .ok (.putfield 120, 3) := by decide +kernel
theorem dX10_leave_5 : decode cX10_leave 5 = .ok (.aload_n 0, 1) := by decide +kernel
theorem dX10_leave_6 : decode cX10_leave 6 = .ok (.iload_n 1, 1) := by decide +kernel
theorem dX10_leave_7 : decode cX10_leave 7 = .ok (.invokevirtual 147, 3) := by decide +kernel
theorem dX10_leave_10 : decode cX10_leave 10 = .ok (.ifCond .eq 12, 3) := by decide +kernel
theorem dX10_leave_13 : decode cX10_leave 13 = .ok (.aload_n 0, 1) := by decide +kernel
theorem dX10_leave_14 : decode cX10_leave 14 = .ok (.getfield 26, 3) := by decide +kernel
theorem dX10_leave_17 : decode cX10_leave 17 = .ok (.iload_n 1, 1) := by decide +kernel
theorem dX10_leave_18 : decode cX10_leave 18 = .ok (.baload, 1) := by decide +kernel
theorem dX10_leave_19 : decode cX10_leave 19 = .ok (.ifCond .ne 5, 3) := by decide +kernel
theorem dX10_leave_22 : decode cX10_leave 22 = .ok (.iconst 0, 1) := by decide +kernel
theorem dX10_leave_23 : decode cX10_leave 23 = .ok (.ireturn, 1) := by decide +kernel
theorem dX10_leave_24 : decode cX10_leave 24 = .ok (.aload_n 0, 1) := by decide +kernel
theorem dX10_leave_25 : decode cX10_leave 25 = .ok (.getfield 26, 3) := by decide +kernel
theorem dX10_leave_28 : decode cX10_leave 28 = .ok (.iload_n 1, 1) := by decide +kernel
theorem dX10_leave_29 : decode cX10_leave 29 = .ok (.iconst 0, 1) := by decide +kernel
theorem dX10_leave_30 : decode cX10_leave 30 = .ok (.bastore, 1) := by decide +kernel
theorem dX10_leave_31 : decode cX10_leave 31 = .ok (.iconst 0, 1) := by decide +kernel
theorem dX10_leave_32 : decode cX10_leave 32 = .ok (.istore_n 2, 1) := by decide +kernel
theorem dX10_leave_33 : decode cX10_leave 33 = .ok (.iconst 0, 1) := by decide +kernel
theorem dX10_leave_34 : decode cX10_leave 34 = .ok (.istore_n 3, 1) := by decide +kernel
theorem dX10_leave_35 : decode cX10_leave 35 = .ok (.iload_n 3, 1) := by decide +kernel
theorem dX10_leave_36 : decode cX10_leave 36 = .ok (.aload_n 0, 1) := by decide +kernel
theorem dX10_leave_37 : decode cX10_leave 37 = .ok (.getfield 170, 3) := by decide +kernel
theorem dX10_leave_40 : decode cX10_leave 40 = .ok (.if_icmp .ge 41, 3) := by decide +kernel
theorem dX10_leave_43 : decode cX10_leave 43 = .ok (.aload_n 0, 1) := by decide +kernel
theorem dX10_leave_44 : decode cX10_leave 44 = .ok (.getfield 90, 3) := by decide +kernel
theorem dX10_leave_47 : decode cX10_leave 47 = .ok (.iload_n 3, 1) := by decide +kernel
theorem dX10_leave_48 : decode cX10_leave 48 = .ok (.iaload, 1) := by decide +kernel
theorem dX10_leave_49 : decode cX10_leave 49 = .ok (.iload_n 1, 1) := by decide +kernel
theorem dX10_leave_50 : decode cX10_leave 50 = .ok (.if_icmp .eq 25, 3) := by decide +kernel
theorem dX10_leave_53 : decode cX10_leave 53 = .ok (.aload_n 0, 1) := by decide +kernel
theorem dX10_leave_54 : decode cX10_leave 54 = .ok (.getfield 93, 3) := by decide +kernel
theorem dX10_leave_57 : decode cX10_leave 57 = .ok (.iload_n 3, 1) := by decide +kernel
theorem dX10_leave_58 : decode cX10_leave 58 = .ok (.iaload, 1) := by decide +kernel
theorem dX10_leave_59 : decode cX10_leave 59 = .ok (.iload_n 1, 1) := by decide +kernel
theorem dX10_leave_60 : decode cX10_leave 60 = .ok (.if_icmp .ne 6, 3) := by decide +kernel
theorem dX10_leave_63 : decode cX10_leave 63 = .ok (.goto 12, 3) := by decide +kernel
theorem dX10_leave_66 : decode cX10_leave 66 = .ok (.aload_n 0, 1) := by decide +kernel
theorem dX10_leave_67 : decode cX10_leave 67 = .ok (.iload_n 2, 1) := by decide +kernel
theorem dX10_leave_68 : decode cX10_leave 68 = .ok (.iload_n 3, 1) := by decide +kernel
theorem dX10_leave_69 : decode cX10_leave 69 = .ok (.invokevirtual 173, 3) := by decide +kernel
theorem dX10_leave_72 : decode cX10_leave 72 = .ok (.iinc 2 1, 3) := by decide +kernel
theorem dX10_leave_75 : decode cX10_leave 75 = .ok (.iinc 3 1, 3) := by decide +kernel
theorem dX10_leave_78 : decode cX10_leave 78 = .ok (.goto (-43), 3) := by decide +kernel
theorem dX10_leave_81 : decode cX10_leave 81 = .ok (.aload_n 0, 1) := by decide +kernel
theorem dX10_leave_82 : decode cX10_leave 82 = .ok (.dup, 1) := by decide +kernel
theorem dX10_leave_83 : decode cX10_leave 83 = .ok (.getfield 177, 3) := by decide +kernel
theorem dX10_leave_86 : decode cX10_leave 86 = .ok (.aload_n 0, 1) := by decide +kernel
theorem dX10_leave_87 : decode cX10_leave 87 = .ok (.getfield 170, 3) := by decide +kernel
theorem dX10_leave_90 : decode cX10_leave 90 = .ok (.iload_n 2, 1) := by decide +kernel
theorem dX10_leave_91 : decode cX10_leave 91 = .ok (.isub, 1) := by decide +kernel
theorem dX10_leave_92 : decode cX10_leave 92 = .ok (.iadd, 1) := by decide +kernel
theorem dX10_leave_93 : decode cX10_leave 93 = .ok (.putfield 177, 3) := by decide +kernel
theorem dX10_leave_96 : decode cX10_leave 96 = .ok (.aload_n 0, 1) := by decide +kernel
theorem dX10_leave_97 : decode cX10_leave 97 = .ok (.iload_n 2, 1) := by decide +kernel
theorem dX10_leave_98 : decode cX10_leave 98 = .ok (.putfield 170, 3) := by decide +kernel
theorem dX10_leave_101 : decode cX10_leave 101 = .ok (.iconst 0, 1) := by decide +kernel
theorem dX10_leave_102 : decode cX10_leave 102 = .ok (.istore_n 3, 1) := by decide +kernel
theorem dX10_leave_103 : decode cX10_leave 103 = .ok (.iload_n 3, 1) := by decide +kernel
theorem dX10_leave_104 : decode cX10_leave 104 = .ok (.aload_n 0, 1) := by decide +kernel
theorem dX10_leave_105 : decode cX10_leave 105 = .ok (.getfield 136, 3) := by decide +kernel
theorem dX10_leave_108 : decode cX10_leave 108 = .ok (.if_icmp .ge 31, 3) := by decide +kernel
theorem dX10_leave_111 : decode cX10_leave 111 = .ok (.aload_n 0, 1) := by decide +kernel
theorem dX10_leave_112 : decode cX10_leave 112 = .ok (.getfield 66, 3) := by decide +kernel
theorem dX10_leave_115 : decode cX10_leave 115 = .ok (.iload_n 1, 1) := by decide +kernel
theorem dX10_leave_116 : decode cX10_leave 116 = .ok (.iload_n 3, 1) := by decide +kernel
theorem dX10_leave_117 : decode cX10_leave 117 = .ok (.invokestatic 151, 3) := by decide +kernel
theorem dX10_leave_120 : decode cX10_leave 120 = .ok (.iconst 0, 1) := by decide +kernel
theorem dX10_leave_121 : decode cX10_leave 121 = .ok (.bastore, 1) := by decide +kernel
theorem dX10_leave_122 : decode cX10_leave 122 = .ok (.aload_n 0, 1) := by decide +kernel
theorem dX10_leave_123 : decode cX10_leave 123 = .ok (.getfield 66, 3) := by decide +kernel
theorem dX10_leave_126 : decode cX10_leave 126 = .ok (.iload_n 3, 1) := by decide +kernel
theorem dX10_leave_127 : decode cX10_leave 127 = .ok (.iload_n 1, 1) := by decide +kernel
theorem dX10_leave_128 : decode cX10_leave 128 = .ok (.invokestatic 151, 3) := by decide +kernel
theorem dX10_leave_131 : decode cX10_leave 131 = .ok (.iconst 0, 1) := by decide +kernel
theorem dX10_leave_132 : decode cX10_leave 132 = .ok (.bastore, 1) := by decide +kernel
theorem dX10_leave_133 : decode cX10_leave 133 = .ok (.iinc 3 1, 3) := by decide +kernel
theorem dX10_leave_136 : decode cX10_leave 136 = .ok (.goto (-33), 3) := by decide +kernel
theorem dX10_leave_139 : decode cX10_leave 139 = .ok (.iconst 1, 1) := by decide +kernel
theorem dX10_leave_140 : decode cX10_leave 140 = .ok (.ireturn, 1) := by decide +kernel
set_option maxRecDepth 20000 in
theorem ggX10_join_X10_isPeer : GoodIn wsX10_join wsX10_isPeer := goodIn_r _ [7, 8, 9, 10, 6, 11, 12, 13, 14, 15, 16, 17, 18, 19, 20, 21, 22, 23, 24, 25, 26, 27, 28, 29, 30, 31, 32, 33, 34, 35, 36, 37, 38, 39, 40, 41, 42, 43, 44, 45, 46, 47, 48, 49, 50, 51, 52, 53, 54, 55, 56] (by decide +kernel) (by decide +kernel)
set_option maxRecDepth 20000 in
theorem gX10_join_X10_isPeer : GoodIn wsX10_join (wsV RX10 147 RX10 yX10_isPeer wsX10_isPeer) := goodIn_app (goodIn_of _ (by decide +kernel)) ggX10_join_X10_isPeer
theorem dX10_join_0 : decode cX10_join 0 = .ok (.aload_n 0, 1) := by decide +kernel
theorem dX10_join_1 : decode cX10_join 1 = .ok (.iconst 0, 1) := by decide +kernel
theorem dX10_join_2 : decode cX10_join 2 = .ok (.putfield 120, 3) := by decide +kernel
theorem dX10_join_5 : decode cX10_join 5 = .ok (.aload_n 0, 1) := by decide +kernel
theorem dX10_join_6 : decode cX10_join 6 = .ok (.iload_n 1, 1) := by decide +kernel
theorem dX10_join_7 : decode cX10_join 7 = .ok (.invokevirtual 147, 3) := by decide +kernel
theorem dX10_join_10 : decode cX10_join 10 = .ok (.ifCond .eq 12, 3) := by decide +kernel
theorem dX10_join_13 : decode cX10_join 13 = .ok (.aload_n 0, 1) := by decide +kernel
theorem dX10_join_14 : decode cX10_join 14 = .ok (.getfield 26, 3) := by decide +kernel
theorem dX10_join_17 : decode cX10_join 17 = .ok (.iload_n 1, 1) := by decide +kernel
theorem dX10_join_18 : decode cX10_join 18 = .ok (.baload, 1) := by decide +kernel
theorem dX10_join_19 : decode cX10_join 19 = .ok (.ifCond .eq 5, 3) := by decide +kernel
theorem dX10_join_22 : decode cX10_join 22 = .ok (.iconst 0, 1) := by decide +kernel
theorem dX10_join_23 : decode cX10_join 23 = .ok (.ireturn, 1) := by decide +kernel
theorem dX10_join_24 : decode cX10_join 24 = .ok (.aload_n 0, 1) := by decide +kernel
theorem dX10_join_25 : decode cX10_join 25 = .ok (.getfield 26, 3) := by decide +kernel
theorem dX10_join_28 : decode cX10_join 28 = .ok (.iload_n 1, 1) := by decide +kernel
theorem dX10_join_29 : decode cX10_join 29 = .ok (.iconst 1, 1) := by decide +kernel
theorem dX10_join_30 : decode cX10_join 30 = .ok (.bastore, 1) := by decide +kernel
theorem dX10_join_31 : decode cX10_join 31 = .ok (.iconst 1, 1) := by decide +kernel
theorem dX10_join_32 : decode cX10_join 32 = .ok (.ireturn, 1) := by decide +kernel
set_option maxRecDepth 20000 in
theorem ggX10_dropPiece_X10_cell : GoodIn wsX10_dropPiece wsX10_cell := goodIn_r _ [6] (by decide +kernel) (by decide +kernel)
set_option maxRecDepth 20000 in
theorem gX10_dropPiece_X10_cell : GoodIn wsX10_dropPiece (va_wsS RX10 163 yX10_cell wsX10_cell) := goodIn_app (goodIn_of _ (by decide +kernel)) ggX10_dropPiece_X10_cell
theorem dX10_dropPiece_0 : decode cX10_dropPiece 0 = .ok (.iconst 0, 1) := by decide +kernel
theorem dX10_dropPiece_1 : decode cX10_dropPiece 1 = .ok (.istore_n 3, 1) := by decide +kernel
theorem dX10_dropPiece_2 : decode cX10_dropPiece 2 = .ok (.iload_n 3, 1) := by decide +kernel
theorem dX10_dropPiece_3 : decode cX10_dropPiece 3 = .ok (.aload_n 0, 1) := by decide +kernel
theorem dX10_dropPiece_4 : decode cX10_dropPiece 4 = .ok (.getfield 13, 3) := by decide +kernel
theorem dX10_dropPiece_7 : decode cX10_dropPiece 7 = .ok (.if_icmp .ge 21, 3) := by decide +kernel
theorem dX10_dropPiece_10 : decode cX10_dropPiece 10 = .ok (.aload_n 0, 1) := by decide +kernel
theorem dX10_dropPiece_11 : decode cX10_dropPiece 11 = .ok (.getfield 54, 3) := by decide +kernel
theorem dX10_dropPiece_14 : decode cX10_dropPiece 14 = .ok (.iload_n 1, 1) := by decide +kernel
theorem dX10_dropPiece_15 : decode cX10_dropPiece 15 = .ok (.iload_n 2, 1) := by decide +kernel
theorem dX10_dropPiece_16 : decode cX10_dropPiece 16 = .ok (.iload_n 3, 1) := by decide +kernel
theorem dX10_dropPiece_17 : decode cX10_dropPiece 17 = .ok (.invokestatic 163, 3) := by decide +kernel
theorem dX10_dropPiece_20 : decode cX10_dropPiece 20 = .ok (.iconst 0, 1) := by decide +kernel
theorem dX10_dropPiece_21 : decode cX10_dropPiece 21 = .ok (.bastore, 1) := by decide +kernel
theorem dX10_dropPiece_22 : decode cX10_dropPiece 22 = .ok (.iinc 3 1, 3) := by decide +kernel
theorem dX10_dropPiece_25 : decode cX10_dropPiece 25 = .ok (.goto (-23), 3) := by decide +kernel
theorem dX10_dropPiece_28 : decode cX10_dropPiece 28 = .ok (.return_, 1) := by decide +kernel
set_option maxRecDepth 20000 in
theorem ggX10_fails_X10_cell : GoodIn wsX10_fails wsX10_cell := goodIn_r _ [12] (by decide +kernel) (by decide +kernel)
set_option maxRecDepth 20000 in
theorem gX10_fails_X10_cell : GoodIn wsX10_fails (va_wsS RX10 163 yX10_cell wsX10_cell) := goodIn_app (goodIn_of _ (by decide +kernel)) ggX10_fails_X10_cell
set_option maxRecDepth 20000 in
theorem ggX10_fails_X10_two : GoodIn wsX10_fails wsX10_two := goodIn_r _ [15] (by decide +kernel) (by decide +kernel)
set_option maxRecDepth 20000 in
theorem gX10_fails_X10_two : GoodIn wsX10_fails (va_wsS RX10 151 yX10_two wsX10_two) := goodIn_app (goodIn_of _ (by decide +kernel)) ggX10_fails_X10_two
set_option maxRecDepth 20000 in
theorem ggX10_fails_X10_dropPiece : GoodIn wsX10_fails wsX10_dropPiece := goodIn_r _ [19, 3, 20, 9, 10, 11, 12, 21, 22, 23, 24, 25, 26, 27, 28, 29, 30, 31, 32, 33, 34, 35, 36, 37, 38, 39, 40, 41, 42, 43, 44, 45, 46, 47, 48, 49, 50, 51, 52, 53, 54, 55, 56, 57, 58, 59, 60, 61, 62, 63, 64, 65] (by decide +kernel) (by decide +kernel)
set_option maxRecDepth 20000 in
theorem gX10_fails_X10_dropPiece : GoodIn wsX10_fails (wsV RX10 183 RX10 yX10_dropPiece wsX10_dropPiece) := goodIn_app (goodIn_of _ (by decide +kernel)) ggX10_fails_X10_dropPiece
theorem dX10_fails_0 : decode cX10_fails 0 = .ok (.aload_n 0, 1) := by decide +kernel
theorem dX10_fails_1 : decode cX10_fails 1 = .ok (.getfield 42, 3) := by decide +kernel
theorem dX10_fails_4 : decode cX10_fails 4 = .ok (.iload_n 1, 1) := by decide +kernel
theorem dX10_fails_5 : decode cX10_fails 5 = .ok (.dup2, 1) := by decide +kernel
theorem dX10_fails_6 : decode cX10_fails 6 = .ok (.iaload, 1) := by decide +kernel
theorem dX10_fails_7 : decode cX10_fails 7 = .ok (.iconst 1, 1) := by decide +kernel
theorem dX10_fails_8 : decode cX10_fails 8 = .ok (.iadd, 1) := by decide +kernel
theorem dX10_fails_9 : decode cX10_fails 9 = .ok (.iastore, 1) := by decide +kernel
theorem dX10_fails_10 : decode cX10_fails 10 = .ok (.aload_n 0, 1) := by decide +kernel
theorem dX10_fails_11 : decode cX10_fails 11 = .ok (.dup, 1) := by decide +kernel
theorem dX10_fails_12 : decode cX10_fails 12 = .ok (.getfield 180, 3) := by decide +kernel
theorem dX10_fails_15 : decode cX10_fails 15 = .ok (.iconst 1, 1) := by decide +kernel
theorem dX10_fails_16 : decode cX10_fails 16 = .ok (.iadd, 1) := by decide +kernel
theorem dX10_fails_17 : decode cX10_fails 17 = .ok (.putfield 180, 3) := by decide +kernel
theorem dX10_fails_20 : decode cX10_fails 20 = .ok (.iconst 1, 1) := by decide +kernel
theorem dX10_fails_21 : decode cX10_fails 21 = .ok (.istore_n 3, 1) := by decide +kernel
theorem dX10_fails_22 : decode cX10_fails 22 = .ok (.iconst 1, 1) := by decide +kernel
theorem dX10_fails_23 : decode cX10_fails 23 = .ok (.istore 4, 2) := by decide +kernel
theorem dX10_fails_25 : decode cX10_fails 25 = .ok (.iload 4, 2) := by decide +kernel
theorem dX10_fails_27 : decode cX10_fails 27 = .ok (.aload_n 0, 1) := by decide +kernel
theorem dX10_fails_28 : decode cX10_fails 28 = .ok (.getfield 13, 3) := by decide +kernel
theorem dX10_fails_31 : decode cX10_fails 31 = .ok (.if_icmp .ge 45, 3) := by decide +kernel
theorem dX10_fails_34 : decode cX10_fails 34 = .ok (.iload_n 3, 1) := by decide +kernel
theorem dX10_fails_35 : decode cX10_fails 35 = .ok (.ifCond .eq 33, 3) := by decide +kernel
theorem dX10_fails_38 : decode cX10_fails 38 = .ok (.aload_n 0, 1) := by decide +kernel
theorem dX10_fails_39 : decode cX10_fails 39 = .ok (.getfield 60, 3) := by decide +kernel
theorem dX10_fails_42 : decode cX10_fails 42 = .ok (.iload_n 1, 1) := by decide +kernel
theorem dX10_fails_43 : decode cX10_fails 43 = .ok (.iload_n 2, 1) := by decide +kernel
theorem dX10_fails_44 : decode cX10_fails 44 = .ok (.iload 4, 2) := by decide +kernel
theorem dX10_fails_46 : decode cX10_fails 46 = .ok (.invokestatic 163, 3) := by decide +kernel
theorem dX10_fails_49 : decode cX10_fails 49 = .ok (.iaload, 1) := by decide +kernel
theorem dX10_fails_50 : decode cX10_fails 50 = .ok (.aload_n 0, 1) := by decide +kernel
theorem dX10_fails_51 : decode cX10_fails 51 = .ok (.getfield 60, 3) := by decide +kernel
theorem dX10_fails_54 : decode cX10_fails 54 = .ok (.iload_n 1, 1) := by decide +kernel
theorem dX10_fails_55 : decode cX10_fails 55 = .ok (.iload_n 2, 1) := by decide +kernel
theorem dX10_fails_56 : decode cX10_fails 56 = .ok (.iconst 0, 1) := by decide +kernel
theorem dX10_fails_57 : decode cX10_fails 57 = .ok (.invokestatic 163, 3) := by decide +kernel
theorem dX10_fails_60 : decode cX10_fails 60 = .ok (.iaload, 1) := by decide +kernel
theorem dX10_fails_61 : decode cX10_fails 61 = .ok (.if_icmp .ne 7, 3) := by decide +kernel
theorem dX10_fails_64 : decode cX10_fails 64 = .ok (.iconst 1, 1) := by decide +kernel
theorem dX10_fails_65 : decode cX10_fails 65 = .ok (.goto 4, 3) := by decide +kernel
theorem dX10_fails_68 : decode cX10_fails 68 = .ok (.iconst 0, 1) := by decide +kernel
theorem dX10_fails_69 : decode cX10_fails 69 = .ok (.istore_n 3, 1) := by decide +kernel
theorem dX10_fails_70 : decode cX10_fails 70 = .ok (.iinc 4 1, 3) := by decide +kernel
theorem dX10_fails_73 : decode cX10_fails 73 = .ok (.goto (-48), 3) := by decide +kernel
theorem dX10_fails_76 : decode cX10_fails 76 = .ok (.iconst 0, 1) := by decide +kernel
theorem dX10_fails_77 : decode cX10_fails 77 = .ok (.istore 4, 2) := by decide +kernel
theorem dX10_fails_79 : decode cX10_fails 79 = .ok (.iload 4, 2) := by decide +kernel
theorem dX10_fails_81 : decode cX10_fails 81 = .ok (.aload_n 0, 1) := by decide +kernel
theorem dX10_fails_82 : decode cX10_fails 82 = .ok (.getfield 136, 3) := by decide +kernel
theorem dX10_fails_85 : decode cX10_fails 85 = .ok (.if_icmp .ge 100, 3) := by decide +kernel
theorem dX10_fails_88 : decode cX10_fails 88 = .ok (.iconst 0, 1) := by decide +kernel
theorem dX10_fails_89 : decode cX10_fails 89 = .ok (.istore 5, 2) := by decide +kernel
theorem dX10_fails_91 : decode cX10_fails 91 = .ok (.iconst 0, 1) := by decide +kernel
theorem dX10_fails_92 : decode cX10_fails 92 = .ok (.istore 6, 2) := by decide +kernel
theorem dX10_fails_94 : decode cX10_fails 94 = .ok (.iload 6, 2) := by decide +kernel
theorem dX10_fails_96 : decode cX10_fails 96 = .ok (.aload_n 0, 1) := by decide +kernel
theorem dX10_fails_97 : decode cX10_fails 97 = .ok (.getfield 13, 3) := by decide +kernel
theorem dX10_fails_100 : decode cX10_fails 100 = .ok (.if_icmp .ge 38, 3) := by decide +kernel
theorem dX10_fails_103 : decode cX10_fails 103 = .ok (.iload 5, 2) := by decide +kernel
theorem dX10_fails_105 : decode cX10_fails 105 = .ok (.ifCond .ne 20, 3) := by decide +kernel
theorem dX10_fails_108 : decode cX10_fails 108 = .ok (.aload_n 0, 1) := by decide +kernel
theorem dX10_fails_109 : decode cX10_fails 109 = .ok (.getfield 60, 3) := by decide +kernel
theorem dX10_fails_112 : decode cX10_fails 112 = .ok (.iload_n 1, 1) := by decide +kernel
theorem dX10_fails_113 : decode cX10_fails 113 = .ok (.iload_n 2, 1) := by decide +kernel
theorem dX10_fails_114 : decode cX10_fails 114 = .ok (.iload 6, 2) := by decide +kernel
theorem dX10_fails_116 : decode cX10_fails 116 = .ok (.invokestatic 163, 3) := by decide +kernel
theorem dX10_fails_119 : decode cX10_fails 119 = .ok (.iaload, 1) := by decide +kernel
theorem dX10_fails_120 : decode cX10_fails 120 = .ok (.iload 4, 2) := by decide +kernel
theorem dX10_fails_122 : decode cX10_fails 122 = .ok (.if_icmp .ne 7, 3) := by decide +kernel
theorem dX10_fails_125 : decode cX10_fails 125 = .ok (.iconst 1, 1) := by decide +kernel
theorem dX10_fails_126 : decode cX10_fails 126 = .ok (.goto 4, 3) := by decide +kernel
theorem dX10_fails_129 : decode cX10_fails 129 = .ok (.iconst 0, 1) := by decide +kernel
theorem dX10_fails_130 : decode cX10_fails 130 = .ok (.istore 5, 2) := by decide +kernel
theorem dX10_fails_132 : decode cX10_fails 132 = .ok (.iinc 6 1, 3) := by decide +kernel
theorem dX10_fails_135 : decode cX10_fails 135 = .ok (.goto (-41), 3) := by decide +kernel
theorem dX10_fails_138 : decode cX10_fails 138 = .ok (.iload 5, 2) := by decide +kernel
theorem dX10_fails_140 : decode cX10_fails 140 = .ok (.ifCond .eq 18, 3) := by decide +kernel
theorem dX10_fails_143 : decode cX10_fails 143 = .ok (.aload_n 0, 1) := by decide +kernel
theorem dX10_fails_144 : decode cX10_fails 144 = .ok (.getfield 72, 3) := by decide +kernel
theorem dX10_fails_147 : decode cX10_fails 147 = .ok (.iload_n 1, 1) := by decide +kernel
theorem dX10_fails_148 : decode cX10_fails 148 = .ok (.iload 4, 2) := by decide +kernel
theorem dX10_fails_150 : decode cX10_fails 150 = .ok (.invokestatic 151, 3) := by decide +kernel
theorem dX10_fails_153 : decode cX10_fails 153 = .ok (.dup2, 1) := by decide +kernel
theorem dX10_fails_154 : decode cX10_fails 154 = .ok (.iaload, 1) := by decide +kernel
theorem dX10_fails_155 : decode cX10_fails 155 = .ok (.iconst 1, 1) := by decide +kernel
theorem dX10_fails_156 : decode cX10_fails 156 = .ok (.iadd, 1) := by decide +kernel
theorem dX10_fails_157 : decode cX10_fails 157 = .ok (.iastore, 1) := by decide +kernel
theorem dX10_fails_158 : decode cX10_fails 158 = .ok (.iload 5, 2) := by decide +kernel
theorem dX10_fails_160 : decode cX10_fails 160 = .ok (.ifCond .eq 19, 3) := by decide +kernel
theorem dX10_fails_163 : decode cX10_fails 163 = .ok (.iload_n 3, 1) := by decide +kernel
theorem dX10_fails_164 : decode cX10_fails 164 = .ok (.ifCond .eq 15, 3) := by decide +kernel
theorem dX10_fails_167 : decode cX10_fails 167 = .ok (.aload_n 0, 1) := by decide +kernel
theorem dX10_fails_168 : decode cX10_fails 168 = .ok (.getfield 69, 3) := by decide +kernel
theorem dX10_fails_171 : decode cX10_fails 171 = .ok (.iload_n 1, 1) := by decide +kernel
theorem dX10_fails_172 : decode cX10_fails 172 = .ok (.iload 4, 2) := by decide +kernel
theorem dX10_fails_174 : decode cX10_fails 174 = .ok (.invokestatic 151, 3) := by decide +kernel
theorem dX10_fails_177 : decode cX10_fails 177 = .ok (.iconst 1, 1) := by decide +kernel
theorem dX10_fails_178 : decode cX10_fails 178 = .ok (.bastore, 1) := by decide +kernel
theorem dX10_fails_179 : decode cX10_fails 179 = .ok (.iinc 4 1, 3) := by decide +kernel
theorem dX10_fails_182 : decode cX10_fails 182 = .ok (.goto (-103), 3) := by decide +kernel
theorem dX10_fails_185 : decode cX10_fails 185 = .ok (.aload_n 0, 1) := by decide +kernel
theorem dX10_fails_186 : decode cX10_fails 186 = .ok (.iload_n 1, 1) := by decide +kernel
theorem dX10_fails_187 : decode cX10_fails 187 = .ok (.iload_n 2, 1) := by decide +kernel
theorem dX10_fails_188 : decode cX10_fails 188 = .ok (.invokevirtual 183, 3) := by decide +kernel
theorem dX10_fails_191 : decode cX10_fails 191 = .ok (.aload_n 0, 1) := by decide +kernel
theorem dX10_fails_192 : decode cX10_fails 192 = .ok (.getfield 51, 3) := by decide +kernel
theorem dX10_fails_195 : decode cX10_fails 195 = .ok (.bipush 24, 2) := by decide +kernel
theorem dX10_fails_197 : decode cX10_fails 197 = .ok (.iload_n 1, 1) := by decide +kernel
theorem dX10_fails_198 : decode cX10_fails 198 = .ok (.imul, 1) := by decide +kernel
theorem dX10_fails_199 : decode cX10_fails 199 = .ok (.iload_n 2, 1) := by decide +kernel
theorem dX10_fails_200 : decode cX10_fails 200 = .ok (.iadd, 1) := by decide +kernel
theorem dX10_fails_201 : decode cX10_fails 201 = .ok (.iconst 1, 1) := by decide +kernel
theorem dX10_fails_202 : decode cX10_fails 202 = .ok (.bastore, 1) := by decide +kernel
theorem dX10_fails_203 : decode cX10_fails 203 = .ok (.return_, 1) := by decide +kernel
set_option maxRecDepth 20000 in
theorem ggX10_isSpare_X10_cell : GoodIn wsX10_isSpare wsX10_cell := goodIn_r _ [9] (by decide +kernel) (by decide +kernel)
set_option maxRecDepth 20000 in
theorem gX10_isSpare_X10_cell : GoodIn wsX10_isSpare (va_wsS RX10 163 yX10_cell wsX10_cell) := goodIn_app (goodIn_of _ (by decide +kernel)) ggX10_isSpare_X10_cell
theorem dX10_isSpare_0 : decode cX10_isSpare 0 = .ok (.aload_n 0, 1) := by decide +kernel
theorem dX10_isSpare_1 : decode cX10_isSpare 1 = .ok (.getfield 48, 3) := by decide +kernel
theorem dX10_isSpare_4 : decode cX10_isSpare 4 = .ok (.bipush 24, 2) := by decide +kernel
theorem dX10_isSpare_6 : decode cX10_isSpare 6 = .ok (.iload_n 1, 1) := by decide +kernel
theorem dX10_isSpare_7 : decode cX10_isSpare 7 = .ok (.imul, 1) := by decide +kernel
theorem dX10_isSpare_8 : decode cX10_isSpare 8 = .ok (.iload_n 3, 1) := by decide +kernel
theorem dX10_isSpare_9 : decode cX10_isSpare 9 = .ok (.iadd, 1) := by decide +kernel
theorem dX10_isSpare_10 : decode cX10_isSpare 10 = .ok (.baload, 1) := by decide +kernel
theorem dX10_isSpare_11 : decode cX10_isSpare 11 = .ok (.ifCond .ne 18, 3) := by decide +kernel
theorem dX10_isSpare_14 : decode cX10_isSpare 14 = .ok (.aload_n 0, 1) := by decide +kernel
theorem dX10_isSpare_15 : decode cX10_isSpare 15 = .ok (.getfield 54, 3) := by decide +kernel
theorem dX10_isSpare_18 : decode cX10_isSpare 18 = .ok (.iload_n 1, 1) := by decide +kernel
theorem dX10_isSpare_19 : decode cX10_isSpare 19 = .ok (.iload_n 3, 1) := by decide +kernel
theorem dX10_isSpare_20 : decode cX10_isSpare 20 = .ok (.iload 4, 2) := by decide +kernel
theorem dX10_isSpare_22 : decode cX10_isSpare 22 = .ok (.invokestatic 163, 3) := by decide +kernel
theorem dX10_isSpare_25 : decode cX10_isSpare 25 = .ok (.baload, 1) := by decide +kernel
theorem dX10_isSpare_26 : decode cX10_isSpare 26 = .ok (.ifCond .eq 5, 3) := by decide +kernel
theorem dX10_isSpare_29 : decode cX10_isSpare 29 = .ok (.iconst 1, 1) := by decide +kernel
theorem dX10_isSpare_30 : decode cX10_isSpare 30 = .ok (.ireturn, 1) := by decide +kernel
theorem dX10_isSpare_31 : decode cX10_isSpare 31 = .ok (.iconst 0, 1) := by decide +kernel
theorem dX10_isSpare_32 : decode cX10_isSpare 32 = .ok (.istore 5, 2) := by decide +kernel
theorem dX10_isSpare_34 : decode cX10_isSpare 34 = .ok (.iload 5, 2) := by decide +kernel
theorem dX10_isSpare_36 : decode cX10_isSpare 36 = .ok (.aload_n 0, 1) := by decide +kernel
theorem dX10_isSpare_37 : decode cX10_isSpare 37 = .ok (.getfield 13, 3) := by decide +kernel
theorem dX10_isSpare_40 : decode cX10_isSpare 40 = .ok (.if_icmp .ge 56, 3) := by decide +kernel
theorem dX10_isSpare_43 : decode cX10_isSpare 43 = .ok (.aload_n 0, 1) := by decide +kernel
theorem dX10_isSpare_44 : decode cX10_isSpare 44 = .ok (.getfield 51, 3) := by decide +kernel
theorem dX10_isSpare_47 : decode cX10_isSpare 47 = .ok (.bipush 24, 2) := by decide +kernel
theorem dX10_isSpare_49 : decode cX10_isSpare 49 = .ok (.iload_n 1, 1) := by decide +kernel
theorem dX10_isSpare_50 : decode cX10_isSpare 50 = .ok (.imul, 1) := by decide +kernel
theorem dX10_isSpare_51 : decode cX10_isSpare 51 = .ok (.iload_n 3, 1) := by decide +kernel
theorem dX10_isSpare_52 : decode cX10_isSpare 52 = .ok (.iadd, 1) := by decide +kernel
theorem dX10_isSpare_53 : decode cX10_isSpare 53 = .ok (.baload, 1) := by decide +kernel
theorem dX10_isSpare_54 : decode cX10_isSpare 54 = .ok (.ifCond .eq 42, 3) := by decide +kernel
theorem dX10_isSpare_57 : decode cX10_isSpare 57 = .ok (.aload_n 0, 1) := by decide +kernel
theorem dX10_isSpare_58 : decode cX10_isSpare 58 = .ok (.getfield 54, 3) := by decide +kernel
theorem dX10_isSpare_61 : decode cX10_isSpare 61 = .ok (.iload_n 1, 1) := by decide +kernel
theorem dX10_isSpare_62 : decode cX10_isSpare 62 = .ok (.iload_n 3, 1) := by decide +kernel
theorem dX10_isSpare_63 : decode cX10_isSpare 63 = .ok (.iload 5, 2) := by decide +kernel
theorem dX10_isSpare_65 : decode cX10_isSpare 65 = .ok (.invokestatic 163, 3) := by decide +kernel
theorem dX10_isSpare_68 : decode cX10_isSpare 68 = .ok (.baload, 1) := by decide +kernel
theorem dX10_isSpare_69 : decode cX10_isSpare 69 = .ok (.ifCond .eq 21, 3) := by decide +kernel
theorem dX10_isSpare_72 : decode cX10_isSpare 72 = .ok (.aload_n 0, 1) := by decide +kernel
theorem dX10_isSpare_73 : decode cX10_isSpare 73 = .ok (.getfield 60, 3) := by decide +kernel
theorem dX10_isSpare_76 : decode cX10_isSpare 76 = .ok (.iload_n 1, 1) := by decide +kernel
theorem dX10_isSpare_77 : decode cX10_isSpare 77 = .ok (.iload_n 3, 1) := by decide +kernel
theorem dX10_isSpare_78 : decode cX10_isSpare 78 = .ok (.iload 5, 2) := by decide +kernel
theorem dX10_isSpare_80 : decode cX10_isSpare 80 = .ok (.invokestatic 163, 3) := by decide +kernel
theorem dX10_isSpare_83 : decode cX10_isSpare 83 = .ok (.iaload, 1) := by decide +kernel
theorem dX10_isSpare_84 : decode cX10_isSpare 84 = .ok (.iload_n 2, 1) := by decide +kernel
theorem dX10_isSpare_85 : decode cX10_isSpare 85 = .ok (.if_icmp .eq 5, 3) := by decide +kernel
theorem dX10_isSpare_88 : decode cX10_isSpare 88 = .ok (.iconst 1, 1) := by decide +kernel
theorem dX10_isSpare_89 : decode cX10_isSpare 89 = .ok (.ireturn, 1) := by decide +kernel
theorem dX10_isSpare_90 : decode cX10_isSpare 90 = .ok (.iinc 5 1, 3) := by decide +kernel
theorem dX10_isSpare_93 : decode cX10_isSpare 93 = .ok (.goto (-59), 3) := by decide +kernel
theorem dX10_isSpare_96 : decode cX10_isSpare 96 = .ok (.iconst 0, 1) := by decide +kernel
theorem dX10_isSpare_97 : decode cX10_isSpare 97 = .ok (.ireturn, 1) := by decide +kernel
set_option maxRecDepth 20000 in
theorem ggX10_comes_X10_two : GoodIn wsX10_comes wsX10_two := goodIn_r _ [21] (by decide +kernel) (by decide +kernel)
set_option maxRecDepth 20000 in
theorem gX10_comes_X10_two : GoodIn wsX10_comes (va_wsS RX10 151 yX10_two wsX10_two) := goodIn_app (goodIn_of _ (by decide +kernel)) ggX10_comes_X10_two
set_option maxRecDepth 20000 in
theorem ggX10_comes_X10_isSpare : GoodIn wsX10_comes wsX10_isSpare := goodIn_r _ [25, 15, 9, 13, 26, 12, 27, 28, 20, 29, 66, 67, 68, 69, 70, 71, 72, 73, 74, 75, 76, 77, 78, 79, 80, 81, 82, 83, 84, 85, 86, 87, 88, 89, 90, 91, 92, 93, 94, 95, 96, 97, 98, 99, 100, 101, 102, 103, 104, 105, 106, 107, 108, 109, 110] (by decide +kernel) (by decide +kernel)
set_option maxRecDepth 20000 in
theorem gX10_comes_X10_isSpare : GoodIn wsX10_comes (wsV RX10 186 RX10 yX10_isSpare wsX10_isSpare) := goodIn_app (goodIn_of _ (by decide +kernel)) ggX10_comes_X10_isSpare
set_option maxRecDepth 20000 in
theorem ggX10_comes_X10_cell : GoodIn wsX10_comes wsX10_cell := goodIn_r _ [29] (by decide +kernel) (by decide +kernel)
set_option maxRecDepth 20000 in
theorem gX10_comes_X10_cell : GoodIn wsX10_comes (va_wsS RX10 163 yX10_cell wsX10_cell) := goodIn_app (goodIn_of _ (by decide +kernel)) ggX10_comes_X10_cell
set_option maxRecDepth 20000 in
theorem ggX10_comes_X10_heldMany : GoodIn wsX10_comes wsX10_heldMany := goodIn_r _ [33, 13, 9, 27, 28, 20, 29, 66, 67, 68, 69, 70, 71, 72, 73, 74, 75, 76, 77, 78, 79, 80, 81, 82, 83, 84, 85, 86, 87, 88, 89, 90, 91, 92, 93, 94, 95, 96, 97, 98, 99, 100, 101, 102, 103, 104, 105, 106, 107, 108, 109, 110] (by decide +kernel) (by decide +kernel)
set_option maxRecDepth 20000 in
theorem gX10_comes_X10_heldMany : GoodIn wsX10_comes (wsV RX10 193 RX10 yX10_heldMany wsX10_heldMany) := goodIn_app (goodIn_of _ (by decide +kernel)) ggX10_comes_X10_heldMany
set_option maxRecDepth 20000 in
theorem ggX10_comes_X10_sumOf : GoodIn wsX10_comes wsX10_sumOf := goodIn_r _ [37, 13, 14, 38, 39, 40, 20, 41, 42, 43, 66, 67, 68, 69, 70, 71, 72, 73, 74, 75, 76, 77, 78, 79, 80, 81, 82, 83, 84, 85, 86, 87, 88, 89, 90, 91, 92, 93, 94, 95, 96, 97, 98, 99, 100, 101, 102, 103, 104, 105, 106, 107, 108, 109, 110] (by decide +kernel) (by decide +kernel)
set_option maxRecDepth 20000 in
theorem gX10_comes_X10_sumOf : GoodIn wsX10_comes (wsV RX10 143 RX10 yX10_sumOf wsX10_sumOf) := goodIn_app (goodIn_of _ (by decide +kernel)) ggX10_comes_X10_sumOf
set_option maxRecDepth 20000 in
theorem ggX10_comes_X10_fails : GoodIn wsX10_comes wsX10_fails := goodIn_r _ [47, 48, 49, 13, 12, 50, 51, 52, 26, 27, 28, 20, 29, 18, 19, 21, 53, 54, 55, 56, 9, 66, 67, 68, 69, 70, 71, 72, 73, 74, 75, 76, 77, 78, 79, 80, 81, 82, 83, 84, 85, 86, 87, 88, 89, 90, 91, 92, 93, 94, 95, 96, 97, 98, 99, 100, 101, 102, 103, 104, 105, 106, 107, 108, 109, 110] (by decide +kernel) (by decide +kernel)
set_option maxRecDepth 20000 in
theorem gX10_comes_X10_fails : GoodIn wsX10_comes (wsV RX10 196 RX10 yX10_fails wsX10_fails) := goodIn_app (goodIn_of _ (by decide +kernel)) ggX10_comes_X10_fails
set_option maxRecDepth 20000 in
theorem ggX10_comes_X10_isDone : GoodIn wsX10_comes wsX10_isDone := goodIn_r _ [60, 61, 62, 63, 64, 20, 65, 15, 66, 67, 68, 69, 70, 71, 72, 73, 74, 75, 76, 77, 78, 79, 80, 81, 82, 83, 84, 85, 86, 87, 88, 89, 90, 91, 92, 93, 94, 95, 96, 97, 98, 99, 100, 101, 102, 103, 104, 105, 106, 107, 108, 109, 110] (by decide +kernel) (by decide +kernel)
set_option maxRecDepth 20000 in
theorem gX10_comes_X10_isDone : GoodIn wsX10_comes (wsV RX10 199 RX10 yX10_isDone wsX10_isDone) := goodIn_app (goodIn_of _ (by decide +kernel)) ggX10_comes_X10_isDone
theorem dX10_comes_0 : decode cX10_comes 0 = .ok (.aload_n 0, 1) := by decide +kernel
theorem dX10_comes_1 : decode cX10_comes 1 = .ok (.getfield 90, 3) := by decide +kernel
theorem dX10_comes_4 : decode cX10_comes 4 = .ok (.iload_n 1, 1) := by decide +kernel
theorem dX10_comes_5 : decode cX10_comes 5 = .ok (.iaload, 1) := by decide +kernel
theorem dX10_comes_6 : decode cX10_comes 6 = .ok (.istore_n 2, 1) := by decide +kernel
theorem dX10_comes_7 : decode cX10_comes 7 = .ok (.aload_n 0, 1) := by decide +kernel
theorem dX10_comes_8 : decode cX10_comes 8 = .ok (.getfield 93, 3) := by decide +kernel
theorem dX10_comes_11 : decode cX10_comes 11 = .ok (.iload_n 1, 1) := by decide +kernel
theorem dX10_comes_12 : decode cX10_comes 12 = .ok (.iaload, 1) := by decide +kernel
theorem dX10_comes_13 : decode cX10_comes 13 = .ok (.istore_n 3, 1) := by decide +kernel
theorem dX10_comes_14 : decode cX10_comes 14 = .ok (.aload_n 0, 1) := by decide +kernel
theorem dX10_comes_15 : decode cX10_comes 15 = .ok (.getfield 96, 3) := by decide +kernel
theorem dX10_comes_18 : decode cX10_comes 18 = .ok (.iload_n 1, 1) := by decide +kernel
theorem dX10_comes_19 : decode cX10_comes 19 = .ok (.iaload, 1) := by decide +kernel
theorem dX10_comes_20 : decode cX10_comes 20 = .ok (.istore 4, 2) := by decide +kernel
theorem dX10_comes_22 : decode cX10_comes 22 = .ok (.aload_n 0, 1) := by decide +kernel
theorem dX10_comes_23 : decode cX10_comes 23 = .ok (.getfield 99, 3) := by decide +kernel
theorem dX10_comes_26 : decode cX10_comes 26 = .ok (.iload_n 1, 1) := by decide +kernel
theorem dX10_comes_27 : decode cX10_comes 27 = .ok (.iaload, 1) := by decide +kernel
theorem dX10_comes_28 : decode cX10_comes 28 = .ok (.istore 5, 2) := by decide +kernel
theorem dX10_comes_30 : decode cX10_comes 30 = .ok (.aload_n 0, 1) := by decide +kernel
theorem dX10_comes_31 : decode cX10_comes 31 = .ok (.getfield 33, 3) := by decide +kernel
theorem dX10_comes_34 : decode cX10_comes 34 = .ok (.iload_n 2, 1) := by decide +kernel
theorem dX10_comes_35 : decode cX10_comes 35 = .ok (.dup2, 1) := by decide +kernel
theorem dX10_comes_36 : decode cX10_comes 36 = .ok (.iaload, 1) := by decide +kernel
theorem dX10_comes_37 : decode cX10_comes 37 = .ok (.iconst 1, 1) := by decide +kernel
theorem dX10_comes_38 : decode cX10_comes 38 = .ok (.iadd, 1) := by decide +kernel
theorem dX10_comes_39 : decode cX10_comes 39 = .ok (.iastore, 1) := by decide +kernel
theorem dX10_comes_40 : decode cX10_comes 40 = .ok (.aload_n 0, 1) := by decide +kernel
theorem dX10_comes_41 : decode cX10_comes 41 = .ok (.getfield 81, 3) := by decide +kernel
theorem dX10_comes_44 : decode cX10_comes 44 = .ok (.iload_n 2, 1) := by decide +kernel
theorem dX10_comes_45 : decode cX10_comes 45 = .ok (.iload_n 3, 1) := by decide +kernel
theorem dX10_comes_46 : decode cX10_comes 46 = .ok (.invokestatic 151, 3) := by decide +kernel
theorem dX10_comes_49 : decode cX10_comes 49 = .ok (.dup2, 1) := by decide +kernel
theorem dX10_comes_50 : decode cX10_comes 50 = .ok (.iaload, 1) := by decide +kernel
theorem dX10_comes_51 : decode cX10_comes 51 = .ok (.iconst 1, 1) := by decide +kernel
theorem dX10_comes_52 : decode cX10_comes 52 = .ok (.iadd, 1) := by decide +kernel
theorem dX10_comes_53 : decode cX10_comes 53 = .ok (.iastore, 1) := by decide +kernel
theorem dX10_comes_54 : decode cX10_comes 54 = .ok (.aload_n 0, 1) := by decide +kernel
theorem dX10_comes_55 : decode cX10_comes 55 = .ok (.iload_n 2, 1) := by decide +kernel
theorem dX10_comes_56 : decode cX10_comes 56 = .ok (.iload_n 3, 1) := by decide +kernel
theorem dX10_comes_57 : decode cX10_comes 57 = .ok (.iload 4, 2) := by decide +kernel
theorem dX10_comes_59 : decode cX10_comes 59 = .ok (.iload 5, 2) := by decide +kernel
theorem dX10_comes_61 : decode cX10_comes 61 = .ok (.invokevirtual 186, 3) := by decide +kernel
theorem dX10_comes_64 : decode cX10_comes 64 = .ok (.ifCond .eq 24, 3) := by decide +kernel
theorem dX10_comes_67 : decode cX10_comes 67 = .ok (.aload_n 0, 1) := by decide +kernel
theorem dX10_comes_68 : decode cX10_comes 68 = .ok (.getfield 39, 3) := by decide +kernel
theorem dX10_comes_71 : decode cX10_comes 71 = .ok (.iload_n 2, 1) := by decide +kernel
theorem dX10_comes_72 : decode cX10_comes 72 = .ok (.dup2, 1) := by decide +kernel
theorem dX10_comes_73 : decode cX10_comes 73 = .ok (.iaload, 1) := by decide +kernel
theorem dX10_comes_74 : decode cX10_comes 74 = .ok (.iconst 1, 1) := by decide +kernel
theorem dX10_comes_75 : decode cX10_comes 75 = .ok (.iadd, 1) := by decide +kernel
theorem dX10_comes_76 : decode cX10_comes 76 = .ok (.iastore, 1) := by decide +kernel
theorem dX10_comes_77 : decode cX10_comes 77 = .ok (.aload_n 0, 1) := by decide +kernel
theorem dX10_comes_78 : decode cX10_comes 78 = .ok (.dup, 1) := by decide +kernel
theorem dX10_comes_79 : decode cX10_comes 79 = .ok (.getfield 190, 3) := by decide +kernel
theorem dX10_comes_82 : decode cX10_comes 82 = .ok (.iconst 1, 1) := by decide +kernel
theorem dX10_comes_83 : decode cX10_comes 83 = .ok (.iadd, 1) := by decide +kernel
theorem dX10_comes_84 : decode cX10_comes 84 = .ok (.putfield 190, 3) := by decide +kernel
theorem dX10_comes_87 : decode cX10_comes 87 = .ok (.return_, 1) := by decide +kernel
theorem dX10_comes_88 : decode cX10_comes 88 = .ok (.aload_n 0, 1) := by decide +kernel
theorem dX10_comes_89 : decode cX10_comes 89 = .ok (.getfield 54, 3) := by decide +kernel
theorem dX10_comes_92 : decode cX10_comes 92 = .ok (.iload_n 2, 1) := by decide +kernel
theorem dX10_comes_93 : decode cX10_comes 93 = .ok (.iload 4, 2) := by decide +kernel
theorem dX10_comes_95 : decode cX10_comes 95 = .ok (.iload 5, 2) := by decide +kernel
theorem dX10_comes_97 : decode cX10_comes 97 = .ok (.invokestatic 163, 3) := by decide +kernel
theorem dX10_comes_100 : decode cX10_comes 100 = .ok (.iconst 1, 1) := by decide +kernel
theorem dX10_comes_101 : decode cX10_comes 101 = .ok (.bastore, 1) := by decide +kernel
theorem dX10_comes_102 : decode cX10_comes 102 = .ok (.aload_n 0, 1) := by decide +kernel
theorem dX10_comes_103 : decode cX10_comes 103 = .ok (.getfield 57, 3) := by decide +kernel
theorem dX10_comes_106 : decode cX10_comes 106 = .ok (.iload_n 2, 1) := by decide +kernel
theorem dX10_comes_107 : decode cX10_comes 107 = .ok (.iload 4, 2) := by decide +kernel
theorem dX10_comes_109 : decode cX10_comes 109 = .ok (.iload 5, 2) := by decide +kernel
theorem dX10_comes_111 : decode cX10_comes 111 = .ok (.invokestatic 163, 3) := by decide +kernel
theorem dX10_comes_114 : decode cX10_comes 114 = .ok (.aload_n 0, 1) := by decide +kernel
theorem dX10_comes_115 : decode cX10_comes 115 = .ok (.getfield 102, 3) := by decide +kernel
theorem dX10_comes_118 : decode cX10_comes 118 = .ok (.iload_n 1, 1) := by decide +kernel
theorem dX10_comes_119 : decode cX10_comes 119 = .ok (.iaload, 1) := by decide +kernel
theorem dX10_comes_120 : decode cX10_comes 120 = .ok (.iastore, 1) := by decide +kernel
theorem dX10_comes_121 : decode cX10_comes 121 = .ok (.aload_n 0, 1) := by decide +kernel
theorem dX10_comes_122 : decode cX10_comes 122 = .ok (.getfield 60, 3) := by decide +kernel
theorem dX10_comes_125 : decode cX10_comes 125 = .ok (.iload_n 2, 1) := by decide +kernel
theorem dX10_comes_126 : decode cX10_comes 126 = .ok (.iload 4, 2) := by decide +kernel
theorem dX10_comes_128 : decode cX10_comes 128 = .ok (.iload 5, 2) := by decide +kernel
theorem dX10_comes_130 : decode cX10_comes 130 = .ok (.invokestatic 163, 3) := by decide +kernel
theorem dX10_comes_133 : decode cX10_comes 133 = .ok (.iload_n 3, 1) := by decide +kernel
theorem dX10_comes_134 : decode cX10_comes 134 = .ok (.iastore, 1) := by decide +kernel
theorem dX10_comes_135 : decode cX10_comes 135 = .ok (.aload_n 0, 1) := by decide +kernel
theorem dX10_comes_136 : decode cX10_comes 136 = .ok (.iload_n 2, 1) := by decide +kernel
theorem dX10_comes_137 : decode cX10_comes 137 = .ok (.iload 4, 2) := by decide +kernel
theorem dX10_comes_139 : decode cX10_comes 139 = .ok (.invokevirtual 193, 3) := by decide +kernel
theorem dX10_comes_142 : decode cX10_comes 142 = .ok (.aload_n 0, 1) := by decide +kernel
theorem dX10_comes_143 : decode cX10_comes 143 = .ok (.getfield 13, 3) := by decide +kernel
theorem dX10_comes_146 : decode cX10_comes 146 = .ok (.if_icmp .ge 4, 3) := by decide +kernel
theorem dX10_comes_149 : decode cX10_comes 149 = .ok (.return_, 1) := by decide +kernel
theorem dX10_comes_150 : decode cX10_comes 150 = .ok (.iconst 0, 1) := by decide +kernel
theorem dX10_comes_151 : decode cX10_comes 151 = .ok (.istore 6, 2) := by decide +kernel
theorem dX10_comes_153 : decode cX10_comes 153 = .ok (.iconst 0, 1) := by decide +kernel
theorem dX10_comes_154 : decode cX10_comes 154 = .ok (.istore 7, 2) := by decide +kernel
theorem dX10_comes_156 : decode cX10_comes 156 = .ok (.iload 7, 2) := by decide +kernel
theorem dX10_comes_158 : decode cX10_comes 158 = .ok (.aload_n 0, 1) := by decide +kernel
theorem dX10_comes_159 : decode cX10_comes 159 = .ok (.getfield 13, 3) := by decide +kernel
theorem dX10_comes_162 : decode cX10_comes 162 = .ok (.if_icmp .ge 30, 3) := by decide +kernel
theorem dX10_comes_165 : decode cX10_comes 165 = .ok (.iload 6, 2) := by decide +kernel
theorem dX10_comes_167 : decode cX10_comes 167 = .ok (.ldc 127, 2) := by decide +kernel
theorem dX10_comes_169 : decode cX10_comes 169 = .ok (.imul, 1) := by decide +kernel
theorem dX10_comes_170 : decode cX10_comes 170 = .ok (.aload_n 0, 1) := by decide +kernel
theorem dX10_comes_171 : decode cX10_comes 171 = .ok (.getfield 57, 3) := by decide +kernel
theorem dX10_comes_174 : decode cX10_comes 174 = .ok (.iload_n 2, 1) := by decide +kernel
theorem dX10_comes_175 : decode cX10_comes 175 = .ok (.iload 4, 2) := by decide +kernel
theorem dX10_comes_177 : decode cX10_comes 177 = .ok (.iload 7, 2) := by decide +kernel
theorem dX10_comes_179 : decode cX10_comes 179 = .ok (.invokestatic 163, 3) := by decide +kernel
theorem dX10_comes_182 : decode cX10_comes 182 = .ok (.iaload, 1) := by decide +kernel
theorem dX10_comes_183 : decode cX10_comes 183 = .ok (.iadd, 1) := by decide +kernel
theorem dX10_comes_184 : decode cX10_comes 184 = .ok (.istore 6, 2) := by decide +kernel
theorem dX10_comes_186 : decode cX10_comes 186 = .ok (.iinc 7 1, 3) := by decide +kernel
theorem dX10_comes_189 : decode cX10_comes 189 = .ok (.goto (-33), 3) := by decide +kernel
theorem dX10_comes_192 : decode cX10_comes 192 = .ok (.iload 6, 2) := by decide +kernel
theorem dX10_comes_194 : decode cX10_comes 194 = .ok (.aload_n 0, 1) := by decide +kernel
theorem dX10_comes_195 : decode cX10_comes 195 = .ok (.iload 4, 2) := by decide +kernel
theorem dX10_comes_197 : decode cX10_comes 197 = .ok (.invokevirtual 143, 3) := by decide +kernel
theorem dX10_comes_200 : decode cX10_comes 200 = .ok (.if_icmp .eq 11, 3) := by decide +kernel
theorem dX10_comes_203 : decode cX10_comes 203 = .ok (.aload_n 0, 1) := by decide +kernel
theorem dX10_comes_204 : decode cX10_comes 204 = .ok (.iload_n 2, 1) := by decide +kernel
theorem dX10_comes_205 : decode cX10_comes 205 = .ok (.iload 4, 2) := by decide +kernel
theorem dX10_comes_207 : decode cX10_comes 207 = .ok (.invokevirtual 196, 3) := by decide +kernel
theorem dX10_comes_210 : decode cX10_comes 210 = .ok (.return_, 1) := by decide +kernel
theorem dX10_comes_211 : decode cX10_comes 211 = .ok (.aload_n 0, 1) := by decide +kernel
theorem dX10_comes_212 : decode cX10_comes 212 = .ok (.getfield 48, 3) := by decide +kernel
theorem dX10_comes_215 : decode cX10_comes 215 = .ok (.bipush 24, 2) := by decide +kernel
theorem dX10_comes_217 : decode cX10_comes 217 = .ok (.iload_n 2, 1) := by decide +kernel
theorem dX10_comes_218 : decode cX10_comes 218 = .ok (.imul, 1) := by decide +kernel
theorem dX10_comes_219 : decode cX10_comes 219 = .ok (.iload 4, 2) := by decide +kernel
theorem dX10_comes_221 : decode cX10_comes 221 = .ok (.iadd, 1) := by decide +kernel
theorem dX10_comes_222 : decode cX10_comes 222 = .ok (.iconst 1, 1) := by decide +kernel
theorem dX10_comes_223 : decode cX10_comes 223 = .ok (.bastore, 1) := by decide +kernel
theorem dX10_comes_224 : decode cX10_comes 224 = .ok (.aload_n 0, 1) := by decide +kernel
theorem dX10_comes_225 : decode cX10_comes 225 = .ok (.iload_n 2, 1) := by decide +kernel
theorem dX10_comes_226 : decode cX10_comes 226 = .ok (.invokevirtual 199, 3) := by decide +kernel
theorem dX10_comes_229 : decode cX10_comes 229 = .ok (.ifCond .eq 13, 3) := by decide +kernel
theorem dX10_comes_232 : decode cX10_comes 232 = .ok (.aload_n 0, 1) := by decide +kernel
theorem dX10_comes_233 : decode cX10_comes 233 = .ok (.getfield 45, 3) := by decide +kernel
theorem dX10_comes_236 : decode cX10_comes 236 = .ok (.iload_n 2, 1) := by decide +kernel
theorem dX10_comes_237 : decode cX10_comes 237 = .ok (.aload_n 0, 1) := by decide +kernel
theorem dX10_comes_238 : decode cX10_comes 238 = .ok (.getfield 202, 3) := by decide +kernel
theorem dX10_comes_241 : decode cX10_comes 241 = .ok (.iastore, 1) := by decide +kernel
theorem dX10_comes_242 : decode cX10_comes 242 = .ok (.return_, 1) := by decide +kernel
set_option maxRecDepth 20000 in
theorem ggX10_allCome_X10_comes : GoodIn wsX10_allCome wsX10_comes := goodIn_r _ [9, 10, 11, 12, 13, 14, 15, 16, 17, 18, 19, 20, 21, 22, 23, 24, 25, 3, 26, 27, 8, 28, 29, 30, 31, 32, 33, 34, 35, 36, 37, 38, 39, 40, 41, 42, 43, 44, 45, 46, 47, 48, 49, 50, 51, 52, 53, 54, 55, 56, 57, 58, 59, 60, 61, 62, 63, 64, 65, 66, 67, 68, 69, 70, 71, 72, 77, 78, 79, 80, 81, 82, 83, 84, 85, 86, 87, 88, 89, 90, 91, 92, 93, 94, 95, 96, 97, 98, 99, 100, 101, 102, 103, 104, 105, 106, 107, 108, 109, 110, 111, 112, 113, 114, 115, 116, 117, 118, 119, 120, 121] (by decide +kernel) (by decide +kernel)
set_option maxRecDepth 20000 in
theorem gX10_allCome_X10_comes : GoodIn wsX10_allCome (wsV RX10 205 RX10 yX10_comes wsX10_comes) := goodIn_app (goodIn_of _ (by decide +kernel)) ggX10_allCome_X10_comes
set_option maxRecDepth 20000 in
theorem ggX10_allCome_X10_keep : GoodIn wsX10_allCome wsX10_keep := goodIn_r _ [76, 10, 11, 12, 13, 20, 2, 4, 77, 78, 79, 80, 81, 82, 83, 84, 85, 86, 87, 88, 89, 90, 91, 92, 93, 94, 95, 96, 97, 98, 99, 100, 101, 102, 103, 104, 105, 106, 107, 108, 109, 110, 111, 112, 113, 114, 115, 116, 117, 118, 119, 120, 121] (by decide +kernel) (by decide +kernel)
set_option maxRecDepth 20000 in
theorem gX10_allCome_X10_keep : GoodIn wsX10_allCome (wsV RX10 173 RX10 yX10_keep wsX10_keep) := goodIn_app (goodIn_of _ (by decide +kernel)) ggX10_allCome_X10_keep
theorem dX10_allCome_0 : decode cX10_allCome 0 = .ok (.iconst 0, 1) := by decide +kernel
theorem dX10_allCome_1 : decode cX10_allCome 1 = .ok (.istore_n 2, 1) := by decide +kernel
theorem dX10_allCome_2 : decode cX10_allCome 2 = .ok (.iconst 0, 1) := by decide +kernel
theorem dX10_allCome_3 : decode cX10_allCome 3 = .ok (.istore_n 3, 1) := by decide +kernel
theorem dX10_allCome_4 : decode cX10_allCome 4 = .ok (.iload_n 3, 1) := by decide +kernel
theorem dX10_allCome_5 : decode cX10_allCome 5 = .ok (.aload_n 0, 1) := by decide +kernel
theorem dX10_allCome_6 : decode cX10_allCome 6 = .ok (.getfield 170, 3) := by decide +kernel
theorem dX10_allCome_9 : decode cX10_allCome 9 = .ok (.if_icmp .ge 49, 3) := by decide +kernel
theorem dX10_allCome_12 : decode cX10_allCome 12 = .ok (.aload_n 0, 1) := by decide +kernel
theorem dX10_allCome_13 : decode cX10_allCome 13 = .ok (.getfield 105, 3) := by decide +kernel
theorem dX10_allCome_16 : decode cX10_allCome 16 = .ok (.iload_n 3, 1) := by decide +kernel
theorem dX10_allCome_17 : decode cX10_allCome 17 = .ok (.iaload, 1) := by decide +kernel
theorem dX10_allCome_18 : decode cX10_allCome 18 = .ok (.aload_n 0, 1) := by decide +kernel
theorem dX10_allCome_19 : decode cX10_allCome 19 = .ok (.getfield 202, 3) := by decide +kernel
theorem dX10_allCome_22 : decode cX10_allCome 22 = .ok (.if_icmp .ne 21, 3) := by decide +kernel
theorem dX10_allCome_25 : decode cX10_allCome 25 = .ok (.aload_n 0, 1) := by decide +kernel
theorem dX10_allCome_26 : decode cX10_allCome 26 = .ok (.getfield 108, 3) := by decide +kernel
theorem dX10_allCome_29 : decode cX10_allCome 29 = .ok (.iload_n 3, 1) := by decide +kernel
theorem dX10_allCome_30 : decode cX10_allCome 30 = .ok (.baload, 1) := by decide +kernel
theorem dX10_allCome_31 : decode cX10_allCome 31 = .ok (.iload_n 1, 1) := by decide +kernel
theorem dX10_allCome_32 : decode cX10_allCome 32 = .ok (.if_icmp .ne 11, 3) := by decide +kernel
theorem dX10_allCome_35 : decode cX10_allCome 35 = .ok (.aload_n 0, 1) := by decide +kernel
theorem dX10_allCome_36 : decode cX10_allCome 36 = .ok (.iload_n 3, 1) := by decide +kernel
theorem dX10_allCome_37 : decode cX10_allCome 37 = .ok (.invokevirtual 205, 3) := by decide +kernel
theorem dX10_allCome_40 : decode cX10_allCome 40 = .ok (.goto 12, 3) := by decide +kernel
theorem dX10_allCome_43 : decode cX10_allCome 43 = .ok (.aload_n 0, 1) := by decide +kernel
theorem dX10_allCome_44 : decode cX10_allCome 44 = .ok (.iload_n 2, 1) := by decide +kernel
theorem dX10_allCome_45 : decode cX10_allCome 45 = .ok (.iload_n 3, 1) := by decide +kernel
theorem dX10_allCome_46 : decode cX10_allCome 46 = .ok (.invokevirtual 173, 3) := by decide +kernel
theorem dX10_allCome_49 : decode cX10_allCome 49 = .ok (.iinc 2 1, 3) := by decide +kernel
theorem dX10_allCome_52 : decode cX10_allCome 52 = .ok (.iinc 3 1, 3) := by decide +kernel
theorem dX10_allCome_55 : decode cX10_allCome 55 = .ok (.goto (-51), 3) := by decide +kernel
theorem dX10_allCome_58 : decode cX10_allCome 58 = .ok (.aload_n 0, 1) := by decide +kernel
theorem dX10_allCome_59 : decode cX10_allCome 59 = .ok (.iload_n 2, 1) := by decide +kernel
theorem dX10_allCome_60 : decode cX10_allCome 60 = .ok (.putfield 170, 3) := by decide +kernel
theorem dX10_allCome_63 : decode cX10_allCome 63 = .ok (.return_, 1) := by decide +kernel
theorem dX10_coming_0 : decode cX10_coming 0 = .ok (.iconst 0, 1) := by decide +kernel
theorem dX10_coming_1 : decode cX10_coming 1 = .ok (.istore 4, 2) := by decide +kernel
theorem dX10_coming_3 : decode cX10_coming 3 = .ok (.iconst 0, 1) := by decide +kernel
theorem dX10_coming_4 : decode cX10_coming 4 = .ok (.istore 5, 2) := by decide +kernel
theorem dX10_coming_6 : decode cX10_coming 6 = .ok (.iload 5, 2) := by decide +kernel
theorem dX10_coming_8 : decode cX10_coming 8 = .ok (.aload_n 0, 1) := by decide +kernel
theorem dX10_coming_9 : decode cX10_coming 9 = .ok (.getfield 170, 3) := by decide +kernel
theorem dX10_coming_12 : decode cX10_coming 12 = .ok (.if_icmp .ge 52, 3) := by decide +kernel
theorem dX10_coming_15 : decode cX10_coming 15 = .ok (.iload 4, 2) := by decide +kernel
theorem dX10_coming_17 : decode cX10_coming 17 = .ok (.aload_n 0, 1) := by decide +kernel
theorem dX10_coming_18 : decode cX10_coming 18 = .ok (.getfield 90, 3) := by decide +kernel
theorem dX10_coming_21 : decode cX10_coming 21 = .ok (.iload 5, 2) := by decide +kernel
theorem dX10_coming_23 : decode cX10_coming 23 = .ok (.iaload, 1) := by decide +kernel
theorem dX10_coming_24 : decode cX10_coming 24 = .ok (.iload_n 1, 1) := by decide +kernel
theorem dX10_coming_25 : decode cX10_coming 25 = .ok (.if_icmp .ne 29, 3) := by decide +kernel
theorem dX10_coming_28 : decode cX10_coming 28 = .ok (.aload_n 0, 1) := by decide +kernel
theorem dX10_coming_29 : decode cX10_coming 29 = .ok (.getfield 96, 3) := by decide +kernel
theorem dX10_coming_32 : decode cX10_coming 32 = .ok (.iload 5, 2) := by decide +kernel
theorem dX10_coming_34 : decode cX10_coming 34 = .ok (.iaload, 1) := by decide +kernel
theorem dX10_coming_35 : decode cX10_coming 35 = .ok (.iload_n 2, 1) := by decide +kernel
theorem dX10_coming_36 : decode cX10_coming 36 = .ok (.if_icmp .ne 18, 3) := by decide +kernel
theorem dX10_coming_39 : decode cX10_coming 39 = .ok (.aload_n 0, 1) := by decide +kernel
theorem dX10_coming_40 : decode cX10_coming 40 = .ok (.getfield 99, 3) := by decide +kernel
theorem dX10_coming_43 : decode cX10_coming 43 = .ok (.iload 5, 2) := by decide +kernel
theorem dX10_coming_45 : decode cX10_coming 45 = .ok (.iaload, 1) := by decide +kernel
theorem dX10_coming_46 : decode cX10_coming 46 = .ok (.iload_n 3, 1) := by decide +kernel
theorem dX10_coming_47 : decode cX10_coming 47 = .ok (.if_icmp .ne 7, 3) := by decide +kernel
theorem dX10_coming_50 : decode cX10_coming 50 = .ok (.iconst 1, 1) := by decide +kernel
theorem dX10_coming_51 : decode cX10_coming 51 = .ok (.goto 4, 3) := by decide +kernel
theorem dX10_coming_54 : decode cX10_coming 54 = .ok (.iconst 0, 1) := by decide +kernel
theorem dX10_coming_55 : decode cX10_coming 55 = .ok (.iadd, 1) := by decide +kernel
theorem dX10_coming_56 : decode cX10_coming 56 = .ok (.istore 4, 2) := by decide +kernel
theorem dX10_coming_58 : decode cX10_coming 58 = .ok (.iinc 5 1, 3) := by decide +kernel
theorem dX10_coming_61 : decode cX10_coming 61 = .ok (.goto (-55), 3) := by decide +kernel
theorem dX10_coming_64 : decode cX10_coming 64 = .ok (.iload 4, 2) := by decide +kernel
theorem dX10_coming_66 : decode cX10_coming 66 = .ok (.ireturn, 1) := by decide +kernel
set_option maxRecDepth 20000 in
theorem ggX10_late_X10_isDone : GoodIn wsX10_late wsX10_isDone := goodIn_r _ [7, 8, 9, 10, 11, 6, 12, 13, 17, 18, 19, 20, 21, 22, 23, 24, 25, 26, 27, 28, 29, 30, 31, 32, 33, 34, 35, 36, 37, 38, 39, 40, 41, 42, 43, 44, 45, 46, 47, 48, 49, 50, 51, 52, 53, 54, 55, 56, 57, 58, 59, 60, 61] (by decide +kernel) (by decide +kernel)
set_option maxRecDepth 20000 in
theorem gX10_late_X10_isDone : GoodIn wsX10_late (wsV RX10 199 RX10 yX10_isDone wsX10_isDone) := goodIn_app (goodIn_of _ (by decide +kernel)) ggX10_late_X10_isDone
set_option maxRecDepth 20000 in
theorem ggX10_late_X10_two : GoodIn wsX10_late wsX10_two := goodIn_r _ [16] (by decide +kernel) (by decide +kernel)
set_option maxRecDepth 20000 in
theorem gX10_late_X10_two : GoodIn wsX10_late (va_wsS RX10 151 yX10_two wsX10_two) := goodIn_app (goodIn_of _ (by decide +kernel)) ggX10_late_X10_two
theorem dX10_late_0 : decode cX10_late 0 = .ok (.aload_n 0, 1) := by decide +kernel
theorem dX10_late_1 : decode cX10_late 1 = .ok (.iload_n 1, 1) := by decide +kernel
theorem dX10_late_2 : decode cX10_late 2 = .ok (.invokevirtual 199, 3) := by decide +kernel
theorem dX10_late_5 : decode cX10_late 5 = .ok (.ifCond .eq 16, 3) := by decide +kernel
theorem dX10_late_8 : decode cX10_late 8 = .ok (.aload_n 0, 1) := by decide +kernel
theorem dX10_late_9 : decode cX10_late 9 = .ok (.getfield 78, 3) := by decide +kernel
theorem dX10_late_12 : decode cX10_late 12 = .ok (.iload_n 1, 1) := by decide +kernel
theorem dX10_late_13 : decode cX10_late 13 = .ok (.iload_n 2, 1) := by decide +kernel
theorem dX10_late_14 : decode cX10_late 14 = .ok (.invokestatic 151, 3) := by decide +kernel
theorem dX10_late_17 : decode cX10_late 17 = .ok (.iaload, 1) := by decide +kernel
theorem dX10_late_18 : decode cX10_late 18 = .ok (.goto 13, 3) := by decide +kernel
theorem dX10_late_21 : decode cX10_late 21 = .ok (.aload_n 0, 1) := by decide +kernel
theorem dX10_late_22 : decode cX10_late 22 = .ok (.getfield 81, 3) := by decide +kernel
theorem dX10_late_25 : decode cX10_late 25 = .ok (.iload_n 1, 1) := by decide +kernel
theorem dX10_late_26 : decode cX10_late 26 = .ok (.iload_n 2, 1) := by decide +kernel
theorem dX10_late_27 : decode cX10_late 27 = .ok (.invokestatic 151, 3) := by decide +kernel
theorem dX10_late_30 : decode cX10_late 30 = .ok (.iaload, 1) := by decide +kernel
theorem dX10_late_31 : decode cX10_late 31 = .ok (.ireturn, 1) := by decide +kernel
set_option maxRecDepth 20000 in
theorem ggX10_opens_X10_two : GoodIn wsX10_opens wsX10_two := goodIn_r _ [12] (by decide +kernel) (by decide +kernel)
set_option maxRecDepth 20000 in
theorem gX10_opens_X10_two : GoodIn wsX10_opens (va_wsS RX10 151 yX10_two wsX10_two) := goodIn_app (goodIn_of _ (by decide +kernel)) ggX10_opens_X10_two
set_option maxRecDepth 20000 in
theorem ggX10_opens_X10_wants : GoodIn wsX10_opens wsX10_wants := goodIn_r _ [16, 17, 18, 19, 20, 21, 11, 22, 23, 24, 25, 9, 10, 12, 26, 27, 28, 29, 4, 42, 43, 44, 45, 46, 47, 48, 49, 50, 51, 52, 53, 54, 55, 56, 57, 58, 59, 60, 61, 62, 63, 64, 65, 66, 67, 68, 69, 70, 71, 72, 73, 74, 75, 76, 77, 78, 79, 80, 81, 82, 83, 84, 85, 86] (by decide +kernel) (by decide +kernel)
set_option maxRecDepth 20000 in
theorem gX10_opens_X10_wants : GoodIn wsX10_opens (wsV RX10 209 RX10 yX10_wants wsX10_wants) := goodIn_app (goodIn_of _ (by decide +kernel)) ggX10_opens_X10_wants
set_option maxRecDepth 20000 in
theorem ggX10_opens_X10_late : GoodIn wsX10_opens wsX10_late := goodIn_r _ [33, 7, 8, 34, 35, 36, 11, 37, 17, 38, 39, 40, 41, 18, 9, 10, 12, 42, 43, 44, 45, 46, 47, 48, 49, 50, 51, 52, 53, 54, 55, 56, 57, 58, 59, 60, 61, 62, 63, 64, 65, 66, 67, 68, 69, 70, 71, 72, 73, 74, 75, 76, 77, 78, 79, 80, 81, 82, 83, 84, 85, 86] (by decide +kernel) (by decide +kernel)
set_option maxRecDepth 20000 in
theorem gX10_opens_X10_late : GoodIn wsX10_opens (wsV RX10 212 RX10 yX10_late wsX10_late) := goodIn_app (goodIn_of _ (by decide +kernel)) ggX10_opens_X10_late
theorem dX10_opens_0 : decode cX10_opens 0 = .ok (.aload_n 0, 1) := by decide +kernel
theorem dX10_opens_1 : decode cX10_opens 1 = .ok (.getfield 111, 3) := by decide +kernel
theorem dX10_opens_4 : decode cX10_opens 4 = .ok (.astore_n 2, 1) := by decide +kernel
theorem dX10_opens_5 : decode cX10_opens 5 = .ok (.iconst 3, 1) := by decide +kernel
theorem dX10_opens_6 : decode cX10_opens 6 = .ok (.istore_n 3, 1) := by decide +kernel
theorem dX10_opens_7 : decode cX10_opens 7 = .ok (.iconst 0, 1) := by decide +kernel
theorem dX10_opens_8 : decode cX10_opens 8 = .ok (.istore 4, 2) := by decide +kernel
theorem dX10_opens_10 : decode cX10_opens 10 = .ok (.iload 4, 2) := by decide +kernel
theorem dX10_opens_12 : decode cX10_opens 12 = .ok (.aload_n 0, 1) := by decide +kernel
theorem dX10_opens_13 : decode cX10_opens 13 = .ok (.getfield 136, 3) := by decide +kernel
theorem dX10_opens_16 : decode cX10_opens 16 = .ok (.if_icmp .ge 66, 3) := by decide +kernel
theorem dX10_opens_19 : decode cX10_opens 19 = .ok (.aload_n 0, 1) := by decide +kernel
theorem dX10_opens_20 : decode cX10_opens 20 = .ok (.getfield 66, 3) := by decide +kernel
theorem dX10_opens_23 : decode cX10_opens 23 = .ok (.iload_n 1, 1) := by decide +kernel
theorem dX10_opens_24 : decode cX10_opens 24 = .ok (.iload 4, 2) := by decide +kernel
theorem dX10_opens_26 : decode cX10_opens 26 = .ok (.invokestatic 151, 3) := by decide +kernel
theorem dX10_opens_29 : decode cX10_opens 29 = .ok (.iconst 0, 1) := by decide +kernel
theorem dX10_opens_30 : decode cX10_opens 30 = .ok (.bastore, 1) := by decide +kernel
theorem dX10_opens_31 : decode cX10_opens 31 = .ok (.aload_n 2, 1) := by decide +kernel
theorem dX10_opens_32 : decode cX10_opens 32 = .ok (.iload 4, 2) := by decide +kernel
theorem dX10_opens_34 : decode cX10_opens 34 = .ok (.iload_n 1, 1) := by decide +kernel
theorem dX10_opens_35 : decode cX10_opens 35 = .ok (.iload 4, 2) := by decide +kernel
theorem dX10_opens_37 : decode cX10_opens 37 = .ok (.if_icmp .eq 37, 3) := by decide +kernel
theorem dX10_opens_40 : decode cX10_opens 40 = .ok (.aload_n 0, 1) := by decide +kernel
theorem dX10_opens_41 : decode cX10_opens 41 = .ok (.iload 4, 2) := by decide +kernel
theorem dX10_opens_43 : decode cX10_opens 43 = .ok (.iload_n 1, 1) := by decide +kernel
theorem dX10_opens_44 : decode cX10_opens 44 = .ok (.invokevirtual 209, 3) := by decide +kernel
theorem dX10_opens_47 : decode cX10_opens 47 = .ok (.ifCond .eq 27, 3) := by decide +kernel
theorem dX10_opens_50 : decode cX10_opens 50 = .ok (.aload_n 0, 1) := by decide +kernel
theorem dX10_opens_51 : decode cX10_opens 51 = .ok (.getfield 16, 3) := by decide +kernel
theorem dX10_opens_54 : decode cX10_opens 54 = .ok (.iload_n 1, 1) := by decide +kernel
theorem dX10_opens_55 : decode cX10_opens 55 = .ok (.iaload, 1) := by decide +kernel
theorem dX10_opens_56 : decode cX10_opens 56 = .ok (.iconst 2, 1) := by decide +kernel
theorem dX10_opens_57 : decode cX10_opens 57 = .ok (.if_icmp .eq 17, 3) := by decide +kernel
theorem dX10_opens_60 : decode cX10_opens 60 = .ok (.aload_n 0, 1) := by decide +kernel
theorem dX10_opens_61 : decode cX10_opens 61 = .ok (.getfield 16, 3) := by decide +kernel
theorem dX10_opens_64 : decode cX10_opens 64 = .ok (.iload_n 1, 1) := by decide +kernel
theorem dX10_opens_65 : decode cX10_opens 65 = .ok (.iaload, 1) := by decide +kernel
theorem dX10_opens_66 : decode cX10_opens 66 = .ok (.iconst 5, 1) := by decide +kernel
theorem dX10_opens_67 : decode cX10_opens 67 = .ok (.if_icmp .eq 7, 3) := by decide +kernel
theorem dX10_opens_70 : decode cX10_opens 70 = .ok (.iconst 1, 1) := by decide +kernel
theorem dX10_opens_71 : decode cX10_opens 71 = .ok (.goto 4, 3) := by decide +kernel
theorem dX10_opens_74 : decode cX10_opens 74 = .ok (.iconst 0, 1) := by decide +kernel
theorem dX10_opens_75 : decode cX10_opens 75 = .ok (.bastore, 1) := by decide +kernel
theorem dX10_opens_76 : decode cX10_opens 76 = .ok (.iinc 4 1, 3) := by decide +kernel
theorem dX10_opens_79 : decode cX10_opens 79 = .ok (.goto (-69), 3) := by decide +kernel
theorem dX10_opens_82 : decode cX10_opens 82 = .ok (.iload_n 3, 1) := by decide +kernel
theorem dX10_opens_83 : decode cX10_opens 83 = .ok (.ifCond .le 90, 3) := by decide +kernel
theorem dX10_opens_86 : decode cX10_opens 86 = .ok (.iconst (-1), 1) := by decide +kernel
theorem dX10_opens_87 : decode cX10_opens 87 = .ok (.istore 4, 2) := by decide +kernel
theorem dX10_opens_89 : decode cX10_opens 89 = .ok (.iconst 0, 1) := by decide +kernel
theorem dX10_opens_90 : decode cX10_opens 90 = .ok (.istore 5, 2) := by decide +kernel
theorem dX10_opens_92 : decode cX10_opens 92 = .ok (.iload 5, 2) := by decide +kernel
theorem dX10_opens_94 : decode cX10_opens 94 = .ok (.aload_n 0, 1) := by decide +kernel
theorem dX10_opens_95 : decode cX10_opens 95 = .ok (.getfield 136, 3) := by decide +kernel
theorem dX10_opens_98 : decode cX10_opens 98 = .ok (.if_icmp .ge 43, 3) := by decide +kernel
theorem dX10_opens_101 : decode cX10_opens 101 = .ok (.aload_n 2, 1) := by decide +kernel
theorem dX10_opens_102 : decode cX10_opens 102 = .ok (.iload 5, 2) := by decide +kernel
theorem dX10_opens_104 : decode cX10_opens 104 = .ok (.baload, 1) := by decide +kernel
theorem dX10_opens_105 : decode cX10_opens 105 = .ok (.ifCond .eq 30, 3) := by decide +kernel
theorem dX10_opens_108 : decode cX10_opens 108 = .ok (.iload 4, 2) := by decide +kernel
theorem dX10_opens_110 : decode cX10_opens 110 = .ok (.iconst (-1), 1) := by decide +kernel
theorem dX10_opens_111 : decode cX10_opens 111 = .ok (.if_icmp .eq 20, 3) := by decide +kernel
theorem dX10_opens_114 : decode cX10_opens 114 = .ok (.aload_n 0, 1) := by decide +kernel
theorem dX10_opens_115 : decode cX10_opens 115 = .ok (.iload_n 1, 1) := by decide +kernel
theorem dX10_opens_116 : decode cX10_opens 116 = .ok (.iload 5, 2) := by decide +kernel
theorem dX10_opens_118 : decode cX10_opens 118 = .ok (.invokevirtual 212, 3) := by decide +kernel
theorem dX10_opens_121 : decode cX10_opens 121 = .ok (.aload_n 0, 1) := by decide +kernel
theorem dX10_opens_122 : decode cX10_opens 122 = .ok (.iload_n 1, 1) := by decide +kernel
theorem dX10_opens_123 : decode cX10_opens 123 = .ok (.iload 4, 2) := by decide +kernel
theorem dX10_opens_125 : decode cX10_opens 125 = .ok (.invokevirtual 212, 3) := by decide +kernel
theorem dX10_opens_128 : decode cX10_opens 128 = .ok (.if_icmp .le 7, 3) := by decide +kernel
theorem dX10_opens_131 : decode cX10_opens 131 = .ok (.iload 5, 2) := by decide +kernel
theorem dX10_opens_133 : decode cX10_opens 133 = .ok (.istore 4, 2) := by decide +kernel
theorem dX10_opens_135 : decode cX10_opens 135 = .ok (.iinc 5 1, 3) := by decide +kernel
theorem dX10_opens_138 : decode cX10_opens 138 = .ok (.goto (-46), 3) := by decide +kernel
theorem dX10_opens_141 : decode cX10_opens 141 = .ok (.iload 4, 2) := by decide +kernel
theorem dX10_opens_143 : decode cX10_opens 143 = .ok (.iconst (-1), 1) := by decide +kernel
theorem dX10_opens_144 : decode cX10_opens 144 = .ok (.if_icmp .ne 6, 3) := by decide +kernel
theorem dX10_opens_147 : decode cX10_opens 147 = .ok (.goto 26, 3) := by decide +kernel
theorem dX10_opens_150 : decode cX10_opens 150 = .ok (.aload_n 0, 1) := by decide +kernel
theorem dX10_opens_151 : decode cX10_opens 151 = .ok (.getfield 66, 3) := by decide +kernel
theorem dX10_opens_154 : decode cX10_opens 154 = .ok (.iload_n 1, 1) := by decide +kernel
theorem dX10_opens_155 : decode cX10_opens 155 = .ok (.iload 4, 2) := by decide +kernel
theorem dX10_opens_157 : decode cX10_opens 157 = .ok (.invokestatic 151, 3) := by decide +kernel
theorem dX10_opens_160 : decode cX10_opens 160 = .ok (.iconst 1, 1) := by decide +kernel
theorem dX10_opens_161 : decode cX10_opens 161 = .ok (.bastore, 1) := by decide +kernel
theorem dX10_opens_162 : decode cX10_opens 162 = .ok (.aload_n 2, 1) := by decide +kernel
theorem dX10_opens_163 : decode cX10_opens 163 = .ok (.iload 4, 2) := by decide +kernel
theorem dX10_opens_165 : decode cX10_opens 165 = .ok (.iconst 0, 1) := by decide +kernel
theorem dX10_opens_166 : decode cX10_opens 166 = .ok (.bastore, 1) := by decide +kernel
theorem dX10_opens_167 : decode cX10_opens 167 = .ok (.iinc 3 (-1), 3) := by decide +kernel
theorem dX10_opens_170 : decode cX10_opens 170 = .ok (.goto (-88), 3) := by decide +kernel
theorem dX10_opens_173 : decode cX10_opens 173 = .ok (.aload_n 0, 1) := by decide +kernel
theorem dX10_opens_174 : decode cX10_opens 174 = .ok (.getfield 84, 3) := by decide +kernel
theorem dX10_opens_177 : decode cX10_opens 177 = .ok (.iload_n 1, 1) := by decide +kernel
theorem dX10_opens_178 : decode cX10_opens 178 = .ok (.iconst (-1), 1) := by decide +kernel
theorem dX10_opens_179 : decode cX10_opens 179 = .ok (.iastore, 1) := by decide +kernel
theorem dX10_opens_180 : decode cX10_opens 180 = .ok (.iconst 0, 1) := by decide +kernel
theorem dX10_opens_181 : decode cX10_opens 181 = .ok (.istore 4, 2) := by decide +kernel
theorem dX10_opens_183 : decode cX10_opens 183 = .ok (.iload 4, 2) := by decide +kernel
theorem dX10_opens_185 : decode cX10_opens 185 = .ok (.aload_n 0, 1) := by decide +kernel
theorem dX10_opens_186 : decode cX10_opens 186 = .ok (.getfield 136, 3) := by decide +kernel
theorem dX10_opens_189 : decode cX10_opens 189 = .ok (.if_icmp .ge 52, 3) := by decide +kernel
theorem dX10_opens_192 : decode cX10_opens 192 = .ok (.aload_n 0, 1) := by decide +kernel
theorem dX10_opens_193 : decode cX10_opens 193 = .ok (.getfield 84, 3) := by decide +kernel
theorem dX10_opens_196 : decode cX10_opens 196 = .ok (.iload_n 1, 1) := by decide +kernel
theorem dX10_opens_197 : decode cX10_opens 197 = .ok (.iaload, 1) := by decide +kernel
theorem dX10_opens_198 : decode cX10_opens 198 = .ok (.iconst (-1), 1) := by decide +kernel
theorem dX10_opens_199 : decode cX10_opens 199 = .ok (.if_icmp .ne 42, 3) := by decide +kernel
theorem dX10_opens_202 : decode cX10_opens 202 = .ok (.aload_n 0, 1) := by decide +kernel
theorem dX10_opens_203 : decode cX10_opens 203 = .ok (.getfield 87, 3) := by decide +kernel
theorem dX10_opens_206 : decode cX10_opens 206 = .ok (.iload_n 1, 1) := by decide +kernel
theorem dX10_opens_207 : decode cX10_opens 207 = .ok (.iaload, 1) := by decide +kernel
theorem dX10_opens_208 : decode cX10_opens 208 = .ok (.iconst 1, 1) := by decide +kernel
theorem dX10_opens_209 : decode cX10_opens 209 = .ok (.iadd, 1) := by decide +kernel
theorem dX10_opens_210 : decode cX10_opens 210 = .ok (.iload 4, 2) := by decide +kernel
theorem dX10_opens_212 : decode cX10_opens 212 = .ok (.iadd, 1) := by decide +kernel
theorem dX10_opens_213 : decode cX10_opens 213 = .ok (.aload_n 0, 1) := by decide +kernel
theorem dX10_opens_214 : decode cX10_opens 214 = .ok (.getfield 136, 3) := by decide +kernel
theorem dX10_opens_217 : decode cX10_opens 217 = .ok (.irem, 1) := by decide +kernel
theorem dX10_opens_218 : decode cX10_opens 218 = .ok (.istore 5, 2) := by decide +kernel
theorem dX10_opens_220 : decode cX10_opens 220 = .ok (.aload_n 2, 1) := by decide +kernel
theorem dX10_opens_221 : decode cX10_opens 221 = .ok (.iload 5, 2) := by decide +kernel
theorem dX10_opens_223 : decode cX10_opens 223 = .ok (.baload, 1) := by decide +kernel
theorem dX10_opens_224 : decode cX10_opens 224 = .ok (.ifCond .eq 11, 3) := by decide +kernel
theorem dX10_opens_227 : decode cX10_opens 227 = .ok (.aload_n 0, 1) := by decide +kernel
theorem dX10_opens_228 : decode cX10_opens 228 = .ok (.getfield 84, 3) := by decide +kernel
theorem dX10_opens_231 : decode cX10_opens 231 = .ok (.iload_n 1, 1) := by decide +kernel
theorem dX10_opens_232 : decode cX10_opens 232 = .ok (.iload 5, 2) := by decide +kernel
theorem dX10_opens_234 : decode cX10_opens 234 = .ok (.iastore, 1) := by decide +kernel
theorem dX10_opens_235 : decode cX10_opens 235 = .ok (.iinc 4 1, 3) := by decide +kernel
theorem dX10_opens_238 : decode cX10_opens 238 = .ok (.goto (-55), 3) := by decide +kernel
theorem dX10_opens_241 : decode cX10_opens 241 = .ok (.aload_n 0, 1) := by decide +kernel
theorem dX10_opens_242 : decode cX10_opens 242 = .ok (.getfield 84, 3) := by decide +kernel
theorem dX10_opens_245 : decode cX10_opens 245 = .ok (.iload_n 1, 1) := by decide +kernel
theorem dX10_opens_246 : decode cX10_opens 246 = .ok (.iaload, 1) := by decide +kernel
theorem dX10_opens_247 : decode cX10_opens 247 = .ok (.iconst (-1), 1) := by decide +kernel
theorem dX10_opens_248 : decode cX10_opens 248 = .ok (.if_icmp .eq 31, 3) := by decide +kernel
theorem dX10_opens_251 : decode cX10_opens 251 = .ok (.aload_n 0, 1) := by decide +kernel
theorem dX10_opens_252 : decode cX10_opens 252 = .ok (.getfield 66, 3) := by decide +kernel
theorem dX10_opens_255 : decode cX10_opens 255 = .ok (.iload_n 1, 1) := by decide +kernel
theorem dX10_opens_256 : decode cX10_opens 256 = .ok (.aload_n 0, 1) := by decide +kernel
theorem dX10_opens_257 : decode cX10_opens 257 = .ok (.getfield 84, 3) := by decide +kernel
theorem dX10_opens_260 : decode cX10_opens 260 = .ok (.iload_n 1, 1) := by decide +kernel
theorem dX10_opens_261 : decode cX10_opens 261 = .ok (.iaload, 1) := by decide +kernel
theorem dX10_opens_262 : decode cX10_opens 262 = .ok (.invokestatic 151, 3) := by decide +kernel
theorem dX10_opens_265 : decode cX10_opens 265 = .ok (.iconst 1, 1) := by decide +kernel
theorem dX10_opens_266 : decode cX10_opens 266 = .ok (.bastore, 1) := by decide +kernel
theorem dX10_opens_267 : decode cX10_opens 267 = .ok (.aload_n 0, 1) := by decide +kernel
theorem dX10_opens_268 : decode cX10_opens 268 = .ok (.getfield 87, 3) := by decide +kernel
theorem dX10_opens_271 : decode cX10_opens 271 = .ok (.iload_n 1, 1) := by decide +kernel
theorem dX10_opens_272 : decode cX10_opens 272 = .ok (.aload_n 0, 1) := by decide +kernel
theorem dX10_opens_273 : decode cX10_opens 273 = .ok (.getfield 84, 3) := by decide +kernel
theorem dX10_opens_276 : decode cX10_opens 276 = .ok (.iload_n 1, 1) := by decide +kernel
theorem dX10_opens_277 : decode cX10_opens 277 = .ok (.iaload, 1) := by decide +kernel
theorem dX10_opens_278 : decode cX10_opens 278 = .ok (.iastore, 1) := by decide +kernel
theorem dX10_opens_279 : decode cX10_opens 279 = .ok (.iconst 0, 1) := by decide +kernel
theorem dX10_opens_280 : decode cX10_opens 280 = .ok (.istore 4, 2) := by decide +kernel
theorem dX10_opens_282 : decode cX10_opens 282 = .ok (.iload 4, 2) := by decide +kernel
theorem dX10_opens_284 : decode cX10_opens 284 = .ok (.aload_n 0, 1) := by decide +kernel
theorem dX10_opens_285 : decode cX10_opens 285 = .ok (.getfield 136, 3) := by decide +kernel
theorem dX10_opens_288 : decode cX10_opens 288 = .ok (.if_icmp .ge 33, 3) := by decide +kernel
theorem dX10_opens_291 : decode cX10_opens 291 = .ok (.aload_n 0, 1) := by decide +kernel
theorem dX10_opens_292 : decode cX10_opens 292 = .ok (.getfield 78, 3) := by decide +kernel
theorem dX10_opens_295 : decode cX10_opens 295 = .ok (.iload_n 1, 1) := by decide +kernel
theorem dX10_opens_296 : decode cX10_opens 296 = .ok (.iload 4, 2) := by decide +kernel
theorem dX10_opens_298 : decode cX10_opens 298 = .ok (.invokestatic 151, 3) := by decide +kernel
theorem dX10_opens_301 : decode cX10_opens 301 = .ok (.iconst 0, 1) := by decide +kernel
theorem dX10_opens_302 : decode cX10_opens 302 = .ok (.iastore, 1) := by decide +kernel
theorem dX10_opens_303 : decode cX10_opens 303 = .ok (.aload_n 0, 1) := by decide +kernel
theorem dX10_opens_304 : decode cX10_opens 304 = .ok (.getfield 81, 3) := by decide +kernel
theorem dX10_opens_307 : decode cX10_opens 307 = .ok (.iload_n 1, 1) := by decide +kernel
theorem dX10_opens_308 : decode cX10_opens 308 = .ok (.iload 4, 2) := by decide +kernel
theorem dX10_opens_310 : decode cX10_opens 310 = .ok (.invokestatic 151, 3) := by decide +kernel
theorem dX10_opens_313 : decode cX10_opens 313 = .ok (.iconst 0, 1) := by decide +kernel
theorem dX10_opens_314 : decode cX10_opens 314 = .ok (.iastore, 1) := by decide +kernel
theorem dX10_opens_315 : decode cX10_opens 315 = .ok (.iinc 4 1, 3) := by decide +kernel
theorem dX10_opens_318 : decode cX10_opens 318 = .ok (.goto (-36), 3) := by decide +kernel
theorem dX10_opens_321 : decode cX10_opens 321 = .ok (.return_, 1) := by decide +kernel
set_option maxRecDepth 20000 in
theorem ggX10_isGiver_X10_isNear : GoodIn wsX10_isGiver wsX10_isNear := goodIn_r _ [7, 8, 9, 10, 11, 12, 6, 13, 14, 15, 16, 17, 18, 19, 20, 21, 22, 23, 24, 25, 26, 27, 28, 29, 30, 31, 32, 33, 34, 35, 36, 37, 38, 39, 40, 41, 42, 43, 44, 45, 46, 47, 48, 49, 50, 51, 52, 53, 54, 55, 56, 57, 58] (by decide +kernel) (by decide +kernel)
set_option maxRecDepth 20000 in
theorem gX10_isGiver_X10_isNear : GoodIn wsX10_isGiver (wsV RX10 154 RX10 yX10_isNear wsX10_isNear) := goodIn_app (goodIn_of _ (by decide +kernel)) ggX10_isGiver_X10_isNear
set_option maxRecDepth 20000 in
theorem ggX10_isGiver_X10_two : GoodIn wsX10_isGiver wsX10_two := goodIn_r _ [13] (by decide +kernel) (by decide +kernel)
set_option maxRecDepth 20000 in
theorem gX10_isGiver_X10_two : GoodIn wsX10_isGiver (va_wsS RX10 151 yX10_two wsX10_two) := goodIn_app (goodIn_of _ (by decide +kernel)) ggX10_isGiver_X10_two
theorem dX10_isGiver_0 : decode cX10_isGiver 0 = .ok (.iload_n 1, 1) := by decide +kernel
theorem dX10_isGiver_1 : decode cX10_isGiver 1 = .ok (.iload_n 2, 1) := by decide +kernel
theorem dX10_isGiver_2 : decode cX10_isGiver 2 = .ok (.if_icmp .eq 38, 3) := by decide +kernel
theorem dX10_isGiver_5 : decode cX10_isGiver 5 = .ok (.aload_n 0, 1) := by decide +kernel
theorem dX10_isGiver_6 : decode cX10_isGiver 6 = .ok (.iload_n 1, 1) := by decide +kernel
theorem dX10_isGiver_7 : decode cX10_isGiver 7 = .ok (.iload_n 2, 1) := by decide +kernel
theorem dX10_isGiver_8 : decode cX10_isGiver 8 = .ok (.invokevirtual 154, 3) := by decide +kernel
theorem dX10_isGiver_11 : decode cX10_isGiver 11 = .ok (.ifCond .eq 29, 3) := by decide +kernel
theorem dX10_isGiver_14 : decode cX10_isGiver 14 = .ok (.aload_n 0, 1) := by decide +kernel
theorem dX10_isGiver_15 : decode cX10_isGiver 15 = .ok (.getfield 66, 3) := by decide +kernel
theorem dX10_isGiver_18 : decode cX10_isGiver 18 = .ok (.iload_n 1, 1) := by decide +kernel
theorem dX10_isGiver_19 : decode cX10_isGiver 19 = .ok (.iload_n 2, 1) := by decide +kernel
theorem dX10_isGiver_20 : decode cX10_isGiver 20 = .ok (.invokestatic 151, 3) := by decide +kernel
theorem dX10_isGiver_23 : decode cX10_isGiver 23 = .ok (.baload, 1) := by decide +kernel
theorem dX10_isGiver_24 : decode cX10_isGiver 24 = .ok (.ifCond .eq 16, 3) := by decide +kernel
theorem dX10_isGiver_27 : decode cX10_isGiver 27 = .ok (.aload_n 0, 1) := by decide +kernel
theorem dX10_isGiver_28 : decode cX10_isGiver 28 = .ok (.getfield 114, 3) := by decide +kernel
theorem dX10_isGiver_31 : decode cX10_isGiver 31 = .ok (.iload_n 1, 1) := by decide +kernel
theorem dX10_isGiver_32 : decode cX10_isGiver 32 = .ok (.iaload, 1) := by decide +kernel
theorem dX10_isGiver_33 : decode cX10_isGiver 33 = .ok (.ifCond .le 7, 3) := by decide +kernel
theorem dX10_isGiver_36 : decode cX10_isGiver 36 = .ok (.iconst 1, 1) := by decide +kernel
theorem dX10_isGiver_37 : decode cX10_isGiver 37 = .ok (.goto 4, 3) := by decide +kernel
theorem dX10_isGiver_40 : decode cX10_isGiver 40 = .ok (.iconst 0, 1) := by decide +kernel
theorem dX10_isGiver_41 : decode cX10_isGiver 41 = .ok (.ireturn, 1) := by decide +kernel
set_option maxRecDepth 20000 in
theorem ggX10_bound_X10_cell : GoodIn wsX10_bound wsX10_cell := goodIn_r _ [12] (by decide +kernel) (by decide +kernel)
set_option maxRecDepth 20000 in
theorem gX10_bound_X10_cell : GoodIn wsX10_bound (va_wsS RX10 163 yX10_cell wsX10_cell) := goodIn_app (goodIn_of _ (by decide +kernel)) ggX10_bound_X10_cell
theorem dX10_bound_0 : decode cX10_bound 0 = .ok (.aload_n 0, 1) := by decide +kernel
theorem dX10_bound_1 : decode cX10_bound 1 = .ok (.getfield 51, 3) := by decide +kernel
theorem dX10_bound_4 : decode cX10_bound 4 = .ok (.bipush 24, 2) := by decide +kernel
theorem dX10_bound_6 : decode cX10_bound 6 = .ok (.iload_n 1, 1) := by decide +kernel
theorem dX10_bound_7 : decode cX10_bound 7 = .ok (.imul, 1) := by decide +kernel
theorem dX10_bound_8 : decode cX10_bound 8 = .ok (.iload_n 2, 1) := by decide +kernel
theorem dX10_bound_9 : decode cX10_bound 9 = .ok (.iadd, 1) := by decide +kernel
theorem dX10_bound_10 : decode cX10_bound 10 = .ok (.baload, 1) := by decide +kernel
theorem dX10_bound_11 : decode cX10_bound 11 = .ok (.ifCond .ne 5, 3) := by decide +kernel
theorem dX10_bound_14 : decode cX10_bound 14 = .ok (.iconst (-1), 1) := by decide +kernel
theorem dX10_bound_15 : decode cX10_bound 15 = .ok (.ireturn, 1) := by decide +kernel
theorem dX10_bound_16 : decode cX10_bound 16 = .ok (.iconst 0, 1) := by decide +kernel
theorem dX10_bound_17 : decode cX10_bound 17 = .ok (.istore 4, 2) := by decide +kernel
theorem dX10_bound_19 : decode cX10_bound 19 = .ok (.iload 4, 2) := by decide +kernel
theorem dX10_bound_21 : decode cX10_bound 21 = .ok (.aload_n 0, 1) := by decide +kernel
theorem dX10_bound_22 : decode cX10_bound 22 = .ok (.getfield 13, 3) := by decide +kernel
theorem dX10_bound_25 : decode cX10_bound 25 = .ok (.if_icmp .ge 37, 3) := by decide +kernel
theorem dX10_bound_28 : decode cX10_bound 28 = .ok (.aload_n 0, 1) := by decide +kernel
theorem dX10_bound_29 : decode cX10_bound 29 = .ok (.getfield 54, 3) := by decide +kernel
theorem dX10_bound_32 : decode cX10_bound 32 = .ok (.iload_n 1, 1) := by decide +kernel
theorem dX10_bound_33 : decode cX10_bound 33 = .ok (.iload_n 2, 1) := by decide +kernel
theorem dX10_bound_34 : decode cX10_bound 34 = .ok (.iload 4, 2) := by decide +kernel
theorem dX10_bound_36 : decode cX10_bound 36 = .ok (.invokestatic 163, 3) := by decide +kernel
theorem dX10_bound_39 : decode cX10_bound 39 = .ok (.baload, 1) := by decide +kernel
theorem dX10_bound_40 : decode cX10_bound 40 = .ok (.ifCond .eq 16, 3) := by decide +kernel
theorem dX10_bound_43 : decode cX10_bound 43 = .ok (.aload_n 0, 1) := by decide +kernel
theorem dX10_bound_44 : decode cX10_bound 44 = .ok (.getfield 60, 3) := by decide +kernel
theorem dX10_bound_47 : decode cX10_bound 47 = .ok (.iload_n 1, 1) := by decide +kernel
theorem dX10_bound_48 : decode cX10_bound 48 = .ok (.iload_n 2, 1) := by decide +kernel
theorem dX10_bound_49 : decode cX10_bound 49 = .ok (.iload 4, 2) := by decide +kernel
theorem dX10_bound_51 : decode cX10_bound 51 = .ok (.invokestatic 163, 3) := by decide +kernel
theorem dX10_bound_54 : decode cX10_bound 54 = .ok (.iaload, 1) := by decide +kernel
theorem dX10_bound_55 : decode cX10_bound 55 = .ok (.ireturn, 1) := by decide +kernel
theorem dX10_bound_56 : decode cX10_bound 56 = .ok (.iinc 4 1, 3) := by decide +kernel
theorem dX10_bound_59 : decode cX10_bound 59 = .ok (.goto (-40), 3) := by decide +kernel
theorem dX10_bound_62 : decode cX10_bound 62 = .ok (.iconst 0, 1) := by decide +kernel
theorem dX10_bound_63 : decode cX10_bound 63 = .ok (.istore 4, 2) := by decide +kernel
theorem dX10_bound_65 : decode cX10_bound 65 = .ok (.iload 4, 2) := by decide +kernel
theorem dX10_bound_67 : decode cX10_bound 67 = .ok (.aload_n 0, 1) := by decide +kernel
theorem dX10_bound_68 : decode cX10_bound 68 = .ok (.getfield 170, 3) := by decide +kernel
theorem dX10_bound_71 : decode cX10_bound 71 = .ok (.if_icmp .ge 39, 3) := by decide +kernel
theorem dX10_bound_74 : decode cX10_bound 74 = .ok (.aload_n 0, 1) := by decide +kernel
theorem dX10_bound_75 : decode cX10_bound 75 = .ok (.getfield 90, 3) := by decide +kernel
theorem dX10_bound_78 : decode cX10_bound 78 = .ok (.iload 4, 2) := by decide +kernel
theorem dX10_bound_80 : decode cX10_bound 80 = .ok (.iaload, 1) := by decide +kernel
theorem dX10_bound_81 : decode cX10_bound 81 = .ok (.iload_n 1, 1) := by decide +kernel
theorem dX10_bound_82 : decode cX10_bound 82 = .ok (.if_icmp .ne 22, 3) := by decide +kernel
theorem dX10_bound_85 : decode cX10_bound 85 = .ok (.aload_n 0, 1) := by decide +kernel
theorem dX10_bound_86 : decode cX10_bound 86 = .ok (.getfield 96, 3) := by decide +kernel
theorem dX10_bound_89 : decode cX10_bound 89 = .ok (.iload 4, 2) := by decide +kernel
theorem dX10_bound_91 : decode cX10_bound 91 = .ok (.iaload, 1) := by decide +kernel
theorem dX10_bound_92 : decode cX10_bound 92 = .ok (.iload_n 2, 1) := by decide +kernel
theorem dX10_bound_93 : decode cX10_bound 93 = .ok (.if_icmp .ne 11, 3) := by decide +kernel
theorem dX10_bound_96 : decode cX10_bound 96 = .ok (.aload_n 0, 1) := by decide +kernel
theorem dX10_bound_97 : decode cX10_bound 97 = .ok (.getfield 93, 3) := by decide +kernel
theorem dX10_bound_100 : decode cX10_bound 100 = .ok (.iload 4, 2) := by decide +kernel
theorem dX10_bound_102 : decode cX10_bound 102 = .ok (.iaload, 1) := by decide +kernel
theorem dX10_bound_103 : decode cX10_bound 103 = .ok (.ireturn, 1) := by decide +kernel
theorem dX10_bound_104 : decode cX10_bound 104 = .ok (.iinc 4 1, 3) := by decide +kernel
theorem dX10_bound_107 : decode cX10_bound 107 = .ok (.goto (-42), 3) := by decide +kernel
theorem dX10_bound_110 : decode cX10_bound 110 = .ok (.iconst (-1), 1) := by decide +kernel
theorem dX10_bound_111 : decode cX10_bound 111 = .ok (.ireturn, 1) := by decide +kernel
set_option maxRecDepth 20000 in
theorem ggX10_giver_X10_isGiver : GoodIn wsX10_giver wsX10_isGiver := goodIn_r _ [7, 8, 2, 9, 10, 11, 6, 12, 13, 14, 15, 16, 17, 18, 25, 26, 27, 28, 29, 30, 31, 32, 33, 34, 35, 36, 37, 38, 39, 40, 41, 42, 43, 44, 45, 46, 47, 48, 49, 50, 51, 52, 53, 54, 55, 56, 57, 58, 59, 60, 61, 62, 63, 64, 65, 66, 67, 68, 69] (by decide +kernel) (by decide +kernel)
set_option maxRecDepth 20000 in
theorem gX10_giver_X10_isGiver : GoodIn wsX10_giver (wsV RX10 215 RX10 yX10_isGiver wsX10_isGiver) := goodIn_app (goodIn_of _ (by decide +kernel)) ggX10_giver_X10_isGiver
set_option maxRecDepth 20000 in
theorem ggX10_giver_X10_tells : GoodIn wsX10_giver wsX10_tells := goodIn_r _ [22, 23, 24, 25, 26, 27, 28, 29, 30, 31, 32, 33, 34, 35, 36, 37, 38, 39, 40, 41, 42, 43, 44, 45, 46, 47, 48, 49, 50, 51, 52, 53, 54, 55, 56, 57, 58, 59, 60, 61, 62, 63, 64, 65, 66, 67, 68, 69] (by decide +kernel) (by decide +kernel)
set_option maxRecDepth 20000 in
theorem gX10_giver_X10_tells : GoodIn wsX10_giver (wsV RX10 157 RX10 yX10_tells wsX10_tells) := goodIn_app (goodIn_of _ (by decide +kernel)) ggX10_giver_X10_tells
theorem dX10_giver_0 : decode cX10_giver 0 = .ok (.iconst (-1), 1) := by decide +kernel
theorem dX10_giver_1 : decode cX10_giver 1 = .ok (.istore 5, 2) := by decide +kernel
theorem dX10_giver_3 : decode cX10_giver 3 = .ok (.iconst 0, 1) := by decide +kernel
theorem dX10_giver_4 : decode cX10_giver 4 = .ok (.istore 6, 2) := by decide +kernel
theorem dX10_giver_6 : decode cX10_giver 6 = .ok (.iload 6, 2) := by decide +kernel
theorem dX10_giver_8 : decode cX10_giver 8 = .ok (.aload_n 0, 1) := by decide +kernel
theorem dX10_giver_9 : decode cX10_giver 9 = .ok (.getfield 136, 3) := by decide +kernel
theorem dX10_giver_12 : decode cX10_giver 12 = .ok (.if_icmp .ge 77, 3) := by decide +kernel
theorem dX10_giver_15 : decode cX10_giver 15 = .ok (.aload_n 0, 1) := by decide +kernel
theorem dX10_giver_16 : decode cX10_giver 16 = .ok (.iload 6, 2) := by decide +kernel
theorem dX10_giver_18 : decode cX10_giver 18 = .ok (.iload_n 1, 1) := by decide +kernel
theorem dX10_giver_19 : decode cX10_giver 19 = .ok (.invokevirtual 215, 3) := by decide +kernel
theorem dX10_giver_22 : decode cX10_giver 22 = .ok (.ifCond .eq 61, 3) := by decide +kernel
theorem dX10_giver_25 : decode cX10_giver 25 = .ok (.aload_n 0, 1) := by decide +kernel
theorem dX10_giver_26 : decode cX10_giver 26 = .ok (.iload 6, 2) := by decide +kernel
theorem dX10_giver_28 : decode cX10_giver 28 = .ok (.iload_n 2, 1) := by decide +kernel
theorem dX10_giver_29 : decode cX10_giver 29 = .ok (.invokevirtual 157, 3) := by decide +kernel
theorem dX10_giver_32 : decode cX10_giver 32 = .ok (.ifCond .eq 51, 3) := by decide +kernel
theorem dX10_giver_35 : decode cX10_giver 35 = .ok (.iload_n 3, 1) := by decide +kernel
theorem dX10_giver_36 : decode cX10_giver 36 = .ok (.iconst (-1), 1) := by decide +kernel
theorem dX10_giver_37 : decode cX10_giver 37 = .ok (.if_icmp .eq 9, 3) := by decide +kernel
theorem dX10_giver_40 : decode cX10_giver 40 = .ok (.iload 6, 2) := by decide +kernel
theorem dX10_giver_42 : decode cX10_giver 42 = .ok (.iload_n 3, 1) := by decide +kernel
theorem dX10_giver_43 : decode cX10_giver 43 = .ok (.if_icmp .ne 40, 3) := by decide +kernel
theorem dX10_giver_46 : decode cX10_giver 46 = .ok (.iload 6, 2) := by decide +kernel
theorem dX10_giver_48 : decode cX10_giver 48 = .ok (.iload 4, 2) := by decide +kernel
theorem dX10_giver_50 : decode cX10_giver 50 = .ok (.if_icmp .ne 6, 3) := by decide +kernel
theorem dX10_giver_53 : decode cX10_giver 53 = .ok (.goto 30, 3) := by decide +kernel
theorem dX10_giver_56 : decode cX10_giver 56 = .ok (.iload 5, 2) := by decide +kernel
theorem dX10_giver_58 : decode cX10_giver 58 = .ok (.iconst (-1), 1) := by decide +kernel
theorem dX10_giver_59 : decode cX10_giver 59 = .ok (.if_icmp .eq 20, 3) := by decide +kernel
theorem dX10_giver_62 : decode cX10_giver 62 = .ok (.aload_n 0, 1) := by decide +kernel
theorem dX10_giver_63 : decode cX10_giver 63 = .ok (.getfield 114, 3) := by decide +kernel
theorem dX10_giver_66 : decode cX10_giver 66 = .ok (.iload 6, 2) := by decide +kernel
theorem dX10_giver_68 : decode cX10_giver 68 = .ok (.iaload, 1) := by decide +kernel
theorem dX10_giver_69 : decode cX10_giver 69 = .ok (.aload_n 0, 1) := by decide +kernel
theorem dX10_giver_70 : decode cX10_giver 70 = .ok (.getfield 114, 3) := by decide +kernel
theorem dX10_giver_73 : decode cX10_giver 73 = .ok (.iload 5, 2) := by decide +kernel
theorem dX10_giver_75 : decode cX10_giver 75 = .ok (.iaload, 1) := by decide +kernel
theorem dX10_giver_76 : decode cX10_giver 76 = .ok (.if_icmp .le 7, 3) := by decide +kernel
theorem dX10_giver_79 : decode cX10_giver 79 = .ok (.iload 6, 2) := by decide +kernel
theorem dX10_giver_81 : decode cX10_giver 81 = .ok (.istore 5, 2) := by decide +kernel
end
section
theorem dX10_giver_83 : decode cX10_giver 83 = .ok (.iinc 6 1, 3) := by decide +kernel
theorem dX10_giver_86 : decode cX10_giver 86 = .ok (.goto (-80), 3) := by decide +kernel
theorem dX10_giver_89 : decode cX10_giver 89 = .ok (.iload 5, 2) := by decide +kernel
theorem dX10_giver_91 : decode cX10_giver 91 = .ok (.ireturn, 1) := by decide +kernel
set_option maxRecDepth 20000 in
theorem ggX10_nextBlock_X10_cell : GoodIn wsX10_nextBlock wsX10_cell := goodIn_r _ [6] (by decide +kernel) (by decide +kernel)
set_option maxRecDepth 20000 in
theorem gX10_nextBlock_X10_cell : GoodIn wsX10_nextBlock (va_wsS RX10 163 yX10_cell wsX10_cell) := goodIn_app (goodIn_of _ (by decide +kernel)) ggX10_nextBlock_X10_cell
set_option maxRecDepth 20000 in
theorem ggX10_nextBlock_X10_coming : GoodIn wsX10_nextBlock wsX10_coming := goodIn_r _ [10, 11, 12, 13, 14, 15, 16, 17, 18, 19, 20, 21, 22, 23, 24, 25, 26, 27, 28, 29, 30, 31, 32, 33, 34, 35, 36, 37, 38, 39, 40, 41, 42, 43, 44, 45, 46, 47, 48, 49, 50, 51, 52, 53, 54, 55, 56, 57, 58, 59] (by decide +kernel) (by decide +kernel)
set_option maxRecDepth 20000 in
theorem gX10_nextBlock_X10_coming : GoodIn wsX10_nextBlock (wsV RX10 218 RX10 yX10_coming wsX10_coming) := goodIn_app (goodIn_of _ (by decide +kernel)) ggX10_nextBlock_X10_coming
theorem dX10_nextBlock_0 : decode cX10_nextBlock 0 = .ok (.iconst 0, 1) := by decide +kernel
theorem dX10_nextBlock_1 : decode cX10_nextBlock 1 = .ok (.istore_n 3, 1) := by decide +kernel
theorem dX10_nextBlock_2 : decode cX10_nextBlock 2 = .ok (.iload_n 3, 1) := by decide +kernel
theorem dX10_nextBlock_3 : decode cX10_nextBlock 3 = .ok (.aload_n 0, 1) := by decide +kernel
theorem dX10_nextBlock_4 : decode cX10_nextBlock 4 = .ok (.getfield 13, 3) := by decide +kernel
theorem dX10_nextBlock_7 : decode cX10_nextBlock 7 = .ok (.if_icmp .ge 35, 3) := by decide +kernel
theorem dX10_nextBlock_10 : decode cX10_nextBlock 10 = .ok (.aload_n 0, 1) := by decide +kernel
theorem dX10_nextBlock_11 : decode cX10_nextBlock 11 = .ok (.getfield 54, 3) := by decide +kernel
theorem dX10_nextBlock_14 : decode cX10_nextBlock 14 = .ok (.iload_n 1, 1) := by decide +kernel
theorem dX10_nextBlock_15 : decode cX10_nextBlock 15 = .ok (.iload_n 2, 1) := by decide +kernel
theorem dX10_nextBlock_16 : decode cX10_nextBlock 16 = .ok (.iload_n 3, 1) := by decide +kernel
theorem dX10_nextBlock_17 : decode cX10_nextBlock 17 = .ok (.invokestatic 163, 3) := by decide +kernel
theorem dX10_nextBlock_20 : decode cX10_nextBlock 20 = .ok (.baload, 1) := by decide +kernel
theorem dX10_nextBlock_21 : decode cX10_nextBlock 21 = .ok (.ifCond .ne 15, 3) := by decide +kernel
theorem dX10_nextBlock_24 : decode cX10_nextBlock 24 = .ok (.aload_n 0, 1) := by decide +kernel
theorem dX10_nextBlock_25 : decode cX10_nextBlock 25 = .ok (.iload_n 1, 1) := by decide +kernel
theorem dX10_nextBlock_26 : decode cX10_nextBlock 26 = .ok (.iload_n 2, 1) := by decide +kernel
theorem dX10_nextBlock_27 : decode cX10_nextBlock 27 = .ok (.iload_n 3, 1) := by decide +kernel
theorem dX10_nextBlock_28 : decode cX10_nextBlock 28 = .ok (.invokevirtual 218, 3) := by decide +kernel
theorem dX10_nextBlock_31 : decode cX10_nextBlock 31 = .ok (.ifCond .ne 5, 3) := by decide +kernel
theorem dX10_nextBlock_34 : decode cX10_nextBlock 34 = .ok (.iload_n 3, 1) := by decide +kernel
theorem dX10_nextBlock_35 : decode cX10_nextBlock 35 = .ok (.ireturn, 1) := by decide +kernel
theorem dX10_nextBlock_36 : decode cX10_nextBlock 36 = .ok (.iinc 3 1, 3) := by decide +kernel
theorem dX10_nextBlock_39 : decode cX10_nextBlock 39 = .ok (.goto (-37), 3) := by decide +kernel
theorem dX10_nextBlock_42 : decode cX10_nextBlock 42 = .ok (.iconst (-1), 1) := by decide +kernel
theorem dX10_nextBlock_43 : decode cX10_nextBlock 43 = .ok (.ireturn, 1) := by decide +kernel
set_option maxRecDepth 20000 in
theorem ggX10_isBegun_X10_heldMany : GoodIn wsX10_isBegun wsX10_heldMany := goodIn_r _ [6, 1, 7, 8, 9, 5, 10, 19, 20, 21, 22, 23, 24, 25, 26, 27, 28, 29, 30, 31, 32, 33, 34, 35, 36, 37, 38, 39, 40, 41, 42, 43, 44, 45, 46, 47, 48, 49, 50, 51, 52, 53, 54, 55, 56, 57, 58, 59, 60, 61, 62, 63] (by decide +kernel) (by decide +kernel)
set_option maxRecDepth 20000 in
theorem gX10_isBegun_X10_heldMany : GoodIn wsX10_isBegun (wsV RX10 193 RX10 yX10_heldMany wsX10_heldMany) := goodIn_app (goodIn_of _ (by decide +kernel)) ggX10_isBegun_X10_heldMany
set_option maxRecDepth 20000 in
theorem ggX10_isBegun_X10_coming : GoodIn wsX10_isBegun wsX10_coming := goodIn_r _ [14, 15, 16, 17, 18, 19, 20, 21, 22, 23, 24, 25, 26, 27, 28, 29, 30, 31, 32, 33, 34, 35, 36, 37, 38, 39, 40, 41, 42, 43, 44, 45, 46, 47, 48, 49, 50, 51, 52, 53, 54, 55, 56, 57, 58, 59, 60, 61, 62, 63] (by decide +kernel) (by decide +kernel)
set_option maxRecDepth 20000 in
theorem gX10_isBegun_X10_coming : GoodIn wsX10_isBegun (wsV RX10 218 RX10 yX10_coming wsX10_coming) := goodIn_app (goodIn_of _ (by decide +kernel)) ggX10_isBegun_X10_coming
theorem dX10_isBegun_0 : decode cX10_isBegun 0 = .ok (.aload_n 0, 1) := by decide +kernel
theorem dX10_isBegun_1 : decode cX10_isBegun 1 = .ok (.iload_n 1, 1) := by decide +kernel
theorem dX10_isBegun_2 : decode cX10_isBegun 2 = .ok (.iload_n 2, 1) := by decide +kernel
theorem dX10_isBegun_3 : decode cX10_isBegun 3 = .ok (.invokevirtual 193, 3) := by decide +kernel
theorem dX10_isBegun_6 : decode cX10_isBegun 6 = .ok (.ifCond .le 7, 3) := by decide +kernel
theorem dX10_isBegun_9 : decode cX10_isBegun 9 = .ok (.iconst 1, 1) := by decide +kernel
theorem dX10_isBegun_10 : decode cX10_isBegun 10 = .ok (.goto 4, 3) := by decide +kernel
theorem dX10_isBegun_13 : decode cX10_isBegun 13 = .ok (.iconst 0, 1) := by decide +kernel
theorem dX10_isBegun_14 : decode cX10_isBegun 14 = .ok (.istore_n 3, 1) := by decide +kernel
theorem dX10_isBegun_15 : decode cX10_isBegun 15 = .ok (.iconst 0, 1) := by decide +kernel
theorem dX10_isBegun_16 : decode cX10_isBegun 16 = .ok (.istore 4, 2) := by decide +kernel
theorem dX10_isBegun_18 : decode cX10_isBegun 18 = .ok (.iload 4, 2) := by decide +kernel
theorem dX10_isBegun_20 : decode cX10_isBegun 20 = .ok (.aload_n 0, 1) := by decide +kernel
theorem dX10_isBegun_21 : decode cX10_isBegun 21 = .ok (.getfield 13, 3) := by decide +kernel
theorem dX10_isBegun_24 : decode cX10_isBegun 24 = .ok (.if_icmp .ge 30, 3) := by decide +kernel
theorem dX10_isBegun_27 : decode cX10_isBegun 27 = .ok (.iload_n 3, 1) := by decide +kernel
theorem dX10_isBegun_28 : decode cX10_isBegun 28 = .ok (.ifCond .ne 14, 3) := by decide +kernel
theorem dX10_isBegun_31 : decode cX10_isBegun 31 = .ok (.aload_n 0, 1) := by decide +kernel
theorem dX10_isBegun_32 : decode cX10_isBegun 32 = .ok (.iload_n 1, 1) := by decide +kernel
theorem dX10_isBegun_33 : decode cX10_isBegun 33 = .ok (.iload_n 2, 1) := by decide +kernel
theorem dX10_isBegun_34 : decode cX10_isBegun 34 = .ok (.iload 4, 2) := by decide +kernel
theorem dX10_isBegun_36 : decode cX10_isBegun 36 = .ok (.invokevirtual 218, 3) := by decide +kernel
theorem dX10_isBegun_39 : decode cX10_isBegun 39 = .ok (.ifCond .le 7, 3) := by decide +kernel
theorem dX10_isBegun_42 : decode cX10_isBegun 42 = .ok (.iconst 1, 1) := by decide +kernel
theorem dX10_isBegun_43 : decode cX10_isBegun 43 = .ok (.goto 4, 3) := by decide +kernel
theorem dX10_isBegun_46 : decode cX10_isBegun 46 = .ok (.iconst 0, 1) := by decide +kernel
theorem dX10_isBegun_47 : decode cX10_isBegun 47 = .ok (.istore_n 3, 1) := by decide +kernel
theorem dX10_isBegun_48 : decode cX10_isBegun 48 = .ok (.iinc 4 1, 3) := by decide +kernel
theorem dX10_isBegun_51 : decode cX10_isBegun 51 = .ok (.goto (-33), 3) := by decide +kernel
theorem dX10_isBegun_54 : decode cX10_isBegun 54 = .ok (.iload_n 3, 1) := by decide +kernel
theorem dX10_isBegun_55 : decode cX10_isBegun 55 = .ok (.ireturn, 1) := by decide +kernel
set_option maxRecDepth 20000 in
theorem ggX10_tellers_X10_isNear : GoodIn wsX10_tellers wsX10_isNear := goodIn_r _ [6, 7, 8, 9, 10, 11, 5, 12, 19, 20, 21, 22, 23, 24, 25, 26, 27, 28, 29, 30, 31, 32, 33, 34, 35, 36, 37, 38, 39, 40, 41, 42, 43, 44, 45, 46, 47, 48, 49, 50, 51, 52, 53, 54, 55, 56, 57, 58, 59, 60, 61, 62, 63] (by decide +kernel) (by decide +kernel)
set_option maxRecDepth 20000 in
theorem gX10_tellers_X10_isNear : GoodIn wsX10_tellers (wsV RX10 154 RX10 yX10_isNear wsX10_isNear) := goodIn_app (goodIn_of _ (by decide +kernel)) ggX10_tellers_X10_isNear
set_option maxRecDepth 20000 in
theorem ggX10_tellers_X10_tells : GoodIn wsX10_tellers wsX10_tells := goodIn_r _ [16, 17, 18, 19, 20, 21, 22, 23, 24, 25, 26, 27, 28, 29, 30, 31, 32, 33, 34, 35, 36, 37, 38, 39, 40, 41, 42, 43, 44, 45, 46, 47, 48, 49, 50, 51, 52, 53, 54, 55, 56, 57, 58, 59, 60, 61, 62, 63] (by decide +kernel) (by decide +kernel)
set_option maxRecDepth 20000 in
theorem gX10_tellers_X10_tells : GoodIn wsX10_tellers (wsV RX10 157 RX10 yX10_tells wsX10_tells) := goodIn_app (goodIn_of _ (by decide +kernel)) ggX10_tellers_X10_tells
theorem dX10_tellers_0 : decode cX10_tellers 0 = .ok (.iconst 0, 1) := by decide +kernel
theorem dX10_tellers_1 : decode cX10_tellers 1 = .ok (.istore_n 3, 1) := by decide +kernel
theorem dX10_tellers_2 : decode cX10_tellers 2 = .ok (.iconst 0, 1) := by decide +kernel
theorem dX10_tellers_3 : decode cX10_tellers 3 = .ok (.istore 4, 2) := by decide +kernel
theorem dX10_tellers_5 : decode cX10_tellers 5 = .ok (.iload 4, 2) := by decide +kernel
theorem dX10_tellers_7 : decode cX10_tellers 7 = .ok (.aload_n 0, 1) := by decide +kernel
theorem dX10_tellers_8 : decode cX10_tellers 8 = .ok (.getfield 136, 3) := by decide +kernel
theorem dX10_tellers_11 : decode cX10_tellers 11 = .ok (.if_icmp .ge 43, 3) := by decide +kernel
theorem dX10_tellers_14 : decode cX10_tellers 14 = .ok (.iload_n 3, 1) := by decide +kernel
theorem dX10_tellers_15 : decode cX10_tellers 15 = .ok (.iload 4, 2) := by decide +kernel
theorem dX10_tellers_17 : decode cX10_tellers 17 = .ok (.iload_n 1, 1) := by decide +kernel
theorem dX10_tellers_18 : decode cX10_tellers 18 = .ok (.if_icmp .eq 27, 3) := by decide +kernel
theorem dX10_tellers_21 : decode cX10_tellers 21 = .ok (.aload_n 0, 1) := by decide +kernel
theorem dX10_tellers_22 : decode cX10_tellers 22 = .ok (.iload 4, 2) := by decide +kernel
theorem dX10_tellers_24 : decode cX10_tellers 24 = .ok (.iload_n 1, 1) := by decide +kernel
theorem dX10_tellers_25 : decode cX10_tellers 25 = .ok (.invokevirtual 154, 3) := by decide +kernel
theorem dX10_tellers_28 : decode cX10_tellers 28 = .ok (.ifCond .eq 17, 3) := by decide +kernel
theorem dX10_tellers_31 : decode cX10_tellers 31 = .ok (.aload_n 0, 1) := by decide +kernel
theorem dX10_tellers_32 : decode cX10_tellers 32 = .ok (.iload 4, 2) := by decide +kernel
theorem dX10_tellers_34 : decode cX10_tellers 34 = .ok (.iload_n 2, 1) := by decide +kernel
theorem dX10_tellers_35 : decode cX10_tellers 35 = .ok (.invokevirtual 157, 3) := by decide +kernel
theorem dX10_tellers_38 : decode cX10_tellers 38 = .ok (.ifCond .eq 7, 3) := by decide +kernel
theorem dX10_tellers_41 : decode cX10_tellers 41 = .ok (.iconst 1, 1) := by decide +kernel
theorem dX10_tellers_42 : decode cX10_tellers 42 = .ok (.goto 4, 3) := by decide +kernel
theorem dX10_tellers_45 : decode cX10_tellers 45 = .ok (.iconst 0, 1) := by decide +kernel
theorem dX10_tellers_46 : decode cX10_tellers 46 = .ok (.iadd, 1) := by decide +kernel
theorem dX10_tellers_47 : decode cX10_tellers 47 = .ok (.istore_n 3, 1) := by decide +kernel
theorem dX10_tellers_48 : decode cX10_tellers 48 = .ok (.iinc 4 1, 3) := by decide +kernel
theorem dX10_tellers_51 : decode cX10_tellers 51 = .ok (.goto (-46), 3) := by decide +kernel
theorem dX10_tellers_54 : decode cX10_tellers 54 = .ok (.iload_n 3, 1) := by decide +kernel
theorem dX10_tellers_55 : decode cX10_tellers 55 = .ok (.ireturn, 1) := by decide +kernel
set_option maxRecDepth 20000 in
theorem ggX10_sends_X10_two : GoodIn wsX10_sends wsX10_two := goodIn_r _ [21] (by decide +kernel) (by decide +kernel)
set_option maxRecDepth 20000 in
theorem gX10_sends_X10_two : GoodIn wsX10_sends (va_wsS RX10 151 yX10_two wsX10_two) := goodIn_app (goodIn_of _ (by decide +kernel)) ggX10_sends_X10_two
set_option maxRecDepth 20000 in
theorem ggX10_sends_X10_valueOf : GoodIn wsX10_sends wsX10_valueOf := goodIn_r _ [25, 26, 27, 28, 29, 30, 31, 32, 33, 34, 35, 36, 37, 38, 39, 40, 41, 42, 43, 44, 45, 46, 47, 48, 49, 50, 51, 52, 53, 54, 55, 56, 57, 58, 59, 60, 61, 62, 63, 64, 65, 66, 67, 68, 69, 70, 71, 72] (by decide +kernel) (by decide +kernel)
set_option maxRecDepth 20000 in
theorem gX10_sends_X10_valueOf : GoodIn wsX10_sends (wsV RX10 128 RX10 yX10_valueOf wsX10_valueOf) := goodIn_app (goodIn_of _ (by decide +kernel)) ggX10_sends_X10_valueOf
theorem dX10_sends_0 : decode cX10_sends 0 = .ok (.aload_n 0, 1) := by decide +kernel
theorem dX10_sends_1 : decode cX10_sends 1 = .ok (.getfield 114, 3) := by decide +kernel
theorem dX10_sends_4 : decode cX10_sends 4 = .ok (.iload_n 1, 1) := by decide +kernel
theorem dX10_sends_5 : decode cX10_sends 5 = .ok (.dup2, 1) := by decide +kernel
theorem dX10_sends_6 : decode cX10_sends 6 = .ok (.iaload, 1) := by decide +kernel
theorem dX10_sends_7 : decode cX10_sends 7 = .ok (.iconst 1, 1) := by decide +kernel
theorem dX10_sends_8 : decode cX10_sends 8 = .ok (.isub, 1) := by decide +kernel
theorem dX10_sends_9 : decode cX10_sends 9 = .ok (.iastore, 1) := by decide +kernel
theorem dX10_sends_10 : decode cX10_sends 10 = .ok (.aload_n 0, 1) := by decide +kernel
theorem dX10_sends_11 : decode cX10_sends 11 = .ok (.getfield 117, 3) := by decide +kernel
theorem dX10_sends_14 : decode cX10_sends 14 = .ok (.iload_n 2, 1) := by decide +kernel
theorem dX10_sends_15 : decode cX10_sends 15 = .ok (.dup2, 1) := by decide +kernel
theorem dX10_sends_16 : decode cX10_sends 16 = .ok (.iaload, 1) := by decide +kernel
theorem dX10_sends_17 : decode cX10_sends 17 = .ok (.iconst 1, 1) := by decide +kernel
theorem dX10_sends_18 : decode cX10_sends 18 = .ok (.isub, 1) := by decide +kernel
theorem dX10_sends_19 : decode cX10_sends 19 = .ok (.iastore, 1) := by decide +kernel
theorem dX10_sends_20 : decode cX10_sends 20 = .ok (.aload_n 0, 1) := by decide +kernel
theorem dX10_sends_21 : decode cX10_sends 21 = .ok (.getfield 36, 3) := by decide +kernel
theorem dX10_sends_24 : decode cX10_sends 24 = .ok (.iload_n 1, 1) := by decide +kernel
theorem dX10_sends_25 : decode cX10_sends 25 = .ok (.dup2, 1) := by decide +kernel
theorem dX10_sends_26 : decode cX10_sends 26 = .ok (.iaload, 1) := by decide +kernel
theorem dX10_sends_27 : decode cX10_sends 27 = .ok (.iconst 1, 1) := by decide +kernel
theorem dX10_sends_28 : decode cX10_sends 28 = .ok (.iadd, 1) := by decide +kernel
theorem dX10_sends_29 : decode cX10_sends 29 = .ok (.iastore, 1) := by decide +kernel
theorem dX10_sends_30 : decode cX10_sends 30 = .ok (.aload_n 0, 1) := by decide +kernel
theorem dX10_sends_31 : decode cX10_sends 31 = .ok (.dup, 1) := by decide +kernel
theorem dX10_sends_32 : decode cX10_sends 32 = .ok (.getfield 221, 3) := by decide +kernel
theorem dX10_sends_35 : decode cX10_sends 35 = .ok (.iconst 1, 1) := by decide +kernel
theorem dX10_sends_36 : decode cX10_sends 36 = .ok (.iadd, 1) := by decide +kernel
theorem dX10_sends_37 : decode cX10_sends 37 = .ok (.putfield 221, 3) := by decide +kernel
theorem dX10_sends_40 : decode cX10_sends 40 = .ok (.aload_n 0, 1) := by decide +kernel
theorem dX10_sends_41 : decode cX10_sends 41 = .ok (.getfield 75, 3) := by decide +kernel
theorem dX10_sends_44 : decode cX10_sends 44 = .ok (.iload_n 1, 1) := by decide +kernel
theorem dX10_sends_45 : decode cX10_sends 45 = .ok (.iload_n 2, 1) := by decide +kernel
theorem dX10_sends_46 : decode cX10_sends 46 = .ok (.invokestatic 151, 3) := by decide +kernel
theorem dX10_sends_49 : decode cX10_sends 49 = .ok (.dup2, 1) := by decide +kernel
theorem dX10_sends_50 : decode cX10_sends 50 = .ok (.iaload, 1) := by decide +kernel
theorem dX10_sends_51 : decode cX10_sends 51 = .ok (.iconst 1, 1) := by decide +kernel
theorem dX10_sends_52 : decode cX10_sends 52 = .ok (.iadd, 1) := by decide +kernel
theorem dX10_sends_53 : decode cX10_sends 53 = .ok (.iastore, 1) := by decide +kernel
theorem dX10_sends_54 : decode cX10_sends 54 = .ok (.aload_n 0, 1) := by decide +kernel
theorem dX10_sends_55 : decode cX10_sends 55 = .ok (.getfield 78, 3) := by decide +kernel
theorem dX10_sends_58 : decode cX10_sends 58 = .ok (.iload_n 1, 1) := by decide +kernel
theorem dX10_sends_59 : decode cX10_sends 59 = .ok (.iload_n 2, 1) := by decide +kernel
theorem dX10_sends_60 : decode cX10_sends 60 = .ok (.invokestatic 151, 3) := by decide +kernel
theorem dX10_sends_63 : decode cX10_sends 63 = .ok (.dup2, 1) := by decide +kernel
theorem dX10_sends_64 : decode cX10_sends 64 = .ok (.iaload, 1) := by decide +kernel
theorem dX10_sends_65 : decode cX10_sends 65 = .ok (.iconst 1, 1) := by decide +kernel
theorem dX10_sends_66 : decode cX10_sends 66 = .ok (.iadd, 1) := by decide +kernel
theorem dX10_sends_67 : decode cX10_sends 67 = .ok (.iastore, 1) := by decide +kernel
theorem dX10_sends_68 : decode cX10_sends 68 = .ok (.aload_n 0, 1) := by decide +kernel
theorem dX10_sends_69 : decode cX10_sends 69 = .ok (.getfield 90, 3) := by decide +kernel
theorem dX10_sends_72 : decode cX10_sends 72 = .ok (.aload_n 0, 1) := by decide +kernel
theorem dX10_sends_73 : decode cX10_sends 73 = .ok (.getfield 170, 3) := by decide +kernel
theorem dX10_sends_76 : decode cX10_sends 76 = .ok (.iload_n 2, 1) := by decide +kernel
theorem dX10_sends_77 : decode cX10_sends 77 = .ok (.iastore, 1) := by decide +kernel
theorem dX10_sends_78 : decode cX10_sends 78 = .ok (.aload_n 0, 1) := by decide +kernel
theorem dX10_sends_79 : decode cX10_sends 79 = .ok (.getfield 93, 3) := by decide +kernel
theorem dX10_sends_82 : decode cX10_sends 82 = .ok (.aload_n 0, 1) := by decide +kernel
theorem dX10_sends_83 : decode cX10_sends 83 = .ok (.getfield 170, 3) := by decide +kernel
theorem dX10_sends_86 : decode cX10_sends 86 = .ok (.iload_n 1, 1) := by decide +kernel
theorem dX10_sends_87 : decode cX10_sends 87 = .ok (.iastore, 1) := by decide +kernel
theorem dX10_sends_88 : decode cX10_sends 88 = .ok (.aload_n 0, 1) := by decide +kernel
theorem dX10_sends_89 : decode cX10_sends 89 = .ok (.getfield 96, 3) := by decide +kernel
theorem dX10_sends_92 : decode cX10_sends 92 = .ok (.aload_n 0, 1) := by decide +kernel
theorem dX10_sends_93 : decode cX10_sends 93 = .ok (.getfield 170, 3) := by decide +kernel
theorem dX10_sends_96 : decode cX10_sends 96 = .ok (.iload_n 3, 1) := by decide +kernel
theorem dX10_sends_97 : decode cX10_sends 97 = .ok (.iastore, 1) := by decide +kernel
theorem dX10_sends_98 : decode cX10_sends 98 = .ok (.aload_n 0, 1) := by decide +kernel
theorem dX10_sends_99 : decode cX10_sends 99 = .ok (.getfield 99, 3) := by decide +kernel
theorem dX10_sends_102 : decode cX10_sends 102 = .ok (.aload_n 0, 1) := by decide +kernel
theorem dX10_sends_103 : decode cX10_sends 103 = .ok (.getfield 170, 3) := by decide +kernel
theorem dX10_sends_106 : decode cX10_sends 106 = .ok (.iload 4, 2) := by decide +kernel
theorem dX10_sends_108 : decode cX10_sends 108 = .ok (.iastore, 1) := by decide +kernel
theorem dX10_sends_109 : decode cX10_sends 109 = .ok (.aload_n 0, 1) := by decide +kernel
theorem dX10_sends_110 : decode cX10_sends 110 = .ok (.getfield 102, 3) := by decide +kernel
theorem dX10_sends_113 : decode cX10_sends 113 = .ok (.aload_n 0, 1) := by decide +kernel
theorem dX10_sends_114 : decode cX10_sends 114 = .ok (.getfield 170, 3) := by decide +kernel
end
section
theorem dX10_sends_117 : decode cX10_sends 117 = .ok (.aload_n 0, 1) := by decide +kernel
theorem dX10_sends_118 : decode cX10_sends 118 = .ok (.iload_n 3, 1) := by decide +kernel
theorem dX10_sends_119 : decode cX10_sends 119 = .ok (.iload 4, 2) := by decide +kernel
theorem dX10_sends_121 : decode cX10_sends 121 = .ok (.invokevirtual 128, 3) := by decide +kernel
theorem dX10_sends_124 : decode cX10_sends 124 = .ok (.aload_n 0, 1) := by decide +kernel
theorem dX10_sends_125 : decode cX10_sends 125 = .ok (.getfield 16, 3) := by decide +kernel
theorem dX10_sends_128 : decode cX10_sends 128 = .ok (.iload_n 1, 1) := by decide +kernel
theorem dX10_sends_129 : decode cX10_sends 129 = .ok (.iaload, 1) := by decide +kernel
theorem dX10_sends_130 : decode cX10_sends 130 = .ok (.iconst 3, 1) := by decide +kernel
theorem dX10_sends_131 : decode cX10_sends 131 = .ok (.if_icmp .ne 23, 3) := by decide +kernel
theorem dX10_sends_134 : decode cX10_sends 134 = .ok (.aload_n 0, 1) := by decide +kernel
theorem dX10_sends_135 : decode cX10_sends 135 = .ok (.getfield 36, 3) := by decide +kernel
theorem dX10_sends_138 : decode cX10_sends 138 = .ok (.iload_n 1, 1) := by decide +kernel
theorem dX10_sends_139 : decode cX10_sends 139 = .ok (.iaload, 1) := by decide +kernel
theorem dX10_sends_140 : decode cX10_sends 140 = .ok (.aload_n 0, 1) := by decide +kernel
theorem dX10_sends_141 : decode cX10_sends 141 = .ok (.getfield 30, 3) := by decide +kernel
theorem dX10_sends_144 : decode cX10_sends 144 = .ok (.iload_n 1, 1) := by decide +kernel
theorem dX10_sends_145 : decode cX10_sends 145 = .ok (.iaload, 1) := by decide +kernel
theorem dX10_sends_146 : decode cX10_sends 146 = .ok (.irem, 1) := by decide +kernel
theorem dX10_sends_147 : decode cX10_sends 147 = .ok (.ifCond .ne 7, 3) := by decide +kernel
theorem dX10_sends_150 : decode cX10_sends 150 = .ok (.iconst 1, 1) := by decide +kernel
theorem dX10_sends_151 : decode cX10_sends 151 = .ok (.goto 4, 3) := by decide +kernel
theorem dX10_sends_154 : decode cX10_sends 154 = .ok (.iconst 0, 1) := by decide +kernel
theorem dX10_sends_155 : decode cX10_sends 155 = .ok (.ixor, 1) := by decide +kernel
theorem dX10_sends_156 : decode cX10_sends 156 = .ok (.iastore, 1) := by decide +kernel
theorem dX10_sends_157 : decode cX10_sends 157 = .ok (.aload_n 0, 1) := by decide +kernel
theorem dX10_sends_158 : decode cX10_sends 158 = .ok (.getfield 105, 3) := by decide +kernel
theorem dX10_sends_161 : decode cX10_sends 161 = .ok (.aload_n 0, 1) := by decide +kernel
theorem dX10_sends_162 : decode cX10_sends 162 = .ok (.getfield 170, 3) := by decide +kernel
theorem dX10_sends_165 : decode cX10_sends 165 = .ok (.aload_n 0, 1) := by decide +kernel
theorem dX10_sends_166 : decode cX10_sends 166 = .ok (.getfield 16, 3) := by decide +kernel
theorem dX10_sends_169 : decode cX10_sends 169 = .ok (.iload_n 1, 1) := by decide +kernel
theorem dX10_sends_170 : decode cX10_sends 170 = .ok (.iaload, 1) := by decide +kernel
theorem dX10_sends_171 : decode cX10_sends 171 = .ok (.iconst 4, 1) := by decide +kernel
theorem dX10_sends_172 : decode cX10_sends 172 = .ok (.if_icmp .ne 12, 3) := by decide +kernel
theorem dX10_sends_175 : decode cX10_sends 175 = .ok (.aload_n 0, 1) := by decide +kernel
theorem dX10_sends_176 : decode cX10_sends 176 = .ok (.getfield 202, 3) := by decide +kernel
theorem dX10_sends_179 : decode cX10_sends 179 = .ok (.iconst 2, 1) := by decide +kernel
theorem dX10_sends_180 : decode cX10_sends 180 = .ok (.iadd, 1) := by decide +kernel
theorem dX10_sends_181 : decode cX10_sends 181 = .ok (.goto 7, 3) := by decide +kernel
theorem dX10_sends_184 : decode cX10_sends 184 = .ok (.aload_n 0, 1) := by decide +kernel
theorem dX10_sends_185 : decode cX10_sends 185 = .ok (.getfield 202, 3) := by decide +kernel
theorem dX10_sends_188 : decode cX10_sends 188 = .ok (.iastore, 1) := by decide +kernel
theorem dX10_sends_189 : decode cX10_sends 189 = .ok (.aload_n 0, 1) := by decide +kernel
theorem dX10_sends_190 : decode cX10_sends 190 = .ok (.getfield 108, 3) := by decide +kernel
theorem dX10_sends_193 : decode cX10_sends 193 = .ok (.aload_n 0, 1) := by decide +kernel
theorem dX10_sends_194 : decode cX10_sends 194 = .ok (.getfield 170, 3) := by decide +kernel
theorem dX10_sends_197 : decode cX10_sends 197 = .ok (.aload_n 0, 1) := by decide +kernel
theorem dX10_sends_198 : decode cX10_sends 198 = .ok (.getfield 16, 3) := by decide +kernel
theorem dX10_sends_201 : decode cX10_sends 201 = .ok (.iload_n 1, 1) := by decide +kernel
theorem dX10_sends_202 : decode cX10_sends 202 = .ok (.iaload, 1) := by decide +kernel
theorem dX10_sends_203 : decode cX10_sends 203 = .ok (.iconst 4, 1) := by decide +kernel
theorem dX10_sends_204 : decode cX10_sends 204 = .ok (.if_icmp .eq 7, 3) := by decide +kernel
theorem dX10_sends_207 : decode cX10_sends 207 = .ok (.iconst 1, 1) := by decide +kernel
theorem dX10_sends_208 : decode cX10_sends 208 = .ok (.goto 4, 3) := by decide +kernel
theorem dX10_sends_211 : decode cX10_sends 211 = .ok (.iconst 0, 1) := by decide +kernel
theorem dX10_sends_212 : decode cX10_sends 212 = .ok (.bastore, 1) := by decide +kernel
theorem dX10_sends_213 : decode cX10_sends 213 = .ok (.aload_n 0, 1) := by decide +kernel
theorem dX10_sends_214 : decode cX10_sends 214 = .ok (.dup, 1) := by decide +kernel
theorem dX10_sends_215 : decode cX10_sends 215 = .ok (.getfield 170, 3) := by decide +kernel
theorem dX10_sends_218 : decode cX10_sends 218 = .ok (.iconst 1, 1) := by decide +kernel
theorem dX10_sends_219 : decode cX10_sends 219 = .ok (.iadd, 1) := by decide +kernel
theorem dX10_sends_220 : decode cX10_sends 220 = .ok (.putfield 170, 3) := by decide +kernel
theorem dX10_sends_223 : decode cX10_sends 223 = .ok (.return_, 1) := by decide +kernel
set_option maxRecDepth 20000 in
theorem ggX10_asks_X10_nextBlock : GoodIn wsX10_asks wsX10_nextBlock := goodIn_r _ [10, 3, 5, 11, 12, 9, 13, 14, 15, 16, 17, 18, 19, 20, 21, 90, 91, 92, 93, 94, 95, 96, 97, 98, 99, 100, 101, 102, 103, 104, 105, 106, 107, 108, 109, 110, 111, 112, 113, 114, 115, 116, 117, 118, 119, 120, 121, 122, 123, 124, 125, 126, 127, 128, 129, 130, 131, 132, 133, 134] (by decide +kernel) (by decide +kernel)
set_option maxRecDepth 20000 in
theorem gX10_asks_X10_nextBlock : GoodIn wsX10_asks (wsV RX10 224 RX10 yX10_nextBlock wsX10_nextBlock) := goodIn_app (goodIn_of _ (by decide +kernel)) ggX10_asks_X10_nextBlock
set_option maxRecDepth 20000 in
theorem ggX10_asks_X10_bound : GoodIn wsX10_asks wsX10_bound := goodIn_r _ [25, 4, 3, 5, 26, 18, 19, 20, 27, 11, 12, 9, 13, 90, 91, 92, 93, 94, 95, 96, 97, 98, 99, 100, 101, 102, 103, 104, 105, 106, 107, 108, 109, 110, 111, 112, 113, 114, 115, 116, 117, 118, 119, 120, 121, 122, 123, 124, 125, 126, 127, 128, 129, 130, 131, 132, 133, 134] (by decide +kernel) (by decide +kernel)
set_option maxRecDepth 20000 in
theorem gX10_asks_X10_bound : GoodIn wsX10_asks (wsV RX10 227 RX10 yX10_bound wsX10_bound) := goodIn_app (goodIn_of _ (by decide +kernel)) ggX10_asks_X10_bound
set_option maxRecDepth 20000 in
theorem ggX10_asks_X10_giver : GoodIn wsX10_asks wsX10_giver := goodIn_r _ [31, 32, 33, 34, 35, 36, 9, 37, 38, 39, 40, 41, 42, 43, 44, 45, 46, 47, 48, 49, 50, 51, 52, 2, 53, 90, 91, 92, 93, 94, 95, 96, 97, 98, 99, 100, 101, 102, 103, 104, 105, 106, 107, 108, 109, 110, 111, 112, 113, 114, 115, 116, 117, 118, 119, 120, 121, 122, 123, 124, 125, 126, 127, 128, 129, 130, 131, 132, 133, 134] (by decide +kernel) (by decide +kernel)
set_option maxRecDepth 20000 in
theorem gX10_asks_X10_giver : GoodIn wsX10_asks (wsV RX10 231 RX10 yX10_giver wsX10_giver) := goodIn_app (goodIn_of _ (by decide +kernel)) ggX10_asks_X10_giver
set_option maxRecDepth 20000 in
theorem ggX10_asks_X10_isBegun : GoodIn wsX10_asks wsX10_isBegun := goodIn_r _ [57, 3, 58, 59, 60, 9, 61, 5, 11, 12, 13, 14, 15, 16, 17, 18, 19, 20, 21, 90, 91, 92, 93, 94, 95, 96, 97, 98, 99, 100, 101, 102, 103, 104, 105, 106, 107, 108, 109, 110, 111, 112, 113, 114, 115, 116, 117, 118, 119, 120, 121, 122, 123, 124, 125, 126, 127, 128, 129, 130, 131, 132, 133, 134] (by decide +kernel) (by decide +kernel)
set_option maxRecDepth 20000 in
theorem gX10_asks_X10_isBegun : GoodIn wsX10_asks (wsV RX10 235 RX10 yX10_isBegun wsX10_isBegun) := goodIn_app (goodIn_of _ (by decide +kernel)) ggX10_asks_X10_isBegun
set_option maxRecDepth 20000 in
theorem ggX10_asks_X10_tellers : GoodIn wsX10_asks wsX10_tellers := goodIn_r _ [65, 32, 39, 40, 41, 9, 42, 43, 44, 45, 46, 47, 48, 49, 50, 51, 52, 2, 53, 90, 91, 92, 93, 94, 95, 96, 97, 98, 99, 100, 101, 102, 103, 104, 105, 106, 107, 108, 109, 110, 111, 112, 113, 114, 115, 116, 117, 118, 119, 120, 121, 122, 123, 124, 125, 126, 127, 128, 129, 130, 131, 132, 133, 134] (by decide +kernel) (by decide +kernel)
set_option maxRecDepth 20000 in
theorem gX10_asks_X10_tellers : GoodIn wsX10_asks (wsV RX10 238 RX10 yX10_tellers wsX10_tellers) := goodIn_app (goodIn_of _ (by decide +kernel)) ggX10_asks_X10_tellers
set_option maxRecDepth 20000 in
theorem ggX10_asks_X10_sends : GoodIn wsX10_asks wsX10_sends := goodIn_r _ [69, 33, 70, 71, 72, 73, 74, 19, 18, 27, 20, 21, 75, 53, 76, 77, 78, 79, 46, 47, 9, 48, 80, 81, 82, 83, 84, 85, 90, 91, 92, 93, 94, 95, 96, 97, 98, 99, 100, 101, 102, 103, 104, 105, 106, 107, 108, 109, 110, 111, 112, 113, 114, 115, 116, 117, 118, 119, 120, 121, 122, 123, 124, 125, 126, 127, 128, 129, 130, 131, 132, 133, 134] (by decide +kernel) (by decide +kernel)
set_option maxRecDepth 20000 in
theorem gX10_asks_X10_sends : GoodIn wsX10_asks (wsV RX10 241 RX10 yX10_sends wsX10_sends) := goodIn_app (goodIn_of _ (by decide +kernel)) ggX10_asks_X10_sends
set_option maxRecDepth 20000 in
theorem ggX10_asks_X10_cell : GoodIn wsX10_asks wsX10_cell := goodIn_r _ [13] (by decide +kernel) (by decide +kernel)
set_option maxRecDepth 20000 in
theorem gX10_asks_X10_cell : GoodIn wsX10_asks (va_wsS RX10 163 yX10_cell wsX10_cell) := goodIn_app (goodIn_of _ (by decide +kernel)) ggX10_asks_X10_cell
set_option maxRecDepth 20000 in
theorem ggX10_asks_X10_coming : GoodIn wsX10_asks wsX10_coming := goodIn_r _ [17, 18, 19, 20, 21, 90, 91, 92, 93, 94, 95, 96, 97, 98, 99, 100, 101, 102, 103, 104, 105, 106, 107, 108, 109, 110, 111, 112, 113, 114, 115, 116, 117, 118, 119, 120, 121, 122, 123, 124, 125, 126, 127, 128, 129, 130, 131, 132, 133, 134] (by decide +kernel) (by decide +kernel)
set_option maxRecDepth 20000 in
theorem gX10_asks_X10_coming : GoodIn wsX10_asks (wsV RX10 218 RX10 yX10_coming wsX10_coming) := goodIn_app (goodIn_of _ (by decide +kernel)) ggX10_asks_X10_coming
set_option maxRecDepth 20000 in
theorem ggX10_asks_X10_senderOf : GoodIn wsX10_asks wsX10_senderOf := goodIn_r _ [89, 19, 20, 21, 27, 90, 91, 92, 93, 94, 95, 96, 97, 98, 99, 100, 101, 102, 103, 104, 105, 106, 107, 108, 109, 110, 111, 112, 113, 114, 115, 116, 117, 118, 119, 120, 121, 122, 123, 124, 125, 126, 127, 128, 129, 130, 131, 132, 133, 134] (by decide +kernel) (by decide +kernel)
set_option maxRecDepth 20000 in
theorem gX10_asks_X10_senderOf : GoodIn wsX10_asks (wsV RX10 245 RX10 yX10_senderOf wsX10_senderOf) := goodIn_app (goodIn_of _ (by decide +kernel)) ggX10_asks_X10_senderOf
theorem dX10_asks_0 : decode cX10_asks 0 = .ok (.iconst (-1), 1) := by decide +kernel
theorem dX10_asks_1 : decode cX10_asks 1 = .ok (.istore_n 2, 1) := by decide +kernel
theorem dX10_asks_2 : decode cX10_asks 2 = .ok (.iconst 0, 1) := by decide +kernel
theorem dX10_asks_3 : decode cX10_asks 3 = .ok (.istore_n 3, 1) := by decide +kernel
theorem dX10_asks_4 : decode cX10_asks 4 = .ok (.iconst 0, 1) := by decide +kernel
theorem dX10_asks_5 : decode cX10_asks 5 = .ok (.istore 4, 2) := by decide +kernel
theorem dX10_asks_7 : decode cX10_asks 7 = .ok (.iconst 0, 1) := by decide +kernel
theorem dX10_asks_8 : decode cX10_asks 8 = .ok (.istore 5, 2) := by decide +kernel
theorem dX10_asks_10 : decode cX10_asks 10 = .ok (.iload 5, 2) := by decide +kernel
theorem dX10_asks_12 : decode cX10_asks 12 = .ok (.aload_n 0, 1) := by decide +kernel
theorem dX10_asks_13 : decode cX10_asks 13 = .ok (.getfield 7, 3) := by decide +kernel
theorem dX10_asks_16 : decode cX10_asks 16 = .ok (.if_icmp .ge 117, 3) := by decide +kernel
theorem dX10_asks_19 : decode cX10_asks 19 = .ok (.aload_n 0, 1) := by decide +kernel
theorem dX10_asks_20 : decode cX10_asks 20 = .ok (.getfield 48, 3) := by decide +kernel
theorem dX10_asks_23 : decode cX10_asks 23 = .ok (.bipush 24, 2) := by decide +kernel
theorem dX10_asks_25 : decode cX10_asks 25 = .ok (.iload_n 1, 1) := by decide +kernel
theorem dX10_asks_26 : decode cX10_asks 26 = .ok (.imul, 1) := by decide +kernel
theorem dX10_asks_27 : decode cX10_asks 27 = .ok (.iload 5, 2) := by decide +kernel
theorem dX10_asks_29 : decode cX10_asks 29 = .ok (.iadd, 1) := by decide +kernel
theorem dX10_asks_30 : decode cX10_asks 30 = .ok (.baload, 1) := by decide +kernel
theorem dX10_asks_31 : decode cX10_asks 31 = .ok (.ifCond .ne 96, 3) := by decide +kernel
theorem dX10_asks_34 : decode cX10_asks 34 = .ok (.aload_n 0, 1) := by decide +kernel
theorem dX10_asks_35 : decode cX10_asks 35 = .ok (.iload_n 1, 1) := by decide +kernel
theorem dX10_asks_36 : decode cX10_asks 36 = .ok (.iload 5, 2) := by decide +kernel
theorem dX10_asks_38 : decode cX10_asks 38 = .ok (.invokevirtual 224, 3) := by decide +kernel
theorem dX10_asks_41 : decode cX10_asks 41 = .ok (.iconst (-1), 1) := by decide +kernel
theorem dX10_asks_42 : decode cX10_asks 42 = .ok (.if_icmp .eq 85, 3) := by decide +kernel
theorem dX10_asks_45 : decode cX10_asks 45 = .ok (.aload_n 0, 1) := by decide +kernel
theorem dX10_asks_46 : decode cX10_asks 46 = .ok (.iload_n 1, 1) := by decide +kernel
theorem dX10_asks_47 : decode cX10_asks 47 = .ok (.iload 5, 2) := by decide +kernel
theorem dX10_asks_49 : decode cX10_asks 49 = .ok (.aload_n 0, 1) := by decide +kernel
theorem dX10_asks_50 : decode cX10_asks 50 = .ok (.iload_n 1, 1) := by decide +kernel
theorem dX10_asks_51 : decode cX10_asks 51 = .ok (.iload 5, 2) := by decide +kernel
theorem dX10_asks_53 : decode cX10_asks 53 = .ok (.iconst 1, 1) := by decide +kernel
theorem dX10_asks_54 : decode cX10_asks 54 = .ok (.invokevirtual 227, 3) := by decide +kernel
theorem dX10_asks_57 : decode cX10_asks 57 = .ok (.iconst (-1), 1) := by decide +kernel
theorem dX10_asks_58 : decode cX10_asks 58 = .ok (.invokevirtual 231, 3) := by decide +kernel
theorem dX10_asks_61 : decode cX10_asks 61 = .ok (.iconst (-1), 1) := by decide +kernel
theorem dX10_asks_62 : decode cX10_asks 62 = .ok (.if_icmp .ne 6, 3) := by decide +kernel
theorem dX10_asks_65 : decode cX10_asks 65 = .ok (.goto 62, 3) := by decide +kernel
theorem dX10_asks_68 : decode cX10_asks 68 = .ok (.aload_n 0, 1) := by decide +kernel
theorem dX10_asks_69 : decode cX10_asks 69 = .ok (.iload_n 1, 1) := by decide +kernel
theorem dX10_asks_70 : decode cX10_asks 70 = .ok (.iload 5, 2) := by decide +kernel
theorem dX10_asks_72 : decode cX10_asks 72 = .ok (.invokevirtual 235, 3) := by decide +kernel
theorem dX10_asks_75 : decode cX10_asks 75 = .ok (.istore 6, 2) := by decide +kernel
theorem dX10_asks_77 : decode cX10_asks 77 = .ok (.aload_n 0, 1) := by decide +kernel
theorem dX10_asks_78 : decode cX10_asks 78 = .ok (.iload_n 1, 1) := by decide +kernel
theorem dX10_asks_79 : decode cX10_asks 79 = .ok (.iload 5, 2) := by decide +kernel
theorem dX10_asks_81 : decode cX10_asks 81 = .ok (.invokevirtual 238, 3) := by decide +kernel
theorem dX10_asks_84 : decode cX10_asks 84 = .ok (.istore 7, 2) := by decide +kernel
theorem dX10_asks_86 : decode cX10_asks 86 = .ok (.iload_n 2, 1) := by decide +kernel
theorem dX10_asks_87 : decode cX10_asks 87 = .ok (.iconst (-1), 1) := by decide +kernel
theorem dX10_asks_88 : decode cX10_asks 88 = .ok (.if_icmp .eq 29, 3) := by decide +kernel
theorem dX10_asks_91 : decode cX10_asks 91 = .ok (.iload 4, 2) := by decide +kernel
theorem dX10_asks_93 : decode cX10_asks 93 = .ok (.ifCond .eq 8, 3) := by decide +kernel
theorem dX10_asks_96 : decode cX10_asks 96 = .ok (.iload 6, 2) := by decide +kernel
theorem dX10_asks_98 : decode cX10_asks 98 = .ok (.ifCond .eq 29, 3) := by decide +kernel
theorem dX10_asks_101 : decode cX10_asks 101 = .ok (.iload 4, 2) := by decide +kernel
theorem dX10_asks_103 : decode cX10_asks 103 = .ok (.iload 6, 2) := by decide +kernel
theorem dX10_asks_105 : decode cX10_asks 105 = .ok (.if_icmp .ne 12, 3) := by decide +kernel
theorem dX10_asks_108 : decode cX10_asks 108 = .ok (.iload 7, 2) := by decide +kernel
theorem dX10_asks_110 : decode cX10_asks 110 = .ok (.iload_n 3, 1) := by decide +kernel
theorem dX10_asks_111 : decode cX10_asks 111 = .ok (.if_icmp .lt 6, 3) := by decide +kernel
theorem dX10_asks_114 : decode cX10_asks 114 = .ok (.goto 13, 3) := by decide +kernel
theorem dX10_asks_117 : decode cX10_asks 117 = .ok (.iload 5, 2) := by decide +kernel
theorem dX10_asks_119 : decode cX10_asks 119 = .ok (.istore_n 2, 1) := by decide +kernel
theorem dX10_asks_120 : decode cX10_asks 120 = .ok (.iload 7, 2) := by decide +kernel
theorem dX10_asks_122 : decode cX10_asks 122 = .ok (.istore_n 3, 1) := by decide +kernel
theorem dX10_asks_123 : decode cX10_asks 123 = .ok (.iload 6, 2) := by decide +kernel
theorem dX10_asks_125 : decode cX10_asks 125 = .ok (.istore 4, 2) := by decide +kernel
theorem dX10_asks_127 : decode cX10_asks 127 = .ok (.iinc 5 1, 3) := by decide +kernel
theorem dX10_asks_130 : decode cX10_asks 130 = .ok (.goto (-120), 3) := by decide +kernel
theorem dX10_asks_133 : decode cX10_asks 133 = .ok (.iload_n 2, 1) := by decide +kernel
theorem dX10_asks_134 : decode cX10_asks 134 = .ok (.iconst (-1), 1) := by decide +kernel
theorem dX10_asks_135 : decode cX10_asks 135 = .ok (.if_icmp .eq 31, 3) := by decide +kernel
theorem dX10_asks_138 : decode cX10_asks 138 = .ok (.aload_n 0, 1) := by decide +kernel
theorem dX10_asks_139 : decode cX10_asks 139 = .ok (.aload_n 0, 1) := by decide +kernel
theorem dX10_asks_140 : decode cX10_asks 140 = .ok (.iload_n 1, 1) := by decide +kernel
theorem dX10_asks_141 : decode cX10_asks 141 = .ok (.iload_n 2, 1) := by decide +kernel
theorem dX10_asks_142 : decode cX10_asks 142 = .ok (.aload_n 0, 1) := by decide +kernel
theorem dX10_asks_143 : decode cX10_asks 143 = .ok (.iload_n 1, 1) := by decide +kernel
theorem dX10_asks_144 : decode cX10_asks 144 = .ok (.iload_n 2, 1) := by decide +kernel
theorem dX10_asks_145 : decode cX10_asks 145 = .ok (.iconst 1, 1) := by decide +kernel
theorem dX10_asks_146 : decode cX10_asks 146 = .ok (.invokevirtual 227, 3) := by decide +kernel
theorem dX10_asks_149 : decode cX10_asks 149 = .ok (.iconst (-1), 1) := by decide +kernel
theorem dX10_asks_150 : decode cX10_asks 150 = .ok (.invokevirtual 231, 3) := by decide +kernel
end
section
theorem dX10_asks_153 : decode cX10_asks 153 = .ok (.iload_n 1, 1) := by decide +kernel
theorem dX10_asks_154 : decode cX10_asks 154 = .ok (.iload_n 2, 1) := by decide +kernel
theorem dX10_asks_155 : decode cX10_asks 155 = .ok (.aload_n 0, 1) := by decide +kernel
theorem dX10_asks_156 : decode cX10_asks 156 = .ok (.iload_n 1, 1) := by decide +kernel
theorem dX10_asks_157 : decode cX10_asks 157 = .ok (.iload_n 2, 1) := by decide +kernel
theorem dX10_asks_158 : decode cX10_asks 158 = .ok (.invokevirtual 224, 3) := by decide +kernel
theorem dX10_asks_161 : decode cX10_asks 161 = .ok (.invokevirtual 241, 3) := by decide +kernel
theorem dX10_asks_164 : decode cX10_asks 164 = .ok (.iconst 1, 1) := by decide +kernel
theorem dX10_asks_165 : decode cX10_asks 165 = .ok (.ireturn, 1) := by decide +kernel
theorem dX10_asks_166 : decode cX10_asks 166 = .ok (.iconst 0, 1) := by decide +kernel
theorem dX10_asks_167 : decode cX10_asks 167 = .ok (.istore 5, 2) := by decide +kernel
theorem dX10_asks_169 : decode cX10_asks 169 = .ok (.iload 5, 2) := by decide +kernel
theorem dX10_asks_171 : decode cX10_asks 171 = .ok (.aload_n 0, 1) := by decide +kernel
theorem dX10_asks_172 : decode cX10_asks 172 = .ok (.getfield 7, 3) := by decide +kernel
theorem dX10_asks_175 : decode cX10_asks 175 = .ok (.if_icmp .ge 130, 3) := by decide +kernel
theorem dX10_asks_178 : decode cX10_asks 178 = .ok (.iconst 0, 1) := by decide +kernel
theorem dX10_asks_179 : decode cX10_asks 179 = .ok (.istore 6, 2) := by decide +kernel
theorem dX10_asks_181 : decode cX10_asks 181 = .ok (.iload 6, 2) := by decide +kernel
theorem dX10_asks_183 : decode cX10_asks 183 = .ok (.aload_n 0, 1) := by decide +kernel
theorem dX10_asks_184 : decode cX10_asks 184 = .ok (.getfield 13, 3) := by decide +kernel
theorem dX10_asks_187 : decode cX10_asks 187 = .ok (.if_icmp .ge 112, 3) := by decide +kernel
theorem dX10_asks_190 : decode cX10_asks 190 = .ok (.aload_n 0, 1) := by decide +kernel
theorem dX10_asks_191 : decode cX10_asks 191 = .ok (.getfield 48, 3) := by decide +kernel
theorem dX10_asks_194 : decode cX10_asks 194 = .ok (.bipush 24, 2) := by decide +kernel
theorem dX10_asks_196 : decode cX10_asks 196 = .ok (.iload_n 1, 1) := by decide +kernel
theorem dX10_asks_197 : decode cX10_asks 197 = .ok (.imul, 1) := by decide +kernel
theorem dX10_asks_198 : decode cX10_asks 198 = .ok (.iload 5, 2) := by decide +kernel
theorem dX10_asks_200 : decode cX10_asks 200 = .ok (.iadd, 1) := by decide +kernel
theorem dX10_asks_201 : decode cX10_asks 201 = .ok (.baload, 1) := by decide +kernel
theorem dX10_asks_202 : decode cX10_asks 202 = .ok (.ifCond .ne 91, 3) := by decide +kernel
theorem dX10_asks_205 : decode cX10_asks 205 = .ok (.aload_n 0, 1) := by decide +kernel
theorem dX10_asks_206 : decode cX10_asks 206 = .ok (.getfield 51, 3) := by decide +kernel
theorem dX10_asks_209 : decode cX10_asks 209 = .ok (.bipush 24, 2) := by decide +kernel
theorem dX10_asks_211 : decode cX10_asks 211 = .ok (.iload_n 1, 1) := by decide +kernel
theorem dX10_asks_212 : decode cX10_asks 212 = .ok (.imul, 1) := by decide +kernel
theorem dX10_asks_213 : decode cX10_asks 213 = .ok (.iload 5, 2) := by decide +kernel
theorem dX10_asks_215 : decode cX10_asks 215 = .ok (.iadd, 1) := by decide +kernel
theorem dX10_asks_216 : decode cX10_asks 216 = .ok (.baload, 1) := by decide +kernel
theorem dX10_asks_217 : decode cX10_asks 217 = .ok (.ifCond .ne 76, 3) := by decide +kernel
theorem dX10_asks_220 : decode cX10_asks 220 = .ok (.aload_n 0, 1) := by decide +kernel
theorem dX10_asks_221 : decode cX10_asks 221 = .ok (.getfield 54, 3) := by decide +kernel
theorem dX10_asks_224 : decode cX10_asks 224 = .ok (.iload_n 1, 1) := by decide +kernel
theorem dX10_asks_225 : decode cX10_asks 225 = .ok (.iload 5, 2) := by decide +kernel
theorem dX10_asks_227 : decode cX10_asks 227 = .ok (.iload 6, 2) := by decide +kernel
theorem dX10_asks_229 : decode cX10_asks 229 = .ok (.invokestatic 163, 3) := by decide +kernel
theorem dX10_asks_232 : decode cX10_asks 232 = .ok (.baload, 1) := by decide +kernel
theorem dX10_asks_233 : decode cX10_asks 233 = .ok (.ifCond .ne 60, 3) := by decide +kernel
theorem dX10_asks_236 : decode cX10_asks 236 = .ok (.aload_n 0, 1) := by decide +kernel
theorem dX10_asks_237 : decode cX10_asks 237 = .ok (.iload_n 1, 1) := by decide +kernel
theorem dX10_asks_238 : decode cX10_asks 238 = .ok (.iload 5, 2) := by decide +kernel
theorem dX10_asks_240 : decode cX10_asks 240 = .ok (.iload 6, 2) := by decide +kernel
theorem dX10_asks_242 : decode cX10_asks 242 = .ok (.invokevirtual 218, 3) := by decide +kernel
theorem dX10_asks_245 : decode cX10_asks 245 = .ok (.iconst 1, 1) := by decide +kernel
theorem dX10_asks_246 : decode cX10_asks 246 = .ok (.if_icmp .eq 6, 3) := by decide +kernel
theorem dX10_asks_249 : decode cX10_asks 249 = .ok (.goto 44, 3) := by decide +kernel
theorem dX10_asks_252 : decode cX10_asks 252 = .ok (.aload_n 0, 1) := by decide +kernel
theorem dX10_asks_253 : decode cX10_asks 253 = .ok (.iload_n 1, 1) := by decide +kernel
theorem dX10_asks_254 : decode cX10_asks 254 = .ok (.iload 5, 2) := by decide +kernel
theorem dX10_asks_256 : decode cX10_asks 256 = .ok (.iconst (-1), 1) := by decide +kernel
theorem dX10_asks_257 : decode cX10_asks 257 = .ok (.aload_n 0, 1) := by decide +kernel
theorem dX10_asks_258 : decode cX10_asks 258 = .ok (.iload_n 1, 1) := by decide +kernel
theorem dX10_asks_259 : decode cX10_asks 259 = .ok (.iload 5, 2) := by decide +kernel
theorem dX10_asks_261 : decode cX10_asks 261 = .ok (.iload 6, 2) := by decide +kernel
theorem dX10_asks_263 : decode cX10_asks 263 = .ok (.invokevirtual 245, 3) := by decide +kernel
theorem dX10_asks_266 : decode cX10_asks 266 = .ok (.invokevirtual 231, 3) := by decide +kernel
theorem dX10_asks_269 : decode cX10_asks 269 = .ok (.istore 7, 2) := by decide +kernel
theorem dX10_asks_271 : decode cX10_asks 271 = .ok (.iload 7, 2) := by decide +kernel
theorem dX10_asks_273 : decode cX10_asks 273 = .ok (.iconst (-1), 1) := by decide +kernel
theorem dX10_asks_274 : decode cX10_asks 274 = .ok (.if_icmp .ne 6, 3) := by decide +kernel
theorem dX10_asks_277 : decode cX10_asks 277 = .ok (.goto 16, 3) := by decide +kernel
theorem dX10_asks_280 : decode cX10_asks 280 = .ok (.aload_n 0, 1) := by decide +kernel
theorem dX10_asks_281 : decode cX10_asks 281 = .ok (.iload 7, 2) := by decide +kernel
theorem dX10_asks_283 : decode cX10_asks 283 = .ok (.iload_n 1, 1) := by decide +kernel
theorem dX10_asks_284 : decode cX10_asks 284 = .ok (.iload 5, 2) := by decide +kernel
theorem dX10_asks_286 : decode cX10_asks 286 = .ok (.iload 6, 2) := by decide +kernel
theorem dX10_asks_288 : decode cX10_asks 288 = .ok (.invokevirtual 241, 3) := by decide +kernel
theorem dX10_asks_291 : decode cX10_asks 291 = .ok (.iconst 1, 1) := by decide +kernel
theorem dX10_asks_292 : decode cX10_asks 292 = .ok (.ireturn, 1) := by decide +kernel
theorem dX10_asks_293 : decode cX10_asks 293 = .ok (.iinc 6 1, 3) := by decide +kernel
theorem dX10_asks_296 : decode cX10_asks 296 = .ok (.goto (-115), 3) := by decide +kernel
theorem dX10_asks_299 : decode cX10_asks 299 = .ok (.iinc 5 1, 3) := by decide +kernel
theorem dX10_asks_302 : decode cX10_asks 302 = .ok (.goto (-133), 3) := by decide +kernel
theorem dX10_asks_305 : decode cX10_asks 305 = .ok (.iconst 0, 1) := by decide +kernel
theorem dX10_asks_306 : decode cX10_asks 306 = .ok (.ireturn, 1) := by decide +kernel
theorem dX10_senderOf_0 : decode cX10_senderOf 0 = .ok (.iconst 0, 1) := by decide +kernel
theorem dX10_senderOf_1 : decode cX10_senderOf 1 = .ok (.istore 4, 2) := by decide +kernel
theorem dX10_senderOf_3 : decode cX10_senderOf 3 = .ok (.aload_n 0, 1) := by decide +kernel
theorem dX10_senderOf_4 : decode cX10_senderOf 4 = .ok (.getfield 90, 3) := by decide +kernel
theorem dX10_senderOf_7 : decode cX10_senderOf 7 = .ok (.iload 4, 2) := by decide +kernel
theorem dX10_senderOf_9 : decode cX10_senderOf 9 = .ok (.iaload, 1) := by decide +kernel
theorem dX10_senderOf_10 : decode cX10_senderOf 10 = .ok (.iload_n 1, 1) := by decide +kernel
theorem dX10_senderOf_11 : decode cX10_senderOf 11 = .ok (.if_icmp .ne 25, 3) := by decide +kernel
theorem dX10_senderOf_14 : decode cX10_senderOf 14 = .ok (.aload_n 0, 1) := by decide +kernel
theorem dX10_senderOf_15 : decode cX10_senderOf 15 = .ok (.getfield 96, 3) := by decide +kernel
theorem dX10_senderOf_18 : decode cX10_senderOf 18 = .ok (.iload 4, 2) := by decide +kernel
theorem dX10_senderOf_20 : decode cX10_senderOf 20 = .ok (.iaload, 1) := by decide +kernel
theorem dX10_senderOf_21 : decode cX10_senderOf 21 = .ok (.iload_n 2, 1) := by decide +kernel
theorem dX10_senderOf_22 : decode cX10_senderOf 22 = .ok (.if_icmp .ne 14, 3) := by decide +kernel
theorem dX10_senderOf_25 : decode cX10_senderOf 25 = .ok (.aload_n 0, 1) := by decide +kernel
theorem dX10_senderOf_26 : decode cX10_senderOf 26 = .ok (.getfield 99, 3) := by decide +kernel
theorem dX10_senderOf_29 : decode cX10_senderOf 29 = .ok (.iload 4, 2) := by decide +kernel
theorem dX10_senderOf_31 : decode cX10_senderOf 31 = .ok (.iaload, 1) := by decide +kernel
theorem dX10_senderOf_32 : decode cX10_senderOf 32 = .ok (.iload_n 3, 1) := by decide +kernel
theorem dX10_senderOf_33 : decode cX10_senderOf 33 = .ok (.if_icmp .eq 9, 3) := by decide +kernel
theorem dX10_senderOf_36 : decode cX10_senderOf 36 = .ok (.iinc 4 1, 3) := by decide +kernel
theorem dX10_senderOf_39 : decode cX10_senderOf 39 = .ok (.goto (-36), 3) := by decide +kernel
theorem dX10_senderOf_42 : decode cX10_senderOf 42 = .ok (.aload_n 0, 1) := by decide +kernel
theorem dX10_senderOf_43 : decode cX10_senderOf 43 = .ok (.getfield 93, 3) := by decide +kernel
theorem dX10_senderOf_46 : decode cX10_senderOf 46 = .ok (.iload 4, 2) := by decide +kernel
theorem dX10_senderOf_48 : decode cX10_senderOf 48 = .ok (.iaload, 1) := by decide +kernel
theorem dX10_senderOf_49 : decode cX10_senderOf 49 = .ok (.ireturn, 1) := by decide +kernel
set_option maxRecDepth 20000 in
theorem ggX10_forgets_X10_cell : GoodIn wsX10_forgets wsX10_cell := goodIn_r _ [10] (by decide +kernel) (by decide +kernel)
set_option maxRecDepth 20000 in
theorem gX10_forgets_X10_cell : GoodIn wsX10_forgets (va_wsS RX10 163 yX10_cell wsX10_cell) := goodIn_app (goodIn_of _ (by decide +kernel)) ggX10_forgets_X10_cell
set_option maxRecDepth 20000 in
theorem ggX10_forgets_X10_isNear : GoodIn wsX10_forgets wsX10_isNear := goodIn_r _ [14, 15, 16, 17, 18, 19, 9, 20, 25, 26, 27, 28, 29, 30, 31, 32, 33, 34, 35, 36, 37, 38, 39, 40, 41, 42, 43, 44, 45, 46, 47, 48, 49, 50, 51, 52, 53, 54, 55, 56, 57, 58, 59, 60, 61, 62, 63, 64, 65, 66, 67, 68, 69] (by decide +kernel) (by decide +kernel)
set_option maxRecDepth 20000 in
theorem gX10_forgets_X10_isNear : GoodIn wsX10_forgets (wsV RX10 154 RX10 yX10_isNear wsX10_isNear) := goodIn_app (goodIn_of _ (by decide +kernel)) ggX10_forgets_X10_isNear
set_option maxRecDepth 20000 in
theorem ggX10_forgets_X10_dropPiece : GoodIn wsX10_forgets wsX10_dropPiece := goodIn_r _ [24, 4, 5, 7, 8, 9, 10, 25, 26, 27, 28, 29, 30, 31, 32, 33, 34, 35, 36, 37, 38, 39, 40, 41, 42, 43, 44, 45, 46, 47, 48, 49, 50, 51, 52, 53, 54, 55, 56, 57, 58, 59, 60, 61, 62, 63, 64, 65, 66, 67, 68, 69] (by decide +kernel) (by decide +kernel)
set_option maxRecDepth 20000 in
theorem gX10_forgets_X10_dropPiece : GoodIn wsX10_forgets (wsV RX10 183 RX10 yX10_dropPiece wsX10_dropPiece) := goodIn_app (goodIn_of _ (by decide +kernel)) ggX10_forgets_X10_dropPiece
theorem dX10_forgets_0 : decode cX10_forgets 0 = .ok (.iconst 0, 1) := by decide +kernel
theorem dX10_forgets_1 : decode cX10_forgets 1 = .ok (.istore_n 2, 1) := by decide +kernel
theorem dX10_forgets_2 : decode cX10_forgets 2 = .ok (.iload_n 2, 1) := by decide +kernel
theorem dX10_forgets_3 : decode cX10_forgets 3 = .ok (.aload_n 0, 1) := by decide +kernel
theorem dX10_forgets_4 : decode cX10_forgets 4 = .ok (.getfield 7, 3) := by decide +kernel
theorem dX10_forgets_7 : decode cX10_forgets 7 = .ok (.if_icmp .ge 115, 3) := by decide +kernel
theorem dX10_forgets_10 : decode cX10_forgets 10 = .ok (.aload_n 0, 1) := by decide +kernel
theorem dX10_forgets_11 : decode cX10_forgets 11 = .ok (.getfield 48, 3) := by decide +kernel
theorem dX10_forgets_14 : decode cX10_forgets 14 = .ok (.bipush 24, 2) := by decide +kernel
theorem dX10_forgets_16 : decode cX10_forgets 16 = .ok (.iload_n 1, 1) := by decide +kernel
theorem dX10_forgets_17 : decode cX10_forgets 17 = .ok (.imul, 1) := by decide +kernel
theorem dX10_forgets_18 : decode cX10_forgets 18 = .ok (.iload_n 2, 1) := by decide +kernel
theorem dX10_forgets_19 : decode cX10_forgets 19 = .ok (.iadd, 1) := by decide +kernel
theorem dX10_forgets_20 : decode cX10_forgets 20 = .ok (.baload, 1) := by decide +kernel
theorem dX10_forgets_21 : decode cX10_forgets 21 = .ok (.ifCond .ne 95, 3) := by decide +kernel
theorem dX10_forgets_24 : decode cX10_forgets 24 = .ok (.aload_n 0, 1) := by decide +kernel
theorem dX10_forgets_25 : decode cX10_forgets 25 = .ok (.getfield 51, 3) := by decide +kernel
theorem dX10_forgets_28 : decode cX10_forgets 28 = .ok (.bipush 24, 2) := by decide +kernel
theorem dX10_forgets_30 : decode cX10_forgets 30 = .ok (.iload_n 1, 1) := by decide +kernel
theorem dX10_forgets_31 : decode cX10_forgets 31 = .ok (.imul, 1) := by decide +kernel
theorem dX10_forgets_32 : decode cX10_forgets 32 = .ok (.iload_n 2, 1) := by decide +kernel
theorem dX10_forgets_33 : decode cX10_forgets 33 = .ok (.iadd, 1) := by decide +kernel
theorem dX10_forgets_34 : decode cX10_forgets 34 = .ok (.baload, 1) := by decide +kernel
theorem dX10_forgets_35 : decode cX10_forgets 35 = .ok (.ifCond .ne 6, 3) := by decide +kernel
theorem dX10_forgets_38 : decode cX10_forgets 38 = .ok (.goto 78, 3) := by decide +kernel
theorem dX10_forgets_41 : decode cX10_forgets 41 = .ok (.iconst 0, 1) := by decide +kernel
theorem dX10_forgets_42 : decode cX10_forgets 42 = .ok (.istore_n 3, 1) := by decide +kernel
theorem dX10_forgets_43 : decode cX10_forgets 43 = .ok (.iconst 0, 1) := by decide +kernel
theorem dX10_forgets_44 : decode cX10_forgets 44 = .ok (.istore 4, 2) := by decide +kernel
theorem dX10_forgets_46 : decode cX10_forgets 46 = .ok (.iload 4, 2) := by decide +kernel
theorem dX10_forgets_48 : decode cX10_forgets 48 = .ok (.aload_n 0, 1) := by decide +kernel
theorem dX10_forgets_49 : decode cX10_forgets 49 = .ok (.getfield 13, 3) := by decide +kernel
theorem dX10_forgets_52 : decode cX10_forgets 52 = .ok (.if_icmp .ge 54, 3) := by decide +kernel
theorem dX10_forgets_55 : decode cX10_forgets 55 = .ok (.iload_n 3, 1) := by decide +kernel
theorem dX10_forgets_56 : decode cX10_forgets 56 = .ok (.ifCond .ne 38, 3) := by decide +kernel
theorem dX10_forgets_59 : decode cX10_forgets 59 = .ok (.aload_n 0, 1) := by decide +kernel
theorem dX10_forgets_60 : decode cX10_forgets 60 = .ok (.getfield 54, 3) := by decide +kernel
theorem dX10_forgets_63 : decode cX10_forgets 63 = .ok (.iload_n 1, 1) := by decide +kernel
theorem dX10_forgets_64 : decode cX10_forgets 64 = .ok (.iload_n 2, 1) := by decide +kernel
theorem dX10_forgets_65 : decode cX10_forgets 65 = .ok (.iload 4, 2) := by decide +kernel
theorem dX10_forgets_67 : decode cX10_forgets 67 = .ok (.invokestatic 163, 3) := by decide +kernel
theorem dX10_forgets_70 : decode cX10_forgets 70 = .ok (.baload, 1) := by decide +kernel
theorem dX10_forgets_71 : decode cX10_forgets 71 = .ok (.ifCond .eq 27, 3) := by decide +kernel
theorem dX10_forgets_74 : decode cX10_forgets 74 = .ok (.aload_n 0, 1) := by decide +kernel
theorem dX10_forgets_75 : decode cX10_forgets 75 = .ok (.iload_n 1, 1) := by decide +kernel
theorem dX10_forgets_76 : decode cX10_forgets 76 = .ok (.aload_n 0, 1) := by decide +kernel
theorem dX10_forgets_77 : decode cX10_forgets 77 = .ok (.getfield 60, 3) := by decide +kernel
theorem dX10_forgets_80 : decode cX10_forgets 80 = .ok (.iload_n 1, 1) := by decide +kernel
theorem dX10_forgets_81 : decode cX10_forgets 81 = .ok (.iload_n 2, 1) := by decide +kernel
theorem dX10_forgets_82 : decode cX10_forgets 82 = .ok (.iload 4, 2) := by decide +kernel
theorem dX10_forgets_84 : decode cX10_forgets 84 = .ok (.invokestatic 163, 3) := by decide +kernel
theorem dX10_forgets_87 : decode cX10_forgets 87 = .ok (.iaload, 1) := by decide +kernel
theorem dX10_forgets_88 : decode cX10_forgets 88 = .ok (.invokevirtual 154, 3) := by decide +kernel
theorem dX10_forgets_91 : decode cX10_forgets 91 = .ok (.ifCond .ne 7, 3) := by decide +kernel
theorem dX10_forgets_94 : decode cX10_forgets 94 = .ok (.iconst 1, 1) := by decide +kernel
theorem dX10_forgets_95 : decode cX10_forgets 95 = .ok (.goto 4, 3) := by decide +kernel
theorem dX10_forgets_98 : decode cX10_forgets 98 = .ok (.iconst 0, 1) := by decide +kernel
theorem dX10_forgets_99 : decode cX10_forgets 99 = .ok (.istore_n 3, 1) := by decide +kernel
theorem dX10_forgets_100 : decode cX10_forgets 100 = .ok (.iinc 4 1, 3) := by decide +kernel
theorem dX10_forgets_103 : decode cX10_forgets 103 = .ok (.goto (-57), 3) := by decide +kernel
theorem dX10_forgets_106 : decode cX10_forgets 106 = .ok (.iload_n 3, 1) := by decide +kernel
theorem dX10_forgets_107 : decode cX10_forgets 107 = .ok (.ifCond .eq 9, 3) := by decide +kernel
theorem dX10_forgets_110 : decode cX10_forgets 110 = .ok (.aload_n 0, 1) := by decide +kernel
theorem dX10_forgets_111 : decode cX10_forgets 111 = .ok (.iload_n 1, 1) := by decide +kernel
theorem dX10_forgets_112 : decode cX10_forgets 112 = .ok (.iload_n 2, 1) := by decide +kernel
theorem dX10_forgets_113 : decode cX10_forgets 113 = .ok (.invokevirtual 183, 3) := by decide +kernel
theorem dX10_forgets_116 : decode cX10_forgets 116 = .ok (.iinc 2 1, 3) := by decide +kernel
theorem dX10_forgets_119 : decode cX10_forgets 119 = .ok (.goto (-117), 3) := by decide +kernel
theorem dX10_forgets_122 : decode cX10_forgets 122 = .ok (.return_, 1) := by decide +kernel
set_option maxRecDepth 20000 in
theorem ggX10_oneTick_X10_allCome : GoodIn wsX10_oneTick wsX10_allCome := goodIn_r _ [12, 13, 14, 1, 15, 16, 17, 18, 11, 19, 20, 21, 22, 23, 24, 25, 26, 27, 28, 29, 30, 31, 32, 33, 34, 35, 36, 37, 38, 39, 40, 41, 42, 43, 44, 45, 46, 47, 48, 49, 50, 51, 52, 53, 54, 55, 56, 57, 58, 59, 60, 61, 62, 63, 64, 65, 66, 2, 67, 68, 69, 70, 71, 72, 73, 74, 75, 76, 77, 78, 79, 80, 81, 82, 83, 84, 85, 161, 162, 163, 164, 165, 166, 167, 168, 169, 170, 171, 172, 173, 174, 175, 176, 177, 178, 179, 180, 181, 182, 183, 184, 185, 186, 187, 188, 189, 190, 191, 192, 193, 194, 195, 196, 197, 198, 199, 200, 201, 202, 203, 204, 205] (by decide +kernel) (by decide +kernel)
set_option maxRecDepth 20000 in
theorem gX10_oneTick_X10_allCome : GoodIn wsX10_oneTick (wsV RX10 248 RX10 yX10_allCome wsX10_allCome) := goodIn_app (goodIn_of _ (by decide +kernel)) ggX10_oneTick_X10_allCome
set_option maxRecDepth 20000 in
theorem ggX10_oneTick_X10_opens : GoodIn wsX10_oneTick wsX10_opens := goodIn_r _ [89, 90, 2, 91, 92, 93, 94, 95, 25, 36, 37, 11, 38, 96, 97, 98, 99, 77, 34, 100, 101, 102, 103, 104, 3, 68, 105, 106, 107, 108, 109, 110, 111, 112, 73, 74, 75, 76, 78, 79, 80, 81, 161, 162, 163, 164, 165, 166, 167, 168, 169, 170, 171, 172, 173, 174, 175, 176, 177, 178, 179, 180, 181, 182, 183, 184, 185, 186, 187, 188, 189, 190, 191, 192, 193, 194, 195, 196, 197, 198, 199, 200, 201, 202, 203, 204, 205] (by decide +kernel) (by decide +kernel)
set_option maxRecDepth 20000 in
theorem gX10_oneTick_X10_opens : GoodIn wsX10_oneTick (wsV RX10 252 RX10 yX10_opens wsX10_opens) := goodIn_app (goodIn_of _ (by decide +kernel)) ggX10_oneTick_X10_opens
set_option maxRecDepth 20000 in
theorem ggX10_oneTick_X10_forgets : GoodIn wsX10_oneTick wsX10_forgets := goodIn_r _ [116, 77, 34, 43, 32, 28, 31, 44, 45, 11, 46, 100, 101, 102, 103, 104, 3, 68, 36, 37, 38, 69, 70, 71, 72, 161, 162, 163, 164, 165, 166, 167, 168, 169, 170, 171, 172, 173, 174, 175, 176, 177, 178, 179, 180, 181, 182, 183, 184, 185, 186, 187, 188, 189, 190, 191, 192, 193, 194, 195, 196, 197, 198, 199, 200, 201, 202, 203, 204, 205] (by decide +kernel) (by decide +kernel)
set_option maxRecDepth 20000 in
theorem gX10_oneTick_X10_forgets : GoodIn wsX10_oneTick (wsV RX10 255 RX10 yX10_forgets wsX10_forgets) := goodIn_app (goodIn_of _ (by decide +kernel)) ggX10_oneTick_X10_forgets
set_option maxRecDepth 20000 in
theorem ggX10_oneTick_X10_asks : GoodIn wsX10_oneTick wsX10_asks := goodIn_r _ [120, 77, 34, 32, 43, 28, 121, 122, 123, 11, 124, 44, 45, 46, 125, 126, 127, 128, 13, 20, 22, 23, 129, 130, 131, 132, 31, 21, 133, 134, 135, 136, 2, 4, 137, 138, 139, 140, 91, 100, 101, 102, 103, 104, 3, 68, 36, 37, 38, 105, 106, 107, 108, 92, 141, 142, 143, 144, 47, 48, 49, 50, 145, 146, 147, 148, 149, 150, 151, 152, 6, 153, 154, 155, 95, 30, 156, 14, 1, 15, 55, 56, 57, 58, 59, 60, 157, 158, 159, 160, 161, 162, 163, 164, 165, 166, 167, 168, 169, 170, 171, 172, 173, 174, 175, 176, 177, 178, 179, 180, 181, 182, 183, 184, 185, 186, 187, 188, 189, 190, 191, 192, 193, 194, 195, 196, 197, 198, 199, 200, 201, 202, 203, 204, 205] (by decide +kernel) (by decide +kernel)
set_option maxRecDepth 20000 in
theorem gX10_oneTick_X10_asks : GoodIn wsX10_oneTick (wsV RX10 258 RX10 yX10_asks wsX10_asks) := goodIn_app (goodIn_of _ (by decide +kernel)) ggX10_oneTick_X10_asks
theorem dX10_oneTick_0 : decode cX10_oneTick 0 = .ok (.aload_n 0, 1) := by decide +kernel
theorem dX10_oneTick_1 : decode cX10_oneTick 1 = .ok (.dup, 1) := by decide +kernel
theorem dX10_oneTick_2 : decode cX10_oneTick 2 = .ok (.getfield 202, 3) := by decide +kernel
theorem dX10_oneTick_5 : decode cX10_oneTick 5 = .ok (.iconst 1, 1) := by decide +kernel
theorem dX10_oneTick_6 : decode cX10_oneTick 6 = .ok (.iadd, 1) := by decide +kernel
theorem dX10_oneTick_7 : decode cX10_oneTick 7 = .ok (.putfield 202, 3) := by decide +kernel
theorem dX10_oneTick_10 : decode cX10_oneTick 10 = .ok (.aload_n 0, 1) := by decide +kernel
theorem dX10_oneTick_11 : decode cX10_oneTick 11 = .ok (.iconst 0, 1) := by decide +kernel
theorem dX10_oneTick_12 : decode cX10_oneTick 12 = .ok (.invokevirtual 248, 3) := by decide +kernel
theorem dX10_oneTick_15 : decode cX10_oneTick 15 = .ok (.iconst 0, 1) := by decide +kernel
end
section
theorem dX10_oneTick_16 : decode cX10_oneTick 16 = .ok (.istore_n 1, 1) := by decide +kernel
theorem dX10_oneTick_17 : decode cX10_oneTick 17 = .ok (.iload_n 1, 1) := by decide +kernel
theorem dX10_oneTick_18 : decode cX10_oneTick 18 = .ok (.aload_n 0, 1) := by decide +kernel
theorem dX10_oneTick_19 : decode cX10_oneTick 19 = .ok (.getfield 136, 3) := by decide +kernel
theorem dX10_oneTick_22 : decode cX10_oneTick 22 = .ok (.if_icmp .ge 33, 3) := by decide +kernel
theorem dX10_oneTick_25 : decode cX10_oneTick 25 = .ok (.aload_n 0, 1) := by decide +kernel
theorem dX10_oneTick_26 : decode cX10_oneTick 26 = .ok (.getfield 202, 3) := by decide +kernel
theorem dX10_oneTick_29 : decode cX10_oneTick 29 = .ok (.iconst 4, 1) := by decide +kernel
theorem dX10_oneTick_30 : decode cX10_oneTick 30 = .ok (.irem, 1) := by decide +kernel
theorem dX10_oneTick_31 : decode cX10_oneTick 31 = .ok (.iconst 1, 1) := by decide +kernel
theorem dX10_oneTick_32 : decode cX10_oneTick 32 = .ok (.if_icmp .ne 23, 3) := by decide +kernel
theorem dX10_oneTick_35 : decode cX10_oneTick 35 = .ok (.aload_n 0, 1) := by decide +kernel
theorem dX10_oneTick_36 : decode cX10_oneTick 36 = .ok (.getfield 26, 3) := by decide +kernel
theorem dX10_oneTick_39 : decode cX10_oneTick 39 = .ok (.iload_n 1, 1) := by decide +kernel
theorem dX10_oneTick_40 : decode cX10_oneTick 40 = .ok (.baload, 1) := by decide +kernel
theorem dX10_oneTick_41 : decode cX10_oneTick 41 = .ok (.ifCond .eq 8, 3) := by decide +kernel
theorem dX10_oneTick_44 : decode cX10_oneTick 44 = .ok (.aload_n 0, 1) := by decide +kernel
theorem dX10_oneTick_45 : decode cX10_oneTick 45 = .ok (.iload_n 1, 1) := by decide +kernel
theorem dX10_oneTick_46 : decode cX10_oneTick 46 = .ok (.invokevirtual 252, 3) := by decide +kernel
theorem dX10_oneTick_49 : decode cX10_oneTick 49 = .ok (.iinc 1 1, 3) := by decide +kernel
theorem dX10_oneTick_52 : decode cX10_oneTick 52 = .ok (.goto (-35), 3) := by decide +kernel
theorem dX10_oneTick_55 : decode cX10_oneTick 55 = .ok (.iconst 0, 1) := by decide +kernel
theorem dX10_oneTick_56 : decode cX10_oneTick 56 = .ok (.istore_n 1, 1) := by decide +kernel
theorem dX10_oneTick_57 : decode cX10_oneTick 57 = .ok (.iload_n 1, 1) := by decide +kernel
theorem dX10_oneTick_58 : decode cX10_oneTick 58 = .ok (.aload_n 0, 1) := by decide +kernel
theorem dX10_oneTick_59 : decode cX10_oneTick 59 = .ok (.getfield 136, 3) := by decide +kernel
theorem dX10_oneTick_62 : decode cX10_oneTick 62 = .ok (.if_icmp .ge 73, 3) := by decide +kernel
theorem dX10_oneTick_65 : decode cX10_oneTick 65 = .ok (.aload_n 0, 1) := by decide +kernel
theorem dX10_oneTick_66 : decode cX10_oneTick 66 = .ok (.getfield 114, 3) := by decide +kernel
theorem dX10_oneTick_69 : decode cX10_oneTick 69 = .ok (.iload_n 1, 1) := by decide +kernel
theorem dX10_oneTick_70 : decode cX10_oneTick 70 = .ok (.aload_n 0, 1) := by decide +kernel
theorem dX10_oneTick_71 : decode cX10_oneTick 71 = .ok (.getfield 26, 3) := by decide +kernel
theorem dX10_oneTick_74 : decode cX10_oneTick 74 = .ok (.iload_n 1, 1) := by decide +kernel
theorem dX10_oneTick_75 : decode cX10_oneTick 75 = .ok (.baload, 1) := by decide +kernel
theorem dX10_oneTick_76 : decode cX10_oneTick 76 = .ok (.ifCond .eq 12, 3) := by decide +kernel
theorem dX10_oneTick_79 : decode cX10_oneTick 79 = .ok (.aload_n 0, 1) := by decide +kernel
theorem dX10_oneTick_80 : decode cX10_oneTick 80 = .ok (.getfield 20, 3) := by decide +kernel
theorem dX10_oneTick_83 : decode cX10_oneTick 83 = .ok (.iload_n 1, 1) := by decide +kernel
theorem dX10_oneTick_84 : decode cX10_oneTick 84 = .ok (.iaload, 1) := by decide +kernel
theorem dX10_oneTick_85 : decode cX10_oneTick 85 = .ok (.goto 4, 3) := by decide +kernel
theorem dX10_oneTick_88 : decode cX10_oneTick 88 = .ok (.iconst 0, 1) := by decide +kernel
theorem dX10_oneTick_89 : decode cX10_oneTick 89 = .ok (.iastore, 1) := by decide +kernel
theorem dX10_oneTick_90 : decode cX10_oneTick 90 = .ok (.aload_n 0, 1) := by decide +kernel
theorem dX10_oneTick_91 : decode cX10_oneTick 91 = .ok (.getfield 117, 3) := by decide +kernel
theorem dX10_oneTick_94 : decode cX10_oneTick 94 = .ok (.iload_n 1, 1) := by decide +kernel
theorem dX10_oneTick_95 : decode cX10_oneTick 95 = .ok (.aload_n 0, 1) := by decide +kernel
theorem dX10_oneTick_96 : decode cX10_oneTick 96 = .ok (.getfield 26, 3) := by decide +kernel
theorem dX10_oneTick_99 : decode cX10_oneTick 99 = .ok (.iload_n 1, 1) := by decide +kernel
theorem dX10_oneTick_100 : decode cX10_oneTick 100 = .ok (.baload, 1) := by decide +kernel
theorem dX10_oneTick_101 : decode cX10_oneTick 101 = .ok (.ifCond .eq 12, 3) := by decide +kernel
theorem dX10_oneTick_104 : decode cX10_oneTick 104 = .ok (.aload_n 0, 1) := by decide +kernel
theorem dX10_oneTick_105 : decode cX10_oneTick 105 = .ok (.getfield 23, 3) := by decide +kernel
theorem dX10_oneTick_108 : decode cX10_oneTick 108 = .ok (.iload_n 1, 1) := by decide +kernel
theorem dX10_oneTick_109 : decode cX10_oneTick 109 = .ok (.iaload, 1) := by decide +kernel
theorem dX10_oneTick_110 : decode cX10_oneTick 110 = .ok (.goto 4, 3) := by decide +kernel
theorem dX10_oneTick_113 : decode cX10_oneTick 113 = .ok (.iconst 0, 1) := by decide +kernel
theorem dX10_oneTick_114 : decode cX10_oneTick 114 = .ok (.iastore, 1) := by decide +kernel
theorem dX10_oneTick_115 : decode cX10_oneTick 115 = .ok (.aload_n 0, 1) := by decide +kernel
theorem dX10_oneTick_116 : decode cX10_oneTick 116 = .ok (.getfield 26, 3) := by decide +kernel
theorem dX10_oneTick_119 : decode cX10_oneTick 119 = .ok (.iload_n 1, 1) := by decide +kernel
theorem dX10_oneTick_120 : decode cX10_oneTick 120 = .ok (.baload, 1) := by decide +kernel
theorem dX10_oneTick_121 : decode cX10_oneTick 121 = .ok (.ifCond .eq 8, 3) := by decide +kernel
theorem dX10_oneTick_124 : decode cX10_oneTick 124 = .ok (.aload_n 0, 1) := by decide +kernel
theorem dX10_oneTick_125 : decode cX10_oneTick 125 = .ok (.iload_n 1, 1) := by decide +kernel
theorem dX10_oneTick_126 : decode cX10_oneTick 126 = .ok (.invokevirtual 255, 3) := by decide +kernel
theorem dX10_oneTick_129 : decode cX10_oneTick 129 = .ok (.iinc 1 1, 3) := by decide +kernel
theorem dX10_oneTick_132 : decode cX10_oneTick 132 = .ok (.goto (-75), 3) := by decide +kernel
theorem dX10_oneTick_135 : decode cX10_oneTick 135 = .ok (.iconst 1, 1) := by decide +kernel
theorem dX10_oneTick_136 : decode cX10_oneTick 136 = .ok (.istore_n 1, 1) := by decide +kernel
theorem dX10_oneTick_137 : decode cX10_oneTick 137 = .ok (.iload_n 1, 1) := by decide +kernel
theorem dX10_oneTick_138 : decode cX10_oneTick 138 = .ok (.ifCond .eq 43, 3) := by decide +kernel
theorem dX10_oneTick_141 : decode cX10_oneTick 141 = .ok (.iconst 0, 1) := by decide +kernel
theorem dX10_oneTick_142 : decode cX10_oneTick 142 = .ok (.istore_n 1, 1) := by decide +kernel
theorem dX10_oneTick_143 : decode cX10_oneTick 143 = .ok (.iconst 0, 1) := by decide +kernel
theorem dX10_oneTick_144 : decode cX10_oneTick 144 = .ok (.istore_n 2, 1) := by decide +kernel
theorem dX10_oneTick_145 : decode cX10_oneTick 145 = .ok (.iload_n 2, 1) := by decide +kernel
theorem dX10_oneTick_146 : decode cX10_oneTick 146 = .ok (.aload_n 0, 1) := by decide +kernel
theorem dX10_oneTick_147 : decode cX10_oneTick 147 = .ok (.getfield 136, 3) := by decide +kernel
theorem dX10_oneTick_150 : decode cX10_oneTick 150 = .ok (.if_icmp .ge 28, 3) := by decide +kernel
theorem dX10_oneTick_153 : decode cX10_oneTick 153 = .ok (.aload_n 0, 1) := by decide +kernel
theorem dX10_oneTick_154 : decode cX10_oneTick 154 = .ok (.getfield 117, 3) := by decide +kernel
theorem dX10_oneTick_157 : decode cX10_oneTick 157 = .ok (.iload_n 2, 1) := by decide +kernel
theorem dX10_oneTick_158 : decode cX10_oneTick 158 = .ok (.iaload, 1) := by decide +kernel
theorem dX10_oneTick_159 : decode cX10_oneTick 159 = .ok (.ifCond .le 13, 3) := by decide +kernel
theorem dX10_oneTick_162 : decode cX10_oneTick 162 = .ok (.aload_n 0, 1) := by decide +kernel
theorem dX10_oneTick_163 : decode cX10_oneTick 163 = .ok (.iload_n 2, 1) := by decide +kernel
theorem dX10_oneTick_164 : decode cX10_oneTick 164 = .ok (.invokevirtual 258, 3) := by decide +kernel
theorem dX10_oneTick_167 : decode cX10_oneTick 167 = .ok (.ifCond .eq 5, 3) := by decide +kernel
theorem dX10_oneTick_170 : decode cX10_oneTick 170 = .ok (.iconst 1, 1) := by decide +kernel
theorem dX10_oneTick_171 : decode cX10_oneTick 171 = .ok (.istore_n 1, 1) := by decide +kernel
theorem dX10_oneTick_172 : decode cX10_oneTick 172 = .ok (.iinc 2 1, 3) := by decide +kernel
theorem dX10_oneTick_175 : decode cX10_oneTick 175 = .ok (.goto (-30), 3) := by decide +kernel
theorem dX10_oneTick_178 : decode cX10_oneTick 178 = .ok (.goto (-41), 3) := by decide +kernel
theorem dX10_oneTick_181 : decode cX10_oneTick 181 = .ok (.aload_n 0, 1) := by decide +kernel
theorem dX10_oneTick_182 : decode cX10_oneTick 182 = .ok (.iconst 1, 1) := by decide +kernel
theorem dX10_oneTick_183 : decode cX10_oneTick 183 = .ok (.invokevirtual 248, 3) := by decide +kernel
theorem dX10_oneTick_186 : decode cX10_oneTick 186 = .ok (.return_, 1) := by decide +kernel
set_option maxRecDepth 20000 in
theorem ggX10_tick_X10_in : GoodIn wsX10_tick wsX10_in := goodIn_r _ [6] (by decide +kernel) (by decide +kernel)
set_option maxRecDepth 20000 in
theorem gX10_tick_X10_in : GoodIn wsX10_tick (va_wsS RX10 132 yX10_in wsX10_in) := goodIn_app (goodIn_of _ (by decide +kernel)) ggX10_tick_X10_in
set_option maxRecDepth 20000 in
theorem ggX10_tick_X10_oneTick : GoodIn wsX10_tick wsX10_oneTick := goodIn_r _ [10, 11, 12, 13, 14, 15, 16, 17, 18, 19, 20, 5, 21, 22, 23, 24, 25, 26, 27, 28, 29, 30, 31, 32, 33, 34, 35, 36, 37, 38, 39, 40, 41, 42, 43, 44, 45, 46, 47, 48, 49, 50, 51, 52, 53, 54, 55, 56, 57, 58, 59, 60, 61, 62, 63, 64, 65, 66, 67, 68, 69, 70, 71, 72, 73, 74, 75, 76, 77, 78, 79, 80, 81, 82, 83, 84, 85, 86, 87, 88, 89, 90, 91, 92, 93, 94, 95, 96, 97, 98, 99, 100, 101, 102, 103, 104, 105, 106, 107, 108, 109, 110, 111, 112, 113, 114, 115, 116, 117, 118, 119, 120, 121, 122, 123, 124, 125, 126, 127, 128, 129, 130, 131, 132, 133, 134, 135, 136, 137, 138, 139, 140, 141, 142, 143, 144, 145, 146, 147, 148, 149, 150, 151, 152, 153, 154, 155, 156, 157, 158, 159, 160, 161, 162, 2, 163, 164, 165, 166, 167, 168, 169, 170, 171, 172, 173, 174, 175, 176, 177, 178, 179, 180, 181, 182, 183, 184, 185, 186, 187, 188, 189, 190, 191, 192, 193, 194, 195, 196, 197, 198, 199, 200, 201, 202, 203, 204, 205, 206, 207, 208, 209, 210, 211, 212, 213] rfl (by decide +kernel)
set_option maxRecDepth 20000 in
theorem gX10_tick_X10_oneTick : GoodIn wsX10_tick (wsV RX10 261 RX10 yX10_oneTick wsX10_oneTick) := goodIn_app (goodIn_of _ (by decide +kernel)) ggX10_tick_X10_oneTick
theorem dX10_tick_0 : decode cX10_tick 0 = .ok (.aload_n 0, 1) := by decide +kernel
theorem dX10_tick_1 : decode cX10_tick 1 = .ok (.iconst 0, 1) := by decide +kernel
theorem dX10_tick_2 : decode cX10_tick 2 = .ok (.putfield 120, 3) := by decide +kernel
theorem dX10_tick_5 : decode cX10_tick 5 = .ok (.iload_n 1, 1) := by decide +kernel
theorem dX10_tick_6 : decode cX10_tick 6 = .ok (.iconst 0, 1) := by decide +kernel
theorem dX10_tick_7 : decode cX10_tick 7 = .ok (.bipush 50, 2) := by decide +kernel
theorem dX10_tick_9 : decode cX10_tick 9 = .ok (.invokestatic 132, 3) := by decide +kernel
theorem dX10_tick_12 : decode cX10_tick 12 = .ok (.ifCond .ne 5, 3) := by decide +kernel
theorem dX10_tick_15 : decode cX10_tick 15 = .ok (.iconst (-1), 1) := by decide +kernel
theorem dX10_tick_16 : decode cX10_tick 16 = .ok (.ireturn, 1) := by decide +kernel
theorem dX10_tick_17 : decode cX10_tick 17 = .ok (.aload_n 0, 1) := by decide +kernel
theorem dX10_tick_18 : decode cX10_tick 18 = .ok (.getfield 221, 3) := by decide +kernel
theorem dX10_tick_21 : decode cX10_tick 21 = .ok (.istore_n 2, 1) := by decide +kernel
theorem dX10_tick_22 : decode cX10_tick 22 = .ok (.iconst 0, 1) := by decide +kernel
theorem dX10_tick_23 : decode cX10_tick 23 = .ok (.istore_n 3, 1) := by decide +kernel
theorem dX10_tick_24 : decode cX10_tick 24 = .ok (.iload_n 3, 1) := by decide +kernel
theorem dX10_tick_25 : decode cX10_tick 25 = .ok (.iload_n 1, 1) := by decide +kernel
theorem dX10_tick_26 : decode cX10_tick 26 = .ok (.if_icmp .ge 13, 3) := by decide +kernel
theorem dX10_tick_29 : decode cX10_tick 29 = .ok (.aload_n 0, 1) := by decide +kernel
theorem dX10_tick_30 : decode cX10_tick 30 = .ok (.invokevirtual 261, 3) := by decide +kernel
theorem dX10_tick_33 : decode cX10_tick 33 = .ok (.iinc 3 1, 3) := by decide +kernel
theorem dX10_tick_36 : decode cX10_tick 36 = .ok (.goto (-12), 3) := by decide +kernel
theorem dX10_tick_39 : decode cX10_tick 39 = .ok (.aload_n 0, 1) := by decide +kernel
theorem dX10_tick_40 : decode cX10_tick 40 = .ok (.getfield 221, 3) := by decide +kernel
theorem dX10_tick_43 : decode cX10_tick 43 = .ok (.iload_n 2, 1) := by decide +kernel
theorem dX10_tick_44 : decode cX10_tick 44 = .ok (.isub, 1) := by decide +kernel
theorem dX10_tick_45 : decode cX10_tick 45 = .ok (.ireturn, 1) := by decide +kernel
set_option maxRecDepth 20000 in
theorem ggX10_holdsMany_X10_heldMany : GoodIn wsX10_holdsMany wsX10_heldMany := goodIn_r _ [7, 8, 9, 10, 11, 6, 12, 13, 14, 15, 16, 17, 18, 19, 20, 21, 22, 23, 24, 25, 26, 27, 28, 29, 30, 31, 32, 33, 34, 35, 36, 37, 38, 39, 40, 41, 42, 43, 44, 45, 46, 47, 48, 49, 50, 51, 52, 53, 54, 55, 56, 57] (by decide +kernel) (by decide +kernel)
set_option maxRecDepth 20000 in
theorem gX10_holdsMany_X10_heldMany : GoodIn wsX10_holdsMany (wsV RX10 193 RX10 yX10_heldMany wsX10_heldMany) := goodIn_app (goodIn_of _ (by decide +kernel)) ggX10_holdsMany_X10_heldMany
theorem dX10_holdsMany_0 : decode cX10_holdsMany 0 = .ok (.iconst 0, 1) := by decide +kernel
theorem dX10_holdsMany_1 : decode cX10_holdsMany 1 = .ok (.istore_n 2, 1) := by decide +kernel
theorem dX10_holdsMany_2 : decode cX10_holdsMany 2 = .ok (.iconst 0, 1) := by decide +kernel
theorem dX10_holdsMany_3 : decode cX10_holdsMany 3 = .ok (.istore_n 3, 1) := by decide +kernel
theorem dX10_holdsMany_4 : decode cX10_holdsMany 4 = .ok (.iload_n 3, 1) := by decide +kernel
theorem dX10_holdsMany_5 : decode cX10_holdsMany 5 = .ok (.aload_n 0, 1) := by decide +kernel
theorem dX10_holdsMany_6 : decode cX10_holdsMany 6 = .ok (.getfield 7, 3) := by decide +kernel
theorem dX10_holdsMany_9 : decode cX10_holdsMany 9 = .ok (.if_icmp .ge 36, 3) := by decide +kernel
theorem dX10_holdsMany_12 : decode cX10_holdsMany 12 = .ok (.iload_n 2, 1) := by decide +kernel
theorem dX10_holdsMany_13 : decode cX10_holdsMany 13 = .ok (.aload_n 0, 1) := by decide +kernel
theorem dX10_holdsMany_14 : decode cX10_holdsMany 14 = .ok (.getfield 48, 3) := by decide +kernel
theorem dX10_holdsMany_17 : decode cX10_holdsMany 17 = .ok (.bipush 24, 2) := by decide +kernel
theorem dX10_holdsMany_19 : decode cX10_holdsMany 19 = .ok (.iload_n 1, 1) := by decide +kernel
theorem dX10_holdsMany_20 : decode cX10_holdsMany 20 = .ok (.imul, 1) := by decide +kernel
theorem dX10_holdsMany_21 : decode cX10_holdsMany 21 = .ok (.iload_n 3, 1) := by decide +kernel
theorem dX10_holdsMany_22 : decode cX10_holdsMany 22 = .ok (.iadd, 1) := by decide +kernel
theorem dX10_holdsMany_23 : decode cX10_holdsMany 23 = .ok (.baload, 1) := by decide +kernel
theorem dX10_holdsMany_24 : decode cX10_holdsMany 24 = .ok (.ifCond .eq 7, 3) := by decide +kernel
theorem dX10_holdsMany_27 : decode cX10_holdsMany 27 = .ok (.iconst 0, 1) := by decide +kernel
theorem dX10_holdsMany_28 : decode cX10_holdsMany 28 = .ok (.goto 9, 3) := by decide +kernel
theorem dX10_holdsMany_31 : decode cX10_holdsMany 31 = .ok (.aload_n 0, 1) := by decide +kernel
theorem dX10_holdsMany_32 : decode cX10_holdsMany 32 = .ok (.iload_n 1, 1) := by decide +kernel
theorem dX10_holdsMany_33 : decode cX10_holdsMany 33 = .ok (.iload_n 3, 1) := by decide +kernel
theorem dX10_holdsMany_34 : decode cX10_holdsMany 34 = .ok (.invokevirtual 193, 3) := by decide +kernel
theorem dX10_holdsMany_37 : decode cX10_holdsMany 37 = .ok (.iadd, 1) := by decide +kernel
theorem dX10_holdsMany_38 : decode cX10_holdsMany 38 = .ok (.istore_n 2, 1) := by decide +kernel
theorem dX10_holdsMany_39 : decode cX10_holdsMany 39 = .ok (.iinc 3 1, 3) := by decide +kernel
theorem dX10_holdsMany_42 : decode cX10_holdsMany 42 = .ok (.goto (-38), 3) := by decide +kernel
theorem dX10_holdsMany_45 : decode cX10_holdsMany 45 = .ok (.iload_n 2, 1) := by decide +kernel
theorem dX10_holdsMany_46 : decode cX10_holdsMany 46 = .ok (.ireturn, 1) := by decide +kernel
theorem dX10_count_0 : decode cX10_count 0 = .ok (.iconst 0, 1) := by decide +kernel
theorem dX10_count_1 : decode cX10_count 1 = .ok (.istore 4, 2) := by decide +kernel
theorem dX10_count_3 : decode cX10_count 3 = .ok (.iconst 0, 1) := by decide +kernel
theorem dX10_count_4 : decode cX10_count 4 = .ok (.istore 5, 2) := by decide +kernel
theorem dX10_count_6 : decode cX10_count 6 = .ok (.iload 5, 2) := by decide +kernel
theorem dX10_count_8 : decode cX10_count 8 = .ok (.iload_n 3, 1) := by decide +kernel
theorem dX10_count_9 : decode cX10_count 9 = .ok (.if_icmp .ge 28, 3) := by decide +kernel
theorem dX10_count_12 : decode cX10_count 12 = .ok (.iload 4, 2) := by decide +kernel
theorem dX10_count_14 : decode cX10_count 14 = .ok (.aload_n 1, 1) := by decide +kernel
theorem dX10_count_15 : decode cX10_count 15 = .ok (.iload_n 2, 1) := by decide +kernel
theorem dX10_count_16 : decode cX10_count 16 = .ok (.iload 5, 2) := by decide +kernel
theorem dX10_count_18 : decode cX10_count 18 = .ok (.iadd, 1) := by decide +kernel
theorem dX10_count_19 : decode cX10_count 19 = .ok (.baload, 1) := by decide +kernel
theorem dX10_count_20 : decode cX10_count 20 = .ok (.ifCond .eq 7, 3) := by decide +kernel
theorem dX10_count_23 : decode cX10_count 23 = .ok (.iconst 1, 1) := by decide +kernel
theorem dX10_count_24 : decode cX10_count 24 = .ok (.goto 4, 3) := by decide +kernel
theorem dX10_count_27 : decode cX10_count 27 = .ok (.iconst 0, 1) := by decide +kernel
theorem dX10_count_28 : decode cX10_count 28 = .ok (.iadd, 1) := by decide +kernel
theorem dX10_count_29 : decode cX10_count 29 = .ok (.istore 4, 2) := by decide +kernel
theorem dX10_count_31 : decode cX10_count 31 = .ok (.iinc 5 1, 3) := by decide +kernel
theorem dX10_count_34 : decode cX10_count 34 = .ok (.goto (-28), 3) := by decide +kernel
theorem dX10_count_37 : decode cX10_count 37 = .ok (.iload 4, 2) := by decide +kernel
theorem dX10_count_39 : decode cX10_count 39 = .ok (.ireturn, 1) := by decide +kernel
theorem dX10_comingTo_0 : decode cX10_comingTo 0 = .ok (.iconst 0, 1) := by decide +kernel
theorem dX10_comingTo_1 : decode cX10_comingTo 1 = .ok (.istore_n 2, 1) := by decide +kernel
theorem dX10_comingTo_2 : decode cX10_comingTo 2 = .ok (.iconst 0, 1) := by decide +kernel
theorem dX10_comingTo_3 : decode cX10_comingTo 3 = .ok (.istore_n 3, 1) := by decide +kernel
theorem dX10_comingTo_4 : decode cX10_comingTo 4 = .ok (.iload_n 3, 1) := by decide +kernel
theorem dX10_comingTo_5 : decode cX10_comingTo 5 = .ok (.aload_n 0, 1) := by decide +kernel
theorem dX10_comingTo_6 : decode cX10_comingTo 6 = .ok (.getfield 170, 3) := by decide +kernel
theorem dX10_comingTo_9 : decode cX10_comingTo 9 = .ok (.if_icmp .ge 27, 3) := by decide +kernel
theorem dX10_comingTo_12 : decode cX10_comingTo 12 = .ok (.iload_n 2, 1) := by decide +kernel
theorem dX10_comingTo_13 : decode cX10_comingTo 13 = .ok (.aload_n 0, 1) := by decide +kernel
theorem dX10_comingTo_14 : decode cX10_comingTo 14 = .ok (.getfield 90, 3) := by decide +kernel
theorem dX10_comingTo_17 : decode cX10_comingTo 17 = .ok (.iload_n 3, 1) := by decide +kernel
theorem dX10_comingTo_18 : decode cX10_comingTo 18 = .ok (.iaload, 1) := by decide +kernel
theorem dX10_comingTo_19 : decode cX10_comingTo 19 = .ok (.iload_n 1, 1) := by decide +kernel
theorem dX10_comingTo_20 : decode cX10_comingTo 20 = .ok (.if_icmp .ne 7, 3) := by decide +kernel
theorem dX10_comingTo_23 : decode cX10_comingTo 23 = .ok (.iconst 1, 1) := by decide +kernel
theorem dX10_comingTo_24 : decode cX10_comingTo 24 = .ok (.goto 4, 3) := by decide +kernel
theorem dX10_comingTo_27 : decode cX10_comingTo 27 = .ok (.iconst 0, 1) := by decide +kernel
theorem dX10_comingTo_28 : decode cX10_comingTo 28 = .ok (.iadd, 1) := by decide +kernel
theorem dX10_comingTo_29 : decode cX10_comingTo 29 = .ok (.istore_n 2, 1) := by decide +kernel
theorem dX10_comingTo_30 : decode cX10_comingTo 30 = .ok (.iinc 3 1, 3) := by decide +kernel
theorem dX10_comingTo_33 : decode cX10_comingTo 33 = .ok (.goto (-29), 3) := by decide +kernel
theorem dX10_comingTo_36 : decode cX10_comingTo 36 = .ok (.iload_n 2, 1) := by decide +kernel
theorem dX10_comingTo_37 : decode cX10_comingTo 37 = .ok (.ireturn, 1) := by decide +kernel
set_option maxRecDepth 20000 in
theorem ggX10_openTo_X10_isOpenTo : GoodIn wsX10_openTo wsX10_isOpenTo := goodIn_r _ [6, 7, 8, 9, 5, 10, 11, 12, 13, 14, 15, 16, 17, 18, 19, 20, 21, 22, 23, 24, 25, 26, 27, 28, 29, 30, 31, 32, 33, 34, 35, 36, 37, 38, 39, 40, 41, 42, 43, 44, 45, 46, 47, 48, 49, 50, 51, 52, 53, 54, 55, 56, 57, 58, 59, 60, 61, 62] (by decide +kernel) (by decide +kernel)
set_option maxRecDepth 20000 in
theorem gX10_openTo_X10_isOpenTo : GoodIn wsX10_openTo (wsV RX10 264 RX10 yX10_isOpenTo wsX10_isOpenTo) := goodIn_app (goodIn_of _ (by decide +kernel)) ggX10_openTo_X10_isOpenTo
theorem dX10_openTo_0 : decode cX10_openTo 0 = .ok (.iconst 0, 1) := by decide +kernel
theorem dX10_openTo_1 : decode cX10_openTo 1 = .ok (.istore_n 2, 1) := by decide +kernel
theorem dX10_openTo_2 : decode cX10_openTo 2 = .ok (.iconst 0, 1) := by decide +kernel
theorem dX10_openTo_3 : decode cX10_openTo 3 = .ok (.istore_n 3, 1) := by decide +kernel
theorem dX10_openTo_4 : decode cX10_openTo 4 = .ok (.iload_n 3, 1) := by decide +kernel
theorem dX10_openTo_5 : decode cX10_openTo 5 = .ok (.aload_n 0, 1) := by decide +kernel
theorem dX10_openTo_6 : decode cX10_openTo 6 = .ok (.getfield 136, 3) := by decide +kernel
theorem dX10_openTo_9 : decode cX10_openTo 9 = .ok (.if_icmp .ge 26, 3) := by decide +kernel
theorem dX10_openTo_12 : decode cX10_openTo 12 = .ok (.iload_n 2, 1) := by decide +kernel
theorem dX10_openTo_13 : decode cX10_openTo 13 = .ok (.aload_n 0, 1) := by decide +kernel
theorem dX10_openTo_14 : decode cX10_openTo 14 = .ok (.iload_n 1, 1) := by decide +kernel
theorem dX10_openTo_15 : decode cX10_openTo 15 = .ok (.iload_n 3, 1) := by decide +kernel
theorem dX10_openTo_16 : decode cX10_openTo 16 = .ok (.invokevirtual 264, 3) := by decide +kernel
theorem dX10_openTo_19 : decode cX10_openTo 19 = .ok (.ifCond .eq 7, 3) := by decide +kernel
theorem dX10_openTo_22 : decode cX10_openTo 22 = .ok (.iconst 1, 1) := by decide +kernel
theorem dX10_openTo_23 : decode cX10_openTo 23 = .ok (.goto 4, 3) := by decide +kernel
theorem dX10_openTo_26 : decode cX10_openTo 26 = .ok (.iconst 0, 1) := by decide +kernel
end
section
theorem dX10_openTo_27 : decode cX10_openTo 27 = .ok (.iadd, 1) := by decide +kernel
theorem dX10_openTo_28 : decode cX10_openTo 28 = .ok (.istore_n 2, 1) := by decide +kernel
theorem dX10_openTo_29 : decode cX10_openTo 29 = .ok (.iinc 3 1, 3) := by decide +kernel
theorem dX10_openTo_32 : decode cX10_openTo 32 = .ok (.goto (-28), 3) := by decide +kernel
theorem dX10_openTo_35 : decode cX10_openTo 35 = .ok (.iload_n 2, 1) := by decide +kernel
theorem dX10_openTo_36 : decode cX10_openTo 36 = .ok (.ireturn, 1) := by decide +kernel
set_option maxRecDepth 20000 in
theorem ggX10_isOpenTo_X10_two : GoodIn wsX10_isOpenTo wsX10_two := goodIn_r _ [5] (by decide +kernel) (by decide +kernel)
set_option maxRecDepth 20000 in
theorem gX10_isOpenTo_X10_two : GoodIn wsX10_isOpenTo (va_wsS RX10 151 yX10_two wsX10_two) := goodIn_app (goodIn_of _ (by decide +kernel)) ggX10_isOpenTo_X10_two
set_option maxRecDepth 20000 in
theorem ggX10_isOpenTo_X10_isNear : GoodIn wsX10_isOpenTo wsX10_isNear := goodIn_r _ [9, 10, 11, 12, 2, 3, 4, 5, 13, 14, 15, 16, 17, 18, 19, 20, 21, 22, 23, 24, 25, 26, 27, 28, 29, 30, 31, 32, 33, 34, 35, 36, 37, 38, 39, 40, 41, 42, 43, 44, 45, 46, 47, 48, 49, 50, 51, 52, 53, 54, 55, 56, 57] (by decide +kernel) (by decide +kernel)
set_option maxRecDepth 20000 in
theorem gX10_isOpenTo_X10_isNear : GoodIn wsX10_isOpenTo (wsV RX10 154 RX10 yX10_isNear wsX10_isNear) := goodIn_app (goodIn_of _ (by decide +kernel)) ggX10_isOpenTo_X10_isNear
theorem dX10_isOpenTo_0 : decode cX10_isOpenTo 0 = .ok (.iload_n 1, 1) := by decide +kernel
theorem dX10_isOpenTo_1 : decode cX10_isOpenTo 1 = .ok (.iload_n 2, 1) := by decide +kernel
theorem dX10_isOpenTo_2 : decode cX10_isOpenTo 2 = .ok (.if_icmp .eq 29, 3) := by decide +kernel
theorem dX10_isOpenTo_5 : decode cX10_isOpenTo 5 = .ok (.aload_n 0, 1) := by decide +kernel
theorem dX10_isOpenTo_6 : decode cX10_isOpenTo 6 = .ok (.getfield 66, 3) := by decide +kernel
theorem dX10_isOpenTo_9 : decode cX10_isOpenTo 9 = .ok (.iload_n 1, 1) := by decide +kernel
theorem dX10_isOpenTo_10 : decode cX10_isOpenTo 10 = .ok (.iload_n 2, 1) := by decide +kernel
theorem dX10_isOpenTo_11 : decode cX10_isOpenTo 11 = .ok (.invokestatic 151, 3) := by decide +kernel
theorem dX10_isOpenTo_14 : decode cX10_isOpenTo 14 = .ok (.baload, 1) := by decide +kernel
theorem dX10_isOpenTo_15 : decode cX10_isOpenTo 15 = .ok (.ifCond .eq 16, 3) := by decide +kernel
theorem dX10_isOpenTo_18 : decode cX10_isOpenTo 18 = .ok (.aload_n 0, 1) := by decide +kernel
theorem dX10_isOpenTo_19 : decode cX10_isOpenTo 19 = .ok (.iload_n 1, 1) := by decide +kernel
theorem dX10_isOpenTo_20 : decode cX10_isOpenTo 20 = .ok (.iload_n 2, 1) := by decide +kernel
theorem dX10_isOpenTo_21 : decode cX10_isOpenTo 21 = .ok (.invokevirtual 154, 3) := by decide +kernel
theorem dX10_isOpenTo_24 : decode cX10_isOpenTo 24 = .ok (.ifCond .eq 7, 3) := by decide +kernel
theorem dX10_isOpenTo_27 : decode cX10_isOpenTo 27 = .ok (.iconst 1, 1) := by decide +kernel
theorem dX10_isOpenTo_28 : decode cX10_isOpenTo 28 = .ok (.goto 4, 3) := by decide +kernel
theorem dX10_isOpenTo_31 : decode cX10_isOpenTo 31 = .ok (.iconst 0, 1) := by decide +kernel
theorem dX10_isOpenTo_32 : decode cX10_isOpenTo 32 = .ok (.ireturn, 1) := by decide +kernel
set_option maxRecDepth 20000 in
theorem ggX10_about_X10_isPeer : GoodIn wsX10_about wsX10_isPeer := goodIn_r _ [18, 12, 19, 20, 17, 21, 66, 67, 68, 69, 70, 71, 72, 73, 74, 75, 76, 77, 78, 79, 80, 81, 82, 83, 84, 85, 86, 87, 88, 89, 90, 91, 92, 93, 94, 95, 96, 97, 98, 99, 100, 101, 102, 103, 104, 105, 106, 107, 108, 109, 110] (by decide +kernel) (by decide +kernel)
set_option maxRecDepth 20000 in
theorem gX10_about_X10_isPeer : GoodIn wsX10_about (wsV RX10 147 RX10 yX10_isPeer wsX10_isPeer) := goodIn_app (goodIn_of _ (by decide +kernel)) ggX10_about_X10_isPeer
set_option maxRecDepth 20000 in
theorem ggX10_about_X10_hasMany : GoodIn wsX10_about wsX10_hasMany := goodIn_r _ [25, 9, 26, 66, 67, 68, 69, 70, 71, 72, 73, 74, 75, 76, 77, 78, 79, 80, 81, 82, 83, 84, 85, 86, 87, 88, 89, 90, 91, 92, 93, 94, 95, 96, 97, 98, 99, 100, 101, 102, 103, 104, 105, 106, 107, 108, 109, 110] (by decide +kernel) (by decide +kernel)
set_option maxRecDepth 20000 in
theorem gX10_about_X10_hasMany : GoodIn wsX10_about (wsV RX10 160 RX10 yX10_hasMany wsX10_hasMany) := goodIn_app (goodIn_of _ (by decide +kernel)) ggX10_about_X10_hasMany
set_option maxRecDepth 20000 in
theorem ggX10_about_X10_holdsMany : GoodIn wsX10_about wsX10_holdsMany := goodIn_r _ [30, 9, 26, 31, 32, 33, 17, 34, 35, 36, 37, 38, 39, 66, 67, 68, 69, 70, 71, 72, 73, 74, 75, 76, 77, 78, 79, 80, 81, 82, 83, 84, 85, 86, 87, 88, 89, 90, 91, 92, 93, 94, 95, 96, 97, 98, 99, 100, 101, 102, 103, 104, 105, 106, 107, 108, 109, 110] (by decide +kernel) (by decide +kernel)
set_option maxRecDepth 20000 in
theorem gX10_about_X10_holdsMany : GoodIn wsX10_about (wsV RX10 267 RX10 yX10_holdsMany wsX10_holdsMany) := goodIn_app (goodIn_of _ (by decide +kernel)) ggX10_about_X10_holdsMany
set_option maxRecDepth 20000 in
theorem ggX10_about_X10_count : GoodIn wsX10_about wsX10_count := goodIn_r _ [43] (by decide +kernel) (by decide +kernel)
set_option maxRecDepth 20000 in
theorem gX10_about_X10_count : GoodIn wsX10_about (wsV RX10 270 RX10 yX10_count wsX10_count) := goodIn_app (goodIn_of _ (by decide +kernel)) ggX10_about_X10_count
set_option maxRecDepth 20000 in
theorem ggX10_about_X10_comingTo : GoodIn wsX10_about wsX10_comingTo := goodIn_r _ [47, 48, 49, 66, 67, 68, 69, 70, 71, 72, 73, 74, 75, 76, 77, 78, 79, 80, 81, 82, 83, 84, 85, 86, 87, 88, 89, 90, 91, 92, 93, 94, 95, 96, 97, 98, 99, 100, 101, 102, 103, 104, 105, 106, 107, 108, 109, 110] (by decide +kernel) (by decide +kernel)
set_option maxRecDepth 20000 in
theorem gX10_about_X10_comingTo : GoodIn wsX10_about (wsV RX10 274 RX10 yX10_comingTo wsX10_comingTo) := goodIn_app (goodIn_of _ (by decide +kernel)) ggX10_about_X10_comingTo
set_option maxRecDepth 20000 in
theorem ggX10_about_X10_openTo : GoodIn wsX10_about wsX10_openTo := goodIn_r _ [53, 12, 54, 55, 56, 17, 57, 58, 59, 60, 61, 62, 63, 64, 65, 13, 3, 11, 66, 67, 68, 69, 70, 71, 72, 73, 74, 75, 76, 77, 78, 79, 80, 81, 82, 83, 84, 85, 86, 87, 88, 89, 90, 91, 92, 93, 94, 95, 96, 97, 98, 99, 100, 101, 102, 103, 104, 105, 106, 107, 108, 109, 110] (by decide +kernel) (by decide +kernel)
set_option maxRecDepth 20000 in
theorem gX10_about_X10_openTo : GoodIn wsX10_about (wsV RX10 277 RX10 yX10_openTo wsX10_openTo) := goodIn_app (goodIn_of _ (by decide +kernel)) ggX10_about_X10_openTo
theorem dX10_about_0 : decode cX10_about 0 = .ok (.aload_n 0, 1) := by decide +kernel
theorem dX10_about_1 : decode cX10_about 1 = .ok (.iconst 0, 1) := by decide +kernel
theorem dX10_about_2 : decode cX10_about 2 = .ok (.putfield 120, 3) := by decide +kernel
theorem dX10_about_5 : decode cX10_about 5 = .ok (.aload_n 0, 1) := by decide +kernel
theorem dX10_about_6 : decode cX10_about 6 = .ok (.iload_n 1, 1) := by decide +kernel
theorem dX10_about_7 : decode cX10_about 7 = .ok (.invokevirtual 147, 3) := by decide +kernel
theorem dX10_about_10 : decode cX10_about 10 = .ok (.ifCond .ne 5, 3) := by decide +kernel
theorem dX10_about_13 : decode cX10_about 13 = .ok (.iconst (-1), 1) := by decide +kernel
theorem dX10_about_14 : decode cX10_about 14 = .ok (.ireturn, 1) := by decide +kernel
theorem dX10_about_15 : decode cX10_about 15 = .ok (.iload_n 2, 1) := by decide +kernel
theorem dX10_about_16 : decode cX10_about 16 = .ok (.tableswitch 204 0 13 #[72, 79, 94, 100, 106, 113, 120, 127, 134, 151, 158, 164, 181, 187], 72) := by decide +kernel
theorem dX10_about_88 : decode cX10_about 88 = .ok (.aload_n 0, 1) := by decide +kernel
theorem dX10_about_89 : decode cX10_about 89 = .ok (.getfield 16, 3) := by decide +kernel
theorem dX10_about_92 : decode cX10_about 92 = .ok (.iload_n 1, 1) := by decide +kernel
theorem dX10_about_93 : decode cX10_about 93 = .ok (.iaload, 1) := by decide +kernel
theorem dX10_about_94 : decode cX10_about 94 = .ok (.ireturn, 1) := by decide +kernel
theorem dX10_about_95 : decode cX10_about 95 = .ok (.aload_n 0, 1) := by decide +kernel
theorem dX10_about_96 : decode cX10_about 96 = .ok (.getfield 26, 3) := by decide +kernel
theorem dX10_about_99 : decode cX10_about 99 = .ok (.iload_n 1, 1) := by decide +kernel
theorem dX10_about_100 : decode cX10_about 100 = .ok (.baload, 1) := by decide +kernel
theorem dX10_about_101 : decode cX10_about 101 = .ok (.ifCond .eq 7, 3) := by decide +kernel
theorem dX10_about_104 : decode cX10_about 104 = .ok (.iconst 1, 1) := by decide +kernel
theorem dX10_about_105 : decode cX10_about 105 = .ok (.goto 4, 3) := by decide +kernel
theorem dX10_about_108 : decode cX10_about 108 = .ok (.iconst 0, 1) := by decide +kernel
theorem dX10_about_109 : decode cX10_about 109 = .ok (.ireturn, 1) := by decide +kernel
theorem dX10_about_110 : decode cX10_about 110 = .ok (.aload_n 0, 1) := by decide +kernel
theorem dX10_about_111 : decode cX10_about 111 = .ok (.iload_n 1, 1) := by decide +kernel
theorem dX10_about_112 : decode cX10_about 112 = .ok (.invokevirtual 160, 3) := by decide +kernel
theorem dX10_about_115 : decode cX10_about 115 = .ok (.ireturn, 1) := by decide +kernel
theorem dX10_about_116 : decode cX10_about 116 = .ok (.aload_n 0, 1) := by decide +kernel
theorem dX10_about_117 : decode cX10_about 117 = .ok (.iload_n 1, 1) := by decide +kernel
theorem dX10_about_118 : decode cX10_about 118 = .ok (.invokevirtual 267, 3) := by decide +kernel
theorem dX10_about_121 : decode cX10_about 121 = .ok (.ireturn, 1) := by decide +kernel
theorem dX10_about_122 : decode cX10_about 122 = .ok (.aload_n 0, 1) := by decide +kernel
theorem dX10_about_123 : decode cX10_about 123 = .ok (.getfield 33, 3) := by decide +kernel
theorem dX10_about_126 : decode cX10_about 126 = .ok (.iload_n 1, 1) := by decide +kernel
theorem dX10_about_127 : decode cX10_about 127 = .ok (.iaload, 1) := by decide +kernel
theorem dX10_about_128 : decode cX10_about 128 = .ok (.ireturn, 1) := by decide +kernel
theorem dX10_about_129 : decode cX10_about 129 = .ok (.aload_n 0, 1) := by decide +kernel
theorem dX10_about_130 : decode cX10_about 130 = .ok (.getfield 36, 3) := by decide +kernel
theorem dX10_about_133 : decode cX10_about 133 = .ok (.iload_n 1, 1) := by decide +kernel
theorem dX10_about_134 : decode cX10_about 134 = .ok (.iaload, 1) := by decide +kernel
theorem dX10_about_135 : decode cX10_about 135 = .ok (.ireturn, 1) := by decide +kernel
theorem dX10_about_136 : decode cX10_about 136 = .ok (.aload_n 0, 1) := by decide +kernel
theorem dX10_about_137 : decode cX10_about 137 = .ok (.getfield 39, 3) := by decide +kernel
theorem dX10_about_140 : decode cX10_about 140 = .ok (.iload_n 1, 1) := by decide +kernel
theorem dX10_about_141 : decode cX10_about 141 = .ok (.iaload, 1) := by decide +kernel
theorem dX10_about_142 : decode cX10_about 142 = .ok (.ireturn, 1) := by decide +kernel
theorem dX10_about_143 : decode cX10_about 143 = .ok (.aload_n 0, 1) := by decide +kernel
theorem dX10_about_144 : decode cX10_about 144 = .ok (.getfield 42, 3) := by decide +kernel
theorem dX10_about_147 : decode cX10_about 147 = .ok (.iload_n 1, 1) := by decide +kernel
theorem dX10_about_148 : decode cX10_about 148 = .ok (.iaload, 1) := by decide +kernel
theorem dX10_about_149 : decode cX10_about 149 = .ok (.ireturn, 1) := by decide +kernel
theorem dX10_about_150 : decode cX10_about 150 = .ok (.aload_n 0, 1) := by decide +kernel
theorem dX10_about_151 : decode cX10_about 151 = .ok (.aload_n 0, 1) := by decide +kernel
theorem dX10_about_152 : decode cX10_about 152 = .ok (.getfield 51, 3) := by decide +kernel
theorem dX10_about_155 : decode cX10_about 155 = .ok (.bipush 24, 2) := by decide +kernel
theorem dX10_about_157 : decode cX10_about 157 = .ok (.iload_n 1, 1) := by decide +kernel
theorem dX10_about_158 : decode cX10_about 158 = .ok (.imul, 1) := by decide +kernel
theorem dX10_about_159 : decode cX10_about 159 = .ok (.aload_n 0, 1) := by decide +kernel
theorem dX10_about_160 : decode cX10_about 160 = .ok (.getfield 7, 3) := by decide +kernel
theorem dX10_about_163 : decode cX10_about 163 = .ok (.invokevirtual 270, 3) := by decide +kernel
theorem dX10_about_166 : decode cX10_about 166 = .ok (.ireturn, 1) := by decide +kernel
theorem dX10_about_167 : decode cX10_about 167 = .ok (.aload_n 0, 1) := by decide +kernel
theorem dX10_about_168 : decode cX10_about 168 = .ok (.getfield 45, 3) := by decide +kernel
theorem dX10_about_171 : decode cX10_about 171 = .ok (.iload_n 1, 1) := by decide +kernel
theorem dX10_about_172 : decode cX10_about 172 = .ok (.iaload, 1) := by decide +kernel
theorem dX10_about_173 : decode cX10_about 173 = .ok (.ireturn, 1) := by decide +kernel
theorem dX10_about_174 : decode cX10_about 174 = .ok (.aload_n 0, 1) := by decide +kernel
theorem dX10_about_175 : decode cX10_about 175 = .ok (.iload_n 1, 1) := by decide +kernel
theorem dX10_about_176 : decode cX10_about 176 = .ok (.invokevirtual 274, 3) := by decide +kernel
theorem dX10_about_179 : decode cX10_about 179 = .ok (.ireturn, 1) := by decide +kernel
theorem dX10_about_180 : decode cX10_about 180 = .ok (.aload_n 0, 1) := by decide +kernel
theorem dX10_about_181 : decode cX10_about 181 = .ok (.aload_n 0, 1) := by decide +kernel
theorem dX10_about_182 : decode cX10_about 182 = .ok (.getfield 69, 3) := by decide +kernel
theorem dX10_about_185 : decode cX10_about 185 = .ok (.bipush 12, 2) := by decide +kernel
theorem dX10_about_187 : decode cX10_about 187 = .ok (.iload_n 1, 1) := by decide +kernel
theorem dX10_about_188 : decode cX10_about 188 = .ok (.imul, 1) := by decide +kernel
theorem dX10_about_189 : decode cX10_about 189 = .ok (.aload_n 0, 1) := by decide +kernel
theorem dX10_about_190 : decode cX10_about 190 = .ok (.getfield 136, 3) := by decide +kernel
theorem dX10_about_193 : decode cX10_about 193 = .ok (.invokevirtual 270, 3) := by decide +kernel
theorem dX10_about_196 : decode cX10_about 196 = .ok (.ireturn, 1) := by decide +kernel
theorem dX10_about_197 : decode cX10_about 197 = .ok (.aload_n 0, 1) := by decide +kernel
theorem dX10_about_198 : decode cX10_about 198 = .ok (.iload_n 1, 1) := by decide +kernel
theorem dX10_about_199 : decode cX10_about 199 = .ok (.invokevirtual 277, 3) := by decide +kernel
theorem dX10_about_202 : decode cX10_about 202 = .ok (.ireturn, 1) := by decide +kernel
theorem dX10_about_203 : decode cX10_about 203 = .ok (.aload_n 0, 1) := by decide +kernel
theorem dX10_about_204 : decode cX10_about 204 = .ok (.aload_n 0, 1) := by decide +kernel
theorem dX10_about_205 : decode cX10_about 205 = .ok (.getfield 63, 3) := by decide +kernel
theorem dX10_about_208 : decode cX10_about 208 = .ok (.bipush 12, 2) := by decide +kernel
theorem dX10_about_210 : decode cX10_about 210 = .ok (.iload_n 1, 1) := by decide +kernel
theorem dX10_about_211 : decode cX10_about 211 = .ok (.imul, 1) := by decide +kernel
theorem dX10_about_212 : decode cX10_about 212 = .ok (.aload_n 0, 1) := by decide +kernel
theorem dX10_about_213 : decode cX10_about 213 = .ok (.getfield 136, 3) := by decide +kernel
theorem dX10_about_216 : decode cX10_about 216 = .ok (.invokevirtual 270, 3) := by decide +kernel
theorem dX10_about_219 : decode cX10_about 219 = .ok (.ireturn, 1) := by decide +kernel
theorem dX10_about_220 : decode cX10_about 220 = .ok (.iconst (-1), 1) := by decide +kernel
theorem dX10_about_221 : decode cX10_about 221 = .ok (.ireturn, 1) := by decide +kernel
set_option maxRecDepth 20000 in
theorem ggX10_held_X10_isPeer : GoodIn wsX10_held wsX10_isPeer := goodIn_r _ [6, 7, 8, 9, 5, 10, 25, 26, 27, 28, 29, 30, 31, 32, 33, 34, 35, 36, 37, 38, 39, 40, 41, 42, 43, 44, 45, 46, 47, 48, 49, 50, 51, 52, 53, 54, 55, 56, 57, 58, 59, 60, 61, 62, 63, 64, 65, 66, 67, 68, 69] (by decide +kernel) (by decide +kernel)
set_option maxRecDepth 20000 in
theorem gX10_held_X10_isPeer : GoodIn wsX10_held (wsV RX10 147 RX10 yX10_isPeer wsX10_isPeer) := goodIn_app (goodIn_of _ (by decide +kernel)) ggX10_held_X10_isPeer
set_option maxRecDepth 20000 in
theorem ggX10_held_X10_isBlock : GoodIn wsX10_held wsX10_isBlock := goodIn_r _ [14, 15, 16, 8, 9, 5, 10, 25, 26, 27, 28, 29, 30, 31, 32, 33, 34, 35, 36, 37, 38, 39, 40, 41, 42, 43, 44, 45, 46, 47, 48, 49, 50, 51, 52, 53, 54, 55, 56, 57, 58, 59, 60, 61, 62, 63, 64, 65, 66, 67, 68, 69] (by decide +kernel) (by decide +kernel)
set_option maxRecDepth 20000 in
theorem gX10_held_X10_isBlock : GoodIn wsX10_held (wsV RX10 139 RX10 yX10_isBlock wsX10_isBlock) := goodIn_app (goodIn_of _ (by decide +kernel)) ggX10_held_X10_isBlock
set_option maxRecDepth 20000 in
theorem ggX10_held_X10_heldMany : GoodIn wsX10_held wsX10_heldMany := goodIn_r _ [20, 16, 21, 22, 23, 5, 24, 25, 26, 27, 28, 29, 30, 31, 32, 33, 34, 35, 36, 37, 38, 39, 40, 41, 42, 43, 44, 45, 46, 47, 48, 49, 50, 51, 52, 53, 54, 55, 56, 57, 58, 59, 60, 61, 62, 63, 64, 65, 66, 67, 68, 69] (by decide +kernel) (by decide +kernel)
end
section
set_option maxRecDepth 20000 in
theorem gX10_held_X10_heldMany : GoodIn wsX10_held (wsV RX10 193 RX10 yX10_heldMany wsX10_heldMany) := goodIn_app (goodIn_of _ (by decide +kernel)) ggX10_held_X10_heldMany
theorem dX10_held_0 : decode cX10_held 0 = .ok (.aload_n 0, 1) := by decide +kernel
theorem dX10_held_1 : decode cX10_held 1 = .ok (.iconst 0, 1) := by decide +kernel
theorem dX10_held_2 : decode cX10_held 2 = .ok (.putfield 120, 3) := by decide +kernel
theorem dX10_held_5 : decode cX10_held 5 = .ok (.aload_n 0, 1) := by decide +kernel
theorem dX10_held_6 : decode cX10_held 6 = .ok (.iload_n 1, 1) := by decide +kernel
theorem dX10_held_7 : decode cX10_held 7 = .ok (.invokevirtual 147, 3) := by decide +kernel
theorem dX10_held_10 : decode cX10_held 10 = .ok (.ifCond .eq 21, 3) := by decide +kernel
theorem dX10_held_13 : decode cX10_held 13 = .ok (.aload_n 0, 1) := by decide +kernel
theorem dX10_held_14 : decode cX10_held 14 = .ok (.iload_n 2, 1) := by decide +kernel
theorem dX10_held_15 : decode cX10_held 15 = .ok (.iconst 0, 1) := by decide +kernel
theorem dX10_held_16 : decode cX10_held 16 = .ok (.invokevirtual 139, 3) := by decide +kernel
theorem dX10_held_19 : decode cX10_held 19 = .ok (.ifCond .eq 12, 3) := by decide +kernel
theorem dX10_held_22 : decode cX10_held 22 = .ok (.aload_n 0, 1) := by decide +kernel
theorem dX10_held_23 : decode cX10_held 23 = .ok (.iload_n 1, 1) := by decide +kernel
theorem dX10_held_24 : decode cX10_held 24 = .ok (.iload_n 2, 1) := by decide +kernel
theorem dX10_held_25 : decode cX10_held 25 = .ok (.invokevirtual 193, 3) := by decide +kernel
theorem dX10_held_28 : decode cX10_held 28 = .ok (.goto 4, 3) := by decide +kernel
theorem dX10_held_31 : decode cX10_held 31 = .ok (.iconst (-1), 1) := by decide +kernel
theorem dX10_held_32 : decode cX10_held 32 = .ok (.ireturn, 1) := by decide +kernel
set_option maxRecDepth 20000 in
theorem ggX10_from_X10_isPeer : GoodIn wsX10_from wsX10_isPeer := goodIn_r _ [8, 9, 10, 11, 7, 12, 22, 23, 24, 25, 26, 27, 28, 29, 30, 31, 32, 33, 34, 35, 36, 37, 38, 39, 40, 41, 42, 43, 44, 45, 46, 47, 48, 49, 50, 51, 52, 53, 54, 55, 56, 57, 58, 59, 60, 61, 62, 63, 64, 65, 66] (by decide +kernel) (by decide +kernel)
set_option maxRecDepth 20000 in
theorem gX10_from_X10_isPeer : GoodIn wsX10_from (wsV RX10 147 RX10 yX10_isPeer wsX10_isPeer) := goodIn_app (goodIn_of _ (by decide +kernel)) ggX10_from_X10_isPeer
set_option maxRecDepth 20000 in
theorem ggX10_from_X10_isBlock : GoodIn wsX10_from wsX10_isBlock := goodIn_r _ [16, 17, 18, 10, 11, 7, 12, 22, 23, 24, 25, 26, 27, 28, 29, 30, 31, 32, 33, 34, 35, 36, 37, 38, 39, 40, 41, 42, 43, 44, 45, 46, 47, 48, 49, 50, 51, 52, 53, 54, 55, 56, 57, 58, 59, 60, 61, 62, 63, 64, 65, 66] (by decide +kernel) (by decide +kernel)
set_option maxRecDepth 20000 in
theorem gX10_from_X10_isBlock : GoodIn wsX10_from (wsV RX10 139 RX10 yX10_isBlock wsX10_isBlock) := goodIn_app (goodIn_of _ (by decide +kernel)) ggX10_from_X10_isBlock
set_option maxRecDepth 20000 in
theorem ggX10_from_X10_cell : GoodIn wsX10_from wsX10_cell := goodIn_r _ [21] (by decide +kernel) (by decide +kernel)
set_option maxRecDepth 20000 in
theorem gX10_from_X10_cell : GoodIn wsX10_from (va_wsS RX10 163 yX10_cell wsX10_cell) := goodIn_app (goodIn_of _ (by decide +kernel)) ggX10_from_X10_cell
theorem dX10_from_0 : decode cX10_from 0 = .ok (.aload_n 0, 1) := by decide +kernel
theorem dX10_from_1 : decode cX10_from 1 = .ok (.iconst 0, 1) := by decide +kernel
theorem dX10_from_2 : decode cX10_from 2 = .ok (.putfield 120, 3) := by decide +kernel
theorem dX10_from_5 : decode cX10_from 5 = .ok (.aload_n 0, 1) := by decide +kernel
theorem dX10_from_6 : decode cX10_from 6 = .ok (.iload_n 1, 1) := by decide +kernel
theorem dX10_from_7 : decode cX10_from 7 = .ok (.invokevirtual 147, 3) := by decide +kernel
theorem dX10_from_10 : decode cX10_from 10 = .ok (.ifCond .eq 40, 3) := by decide +kernel
theorem dX10_from_13 : decode cX10_from 13 = .ok (.aload_n 0, 1) := by decide +kernel
theorem dX10_from_14 : decode cX10_from 14 = .ok (.iload_n 2, 1) := by decide +kernel
theorem dX10_from_15 : decode cX10_from 15 = .ok (.iload_n 3, 1) := by decide +kernel
theorem dX10_from_16 : decode cX10_from 16 = .ok (.invokevirtual 139, 3) := by decide +kernel
theorem dX10_from_19 : decode cX10_from 19 = .ok (.ifCond .eq 31, 3) := by decide +kernel
theorem dX10_from_22 : decode cX10_from 22 = .ok (.aload_n 0, 1) := by decide +kernel
theorem dX10_from_23 : decode cX10_from 23 = .ok (.getfield 54, 3) := by decide +kernel
theorem dX10_from_26 : decode cX10_from 26 = .ok (.iload_n 1, 1) := by decide +kernel
theorem dX10_from_27 : decode cX10_from 27 = .ok (.iload_n 2, 1) := by decide +kernel
theorem dX10_from_28 : decode cX10_from 28 = .ok (.iload_n 3, 1) := by decide +kernel
theorem dX10_from_29 : decode cX10_from 29 = .ok (.invokestatic 163, 3) := by decide +kernel
theorem dX10_from_32 : decode cX10_from 32 = .ok (.baload, 1) := by decide +kernel
theorem dX10_from_33 : decode cX10_from 33 = .ok (.ifCond .eq 17, 3) := by decide +kernel
theorem dX10_from_36 : decode cX10_from 36 = .ok (.aload_n 0, 1) := by decide +kernel
theorem dX10_from_37 : decode cX10_from 37 = .ok (.getfield 60, 3) := by decide +kernel
theorem dX10_from_40 : decode cX10_from 40 = .ok (.iload_n 1, 1) := by decide +kernel
theorem dX10_from_41 : decode cX10_from 41 = .ok (.iload_n 2, 1) := by decide +kernel
theorem dX10_from_42 : decode cX10_from 42 = .ok (.iload_n 3, 1) := by decide +kernel
theorem dX10_from_43 : decode cX10_from 43 = .ok (.invokestatic 163, 3) := by decide +kernel
theorem dX10_from_46 : decode cX10_from 46 = .ok (.iaload, 1) := by decide +kernel
theorem dX10_from_47 : decode cX10_from 47 = .ok (.goto 4, 3) := by decide +kernel
theorem dX10_from_50 : decode cX10_from 50 = .ok (.iconst (-1), 1) := by decide +kernel
theorem dX10_from_51 : decode cX10_from 51 = .ok (.ireturn, 1) := by decide +kernel
set_option maxRecDepth 20000 in
theorem ggX10_got_X10_isPeer : GoodIn wsX10_got wsX10_isPeer := goodIn_r _ [8, 9, 10, 11, 7, 12, 22, 23, 24, 25, 26, 27, 28, 29, 30, 31, 32, 33, 34, 35, 36, 37, 38, 39, 40, 41, 42, 43, 44, 45, 46, 47, 48, 49, 50, 51, 52, 53, 54, 55, 56, 57, 58, 59, 60, 61, 62, 63, 64, 65, 66] (by decide +kernel) (by decide +kernel)
set_option maxRecDepth 20000 in
theorem gX10_got_X10_isPeer : GoodIn wsX10_got (wsV RX10 147 RX10 yX10_isPeer wsX10_isPeer) := goodIn_app (goodIn_of _ (by decide +kernel)) ggX10_got_X10_isPeer
set_option maxRecDepth 20000 in
theorem ggX10_got_X10_isBlock : GoodIn wsX10_got wsX10_isBlock := goodIn_r _ [16, 17, 18, 10, 11, 7, 12, 22, 23, 24, 25, 26, 27, 28, 29, 30, 31, 32, 33, 34, 35, 36, 37, 38, 39, 40, 41, 42, 43, 44, 45, 46, 47, 48, 49, 50, 51, 52, 53, 54, 55, 56, 57, 58, 59, 60, 61, 62, 63, 64, 65, 66] (by decide +kernel) (by decide +kernel)
set_option maxRecDepth 20000 in
theorem gX10_got_X10_isBlock : GoodIn wsX10_got (wsV RX10 139 RX10 yX10_isBlock wsX10_isBlock) := goodIn_app (goodIn_of _ (by decide +kernel)) ggX10_got_X10_isBlock
set_option maxRecDepth 20000 in
theorem ggX10_got_X10_cell : GoodIn wsX10_got wsX10_cell := goodIn_r _ [21] (by decide +kernel) (by decide +kernel)
set_option maxRecDepth 20000 in
theorem gX10_got_X10_cell : GoodIn wsX10_got (va_wsS RX10 163 yX10_cell wsX10_cell) := goodIn_app (goodIn_of _ (by decide +kernel)) ggX10_got_X10_cell
theorem dX10_got_0 : decode cX10_got 0 = .ok (.aload_n 0, 1) := by decide +kernel
theorem dX10_got_1 : decode cX10_got 1 = .ok (.iconst 0, 1) := by decide +kernel
theorem dX10_got_2 : decode cX10_got 2 = .ok (.putfield 120, 3) := by decide +kernel
theorem dX10_got_5 : decode cX10_got 5 = .ok (.aload_n 0, 1) := by decide +kernel
theorem dX10_got_6 : decode cX10_got 6 = .ok (.iload_n 1, 1) := by decide +kernel
theorem dX10_got_7 : decode cX10_got 7 = .ok (.invokevirtual 147, 3) := by decide +kernel
theorem dX10_got_10 : decode cX10_got 10 = .ok (.ifCond .eq 40, 3) := by decide +kernel
theorem dX10_got_13 : decode cX10_got 13 = .ok (.aload_n 0, 1) := by decide +kernel
theorem dX10_got_14 : decode cX10_got 14 = .ok (.iload_n 2, 1) := by decide +kernel
theorem dX10_got_15 : decode cX10_got 15 = .ok (.iload_n 3, 1) := by decide +kernel
theorem dX10_got_16 : decode cX10_got 16 = .ok (.invokevirtual 139, 3) := by decide +kernel
theorem dX10_got_19 : decode cX10_got 19 = .ok (.ifCond .eq 31, 3) := by decide +kernel
theorem dX10_got_22 : decode cX10_got 22 = .ok (.aload_n 0, 1) := by decide +kernel
theorem dX10_got_23 : decode cX10_got 23 = .ok (.getfield 54, 3) := by decide +kernel
theorem dX10_got_26 : decode cX10_got 26 = .ok (.iload_n 1, 1) := by decide +kernel
theorem dX10_got_27 : decode cX10_got 27 = .ok (.iload_n 2, 1) := by decide +kernel
theorem dX10_got_28 : decode cX10_got 28 = .ok (.iload_n 3, 1) := by decide +kernel
theorem dX10_got_29 : decode cX10_got 29 = .ok (.invokestatic 163, 3) := by decide +kernel
theorem dX10_got_32 : decode cX10_got 32 = .ok (.baload, 1) := by decide +kernel
theorem dX10_got_33 : decode cX10_got 33 = .ok (.ifCond .eq 17, 3) := by decide +kernel
end
section
theorem dX10_got_36 : decode cX10_got 36 = .ok (.aload_n 0, 1) := by decide +kernel
theorem dX10_got_37 : decode cX10_got 37 = .ok (.getfield 57, 3) := by decide +kernel
theorem dX10_got_40 : decode cX10_got 40 = .ok (.iload_n 1, 1) := by decide +kernel
theorem dX10_got_41 : decode cX10_got 41 = .ok (.iload_n 2, 1) := by decide +kernel
theorem dX10_got_42 : decode cX10_got 42 = .ok (.iload_n 3, 1) := by decide +kernel
theorem dX10_got_43 : decode cX10_got 43 = .ok (.invokestatic 163, 3) := by decide +kernel
theorem dX10_got_46 : decode cX10_got 46 = .ok (.iaload, 1) := by decide +kernel
theorem dX10_got_47 : decode cX10_got 47 = .ok (.goto 4, 3) := by decide +kernel
theorem dX10_got_50 : decode cX10_got 50 = .ok (.iconst 0, 1) := by decide +kernel
theorem dX10_got_51 : decode cX10_got 51 = .ok (.ireturn, 1) := by decide +kernel
set_option maxRecDepth 20000 in
theorem ggX10_rare_X10_isPeer : GoodIn wsX10_rare wsX10_isPeer := goodIn_r _ [6, 7, 8, 9, 5, 10, 37, 38, 39, 40, 41, 42, 43, 44, 45, 46, 47, 48, 49, 50, 51, 52, 53, 54, 55, 56, 57, 58, 59, 60, 61, 62, 63, 64, 65, 66, 67, 68, 69, 70, 71, 72, 73, 74, 75, 76, 77, 78, 79, 80, 81] (by decide +kernel) (by decide +kernel)
set_option maxRecDepth 20000 in
theorem gX10_rare_X10_isPeer : GoodIn wsX10_rare (wsV RX10 147 RX10 yX10_isPeer wsX10_isPeer) := goodIn_app (goodIn_of _ (by decide +kernel)) ggX10_rare_X10_isPeer
set_option maxRecDepth 20000 in
theorem ggX10_rare_X10_isBlock : GoodIn wsX10_rare wsX10_isBlock := goodIn_r _ [14, 15, 16, 8, 9, 5, 10, 37, 38, 39, 40, 41, 42, 43, 44, 45, 46, 47, 48, 49, 50, 51, 52, 53, 54, 55, 56, 57, 58, 59, 60, 61, 62, 63, 64, 65, 66, 67, 68, 69, 70, 71, 72, 73, 74, 75, 76, 77, 78, 79, 80, 81] (by decide +kernel) (by decide +kernel)
set_option maxRecDepth 20000 in
theorem gX10_rare_X10_isBlock : GoodIn wsX10_rare (wsV RX10 139 RX10 yX10_isBlock wsX10_isBlock) := goodIn_app (goodIn_of _ (by decide +kernel)) ggX10_rare_X10_isBlock
set_option maxRecDepth 20000 in
theorem ggX10_rare_X10_tellers : GoodIn wsX10_rare wsX10_tellers := goodIn_r _ [20, 7, 21, 22, 23, 5, 24, 25, 26, 27, 28, 29, 30, 31, 32, 33, 34, 35, 36, 37, 38, 39, 40, 41, 42, 43, 44, 45, 46, 47, 48, 49, 50, 51, 52, 53, 54, 55, 56, 57, 58, 59, 60, 61, 62, 63, 64, 65, 66, 67, 68, 69, 70, 71, 72, 73, 74, 75, 76, 77, 78, 79, 80, 81] (by decide +kernel) (by decide +kernel)
set_option maxRecDepth 20000 in
theorem gX10_rare_X10_tellers : GoodIn wsX10_rare (wsV RX10 238 RX10 yX10_tellers wsX10_tellers) := goodIn_app (goodIn_of _ (by decide +kernel)) ggX10_rare_X10_tellers
theorem dX10_rare_0 : decode cX10_rare 0 = .ok (.aload_n 0, 1) := by decide +kernel
theorem dX10_rare_1 : decode cX10_rare 1 = .ok (.iconst 0, 1) := by decide +kernel
theorem dX10_rare_2 : decode cX10_rare 2 = .ok (.putfield 120, 3) := by decide +kernel
theorem dX10_rare_5 : decode cX10_rare 5 = .ok (.aload_n 0, 1) := by decide +kernel
theorem dX10_rare_6 : decode cX10_rare 6 = .ok (.iload_n 1, 1) := by decide +kernel
theorem dX10_rare_7 : decode cX10_rare 7 = .ok (.invokevirtual 147, 3) := by decide +kernel
theorem dX10_rare_10 : decode cX10_rare 10 = .ok (.ifCond .eq 21, 3) := by decide +kernel
theorem dX10_rare_13 : decode cX10_rare 13 = .ok (.aload_n 0, 1) := by decide +kernel
theorem dX10_rare_14 : decode cX10_rare 14 = .ok (.iload_n 2, 1) := by decide +kernel
theorem dX10_rare_15 : decode cX10_rare 15 = .ok (.iconst 0, 1) := by decide +kernel
theorem dX10_rare_16 : decode cX10_rare 16 = .ok (.invokevirtual 139, 3) := by decide +kernel
theorem dX10_rare_19 : decode cX10_rare 19 = .ok (.ifCond .eq 12, 3) := by decide +kernel
theorem dX10_rare_22 : decode cX10_rare 22 = .ok (.aload_n 0, 1) := by decide +kernel
theorem dX10_rare_23 : decode cX10_rare 23 = .ok (.iload_n 1, 1) := by decide +kernel
theorem dX10_rare_24 : decode cX10_rare 24 = .ok (.iload_n 2, 1) := by decide +kernel
theorem dX10_rare_25 : decode cX10_rare 25 = .ok (.invokevirtual 238, 3) := by decide +kernel
theorem dX10_rare_28 : decode cX10_rare 28 = .ok (.goto 4, 3) := by decide +kernel
theorem dX10_rare_31 : decode cX10_rare 31 = .ok (.iconst (-1), 1) := by decide +kernel
theorem dX10_rare_32 : decode cX10_rare 32 = .ok (.ireturn, 1) := by decide +kernel
set_option maxRecDepth 20000 in
theorem ggX10_pair_X10_isTwo : GoodIn wsX10_pair wsX10_isTwo := goodIn_r _ [11, 12, 13, 14, 10, 15, 16, 17, 18, 19, 58, 59, 60, 61, 62, 63, 64, 65, 66, 67, 68, 69, 70, 71, 72, 73, 74, 75, 76, 77, 78, 79, 80, 81, 82, 83, 84, 85, 86, 87, 88, 89, 90, 91, 92, 93, 94, 95, 96, 97, 98, 99, 100, 101, 102] (by decide +kernel) (by decide +kernel)
set_option maxRecDepth 20000 in
theorem gX10_pair_X10_isTwo : GoodIn wsX10_pair (wsV RX10 167 RX10 yX10_isTwo wsX10_isTwo) := goodIn_app (goodIn_of _ (by decide +kernel)) ggX10_pair_X10_isTwo
set_option maxRecDepth 20000 in
theorem ggX10_pair_X10_two : GoodIn wsX10_pair wsX10_two := goodIn_r _ [22] (by decide +kernel) (by decide +kernel)
set_option maxRecDepth 20000 in
theorem gX10_pair_X10_two : GoodIn wsX10_pair (va_wsS RX10 151 yX10_two wsX10_two) := goodIn_app (goodIn_of _ (by decide +kernel)) ggX10_pair_X10_two
set_option maxRecDepth 20000 in
theorem ggX10_pair_X10_isNear : GoodIn wsX10_pair wsX10_isNear := goodIn_r _ [26, 2, 27, 5, 20, 21, 10, 22, 58, 59, 60, 61, 62, 63, 64, 65, 66, 67, 68, 69, 70, 71, 72, 73, 74, 75, 76, 77, 78, 79, 80, 81, 82, 83, 84, 85, 86, 87, 88, 89, 90, 91, 92, 93, 94, 95, 96, 97, 98, 99, 100, 101, 102] (by decide +kernel) (by decide +kernel)
set_option maxRecDepth 20000 in
theorem gX10_pair_X10_isNear : GoodIn wsX10_pair (wsV RX10 154 RX10 yX10_isNear wsX10_isNear) := goodIn_app (goodIn_of _ (by decide +kernel)) ggX10_pair_X10_isNear
set_option maxRecDepth 20000 in
theorem ggX10_pair_X10_wants : GoodIn wsX10_pair wsX10_wants := goodIn_r _ [31, 32, 33, 23, 24, 25, 10, 26, 2, 27, 5, 20, 21, 22, 34, 35, 36, 37, 38, 58, 59, 60, 61, 62, 63, 64, 65, 66, 67, 68, 69, 70, 71, 72, 73, 74, 75, 76, 77, 78, 79, 80, 81, 82, 83, 84, 85, 86, 87, 88, 89, 90, 91, 92, 93, 94, 95, 96, 97, 98, 99, 100, 101, 102] (by decide +kernel) (by decide +kernel)
set_option maxRecDepth 20000 in
theorem gX10_pair_X10_wants : GoodIn wsX10_pair (wsV RX10 209 RX10 yX10_wants wsX10_wants) := goodIn_app (goodIn_of _ (by decide +kernel)) ggX10_pair_X10_wants
set_option maxRecDepth 20000 in
theorem ggX10_pair_X10_isOpenTo : GoodIn wsX10_pair wsX10_isOpenTo := goodIn_r _ [42, 43, 20, 21, 10, 22, 23, 24, 25, 26, 2, 27, 5, 58, 59, 60, 61, 62, 63, 64, 65, 66, 67, 68, 69, 70, 71, 72, 73, 74, 75, 76, 77, 78, 79, 80, 81, 82, 83, 84, 85, 86, 87, 88, 89, 90, 91, 92, 93, 94, 95, 96, 97, 98, 99, 100, 101, 102] (by decide +kernel) (by decide +kernel)
set_option maxRecDepth 20000 in
theorem gX10_pair_X10_isOpenTo : GoodIn wsX10_pair (wsV RX10 264 RX10 yX10_isOpenTo wsX10_isOpenTo) := goodIn_app (goodIn_of _ (by decide +kernel)) ggX10_pair_X10_isOpenTo
set_option maxRecDepth 20000 in
theorem ggX10_pair_X10_late : GoodIn wsX10_pair wsX10_late := goodIn_r _ [47, 48, 49, 50, 51, 52, 10, 53, 32, 54, 55, 56, 57, 33, 20, 21, 22, 58, 59, 60, 61, 62, 63, 64, 65, 66, 67, 68, 69, 70, 71, 72, 73, 74, 75, 76, 77, 78, 79, 80, 81, 82, 83, 84, 85, 86, 87, 88, 89, 90, 91, 92, 93, 94, 95, 96, 97, 98, 99, 100, 101, 102] (by decide +kernel) (by decide +kernel)
set_option maxRecDepth 20000 in
theorem gX10_pair_X10_late : GoodIn wsX10_pair (wsV RX10 212 RX10 yX10_late wsX10_late) := goodIn_app (goodIn_of _ (by decide +kernel)) ggX10_pair_X10_late
theorem dX10_pair_0 : decode cX10_pair 0 = .ok (.aload_n 0, 1) := by decide +kernel
theorem dX10_pair_1 : decode cX10_pair 1 = .ok (.iconst 0, 1) := by decide +kernel
theorem dX10_pair_2 : decode cX10_pair 2 = .ok (.putfield 120, 3) := by decide +kernel
theorem dX10_pair_5 : decode cX10_pair 5 = .ok (.aload_n 0, 1) := by decide +kernel
theorem dX10_pair_6 : decode cX10_pair 6 = .ok (.iload_n 1, 1) := by decide +kernel
theorem dX10_pair_7 : decode cX10_pair 7 = .ok (.iload_n 2, 1) := by decide +kernel
theorem dX10_pair_8 : decode cX10_pair 8 = .ok (.invokevirtual 167, 3) := by decide +kernel
theorem dX10_pair_11 : decode cX10_pair 11 = .ok (.ifCond .ne 5, 3) := by decide +kernel
theorem dX10_pair_14 : decode cX10_pair 14 = .ok (.iconst (-1), 1) := by decide +kernel
theorem dX10_pair_15 : decode cX10_pair 15 = .ok (.ireturn, 1) := by decide +kernel
theorem dX10_pair_16 : decode cX10_pair 16 = .ok (.iload_n 3, 1) := by decide +kernel
theorem dX10_pair_17 : decode cX10_pair 17 = .ok (.tableswitch 188 0 8 #[51, 70, 85, 100, 115, 122, 133, 144, 163], 51) := by decide +kernel
theorem dX10_pair_68 : decode cX10_pair 68 = .ok (.aload_n 0, 1) := by decide +kernel
theorem dX10_pair_69 : decode cX10_pair 69 = .ok (.getfield 63, 3) := by decide +kernel
theorem dX10_pair_72 : decode cX10_pair 72 = .ok (.iload_n 1, 1) := by decide +kernel
theorem dX10_pair_73 : decode cX10_pair 73 = .ok (.iload_n 2, 1) := by decide +kernel
theorem dX10_pair_74 : decode cX10_pair 74 = .ok (.invokestatic 151, 3) := by decide +kernel
theorem dX10_pair_77 : decode cX10_pair 77 = .ok (.baload, 1) := by decide +kernel
theorem dX10_pair_78 : decode cX10_pair 78 = .ok (.ifCond .eq 7, 3) := by decide +kernel
theorem dX10_pair_81 : decode cX10_pair 81 = .ok (.iconst 1, 1) := by decide +kernel
theorem dX10_pair_82 : decode cX10_pair 82 = .ok (.goto 4, 3) := by decide +kernel
theorem dX10_pair_85 : decode cX10_pair 85 = .ok (.iconst 0, 1) := by decide +kernel
theorem dX10_pair_86 : decode cX10_pair 86 = .ok (.ireturn, 1) := by decide +kernel
theorem dX10_pair_87 : decode cX10_pair 87 = .ok (.aload_n 0, 1) := by decide +kernel
theorem dX10_pair_88 : decode cX10_pair 88 = .ok (.iload_n 1, 1) := by decide +kernel
theorem dX10_pair_89 : decode cX10_pair 89 = .ok (.iload_n 2, 1) := by decide +kernel
theorem dX10_pair_90 : decode cX10_pair 90 = .ok (.invokevirtual 154, 3) := by decide +kernel
theorem dX10_pair_93 : decode cX10_pair 93 = .ok (.ifCond .eq 7, 3) := by decide +kernel
theorem dX10_pair_96 : decode cX10_pair 96 = .ok (.iconst 1, 1) := by decide +kernel
theorem dX10_pair_97 : decode cX10_pair 97 = .ok (.goto 4, 3) := by decide +kernel
theorem dX10_pair_100 : decode cX10_pair 100 = .ok (.iconst 0, 1) := by decide +kernel
theorem dX10_pair_101 : decode cX10_pair 101 = .ok (.ireturn, 1) := by decide +kernel
theorem dX10_pair_102 : decode cX10_pair 102 = .ok (.aload_n 0, 1) := by decide +kernel
theorem dX10_pair_103 : decode cX10_pair 103 = .ok (.iload_n 2, 1) := by decide +kernel
theorem dX10_pair_104 : decode cX10_pair 104 = .ok (.iload_n 1, 1) := by decide +kernel
theorem dX10_pair_105 : decode cX10_pair 105 = .ok (.invokevirtual 209, 3) := by decide +kernel
theorem dX10_pair_108 : decode cX10_pair 108 = .ok (.ifCond .eq 7, 3) := by decide +kernel
theorem dX10_pair_111 : decode cX10_pair 111 = .ok (.iconst 1, 1) := by decide +kernel
theorem dX10_pair_112 : decode cX10_pair 112 = .ok (.goto 4, 3) := by decide +kernel
theorem dX10_pair_115 : decode cX10_pair 115 = .ok (.iconst 0, 1) := by decide +kernel
theorem dX10_pair_116 : decode cX10_pair 116 = .ok (.ireturn, 1) := by decide +kernel
theorem dX10_pair_117 : decode cX10_pair 117 = .ok (.aload_n 0, 1) := by decide +kernel
theorem dX10_pair_118 : decode cX10_pair 118 = .ok (.iload_n 1, 1) := by decide +kernel
theorem dX10_pair_119 : decode cX10_pair 119 = .ok (.iload_n 2, 1) := by decide +kernel
theorem dX10_pair_120 : decode cX10_pair 120 = .ok (.invokevirtual 264, 3) := by decide +kernel
theorem dX10_pair_123 : decode cX10_pair 123 = .ok (.ifCond .eq 7, 3) := by decide +kernel
theorem dX10_pair_126 : decode cX10_pair 126 = .ok (.iconst 1, 1) := by decide +kernel
theorem dX10_pair_127 : decode cX10_pair 127 = .ok (.goto 4, 3) := by decide +kernel
theorem dX10_pair_130 : decode cX10_pair 130 = .ok (.iconst 0, 1) := by decide +kernel
theorem dX10_pair_131 : decode cX10_pair 131 = .ok (.ireturn, 1) := by decide +kernel
theorem dX10_pair_132 : decode cX10_pair 132 = .ok (.aload_n 0, 1) := by decide +kernel
theorem dX10_pair_133 : decode cX10_pair 133 = .ok (.iload_n 1, 1) := by decide +kernel
theorem dX10_pair_134 : decode cX10_pair 134 = .ok (.iload_n 2, 1) := by decide +kernel
theorem dX10_pair_135 : decode cX10_pair 135 = .ok (.invokevirtual 212, 3) := by decide +kernel
theorem dX10_pair_138 : decode cX10_pair 138 = .ok (.ireturn, 1) := by decide +kernel
theorem dX10_pair_139 : decode cX10_pair 139 = .ok (.aload_n 0, 1) := by decide +kernel
theorem dX10_pair_140 : decode cX10_pair 140 = .ok (.getfield 75, 3) := by decide +kernel
theorem dX10_pair_143 : decode cX10_pair 143 = .ok (.iload_n 1, 1) := by decide +kernel
theorem dX10_pair_144 : decode cX10_pair 144 = .ok (.iload_n 2, 1) := by decide +kernel
theorem dX10_pair_145 : decode cX10_pair 145 = .ok (.invokestatic 151, 3) := by decide +kernel
theorem dX10_pair_148 : decode cX10_pair 148 = .ok (.iaload, 1) := by decide +kernel
theorem dX10_pair_149 : decode cX10_pair 149 = .ok (.ireturn, 1) := by decide +kernel
theorem dX10_pair_150 : decode cX10_pair 150 = .ok (.aload_n 0, 1) := by decide +kernel
theorem dX10_pair_151 : decode cX10_pair 151 = .ok (.getfield 72, 3) := by decide +kernel
theorem dX10_pair_154 : decode cX10_pair 154 = .ok (.iload_n 1, 1) := by decide +kernel
theorem dX10_pair_155 : decode cX10_pair 155 = .ok (.iload_n 2, 1) := by decide +kernel
theorem dX10_pair_156 : decode cX10_pair 156 = .ok (.invokestatic 151, 3) := by decide +kernel
theorem dX10_pair_159 : decode cX10_pair 159 = .ok (.iaload, 1) := by decide +kernel
theorem dX10_pair_160 : decode cX10_pair 160 = .ok (.ireturn, 1) := by decide +kernel
theorem dX10_pair_161 : decode cX10_pair 161 = .ok (.aload_n 0, 1) := by decide +kernel
theorem dX10_pair_162 : decode cX10_pair 162 = .ok (.getfield 69, 3) := by decide +kernel
theorem dX10_pair_165 : decode cX10_pair 165 = .ok (.iload_n 1, 1) := by decide +kernel
theorem dX10_pair_166 : decode cX10_pair 166 = .ok (.iload_n 2, 1) := by decide +kernel
theorem dX10_pair_167 : decode cX10_pair 167 = .ok (.invokestatic 151, 3) := by decide +kernel
theorem dX10_pair_170 : decode cX10_pair 170 = .ok (.baload, 1) := by decide +kernel
theorem dX10_pair_171 : decode cX10_pair 171 = .ok (.ifCond .eq 7, 3) := by decide +kernel
theorem dX10_pair_174 : decode cX10_pair 174 = .ok (.iconst 1, 1) := by decide +kernel
theorem dX10_pair_175 : decode cX10_pair 175 = .ok (.goto 4, 3) := by decide +kernel
theorem dX10_pair_178 : decode cX10_pair 178 = .ok (.iconst 0, 1) := by decide +kernel
theorem dX10_pair_179 : decode cX10_pair 179 = .ok (.ireturn, 1) := by decide +kernel
theorem dX10_pair_180 : decode cX10_pair 180 = .ok (.aload_n 0, 1) := by decide +kernel
theorem dX10_pair_181 : decode cX10_pair 181 = .ok (.getfield 84, 3) := by decide +kernel
theorem dX10_pair_184 : decode cX10_pair 184 = .ok (.iload_n 1, 1) := by decide +kernel
theorem dX10_pair_185 : decode cX10_pair 185 = .ok (.iaload, 1) := by decide +kernel
theorem dX10_pair_186 : decode cX10_pair 186 = .ok (.iload_n 2, 1) := by decide +kernel
theorem dX10_pair_187 : decode cX10_pair 187 = .ok (.if_icmp .ne 16, 3) := by decide +kernel
theorem dX10_pair_190 : decode cX10_pair 190 = .ok (.aload_n 0, 1) := by decide +kernel
theorem dX10_pair_191 : decode cX10_pair 191 = .ok (.iload_n 1, 1) := by decide +kernel
theorem dX10_pair_192 : decode cX10_pair 192 = .ok (.iload_n 2, 1) := by decide +kernel
theorem dX10_pair_193 : decode cX10_pair 193 = .ok (.invokevirtual 264, 3) := by decide +kernel
theorem dX10_pair_196 : decode cX10_pair 196 = .ok (.ifCond .eq 7, 3) := by decide +kernel
theorem dX10_pair_199 : decode cX10_pair 199 = .ok (.iconst 1, 1) := by decide +kernel
theorem dX10_pair_200 : decode cX10_pair 200 = .ok (.goto 4, 3) := by decide +kernel
theorem dX10_pair_203 : decode cX10_pair 203 = .ok (.iconst 0, 1) := by decide +kernel
theorem dX10_pair_204 : decode cX10_pair 204 = .ok (.ireturn, 1) := by decide +kernel
theorem dX10_pair_205 : decode cX10_pair 205 = .ok (.iconst (-1), 1) := by decide +kernel
theorem dX10_pair_206 : decode cX10_pair 206 = .ok (.ireturn, 1) := by decide +kernel
theorem dX10_owners_0 : decode cX10_owners 0 = .ok (.iconst 0, 1) := by decide +kernel
theorem dX10_owners_1 : decode cX10_owners 1 = .ok (.istore_n 3, 1) := by decide +kernel
theorem dX10_owners_2 : decode cX10_owners 2 = .ok (.iconst 0, 1) := by decide +kernel
theorem dX10_owners_3 : decode cX10_owners 3 = .ok (.istore 4, 2) := by decide +kernel
theorem dX10_owners_5 : decode cX10_owners 5 = .ok (.iload 4, 2) := by decide +kernel
theorem dX10_owners_7 : decode cX10_owners 7 = .ok (.aload_n 0, 1) := by decide +kernel
theorem dX10_owners_8 : decode cX10_owners 8 = .ok (.getfield 136, 3) := by decide +kernel
theorem dX10_owners_11 : decode cX10_owners 11 = .ok (.if_icmp .ge 48, 3) := by decide +kernel
theorem dX10_owners_14 : decode cX10_owners 14 = .ok (.iload_n 3, 1) := by decide +kernel
theorem dX10_owners_15 : decode cX10_owners 15 = .ok (.iload 4, 2) := by decide +kernel
theorem dX10_owners_17 : decode cX10_owners 17 = .ok (.iload_n 2, 1) := by decide +kernel
theorem dX10_owners_18 : decode cX10_owners 18 = .ok (.if_icmp .eq 32, 3) := by decide +kernel
theorem dX10_owners_21 : decode cX10_owners 21 = .ok (.aload_n 0, 1) := by decide +kernel
theorem dX10_owners_22 : decode cX10_owners 22 = .ok (.getfield 26, 3) := by decide +kernel
theorem dX10_owners_25 : decode cX10_owners 25 = .ok (.iload 4, 2) := by decide +kernel
theorem dX10_owners_27 : decode cX10_owners 27 = .ok (.baload, 1) := by decide +kernel
theorem dX10_owners_28 : decode cX10_owners 28 = .ok (.ifCond .eq 22, 3) := by decide +kernel
theorem dX10_owners_31 : decode cX10_owners 31 = .ok (.aload_n 0, 1) := by decide +kernel
theorem dX10_owners_32 : decode cX10_owners 32 = .ok (.getfield 48, 3) := by decide +kernel
theorem dX10_owners_35 : decode cX10_owners 35 = .ok (.bipush 24, 2) := by decide +kernel
theorem dX10_owners_37 : decode cX10_owners 37 = .ok (.iload 4, 2) := by decide +kernel
theorem dX10_owners_39 : decode cX10_owners 39 = .ok (.imul, 1) := by decide +kernel
theorem dX10_owners_40 : decode cX10_owners 40 = .ok (.iload_n 1, 1) := by decide +kernel
theorem dX10_owners_41 : decode cX10_owners 41 = .ok (.iadd, 1) := by decide +kernel
end
section
theorem dX10_owners_42 : decode cX10_owners 42 = .ok (.baload, 1) := by decide +kernel
theorem dX10_owners_43 : decode cX10_owners 43 = .ok (.ifCond .eq 7, 3) := by decide +kernel
theorem dX10_owners_46 : decode cX10_owners 46 = .ok (.iconst 1, 1) := by decide +kernel
theorem dX10_owners_47 : decode cX10_owners 47 = .ok (.goto 4, 3) := by decide +kernel
theorem dX10_owners_50 : decode cX10_owners 50 = .ok (.iconst 0, 1) := by decide +kernel
theorem dX10_owners_51 : decode cX10_owners 51 = .ok (.iadd, 1) := by decide +kernel
theorem dX10_owners_52 : decode cX10_owners 52 = .ok (.istore_n 3, 1) := by decide +kernel
theorem dX10_owners_53 : decode cX10_owners 53 = .ok (.iinc 4 1, 3) := by decide +kernel
theorem dX10_owners_56 : decode cX10_owners 56 = .ok (.goto (-51), 3) := by decide +kernel
theorem dX10_owners_59 : decode cX10_owners 59 = .ok (.iload_n 3, 1) := by decide +kernel
theorem dX10_owners_60 : decode cX10_owners 60 = .ok (.ireturn, 1) := by decide +kernel
set_option maxRecDepth 20000 in
theorem ggX10_alone_X10_isPeer : GoodIn wsX10_alone wsX10_isPeer := goodIn_r _ [8, 9, 10, 11, 7, 12, 18, 19, 20, 21, 22, 23, 24, 25, 26, 27, 28, 29, 30, 31, 32, 33, 34, 35, 36, 37, 38, 39, 40, 41, 42, 43, 44, 45, 46, 47, 48, 49, 50, 51, 52, 53, 54, 55, 56, 57, 58, 59, 60, 61, 62] (by decide +kernel) (by decide +kernel)
set_option maxRecDepth 20000 in
theorem gX10_alone_X10_isPeer : GoodIn wsX10_alone (wsV RX10 147 RX10 yX10_isPeer wsX10_isPeer) := goodIn_app (goodIn_of _ (by decide +kernel)) ggX10_alone_X10_isPeer
set_option maxRecDepth 20000 in
theorem ggX10_alone_X10_owners : GoodIn wsX10_alone wsX10_owners := goodIn_r _ [16, 9, 17, 3, 18, 19, 20, 21, 22, 23, 24, 25, 26, 27, 28, 29, 30, 31, 32, 33, 34, 35, 36, 37, 38, 39, 40, 41, 42, 43, 44, 45, 46, 47, 48, 49, 50, 51, 52, 53, 54, 55, 56, 57, 58, 59, 60, 61, 62] (by decide +kernel) (by decide +kernel)
set_option maxRecDepth 20000 in
theorem gX10_alone_X10_owners : GoodIn wsX10_alone (wsV RX10 280 RX10 yX10_owners wsX10_owners) := goodIn_app (goodIn_of _ (by decide +kernel)) ggX10_alone_X10_owners
theorem dX10_alone_0 : decode cX10_alone 0 = .ok (.aload_n 0, 1) := by decide +kernel
theorem dX10_alone_1 : decode cX10_alone 1 = .ok (.iconst 0, 1) := by decide +kernel
theorem dX10_alone_2 : decode cX10_alone 2 = .ok (.putfield 120, 3) := by decide +kernel
theorem dX10_alone_5 : decode cX10_alone 5 = .ok (.iload_n 1, 1) := by decide +kernel
theorem dX10_alone_6 : decode cX10_alone 6 = .ok (.iconst (-1), 1) := by decide +kernel
theorem dX10_alone_7 : decode cX10_alone 7 = .ok (.if_icmp .eq 13, 3) := by decide +kernel
theorem dX10_alone_10 : decode cX10_alone 10 = .ok (.aload_n 0, 1) := by decide +kernel
theorem dX10_alone_11 : decode cX10_alone 11 = .ok (.iload_n 1, 1) := by decide +kernel
theorem dX10_alone_12 : decode cX10_alone 12 = .ok (.invokevirtual 147, 3) := by decide +kernel
theorem dX10_alone_15 : decode cX10_alone 15 = .ok (.ifCond .ne 5, 3) := by decide +kernel
theorem dX10_alone_18 : decode cX10_alone 18 = .ok (.iconst (-1), 1) := by decide +kernel
theorem dX10_alone_19 : decode cX10_alone 19 = .ok (.ireturn, 1) := by decide +kernel
theorem dX10_alone_20 : decode cX10_alone 20 = .ok (.iconst 0, 1) := by decide +kernel
theorem dX10_alone_21 : decode cX10_alone 21 = .ok (.istore_n 2, 1) := by decide +kernel
theorem dX10_alone_22 : decode cX10_alone 22 = .ok (.iconst 0, 1) := by decide +kernel
theorem dX10_alone_23 : decode cX10_alone 23 = .ok (.istore_n 3, 1) := by decide +kernel
theorem dX10_alone_24 : decode cX10_alone 24 = .ok (.iload_n 3, 1) := by decide +kernel
theorem dX10_alone_25 : decode cX10_alone 25 = .ok (.aload_n 0, 1) := by decide +kernel
theorem dX10_alone_26 : decode cX10_alone 26 = .ok (.getfield 7, 3) := by decide +kernel
theorem dX10_alone_29 : decode cX10_alone 29 = .ok (.if_icmp .ge 45, 3) := by decide +kernel
theorem dX10_alone_32 : decode cX10_alone 32 = .ok (.iload_n 2, 1) := by decide +kernel
theorem dX10_alone_33 : decode cX10_alone 33 = .ok (.iload_n 1, 1) := by decide +kernel
theorem dX10_alone_34 : decode cX10_alone 34 = .ok (.iconst (-1), 1) := by decide +kernel
theorem dX10_alone_35 : decode cX10_alone 35 = .ok (.if_icmp .eq 17, 3) := by decide +kernel
theorem dX10_alone_38 : decode cX10_alone 38 = .ok (.aload_n 0, 1) := by decide +kernel
theorem dX10_alone_39 : decode cX10_alone 39 = .ok (.getfield 48, 3) := by decide +kernel
theorem dX10_alone_42 : decode cX10_alone 42 = .ok (.bipush 24, 2) := by decide +kernel
theorem dX10_alone_44 : decode cX10_alone 44 = .ok (.iload_n 1, 1) := by decide +kernel
theorem dX10_alone_45 : decode cX10_alone 45 = .ok (.imul, 1) := by decide +kernel
theorem dX10_alone_46 : decode cX10_alone 46 = .ok (.iload_n 3, 1) := by decide +kernel
theorem dX10_alone_47 : decode cX10_alone 47 = .ok (.iadd, 1) := by decide +kernel
theorem dX10_alone_48 : decode cX10_alone 48 = .ok (.baload, 1) := by decide +kernel
theorem dX10_alone_49 : decode cX10_alone 49 = .ok (.ifCond .eq 16, 3) := by decide +kernel
theorem dX10_alone_52 : decode cX10_alone 52 = .ok (.aload_n 0, 1) := by decide +kernel
theorem dX10_alone_53 : decode cX10_alone 53 = .ok (.iload_n 3, 1) := by decide +kernel
theorem dX10_alone_54 : decode cX10_alone 54 = .ok (.iload_n 1, 1) := by decide +kernel
theorem dX10_alone_55 : decode cX10_alone 55 = .ok (.invokevirtual 280, 3) := by decide +kernel
theorem dX10_alone_58 : decode cX10_alone 58 = .ok (.ifCond .ne 7, 3) := by decide +kernel
theorem dX10_alone_61 : decode cX10_alone 61 = .ok (.iconst 1, 1) := by decide +kernel
theorem dX10_alone_62 : decode cX10_alone 62 = .ok (.goto 4, 3) := by decide +kernel
theorem dX10_alone_65 : decode cX10_alone 65 = .ok (.iconst 0, 1) := by decide +kernel
theorem dX10_alone_66 : decode cX10_alone 66 = .ok (.iadd, 1) := by decide +kernel
theorem dX10_alone_67 : decode cX10_alone 67 = .ok (.istore_n 2, 1) := by decide +kernel
theorem dX10_alone_68 : decode cX10_alone 68 = .ok (.iinc 3 1, 3) := by decide +kernel
theorem dX10_alone_71 : decode cX10_alone 71 = .ok (.goto (-47), 3) := by decide +kernel
theorem dX10_alone_74 : decode cX10_alone 74 = .ok (.iload_n 2, 1) := by decide +kernel
theorem dX10_alone_75 : decode cX10_alone 75 = .ok (.ireturn, 1) := by decide +kernel
theorem dX10_share_0 : decode cX10_share 0 = .ok (.iload_n 0, 1) := by decide +kernel
theorem dX10_share_1 : decode cX10_share 1 = .ok (.iload_n 1, 1) := by decide +kernel
theorem dX10_share_2 : decode cX10_share 2 = .ok (.iadd, 1) := by decide +kernel
theorem dX10_share_3 : decode cX10_share 3 = .ok (.iconst 1, 1) := by decide +kernel
theorem dX10_share_4 : decode cX10_share 4 = .ok (.isub, 1) := by decide +kernel
theorem dX10_share_5 : decode cX10_share 5 = .ok (.iload_n 1, 1) := by decide +kernel
theorem dX10_share_6 : decode cX10_share 6 = .ok (.idiv, 1) := by decide +kernel
theorem dX10_share_7 : decode cX10_share 7 = .ok (.ireturn, 1) := by decide +kernel
set_option maxRecDepth 20000 in
theorem ggX10_bound__X10_isPeer : GoodIn wsX10_bound_ wsX10_isPeer := goodIn_r _ [12, 6, 13, 14, 11, 15, 46, 47, 48, 49, 50, 51, 52, 53, 54, 55, 56, 57, 58, 59, 60, 61, 62, 63, 64, 65, 66, 67, 68, 69, 70, 71, 72, 73, 74, 75, 76, 77, 78, 79, 80, 81, 82, 83, 84, 85, 86, 87, 88, 89, 90] (by decide +kernel) (by decide +kernel)
set_option maxRecDepth 20000 in
theorem gX10_bound__X10_isPeer : GoodIn wsX10_bound_ (wsV RX10 147 RX10 yX10_isPeer wsX10_isPeer) := goodIn_app (goodIn_of _ (by decide +kernel)) ggX10_bound__X10_isPeer
set_option maxRecDepth 20000 in
theorem ggX10_bound__X10_isDone : GoodIn wsX10_bound_ wsX10_isDone := goodIn_r _ [19, 3, 20, 21, 22, 11, 23, 24, 46, 47, 48, 49, 50, 51, 52, 53, 54, 55, 56, 57, 58, 59, 60, 61, 62, 63, 64, 65, 66, 67, 68, 69, 70, 71, 72, 73, 74, 75, 76, 77, 78, 79, 80, 81, 82, 83, 84, 85, 86, 87, 88, 89, 90] (by decide +kernel) (by decide +kernel)
set_option maxRecDepth 20000 in
theorem gX10_bound__X10_isDone : GoodIn wsX10_bound_ (wsV RX10 199 RX10 yX10_isDone wsX10_isDone) := goodIn_app (goodIn_of _ (by decide +kernel)) ggX10_bound__X10_isDone
set_option maxRecDepth 20000 in
theorem ggX10_bound__X10_share : GoodIn wsX10_bound_ wsX10_share := goodIn_r _ [27] (by decide +kernel) (by decide +kernel)
set_option maxRecDepth 20000 in
theorem gX10_bound__X10_share : GoodIn wsX10_bound_ (va_wsS RX10 283 yX10_share wsX10_share) := goodIn_app (goodIn_of _ (by decide +kernel)) ggX10_bound__X10_share
set_option maxRecDepth 20000 in
theorem ggX10_bound__X10_hasMany : GoodIn wsX10_bound_ wsX10_hasMany := goodIn_r _ [23, 3, 24, 46, 47, 48, 49, 50, 51, 52, 53, 54, 55, 56, 57, 58, 59, 60, 61, 62, 63, 64, 65, 66, 67, 68, 69, 70, 71, 72, 73, 74, 75, 76, 77, 78, 79, 80, 81, 82, 83, 84, 85, 86, 87, 88, 89, 90] (by decide +kernel) (by decide +kernel)
set_option maxRecDepth 20000 in
theorem gX10_bound__X10_hasMany : GoodIn wsX10_bound_ (wsV RX10 160 RX10 yX10_hasMany wsX10_hasMany) := goodIn_app (goodIn_of _ (by decide +kernel)) ggX10_bound__X10_hasMany
set_option maxRecDepth 20000 in
theorem ggX10_bound__X10_holdsMany : GoodIn wsX10_bound_ wsX10_holdsMany := goodIn_r _ [31, 3, 24, 32, 33, 34, 11, 35, 4, 36, 37, 38, 39, 46, 47, 48, 49, 50, 51, 52, 53, 54, 55, 56, 57, 58, 59, 60, 61, 62, 63, 64, 65, 66, 67, 68, 69, 70, 71, 72, 73, 74, 75, 76, 77, 78, 79, 80, 81, 82, 83, 84, 85, 86, 87, 88, 89, 90] (by decide +kernel) (by decide +kernel)
set_option maxRecDepth 20000 in
theorem gX10_bound__X10_holdsMany : GoodIn wsX10_bound_ (wsV RX10 267 RX10 yX10_holdsMany wsX10_holdsMany) := goodIn_app (goodIn_of _ (by decide +kernel)) ggX10_bound__X10_holdsMany
set_option maxRecDepth 20000 in
theorem ggX10_bound__X10_comingTo : GoodIn wsX10_bound_ wsX10_comingTo := goodIn_r _ [43, 44, 45, 46, 47, 48, 49, 50, 51, 52, 53, 54, 55, 56, 57, 58, 59, 60, 61, 62, 63, 64, 65, 66, 67, 68, 69, 70, 71, 72, 73, 74, 75, 76, 77, 78, 79, 80, 81, 82, 83, 84, 85, 86, 87, 88, 89, 90] (by decide +kernel) (by decide +kernel)
set_option maxRecDepth 20000 in
theorem gX10_bound__X10_comingTo : GoodIn wsX10_bound_ (wsV RX10 274 RX10 yX10_comingTo wsX10_comingTo) := goodIn_app (goodIn_of _ (by decide +kernel)) ggX10_bound__X10_comingTo
theorem dX10_bound__0 : decode cX10_bound_ 0 = .ok (.aload_n 0, 1) := by decide +kernel
theorem dX10_bound__1 : decode cX10_bound_ 1 = .ok (.iconst 0, 1) := by decide +kernel
theorem dX10_bound__2 : decode cX10_bound_ 2 = .ok (.putfield 120, 3) := by decide +kernel
theorem dX10_bound__5 : decode cX10_bound_ 5 = .ok (.aload_n 0, 1) := by decide +kernel
theorem dX10_bound__6 : decode cX10_bound_ 6 = .ok (.iload_n 1, 1) := by decide +kernel
theorem dX10_bound__7 : decode cX10_bound_ 7 = .ok (.invokevirtual 147, 3) := by decide +kernel
theorem dX10_bound__10 : decode cX10_bound_ 10 = .ok (.ifCond .eq 20, 3) := by decide +kernel
theorem dX10_bound__13 : decode cX10_bound_ 13 = .ok (.aload_n 0, 1) := by decide +kernel
theorem dX10_bound__14 : decode cX10_bound_ 14 = .ok (.getfield 26, 3) := by decide +kernel
theorem dX10_bound__17 : decode cX10_bound_ 17 = .ok (.iload_n 1, 1) := by decide +kernel
theorem dX10_bound__18 : decode cX10_bound_ 18 = .ok (.baload, 1) := by decide +kernel
theorem dX10_bound__19 : decode cX10_bound_ 19 = .ok (.ifCond .eq 11, 3) := by decide +kernel
theorem dX10_bound__22 : decode cX10_bound_ 22 = .ok (.aload_n 0, 1) := by decide +kernel
theorem dX10_bound__23 : decode cX10_bound_ 23 = .ok (.iload_n 1, 1) := by decide +kernel
theorem dX10_bound__24 : decode cX10_bound_ 24 = .ok (.invokevirtual 199, 3) := by decide +kernel
theorem dX10_bound__27 : decode cX10_bound_ 27 = .ok (.ifCond .ne 5, 3) := by decide +kernel
theorem dX10_bound__30 : decode cX10_bound_ 30 = .ok (.iconst (-1), 1) := by decide +kernel
theorem dX10_bound__31 : decode cX10_bound_ 31 = .ok (.ireturn, 1) := by decide +kernel
theorem dX10_bound__32 : decode cX10_bound_ 32 = .ok (.aload_n 0, 1) := by decide +kernel
theorem dX10_bound__33 : decode cX10_bound_ 33 = .ok (.getfield 7, 3) := by decide +kernel
theorem dX10_bound__36 : decode cX10_bound_ 36 = .ok (.aload_n 0, 1) := by decide +kernel
theorem dX10_bound__37 : decode cX10_bound_ 37 = .ok (.getfield 13, 3) := by decide +kernel
theorem dX10_bound__40 : decode cX10_bound_ 40 = .ok (.imul, 1) := by decide +kernel
theorem dX10_bound__41 : decode cX10_bound_ 41 = .ok (.istore_n 2, 1) := by decide +kernel
theorem dX10_bound__42 : decode cX10_bound_ 42 = .ok (.iload_n 2, 1) := by decide +kernel
theorem dX10_bound__43 : decode cX10_bound_ 43 = .ok (.aload_n 0, 1) := by decide +kernel
theorem dX10_bound__44 : decode cX10_bound_ 44 = .ok (.getfield 20, 3) := by decide +kernel
theorem dX10_bound__47 : decode cX10_bound_ 47 = .ok (.iload_n 1, 1) := by decide +kernel
theorem dX10_bound__48 : decode cX10_bound_ 48 = .ok (.iaload, 1) := by decide +kernel
theorem dX10_bound__49 : decode cX10_bound_ 49 = .ok (.invokestatic 283, 3) := by decide +kernel
theorem dX10_bound__52 : decode cX10_bound_ 52 = .ok (.istore_n 3, 1) := by decide +kernel
theorem dX10_bound__53 : decode cX10_bound_ 53 = .ok (.iconst 0, 1) := by decide +kernel
theorem dX10_bound__54 : decode cX10_bound_ 54 = .ok (.istore 4, 2) := by decide +kernel
theorem dX10_bound__56 : decode cX10_bound_ 56 = .ok (.aload_n 0, 1) := by decide +kernel
theorem dX10_bound__57 : decode cX10_bound_ 57 = .ok (.getfield 20, 3) := by decide +kernel
theorem dX10_bound__60 : decode cX10_bound_ 60 = .ok (.iload_n 1, 1) := by decide +kernel
theorem dX10_bound__61 : decode cX10_bound_ 61 = .ok (.iaload, 1) := by decide +kernel
theorem dX10_bound__62 : decode cX10_bound_ 62 = .ok (.istore 5, 2) := by decide +kernel
theorem dX10_bound__64 : decode cX10_bound_ 64 = .ok (.iconst 0, 1) := by decide +kernel
theorem dX10_bound__65 : decode cX10_bound_ 65 = .ok (.istore 6, 2) := by decide +kernel
theorem dX10_bound__67 : decode cX10_bound_ 67 = .ok (.iload 6, 2) := by decide +kernel
theorem dX10_bound__69 : decode cX10_bound_ 69 = .ok (.aload_n 0, 1) := by decide +kernel
theorem dX10_bound__70 : decode cX10_bound_ 70 = .ok (.getfield 136, 3) := by decide +kernel
theorem dX10_bound__73 : decode cX10_bound_ 73 = .ok (.if_icmp .ge 99, 3) := by decide +kernel
theorem dX10_bound__76 : decode cX10_bound_ 76 = .ok (.iload 6, 2) := by decide +kernel
theorem dX10_bound__78 : decode cX10_bound_ 78 = .ok (.iload_n 1, 1) := by decide +kernel
theorem dX10_bound__79 : decode cX10_bound_ 79 = .ok (.if_icmp .eq 87, 3) := by decide +kernel
theorem dX10_bound__82 : decode cX10_bound_ 82 = .ok (.aload_n 0, 1) := by decide +kernel
theorem dX10_bound__83 : decode cX10_bound_ 83 = .ok (.getfield 26, 3) := by decide +kernel
theorem dX10_bound__86 : decode cX10_bound_ 86 = .ok (.iload 6, 2) := by decide +kernel
theorem dX10_bound__88 : decode cX10_bound_ 88 = .ok (.baload, 1) := by decide +kernel
theorem dX10_bound__89 : decode cX10_bound_ 89 = .ok (.ifCond .ne 6, 3) := by decide +kernel
theorem dX10_bound__92 : decode cX10_bound_ 92 = .ok (.goto 74, 3) := by decide +kernel
theorem dX10_bound__95 : decode cX10_bound_ 95 = .ok (.aload_n 0, 1) := by decide +kernel
theorem dX10_bound__96 : decode cX10_bound_ 96 = .ok (.iload 6, 2) := by decide +kernel
theorem dX10_bound__98 : decode cX10_bound_ 98 = .ok (.invokevirtual 160, 3) := by decide +kernel
theorem dX10_bound__101 : decode cX10_bound_ 101 = .ok (.ifCond .gt 21, 3) := by decide +kernel
theorem dX10_bound__104 : decode cX10_bound_ 104 = .ok (.aload_n 0, 1) := by decide +kernel
theorem dX10_bound__105 : decode cX10_bound_ 105 = .ok (.iload 6, 2) := by decide +kernel
theorem dX10_bound__107 : decode cX10_bound_ 107 = .ok (.invokevirtual 267, 3) := by decide +kernel
theorem dX10_bound__110 : decode cX10_bound_ 110 = .ok (.ifCond .gt 12, 3) := by decide +kernel
theorem dX10_bound__113 : decode cX10_bound_ 113 = .ok (.aload_n 0, 1) := by decide +kernel
theorem dX10_bound__114 : decode cX10_bound_ 114 = .ok (.iload 6, 2) := by decide +kernel
theorem dX10_bound__116 : decode cX10_bound_ 116 = .ok (.invokevirtual 274, 3) := by decide +kernel
theorem dX10_bound__119 : decode cX10_bound_ 119 = .ok (.ifCond .le 5, 3) := by decide +kernel
theorem dX10_bound__122 : decode cX10_bound_ 122 = .ok (.iconst (-1), 1) := by decide +kernel
theorem dX10_bound__123 : decode cX10_bound_ 123 = .ok (.ireturn, 1) := by decide +kernel
theorem dX10_bound__124 : decode cX10_bound_ 124 = .ok (.iinc 4 1, 3) := by decide +kernel
theorem dX10_bound__127 : decode cX10_bound_ 127 = .ok (.iload 5, 2) := by decide +kernel
theorem dX10_bound__129 : decode cX10_bound_ 129 = .ok (.aload_n 0, 1) := by decide +kernel
theorem dX10_bound__130 : decode cX10_bound_ 130 = .ok (.getfield 20, 3) := by decide +kernel
theorem dX10_bound__133 : decode cX10_bound_ 133 = .ok (.iload 6, 2) := by decide +kernel
theorem dX10_bound__135 : decode cX10_bound_ 135 = .ok (.iaload, 1) := by decide +kernel
theorem dX10_bound__136 : decode cX10_bound_ 136 = .ok (.iadd, 1) := by decide +kernel
theorem dX10_bound__137 : decode cX10_bound_ 137 = .ok (.istore 5, 2) := by decide +kernel
theorem dX10_bound__139 : decode cX10_bound_ 139 = .ok (.iload_n 2, 1) := by decide +kernel
theorem dX10_bound__140 : decode cX10_bound_ 140 = .ok (.aload_n 0, 1) := by decide +kernel
theorem dX10_bound__141 : decode cX10_bound_ 141 = .ok (.getfield 23, 3) := by decide +kernel
theorem dX10_bound__144 : decode cX10_bound_ 144 = .ok (.iload 6, 2) := by decide +kernel
theorem dX10_bound__146 : decode cX10_bound_ 146 = .ok (.iaload, 1) := by decide +kernel
theorem dX10_bound__147 : decode cX10_bound_ 147 = .ok (.invokestatic 283, 3) := by decide +kernel
theorem dX10_bound__150 : decode cX10_bound_ 150 = .ok (.iload_n 3, 1) := by decide +kernel
theorem dX10_bound__151 : decode cX10_bound_ 151 = .ok (.if_icmp .le 15, 3) := by decide +kernel
theorem dX10_bound__154 : decode cX10_bound_ 154 = .ok (.iload_n 2, 1) := by decide +kernel
theorem dX10_bound__155 : decode cX10_bound_ 155 = .ok (.aload_n 0, 1) := by decide +kernel
theorem dX10_bound__156 : decode cX10_bound_ 156 = .ok (.getfield 23, 3) := by decide +kernel
theorem dX10_bound__159 : decode cX10_bound_ 159 = .ok (.iload 6, 2) := by decide +kernel
theorem dX10_bound__161 : decode cX10_bound_ 161 = .ok (.iaload, 1) := by decide +kernel
theorem dX10_bound__162 : decode cX10_bound_ 162 = .ok (.invokestatic 283, 3) := by decide +kernel
theorem dX10_bound__165 : decode cX10_bound_ 165 = .ok (.istore_n 3, 1) := by decide +kernel
theorem dX10_bound__166 : decode cX10_bound_ 166 = .ok (.iinc 6 1, 3) := by decide +kernel
theorem dX10_bound__169 : decode cX10_bound_ 169 = .ok (.goto (-102), 3) := by decide +kernel
theorem dX10_bound__172 : decode cX10_bound_ 172 = .ok (.iload 4, 2) := by decide +kernel
theorem dX10_bound__174 : decode cX10_bound_ 174 = .ok (.ifCond .ne 5, 3) := by decide +kernel
theorem dX10_bound__177 : decode cX10_bound_ 177 = .ok (.iconst (-1), 1) := by decide +kernel
theorem dX10_bound__178 : decode cX10_bound_ 178 = .ok (.ireturn, 1) := by decide +kernel
theorem dX10_bound__179 : decode cX10_bound_ 179 = .ok (.iload_n 2, 1) := by decide +kernel
theorem dX10_bound__180 : decode cX10_bound_ 180 = .ok (.iload 4, 2) := by decide +kernel
theorem dX10_bound__182 : decode cX10_bound_ 182 = .ok (.imul, 1) := by decide +kernel
theorem dX10_bound__183 : decode cX10_bound_ 183 = .ok (.iload 5, 2) := by decide +kernel
theorem dX10_bound__185 : decode cX10_bound_ 185 = .ok (.invokestatic 283, 3) := by decide +kernel
theorem dX10_bound__188 : decode cX10_bound_ 188 = .ok (.iload_n 3, 1) := by decide +kernel
theorem dX10_bound__189 : decode cX10_bound_ 189 = .ok (.if_icmp .le 15, 3) := by decide +kernel
theorem dX10_bound__192 : decode cX10_bound_ 192 = .ok (.iload_n 2, 1) := by decide +kernel
end
section
theorem dX10_bound__193 : decode cX10_bound_ 193 = .ok (.iload 4, 2) := by decide +kernel
theorem dX10_bound__195 : decode cX10_bound_ 195 = .ok (.imul, 1) := by decide +kernel
theorem dX10_bound__196 : decode cX10_bound_ 196 = .ok (.iload 5, 2) := by decide +kernel
theorem dX10_bound__198 : decode cX10_bound_ 198 = .ok (.invokestatic 283, 3) := by decide +kernel
theorem dX10_bound__201 : decode cX10_bound_ 201 = .ok (.goto 4, 3) := by decide +kernel
theorem dX10_bound__204 : decode cX10_bound_ 204 = .ok (.iload_n 3, 1) := by decide +kernel
theorem dX10_bound__205 : decode cX10_bound_ 205 = .ok (.ireturn, 1) := by decide +kernel
set_option maxRecDepth 20000 in
theorem ggX10_count__X10_count : GoodIn wsX10_count_ wsX10_count := goodIn_r _ [16] (by decide +kernel) (by decide +kernel)
set_option maxRecDepth 20000 in
theorem gX10_count__X10_count : GoodIn wsX10_count_ (wsV RX10 270 RX10 yX10_count wsX10_count) := goodIn_app (goodIn_of _ (by decide +kernel)) ggX10_count__X10_count
set_option maxRecDepth 20000 in
theorem ggX10_count__X10_isDone : GoodIn wsX10_count_ wsX10_isDone := goodIn_r _ [20, 5, 21, 22, 23, 15, 24, 25, 26, 27, 28, 29, 30, 31, 32, 33, 34, 35, 36, 37, 38, 39, 40, 41, 42, 43, 44, 45, 46, 47, 48, 49, 50, 51, 52, 53, 54, 55, 56, 57, 58, 59, 60, 61, 62, 63, 64, 65, 66, 67, 68, 69, 70] (by decide +kernel) (by decide +kernel)
set_option maxRecDepth 20000 in
theorem gX10_count__X10_isDone : GoodIn wsX10_count_ (wsV RX10 199 RX10 yX10_isDone wsX10_isDone) := goodIn_app (goodIn_of _ (by decide +kernel)) ggX10_count__X10_isDone
theorem dX10_count__0 : decode cX10_count_ 0 = .ok (.aload_n 0, 1) := by decide +kernel
theorem dX10_count__1 : decode cX10_count_ 1 = .ok (.iconst 0, 1) := by decide +kernel
theorem dX10_count__2 : decode cX10_count_ 2 = .ok (.putfield 120, 3) := by decide +kernel
theorem dX10_count__5 : decode cX10_count_ 5 = .ok (.iconst 0, 1) := by decide +kernel
theorem dX10_count__6 : decode cX10_count_ 6 = .ok (.istore_n 2, 1) := by decide +kernel
theorem dX10_count__7 : decode cX10_count_ 7 = .ok (.iload_n 1, 1) := by decide +kernel
theorem dX10_count__8 : decode cX10_count_ 8 = .ok (.tableswitch 162 0 10 #[60, 65, 70, 84, 127, 132, 137, 142, 147, 152, 157], 60) := by decide +kernel
theorem dX10_count__68 : decode cX10_count_ 68 = .ok (.aload_n 0, 1) := by decide +kernel
theorem dX10_count__69 : decode cX10_count_ 69 = .ok (.getfield 202, 3) := by decide +kernel
theorem dX10_count__72 : decode cX10_count_ 72 = .ok (.ireturn, 1) := by decide +kernel
theorem dX10_count__73 : decode cX10_count_ 73 = .ok (.aload_n 0, 1) := by decide +kernel
theorem dX10_count__74 : decode cX10_count_ 74 = .ok (.getfield 136, 3) := by decide +kernel
theorem dX10_count__77 : decode cX10_count_ 77 = .ok (.ireturn, 1) := by decide +kernel
theorem dX10_count__78 : decode cX10_count_ 78 = .ok (.aload_n 0, 1) := by decide +kernel
theorem dX10_count__79 : decode cX10_count_ 79 = .ok (.aload_n 0, 1) := by decide +kernel
theorem dX10_count__80 : decode cX10_count_ 80 = .ok (.getfield 26, 3) := by decide +kernel
theorem dX10_count__83 : decode cX10_count_ 83 = .ok (.iconst 0, 1) := by decide +kernel
theorem dX10_count__84 : decode cX10_count_ 84 = .ok (.aload_n 0, 1) := by decide +kernel
theorem dX10_count__85 : decode cX10_count_ 85 = .ok (.getfield 136, 3) := by decide +kernel
theorem dX10_count__88 : decode cX10_count_ 88 = .ok (.invokevirtual 270, 3) := by decide +kernel
theorem dX10_count__91 : decode cX10_count_ 91 = .ok (.ireturn, 1) := by decide +kernel
theorem dX10_count__92 : decode cX10_count_ 92 = .ok (.iconst 0, 1) := by decide +kernel
theorem dX10_count__93 : decode cX10_count_ 93 = .ok (.istore_n 3, 1) := by decide +kernel
theorem dX10_count__94 : decode cX10_count_ 94 = .ok (.iload_n 3, 1) := by decide +kernel
theorem dX10_count__95 : decode cX10_count_ 95 = .ok (.aload_n 0, 1) := by decide +kernel
theorem dX10_count__96 : decode cX10_count_ 96 = .ok (.getfield 136, 3) := by decide +kernel
theorem dX10_count__99 : decode cX10_count_ 99 = .ok (.if_icmp .ge 34, 3) := by decide +kernel
theorem dX10_count__102 : decode cX10_count_ 102 = .ok (.iload_n 2, 1) := by decide +kernel
theorem dX10_count__103 : decode cX10_count_ 103 = .ok (.aload_n 0, 1) := by decide +kernel
theorem dX10_count__104 : decode cX10_count_ 104 = .ok (.getfield 26, 3) := by decide +kernel
theorem dX10_count__107 : decode cX10_count_ 107 = .ok (.iload_n 3, 1) := by decide +kernel
theorem dX10_count__108 : decode cX10_count_ 108 = .ok (.baload, 1) := by decide +kernel
theorem dX10_count__109 : decode cX10_count_ 109 = .ok (.ifCond .eq 15, 3) := by decide +kernel
theorem dX10_count__112 : decode cX10_count_ 112 = .ok (.aload_n 0, 1) := by decide +kernel
theorem dX10_count__113 : decode cX10_count_ 113 = .ok (.iload_n 3, 1) := by decide +kernel
theorem dX10_count__114 : decode cX10_count_ 114 = .ok (.invokevirtual 199, 3) := by decide +kernel
theorem dX10_count__117 : decode cX10_count_ 117 = .ok (.ifCond .eq 7, 3) := by decide +kernel
theorem dX10_count__120 : decode cX10_count_ 120 = .ok (.iconst 1, 1) := by decide +kernel
theorem dX10_count__121 : decode cX10_count_ 121 = .ok (.goto 4, 3) := by decide +kernel
theorem dX10_count__124 : decode cX10_count_ 124 = .ok (.iconst 0, 1) := by decide +kernel
theorem dX10_count__125 : decode cX10_count_ 125 = .ok (.iadd, 1) := by decide +kernel
theorem dX10_count__126 : decode cX10_count_ 126 = .ok (.istore_n 2, 1) := by decide +kernel
theorem dX10_count__127 : decode cX10_count_ 127 = .ok (.iinc 3 1, 3) := by decide +kernel
theorem dX10_count__130 : decode cX10_count_ 130 = .ok (.goto (-36), 3) := by decide +kernel
theorem dX10_count__133 : decode cX10_count_ 133 = .ok (.iload_n 2, 1) := by decide +kernel
theorem dX10_count__134 : decode cX10_count_ 134 = .ok (.ireturn, 1) := by decide +kernel
theorem dX10_count__135 : decode cX10_count_ 135 = .ok (.aload_n 0, 1) := by decide +kernel
theorem dX10_count__136 : decode cX10_count_ 136 = .ok (.getfield 7, 3) := by decide +kernel
theorem dX10_count__139 : decode cX10_count_ 139 = .ok (.ireturn, 1) := by decide +kernel
theorem dX10_count__140 : decode cX10_count_ 140 = .ok (.aload_n 0, 1) := by decide +kernel
theorem dX10_count__141 : decode cX10_count_ 141 = .ok (.getfield 13, 3) := by decide +kernel
theorem dX10_count__144 : decode cX10_count_ 144 = .ok (.ireturn, 1) := by decide +kernel
theorem dX10_count__145 : decode cX10_count_ 145 = .ok (.aload_n 0, 1) := by decide +kernel
theorem dX10_count__146 : decode cX10_count_ 146 = .ok (.getfield 221, 3) := by decide +kernel
theorem dX10_count__149 : decode cX10_count_ 149 = .ok (.ireturn, 1) := by decide +kernel
theorem dX10_count__150 : decode cX10_count_ 150 = .ok (.aload_n 0, 1) := by decide +kernel
theorem dX10_count__151 : decode cX10_count_ 151 = .ok (.getfield 170, 3) := by decide +kernel
theorem dX10_count__154 : decode cX10_count_ 154 = .ok (.ireturn, 1) := by decide +kernel
theorem dX10_count__155 : decode cX10_count_ 155 = .ok (.aload_n 0, 1) := by decide +kernel
theorem dX10_count__156 : decode cX10_count_ 156 = .ok (.getfield 177, 3) := by decide +kernel
theorem dX10_count__159 : decode cX10_count_ 159 = .ok (.ireturn, 1) := by decide +kernel
theorem dX10_count__160 : decode cX10_count_ 160 = .ok (.aload_n 0, 1) := by decide +kernel
theorem dX10_count__161 : decode cX10_count_ 161 = .ok (.getfield 180, 3) := by decide +kernel
theorem dX10_count__164 : decode cX10_count_ 164 = .ok (.ireturn, 1) := by decide +kernel
theorem dX10_count__165 : decode cX10_count_ 165 = .ok (.aload_n 0, 1) := by decide +kernel
theorem dX10_count__166 : decode cX10_count_ 166 = .ok (.getfield 190, 3) := by decide +kernel
theorem dX10_count__169 : decode cX10_count_ 169 = .ok (.ireturn, 1) := by decide +kernel
theorem dX10_count__170 : decode cX10_count_ 170 = .ok (.iconst (-1), 1) := by decide +kernel
theorem dX10_count__171 : decode cX10_count_ 171 = .ok (.ireturn, 1) := by decide +kernel
theorem dJ6_bitCount_0f7a4_0 : decode cJ6_bitCount_0f7a4 0 = .ok (.iload_n 0, 1) := by decide +kernel
theorem dJ6_bitCount_0f7a4_1 : decode cJ6_bitCount_0f7a4 1 = .ok (.iload_n 0, 1) := by decide +kernel
theorem dJ6_bitCount_0f7a4_2 : decode cJ6_bitCount_0f7a4 2 = .ok (.iconst 1, 1) := by decide +kernel
theorem dJ6_bitCount_0f7a4_3 : decode cJ6_bitCount_0f7a4 3 = .ok (.iushr, 1) := by decide +kernel
theorem dJ6_bitCount_0f7a4_4 : decode cJ6_bitCount_0f7a4 4 = .ok (.ldc_w 265, 3) := by decide +kernel
theorem dJ6_bitCount_0f7a4_7 : decode cJ6_bitCount_0f7a4 7 = .ok (.iand, 1) := by decide +kernel
theorem dJ6_bitCount_0f7a4_8 : decode cJ6_bitCount_0f7a4 8 = .ok (.isub, 1) := by decide +kernel
theorem dJ6_bitCount_0f7a4_9 : decode cJ6_bitCount_0f7a4 9 = .ok (.istore_n 0, 1) := by decide +kernel
theorem dJ6_bitCount_0f7a4_10 : decode cJ6_bitCount_0f7a4 10 = .ok (.iload_n 0, 1) := by decide +kernel
theorem dJ6_bitCount_0f7a4_11 : decode cJ6_bitCount_0f7a4 11 = .ok (.ldc_w 266, 3) := by decide +kernel
theorem dJ6_bitCount_0f7a4_14 : decode cJ6_bitCount_0f7a4 14 = .ok (.iand, 1) := by decide +kernel
theorem dJ6_bitCount_0f7a4_15 : decode cJ6_bitCount_0f7a4 15 = .ok (.iload_n 0, 1) := by decide +kernel
theorem dJ6_bitCount_0f7a4_16 : decode cJ6_bitCount_0f7a4 16 = .ok (.iconst 2, 1) := by decide +kernel
theorem dJ6_bitCount_0f7a4_17 : decode cJ6_bitCount_0f7a4 17 = .ok (.iushr, 1) := by decide +kernel
theorem dJ6_bitCount_0f7a4_18 : decode cJ6_bitCount_0f7a4 18 = .ok (.ldc_w 266, 3) := by decide +kernel
theorem dJ6_bitCount_0f7a4_21 : decode cJ6_bitCount_0f7a4 21 = .ok (.iand, 1) := by decide +kernel
theorem dJ6_bitCount_0f7a4_22 : decode cJ6_bitCount_0f7a4 22 = .ok (.iadd, 1) := by decide +kernel
theorem dJ6_bitCount_0f7a4_23 : decode cJ6_bitCount_0f7a4 23 = .ok (.istore_n 0, 1) := by decide +kernel
theorem dJ6_bitCount_0f7a4_24 : decode cJ6_bitCount_0f7a4 24 = .ok (.iload_n 0, 1) := by decide +kernel
theorem dJ6_bitCount_0f7a4_25 : decode cJ6_bitCount_0f7a4 25 = .ok (.iload_n 0, 1) := by decide +kernel
theorem dJ6_bitCount_0f7a4_26 : decode cJ6_bitCount_0f7a4 26 = .ok (.iconst 4, 1) := by decide +kernel
theorem dJ6_bitCount_0f7a4_27 : decode cJ6_bitCount_0f7a4 27 = .ok (.iushr, 1) := by decide +kernel
theorem dJ6_bitCount_0f7a4_28 : decode cJ6_bitCount_0f7a4 28 = .ok (.iadd, 1) := by decide +kernel
theorem dJ6_bitCount_0f7a4_29 : decode cJ6_bitCount_0f7a4 29 = .ok (.ldc_w 267, 3) := by decide +kernel
theorem dJ6_bitCount_0f7a4_32 : decode cJ6_bitCount_0f7a4 32 = .ok (.iand, 1) := by decide +kernel
theorem dJ6_bitCount_0f7a4_33 : decode cJ6_bitCount_0f7a4 33 = .ok (.istore_n 0, 1) := by decide +kernel
theorem dJ6_bitCount_0f7a4_34 : decode cJ6_bitCount_0f7a4 34 = .ok (.iload_n 0, 1) := by decide +kernel
theorem dJ6_bitCount_0f7a4_35 : decode cJ6_bitCount_0f7a4 35 = .ok (.iload_n 0, 1) := by decide +kernel
theorem dJ6_bitCount_0f7a4_36 : decode cJ6_bitCount_0f7a4 36 = .ok (.bipush 8, 2) := by decide +kernel
theorem dJ6_bitCount_0f7a4_38 : decode cJ6_bitCount_0f7a4 38 = .ok (.iushr, 1) := by decide +kernel
theorem dJ6_bitCount_0f7a4_39 : decode cJ6_bitCount_0f7a4 39 = .ok (.iadd, 1) := by decide +kernel
theorem dJ6_bitCount_0f7a4_40 : decode cJ6_bitCount_0f7a4 40 = .ok (.istore_n 0, 1) := by decide +kernel
theorem dJ6_bitCount_0f7a4_41 : decode cJ6_bitCount_0f7a4 41 = .ok (.iload_n 0, 1) := by decide +kernel
theorem dJ6_bitCount_0f7a4_42 : decode cJ6_bitCount_0f7a4 42 = .ok (.iload_n 0, 1) := by decide +kernel
theorem dJ6_bitCount_0f7a4_43 : decode cJ6_bitCount_0f7a4 43 = .ok (.bipush 16, 2) := by decide +kernel
theorem dJ6_bitCount_0f7a4_45 : decode cJ6_bitCount_0f7a4 45 = .ok (.iushr, 1) := by decide +kernel
theorem dJ6_bitCount_0f7a4_46 : decode cJ6_bitCount_0f7a4 46 = .ok (.iadd, 1) := by decide +kernel
theorem dJ6_bitCount_0f7a4_47 : decode cJ6_bitCount_0f7a4 47 = .ok (.istore_n 0, 1) := by decide +kernel
theorem dJ6_bitCount_0f7a4_48 : decode cJ6_bitCount_0f7a4 48 = .ok (.iload_n 0, 1) := by decide +kernel
theorem dJ6_bitCount_0f7a4_49 : decode cJ6_bitCount_0f7a4 49 = .ok (.bipush 63, 2) := by decide +kernel
theorem dJ6_bitCount_0f7a4_51 : decode cJ6_bitCount_0f7a4 51 = .ok (.iand, 1) := by decide +kernel
theorem dJ6_bitCount_0f7a4_52 : decode cJ6_bitCount_0f7a4 52 = .ok (.ireturn, 1) := by decide +kernel
theorem dJ9_max_7cf53_0 : decode cJ9_max_7cf53 0 = .ok (.iload_n 0, 1) := by decide +kernel
theorem dJ9_max_7cf53_1 : decode cJ9_max_7cf53 1 = .ok (.iload_n 1, 1) := by decide +kernel
theorem dJ9_max_7cf53_2 : decode cJ9_max_7cf53 2 = .ok (.if_icmp .lt 7, 3) := by decide +kernel
theorem dJ9_max_7cf53_5 : decode cJ9_max_7cf53 5 = .ok (.iload_n 0, 1) := by decide +kernel
theorem dJ9_max_7cf53_6 : decode cJ9_max_7cf53 6 = .ok (.goto 4, 3) := by decide +kernel
theorem dJ9_max_7cf53_9 : decode cJ9_max_7cf53 9 = .ok (.iload_n 1, 1) := by decide +kernel
theorem dJ9_max_7cf53_10 : decode cJ9_max_7cf53 10 = .ok (.ireturn, 1) := by decide +kernel
abbrev vwCl : List vw_C := [(RX0, TX0, 1), (RX1, TX1, 1), (RX2, TX2, 8), (RX3, TX3, 13), (RX4, TX4, 1), (RX5, TX5, 7), (RX6, TX6, 6), (RX7, TX7, 10), (RX8, TX8, 3), (RX9, TX9, 4), (RX10, TX10, 45)]
end
section
/-! the walk's own small kit: a world of fixed shape, whose whole numbers alone change: v k i j is what stands in cell (k, i) at place j -/
abbrev St3 : Type := Nat → Nat → Nat → Int32
def up3 (v : St3) (k i j : Nat) (x : Int32) : St3 := fun a b c => if a = k ∧ b = i ∧ c = j then x else v a b c
theorem up3_row (v : St3) (k i j : Nat) (x : Int32) : up3 v k i j x k i = upd (v k i) j x := by
  funext c
  simp [up3, upd]
theorem up3_off {v : St3} {k i j a b : Nat} {x : Int32} (h : ¬ (a = k ∧ b = i)) : up3 v k i j x a b = v a b := by
  funext c
  simp only [up3]
  rw [if_neg]
  intro q
  exact h ⟨q.1, q.2.1⟩
theorem up3_at (v : St3) (k i j : Nat) (x : Int32) : up3 v k i j x k i j = x := by simp [up3]
abbrev Geo : Type := va_G × (Nat → Nat → Nat) × ClassId × ClassId × ClassId
abbrev gD (G : Geo) : va_G := G.1
abbrev gA (G : Geo) : Nat → Nat → Nat := G.2.1
def gT (G : Geo) : List (ClassId × FieldType) := [(G.2.2.1, .int), (G.2.2.2.1, .boolean), (G.2.2.2.2, .object "PieceSwarm$Member")]
/-- how many cells of a kind there are -/
def cnt (k : Nat) : Nat := bif (Nat.ble 14 k && Nat.ble k 23) then 12 else bif (Nat.ble k 24 || (Nat.ble 40 k && Nat.ble k 63) || (Nat.ble 65 k && Nat.ble k 74)) then 1 else 0
/-- an object kind's fields: 0 a whole number, else the kind that it refers to -/
def kFs : List (List Nat) := [[1, 2, 3, 4], [5, 13, 6, 0, 0, 0, 0, 0], [1], [1], [1], [0, 0, 0], [7, 8, 9, 10, 11, 12, 0], [], [], [], [], [], [], [], [15, 16, 0, 0, 0, 0, 0, 0, 0, 0, 0, 0, 0], [17, 18, 19, 0, 0, 0], [20, 21, 22, 23, 0, 0, 0, 0, 0, 0], [], [], [], [], [], [], [], [0, 0, 0, 0, 0, 0, 0, 0, 0, 0, 40, 41, 42, 43, 44, 45, 46, 47, 48, 49, 50, 51, 52, 53, 54, 55, 56, 57, 58, 59, 60, 61, 62, 63, 0, 65, 66, 67, 68, 69, 70, 71, 72, 73, 74]]
def kF (k : Nat) : List Nat := (kFs[k]?).getD []
/-- an object kind's class, by its place in vwCl -/
def kCs : List Nat := [9, 2, 0, 4, 1, 8, 5, 0, 0, 0, 0, 0, 0, 0, 3, 6, 7, 0, 0, 0, 0, 0, 0, 0, 10]
def kC (k : Nat) : Nat := (kCs[k]?).getD 0
/-- an array kind's length -/
def kLs : List Nat := [0, 0, 0, 0, 0, 0, 0, 192, 192, 192, 192, 192, 192, 0, 0, 0, 0, 96, 96, 96, 12, 12, 12, 12, 0, 0, 0, 0, 0, 0, 0, 0, 0, 0, 0, 0, 0, 0, 0, 0, 12, 12, 12, 12, 12, 12, 12, 12, 12, 12, 288, 288, 1152, 1152, 1152, 144, 144, 144, 144, 144, 144, 144, 12, 12, 0, 400, 400, 400, 400, 400, 400, 400, 12, 12, 12]
def kL (k : Nat) : Nat := (kLs[k]?).getD 0
/-- is it an array of truths -/
def kZ (k : Nat) : Bool := Nat.beq k 43 || Nat.beq k 50 || Nat.beq k 51 || Nat.beq k 52 || Nat.beq k 55 || Nat.beq k 56 || Nat.beq k 57 || Nat.beq k 71 || Nat.beq k 72
def fl (G : Geo) (v : St3) (k i : Nat) : Nat → List Nat → List Value
  | _, [] => []
  | j, 0 :: r => .int (v k i j) :: fl G v k i (j + 1) r
  | j, (q + 1) :: r => .ref (gA G (q + 1) i) :: fl G v k i (j + 1) r
def fv (G : Geo) (v : St3) (k i j : Nat) (q : Nat) : Value := match q with
  | 0 => .int (v k i j)
  | q + 1 => .ref (gA G (q + 1) i)
theorem fl_get (G : Geo) (v : St3) (k i : Nat) : ∀ (fs : List Nat) (j0 j : Nat), (fl G v k i j0 fs)[j]? = (fs[j]?).map (fv G v k i (j0 + j))
  | [], j0, j => by simp [fl]
  | 0 :: r, j0, 0 => by simp [fl, fv]
  | (q + 1) :: r, j0, 0 => by simp [fl, fv]
  | 0 :: r, j0, j + 1 => by
    simp only [fl, List.getElem?_cons_succ]
    rw [fl_get G v k i r (j0 + 1) j, show j0 + 1 + j = j0 + (j + 1) by omega]
  | (q + 1) :: r, j0, j + 1 => by
    simp only [fl, List.getElem?_cons_succ]
    rw [fl_get G v k i r (j0 + 1) j, show j0 + 1 + j = j0 + (j + 1) by omega]
theorem fl_len (G : Geo) (v : St3) (k i : Nat) : ∀ (fs : List Nat) (j0 : Nat), (fl G v k i j0 fs).length = fs.length
  | [], _ => rfl
  | 0 :: r, j0 => by simp [fl, fl_len G v k i r (j0 + 1)]
  | (q + 1) :: r, j0 => by simp [fl, fl_len G v k i r (j0 + 1)]
theorem fl_set (G : Geo) (v : St3) (k i j : Nat) (fs : List Nat) (x : Int32) (h : fs[j]? = some 0) : (fl G v k i 0 fs).set j (.int x) = fl G (up3 v k i j x) k i 0 fs := by
  apply List.ext_getElem?
  intro m
  have hl : j < fs.length := (List.getElem?_eq_some_iff.mp h).1
  by_cases hm : m = j
  · subst hm
    rw [List.getElem?_set_self (by rw [fl_len]; exact hl), fl_get, h]
    simp [fv, up3]
  · rw [List.getElem?_set_ne (Ne.symm hm), fl_get, fl_get]
    cases hq : fs[m]? with
    | none => rfl
    | some q =>
      cases q with
      | zero => simp [fv, up3, hm]
      | succ q => simp [fv]
theorem fl_off {G : Geo} {v v' : St3} {k i : Nat} (h : v' k i = v k i) (fs : List Nat) : fl G v' k i 0 fs = fl G v k i 0 fs := by
  apply List.ext_getElem?
  intro m
  rw [fl_get, fl_get]
  cases hq : fs[m]? with
  | none => rfl
  | some q =>
    cases q with
    | zero => simp [fv, h]
    | succ q => simp [fv]
def cE (G : Geo) (v : St3) (k i : Nat) : va_E := match kL k with
  | n + 1 => .inl (bif kZ k then G.2.2.2.1 else G.2.2.1, n + 1, .inl (v k i))
  | 0 => bif Nat.beq k 13 then .inl (G.2.2.2.2, 12, .inr (.inr (.inr (.inr (fun j => some (gA G 14 j)))))) else .inr (kC k, fl G v k i 0 (kF k))
theorem cE_obj {G : Geo} {v : St3} {k i : Nat} (h : kL k = 0) (h13 : Nat.beq k 13 = false) : cE G v k i = .inr (kC k, fl G v k i 0 (kF k)) := by
  simp only [cE, h, h13, cond_false]
theorem cE_arr {G : Geo} {v : St3} {k i n : Nat} (h : kL k = n + 1) : cE G v k i = .inl (bif kZ k then G.2.2.2.1 else G.2.2.1, n + 1, .inl (v k i)) := by
  simp only [cE, h]
theorem cE_off {G : Geo} {v v' : St3} {k i : Nat} (h : v' k i = v k i) : cE G v' k i = cE G v k i := by
  simp only [cE, h, fl_off h]
def cellsL : List (Nat × Nat) := (List.range 75).flatMap (fun k => (List.range (cnt k)).map (fun i => (k, i)))
theorem cellsL_mem {k i : Nat} (h : i < cnt k) : (k, i) ∈ cellsL := by
  have hk : k < 75 := by
    rcases Nat.lt_or_ge k 75 with q | q
    · exact q
    · exfalso
      have : cnt k = 0 := by
        have e1 : Nat.ble k 23 = false := by rw [← Bool.not_eq_true, Nat.ble_eq]; omega
        have e2 : Nat.ble k 24 = false := by rw [← Bool.not_eq_true, Nat.ble_eq]; omega
        have e3 : Nat.ble k 63 = false := by rw [← Bool.not_eq_true, Nat.ble_eq]; omega
        have e4 : Nat.ble k 74 = false := by rw [← Bool.not_eq_true, Nat.ble_eq]; omega
        simp [cnt, e1, e2, e3, e4]
      omega
  exact List.mem_flatMap.mpr ⟨k, List.mem_range.mpr hk, List.mem_map.mpr ⟨i, List.mem_range.mpr h, rfl⟩⟩
theorem cellsL_inv {k i : Nat} (h : (k, i) ∈ cellsL) : i < cnt k := by
  obtain ⟨k', -, h2⟩ := List.mem_flatMap.mp h
  obtain ⟨i', h3, h4⟩ := List.mem_map.mp h2
  cases h4
  exact List.mem_range.mp h3
def wl (G : Geo) (v : St3) : va_W := cellsL.map (fun q => (gA G q.1 q.2, cE G v q.1 q.2))
theorem wl_at (G : Geo) (v : St3) {k i : Nat} (h : i < cnt k) : ∃ q0 : Nat, cellsL[q0]? = some (k, i) ∧ (wl G v)[q0]? = some (gA G k i, cE G v k i) := by
  obtain ⟨q0, hq⟩ := List.getElem?_of_mem (cellsL_mem h)
  exact ⟨q0, hq, by simp [wl, List.getElem?_map, hq]⟩
/-- the cells that a method may write -/
def AG (G : Geo) : Nat → Prop := fun q => ∃ k i : Nat, i < cnt k ∧ q = gA G k i
def Apart (G : Geo) : Prop := ∀ k i k' i' : Nat, i < cnt k → i' < cnt k' → gA G k i = gA G k' i' → k = k' ∧ i = i'
theorem cellsL_inj : ∀ (i j : Nat) (p : Nat × Nat), cellsL[i]? = some p → cellsL[j]? = some p → i = j := by
  have hn : cellsL.Nodup := by decide +kernel
  intro i j p hi hj
  exact (List.getElem?_inj (List.getElem?_eq_some_iff.mp hi).1 hn).mp (hi.trans hj.symm)
theorem wl_inv {G : Geo} {v : St3} {n : Nat} {q : Nat × va_E} (h : (wl G v)[n]? = some q) : ∃ k i : Nat, cellsL[n]? = some (k, i) ∧ i < cnt k ∧ q = (gA G k i, cE G v k i) := by
  simp only [wl, List.getElem?_map] at h
  cases hc : cellsL[n]? with
  | none => rw [hc] at h; cases h
  | some p =>
    rw [hc] at h
    obtain ⟨k, i⟩ := p
    exact ⟨k, i, rfl, cellsL_inv (List.mem_of_getElem? hc), (Option.some.inj h).symm⟩
theorem Apart.D {G : Geo} (h : Apart G) (v : St3) : va_D (AG G) (wl G v) := by
  refine ⟨fun a b p q hp hq e => ?_, fun n q hq => ?_⟩
  · obtain ⟨k, i, c1, l1, rfl⟩ := wl_inv hp
    obtain ⟨k', i', c2, l2, rfl⟩ := wl_inv hq
    obtain ⟨rfl, rfl⟩ := h k i k' i' l1 l2 e
    exact cellsL_inj a b _ c1 c2
  · obtain ⟨k, i, -, l1, rfl⟩ := wl_inv hq
    exact ⟨k, i, l1, rfl⟩
theorem wl_set {G : Geo} {v v' : St3} {k i q0 : Nat} (hc : cellsL[q0]? = some (k, i)) (hoff : ∀ a b : Nat, ¬ (a = k ∧ b = i) → v' a b = v a b) : (wl G v).set q0 (gA G k i, cE G v' k i) = wl G v' := by
  have hl : q0 < cellsL.length := (List.getElem?_eq_some_iff.mp hc).1
  apply List.ext_getElem?
  intro m
  by_cases hm : m = q0
  · subst hm
    rw [List.getElem?_set_self (by simpa [wl] using hl)]
    simp [wl, List.getElem?_map, hc]
  · rw [List.getElem?_set_ne (Ne.symm hm)]
    simp only [wl, List.getElem?_map]
    cases hq : cellsL[m]? with
    | none => rfl
    | some p =>
      obtain ⟨a, b⟩ := p
      have hne : ¬ (a = k ∧ b = i) := by
        rintro ⟨rfl, rfl⟩
        exact hm (cellsL_inj m q0 _ hq hc)
      simp only [Option.map_some]
      rw [cE_off (hoff a b hne)]
/-- words of calls of a nest mate's private methods -/
def nestL : List (String × Nat × MethodName) := [(RX8, 28, yX9_sumWith), (RX6, 30, yX9_place), (RX0, 121, yX9_isIn), (RX6, 44, yX9_isIn), (RX6, 51, yX9_oneIf), (RX6, 65, yX9_sumWith), (RX4, 24, yX9_isIn), (RX2, 69, yX9_isIn), (RX1, 24, yX9_isIn), (RX1, 158, yX9_place), (RX2, 132, yX9_oneIf)]
def NW (U : State) : Prop := ∀ q ∈ nestL, va_Nw (.methodLinkNest q.1 q.2.1 q.2.2 "PieceSwarm") U
abbrev CT : Type := Program × Env × Room × State × MethodId × Array Value × List Frame × Method × Code × Nat × Nat × Nat × (State → Prop)
abbrev xp (X : CT) : Program := X.1
abbrev xe (X : CT) : Env := X.2.1
abbrev xR (X : CT) : Room := X.2.2.1
abbrev xs (X : CT) : State := X.2.2.2.1
abbrev xm (X : CT) : MethodId := X.2.2.2.2.1
abbrev xa (X : CT) : Array Value := X.2.2.2.2.2.1
abbrev xb (X : CT) : List Frame := X.2.2.2.2.2.2.1
abbrev xM (X : CT) : Method := X.2.2.2.2.2.2.2.1
abbrev xc (X : CT) : Code := X.2.2.2.2.2.2.2.2.1
abbrev xn (X : CT) : Nat := X.2.2.2.2.2.2.2.2.2.1
abbrev xk (X : CT) : Nat := X.2.2.2.2.2.2.2.2.2.2.1
abbrev xw (X : CT) : Nat := X.2.2.2.2.2.2.2.2.2.2.2.1
abbrev xQ (X : CT) : State → Prop := X.2.2.2.2.2.2.2.2.2.2.2.2
def J (l : Launch) (G : Geo) (X : CT) (pc : Nat) (lv : List (Nat × Value)) (st : List Value) (v : St3) : Prop :=
  ∀ (H : Heap) (locs : List Loc) (ls : Array Slot), lv_has ls (xn X) lv → va_P (gD G) vwCl (wl G v) H → va_S (AG G) (xs X).heap H locs → W (xp X) l (xe X) (xR X) (xs X) (xm X) (xa X) (xb X) (xM X) (xc X) H locs (xk X) (xw X) (xQ X) (F0 (xm X) pc ls st)
def OK (G : Geo) (X : CT) (cc : ByteArray) (Ts : List Cond) (own : String) (n : Nat) (nL : Nat) : Prop :=
  (xp X).tables.exec = Jvm.exec ∧ (xc X).code = cc ∧ (xc X).maxLocals = xn X ∧ (xs X).vm.findClass own = some (xm X).cls ∧ (∀ w ∈ Ts, w.before (xa X) (xs X) = true) ∧ va_K (gD G) vwCl (gT G) (xs X) ∧ Apart G ∧ NW (xs X) ∧ (n ≤ (xR X).frames ∧ 36 * n ≤ (xR X).locals) ∧ xn X = nL ∧ (xk X ≤ (xR X).cells ∧ xw X ≤ (xR X).slots)
/-- the value of a place among the listed ones -/
def lk : List (Nat × Value) → Nat → Option Value
  | [], _ => none
  | q :: r, i => bif Nat.beq q.1 i then some q.2 else lk r i
theorem lk_at {ls : Array Slot} {n : Nat} : ∀ {lv : List (Nat × Value)} {i : Nat} {x : Value}, lv_has ls n lv → lk lv i = some x → ls[i]? = some (.val x)
  | [], i, x, _, e => by simp [lk] at e
  | q :: r, i, x, h, e => by
    simp only [lk] at e
    cases hb : Nat.beq q.1 i with
    | true =>
      rw [hb, cond_true] at e
      have := Nat.eq_of_beq_eq_true hb
      subst this
      cases e
      exact h.2.2 q List.mem_cons_self
    | false =>
      rw [hb, cond_false] at e
      exact lk_at (lv := r) ⟨h.1, h.2.1, fun q' hq => h.2.2 q' (List.mem_cons_of_mem _ hq)⟩ e
theorem lk_mem {lv : List (Nat × Value)} {i : Nat} {x : Value} (e : lk lv i = some x) : ∃ k : Nat, lv[k]? = some (i, x) := by
  have h : (i, x) ∈ lv := by
    induction lv with
    | nil => simp [lk] at e
    | cons q r ih =>
      simp only [lk] at e
      cases hb : Nat.beq q.1 i with
      | true =>
        rw [hb, cond_true] at e
        have := Nat.eq_of_beq_eq_true hb
        subst this
        cases e
        exact List.mem_cons_self
      | false =>
        rw [hb, cond_false] at e
        exact List.mem_cons_of_mem _ (ih e)
  exact List.getElem?_of_mem h
section ROWS
variable {l : Launch} {G : Geo} {X : CT} {cc : ByteArray} {Ts : List Cond} {own : String} {n nL : Nat} {pc : Nat} {lv : List (Nat × Value)} {st : List Value} {v : St3}
theorem q_lv (ks : List Nat) {lv' : List (Nat × Value)} (h : lv_pick lv ks = lv') (k : J l G X pc lv' st v) : J l G X pc lv st v := fun H locs ls hl hP hS => k H locs ls (lv_sub hl ks h) hP hS
theorem q_iconst (o : OK G X cc Ts own n nL) {z : Int} (d : decode cc pc = .ok (.iconst z, 1)) {x : Int32} (hx : Int32.ofInt z = x) (k : J l G X (pc + 1) lv (.int x :: st) v) : J l G X pc lv st v := fun H locs ls hl hP hS => lv_iconst o.1 o.2.1 d hx (k H locs ls hl hP hS)
theorem q_bipush (o : OK G X cc Ts own n nL) {z : Int} (d : decode cc pc = .ok (.bipush z, 2)) {x : Int32} (hx : (Int8.ofInt z).toInt32 = x) (k : J l G X (pc + 2) lv (.int x :: st) v) : J l G X pc lv st v := fun H locs ls hl hP hS => lv_bipush o.1 o.2.1 d hx (k H locs ls hl hP hS)
theorem q_sipush (o : OK G X cc Ts own n nL) {z : Int} (d : decode cc pc = .ok (.sipush z, 3)) {x : Int32} (hx : (Int16.ofInt z).toInt32 = x) (k : J l G X (pc + 3) lv (.int x :: st) v) : J l G X pc lv st v := fun H locs ls hl hP hS => lv_sipush o.1 o.2.1 d hx (k H locs ls hl hP hS)
theorem q_ldc (o : OK G X cc Ts own n nL) {idx : Nat} {x : Int32} (hc : Cond.constant own idx x ∈ Ts) (d : decode cc pc = .ok (.ldc idx, 2)) (k : J l G X (pc + 2) lv (.int x :: st) v) : J l G X pc lv st v := fun H locs ls hl hP hS => lv_ldc o.1 o.2.1 o.2.2.2.1 (o.2.2.2.2.1 _ hc) d (k H locs ls hl hP hS)
theorem q_ldcw (o : OK G X cc Ts own n nL) {idx : Nat} {x : Int32} (hc : Cond.constant own idx x ∈ Ts) (d : decode cc pc = .ok (.ldc_w idx, 3)) (k : J l G X (pc + 3) lv (.int x :: st) v) : J l G X pc lv st v := fun H locs ls hl hP hS => lv_ldcw o.1 o.2.1 o.2.2.2.1 (o.2.2.2.2.1 _ hc) d (k H locs ls hl hP hS)
theorem q_iload (o : OK G X cc Ts own n nL) {i : Nat} {x : Int32} (d : decode cc pc = .ok (.iload i, 2)) (h : lk lv i = some (.int x)) (k : J l G X (pc + 2) lv (.int x :: st) v) : J l G X pc lv st v := fun H locs ls hl hP hS => lv_iload o.1 o.2.1 d (lk_at hl h) (k H locs ls hl hP hS)
theorem q_iload_n (o : OK G X cc Ts own n nL) {i : Fin 4} {x : Int32} (d : decode cc pc = .ok (.iload_n i, 1)) (h : lk lv (i : Nat) = some (.int x)) (k : J l G X (pc + 1) lv (.int x :: st) v) : J l G X pc lv st v := fun H locs ls hl hP hS => lv_iload_n o.1 o.2.1 d rfl (lk_at hl h) (k H locs ls hl hP hS)
theorem q_aload (o : OK G X cc Ts own n nL) {i : Nat} {x : Nat} (d : decode cc pc = .ok (.aload i, 2)) (h : lk lv i = some (.ref x)) (k : J l G X (pc + 2) lv (.ref x :: st) v) : J l G X pc lv st v := fun H locs ls hl hP hS => lv_aload o.1 o.2.1 d (lk_at hl h) (k H locs ls hl hP hS)
theorem q_aload_n (o : OK G X cc Ts own n nL) {i : Fin 4} {x : Nat} (d : decode cc pc = .ok (.aload_n i, 1)) (h : lk lv (i : Nat) = some (.ref x)) (k : J l G X (pc + 1) lv (.ref x :: st) v) : J l G X pc lv st v := fun H locs ls hl hP hS => lv_aload_n o.1 o.2.1 d rfl (lk_at hl h) (k H locs ls hl hP hS)
abbrev lset (lv : List (Nat × Value)) (i : Nat) (x : Value) : List (Nat × Value) := (i, x) :: lv.filter (fun q => !(q.1 == i) && !(q.1 + 1 == i && q.2.category == 2))
theorem q_istore (o : OK G X cc Ts own n nL) {i : Nat} {x : Int32} {lv' : List (Nat × Value)} (d : decode cc pc = .ok (.istore i, 2)) (hn : i < nL) (h : lset lv i (.int x) = lv') (k : J l G X (pc + 2) lv' st v) : J l G X pc lv (.int x :: st) v := fun H locs ls hl hP hS => lv_istore o.1 o.2.1 d hl (by rw [o.2.2.2.2.2.2.2.2.2.1]; exact hn) h (fun ls' hl' => k H locs ls' hl' hP hS)
theorem q_istore_n (o : OK G X cc Ts own n nL) {i : Fin 4} {x : Int32} {lv' : List (Nat × Value)} (d : decode cc pc = .ok (.istore_n i, 1)) (hn : (i : Nat) < nL) (h : lset lv (i : Nat) (.int x) = lv') (k : J l G X (pc + 1) lv' st v) : J l G X pc lv (.int x :: st) v := fun H locs ls hl hP hS => lv_istore_n o.1 o.2.1 d rfl hl (by rw [o.2.2.2.2.2.2.2.2.2.1]; exact hn) h (fun ls' hl' => k H locs ls' hl' hP hS)
theorem q_astore (o : OK G X cc Ts own n nL) {i : Nat} {x : Nat} {lv' : List (Nat × Value)} (d : decode cc pc = .ok (.astore i, 2)) (hn : i < nL) (h : lset lv i (.ref x) = lv') (k : J l G X (pc + 2) lv' st v) : J l G X pc lv (.ref x :: st) v := fun H locs ls hl hP hS => lv_astore o.1 o.2.1 d hl (by rw [o.2.2.2.2.2.2.2.2.2.1]; exact hn) h (fun ls' hl' => k H locs ls' hl' hP hS)
theorem q_astore_n (o : OK G X cc Ts own n nL) {i : Fin 4} {x : Nat} {lv' : List (Nat × Value)} (d : decode cc pc = .ok (.astore_n i, 1)) (hn : (i : Nat) < nL) (h : lset lv (i : Nat) (.ref x) = lv') (k : J l G X (pc + 1) lv' st v) : J l G X pc lv (.ref x :: st) v := fun H locs ls hl hP hS => lv_astore_n o.1 o.2.1 d rfl hl (by rw [o.2.2.2.2.2.2.2.2.2.1]; exact hn) h (fun ls' hl' => k H locs ls' hl' hP hS)
theorem q_iinc (o : OK G X cc Ts own n nL) {i : Nat} {z : Int} {x y : Int32} {lv' : List (Nat × Value)} (d : decode cc pc = .ok (.iinc i z, 3)) (hk : lk lv i = some (.int x)) (hy : x + Int32.ofInt z = y) (hn : i < nL) (h : lset lv i (.int y) = lv') (k : J l G X (pc + 3) lv' st v) : J l G X pc lv st v := fun H locs ls hl hP hS => by
  obtain ⟨a, ha⟩ := lk_mem hk
  exact lv_iinc o.1 o.2.1 d hl ha hy (by rw [o.2.2.2.2.2.2.2.2.2.1]; exact hn) h (fun ls' hl' => k H locs ls' hl' hP hS)
theorem q_iadd (o : OK G X cc Ts own n nL) {x y : Int32} (d : decode cc pc = .ok (.iadd, 1)) (k : J l G X (pc + 1) lv (.int (x + y) :: st) v) : J l G X pc lv (.int y :: .int x :: st) v := fun H locs ls hl hP hS => lv_iadd o.1 o.2.1 d (k H locs ls hl hP hS)
theorem q_isub (o : OK G X cc Ts own n nL) {x y : Int32} (d : decode cc pc = .ok (.isub, 1)) (k : J l G X (pc + 1) lv (.int (x - y) :: st) v) : J l G X pc lv (.int y :: .int x :: st) v := fun H locs ls hl hP hS => lv_isub o.1 o.2.1 d (k H locs ls hl hP hS)
theorem q_imul (o : OK G X cc Ts own n nL) {x y : Int32} (d : decode cc pc = .ok (.imul, 1)) (k : J l G X (pc + 1) lv (.int (x * y) :: st) v) : J l G X pc lv (.int y :: .int x :: st) v := fun H locs ls hl hP hS => lv_imul o.1 o.2.1 d (k H locs ls hl hP hS)
theorem q_iand (o : OK G X cc Ts own n nL) {x y : Int32} (d : decode cc pc = .ok (.iand, 1)) (k : J l G X (pc + 1) lv (.int (x &&& y) :: st) v) : J l G X pc lv (.int y :: .int x :: st) v := fun H locs ls hl hP hS => lv_iand o.1 o.2.1 d (k H locs ls hl hP hS)
theorem q_ior (o : OK G X cc Ts own n nL) {x y : Int32} (d : decode cc pc = .ok (.ior, 1)) (k : J l G X (pc + 1) lv (.int (x ||| y) :: st) v) : J l G X pc lv (.int y :: .int x :: st) v := fun H locs ls hl hP hS => lv_ior o.1 o.2.1 d (k H locs ls hl hP hS)
theorem q_ixor (o : OK G X cc Ts own n nL) {x y : Int32} (d : decode cc pc = .ok (.ixor, 1)) (k : J l G X (pc + 1) lv (.int (x ^^^ y) :: st) v) : J l G X pc lv (.int y :: .int x :: st) v := fun H locs ls hl hP hS => lv_ixor o.1 o.2.1 d (k H locs ls hl hP hS)
theorem q_idiv (o : OK G X cc Ts own n nL) {x y : Int32} (d : decode cc pc = .ok (.idiv, 1)) (hne : ¬ y = 0) (k : J l G X (pc + 1) lv (.int (x / y) :: st) v) : J l G X pc lv (.int y :: .int x :: st) v := fun H locs ls hl hP hS => lv_idiv o.1 o.2.1 d hne (k H locs ls hl hP hS)
theorem q_irem (o : OK G X cc Ts own n nL) {x y : Int32} (d : decode cc pc = .ok (.irem, 1)) (hne : ¬ y = 0) (k : J l G X (pc + 1) lv (.int (x - x / y * y) :: st) v) : J l G X pc lv (.int y :: .int x :: st) v := fun H locs ls hl hP hS => lv_irem o.1 o.2.1 d hne (k H locs ls hl hP hS)
theorem q_ishl (o : OK G X cc Ts own n nL) {x y : Int32} (d : decode cc pc = .ok (.ishl, 1)) (k : J l G X (pc + 1) lv (.int (x <<< (y &&& 31)) :: st) v) : J l G X pc lv (.int y :: .int x :: st) v := fun H locs ls hl hP hS => lv_ishl o.1 o.2.1 d (k H locs ls hl hP hS)
def ushr (x y : Int32) : Int32 := (x.toUInt32 >>> (y.toUInt32 &&& Int32.toUInt32 31)).toInt32
theorem q_iushr (o : OK G X cc Ts own n nL) {x y : Int32} (d : decode cc pc = .ok (.iushr, 1)) (k : J l G X (pc + 1) lv (.int (ushr x y) :: st) v) : J l G X pc lv (.int y :: .int x :: st) v := fun H locs ls hl hP hS => lv_iushr o.1 o.2.1 d rfl (k H locs ls hl hP hS)
theorem q_dup (o : OK G X cc Ts own n nL) {a : Value} (d : decode cc pc = .ok (.dup, 1)) (ha : a.category = 1) (k : J l G X (pc + 1) lv (a :: a :: st) v) : J l G X pc lv (a :: st) v := fun H locs ls hl hP hS => lv_dup o.1 o.2.1 d ha (k H locs ls hl hP hS)
theorem q_dup2 (o : OK G X cc Ts own n nL) {a b : Value} (d : decode cc pc = .ok (.dup2, 1)) (ha : a.category = 1) (hb : b.category = 1) (k : J l G X (pc + 1) lv (a :: b :: a :: b :: st) v) : J l G X pc lv (a :: b :: st) v := fun H locs ls hl hP hS => lv_dup2_11 o.1 o.2.1 d ha hb (k H locs ls hl hP hS)
theorem q_goto (o : OK G X cc Ts own n nL) {off : Int} (tgt : Nat) (d : decode cc pc = .ok (.goto off, 3)) (ht : (pc : Int) + off = (tgt : Int)) (k : J l G X tgt lv st v) : J l G X pc lv st v := fun H locs ls hl hP hS => lv_goto o.1 o.2.1 d ht (k H locs ls hl hP hS)
theorem q_if_eq (o : OK G X cc Ts own n nL) {x : Int32} {off : Int} (tgt : Nat) (d : decode cc pc = .ok (.ifCond .eq off, 3)) (ht : (pc : Int) + off = (tgt : Int)) (kt : x = 0 → J l G X tgt lv st v) (kf : ¬ x = 0 → J l G X (pc + 3) lv st v) : J l G X pc lv (.int x :: st) v := fun H locs ls hl hP hS => lv_if_eq o.1 o.2.1 d ht (fun c => kt c H locs ls hl hP hS) (fun c => kf c H locs ls hl hP hS)
theorem q_if_ne (o : OK G X cc Ts own n nL) {x : Int32} {off : Int} (tgt : Nat) (d : decode cc pc = .ok (.ifCond .ne off, 3)) (ht : (pc : Int) + off = (tgt : Int)) (kt : ¬ x = 0 → J l G X tgt lv st v) (kf : x = 0 → J l G X (pc + 3) lv st v) : J l G X pc lv (.int x :: st) v := fun H locs ls hl hP hS => lv_if_ne o.1 o.2.1 d ht (fun c => kt c H locs ls hl hP hS) (fun c => kf c H locs ls hl hP hS)
theorem q_if_lt (o : OK G X cc Ts own n nL) {x : Int32} {off : Int} (tgt : Nat) (d : decode cc pc = .ok (.ifCond .lt off, 3)) (ht : (pc : Int) + off = (tgt : Int)) (kt : x < 0 → J l G X tgt lv st v) (kf : ¬ x < 0 → J l G X (pc + 3) lv st v) : J l G X pc lv (.int x :: st) v := fun H locs ls hl hP hS => lv_if_lt o.1 o.2.1 d ht (fun c => kt c H locs ls hl hP hS) (fun c => kf c H locs ls hl hP hS)
theorem q_if_ge (o : OK G X cc Ts own n nL) {x : Int32} {off : Int} (tgt : Nat) (d : decode cc pc = .ok (.ifCond .ge off, 3)) (ht : (pc : Int) + off = (tgt : Int)) (kt : 0 ≤ x → J l G X tgt lv st v) (kf : ¬ 0 ≤ x → J l G X (pc + 3) lv st v) : J l G X pc lv (.int x :: st) v := fun H locs ls hl hP hS => lv_if_ge o.1 o.2.1 d ht (fun c => kt c H locs ls hl hP hS) (fun c => kf c H locs ls hl hP hS)
theorem q_if_gt (o : OK G X cc Ts own n nL) {x : Int32} {off : Int} (tgt : Nat) (d : decode cc pc = .ok (.ifCond .gt off, 3)) (ht : (pc : Int) + off = (tgt : Int)) (kt : 0 < x → J l G X tgt lv st v) (kf : ¬ 0 < x → J l G X (pc + 3) lv st v) : J l G X pc lv (.int x :: st) v := fun H locs ls hl hP hS => lv_if_gt o.1 o.2.1 d ht (fun c => kt c H locs ls hl hP hS) (fun c => kf c H locs ls hl hP hS)
theorem q_if_le (o : OK G X cc Ts own n nL) {x : Int32} {off : Int} (tgt : Nat) (d : decode cc pc = .ok (.ifCond .le off, 3)) (ht : (pc : Int) + off = (tgt : Int)) (kt : x ≤ 0 → J l G X tgt lv st v) (kf : ¬ x ≤ 0 → J l G X (pc + 3) lv st v) : J l G X pc lv (.int x :: st) v := fun H locs ls hl hP hS => lv_if_le o.1 o.2.1 d ht (fun c => kt c H locs ls hl hP hS) (fun c => kf c H locs ls hl hP hS)
theorem q_ic_eq (o : OK G X cc Ts own n nL) {x y : Int32} {off : Int} (tgt : Nat) (d : decode cc pc = .ok (.if_icmp .eq off, 3)) (ht : (pc : Int) + off = (tgt : Int)) (kt : x = y → J l G X tgt lv st v) (kf : ¬ x = y → J l G X (pc + 3) lv st v) : J l G X pc lv (.int y :: .int x :: st) v := fun H locs ls hl hP hS => lv_icmp_eq o.1 o.2.1 d ht (fun c => kt c H locs ls hl hP hS) (fun c => kf c H locs ls hl hP hS)
theorem q_ic_ne (o : OK G X cc Ts own n nL) {x y : Int32} {off : Int} (tgt : Nat) (d : decode cc pc = .ok (.if_icmp .ne off, 3)) (ht : (pc : Int) + off = (tgt : Int)) (kt : ¬ x = y → J l G X tgt lv st v) (kf : x = y → J l G X (pc + 3) lv st v) : J l G X pc lv (.int y :: .int x :: st) v := fun H locs ls hl hP hS => lv_icmp_ne o.1 o.2.1 d ht (fun c => kt c H locs ls hl hP hS) (fun c => kf c H locs ls hl hP hS)
theorem q_ic_lt (o : OK G X cc Ts own n nL) {x y : Int32} {off : Int} (tgt : Nat) (d : decode cc pc = .ok (.if_icmp .lt off, 3)) (ht : (pc : Int) + off = (tgt : Int)) (kt : x < y → J l G X tgt lv st v) (kf : ¬ x < y → J l G X (pc + 3) lv st v) : J l G X pc lv (.int y :: .int x :: st) v := fun H locs ls hl hP hS => lv_icmp_lt o.1 o.2.1 d ht (fun c => kt c H locs ls hl hP hS) (fun c => kf c H locs ls hl hP hS)
theorem q_ic_ge (o : OK G X cc Ts own n nL) {x y : Int32} {off : Int} (tgt : Nat) (d : decode cc pc = .ok (.if_icmp .ge off, 3)) (ht : (pc : Int) + off = (tgt : Int)) (kt : y ≤ x → J l G X tgt lv st v) (kf : ¬ y ≤ x → J l G X (pc + 3) lv st v) : J l G X pc lv (.int y :: .int x :: st) v := fun H locs ls hl hP hS => lv_icmp_ge o.1 o.2.1 d ht (fun c => kt c H locs ls hl hP hS) (fun c => kf c H locs ls hl hP hS)
theorem q_ic_gt (o : OK G X cc Ts own n nL) {x y : Int32} {off : Int} (tgt : Nat) (d : decode cc pc = .ok (.if_icmp .gt off, 3)) (ht : (pc : Int) + off = (tgt : Int)) (kt : y < x → J l G X tgt lv st v) (kf : ¬ y < x → J l G X (pc + 3) lv st v) : J l G X pc lv (.int y :: .int x :: st) v := fun H locs ls hl hP hS => lv_icmp_gt o.1 o.2.1 d ht (fun c => kt c H locs ls hl hP hS) (fun c => kf c H locs ls hl hP hS)
theorem q_ic_le (o : OK G X cc Ts own n nL) {x y : Int32} {off : Int} (tgt : Nat) (d : decode cc pc = .ok (.if_icmp .le off, 3)) (ht : (pc : Int) + off = (tgt : Int)) (kt : x ≤ y → J l G X tgt lv st v) (kf : ¬ x ≤ y → J l G X (pc + 3) lv st v) : J l G X pc lv (.int y :: .int x :: st) v := fun H locs ls hl hP hS => lv_icmp_le o.1 o.2.1 d ht (fun c => kt c H locs ls hl hP hS) (fun c => kf c H locs ls hl hP hS)
end ROWS
end
